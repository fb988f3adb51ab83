/-! ===== the world at the start ===== -/
def adS (qa q1 q2 q3 q4 q5 q6 h0 h1 h2 qb m0 m1 m2 m3 m4 m5 m6 m7 m8 m9 m10 m11 m12 m13 qc : Nat) (r a1 b1 a2 b2 a3 a4 : Nat → Nat) : Nat → Nat → Nat := fun k i => match k with
  | 0 => qa
  | 1 => q1
  | 2 => q2
  | 3 => q3
  | 4 => q4
  | 5 => q5
  | 6 => q6
  | 7 => h0
  | 8 => h1
  | 9 => h2
  | 10 => r i
  | 11 => a1 i
  | 12 => b1 i
  | 13 => a2 i
  | 14 => b2 i
  | 15 => a3 i
  | 16 => a4 i
  | 17 => qb
  | 18 => m0
  | 19 => m1
  | 20 => m2
  | 21 => m3
  | 22 => m4
  | 23 => m5
  | 24 => m6
  | 25 => m7
  | 26 => m8
  | 27 => m9
  | 28 => m10
  | 29 => m11
  | 30 => m12
  | 31 => m13
  | _ => qc
def wS (cy : Nat → ClassId) (g : Nat → Int32) (qa q1 q2 q3 q4 q5 q6 h0 h1 h2 qb m0 m1 m2 m3 m4 m5 m6 m7 m8 m9 m10 m11 m12 m13 qc : Nat) (r a1 b1 a2 b2 a3 a4 : Nat → Nat) : va_W :=
   [(qa, (.inr (5, [.ref q1, .ref q2, .ref q3, .ref q4, .ref q5, .ref q6, .int 0, .int 0, .int 0, .int 0]) : va_E)),
    (q1, qref 8 (cy 3) (qf a1 8)),
    (q2, qref 8 (cy 4) (qf a2 8)),
    (q3, qref 5 (cy 5) (qf a3 5)),
    (q4, qref 20 (cy 6) (qf a4 20)),
    (q5, .inl (cy 0, 4, .inl (fun _ => 0))),
    (q6, .inr (0, [.ref h0, .ref h1, .ref h2, .int 0, .int 0])),
    (h0, .inl (cy 0, 16, .inl (fun _ => 0))),
    (h1, qref 16 (cy 7) (fun i => if i < 16 then some (r i) else none)),
    (h2, .inl (cy 0, 16, .inl (fun _ => 0))),
    (r 0, .inl (cy 0, 14, .inl (fun _ => 0))),
    (r 1, .inl (cy 0, 14, .inl (fun _ => 0))),
    (r 2, .inl (cy 0, 14, .inl (fun _ => 0))),
    (r 3, .inl (cy 0, 14, .inl (fun _ => 0))),
    (r 4, .inl (cy 0, 14, .inl (fun _ => 0))),
    (r 5, .inl (cy 0, 14, .inl (fun _ => 0))),
    (r 6, .inl (cy 0, 14, .inl (fun _ => 0))),
    (r 7, .inl (cy 0, 14, .inl (fun _ => 0))),
    (r 8, .inl (cy 0, 14, .inl (fun _ => 0))),
    (r 9, .inl (cy 0, 14, .inl (fun _ => 0))),
    (r 10, .inl (cy 0, 14, .inl (fun _ => 0))),
    (r 11, .inl (cy 0, 14, .inl (fun _ => 0))),
    (r 12, .inl (cy 0, 14, .inl (fun _ => 0))),
    (r 13, .inl (cy 0, 14, .inl (fun _ => 0))),
    (r 14, .inl (cy 0, 14, .inl (fun _ => 0))),
    (r 15, .inl (cy 0, 14, .inl (fun _ => 0))),
    (a1 0, .inr (3, [.ref (b1 0), .int 0])),
    (a1 1, .inr (3, [.ref (b1 1), .int 0])),
    (a1 2, .inr (3, [.ref (b1 2), .int 0])),
    (a1 3, .inr (3, [.ref (b1 3), .int 0])),
    (a1 4, .inr (3, [.ref (b1 4), .int 0])),
    (a1 5, .inr (3, [.ref (b1 5), .int 0])),
    (a1 6, .inr (3, [.ref (b1 6), .int 0])),
    (a1 7, .inr (3, [.ref (b1 7), .int 0])),
    (b1 0, .inl (cy 0, 16, .inl (fun _ => 0))),
    (b1 1, .inl (cy 0, 16, .inl (fun _ => 0))),
    (b1 2, .inl (cy 0, 16, .inl (fun _ => 0))),
    (b1 3, .inl (cy 0, 16, .inl (fun _ => 0))),
    (b1 4, .inl (cy 0, 16, .inl (fun _ => 0))),
    (b1 5, .inl (cy 0, 16, .inl (fun _ => 0))),
    (b1 6, .inl (cy 0, 16, .inl (fun _ => 0))),
    (b1 7, .inl (cy 0, 16, .inl (fun _ => 0))),
    (a2 0, .inr (1, [.ref (b2 0), .int 0, .int 4])),
    (a2 1, .inr (1, [.ref (b2 1), .int 0, .int 4])),
    (a2 2, .inr (1, [.ref (b2 2), .int 0, .int 4])),
    (a2 3, .inr (1, [.ref (b2 3), .int 0, .int 4])),
    (a2 4, .inr (1, [.ref (b2 4), .int 0, .int 4])),
    (a2 5, .inr (1, [.ref (b2 5), .int 0, .int 4])),
    (a2 6, .inr (1, [.ref (b2 6), .int 0, .int 4])),
    (a2 7, .inr (1, [.ref (b2 7), .int 0, .int 4])),
    (b2 0, .inl (cy 0, 4, .inl (fun _ => 0))),
    (b2 1, .inl (cy 0, 4, .inl (fun _ => 0))),
    (b2 2, .inl (cy 0, 4, .inl (fun _ => 0))),
    (b2 3, .inl (cy 0, 4, .inl (fun _ => 0))),
    (b2 4, .inl (cy 0, 4, .inl (fun _ => 0))),
    (b2 5, .inl (cy 0, 4, .inl (fun _ => 0))),
    (b2 6, .inl (cy 0, 4, .inl (fun _ => 0))),
    (b2 7, .inl (cy 0, 4, .inl (fun _ => 0))),
    (a3 0, .inr (4, [.int 2, .int 0])),
    (a3 1, .inr (4, [.int 2, .int 0])),
    (a3 2, .inr (4, [.int 2, .int 0])),
    (a3 3, .inr (4, [.int 2, .int 0])),
    (a3 4, .inr (4, [.int 2, .int 0])),
    (a4 0, .inr (2, [.int 0, .int 4, .int 0, .int 0])),
    (a4 1, .inr (2, [.int 0, .int 4, .int 0, .int 0])),
    (a4 2, .inr (2, [.int 0, .int 4, .int 0, .int 0])),
    (a4 3, .inr (2, [.int 0, .int 4, .int 0, .int 0])),
    (a4 4, .inr (2, [.int 0, .int 4, .int 0, .int 0])),
    (a4 5, .inr (2, [.int 0, .int 4, .int 0, .int 0])),
    (a4 6, .inr (2, [.int 0, .int 4, .int 0, .int 0])),
    (a4 7, .inr (2, [.int 0, .int 4, .int 0, .int 0])),
    (a4 8, .inr (2, [.int 0, .int 4, .int 0, .int 0])),
    (a4 9, .inr (2, [.int 0, .int 4, .int 0, .int 0])),
    (a4 10, .inr (2, [.int 0, .int 4, .int 0, .int 0])),
    (a4 11, .inr (2, [.int 0, .int 4, .int 0, .int 0])),
    (a4 12, .inr (2, [.int 0, .int 4, .int 0, .int 0])),
    (a4 13, .inr (2, [.int 0, .int 4, .int 0, .int 0])),
    (a4 14, .inr (2, [.int 0, .int 4, .int 0, .int 0])),
    (a4 15, .inr (2, [.int 0, .int 4, .int 0, .int 0])),
    (a4 16, .inr (2, [.int 0, .int 4, .int 0, .int 0])),
    (a4 17, .inr (2, [.int 0, .int 4, .int 0, .int 0])),
    (a4 18, .inr (2, [.int 0, .int 4, .int 0, .int 0])),
    (a4 19, .inr (2, [.int 0, .int 4, .int 0, .int 0])),
    (qb, .inr (6, [.int 0, .int 0, .ref m0, .ref m1, .int 0, .ref m2, .ref m3, .ref m4, .ref m5, .ref m6, .ref m7, .int 0, .ref m8, .ref m9, .ref m10, .ref m11, .ref m12, .ref m13, .int 0])),
    (m0, .inl (cy 0, 8, .inl (fun _ => 0))),
    (m1, .inl (cy 0, 128, .inl (fun _ => 0))),
    (m2, .inl (cy 0, 8, .inl (fun _ => 0))),
    (m3, .inl (cy 0, 8, .inl (fun _ => 0))),
    (m4, .inl (cy 0, 32, .inl (fun _ => 0))),
    (m5, .inl (cy 0, 5, .inl g)),
    (m6, .inl (cy 0, 5, .inl (fun _ => 0))),
    (m7, .inl (cy 0, 4, .inl (fun _ => 0))),
    (m8, .inl (cy 0, 20, .inl (fun _ => 0))),
    (m9, .inl (cy 0, 20, .inl (fun _ => 0))),
    (m10, .inl (cy 0, 20, .inl (fun _ => 0))),
    (m11, .inl (cy 1, 20, .inl (fun _ => 0))),
    (m12, .inl (cy 0, 238, .inl (fun _ => 0))),
    (m13, .inl (cy 0, 16, .inl (fun _ => 0))),
    (qc, .inl (cy 2, 1, .inr (.inl (fun _ => 0))))]
set_option maxRecDepth 100000 in
set_option maxHeartbeats 4000000 in
theorem wS_ad {cy : Nat → ClassId} {g : Nat → Int32} {qa q1 q2 q3 q4 q5 q6 h0 h1 h2 qb m0 m1 m2 m3 m4 m5 m6 m7 m8 m9 m10 m11 m12 m13 qc : Nat} {r a1 b1 a2 b2 a3 a4 : Nat → Nat} : (wS cy g qa q1 q2 q3 q4 q5 q6 h0 h1 h2 qb m0 m1 m2 m3 m4 m5 m6 m7 m8 m9 m10 m11 m12 m13 qc r a1 b1 a2 b2 a3 a4).map (·.1) = IX.map (fun q => adS qa q1 q2 q3 q4 q5 q6 h0 h1 h2 qb m0 m1 m2 m3 m4 m5 m6 m7 m8 m9 m10 m11 m12 m13 qc r a1 b1 a2 b2 a3 a4 q.1 q.2) := rfl
set_option maxRecDepth 100000 in
set_option maxHeartbeats 4000000 in
theorem wS_same {D : va_G} {cy : Nat → ClassId} {g : Nat → Int32} {qa q1 q2 q3 q4 q5 q6 h0 h1 h2 qb m0 m1 m2 m3 m4 m5 m6 m7 m8 m9 m10 m11 m12 m13 qc : Nat} {r a1 b1 a2 b2 a3 a4 : Nat → Nat} : Same D (wS cy g qa q1 q2 q3 q4 q5 q6 h0 h1 h2 qb m0 m1 m2 m3 m4 m5 m6 m7 m8 m9 m10 m11 m12 m13 qc r a1 b1 a2 b2 a3 a4) (WL (adS qa q1 q2 q3 q4 q5 q6 h0 h1 h2 qb m0 m1 m2 m3 m4 m5 m6 m7 m8 m9 m10 m11 m12 m13 qc r a1 b1 a2 b2 a3 a4) cy (sS g)) := by
  refine ⟨fun H h => h, ⟨fun H h => at_qref (fun j hj => if_pos hj) h, ⟨fun H h => at_qref (fun j hj => if_pos hj) h, ⟨fun H h => at_qref (fun j hj => if_pos hj) h, ⟨fun H h => at_qref (fun j hj => if_pos hj) h, ⟨fun H h => h, ⟨fun H h => h, ⟨fun H h => h, ⟨fun H h => at_qref (fun j hj => if_pos hj) h, ⟨fun H h => h, ⟨fun H h => h, ⟨fun H h => h, ⟨fun H h => h, ⟨fun H h => h, ⟨fun H h => h, ⟨fun H h => h, ⟨fun H h => h, ⟨fun H h => h, ⟨fun H h => h, ⟨fun H h => h, ⟨fun H h => h, ⟨fun H h => h, ⟨fun H h => h, ⟨fun H h => h, ⟨fun H h => h, ⟨fun H h => h, ⟨fun H h => h, ⟨fun H h => h, ⟨fun H h => h, ⟨fun H h => h, ⟨fun H h => h, ⟨fun H h => h, ⟨fun H h => h, ⟨fun H h => h, ⟨fun H h => h, ⟨fun H h => h, ⟨fun H h => h, ⟨fun H h => h, ⟨fun H h => h, ⟨fun H h => h, ⟨fun H h => h, ⟨fun H h => h, ⟨fun H h => h, ⟨fun H h => h, ⟨fun H h => h, ⟨fun H h => h, ⟨fun H h => h, ⟨fun H h => h, ⟨fun H h => h, ⟨fun H h => h, ⟨fun H h => h, ⟨fun H h => h, ⟨fun H h => h, ⟨fun H h => h, ⟨fun H h => h, ⟨fun H h => h, ⟨fun H h => h, ⟨fun H h => h, ⟨fun H h => h, ⟨fun H h => h, ⟨fun H h => h, ⟨fun H h => h, ⟨fun H h => h, ⟨fun H h => h, ⟨fun H h => h, ⟨fun H h => h, ⟨fun H h => h, ⟨fun H h => h, ⟨fun H h => h, ⟨fun H h => h, ⟨fun H h => h, ⟨fun H h => h, ⟨fun H h => h, ⟨fun H h => h, ⟨fun H h => h, ⟨fun H h => h, ⟨fun H h => h, ⟨fun H h => h, ⟨fun H h => h, ⟨fun H h => h, ⟨fun H h => h, ⟨fun H h => h, ⟨fun H h => h, ⟨fun H h => h, ⟨fun H h => h, ⟨fun H h => h, ⟨fun H h => h, ⟨fun H h => h, ⟨fun H h => h, ⟨fun H h => h, ⟨fun H h => h, ⟨fun H h => h, ⟨fun H h => h, ⟨fun H h => h, ⟨fun H h => h, ⟨fun H h => h, ⟨fun H h => h, ⟨fun H h => h, ⟨fun H h => h, trivial⟩⟩⟩⟩⟩⟩⟩⟩⟩⟩⟩⟩⟩⟩⟩⟩⟩⟩⟩⟩⟩⟩⟩⟩⟩⟩⟩⟩⟩⟩⟩⟩⟩⟩⟩⟩⟩⟩⟩⟩⟩⟩⟩⟩⟩⟩⟩⟩⟩⟩⟩⟩⟩⟩⟩⟩⟩⟩⟩⟩⟩⟩⟩⟩⟩⟩⟩⟩⟩⟩⟩⟩⟩⟩⟩⟩⟩⟩⟩⟩⟩⟩⟩⟩⟩⟩⟩⟩⟩⟩⟩⟩⟩⟩⟩⟩⟩⟩⟩
theorem sub_both {A : Nat → Prop} {D : va_G} {cl : List vw_C} {ws ws' : va_W} {H : Heap} (hP : va_P D cl ws H) (hD : va_D A ws) (is : List Nat) (hn : va_nd is = true) (hs : is.map (fun i => ws[i]?) = ws'.map some) : va_P D cl ws' H ∧ va_D A ws' :=
  ⟨hP.sub is (by
    have h := congrArg (List.filterMap id) hs
    simpa [List.filterMap_map] using h), hD.sub is hn hs⟩
def wC (cy : Nat → ClassId) (g : Nat → Int32) (qa q1 q2 q3 q4 q5 q6 h0 h1 h2 qb m0 m1 m2 m3 m4 m5 m6 m7 m8 m9 m10 m11 m12 m13 qc : Nat) (r a1 b1 a2 b2 a3 a4 : Nat → Nat) : va_W :=
   [(qa, (.inr (5, [.ref q1, .ref q2, .ref q3, .ref q4, .ref q5, .ref q6, .int 0, .int 0, .int 0, .int 0]) : va_E)),
    (q5, .inl (cy 0, 4, .inl (fun _ => 0))),
    (q4, qref 20 (cy 6) (qf a4 20)),
    (q3, qref 5 (cy 5) (qf a3 5)),
    (q2, qref 8 (cy 4) (qf a2 8)),
    (q1, qref 8 (cy 3) (qf a1 8)),
    (a1 0, .inr (3, [.ref (b1 0), .int 0])),
    (b1 0, .inl (cy 0, 16, .inl (fun _ => 0))),
    (a1 1, .inr (3, [.ref (b1 1), .int 0])),
    (b1 1, .inl (cy 0, 16, .inl (fun _ => 0))),
    (a1 2, .inr (3, [.ref (b1 2), .int 0])),
    (b1 2, .inl (cy 0, 16, .inl (fun _ => 0))),
    (a1 3, .inr (3, [.ref (b1 3), .int 0])),
    (b1 3, .inl (cy 0, 16, .inl (fun _ => 0))),
    (a1 4, .inr (3, [.ref (b1 4), .int 0])),
    (b1 4, .inl (cy 0, 16, .inl (fun _ => 0))),
    (a1 5, .inr (3, [.ref (b1 5), .int 0])),
    (b1 5, .inl (cy 0, 16, .inl (fun _ => 0))),
    (a1 6, .inr (3, [.ref (b1 6), .int 0])),
    (b1 6, .inl (cy 0, 16, .inl (fun _ => 0))),
    (a1 7, .inr (3, [.ref (b1 7), .int 0])),
    (b1 7, .inl (cy 0, 16, .inl (fun _ => 0))),
    (a2 0, .inr (1, [.ref (b2 0), .int 0, .int 4])),
    (b2 0, .inl (cy 0, 4, .inl (fun _ => 0))),
    (a2 1, .inr (1, [.ref (b2 1), .int 0, .int 4])),
    (b2 1, .inl (cy 0, 4, .inl (fun _ => 0))),
    (a2 2, .inr (1, [.ref (b2 2), .int 0, .int 4])),
    (b2 2, .inl (cy 0, 4, .inl (fun _ => 0))),
    (a2 3, .inr (1, [.ref (b2 3), .int 0, .int 4])),
    (b2 3, .inl (cy 0, 4, .inl (fun _ => 0))),
    (a2 4, .inr (1, [.ref (b2 4), .int 0, .int 4])),
    (b2 4, .inl (cy 0, 4, .inl (fun _ => 0))),
    (a2 5, .inr (1, [.ref (b2 5), .int 0, .int 4])),
    (b2 5, .inl (cy 0, 4, .inl (fun _ => 0))),
    (a2 6, .inr (1, [.ref (b2 6), .int 0, .int 4])),
    (b2 6, .inl (cy 0, 4, .inl (fun _ => 0))),
    (a2 7, .inr (1, [.ref (b2 7), .int 0, .int 4])),
    (b2 7, .inl (cy 0, 4, .inl (fun _ => 0))),
    (a3 0, .inr (4, [.int 2, .int 0])),
    (a3 1, .inr (4, [.int 2, .int 0])),
    (a3 2, .inr (4, [.int 2, .int 0])),
    (a3 3, .inr (4, [.int 2, .int 0])),
    (a3 4, .inr (4, [.int 2, .int 0])),
    (a4 0, .inr (2, [.int 0, .int 4, .int 0, .int 0])),
    (a4 1, .inr (2, [.int 0, .int 4, .int 0, .int 0])),
    (a4 2, .inr (2, [.int 0, .int 4, .int 0, .int 0])),
    (a4 3, .inr (2, [.int 0, .int 4, .int 0, .int 0])),
    (a4 4, .inr (2, [.int 0, .int 4, .int 0, .int 0])),
    (a4 5, .inr (2, [.int 0, .int 4, .int 0, .int 0])),
    (a4 6, .inr (2, [.int 0, .int 4, .int 0, .int 0])),
    (a4 7, .inr (2, [.int 0, .int 4, .int 0, .int 0])),
    (a4 8, .inr (2, [.int 0, .int 4, .int 0, .int 0])),
    (a4 9, .inr (2, [.int 0, .int 4, .int 0, .int 0])),
    (a4 10, .inr (2, [.int 0, .int 4, .int 0, .int 0])),
    (a4 11, .inr (2, [.int 0, .int 4, .int 0, .int 0])),
    (a4 12, .inr (2, [.int 0, .int 4, .int 0, .int 0])),
    (a4 13, .inr (2, [.int 0, .int 4, .int 0, .int 0])),
    (a4 14, .inr (2, [.int 0, .int 4, .int 0, .int 0])),
    (a4 15, .inr (2, [.int 0, .int 4, .int 0, .int 0])),
    (a4 16, .inr (2, [.int 0, .int 4, .int 0, .int 0])),
    (a4 17, .inr (2, [.int 0, .int 4, .int 0, .int 0])),
    (a4 18, .inr (2, [.int 0, .int 4, .int 0, .int 0])),
    (a4 19, .inr (2, [.int 0, .int 4, .int 0, .int 0])),
    (q6, .inr (0, [.ref h0, .ref h1, .ref h2, .int 0, .int 0])),
    (h0, .inl (cy 0, 16, .inl (fun _ => 0))),
    (h1, qref 16 (cy 7) (fun i => if i < 16 then some (r i) else none)),
    (r 0, .inl (cy 0, 14, .inl (fun _ => 0))),
    (r 1, .inl (cy 0, 14, .inl (fun _ => 0))),
    (r 2, .inl (cy 0, 14, .inl (fun _ => 0))),
    (r 3, .inl (cy 0, 14, .inl (fun _ => 0))),
    (r 4, .inl (cy 0, 14, .inl (fun _ => 0))),
    (r 5, .inl (cy 0, 14, .inl (fun _ => 0))),
    (r 6, .inl (cy 0, 14, .inl (fun _ => 0))),
    (r 7, .inl (cy 0, 14, .inl (fun _ => 0))),
    (r 8, .inl (cy 0, 14, .inl (fun _ => 0))),
    (r 9, .inl (cy 0, 14, .inl (fun _ => 0))),
    (r 10, .inl (cy 0, 14, .inl (fun _ => 0))),
    (r 11, .inl (cy 0, 14, .inl (fun _ => 0))),
    (r 12, .inl (cy 0, 14, .inl (fun _ => 0))),
    (r 13, .inl (cy 0, 14, .inl (fun _ => 0))),
    (r 14, .inl (cy 0, 14, .inl (fun _ => 0))),
    (r 15, .inl (cy 0, 14, .inl (fun _ => 0))),
    (h2, .inl (cy 0, 16, .inl (fun _ => 0))),
    (qb, .inr (6, [.int 0, .int 0, .ref m0, .ref m1, .int 0, .ref m2, .ref m3, .ref m4, .ref m5, .ref m6, .ref m7, .int 0, .ref m8, .ref m9, .ref m10, .ref m11, .ref m12, .ref m13, .int 0])),
    (m0, .inl (cy 0, 8, .inl (fun _ => 0))),
    (m1, .inl (cy 0, 128, .inl (fun _ => 0))),
    (m2, .inl (cy 0, 8, .inl (fun _ => 0))),
    (m3, .inl (cy 0, 8, .inl (fun _ => 0))),
    (m4, .inl (cy 0, 32, .inl (fun _ => 0))),
    (m5, .inl (cy 0, 5, .inl g)),
    (m6, .inl (cy 0, 5, .inl (fun _ => 0))),
    (m7, .inl (cy 0, 4, .inl (fun _ => 0))),
    (m8, .inl (cy 0, 20, .inl (fun _ => 0))),
    (m9, .inl (cy 0, 20, .inl (fun _ => 0))),
    (m10, .inl (cy 0, 20, .inl (fun _ => 0))),
    (m11, .inl (cy 1, 20, .inl (fun _ => 0))),
    (m12, .inl (cy 0, 238, .inl (fun _ => 0))),
    (m13, .inl (cy 0, 16, .inl (fun _ => 0))),
    (qc, .inl (cy 2, 1, .inr (.inl (fun _ => 0))))]
set_option maxRecDepth 100000 in
set_option maxHeartbeats 4000000 in
theorem wC_pick {cy : Nat → ClassId} {g : Nat → Int32} {qa q1 q2 q3 q4 q5 q6 h0 h1 h2 qb m0 m1 m2 m3 m4 m5 m6 m7 m8 m9 m10 m11 m12 m13 qc : Nat} {r a1 b1 a2 b2 a3 a4 : Nat → Nat} : ([0, 5, 4, 3, 2, 1, 63, 64, 65, 82, 66, 67, 68, 69, 70, 71, 72, 73, 74, 75, 76, 77, 78, 79, 80, 81, 6, 8, 10, 12, 14, 16, 18, 20, 7, 9, 11, 13, 15, 17, 19, 21, 22, 24, 26, 28, 30, 32, 34, 36, 23, 25, 27, 29, 31, 33, 35, 37, 38, 39, 40, 41, 42, 43, 44, 45, 46, 47, 48, 49, 50, 51, 52, 53, 54, 55, 56, 57, 58, 59, 60, 61, 62, 83, 84, 85, 86, 87, 88, 89, 90, 91, 92, 93, 94, 95, 96, 97, 98] : List Nat).map (fun i => (wC cy g qa q1 q2 q3 q4 q5 q6 h0 h1 h2 qb m0 m1 m2 m3 m4 m5 m6 m7 m8 m9 m10 m11 m12 m13 qc r a1 b1 a2 b2 a3 a4)[i]?) = (wS cy g qa q1 q2 q3 q4 q5 q6 h0 h1 h2 qb m0 m1 m2 m3 m4 m5 m6 m7 m8 m9 m10 m11 m12 m13 qc r a1 b1 a2 b2 a3 a4).map some := rfl
