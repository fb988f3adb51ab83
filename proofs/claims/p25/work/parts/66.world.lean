/-! ===== the first state; from what the constructors made to the world ===== -/
def sS : St := fun k _ j => if k = 13 ∧ j = 2 then 4 else if k = 15 ∧ j = 0 then 2 else if k = 16 ∧ j = 1 then 4 else 0
theorem sS_0 {k i j : Nat} (h1 : ¬ (k = 13 ∧ j = 2)) (h2 : ¬ (k = 15 ∧ j = 0)) (h3 : ¬ (k = 16 ∧ j = 1)) : sS k i j = 0 := by
  unfold sS
  rw [if_neg h1, if_neg h2, if_neg h3]
theorem nI_nlt0 {i : Nat} (h : i < 2 ^ 31) : ¬ nI i < 0 := fun q => by
  have := (nI_ltI (a := i) (b := 0) h (by decide)).mp q
  omega
theorem LInv_start : LInv 0 sS := by
  have z : ∀ {k i j : Nat}, ¬ (k = 13 ∧ j = 2) → ¬ (k = 15 ∧ j = 0) → ¬ (k = 16 ∧ j = 1) → sS k i j = 0 := fun h1 h2 h3 => sS_0 h1 h2 h3
  have n6 : ∀ i, i < 2 ^ 31 → ¬ nI i < sS 0 0 6 := fun i hi => by rw [z (by omega) (by omega) (by omega)]; exact nI_nlt0 hi
  have n7 : ∀ i, i < 2 ^ 31 → ¬ nI i < sS 0 0 7 := fun i hi => by rw [z (by omega) (by omega) (by omega)]; exact nI_nlt0 hi
  have n8 : ∀ i, i < 2 ^ 31 → ¬ nI i < sS 0 0 8 := fun i hi => by rw [z (by omega) (by omega) (by omega)]; exact nI_nlt0 hi
  refine ⟨⟨⟨0, by omega, z (by omega) (by omega) (by omega)⟩, ⟨0, by omega, z (by omega) (by omega) (by omega)⟩, ⟨0, by omega, z (by omega) (by omega) (by omega)⟩, fun i hi => ?_, fun i hi hl => absurd hl (n7 i (by omega)), fun i hi hl => absurd hl (n8 i (by omega)), fun i hi => Or.inl (z (by omega) (by omega) (by omega))⟩, ⟨?_, ?_, ?_, ?_⟩, ⟨0, by omega, z (by omega) (by omega) (by omega)⟩, fun i hi => ?_, fun i hi hl => z (by omega) (by omega) (by omega), fun i j hi hj => ?_, fun i hi hl => absurd hl (n7 i (by omega)), fun i hi hl => absurd hl (n8 i (by omega)), fun j hj => ?_, fun i hi => ⟨2, by omega, by omega, rfl⟩, fun i hi hl => z (by omega) (by omega) (by omega)⟩
  · unfold cN
    rw [z (by omega) (by omega) (by omega)]
    decide
  · rw [z (by omega) (by omega) (by omega), z (by omega) (by omega) (by omega)]
  · rw [z (by omega) (by omega) (by omega), z (by omega) (by omega) (by omega)]
  · rw [z (by omega) (by omega) (by omega), z (by omega) (by omega) (by omega)]
  · rw [z (by omega) (by omega) (by omega), z (by omega) (by omega) (by omega)]
  · rw [z (by omega) (by omega) (by omega), z (by omega) (by omega) (by omega)]
  · rw [z (by omega) (by omega) (by omega), z (by omega) (by omega) (by omega)]
  · rw [z (by omega) (by omega) (by omega), z (by omega) (by omega) (by omega)]
theorem at_qref {D : va_G} {cl : List vw_C} {q n : Nat} {cA : ClassId} {f f' : Nat → Option Nat} {H : Heap} (h : ∀ j, j < n → f j = f' j) (ha : va_at D cl (q, qref n cA f) H) : va_at D cl (q, qref n cA f') H := by
  have e : vp_cell cA (n, .inr (.inr (.inr (.inr f)))) = vp_cell cA (n, .inr (.inr (.inr (.inr f')))) := by
    rw [vp_cell_q, vp_cell_q]
    unfold arrV
    congr 2
    funext j
    show va_rf (f j.val) = va_rf (f' j.val)
    rw [h j.val j.isLt]
  show H[q]? = some (vp_cell cA (n, .inr (.inr (.inr (.inr f')))))
  rw [← e]
  exact ha
/-- one list's things are another's, place by place -/
def Same (D : va_G) : va_W → va_W → Prop
  | [], [] => True
  | x :: xs, y :: ys => (∀ H : Heap, va_at D vwCl x H → va_at D vwCl y H) ∧ Same D xs ys
  | _, _ => False
theorem Same.P {D : va_G} {H : Heap} : ∀ {xs ys : va_W}, Same D xs ys → va_P D vwCl xs H → va_P D vwCl ys H
  | [], [], _, _ => fun k q hk => by cases k <;> cases hk
  | x :: xs, y :: ys, h, hP => fun k q hk => by
    cases k with
    | zero =>
      cases hk
      exact h.1 H (hP 0 x rfl)
    | succ k => exact Same.P h.2 (fun k' q' hk' => hP (k' + 1) q' hk') k q hk
  | [], _ :: _, h, _ => h.elim
  | _ :: _, [], h, _ => h.elim
theorem IX0 {ad : Nat → Nat → Nat} (h0 : ad 99 0 = 0) : IX ad = IXb := by
  unfold IX
  rw [h0]
  exact List.append_nil IXb
/-- the places of the world, out of a list of the same addresses -/
theorem Apart_of {ad : Nat → Nat → Nat} {A : Nat → Prop} {ws : va_W} (h0 : ad 99 0 = 0) (hD : va_D A ws) (hm : ws.map (·.1) = IXb.map (fun q => ad q.1 q.2)) : Apart ad A := by
  have at' : ∀ x ∈ IXb, ∃ (n : Nat) (y : Nat × va_E), IXb[n]? = some x ∧ ws[n]? = some y ∧ y.1 = ad x.1 x.2 := by
    intro x hx
    obtain ⟨n, hn⟩ := List.getElem?_of_mem hx
    have h1 : (IXb.map (fun q => ad q.1 q.2))[n]? = some (ad x.1 x.2) := by rw [List.getElem?_map, hn]; rfl
    rw [← hm, List.getElem?_map] at h1
    cases hq : ws[n]? with
    | none => rw [hq] at h1; cases h1
    | some y => rw [hq] at h1; exact ⟨n, y, hn, hq, Option.some.inj h1⟩
  unfold Apart
  rw [IX0 h0]
  refine ⟨fun x hx y hy e => ?_, fun x hx => ?_⟩
  · obtain ⟨n, u, h1, h2, h3⟩ := at' x hx
    obtain ⟨n', u', h1', h2', h3'⟩ := at' y hy
    have en : n = n' := hD.1 n n' u u' h2 h2' (h3.trans (e.trans h3'.symm))
    subst en
    exact Option.some.inj (h1.symm.trans h1')
  · obtain ⟨n, u, h1, h2, h3⟩ := at' x hx
    rw [← h3]
    exact hD.2 n u h2
def adS (qa q1 q2 q3 q4 q5 q6 h0 h1 h2 m0 m1 m2 m3 m4 m5 : Nat) (r a1 b1 a2 b2 a3 a4 : Nat → Nat) : Nat → Nat → Nat := fun k i => match k with
  | 0 => qa
  | 1 => q1
  | 2 => q2
  | 3 => q3
  | 4 => q4
  | 5 => q5
  | 6 => q6
  | 7 => h0
  | 8 => h1
  | 9 => h2
  | 10 => r i
  | 11 => a1 i
  | 12 => b1 i
  | 13 => a2 i
  | 14 => b2 i
  | 15 => a3 i
  | 16 => a4 i
  | 17 => m0
  | 18 => m1
  | 19 => m2
  | 20 => m3
  | 21 => m4
  | 22 => m5
  | _ => 0
def wS (cy : Nat → ClassId) (qa q1 q2 q3 q4 q5 q6 h0 h1 h2 m0 m1 m2 m3 m4 m5 : Nat) (r a1 b1 a2 b2 a3 a4 : Nat → Nat) : va_W :=
   [(qa, (.inr (5, [.ref q1, .ref q2, .ref q3, .ref q4, .ref q5, .ref q6, .int 0, .int 0, .int 0, .int 0]) : va_E)),
    (q1, qref 8 (cy 3) (qf a1 8)),
    (q2, qref 8 (cy 4) (qf a2 8)),
    (q3, qref 5 (cy 5) (qf a3 5)),
    (q4, qref 20 (cy 6) (qf a4 20)),
    (q5, .inl (cy 0, 4, .inl (fun _ => 0))),
    (q6, .inr (0, [.ref h0, .ref h1, .ref h2, .int 0, .int 0])),
    (h0, .inl (cy 0, 16, .inl (fun _ => 0))),
    (h1, qref 16 (cy 7) (fun i => if i < 16 then some (r i) else none)),
    (h2, .inl (cy 0, 16, .inl (fun _ => 0))),
    (r 0, .inl (cy 0, 14, .inl (fun _ => 0))),
    (r 1, .inl (cy 0, 14, .inl (fun _ => 0))),
    (r 2, .inl (cy 0, 14, .inl (fun _ => 0))),
    (r 3, .inl (cy 0, 14, .inl (fun _ => 0))),
    (r 4, .inl (cy 0, 14, .inl (fun _ => 0))),
    (r 5, .inl (cy 0, 14, .inl (fun _ => 0))),
    (r 6, .inl (cy 0, 14, .inl (fun _ => 0))),
    (r 7, .inl (cy 0, 14, .inl (fun _ => 0))),
    (r 8, .inl (cy 0, 14, .inl (fun _ => 0))),
    (r 9, .inl (cy 0, 14, .inl (fun _ => 0))),
    (r 10, .inl (cy 0, 14, .inl (fun _ => 0))),
    (r 11, .inl (cy 0, 14, .inl (fun _ => 0))),
    (r 12, .inl (cy 0, 14, .inl (fun _ => 0))),
    (r 13, .inl (cy 0, 14, .inl (fun _ => 0))),
    (r 14, .inl (cy 0, 14, .inl (fun _ => 0))),
    (r 15, .inl (cy 0, 14, .inl (fun _ => 0))),
    (a1 0, .inr (3, [.ref (b1 0), .int 0])),
    (a1 1, .inr (3, [.ref (b1 1), .int 0])),
    (a1 2, .inr (3, [.ref (b1 2), .int 0])),
    (a1 3, .inr (3, [.ref (b1 3), .int 0])),
    (a1 4, .inr (3, [.ref (b1 4), .int 0])),
    (a1 5, .inr (3, [.ref (b1 5), .int 0])),
    (a1 6, .inr (3, [.ref (b1 6), .int 0])),
    (a1 7, .inr (3, [.ref (b1 7), .int 0])),
    (b1 0, .inl (cy 0, 16, .inl (fun _ => 0))),
    (b1 1, .inl (cy 0, 16, .inl (fun _ => 0))),
    (b1 2, .inl (cy 0, 16, .inl (fun _ => 0))),
    (b1 3, .inl (cy 0, 16, .inl (fun _ => 0))),
    (b1 4, .inl (cy 0, 16, .inl (fun _ => 0))),
    (b1 5, .inl (cy 0, 16, .inl (fun _ => 0))),
    (b1 6, .inl (cy 0, 16, .inl (fun _ => 0))),
    (b1 7, .inl (cy 0, 16, .inl (fun _ => 0))),
    (a2 0, .inr (1, [.ref (b2 0), .int 0, .int 4])),
    (a2 1, .inr (1, [.ref (b2 1), .int 0, .int 4])),
    (a2 2, .inr (1, [.ref (b2 2), .int 0, .int 4])),
    (a2 3, .inr (1, [.ref (b2 3), .int 0, .int 4])),
    (a2 4, .inr (1, [.ref (b2 4), .int 0, .int 4])),
    (a2 5, .inr (1, [.ref (b2 5), .int 0, .int 4])),
    (a2 6, .inr (1, [.ref (b2 6), .int 0, .int 4])),
    (a2 7, .inr (1, [.ref (b2 7), .int 0, .int 4])),
    (b2 0, .inl (cy 0, 4, .inl (fun _ => 0))),
    (b2 1, .inl (cy 0, 4, .inl (fun _ => 0))),
    (b2 2, .inl (cy 0, 4, .inl (fun _ => 0))),
    (b2 3, .inl (cy 0, 4, .inl (fun _ => 0))),
    (b2 4, .inl (cy 0, 4, .inl (fun _ => 0))),
    (b2 5, .inl (cy 0, 4, .inl (fun _ => 0))),
    (b2 6, .inl (cy 0, 4, .inl (fun _ => 0))),
    (b2 7, .inl (cy 0, 4, .inl (fun _ => 0))),
    (a3 0, .inr (4, [.int 2, .int 0])),
    (a3 1, .inr (4, [.int 2, .int 0])),
    (a3 2, .inr (4, [.int 2, .int 0])),
    (a3 3, .inr (4, [.int 2, .int 0])),
    (a3 4, .inr (4, [.int 2, .int 0])),
    (a4 0, .inr (2, [.int 0, .int 4, .int 0, .int 0])),
    (a4 1, .inr (2, [.int 0, .int 4, .int 0, .int 0])),
    (a4 2, .inr (2, [.int 0, .int 4, .int 0, .int 0])),
    (a4 3, .inr (2, [.int 0, .int 4, .int 0, .int 0])),
    (a4 4, .inr (2, [.int 0, .int 4, .int 0, .int 0])),
    (a4 5, .inr (2, [.int 0, .int 4, .int 0, .int 0])),
    (a4 6, .inr (2, [.int 0, .int 4, .int 0, .int 0])),
    (a4 7, .inr (2, [.int 0, .int 4, .int 0, .int 0])),
    (a4 8, .inr (2, [.int 0, .int 4, .int 0, .int 0])),
    (a4 9, .inr (2, [.int 0, .int 4, .int 0, .int 0])),
    (a4 10, .inr (2, [.int 0, .int 4, .int 0, .int 0])),
    (a4 11, .inr (2, [.int 0, .int 4, .int 0, .int 0])),
    (a4 12, .inr (2, [.int 0, .int 4, .int 0, .int 0])),
    (a4 13, .inr (2, [.int 0, .int 4, .int 0, .int 0])),
    (a4 14, .inr (2, [.int 0, .int 4, .int 0, .int 0])),
    (a4 15, .inr (2, [.int 0, .int 4, .int 0, .int 0])),
    (a4 16, .inr (2, [.int 0, .int 4, .int 0, .int 0])),
    (a4 17, .inr (2, [.int 0, .int 4, .int 0, .int 0])),
    (a4 18, .inr (2, [.int 0, .int 4, .int 0, .int 0])),
    (a4 19, .inr (2, [.int 0, .int 4, .int 0, .int 0])),
    (m0, .inl (cy 0, 8, .inl (fun _ => 0))),
    (m1, .inl (cy 0, 32, .inl (fun _ => 0))),
    (m2, .inl (cy 0, 8, .inl (fun _ => 0))),
    (m3, .inl (cy 0, 20, .inl (fun _ => 0))),
    (m4, .inl (cy 0, 4, .inl (fun _ => 0))),
    (m5, .inl (cy 0, 4, .inl (fun _ => 0)))]
set_option maxRecDepth 100000 in
set_option maxHeartbeats 4000000 in
theorem wS_ad {cy : Nat → ClassId} {qa q1 q2 q3 q4 q5 q6 h0 h1 h2 m0 m1 m2 m3 m4 m5 : Nat} {r a1 b1 a2 b2 a3 a4 : Nat → Nat} : (wS cy qa q1 q2 q3 q4 q5 q6 h0 h1 h2 m0 m1 m2 m3 m4 m5 r a1 b1 a2 b2 a3 a4).map (·.1) = IXb.map (fun q => adS qa q1 q2 q3 q4 q5 q6 h0 h1 h2 m0 m1 m2 m3 m4 m5 r a1 b1 a2 b2 a3 a4 q.1 q.2) := rfl
set_option maxRecDepth 100000 in
set_option maxHeartbeats 4000000 in
theorem wS_same {D : va_G} {cy : Nat → ClassId} {qa q1 q2 q3 q4 q5 q6 h0 h1 h2 m0 m1 m2 m3 m4 m5 : Nat} {r a1 b1 a2 b2 a3 a4 : Nat → Nat} : Same D (wS cy qa q1 q2 q3 q4 q5 q6 h0 h1 h2 m0 m1 m2 m3 m4 m5 r a1 b1 a2 b2 a3 a4) (WLg IXb (adS qa q1 q2 q3 q4 q5 q6 h0 h1 h2 m0 m1 m2 m3 m4 m5 r a1 b1 a2 b2 a3 a4) cy sS) := by
  refine ⟨fun H h => h, ⟨fun H h => at_qref (fun j hj => if_pos hj) h, ⟨fun H h => at_qref (fun j hj => if_pos hj) h, ⟨fun H h => at_qref (fun j hj => if_pos hj) h, ⟨fun H h => at_qref (fun j hj => if_pos hj) h, ⟨fun H h => h, ⟨fun H h => h, ⟨fun H h => h, ⟨fun H h => at_qref (fun j hj => if_pos hj) h, ⟨fun H h => h, ⟨fun H h => h, ⟨fun H h => h, ⟨fun H h => h, ⟨fun H h => h, ⟨fun H h => h, ⟨fun H h => h, ⟨fun H h => h, ⟨fun H h => h, ⟨fun H h => h, ⟨fun H h => h, ⟨fun H h => h, ⟨fun H h => h, ⟨fun H h => h, ⟨fun H h => h, ⟨fun H h => h, ⟨fun H h => h, ⟨fun H h => h, ⟨fun H h => h, ⟨fun H h => h, ⟨fun H h => h, ⟨fun H h => h, ⟨fun H h => h, ⟨fun H h => h, ⟨fun H h => h, ⟨fun H h => h, ⟨fun H h => h, ⟨fun H h => h, ⟨fun H h => h, ⟨fun H h => h, ⟨fun H h => h, ⟨fun H h => h, ⟨fun H h => h, ⟨fun H h => h, ⟨fun H h => h, ⟨fun H h => h, ⟨fun H h => h, ⟨fun H h => h, ⟨fun H h => h, ⟨fun H h => h, ⟨fun H h => h, ⟨fun H h => h, ⟨fun H h => h, ⟨fun H h => h, ⟨fun H h => h, ⟨fun H h => h, ⟨fun H h => h, ⟨fun H h => h, ⟨fun H h => h, ⟨fun H h => h, ⟨fun H h => h, ⟨fun H h => h, ⟨fun H h => h, ⟨fun H h => h, ⟨fun H h => h, ⟨fun H h => h, ⟨fun H h => h, ⟨fun H h => h, ⟨fun H h => h, ⟨fun H h => h, ⟨fun H h => h, ⟨fun H h => h, ⟨fun H h => h, ⟨fun H h => h, ⟨fun H h => h, ⟨fun H h => h, ⟨fun H h => h, ⟨fun H h => h, ⟨fun H h => h, ⟨fun H h => h, ⟨fun H h => h, ⟨fun H h => h, ⟨fun H h => h, ⟨fun H h => h, ⟨fun H h => h, ⟨fun H h => h, ⟨fun H h => h, ⟨fun H h => h, ⟨fun H h => h, ⟨fun H h => h, trivial⟩⟩⟩⟩⟩⟩⟩⟩⟩⟩⟩⟩⟩⟩⟩⟩⟩⟩⟩⟩⟩⟩⟩⟩⟩⟩⟩⟩⟩⟩⟩⟩⟩⟩⟩⟩⟩⟩⟩⟩⟩⟩⟩⟩⟩⟩⟩⟩⟩⟩⟩⟩⟩⟩⟩⟩⟩⟩⟩⟩⟩⟩⟩⟩⟩⟩⟩⟩⟩⟩⟩⟩⟩⟩⟩⟩⟩⟩⟩⟩⟩⟩⟩⟩⟩⟩⟩⟩⟩
theorem sub_both {A : Nat → Prop} {D : va_G} {cl : List vw_C} {ws ws' : va_W} {H : Heap} (hP : va_P D cl ws H) (hD : va_D A ws) (is : List Nat) (hn : va_nd is = true) (hs : is.map (fun i => ws[i]?) = ws'.map some) : va_P D cl ws' H ∧ va_D A ws' :=
  ⟨hP.sub is (by
    have h := congrArg (List.filterMap id) hs
    simpa [List.filterMap_map] using h), hD.sub is hn hs⟩
def wC (cy : Nat → ClassId) (qa q1 q2 q3 q4 q5 q6 h0 h1 h2 m0 m1 m2 m3 m4 m5 : Nat) (r a1 b1 a2 b2 a3 a4 : Nat → Nat) : va_W :=
   [(qa, (.inr (5, [.ref q1, .ref q2, .ref q3, .ref q4, .ref q5, .ref q6, .int 0, .int 0, .int 0, .int 0]) : va_E)),
    (q5, .inl (cy 0, 4, .inl (fun _ => 0))),
    (q4, qref 20 (cy 6) (qf a4 20)),
    (q3, qref 5 (cy 5) (qf a3 5)),
    (q2, qref 8 (cy 4) (qf a2 8)),
    (q1, qref 8 (cy 3) (qf a1 8)),
    (a1 0, .inr (3, [.ref (b1 0), .int 0])),
    (b1 0, .inl (cy 0, 16, .inl (fun _ => 0))),
    (a1 1, .inr (3, [.ref (b1 1), .int 0])),
    (b1 1, .inl (cy 0, 16, .inl (fun _ => 0))),
    (a1 2, .inr (3, [.ref (b1 2), .int 0])),
    (b1 2, .inl (cy 0, 16, .inl (fun _ => 0))),
    (a1 3, .inr (3, [.ref (b1 3), .int 0])),
    (b1 3, .inl (cy 0, 16, .inl (fun _ => 0))),
    (a1 4, .inr (3, [.ref (b1 4), .int 0])),
    (b1 4, .inl (cy 0, 16, .inl (fun _ => 0))),
    (a1 5, .inr (3, [.ref (b1 5), .int 0])),
    (b1 5, .inl (cy 0, 16, .inl (fun _ => 0))),
    (a1 6, .inr (3, [.ref (b1 6), .int 0])),
    (b1 6, .inl (cy 0, 16, .inl (fun _ => 0))),
    (a1 7, .inr (3, [.ref (b1 7), .int 0])),
    (b1 7, .inl (cy 0, 16, .inl (fun _ => 0))),
    (a2 0, .inr (1, [.ref (b2 0), .int 0, .int 4])),
    (b2 0, .inl (cy 0, 4, .inl (fun _ => 0))),
    (a2 1, .inr (1, [.ref (b2 1), .int 0, .int 4])),
    (b2 1, .inl (cy 0, 4, .inl (fun _ => 0))),
    (a2 2, .inr (1, [.ref (b2 2), .int 0, .int 4])),
    (b2 2, .inl (cy 0, 4, .inl (fun _ => 0))),
    (a2 3, .inr (1, [.ref (b2 3), .int 0, .int 4])),
    (b2 3, .inl (cy 0, 4, .inl (fun _ => 0))),
    (a2 4, .inr (1, [.ref (b2 4), .int 0, .int 4])),
    (b2 4, .inl (cy 0, 4, .inl (fun _ => 0))),
    (a2 5, .inr (1, [.ref (b2 5), .int 0, .int 4])),
    (b2 5, .inl (cy 0, 4, .inl (fun _ => 0))),
    (a2 6, .inr (1, [.ref (b2 6), .int 0, .int 4])),
    (b2 6, .inl (cy 0, 4, .inl (fun _ => 0))),
    (a2 7, .inr (1, [.ref (b2 7), .int 0, .int 4])),
    (b2 7, .inl (cy 0, 4, .inl (fun _ => 0))),
    (a3 0, .inr (4, [.int 2, .int 0])),
    (a3 1, .inr (4, [.int 2, .int 0])),
    (a3 2, .inr (4, [.int 2, .int 0])),
    (a3 3, .inr (4, [.int 2, .int 0])),
    (a3 4, .inr (4, [.int 2, .int 0])),
    (a4 0, .inr (2, [.int 0, .int 4, .int 0, .int 0])),
    (a4 1, .inr (2, [.int 0, .int 4, .int 0, .int 0])),
    (a4 2, .inr (2, [.int 0, .int 4, .int 0, .int 0])),
    (a4 3, .inr (2, [.int 0, .int 4, .int 0, .int 0])),
    (a4 4, .inr (2, [.int 0, .int 4, .int 0, .int 0])),
    (a4 5, .inr (2, [.int 0, .int 4, .int 0, .int 0])),
    (a4 6, .inr (2, [.int 0, .int 4, .int 0, .int 0])),
    (a4 7, .inr (2, [.int 0, .int 4, .int 0, .int 0])),
    (a4 8, .inr (2, [.int 0, .int 4, .int 0, .int 0])),
    (a4 9, .inr (2, [.int 0, .int 4, .int 0, .int 0])),
    (a4 10, .inr (2, [.int 0, .int 4, .int 0, .int 0])),
    (a4 11, .inr (2, [.int 0, .int 4, .int 0, .int 0])),
    (a4 12, .inr (2, [.int 0, .int 4, .int 0, .int 0])),
    (a4 13, .inr (2, [.int 0, .int 4, .int 0, .int 0])),
    (a4 14, .inr (2, [.int 0, .int 4, .int 0, .int 0])),
    (a4 15, .inr (2, [.int 0, .int 4, .int 0, .int 0])),
    (a4 16, .inr (2, [.int 0, .int 4, .int 0, .int 0])),
    (a4 17, .inr (2, [.int 0, .int 4, .int 0, .int 0])),
    (a4 18, .inr (2, [.int 0, .int 4, .int 0, .int 0])),
    (a4 19, .inr (2, [.int 0, .int 4, .int 0, .int 0])),
    (q6, .inr (0, [.ref h0, .ref h1, .ref h2, .int 0, .int 0])),
    (h0, .inl (cy 0, 16, .inl (fun _ => 0))),
    (h1, qref 16 (cy 7) (fun i => if i < 16 then some (r i) else none)),
    (r 0, .inl (cy 0, 14, .inl (fun _ => 0))),
    (r 1, .inl (cy 0, 14, .inl (fun _ => 0))),
    (r 2, .inl (cy 0, 14, .inl (fun _ => 0))),
    (r 3, .inl (cy 0, 14, .inl (fun _ => 0))),
    (r 4, .inl (cy 0, 14, .inl (fun _ => 0))),
    (r 5, .inl (cy 0, 14, .inl (fun _ => 0))),
    (r 6, .inl (cy 0, 14, .inl (fun _ => 0))),
    (r 7, .inl (cy 0, 14, .inl (fun _ => 0))),
    (r 8, .inl (cy 0, 14, .inl (fun _ => 0))),
    (r 9, .inl (cy 0, 14, .inl (fun _ => 0))),
    (r 10, .inl (cy 0, 14, .inl (fun _ => 0))),
    (r 11, .inl (cy 0, 14, .inl (fun _ => 0))),
    (r 12, .inl (cy 0, 14, .inl (fun _ => 0))),
    (r 13, .inl (cy 0, 14, .inl (fun _ => 0))),
    (r 14, .inl (cy 0, 14, .inl (fun _ => 0))),
    (r 15, .inl (cy 0, 14, .inl (fun _ => 0))),
    (h2, .inl (cy 0, 16, .inl (fun _ => 0))),
    (m0, .inl (cy 0, 8, .inl (fun _ => 0))),
    (m1, .inl (cy 0, 32, .inl (fun _ => 0))),
    (m2, .inl (cy 0, 8, .inl (fun _ => 0))),
    (m3, .inl (cy 0, 20, .inl (fun _ => 0))),
    (m4, .inl (cy 0, 4, .inl (fun _ => 0))),
    (m5, .inl (cy 0, 4, .inl (fun _ => 0)))]
set_option maxRecDepth 100000 in
set_option maxHeartbeats 4000000 in
theorem wC_pick {cy : Nat → ClassId} {qa q1 q2 q3 q4 q5 q6 h0 h1 h2 m0 m1 m2 m3 m4 m5 : Nat} {r a1 b1 a2 b2 a3 a4 : Nat → Nat} : ([0, 5, 4, 3, 2, 1, 63, 64, 65, 82, 66, 67, 68, 69, 70, 71, 72, 73, 74, 75, 76, 77, 78, 79, 80, 81, 6, 8, 10, 12, 14, 16, 18, 20, 7, 9, 11, 13, 15, 17, 19, 21, 22, 24, 26, 28, 30, 32, 34, 36, 23, 25, 27, 29, 31, 33, 35, 37, 38, 39, 40, 41, 42, 43, 44, 45, 46, 47, 48, 49, 50, 51, 52, 53, 54, 55, 56, 57, 58, 59, 60, 61, 62, 83, 84, 85, 86, 87, 88] : List Nat).map (fun i => (wC cy qa q1 q2 q3 q4 q5 q6 h0 h1 h2 m0 m1 m2 m3 m4 m5 r a1 b1 a2 b2 a3 a4)[i]?) = (wS cy qa q1 q2 q3 q4 q5 q6 h0 h1 h2 m0 m1 m2 m3 m4 m5 r a1 b1 a2 b2 a3 a4).map some := rfl
theorem fl5 {U : Nat → Nat → va_W} {a b : Nat → Nat} : fl U a b 5 = U (a 0) (b 0) ++ (U (a 1) (b 1) ++ (U (a 2) (b 2) ++ (U (a 3) (b 3) ++ (U (a 4) (b 4))))) := by
  simp only [fl, List.nil_append, List.append_assoc]
theorem fl8 {U : Nat → Nat → va_W} {a b : Nat → Nat} : fl U a b 8 = U (a 0) (b 0) ++ (U (a 1) (b 1) ++ (U (a 2) (b 2) ++ (U (a 3) (b 3) ++ (U (a 4) (b 4) ++ (U (a 5) (b 5) ++ (U (a 6) (b 6) ++ (U (a 7) (b 7)))))))) := by
  simp only [fl, List.nil_append, List.append_assoc]
theorem fl20 {U : Nat → Nat → va_W} {a b : Nat → Nat} : fl U a b 20 = U (a 0) (b 0) ++ (U (a 1) (b 1) ++ (U (a 2) (b 2) ++ (U (a 3) (b 3) ++ (U (a 4) (b 4) ++ (U (a 5) (b 5) ++ (U (a 6) (b 6) ++ (U (a 7) (b 7) ++ (U (a 8) (b 8) ++ (U (a 9) (b 9) ++ (U (a 10) (b 10) ++ (U (a 11) (b 11) ++ (U (a 12) (b 12) ++ (U (a 13) (b 13) ++ (U (a 14) (b 14) ++ (U (a 15) (b 15) ++ (U (a 16) (b 16) ++ (U (a 17) (b 17) ++ (U (a 18) (b 18) ++ (U (a 19) (b 19)))))))))))))))))))) := by
  simp only [fl, List.nil_append, List.append_assoc]
theorem rg16 {α : Type} {f : Nat → α} : (List.range 16).map f = [f 0, f 1, f 2, f 3, f 4, f 5, f 6, f 7, f 8, f 9, f 10, f 11, f 12, f 13, f 14, f 15] := rfl
theorem nd89 : va_nd [0, 5, 4, 3, 2, 1, 63, 64, 65, 82, 66, 67, 68, 69, 70, 71, 72, 73, 74, 75, 76, 77, 78, 79, 80, 81, 6, 8, 10, 12, 14, 16, 18, 20, 7, 9, 11, 13, 15, 17, 19, 21, 22, 24, 26, 28, 30, 32, 34, 36, 23, 25, 27, 29, 31, 33, 35, 37, 38, 39, 40, 41, 42, 43, 44, 45, 46, 47, 48, 49, 50, 51, 52, 53, 54, 55, 56, 57, 58, 59, 60, 61, 62, 83, 84, 85, 86, 87, 88] = true := by decide +kernel
set_option maxRecDepth 100000 in
set_option maxHeartbeats 4000000 in
theorem world_start {D : va_G} {cy : Nat → ClassId} {A : Nat → Prop} {H : Heap} {qa m0 m1 m2 m3 m4 m5 : Nat} {wA : va_W} (hA : mkClass cy qa wA) (hP : va_P D vwCl ((((((wA ++ [(m0, .inl (cy 0, 8, .inl (fun _ => 0)))]) ++ [(m1, .inl (cy 0, 32, .inl (fun _ => 0)))]) ++ [(m2, .inl (cy 0, 8, .inl (fun _ => 0)))]) ++ [(m3, .inl (cy 0, 20, .inl (fun _ => 0)))]) ++ [(m4, .inl (cy 0, 4, .inl (fun _ => 0)))]) ++ [(m5, .inl (cy 0, 4, .inl (fun _ => 0)))]) H) (hD : va_D A ((((((wA ++ [(m0, .inl (cy 0, 8, .inl (fun _ => 0)))]) ++ [(m1, .inl (cy 0, 32, .inl (fun _ => 0)))]) ++ [(m2, .inl (cy 0, 8, .inl (fun _ => 0)))]) ++ [(m3, .inl (cy 0, 20, .inl (fun _ => 0)))]) ++ [(m4, .inl (cy 0, 4, .inl (fun _ => 0)))]) ++ [(m5, .inl (cy 0, 4, .inl (fun _ => 0)))])) : ∃ ad : Nat → Nat → Nat, ad 99 0 = 0 ∧ ad 0 0 = qa ∧ ad 17 0 = m0 ∧ ad 18 0 = m1 ∧ ad 19 0 = m2 ∧ ad 20 0 = m3 ∧ ad 21 0 = m4 ∧ ad 22 0 = m5 ∧ va_P D vwCl (WL ad cy sS) H ∧ Apart ad A := by
  obtain ⟨q1, q2, q3, q4, q5, q6, u, a1, b1, a2, b2, a3, b3, a4, b4, hu, rfl⟩ := hA
  obtain ⟨h0, h1, h2, r, rfl⟩ := hu
  simp only [fl5, fl8, fl20, U_X3, U_X1, U_X4, U_X2, rg16, List.cons_append, List.nil_append, List.append_assoc] at hP hD
  have hP1 : va_P D vwCl (wC cy qa q1 q2 q3 q4 q5 q6 h0 h1 h2 m0 m1 m2 m3 m4 m5 r a1 b1 a2 b2 a3 a4) H := by
    unfold wC
    exact hP
  have hD1 : va_D A (wC cy qa q1 q2 q3 q4 q5 q6 h0 h1 h2 m0 m1 m2 m3 m4 m5 r a1 b1 a2 b2 a3 a4) := by
    unfold wC
    exact hD
  clear hP hD
  obtain ⟨hP2, hD2⟩ := sub_both hP1 hD1 [0, 5, 4, 3, 2, 1, 63, 64, 65, 82, 66, 67, 68, 69, 70, 71, 72, 73, 74, 75, 76, 77, 78, 79, 80, 81, 6, 8, 10, 12, 14, 16, 18, 20, 7, 9, 11, 13, 15, 17, 19, 21, 22, 24, 26, 28, 30, 32, 34, 36, 23, 25, 27, 29, 31, 33, 35, 37, 38, 39, 40, 41, 42, 43, 44, 45, 46, 47, 48, 49, 50, 51, 52, 53, 54, 55, 56, 57, 58, 59, 60, 61, 62, 83, 84, 85, 86, 87, 88] nd89 (wC_pick (cy := cy))
  have e99 : adS qa q1 q2 q3 q4 q5 q6 h0 h1 h2 m0 m1 m2 m3 m4 m5 r a1 b1 a2 b2 a3 a4 99 0 = 0 := rfl
  refine ⟨adS qa q1 q2 q3 q4 q5 q6 h0 h1 h2 m0 m1 m2 m3 m4 m5 r a1 b1 a2 b2 a3 a4, e99, rfl, rfl, rfl, rfl, rfl, rfl, rfl, ?_, Apart_of e99 hD2 wS_ad⟩
  unfold WL
  rw [IX0 e99]
  exact wS_same.P hP2
