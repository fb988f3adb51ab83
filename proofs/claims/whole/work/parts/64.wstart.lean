/-! ===== the constructors' list, made flat ===== -/
theorem fl5 {U : Nat → Nat → va_W} {a b : Nat → Nat} : fl U a b 5 = U (a 0) (b 0) ++ (U (a 1) (b 1) ++ (U (a 2) (b 2) ++ (U (a 3) (b 3) ++ (U (a 4) (b 4))))) := by
  simp only [fl, List.nil_append, List.append_assoc]
theorem fl8 {U : Nat → Nat → va_W} {a b : Nat → Nat} : fl U a b 8 = U (a 0) (b 0) ++ (U (a 1) (b 1) ++ (U (a 2) (b 2) ++ (U (a 3) (b 3) ++ (U (a 4) (b 4) ++ (U (a 5) (b 5) ++ (U (a 6) (b 6) ++ (U (a 7) (b 7)))))))) := by
  simp only [fl, List.nil_append, List.append_assoc]
theorem fl20 {U : Nat → Nat → va_W} {a b : Nat → Nat} : fl U a b 20 = U (a 0) (b 0) ++ (U (a 1) (b 1) ++ (U (a 2) (b 2) ++ (U (a 3) (b 3) ++ (U (a 4) (b 4) ++ (U (a 5) (b 5) ++ (U (a 6) (b 6) ++ (U (a 7) (b 7) ++ (U (a 8) (b 8) ++ (U (a 9) (b 9) ++ (U (a 10) (b 10) ++ (U (a 11) (b 11) ++ (U (a 12) (b 12) ++ (U (a 13) (b 13) ++ (U (a 14) (b 14) ++ (U (a 15) (b 15) ++ (U (a 16) (b 16) ++ (U (a 17) (b 17) ++ (U (a 18) (b 18) ++ (U (a 19) (b 19)))))))))))))))))))) := by
  simp only [fl, List.nil_append, List.append_assoc]
theorem rg16 {α : Type} {f : Nat → α} : (List.range 16).map f = [f 0, f 1, f 2, f 3, f 4, f 5, f 6, f 7, f 8, f 9, f 10, f 11, f 12, f 13, f 14, f 15] := rfl
theorem nd99 : va_nd [0, 5, 4, 3, 2, 1, 63, 64, 65, 82, 66, 67, 68, 69, 70, 71, 72, 73, 74, 75, 76, 77, 78, 79, 80, 81, 6, 8, 10, 12, 14, 16, 18, 20, 7, 9, 11, 13, 15, 17, 19, 21, 22, 24, 26, 28, 30, 32, 34, 36, 23, 25, 27, 29, 31, 33, 35, 37, 38, 39, 40, 41, 42, 43, 44, 45, 46, 47, 48, 49, 50, 51, 52, 53, 54, 55, 56, 57, 58, 59, 60, 61, 62, 83, 84, 85, 86, 87, 88, 89, 90, 91, 92, 93, 94, 95, 96, 97, 98] = true := by decide +kernel
set_option maxRecDepth 100000 in
set_option maxHeartbeats 4000000 in
theorem world_start {D : va_G} {cy : Nat → ClassId} {A : Nat → Prop} {H : Heap} {qa qb qc : Nat} {wA wB : va_W} (hA : mkClass cy qa wA) (hB : mkModel cy qb wB) (hP : va_P D vwCl ((wA ++ wB) ++ [(qc, .inl (cy 2, 1, .inr (.inl (fun _ => 0))))]) H) (hD : va_D A ((wA ++ wB) ++ [(qc, .inl (cy 2, 1, .inr (.inl (fun _ => 0))))])) : ∃ (ad : Nat → Nat → Nat) (g : Nat → Int32), ad 0 0 = qa ∧ ad 17 0 = qb ∧ ad 32 0 = qc ∧ (∀ j, j < 5 → g j = 2) ∧ va_P D vwCl (WL ad cy (sS g)) H ∧ Apart ad A := by
  obtain ⟨q1, q2, q3, q4, q5, q6, u, a1, b1, a2, b2, a3, b3, a4, b4, hu, rfl⟩ := hA
  obtain ⟨h0, h1, h2, r, rfl⟩ := hu
  obtain ⟨m0, m1, m2, m3, m4, m5, m6, m7, m8, m9, m10, m11, m12, m13, g, hg, rfl⟩ := hB
  simp only [fl5, fl8, fl20, U_X3, U_X1, U_X4, U_X2, rg16, List.cons_append, List.nil_append, List.append_assoc] at hP hD
  have hP1 : va_P D vwCl (wC cy g qa q1 q2 q3 q4 q5 q6 h0 h1 h2 qb m0 m1 m2 m3 m4 m5 m6 m7 m8 m9 m10 m11 m12 m13 qc r a1 b1 a2 b2 a3 a4) H := by
    unfold wC
    exact hP
  have hD1 : va_D A (wC cy g qa q1 q2 q3 q4 q5 q6 h0 h1 h2 qb m0 m1 m2 m3 m4 m5 m6 m7 m8 m9 m10 m11 m12 m13 qc r a1 b1 a2 b2 a3 a4) := by
    unfold wC
    exact hD
  clear hP hD
  obtain ⟨hP2, hD2⟩ := sub_both hP1 hD1 [0, 5, 4, 3, 2, 1, 63, 64, 65, 82, 66, 67, 68, 69, 70, 71, 72, 73, 74, 75, 76, 77, 78, 79, 80, 81, 6, 8, 10, 12, 14, 16, 18, 20, 7, 9, 11, 13, 15, 17, 19, 21, 22, 24, 26, 28, 30, 32, 34, 36, 23, 25, 27, 29, 31, 33, 35, 37, 38, 39, 40, 41, 42, 43, 44, 45, 46, 47, 48, 49, 50, 51, 52, 53, 54, 55, 56, 57, 58, 59, 60, 61, 62, 83, 84, 85, 86, 87, 88, 89, 90, 91, 92, 93, 94, 95, 96, 97, 98] nd99 (wC_pick (cy := cy) (g := g))
  exact ⟨adS qa q1 q2 q3 q4 q5 q6 h0 h1 h2 qb m0 m1 m2 m3 m4 m5 m6 m7 m8 m9 m10 m11 m12 m13 qc r a1 b1 a2 b2 a3 a4, g, rfl, rfl, rfl, hg, wS_same.P hP2, Apart_of hD2 wS_ad⟩
