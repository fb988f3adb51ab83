/-! ===== the model ===== -/
/-- the model's numbers are those of g, a state of the class -/
def MRel (g σ : St) : Prop := σ 17 0 1 = g 0 0 6 ∧ σ 17 0 4 = g 0 0 7 ∧ σ 17 0 11 = g 0 0 8 ∧ σ 17 0 0 = g 0 0 9 ∧ (∀ i, i < 8 → σ 18 0 i = g 11 i 1) ∧ (∀ i j, i < 8 → j < 16 → σ 19 0 (16 * i + j) = g 12 i j) ∧ (∀ i, i < 8 → σ 20 0 i = g 13 i 1) ∧ (∀ i, i < 8 → nI i < g 0 0 7 → σ 21 0 i = g 13 i 2) ∧ (∀ i j, i < 8 → j < 4 → σ 22 0 (4 * i + j) = g 14 i j) ∧ (∀ i, i < 5 → σ 23 0 i = g 15 i 0) ∧ (∀ i, i < 5 → σ 24 0 i = g 15 i 1) ∧ (∀ j, j < 4 → σ 25 0 j = g 5 0 j) ∧ (∀ i, i < 20 → σ 26 0 i = g 16 i 0) ∧ (∀ i, i < 20 → nI i < g 0 0 8 → σ 27 0 i = g 16 i 1) ∧ (∀ i, i < 20 → σ 28 0 i = g 16 i 2) ∧ ∀ i, i < 20 → σ 29 0 i = g 16 i 3
/-- all but the scratch rows and the note of what was thrown -/
def FS (σ σ' : St) : Prop := ∀ a b c0, a ≠ 30 → a ≠ 31 → ¬ (a = 17 ∧ c0 = 18) → σ' a b c0 = σ a b c0
def FR (σ σ' : St) : Prop := ∀ a b c0, a ≠ 30 → a ≠ 31 → σ' a b c0 = σ a b c0
theorem FR.fs {σ σ' : St} (h : FR σ σ') : FS σ σ' := fun a b c0 h1 h2 _ => h a b c0 h1 h2
theorem FR.rf {σ : St} : FR σ σ := fun _ _ _ _ _ => rfl
theorem FS.rf {σ : St} : FS σ σ := fun _ _ _ _ _ _ => rfl
theorem FR.trans {σ σ1 σ2 : St} (h1 : FR σ σ1) (h2 : FR σ1 σ2) : FR σ σ2 := fun a b c0 x y => (h2 a b c0 x y).trans (h1 a b c0 x y)
theorem FS.trans {σ σ1 σ2 : St} (h1 : FS σ σ1) (h2 : FS σ1 σ2) : FS σ σ2 := fun a b c0 x y z => (h2 a b c0 x y z).trans (h1 a b c0 x y z)
theorem FS.thr {σ : St} {x : Int32} : FS σ (up σ 17 0 18 x) := fun a b c0 _ _ h => by rw [up_app, if_neg (fun q => h ⟨q.1, q.2.2⟩)]
theorem MRel.fs {g σ σ' : St} (h : MRel g σ) (hf : FS σ σ') : MRel g σ' := by
  obtain ⟨h1, h2, h3, h4, h5, h6, h7, h8, h9, h10, h11, h12, h13, h14, h15, h16⟩ := h
  refine ⟨?_, ?_, ?_, ?_, fun i hi => ?_, fun i j hi hj => ?_, fun i hi => ?_, fun i hi hl => ?_, fun i j hi hj => ?_, fun i hi => ?_, fun i hi => ?_, fun j hj => ?_, fun i hi => ?_, fun i hi hl => ?_, fun i hi => ?_, fun i hi => ?_⟩
  · rw [hf 17 0 1 (by decide) (by decide) (by decide)]; exact h1
  · rw [hf 17 0 4 (by decide) (by decide) (by decide)]; exact h2
  · rw [hf 17 0 11 (by decide) (by decide) (by decide)]; exact h3
  · rw [hf 17 0 0 (by decide) (by decide) (by decide)]; exact h4
  · rw [hf 18 0 i (by decide) (by decide) (fun q => absurd q.1 (by decide))]; exact h5 i hi
  · rw [hf 19 0 _ (by decide) (by decide) (fun q => absurd q.1 (by decide))]; exact h6 i j hi hj
  · rw [hf 20 0 i (by decide) (by decide) (fun q => absurd q.1 (by decide))]; exact h7 i hi
  · rw [hf 21 0 i (by decide) (by decide) (fun q => absurd q.1 (by decide))]; exact h8 i hi hl
  · rw [hf 22 0 _ (by decide) (by decide) (fun q => absurd q.1 (by decide))]; exact h9 i j hi hj
  · rw [hf 23 0 i (by decide) (by decide) (fun q => absurd q.1 (by decide))]; exact h10 i hi
  · rw [hf 24 0 i (by decide) (by decide) (fun q => absurd q.1 (by decide))]; exact h11 i hi
  · rw [hf 25 0 j (by decide) (by decide) (fun q => absurd q.1 (by decide))]; exact h12 j hj
  · rw [hf 26 0 i (by decide) (by decide) (fun q => absurd q.1 (by decide))]; exact h13 i hi
  · rw [hf 27 0 i (by decide) (by decide) (fun q => absurd q.1 (by decide))]; exact h14 i hi hl
  · rw [hf 28 0 i (by decide) (by decide) (fun q => absurd q.1 (by decide))]; exact h15 i hi
  · rw [hf 29 0 i (by decide) (by decide) (fun q => absurd q.1 (by decide))]; exact h16 i hi
theorem MRel.many {g σ : St} (h : MRel g σ) {i : Nat} (hi : i < 8) : σ 18 0 i = g 11 i 1 := h.2.2.2.2.1 i hi
theorem MRel.pit {g σ : St} (h : MRel g σ) {i j : Nat} (hi : i < 8) (hj : j < 16) : σ 19 0 (16 * i + j) = g 12 i j := h.2.2.2.2.2.1 i j hi hj
theorem MRel.own {g σ : St} (h : MRel g σ) {i : Nat} (hi : i < 8) : σ 20 0 i = g 13 i 1 := h.2.2.2.2.2.2.1 i hi
theorem MRel.fr {g σ : St} (h : MRel g σ) {i : Nat} (hi : i < 8) (hl : nI i < g 0 0 7) : σ 21 0 i = g 13 i 2 := h.2.2.2.2.2.2.2.1 i hi hl
theorem MRel.opn {g σ : St} (h : MRel g σ) {i j : Nat} (hi : i < 8) (hj : j < 4) : σ 22 0 (4 * i + j) = g 14 i j := h.2.2.2.2.2.2.2.2.1 i j hi hj
theorem MRel.lev {g σ : St} (h : MRel g σ) {i : Nat} (hi : i < 5) : σ 23 0 i = g 15 i 0 := h.2.2.2.2.2.2.2.2.2.1 i hi
theorem MRel.kno {g σ : St} (h : MRel g σ) {i : Nat} (hi : i < 5) : σ 24 0 i = g 15 i 1 := h.2.2.2.2.2.2.2.2.2.2.1 i hi
theorem MRel.stk {g σ : St} (h : MRel g σ) {j : Nat} (hj : j < 4) : σ 25 0 j = g 5 0 j := h.2.2.2.2.2.2.2.2.2.2.2.1 j hj
theorem MRel.buy {g σ : St} (h : MRel g σ) {i : Nat} (hi : i < 20) : σ 26 0 i = g 16 i 0 := h.2.2.2.2.2.2.2.2.2.2.2.2.1 i hi
theorem MRel.ord {g σ : St} (h : MRel g σ) {i : Nat} (hi : i < 20) (hl : nI i < g 0 0 8) : σ 27 0 i = g 16 i 1 := h.2.2.2.2.2.2.2.2.2.2.2.2.2.1 i hi hl
theorem MRel.rdy {g σ : St} (h : MRel g σ) {i : Nat} (hi : i < 20) : σ 28 0 i = g 16 i 2 := h.2.2.2.2.2.2.2.2.2.2.2.2.2.2.1 i hi
theorem MRel.fet {g σ : St} (h : MRel g σ) {i : Nat} (hi : i < 20) : σ 29 0 i = g 16 i 3 := h.2.2.2.2.2.2.2.2.2.2.2.2.2.2.2 i hi
theorem le_pred {v : Int32} {n : Nat} (hn : n < 2 ^ 31) : v ≤ nI n - 1 ↔ v < nI n := by
  rw [Int32.le_iff_toInt_le, Int32.lt_iff_toInt_lt, nI_toInt hn]
  have h1 : (nI n - 1).toInt = (n : Int) - 1 := by
    rw [show (1 : Int32) = nI 1 from rfl]
    rcases Nat.lt_or_ge n 1 with q | q
    · rw [show n = 0 by omega]; decide
    · rw [pk_sub q, nI_toInt (by omega)]; omega
  rw [h1]
  omega
theorem bad_out {v : Int32} {n : Nat} (hn : n < 2 ^ 31) : outR v 0 (nI n - 1) ↔ bad v (nI n) := by
  unfold outR bad
  rw [le_pred hn]
theorem outR_gt {v lo hi : Int32} : outR v lo hi ↔ (v < lo ∨ hi < v) := by unfold outR; rw [Int32.not_le]
set_option maxRecDepth 100000 in
set_option maxHeartbeats 4000000 in
theorem c_X6_thrown {l : Launch} {D : va_G} {ad : Nat → Nat → Nat} {cy : Nat → ClassId} {A : Nat → Prop} {sa : Nat → Nat} {σ : St} : MI l D ad cy A sa yX6_thrown cX6_thrown 1 (some .int) 0 σ [.ref (ad 17 0)] (fun r σ' => r = σ 17 0 18 ∧ σ = σ') := by
  refine MI.mk "FretSchoolModel" (by decide) rfl (Nat.le_of_ble_eq_true rfl) rfl ?_
  intro p e s m args below meth c C
  change Z _ _ _ _ _ _ _ _ _ _ _ _ _ _ _ _ _ _ _ [some (.ref (ad 17 0))] 0 []
  refine z_aload_n C dX6_thrown_0 rfl ?_
  refine g_17_18 C wd603 dX6_thrown_1 ?_
  refine z_iret C dX6_thrown_4 ?_
  exact ⟨rfl, rfl⟩
set_option maxRecDepth 100000 in
set_option maxHeartbeats 4000000 in
theorem c_X6_in {l : Launch} {D : va_G} {ad : Nat → Nat → Nat} {cy : Nat → ClassId} {A : Nat → Prop} {sa : Nat → Nat} {σ : St} {v lo hi : Int32} : MI l D ad cy A sa yX6_in cX6_in 3 (some .boolean) 0 σ [.int v, .int lo, .int hi] (fun r σ' => σ = σ' ∧ ((r = 1 ∧ ¬ outR v lo hi) ∨ (r = 0 ∧ outR v lo hi))) := by
  refine MI.mk "FretSchoolModel" (by decide) rfl (Nat.le_of_ble_eq_true rfl) rfl ?_
  intro p e s m args below meth c C
  change Z _ _ _ _ _ _ _ _ _ _ _ _ _ _ _ _ _ _ _ [some (.int v), some (.int lo), some (.int hi)] 0 []
  refine z_iload_n C dX6_in_0 rfl ?_
  refine z_iload_n C dX6_in_1 rfl ?_
  refine z_icmp_lt C 14 dX6_in_2 (by decide) (fun c_2 => ?_) (fun c_2 => ?_)
  · refine z_iconst C (v := 0) dX6_in_14 (by decide) ?_
    refine z_zret C dX6_in_15 (by first | exact Or.inl rfl | exact Or.inr rfl | assumption) ?_
    exact ⟨rfl, Or.inr ⟨rfl, outR_gt.mpr (Or.inl c_2)⟩⟩
  · refine z_iload_n C dX6_in_5 rfl ?_
    refine z_iload_n C dX6_in_6 rfl ?_
    refine z_icmp_gt C 14 dX6_in_7 (by decide) (fun c_7 => ?_) (fun c_7 => ?_)
    · refine z_iconst C (v := 0) dX6_in_14 (by decide) ?_
      refine z_zret C dX6_in_15 (by first | exact Or.inl rfl | exact Or.inr rfl | assumption) ?_
      exact ⟨rfl, Or.inr ⟨rfl, outR_gt.mpr (Or.inr c_7)⟩⟩
    · refine z_iconst C (v := 1) dX6_in_10 (by decide) ?_
      refine z_goto C 15 dX6_in_11 (by decide) ?_
      refine z_zret C dX6_in_15 (by first | exact Or.inl rfl | exact Or.inr rfl | assumption) ?_
      exact ⟨rfl, Or.inl ⟨rfl, fun q => (outR_gt.mp q).elim c_2 c_7⟩⟩
def tC (a b c0 : Int32) : Nat := if a = 0 then 1 else if b = 0 then 2 else if c0 = 0 then 3 else 0
set_option maxRecDepth 100000 in
set_option maxHeartbeats 4000000 in
theorem c_X6_goes {l : Launch} {D : va_G} {ad : Nat → Nat → Nat} {cy : Nat → ClassId} {A : Nat → Prop} {sa : Nat → Nat} {σ : St} {a b c0 : Int32} : MI l D ad cy A sa yX6_goes cX6_goes 4 (some .boolean) 0 σ [.ref (ad 17 0), .int a, .int b, .int c0] (fun r σ' => up σ 17 0 18 (nI (tC a b c0)) = σ' ∧ r = (if tC a b c0 = 0 then 1 else 0)) := by
  refine MI.mk "FretSchoolModel" (by decide) rfl (Nat.le_of_ble_eq_true rfl) rfl ?_
  intro p e s m args below meth c C
  change Z _ _ _ _ _ _ _ _ _ _ _ _ _ _ _ _ _ _ _ [some (.ref (ad 17 0)), some (.int a), some (.int b), some (.int c0)] 0 []
  refine z_aload_n C dX6_goes_0 rfl ?_
  refine z_iload_n C dX6_goes_1 rfl ?_
  refine z_if_ne C 9 dX6_goes_2 (by decide) (fun c_2 => ?_) (fun c_2 => ?_)
  · refine z_iload_n C dX6_goes_9 rfl ?_
    refine z_if_ne C 17 dX6_goes_10 (by decide) (fun c_10 => ?_) (fun c_10 => ?_)
    · refine z_iload_n C dX6_goes_17 rfl ?_
      refine z_if_ne C 25 dX6_goes_18 (by decide) (fun c_18 => ?_) (fun c_18 => ?_)
      · refine z_iconst C (v := 0) dX6_goes_25 (by decide) ?_
        refine p_17_18 C wd603 dX6_goes_26 ?_
        refine z_aload_n C dX6_goes_29 rfl ?_
        refine g_17_18 C wd603 dX6_goes_30 ?_
        refine z_if_ne C 40 dX6_goes_33 (by decide) (fun c_33 => ?_) (fun c_33 => ?_)
        · exact absurd (show up σ 17 0 18 0 17 0 18 = 0 by rw [up_app, if_pos ⟨rfl, rfl, rfl⟩]) c_33
        · refine z_iconst C (v := 1) dX6_goes_36 (by decide) ?_
          refine z_goto C 41 dX6_goes_37 (by decide) ?_
          refine z_zret C dX6_goes_41 (by first | exact Or.inl rfl | exact Or.inr rfl | assumption) ?_
          unfold tC
          rw [if_neg c_2, if_neg c_10, if_neg c_18]
          exact ⟨rfl, rfl⟩
      · refine z_iconst C (v := 3) dX6_goes_21 (by decide) ?_
        refine z_goto C 26 dX6_goes_22 (by decide) ?_
        refine p_17_18 C wd603 dX6_goes_26 ?_
        refine z_aload_n C dX6_goes_29 rfl ?_
        refine g_17_18 C wd603 dX6_goes_30 ?_
        refine z_if_ne C 40 dX6_goes_33 (by decide) (fun c_33 => ?_) (fun c_33 => ?_)
        · refine z_iconst C (v := 0) dX6_goes_40 (by decide) ?_
          refine z_zret C dX6_goes_41 (by first | exact Or.inl rfl | exact Or.inr rfl | assumption) ?_
          unfold tC
          rw [if_neg c_2, if_neg c_10, if_pos c_18]
          exact ⟨rfl, rfl⟩
        · rw [up_app, if_pos ⟨rfl, rfl, rfl⟩] at c_33
          exact absurd c_33 (by decide)
    · refine z_iconst C (v := 2) dX6_goes_13 (by decide) ?_
      refine z_goto C 26 dX6_goes_14 (by decide) ?_
      refine p_17_18 C wd603 dX6_goes_26 ?_
      refine z_aload_n C dX6_goes_29 rfl ?_
      refine g_17_18 C wd603 dX6_goes_30 ?_
      refine z_if_ne C 40 dX6_goes_33 (by decide) (fun c_33 => ?_) (fun c_33 => ?_)
      · refine z_iconst C (v := 0) dX6_goes_40 (by decide) ?_
        refine z_zret C dX6_goes_41 (by first | exact Or.inl rfl | exact Or.inr rfl | assumption) ?_
        unfold tC
        rw [if_neg c_2, if_pos c_10]
        exact ⟨rfl, rfl⟩
      · rw [up_app, if_pos ⟨rfl, rfl, rfl⟩] at c_33
        exact absurd c_33 (by decide)
  · refine z_iconst C (v := 1) dX6_goes_5 (by decide) ?_
    refine z_goto C 26 dX6_goes_6 (by decide) ?_
    refine p_17_18 C wd603 dX6_goes_26 ?_
    refine z_aload_n C dX6_goes_29 rfl ?_
    refine g_17_18 C wd603 dX6_goes_30 ?_
    refine z_if_ne C 40 dX6_goes_33 (by decide) (fun c_33 => ?_) (fun c_33 => ?_)
    · refine z_iconst C (v := 0) dX6_goes_40 (by decide) ?_
      refine z_zret C dX6_goes_41 (by first | exact Or.inl rfl | exact Or.inr rfl | assumption) ?_
      unfold tC
      rw [if_pos c_2]
      exact ⟨rfl, rfl⟩
    · rw [up_app, if_pos ⟨rfl, rfl, rfl⟩] at c_33
      exact absurd c_33 (by decide)
set_option maxRecDepth 100000 in
set_option maxHeartbeats 4000000 in
theorem c_X6_told {l : Launch} {D : va_G} {ad : Nat → Nat → Nat} {cy : Nat → ClassId} {A : Nat → Prop} {sa : Nat → Nat} {σ : St} {x : Int32} : MI l D ad cy A sa yX6_told cX6_told 2 (some .int) 0 σ [.ref (ad 17 0), .int x] (fun r σ' => r = x ∧ up σ 17 0 18 0 = σ') := by
  refine MI.mk "FretSchoolModel" (by decide) rfl (Nat.le_of_ble_eq_true rfl) rfl ?_
  intro p e s m args below meth c C
  change Z _ _ _ _ _ _ _ _ _ _ _ _ _ _ _ _ _ _ _ [some (.ref (ad 17 0)), some (.int x)] 0 []
  refine z_aload_n C dX6_told_0 rfl ?_
  refine z_iconst C (v := 0) dX6_told_1 (by decide) ?_
  refine p_17_18 C wd603 dX6_told_2 ?_
  refine z_iload_n C dX6_told_5 rfl ?_
  refine z_iret C dX6_told_6 ?_
  exact ⟨rfl, rfl⟩
set_option maxRecDepth 100000 in
set_option maxHeartbeats 4000000 in
theorem c_X6_isPiece {l : Launch} {D : va_G} {ad : Nat → Nat → Nat} {cy : Nat → ClassId} {A : Nat → Prop} {sa : Nat → Nat} {σ : St} {x : Int32} {n : Nat} (hn : σ 17 0 1 = nI n) (hn31 : n < 2 ^ 31) : MI l D ad cy A sa yX6_isPiece cX6_isPiece 2 (some .boolean) 1 σ [.ref (ad 17 0), .int x] (fun r σ' => σ = σ' ∧ ((r = 1 ∧ ¬ bad x (nI n)) ∨ (r = 0 ∧ bad x (nI n)))) := by
  refine MI.mk "FretSchoolModel" (by decide) rfl (Nat.le_of_ble_eq_true rfl) rfl ?_
  intro p e s m args below meth c C
  change Z _ _ _ _ _ _ _ _ _ _ _ _ _ _ _ _ _ _ _ [some (.ref (ad 17 0)), some (.int x)] 0 []
  refine z_iload_n C dX6_isPiece_0 rfl ?_
  refine z_iconst C (v := 0) dX6_isPiece_1 (by decide) ?_
  refine z_aload_n C dX6_isPiece_2 rfl ?_
  refine g_17_1 C wd586 dX6_isPiece_3 ?_
  refine z_iconst C (v := 1) dX6_isPiece_6 (by decide) ?_
  refine z_isub C dX6_isPiece_7 ?_
  refine z_csi C (As := [_, _, _]) (c_X6_in) okX6_in wd664 (rok (by decide) (by decide)) ⟨Nat.le_of_ble_eq_true rfl, Nat.le_of_ble_eq_true rfl⟩ rfl (Nat.le_of_ble_eq_true rfl) dX6_isPiece_8 ?_
  rintro r8 _ ⟨rfl, h8⟩
  rw [hn, bad_out hn31] at h8
  have hz8 : r8 = 0 ∨ r8 = 1 := h8.elim (fun h => Or.inr h.1) (fun h => Or.inl h.1)
  refine z_zret C dX6_isPiece_11 (by first | exact Or.inl rfl | exact Or.inr rfl | assumption) ?_
  exact ⟨rfl, h8⟩
set_option maxRecDepth 100000 in
set_option maxHeartbeats 4000000 in
theorem c_X6_isInstrument {l : Launch} {D : va_G} {ad : Nat → Nat → Nat} {cy : Nat → ClassId} {A : Nat → Prop} {sa : Nat → Nat} {σ : St} {x : Int32} {n : Nat} (hn : σ 17 0 4 = nI n) (hn31 : n < 2 ^ 31) : MI l D ad cy A sa yX6_isInstrument cX6_isInstrument 2 (some .boolean) 1 σ [.ref (ad 17 0), .int x] (fun r σ' => σ = σ' ∧ ((r = 1 ∧ ¬ bad x (nI n)) ∨ (r = 0 ∧ bad x (nI n)))) := by
  refine MI.mk "FretSchoolModel" (by decide) rfl (Nat.le_of_ble_eq_true rfl) rfl ?_
  intro p e s m args below meth c C
  change Z _ _ _ _ _ _ _ _ _ _ _ _ _ _ _ _ _ _ _ [some (.ref (ad 17 0)), some (.int x)] 0 []
  refine z_iload_n C dX6_isInstrument_0 rfl ?_
  refine z_iconst C (v := 0) dX6_isInstrument_1 (by decide) ?_
  refine z_aload_n C dX6_isInstrument_2 rfl ?_
  refine g_17_4 C wd589 dX6_isInstrument_3 ?_
  refine z_iconst C (v := 1) dX6_isInstrument_6 (by decide) ?_
  refine z_isub C dX6_isInstrument_7 ?_
  refine z_csi C (As := [_, _, _]) (c_X6_in) okX6_in wd664 (rok (by decide) (by decide)) ⟨Nat.le_of_ble_eq_true rfl, Nat.le_of_ble_eq_true rfl⟩ rfl (Nat.le_of_ble_eq_true rfl) dX6_isInstrument_8 ?_
  rintro r8 _ ⟨rfl, h8⟩
  rw [hn, bad_out hn31] at h8
  have hz8 : r8 = 0 ∨ r8 = 1 := h8.elim (fun h => Or.inr h.1) (fun h => Or.inl h.1)
  refine z_zret C dX6_isInstrument_11 (by first | exact Or.inl rfl | exact Or.inr rfl | assumption) ?_
  exact ⟨rfl, h8⟩
set_option maxRecDepth 100000 in
set_option maxHeartbeats 4000000 in
theorem c_X6_isOrder {l : Launch} {D : va_G} {ad : Nat → Nat → Nat} {cy : Nat → ClassId} {A : Nat → Prop} {sa : Nat → Nat} {σ : St} {x : Int32} {n : Nat} (hn : σ 17 0 11 = nI n) (hn31 : n < 2 ^ 31) : MI l D ad cy A sa yX6_isOrder cX6_isOrder 2 (some .boolean) 1 σ [.ref (ad 17 0), .int x] (fun r σ' => σ = σ' ∧ ((r = 1 ∧ ¬ bad x (nI n)) ∨ (r = 0 ∧ bad x (nI n)))) := by
  refine MI.mk "FretSchoolModel" (by decide) rfl (Nat.le_of_ble_eq_true rfl) rfl ?_
  intro p e s m args below meth c C
  change Z _ _ _ _ _ _ _ _ _ _ _ _ _ _ _ _ _ _ _ [some (.ref (ad 17 0)), some (.int x)] 0 []
  refine z_iload_n C dX6_isOrder_0 rfl ?_
  refine z_iconst C (v := 0) dX6_isOrder_1 (by decide) ?_
  refine z_aload_n C dX6_isOrder_2 rfl ?_
  refine g_17_11 C wd596 dX6_isOrder_3 ?_
  refine z_iconst C (v := 1) dX6_isOrder_6 (by decide) ?_
  refine z_isub C dX6_isOrder_7 ?_
  refine z_csi C (As := [_, _, _]) (c_X6_in) okX6_in wd664 (rok (by decide) (by decide)) ⟨Nat.le_of_ble_eq_true rfl, Nat.le_of_ble_eq_true rfl⟩ rfl (Nat.le_of_ble_eq_true rfl) dX6_isOrder_8 ?_
  rintro r8 _ ⟨rfl, h8⟩
  rw [hn, bad_out hn31] at h8
  have hz8 : r8 = 0 ∨ r8 = 1 := h8.elim (fun h => Or.inr h.1) (fun h => Or.inl h.1)
  refine z_zret C dX6_isOrder_11 (by first | exact Or.inl rfl | exact Or.inr rfl | assumption) ?_
  exact ⟨rfl, h8⟩
set_option maxRecDepth 100000 in
set_option maxHeartbeats 4000000 in
theorem c_X6_isPupil {l : Launch} {D : va_G} {ad : Nat → Nat → Nat} {cy : Nat → ClassId} {A : Nat → Prop} {sa : Nat → Nat} {σ : St} {x : Int32} : MI l D ad cy A sa yX6_isPupil cX6_isPupil 1 (some .boolean) 1 σ [.int x] (fun r σ' => σ = σ' ∧ ((r = 1 ∧ ¬ outR x 0 4) ∨ (r = 0 ∧ outR x 0 4))) := by
  refine MI.mk "FretSchoolModel" (by decide) rfl (Nat.le_of_ble_eq_true rfl) rfl ?_
  intro p e s m args below meth c C
  change Z _ _ _ _ _ _ _ _ _ _ _ _ _ _ _ _ _ _ _ [some (.int x)] 0 []
  refine z_iload_n C dX6_isPupil_0 rfl ?_
  refine z_iconst C (v := 0) dX6_isPupil_1 (by decide) ?_
  refine z_iconst C (v := 4) dX6_isPupil_2 (by decide) ?_
  refine z_csi C (As := [_, _, _]) (c_X6_in) okX6_in wd664 (rok (by decide) (by decide)) ⟨Nat.le_of_ble_eq_true rfl, Nat.le_of_ble_eq_true rfl⟩ rfl (Nat.le_of_ble_eq_true rfl) dX6_isPupil_3 ?_
  rintro r3 _ ⟨rfl, h3⟩
  have hz3 : r3 = 0 ∨ r3 = 1 := h3.elim (fun h => Or.inr h.1) (fun h => Or.inl h.1)
  refine z_zret C dX6_isPupil_6 (by first | exact Or.inl rfl | exact Or.inr rfl | assumption) ?_
  exact ⟨rfl, h3⟩
set_option maxRecDepth 100000 in
set_option maxHeartbeats 4000000 in
theorem c_X6_isOpen {l : Launch} {D : va_G} {ad : Nat → Nat → Nat} {cy : Nat → ClassId} {A : Nat → Prop} {sa : Nat → Nat} {σ : St} {x : Int32} : MI l D ad cy A sa yX6_isOpen cX6_isOpen 1 (some .boolean) 1 σ [.int x] (fun r σ' => σ = σ' ∧ ((r = 1 ∧ ¬ outR x 0 60) ∨ (r = 0 ∧ outR x 0 60))) := by
  refine MI.mk "FretSchoolModel" (by decide) rfl (Nat.le_of_ble_eq_true rfl) rfl ?_
  intro p e s m args below meth c C
  change Z _ _ _ _ _ _ _ _ _ _ _ _ _ _ _ _ _ _ _ [some (.int x)] 0 []
  refine z_iload_n C dX6_isOpen_0 rfl ?_
  refine z_iconst C (v := 0) dX6_isOpen_1 (by decide) ?_
  refine z_bipush C (v := 60) dX6_isOpen_2 (by decide) ?_
  refine z_csi C (As := [_, _, _]) (c_X6_in) okX6_in wd664 (rok (by decide) (by decide)) ⟨Nat.le_of_ble_eq_true rfl, Nat.le_of_ble_eq_true rfl⟩ rfl (Nat.le_of_ble_eq_true rfl) dX6_isOpen_4 ?_
  rintro r4 _ ⟨rfl, h4⟩
  have hz4 : r4 = 0 ∨ r4 = 1 := h4.elim (fun h => Or.inr h.1) (fun h => Or.inl h.1)
  refine z_zret C dX6_isOpen_7 (by first | exact Or.inl rfl | exact Or.inr rfl | assumption) ?_
  exact ⟨rfl, h4⟩
set_option maxRecDepth 100000 in
set_option maxHeartbeats 4000000 in
theorem c_X6_isNote {l : Launch} {D : va_G} {ad : Nat → Nat → Nat} {cy : Nat → ClassId} {A : Nat → Prop} {sa : Nat → Nat} {σ : St} {g : St} {x y : Int32} (hM : MRel g σ) (hI : Inv g) : MI l D ad cy A sa yX6_isNote cX6_isNote 3 (some .boolean) 2 σ [.ref (ad 17 0), .int x, .int y] (fun r σ' => σ = σ' ∧ ((r = 1 ∧ ¬ (bad x (g 0 0 6) ∨ bad y (g 11 (ix x) 1))) ∨ (r = 0 ∧ (bad x (g 0 0 6) ∨ bad y (g 11 (ix x) 1))))) := by
  refine MI.mk "FretSchoolModel" (by decide) rfl (Nat.le_of_ble_eq_true rfl) rfl ?_
  intro p e s m args below meth c C
  change Z _ _ _ _ _ _ _ _ _ _ _ _ _ _ _ _ _ _ _ [some (.ref (ad 17 0)), some (.int x), some (.int y)] 0 []
  obtain ⟨np, hnp, enp⟩ := hI.1
  have enp1 : σ 17 0 1 = nI np := hM.1.trans enp
  refine z_aload_n C dX6_isNote_0 rfl ?_
  refine z_iload_n C dX6_isNote_1 rfl ?_
  refine z_cvi C (As := [_]) (c_X6_isPiece enp1 (by omega)) okX6_isPiece wd660 rc_17 (rok (by decide) (by decide)) ⟨Nat.le_of_ble_eq_true rfl, Nat.le_of_ble_eq_true rfl⟩ rfl (Nat.le_of_ble_eq_true rfl) dX6_isNote_2 ?_
  rintro r2 _ ⟨rfl, h2⟩
  refine z_if_eq C 28 dX6_isNote_5 (by decide) (fun c_5 => ?_) (fun c_5 => ?_)
  · have hb : bad x (nI np) := h2.elim (fun h => absurd (h.1.symm.trans c_5) (by decide)) (fun h => h.2)
    rw [← enp] at hb
    refine z_iconst C (v := 0) dX6_isNote_28 (by decide) ?_
    refine z_zret C dX6_isNote_29 (by first | exact Or.inl rfl | exact Or.inr rfl | assumption) ?_
    exact ⟨rfl, Or.inr ⟨rfl, Or.inl hb⟩⟩
  · have hb : ¬ bad x (nI np) := h2.elim (fun h => h.2) (fun h => absurd h.1 c_5)
    obtain ⟨ex, hx1, hx2⟩ := nbad hnp (by decide) hb
    rw [← enp] at hb
    obtain ⟨ec, hc16⟩ := hI.2.2.2.1 (ix x) hx2
    refine z_iload_n C dX6_isNote_8 rfl ?_
    refine z_iconst C (v := 0) dX6_isNote_9 (by decide) ?_
    refine z_aload_n C dX6_isNote_10 rfl ?_
    refine g_17_2 C wd587 dX6_isNote_11 ?_
    refine z_iload_n C dX6_isNote_14 rfl ?_
    refine a_18 C ex hx2 dX6_isNote_15 ?_
    refine z_iconst C (v := 1) dX6_isNote_16 (by decide) ?_
    refine z_isub C dX6_isNote_17 ?_
    refine z_csi C (As := [_, _, _]) (c_X6_in) okX6_in wd664 (rok (by decide) (by decide)) ⟨Nat.le_of_ble_eq_true rfl, Nat.le_of_ble_eq_true rfl⟩ rfl (Nat.le_of_ble_eq_true rfl) dX6_isNote_18 ?_
    rintro r18 _ ⟨rfl, h18⟩
    rw [hM.many hx2, ec, bad_out (by omega), ← ec] at h18
    refine z_if_eq C 28 dX6_isNote_21 (by decide) (fun c_21 => ?_) (fun c_21 => ?_)
    · have hb2 : bad y (g 11 (ix x) 1) := h18.elim (fun h => absurd (h.1.symm.trans c_21) (by decide)) (fun h => h.2)
      refine z_iconst C (v := 0) dX6_isNote_28 (by decide) ?_
      refine z_zret C dX6_isNote_29 (by first | exact Or.inl rfl | exact Or.inr rfl | assumption) ?_
      exact ⟨rfl, Or.inr ⟨rfl, Or.inr hb2⟩⟩
    · have hb2 : ¬ bad y (g 11 (ix x) 1) := h18.elim (fun h => h.2) (fun h => absurd h.1 c_21)
      refine z_iconst C (v := 1) dX6_isNote_24 (by decide) ?_
      refine z_goto C 29 dX6_isNote_25 (by decide) ?_
      refine z_zret C dX6_isNote_29 (by first | exact Or.inl rfl | exact Or.inr rfl | assumption) ?_
      exact ⟨rfl, Or.inl ⟨rfl, fun q => q.elim hb hb2⟩⟩
