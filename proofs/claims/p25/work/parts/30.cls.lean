/-! ===== the class FretSchool ===== -/
def bad (p n : Int32) : Prop := p < 0 ∨ ¬ p < n
def outR (x lo hi : Int32) : Prop := x < lo ∨ ¬ x ≤ hi
def ix (p : Int32) : Nat := p.toNatClampNeg
/-- the exception of a code -/
def pxK (L : List String) (K : Nat) (E : String) : Prop := K ≠ 0 ∧ L[K - 1]? = some E
abbrev cN (σ : St) (i : Nat) : Nat := (σ 11 i 1).toNatClampNeg
abbrev fN (σ : St) (q : Nat) : Nat := (σ 13 q 2).toNatClampNeg
/-- what stands of the class's numbers -/
def Inv (σ : St) : Prop := (∃ n, n ≤ 8 ∧ σ 0 0 6 = nI n) ∧ (∃ n, n ≤ 8 ∧ σ 0 0 7 = nI n) ∧ (∃ n, n ≤ 20 ∧ σ 0 0 8 = nI n) ∧ (∀ i, i < 8 → σ 11 i 1 = nI (cN σ i) ∧ cN σ i ≤ 16) ∧ (∀ i, i < 8 → nI i < σ 0 0 7 → σ 13 i 2 = nI (fN σ i) ∧ 4 ≤ fN σ i ∧ fN σ i ≤ 16) ∧ (∀ i, i < 20 → nI i < σ 0 0 8 → ∃ f, σ 16 i 1 = nI f ∧ 4 ≤ f ∧ f ≤ 16) ∧ ∀ i, i < 20 → σ 16 i 3 = 0 ∨ σ 16 i 3 = 1
theorem nbad {p : Int32} {n N : Nat} (hn : n ≤ N) (hN : N < 2 ^ 31) (h : ¬ bad p (nI n)) : p = nI (ix p) ∧ ix p < n ∧ ix p < N := by
  unfold bad at h
  have h1 : ¬ p < 0 := fun q => h (Or.inl q)
  have h2 : p < nI n := Classical.byContradiction fun q => h (Or.inr q)
  obtain ⟨j, hj, rfl⟩ := nI_of h1
  have hj2 : j < n := by rwa [nI_ltI hj (by omega)] at h2
  have e : ix (nI j) = j := nI_clamp hj
  rw [e]
  exact ⟨rfl, hj2, by omega⟩
theorem nout {x : Int32} {n : Nat} (hn : n < 2 ^ 31) (h : ¬ outR x 0 (nI n)) : x = nI (ix x) ∧ ix x ≤ n := by
  unfold outR at h
  have h1 : ¬ x < 0 := fun q => h (Or.inl q)
  have h2 : x ≤ nI n := Classical.byContradiction fun q => h (Or.inr q)
  obtain ⟨j, hj, rfl⟩ := nI_of h1
  have hj2 : j ≤ n := by rwa [nI_leI hj hn] at h2
  have e : ix (nI j) = j := nI_clamp hj
  rw [e]
  exact ⟨rfl, hj2⟩
/-- the best fingering of piece j on instrument q -/
noncomputable abbrev PFs (σ : St) (j q : Nat) : Nat → Nat → Bool := Pf σ j q (fN σ q)
noncomputable abbrev BT (σ : St) (j q : Nat) : Nat := tot (PFs σ j q) (cN σ j)
abbrev PL (σ : St) (j q : Nat) : Prop := 0 < cN σ j ∧ BT σ j q < FARn
noncomputable abbrev HG (σ : St) (j q : Nat) : Nat := grt (PFs σ j q) (cN σ j) (cN σ j)
noncomputable abbrev RW (σ : St) (j q i : Nat) : Nat := rowf (PFs σ j q) (cN σ j) i
def SameC (σ σ' : St) : Prop := ∀ a b c0, a ≠ 6 → a ≠ 7 → a ≠ 9 → a ≠ 10 → σ' a b c0 = σ a b c0
theorem SameC.rf {σ : St} : SameC σ σ := fun _ _ _ _ _ _ _ => rfl
theorem SameC.trans {σ σ1 σ2 : St} (h1 : SameC σ σ1) (h2 : SameC σ1 σ2) : SameC σ σ2 := fun a b c0 x1 x2 x3 x4 => (h2 a b c0 x1 x2 x3 x4).trans (h1 a b c0 x1 x2 x3 x4)
theorem SameC.ecN {σ σ' : St} (h : SameC σ σ') (i : Nat) : cN σ' i = cN σ i := by show (σ' 11 i 1).toNatClampNeg = _; rw [h 11 i 1 (by decide) (by decide) (by decide) (by decide)]
theorem SameC.efN {σ σ' : St} (h : SameC σ σ') (i : Nat) : fN σ' i = fN σ i := by show (σ' 13 i 2).toNatClampNeg = _; rw [h 13 i 2 (by decide) (by decide) (by decide) (by decide)]
theorem SameC.PF {σ σ' : St} (h : SameC σ σ') (j q : Nat) : PFs σ' j q = PFs σ j q := by
  unfold PFs
  rw [h.efN]
  exact Pf_cong (fun i => h 12 j i (by decide) (by decide) (by decide) (by decide)) (fun i => h 14 q i (by decide) (by decide) (by decide) (by decide))
theorem SameC.inv {σ σ' : St} (h : SameC σ σ') (hI : Inv σ) : Inv σ' := by
  obtain ⟨h1, h2, h3, h4, h5, h6, h7⟩ := hI
  unfold Inv
  simp only [h.ecN, h.efN]
  have e : ∀ a b c0, a ≠ 6 → a ≠ 7 → a ≠ 9 → a ≠ 10 → σ' a b c0 = σ a b c0 := h
  rw [e 0 0 6 (by decide) (by decide) (by decide) (by decide), e 0 0 7 (by decide) (by decide) (by decide) (by decide), e 0 0 8 (by decide) (by decide) (by decide) (by decide)]
  refine ⟨h1, h2, h3, fun i hi => ?_, fun i hi hl => ?_, fun i hi hl => ?_, fun i hi => ?_⟩
  · rw [e 11 i 1 (by decide) (by decide) (by decide) (by decide)]; exact h4 i hi
  · rw [e 13 i 2 (by decide) (by decide) (by decide) (by decide)]; exact h5 i hi hl
  · rw [e 16 i 1 (by decide) (by decide) (by decide) (by decide)]; exact h6 i hi hl
  · rw [e 16 i 3 (by decide) (by decide) (by decide) (by decide)]; exact h7 i hi
theorem Inv.fr {σ : St} (hI : Inv σ) {q : Nat} (hq : q < 8) (hl : nI q < σ 0 0 7) : σ 13 q 2 = nI (fN σ q) ∧ 4 ≤ fN σ q ∧ fN σ q ≤ 16 := hI.2.2.2.2.1 q hq hl

set_option maxRecDepth 100000 in
set_option maxHeartbeats 4000000 in
theorem c_X5_needRange {l : Launch} {D : va_G} {ad : Nat → Nat → Nat} {cy : Nat → ClassId} {A : Nat → Prop} {sa : Nat → Nat} {σ : St} {v lo hi : Int32} : XV l D ad cy A sa yX5_needRange cX5_needRange 3 (none : Option Jvm.ClassFile.FieldType) 0 1 σ [.int v, .int lo, .int hi] (fun σ' => σ = σ' ∧ ¬ outR v lo hi) (fun E u => σ = u ∧ E = IAE ∧ outR v lo hi) := by
  refine XV.mk "FretSchool" (by decide) rfl (Nat.le_of_ble_eq_true rfl) rfl ?_
  intro p e s m args below meth c C hex
  change Z _ _ _ _ _ _ _ _ _ _ _ _ _ _ _ _ _ _ _ [some (.int v), some (.int lo), some (.int hi)] 0 []
  refine z_iload_n C dX5_needRange_0 rfl ?_
  refine z_iload_n C dX5_needRange_1 rfl ?_
  refine z_icmp_lt C 10 dX5_needRange_2 (by decide) (fun c_2 => ?_) (fun c_2 => ?_)
  · refine y_iae C hex (tx := "an argument is out of range") (List.mem_of_getElem? (i := 2) rfl) dX5_needRange_10 dX5_needRange_13 dX5_needRange_14 dX5_needRange_16 dX5_needRange_19 ⟨Nat.le_of_ble_eq_true rfl, Nat.le_of_ble_eq_true rfl⟩ (by decide) (by decide) ?_
    exact ⟨rfl, rfl, by first | exact Or.inl c_2 | exact Or.inr c_7⟩
  · refine z_iload_n C dX5_needRange_5 rfl ?_
    refine z_iload_n C dX5_needRange_6 rfl ?_
    refine z_icmp_le C 20 dX5_needRange_7 (by decide) (fun c_7 => ?_) (fun c_7 => ?_)
    · refine y_ret (by decide) (by decide) ?_
      refine z_vret C dX5_needRange_20 ?_
      exact ⟨rfl, fun h => h.elim c_2 (fun q => q c_7)⟩
    · refine y_iae C hex (tx := "an argument is out of range") (List.mem_of_getElem? (i := 2) rfl) dX5_needRange_10 dX5_needRange_13 dX5_needRange_14 dX5_needRange_16 dX5_needRange_19 ⟨Nat.le_of_ble_eq_true rfl, Nat.le_of_ble_eq_true rfl⟩ (by decide) (by decide) ?_
      exact ⟨rfl, rfl, by first | exact Or.inl c_2 | exact Or.inr c_7⟩
set_option maxRecDepth 100000 in
set_option maxHeartbeats 4000000 in
theorem c_X5_needPiece {l : Launch} {D : va_G} {ad : Nat → Nat → Nat} {cy : Nat → ClassId} {A : Nat → Prop} {sa : Nat → Nat} {σ : St} {v : Int32} : XV l D ad cy A sa yX5_needPiece cX5_needPiece 2 (none : Option Jvm.ClassFile.FieldType) 0 1 σ [.ref (ad 0 0), .int v] (fun σ' => σ = σ' ∧ ¬ bad v (σ 0 0 6)) (fun E u => σ = u ∧ E = IOOBE ∧ bad v (σ 0 0 6)) := by
  refine XV.mk "FretSchool" (by decide) rfl (Nat.le_of_ble_eq_true rfl) rfl ?_
  intro p e s m args below meth c C hex
  change Z _ _ _ _ _ _ _ _ _ _ _ _ _ _ _ _ _ _ _ [some (.ref (ad 0 0)), some (.int v)] 0 []
  refine z_iload_n C dX5_needPiece_0 rfl ?_
  refine z_if_lt C 12 dX5_needPiece_1 (by decide) (fun c_1 => ?_) (fun c_1 => ?_)
  · refine y_ioobe C hex (tx := "there is no such piece") (List.mem_of_getElem? (i := 1) rfl) dX5_needPiece_12 dX5_needPiece_15 dX5_needPiece_16 dX5_needPiece_18 dX5_needPiece_21 ⟨Nat.le_of_ble_eq_true rfl, Nat.le_of_ble_eq_true rfl⟩ (by decide) (by decide) ?_
    exact ⟨rfl, rfl, by first | exact Or.inl c_1 | exact Or.inr c_9⟩
  · refine z_iload_n C dX5_needPiece_4 rfl ?_
    refine z_aload_n C dX5_needPiece_5 rfl ?_
    refine g_0_6 C wd146 dX5_needPiece_6 ?_
    refine z_icmp_lt C 22 dX5_needPiece_9 (by decide) (fun c_9 => ?_) (fun c_9 => ?_)
    · refine y_ret (by decide) (by decide) ?_
      refine z_vret C dX5_needPiece_22 ?_
      exact ⟨rfl, fun h => h.elim c_1 (fun q => q c_9)⟩
    · refine y_ioobe C hex (tx := "there is no such piece") (List.mem_of_getElem? (i := 1) rfl) dX5_needPiece_12 dX5_needPiece_15 dX5_needPiece_16 dX5_needPiece_18 dX5_needPiece_21 ⟨Nat.le_of_ble_eq_true rfl, Nat.le_of_ble_eq_true rfl⟩ (by decide) (by decide) ?_
      exact ⟨rfl, rfl, by first | exact Or.inl c_1 | exact Or.inr c_9⟩
set_option maxRecDepth 100000 in
set_option maxHeartbeats 4000000 in
theorem k_X5_needPiece {l : Launch} {D : va_G} {ad : Nat → Nat → Nat} {cy : Nat → ClassId} {A : Nat → Prop} {sa : Nat → Nat} {σ : St} {v : Int32} (hv : ¬ bad v (σ 0 0 6)) : MV l D ad cy A sa yX5_needPiece cX5_needPiece 2 (none : Option Jvm.ClassFile.FieldType) 0 σ [.ref (ad 0 0), .int v] (fun σ' => σ = σ') := by
  refine MV.mk "FretSchool" (by decide) rfl (Nat.le_of_ble_eq_true rfl) rfl ?_
  intro p e s m args below meth c C
  change Z _ _ _ _ _ _ _ _ _ _ _ _ _ _ _ _ _ _ _ [some (.ref (ad 0 0)), some (.int v)] 0 []
  refine z_iload_n C dX5_needPiece_0 rfl ?_
  refine z_if_lt C 12 dX5_needPiece_1 (by decide) (fun c_1 => ?_) (fun c_1 => ?_)
  · exact absurd (Or.inl c_1) hv
  refine z_iload_n C dX5_needPiece_4 rfl ?_
  refine z_aload_n C dX5_needPiece_5 rfl ?_
  refine g_0_6 C wd146 dX5_needPiece_6 ?_
  refine z_icmp_lt C 22 dX5_needPiece_9 (by decide) (fun c_9 => ?_) (fun c_9 => ?_)
  rotate_left
  · exact absurd (Or.inr c_9) hv
  refine z_vret C dX5_needPiece_22 ?_
  rfl
set_option maxRecDepth 100000 in
set_option maxHeartbeats 4000000 in
theorem c_X5_needInstrument {l : Launch} {D : va_G} {ad : Nat → Nat → Nat} {cy : Nat → ClassId} {A : Nat → Prop} {sa : Nat → Nat} {σ : St} {v : Int32} : XV l D ad cy A sa yX5_needInstrument cX5_needInstrument 2 (none : Option Jvm.ClassFile.FieldType) 0 1 σ [.ref (ad 0 0), .int v] (fun σ' => σ = σ' ∧ ¬ bad v (σ 0 0 7)) (fun E u => σ = u ∧ E = IOOBE ∧ bad v (σ 0 0 7)) := by
  refine XV.mk "FretSchool" (by decide) rfl (Nat.le_of_ble_eq_true rfl) rfl ?_
  intro p e s m args below meth c C hex
  change Z _ _ _ _ _ _ _ _ _ _ _ _ _ _ _ _ _ _ _ [some (.ref (ad 0 0)), some (.int v)] 0 []
  refine z_iload_n C dX5_needInstrument_0 rfl ?_
  refine z_if_lt C 12 dX5_needInstrument_1 (by decide) (fun c_1 => ?_) (fun c_1 => ?_)
  · refine y_ioobe C hex (tx := "there is no such instrument") (List.mem_of_getElem? (i := 6) rfl) dX5_needInstrument_12 dX5_needInstrument_15 dX5_needInstrument_16 dX5_needInstrument_18 dX5_needInstrument_21 ⟨Nat.le_of_ble_eq_true rfl, Nat.le_of_ble_eq_true rfl⟩ (by decide) (by decide) ?_
    exact ⟨rfl, rfl, by first | exact Or.inl c_1 | exact Or.inr c_9⟩
  · refine z_iload_n C dX5_needInstrument_4 rfl ?_
    refine z_aload_n C dX5_needInstrument_5 rfl ?_
    refine g_0_7 C wd147 dX5_needInstrument_6 ?_
    refine z_icmp_lt C 22 dX5_needInstrument_9 (by decide) (fun c_9 => ?_) (fun c_9 => ?_)
    · refine y_ret (by decide) (by decide) ?_
      refine z_vret C dX5_needInstrument_22 ?_
      exact ⟨rfl, fun h => h.elim c_1 (fun q => q c_9)⟩
    · refine y_ioobe C hex (tx := "there is no such instrument") (List.mem_of_getElem? (i := 6) rfl) dX5_needInstrument_12 dX5_needInstrument_15 dX5_needInstrument_16 dX5_needInstrument_18 dX5_needInstrument_21 ⟨Nat.le_of_ble_eq_true rfl, Nat.le_of_ble_eq_true rfl⟩ (by decide) (by decide) ?_
      exact ⟨rfl, rfl, by first | exact Or.inl c_1 | exact Or.inr c_9⟩
set_option maxRecDepth 100000 in
set_option maxHeartbeats 4000000 in
theorem k_X5_needInstrument {l : Launch} {D : va_G} {ad : Nat → Nat → Nat} {cy : Nat → ClassId} {A : Nat → Prop} {sa : Nat → Nat} {σ : St} {v : Int32} (hv : ¬ bad v (σ 0 0 7)) : MV l D ad cy A sa yX5_needInstrument cX5_needInstrument 2 (none : Option Jvm.ClassFile.FieldType) 0 σ [.ref (ad 0 0), .int v] (fun σ' => σ = σ') := by
  refine MV.mk "FretSchool" (by decide) rfl (Nat.le_of_ble_eq_true rfl) rfl ?_
  intro p e s m args below meth c C
  change Z _ _ _ _ _ _ _ _ _ _ _ _ _ _ _ _ _ _ _ [some (.ref (ad 0 0)), some (.int v)] 0 []
  refine z_iload_n C dX5_needInstrument_0 rfl ?_
  refine z_if_lt C 12 dX5_needInstrument_1 (by decide) (fun c_1 => ?_) (fun c_1 => ?_)
  · exact absurd (Or.inl c_1) hv
  refine z_iload_n C dX5_needInstrument_4 rfl ?_
  refine z_aload_n C dX5_needInstrument_5 rfl ?_
  refine g_0_7 C wd147 dX5_needInstrument_6 ?_
  refine z_icmp_lt C 22 dX5_needInstrument_9 (by decide) (fun c_9 => ?_) (fun c_9 => ?_)
  rotate_left
  · exact absurd (Or.inr c_9) hv
  refine z_vret C dX5_needInstrument_22 ?_
  rfl
set_option maxRecDepth 100000 in
set_option maxHeartbeats 4000000 in
theorem c_X5_needOrder {l : Launch} {D : va_G} {ad : Nat → Nat → Nat} {cy : Nat → ClassId} {A : Nat → Prop} {sa : Nat → Nat} {σ : St} {v : Int32} : XV l D ad cy A sa yX5_needOrder cX5_needOrder 2 (none : Option Jvm.ClassFile.FieldType) 0 1 σ [.ref (ad 0 0), .int v] (fun σ' => σ = σ' ∧ ¬ bad v (σ 0 0 8)) (fun E u => σ = u ∧ E = IOOBE ∧ bad v (σ 0 0 8)) := by
  refine XV.mk "FretSchool" (by decide) rfl (Nat.le_of_ble_eq_true rfl) rfl ?_
  intro p e s m args below meth c C hex
  change Z _ _ _ _ _ _ _ _ _ _ _ _ _ _ _ _ _ _ _ [some (.ref (ad 0 0)), some (.int v)] 0 []
  refine z_iload_n C dX5_needOrder_0 rfl ?_
  refine z_if_lt C 12 dX5_needOrder_1 (by decide) (fun c_1 => ?_) (fun c_1 => ?_)
  · refine y_ioobe C hex (tx := "there is no such order") (List.mem_of_getElem? (i := 13) rfl) dX5_needOrder_12 dX5_needOrder_15 dX5_needOrder_16 dX5_needOrder_18 dX5_needOrder_21 ⟨Nat.le_of_ble_eq_true rfl, Nat.le_of_ble_eq_true rfl⟩ (by decide) (by decide) ?_
    exact ⟨rfl, rfl, by first | exact Or.inl c_1 | exact Or.inr c_9⟩
  · refine z_iload_n C dX5_needOrder_4 rfl ?_
    refine z_aload_n C dX5_needOrder_5 rfl ?_
    refine g_0_8 C wd148 dX5_needOrder_6 ?_
    refine z_icmp_lt C 22 dX5_needOrder_9 (by decide) (fun c_9 => ?_) (fun c_9 => ?_)
    · refine y_ret (by decide) (by decide) ?_
      refine z_vret C dX5_needOrder_22 ?_
      exact ⟨rfl, fun h => h.elim c_1 (fun q => q c_9)⟩
    · refine y_ioobe C hex (tx := "there is no such order") (List.mem_of_getElem? (i := 13) rfl) dX5_needOrder_12 dX5_needOrder_15 dX5_needOrder_16 dX5_needOrder_18 dX5_needOrder_21 ⟨Nat.le_of_ble_eq_true rfl, Nat.le_of_ble_eq_true rfl⟩ (by decide) (by decide) ?_
      exact ⟨rfl, rfl, by first | exact Or.inl c_1 | exact Or.inr c_9⟩
set_option maxRecDepth 100000 in
set_option maxHeartbeats 4000000 in
theorem c_X5_needPupil {l : Launch} {D : va_G} {ad : Nat → Nat → Nat} {cy : Nat → ClassId} {A : Nat → Prop} {sa : Nat → Nat} {σ : St} {v : Int32} : XV l D ad cy A sa yX5_needPupil cX5_needPupil 1 (none : Option Jvm.ClassFile.FieldType) 1 1 σ [.int v] (fun σ' => σ = σ' ∧ ¬ outR v 0 4) (fun E u => σ = u ∧ E = IAE ∧ outR v 0 4) := by
  refine XV.mk "FretSchool" (by decide) rfl (Nat.le_of_ble_eq_true rfl) rfl ?_
  intro p e s m args below meth c C hex
  change Z _ _ _ _ _ _ _ _ _ _ _ _ _ _ _ _ _ _ _ [some (.int v)] 0 []
  refine z_iload_n C dX5_needPupil_0 rfl ?_
  refine z_iconst C (v := 0) dX5_needPupil_1 (by decide) ?_
  refine z_iconst C (v := 4) dX5_needPupil_2 (by decide) ?_
  refine y_csv C (As := [_, _, _]) (c_X5_needRange) okX5_needRange wd195 (rok (by decide) (by decide)) ⟨Nat.le_of_ble_eq_true rfl, Nat.le_of_ble_eq_true rfl⟩ rfl (Nat.le_of_ble_eq_true rfl) dX5_needPupil_3 (x_on C hex (by decide) (by decide) (fun _ _ h => h)) ?_
  rintro _ ⟨rfl, hr3⟩
  refine y_ret (by decide) (by decide) ?_
  refine z_vret C dX5_needPupil_6 ?_
  exact ⟨rfl, hr3⟩
set_option maxRecDepth 100000 in
set_option maxHeartbeats 4000000 in
theorem c_X5_needNote {l : Launch} {D : va_G} {ad : Nat → Nat → Nat} {cy : Nat → ClassId} {A : Nat → Prop} {sa : Nat → Nat} {σ : St} {v w : Int32} (hI : Inv σ) : XV l D ad cy A sa yX5_needNote cX5_needNote 3 (none : Option Jvm.ClassFile.FieldType) 1 2 σ [.ref (ad 0 0), .int v, .int w] (fun σ' => σ = σ' ∧ ¬ bad v (σ 0 0 6) ∧ ¬ bad w (σ 11 (ix v) 1)) (fun E u => σ = u ∧ E = IOOBE ∧ (bad v (σ 0 0 6) ∨ bad w (σ 11 (ix v) 1))) := by
  refine XV.mk "FretSchool" (by decide) rfl (Nat.le_of_ble_eq_true rfl) rfl ?_
  intro p e s m args below meth c C hex
  change Z _ _ _ _ _ _ _ _ _ _ _ _ _ _ _ _ _ _ _ [some (.ref (ad 0 0)), some (.int v), some (.int w)] 0 []
  refine z_aload_n C dX5_needNote_0 rfl ?_
  refine z_iload_n C dX5_needNote_1 rfl ?_
  refine y_cvv C (As := [_]) (c_X5_needPiece) okX5_needPiece wd346 rc_0 (rok (by decide) (by decide)) ⟨Nat.le_of_ble_eq_true rfl, Nat.le_of_ble_eq_true rfl⟩ rfl (Nat.le_of_ble_eq_true rfl) dX5_needNote_2 (x_on C hex (by decide) (by decide) (fun _ _ h => ⟨h.1, h.2.1, Or.inl h.2.2⟩)) ?_
  rintro _ ⟨rfl, hr2⟩
  obtain ⟨np, hnp, enp⟩ := hI.1
  rw [enp] at hr2
  obtain ⟨ev, hv1, hv2⟩ := nbad hnp (by decide) hr2
  rw [← enp] at hr2
  refine z_iload_n C dX5_needNote_5 rfl ?_
  refine z_if_lt C 22 dX5_needNote_6 (by decide) (fun c_6 => ?_) (fun c_6 => ?_)
  · refine y_ioobe C hex (tx := "there is no such note") (List.mem_of_getElem? (i := 5) rfl) dX5_needNote_22 dX5_needNote_25 dX5_needNote_26 dX5_needNote_28 dX5_needNote_31 ⟨Nat.le_of_ble_eq_true rfl, Nat.le_of_ble_eq_true rfl⟩ (by decide) (by decide) ?_
    exact ⟨rfl, rfl, Or.inr (by first | exact Or.inl c_6 | exact Or.inr c_19)⟩
  · refine z_iload_n C dX5_needNote_9 rfl ?_
    refine z_aload_n C dX5_needNote_10 rfl ?_
    refine g_0_0 C wd140 dX5_needNote_11 ?_
    refine z_iload_n C dX5_needNote_14 rfl ?_
    refine a_1 C ev hv2 dX5_needNote_15 ?_
    refine g_11_1 hv2 C wd47 dX5_needNote_16 ?_
    refine z_icmp_lt C 32 dX5_needNote_19 (by decide) (fun c_19 => ?_) (fun c_19 => ?_)
    · refine y_ret (by decide) (by decide) ?_
      refine z_vret C dX5_needNote_32 ?_
      exact ⟨rfl, hr2, fun h => h.elim c_6 (fun q => q c_19)⟩
    · refine y_ioobe C hex (tx := "there is no such note") (List.mem_of_getElem? (i := 5) rfl) dX5_needNote_22 dX5_needNote_25 dX5_needNote_26 dX5_needNote_28 dX5_needNote_31 ⟨Nat.le_of_ble_eq_true rfl, Nat.le_of_ble_eq_true rfl⟩ (by decide) (by decide) ?_
      exact ⟨rfl, rfl, Or.inr (by first | exact Or.inl c_6 | exact Or.inr c_19)⟩
def K_begin (σ : St) : Nat := if ¬ σ 0 0 6 < 8 then 1 else 0
set_option maxRecDepth 100000 in
set_option maxHeartbeats 4000000 in
theorem c_X5_begin {l : Launch} {D : va_G} {ad : Nat → Nat → Nat} {cy : Nat → ClassId} {A : Nat → Prop} {sa : Nat → Nat} {σ : St} : XI l D ad cy A sa yX5_begin cX5_begin 2 (some .int) 0 1 σ [.ref (ad 0 0)] (fun r σ' => K_begin σ = 0 ∧ r = σ 0 0 6 ∧ up σ 0 0 6 (σ 0 0 6 + 1) = σ') (fun E u => σ = u ∧ pxK [ISE] (K_begin σ) E) := by
  refine XI.mk "FretSchool" (by decide) rfl (Nat.le_of_ble_eq_true rfl) rfl ?_
  intro p e s m args below meth c C hex
  change Z _ _ _ _ _ _ _ _ _ _ _ _ _ _ _ _ _ _ _ [some (.ref (ad 0 0)), none] 0 []
  refine z_aload_n C dX5_begin_0 rfl ?_
  refine g_0_6 C wd146 dX5_begin_1 ?_
  refine z_bipush C (v := 8) dX5_begin_4 (by decide) ?_
  refine z_icmp_lt C 19 dX5_begin_6 (by decide) (fun c_6 => ?_) (fun c_6 => ?_)
  · refine z_aload_n C dX5_begin_19 rfl ?_
    refine g_0_6 C wd146 dX5_begin_20 ?_
    refine z_istore_n C dX5_begin_23 (by decide) ?_
    dsimp only [List.set]
    refine z_aload_n C dX5_begin_24 rfl ?_
    refine z_dup C dX5_begin_25 rfl ?_
    refine g_0_6 C wd146 dX5_begin_26 ?_
    refine z_iconst C (v := 1) dX5_begin_29 (by decide) ?_
    refine z_iadd C dX5_begin_30 ?_
    refine p_0_6 C wd146 dX5_begin_31 ?_
    refine z_iload_n C dX5_begin_34 rfl ?_
    refine y_ret (by decide) (by decide) ?_
    refine z_iret C dX5_begin_35 ?_
    exact ⟨if_neg (fun q => q c_6), rfl, rfl⟩
  · refine y_ise C hex (tx := "there are 8 pieces") (List.mem_of_getElem? (i := 0) rfl) dX5_begin_9 dX5_begin_12 dX5_begin_13 dX5_begin_15 dX5_begin_18 ⟨Nat.le_of_ble_eq_true rfl, Nat.le_of_ble_eq_true rfl⟩ (by decide) (by decide) ?_
    exact ⟨rfl, by unfold K_begin; rw [if_pos c_6]; exact ⟨by decide, rfl⟩⟩
noncomputable def K_addNote (σ : St) (p x : Int32) : Nat := by
  classical exact if bad p (σ 0 0 6) then 1 else if outR x 0 80 then 2 else if ¬ σ 11 (ix p) 1 < 16 then 3 else 0
set_option maxRecDepth 100000 in
set_option maxHeartbeats 4000000 in
theorem c_X5_addNote {l : Launch} {D : va_G} {ad : Nat → Nat → Nat} {cy : Nat → ClassId} {A : Nat → Prop} {sa : Nat → Nat} {σ : St} {x y : Int32} (hI : Inv σ) : XI l D ad cy A sa yX5_addNote cX5_addNote 4 (some .int) 3 3 σ [.ref (ad 0 0), .int x, .int y] (fun r σ' => K_addNote σ x y = 0 ∧ r = nI (cN σ (ix x) + 1) ∧ up (up σ 12 (ix x) (cN σ (ix x)) y) 11 (ix x) 1 (nI (cN σ (ix x) + 1)) = σ') (fun E u => σ = u ∧ pxK [IOOBE, IAE, ISE] (K_addNote σ x y) E) := by
  refine XI.mk "FretSchool" (by decide) rfl (Nat.le_of_ble_eq_true rfl) rfl ?_
  intro p e s m args below meth c C hex
  change Z _ _ _ _ _ _ _ _ _ _ _ _ _ _ _ _ _ _ _ [some (.ref (ad 0 0)), some (.int x), some (.int y), none] 0 []
  refine z_aload_n C dX5_addNote_0 rfl ?_
  refine z_iload_n C dX5_addNote_1 rfl ?_
  refine y_cvv C (As := [_]) (c_X5_needPiece) okX5_needPiece wd346 rc_0 (rok (by decide) (by decide)) ⟨Nat.le_of_ble_eq_true rfl, Nat.le_of_ble_eq_true rfl⟩ rfl (Nat.le_of_ble_eq_true rfl) dX5_addNote_2 (x_on C hex (by decide) (by decide) (fun E u h => ⟨h.1, by unfold K_addNote; rw [if_pos h.2.2]; exact ⟨by decide, congrArg some h.2.1.symm⟩⟩)) ?_
  rintro _ ⟨rfl, hr2⟩
  obtain ⟨np, hnp, enp⟩ := hI.1
  rw [enp] at hr2
  obtain ⟨ev, hv1, hv2⟩ := nbad hnp (by decide) hr2
  rw [← enp] at hr2
  obtain ⟨ec, hc16⟩ := hI.2.2.2.1 (ix x) hv2
  refine z_iload_n C dX5_addNote_5 rfl ?_
  refine z_iconst C (v := 0) dX5_addNote_6 (by decide) ?_
  refine z_bipush C (v := 80) dX5_addNote_7 (by decide) ?_
  refine y_csv C (As := [_, _, _]) (c_X5_needRange) okX5_needRange wd195 (rok (by decide) (by decide)) ⟨Nat.le_of_ble_eq_true rfl, Nat.le_of_ble_eq_true rfl⟩ rfl (Nat.le_of_ble_eq_true rfl) dX5_addNote_9 (x_on C hex (by decide) (by decide) (fun E u h => ⟨h.1, by unfold K_addNote; rw [if_neg hr2, if_pos h.2.2]; exact ⟨by decide, congrArg some h.2.1.symm⟩⟩)) ?_
  rintro _ ⟨rfl, hr9⟩
  refine z_aload_n C dX5_addNote_12 rfl ?_
  refine g_0_0 C wd140 dX5_addNote_13 ?_
  refine z_iload_n C dX5_addNote_16 rfl ?_
  refine a_1 C ev hv2 dX5_addNote_17 ?_
  refine z_astore_n C dX5_addNote_18 (by decide) ?_
  dsimp only [List.set]
  refine z_aload_n C dX5_addNote_19 rfl ?_
  refine z_cvi C (As := []) (c_X3_isFull hv2) okX3_isFull wd469 (rc_11 hv2) (rok (by decide) (by decide)) ⟨Nat.le_of_ble_eq_true rfl, Nat.le_of_ble_eq_true rfl⟩ rfl (Nat.le_of_ble_eq_true rfl) dX5_addNote_20 ?_
  rintro r20 _ ⟨e20, rfl⟩
  refine z_if_eq C 36 dX5_addNote_23 (by decide) (fun c_23 => ?_) (fun c_23 => ?_)
  · have hlt : cN σ (ix x) < 16 := by
      apply Classical.byContradiction
      intro q
      rw [e20, if_neg (by rw [ec, show (16 : Int32) = nI 16 from rfl, nI_ltI (by omega) (by decide)]; exact q)] at c_23
      exact absurd c_23 (by decide)
    have hlt2 : σ 11 (ix x) 1 < 16 := by rw [ec]; exact nI_lt (b := 16) hlt (by decide)
    refine z_aload_n C dX5_addNote_36 rfl ?_
    refine z_iload_n C dX5_addNote_37 rfl ?_
    refine z_cvv C (As := [_]) (c_X3_append hv2 ec hlt) okX3_append wd474 (rc_11 hv2) (rok (by decide) (by decide)) ⟨Nat.le_of_ble_eq_true rfl, Nat.le_of_ble_eq_true rfl⟩ rfl (Nat.le_of_ble_eq_true rfl) dX5_addNote_38 ?_
    rintro _ rfl
    refine z_aload_n C dX5_addNote_41 rfl ?_
    refine g_11_1 hv2 C wd47 dX5_addNote_42 ?_
    refine y_ret (by decide) (by decide) ?_
    refine z_iret C dX5_addNote_45 ?_
    refine ⟨by unfold K_addNote; rw [if_neg hr2, if_neg hr9, if_neg (fun q => q hlt2)], ?_, rfl⟩
    rw [up_app, if_pos ⟨rfl, rfl, rfl⟩]
  · have hge : ¬ σ 11 (ix x) 1 < 16 := by
      intro q
      rw [e20, if_pos q] at c_23
      exact c_23 rfl
    refine y_ise C hex (tx := "the piece has 16 notes") (List.mem_of_getElem? (i := 3) rfl) dX5_addNote_26 dX5_addNote_29 dX5_addNote_30 dX5_addNote_32 dX5_addNote_35 ⟨Nat.le_of_ble_eq_true rfl, Nat.le_of_ble_eq_true rfl⟩ (by decide) (by decide) ?_
    exact ⟨rfl, by unfold K_addNote; rw [if_neg hr2, if_neg hr9, if_pos hge]; exact ⟨by decide, rfl⟩⟩
