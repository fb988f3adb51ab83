/-! ===== the invariant after what pieces does ===== -/
theorem K_begin_0 {σ : St} (h : σ 0 0 6 < 8) : K_begin σ = 0 := by unfold K_begin; rw [if_neg (fun q => q h)]
theorem K_begin_1 {σ : St} (h : ¬ σ 0 0 6 < 8) : K_begin σ = 1 := by unfold K_begin; rw [if_pos h]
theorem K_addNote_1 {σ : St} {p x : Int32} (h : bad p (σ 0 0 6)) : K_addNote σ p x = 1 := by unfold K_addNote; rw [if_pos h]
theorem K_addNote_2 {σ : St} {p x : Int32} (h1 : ¬ bad p (σ 0 0 6)) (h : outR x 0 80) : K_addNote σ p x = 2 := by unfold K_addNote; rw [if_neg h1, if_pos h]
theorem K_addNote_z {σ : St} {p x : Int32} (h1 : ¬ bad p (σ 0 0 6)) (h2 : ¬ outR x 0 80) (h : σ 11 (ix p) 1 < 16) : K_addNote σ p x = 0 := by unfold K_addNote; rw [if_neg h1, if_neg h2]; simp [h]
theorem K_addNote_3 {σ : St} {p x : Int32} (h1 : ¬ bad p (σ 0 0 6)) (h2 : ¬ outR x 0 80) (h : ¬ σ 11 (ix p) 1 < 16) : K_addNote σ p x = 3 := by unfold K_addNote; rw [if_neg h1, if_neg h2]; simp [h]
theorem K_trans_1 {σ : St} {p x : Int32} (h : bad p (σ 0 0 6)) : K_trans σ p x = 1 := by unfold K_trans; rw [if_pos h]
theorem K_trans_2 {σ : St} {p x : Int32} (h1 : ¬ bad p (σ 0 0 6)) (h : outR x (-40) 40) : K_trans σ p x = 2 := by unfold K_trans; rw [if_neg h1, if_pos h]
theorem K_trans_3 {σ : St} {p x : Int32} (h1 : ¬ bad p (σ 0 0 6)) (h2 : ¬ outR x (-40) 40) (h : ¬ canMv σ (ix p) x) : K_trans σ p x = 3 := by unfold K_trans; rw [if_neg h1, if_neg h2, if_pos h]
theorem K_trans_z {σ : St} {p x : Int32} (h1 : ¬ bad p (σ 0 0 6)) (h2 : ¬ outR x (-40) 40) (h : canMv σ (ix p) x) : K_trans σ p x = 0 := by unfold K_trans; rw [if_neg h1, if_neg h2, if_neg (fun q => q h)]
set_option maxHeartbeats 1000000 in
theorem LInv_begin {T : Nat} {σ : St} (hL : LInv T σ) {np : Nat} (enp : σ 0 0 6 = nI np) (hn8 : np < 8) : LInv (T) (up (up σ 22 0 0 (nI np + 1)) 0 0 6 ((up σ 22 0 0 (nI np + 1)) 0 0 6 + 1)) := by
  obtain ⟨h1, ⟨h2a, h2b, h2c, h2d⟩, h3, h4, h5, h6, h7, h8, h9, h10, h11⟩ := id hL
  have hInv : Inv (up (up σ 22 0 0 (nI np + 1)) 0 0 6 ((up σ 22 0 0 (nI np + 1)) 0 0 6 + 1)) := Inv_begin (Inv_law (by omega) h1) (K_begin_0 (by rw [up_n (by omega), enp]; exact nI_lt (b := 8) hn8 (by omega)))
  obtain ⟨τ, hτ⟩ : ∃ τ, τ = up (up σ 22 0 0 (nI np + 1)) 0 0 6 ((up σ 22 0 0 (nI np + 1)) 0 0 6 + 1) := ⟨_, rfl⟩
  rw [← hτ] at hInv ⊢
  have e : ∀ a b c0, (¬ (a = 22 ∧ c0 = 0) ∧ ¬ (a = 0 ∧ c0 = 6)) → τ a b c0 = σ a b c0 := fun a b c0 h => by
    rw [hτ]
    rw [up_n (by omega), up_n (by omega)]
  refine ⟨hInv, ⟨?_, ?_, ?_, ?_⟩, ?_, fun i hi => ?_, fun i hi hl => ?_, fun i j hi hj => ?_, fun i hi hl => ?_, fun i hi hl => ?_, fun j hj => ?_, fun i hi => ?_, fun i hi hl => ?_⟩
  · rw [hτ, up_n (by omega), up_at, up_at, up_n (by omega), enp]
  · rw [e 22 0 1 (by omega), e 0 0 7 (by omega)]; exact h2b
  · rw [e 22 0 2 (by omega), e 0 0 8 (by omega)]; exact h2c
  · rw [e 22 0 3 (by omega), e 0 0 9 (by omega)]; exact h2d
  · rw [e 0 0 9 (by omega)]; exact h3
  · rw [e 17 0 i (by omega), e 11 i 1 (by omega)]; exact h4 i hi
  · rw [e 11 i 1 (by omega)]
    refine h5 i hi (fun q => hl ?_)
    rw [hτ, up_at, up_n (by omega), enp, nI_1]
    rw [enp, nI_ltI (by omega) (by omega)] at q
    exact nI_lt (by omega) (by omega)
  · rw [e 18 0 (4 * i + j) (by omega), e 14 i j (by omega)]; exact h6 i j hi hj
  · rw [e 0 0 7 (by omega)] at hl
    rw [e 13 i 1 (by omega), e 19 0 i (by omega), show fN τ i = fN σ i from congrArg Int32.toNatClampNeg (e 13 i 2 (by omega))]; exact h7 i hi hl
  · rw [e 0 0 8 (by omega)] at hl
    rw [e 16 i 0 (by omega), e 16 i 1 (by omega), e 16 i 3 (by omega), e 20 0 i (by omega)]; exact h8 i hi hl
  · rw [e 21 0 j (by omega), e 5 0 j (by omega)]; exact h9 j hj
  · rw [e 15 i 0 (by omega)]; exact h10 i hi
  · rw [e 0 0 8 (by omega)] at hl
    rw [e 16 i 3 (by omega)]; exact h11 i hi hl
set_option maxHeartbeats 1000000 in
theorem LInv_addNote {T : Nat} {σ : St} (hL : LInv T σ) {np j c p : Nat} (enp : σ 0 0 6 = nI np) (hnp : np ≤ 8) (hj : j < np) (ec : σ 11 j 1 = nI c) (hc : c < 16) (hp : p ≤ 80) : LInv (T) (up (up (up σ 17 0 j (nI c + 1)) 12 j c (nI p)) 11 j 1 (nI (c + 1))) := by
  obtain ⟨h1, ⟨h2a, h2b, h2c, h2d⟩, h3, h4, h5, h6, h7, h8, h9, h10, h11⟩ := id hL
  have hInv : Inv (up (up (up σ 17 0 j (nI c + 1)) 12 j c (nI p)) 11 j 1 (nI (c + 1))) := by
    have eix : ix (nI j) = j := ix_nI (by omega)
    have ecN : cN (up σ 17 0 j (nI c + 1)) j = c := by show ((up σ 17 0 j (nI c + 1)) 11 j 1).toNatClampNeg = c; rw [up_n (by omega), ec, nI_clamp (by omega)]
    have h := Inv_addNote (σ := up σ 17 0 j (nI c + 1)) (x := nI j) (y := nI p) (Inv_law (by omega) h1) (K_addNote_z (by rw [up_n (by omega), enp]; exact ok_nI hj (by omega)) (in_nI (a := 0) (b := 80) (by omega) hp (by omega)) (by rw [eix, up_n (by omega), ec]; exact nI_lt (b := 16) hc (by omega)))
    rw [eix, ecN] at h
    exact h
  obtain ⟨τ, hτ⟩ : ∃ τ, τ = up (up (up σ 17 0 j (nI c + 1)) 12 j c (nI p)) 11 j 1 (nI (c + 1)) := ⟨_, rfl⟩
  rw [← hτ] at hInv ⊢
  have e : ∀ a b c0, (a ≠ 12 ∧ ¬ (a = 17 ∧ c0 = j) ∧ ¬ (a = 11 ∧ b = j)) → τ a b c0 = σ a b c0 := fun a b c0 h => by
    rw [hτ]
    rw [up_n (by omega), up_n (by omega), up_n (by omega)]
  refine ⟨hInv, ⟨?_, ?_, ?_, ?_⟩, ?_, fun i hi => ?_, fun i hi hl => ?_, fun i j hi hj => ?_, fun i hi hl => ?_, fun i hi hl => ?_, fun j hj => ?_, fun i hi => ?_, fun i hi hl => ?_⟩
  · rw [e 22 0 0 (by omega), e 0 0 6 (by omega)]; exact h2a
  · rw [e 22 0 1 (by omega), e 0 0 7 (by omega)]; exact h2b
  · rw [e 22 0 2 (by omega), e 0 0 8 (by omega)]; exact h2c
  · rw [e 22 0 3 (by omega), e 0 0 9 (by omega)]; exact h2d
  · rw [e 0 0 9 (by omega)]; exact h3
  · by_cases q : i = j
    · rw [q, hτ, up_n (by omega), up_n (by omega), up_at, up_at, nI_1]
    · rw [e 17 0 i (by omega), e 11 i 1 (by omega)]; exact h4 i hi
  · rw [e 0 0 6 (by omega)] at hl
    have hij : i ≠ j := fun q => hl (by rw [enp, q]; exact nI_lt hj (by omega))
    rw [e 11 i 1 (by omega)]; exact h5 i hi hl
  · rw [e 18 0 (4 * i + j) (by omega), e 14 i j (by omega)]; exact h6 i j hi hj
  · rw [e 0 0 7 (by omega)] at hl
    rw [e 13 i 1 (by omega), e 19 0 i (by omega), show fN τ i = fN σ i from congrArg Int32.toNatClampNeg (e 13 i 2 (by omega))]; exact h7 i hi hl
  · rw [e 0 0 8 (by omega)] at hl
    rw [e 16 i 0 (by omega), e 16 i 1 (by omega), e 16 i 3 (by omega), e 20 0 i (by omega)]; exact h8 i hi hl
  · rw [e 21 0 j (by omega), e 5 0 j (by omega)]; exact h9 j hj
  · rw [e 15 i 0 (by omega)]; exact h10 i hi
  · rw [e 0 0 8 (by omega)] at hl
    rw [e 16 i 3 (by omega)]; exact h11 i hi hl
set_option maxHeartbeats 1000000 in
theorem LInv_mvd {T : Nat} {σ : St} (hL : LInv T σ) {j n : Nat} {x : Int32} : LInv (T) (mvd σ j x n) := by
  obtain ⟨h1, ⟨h2a, h2b, h2c, h2d⟩, h3, h4, h5, h6, h7, h8, h9, h10, h11⟩ := id hL
  have hInv : Inv (mvd σ j x n) := Inv_mvd h1
  obtain ⟨τ, hτ⟩ : ∃ τ, τ = mvd σ j x n := ⟨_, rfl⟩
  rw [← hτ] at hInv ⊢
  have e : ∀ a b c0, (a ≠ 12) → τ a b c0 = σ a b c0 := fun a b c0 h => by
    rw [hτ]
    rw [mvd_app, if_neg (by omega)]
  refine ⟨hInv, ⟨?_, ?_, ?_, ?_⟩, ?_, fun i hi => ?_, fun i hi hl => ?_, fun i j hi hj => ?_, fun i hi hl => ?_, fun i hi hl => ?_, fun j hj => ?_, fun i hi => ?_, fun i hi hl => ?_⟩
  · rw [e 22 0 0 (by omega), e 0 0 6 (by omega)]; exact h2a
  · rw [e 22 0 1 (by omega), e 0 0 7 (by omega)]; exact h2b
  · rw [e 22 0 2 (by omega), e 0 0 8 (by omega)]; exact h2c
  · rw [e 22 0 3 (by omega), e 0 0 9 (by omega)]; exact h2d
  · rw [e 0 0 9 (by omega)]; exact h3
  · rw [e 17 0 i (by omega), e 11 i 1 (by omega)]; exact h4 i hi
  · rw [e 0 0 6 (by omega)] at hl
    rw [e 11 i 1 (by omega)]; exact h5 i hi hl
  · rw [e 18 0 (4 * i + j) (by omega), e 14 i j (by omega)]; exact h6 i j hi hj
  · rw [e 0 0 7 (by omega)] at hl
    rw [e 13 i 1 (by omega), e 19 0 i (by omega), show fN τ i = fN σ i from congrArg Int32.toNatClampNeg (e 13 i 2 (by omega))]; exact h7 i hi hl
  · rw [e 0 0 8 (by omega)] at hl
    rw [e 16 i 0 (by omega), e 16 i 1 (by omega), e 16 i 3 (by omega), e 20 0 i (by omega)]; exact h8 i hi hl
  · rw [e 21 0 j (by omega), e 5 0 j (by omega)]; exact h9 j hj
  · rw [e 15 i 0 (by omega)]; exact h10 i hi
  · rw [e 0 0 8 (by omega)] at hl
    rw [e 16 i 3 (by omega)]; exact h11 i hi hl
