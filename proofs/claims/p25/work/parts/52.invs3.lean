/-! ===== the invariant after what orders, fetches, acts do ===== -/
theorem K_order_1 {σ : St} {w t x : Int32} (h : outR w 0 4 ∨ outR t 0 3 ∨ outR x 4 16) : K_order σ w t x = 1 := by unfold K_order; rw [if_pos h]
theorem K_order_2 {σ : St} {w t x : Int32} (h1 : ¬ outR w 0 4) (h2 : ¬ outR t 0 3) (h3 : ¬ outR x 4 16) (h : ¬ 3 ≤ σ 5 0 (ix t) ∨ ¬ awV σ (ix (σ 0 0 8)) < 2 ∨ ¬ σ 0 0 8 < 20) : K_order σ w t x = 2 := by
  unfold K_order
  rw [if_neg (fun h => h.elim h1 (fun h => h.elim h2 h3)), if_pos h]
theorem ge3 {v : Int32} (h : ¬ v ≤ 2) : 3 ≤ v := by
  rw [Int32.le_iff_toInt_le] at h ⊢
  rw [show (2 : Int32).toInt = 2 by decide] at h
  rw [show (3 : Int32).toInt = 3 by decide]
  omega
theorem not3 {v : Int32} (h : v ≤ 2) : ¬ 3 ≤ v := by
  rw [Int32.le_iff_toInt_le] at h ⊢
  rw [show (2 : Int32).toInt = 2 by decide] at h
  rw [show (3 : Int32).toInt = 3 by decide]
  omega
theorem not_le_lt {a b : Int32} (h : ¬ a ≤ b) : b < a := by
  rw [Int32.le_iff_toInt_le] at h
  rw [Int32.lt_iff_toInt_lt]
  omega
theorem le_not_lt {a b : Int32} (h : a ≤ b) : ¬ b < a := by
  rw [Int32.le_iff_toInt_le] at h
  rw [Int32.lt_iff_toInt_lt]
  omega
theorem not_lt_le {a b : Int32} (h : ¬ a < b) : b ≤ a := by
  rw [Int32.lt_iff_toInt_lt] at h
  rw [Int32.le_iff_toInt_le]
  omega
theorem awV_cong {σ τ : St} (h3 : ∀ k, τ 16 k 3 = σ 16 k 3) (h2 : ∀ k, τ 16 k 2 = σ 16 k 2) (h9 : τ 0 0 9 = σ 0 0 9) : ∀ k, awV τ k = awV σ k
  | 0 => rfl
  | k + 1 => by
    show (if τ 16 k 3 = 0 ∧ τ 0 0 9 < τ 16 k 2 then awV τ k + 1 else awV τ k) = (if σ 16 k 3 = 0 ∧ σ 0 0 9 < σ 16 k 2 then awV σ k + 1 else awV σ k)
    rw [h3, h2, h9, awV_cong h3 h2 h9 k]
theorem K_ord1 {σ : St} {no t a f : Nat} {x21 x20 x22 : Int32} (eno : σ 0 0 8 = nI no) (hno : no < 20) (ha : a < 5) (ht : t < 4) (hf1 : 4 ≤ f) (hf2 : f ≤ 16) (hs : 3 ≤ σ 5 0 t) (hw : awV σ no < 2) : K_order (up (up (up σ 21 0 t x21) 20 0 no x20) 22 0 2 x22) (nI a) (nI t) (nI f) = 0 := by
  refine K_order_0 (in_nI (a := 0) (b := 4) (by omega) (by omega) (by omega)) (in_nI (a := 0) (b := 3) (by omega) (by omega) (by omega)) (in_nI (a := 4) (b := 16) hf1 hf2 (by omega)) ?_ ?_ ?_
  · rw [ix_nI (by omega), up_n (by omega), up_n (by omega), up_n (by omega)]; exact hs
  · rw [up_n (by omega), up_n (by omega), up_n (by omega), eno, ix_nI (by omega)]
    rw [awV_cong (σ := σ) (fun k => by rw [up_n (by omega), up_n (by omega), up_n (by omega)]) (fun k => by rw [up_n (by omega), up_n (by omega), up_n (by omega)]) (by rw [up_n (by omega), up_n (by omega), up_n (by omega)])]
    exact hw
  · rw [up_n (by omega), up_n (by omega), up_n (by omega), eno]; exact nI_lt (b := 20) hno (by omega)
set_option maxHeartbeats 1000000 in
theorem LInv_order {T : Nat} {σ : St} (hL : LInv T σ) {no t a f : Nat} (eno : σ 0 0 8 = nI no) (hno : no < 20) (ha : a < 5) (ht : t < 4) (hf1 : 4 ≤ f) (hf2 : f ≤ 16) (hs : 3 ≤ σ 5 0 t) (hw : awV σ no < 2) : LInv (T) (orderS (up (up (up σ 21 0 t (σ 21 0 t - 3)) 20 0 no (nI (a + 8 * f))) 22 0 2 (nI no + 1)) no (nI a) (nI t) (nI f)) := by
  obtain ⟨h1, ⟨h2a, h2b, h2c, h2d⟩, h3, h4, h5, h6, h7, h8, h9, h10, h11⟩ := id hL
  have hInv : Inv (orderS (up (up (up σ 21 0 t (σ 21 0 t - 3)) 20 0 no (nI (a + 8 * f))) 22 0 2 (nI no + 1)) no (nI a) (nI t) (nI f)) := by
    have h := Inv_order (σ := up (up (up σ 21 0 t (σ 21 0 t - 3)) 20 0 no (nI (a + 8 * f))) 22 0 2 (nI no + 1)) (w := nI a) (t := nI t) (x := nI f) (Inv_law (by omega) (Inv_law (by omega) (Inv_law (by omega) h1))) (K_ord1 eno hno ha ht hf1 hf2 hs hw)
    rw [show ix ((up (up (up σ 21 0 t (σ 21 0 t - 3)) 20 0 no (nI (a + 8 * f))) 22 0 2 (nI no + 1)) 0 0 8) = no by rw [up_n (by omega), up_n (by omega), up_n (by omega), eno, ix_nI (by omega)]] at h
    exact h
  obtain ⟨τ, hτ⟩ : ∃ τ, τ = orderS (up (up (up σ 21 0 t (σ 21 0 t - 3)) 20 0 no (nI (a + 8 * f))) 22 0 2 (nI no + 1)) no (nI a) (nI t) (nI f) := ⟨_, rfl⟩
  rw [← hτ] at hInv ⊢
  have e : ∀ a1 b1 c0, (¬ (a1 = 21 ∧ c0 = t) ∧ ¬ (a1 = 20 ∧ c0 = no) ∧ ¬ (a1 = 22 ∧ c0 = 2) ∧ ¬ (a1 = 5 ∧ c0 = t) ∧ ¬ (a1 = 16 ∧ b1 = no ∧ c0 ≠ 3) ∧ ¬ (a1 = 0 ∧ c0 = 8)) → τ a1 b1 c0 = σ a1 b1 c0 := fun a1 b1 c0 h => by
    rw [hτ]
    unfold orderS
    rw [ix_nI (show t < 2 ^ 31 by omega), up_n (by omega), up_n (by omega), up_n (by omega), up_n (by omega), up_n (by omega), up_n (by omega), up_n (by omega), up_n (by omega)]
  refine ⟨hInv, ⟨?_, ?_, ?_, ?_⟩, ?_, fun i hi => ?_, fun i hi hl => ?_, fun i j hi hj => ?_, fun i hi hl => ?_, fun i hi hl => ?_, fun j hj => ?_, fun i hi => ?_, fun i hi hl => ?_⟩
  · rw [e 22 0 0 (by omega), e 0 0 6 (by omega)]; exact h2a
  · rw [e 22 0 1 (by omega), e 0 0 7 (by omega)]; exact h2b
  · rw [hτ]
    unfold orderS
    rw [up_at, up_n (by omega), up_n (by omega), up_n (by omega), up_n (by omega), up_n (by omega), up_at, nI_1]
  · rw [e 22 0 3 (by omega), e 0 0 9 (by omega)]; exact h2d
  · rw [e 0 0 9 (by omega)]; exact h3
  · rw [e 17 0 i (by omega), e 11 i 1 (by omega)]; exact h4 i hi
  · rw [e 0 0 6 (by omega)] at hl
    rw [e 11 i 1 (by omega)]; exact h5 i hi hl
  · rw [e 18 0 (4 * i + j) (by omega), e 14 i j (by omega)]; exact h6 i j hi hj
  · rw [e 0 0 7 (by omega)] at hl
    rw [e 13 i 1 (by omega), e 19 0 i (by omega), show fN τ i = fN σ i from congrArg Int32.toNatClampNeg (e 13 i 2 (by omega))]; exact h7 i hi hl
  · have e8 : τ 0 0 8 = nI (no + 1) := by rw [hτ]; unfold orderS; rw [up_at]
    rw [e8, nI_ltI (by omega) (by omega)] at hl
    by_cases q : i = no
    · subst q
      refine ⟨a, f, 0, ha, hf1, hf2, by omega, ?_, ?_, ?_, ?_⟩
      · rw [hτ]; unfold orderS; rw [up_n (by omega), up_n (by omega), up_n (by omega), up_at]
      · rw [hτ]; unfold orderS; rw [up_n (by omega), up_n (by omega), up_at]
      · rw [e 16 i 3 (by omega)]; exact h11 i hi (by rw [eno]; exact nI_nlt (Nat.le_refl _) (by omega))
      · rw [hτ]; unfold orderS; rw [up_n (by omega), up_n (by omega), up_n (by omega), up_n (by omega), up_n (by omega), up_n (by omega), up_at]; rfl
    · rw [e 16 i 0 (by omega), e 16 i 1 (by omega), e 16 i 3 (by omega), e 20 0 i (by omega)]; exact h8 i hi (by rw [eno]; exact nI_lt (by omega) (by omega))
  · by_cases q : j = t
    · subst q
      rw [hτ]; unfold orderS
      rw [up_n (by omega), up_n (by omega), up_n (by omega), up_n (by omega), up_n (by omega), up_n (by omega), up_n (by omega), up_at, ix_nI (by omega), up_n (by omega), up_n (by omega), up_n (by omega), up_n (by omega), up_at, up_n (by omega), up_n (by omega), up_n (by omega), h9 j hj]
    · rw [e 21 0 j (by omega), e 5 0 j (by omega)]; exact h9 j hj
  · rw [e 15 i 0 (by omega)]; exact h10 i hi
  · have e8 : τ 0 0 8 = nI (no + 1) := by rw [hτ]; unfold orderS; rw [up_at]
    rw [e8, nI_ltI (by omega) (by omega)] at hl
    rw [e 16 i 3 (by omega)]; exact h11 i hi (by rw [eno]; exact nI_nlt (by omega) (by omega))
set_option maxHeartbeats 1000000 in
theorem LInv_wood {T : Nat} {σ : St} (hL : LInv T σ) {t : Nat} {v : Int32} (ht : t < 4) : LInv (T) (up (up σ 21 0 t (σ 21 0 t + v)) 5 0 t ((up σ 21 0 t (σ 21 0 t + v)) 5 0 t + v)) := by
  obtain ⟨h1, ⟨h2a, h2b, h2c, h2d⟩, h3, h4, h5, h6, h7, h8, h9, h10, h11⟩ := id hL
  have hInv : Inv (up (up σ 21 0 t (σ 21 0 t + v)) 5 0 t ((up σ 21 0 t (σ 21 0 t + v)) 5 0 t + v)) := Inv_up (by omega) (Inv_law (by omega) h1)
  obtain ⟨τ, hτ⟩ : ∃ τ, τ = up (up σ 21 0 t (σ 21 0 t + v)) 5 0 t ((up σ 21 0 t (σ 21 0 t + v)) 5 0 t + v) := ⟨_, rfl⟩
  rw [← hτ] at hInv ⊢
  have e : ∀ a b c0, (¬ (a = 21 ∧ c0 = t) ∧ ¬ (a = 5 ∧ c0 = t)) → τ a b c0 = σ a b c0 := fun a b c0 h => by
    rw [hτ]
    rw [up_n (by omega), up_n (by omega)]
  refine ⟨hInv, ⟨?_, ?_, ?_, ?_⟩, ?_, fun i hi => ?_, fun i hi hl => ?_, fun i j hi hj => ?_, fun i hi hl => ?_, fun i hi hl => ?_, fun j hj => ?_, fun i hi => ?_, fun i hi hl => ?_⟩
  · rw [e 22 0 0 (by omega), e 0 0 6 (by omega)]; exact h2a
  · rw [e 22 0 1 (by omega), e 0 0 7 (by omega)]; exact h2b
  · rw [e 22 0 2 (by omega), e 0 0 8 (by omega)]; exact h2c
  · rw [e 22 0 3 (by omega), e 0 0 9 (by omega)]; exact h2d
  · rw [e 0 0 9 (by omega)]; exact h3
  · rw [e 17 0 i (by omega), e 11 i 1 (by omega)]; exact h4 i hi
  · rw [e 0 0 6 (by omega)] at hl
    rw [e 11 i 1 (by omega)]; exact h5 i hi hl
  · rw [e 18 0 (4 * i + j) (by omega), e 14 i j (by omega)]; exact h6 i j hi hj
  · rw [e 0 0 7 (by omega)] at hl
    rw [e 13 i 1 (by omega), e 19 0 i (by omega), show fN τ i = fN σ i from congrArg Int32.toNatClampNeg (e 13 i 2 (by omega))]; exact h7 i hi hl
  · rw [e 0 0 8 (by omega)] at hl
    rw [e 16 i 0 (by omega), e 16 i 1 (by omega), e 16 i 3 (by omega), e 20 0 i (by omega)]; exact h8 i hi hl
  · by_cases q : j = t
    · subst q
      rw [hτ, up_n (by omega), up_at, up_at, up_n (by omega), h9 j hj]
    · rw [e 21 0 j (by omega), e 5 0 j (by omega)]; exact h9 j hj
  · rw [e 15 i 0 (by omega)]; exact h10 i hi
  · rw [e 0 0 8 (by omega)] at hl
    rw [e 16 i 3 (by omega)]; exact h11 i hi hl
set_option maxHeartbeats 1000000 in
theorem LInv_pass {T : Nat} {σ : St} (hL : LInv T σ) {d v : Nat} (ed : σ 0 0 9 = nI d) (hd : d ≤ T) (hv : v ≤ 20) : LInv (T + 20) (up (up σ 22 0 3 (σ 22 0 3 + nI v)) 0 0 9 ((up σ 22 0 3 (σ 22 0 3 + nI v)) 0 0 9 + nI v)) := by
  obtain ⟨h1, ⟨h2a, h2b, h2c, h2d⟩, h3, h4, h5, h6, h7, h8, h9, h10, h11⟩ := id hL
  have hInv : Inv (up (up σ 22 0 3 (σ 22 0 3 + nI v)) 0 0 9 ((up σ 22 0 3 (σ 22 0 3 + nI v)) 0 0 9 + nI v)) := Inv_up (by omega) (Inv_law (by omega) h1)
  obtain ⟨τ, hτ⟩ : ∃ τ, τ = up (up σ 22 0 3 (σ 22 0 3 + nI v)) 0 0 9 ((up σ 22 0 3 (σ 22 0 3 + nI v)) 0 0 9 + nI v) := ⟨_, rfl⟩
  rw [← hτ] at hInv ⊢
  have e : ∀ a b c0, (¬ (a = 22 ∧ c0 = 3) ∧ ¬ (a = 0 ∧ c0 = 9)) → τ a b c0 = σ a b c0 := fun a b c0 h => by
    rw [hτ]
    rw [up_n (by omega), up_n (by omega)]
  refine ⟨hInv, ⟨?_, ?_, ?_, ?_⟩, ?_, fun i hi => ?_, fun i hi hl => ?_, fun i j hi hj => ?_, fun i hi hl => ?_, fun i hi hl => ?_, fun j hj => ?_, fun i hi => ?_, fun i hi hl => ?_⟩
  · rw [e 22 0 0 (by omega), e 0 0 6 (by omega)]; exact h2a
  · rw [e 22 0 1 (by omega), e 0 0 7 (by omega)]; exact h2b
  · rw [e 22 0 2 (by omega), e 0 0 8 (by omega)]; exact h2c
  · rw [hτ, up_n (by omega), up_at, up_at, up_n (by omega), h2d]
  · exact ⟨d + v, by omega, by rw [hτ, up_at, up_n (by omega), ed, nI_add]⟩
  · rw [e 17 0 i (by omega), e 11 i 1 (by omega)]; exact h4 i hi
  · rw [e 0 0 6 (by omega)] at hl
    rw [e 11 i 1 (by omega)]; exact h5 i hi hl
  · rw [e 18 0 (4 * i + j) (by omega), e 14 i j (by omega)]; exact h6 i j hi hj
  · rw [e 0 0 7 (by omega)] at hl
    rw [e 13 i 1 (by omega), e 19 0 i (by omega), show fN τ i = fN σ i from congrArg Int32.toNatClampNeg (e 13 i 2 (by omega))]; exact h7 i hi hl
  · rw [e 0 0 8 (by omega)] at hl
    rw [e 16 i 0 (by omega), e 16 i 1 (by omega), e 16 i 3 (by omega), e 20 0 i (by omega)]; exact h8 i hi hl
  · rw [e 21 0 j (by omega), e 5 0 j (by omega)]; exact h9 j hj
  · rw [e 15 i 0 (by omega)]; exact h10 i hi
  · rw [e 0 0 8 (by omega)] at hl
    rw [e 16 i 3 (by omega)]; exact h11 i hi hl
theorem LInv.mono {T T' : Nat} {σ : St} (h : T ≤ T') (hL : LInv T σ) : LInv T' σ := by
  obtain ⟨h1, h2, ⟨d, hd, ed⟩, h4⟩ := hL
  exact ⟨h1, h2, ⟨d, by omega, ed⟩, h4⟩
set_option maxHeartbeats 1000000 in
theorem LInv_tune {T : Nat} {σ : St} (hL : LInv T σ) {q t : Nat} {v : Int32} (hq : q < 8) (ht : t < 4) : LInv (T) (up (up σ 18 0 (4 * q + t) v) 14 q t v) := by
  obtain ⟨h1, ⟨h2a, h2b, h2c, h2d⟩, h3, h4, h5, h6, h7, h8, h9, h10, h11⟩ := id hL
  have hInv : Inv (up (up σ 18 0 (4 * q + t) v) 14 q t v) := Inv_up (by omega) (Inv_law (by omega) h1)
  obtain ⟨τ, hτ⟩ : ∃ τ, τ = up (up σ 18 0 (4 * q + t) v) 14 q t v := ⟨_, rfl⟩
  rw [← hτ] at hInv ⊢
  have e : ∀ a b c0, (¬ (a = 18 ∧ c0 = 4 * q + t) ∧ ¬ (a = 14 ∧ b = q ∧ c0 = t)) → τ a b c0 = σ a b c0 := fun a b c0 h => by
    rw [hτ]
    rw [up_n (by omega), up_n (by omega)]
  refine ⟨hInv, ⟨?_, ?_, ?_, ?_⟩, ?_, fun i hi => ?_, fun i hi hl => ?_, fun i j hi hj => ?_, fun i hi hl => ?_, fun i hi hl => ?_, fun j hj => ?_, fun i hi => ?_, fun i hi hl => ?_⟩
  · rw [e 22 0 0 (by omega), e 0 0 6 (by omega)]; exact h2a
  · rw [e 22 0 1 (by omega), e 0 0 7 (by omega)]; exact h2b
  · rw [e 22 0 2 (by omega), e 0 0 8 (by omega)]; exact h2c
  · rw [e 22 0 3 (by omega), e 0 0 9 (by omega)]; exact h2d
  · rw [e 0 0 9 (by omega)]; exact h3
  · rw [e 17 0 i (by omega), e 11 i 1 (by omega)]; exact h4 i hi
  · rw [e 0 0 6 (by omega)] at hl
    rw [e 11 i 1 (by omega)]; exact h5 i hi hl
  · by_cases z : i = q ∧ j = t
    · rw [hτ, z.1, z.2, up_n (by omega), up_at, up_at]
    · rw [e 18 0 (4 * i + j) (by omega), e 14 i j (by omega)]; exact h6 i j hi hj
  · rw [e 0 0 7 (by omega)] at hl
    rw [e 13 i 1 (by omega), e 19 0 i (by omega), show fN τ i = fN σ i from congrArg Int32.toNatClampNeg (e 13 i 2 (by omega))]; exact h7 i hi hl
  · rw [e 0 0 8 (by omega)] at hl
    rw [e 16 i 0 (by omega), e 16 i 1 (by omega), e 16 i 3 (by omega), e 20 0 i (by omega)]; exact h8 i hi hl
  · rw [e 21 0 j (by omega), e 5 0 j (by omega)]; exact h9 j hj
  · rw [e 15 i 0 (by omega)]; exact h10 i hi
  · rw [e 0 0 8 (by omega)] at hl
    rw [e 16 i 3 (by omega)]; exact h11 i hi hl
theorem K_fetch_1 {σ : St} {r a b c0 d0 : Int32} (h : bad r (σ 0 0 8)) : K_fetch σ r a b c0 d0 = 1 := by unfold K_fetch; rw [if_pos h]
theorem K_fetch_2 {σ : St} {r a b c0 d0 : Int32} (h1 : ¬ bad r (σ 0 0 8)) (h : outR a 0 60 ∨ outR b 0 60 ∨ outR c0 0 60 ∨ outR d0 0 60) : K_fetch σ r a b c0 d0 = 2 := by unfold K_fetch; rw [if_neg h1, if_pos h]
theorem K_fetch_3 {σ : St} {r a b c0 d0 : Int32} (h1 : ¬ bad r (σ 0 0 8)) (h2 : ¬ (outR a 0 60 ∨ outR b 0 60 ∨ outR c0 0 60 ∨ outR d0 0 60)) (h : σ 0 0 9 < σ 16 (ix r) 2 ∨ ¬ σ 16 (ix r) 3 = 0 ∨ ¬ σ 0 0 7 < 8) : K_fetch σ r a b c0 d0 = 3 := by unfold K_fetch; rw [if_neg h1, if_neg h2, if_pos h]
theorem K_fetch_z {σ : St} {r a b c0 d0 : Int32} (h1 : ¬ bad r (σ 0 0 8)) (h2 : ¬ (outR a 0 60 ∨ outR b 0 60 ∨ outR c0 0 60 ∨ outR d0 0 60)) (h : ¬ (σ 0 0 9 < σ 16 (ix r) 2 ∨ ¬ σ 16 (ix r) 3 = 0 ∨ ¬ σ 0 0 7 < 8)) : K_fetch σ r a b c0 d0 = 0 := by unfold K_fetch; rw [if_neg h1, if_neg h2, if_neg h]
/-- the law's arrays after a fetched order -/
def SFet (σ : St) (ni k f w : Nat) (pa pb pc pd : Int32) : St := up (up (up (up (up (up (up σ 18 0 (4 * ni + 0) pa) 18 0 (4 * ni + 1) pb) 18 0 (4 * ni + 2) pc) 18 0 (4 * ni + 3) pd) 19 0 ni (nI (f + 32 * w))) 20 0 k (nI (w + 8 * f + 256))) 22 0 1 (nI ni + 1)
theorem SFet_n {σ : St} {ni k f w : Nat} {pa pb pc pd : Int32} {a b c0 : Nat} (h : a < 17) : SFet σ ni k f w pa pb pc pd a b c0 = σ a b c0 := by
  unfold SFet
  rw [up_n (by omega), up_n (by omega), up_n (by omega), up_n (by omega), up_n (by omega), up_n (by omega), up_n (by omega)]
set_option maxHeartbeats 1000000 in
theorem LInv_fetch {T : Nat} {σ : St} (hL : LInv T σ) {ni no k f w : Nat} {pa pb pc pd : Int32} (eni : σ 0 0 7 = nI ni) (hni : ni < 8) (eno : σ 0 0 8 = nI no) (hno : no ≤ 20) (hk : k < no) (hw : w < 5) (hf1 : 4 ≤ f) (hf2 : f ≤ 16) (e0 : σ 16 k 0 = nI w) (e1 : σ 16 k 1 = nI f) (hK : K_fetch (SFet σ ni k f w pa pb pc pd) (nI k) pa pb pc pd = 0) : LInv (T) (fetchS (SFet σ ni k f w pa pb pc pd) k ni pa pb pc pd) := by
  obtain ⟨h1, ⟨h2a, h2b, h2c, h2d⟩, h3, h4, h5, h6, h7, h8, h9, h10, h11⟩ := id hL
  have hInv : Inv (fetchS (SFet σ ni k f w pa pb pc pd) k ni pa pb pc pd) := by
    have h := Inv_fetch (σ := SFet σ ni k f w pa pb pc pd) (r := nI k) (a := pa) (b := pb) (c0 := pc) (d0 := pd) (by unfold SFet; exact Inv_law (by omega) (Inv_law (by omega) (Inv_law (by omega) (Inv_law (by omega) (Inv_law (by omega) (Inv_law (by omega) (Inv_law (by omega) h1))))))) hK
    rw [ix_nI (by omega), SFet_n (by omega), eni, ix_nI (by omega)] at h
    exact h
  obtain ⟨τ, hτ⟩ : ∃ τ, τ = fetchS (SFet σ ni k f w pa pb pc pd) k ni pa pb pc pd := ⟨_, rfl⟩
  rw [← hτ] at hInv ⊢
  have e : ∀ a b c0, (¬ (a = 18 ∧ c0 / 4 = ni) ∧ ¬ (a = 19 ∧ c0 = ni) ∧ ¬ (a = 20 ∧ c0 = k) ∧ ¬ (a = 22 ∧ c0 = 1) ∧ ¬ (a = 16 ∧ b = k ∧ c0 = 3) ∧ ¬ (a = 13 ∧ b = ni) ∧ ¬ (a = 14 ∧ b = ni) ∧ ¬ (a = 0 ∧ c0 = 7)) → τ a b c0 = σ a b c0 := fun a b c0 h => by
    rw [hτ]
    unfold fetchS SFet
    rw [up_n (by omega), up_n (by omega), up_n (by omega), up_n (by omega), up_n (by omega), up_n (by omega), up_n (by omega), up_n (by omega), up_n (by omega), up_n (by omega), up_n (by omega), up_n (by omega), up_n (by omega), up_n (by omega), up_n (by omega)]
  refine ⟨hInv, ⟨?_, ?_, ?_, ?_⟩, ?_, fun i hi => ?_, fun i hi hl => ?_, fun i j hi hj => ?_, fun i hi hl => ?_, fun i hi hl => ?_, fun j hj => ?_, fun i hi => ?_, fun i hi hl => ?_⟩
  · rw [e 22 0 0 (by omega), e 0 0 6 (by omega)]; exact h2a
  · rw [hτ]
    unfold fetchS
    rw [up_n (by omega), up_n (by omega), up_n (by omega), up_n (by omega), up_n (by omega), up_n (by omega), up_n (by omega), up_n (by omega), up_at]
    unfold SFet
    rw [up_at, nI_1]
  · rw [e 22 0 2 (by omega), e 0 0 8 (by omega)]; exact h2c
  · rw [e 22 0 3 (by omega), e 0 0 9 (by omega)]; exact h2d
  · rw [e 0 0 9 (by omega)]; exact h3
  · rw [e 17 0 i (by omega), e 11 i 1 (by omega)]; exact h4 i hi
  · rw [e 0 0 6 (by omega)] at hl
    rw [e 11 i 1 (by omega)]; exact h5 i hi hl
  · by_cases z : i = ni
    · subst z
      rw [hτ]
      unfold fetchS
      rcases (show j = 0 ∨ j = 1 ∨ j = 2 ∨ j = 3 by omega) with rfl | rfl | rfl | rfl
      · rw [up_n (by omega), up_n (by omega), up_n (by omega), up_n (by omega), up_n (by omega), up_n (by omega), up_n (by omega), up_n (by omega), up_n (by omega), up_n (by omega), up_n (by omega), up_n (by omega), up_at]
        unfold SFet
        rw [up_n (by omega), up_n (by omega), up_n (by omega), up_n (by omega), up_n (by omega), up_n (by omega), up_at]
      · rw [up_n (by omega), up_n (by omega), up_n (by omega), up_n (by omega), up_n (by omega), up_n (by omega), up_n (by omega), up_n (by omega), up_n (by omega), up_n (by omega), up_n (by omega), up_at]
        unfold SFet
        rw [up_n (by omega), up_n (by omega), up_n (by omega), up_n (by omega), up_n (by omega), up_at]
      · rw [up_n (by omega), up_n (by omega), up_n (by omega), up_n (by omega), up_n (by omega), up_n (by omega), up_n (by omega), up_n (by omega), up_n (by omega), up_n (by omega), up_at]
        unfold SFet
        rw [up_n (by omega), up_n (by omega), up_n (by omega), up_n (by omega), up_at]
      · rw [up_n (by omega), up_n (by omega), up_n (by omega), up_n (by omega), up_n (by omega), up_n (by omega), up_n (by omega), up_n (by omega), up_n (by omega), up_at]
        unfold SFet
        rw [up_n (by omega), up_n (by omega), up_n (by omega), up_at]
    · rw [e 18 0 (4 * i + j) (by omega), e 14 i j (by omega)]; exact h6 i j hi hj
  · have e7 : τ 0 0 7 = nI (ni + 1) := by rw [hτ]; unfold fetchS; rw [up_at]
    rw [e7, nI_ltI (by omega) (by omega)] at hl
    by_cases z : i = ni
    · subst z
      have ef : fN τ i = f := by
        show (τ 13 i 2).toNatClampNeg = f
        rw [hτ]; unfold fetchS
        rw [up_n (by omega), up_n (by omega), up_n (by omega), up_n (by omega), up_n (by omega), up_at, SFet_n (by omega), e1, nI_clamp (by omega)]
      refine ⟨w, hw, ?_, ?_⟩
      · rw [hτ]; unfold fetchS
        rw [up_n (by omega), up_n (by omega), up_n (by omega), up_n (by omega), up_n (by omega), up_n (by omega), up_at, SFet_n (by omega), e0]
      · rw [ef, hτ]; unfold fetchS
        rw [up_n (by omega), up_n (by omega), up_n (by omega), up_n (by omega), up_n (by omega), up_n (by omega), up_n (by omega), up_n (by omega)]
        unfold SFet
        rw [up_n (by omega), up_n (by omega), up_at]
    · rw [e 13 i 1 (by omega), e 19 0 i (by omega), show fN τ i = fN σ i from congrArg Int32.toNatClampNeg (e 13 i 2 (by omega))]; exact h7 i hi (by rw [eni]; exact nI_lt (by omega) (by omega))
  · rw [e 0 0 8 (by omega)] at hl
    by_cases z : i = k
    · subst z
      refine ⟨w, f, 1, hw, hf1, hf2, by omega, by rw [e 16 i 0 (by omega)]; exact e0, by rw [e 16 i 1 (by omega)]; exact e1, ?_, ?_⟩
      · rw [hτ]; unfold fetchS
        rw [up_n (by omega), up_n (by omega), up_n (by omega), up_n (by omega), up_n (by omega), up_n (by omega), up_n (by omega), up_at]; rfl
      · rw [hτ]; unfold fetchS
        rw [up_n (by omega), up_n (by omega), up_n (by omega), up_n (by omega), up_n (by omega), up_n (by omega), up_n (by omega), up_n (by omega)]
        unfold SFet
        rw [up_n (by omega), up_at]
    · rw [e 16 i 0 (by omega), e 16 i 1 (by omega), e 16 i 3 (by omega), e 20 0 i (by omega)]; exact h8 i hi hl
  · rw [e 21 0 j (by omega), e 5 0 j (by omega)]; exact h9 j hj
  · rw [e 15 i 0 (by omega)]; exact h10 i hi
  · rw [e 0 0 8 (by omega)] at hl
    have z : i ≠ k := fun q => hl (by rw [eno, q]; exact nI_lt hk (by omega))
    rw [e 16 i 3 (by omega)]; exact h11 i hi hl
