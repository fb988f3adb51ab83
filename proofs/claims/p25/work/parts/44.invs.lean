/-! ===== the invariants after each change ===== -/
theorem Inv.cong {σ σ' : St} (h6 : σ' 0 0 6 = σ 0 0 6) (h7 : σ' 0 0 7 = σ 0 0 7) (h8 : σ' 0 0 8 = σ 0 0 8) (h11 : ∀ i, i < 8 → σ' 11 i 1 = σ 11 i 1) (h13 : ∀ i, i < 8 → σ' 13 i 2 = σ 13 i 2) (h161 : ∀ i, i < 20 → σ' 16 i 1 = σ 16 i 1) (h163 : ∀ i, i < 20 → σ' 16 i 3 = σ 16 i 3) (h : Inv σ) : Inv σ' := by
  obtain ⟨a1, a2, a3, a4, a5, a6, a7⟩ := h
  refine ⟨by rw [h6]; exact a1, by rw [h7]; exact a2, by rw [h8]; exact a3, fun i hi => ?_, fun i hi hl => ?_, fun i hi hl => ?_, fun i hi => ?_⟩
  · show σ' 11 i 1 = nI (σ' 11 i 1).toNatClampNeg ∧ (σ' 11 i 1).toNatClampNeg ≤ 16
    rw [h11 i hi]; exact a4 i hi
  · show σ' 13 i 2 = nI (σ' 13 i 2).toNatClampNeg ∧ 4 ≤ (σ' 13 i 2).toNatClampNeg ∧ (σ' 13 i 2).toNatClampNeg ≤ 16
    rw [h13 i hi]; rw [h7] at hl; exact a5 i hi hl
  · rw [h161 i hi]; rw [h8] at hl; exact a6 i hi hl
  · rw [h163 i hi]; exact a7 i hi
theorem up_n {σ : St} {k i j : Nat} {x : Int32} {k' i' j' : Nat} (h : ¬ (k' = k ∧ i' = i ∧ j' = j)) : up σ k i j x k' i' j' = σ k' i' j' := by rw [up_app, if_neg h]
theorem Inv_begin {σ : St} (h : Inv σ) (hK : K_begin σ = 0) : Inv (up σ 0 0 6 (σ 0 0 6 + 1)) := by
  obtain ⟨⟨n, hn, en⟩, a2, a3, a4, a5, a6, a7⟩ := h
  have hn8 : n < 8 := by
    unfold K_begin at hK
    by_cases q : σ 0 0 6 < 8
    · rw [en, show (8 : Int32) = nI 8 from rfl, nI_ltI (by omega) (by omega)] at q; exact q
    · rw [if_pos q] at hK; exact absurd hK (by decide)
  have hb : Inv σ := ⟨⟨n, hn, en⟩, a2, a3, a4, a5, a6, a7⟩
  obtain ⟨_, b2, b3, b4, b5, b6, b7⟩ := hb
  refine ⟨⟨n + 1, by omega, by rw [up_app, if_pos ⟨rfl, rfl, rfl⟩, en, nI_1]⟩, by rw [up_n (by omega)]; exact b2, by rw [up_n (by omega)]; exact b3, fun i hi => ?_, fun i hi hl => ?_, fun i hi hl => ?_, fun i hi => ?_⟩
  · show up σ 0 0 6 (σ 0 0 6 + 1) 11 i 1 = nI (up σ 0 0 6 (σ 0 0 6 + 1) 11 i 1).toNatClampNeg ∧ (up σ 0 0 6 (σ 0 0 6 + 1) 11 i 1).toNatClampNeg ≤ 16
    rw [up_n (by omega)]; exact b4 i hi
  · show up σ 0 0 6 (σ 0 0 6 + 1) 13 i 2 = nI (up σ 0 0 6 (σ 0 0 6 + 1) 13 i 2).toNatClampNeg ∧ 4 ≤ (up σ 0 0 6 (σ 0 0 6 + 1) 13 i 2).toNatClampNeg ∧ (up σ 0 0 6 (σ 0 0 6 + 1) 13 i 2).toNatClampNeg ≤ 16
    rw [up_n (by omega)] at hl ⊢; exact b5 i hi hl
  · rw [up_n (by omega)] at hl ⊢; exact b6 i hi hl
  · rw [up_n (by omega)]; exact b7 i hi
theorem Inv_addNote {σ : St} {x y : Int32} (h : Inv σ) (hK : K_addNote σ x y = 0) : Inv (up (up σ 12 (ix x) (cN σ (ix x)) y) 11 (ix x) 1 (nI (cN σ (ix x) + 1))) := by
  obtain ⟨a1, a2, a3, a4, a5, a6, a7⟩ := h
  obtain ⟨np, hnp, enp⟩ := a1
  unfold K_addNote at hK
  by_cases q1 : bad x (σ 0 0 6)
  · rw [if_pos q1] at hK; exact absurd hK (by decide)
  rw [if_neg q1] at hK
  by_cases q2 : outR y 0 80
  · rw [if_pos q2] at hK; exact absurd hK (by decide)
  rw [if_neg q2] at hK
  by_cases q3 : σ 11 (ix x) 1 < 16
  · rw [enp] at q1
    obtain ⟨ex, hx1, hx8⟩ := nbad hnp (by decide) q1
    obtain ⟨ec, hc⟩ := a4 (ix x) hx8
    have hlt : cN σ (ix x) < 16 := by rw [ec, show (16 : Int32) = nI 16 from rfl, nI_ltI (by omega) (by omega)] at q3; exact q3
    generalize hτ : up (up σ 12 (ix x) (cN σ (ix x)) y) 11 (ix x) 1 (nI (cN σ (ix x) + 1)) = τ
    have eτ : ∀ a b c0, ¬ (a = 11 ∧ b = ix x ∧ c0 = 1) → a ≠ 12 → τ a b c0 = σ a b c0 := fun a b c0 h1 h2 => by rw [← hτ, up_n h1, up_n (fun q => h2 q.1)]
    refine ⟨⟨np, hnp, (eτ 0 0 6 (by omega) (by decide)).trans enp⟩, by rw [eτ 0 0 7 (by omega) (by decide)]; exact a2, by rw [eτ 0 0 8 (by omega) (by decide)]; exact a3, fun i hi => ?_, fun i hi hl => ?_, fun i hi hl => ?_, fun i hi => ?_⟩
    · show τ 11 i 1 = nI (τ 11 i 1).toNatClampNeg ∧ (τ 11 i 1).toNatClampNeg ≤ 16
      by_cases q : i = ix x
      · rw [q, show τ 11 (ix x) 1 = nI (cN σ (ix x) + 1) by rw [← hτ, up_app, if_pos ⟨rfl, rfl, rfl⟩], nI_clamp (by omega)]
        exact ⟨rfl, by omega⟩
      · rw [eτ 11 i 1 (by omega) (by decide)]; exact a4 i hi
    · show τ 13 i 2 = nI (τ 13 i 2).toNatClampNeg ∧ 4 ≤ (τ 13 i 2).toNatClampNeg ∧ (τ 13 i 2).toNatClampNeg ≤ 16
      rw [eτ 0 0 7 (by omega) (by decide)] at hl
      rw [eτ 13 i 2 (by omega) (by decide)]; exact a5 i hi hl
    · rw [eτ 0 0 8 (by omega) (by decide)] at hl
      rw [eτ 16 i 1 (by omega) (by decide)]; exact a6 i hi hl
    · rw [eτ 16 i 3 (by omega) (by decide)]; exact a7 i hi
  · rw [if_pos q3] at hK; exact absurd hK (by decide)
theorem Inv_mvd {σ : St} {i n : Nat} {x : Int32} (h : Inv σ) : Inv (mvd σ i x n) := Inv.cong (by rw [mvd_app, if_neg (by omega)]) (by rw [mvd_app, if_neg (by omega)]) (by rw [mvd_app, if_neg (by omega)]) (fun i _ => by rw [mvd_app, if_neg (by omega)]) (fun i _ => by rw [mvd_app, if_neg (by omega)]) (fun i _ => by rw [mvd_app, if_neg (by omega)]) (fun i _ => by rw [mvd_app, if_neg (by omega)]) h
theorem Inv_up {σ : St} {k i j : Nat} {x : Int32} (hk : k = 5 ∨ k = 14 ∨ k = 15 ∨ (k = 0 ∧ j = 9)) (h : Inv σ) : Inv (up σ k i j x) := Inv.cong (up_n (by omega)) (up_n (by omega)) (up_n (by omega)) (fun i _ => up_n (by omega)) (fun i _ => up_n (by omega)) (fun i _ => up_n (by omega)) (fun i _ => up_n (by omega)) h
theorem Inv_order {σ : St} {w t x : Int32} (h : Inv σ) (hK : K_order σ w t x = 0) : Inv (orderS σ (ix (σ 0 0 8)) w t x) := by
  obtain ⟨a1, a2, ⟨no, hno, eno⟩, a4, a5, a6, a7⟩ := h
  have eix : ix (σ 0 0 8) = no := by rw [eno]; exact nI_clamp (by omega)
  unfold K_order at hK
  by_cases q1 : outR w 0 4 ∨ outR t 0 3 ∨ outR x 4 16
  · rw [if_pos q1] at hK; exact absurd hK (by decide)
  rw [if_neg q1] at hK
  by_cases q2 : ¬ 3 ≤ σ 5 0 (ix t) ∨ ¬ awV σ (ix (σ 0 0 8)) < 2 ∨ ¬ σ 0 0 8 < 20
  · rw [if_pos q2] at hK; exact absurd hK (by decide)
  have hn20 : no < 20 := by
    have q3 : σ 0 0 8 < 20 := Classical.byContradiction fun q => q2 (Or.inr (Or.inr q))
    rw [eno, show (20 : Int32) = nI 20 from rfl, nI_ltI (by omega) (by omega)] at q3; exact q3
  have hx : ∃ f, x = nI f ∧ 4 ≤ f ∧ f ≤ 16 := by
    have q4 : ¬ outR x 4 16 := fun q => q1 (Or.inr (Or.inr q))
    have b1 : ¬ x < 4 := fun q => q4 (Or.inl q)
    have b2 : x ≤ 16 := Classical.byContradiction fun q => q4 (Or.inr q)
    have b0 : ¬ x < 0 := fun q => b1 (by rw [Int32.lt_iff_toInt_lt] at q ⊢; rw [show (0 : Int32).toInt = 0 by decide] at q; rw [show (4 : Int32).toInt = 4 by decide]; omega)
    obtain ⟨f, hf, rfl⟩ := nI_of b0
    rw [show (4 : Int32) = nI 4 from rfl, nI_ltI hf (by omega)] at b1
    rw [show (16 : Int32) = nI 16 from rfl, nI_leI hf (by omega)] at b2
    exact ⟨f, rfl, by omega, b2⟩
  rw [eix]
  generalize hτ : orderS σ no w t x = τ
  have eτ : ∀ a b c0, ¬ (a = 5) → ¬ (a = 16 ∧ b = no ∧ c0 < 3) → ¬ (a = 0 ∧ c0 = 8) → τ a b c0 = σ a b c0 := fun a b c0 h1 h2 h3 => by rw [← hτ]; unfold orderS; rw [up_n (fun q => h3 ⟨q.1, q.2.2⟩), up_n (by omega), up_n (by omega), up_n (by omega), up_n (fun q => h1 q.1)]
  refine ⟨by rw [eτ 0 0 6 (by decide) (by omega) (by omega)]; exact a1, by rw [eτ 0 0 7 (by decide) (by omega) (by omega)]; exact a2, ⟨no + 1, by omega, by rw [← hτ]; unfold orderS; rw [up_app, if_pos ⟨rfl, rfl, rfl⟩]⟩, fun i hi => ?_, fun i hi hl => ?_, fun i hi hl => ?_, fun i hi => ?_⟩
  · show τ 11 i 1 = nI (τ 11 i 1).toNatClampNeg ∧ (τ 11 i 1).toNatClampNeg ≤ 16
    rw [eτ 11 i 1 (by decide) (by omega) (by omega)]; exact a4 i hi
  · show τ 13 i 2 = nI (τ 13 i 2).toNatClampNeg ∧ 4 ≤ (τ 13 i 2).toNatClampNeg ∧ (τ 13 i 2).toNatClampNeg ≤ 16
    rw [eτ 0 0 7 (by decide) (by omega) (by omega)] at hl
    rw [eτ 13 i 2 (by decide) (by omega) (by omega)]; exact a5 i hi hl
  · rw [show τ 0 0 8 = nI (no + 1) by rw [← hτ]; unfold orderS; rw [up_app, if_pos ⟨rfl, rfl, rfl⟩], nI_ltI (by omega) (by omega)] at hl
    by_cases q : i = no
    · rw [q, show τ 16 no 1 = x by rw [← hτ]; unfold orderS; rw [up_n (by omega), up_n (by omega), up_app, if_pos ⟨rfl, rfl, rfl⟩]]
      exact hx
    · rw [eτ 16 i 1 (by decide) (by omega) (by omega)]; exact a6 i hi (by rw [eno]; exact nI_lt (by omega) (by omega))
  · rw [eτ 16 i 3 (by decide) (by omega) (by omega)]; exact a7 i hi
theorem Inv_fetch {σ : St} {r a b c0 d0 : Int32} (h : Inv σ) (hK : K_fetch σ r a b c0 d0 = 0) : Inv (fetchS σ (ix r) (ix (σ 0 0 7)) a b c0 d0) := by
  obtain ⟨a1, ⟨ni, hni, eni⟩, ⟨no, hno, eno⟩, a4, a5, a6, a7⟩ := h
  have eix : ix (σ 0 0 7) = ni := by rw [eni]; exact nI_clamp (by omega)
  unfold K_fetch at hK
  by_cases q1 : bad r (σ 0 0 8)
  · rw [if_pos q1] at hK; exact absurd hK (by decide)
  rw [if_neg q1] at hK
  by_cases q2 : outR a 0 60 ∨ outR b 0 60 ∨ outR c0 0 60 ∨ outR d0 0 60
  · rw [if_pos q2] at hK; exact absurd hK (by decide)
  rw [if_neg q2] at hK
  by_cases q3 : σ 0 0 9 < σ 16 (ix r) 2 ∨ ¬ σ 16 (ix r) 3 = 0 ∨ ¬ σ 0 0 7 < 8
  · rw [if_pos q3] at hK; exact absurd hK (by decide)
  have hn8 : ni < 8 := by
    have q4 : σ 0 0 7 < 8 := Classical.byContradiction fun q => q3 (Or.inr (Or.inr q))
    rw [eni, show (8 : Int32) = nI 8 from rfl, nI_ltI (by omega) (by omega)] at q4; exact q4
  rw [eno] at q1
  obtain ⟨er, hr1, hr20⟩ := nbad hno (by decide) q1
  obtain ⟨f, ef, hf4, hf16⟩ := a6 (ix r) hr20 (by rw [eno]; exact nI_lt hr1 (by omega))
  rw [eix]
  generalize hτ : fetchS σ (ix r) ni a b c0 d0 = τ
  have eτ : ∀ a1 b1 c1, ¬ (a1 = 16 ∧ b1 = ix r ∧ c1 = 3) → ¬ (a1 = 13 ∧ b1 = ni) → a1 ≠ 14 → ¬ (a1 = 0 ∧ c1 = 7) → τ a1 b1 c1 = σ a1 b1 c1 := fun a1 b1 c1 h1 h2 h3 h4 => by rw [← hτ]; unfold fetchS; rw [up_n (fun q => h4 ⟨q.1, q.2.2⟩), up_n (by omega), up_n (by omega), up_n (by omega), up_n (by omega), up_n (by omega), up_n (by omega), up_n h1]
  have e7 : τ 0 0 7 = nI (ni + 1) := by rw [← hτ]; unfold fetchS; rw [up_app, if_pos ⟨rfl, rfl, rfl⟩]
  refine ⟨by rw [eτ 0 0 6 (by omega) (by omega) (by decide) (by omega)]; exact a1, ⟨ni + 1, by omega, e7⟩, ⟨no, hno, (eτ 0 0 8 (by omega) (by omega) (by decide) (by omega)).trans eno⟩, fun i hi => ?_, fun i hi hl => ?_, fun i hi hl => ?_, fun i hi => ?_⟩
  · show τ 11 i 1 = nI (τ 11 i 1).toNatClampNeg ∧ (τ 11 i 1).toNatClampNeg ≤ 16
    rw [eτ 11 i 1 (by omega) (by omega) (by decide) (by omega)]; exact a4 i hi
  · show τ 13 i 2 = nI (τ 13 i 2).toNatClampNeg ∧ 4 ≤ (τ 13 i 2).toNatClampNeg ∧ (τ 13 i 2).toNatClampNeg ≤ 16
    rw [e7, nI_ltI (by omega) (by omega)] at hl
    by_cases q : i = ni
    · rw [q, show τ 13 ni 2 = nI f by rw [← hτ]; unfold fetchS; rw [up_n (by omega), up_n (by omega), up_n (by omega), up_n (by omega), up_n (by omega), up_app, if_pos ⟨rfl, rfl, rfl⟩]; exact ef, nI_clamp (by omega)]
      exact ⟨rfl, hf4, hf16⟩
    · rw [eτ 13 i 2 (by omega) (by omega) (by decide) (by omega)]; exact a5 i hi (by rw [eni]; exact nI_lt (by omega) (by omega))
  · rw [eτ 0 0 8 (by omega) (by omega) (by decide) (by omega)] at hl
    rw [eτ 16 i 1 (by omega) (by omega) (by decide) (by omega)]; exact a6 i hi hl
  · by_cases q : i = ix r
    · rw [q, show τ 16 (ix r) 3 = 1 by rw [← hτ]; unfold fetchS; rw [up_n (by omega), up_n (by omega), up_n (by omega), up_n (by omega), up_n (by omega), up_n (by omega), up_n (by omega), up_app, if_pos ⟨rfl, rfl, rfl⟩]]
      exact Or.inr rfl
    · rw [eτ 16 i 3 (by omega) (by omega) (by decide) (by omega)]; exact a7 i hi
theorem Inv_law {σ : St} {k i j : Nat} {x : Int32} (hk : 17 ≤ k) (h : Inv σ) : Inv (up σ k i j x) := Inv.cong (up_n (by omega)) (up_n (by omega)) (up_n (by omega)) (fun i _ => up_n (by omega)) (fun i _ => up_n (by omega)) (fun i _ => up_n (by omega)) (fun i _ => up_n (by omega)) h
theorem up_at {σ : St} {k i j : Nat} {x : Int32} : up σ k i j x k i j = x := by rw [up_app, if_pos ⟨rfl, rfl, rfl⟩]
theorem lvL_le {σ : St} {w j q : Nat} {v : Nat} (hw : w < 5) (hv1 : 2 ≤ v) (hv2 : v ≤ 13) (ev : σ 15 w 0 = nI v) : ∃ v', 2 ≤ v' ∧ v' ≤ 13 ∧ lvL σ (nI w) (nI j) (nI q) = nI v' := by
  unfold lvL
  rw [ix_nI (show w < 2 ^ 31 by omega), ev, lsV_N hw]
  have h := lsN_or σ w (ix (nI j)) (ix (nI q))
  generalize lsN σ w (ix (nI j)) (ix (nI q)) = a at h
  by_cases hc : oN a = nI v
  · have ha : a ≠ 100 := fun q => by
      rw [(oN_m1 h).mpr q] at hc
      have h3 : ∀ k, k < 14 → ¬ (-1 : Int32) = nI k := by decide +kernel
      exact h3 v (by omega) hc
    rw [oN_v ha, nI_eq (by omega) (by omega)] at hc
    rw [if_pos (by rw [oN_v ha, hc])]
    exact ⟨v + 1, by omega, by omega, nI_1 v⟩
  · rw [if_neg hc]
    exact ⟨v, hv1, hv2, rfl⟩
set_option maxHeartbeats 1000000 in
theorem LInv_learn {T : Nat} {σ : St} (hL : LInv T σ) {w j q : Nat} (hw : w < 5) : LInv (T) (learnS σ σ (nI w) (nI j) (nI q)) := by
  obtain ⟨h1, ⟨h2a, h2b, h2c, h2d⟩, h3, h4, h5, h6, h7, h8, h9, h10, h11⟩ := id hL
  have hInv : Inv (learnS σ σ (nI w) (nI j) (nI q)) := by unfold learnS; exact Inv_up (by omega) (Inv_up (by omega) h1)
  obtain ⟨τ, hτ⟩ : ∃ τ, τ = learnS σ σ (nI w) (nI j) (nI q) := ⟨_, rfl⟩
  rw [← hτ] at hInv ⊢
  have e : ∀ a b c0, (a ≠ 15) → τ a b c0 = σ a b c0 := fun a b c0 h => by
    rw [hτ]
    unfold learnS
    rw [up_n (by omega), up_n (by omega)]
  refine ⟨hInv, ⟨?_, ?_, ?_, ?_⟩, ?_, fun i hi => ?_, fun i hi hl => ?_, fun i j hi hj => ?_, fun i hi hl => ?_, fun i hi hl => ?_, fun j hj => ?_, fun i hi => ?_, fun i hi hl => ?_⟩
  · rw [e 22 0 0 (by omega), e 0 0 6 (by omega)]; exact h2a
  · rw [e 22 0 1 (by omega), e 0 0 7 (by omega)]; exact h2b
  · rw [e 22 0 2 (by omega), e 0 0 8 (by omega)]; exact h2c
  · rw [e 22 0 3 (by omega), e 0 0 9 (by omega)]; exact h2d
  · rw [e 0 0 9 (by omega)]; exact h3
  · rw [e 17 0 i (by omega), e 11 i 1 (by omega)]; exact h4 i hi
  · rw [e 0 0 6 (by omega)] at hl
    rw [e 11 i 1 (by omega)]; exact h5 i hi hl
  · rw [e 18 0 (4 * i + j) (by omega), e 14 i j (by omega)]; exact h6 i j hi hj
  · rw [e 0 0 7 (by omega)] at hl
    rw [e 13 i 1 (by omega), e 19 0 i (by omega), show fN τ i = fN σ i from congrArg Int32.toNatClampNeg (e 13 i 2 (by omega))]; exact h7 i hi hl
  · rw [e 0 0 8 (by omega)] at hl
    rw [e 16 i 0 (by omega), e 16 i 1 (by omega), e 16 i 3 (by omega), e 20 0 i (by omega)]; exact h8 i hi hl
  · rw [e 21 0 j (by omega), e 5 0 j (by omega)]; exact h9 j hj
  · by_cases hiw : i = w
    · obtain ⟨v, hv1, hv2, ev⟩ := h10 w hw
      rw [hiw, hτ]
      unfold learnS
      rw [ix_nI (show w < 2 ^ 31 by omega), up_at]
      exact lvL_le hw hv1 hv2 ev
    · rw [hτ]
      unfold learnS
      rw [ix_nI (show w < 2 ^ 31 by omega), up_n (by omega), up_n (by omega)]
      exact h10 i hi
  · rw [e 0 0 8 (by omega)] at hl
    rw [e 16 i 3 (by omega)]; exact h11 i hi hl
