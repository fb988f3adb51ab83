/-! ===== the first state ===== -/
def sS (g : Nat → Int32) : St := fun k _ j => if k = 13 ∧ j = 2 then 4 else if k = 15 ∧ j = 0 then 2 else if k = 16 ∧ j = 1 then 4 else if k = 23 then g j else 0
theorem sS_0 {g : Nat → Int32} {k i j : Nat} (h1 : ¬ (k = 13 ∧ j = 2)) (h2 : ¬ (k = 15 ∧ j = 0)) (h3 : ¬ (k = 16 ∧ j = 1)) (h4 : k ≠ 23) : sS g k i j = 0 := by
  unfold sS
  rw [if_neg h1, if_neg h2, if_neg h3, if_neg h4]
theorem nI_nlt0 {i : Nat} (h : i < 2 ^ 31) : ¬ nI i < 0 := fun q => by
  have := (nI_ltI (a := i) (b := 0) h (by decide)).mp q
  omega
theorem RelL_start {g : Nat → Int32} (hg : ∀ j, j < 5 → g j = 2) : RelL (sS g) := by
  have z : ∀ {k i j : Nat}, ¬ (k = 13 ∧ j = 2) → ¬ (k = 15 ∧ j = 0) → ¬ (k = 16 ∧ j = 1) → k ≠ 23 → sS g k i j = 0 := fun h1 h2 h3 h4 => sS_0 h1 h2 h3 h4
  refine ⟨⟨?_, ?_, ?_, ?_, fun i hi => ?_, fun i j hi hj => ?_, fun i hi => ?_, fun i hi hl => ?_, fun i j hi hj => ?_, fun i hi => ?_, fun i hi => ?_, fun j hj => ?_, fun i hi => ?_, fun i hi hl => ?_, fun i hi => ?_, fun i hi => ?_⟩, ⟨0, by omega, z (by omega) (by omega) (by omega) (by omega)⟩, ⟨0, by omega, z (by omega) (by omega) (by omega) (by omega)⟩, ⟨0, by omega, z (by omega) (by omega) (by omega) (by omega)⟩, fun i hi => ?_, fun i hi hl => ?_, fun i hi hl => ?_, fun i hi => ?_⟩
  · rw [z (by omega) (by omega) (by omega) (by omega), z (by omega) (by omega) (by omega) (by omega)]
  · rw [z (by omega) (by omega) (by omega) (by omega), z (by omega) (by omega) (by omega) (by omega)]
  · rw [z (by omega) (by omega) (by omega) (by omega), z (by omega) (by omega) (by omega) (by omega)]
  · rw [z (by omega) (by omega) (by omega) (by omega), z (by omega) (by omega) (by omega) (by omega)]
  · rw [z (by omega) (by omega) (by omega) (by omega), z (by omega) (by omega) (by omega) (by omega)]
  · rw [z (by omega) (by omega) (by omega) (by omega), z (by omega) (by omega) (by omega) (by omega)]
  · rw [z (by omega) (by omega) (by omega) (by omega), z (by omega) (by omega) (by omega) (by omega)]
  · rw [z (by omega) (by omega) (by omega) (by omega)] at hl
    exact absurd hl (nI_nlt0 (by omega))
  · rw [z (by omega) (by omega) (by omega) (by omega), z (by omega) (by omega) (by omega) (by omega)]
  · show g i = 2
    exact hg i hi
  · rw [z (by omega) (by omega) (by omega) (by omega), z (by omega) (by omega) (by omega) (by omega)]
  · rw [z (by omega) (by omega) (by omega) (by omega), z (by omega) (by omega) (by omega) (by omega)]
  · rw [z (by omega) (by omega) (by omega) (by omega), z (by omega) (by omega) (by omega) (by omega)]
  · rw [z (by omega) (by omega) (by omega) (by omega)] at hl
    exact absurd hl (nI_nlt0 (by omega))
  · rw [z (by omega) (by omega) (by omega) (by omega), z (by omega) (by omega) (by omega) (by omega)]
  · rw [z (by omega) (by omega) (by omega) (by omega), z (by omega) (by omega) (by omega) (by omega)]
  · unfold cN
    rw [z (by omega) (by omega) (by omega) (by omega)]
    decide
  · rw [z (by omega) (by omega) (by omega) (by omega)] at hl
    exact absurd hl (nI_nlt0 (by omega))
  · rw [z (by omega) (by omega) (by omega) (by omega)] at hl
    exact absurd hl (nI_nlt0 (by omega))
  · exact Or.inl (z (by omega) (by omega) (by omega) (by omega))
