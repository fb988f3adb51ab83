/-! ===== the model: what is written; bits ===== -/
theorem s_l9 : ∀ n, n < 32 → ((nI n &&& 31).toBitVec.smod 32).toNat = n := by decide +kernel
theorem shr_0 (n : Nat) (hn : n < 32) (x : Int32) : (x >>> (nI n &&& 31)).toBitVec.getLsbD 0 = x.toBitVec.getLsbD n := by
  rw [Int32.toBitVec_shiftRight]
  show (x.toBitVec.sshiftRight ((nI n &&& 31).toBitVec.smod 32).toNat).getLsbD 0 = _
  rw [s_l9 n hn, BitVec.getLsbD_sshiftRight]
  simp [hn]
theorem and1 (y : Int32) : y &&& 1 = 1 ↔ y.toBitVec.getLsbD 0 = true := by
  rw [← Int32.toBitVec_inj, Int32.toBitVec_and, show (1 : Int32).toBitVec = BitVec.twoPow 32 0 by decide, BitVec.and_twoPow]
  cases y.toBitVec.getLsbD 0
  · exact ⟨fun h => absurd h (by decide), fun h => absurd h (by decide)⟩
  · exact ⟨fun _ => rfl, fun _ => rfl⟩
/-- the bit of a piece, read in two ways -/
theorem bit_two {x : Int32} {n : Nat} (hn : n < 32) : (x >>> (nI n &&& 31)) &&& 1 = 1 ↔ ¬ x &&& (1 <<< (nI n &&& 31)) = 0 := by
  rw [and1, shr_0 n hn, bit_zero hn]
  cases x.toBitVec.getLsbD n <;> decide
theorem mr_np {g σ : St} {x : Int32}  (h : MRel g σ) : MRel (up g 0 0 6 x) (up σ 17 0 1 x) := by
  obtain ⟨h1, h2, h3, h4, h5, h6, h7, h8, h9, h10, h11, h12, h13, h14, h15, h16⟩ := h
  refine ⟨?_, ?_, ?_, ?_, fun i hi => ?_, fun i j hi hj => ?_, fun i hi => ?_, fun i hi hl => ?_, fun i j hi hj => ?_, fun i hi => ?_, fun i hi => ?_, fun j hj => ?_, fun i hi => ?_, fun i hi hl => ?_, fun i hi => ?_, fun i hi => ?_⟩
  · rw [up_app, if_pos ⟨rfl, rfl, rfl⟩, up_app, if_pos ⟨rfl, rfl, rfl⟩]
  · rw [up_app, if_neg (by omega), up_app, if_neg (by omega)]
    exact h2
  · rw [up_app, if_neg (by omega), up_app, if_neg (by omega)]
    exact h3
  · rw [up_app, if_neg (by omega), up_app, if_neg (by omega)]
    exact h4
  · rw [up_app, if_neg (by omega), up_app, if_neg (by omega)]
    exact h5 i hi
  · rw [up_app, if_neg (by omega), up_app, if_neg (by omega)]
    exact h6 i j hi hj
  · rw [up_app, if_neg (by omega), up_app, if_neg (by omega)]
    exact h7 i hi
  · rw [up_app, if_neg (by omega)] at hl
    rw [up_app, if_neg (by omega), up_app, if_neg (by omega)]
    exact h8 i hi hl
  · rw [up_app, if_neg (by omega), up_app, if_neg (by omega)]
    exact h9 i j hi hj
  · rw [up_app, if_neg (by omega), up_app, if_neg (by omega)]
    exact h10 i hi
  · rw [up_app, if_neg (by omega), up_app, if_neg (by omega)]
    exact h11 i hi
  · rw [up_app, if_neg (by omega), up_app, if_neg (by omega)]
    exact h12 j hj
  · rw [up_app, if_neg (by omega), up_app, if_neg (by omega)]
    exact h13 i hi
  · rw [up_app, if_neg (by omega)] at hl
    rw [up_app, if_neg (by omega), up_app, if_neg (by omega)]
    exact h14 i hi hl
  · rw [up_app, if_neg (by omega), up_app, if_neg (by omega)]
    exact h15 i hi
  · rw [up_app, if_neg (by omega), up_app, if_neg (by omega)]
    exact h16 i hi
theorem mr_ni {g σ : St} {x : Int32}  (h : MRel g σ) (hx : ∀ i, i < 8 → nI i < x → σ 21 0 i = g 13 i 2) : MRel (up g 0 0 7 x) (up σ 17 0 4 x) := by
  obtain ⟨h1, h2, h3, h4, h5, h6, h7, h8, h9, h10, h11, h12, h13, h14, h15, h16⟩ := h
  refine ⟨?_, ?_, ?_, ?_, fun i hi => ?_, fun i j hi hj => ?_, fun i hi => ?_, fun i hi hl => ?_, fun i j hi hj => ?_, fun i hi => ?_, fun i hi => ?_, fun j hj => ?_, fun i hi => ?_, fun i hi hl => ?_, fun i hi => ?_, fun i hi => ?_⟩
  · rw [up_app, if_neg (by omega), up_app, if_neg (by omega)]
    exact h1
  · rw [up_app, if_pos ⟨rfl, rfl, rfl⟩, up_app, if_pos ⟨rfl, rfl, rfl⟩]
  · rw [up_app, if_neg (by omega), up_app, if_neg (by omega)]
    exact h3
  · rw [up_app, if_neg (by omega), up_app, if_neg (by omega)]
    exact h4
  · rw [up_app, if_neg (by omega), up_app, if_neg (by omega)]
    exact h5 i hi
  · rw [up_app, if_neg (by omega), up_app, if_neg (by omega)]
    exact h6 i j hi hj
  · rw [up_app, if_neg (by omega), up_app, if_neg (by omega)]
    exact h7 i hi
  · rw [up_app, if_pos ⟨rfl, rfl, rfl⟩] at hl
    rw [up_app, if_neg (by omega), up_app, if_neg (by omega)]
    exact hx i hi hl
  · rw [up_app, if_neg (by omega), up_app, if_neg (by omega)]
    exact h9 i j hi hj
  · rw [up_app, if_neg (by omega), up_app, if_neg (by omega)]
    exact h10 i hi
  · rw [up_app, if_neg (by omega), up_app, if_neg (by omega)]
    exact h11 i hi
  · rw [up_app, if_neg (by omega), up_app, if_neg (by omega)]
    exact h12 j hj
  · rw [up_app, if_neg (by omega), up_app, if_neg (by omega)]
    exact h13 i hi
  · rw [up_app, if_neg (by omega)] at hl
    rw [up_app, if_neg (by omega), up_app, if_neg (by omega)]
    exact h14 i hi hl
  · rw [up_app, if_neg (by omega), up_app, if_neg (by omega)]
    exact h15 i hi
  · rw [up_app, if_neg (by omega), up_app, if_neg (by omega)]
    exact h16 i hi
theorem mr_no {g σ : St} {x : Int32}  (h : MRel g σ) (hx : ∀ i, i < 20 → nI i < x → σ 27 0 i = g 16 i 1) : MRel (up g 0 0 8 x) (up σ 17 0 11 x) := by
  obtain ⟨h1, h2, h3, h4, h5, h6, h7, h8, h9, h10, h11, h12, h13, h14, h15, h16⟩ := h
  refine ⟨?_, ?_, ?_, ?_, fun i hi => ?_, fun i j hi hj => ?_, fun i hi => ?_, fun i hi hl => ?_, fun i j hi hj => ?_, fun i hi => ?_, fun i hi => ?_, fun j hj => ?_, fun i hi => ?_, fun i hi hl => ?_, fun i hi => ?_, fun i hi => ?_⟩
  · rw [up_app, if_neg (by omega), up_app, if_neg (by omega)]
    exact h1
  · rw [up_app, if_neg (by omega), up_app, if_neg (by omega)]
    exact h2
  · rw [up_app, if_pos ⟨rfl, rfl, rfl⟩, up_app, if_pos ⟨rfl, rfl, rfl⟩]
  · rw [up_app, if_neg (by omega), up_app, if_neg (by omega)]
    exact h4
  · rw [up_app, if_neg (by omega), up_app, if_neg (by omega)]
    exact h5 i hi
  · rw [up_app, if_neg (by omega), up_app, if_neg (by omega)]
    exact h6 i j hi hj
  · rw [up_app, if_neg (by omega), up_app, if_neg (by omega)]
    exact h7 i hi
  · rw [up_app, if_neg (by omega)] at hl
    rw [up_app, if_neg (by omega), up_app, if_neg (by omega)]
    exact h8 i hi hl
  · rw [up_app, if_neg (by omega), up_app, if_neg (by omega)]
    exact h9 i j hi hj
  · rw [up_app, if_neg (by omega), up_app, if_neg (by omega)]
    exact h10 i hi
  · rw [up_app, if_neg (by omega), up_app, if_neg (by omega)]
    exact h11 i hi
  · rw [up_app, if_neg (by omega), up_app, if_neg (by omega)]
    exact h12 j hj
  · rw [up_app, if_neg (by omega), up_app, if_neg (by omega)]
    exact h13 i hi
  · rw [up_app, if_pos ⟨rfl, rfl, rfl⟩] at hl
    rw [up_app, if_neg (by omega), up_app, if_neg (by omega)]
    exact hx i hi hl
  · rw [up_app, if_neg (by omega), up_app, if_neg (by omega)]
    exact h15 i hi
  · rw [up_app, if_neg (by omega), up_app, if_neg (by omega)]
    exact h16 i hi
theorem mr_day {g σ : St} {x : Int32}  (h : MRel g σ) : MRel (up g 0 0 9 x) (up σ 17 0 0 x) := by
  obtain ⟨h1, h2, h3, h4, h5, h6, h7, h8, h9, h10, h11, h12, h13, h14, h15, h16⟩ := h
  refine ⟨?_, ?_, ?_, ?_, fun i hi => ?_, fun i j hi hj => ?_, fun i hi => ?_, fun i hi hl => ?_, fun i j hi hj => ?_, fun i hi => ?_, fun i hi => ?_, fun j hj => ?_, fun i hi => ?_, fun i hi hl => ?_, fun i hi => ?_, fun i hi => ?_⟩
  · rw [up_app, if_neg (by omega), up_app, if_neg (by omega)]
    exact h1
  · rw [up_app, if_neg (by omega), up_app, if_neg (by omega)]
    exact h2
  · rw [up_app, if_neg (by omega), up_app, if_neg (by omega)]
    exact h3
  · rw [up_app, if_pos ⟨rfl, rfl, rfl⟩, up_app, if_pos ⟨rfl, rfl, rfl⟩]
  · rw [up_app, if_neg (by omega), up_app, if_neg (by omega)]
    exact h5 i hi
  · rw [up_app, if_neg (by omega), up_app, if_neg (by omega)]
    exact h6 i j hi hj
  · rw [up_app, if_neg (by omega), up_app, if_neg (by omega)]
    exact h7 i hi
  · rw [up_app, if_neg (by omega)] at hl
    rw [up_app, if_neg (by omega), up_app, if_neg (by omega)]
    exact h8 i hi hl
  · rw [up_app, if_neg (by omega), up_app, if_neg (by omega)]
    exact h9 i j hi hj
  · rw [up_app, if_neg (by omega), up_app, if_neg (by omega)]
    exact h10 i hi
  · rw [up_app, if_neg (by omega), up_app, if_neg (by omega)]
    exact h11 i hi
  · rw [up_app, if_neg (by omega), up_app, if_neg (by omega)]
    exact h12 j hj
  · rw [up_app, if_neg (by omega), up_app, if_neg (by omega)]
    exact h13 i hi
  · rw [up_app, if_neg (by omega)] at hl
    rw [up_app, if_neg (by omega), up_app, if_neg (by omega)]
    exact h14 i hi hl
  · rw [up_app, if_neg (by omega), up_app, if_neg (by omega)]
    exact h15 i hi
  · rw [up_app, if_neg (by omega), up_app, if_neg (by omega)]
    exact h16 i hi
theorem mr_many {g σ : St} {x : Int32} {a : Nat} (h : MRel g σ) : MRel (up g 11 a 1 x) (up σ 18 0 a x) := by
  obtain ⟨h1, h2, h3, h4, h5, h6, h7, h8, h9, h10, h11, h12, h13, h14, h15, h16⟩ := h
  refine ⟨?_, ?_, ?_, ?_, fun i hi => ?_, fun i j hi hj => ?_, fun i hi => ?_, fun i hi hl => ?_, fun i j hi hj => ?_, fun i hi => ?_, fun i hi => ?_, fun j hj => ?_, fun i hi => ?_, fun i hi hl => ?_, fun i hi => ?_, fun i hi => ?_⟩
  · rw [up_app, if_neg (by omega), up_app, if_neg (by omega)]
    exact h1
  · rw [up_app, if_neg (by omega), up_app, if_neg (by omega)]
    exact h2
  · rw [up_app, if_neg (by omega), up_app, if_neg (by omega)]
    exact h3
  · rw [up_app, if_neg (by omega), up_app, if_neg (by omega)]
    exact h4
  · rw [up_app, up_app]
    by_cases q : i = a
    · rw [if_pos (by omega), if_pos (by omega)]
    · rw [if_neg (by omega), if_neg (by omega)]
      exact h5 i hi
  · rw [up_app, if_neg (by omega), up_app, if_neg (by omega)]
    exact h6 i j hi hj
  · rw [up_app, if_neg (by omega), up_app, if_neg (by omega)]
    exact h7 i hi
  · rw [up_app, if_neg (by omega)] at hl
    rw [up_app, if_neg (by omega), up_app, if_neg (by omega)]
    exact h8 i hi hl
  · rw [up_app, if_neg (by omega), up_app, if_neg (by omega)]
    exact h9 i j hi hj
  · rw [up_app, if_neg (by omega), up_app, if_neg (by omega)]
    exact h10 i hi
  · rw [up_app, if_neg (by omega), up_app, if_neg (by omega)]
    exact h11 i hi
  · rw [up_app, if_neg (by omega), up_app, if_neg (by omega)]
    exact h12 j hj
  · rw [up_app, if_neg (by omega), up_app, if_neg (by omega)]
    exact h13 i hi
  · rw [up_app, if_neg (by omega)] at hl
    rw [up_app, if_neg (by omega), up_app, if_neg (by omega)]
    exact h14 i hi hl
  · rw [up_app, if_neg (by omega), up_app, if_neg (by omega)]
    exact h15 i hi
  · rw [up_app, if_neg (by omega), up_app, if_neg (by omega)]
    exact h16 i hi
theorem mr_pit {g σ : St} {x : Int32} {a b : Nat} (hb : b < 16) (h : MRel g σ) : MRel (up g 12 a b x) (up σ 19 0 (16 * a + b) x) := by
  obtain ⟨h1, h2, h3, h4, h5, h6, h7, h8, h9, h10, h11, h12, h13, h14, h15, h16⟩ := h
  refine ⟨?_, ?_, ?_, ?_, fun i hi => ?_, fun i j hi hj => ?_, fun i hi => ?_, fun i hi hl => ?_, fun i j hi hj => ?_, fun i hi => ?_, fun i hi => ?_, fun j hj => ?_, fun i hi => ?_, fun i hi hl => ?_, fun i hi => ?_, fun i hi => ?_⟩
  · rw [up_app, if_neg (by omega), up_app, if_neg (by omega)]
    exact h1
  · rw [up_app, if_neg (by omega), up_app, if_neg (by omega)]
    exact h2
  · rw [up_app, if_neg (by omega), up_app, if_neg (by omega)]
    exact h3
  · rw [up_app, if_neg (by omega), up_app, if_neg (by omega)]
    exact h4
  · rw [up_app, if_neg (by omega), up_app, if_neg (by omega)]
    exact h5 i hi
  · rw [up_app, up_app]
    by_cases q : i = a ∧ j = b
    · rw [if_pos (by omega), if_pos (by omega)]
    · rw [if_neg (by omega), if_neg (by omega)]
      exact h6 i j hi hj
  · rw [up_app, if_neg (by omega), up_app, if_neg (by omega)]
    exact h7 i hi
  · rw [up_app, if_neg (by omega)] at hl
    rw [up_app, if_neg (by omega), up_app, if_neg (by omega)]
    exact h8 i hi hl
  · rw [up_app, if_neg (by omega), up_app, if_neg (by omega)]
    exact h9 i j hi hj
  · rw [up_app, if_neg (by omega), up_app, if_neg (by omega)]
    exact h10 i hi
  · rw [up_app, if_neg (by omega), up_app, if_neg (by omega)]
    exact h11 i hi
  · rw [up_app, if_neg (by omega), up_app, if_neg (by omega)]
    exact h12 j hj
  · rw [up_app, if_neg (by omega), up_app, if_neg (by omega)]
    exact h13 i hi
  · rw [up_app, if_neg (by omega)] at hl
    rw [up_app, if_neg (by omega), up_app, if_neg (by omega)]
    exact h14 i hi hl
  · rw [up_app, if_neg (by omega), up_app, if_neg (by omega)]
    exact h15 i hi
  · rw [up_app, if_neg (by omega), up_app, if_neg (by omega)]
    exact h16 i hi
theorem mr_own {g σ : St} {x : Int32} {a : Nat} (h : MRel g σ) : MRel (up g 13 a 1 x) (up σ 20 0 a x) := by
  obtain ⟨h1, h2, h3, h4, h5, h6, h7, h8, h9, h10, h11, h12, h13, h14, h15, h16⟩ := h
  refine ⟨?_, ?_, ?_, ?_, fun i hi => ?_, fun i j hi hj => ?_, fun i hi => ?_, fun i hi hl => ?_, fun i j hi hj => ?_, fun i hi => ?_, fun i hi => ?_, fun j hj => ?_, fun i hi => ?_, fun i hi hl => ?_, fun i hi => ?_, fun i hi => ?_⟩
  · rw [up_app, if_neg (by omega), up_app, if_neg (by omega)]
    exact h1
  · rw [up_app, if_neg (by omega), up_app, if_neg (by omega)]
    exact h2
  · rw [up_app, if_neg (by omega), up_app, if_neg (by omega)]
    exact h3
  · rw [up_app, if_neg (by omega), up_app, if_neg (by omega)]
    exact h4
  · rw [up_app, if_neg (by omega), up_app, if_neg (by omega)]
    exact h5 i hi
  · rw [up_app, if_neg (by omega), up_app, if_neg (by omega)]
    exact h6 i j hi hj
  · rw [up_app, up_app]
    by_cases q : i = a
    · rw [if_pos (by omega), if_pos (by omega)]
    · rw [if_neg (by omega), if_neg (by omega)]
      exact h7 i hi
  · rw [up_app, if_neg (by omega)] at hl
    rw [up_app, if_neg (by omega), up_app, if_neg (by omega)]
    exact h8 i hi hl
  · rw [up_app, if_neg (by omega), up_app, if_neg (by omega)]
    exact h9 i j hi hj
  · rw [up_app, if_neg (by omega), up_app, if_neg (by omega)]
    exact h10 i hi
  · rw [up_app, if_neg (by omega), up_app, if_neg (by omega)]
    exact h11 i hi
  · rw [up_app, if_neg (by omega), up_app, if_neg (by omega)]
    exact h12 j hj
  · rw [up_app, if_neg (by omega), up_app, if_neg (by omega)]
    exact h13 i hi
  · rw [up_app, if_neg (by omega)] at hl
    rw [up_app, if_neg (by omega), up_app, if_neg (by omega)]
    exact h14 i hi hl
  · rw [up_app, if_neg (by omega), up_app, if_neg (by omega)]
    exact h15 i hi
  · rw [up_app, if_neg (by omega), up_app, if_neg (by omega)]
    exact h16 i hi
theorem mr_fr {g σ : St} {x : Int32} {a : Nat} (h : MRel g σ) : MRel (up g 13 a 2 x) (up σ 21 0 a x) := by
  obtain ⟨h1, h2, h3, h4, h5, h6, h7, h8, h9, h10, h11, h12, h13, h14, h15, h16⟩ := h
  refine ⟨?_, ?_, ?_, ?_, fun i hi => ?_, fun i j hi hj => ?_, fun i hi => ?_, fun i hi hl => ?_, fun i j hi hj => ?_, fun i hi => ?_, fun i hi => ?_, fun j hj => ?_, fun i hi => ?_, fun i hi hl => ?_, fun i hi => ?_, fun i hi => ?_⟩
  · rw [up_app, if_neg (by omega), up_app, if_neg (by omega)]
    exact h1
  · rw [up_app, if_neg (by omega), up_app, if_neg (by omega)]
    exact h2
  · rw [up_app, if_neg (by omega), up_app, if_neg (by omega)]
    exact h3
  · rw [up_app, if_neg (by omega), up_app, if_neg (by omega)]
    exact h4
  · rw [up_app, if_neg (by omega), up_app, if_neg (by omega)]
    exact h5 i hi
  · rw [up_app, if_neg (by omega), up_app, if_neg (by omega)]
    exact h6 i j hi hj
  · rw [up_app, if_neg (by omega), up_app, if_neg (by omega)]
    exact h7 i hi
  · rw [up_app, if_neg (by omega)] at hl
    rw [up_app, up_app]
    by_cases q : i = a
    · rw [if_pos (by omega), if_pos (by omega)]
    · rw [if_neg (by omega), if_neg (by omega)]
      exact h8 i hi hl
  · rw [up_app, if_neg (by omega), up_app, if_neg (by omega)]
    exact h9 i j hi hj
  · rw [up_app, if_neg (by omega), up_app, if_neg (by omega)]
    exact h10 i hi
  · rw [up_app, if_neg (by omega), up_app, if_neg (by omega)]
    exact h11 i hi
  · rw [up_app, if_neg (by omega), up_app, if_neg (by omega)]
    exact h12 j hj
  · rw [up_app, if_neg (by omega), up_app, if_neg (by omega)]
    exact h13 i hi
  · rw [up_app, if_neg (by omega)] at hl
    rw [up_app, if_neg (by omega), up_app, if_neg (by omega)]
    exact h14 i hi hl
  · rw [up_app, if_neg (by omega), up_app, if_neg (by omega)]
    exact h15 i hi
  · rw [up_app, if_neg (by omega), up_app, if_neg (by omega)]
    exact h16 i hi
theorem mr_opn {g σ : St} {x : Int32} {a b : Nat} (hb : b < 4) (h : MRel g σ) : MRel (up g 14 a b x) (up σ 22 0 (4 * a + b) x) := by
  obtain ⟨h1, h2, h3, h4, h5, h6, h7, h8, h9, h10, h11, h12, h13, h14, h15, h16⟩ := h
  refine ⟨?_, ?_, ?_, ?_, fun i hi => ?_, fun i j hi hj => ?_, fun i hi => ?_, fun i hi hl => ?_, fun i j hi hj => ?_, fun i hi => ?_, fun i hi => ?_, fun j hj => ?_, fun i hi => ?_, fun i hi hl => ?_, fun i hi => ?_, fun i hi => ?_⟩
  · rw [up_app, if_neg (by omega), up_app, if_neg (by omega)]
    exact h1
  · rw [up_app, if_neg (by omega), up_app, if_neg (by omega)]
    exact h2
  · rw [up_app, if_neg (by omega), up_app, if_neg (by omega)]
    exact h3
  · rw [up_app, if_neg (by omega), up_app, if_neg (by omega)]
    exact h4
  · rw [up_app, if_neg (by omega), up_app, if_neg (by omega)]
    exact h5 i hi
  · rw [up_app, if_neg (by omega), up_app, if_neg (by omega)]
    exact h6 i j hi hj
  · rw [up_app, if_neg (by omega), up_app, if_neg (by omega)]
    exact h7 i hi
  · rw [up_app, if_neg (by omega)] at hl
    rw [up_app, if_neg (by omega), up_app, if_neg (by omega)]
    exact h8 i hi hl
  · rw [up_app, up_app]
    by_cases q : i = a ∧ j = b
    · rw [if_pos (by omega), if_pos (by omega)]
    · rw [if_neg (by omega), if_neg (by omega)]
      exact h9 i j hi hj
  · rw [up_app, if_neg (by omega), up_app, if_neg (by omega)]
    exact h10 i hi
  · rw [up_app, if_neg (by omega), up_app, if_neg (by omega)]
    exact h11 i hi
  · rw [up_app, if_neg (by omega), up_app, if_neg (by omega)]
    exact h12 j hj
  · rw [up_app, if_neg (by omega), up_app, if_neg (by omega)]
    exact h13 i hi
  · rw [up_app, if_neg (by omega)] at hl
    rw [up_app, if_neg (by omega), up_app, if_neg (by omega)]
    exact h14 i hi hl
  · rw [up_app, if_neg (by omega), up_app, if_neg (by omega)]
    exact h15 i hi
  · rw [up_app, if_neg (by omega), up_app, if_neg (by omega)]
    exact h16 i hi
theorem mr_lev {g σ : St} {x : Int32} {a : Nat} (h : MRel g σ) : MRel (up g 15 a 0 x) (up σ 23 0 a x) := by
  obtain ⟨h1, h2, h3, h4, h5, h6, h7, h8, h9, h10, h11, h12, h13, h14, h15, h16⟩ := h
  refine ⟨?_, ?_, ?_, ?_, fun i hi => ?_, fun i j hi hj => ?_, fun i hi => ?_, fun i hi hl => ?_, fun i j hi hj => ?_, fun i hi => ?_, fun i hi => ?_, fun j hj => ?_, fun i hi => ?_, fun i hi hl => ?_, fun i hi => ?_, fun i hi => ?_⟩
  · rw [up_app, if_neg (by omega), up_app, if_neg (by omega)]
    exact h1
  · rw [up_app, if_neg (by omega), up_app, if_neg (by omega)]
    exact h2
  · rw [up_app, if_neg (by omega), up_app, if_neg (by omega)]
    exact h3
  · rw [up_app, if_neg (by omega), up_app, if_neg (by omega)]
    exact h4
  · rw [up_app, if_neg (by omega), up_app, if_neg (by omega)]
    exact h5 i hi
  · rw [up_app, if_neg (by omega), up_app, if_neg (by omega)]
    exact h6 i j hi hj
  · rw [up_app, if_neg (by omega), up_app, if_neg (by omega)]
    exact h7 i hi
  · rw [up_app, if_neg (by omega)] at hl
    rw [up_app, if_neg (by omega), up_app, if_neg (by omega)]
    exact h8 i hi hl
  · rw [up_app, if_neg (by omega), up_app, if_neg (by omega)]
    exact h9 i j hi hj
  · rw [up_app, up_app]
    by_cases q : i = a
    · rw [if_pos (by omega), if_pos (by omega)]
    · rw [if_neg (by omega), if_neg (by omega)]
      exact h10 i hi
  · rw [up_app, if_neg (by omega), up_app, if_neg (by omega)]
    exact h11 i hi
  · rw [up_app, if_neg (by omega), up_app, if_neg (by omega)]
    exact h12 j hj
  · rw [up_app, if_neg (by omega), up_app, if_neg (by omega)]
    exact h13 i hi
  · rw [up_app, if_neg (by omega)] at hl
    rw [up_app, if_neg (by omega), up_app, if_neg (by omega)]
    exact h14 i hi hl
  · rw [up_app, if_neg (by omega), up_app, if_neg (by omega)]
    exact h15 i hi
  · rw [up_app, if_neg (by omega), up_app, if_neg (by omega)]
    exact h16 i hi
theorem mr_kno {g σ : St} {x : Int32} {a : Nat} (h : MRel g σ) : MRel (up g 15 a 1 x) (up σ 24 0 a x) := by
  obtain ⟨h1, h2, h3, h4, h5, h6, h7, h8, h9, h10, h11, h12, h13, h14, h15, h16⟩ := h
  refine ⟨?_, ?_, ?_, ?_, fun i hi => ?_, fun i j hi hj => ?_, fun i hi => ?_, fun i hi hl => ?_, fun i j hi hj => ?_, fun i hi => ?_, fun i hi => ?_, fun j hj => ?_, fun i hi => ?_, fun i hi hl => ?_, fun i hi => ?_, fun i hi => ?_⟩
  · rw [up_app, if_neg (by omega), up_app, if_neg (by omega)]
    exact h1
  · rw [up_app, if_neg (by omega), up_app, if_neg (by omega)]
    exact h2
  · rw [up_app, if_neg (by omega), up_app, if_neg (by omega)]
    exact h3
  · rw [up_app, if_neg (by omega), up_app, if_neg (by omega)]
    exact h4
  · rw [up_app, if_neg (by omega), up_app, if_neg (by omega)]
    exact h5 i hi
  · rw [up_app, if_neg (by omega), up_app, if_neg (by omega)]
    exact h6 i j hi hj
  · rw [up_app, if_neg (by omega), up_app, if_neg (by omega)]
    exact h7 i hi
  · rw [up_app, if_neg (by omega)] at hl
    rw [up_app, if_neg (by omega), up_app, if_neg (by omega)]
    exact h8 i hi hl
  · rw [up_app, if_neg (by omega), up_app, if_neg (by omega)]
    exact h9 i j hi hj
  · rw [up_app, if_neg (by omega), up_app, if_neg (by omega)]
    exact h10 i hi
  · rw [up_app, up_app]
    by_cases q : i = a
    · rw [if_pos (by omega), if_pos (by omega)]
    · rw [if_neg (by omega), if_neg (by omega)]
      exact h11 i hi
  · rw [up_app, if_neg (by omega), up_app, if_neg (by omega)]
    exact h12 j hj
  · rw [up_app, if_neg (by omega), up_app, if_neg (by omega)]
    exact h13 i hi
  · rw [up_app, if_neg (by omega)] at hl
    rw [up_app, if_neg (by omega), up_app, if_neg (by omega)]
    exact h14 i hi hl
  · rw [up_app, if_neg (by omega), up_app, if_neg (by omega)]
    exact h15 i hi
  · rw [up_app, if_neg (by omega), up_app, if_neg (by omega)]
    exact h16 i hi
theorem mr_stk {g σ : St} {x : Int32} {a : Nat} (h : MRel g σ) : MRel (up g 5 0 a x) (up σ 25 0 a x) := by
  obtain ⟨h1, h2, h3, h4, h5, h6, h7, h8, h9, h10, h11, h12, h13, h14, h15, h16⟩ := h
  refine ⟨?_, ?_, ?_, ?_, fun i hi => ?_, fun i j hi hj => ?_, fun i hi => ?_, fun i hi hl => ?_, fun i j hi hj => ?_, fun i hi => ?_, fun i hi => ?_, fun j hj => ?_, fun i hi => ?_, fun i hi hl => ?_, fun i hi => ?_, fun i hi => ?_⟩
  · rw [up_app, if_neg (by omega), up_app, if_neg (by omega)]
    exact h1
  · rw [up_app, if_neg (by omega), up_app, if_neg (by omega)]
    exact h2
  · rw [up_app, if_neg (by omega), up_app, if_neg (by omega)]
    exact h3
  · rw [up_app, if_neg (by omega), up_app, if_neg (by omega)]
    exact h4
  · rw [up_app, if_neg (by omega), up_app, if_neg (by omega)]
    exact h5 i hi
  · rw [up_app, if_neg (by omega), up_app, if_neg (by omega)]
    exact h6 i j hi hj
  · rw [up_app, if_neg (by omega), up_app, if_neg (by omega)]
    exact h7 i hi
  · rw [up_app, if_neg (by omega)] at hl
    rw [up_app, if_neg (by omega), up_app, if_neg (by omega)]
    exact h8 i hi hl
  · rw [up_app, if_neg (by omega), up_app, if_neg (by omega)]
    exact h9 i j hi hj
  · rw [up_app, if_neg (by omega), up_app, if_neg (by omega)]
    exact h10 i hi
  · rw [up_app, if_neg (by omega), up_app, if_neg (by omega)]
    exact h11 i hi
  · rw [up_app, up_app]
    by_cases q : j = a
    · rw [if_pos (by omega), if_pos (by omega)]
    · rw [if_neg (by omega), if_neg (by omega)]
      exact h12 j hj
  · rw [up_app, if_neg (by omega), up_app, if_neg (by omega)]
    exact h13 i hi
  · rw [up_app, if_neg (by omega)] at hl
    rw [up_app, if_neg (by omega), up_app, if_neg (by omega)]
    exact h14 i hi hl
  · rw [up_app, if_neg (by omega), up_app, if_neg (by omega)]
    exact h15 i hi
  · rw [up_app, if_neg (by omega), up_app, if_neg (by omega)]
    exact h16 i hi
theorem mr_buy {g σ : St} {x : Int32} {a : Nat} (h : MRel g σ) : MRel (up g 16 a 0 x) (up σ 26 0 a x) := by
  obtain ⟨h1, h2, h3, h4, h5, h6, h7, h8, h9, h10, h11, h12, h13, h14, h15, h16⟩ := h
  refine ⟨?_, ?_, ?_, ?_, fun i hi => ?_, fun i j hi hj => ?_, fun i hi => ?_, fun i hi hl => ?_, fun i j hi hj => ?_, fun i hi => ?_, fun i hi => ?_, fun j hj => ?_, fun i hi => ?_, fun i hi hl => ?_, fun i hi => ?_, fun i hi => ?_⟩
  · rw [up_app, if_neg (by omega), up_app, if_neg (by omega)]
    exact h1
  · rw [up_app, if_neg (by omega), up_app, if_neg (by omega)]
    exact h2
  · rw [up_app, if_neg (by omega), up_app, if_neg (by omega)]
    exact h3
  · rw [up_app, if_neg (by omega), up_app, if_neg (by omega)]
    exact h4
  · rw [up_app, if_neg (by omega), up_app, if_neg (by omega)]
    exact h5 i hi
  · rw [up_app, if_neg (by omega), up_app, if_neg (by omega)]
    exact h6 i j hi hj
  · rw [up_app, if_neg (by omega), up_app, if_neg (by omega)]
    exact h7 i hi
  · rw [up_app, if_neg (by omega)] at hl
    rw [up_app, if_neg (by omega), up_app, if_neg (by omega)]
    exact h8 i hi hl
  · rw [up_app, if_neg (by omega), up_app, if_neg (by omega)]
    exact h9 i j hi hj
  · rw [up_app, if_neg (by omega), up_app, if_neg (by omega)]
    exact h10 i hi
  · rw [up_app, if_neg (by omega), up_app, if_neg (by omega)]
    exact h11 i hi
  · rw [up_app, if_neg (by omega), up_app, if_neg (by omega)]
    exact h12 j hj
  · rw [up_app, up_app]
    by_cases q : i = a
    · rw [if_pos (by omega), if_pos (by omega)]
    · rw [if_neg (by omega), if_neg (by omega)]
      exact h13 i hi
  · rw [up_app, if_neg (by omega)] at hl
    rw [up_app, if_neg (by omega), up_app, if_neg (by omega)]
    exact h14 i hi hl
  · rw [up_app, if_neg (by omega), up_app, if_neg (by omega)]
    exact h15 i hi
  · rw [up_app, if_neg (by omega), up_app, if_neg (by omega)]
    exact h16 i hi
theorem mr_ord {g σ : St} {x : Int32} {a : Nat} (h : MRel g σ) : MRel (up g 16 a 1 x) (up σ 27 0 a x) := by
  obtain ⟨h1, h2, h3, h4, h5, h6, h7, h8, h9, h10, h11, h12, h13, h14, h15, h16⟩ := h
  refine ⟨?_, ?_, ?_, ?_, fun i hi => ?_, fun i j hi hj => ?_, fun i hi => ?_, fun i hi hl => ?_, fun i j hi hj => ?_, fun i hi => ?_, fun i hi => ?_, fun j hj => ?_, fun i hi => ?_, fun i hi hl => ?_, fun i hi => ?_, fun i hi => ?_⟩
  · rw [up_app, if_neg (by omega), up_app, if_neg (by omega)]
    exact h1
  · rw [up_app, if_neg (by omega), up_app, if_neg (by omega)]
    exact h2
  · rw [up_app, if_neg (by omega), up_app, if_neg (by omega)]
    exact h3
  · rw [up_app, if_neg (by omega), up_app, if_neg (by omega)]
    exact h4
  · rw [up_app, if_neg (by omega), up_app, if_neg (by omega)]
    exact h5 i hi
  · rw [up_app, if_neg (by omega), up_app, if_neg (by omega)]
    exact h6 i j hi hj
  · rw [up_app, if_neg (by omega), up_app, if_neg (by omega)]
    exact h7 i hi
  · rw [up_app, if_neg (by omega)] at hl
    rw [up_app, if_neg (by omega), up_app, if_neg (by omega)]
    exact h8 i hi hl
  · rw [up_app, if_neg (by omega), up_app, if_neg (by omega)]
    exact h9 i j hi hj
  · rw [up_app, if_neg (by omega), up_app, if_neg (by omega)]
    exact h10 i hi
  · rw [up_app, if_neg (by omega), up_app, if_neg (by omega)]
    exact h11 i hi
  · rw [up_app, if_neg (by omega), up_app, if_neg (by omega)]
    exact h12 j hj
  · rw [up_app, if_neg (by omega), up_app, if_neg (by omega)]
    exact h13 i hi
  · rw [up_app, if_neg (by omega)] at hl
    rw [up_app, up_app]
    by_cases q : i = a
    · rw [if_pos (by omega), if_pos (by omega)]
    · rw [if_neg (by omega), if_neg (by omega)]
      exact h14 i hi hl
  · rw [up_app, if_neg (by omega), up_app, if_neg (by omega)]
    exact h15 i hi
  · rw [up_app, if_neg (by omega), up_app, if_neg (by omega)]
    exact h16 i hi
theorem mr_rdy {g σ : St} {x : Int32} {a : Nat} (h : MRel g σ) : MRel (up g 16 a 2 x) (up σ 28 0 a x) := by
  obtain ⟨h1, h2, h3, h4, h5, h6, h7, h8, h9, h10, h11, h12, h13, h14, h15, h16⟩ := h
  refine ⟨?_, ?_, ?_, ?_, fun i hi => ?_, fun i j hi hj => ?_, fun i hi => ?_, fun i hi hl => ?_, fun i j hi hj => ?_, fun i hi => ?_, fun i hi => ?_, fun j hj => ?_, fun i hi => ?_, fun i hi hl => ?_, fun i hi => ?_, fun i hi => ?_⟩
  · rw [up_app, if_neg (by omega), up_app, if_neg (by omega)]
    exact h1
  · rw [up_app, if_neg (by omega), up_app, if_neg (by omega)]
    exact h2
  · rw [up_app, if_neg (by omega), up_app, if_neg (by omega)]
    exact h3
  · rw [up_app, if_neg (by omega), up_app, if_neg (by omega)]
    exact h4
  · rw [up_app, if_neg (by omega), up_app, if_neg (by omega)]
    exact h5 i hi
  · rw [up_app, if_neg (by omega), up_app, if_neg (by omega)]
    exact h6 i j hi hj
  · rw [up_app, if_neg (by omega), up_app, if_neg (by omega)]
    exact h7 i hi
  · rw [up_app, if_neg (by omega)] at hl
    rw [up_app, if_neg (by omega), up_app, if_neg (by omega)]
    exact h8 i hi hl
  · rw [up_app, if_neg (by omega), up_app, if_neg (by omega)]
    exact h9 i j hi hj
  · rw [up_app, if_neg (by omega), up_app, if_neg (by omega)]
    exact h10 i hi
  · rw [up_app, if_neg (by omega), up_app, if_neg (by omega)]
    exact h11 i hi
  · rw [up_app, if_neg (by omega), up_app, if_neg (by omega)]
    exact h12 j hj
  · rw [up_app, if_neg (by omega), up_app, if_neg (by omega)]
    exact h13 i hi
  · rw [up_app, if_neg (by omega)] at hl
    rw [up_app, if_neg (by omega), up_app, if_neg (by omega)]
    exact h14 i hi hl
  · rw [up_app, up_app]
    by_cases q : i = a
    · rw [if_pos (by omega), if_pos (by omega)]
    · rw [if_neg (by omega), if_neg (by omega)]
      exact h15 i hi
  · rw [up_app, if_neg (by omega), up_app, if_neg (by omega)]
    exact h16 i hi
theorem mr_fet {g σ : St} {x : Int32} {a : Nat} (h : MRel g σ) : MRel (up g 16 a 3 x) (up σ 29 0 a x) := by
  obtain ⟨h1, h2, h3, h4, h5, h6, h7, h8, h9, h10, h11, h12, h13, h14, h15, h16⟩ := h
  refine ⟨?_, ?_, ?_, ?_, fun i hi => ?_, fun i j hi hj => ?_, fun i hi => ?_, fun i hi hl => ?_, fun i j hi hj => ?_, fun i hi => ?_, fun i hi => ?_, fun j hj => ?_, fun i hi => ?_, fun i hi hl => ?_, fun i hi => ?_, fun i hi => ?_⟩
  · rw [up_app, if_neg (by omega), up_app, if_neg (by omega)]
    exact h1
  · rw [up_app, if_neg (by omega), up_app, if_neg (by omega)]
    exact h2
  · rw [up_app, if_neg (by omega), up_app, if_neg (by omega)]
    exact h3
  · rw [up_app, if_neg (by omega), up_app, if_neg (by omega)]
    exact h4
  · rw [up_app, if_neg (by omega), up_app, if_neg (by omega)]
    exact h5 i hi
  · rw [up_app, if_neg (by omega), up_app, if_neg (by omega)]
    exact h6 i j hi hj
  · rw [up_app, if_neg (by omega), up_app, if_neg (by omega)]
    exact h7 i hi
  · rw [up_app, if_neg (by omega)] at hl
    rw [up_app, if_neg (by omega), up_app, if_neg (by omega)]
    exact h8 i hi hl
  · rw [up_app, if_neg (by omega), up_app, if_neg (by omega)]
    exact h9 i j hi hj
  · rw [up_app, if_neg (by omega), up_app, if_neg (by omega)]
    exact h10 i hi
  · rw [up_app, if_neg (by omega), up_app, if_neg (by omega)]
    exact h11 i hi
  · rw [up_app, if_neg (by omega), up_app, if_neg (by omega)]
    exact h12 j hj
  · rw [up_app, if_neg (by omega), up_app, if_neg (by omega)]
    exact h13 i hi
  · rw [up_app, if_neg (by omega)] at hl
    rw [up_app, if_neg (by omega), up_app, if_neg (by omega)]
    exact h14 i hi hl
  · rw [up_app, if_neg (by omega), up_app, if_neg (by omega)]
    exact h15 i hi
  · rw [up_app, up_app]
    by_cases q : i = a
    · rw [if_pos (by omega), if_pos (by omega)]
    · rw [if_neg (by omega), if_neg (by omega)]
      exact h16 i hi
theorem up_low {σ : St} {k i j : Nat} {x : Int32} (hk : 17 ≤ k ∧ k ≠ 32) (a b c0 : Nat) (h : a < 17 ∨ a = 32) : up σ k i j x a b c0 = σ a b c0 := by
  rw [up_app, if_neg (by omega)]
