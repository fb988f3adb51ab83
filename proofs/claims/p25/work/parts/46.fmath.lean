/-! ===== the law's forward sums against the class's least sum ===== -/
/-- the least over 1..n, at most 10000 -/
def ls (f : Nat → Nat) : Nat → Nat
  | 0 => 10000
  | n + 1 => if f (n + 1) < ls f n then f (n + 1) else ls f n
theorem ls_le (f : Nat → Nat) : ∀ n, ls f n ≤ 10000
  | 0 => Nat.le_refl _
  | n + 1 => by
    have ih := ls_le f n
    unfold ls
    split <;> omega
theorem ls_lb (f : Nat → Nat) : ∀ (n g : Nat), 1 ≤ g → g ≤ n → ls f n ≤ f g
  | 0, g, h1, h2 => by omega
  | n + 1, g, h1, h2 => by
    unfold ls
    by_cases q : g = n + 1
    · subst q
      split <;> omega
    · have ih := ls_lb f n g h1 (by omega)
      split <;> omega
theorem ls_at (f : Nat → Nat) : ∀ n, ls f n < 10000 → ∃ g, 1 ≤ g ∧ g ≤ n ∧ f g = ls f n
  | 0, h => absurd h (by unfold ls; omega)
  | n + 1, h => by
    by_cases q : f (n + 1) < ls f n
    · refine ⟨n + 1, by omega, by omega, ?_⟩
      unfold ls
      rw [if_pos q]
    · have e : ls f (n + 1) = ls f n := by
        show (if f (n + 1) < ls f n then f (n + 1) else ls f n) = ls f n
        rw [if_neg q]
      rw [e] at h ⊢
      obtain ⟨g, h1, h2, h3⟩ := ls_at f n h
      exact ⟨g, h1, by omega, h3⟩
/-- the law's sums: the least to note i in position h -/
def FW (P : Nat → Nat → Bool) (hi : Nat) : Nat → Nat → Nat
  | 0, h => if P 0 h = true then 0 else 10000
  | i + 1, h => if P (i + 1) h = true then ls (fun k => FW P hi i k + apN k h) hi else 10000
theorem FW_le (P : Nat → Nat → Bool) (hi i h : Nat) : FW P hi i h ≤ 10000 := by
  cases i with
  | zero => unfold FW; split <;> omega
  | succ i => unfold FW; split; exact ls_le _ _; exact Nat.le_refl _
def leastF (P : Nat → Nat → Bool) (hi n : Nat) : Nat := if n = 0 then 10000 else ls (FW P hi (n - 1)) hi
def co (f : Nat → Nat) : Nat → Nat
  | 0 => 0
  | i + 1 => co f i + sh (f i) (f (i + 1))
theorem co_congr {f g : Nat → Nat} : ∀ {i : Nat}, (∀ j, j ≤ i → f j = g j) → co f i = co g i
  | 0, _ => rfl
  | i + 1, h => by
    show co f i + sh (f i) (f (i + 1)) = co g i + sh (g i) (g (i + 1))
    rw [co_congr (fun j hj => h j (by omega)), h i (by omega), h (i + 1) (by omega)]
theorem co_le {f : Nat → Nat} : ∀ {i : Nat}, (∀ j, j ≤ i → f j ≤ 13) → co f i ≤ 13 * i
  | 0, _ => Nat.le_refl _
  | i + 1, h => by
    have ih := co_le (f := f) (i := i) (fun j hj => h j (by omega))
    have h2 := sh_le (h i (by omega)) (h (i + 1) (by omega))
    show co f i + sh (f i) (f (i + 1)) ≤ 13 * (i + 1)
    omega
section
variable {P : Nat → Nat → Bool} {hi : Nat}
theorem FW_path (hP : ∀ i h, P i h = true → 1 ≤ h ∧ h ≤ hi) {f : Nat → Nat} : ∀ i, (∀ j, j ≤ i → P j (f j) = true) → FW P hi i (f i) ≤ co f i
  | 0, h => by
    unfold FW
    rw [if_pos (h 0 (by omega))]
    exact Nat.le_refl _
  | i + 1, h => by
    have ih := FW_path hP i (fun j hj => h j (by omega))
    obtain ⟨a1, a2⟩ := hP i (f i) (h i (by omega))
    have e : FW P hi (i + 1) (f (i + 1)) = ls (fun k => FW P hi i k + apN k (f (i + 1))) hi := by
      show (if P (i + 1) (f (i + 1)) = true then _ else _) = _
      rw [if_pos (h (i + 1) (by omega))]
    rw [e]
    have l := ls_lb (fun k => FW P hi i k + apN k (f (i + 1))) hi (f i) a1 a2
    have e2 := apN_sh (a := f i) (b := f (i + 1)) a1
    show _ ≤ co f i + sh (f i) (f (i + 1))
    have l' : ls (fun k => FW P hi i k + apN k (f (i + 1))) hi ≤ FW P hi i (f i) + apN (f i) (f (i + 1)) := l
    omega
theorem path_FW (hP : ∀ i h, P i h = true → 1 ≤ h ∧ h ≤ hi) : ∀ (i h : Nat), FW P hi i h < 10000 → ∃ f : Nat → Nat, (∀ j, j ≤ i → P j (f j) = true) ∧ f i = h ∧ co f i = FW P hi i h
  | 0, h, hl => by
    unfold FW at hl
    by_cases p : P 0 h = true
    · refine ⟨fun _ => h, fun j hj => ?_, rfl, ?_⟩
      · rw [show j = 0 by omega]; exact p
      · unfold FW; rw [if_pos p]; rfl
    · rw [if_neg p] at hl; omega
  | i + 1, h, hl => by
    by_cases p : P (i + 1) h = true
    · have e : FW P hi (i + 1) h = ls (fun k => FW P hi i k + apN k h) hi := by
        show (if P (i + 1) h = true then _ else _) = _
        rw [if_pos p]
      rw [e] at hl
      obtain ⟨g, g1, g2, g3⟩ := ls_at _ _ hl
      have g3' : FW P hi i g + apN g h = ls (fun k => FW P hi i k + apN k h) hi := g3
      obtain ⟨f, f1, f2, f3⟩ := path_FW hP i g (by omega)
      refine ⟨fun j => if j ≤ i then f j else h, fun j hj => ?_, ?_, ?_⟩
      · by_cases q : j ≤ i
        · show P j (if j ≤ i then f j else h) = true
          rw [if_pos q]; exact f1 j q
        · show P j (if j ≤ i then f j else h) = true
          rw [if_neg q, show j = i + 1 by omega]; exact p
      · show (if i + 1 ≤ i then f (i + 1) else h) = h
        rw [if_neg (by omega)]
      · show co (fun j => if j ≤ i then f j else h) i + sh (if i ≤ i then f i else h) (if i + 1 ≤ i then f (i + 1) else h) = _
        rw [if_pos (Nat.le_refl i), if_neg (show ¬ i + 1 ≤ i by omega), f2, co_congr (f := fun j => if j ≤ i then f j else h) (g := f) (fun j hj => if_pos hj), f3, e, ← g3', apN_sh g1]
    · have e : FW P hi (i + 1) h = 10000 := by
        show (if P (i + 1) h = true then _ else _) = _
        rw [if_neg p]
      omega
theorem mn_lb (f : Nat → Nat) (n g : Nat) (h1 : 1 ≤ g) (h2 : g ≤ n) : mn f n ≤ f g := by
  rcases am_spec f n with ⟨_, e, h⟩ | ⟨_, _, _, _, h, _⟩
  · rw [e]; exact h g h1 h2
  · exact h g h1 h2
def cs (f : Nat → Nat) : Nat → Nat → Nat
  | _, 0 => 0
  | i, k + 1 => sh (f i) (f (i + 1)) + cs f (i + 1) k
theorem co_cs (f : Nat → Nat) : ∀ k i, co f (i + k) = co f i + cs f i k
  | 0, i => rfl
  | k + 1, i => by
    show co f (i + k) + sh (f (i + k)) (f (i + k + 1)) = co f i + (sh (f i) (f (i + 1)) + cs f (i + 1) k)
    have ih := co_cs f k (i + 1)
    have e : co f (i + 1 + k) = co f (i + k) + sh (f (i + k)) (f (i + k + 1)) := by
      rw [show i + 1 + k = i + k + 1 by omega]; rfl
    have e2 : co f (i + 1) = co f i + sh (f i) (f (i + 1)) := rfl
    omega
theorem VR_path (hP : ∀ i h, P i h = true → 1 ≤ h ∧ h ≤ 13) {f : Nat → Nat} : ∀ k i, (∀ j, i ≤ j → j ≤ i + k → P j (f j) = true) → VR P k i (f i) ≤ cs f i k
  | 0, i, h => by
    unfold VR
    rw [if_pos (h i (by omega) (by omega))]
    exact Nat.le_refl _
  | k + 1, i, h => by
    have ih := VR_path hP k (i + 1) (fun j h1 h2 => h j (by omega) (by omega))
    unfold VR
    rw [if_pos (h i (by omega) (by omega))]
    obtain ⟨b1, b2⟩ := hP (i + 1) (f (i + 1)) (h (i + 1) (by omega) (by omega))
    have l := mn_lb (fun g => sh (f i) g + VR P k (i + 1) g) 13 (f (i + 1)) b1 b2
    have l' : mn (fun g => sh (f i) g + VR P k (i + 1) g) 13 ≤ sh (f i) (f (i + 1)) + VR P k (i + 1) (f (i + 1)) := l
    show _ ≤ sh (f i) (f (i + 1)) + cs f (i + 1) k
    omega
theorem tot_path (hP : ∀ i h, P i h = true → 1 ≤ h ∧ h ≤ 13) {f : Nat → Nat} {m : Nat} (h : ∀ j, j ≤ m → P j (f j) = true) : tot P (m + 1) ≤ co f m := by
  have l := VR_path hP m 0 (f := f) (fun j _ h2 => h j (by omega))
  obtain ⟨b1, b2⟩ := hP 0 (f 0) (h 0 (by omega))
  have l2 := mn_lb (fun g => sh 0 g + VR P m 0 g) 13 (f 0) b1 b2
  have l2' : mn (fun g => sh 0 g + VR P m 0 g) 13 ≤ sh 0 (f 0) + VR P m 0 (f 0) := l2
  have e := co_cs f m 0
  have e0 : sh 0 (f 0) = 0 := rfl
  have e1 : co f 0 = 0 := rfl
  rw [show 0 + m = m by omega] at e
  show mn (fun g => sh 0 g + VR P m 0 g) 13 ≤ co f m
  omega
theorem sumf_co (P : Nat → Nat → Bool) (n : Nat) : ∀ i, sumf P n (i + 1) = co (rowf P n) i
  | 0 => rfl
  | i + 1 => by
    show sumf P n (i + 1) + sh (rowf P n i) (rowf P n (i + 1)) = co (rowf P n) i + sh (rowf P n i) (rowf P n (i + 1))
    rw [sumf_co P n i]
theorem sumfT {n : Nat} (h0 : 0 < n) (ht : tot P n < FARn) : sumf P n n = tot P n := by
  obtain ⟨a1, a2, a3, a4, a5, a6⟩ := row_spec h0 ht (n - 1) (by omega)
  rw [show n - 1 - (n - 1) = 0 by omega, VR_last a3, show n - 1 + 1 = n by omega] at a5
  omega
theorem tot_small {n : Nat} (h0 : 0 < n) (hn : n ≤ 16) (ht : tot P n < FARn) : tot P n ≤ 195 := by
  rw [← sumfT h0 ht]
  obtain ⟨m, rfl⟩ : ∃ m, n = m + 1 := ⟨n - 1, by omega⟩
  rw [sumf_co]
  have l := co_le (f := rowf P (m + 1)) (i := m) (fun j hj => (row_spec h0 ht j (by omega)).2.1)
  omega
theorem leastF_yes (hP : ∀ i h, P i h = true → 1 ≤ h ∧ h ≤ hi) (hhi : hi ≤ 13) {n : Nat} (h0 : 0 < n) (hn : n ≤ 16) (ht : tot P n < FARn) : leastF P hi n = tot P n := by
  have hs := tot_small h0 hn ht
  have hsum := sumfT h0 ht
  obtain ⟨m, rfl⟩ : ∃ m, n = m + 1 := ⟨n - 1, by omega⟩
  unfold leastF
  rw [if_neg (by omega), show m + 1 - 1 = m by omega]
  have hrow : ∀ j, j ≤ m → P j (rowf P (m + 1) j) = true := fun j hj => (row_spec h0 ht j (by omega)).2.2.1
  have p1 := FW_path hP (f := rowf P (m + 1)) m hrow
  obtain ⟨b1, b2⟩ := hP m _ (hrow m (by omega))
  have p2 := ls_lb (FW P hi m) hi _ b1 b2
  rw [sumf_co] at hsum
  have hlt : ls (FW P hi m) hi < 10000 := by omega
  obtain ⟨g, g1, g2, g3⟩ := ls_at _ _ hlt
  obtain ⟨f, f1, f2, f3⟩ := path_FW hP m g (by omega)
  have p3 := tot_path (fun i h q => ⟨(hP i h q).1, by have := (hP i h q).2; omega⟩) f1
  omega
theorem leastF_no (hP : ∀ i h, P i h = true → 1 ≤ h ∧ h ≤ hi) (hhi : hi ≤ 13) {n : Nat} (ht : ¬ (0 < n ∧ tot P n < FARn)) : leastF P hi n = 10000 := by
  unfold leastF
  by_cases h0 : n = 0
  · rw [if_pos h0]
  · rw [if_neg h0]
    have hle := ls_le (FW P hi (n - 1)) hi
    apply Classical.byContradiction
    intro hne
    obtain ⟨g, g1, g2, g3⟩ := ls_at (FW P hi (n - 1)) hi (by omega)
    obtain ⟨f, f1, f2, f3⟩ := path_FW hP (n - 1) g (by omega)
    have p3 := tot_path (fun i h q => ⟨(hP i h q).1, by have := (hP i h q).2; omega⟩) f1
    rw [show n - 1 + 1 = n by omega] at p3
    have hF : FARn = 1000000 := rfl
    exact ht ⟨by omega, by omega⟩
end
theorem apN_sh' {a b : Nat} (h : 1 ≤ b) : apN a b = sh b a := by
  unfold apN sh
  rw [if_neg (show ¬ b = 0 by omega)]
  by_cases q : a < b
  · rw [if_pos q, if_neg (by omega)]
  · rw [if_neg q, if_pos (by omega)]
theorem lowS_congr {p h : Int32} {O O' : Nat → Int32} (e : ∀ k, k < 4 → O k = O' k) : lowS p O h = lowS p O' h := by
  unfold lowS
  rw [e 0 (by omega), e 1 (by omega), e 2 (by omega), e 3 (by omega)]
theorem lowS_rng (p h : Int32) (O : Nat → Int32) : lowS p O h = -1 ∨ ∃ k, k < 4 ∧ lowS p O h = nI k := by
  unfold lowS
  split
  · exact Or.inr ⟨0, by omega, rfl⟩
  · split
    · exact Or.inr ⟨1, by omega, rfl⟩
    · split
      · exact Or.inr ⟨2, by omega, rfl⟩
      · split
        · exact Or.inr ⟨3, by omega, rfl⟩
        · exact Or.inl rfl
/-- all but the hand's scratch and the law's own two arrays is the same -/
def SameL (σ τ : St) : Prop := ∀ a b c0, a < 23 → a ≠ 6 → a ≠ 7 → a ≠ 9 → a ≠ 10 → τ a b c0 = σ a b c0
theorem SameL.k {σ τ : St} (h : SameL σ τ) (a b c0 : Nat) (ha : a < 23 ∧ a ≠ 6 ∧ a ≠ 7 ∧ a ≠ 9 ∧ a ≠ 10) : τ a b c0 = σ a b c0 := h a b c0 ha.1 ha.2.1 ha.2.2.1 ha.2.2.2.1 ha.2.2.2.2
theorem SameL.rf {σ : St} : SameL σ σ := fun _ _ _ _ _ _ _ _ => rfl
theorem SameL.c {σ τ τ' : St} (h : SameL σ τ) (h2 : SameC τ τ') : SameL σ τ' := fun a b c0 h0 h1 h2' h3 h4 => (h2 a b c0 h1 h2' h3 h4).trans (h a b c0 h0 h1 h2' h3 h4)
theorem SameL.up {σ τ : St} (h : SameL σ τ) {k i j : Nat} {x : Int32} (hk : 23 ≤ k) : SameL σ (up τ k i j x) := fun a b c0 h0 h1 h2 h3 h4 => by rw [up_n (by omega)]; exact h a b c0 h0 h1 h2 h3 h4
theorem LInv.sameL {T : Nat} {σ τ : St} (h : SameL σ τ) (hL : LInv T σ) : LInv T τ := by
  obtain ⟨h1, ⟨h2a, h2b, h2c, h2d⟩, h3, h4, h5, h6, h7, h8, h9, h10, h11⟩ := hL
  refine ⟨Inv.cong (h.k 0 0 6 (by decide)) (h.k 0 0 7 (by decide)) (h.k 0 0 8 (by decide)) (fun i _ => h.k 11 i 1 (by decide)) (fun i _ => h.k 13 i 2 (by decide)) (fun i _ => h.k 16 i 1 (by decide)) (fun i _ => h.k 16 i 3 (by decide)) h1, ⟨?_, ?_, ?_, ?_⟩, ?_, fun i hi => ?_, fun i hi hl => ?_, fun i j hi hj => ?_, fun i hi hl => ?_, fun i hi hl => ?_, fun j hj => ?_, fun i hi => ?_, fun i hi hl => ?_⟩
  · rw [h.k 22 0 0 (by decide), h.k 0 0 6 (by decide)]; exact h2a
  · rw [h.k 22 0 1 (by decide), h.k 0 0 7 (by decide)]; exact h2b
  · rw [h.k 22 0 2 (by decide), h.k 0 0 8 (by decide)]; exact h2c
  · rw [h.k 22 0 3 (by decide), h.k 0 0 9 (by decide)]; exact h2d
  · rw [h.k 0 0 9 (by decide)]; exact h3
  · rw [h.k 17 0 i (by decide), h.k 11 i 1 (by decide)]; exact h4 i hi
  · rw [h.k 0 0 6 (by decide)] at hl
    rw [h.k 11 i 1 (by decide)]; exact h5 i hi hl
  · rw [h.k 18 0 (4 * i + j) (by decide), h.k 14 i j (by decide)]; exact h6 i j hi hj
  · rw [h.k 0 0 7 (by decide)] at hl
    rw [h.k 13 i 1 (by decide), h.k 19 0 i (by decide), show fN τ i = fN σ i from congrArg Int32.toNatClampNeg (h.k 13 i 2 (by decide))]; exact h7 i hi hl
  · rw [h.k 0 0 8 (by decide)] at hl
    rw [h.k 16 i 0 (by decide), h.k 16 i 1 (by decide), h.k 16 i 3 (by decide), h.k 20 0 i (by decide)]; exact h8 i hi hl
  · rw [h.k 21 0 j (by decide), h.k 5 0 j (by decide)]; exact h9 j hj
  · rw [h.k 15 i 0 (by decide)]; exact h10 i hi
  · rw [h.k 0 0 8 (by decide)] at hl
    rw [h.k 16 i 3 (by decide)]; exact h11 i hi hl
/-- what stands through fingers, of the piece j on the instrument q -/
def FAC (ad : Nat → Nat → Nat) (T : Nat) (σ : St) (np ni j q w f0 hi n : Nat) (P : Nat → Nat → Bool) : Prop := LInv T σ ∧ σ 0 0 6 = nI np ∧ np ≤ 8 ∧ σ 0 0 7 = nI ni ∧ ni ≤ 8 ∧ j < np ∧ q < ni ∧ (23, 0) ∈ IX ad ∧ (24, 0) ∈ IX ad ∧ σ 19 0 q = nI (f0 + 32 * w) ∧ w < 5 ∧ f0 ≤ 16 ∧ hi + 3 = f0 ∧ 1 ≤ hi ∧ σ 17 0 j = nI n ∧ σ 11 j 1 = nI n ∧ n ≤ 16 ∧ (∀ i h, P i h = true ↔ (1 ≤ h ∧ h ≤ hi ∧ lowS (σ 12 j i) (fun k => σ 18 0 (4 * q + k)) (nI h) ≠ -1)) ∧ PFs σ j q = P ∧ cN σ j = n
theorem FAC.of {ad : Nat → Nat → Nat} {T : Nat} {σ : St} {np ni j q : Nat} (hI : LInv T σ) (enp : σ 0 0 6 = nI np) (hnp : np ≤ 8) (eni : σ 0 0 7 = nI ni) (hni : ni ≤ 8) (hj : j < np) (hq : q < ni) (h23 : (23, 0) ∈ IX ad) (h24 : (24, 0) ∈ IX ad) : ∃ w, FAC ad T σ np ni j q w (fN σ q) (fN σ q - 3) (cN σ j) (PFs σ j q) := by
  obtain ⟨wq, hwq, e13, ef⟩ := hI.2.2.2.2.2.2.1 q (by omega) (by rw [eni]; exact nI_lt hq (by omega))
  obtain ⟨_, hf4, hf16⟩ := hI.1.fr (q := q) (by omega) (by rw [eni]; exact nI_lt hq (by omega))
  obtain ⟨ec, hc⟩ := hI.1.2.2.2.1 j (by omega)
  refine ⟨wq, hI, enp, hnp, eni, hni, hj, hq, h23, h24, ef, hwq, hf16, by omega, by omega, (hI.2.2.2.1 j (by omega)).trans ec, ec, hc, fun i h => ?_, rfl, rfl⟩
  show Pf σ j q (fN σ q) i h = true ↔ _
  rw [Pf_iff, lowS_congr (O := fun k => σ 18 0 (4 * q + k)) (O' := σ 14 q) (fun k hk => hI.2.2.2.2.2.1 q k (by omega) hk)]
  constructor
  · rintro ⟨a, b, c⟩; exact ⟨a, by omega, c⟩
  · rintro ⟨a, b, c⟩; exact ⟨a, by omega, c⟩
