/-! ===== plain facts ===== -/
theorem up_id {σ : St} {k i j : Nat} {x : Int32} (h : σ k i j = x) : σ = up σ k i j x := by
  funext k' i' j'
  rw [up_app]
  by_cases q : k' = k ∧ i' = i ∧ j' = j
  · obtain ⟨rfl, rfl, rfl⟩ := q
    rw [if_pos ⟨rfl, rfl, rfl⟩, h]
  · rw [if_neg q]
def okP (x : Int32) : Prop := ¬ x < 0 ∧ x ≤ 80
theorem nI_lit (n : Nat) : (OfNat.ofNat n : Int32) = nI n := rfl
/-- the fret of a pitch lies under the hand -/
def lies (f h : Int32) : Prop := f = 0 ∨ (¬ f < h ∧ ¬ h + 3 < f)
theorem lies_dec (f h : Int32) : lies f h ∨ ¬ lies f h := Classical.em _
/-- the first string of four -/
noncomputable def lowS (p : Int32) (O : Nat → Int32) (h : Int32) : Int32 := by
  classical exact if lies (p - O 0) h then 0 else if lies (p - O 1) h then 1 else if lies (p - O 2) h then 2 else if lies (p - O 3) h then 3 else -1
def FARn : Nat := 1000000
/-- a shift from b, where 0 is nowhere -/
def sh (b h : Nat) : Nat := if b = 0 then 0 else if b ≤ h then h - b else b - h
/-- the least over 1..n, at most FARn; the lowest place of it -/
def mn (f : Nat → Nat) : Nat → Nat
  | 0 => FARn
  | n + 1 => if f (n + 1) < mn f n then f (n + 1) else mn f n
def am (f : Nat → Nat) : Nat → Nat
  | 0 => 0
  | n + 1 => if f (n + 1) < mn f n then n + 1 else am f n
theorem mn_le (f : Nat → Nat) : ∀ n, mn f n ≤ FARn
  | 0 => Nat.le_refl _
  | n + 1 => by
    have ih := mn_le f n
    unfold mn
    split <;> omega
theorem am_spec (f : Nat → Nat) : ∀ n, (am f n = 0 ∧ mn f n = FARn ∧ ∀ g, 1 ≤ g → g ≤ n → FARn ≤ f g) ∨ (1 ≤ am f n ∧ am f n ≤ n ∧ f (am f n) = mn f n ∧ mn f n < FARn ∧ (∀ g, 1 ≤ g → g ≤ n → mn f n ≤ f g) ∧ ∀ g, 1 ≤ g → g < am f n → mn f n < f g)
  | 0 => Or.inl ⟨rfl, rfl, fun g h1 h2 => by omega⟩
  | n + 1 => by
    have hle := mn_le f n
    rcases am_spec f n with ⟨h1, h2, h3⟩ | ⟨h1, h2, h3, h4, h5, h6⟩
    · by_cases h : f (n + 1) < mn f n
      · right
        have e1 : am f (n + 1) = n + 1 := by unfold am; rw [if_pos h]
        have e2 : mn f (n + 1) = f (n + 1) := by unfold mn; rw [if_pos h]
        rw [e1, e2]
        refine ⟨by omega, by omega, rfl, by omega, fun g g1 g2 => ?_, fun g g1 g2 => ?_⟩
        · rcases Nat.lt_or_ge g (n + 1) with q | q
          · have := h3 g g1 (by omega); omega
          · rw [show g = n + 1 by omega]; exact Nat.le_refl _
        · have := h3 g g1 (by omega); omega
      · left
        have e1 : am f (n + 1) = am f n := by
          show (if f (n + 1) < mn f n then n + 1 else am f n) = am f n
          rw [if_neg h]
        have e2 : mn f (n + 1) = mn f n := by
          show (if f (n + 1) < mn f n then f (n + 1) else mn f n) = mn f n
          rw [if_neg h]
        rw [e1, e2]
        refine ⟨h1, h2, fun g g1 g2 => ?_⟩
        rcases Nat.lt_or_ge g (n + 1) with q | q
        · exact h3 g g1 (by omega)
        · rw [show g = n + 1 by omega]; omega
    · by_cases h : f (n + 1) < mn f n
      · right
        have e1 : am f (n + 1) = n + 1 := by unfold am; rw [if_pos h]
        have e2 : mn f (n + 1) = f (n + 1) := by unfold mn; rw [if_pos h]
        rw [e1, e2]
        refine ⟨by omega, by omega, rfl, by omega, fun g g1 g2 => ?_, fun g g1 g2 => ?_⟩
        · rcases Nat.lt_or_ge g (n + 1) with q | q
          · have := h5 g g1 (by omega); omega
          · rw [show g = n + 1 by omega]; exact Nat.le_refl _
        · have := h5 g g1 (by omega); omega
      · right
        have e1 : am f (n + 1) = am f n := by
          show (if f (n + 1) < mn f n then n + 1 else am f n) = am f n
          rw [if_neg h]
        have e2 : mn f (n + 1) = mn f n := by
          show (if f (n + 1) < mn f n then f (n + 1) else mn f n) = mn f n
          rw [if_neg h]
        rw [e1, e2]
        refine ⟨h1, by omega, h3, h4, fun g g1 g2 => ?_, h6⟩
        rcases Nat.lt_or_ge g (n + 1) with q | q
        · exact h5 g g1 (by omega)
        · rw [show g = n + 1 by omega]; omega
theorem mn_congr {f g : Nat → Nat} : ∀ {n : Nat}, (∀ k, 1 ≤ k → k ≤ n → f k = g k ∨ (FARn ≤ f k ∧ FARn ≤ g k)) → mn f n = mn g n ∧ am f n = am g n
  | 0, _ => ⟨rfl, rfl⟩
  | n + 1, h => by
    obtain ⟨h1, h2⟩ := mn_congr (n := n) (fun k a b => h k a (by omega))
    have hl := mn_le g n
    show (if f (n + 1) < mn f n then f (n + 1) else mn f n) = (if g (n + 1) < mn g n then g (n + 1) else mn g n) ∧ (if f (n + 1) < mn f n then n + 1 else am f n) = (if g (n + 1) < mn g n then n + 1 else am g n)
    rw [h1, h2]
    rcases h (n + 1) (by omega) (Nat.le_refl _) with q | ⟨q1, q2⟩
    · rw [q]; exact ⟨rfl, rfl⟩
    · rw [if_neg (by omega), if_neg (by omega), if_neg (by omega), if_neg (by omega)]; exact ⟨rfl, rfl⟩
/-- positions beyond hi are out of reach: the least over fewer is the same -/
theorem mn_cut {f : Nat → Nat} {a : Nat} : ∀ {n : Nat}, (∀ k, a < k → k ≤ a + n → FARn ≤ f k) → mn f (a + n) = mn f a ∧ am f (a + n) = am f a
  | 0, _ => ⟨rfl, rfl⟩
  | n + 1, h => by
    obtain ⟨h1, h2⟩ := mn_cut (a := a) (n := n) (fun k x y => h k x (by omega))
    have hl := mn_le f a
    have hk := h (a + (n + 1)) (by omega) (Nat.le_refl _)
    show (if f (a + n + 1) < mn f (a + n) then f (a + n + 1) else mn f (a + n)) = mn f a ∧ (if f (a + n + 1) < mn f (a + n) then a + n + 1 else am f (a + n)) = am f a
    rw [show a + n + 1 = a + (n + 1) by omega, h1, h2, if_neg (by omega), if_neg (by omega)]
    exact ⟨rfl, rfl⟩
/-- the least sum of shifts from a position of note i on, k notes being left behind it -/
def VR (P : Nat → Nat → Bool) : Nat → Nat → Nat → Nat
  | 0, i, h => if P i h = true then 0 else FARn
  | k + 1, i, h => if P i h = true then mn (fun g => sh h g + VR P k (i + 1) g) 13 else FARn
theorem VR_le (P : Nat → Nat → Bool) (k i h : Nat) : VR P k i h ≤ FARn := by
  cases k with
  | zero => unfold VR; split <;> (unfold FARn; omega)
  | succ k => unfold VR; split; exact mn_le _ _; exact Nat.le_refl _
theorem VR_no {P : Nat → Nat → Bool} {k i h : Nat} (hp : ¬ P i h = true) : VR P k i h = FARn := by
  cases k with
  | zero => unfold VR; rw [if_neg hp]
  | succ k => unfold VR; rw [if_neg hp]
/-- the row of the best fingering, the least sum, the greatest shift -/
def rowf (P : Nat → Nat → Bool) (n : Nat) : Nat → Nat
  | 0 => am (fun g => sh 0 g + VR P (n - 1) 0 g) 13
  | i + 1 => am (fun g => sh (rowf P n i) g + VR P (n - 1 - (i + 1)) (i + 1) g) 13
def tot (P : Nat → Nat → Bool) (n : Nat) : Nat := mn (fun g => sh 0 g + VR P (n - 1) 0 g) 13
def bef (P : Nat → Nat → Bool) (n : Nat) : Nat → Nat
  | 0 => 0
  | i + 1 => rowf P n i
def grt (P : Nat → Nat → Bool) (n : Nat) : Nat → Nat
  | 0 => 0
  | i + 1 => if grt P n i < sh (bef P n i) (rowf P n i) then sh (bef P n i) (rowf P n i) else grt P n i
def sumf (P : Nat → Nat → Bool) (n : Nat) : Nat → Nat
  | 0 => 0
  | i + 1 => sumf P n i + sh (bef P n i) (rowf P n i)
theorem rowf_am (P : Nat → Nat → Bool) (n i : Nat) : rowf P n i = am (fun g => sh (bef P n i) g + VR P (n - 1 - i) i g) 13 := by
  cases i with
  | zero => rfl
  | succ i => rfl
/-- where the piece can be played, each note of the row is in reach, and its rest is the sum that is left -/
theorem row_spec {P : Nat → Nat → Bool} {n : Nat} (h0 : 0 < n) (ht : tot P n < FARn) : ∀ i, i < n → (1 ≤ rowf P n i ∧ rowf P n i ≤ 13 ∧ P i (rowf P n i) = true ∧ VR P (n - 1 - i) i (rowf P n i) < FARn ∧ sumf P n (i + 1) + VR P (n - 1 - i) i (rowf P n i) = tot P n ∧ mn (fun g => sh (bef P n i) g + VR P (n - 1 - i) i g) 13 < FARn) := by
  intro i
  induction i with
  | zero =>
    intro _
    have e := rowf_am P n 0
    have ht' : mn (fun g => sh (bef P n 0) g + VR P (n - 1 - 0) 0 g) 13 < FARn := ht
    rcases am_spec (fun g => sh (bef P n 0) g + VR P (n - 1 - 0) 0 g) 13 with ⟨_, h2, _⟩ | ⟨h1, h2, h3, h4, h5, h6⟩
    · omega
    · rw [← e] at h1 h2 h3
      have hs : sh (bef P n 0) (rowf P n 0) = 0 := rfl
      have hv : VR P (n - 1 - 0) 0 (rowf P n 0) < FARn := by
        have : sh (bef P n 0) (rowf P n 0) + VR P (n - 1 - 0) 0 (rowf P n 0) = mn (fun g => sh (bef P n 0) g + VR P (n - 1 - 0) 0 g) 13 := h3
        omega
      refine ⟨h1, h2, ?_, hv, ?_, ht'⟩
      · cases hp : P 0 (rowf P n 0) with
        | true => rfl
        | false => rw [VR_no (by rw [hp]; decide)] at hv; omega
      · have : sh (bef P n 0) (rowf P n 0) + VR P (n - 1 - 0) 0 (rowf P n 0) = tot P n := h3
        show 0 + sh (bef P n 0) (rowf P n 0) + VR P (n - 1 - 0) 0 (rowf P n 0) = tot P n
        omega
  | succ i ih =>
    intro hi
    obtain ⟨a1, a2, a3, a4, a5, _⟩ := ih (by omega)
    have hk : n - 1 - i = (n - 1 - (i + 1)) + 1 := by omega
    rw [hk] at a4 a5
    have hv : VR P (n - 1 - (i + 1) + 1) i (rowf P n i) = mn (fun g => sh (rowf P n i) g + VR P (n - 1 - (i + 1)) (i + 1) g) 13 := by
      show (if P i (rowf P n i) = true then _ else _) = _
      rw [if_pos a3]
    rw [hv] at a4 a5
    have e := rowf_am P n (i + 1)
    rcases am_spec (fun g => sh (bef P n (i + 1)) g + VR P (n - 1 - (i + 1)) (i + 1) g) 13 with ⟨_, h2, _⟩ | ⟨h1, h2, h3, h4, h5, h6⟩
    · have : mn (fun g => sh (rowf P n i) g + VR P (n - 1 - (i + 1)) (i + 1) g) 13 = FARn := h2
      omega
    · rw [← e] at h1 h2 h3
      have h3' : sh (bef P n (i + 1)) (rowf P n (i + 1)) + VR P (n - 1 - (i + 1)) (i + 1) (rowf P n (i + 1)) = mn (fun g => sh (rowf P n i) g + VR P (n - 1 - (i + 1)) (i + 1) g) 13 := h3
      have hv2 : VR P (n - 1 - (i + 1)) (i + 1) (rowf P n (i + 1)) < FARn := by omega
      refine ⟨h1, h2, ?_, hv2, ?_, h4⟩
      · cases hp : P (i + 1) (rowf P n (i + 1)) with
        | true => rfl
        | false => rw [VR_no (by rw [hp]; decide)] at hv2; omega
      · show sumf P n (i + 1) + sh (bef P n (i + 1)) (rowf P n (i + 1)) + VR P (n - 1 - (i + 1)) (i + 1) (rowf P n (i + 1)) = tot P n
        omega
theorem sh_le {b h : Nat} (hb : b ≤ 13) (hh : h ≤ 13) : sh b h ≤ 13 := by
  unfold sh
  split
  · omega
  · split <;> omega
theorem sh_lt {b h : Nat} (hb : b ≤ 13) (h1 : 1 ≤ h) (hh : h ≤ 13) : sh b h < 13 := by
  unfold sh
  split
  · omega
  · split <;> omega
theorem grt_le {P : Nat → Nat → Bool} {n : Nat} (h0 : 0 < n) (ht : tot P n < FARn) : ∀ i, i ≤ n → grt P n i < 13
  | 0, _ => by show 0 < 13; omega
  | i + 1, hi => by
    have ih := grt_le h0 ht i (by omega)
    obtain ⟨a1, a2, _⟩ := row_spec h0 ht i (by omega)
    have hb : bef P n i ≤ 13 := by
      cases i with
      | zero => show 0 ≤ 13; omega
      | succ i => exact (row_spec h0 ht i (by omega)).2.1
    have := sh_lt hb a1 a2
    show (if grt P n i < sh (bef P n i) (rowf P n i) then sh (bef P n i) (rowf P n i) else grt P n i) < 13
    split <;> omega
/-- all fingerings, one after the other -/
def LF (P : Nat → Nat → Bool) : Nat → Nat → Nat → Nat
  | 0, _, _ => 0
  | k + 1, i, b => mn (fun g => if P i g = true then sh b g + LF P k (i + 1) g else FARn) 13
theorem LF_VR (P : Nat → Nat → Bool) : ∀ (k i b : Nat), LF P (k + 1) i b = mn (fun g => sh b g + VR P k i g) 13
  | 0, i, b => by
    show mn (fun g => if P i g = true then sh b g + LF P 0 (i + 1) g else FARn) 13 = _
    refine (mn_congr fun g _ _ => ?_).1
    by_cases h : P i g = true
    · left
      show (if P i g = true then sh b g + 0 else FARn) = sh b g + (if P i g = true then 0 else FARn)
      rw [if_pos h, if_pos h]
    · right
      show FARn ≤ (if P i g = true then sh b g + 0 else FARn) ∧ FARn ≤ sh b g + (if P i g = true then 0 else FARn)
      rw [if_neg h, if_neg h]
      omega
  | k + 1, i, b => by
    show mn (fun g => if P i g = true then sh b g + LF P (k + 1) (i + 1) g else FARn) 13 = _
    refine (mn_congr fun g _ _ => ?_).1
    by_cases h : P i g = true
    · left
      show (if P i g = true then sh b g + LF P (k + 1) (i + 1) g else FARn) = sh b g + VR P (k + 1) i g
      rw [if_pos h, LF_VR P k (i + 1) g]
      show _ = sh b g + (if P i g = true then mn (fun g' => sh g g' + VR P k (i + 1) g') 13 else FARn)
      rw [if_pos h]
    · right
      show FARn ≤ (if P i g = true then sh b g + LF P (k + 1) (i + 1) g else FARn) ∧ FARn ≤ sh b g + VR P (k + 1) i g
      rw [if_neg h, VR_no h]
      omega
