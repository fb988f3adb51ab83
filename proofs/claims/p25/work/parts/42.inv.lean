/-! ===== the law's invariant ===== -/
def LInv (T : Nat) (σ : St) : Prop := Inv σ ∧ (σ 22 0 0 = σ 0 0 6 ∧ σ 22 0 1 = σ 0 0 7 ∧ σ 22 0 2 = σ 0 0 8 ∧ σ 22 0 3 = σ 0 0 9) ∧ (∃ d, d ≤ T ∧ σ 0 0 9 = nI d) ∧ (∀ i, i < 8 → σ 17 0 i = σ 11 i 1) ∧ (∀ i, i < 8 → ¬ nI i < σ 0 0 6 → σ 11 i 1 = 0) ∧ (∀ i j, i < 8 → j < 4 → σ 18 0 (4 * i + j) = σ 14 i j) ∧ (∀ i, i < 8 → nI i < σ 0 0 7 → ∃ w, w < 5 ∧ σ 13 i 1 = nI w ∧ σ 19 0 i = nI (fN σ i + 32 * w)) ∧ (∀ i, i < 20 → nI i < σ 0 0 8 → ∃ w f d, w < 5 ∧ 4 ≤ f ∧ f ≤ 16 ∧ d < 2 ∧ σ 16 i 0 = nI w ∧ σ 16 i 1 = nI f ∧ σ 16 i 3 = nI d ∧ σ 20 0 i = nI (w + 8 * f + 256 * d)) ∧ (∀ j, j < 4 → σ 21 0 j = σ 5 0 j) ∧ (∀ i, i < 5 → ∃ v, 2 ≤ v ∧ v ≤ 13 ∧ σ 15 i 0 = nI v) ∧ ∀ i, i < 20 → ¬ nI i < σ 0 0 8 → σ 16 i 3 = 0
theorem SameC.k {σ τ : St} (h : SameC σ τ) (a b c0 : Nat) (ha : a ≠ 6 ∧ a ≠ 7 ∧ a ≠ 9 ∧ a ≠ 10) : τ a b c0 = σ a b c0 := h a b c0 ha.1 ha.2.1 ha.2.2.1 ha.2.2.2
theorem LInv.same {T : Nat} {σ τ : St} (h : SameC σ τ) (hL : LInv T σ) : LInv T τ := by
  obtain ⟨h1, ⟨h2a, h2b, h2c, h2d⟩, h3, h4, h5, h6, h7, h8, h9, h10, h11⟩ := hL
  refine ⟨h.inv h1, ⟨?_, ?_, ?_, ?_⟩, ?_, fun i hi => ?_, fun i hi hl => ?_, fun i j hi hj => ?_, fun i hi hl => ?_, fun i hi hl => ?_, fun j hj => ?_, fun i hi => ?_, fun i hi hl => ?_⟩
  · rw [h.k 22 0 0 (by decide), h.k 0 0 6 (by decide)]; exact h2a
  · rw [h.k 22 0 1 (by decide), h.k 0 0 7 (by decide)]; exact h2b
  · rw [h.k 22 0 2 (by decide), h.k 0 0 8 (by decide)]; exact h2c
  · rw [h.k 22 0 3 (by decide), h.k 0 0 9 (by decide)]; exact h2d
  · rw [h.k 0 0 9 (by decide)]; exact h3
  · rw [h.k 17 0 i (by decide), h.k 11 i 1 (by decide)]; exact h4 i hi
  · rw [h.k 0 0 6 (by decide)] at hl
    rw [h.k 11 i 1 (by decide)]; exact h5 i hi hl
  · rw [h.k 18 0 (4 * i + j) (by decide), h.k 14 i j (by decide)]; exact h6 i j hi hj
  · rw [h.k 0 0 7 (by decide)] at hl
    rw [h.k 13 i 1 (by decide), h.k 19 0 i (by decide), h.efN]; exact h7 i hi hl
  · rw [h.k 0 0 8 (by decide)] at hl
    rw [h.k 16 i 0 (by decide), h.k 16 i 1 (by decide), h.k 16 i 3 (by decide), h.k 20 0 i (by decide)]; exact h8 i hi hl
  · rw [h.k 21 0 j (by decide), h.k 5 0 j (by decide)]; exact h9 j hj
  · rw [h.k 15 i 0 (by decide)]; exact h10 i hi
  · rw [h.k 0 0 8 (by decide)] at hl
    rw [h.k 16 i 3 (by decide)]; exact h11 i hi hl
theorem ok_nI {j n : Nat} (h : j < n) (hn : n < 2 ^ 31) : ¬ bad (nI j) (nI n) := fun q => q.elim (nI_pos (by omega)) (fun q => q (nI_lt h hn))
theorem no_nI {j n : Nat} (h : n ≤ j) (hj : j < 2 ^ 31) : bad (nI j) (nI n) := Or.inr (nI_nlt h hj)
theorem no_m1 {n : Int32} : bad (-1) n := Or.inl (by decide)
/-! ===== what a call answers, where only the hand's scratch has changed ===== -/
theorem K_pq_1 {σ : St} {p q : Int32} (h : bad p (σ 0 0 6) ∨ bad q (σ 0 0 7)) : K_pq σ p q = 1 := by unfold K_pq; rw [if_pos h]
theorem K_byAll_1 {σ : St} {p q : Int32} (h : bad p (σ 0 0 6) ∨ bad q (σ 0 0 7)) : K_byAll σ p q = 1 := by unfold K_byAll; rw [if_pos h]
theorem K_byAll_2 {σ : St} {p q : Int32} (h1 : ¬ bad p (σ 0 0 6)) (h2 : ¬ bad q (σ 0 0 7)) (h : ¬ σ 11 (ix p) 1 ≤ 4) : K_byAll σ p q = 2 := by unfold K_byAll; rw [if_neg (fun q => q.elim h1 h2), if_pos h]
theorem K_byAll_z {σ : St} {p q : Int32} (h1 : ¬ bad p (σ 0 0 6)) (h2 : ¬ bad q (σ 0 0 7)) (h : σ 11 (ix p) 1 ≤ 4) : K_byAll σ p q = 0 := by unfold K_byAll; rw [if_neg (fun q => q.elim h1 h2), if_neg (fun q => q h)]
theorem K_note_1 {σ : St} {p k q : Int32} (h : bad p (σ 0 0 6) ∨ bad k (σ 11 (ix p) 1) ∨ bad q (σ 0 0 7)) : K_note σ p k q = 1 := by unfold K_note; rw [if_pos h]
theorem K_pitch_1 {σ : St} {p k : Int32} (h : bad p (σ 0 0 6) ∨ bad k (σ 11 (ix p) 1)) : K_pitch σ p k = 1 := by unfold K_pitch; rw [if_pos h]
theorem K_pitch_z {σ : St} {p k : Int32} (h1 : ¬ bad p (σ 0 0 6)) (h2 : ¬ bad k (σ 11 (ix p) 1)) : K_pitch σ p k = 0 := by unfold K_pitch; rw [if_neg (fun q => q.elim h1 h2)]
theorem K_inst_1 {σ : St} {q : Int32} (h : bad q (σ 0 0 7)) : K_inst σ q = 1 := by unfold K_inst; rw [if_pos h]
theorem K_inst_z {σ : St} {q : Int32} (h : ¬ bad q (σ 0 0 7)) : K_inst σ q = 0 := by unfold K_inst; rw [if_neg h]
theorem K_ready_1 {σ : St} {q : Int32} (h : bad q (σ 0 0 8)) : K_ready σ q = 1 := by unfold K_ready; rw [if_pos h]
theorem K_ready_z {σ : St} {q : Int32} (h : ¬ bad q (σ 0 0 8)) : K_ready σ q = 0 := by unfold K_ready; rw [if_neg h]
theorem nout_lo {x lo hi : Int32} (h : x < lo) : outR x lo hi := Or.inl h
theorem nout_hi {x lo hi : Int32} (h : ¬ x ≤ hi) : outR x lo hi := Or.inr h
theorem in_nI {j a b : Nat} (h1 : a ≤ j) (h2 : j ≤ b) (hb : b < 2 ^ 31) : ¬ outR (nI j) (nI a) (nI b) := fun q => q.elim (nI_nlt h1 (by omega)) (fun q => q (nI_le h2 hb))
theorem K_pupil_z {w : Nat} (h : w < 5) : K_pupil (nI w) = 0 := by 
  have h1 : ¬ outR (nI w) 0 4 := in_nI (a := 0) (b := 4) (by omega) (by omega) (by omega)
  unfold K_pupil
  rw [if_neg h1]
theorem K_pupil_1 {w : Int32} (h : outR w 0 4) : K_pupil w = 1 := by unfold K_pupil; rw [if_pos h]
theorem out5 : outR 5 0 4 := Or.inr (by decide)
theorem outm1 : outR (-1) 0 4 := Or.inl (by decide)
theorem bad_of {σ τ : St} {x : Int32} {f : Nat} (h : SameC σ τ) : bad x (τ 0 0 f) = bad x (σ 0 0 f) := by rw [h.k 0 0 f (by decide)]
theorem bad_c {σ τ : St} {x : Int32} {j : Nat} (h : SameC σ τ) : bad x (τ 11 j 1) = bad x (σ 11 j 1) := by rw [h.k 11 j 1 (by decide)]
section
variable {σ τ τ' : St} {x y z r res : Int32} {cs : List Int32} {K : Nat}
theorem WS.at0 (h : WS τ τ' K cs res r) (hτ : SameC σ τ) (hK : K = 0) : SameC σ τ' ∧ r = res := ⟨hτ.trans h.1, h.2.1 hK⟩
theorem WS.at1 (h : WS τ τ' K cs res r) (hτ : SameC σ τ) {j : Nat} {c0 : Int32} (hK : K = j + 1) (hc : cs[j]? = some c0) : SameC σ τ' ∧ r = c0 := ⟨hτ.trans h.1, h.2.2 j c0 hK hc⟩
theorem WP.at0 (h : WP τ τ τ' K cs res r) (hτ : SameC σ τ) (hK : K = 0) : SameC σ τ' ∧ r = res := ⟨by rw [← (h.1 hK).2]; exact hτ, (h.1 hK).1⟩
theorem WP.at1 {g : St} (h : WP g τ τ' K cs res r) (hτ : SameC σ τ) {j : Nat} {c0 : Int32} (hK : K = j + 1) (hc : cs[j]? = some c0) : SameC σ τ' ∧ r = c0 := ⟨by rw [← (h.2 j c0 hK hc).2]; exact hτ, (h.2 j c0 hK hc).1⟩
theorem SameC.evS (h : SameC σ τ) (j q : Nat) : valS τ j q = valS σ j q := by
  unfold valS
  by_cases p : PL σ j q
  · rw [if_pos p, if_pos (by rw [h.ePL]; exact p)]
    show nI (tot (PFs τ j q) (cN τ j)) = nI (tot (PFs σ j q) (cN σ j))
    rw [h.PF, h.ecN]
  · rw [if_neg p, if_neg (by rw [h.ePL]; exact p)]
theorem SameC.evH (h : SameC σ τ) (j q : Nat) : valH τ j q = valH σ j q := by
  unfold valH
  by_cases p : PL σ j q
  · rw [if_pos p, if_pos (by rw [h.ePL]; exact p), h.eHG]
  · rw [if_neg p, if_neg (by rw [h.ePL]; exact p)]
theorem SameC.eRW (h : SameC σ τ) (j q i : Nat) : RW τ j q i = RW σ j q i := by unfold RW; rw [h.PF, h.ecN]
theorem SameC.evP (h : SameC σ τ) (j i q : Nat) : valP τ j i q = valP σ j i q := by
  unfold valP
  by_cases p : PL σ j q
  · rw [if_pos p, if_pos (by rw [h.ePL]; exact p), h.eRW]
  · rw [if_neg p, if_neg (by rw [h.ePL]; exact p)]
theorem SameC.evT (h : SameC σ τ) (j i q : Nat) : valT τ j i q = valT σ j i q := by
  unfold valT
  by_cases p : PL σ j q
  · rw [if_pos p, if_pos (by rw [h.ePL]; exact p), h.eRW, h.k 12 j i (by decide), show τ 14 q = σ 14 q from funext fun c0 => h.k 14 q c0 (by decide)]
  · rw [if_neg p, if_neg (by rw [h.ePL]; exact p)]
theorem SameC.ens (h : SameC σ τ) (w : Int32) (ni j : Nat) : nsV τ w ni j = nsV σ w ni j := by
  unfold nsV
  rw [h.k 15 (ix w) 1 (by decide), h.ees]
theorem SameC.enx (h : SameC σ τ) (w : Int32) (ni : Nat) : ∀ j, nxV τ w ni j = nxV σ w ni j
  | 0 => rfl
  | j + 1 => by rw [nxV_s, nxV_s, h.ens, h.enx w ni j]
theorem S_hard (hτ : SameC σ τ) (h : WS τ τ' (K_pq τ x y) cs (valH τ (ix x) (ix y)) r) (h1 : ¬ bad x (σ 0 0 6)) (h2 : ¬ bad y (σ 0 0 7)) : SameC σ τ' ∧ r = valH σ (ix x) (ix y) := by
  rw [← hτ.evH]
  exact h.at0 hτ (K_pq_0 (by rw [bad_of hτ]; exact h1) (by rw [bad_of hτ]; exact h2))
theorem S_shifts (hτ : SameC σ τ) (h : WS τ τ' (K_pq τ x y) cs (valS τ (ix x) (ix y)) r) (h1 : ¬ bad x (σ 0 0 6)) (h2 : ¬ bad y (σ 0 0 7)) : SameC σ τ' ∧ r = valS σ (ix x) (ix y) := by
  rw [← hτ.evS]
  exact h.at0 hτ (K_pq_0 (by rw [bad_of hτ]; exact h1) (by rw [bad_of hτ]; exact h2))
theorem S_pq_no (hτ : SameC σ τ) (h : WS τ τ' (K_pq τ x y) [-1000001] res r) (h1 : bad x (σ 0 0 6) ∨ bad y (σ 0 0 7)) : SameC σ τ' ∧ r = -1000001 :=
  h.at1 hτ (j := 0) (K_pq_1 (by rw [bad_of hτ, bad_of hτ]; exact h1)) rfl
theorem S_byAll_no (hτ : SameC σ τ) (h : WS τ τ' (K_byAll τ x y) [-1000001, -1000003] res r) (h1 : bad x (σ 0 0 6) ∨ bad y (σ 0 0 7)) : SameC σ τ' ∧ r = -1000001 :=
  h.at1 hτ (j := 0) (K_byAll_1 (by rw [bad_of hτ, bad_of hτ]; exact h1)) rfl
theorem S_byAll (hτ : SameC σ τ) (h : WS τ τ' (K_byAll τ x y) [-1000001, -1000003] (valS τ (ix x) (ix y)) r) (h1 : ¬ bad x (σ 0 0 6)) (h2 : ¬ bad y (σ 0 0 7)) : SameC σ τ' ∧ (σ 11 (ix x) 1 ≤ 4 → r = valS σ (ix x) (ix y)) ∧ (¬ σ 11 (ix x) 1 ≤ 4 → r = -1000003) := by
  have h1' : ¬ bad x (τ 0 0 6) := by rw [bad_of hτ]; exact h1
  have h2' : ¬ bad y (τ 0 0 7) := by rw [bad_of hτ]; exact h2
  refine ⟨hτ.trans h.1, fun hc => ?_, fun hc => ?_⟩
  · rw [← hτ.evS]
    exact h.2.1 (K_byAll_z h1' h2' (by rw [hτ.k 11 (ix x) 1 (by decide)]; exact hc))
  · exact h.2.2 1 _ (K_byAll_2 h1' h2' (by rw [hτ.k 11 (ix x) 1 (by decide)]; exact hc)) rfl
theorem S_pos (hτ : SameC σ τ) (h : WS τ τ' (K_note τ x y z) cs (valP τ (ix x) (ix y) (ix z)) r) (h1 : ¬ bad x (σ 0 0 6)) (h3 : ¬ bad y (σ 11 (ix x) 1)) (h2 : ¬ bad z (σ 0 0 7)) : SameC σ τ' ∧ r = valP σ (ix x) (ix y) (ix z) := by
  rw [← hτ.evP]
  exact h.at0 hτ (K_note_0 (by rw [bad_of hτ]; exact h1) (by rw [bad_c hτ]; exact h3) (by rw [bad_of hτ]; exact h2))
theorem S_str (hτ : SameC σ τ) (h : WS τ τ' (K_note τ x y z) cs (valT τ (ix x) (ix y) (ix z)) r) (h1 : ¬ bad x (σ 0 0 6)) (h3 : ¬ bad y (σ 11 (ix x) 1)) (h2 : ¬ bad z (σ 0 0 7)) : SameC σ τ' ∧ r = valT σ (ix x) (ix y) (ix z) := by
  rw [← hτ.evT]
  exact h.at0 hτ (K_note_0 (by rw [bad_of hτ]; exact h1) (by rw [bad_c hτ]; exact h3) (by rw [bad_of hτ]; exact h2))
theorem S_note_no (hτ : SameC σ τ) (h : WS τ τ' (K_note τ x y z) [-1000001] res r) (h1 : bad x (σ 0 0 6) ∨ bad y (σ 11 (ix x) 1) ∨ bad z (σ 0 0 7)) : SameC σ τ' ∧ r = -1000001 :=
  h.at1 hτ (j := 0) (K_note_1 (by rw [bad_of hτ, bad_of hτ, bad_c hτ]; exact h1)) rfl
theorem S_pitch (hτ : SameC σ τ) (h : WP τ τ τ' (K_pitch τ x y) cs (τ 12 (ix x) (ix y)) r) (h1 : ¬ bad x (σ 0 0 6)) (h2 : ¬ bad y (σ 11 (ix x) 1)) : SameC σ τ' ∧ r = σ 12 (ix x) (ix y) := by
  rw [← hτ.k 12 (ix x) (ix y) (by decide)]
  exact h.at0 hτ (K_pitch_z (by rw [bad_of hτ]; exact h1) (by rw [bad_c hτ]; exact h2))
theorem S_pitch_no (hτ : SameC σ τ) (h : WP τ τ τ' (K_pitch τ x y) [-1000001] res r) (h1 : bad x (σ 0 0 6) ∨ bad y (σ 11 (ix x) 1)) : SameC σ τ' ∧ r = -1000001 :=
  h.at1 hτ (j := 0) (K_pitch_1 (by rw [bad_of hτ, bad_c hτ]; exact h1)) rfl
theorem S_owner (hτ : SameC σ τ) (h : WP τ τ τ' (K_inst τ x) cs (τ 13 (ix x) 1) r) (h1 : ¬ bad x (σ 0 0 7)) : SameC σ τ' ∧ r = σ 13 (ix x) 1 := by
  rw [← hτ.k 13 (ix x) 1 (by decide)]
  exact h.at0 hτ (K_inst_z (by rw [bad_of hτ]; exact h1))
theorem S_owner_no (hτ : SameC σ τ) (h : WP τ τ τ' (K_inst τ x) [-1000001] res r) (h1 : bad x (σ 0 0 7)) : SameC σ τ' ∧ r = -1000001 :=
  h.at1 hτ (j := 0) (K_inst_1 (by rw [bad_of hτ]; exact h1)) rfl
theorem S_ready (hτ : SameC σ τ) (h : WP τ τ τ' (K_ready τ x) cs (τ 16 (ix x) 2) r) (h1 : ¬ bad x (σ 0 0 8)) : SameC σ τ' ∧ r = σ 16 (ix x) 2 := by
  rw [← hτ.k 16 (ix x) 2 (by decide)]
  exact h.at0 hτ (K_ready_z (by rw [bad_of hτ]; exact h1))
theorem S_ready_no (hτ : SameC σ τ) (h : WP τ τ τ' (K_ready τ x) [-1000001] res r) (h1 : bad x (σ 0 0 8)) : SameC σ τ' ∧ r = -1000001 :=
  h.at1 hτ (j := 0) (K_ready_1 (by rw [bad_of hτ]; exact h1)) rfl
theorem S_pup (f : Nat) {w : Nat} (hτ : SameC σ τ) (h : WP τ τ τ' (K_pupil (nI w)) cs (τ 15 (ix (nI w)) f) r) (hw : w < 5) : SameC σ τ' ∧ r = σ 15 w f := by
  have e := h.at0 hτ (K_pupil_z hw)
  rw [ix_nI (by omega), hτ.k 15 w f (by decide)] at e
  exact e
theorem S_pup_no (hτ : SameC σ τ) (h : WP τ τ τ' (K_pupil x) [-1000002] res r) (h1 : outR x 0 4) : SameC σ τ' ∧ r = -1000002 :=
  h.at1 hτ (j := 0) (K_pupil_1 h1) rfl
theorem S_next {w ni np : Nat} (hτ : SameC σ τ) (h : WS τ τ' (K_pupil (nI w)) cs ((nxV τ (nI w) (ix (τ 0 0 7)) (ix (τ 0 0 6))).1) r) (hw : w < 5) (e7 : σ 0 0 7 = nI ni) (e6 : σ 0 0 6 = nI np) (h7 : ni < 2 ^ 31) (h6 : np < 2 ^ 31) : SameC σ τ' ∧ r = (nxV σ (nI w) ni np).1 := by
  have e := h.at0 hτ (K_pupil_z hw)
  rw [hτ.k 0 0 7 (by decide), hτ.k 0 0 6 (by decide), e7, e6, ix_nI h7, ix_nI h6, hτ.enx] at e
  exact e
theorem S_next_no (hτ : SameC σ τ) (h : WS τ τ' (K_pupil x) [-1000002] res r) (h1 : outR x 0 4) : SameC σ τ' ∧ r = -1000002 :=
  h.at1 hτ (j := 0) (K_pupil_1 h1) rfl
end
theorem WP.yes {g τ τ' : St} {K : Nat} {cs : List Int32} {res r : Int32} (h : WP g τ τ' K cs res r) (hK : K = 0) : r = res ∧ g = τ' := h.1 hK
theorem WP.not {g τ τ' : St} {K : Nat} {cs : List Int32} {res r c0 : Int32} (h : WP g τ τ' K cs res r) {j : Nat} (hK : K = j + 1) (hc : cs[j]? = some c0) : r = c0 ∧ τ = τ' := h.2 j c0 hK hc
/-! ===== the next piece, in plain numbers: 100 is none ===== -/
theorem HG_lt {σ : St} {j q : Nat} (h : PL σ j q) : HG σ j q < 13 := grt_le h.1 h.2 _ (Nat.le_refl _)
noncomputable def lsN (σ : St) (w j q : Nat) : Nat := by classical exact if σ 13 q 1 = nI w ∧ PL σ j q ∧ ¬ σ 15 w 0 < nI (HG σ j q) then HG σ j q else 100
noncomputable def esN (σ : St) (w j : Nat) : Nat → Nat
  | 0 => 100
  | q + 1 => if lsN σ w j q < esN σ w j q then lsN σ w j q else esN σ w j q
def frN (σ : St) (w j : Nat) : Prop := σ 15 w 1 &&& (1 <<< (nI j &&& 31)) = 0
noncomputable def nsN (σ : St) (w ni j : Nat) : Nat := by classical exact if frN σ w j then esN σ w j ni else 100
noncomputable def ezN (σ : St) (w ni : Nat) : Nat → Nat
  | 0 => 100
  | j + 1 => if nsN σ w ni j < ezN σ w ni j then nsN σ w ni j else ezN σ w ni j
noncomputable def bsN (σ : St) (w ni : Nat) : Nat → Nat
  | 0 => 0
  | j + 1 => if nsN σ w ni j < ezN σ w ni j then j else bsN σ w ni j
theorem lsN_or (σ : St) (w j q : Nat) : lsN σ w j q = 100 ∨ lsN σ w j q < 13 := by
  unfold lsN
  split
  · rename_i h; exact Or.inr (HG_lt h.2.1)
  · exact Or.inl rfl
theorem esN_or (σ : St) (w j : Nat) : ∀ q, esN σ w j q = 100 ∨ esN σ w j q < 13
  | 0 => Or.inl rfl
  | q + 1 => by
    have h1 := lsN_or σ w j q
    have h2 := esN_or σ w j q
    unfold esN
    split <;> omega
theorem nsN_or (σ : St) (w ni j : Nat) : nsN σ w ni j = 100 ∨ nsN σ w ni j < 13 := by
  unfold nsN
  split
  · exact esN_or σ w j ni
  · exact Or.inl rfl
theorem ezN_or (σ : St) (w ni : Nat) : ∀ j, ezN σ w ni j = 100 ∨ ezN σ w ni j < 13
  | 0 => Or.inl rfl
  | j + 1 => by
    have h1 := nsN_or σ w ni j
    have h2 := ezN_or σ w ni j
    unfold ezN
    split <;> omega
theorem bsN_lt (σ : St) (w ni : Nat) : ∀ j, bsN σ w ni j ≤ j
  | 0 => Nat.le_refl _
  | j + 1 => by
    have h2 := bsN_lt σ w ni j
    unfold bsN
    split <;> omega
/-- an int for a number below 13, -1 for 100 -/
def oN (n : Nat) : Int32 := if n = 100 then -1 else nI n
theorem oN_m1 {n : Nat} (h : n = 100 ∨ n < 13) : oN n = -1 ↔ n = 100 := by
  unfold oN
  constructor
  · intro e
    split at e
    · assumption
    · have : n < 13 := by omega
      have h3 : ∀ k, k < 13 → ¬ nI k = -1 := by decide +kernel
      exact absurd e (h3 n this)
  · intro e; rw [if_pos e]
theorem oN_v {n : Nat} (h : n ≠ 100) : oN n = nI n := if_neg h
theorem lsV_N {σ : St} {w j q : Nat} (hw : w < 5) : lsV σ (nI w) j q = oN (lsN σ w j q) := by
  unfold lsV lsN oN
  rw [ix_nI (by omega)]
  by_cases h : σ 13 q 1 = nI w ∧ PL σ j q ∧ ¬ σ 15 w 0 < nI (HG σ j q)
  · have := HG_lt h.2.1
    rw [if_pos h, if_pos h, if_neg (by omega)]
  · rw [if_neg h, if_neg h, if_pos rfl]
theorem esV_N {σ : St} {w j : Nat} (hw : w < 5) : ∀ q, esV σ (nI w) j q = oN (esN σ w j q)
  | 0 => rfl
  | q + 1 => by
    have h1 := lsN_or σ w j q
    have h2 := esN_or σ w j q
    rw [esV_s, esV_N hw q, lsV_N hw]
    show _ = oN (if lsN σ w j q < esN σ w j q then lsN σ w j q else esN σ w j q)
    generalize lsN σ w j q = a at h1 ⊢
    generalize esN σ w j q = b at h2 ⊢
    by_cases ha : a = 100
    · rw [if_pos ((oN_m1 h1).mpr ha), if_neg (by omega)]
    · rw [if_neg (fun h => ha ((oN_m1 h1).mp h))]
      by_cases hb : b = 100
      · rw [if_pos ((oN_m1 h2).mpr hb), if_pos (by omega)]
      · rw [if_neg (fun h => hb ((oN_m1 h2).mp h)), oN_v ha, oN_v hb]
        by_cases hab : a < b
        · rw [if_neg (fun h => by rw [nI_leI (by omega) (by omega)] at h; omega), if_pos hab, oN_v ha]
        · rw [if_pos (by rw [nI_leI (by omega) (by omega)]; omega), if_neg hab, oN_v hb]
theorem nsV_N {σ : St} {w ni j : Nat} (hw : w < 5) : nsV σ (nI w) ni j = oN (nsN σ w ni j) := by
  unfold nsV nsN
  rw [ix_nI (by omega)]
  by_cases h : frN σ w j
  · rw [if_pos h]
    rw [if_pos (show σ 15 w 1 &&& (1 <<< (nI j &&& 31)) = 0 from h)]
    exact esV_N hw ni
  · rw [if_neg h]
    rw [if_neg (show ¬ σ 15 w 1 &&& (1 <<< (nI j &&& 31)) = 0 from h)]
    rfl
/-- the chosen piece: -1 for none -/
def bvN (e b : Nat) : Int32 := if e = 100 then -1 else nI b
theorem nxV_N {σ : St} {w ni : Nat} (hw : w < 5) : ∀ j, j ≤ 8 → (nxV σ (nI w) ni j).1 = bvN (ezN σ w ni j) (bsN σ w ni j) ∧ (ezN σ w ni j ≠ 100 → (nxV σ (nI w) ni j).2 = nI (ezN σ w ni j))
  | 0, _ => ⟨rfl, fun h => absurd rfl h⟩
  | j + 1, hj => by
    obtain ⟨i1, i2⟩ := nxV_N (σ := σ) (ni := ni) hw j (by omega)
    have h1 := nsN_or σ w ni j
    have h2 := ezN_or σ w ni j
    have h3 := bsN_lt σ w ni j
    rw [nxV_s, nsV_N hw]
    have e1 : ezN σ w ni (j + 1) = if nsN σ w ni j < ezN σ w ni j then nsN σ w ni j else ezN σ w ni j := rfl
    have e2 : bsN σ w ni (j + 1) = if nsN σ w ni j < ezN σ w ni j then j else bsN σ w ni j := rfl
    rw [e1, e2]
    generalize nxV σ (nI w) ni j = s at i1 i2 ⊢
    generalize nsN σ w ni j = a at h1 ⊢
    generalize ezN σ w ni j = b at h2 i1 i2 ⊢
    generalize bsN σ w ni j = k at h3 i1 ⊢
    have hm : ∀ k, k < 9 → ¬ nI k = -1 := by decide +kernel
    by_cases ha : a = 100
    · rw [if_pos ((oN_m1 h1).mpr ha), if_neg (by omega), if_neg (by omega)]
      exact ⟨i1, i2⟩
    · rw [if_neg (fun h => ha ((oN_m1 h1).mp h))]
      by_cases hb : b = 100
      · rw [if_pos (by rw [i1]; unfold bvN; rw [if_pos hb]), if_pos (by omega), if_pos (by omega)]
        refine ⟨?_, fun _ => oN_v ha⟩
        unfold bvN
        rw [if_neg ha]
      · rw [if_neg (by rw [i1]; unfold bvN; rw [if_neg hb]; exact hm k (by omega)), i2 hb, oN_v ha]
        by_cases hab : a < b
        · rw [if_neg (fun h => by rw [nI_leI (by omega) (by omega)] at h; omega), if_pos hab, if_pos hab]
          refine ⟨?_, fun _ => rfl⟩
          unfold bvN
          rw [if_neg ha]
        · rw [if_pos (by rw [nI_leI (by omega) (by omega)]; omega), if_neg hab, if_neg hab]
          exact ⟨i1, i2⟩
