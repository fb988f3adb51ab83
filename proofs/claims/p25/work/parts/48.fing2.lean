/-! ===== fingers: what the class tells ===== -/
set_option maxRecDepth 100000 in
set_option maxHeartbeats 4000000 in
theorem c_L_apart_m {l : Launch} {D : va_G} {ad : Nat → Nat → Nat} {cy : Nat → ClassId} {A : Nat → Prop} {sa : Nat → Nat} {σ : St} : MI l D ad cy A sa yL_apart cL_apart 2 (some .int) 0 σ [.int (-1), .int (-1)] (fun r σ' => r = 0 ∧ σ = σ') := by
  refine MI.mk "FretSchoolLaw" (by decide) rfl (Nat.le_of_ble_eq_true rfl) rfl ?_
  intro p e s m args below meth c C
  change Z _ _ _ _ _ _ _ _ _ _ _ _ _ _ _ _ _ _ _ [some (.int (-1)), some (.int (-1))] 0 []
  refine z_iload_n C dL_apart_0 rfl ?_
  refine z_iload_n C dL_apart_1 rfl ?_
  refine z_icmp_ge C 11 dL_apart_2 (by decide) (fun c_2 => ?_) (fun c_2 => ?_)
  rotate_left
  · exact absurd (by decide) c_2
  refine z_iload_n C dL_apart_11 rfl ?_
  refine z_iload_n C dL_apart_12 rfl ?_
  refine z_isub C dL_apart_13 ?_
  refine z_iret C dL_apart_14 ?_
  exact ⟨by decide, rfl⟩
theorem FAC.same {ad : Nat → Nat → Nat} {T : Nat} {σ τ : St} {np ni j q w f0 hi n : Nat} {P : Nat → Nat → Bool} (h : SameL σ τ) (F : FAC ad T σ np ni j q w f0 hi n P) : FAC ad T τ np ni j q w f0 hi n P := by
  obtain ⟨hI, enp, hnp, eni, hni, hj, hq, h23, h24, ef, hw, hf, hhi, hhi1, em, en, hn, hP, ePF, ecN⟩ := F
  refine ⟨hI.sameL h, (h.k 0 0 6 (by decide)).trans enp, hnp, (h.k 0 0 7 (by decide)).trans eni, hni, hj, hq, h23, h24, (h.k 19 0 q (by decide)).trans ef, hw, hf, hhi, hhi1, (h.k 17 0 j (by decide)).trans em, (h.k 11 j 1 (by decide)).trans en, hn, fun i g => ?_, ?_, (congrArg Int32.toNatClampNeg (h.k 11 j 1 (by decide))).trans ecN⟩
  · rw [hP, h.k 12 j i (by decide), show (fun k => τ 18 0 (4 * q + k)) = (fun k => σ 18 0 (4 * q + k)) from funext fun k => h.k 18 0 _ (by decide)]
  · rw [← ePF]
    show Pf τ j q (fN τ q) = Pf σ j q (fN σ q)
    rw [show fN τ q = fN σ q from congrArg Int32.toNatClampNeg (h.k 13 q 2 (by decide))]
    exact Pf_cong (fun i => h.k 12 j i (by decide)) (fun i => h.k 14 q i (by decide))
/-- what the class tells of a piece that can be played -/
theorem FAC.yes {ad : Nat → Nat → Nat} {T : Nat} {σ : St} {np ni j q w f0 hi n : Nat} {P : Nat → Nat → Bool} (F : FAC ad T σ np ni j q w f0 hi n P) (hpl : 0 < n ∧ tot P n < FARn) : valS σ j q = nI (tot P n) ∧ valH σ j q = nI (grt P n n) ∧ (∀ i, valP σ j i q = nI (rowf P n i)) ∧ (∀ i, valT σ j i q = lowS (σ 12 j i) (fun k => σ 18 0 (4 * q + k)) (nI (rowf P n i))) ∧ leastF P hi n = tot P n ∧ tot P n ≤ 195 ∧ (∀ i, i ≤ n → grt P n i < 13) ∧ (∀ i, i < n → 1 ≤ rowf P n i ∧ rowf P n i ≤ hi ∧ lowS (σ 12 j i) (fun k => σ 18 0 (4 * q + k)) (nI (rowf P n i)) ≠ -1) ∧ (∀ i, i ≤ n → sumf P n i ≤ 195) := by
  obtain ⟨hI, enp, hnp, eni, hni, hj, hq, h23, h24, ef, hw, hf, hhi, hhi1, em, en, hn, hP, ePF, ecN⟩ := F
  have hpl' : PL σ j q := by
    unfold PL BT
    rw [ePF, ecN]; exact hpl
  have hP' : ∀ i h, P i h = true → 1 ≤ h ∧ h ≤ hi := fun i h z => ⟨((hP i h).mp z).1, ((hP i h).mp z).2.1⟩
  have hrow := row_spec hpl.1 hpl.2
  refine ⟨?_, ?_, fun i => ?_, fun i => ?_, leastF_yes hP' (by omega) hpl.1 hn hpl.2, tot_small hpl.1 hn hpl.2, grt_le hpl.1 hpl.2, fun i hi9 => (hP i _).mp (hrow i hi9).2.2.1, fun i hi9 => ?_⟩
  · unfold valS; rw [if_pos hpl']; show nI (tot (PFs σ j q) (cN σ j)) = _; rw [ePF, ecN]
  · unfold valH; rw [if_pos hpl']; show nI (grt (PFs σ j q) (cN σ j) (cN σ j)) = _; rw [ePF, ecN]
  · unfold valP; rw [if_pos hpl']; show nI (rowf (PFs σ j q) (cN σ j) i) = _; rw [ePF, ecN]
  · unfold valT; rw [if_pos hpl']; show lowS (σ 12 j i) (σ 14 q) (nI (rowf (PFs σ j q) (cN σ j) i)) = _; rw [ePF, ecN]
    exact lowS_congr (fun k hk => (hI.2.2.2.2.2.1 q k (by omega) hk).symm)
  · have ht := tot_small hpl.1 hn hpl.2
    cases i with
    | zero => exact Nat.zero_le _
    | succ i => have := (hrow i (by omega)).2.2.2.2.1; omega
theorem FAC.no {ad : Nat → Nat → Nat} {T : Nat} {σ : St} {np ni j q w f0 hi n : Nat} {P : Nat → Nat → Bool} (F : FAC ad T σ np ni j q w f0 hi n P) (hpl : ¬ (0 < n ∧ tot P n < FARn)) : valS σ j q = -1 ∧ valH σ j q = -1 ∧ (∀ i, valP σ j i q = -1) ∧ (∀ i, valT σ j i q = -1) ∧ leastF P hi n = 10000 := by
  obtain ⟨hI, enp, hnp, eni, hni, hj, hq, h23, h24, ef, hw, hf, hhi, hhi1, em, en, hn, hP, ePF, ecN⟩ := F
  have hpl' : ¬ PL σ j q := by
    unfold PL BT
    rw [ePF, ecN]; exact hpl
  have hP' : ∀ i h, P i h = true → 1 ≤ h ∧ h ≤ hi := fun i h z => ⟨((hP i h).mp z).1, ((hP i h).mp z).2.1⟩
  refine ⟨?_, ?_, fun i => ?_, fun i => ?_, leastF_no hP' (by omega) hpl⟩
  · unfold valS; rw [if_neg hpl']
  · unfold valH; rw [if_neg hpl']
  · unfold valP; rw [if_neg hpl']
  · unfold valT; rw [if_neg hpl']
section
variable {p : Program} {l : Launch} {e : Env} {R : Room} {s : State} {m : MethodId} {args : Array Value} {below : List Frame} {meth : Method} {c : Code} {D : va_G} {ad : Nat → Nat → Nat} {cy : Nat → ClassId} {A : Nat → Prop} {sa : Nat → Nat} {cells slots : Nat} {σ : St}
set_option maxRecDepth 100000 in
set_option maxHeartbeats 4000000 in
theorem lp_f5y (C : Cx p l s m args meth c cL_fingers "FretSchoolLaw" 18 (some .boolean) D ad cy A sa) {T : Nat} {σ : St} {np ni j q w f0 hi n : Nat} {P : Nat → Nat → Bool} (F : FAC ad T σ np ni j q w f0 hi n P) {Q : State → Prop} {M : Nat} (hpl : (0 < n ∧ tot P n < FARn)) (kret : ∀ (τ : St) (L : List (Option Value)) (cells slots : Nat), SameC σ τ → cells ≤ M → slots ≤ 6 * M → Z p l e (rmD 10 M) s m args below meth c D ad cy A 18 cells slots Q τ L 570 [.int 1]) : ∀ (f i : Nat) (τ : St) (o15 o16 o17 : Option Value) {cells slots : Nat}, i ≤ n → n < i + f → SameC σ τ → cells + 14 * f + 13 ≤ M → slots + 84 * f + 78 ≤ 6 * M → Z p l e (rmD 10 M) s m args below meth c D ad cy A 18 (cells) (slots) Q (τ) [some (.ref (ad 0 0)), some (.ref (ad 17 0)), some (.ref (ad 18 0)), some (.ref (ad 19 0)), some (.int (nI j)), some (.int (nI q)), some (.ref (ad 23 0)), some (.ref (ad 24 0)), some (.int (nI hi)), some (.int (nI (tot P n))), some (.int (nI (tot P n))), some (.int (nI (grt P n n))), some (.int (nI (sumf P n i))), some (.int (nI (grt P n i))), some (.int (nI i)), o15, o16, o17] 265 [] := by
  obtain ⟨hI, enp, hnp, eni, hni, hj, hq, h23, h24, ef, hw, hf, hhi, hhi1, em, en, hn, hP, ePF, ecN⟩ := id F
  obtain ⟨evS, evH, evP, evT, elF, ht, hgr, hrow, hsum⟩ := F.yes hpl
  intro f
  induction f with
  | zero => intro i τ o15 o16 o17 cells slots _ h; exact absurd h (by omega)
  | succ f ih =>
    intro i τ o15 o16 o17 cells slots hin0 hfu hτ hc1 hc2
    refine z_iload C dL_fingers_265 rfl ?_
    refine z_aload_n C dL_fingers_267 rfl ?_
    refine z_iload C dL_fingers_268 rfl ?_
    refine a_17 C (j := j) rfl (by omega) dL_fingers_270 ?_
    rw [hτ.k 17 0 j (by decide), em]
    refine z_icmp_ge C 420 dL_fingers_271 (by decide) (fun c_271 => ?_) (fun c_271 => ?_)
    · have hqn : i = n := by rw [nI_leI (by omega) (by omega)] at c_271; omega
      subst hqn
      refine z_iload C dL_fingers_420 rfl ?_
      refine z_sipush C (v := 9999) dL_fingers_422 (by decide) ?_
      refine z_icmp_le C 448 dL_fingers_425 (by decide) (fun c_425 => ?_) (fun c_425 => ?_)
      rotate_left
      · exact absurd (nI_le (a := tot P i) (b := 9999) (by omega) (by omega)) c_425
      refine z_iload C dL_fingers_448 rfl ?_
      refine z_iload C dL_fingers_450 rfl ?_
      refine z_icmp_ne C 473 dL_fingers_452 (by decide) (fun c_452 => ?_) (fun c_452 => ?_)
      · exact absurd rfl c_452
      refine z_iload C dL_fingers_455 rfl ?_
      refine z_iload C dL_fingers_457 rfl ?_
      refine z_icmp_ne C 473 dL_fingers_459 (by decide) (fun c_459 => ?_) (fun c_459 => ?_)
      · exact absurd (congrArg nI (sumf_tot hpl.1 hpl.2)) c_459
      refine z_iload C dL_fingers_462 rfl ?_
      refine z_iload C dL_fingers_464 rfl ?_
      refine z_icmp_ne C 473 dL_fingers_466 (by decide) (fun c_466 => ?_) (fun c_466 => ?_)
      · exact absurd rfl c_466
      refine z_iconst C (v := 1) dL_fingers_469 (by decide) ?_
      refine z_goto C 474 dL_fingers_470 (by decide) ?_
      refine z_istore C dL_fingers_474 (by decide) ?_
      dsimp only [List.set]
      refine z_iload C dL_fingers_476 rfl ?_
      refine z_if_eq C 511 dL_fingers_478 (by decide) (fun c_478 => ?_) (fun c_478 => ?_)
      · exact absurd c_478 (by decide)
      refine z_aload_n C dL_fingers_481 rfl ?_
      refine z_iload C dL_fingers_482 rfl ?_
      refine z_iload C dL_fingers_484 rfl ?_
      refine z_csw C (As := [_, _, _]) (c_L_shiftsByAll (hτ.inv hI.1)) wd413 wd13 wd414 hd_shiftsByAll wd412 (rok (by decide) (by decide)) ⟨by show _ ≤ M; omega, by show _ ≤ 6 * (M); omega⟩ rfl (Nat.le_of_ble_eq_true rfl) dL_fingers_486 ?_
      intro r486 τ h486
      obtain ⟨hτ, ey, en4⟩ := S_byAll hτ h486 (by rw [enp]; exact ok_nI hj (by omega)) (by rw [eni]; exact ok_nI hq (by omega))
      rw [ix_nI (show j < 2 ^ 31 by omega), en] at ey en4
      rw [ix_nI (show q < 2 ^ 31 by omega), evS] at ey
      refine z_aload_n C dL_fingers_489 rfl ?_
      refine z_iload C dL_fingers_490 rfl ?_
      refine a_17 C (j := j) rfl (by omega) dL_fingers_492 ?_
      rw [hτ.k 17 0 j (by decide), em]
      refine z_iconst C (v := 4) dL_fingers_493 (by decide) ?_
      refine z_icmp_le C 502 dL_fingers_494 (by decide) (fun c_494 => ?_) (fun c_494 => ?_)
      · refine z_iload C dL_fingers_502 rfl ?_
        refine z_icmp_ne C 511 dL_fingers_504 (by decide) (fun c_504 => ?_) (fun c_504 => ?_)
        · exact absurd (ey c_494) c_504
        refine z_iconst C (v := 1) dL_fingers_507 (by decide) ?_
        refine z_goto C 512 dL_fingers_508 (by decide) ?_
        refine z_istore C dL_fingers_512 (by decide) ?_
        dsimp only [List.set]
        refine z_iload C dL_fingers_514 rfl ?_
        refine z_if_eq C 569 dL_fingers_516 (by decide) (fun c_516 => ?_) (fun c_516 => ?_)
        · exact absurd c_516 (by decide)
        refine z_aload_n C dL_fingers_519 rfl ?_
        refine z_iload C dL_fingers_520 rfl ?_
        refine z_aload_n C dL_fingers_522 rfl ?_
        refine z_iload C dL_fingers_523 rfl ?_
        refine a_17 C (j := j) rfl (by omega) dL_fingers_525 ?_
        rw [hτ.k 17 0 j (by decide), em]
        refine z_iload C dL_fingers_526 rfl ?_
        refine z_csw C (As := [_, _, _, _]) (c_L_position (hτ.inv hI.1)) wd398 wd13 wd399 hd_position wd397 (rok (by decide) (by decide)) ⟨by show _ ≤ M; omega, by show _ ≤ 6 * (M); omega⟩ rfl (Nat.le_of_ble_eq_true rfl) dL_fingers_528 ?_
        intro r528 τ h528
        obtain ⟨hτ, rfl⟩ := S_note_no hτ h528 (Or.inr (Or.inl (by rw [ix_nI (show j < 2 ^ 31 by omega), en]; exact no_nI (Nat.le_refl _) (by omega))))
        refine z_ldc C (v := (-1000001)) wd367 dL_fingers_531 ?_
        refine z_icmp_ne C 569 dL_fingers_533 (by decide) (fun c_533 => ?_) (fun c_533 => ?_)
        · exact absurd rfl c_533
        refine z_aload_n C dL_fingers_536 rfl ?_
        refine z_iload C dL_fingers_537 rfl ?_
        refine z_iconst C (v := (-1)) dL_fingers_539 (by decide) ?_
        refine z_iload C dL_fingers_540 rfl ?_
        refine z_csw C (As := [_, _, _, _]) (c_L_string (hτ.inv hI.1)) wd405 wd13 wd406 hd_string wd404 (rok (by decide) (by decide)) ⟨by show _ ≤ M; omega, by show _ ≤ 6 * (M); omega⟩ rfl (Nat.le_of_ble_eq_true rfl) dL_fingers_542 ?_
        intro r542 τ h542
        obtain ⟨hτ, rfl⟩ := S_note_no hτ h542 (Or.inr (Or.inl no_m1))
        refine z_ldc C (v := (-1000001)) wd367 dL_fingers_545 ?_
        refine z_icmp_ne C 569 dL_fingers_547 (by decide) (fun c_547 => ?_) (fun c_547 => ?_)
        · exact absurd rfl c_547
        refine z_aload_n C dL_fingers_550 rfl ?_
        refine z_iload C dL_fingers_551 rfl ?_
        refine z_aload_n C dL_fingers_553 rfl ?_
        refine z_iload C dL_fingers_554 rfl ?_
        refine a_17 C (j := j) rfl (by omega) dL_fingers_556 ?_
        rw [hτ.k 17 0 j (by decide), em]
        refine z_csw C (As := [_, _, _]) (c_L_pitch (hτ.inv hI.1)) wd335 wd13 wd336 hd_pitch wd334 (rok (by decide) (by decide)) ⟨by show _ ≤ M; omega, by show _ ≤ 6 * (M); omega⟩ rfl (Nat.le_of_ble_eq_true rfl) dL_fingers_557 ?_
        intro r557 τ h557
        obtain ⟨hτ, rfl⟩ := S_pitch_no hτ h557 (Or.inr (by rw [ix_nI (show j < 2 ^ 31 by omega), en]; exact no_nI (Nat.le_refl _) (by omega)))
        refine z_ldc C (v := (-1000001)) wd367 dL_fingers_560 ?_
        refine z_icmp_ne C 569 dL_fingers_562 (by decide) (fun c_562 => ?_) (fun c_562 => ?_)
        · exact absurd rfl c_562
        refine z_iconst C (v := 1) dL_fingers_565 (by decide) ?_
        refine z_goto C 570 dL_fingers_566 (by decide) ?_
        exact kret τ _ _ _ hτ (by omega) (by omega)
      · refine z_ldc C (v := (-1000003)) wd443 dL_fingers_497 ?_
        refine z_goto C 504 dL_fingers_499 (by decide) ?_
        refine z_icmp_ne C 511 dL_fingers_504 (by decide) (fun c_504 => ?_) (fun c_504 => ?_)
        · exact absurd (en4 c_494) c_504
        refine z_iconst C (v := 1) dL_fingers_507 (by decide) ?_
        refine z_goto C 512 dL_fingers_508 (by decide) ?_
        refine z_istore C dL_fingers_512 (by decide) ?_
        dsimp only [List.set]
        refine z_iload C dL_fingers_514 rfl ?_
        refine z_if_eq C 569 dL_fingers_516 (by decide) (fun c_516 => ?_) (fun c_516 => ?_)
        · exact absurd c_516 (by decide)
        refine z_aload_n C dL_fingers_519 rfl ?_
        refine z_iload C dL_fingers_520 rfl ?_
        refine z_aload_n C dL_fingers_522 rfl ?_
        refine z_iload C dL_fingers_523 rfl ?_
        refine a_17 C (j := j) rfl (by omega) dL_fingers_525 ?_
        rw [hτ.k 17 0 j (by decide), em]
        refine z_iload C dL_fingers_526 rfl ?_
        refine z_csw C (As := [_, _, _, _]) (c_L_position (hτ.inv hI.1)) wd398 wd13 wd399 hd_position wd397 (rok (by decide) (by decide)) ⟨by show _ ≤ M; omega, by show _ ≤ 6 * (M); omega⟩ rfl (Nat.le_of_ble_eq_true rfl) dL_fingers_528 ?_
        intro r528 τ h528
        obtain ⟨hτ, rfl⟩ := S_note_no hτ h528 (Or.inr (Or.inl (by rw [ix_nI (show j < 2 ^ 31 by omega), en]; exact no_nI (Nat.le_refl _) (by omega))))
        refine z_ldc C (v := (-1000001)) wd367 dL_fingers_531 ?_
        refine z_icmp_ne C 569 dL_fingers_533 (by decide) (fun c_533 => ?_) (fun c_533 => ?_)
        · exact absurd rfl c_533
        refine z_aload_n C dL_fingers_536 rfl ?_
        refine z_iload C dL_fingers_537 rfl ?_
        refine z_iconst C (v := (-1)) dL_fingers_539 (by decide) ?_
        refine z_iload C dL_fingers_540 rfl ?_
        refine z_csw C (As := [_, _, _, _]) (c_L_string (hτ.inv hI.1)) wd405 wd13 wd406 hd_string wd404 (rok (by decide) (by decide)) ⟨by show _ ≤ M; omega, by show _ ≤ 6 * (M); omega⟩ rfl (Nat.le_of_ble_eq_true rfl) dL_fingers_542 ?_
        intro r542 τ h542
        obtain ⟨hτ, rfl⟩ := S_note_no hτ h542 (Or.inr (Or.inl no_m1))
        refine z_ldc C (v := (-1000001)) wd367 dL_fingers_545 ?_
        refine z_icmp_ne C 569 dL_fingers_547 (by decide) (fun c_547 => ?_) (fun c_547 => ?_)
        · exact absurd rfl c_547
        refine z_aload_n C dL_fingers_550 rfl ?_
        refine z_iload C dL_fingers_551 rfl ?_
        refine z_aload_n C dL_fingers_553 rfl ?_
        refine z_iload C dL_fingers_554 rfl ?_
        refine a_17 C (j := j) rfl (by omega) dL_fingers_556 ?_
        rw [hτ.k 17 0 j (by decide), em]
        refine z_csw C (As := [_, _, _]) (c_L_pitch (hτ.inv hI.1)) wd335 wd13 wd336 hd_pitch wd334 (rok (by decide) (by decide)) ⟨by show _ ≤ M; omega, by show _ ≤ 6 * (M); omega⟩ rfl (Nat.le_of_ble_eq_true rfl) dL_fingers_557 ?_
        intro r557 τ h557
        obtain ⟨hτ, rfl⟩ := S_pitch_no hτ h557 (Or.inr (by rw [ix_nI (show j < 2 ^ 31 by omega), en]; exact no_nI (Nat.le_refl _) (by omega)))
        refine z_ldc C (v := (-1000001)) wd367 dL_fingers_560 ?_
        refine z_icmp_ne C 569 dL_fingers_562 (by decide) (fun c_562 => ?_) (fun c_562 => ?_)
        · exact absurd rfl c_562
        refine z_iconst C (v := 1) dL_fingers_565 (by decide) ?_
        refine z_goto C 570 dL_fingers_566 (by decide) ?_
        exact kret τ _ _ _ hτ (by omega) (by omega)
    · have hin : i < n := by rw [nI_leI (by omega) (by omega)] at c_271; omega
      obtain ⟨r1, r2, r3⟩ := hrow i hin
      have hg := hgr i (by omega)
      have hs := hsum i (by omega)
      have hs1 := hsum (i + 1) (by omega)
      have es1 : sumf P n (i + 1) = sumf P n i + sh (bef P n i) (rowf P n i) := rfl
      refine z_aload_n C dL_fingers_274 rfl ?_
      refine z_iload C dL_fingers_275 rfl ?_
      refine z_iload C dL_fingers_277 rfl ?_
      refine z_iload C dL_fingers_279 rfl ?_
      refine z_csw C (As := [_, _, _, _]) (c_L_position (hτ.inv hI.1)) wd398 wd13 wd399 hd_position wd397 (rok (by decide) (by decide)) ⟨by show _ ≤ M; omega, by show _ ≤ 6 * (M); omega⟩ rfl (Nat.le_of_ble_eq_true rfl) dL_fingers_281 ?_
      intro r281 τ h281
      obtain ⟨hτ, e281⟩ := S_pos hτ h281 (by rw [enp]; exact ok_nI hj (by omega)) (by rw [ix_nI (show j < 2 ^ 31 by omega), en]; exact ok_nI (hin) (by omega)) (by rw [eni]; exact ok_nI hq (by omega))
      rw [ix_nI (by omega), ix_nI (by omega), ix_nI (by omega), evP] at e281
      subst e281
      refine z_istore C dL_fingers_284 (by decide) ?_
      dsimp only [List.set]
      refine z_aload_n C dL_fingers_286 rfl ?_
      refine z_iload C dL_fingers_287 rfl ?_
      refine z_iload C dL_fingers_289 rfl ?_
      refine z_iload C dL_fingers_291 rfl ?_
      refine z_csw C (As := [_, _, _, _]) (c_L_string (hτ.inv hI.1)) wd405 wd13 wd406 hd_string wd404 (rok (by decide) (by decide)) ⟨by show _ ≤ M; omega, by show _ ≤ 6 * (M); omega⟩ rfl (Nat.le_of_ble_eq_true rfl) dL_fingers_293 ?_
      intro r293 τ h293
      obtain ⟨hτ, e293⟩ := S_str hτ h293 (by rw [enp]; exact ok_nI hj (by omega)) (by rw [ix_nI (show j < 2 ^ 31 by omega), en]; exact ok_nI (hin) (by omega)) (by rw [eni]; exact ok_nI hq (by omega))
      rw [ix_nI (by omega), ix_nI (by omega), ix_nI (by omega), evT] at e293
      subst e293
      refine z_istore C dL_fingers_296 (by decide) ?_
      dsimp only [List.set]
      refine z_iload C dL_fingers_298 rfl ?_
      refine z_sipush C (v := 9999) dL_fingers_300 (by decide) ?_
      refine z_icmp_le C 321 dL_fingers_303 (by decide) (fun c_303 => ?_) (fun c_303 => ?_)
      rotate_left
      · exact absurd (nI_le (a := tot P n) (b := 9999) (by omega) (by omega)) c_303
      refine z_iload C dL_fingers_321 rfl ?_
      refine z_iconst C (v := 1) dL_fingers_323 (by decide) ?_
      refine z_icmp_lt C 361 dL_fingers_324 (by decide) (fun c_324 => ?_) (fun c_324 => ?_)
      · exact absurd c_324 (nI_nlt (a := rowf P n i) (b := 1) r1 (by omega))
      refine z_iload C dL_fingers_327 rfl ?_
      refine z_iload C dL_fingers_329 rfl ?_
      refine z_icmp_gt C 361 dL_fingers_331 (by decide) (fun c_331 => ?_) (fun c_331 => ?_)
      · exact absurd c_331 (nI_nlt (a := hi) (b := rowf P n i) r2 (by omega))
      refine z_iload C dL_fingers_334 rfl ?_
      refine z_if_lt C 361 dL_fingers_336 (by decide) (fun c_336 => ?_) (fun c_336 => ?_)
      · exfalso
        rcases lowS_rng (σ 12 j i) (nI (rowf P n i)) (fun k => σ 18 0 (4 * q + k)) with y | ⟨k, hk, y⟩
        · exact r3 y
        · rw [y] at c_336; exact nI_pos (by omega) c_336
      refine z_iload C dL_fingers_339 rfl ?_
      refine z_aload_n C dL_fingers_341 rfl ?_
      refine z_aload_n C dL_fingers_342 rfl ?_
      refine z_iload C dL_fingers_343 rfl ?_
      refine z_aload_n C dL_fingers_345 rfl ?_
      refine z_iload C dL_fingers_346 rfl ?_
      refine z_iload C dL_fingers_348 rfl ?_
      refine z_csw C (As := [_, _, _]) (c_L_pitch (hτ.inv hI.1)) wd335 wd13 wd336 hd_pitch wd334 (rok (by decide) (by decide)) ⟨by show _ ≤ M; omega, by show _ ≤ 6 * (M); omega⟩ rfl (Nat.le_of_ble_eq_true rfl) dL_fingers_350 ?_
      intro r350 τ h350
      obtain ⟨hτ, e350⟩ := S_pitch hτ h350 (by rw [enp]; exact ok_nI hj (by omega)) (by rw [ix_nI (show j < 2 ^ 31 by omega), en]; exact ok_nI (hin) (by omega))
      rw [ix_nI (by omega), ix_nI (by omega)] at e350
      subst e350
      refine z_iload C dL_fingers_353 rfl ?_
      refine z_csi C (As := [_, _, _, _, _]) (c_L_stringOf (q := q) (h := rowf P n i) (f0 := f0) (w := w) (by omega) hf hw (by omega) (by rw [hτ.k 19 0 q (by decide)]; exact ef)) okL_stringOf wd371 (rok (by decide) (by decide)) ⟨by show _ ≤ M; omega, by show _ ≤ 6 * (M); omega⟩ rfl (Nat.le_of_ble_eq_true rfl) dL_fingers_355 ?_
      rintro r355 _ ⟨rfl, e355⟩
      rw [show (fun k => τ 18 0 (4 * q + k)) = (fun k => σ 18 0 (4 * q + k)) from funext fun k => hτ.k 18 0 _ (by decide)] at e355
      subst e355
      refine z_icmp_eq C 363 dL_fingers_358 (by decide) (fun c_358 => ?_) (fun c_358 => ?_)
      rotate_left
      · exact absurd rfl c_358
      refine z_iload C dL_fingers_363 rfl ?_
      refine z_if_ne C 372 dL_fingers_365 (by decide) (fun c_365 => ?_) (fun c_365 => ?_)
      · have hi0 : 0 < i := by rw [nI_ne0' (by omega)] at c_365; omega
        obtain ⟨r1b, r2b, _⟩ := hrow (i - 1) (by omega)
        refine z_iload C dL_fingers_372 rfl ?_
        refine z_aload_n C dL_fingers_374 rfl ?_
        refine z_iload C dL_fingers_375 rfl ?_
        refine z_iload C dL_fingers_377 rfl ?_
        refine z_iconst C (v := 1) dL_fingers_379 (by decide) ?_
        refine z_isub C dL_fingers_380 ?_
        rw [show nI i - 1 = nI (i - 1) from pk_sub (a := i) (b := 1) (by omega)]
        refine z_iload C dL_fingers_381 rfl ?_
        refine z_csw C (As := [_, _, _, _]) (c_L_position (hτ.inv hI.1)) wd398 wd13 wd399 hd_position wd397 (rok (by decide) (by decide)) ⟨by show _ ≤ M; omega, by show _ ≤ 6 * (M); omega⟩ rfl (Nat.le_of_ble_eq_true rfl) dL_fingers_383 ?_
        intro r383 τ h383
        obtain ⟨hτ, e383⟩ := S_pos hτ h383 (by rw [enp]; exact ok_nI hj (by omega)) (by rw [ix_nI (show j < 2 ^ 31 by omega), en]; exact ok_nI ((show i - 1 < n by omega)) (by omega)) (by rw [eni]; exact ok_nI hq (by omega))
        rw [ix_nI (by omega), ix_nI (by omega), ix_nI (by omega), evP] at e383
        subst e383
        refine z_csi C (As := [_, _]) (c_L_apart (a := rowf P n i) (b := rowf P n (i - 1)) rfl rfl (by omega) (by omega)) okL_apart wd368 (rok (by decide) (by decide)) ⟨by show _ ≤ M; omega, by show _ ≤ 6 * (M); omega⟩ rfl (Nat.le_of_ble_eq_true rfl) dL_fingers_386 ?_
        rintro _ _ ⟨rfl, rfl⟩
        rw [show apN (rowf P n i) (rowf P n (i - 1)) = sh (bef P n i) (rowf P n i) by
          rw [apN_sh' r1b]
          obtain ⟨i0, rfl⟩ : ∃ i0, i = i0 + 1 := ⟨i - 1, by omega⟩
          rfl]
        refine z_istore C dL_fingers_389 (by decide) ?_
        dsimp only [List.set]
        refine z_iload C dL_fingers_391 rfl ?_
        refine z_iload C dL_fingers_393 rfl ?_
        refine z_iadd C dL_fingers_395 ?_
        rw [nI_add, ← es1]
        refine z_istore C dL_fingers_396 (by decide) ?_
        dsimp only [List.set]
        refine z_iload C dL_fingers_398 rfl ?_
        refine z_iload C dL_fingers_400 rfl ?_
        refine z_icmp_le C 410 dL_fingers_402 (by decide) (fun c_402 => ?_) (fun c_402 => ?_)
        · have hle : sh (bef P n i) (rowf P n i) ≤ grt P n i := by rw [nI_leI (by omega) (by omega)] at c_402; exact c_402
          have eg : grt P n (i + 1) = grt P n i := if_neg (by omega)
          refine z_iload C dL_fingers_410 rfl ?_
          refine z_istore C dL_fingers_412 (by decide) ?_
          dsimp only [List.set]
          refine z_iinc C (v := 1) dL_fingers_414 rfl (by decide) (by decide) ?_
          dsimp only [List.set]
          refine z_goto C 265 dL_fingers_417 (by decide) ?_
          rw [nI_1, ← eg]
          exact ih (i + 1) τ _ _ _ (by omega) (by omega) hτ (by omega) (by omega)
        · have hle : grt P n i < sh (bef P n i) (rowf P n i) := by rw [nI_leI (by omega) (by omega)] at c_402; omega
          have eg : grt P n (i + 1) = sh (bef P n i) (rowf P n i) := if_pos hle
          refine z_iload C dL_fingers_405 rfl ?_
          refine z_goto C 412 dL_fingers_407 (by decide) ?_
          refine z_istore C dL_fingers_412 (by decide) ?_
          dsimp only [List.set]
          refine z_iinc C (v := 1) dL_fingers_414 rfl (by decide) (by decide) ?_
          dsimp only [List.set]
          refine z_goto C 265 dL_fingers_417 (by decide) ?_
          rw [nI_1, ← eg]
          exact ih (i + 1) τ _ _ _ (by omega) (by omega) hτ (by omega) (by omega)
      · have hi0 : i = 0 := by rw [nI_ne0' (by omega)] at c_365; exact c_365
        refine z_iconst C (v := 0) dL_fingers_368 (by decide) ?_
        refine z_goto C 389 dL_fingers_369 (by decide) ?_
        rw [show (0 : Int32) = nI (sh (bef P n i) (rowf P n i)) by rw [hi0]; rfl]
        refine z_istore C dL_fingers_389 (by decide) ?_
        dsimp only [List.set]
        refine z_iload C dL_fingers_391 rfl ?_
        refine z_iload C dL_fingers_393 rfl ?_
        refine z_iadd C dL_fingers_395 ?_
        rw [nI_add, ← es1]
        refine z_istore C dL_fingers_396 (by decide) ?_
        dsimp only [List.set]
        refine z_iload C dL_fingers_398 rfl ?_
        refine z_iload C dL_fingers_400 rfl ?_
        refine z_icmp_le C 410 dL_fingers_402 (by decide) (fun c_402 => ?_) (fun c_402 => ?_)
        · have hle : sh (bef P n i) (rowf P n i) ≤ grt P n i := by rw [nI_leI (by omega) (by omega)] at c_402; exact c_402
          have eg : grt P n (i + 1) = grt P n i := if_neg (by omega)
          refine z_iload C dL_fingers_410 rfl ?_
          refine z_istore C dL_fingers_412 (by decide) ?_
          dsimp only [List.set]
          refine z_iinc C (v := 1) dL_fingers_414 rfl (by decide) (by decide) ?_
          dsimp only [List.set]
          refine z_goto C 265 dL_fingers_417 (by decide) ?_
          rw [nI_1, ← eg]
          exact ih (i + 1) τ _ _ _ (by omega) (by omega) hτ (by omega) (by omega)
        · have hle : grt P n i < sh (bef P n i) (rowf P n i) := by rw [nI_leI (by omega) (by omega)] at c_402; omega
          have eg : grt P n (i + 1) = sh (bef P n i) (rowf P n i) := if_pos hle
          refine z_iload C dL_fingers_405 rfl ?_
          refine z_goto C 412 dL_fingers_407 (by decide) ?_
          refine z_istore C dL_fingers_412 (by decide) ?_
          dsimp only [List.set]
          refine z_iinc C (v := 1) dL_fingers_414 rfl (by decide) (by decide) ?_
          dsimp only [List.set]
          refine z_goto C 265 dL_fingers_417 (by decide) ?_
          rw [nI_1, ← eg]
          exact ih (i + 1) τ _ _ _ (by omega) (by omega) hτ (by omega) (by omega)
end
section
variable {p : Program} {l : Launch} {e : Env} {R : Room} {s : State} {m : MethodId} {args : Array Value} {below : List Frame} {meth : Method} {c : Code} {D : va_G} {ad : Nat → Nat → Nat} {cy : Nat → ClassId} {A : Nat → Prop} {sa : Nat → Nat} {cells slots : Nat} {σ : St}
set_option maxRecDepth 100000 in
set_option maxHeartbeats 4000000 in
theorem lp_f6y (C : Cx p l s m args meth c cL_fingers "FretSchoolLaw" 18 (some .boolean) D ad cy A sa) {T : Nat} {σ : St} {np ni j q w f0 hi n : Nat} {P : Nat → Nat → Bool} (F : FAC ad T σ np ni j q w f0 hi n P) {Q : State → Prop} {M : Nat} (hpl : (0 < n ∧ tot P n < FARn)) (kret : ∀ (τ : St) (L : List (Option Value)) (cells slots : Nat), SameC σ τ → cells ≤ M → slots ≤ 6 * M → Z p l e (rmD 10 M) s m args below meth c D ad cy A 18 cells slots Q τ L 570 [.int 1]) {τ : St} (hτ : SameC σ τ) (hc1 : cells + 14 * (n + 1) + 17 ≤ M) (hc2 : slots + 84 * (n + 1) + 102 ≤ 6 * M) {o10 o11 o12 o13 o14 o15 o16 o17 : Option Value} : Z p l e (rmD 10 M) s m args below meth c D ad cy A 18 (cells) (slots) Q (τ) [some (.ref (ad 0 0)), some (.ref (ad 17 0)), some (.ref (ad 18 0)), some (.ref (ad 19 0)), some (.int (nI j)), some (.int (nI q)), some (.ref (ad 23 0)), some (.ref (ad 24 0)), some (.int (nI hi)), some (.int (nI (leastF P hi n))), o10, o11, o12, o13, o14, o15, o16, o17] 236 [] := by
  obtain ⟨hI, enp, hnp, eni, hni, hj, hq, h23, h24, ef, hw, hf, hhi, hhi1, em, en, hn, hP, ePF, ecN⟩ := id F
  obtain ⟨evS, evH, evP, evT, elF, ht, hgr, hrow, hsum⟩ := F.yes hpl
  rw [elF]
  refine z_aload_n C dL_fingers_236 rfl ?_
  refine z_iload C dL_fingers_237 rfl ?_
  refine z_iload C dL_fingers_239 rfl ?_
  refine z_csw C (As := [_, _, _]) (c_L_shifts (hτ.inv hI.1)) wd375 wd13 wd376 hd_shifts wd374 (rok (by decide) (by decide)) ⟨by show _ ≤ M; omega, by show _ ≤ 6 * (M); omega⟩ rfl (Nat.le_of_ble_eq_true rfl) dL_fingers_241 ?_
  intro r241 τ h241
  obtain ⟨hτ, e241⟩ := S_shifts hτ h241 (by rw [enp]; exact ok_nI hj (by omega)) (by rw [eni]; exact ok_nI hq (by omega))
  rw [ix_nI (by omega), ix_nI (by omega), evS] at e241
  subst e241
  refine z_istore C dL_fingers_244 (by decide) ?_
  dsimp only [List.set]
  refine z_aload_n C dL_fingers_246 rfl ?_
  refine z_iload C dL_fingers_247 rfl ?_
  refine z_iload C dL_fingers_249 rfl ?_
  refine z_csw C (As := [_, _, _]) (c_L_hardest (hτ.inv hI.1)) wd391 wd13 wd392 hd_hardest wd390 (rok (by decide) (by decide)) ⟨by show _ ≤ M; omega, by show _ ≤ 6 * (M); omega⟩ rfl (Nat.le_of_ble_eq_true rfl) dL_fingers_251 ?_
  intro r251 τ h251
  obtain ⟨hτ, e251⟩ := S_hard hτ h251 (by rw [enp]; exact ok_nI hj (by omega)) (by rw [eni]; exact ok_nI hq (by omega))
  rw [ix_nI (by omega), ix_nI (by omega), evH] at e251
  subst e251
  refine z_istore C dL_fingers_254 (by decide) ?_
  dsimp only [List.set]
  refine z_iconst C (v := 0) dL_fingers_256 (by decide) ?_
  refine z_istore C dL_fingers_257 (by decide) ?_
  dsimp only [List.set]
  refine z_iconst C (v := 0) dL_fingers_259 (by decide) ?_
  refine z_istore C dL_fingers_260 (by decide) ?_
  dsimp only [List.set]
  refine z_iconst C (v := 0) dL_fingers_262 (by decide) ?_
  refine z_istore C dL_fingers_263 (by decide) ?_
  dsimp only [List.set]
  exact lp_f5y C F hpl kret (n + 1) 0 τ _ _ _ (by omega) (by omega) hτ (by omega) (by omega)
end
section
variable {p : Program} {l : Launch} {e : Env} {R : Room} {s : State} {m : MethodId} {args : Array Value} {below : List Frame} {meth : Method} {c : Code} {D : va_G} {ad : Nat → Nat → Nat} {cy : Nat → ClassId} {A : Nat → Prop} {sa : Nat → Nat} {cells slots : Nat} {σ : St}
set_option maxRecDepth 100000 in
set_option maxHeartbeats 4000000 in
theorem lp_f5n (C : Cx p l s m args meth c cL_fingers "FretSchoolLaw" 18 (some .boolean) D ad cy A sa) {T : Nat} {σ : St} {np ni j q w f0 hi n : Nat} {P : Nat → Nat → Bool} (F : FAC ad T σ np ni j q w f0 hi n P) {Q : State → Prop} {M : Nat} (hpl : ¬ (0 < n ∧ tot P n < FARn)) (kret : ∀ (τ : St) (L : List (Option Value)) (cells slots : Nat), SameC σ τ → cells ≤ M → slots ≤ 6 * M → Z p l e (rmD 10 M) s m args below meth c D ad cy A 18 cells slots Q τ L 570 [.int 1]) : ∀ (f i : Nat) (τ : St) (o15 o16 o17 : Option Value) {cells slots : Nat}, i ≤ n → n < i + f → SameC σ τ → cells + 14 * f + 13 ≤ M → slots + 84 * f + 78 ≤ 6 * M → Z p l e (rmD 10 M) s m args below meth c D ad cy A 18 (cells) (slots) Q (τ) [some (.ref (ad 0 0)), some (.ref (ad 17 0)), some (.ref (ad 18 0)), some (.ref (ad 19 0)), some (.int (nI j)), some (.int (nI q)), some (.ref (ad 23 0)), some (.ref (ad 24 0)), some (.int (nI hi)), some (.int (nI 10000)), some (.int (-1)), some (.int (-1)), some (.int 0), some (.int 0), some (.int (nI i)), o15, o16, o17] 265 [] := by
  obtain ⟨hI, enp, hnp, eni, hni, hj, hq, h23, h24, ef, hw, hf, hhi, hhi1, em, en, hn, hP, ePF, ecN⟩ := id F
  obtain ⟨evS, evH, evP, evT, elF⟩ := F.no hpl
  intro f
  induction f with
  | zero => intro i τ o15 o16 o17 cells slots _ h; exact absurd h (by omega)
  | succ f ih =>
    intro i τ o15 o16 o17 cells slots hin0 hfu hτ hc1 hc2
    refine z_iload C dL_fingers_265 rfl ?_
    refine z_aload_n C dL_fingers_267 rfl ?_
    refine z_iload C dL_fingers_268 rfl ?_
    refine a_17 C (j := j) rfl (by omega) dL_fingers_270 ?_
    rw [hτ.k 17 0 j (by decide), em]
    refine z_icmp_ge C 420 dL_fingers_271 (by decide) (fun c_271 => ?_) (fun c_271 => ?_)
    · have hqn : i = n := by rw [nI_leI (by omega) (by omega)] at c_271; omega
      subst hqn
      refine z_iload C dL_fingers_420 rfl ?_
      refine z_sipush C (v := 9999) dL_fingers_422 (by decide) ?_
      refine z_icmp_le C 448 dL_fingers_425 (by decide) (fun c_425 => ?_) (fun c_425 => ?_)
      · exact absurd c_425 (by decide)
      refine z_iload C dL_fingers_428 rfl ?_
      refine z_iconst C (v := (-1)) dL_fingers_430 (by decide) ?_
      refine z_icmp_ne C 444 dL_fingers_431 (by decide) (fun c_431 => ?_) (fun c_431 => ?_)
      · exact absurd rfl c_431
      refine z_iload C dL_fingers_434 rfl ?_
      refine z_iconst C (v := (-1)) dL_fingers_436 (by decide) ?_
      refine z_icmp_ne C 444 dL_fingers_437 (by decide) (fun c_437 => ?_) (fun c_437 => ?_)
      · exact absurd rfl c_437
      refine z_iconst C (v := 1) dL_fingers_440 (by decide) ?_
      refine z_goto C 474 dL_fingers_441 (by decide) ?_
      refine z_istore C dL_fingers_474 (by decide) ?_
      dsimp only [List.set]
      refine z_iload C dL_fingers_476 rfl ?_
      refine z_if_eq C 511 dL_fingers_478 (by decide) (fun c_478 => ?_) (fun c_478 => ?_)
      · exact absurd c_478 (by decide)
      refine z_aload_n C dL_fingers_481 rfl ?_
      refine z_iload C dL_fingers_482 rfl ?_
      refine z_iload C dL_fingers_484 rfl ?_
      refine z_csw C (As := [_, _, _]) (c_L_shiftsByAll (hτ.inv hI.1)) wd413 wd13 wd414 hd_shiftsByAll wd412 (rok (by decide) (by decide)) ⟨by show _ ≤ M; omega, by show _ ≤ 6 * (M); omega⟩ rfl (Nat.le_of_ble_eq_true rfl) dL_fingers_486 ?_
      intro r486 τ h486
      obtain ⟨hτ, ey, en4⟩ := S_byAll hτ h486 (by rw [enp]; exact ok_nI hj (by omega)) (by rw [eni]; exact ok_nI hq (by omega))
      rw [ix_nI (show j < 2 ^ 31 by omega), en] at ey en4
      rw [ix_nI (show q < 2 ^ 31 by omega), evS] at ey
      refine z_aload_n C dL_fingers_489 rfl ?_
      refine z_iload C dL_fingers_490 rfl ?_
      refine a_17 C (j := j) rfl (by omega) dL_fingers_492 ?_
      rw [hτ.k 17 0 j (by decide), em]
      refine z_iconst C (v := 4) dL_fingers_493 (by decide) ?_
      refine z_icmp_le C 502 dL_fingers_494 (by decide) (fun c_494 => ?_) (fun c_494 => ?_)
      · refine z_iload C dL_fingers_502 rfl ?_
        refine z_icmp_ne C 511 dL_fingers_504 (by decide) (fun c_504 => ?_) (fun c_504 => ?_)
        · exact absurd (ey c_494) c_504
        refine z_iconst C (v := 1) dL_fingers_507 (by decide) ?_
        refine z_goto C 512 dL_fingers_508 (by decide) ?_
        refine z_istore C dL_fingers_512 (by decide) ?_
        dsimp only [List.set]
        refine z_iload C dL_fingers_514 rfl ?_
        refine z_if_eq C 569 dL_fingers_516 (by decide) (fun c_516 => ?_) (fun c_516 => ?_)
        · exact absurd c_516 (by decide)
        refine z_aload_n C dL_fingers_519 rfl ?_
        refine z_iload C dL_fingers_520 rfl ?_
        refine z_aload_n C dL_fingers_522 rfl ?_
        refine z_iload C dL_fingers_523 rfl ?_
        refine a_17 C (j := j) rfl (by omega) dL_fingers_525 ?_
        rw [hτ.k 17 0 j (by decide), em]
        refine z_iload C dL_fingers_526 rfl ?_
        refine z_csw C (As := [_, _, _, _]) (c_L_position (hτ.inv hI.1)) wd398 wd13 wd399 hd_position wd397 (rok (by decide) (by decide)) ⟨by show _ ≤ M; omega, by show _ ≤ 6 * (M); omega⟩ rfl (Nat.le_of_ble_eq_true rfl) dL_fingers_528 ?_
        intro r528 τ h528
        obtain ⟨hτ, rfl⟩ := S_note_no hτ h528 (Or.inr (Or.inl (by rw [ix_nI (show j < 2 ^ 31 by omega), en]; exact no_nI (Nat.le_refl _) (by omega))))
        refine z_ldc C (v := (-1000001)) wd367 dL_fingers_531 ?_
        refine z_icmp_ne C 569 dL_fingers_533 (by decide) (fun c_533 => ?_) (fun c_533 => ?_)
        · exact absurd rfl c_533
        refine z_aload_n C dL_fingers_536 rfl ?_
        refine z_iload C dL_fingers_537 rfl ?_
        refine z_iconst C (v := (-1)) dL_fingers_539 (by decide) ?_
        refine z_iload C dL_fingers_540 rfl ?_
        refine z_csw C (As := [_, _, _, _]) (c_L_string (hτ.inv hI.1)) wd405 wd13 wd406 hd_string wd404 (rok (by decide) (by decide)) ⟨by show _ ≤ M; omega, by show _ ≤ 6 * (M); omega⟩ rfl (Nat.le_of_ble_eq_true rfl) dL_fingers_542 ?_
        intro r542 τ h542
        obtain ⟨hτ, rfl⟩ := S_note_no hτ h542 (Or.inr (Or.inl no_m1))
        refine z_ldc C (v := (-1000001)) wd367 dL_fingers_545 ?_
        refine z_icmp_ne C 569 dL_fingers_547 (by decide) (fun c_547 => ?_) (fun c_547 => ?_)
        · exact absurd rfl c_547
        refine z_aload_n C dL_fingers_550 rfl ?_
        refine z_iload C dL_fingers_551 rfl ?_
        refine z_aload_n C dL_fingers_553 rfl ?_
        refine z_iload C dL_fingers_554 rfl ?_
        refine a_17 C (j := j) rfl (by omega) dL_fingers_556 ?_
        rw [hτ.k 17 0 j (by decide), em]
        refine z_csw C (As := [_, _, _]) (c_L_pitch (hτ.inv hI.1)) wd335 wd13 wd336 hd_pitch wd334 (rok (by decide) (by decide)) ⟨by show _ ≤ M; omega, by show _ ≤ 6 * (M); omega⟩ rfl (Nat.le_of_ble_eq_true rfl) dL_fingers_557 ?_
        intro r557 τ h557
        obtain ⟨hτ, rfl⟩ := S_pitch_no hτ h557 (Or.inr (by rw [ix_nI (show j < 2 ^ 31 by omega), en]; exact no_nI (Nat.le_refl _) (by omega)))
        refine z_ldc C (v := (-1000001)) wd367 dL_fingers_560 ?_
        refine z_icmp_ne C 569 dL_fingers_562 (by decide) (fun c_562 => ?_) (fun c_562 => ?_)
        · exact absurd rfl c_562
        refine z_iconst C (v := 1) dL_fingers_565 (by decide) ?_
        refine z_goto C 570 dL_fingers_566 (by decide) ?_
        exact kret τ _ _ _ hτ (by omega) (by omega)
      · refine z_ldc C (v := (-1000003)) wd443 dL_fingers_497 ?_
        refine z_goto C 504 dL_fingers_499 (by decide) ?_
        refine z_icmp_ne C 511 dL_fingers_504 (by decide) (fun c_504 => ?_) (fun c_504 => ?_)
        · exact absurd (en4 c_494) c_504
        refine z_iconst C (v := 1) dL_fingers_507 (by decide) ?_
        refine z_goto C 512 dL_fingers_508 (by decide) ?_
        refine z_istore C dL_fingers_512 (by decide) ?_
        dsimp only [List.set]
        refine z_iload C dL_fingers_514 rfl ?_
        refine z_if_eq C 569 dL_fingers_516 (by decide) (fun c_516 => ?_) (fun c_516 => ?_)
        · exact absurd c_516 (by decide)
        refine z_aload_n C dL_fingers_519 rfl ?_
        refine z_iload C dL_fingers_520 rfl ?_
        refine z_aload_n C dL_fingers_522 rfl ?_
        refine z_iload C dL_fingers_523 rfl ?_
        refine a_17 C (j := j) rfl (by omega) dL_fingers_525 ?_
        rw [hτ.k 17 0 j (by decide), em]
        refine z_iload C dL_fingers_526 rfl ?_
        refine z_csw C (As := [_, _, _, _]) (c_L_position (hτ.inv hI.1)) wd398 wd13 wd399 hd_position wd397 (rok (by decide) (by decide)) ⟨by show _ ≤ M; omega, by show _ ≤ 6 * (M); omega⟩ rfl (Nat.le_of_ble_eq_true rfl) dL_fingers_528 ?_
        intro r528 τ h528
        obtain ⟨hτ, rfl⟩ := S_note_no hτ h528 (Or.inr (Or.inl (by rw [ix_nI (show j < 2 ^ 31 by omega), en]; exact no_nI (Nat.le_refl _) (by omega))))
        refine z_ldc C (v := (-1000001)) wd367 dL_fingers_531 ?_
        refine z_icmp_ne C 569 dL_fingers_533 (by decide) (fun c_533 => ?_) (fun c_533 => ?_)
        · exact absurd rfl c_533
        refine z_aload_n C dL_fingers_536 rfl ?_
        refine z_iload C dL_fingers_537 rfl ?_
        refine z_iconst C (v := (-1)) dL_fingers_539 (by decide) ?_
        refine z_iload C dL_fingers_540 rfl ?_
        refine z_csw C (As := [_, _, _, _]) (c_L_string (hτ.inv hI.1)) wd405 wd13 wd406 hd_string wd404 (rok (by decide) (by decide)) ⟨by show _ ≤ M; omega, by show _ ≤ 6 * (M); omega⟩ rfl (Nat.le_of_ble_eq_true rfl) dL_fingers_542 ?_
        intro r542 τ h542
        obtain ⟨hτ, rfl⟩ := S_note_no hτ h542 (Or.inr (Or.inl no_m1))
        refine z_ldc C (v := (-1000001)) wd367 dL_fingers_545 ?_
        refine z_icmp_ne C 569 dL_fingers_547 (by decide) (fun c_547 => ?_) (fun c_547 => ?_)
        · exact absurd rfl c_547
        refine z_aload_n C dL_fingers_550 rfl ?_
        refine z_iload C dL_fingers_551 rfl ?_
        refine z_aload_n C dL_fingers_553 rfl ?_
        refine z_iload C dL_fingers_554 rfl ?_
        refine a_17 C (j := j) rfl (by omega) dL_fingers_556 ?_
        rw [hτ.k 17 0 j (by decide), em]
        refine z_csw C (As := [_, _, _]) (c_L_pitch (hτ.inv hI.1)) wd335 wd13 wd336 hd_pitch wd334 (rok (by decide) (by decide)) ⟨by show _ ≤ M; omega, by show _ ≤ 6 * (M); omega⟩ rfl (Nat.le_of_ble_eq_true rfl) dL_fingers_557 ?_
        intro r557 τ h557
        obtain ⟨hτ, rfl⟩ := S_pitch_no hτ h557 (Or.inr (by rw [ix_nI (show j < 2 ^ 31 by omega), en]; exact no_nI (Nat.le_refl _) (by omega)))
        refine z_ldc C (v := (-1000001)) wd367 dL_fingers_560 ?_
        refine z_icmp_ne C 569 dL_fingers_562 (by decide) (fun c_562 => ?_) (fun c_562 => ?_)
        · exact absurd rfl c_562
        refine z_iconst C (v := 1) dL_fingers_565 (by decide) ?_
        refine z_goto C 570 dL_fingers_566 (by decide) ?_
        exact kret τ _ _ _ hτ (by omega) (by omega)
    · have hin : i < n := by rw [nI_leI (by omega) (by omega)] at c_271; omega
      refine z_aload_n C dL_fingers_274 rfl ?_
      refine z_iload C dL_fingers_275 rfl ?_
      refine z_iload C dL_fingers_277 rfl ?_
      refine z_iload C dL_fingers_279 rfl ?_
      refine z_csw C (As := [_, _, _, _]) (c_L_position (hτ.inv hI.1)) wd398 wd13 wd399 hd_position wd397 (rok (by decide) (by decide)) ⟨by show _ ≤ M; omega, by show _ ≤ 6 * (M); omega⟩ rfl (Nat.le_of_ble_eq_true rfl) dL_fingers_281 ?_
      intro r281 τ h281
      obtain ⟨hτ, e281⟩ := S_pos hτ h281 (by rw [enp]; exact ok_nI hj (by omega)) (by rw [ix_nI (show j < 2 ^ 31 by omega), en]; exact ok_nI (hin) (by omega)) (by rw [eni]; exact ok_nI hq (by omega))
      rw [ix_nI (by omega), ix_nI (by omega), ix_nI (by omega), evP] at e281
      subst e281
      refine z_istore C dL_fingers_284 (by decide) ?_
      dsimp only [List.set]
      refine z_aload_n C dL_fingers_286 rfl ?_
      refine z_iload C dL_fingers_287 rfl ?_
      refine z_iload C dL_fingers_289 rfl ?_
      refine z_iload C dL_fingers_291 rfl ?_
      refine z_csw C (As := [_, _, _, _]) (c_L_string (hτ.inv hI.1)) wd405 wd13 wd406 hd_string wd404 (rok (by decide) (by decide)) ⟨by show _ ≤ M; omega, by show _ ≤ 6 * (M); omega⟩ rfl (Nat.le_of_ble_eq_true rfl) dL_fingers_293 ?_
      intro r293 τ h293
      obtain ⟨hτ, e293⟩ := S_str hτ h293 (by rw [enp]; exact ok_nI hj (by omega)) (by rw [ix_nI (show j < 2 ^ 31 by omega), en]; exact ok_nI (hin) (by omega)) (by rw [eni]; exact ok_nI hq (by omega))
      rw [ix_nI (by omega), ix_nI (by omega), ix_nI (by omega), evT] at e293
      subst e293
      refine z_istore C dL_fingers_296 (by decide) ?_
      dsimp only [List.set]
      refine z_iload C dL_fingers_298 rfl ?_
      refine z_sipush C (v := 9999) dL_fingers_300 (by decide) ?_
      refine z_icmp_le C 321 dL_fingers_303 (by decide) (fun c_303 => ?_) (fun c_303 => ?_)
      · exact absurd c_303 (by decide)
      refine z_iload C dL_fingers_306 rfl ?_
      refine z_iconst C (v := (-1)) dL_fingers_308 (by decide) ?_
      refine z_icmp_ne C 361 dL_fingers_309 (by decide) (fun c_309 => ?_) (fun c_309 => ?_)
      · exact absurd rfl c_309
      refine z_iload C dL_fingers_312 rfl ?_
      refine z_iconst C (v := (-1)) dL_fingers_314 (by decide) ?_
      refine z_icmp_eq C 363 dL_fingers_315 (by decide) (fun c_315 => ?_) (fun c_315 => ?_)
      rotate_left
      · exact absurd rfl c_315
      refine z_iload C dL_fingers_363 rfl ?_
      refine z_if_ne C 372 dL_fingers_365 (by decide) (fun c_365 => ?_) (fun c_365 => ?_)
      · have hi0 : 0 < i := by rw [nI_ne0' (by omega)] at c_365; omega
        refine z_iload C dL_fingers_372 rfl ?_
        refine z_aload_n C dL_fingers_374 rfl ?_
        refine z_iload C dL_fingers_375 rfl ?_
        refine z_iload C dL_fingers_377 rfl ?_
        refine z_iconst C (v := 1) dL_fingers_379 (by decide) ?_
        refine z_isub C dL_fingers_380 ?_
        rw [show nI i - 1 = nI (i - 1) from pk_sub (a := i) (b := 1) (by omega)]
        refine z_iload C dL_fingers_381 rfl ?_
        refine z_csw C (As := [_, _, _, _]) (c_L_position (hτ.inv hI.1)) wd398 wd13 wd399 hd_position wd397 (rok (by decide) (by decide)) ⟨by show _ ≤ M; omega, by show _ ≤ 6 * (M); omega⟩ rfl (Nat.le_of_ble_eq_true rfl) dL_fingers_383 ?_
        intro r383 τ h383
        obtain ⟨hτ, e383⟩ := S_pos hτ h383 (by rw [enp]; exact ok_nI hj (by omega)) (by rw [ix_nI (show j < 2 ^ 31 by omega), en]; exact ok_nI ((show i - 1 < n by omega)) (by omega)) (by rw [eni]; exact ok_nI hq (by omega))
        rw [ix_nI (by omega), ix_nI (by omega), ix_nI (by omega), evP] at e383
        subst e383
        refine z_csi C (As := [_, _]) (c_L_apart_m) okL_apart wd368 (rok (by decide) (by decide)) ⟨by show _ ≤ M; omega, by show _ ≤ 6 * (M); omega⟩ rfl (Nat.le_of_ble_eq_true rfl) dL_fingers_386 ?_
        rintro _ _ ⟨rfl, rfl⟩
        refine z_istore C dL_fingers_389 (by decide) ?_
        dsimp only [List.set]
        refine z_iload C dL_fingers_391 rfl ?_
        refine z_iload C dL_fingers_393 rfl ?_
        refine z_iadd C dL_fingers_395 ?_
        rw [show (0 : Int32) + 0 = 0 by decide]
        refine z_istore C dL_fingers_396 (by decide) ?_
        dsimp only [List.set]
        refine z_iload C dL_fingers_398 rfl ?_
        refine z_iload C dL_fingers_400 rfl ?_
        refine z_icmp_le C 410 dL_fingers_402 (by decide) (fun c_402 => ?_) (fun c_402 => ?_)
        rotate_left
        · exact absurd (by decide) c_402
        refine z_iload C dL_fingers_410 rfl ?_
        refine z_istore C dL_fingers_412 (by decide) ?_
        dsimp only [List.set]
        refine z_iinc C (v := 1) dL_fingers_414 rfl (by decide) (by decide) ?_
        dsimp only [List.set]
        refine z_goto C 265 dL_fingers_417 (by decide) ?_
        rw [nI_1]
        exact ih (i + 1) τ _ _ _ (by omega) (by omega) hτ (by omega) (by omega)
      · have hi0 : i = 0 := by rw [nI_ne0' (by omega)] at c_365; exact c_365
        refine z_iconst C (v := 0) dL_fingers_368 (by decide) ?_
        refine z_goto C 389 dL_fingers_369 (by decide) ?_
        refine z_istore C dL_fingers_389 (by decide) ?_
        dsimp only [List.set]
        refine z_iload C dL_fingers_391 rfl ?_
        refine z_iload C dL_fingers_393 rfl ?_
        refine z_iadd C dL_fingers_395 ?_
        rw [show (0 : Int32) + 0 = 0 by decide]
        refine z_istore C dL_fingers_396 (by decide) ?_
        dsimp only [List.set]
        refine z_iload C dL_fingers_398 rfl ?_
        refine z_iload C dL_fingers_400 rfl ?_
        refine z_icmp_le C 410 dL_fingers_402 (by decide) (fun c_402 => ?_) (fun c_402 => ?_)
        rotate_left
        · exact absurd (by decide) c_402
        refine z_iload C dL_fingers_410 rfl ?_
        refine z_istore C dL_fingers_412 (by decide) ?_
        dsimp only [List.set]
        refine z_iinc C (v := 1) dL_fingers_414 rfl (by decide) (by decide) ?_
        dsimp only [List.set]
        refine z_goto C 265 dL_fingers_417 (by decide) ?_
        rw [nI_1]
        exact ih (i + 1) τ _ _ _ (by omega) (by omega) hτ (by omega) (by omega)
end
section
variable {p : Program} {l : Launch} {e : Env} {R : Room} {s : State} {m : MethodId} {args : Array Value} {below : List Frame} {meth : Method} {c : Code} {D : va_G} {ad : Nat → Nat → Nat} {cy : Nat → ClassId} {A : Nat → Prop} {sa : Nat → Nat} {cells slots : Nat} {σ : St}
set_option maxRecDepth 100000 in
set_option maxHeartbeats 4000000 in
theorem lp_f6n (C : Cx p l s m args meth c cL_fingers "FretSchoolLaw" 18 (some .boolean) D ad cy A sa) {T : Nat} {σ : St} {np ni j q w f0 hi n : Nat} {P : Nat → Nat → Bool} (F : FAC ad T σ np ni j q w f0 hi n P) {Q : State → Prop} {M : Nat} (hpl : ¬ (0 < n ∧ tot P n < FARn)) (kret : ∀ (τ : St) (L : List (Option Value)) (cells slots : Nat), SameC σ τ → cells ≤ M → slots ≤ 6 * M → Z p l e (rmD 10 M) s m args below meth c D ad cy A 18 cells slots Q τ L 570 [.int 1]) {τ : St} (hτ : SameC σ τ) (hc1 : cells + 14 * (n + 1) + 17 ≤ M) (hc2 : slots + 84 * (n + 1) + 102 ≤ 6 * M) {o10 o11 o12 o13 o14 o15 o16 o17 : Option Value} : Z p l e (rmD 10 M) s m args below meth c D ad cy A 18 (cells) (slots) Q (τ) [some (.ref (ad 0 0)), some (.ref (ad 17 0)), some (.ref (ad 18 0)), some (.ref (ad 19 0)), some (.int (nI j)), some (.int (nI q)), some (.ref (ad 23 0)), some (.ref (ad 24 0)), some (.int (nI hi)), some (.int (nI (leastF P hi n))), o10, o11, o12, o13, o14, o15, o16, o17] 236 [] := by
  obtain ⟨hI, enp, hnp, eni, hni, hj, hq, h23, h24, ef, hw, hf, hhi, hhi1, em, en, hn, hP, ePF, ecN⟩ := id F
  obtain ⟨evS, evH, evP, evT, elF⟩ := F.no hpl
  rw [elF]
  refine z_aload_n C dL_fingers_236 rfl ?_
  refine z_iload C dL_fingers_237 rfl ?_
  refine z_iload C dL_fingers_239 rfl ?_
  refine z_csw C (As := [_, _, _]) (c_L_shifts (hτ.inv hI.1)) wd375 wd13 wd376 hd_shifts wd374 (rok (by decide) (by decide)) ⟨by show _ ≤ M; omega, by show _ ≤ 6 * (M); omega⟩ rfl (Nat.le_of_ble_eq_true rfl) dL_fingers_241 ?_
  intro r241 τ h241
  obtain ⟨hτ, e241⟩ := S_shifts hτ h241 (by rw [enp]; exact ok_nI hj (by omega)) (by rw [eni]; exact ok_nI hq (by omega))
  rw [ix_nI (by omega), ix_nI (by omega), evS] at e241
  subst e241
  refine z_istore C dL_fingers_244 (by decide) ?_
  dsimp only [List.set]
  refine z_aload_n C dL_fingers_246 rfl ?_
  refine z_iload C dL_fingers_247 rfl ?_
  refine z_iload C dL_fingers_249 rfl ?_
  refine z_csw C (As := [_, _, _]) (c_L_hardest (hτ.inv hI.1)) wd391 wd13 wd392 hd_hardest wd390 (rok (by decide) (by decide)) ⟨by show _ ≤ M; omega, by show _ ≤ 6 * (M); omega⟩ rfl (Nat.le_of_ble_eq_true rfl) dL_fingers_251 ?_
  intro r251 τ h251
  obtain ⟨hτ, e251⟩ := S_hard hτ h251 (by rw [enp]; exact ok_nI hj (by omega)) (by rw [eni]; exact ok_nI hq (by omega))
  rw [ix_nI (by omega), ix_nI (by omega), evH] at e251
  subst e251
  refine z_istore C dL_fingers_254 (by decide) ?_
  dsimp only [List.set]
  refine z_iconst C (v := 0) dL_fingers_256 (by decide) ?_
  refine z_istore C dL_fingers_257 (by decide) ?_
  dsimp only [List.set]
  refine z_iconst C (v := 0) dL_fingers_259 (by decide) ?_
  refine z_istore C dL_fingers_260 (by decide) ?_
  dsimp only [List.set]
  refine z_iconst C (v := 0) dL_fingers_262 (by decide) ?_
  refine z_istore C dL_fingers_263 (by decide) ?_
  dsimp only [List.set]
  exact lp_f5n C F hpl kret (n + 1) 0 τ _ _ _ (by omega) (by omega) hτ (by omega) (by omega)
end
