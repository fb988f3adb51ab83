/-! ===== the class FretSchool: positions, lessons ===== -/
def BestQ (σ σ' : St) (j q : Nat) (r : Int32) : Prop := (r = 1 ∧ PL σ j q ∧ σ' 6 0 3 = nI (BT σ j q) ∧ σ' 6 0 4 = nI (HG σ j q) ∧ ∀ i, i < cN σ j → σ' 9 0 i = nI (RW σ j q i)) ∨ (r = 0 ∧ ¬ PL σ j q)
set_option maxRecDepth 100000 in
set_option maxHeartbeats 4000000 in
theorem c_X5_findBest {l : Launch} {D : va_G} {ad : Nat → Nat → Nat} {cy : Nat → ClassId} {A : Nat → Prop} {sa : Nat → Nat} {σ : St} {v w : Int32} (hI : Inv σ) : XI l D ad cy A sa yX5_findBest cX5_findBest 3 (some .boolean) 5 2 σ [.ref (ad 0 0), .int v, .int w] (fun r σ' => ¬ bad v (σ 0 0 6) ∧ ¬ bad w (σ 0 0 7) ∧ SameC σ σ' ∧ BestQ σ σ' (ix v) (ix w) r) (fun E u => σ = u ∧ E = IOOBE ∧ (bad v (σ 0 0 6) ∨ bad w (σ 0 0 7))) := by
  refine XI.mk "FretSchool" (by decide) rfl (Nat.le_of_ble_eq_true rfl) rfl ?_
  intro p e s m args below meth c C hex
  change Z _ _ _ _ _ _ _ _ _ _ _ _ _ _ _ _ _ _ _ [some (.ref (ad 0 0)), some (.int v), some (.int w)] 0 []
  refine z_aload_n C dX5_findBest_0 rfl ?_
  refine z_iload_n C dX5_findBest_1 rfl ?_
  refine y_cvv C (As := [_]) (c_X5_needPiece) okX5_needPiece wd346 rc_0 (rok (by decide) (by decide)) ⟨Nat.le_of_ble_eq_true rfl, Nat.le_of_ble_eq_true rfl⟩ rfl (Nat.le_of_ble_eq_true rfl) dX5_findBest_2 (x_on C hex (by decide) (by decide) (fun _ _ h => ⟨h.1, h.2.1, Or.inl h.2.2⟩)) ?_
  rintro _ ⟨rfl, hr2⟩
  obtain ⟨np, hnp, enp⟩ := hI.1
  rw [enp] at hr2
  obtain ⟨ep, hp1, hp2⟩ := nbad hnp (by decide) hr2
  rw [← enp] at hr2
  obtain ⟨ecp, hcp⟩ := hI.2.2.2.1 (ix v) hp2
  refine z_aload_n C dX5_findBest_5 rfl ?_
  refine z_iload_n C dX5_findBest_6 rfl ?_
  refine y_cvv C (As := [_]) (c_X5_needInstrument) okX5_needInstrument wd385 rc_0 (rok (by decide) (by decide)) ⟨Nat.le_of_ble_eq_true rfl, Nat.le_of_ble_eq_true rfl⟩ rfl (Nat.le_of_ble_eq_true rfl) dX5_findBest_7 (x_on C hex (by decide) (by decide) (fun _ _ h => ⟨h.1, h.2.1, Or.inr h.2.2⟩)) ?_
  rintro _ ⟨rfl, hr7⟩
  obtain ⟨nq, hnq, enq⟩ := hI.2.1
  rw [enq] at hr7
  obtain ⟨eq, hq1, hq2⟩ := nbad hnq (by decide) hr7
  rw [← enq] at hr7
  obtain ⟨efq, hfq4, hfq16⟩ := hI.fr hq2 (by rw [enq]; exact nI_lt hq1 (by omega))
  refine z_aload_n C dX5_findBest_10 rfl ?_
  refine g_0_5 C wd145 dX5_findBest_11 ?_
  refine z_aload_n C dX5_findBest_14 rfl ?_
  refine g_0_0 C wd140 dX5_findBest_15 ?_
  refine z_iload_n C dX5_findBest_18 rfl ?_
  refine a_1 C ep hp2 dX5_findBest_19 ?_
  refine z_aload_n C dX5_findBest_20 rfl ?_
  refine g_0_1 C wd141 dX5_findBest_21 ?_
  refine z_iload_n C dX5_findBest_24 rfl ?_
  refine a_2 C eq hq2 dX5_findBest_25 ?_
  refine z_cvi C (As := [_, _]) (c_X0_placeBest hp2 hq2 ecp hcp efq hfq4 hfq16) okX0_placeBest wd293 rc_6 (rok (by decide) (by decide)) ⟨Nat.le_of_ble_eq_true rfl, Nat.le_of_ble_eq_true rfl⟩ rfl (Nat.le_of_ble_eq_true rfl) dX5_findBest_26 ?_
  rintro r26 σ2 ⟨hfr, hq26⟩
  have hz26 : r26 = 0 ∨ r26 = 1 := hq26.elim (fun h => Or.inr h.1) (fun h => Or.inl h.1)
  refine y_ret (by decide) (by decide) ?_
  refine z_zret C dX5_findBest_29 (by first | exact Or.inl rfl | exact Or.inr rfl | assumption) ?_
  refine ⟨hr2, hr7, fun a b c0 h6 h7 h9 h10 => hfr a b c0 h6 h7 h9 h10, ?_⟩
  rcases hq26 with ⟨h1, h2, h3, h4, h5, h6⟩ | ⟨h1, h2⟩
  · exact Or.inl ⟨h1, ⟨h2, h3⟩, h4, h5, h6⟩
  · exact Or.inr ⟨h1, fun h => h2.elim (fun q => absurd h.1 (Nat.not_lt.mpr (Nat.le_of_eq q))) (fun q => absurd h.2 (Nat.not_lt.mpr (Nat.le_of_eq q.symm)))⟩
set_option maxRecDepth 100000 in
set_option maxHeartbeats 4000000 in
theorem k_X5_findBest {l : Launch} {D : va_G} {ad : Nat → Nat → Nat} {cy : Nat → ClassId} {A : Nat → Prop} {sa : Nat → Nat} {σ : St} {v w : Int32} (hI : Inv σ) (hr2 : ¬ bad v (σ 0 0 6)) (hr7 : ¬ bad w (σ 0 0 7)) : MI l D ad cy A sa yX5_findBest cX5_findBest 3 (some .boolean) 5 σ [.ref (ad 0 0), .int v, .int w] (fun r σ' => SameC σ σ' ∧ BestQ σ σ' (ix v) (ix w) r) := by
  refine MI.mk "FretSchool" (by decide) rfl (Nat.le_of_ble_eq_true rfl) rfl ?_
  intro p e s m args below meth c C
  change Z _ _ _ _ _ _ _ _ _ _ _ _ _ _ _ _ _ _ _ [some (.ref (ad 0 0)), some (.int v), some (.int w)] 0 []
  obtain ⟨np, hnp, enp⟩ := hI.1
  rw [enp] at hr2
  obtain ⟨ep, hp1, hp2⟩ := nbad hnp (by decide) hr2
  rw [← enp] at hr2
  obtain ⟨ecp, hcp⟩ := hI.2.2.2.1 (ix v) hp2
  obtain ⟨nq, hnq, enq⟩ := hI.2.1
  rw [enq] at hr7
  obtain ⟨eq, hq1, hq2⟩ := nbad hnq (by decide) hr7
  rw [← enq] at hr7
  obtain ⟨efq, hfq4, hfq16⟩ := hI.fr hq2 (by rw [enq]; exact nI_lt hq1 (by omega))
  refine z_aload_n C dX5_findBest_0 rfl ?_
  refine z_iload_n C dX5_findBest_1 rfl ?_
  refine z_cvv C (As := [_]) (k_X5_needPiece hr2) okX5_needPiece wd346 rc_0 (rok (by decide) (by decide)) ⟨Nat.le_of_ble_eq_true rfl, Nat.le_of_ble_eq_true rfl⟩ rfl (Nat.le_of_ble_eq_true rfl) dX5_findBest_2 ?_
  rintro _ rfl
  refine z_aload_n C dX5_findBest_5 rfl ?_
  refine z_iload_n C dX5_findBest_6 rfl ?_
  refine z_cvv C (As := [_]) (k_X5_needInstrument hr7) okX5_needInstrument wd385 rc_0 (rok (by decide) (by decide)) ⟨Nat.le_of_ble_eq_true rfl, Nat.le_of_ble_eq_true rfl⟩ rfl (Nat.le_of_ble_eq_true rfl) dX5_findBest_7 ?_
  rintro _ rfl
  refine z_aload_n C dX5_findBest_10 rfl ?_
  refine g_0_5 C wd145 dX5_findBest_11 ?_
  refine z_aload_n C dX5_findBest_14 rfl ?_
  refine g_0_0 C wd140 dX5_findBest_15 ?_
  refine z_iload_n C dX5_findBest_18 rfl ?_
  refine a_1 C ep hp2 dX5_findBest_19 ?_
  refine z_aload_n C dX5_findBest_20 rfl ?_
  refine g_0_1 C wd141 dX5_findBest_21 ?_
  refine z_iload_n C dX5_findBest_24 rfl ?_
  refine a_2 C eq hq2 dX5_findBest_25 ?_
  refine z_cvi C (As := [_, _]) (c_X0_placeBest hp2 hq2 ecp hcp efq hfq4 hfq16) okX0_placeBest wd293 rc_6 (rok (by decide) (by decide)) ⟨Nat.le_of_ble_eq_true rfl, Nat.le_of_ble_eq_true rfl⟩ rfl (Nat.le_of_ble_eq_true rfl) dX5_findBest_26 ?_
  rintro r26 σ2 ⟨hfr, hq26⟩
  have hz26 : r26 = 0 ∨ r26 = 1 := hq26.elim (fun h => Or.inr h.1) (fun h => Or.inl h.1)
  refine z_zret C dX5_findBest_29 (by first | exact Or.inl rfl | exact Or.inr rfl | assumption) ?_
  refine ⟨fun a b c0 h6 h7 h9 h10 => hfr a b c0 h6 h7 h9 h10, ?_⟩
  rcases hq26 with ⟨h1, h2, h3, h4, h5, h6⟩ | ⟨h1, h2⟩
  · exact Or.inl ⟨h1, ⟨h2, h3⟩, h4, h5, h6⟩
  · exact Or.inr ⟨h1, fun h => h2.elim (fun q => absurd h.1 (Nat.not_lt.mpr (Nat.le_of_eq q))) (fun q => absurd h.2 (Nat.not_lt.mpr (Nat.le_of_eq q.symm)))⟩
noncomputable def K_pq (σ : St) (p q : Int32) : Nat := by classical exact if bad p (σ 0 0 6) ∨ bad q (σ 0 0 7) then 1 else 0
noncomputable def valS (σ : St) (j q : Nat) : Int32 := if PL σ j q then nI (BT σ j q) else -1
noncomputable def valH (σ : St) (j q : Nat) : Int32 := if PL σ j q then nI (HG σ j q) else -1
theorem K_pq_0 {σ : St} {p q : Int32} (h1 : ¬ bad p (σ 0 0 6)) (h2 : ¬ bad q (σ 0 0 7)) : K_pq σ p q = 0 := by unfold K_pq; rw [if_neg (fun h => h.elim h1 h2)]
set_option maxRecDepth 100000 in
set_option maxHeartbeats 4000000 in
theorem c_X5_shifts {l : Launch} {D : va_G} {ad : Nat → Nat → Nat} {cy : Nat → ClassId} {A : Nat → Prop} {sa : Nat → Nat} {σ : St} {x y : Int32} (hI : Inv σ) : XI l D ad cy A sa yX5_shifts cX5_shifts 3 (some .int) 6 2 σ [.ref (ad 0 0), .int x, .int y] (fun r σ' => K_pq σ x y = 0 ∧ r = valS σ (ix x) (ix y) ∧ SameC σ σ') (fun E u => σ = u ∧ pxK [IOOBE] (K_pq σ x y) E) := by
  refine XI.mk "FretSchool" (by decide) rfl (Nat.le_of_ble_eq_true rfl) rfl ?_
  intro p e s m args below meth c C hex
  change Z _ _ _ _ _ _ _ _ _ _ _ _ _ _ _ _ _ _ _ [some (.ref (ad 0 0)), some (.int x), some (.int y)] 0 []
  refine z_aload_n C dX5_shifts_0 rfl ?_
  refine z_iload_n C dX5_shifts_1 rfl ?_
  refine z_iload_n C dX5_shifts_2 rfl ?_
  refine y_cvi C (As := [_, _]) (c_X5_findBest hI) okX5_findBest wd381 rc_0 (rok (by decide) (by decide)) ⟨Nat.le_of_ble_eq_true rfl, Nat.le_of_ble_eq_true rfl⟩ rfl (Nat.le_of_ble_eq_true rfl) dX5_shifts_3 (x_on C hex (by decide) (by decide) (fun E u h => ⟨h.1, by unfold K_pq; rw [if_pos h.2.2]; exact ⟨by decide, congrArg some h.2.1.symm⟩⟩)) ?_
  rintro r3 σ2 ⟨hvp, hvq, hsm, hbq⟩
  refine z_if_eq C 19 dX5_shifts_6 (by decide) (fun c_6 => ?_) (fun c_6 => ?_)
  · refine z_iconst C (v := (-1)) dX5_shifts_19 (by decide) ?_
    refine y_ret (by decide) (by decide) ?_
    refine z_iret C dX5_shifts_20 ?_
    refine ⟨K_pq_0 hvp hvq, ?_, hsm⟩
    rcases hbq with ⟨h1, h2, h3, h4, h5⟩ | ⟨h1, h2⟩
    · rw [h1] at c_6; exact absurd c_6 (by decide)
    · unfold valS; rw [if_neg h2]
  · refine z_aload_n C dX5_shifts_9 rfl ?_
    refine g_0_5 C wd145 dX5_shifts_10 ?_
    refine g_6_3 C wd126 dX5_shifts_13 ?_
    refine z_goto C 20 dX5_shifts_16 (by decide) ?_
    refine y_ret (by decide) (by decide) ?_
    refine z_iret C dX5_shifts_20 ?_
    refine ⟨K_pq_0 hvp hvq, ?_, hsm⟩
    rcases hbq with ⟨h1, h2, h3, h4, h5⟩ | ⟨h1, h2⟩
    · unfold valS; rw [if_pos h2, h3]
    · exact absurd h1 c_6
set_option maxRecDepth 100000 in
set_option maxHeartbeats 4000000 in
theorem c_X5_hardest {l : Launch} {D : va_G} {ad : Nat → Nat → Nat} {cy : Nat → ClassId} {A : Nat → Prop} {sa : Nat → Nat} {σ : St} {x y : Int32} (hI : Inv σ) : XI l D ad cy A sa yX5_hardest cX5_hardest 3 (some .int) 6 2 σ [.ref (ad 0 0), .int x, .int y] (fun r σ' => K_pq σ x y = 0 ∧ r = valH σ (ix x) (ix y) ∧ SameC σ σ') (fun E u => σ = u ∧ pxK [IOOBE] (K_pq σ x y) E) := by
  refine XI.mk "FretSchool" (by decide) rfl (Nat.le_of_ble_eq_true rfl) rfl ?_
  intro p e s m args below meth c C hex
  change Z _ _ _ _ _ _ _ _ _ _ _ _ _ _ _ _ _ _ _ [some (.ref (ad 0 0)), some (.int x), some (.int y)] 0 []
  refine z_aload_n C dX5_hardest_0 rfl ?_
  refine z_iload_n C dX5_hardest_1 rfl ?_
  refine z_iload_n C dX5_hardest_2 rfl ?_
  refine y_cvi C (As := [_, _]) (c_X5_findBest hI) okX5_findBest wd381 rc_0 (rok (by decide) (by decide)) ⟨Nat.le_of_ble_eq_true rfl, Nat.le_of_ble_eq_true rfl⟩ rfl (Nat.le_of_ble_eq_true rfl) dX5_hardest_3 (x_on C hex (by decide) (by decide) (fun E u h => ⟨h.1, by unfold K_pq; rw [if_pos h.2.2]; exact ⟨by decide, congrArg some h.2.1.symm⟩⟩)) ?_
  rintro r3 σ2 ⟨hvp, hvq, hsm, hbq⟩
  refine z_if_eq C 19 dX5_hardest_6 (by decide) (fun c_6 => ?_) (fun c_6 => ?_)
  · refine z_iconst C (v := (-1)) dX5_hardest_19 (by decide) ?_
    refine y_ret (by decide) (by decide) ?_
    refine z_iret C dX5_hardest_20 ?_
    refine ⟨K_pq_0 hvp hvq, ?_, hsm⟩
    rcases hbq with ⟨h1, h2, h3, h4, h5⟩ | ⟨h1, h2⟩
    · rw [h1] at c_6; exact absurd c_6 (by decide)
    · unfold valH; rw [if_neg h2]
  · refine z_aload_n C dX5_hardest_9 rfl ?_
    refine g_0_5 C wd145 dX5_hardest_10 ?_
    refine g_6_4 C wd128 dX5_hardest_13 ?_
    refine z_goto C 20 dX5_hardest_16 (by decide) ?_
    refine y_ret (by decide) (by decide) ?_
    refine z_iret C dX5_hardest_20 ?_
    refine ⟨K_pq_0 hvp hvq, ?_, hsm⟩
    rcases hbq with ⟨h1, h2, h3, h4, h5⟩ | ⟨h1, h2⟩
    · unfold valH; rw [if_pos h2, h4]
    · exact absurd h1 c_6
noncomputable def K_byAll (σ : St) (p q : Int32) : Nat := by classical exact if bad p (σ 0 0 6) ∨ bad q (σ 0 0 7) then 1 else if ¬ σ 11 (ix p) 1 ≤ 4 then 2 else 0
set_option maxRecDepth 100000 in
set_option maxHeartbeats 4000000 in
theorem c_X5_shiftsByAll {l : Launch} {D : va_G} {ad : Nat → Nat → Nat} {cy : Nat → ClassId} {A : Nat → Prop} {sa : Nat → Nat} {σ : St} {x y : Int32} (hI : Inv σ) : XI l D ad cy A sa yX5_shiftsByAll cX5_shiftsByAll 3 (some .int) 8 3 σ [.ref (ad 0 0), .int x, .int y] (fun r σ' => K_byAll σ x y = 0 ∧ r = valS σ (ix x) (ix y) ∧ SameC σ σ') (fun E u => σ = u ∧ pxK [IOOBE, ISE] (K_byAll σ x y) E) := by
  refine XI.mk "FretSchool" (by decide) rfl (Nat.le_of_ble_eq_true rfl) rfl ?_
  intro p e s m args below meth c C hex
  change Z _ _ _ _ _ _ _ _ _ _ _ _ _ _ _ _ _ _ _ [some (.ref (ad 0 0)), some (.int x), some (.int y)] 0 []
  refine z_aload_n C dX5_shiftsByAll_0 rfl ?_
  refine z_iload_n C dX5_shiftsByAll_1 rfl ?_
  refine y_cvv C (As := [_]) (c_X5_needPiece) okX5_needPiece wd346 rc_0 (rok (by decide) (by decide)) ⟨Nat.le_of_ble_eq_true rfl, Nat.le_of_ble_eq_true rfl⟩ rfl (Nat.le_of_ble_eq_true rfl) dX5_shiftsByAll_2 (x_on C hex (by decide) (by decide) (fun E u h => ⟨h.1, by unfold K_byAll; rw [if_pos (Or.inl h.2.2)]; exact ⟨by decide, congrArg some h.2.1.symm⟩⟩)) ?_
  rintro _ ⟨rfl, hr2⟩
  obtain ⟨np, hnp, enp⟩ := hI.1
  rw [enp] at hr2
  obtain ⟨ep, hp1, hp2⟩ := nbad hnp (by decide) hr2
  rw [← enp] at hr2
  obtain ⟨ecp, hcp⟩ := hI.2.2.2.1 (ix x) hp2
  refine z_aload_n C dX5_shiftsByAll_5 rfl ?_
  refine z_iload_n C dX5_shiftsByAll_6 rfl ?_
  refine y_cvv C (As := [_]) (c_X5_needInstrument) okX5_needInstrument wd385 rc_0 (rok (by decide) (by decide)) ⟨Nat.le_of_ble_eq_true rfl, Nat.le_of_ble_eq_true rfl⟩ rfl (Nat.le_of_ble_eq_true rfl) dX5_shiftsByAll_7 (x_on C hex (by decide) (by decide) (fun E u h => ⟨h.1, by unfold K_byAll; rw [if_pos (Or.inr h.2.2)]; exact ⟨by decide, congrArg some h.2.1.symm⟩⟩)) ?_
  rintro _ ⟨rfl, hr7⟩
  obtain ⟨nq, hnq, enq⟩ := hI.2.1
  rw [enq] at hr7
  obtain ⟨eq, hq1, hq2⟩ := nbad hnq (by decide) hr7
  rw [← enq] at hr7
  obtain ⟨efq, hfq4, hfq16⟩ := hI.fr hq2 (by rw [enq]; exact nI_lt hq1 (by omega))
  refine z_aload_n C dX5_shiftsByAll_10 rfl ?_
  refine g_0_0 C wd140 dX5_shiftsByAll_11 ?_
  refine z_iload_n C dX5_shiftsByAll_14 rfl ?_
  refine a_1 C (by assumption) (by first | assumption | omega) dX5_shiftsByAll_15 ?_
  refine g_11_1 hp2 C wd47 dX5_shiftsByAll_16 ?_
  refine z_iconst C (v := 4) dX5_shiftsByAll_19 (by decide) ?_
  refine z_icmp_le C 33 dX5_shiftsByAll_20 (by decide) (fun c_20 => ?_) (fun c_20 => ?_)
  · refine z_aload_n C dX5_shiftsByAll_33 rfl ?_
    refine g_0_5 C wd145 dX5_shiftsByAll_34 ?_
    refine z_aload_n C dX5_shiftsByAll_37 rfl ?_
    refine g_0_0 C wd140 dX5_shiftsByAll_38 ?_
    refine z_iload_n C dX5_shiftsByAll_41 rfl ?_
    refine a_1 C ep hp2 dX5_shiftsByAll_42 ?_
    refine z_aload_n C dX5_shiftsByAll_43 rfl ?_
    refine g_0_1 C wd141 dX5_shiftsByAll_44 ?_
    refine z_iload_n C dX5_shiftsByAll_47 rfl ?_
    refine a_2 C eq hq2 dX5_shiftsByAll_48 ?_
    refine z_cvi C (As := [_, _]) (c_X0_leastByAll hp2 hq2 ecp hcp efq hfq4 hfq16 (by rw [ecp, show (4 : Int32) = nI 4 from rfl, nI_leI (by omega) (by omega)] at c_20; exact c_20)) okX0_leastByAll wd436 rc_6 (rok (by decide) (by decide)) ⟨Nat.le_of_ble_eq_true rfl, Nat.le_of_ble_eq_true rfl⟩ rfl (Nat.le_of_ble_eq_true rfl) dX5_shiftsByAll_49 ?_
    rintro r49 σ2 ⟨hfr, e49⟩
    refine y_ret (by decide) (by decide) ?_
    refine z_iret C dX5_shiftsByAll_52 ?_
    refine ⟨by unfold K_byAll; rw [if_neg (fun h => h.elim hr2 hr7), if_neg (fun h => h c_20)], ?_, fun a b c0 _ h7 _ _ => hfr a b c0 h7⟩
    rw [e49]
    have hTl := tot_le (PFs σ (ix x) (ix y)) (cN σ (ix x))
    unfold valS
    by_cases hp : PL σ (ix x) (ix y)
    · rw [if_pos hp, if_neg (fun h => h.elim (fun q => absurd hp.1 (Nat.not_lt.mpr (Nat.le_of_eq q))) (fun q => absurd hp.2 (Nat.not_lt.mpr (Nat.le_of_eq q.symm))))]
    · rw [if_neg hp, if_pos (by
        rcases Nat.eq_zero_or_pos (cN σ (ix x)) with q | q
        · exact Or.inl q
        · right
          rcases Nat.lt_or_ge (BT σ (ix x) (ix y)) FARn with q2 | q2
          · exact absurd ⟨q, q2⟩ hp
          · exact Nat.le_antisymm hTl q2)]
  · refine y_ise C hex (tx := "the piece has more than 4 notes") (List.mem_of_getElem? (i := 7) rfl) dX5_shiftsByAll_23 dX5_shiftsByAll_26 dX5_shiftsByAll_27 dX5_shiftsByAll_29 dX5_shiftsByAll_32 ⟨Nat.le_of_ble_eq_true rfl, Nat.le_of_ble_eq_true rfl⟩ (by decide) (by decide) ?_
    exact ⟨rfl, by unfold K_byAll; rw [if_neg (fun h => h.elim hr2 hr7), if_pos c_20]; exact ⟨by decide, rfl⟩⟩
noncomputable def K_note (σ : St) (p k q : Int32) : Nat := by classical exact if bad p (σ 0 0 6) ∨ bad k (σ 11 (ix p) 1) ∨ bad q (σ 0 0 7) then 1 else 0
noncomputable def valP (σ : St) (j i q : Nat) : Int32 := if PL σ j q then nI (RW σ j q i) else -1
noncomputable def valT (σ : St) (j i q : Nat) : Int32 := if PL σ j q then lowS (σ 12 j i) (σ 14 q) (nI (RW σ j q i)) else -1
theorem K_note_0 {σ : St} {p k q : Int32} (h1 : ¬ bad p (σ 0 0 6)) (h3 : ¬ bad k (σ 11 (ix p) 1)) (h2 : ¬ bad q (σ 0 0 7)) : K_note σ p k q = 0 := by unfold K_note; rw [if_neg (fun h => h.elim h1 (fun h => h.elim h3 h2))]
set_option maxRecDepth 100000 in
set_option maxHeartbeats 4000000 in
theorem c_X5_position {l : Launch} {D : va_G} {ad : Nat → Nat → Nat} {cy : Nat → ClassId} {A : Nat → Prop} {sa : Nat → Nat} {σ : St} {x y z : Int32} (hI : Inv σ) : XI l D ad cy A sa yX5_position cX5_position 4 (some .int) 6 4 σ [.ref (ad 0 0), .int x, .int y, .int z] (fun r σ' => K_note σ x y z = 0 ∧ r = valP σ (ix x) (ix y) (ix z) ∧ SameC σ σ') (fun E u => σ = u ∧ pxK [IOOBE] (K_note σ x y z) E) := by
  refine XI.mk "FretSchool" (by decide) rfl (Nat.le_of_ble_eq_true rfl) rfl ?_
  intro p e s m args below meth c C hex
  change Z _ _ _ _ _ _ _ _ _ _ _ _ _ _ _ _ _ _ _ [some (.ref (ad 0 0)), some (.int x), some (.int y), some (.int z)] 0 []
  refine z_aload_n C dX5_position_0 rfl ?_
  refine z_iload_n C dX5_position_1 rfl ?_
  refine z_iload_n C dX5_position_2 rfl ?_
  refine y_cvv C (As := [_, _]) (c_X5_needNote hI) okX5_needNote wd342 rc_0 (rok (by decide) (by decide)) ⟨Nat.le_of_ble_eq_true rfl, Nat.le_of_ble_eq_true rfl⟩ rfl (Nat.le_of_ble_eq_true rfl) dX5_position_3 (x_on C hex (by decide) (by decide) (fun E u h => ⟨h.1, by unfold K_note; rw [if_pos (h.2.2.elim Or.inl (fun q => Or.inr (Or.inl q)))]; exact ⟨by decide, congrArg some h.2.1.symm⟩⟩)) ?_
  rintro _ ⟨rfl, hrp, hrk⟩
  obtain ⟨np, hnp, enp⟩ := hI.1
  rw [enp] at hrp
  obtain ⟨ep, hp1, hp2⟩ := nbad hnp (by decide) hrp
  rw [← enp] at hrp
  obtain ⟨ecp, hcp⟩ := hI.2.2.2.1 (ix x) hp2
  rw [ecp] at hrk
  obtain ⟨ek, hk1, hk2⟩ := nbad hcp (by decide) hrk
  rw [← ecp] at hrk
  refine z_aload_n C dX5_position_6 rfl ?_
  refine z_iload_n C dX5_position_7 rfl ?_
  refine z_iload_n C dX5_position_8 rfl ?_
  refine y_cvi C (As := [_, _]) (c_X5_findBest hI) okX5_findBest wd381 rc_0 (rok (by decide) (by decide)) ⟨Nat.le_of_ble_eq_true rfl, Nat.le_of_ble_eq_true rfl⟩ rfl (Nat.le_of_ble_eq_true rfl) dX5_position_9 (x_on C hex (by decide) (by decide) (fun E u h => ⟨h.1, by unfold K_note; rw [if_pos (h.2.2.elim Or.inl (fun q => Or.inr (Or.inr q)))]; exact ⟨by decide, congrArg some h.2.1.symm⟩⟩)) ?_
  rintro r9 σ2 ⟨hvp, hvq, hsm, hbq⟩
  refine z_if_eq C 27 dX5_position_12 (by decide) (fun c_12 => ?_) (fun c_12 => ?_)
  · refine z_iconst C (v := (-1)) dX5_position_27 (by decide) ?_
    refine y_ret (by decide) (by decide) ?_
    refine z_iret C dX5_position_28 ?_
    refine ⟨K_note_0 hrp hrk hvq, ?_, hsm⟩
    rcases hbq with ⟨h1, h2, h3, h4, h5⟩ | ⟨h1, h2⟩
    · rw [h1] at c_12; exact absurd c_12 (by decide)
    · unfold valP; rw [if_neg h2]
  · refine z_aload_n C dX5_position_15 rfl ?_
    refine g_0_5 C wd145 dX5_position_16 ?_
    refine g_6_2 C wd124 dX5_position_19 ?_
    refine z_iload_n C dX5_position_22 rfl ?_
    refine a_9 C ek (by omega) dX5_position_23 ?_
    refine z_goto C 28 dX5_position_24 (by decide) ?_
    refine y_ret (by decide) (by decide) ?_
    refine z_iret C dX5_position_28 ?_
    refine ⟨K_note_0 hrp hrk hvq, ?_, hsm⟩
    rcases hbq with ⟨h1, h2, h3, h4, h5⟩ | ⟨h1, h2⟩
    · unfold valP; rw [if_pos h2, h5 _ hk1]
    · exact absurd h1 c_12
set_option maxRecDepth 100000 in
set_option maxHeartbeats 4000000 in
theorem c_X5_string {l : Launch} {D : va_G} {ad : Nat → Nat → Nat} {cy : Nat → ClassId} {A : Nat → Prop} {sa : Nat → Nat} {σ : St} {x y z : Int32} (hI : Inv σ) : XI l D ad cy A sa yX5_string cX5_string 4 (some .int) 6 4 σ [.ref (ad 0 0), .int x, .int y, .int z] (fun r σ' => K_note σ x y z = 0 ∧ r = valT σ (ix x) (ix y) (ix z) ∧ SameC σ σ') (fun E u => σ = u ∧ pxK [IOOBE] (K_note σ x y z) E) := by
  refine XI.mk "FretSchool" (by decide) rfl (Nat.le_of_ble_eq_true rfl) rfl ?_
  intro p e s m args below meth c C hex
  change Z _ _ _ _ _ _ _ _ _ _ _ _ _ _ _ _ _ _ _ [some (.ref (ad 0 0)), some (.int x), some (.int y), some (.int z)] 0 []
  refine z_aload_n C dX5_string_0 rfl ?_
  refine z_iload_n C dX5_string_1 rfl ?_
  refine z_iload_n C dX5_string_2 rfl ?_
  refine y_cvv C (As := [_, _]) (c_X5_needNote hI) okX5_needNote wd342 rc_0 (rok (by decide) (by decide)) ⟨Nat.le_of_ble_eq_true rfl, Nat.le_of_ble_eq_true rfl⟩ rfl (Nat.le_of_ble_eq_true rfl) dX5_string_3 (x_on C hex (by decide) (by decide) (fun E u h => ⟨h.1, by unfold K_note; rw [if_pos (h.2.2.elim Or.inl (fun q => Or.inr (Or.inl q)))]; exact ⟨by decide, congrArg some h.2.1.symm⟩⟩)) ?_
  rintro _ ⟨rfl, hrp, hrk⟩
  obtain ⟨np, hnp, enp⟩ := hI.1
  rw [enp] at hrp
  obtain ⟨ep, hp1, hp2⟩ := nbad hnp (by decide) hrp
  rw [← enp] at hrp
  obtain ⟨ecp, hcp⟩ := hI.2.2.2.1 (ix x) hp2
  rw [ecp] at hrk
  obtain ⟨ek, hk1, hk2⟩ := nbad hcp (by decide) hrk
  rw [← ecp] at hrk
  refine z_aload_n C dX5_string_6 rfl ?_
  refine z_iload_n C dX5_string_7 rfl ?_
  refine z_iload_n C dX5_string_8 rfl ?_
  refine y_cvi C (As := [_, _]) (c_X5_findBest hI) okX5_findBest wd381 rc_0 (rok (by decide) (by decide)) ⟨Nat.le_of_ble_eq_true rfl, Nat.le_of_ble_eq_true rfl⟩ rfl (Nat.le_of_ble_eq_true rfl) dX5_string_9 (x_on C hex (by decide) (by decide) (fun E u h => ⟨h.1, by unfold K_note; rw [if_pos (h.2.2.elim Or.inl (fun q => Or.inr (Or.inr q)))]; exact ⟨by decide, congrArg some h.2.1.symm⟩⟩)) ?_
  rintro r9 σ2 ⟨hvp, hvq, hsm, hbq⟩
  obtain ⟨nq, hnq, enq⟩ := hI.2.1
  rw [enq] at hvq
  obtain ⟨eq, hq1, hq2⟩ := nbad hnq (by decide) hvq
  rw [← enq] at hvq
  obtain ⟨efq, hfq4, hfq16⟩ := hI.fr hq2 (by rw [enq]; exact nI_lt hq1 (by omega))
  refine z_if_ne C 17 dX5_string_12 (by decide) (fun c_12 => ?_) (fun c_12 => ?_)
  · refine z_aload_n C dX5_string_17 rfl ?_
    refine g_0_1 C wd141 dX5_string_18 ?_
    refine z_iload_n C dX5_string_21 rfl ?_
    refine a_2 C eq hq2 dX5_string_22 ?_
    refine z_aload_n C dX5_string_23 rfl ?_
    refine g_0_0 C wd140 dX5_string_24 ?_
    refine z_iload_n C dX5_string_27 rfl ?_
    refine a_1 C ep hp2 dX5_string_28 ?_
    refine g_11_0 hp2 C wd44 dX5_string_29 ?_
    refine z_iload_n C dX5_string_32 rfl ?_
    refine a_12 hp2 C ek (by omega) dX5_string_33 ?_
    refine z_aload_n C dX5_string_34 rfl ?_
    refine g_0_5 C wd145 dX5_string_35 ?_
    refine g_6_2 C wd124 dX5_string_38 ?_
    refine z_iload_n C dX5_string_41 rfl ?_
    refine a_9 C ek (by omega) dX5_string_42 ?_
    refine z_cvi C (As := [_, _]) (c_X1_lowestString hq2) okX1_lowestString wd411 (rc_13 hq2) (rok (by decide) (by decide)) ⟨Nat.le_of_ble_eq_true rfl, Nat.le_of_ble_eq_true rfl⟩ rfl (Nat.le_of_ble_eq_true rfl) dX5_string_43 ?_
    rintro r43 _ ⟨rfl, e43⟩
    refine y_ret (by decide) (by decide) ?_
    refine z_iret C dX5_string_46 ?_
    refine ⟨K_note_0 hrp hrk hvq, ?_, hsm⟩
    rcases hbq with ⟨h1, h2, h3, h4, h5⟩ | ⟨h1, h2⟩
    · unfold valT; rw [if_pos h2, e43, h5 _ hk1, hsm 12 (ix x) (ix y) (by decide) (by decide) (by decide) (by decide), show σ2 14 (ix z) = σ 14 (ix z) from funext fun a => hsm 14 (ix z) a (by decide) (by decide) (by decide) (by decide)]
    · exact absurd h1 c_12
  · refine z_iconst C (v := (-1)) dX5_string_15 (by decide) ?_
    refine y_ret (by decide) (by decide) ?_
    refine z_iret C dX5_string_16 ?_
    refine ⟨K_note_0 hrp hrk hvq, ?_, hsm⟩
    rcases hbq with ⟨h1, h2, h3, h4, h5⟩ | ⟨h1, h2⟩
    · rw [h1] at c_12; exact absurd c_12 (by decide)
    · unfold valT; rw [if_neg h2]
noncomputable def lsV (σ : St) (w : Int32) (j q : Nat) : Int32 := if σ 13 q 1 = w ∧ PL σ j q ∧ ¬ σ 15 (ix w) 0 < nI (HG σ j q) then nI (HG σ j q) else -1
theorem SameC.ePL {σ σ' : St} (h : SameC σ σ') (j q : Nat) : PL σ' j q = PL σ j q := by unfold PL BT; rw [h.PF, h.ecN]
theorem SameC.eHG {σ σ' : St} (h : SameC σ σ') (j q : Nat) : HG σ' j q = HG σ j q := by unfold HG; rw [h.PF, h.ecN]
theorem SameC.els {σ σ' : St} (h : SameC σ σ') (w : Int32) (j q : Nat) : lsV σ' w j q = lsV σ w j q := by
  unfold lsV
  have e1 := h.ePL j q
  have e2 := h.eHG j q
  have e3 := h 13 q 1 (by decide) (by decide) (by decide) (by decide)
  have e4 := h 15 (ix w) 0 (by decide) (by decide) (by decide) (by decide)
  by_cases c : σ 13 q 1 = w ∧ PL σ j q ∧ ¬ σ 15 (ix w) 0 < nI (HG σ j q)
  · rw [if_pos c, if_pos (by rw [e1, e2, e3, e4]; exact c), e2]
  · rw [if_neg c, if_neg (by rw [e1, e2, e3, e4]; exact c)]
set_option maxRecDepth 100000 in
set_option maxHeartbeats 4000000 in
theorem c_X5_learnableShift {l : Launch} {D : va_G} {ad : Nat → Nat → Nat} {cy : Nat → ClassId} {A : Nat → Prop} {sa : Nat → Nat} {σ : St} {w x y : Int32} (hI : Inv σ) (hw : w = nI (ix w)) (hw5 : ix w < 5) (hr2 : ¬ bad x (σ 0 0 6)) (hr7 : ¬ bad y (σ 0 0 7)) : MI l D ad cy A sa yX5_learnableShift cX5_learnableShift 5 (some .int) 6 σ [.ref (ad 0 0), .int w, .int x, .int y] (fun r σ' => SameC σ σ' ∧ r = lsV σ w (ix x) (ix y)) := by
  refine MI.mk "FretSchool" (by decide) rfl (Nat.le_of_ble_eq_true rfl) rfl ?_
  intro p e s m args below meth c C
  change Z _ _ _ _ _ _ _ _ _ _ _ _ _ _ _ _ _ _ _ [some (.ref (ad 0 0)), some (.int w), some (.int x), some (.int y), none] 0 []
  obtain ⟨np, hnp, enp⟩ := hI.1
  rw [enp] at hr2
  obtain ⟨ep, hp1, hp2⟩ := nbad hnp (by decide) hr2
  rw [← enp] at hr2
  obtain ⟨ecp, hcp⟩ := hI.2.2.2.1 (ix x) hp2
  obtain ⟨nq, hnq, enq⟩ := hI.2.1
  rw [enq] at hr7
  obtain ⟨eq, hq1, hq2⟩ := nbad hnq (by decide) hr7
  rw [← enq] at hr7
  obtain ⟨efq, hfq4, hfq16⟩ := hI.fr hq2 (by rw [enq]; exact nI_lt hq1 (by omega))
  refine z_aload_n C dX5_learnableShift_0 rfl ?_
  refine g_0_1 C wd141 dX5_learnableShift_1 ?_
  refine z_iload_n C dX5_learnableShift_4 rfl ?_
  refine a_2 C eq hq2 dX5_learnableShift_5 ?_
  refine z_astore C dX5_learnableShift_6 (by decide) ?_
  dsimp only [List.set]
  refine z_aload C dX5_learnableShift_8 rfl ?_
  refine g_13_1 hq2 C wd64 dX5_learnableShift_10 ?_
  refine z_iload_n C dX5_learnableShift_13 rfl ?_
  refine z_icmp_ne C 35 dX5_learnableShift_14 (by decide) (fun c_14 => ?_) (fun c_14 => ?_)
  · refine z_iconst C (v := (-1)) dX5_learnableShift_35 (by decide) ?_
    refine z_iret C dX5_learnableShift_36 ?_
    exact ⟨SameC.rf, by unfold lsV; rw [if_neg (fun q => c_14 q.1)]⟩
  · refine z_aload_n C dX5_learnableShift_17 rfl ?_
    refine g_0_5 C wd145 dX5_learnableShift_18 ?_
    refine z_aload_n C dX5_learnableShift_21 rfl ?_
    refine g_0_0 C wd140 dX5_learnableShift_22 ?_
    refine z_iload_n C dX5_learnableShift_25 rfl ?_
    refine a_1 C ep hp2 dX5_learnableShift_26 ?_
    refine z_aload C dX5_learnableShift_27 rfl ?_
    refine z_cvi C (As := [_, _]) (c_X0_placeBest hp2 hq2 ecp hcp efq hfq4 hfq16) okX0_placeBest wd293 rc_6 (rok (by decide) (by decide)) ⟨Nat.le_of_ble_eq_true rfl, Nat.le_of_ble_eq_true rfl⟩ rfl (Nat.le_of_ble_eq_true rfl) dX5_learnableShift_29 ?_
    rintro r29 σ2 ⟨hfr, hq29⟩
    have hsm : SameC σ σ2 := fun a b c0 h6 h7 h9 h10 => hfr a b c0 h6 h7 h9 h10
    have hbq : BestQ σ σ2 (ix x) (ix y) r29 := by
      rcases hq29 with ⟨h1, h2, h3, h4, h5, h6⟩ | ⟨h1, h2⟩
      · exact Or.inl ⟨h1, ⟨h2, h3⟩, h4, h5, h6⟩
      · exact Or.inr ⟨h1, fun h => h2.elim (fun q => absurd h.1 (Nat.not_lt.mpr (Nat.le_of_eq q))) (fun q => absurd h.2 (Nat.not_lt.mpr (Nat.le_of_eq q.symm)))⟩
    refine z_if_ne C 37 dX5_learnableShift_32 (by decide) (fun c_32 => ?_) (fun c_32 => ?_)
    · refine z_aload_n C dX5_learnableShift_37 rfl ?_
      refine g_0_5 C wd145 dX5_learnableShift_38 ?_
      refine g_6_4 C wd128 dX5_learnableShift_41 ?_
      refine z_aload_n C dX5_learnableShift_44 rfl ?_
      refine g_0_2 C wd142 dX5_learnableShift_45 ?_
      refine z_iload_n C dX5_learnableShift_48 rfl ?_
      refine a_3 C hw hw5 dX5_learnableShift_49 ?_
      refine g_15_0 hw5 C wd81 dX5_learnableShift_50 ?_
      refine z_icmp_gt C 66 dX5_learnableShift_53 (by decide) (fun c_53 => ?_) (fun c_53 => ?_)
      · refine z_iconst C (v := (-1)) dX5_learnableShift_66 (by decide) ?_
        refine z_iret C dX5_learnableShift_67 ?_
        refine ⟨hsm, ?_⟩
        rcases hbq with ⟨h1, h2, h3, h4, h5⟩ | ⟨h1, h2⟩
        · rw [h4, hsm 15 (ix w) 0 (by decide) (by decide) (by decide) (by decide)] at c_53
          unfold lsV
          rw [if_neg (fun q => q.2.2 c_53)]
        · exact absurd h1 c_32
      · refine z_aload_n C dX5_learnableShift_56 rfl ?_
        refine g_0_5 C wd145 dX5_learnableShift_57 ?_
        refine g_6_4 C wd128 dX5_learnableShift_60 ?_
        refine z_goto C 67 dX5_learnableShift_63 (by decide) ?_
        refine z_iret C dX5_learnableShift_67 ?_
        refine ⟨hsm, ?_⟩
        rcases hbq with ⟨h1, h2, h3, h4, h5⟩ | ⟨h1, h2⟩
        · rw [h4, hsm 15 (ix w) 0 (by decide) (by decide) (by decide) (by decide)] at c_53
          unfold lsV
          rw [if_pos ⟨c_14, h2, c_53⟩, h4]
        · exact absurd h1 c_32
    · refine z_iconst C (v := (-1)) dX5_learnableShift_35 (by decide) ?_
      refine z_iret C dX5_learnableShift_36 ?_
      refine ⟨hsm, ?_⟩
      rcases hbq with ⟨h1, h2, h3, h4, h5⟩ | ⟨h1, h2⟩
      · rw [h1] at c_32; exact absurd c_32 (by decide)
      · unfold lsV; rw [if_neg (fun q => h2 q.2.1)]
