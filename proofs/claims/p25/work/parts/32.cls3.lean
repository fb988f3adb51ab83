/-! ===== the class FretSchool: the rest ===== -/
noncomputable def K_pitch (σ : St) (p k : Int32) : Nat := by classical exact if bad p (σ 0 0 6) ∨ bad k (σ 11 (ix p) 1) then 1 else 0
noncomputable def K_inst (σ : St) (q : Int32) : Nat := by classical exact if bad q (σ 0 0 7) then 1 else 0
noncomputable def K_tune (σ : St) (q t x : Int32) : Nat := by classical exact if bad q (σ 0 0 7) then 1 else if outR t 0 3 ∨ outR x 0 60 then 2 else 0
noncomputable def K_pupil (w : Int32) : Nat := by classical exact if outR w 0 4 then 1 else 0
def canMv (σ : St) (j : Nat) (x : Int32) : Prop := ∀ k, k < cN σ j → okP (σ 12 j k + x)
noncomputable def K_trans (σ : St) (p x : Int32) : Nat := by classical exact if bad p (σ 0 0 6) then 1 else if outR x (-40) 40 then 2 else if ¬ canMv σ (ix p) x then 3 else 0
noncomputable def K_wood (w x : Int32) : Nat := by classical exact if outR w 0 3 ∨ outR x 1 20 then 1 else 0
noncomputable def K_ready (σ : St) (r : Int32) : Nat := by classical exact if bad r (σ 0 0 8) then 1 else 0
noncomputable def K_pass (σ : St) (x : Int32) : Nat := by classical exact if outR x 1 100 then 1 else if ¬ σ 0 0 9 + x ≤ 5000 then 2 else 0
set_option maxRecDepth 100000 in
set_option maxHeartbeats 4000000 in
theorem c_X5_pitch {l : Launch} {D : va_G} {ad : Nat → Nat → Nat} {cy : Nat → ClassId} {A : Nat → Prop} {sa : Nat → Nat} {σ : St} {x y : Int32} (hI : Inv σ) : XI l D ad cy A sa yX5_pitch cX5_pitch 3 (some .int) 2 2 σ [.ref (ad 0 0), .int x, .int y] (fun r σ' => K_pitch σ x y = 0 ∧ r = σ 12 (ix x) (ix y) ∧ σ = σ') (fun E u => σ = u ∧ pxK [IOOBE] (K_pitch σ x y) E) := by
  refine XI.mk "FretSchool" (by decide) rfl (Nat.le_of_ble_eq_true rfl) rfl ?_
  intro p e s m args below meth c C hex
  change Z _ _ _ _ _ _ _ _ _ _ _ _ _ _ _ _ _ _ _ [some (.ref (ad 0 0)), some (.int x), some (.int y)] 0 []
  refine z_aload_n C dX5_pitch_0 rfl ?_
  refine z_iload_n C dX5_pitch_1 rfl ?_
  refine z_iload_n C dX5_pitch_2 rfl ?_
  refine y_cvv C (As := [_, _]) (c_X5_needNote hI) okX5_needNote wd342 rc_0 (rok (by decide) (by decide)) ⟨Nat.le_of_ble_eq_true rfl, Nat.le_of_ble_eq_true rfl⟩ rfl (Nat.le_of_ble_eq_true rfl) dX5_pitch_3 (x_on C hex (by decide) (by decide) (fun E u h => ⟨h.1, by unfold K_pitch; rw [if_pos h.2.2]; exact ⟨by decide, congrArg some h.2.1.symm⟩⟩)) ?_
  rintro _ ⟨rfl, hrp, hrk⟩
  obtain ⟨np, hnp, enp⟩ := hI.1
  rw [enp] at hrp
  obtain ⟨ep, hp1, hp2⟩ := nbad hnp (by decide) hrp
  rw [← enp] at hrp
  obtain ⟨ecp, hcp⟩ := hI.2.2.2.1 (ix x) hp2
  rw [ecp] at hrk
  obtain ⟨ek, hk1, hk2⟩ := nbad hcp (by decide) hrk
  rw [← ecp] at hrk
  refine z_aload_n C dX5_pitch_6 rfl ?_
  refine g_0_0 C wd140 dX5_pitch_7 ?_
  refine z_iload_n C dX5_pitch_10 rfl ?_
  refine a_1 C ep hp2 dX5_pitch_11 ?_
  refine g_11_0 hp2 C wd44 dX5_pitch_12 ?_
  refine z_iload_n C dX5_pitch_15 rfl ?_
  refine a_12 hp2 C ek (by omega) dX5_pitch_16 ?_
  refine y_ret (by decide) (by decide) ?_
  refine z_iret C dX5_pitch_17 ?_
  exact ⟨by unfold K_pitch; rw [if_neg (fun h => h.elim hrp hrk)], rfl, rfl⟩
set_option maxRecDepth 100000 in
set_option maxHeartbeats 4000000 in
theorem c_X5_owner {l : Launch} {D : va_G} {ad : Nat → Nat → Nat} {cy : Nat → ClassId} {A : Nat → Prop} {sa : Nat → Nat} {σ : St} {x : Int32} (hI : Inv σ) : XI l D ad cy A sa yX5_owner cX5_owner 2 (some .int) 1 1 σ [.ref (ad 0 0), .int x] (fun r σ' => K_inst σ x = 0 ∧ r = σ 13 (ix x) 1 ∧ σ = σ') (fun E u => σ = u ∧ pxK [IOOBE] (K_inst σ x) E) := by
  refine XI.mk "FretSchool" (by decide) rfl (Nat.le_of_ble_eq_true rfl) rfl ?_
  intro p e s m args below meth c C hex
  change Z _ _ _ _ _ _ _ _ _ _ _ _ _ _ _ _ _ _ _ [some (.ref (ad 0 0)), some (.int x)] 0 []
  refine z_aload_n C dX5_owner_0 rfl ?_
  refine z_iload_n C dX5_owner_1 rfl ?_
  refine y_cvv C (As := [_]) (c_X5_needInstrument) okX5_needInstrument wd385 rc_0 (rok (by decide) (by decide)) ⟨Nat.le_of_ble_eq_true rfl, Nat.le_of_ble_eq_true rfl⟩ rfl (Nat.le_of_ble_eq_true rfl) dX5_owner_2 (x_on C hex (by decide) (by decide) (fun E u h => ⟨h.1, by unfold K_inst; rw [if_pos h.2.2]; exact ⟨by decide, congrArg some h.2.1.symm⟩⟩)) ?_
  rintro _ ⟨rfl, hr2⟩
  obtain ⟨nq, hnq, enq⟩ := hI.2.1
  rw [enq] at hr2
  obtain ⟨eq, hq1, hq2⟩ := nbad hnq (by decide) hr2
  rw [← enq] at hr2
  obtain ⟨efq, hfq4, hfq16⟩ := hI.fr hq2 (by rw [enq]; exact nI_lt hq1 (by omega))
  refine z_aload_n C dX5_owner_5 rfl ?_
  refine g_0_1 C wd141 dX5_owner_6 ?_
  refine z_iload_n C dX5_owner_9 rfl ?_
  refine a_2 C eq hq2 dX5_owner_10 ?_
  refine g_13_1 hq2 C wd64 dX5_owner_11 ?_
  refine y_ret (by decide) (by decide) ?_
  refine z_iret C dX5_owner_14 ?_
  exact ⟨by unfold K_inst; rw [if_neg hr2], rfl, rfl⟩
set_option maxRecDepth 100000 in
set_option maxHeartbeats 4000000 in
theorem c_X5_instruments {l : Launch} {D : va_G} {ad : Nat → Nat → Nat} {cy : Nat → ClassId} {A : Nat → Prop} {sa : Nat → Nat} {σ : St} : MI l D ad cy A sa yX5_instruments cX5_instruments 1 (some .int) 0 σ [.ref (ad 0 0)] (fun r σ' => r = σ 0 0 7 ∧ σ = σ') := by
  refine MI.mk "FretSchool" (by decide) rfl (Nat.le_of_ble_eq_true rfl) rfl ?_
  intro p e s m args below meth c C
  change Z _ _ _ _ _ _ _ _ _ _ _ _ _ _ _ _ _ _ _ [some (.ref (ad 0 0))] 0 []
  refine z_aload_n C dX5_instruments_0 rfl ?_
  refine g_0_7 C wd147 dX5_instruments_1 ?_
  refine z_iret C dX5_instruments_4 ?_
  exact ⟨rfl, rfl⟩
set_option maxRecDepth 100000 in
set_option maxHeartbeats 4000000 in
theorem c_X5_today {l : Launch} {D : va_G} {ad : Nat → Nat → Nat} {cy : Nat → ClassId} {A : Nat → Prop} {sa : Nat → Nat} {σ : St} : MI l D ad cy A sa yX5_today cX5_today 1 (some .int) 0 σ [.ref (ad 0 0)] (fun r σ' => r = σ 0 0 9 ∧ σ = σ') := by
  refine MI.mk "FretSchool" (by decide) rfl (Nat.le_of_ble_eq_true rfl) rfl ?_
  intro p e s m args below meth c C
  change Z _ _ _ _ _ _ _ _ _ _ _ _ _ _ _ _ _ _ _ [some (.ref (ad 0 0))] 0 []
  refine z_aload_n C dX5_today_0 rfl ?_
  refine g_0_9 C wd149 dX5_today_1 ?_
  refine z_iret C dX5_today_4 ?_
  exact ⟨rfl, rfl⟩
set_option maxRecDepth 100000 in
set_option maxHeartbeats 4000000 in
theorem c_X5_tune {l : Launch} {D : va_G} {ad : Nat → Nat → Nat} {cy : Nat → ClassId} {A : Nat → Prop} {sa : Nat → Nat} {σ : St} {x y z : Int32} (hI : Inv σ) : XI l D ad cy A sa yX5_tune cX5_tune 6 (some .int) 1 3 σ [.ref (ad 0 0), .int x, .int y, .int z] (fun r σ' => K_tune σ x y z = 0 ∧ r = σ 14 (ix x) (ix y) ∧ up σ 14 (ix x) (ix y) z = σ') (fun E u => σ = u ∧ pxK [IOOBE, IAE] (K_tune σ x y z) E) := by
  refine XI.mk "FretSchool" (by decide) rfl (Nat.le_of_ble_eq_true rfl) rfl ?_
  intro p e s m args below meth c C hex
  change Z _ _ _ _ _ _ _ _ _ _ _ _ _ _ _ _ _ _ _ [some (.ref (ad 0 0)), some (.int x), some (.int y), some (.int z), none, none] 0 []
  refine z_aload_n C dX5_tune_0 rfl ?_
  refine z_iload_n C dX5_tune_1 rfl ?_
  refine y_cvv C (As := [_]) (c_X5_needInstrument) okX5_needInstrument wd385 rc_0 (rok (by decide) (by decide)) ⟨Nat.le_of_ble_eq_true rfl, Nat.le_of_ble_eq_true rfl⟩ rfl (Nat.le_of_ble_eq_true rfl) dX5_tune_2 (x_on C hex (by decide) (by decide) (fun E u h => ⟨h.1, by unfold K_tune; rw [if_pos h.2.2]; exact ⟨by decide, congrArg some h.2.1.symm⟩⟩)) ?_
  rintro _ ⟨rfl, hr2⟩
  obtain ⟨nq, hnq, enq⟩ := hI.2.1
  rw [enq] at hr2
  obtain ⟨eq, hq1, hq2⟩ := nbad hnq (by decide) hr2
  rw [← enq] at hr2
  obtain ⟨efq, hfq4, hfq16⟩ := hI.fr hq2 (by rw [enq]; exact nI_lt hq1 (by omega))
  refine z_iload_n C dX5_tune_5 rfl ?_
  refine z_iconst C (v := 0) dX5_tune_6 (by decide) ?_
  refine z_iconst C (v := 3) dX5_tune_7 (by decide) ?_
  refine y_csv C (As := [_, _, _]) (c_X5_needRange) okX5_needRange wd195 (rok (by decide) (by decide)) ⟨Nat.le_of_ble_eq_true rfl, Nat.le_of_ble_eq_true rfl⟩ rfl (Nat.le_of_ble_eq_true rfl) dX5_tune_8 (x_on C hex (by decide) (by decide) (fun E u h => ⟨h.1, by unfold K_tune; rw [if_neg hr2, if_pos (Or.inl h.2.2)]; exact ⟨by decide, congrArg some h.2.1.symm⟩⟩)) ?_
  rintro _ ⟨rfl, hr8⟩
  obtain ⟨et, ht3⟩ := nout (n := 3) (by decide) hr8
  refine z_iload_n C dX5_tune_11 rfl ?_
  refine z_iconst C (v := 0) dX5_tune_12 (by decide) ?_
  refine z_bipush C (v := 60) dX5_tune_13 (by decide) ?_
  refine y_csv C (As := [_, _, _]) (c_X5_needRange) okX5_needRange wd195 (rok (by decide) (by decide)) ⟨Nat.le_of_ble_eq_true rfl, Nat.le_of_ble_eq_true rfl⟩ rfl (Nat.le_of_ble_eq_true rfl) dX5_tune_15 (x_on C hex (by decide) (by decide) (fun E u h => ⟨h.1, by unfold K_tune; rw [if_neg hr2, if_pos (Or.inr h.2.2)]; exact ⟨by decide, congrArg some h.2.1.symm⟩⟩)) ?_
  rintro _ ⟨rfl, hr15⟩
  refine z_aload_n C dX5_tune_18 rfl ?_
  refine g_0_1 C wd141 dX5_tune_19 ?_
  refine z_iload_n C dX5_tune_22 rfl ?_
  refine a_2 C eq hq2 dX5_tune_23 ?_
  refine g_13_0 hq2 C wd62 dX5_tune_24 ?_
  refine z_astore C dX5_tune_27 (by decide) ?_
  dsimp only [List.set]
  refine z_aload C dX5_tune_29 rfl ?_
  refine z_iload_n C dX5_tune_31 rfl ?_
  refine a_14 hq2 C et (by omega) dX5_tune_32 ?_
  refine z_istore C dX5_tune_33 (by decide) ?_
  dsimp only [List.set]
  refine z_aload C dX5_tune_35 rfl ?_
  refine z_iload_n C dX5_tune_37 rfl ?_
  refine z_iload_n C dX5_tune_38 rfl ?_
  refine s_14 hq2 C et (by omega) dX5_tune_39 ?_
  refine z_iload C dX5_tune_40 rfl ?_
  refine y_ret (by decide) (by decide) ?_
  refine z_iret C dX5_tune_42 ?_
  exact ⟨by unfold K_tune; rw [if_neg hr2, if_neg (fun h => h.elim hr8 hr15)], rfl, rfl⟩
set_option maxRecDepth 100000 in
set_option maxHeartbeats 4000000 in
theorem c_X5_level {l : Launch} {D : va_G} {ad : Nat → Nat → Nat} {cy : Nat → ClassId} {A : Nat → Prop} {sa : Nat → Nat} {σ : St} {x : Int32} : XI l D ad cy A sa yX5_level cX5_level 2 (some .int) 2 1 σ [.ref (ad 0 0), .int x] (fun r σ' => K_pupil x = 0 ∧ r = σ 15 (ix x) 0 ∧ σ = σ') (fun E u => σ = u ∧ pxK [IAE] (K_pupil x) E) := by
  refine XI.mk "FretSchool" (by decide) rfl (Nat.le_of_ble_eq_true rfl) rfl ?_
  intro p e s m args below meth c C hex
  change Z _ _ _ _ _ _ _ _ _ _ _ _ _ _ _ _ _ _ _ [some (.ref (ad 0 0)), some (.int x)] 0 []
  refine z_iload_n C dX5_level_0 rfl ?_
  refine y_csv C (As := [_]) (c_X5_needPupil) okX5_needPupil wd192 (rok (by decide) (by decide)) ⟨Nat.le_of_ble_eq_true rfl, Nat.le_of_ble_eq_true rfl⟩ rfl (Nat.le_of_ble_eq_true rfl) dX5_level_1 (x_on C hex (by decide) (by decide) (fun E u h => ⟨h.1, by unfold K_pupil; rw [if_pos h.2.2]; exact ⟨by decide, congrArg some h.2.1.symm⟩⟩)) ?_
  rintro _ ⟨rfl, hr1⟩
  obtain ⟨ew, hw4⟩ := nout (n := 4) (by decide) hr1
  have hw5 : ix x < 5 := by omega
  refine z_aload_n C dX5_level_4 rfl ?_
  refine g_0_2 C wd142 dX5_level_5 ?_
  refine z_iload_n C dX5_level_8 rfl ?_
  refine a_3 C ew hw5 dX5_level_9 ?_
  refine g_15_0 hw5 C wd81 dX5_level_10 ?_
  refine y_ret (by decide) (by decide) ?_
  refine z_iret C dX5_level_13 ?_
  exact ⟨by unfold K_pupil; rw [if_neg hr1], rfl, rfl⟩
set_option maxRecDepth 100000 in
set_option maxHeartbeats 4000000 in
theorem c_X5_known {l : Launch} {D : va_G} {ad : Nat → Nat → Nat} {cy : Nat → ClassId} {A : Nat → Prop} {sa : Nat → Nat} {σ : St} {x : Int32} : XI l D ad cy A sa yX5_known cX5_known 2 (some .int) 2 1 σ [.ref (ad 0 0), .int x] (fun r σ' => K_pupil x = 0 ∧ r = σ 15 (ix x) 1 ∧ σ = σ') (fun E u => σ = u ∧ pxK [IAE] (K_pupil x) E) := by
  refine XI.mk "FretSchool" (by decide) rfl (Nat.le_of_ble_eq_true rfl) rfl ?_
  intro p e s m args below meth c C hex
  change Z _ _ _ _ _ _ _ _ _ _ _ _ _ _ _ _ _ _ _ [some (.ref (ad 0 0)), some (.int x)] 0 []
  refine z_iload_n C dX5_known_0 rfl ?_
  refine y_csv C (As := [_]) (c_X5_needPupil) okX5_needPupil wd192 (rok (by decide) (by decide)) ⟨Nat.le_of_ble_eq_true rfl, Nat.le_of_ble_eq_true rfl⟩ rfl (Nat.le_of_ble_eq_true rfl) dX5_known_1 (x_on C hex (by decide) (by decide) (fun E u h => ⟨h.1, by unfold K_pupil; rw [if_pos h.2.2]; exact ⟨by decide, congrArg some h.2.1.symm⟩⟩)) ?_
  rintro _ ⟨rfl, hr1⟩
  obtain ⟨ew, hw4⟩ := nout (n := 4) (by decide) hr1
  have hw5 : ix x < 5 := by omega
  refine z_aload_n C dX5_known_4 rfl ?_
  refine g_0_2 C wd142 dX5_known_5 ?_
  refine z_iload_n C dX5_known_8 rfl ?_
  refine a_3 C ew hw5 dX5_known_9 ?_
  refine g_15_1 hw5 C wd83 dX5_known_10 ?_
  refine y_ret (by decide) (by decide) ?_
  refine z_iret C dX5_known_13 ?_
  exact ⟨by unfold K_pupil; rw [if_neg hr1], rfl, rfl⟩
set_option maxRecDepth 100000 in
set_option maxHeartbeats 4000000 in
theorem c_X5_transpose {l : Launch} {D : va_G} {ad : Nat → Nat → Nat} {cy : Nat → ClassId} {A : Nat → Prop} {sa : Nat → Nat} {σ : St} {x y : Int32} (hI : Inv σ) : XV l D ad cy A sa yX5_transpose cX5_transpose 4 (none : Option Jvm.ClassFile.FieldType) 1 3 σ [.ref (ad 0 0), .int x, .int y] (fun σ' => K_trans σ x y = 0 ∧ mvd σ (ix x) y (cN σ (ix x)) = σ') (fun E u => σ = u ∧ pxK [IOOBE, IAE, ISE] (K_trans σ x y) E) := by
  refine XV.mk "FretSchool" (by decide) rfl (Nat.le_of_ble_eq_true rfl) rfl ?_
  intro p e s m args below meth c C hex
  change Z _ _ _ _ _ _ _ _ _ _ _ _ _ _ _ _ _ _ _ [some (.ref (ad 0 0)), some (.int x), some (.int y), none] 0 []
  refine z_aload_n C dX5_transpose_0 rfl ?_
  refine z_iload_n C dX5_transpose_1 rfl ?_
  refine y_cvv C (As := [_]) (c_X5_needPiece) okX5_needPiece wd346 rc_0 (rok (by decide) (by decide)) ⟨Nat.le_of_ble_eq_true rfl, Nat.le_of_ble_eq_true rfl⟩ rfl (Nat.le_of_ble_eq_true rfl) dX5_transpose_2 (x_on C hex (by decide) (by decide) (fun E u h => ⟨h.1, by unfold K_trans; rw [if_pos h.2.2]; exact ⟨by decide, congrArg some h.2.1.symm⟩⟩)) ?_
  rintro _ ⟨rfl, hr2⟩
  obtain ⟨np, hnp, enp⟩ := hI.1
  rw [enp] at hr2
  obtain ⟨ep, hp1, hp2⟩ := nbad hnp (by decide) hr2
  rw [← enp] at hr2
  obtain ⟨ecp, hcp⟩ := hI.2.2.2.1 (ix x) hp2
  refine z_iload_n C dX5_transpose_5 rfl ?_
  refine z_bipush C (v := (-40)) dX5_transpose_6 (by decide) ?_
  refine z_bipush C (v := 40) dX5_transpose_8 (by decide) ?_
  refine y_csv C (As := [_, _, _]) (c_X5_needRange) okX5_needRange wd195 (rok (by decide) (by decide)) ⟨Nat.le_of_ble_eq_true rfl, Nat.le_of_ble_eq_true rfl⟩ rfl (Nat.le_of_ble_eq_true rfl) dX5_transpose_10 (x_on C hex (by decide) (by decide) (fun E u h => ⟨h.1, by unfold K_trans; rw [if_neg hr2, if_pos h.2.2]; exact ⟨by decide, congrArg some h.2.1.symm⟩⟩)) ?_
  rintro _ ⟨rfl, hr10⟩
  refine z_aload_n C dX5_transpose_13 rfl ?_
  refine g_0_0 C wd140 dX5_transpose_14 ?_
  refine z_iload_n C dX5_transpose_17 rfl ?_
  refine a_1 C ep hp2 dX5_transpose_18 ?_
  refine z_astore_n C dX5_transpose_19 (by decide) ?_
  dsimp only [List.set]
  refine z_aload_n C dX5_transpose_20 rfl ?_
  refine z_iload_n C dX5_transpose_21 rfl ?_
  refine z_cvi C (As := [_]) (c_X3_canMove hp2 ecp hcp) okX3_canMove wd486 (rc_11 hp2) (rok (by decide) (by decide)) ⟨Nat.le_of_ble_eq_true rfl, Nat.le_of_ble_eq_true rfl⟩ rfl (Nat.le_of_ble_eq_true rfl) dX5_transpose_22 ?_
  rintro r22 _ ⟨rfl, hc22⟩
  refine z_if_ne C 38 dX5_transpose_25 (by decide) (fun c_25 => ?_) (fun c_25 => ?_)
  · have hcan : canMv σ (ix x) y := hc22.elim (fun h => h.2) (fun h => absurd h.1 c_25)
    refine z_aload_n C dX5_transpose_38 rfl ?_
    refine z_iload_n C dX5_transpose_39 rfl ?_
    refine z_cvv C (As := [_]) (c_X3_move hp2 ecp hcp) okX3_move wd491 (rc_11 hp2) (rok (by decide) (by decide)) ⟨Nat.le_of_ble_eq_true rfl, Nat.le_of_ble_eq_true rfl⟩ rfl (Nat.le_of_ble_eq_true rfl) dX5_transpose_40 ?_
    rintro _ rfl
    refine y_ret (by decide) (by decide) ?_
    refine z_vret C dX5_transpose_43 ?_
    exact ⟨by unfold K_trans; rw [if_neg hr2, if_neg hr10, if_neg (fun h => h hcan)], rfl⟩
  · have hcan : ¬ canMv σ (ix x) y := hc22.elim (fun h => absurd (h.1.symm.trans c_25) (by decide)) (fun h q => by obtain ⟨k, hk, hn⟩ := h.2; exact hn (q k hk))
    refine y_ise C hex (tx := "some pitch would not be from 0 to 80") (List.mem_of_getElem? (i := 4) rfl) dX5_transpose_28 dX5_transpose_31 dX5_transpose_32 dX5_transpose_34 dX5_transpose_37 ⟨Nat.le_of_ble_eq_true rfl, Nat.le_of_ble_eq_true rfl⟩ (by decide) (by decide) ?_
    exact ⟨rfl, by unfold K_trans; rw [if_neg hr2, if_neg hr10, if_pos hcan]; exact ⟨by decide, rfl⟩⟩
set_option maxRecDepth 100000 in
set_option maxHeartbeats 4000000 in
theorem c_X5_addWood {l : Launch} {D : va_G} {ad : Nat → Nat → Nat} {cy : Nat → ClassId} {A : Nat → Prop} {sa : Nat → Nat} {σ : St} {x y : Int32} : XI l D ad cy A sa yX5_addWood cX5_addWood 3 (some .int) 1 2 σ [.ref (ad 0 0), .int x, .int y] (fun r σ' => K_wood x y = 0 ∧ r = σ 5 0 (ix x) + y ∧ up σ 5 0 (ix x) (σ 5 0 (ix x) + y) = σ') (fun E u => σ = u ∧ pxK [IAE] (K_wood x y) E) := by
  refine XI.mk "FretSchool" (by decide) rfl (Nat.le_of_ble_eq_true rfl) rfl ?_
  intro p e s m args below meth c C hex
  change Z _ _ _ _ _ _ _ _ _ _ _ _ _ _ _ _ _ _ _ [some (.ref (ad 0 0)), some (.int x), some (.int y)] 0 []
  refine z_iload_n C dX5_addWood_0 rfl ?_
  refine z_iconst C (v := 0) dX5_addWood_1 (by decide) ?_
  refine z_iconst C (v := 3) dX5_addWood_2 (by decide) ?_
  refine y_csv C (As := [_, _, _]) (c_X5_needRange) okX5_needRange wd195 (rok (by decide) (by decide)) ⟨Nat.le_of_ble_eq_true rfl, Nat.le_of_ble_eq_true rfl⟩ rfl (Nat.le_of_ble_eq_true rfl) dX5_addWood_3 (x_on C hex (by decide) (by decide) (fun E u h => ⟨h.1, by unfold K_wood; rw [if_pos (Or.inl h.2.2)]; exact ⟨by decide, congrArg some h.2.1.symm⟩⟩)) ?_
  rintro _ ⟨rfl, hr3⟩
  obtain ⟨et, ht3⟩ := nout (n := 3) (by decide) hr3
  refine z_iload_n C dX5_addWood_6 rfl ?_
  refine z_iconst C (v := 1) dX5_addWood_7 (by decide) ?_
  refine z_bipush C (v := 20) dX5_addWood_8 (by decide) ?_
  refine y_csv C (As := [_, _, _]) (c_X5_needRange) okX5_needRange wd195 (rok (by decide) (by decide)) ⟨Nat.le_of_ble_eq_true rfl, Nat.le_of_ble_eq_true rfl⟩ rfl (Nat.le_of_ble_eq_true rfl) dX5_addWood_10 (x_on C hex (by decide) (by decide) (fun E u h => ⟨h.1, by unfold K_wood; rw [if_pos (Or.inr h.2.2)]; exact ⟨by decide, congrArg some h.2.1.symm⟩⟩)) ?_
  rintro _ ⟨rfl, hr10⟩
  refine z_aload_n C dX5_addWood_13 rfl ?_
  refine g_0_4 C wd144 dX5_addWood_14 ?_
  refine z_iload_n C dX5_addWood_17 rfl ?_
  refine z_dup2 C dX5_addWood_18 rfl rfl ?_
  refine a_5 C et (by omega) dX5_addWood_19 ?_
  refine z_iload_n C dX5_addWood_20 rfl ?_
  refine z_iadd C dX5_addWood_21 ?_
  refine s_5 C et (by omega) dX5_addWood_22 ?_
  refine z_aload_n C dX5_addWood_23 rfl ?_
  refine g_0_4 C wd144 dX5_addWood_24 ?_
  refine z_iload_n C dX5_addWood_27 rfl ?_
  refine a_5 C et (by omega) dX5_addWood_28 ?_
  refine y_ret (by decide) (by decide) ?_
  refine z_iret C dX5_addWood_29 ?_
  exact ⟨by unfold K_wood; rw [if_neg (fun h => h.elim hr3 hr10)], by rw [up_app, if_pos ⟨rfl, rfl, rfl⟩], rfl⟩
set_option maxRecDepth 100000 in
set_option maxHeartbeats 4000000 in
theorem c_X5_ready {l : Launch} {D : va_G} {ad : Nat → Nat → Nat} {cy : Nat → ClassId} {A : Nat → Prop} {sa : Nat → Nat} {σ : St} {x : Int32} (hI : Inv σ) : XI l D ad cy A sa yX5_ready cX5_ready 2 (some .int) 1 1 σ [.ref (ad 0 0), .int x] (fun r σ' => K_ready σ x = 0 ∧ r = σ 16 (ix x) 2 ∧ σ = σ') (fun E u => σ = u ∧ pxK [IOOBE] (K_ready σ x) E) := by
  refine XI.mk "FretSchool" (by decide) rfl (Nat.le_of_ble_eq_true rfl) rfl ?_
  intro p e s m args below meth c C hex
  change Z _ _ _ _ _ _ _ _ _ _ _ _ _ _ _ _ _ _ _ [some (.ref (ad 0 0)), some (.int x)] 0 []
  refine z_aload_n C dX5_ready_0 rfl ?_
  refine z_iload_n C dX5_ready_1 rfl ?_
  refine y_cvv C (As := [_]) (c_X5_needOrder) okX5_needOrder wd512 rc_0 (rok (by decide) (by decide)) ⟨Nat.le_of_ble_eq_true rfl, Nat.le_of_ble_eq_true rfl⟩ rfl (Nat.le_of_ble_eq_true rfl) dX5_ready_2 (x_on C hex (by decide) (by decide) (fun E u h => ⟨h.1, by unfold K_ready; rw [if_pos h.2.2]; exact ⟨by decide, congrArg some h.2.1.symm⟩⟩)) ?_
  rintro _ ⟨rfl, hr2⟩
  obtain ⟨no, hno, eno⟩ := hI.2.2.1
  rw [eno] at hr2
  obtain ⟨eo, ho1, ho2⟩ := nbad hno (by decide) hr2
  rw [← eno] at hr2
  refine z_aload_n C dX5_ready_5 rfl ?_
  refine g_0_3 C wd143 dX5_ready_6 ?_
  refine z_iload_n C dX5_ready_9 rfl ?_
  refine a_4 C eo ho2 dX5_ready_10 ?_
  refine g_16_2 ho2 C wd101 dX5_ready_11 ?_
  refine y_ret (by decide) (by decide) ?_
  refine z_iret C dX5_ready_14 ?_
  exact ⟨by unfold K_ready; rw [if_neg hr2], rfl, rfl⟩
set_option maxRecDepth 100000 in
set_option maxHeartbeats 4000000 in
theorem c_X5_pass {l : Launch} {D : va_G} {ad : Nat → Nat → Nat} {cy : Nat → ClassId} {A : Nat → Prop} {sa : Nat → Nat} {σ : St} {x : Int32} : XI l D ad cy A sa yX5_pass cX5_pass 2 (some .int) 1 2 σ [.ref (ad 0 0), .int x] (fun r σ' => K_pass σ x = 0 ∧ r = σ 0 0 9 + x ∧ up σ 0 0 9 (σ 0 0 9 + x) = σ') (fun E u => σ = u ∧ pxK [IAE, ISE] (K_pass σ x) E) := by
  refine XI.mk "FretSchool" (by decide) rfl (Nat.le_of_ble_eq_true rfl) rfl ?_
  intro p e s m args below meth c C hex
  change Z _ _ _ _ _ _ _ _ _ _ _ _ _ _ _ _ _ _ _ [some (.ref (ad 0 0)), some (.int x)] 0 []
  refine z_iload_n C dX5_pass_0 rfl ?_
  refine z_iconst C (v := 1) dX5_pass_1 (by decide) ?_
  refine z_bipush C (v := 100) dX5_pass_2 (by decide) ?_
  refine y_csv C (As := [_, _, _]) (c_X5_needRange) okX5_needRange wd195 (rok (by decide) (by decide)) ⟨Nat.le_of_ble_eq_true rfl, Nat.le_of_ble_eq_true rfl⟩ rfl (Nat.le_of_ble_eq_true rfl) dX5_pass_4 (x_on C hex (by decide) (by decide) (fun E u h => ⟨h.1, by unfold K_pass; rw [if_pos h.2.2]; exact ⟨by decide, congrArg some h.2.1.symm⟩⟩)) ?_
  rintro _ ⟨rfl, hr4⟩
  refine z_aload_n C dX5_pass_7 rfl ?_
  refine g_0_9 C wd149 dX5_pass_8 ?_
  refine z_iload_n C dX5_pass_11 rfl ?_
  refine z_iadd C dX5_pass_12 ?_
  refine z_sipush C (v := 5000) dX5_pass_13 (by decide) ?_
  refine z_icmp_le C 29 dX5_pass_16 (by decide) (fun c_16 => ?_) (fun c_16 => ?_)
  · refine z_aload_n C dX5_pass_29 rfl ?_
    refine z_dup C dX5_pass_30 rfl ?_
    refine g_0_9 C wd149 dX5_pass_31 ?_
    refine z_iload_n C dX5_pass_34 rfl ?_
    refine z_iadd C dX5_pass_35 ?_
    refine p_0_9 C wd149 dX5_pass_36 ?_
    refine z_aload_n C dX5_pass_39 rfl ?_
    refine g_0_9 C wd149 dX5_pass_40 ?_
    refine y_ret (by decide) (by decide) ?_
    refine z_iret C dX5_pass_43 ?_
    exact ⟨by unfold K_pass; rw [if_neg hr4, if_neg (fun h => h c_16)], by rw [up_app, if_pos ⟨rfl, rfl, rfl⟩], rfl⟩
  · refine y_ise C hex (tx := "today would be above 5000") (List.mem_of_getElem? (i := 17) rfl) dX5_pass_19 dX5_pass_22 dX5_pass_23 dX5_pass_25 dX5_pass_28 ⟨Nat.le_of_ble_eq_true rfl, Nat.le_of_ble_eq_true rfl⟩ (by decide) (by decide) ?_
    exact ⟨rfl, by unfold K_pass; rw [if_neg hr4, if_pos c_16]; exact ⟨by decide, rfl⟩⟩
def awV (σ : St) : Nat → Int32
  | 0 => 0
  | k + 1 => if σ 16 k 3 = 0 ∧ σ 0 0 9 < σ 16 k 2 then awV σ k + 1 else awV σ k
section
variable {p : Program} {l : Launch} {e : Env} {R : Room} {s : State} {m : MethodId} {args : Array Value} {below : List Frame} {meth : Method} {c : Code} {D : va_G} {ad : Nat → Nat → Nat} {cy : Nat → ClassId} {A : Nat → Prop} {sa : Nat → Nat} {cells slots : Nat} {σ : St}
set_option maxRecDepth 100000 in
set_option maxHeartbeats 4000000 in
theorem lp_X5_ordersAtWork (C : Cx p l s m args meth c cX5_ordersAtWork "FretSchool" 3 (some .int) D ad cy A sa) {n : Nat} (hn : σ 0 0 8 = nI n) (hn20 : n ≤ 20) : ∀ (f j : Nat) (x1 x2 : Int32), x2 = nI j → x1 = awV σ j → j ≤ n → n < j + f → Z p l e (rmD 1 0) s m args below meth c D ad cy A 3 0 0 (MQ below (va_Qi (fun r σ' => r = awV σ n ∧ σ = σ') (Bw D ad cy) A) args s 0 0 A) σ [some (.ref (ad 0 0)), some (.int x1), some (.int x2)] 4 [] := by
  intro f
  induction f with
  | zero => intro j x1 x2 _ _ _ h; exact absurd h (by omega)
  | succ f ih =>
    intro j x1 x2 e2 e1 hj hf
    refine z_iload_n C dX5_ordersAtWork_4 rfl ?_
    refine z_aload_n C dX5_ordersAtWork_5 rfl ?_
    refine g_0_8 C wd148 dX5_ordersAtWork_6 ?_
    refine z_icmp_ge C 49 dX5_ordersAtWork_9 (by decide) (fun c_9 => ?_) (fun c_9 => ?_)
    · have hjn : n ≤ j := by rw [hn, e2, nI_leI (by omega) (by omega)] at c_9; exact c_9
      refine z_iload_n C dX5_ordersAtWork_49 rfl ?_
      refine z_iret C dX5_ordersAtWork_50 ?_
      exact ⟨by rw [e1, show j = n by omega], rfl⟩
    · have hjn : j < n := by rw [hn, e2, nI_leI (by omega) (by omega)] at c_9; omega
      refine z_aload_n C dX5_ordersAtWork_12 rfl ?_
      refine g_0_3 C wd143 dX5_ordersAtWork_13 ?_
      refine z_iload_n C dX5_ordersAtWork_16 rfl ?_
      refine a_4 C e2 (by omega) dX5_ordersAtWork_17 ?_
      refine g_16_3 (by first | assumption | omega) C wd103 dX5_ordersAtWork_18 ?_
      refine z_if_ne C 43 dX5_ordersAtWork_21 (by decide) (fun c_21 => ?_) (fun c_21 => ?_)
      · refine z_iinc C (v := 1) dX5_ordersAtWork_43 rfl (by decide) (by decide) ?_
        dsimp only [List.set]
        refine z_goto C 4 dX5_ordersAtWork_46 (by decide) ?_
        exact ih (j + 1) _ _ (by rw [e2]; exact nI_1 j) (by show _ = if _ then _ else _; rw [if_neg (fun q => c_21 q.1)]; exact e1) (by omega) (by omega)
      · refine z_aload_n C dX5_ordersAtWork_24 rfl ?_
        refine g_0_3 C wd143 dX5_ordersAtWork_25 ?_
        refine z_iload_n C dX5_ordersAtWork_28 rfl ?_
        refine a_4 C e2 (by omega) dX5_ordersAtWork_29 ?_
        refine z_aload_n C dX5_ordersAtWork_30 rfl ?_
        refine g_0_9 C wd149 dX5_ordersAtWork_31 ?_
        refine z_cvi C (As := [_]) (c_X2_isReady (by omega)) okX2_isReady wd529 (rc_16 (by first | assumption | omega)) (rok (by decide) (by decide)) ⟨Nat.le_of_ble_eq_true rfl, Nat.le_of_ble_eq_true rfl⟩ rfl (Nat.le_of_ble_eq_true rfl) dX5_ordersAtWork_34 ?_
        rintro r34 _ ⟨e34, rfl⟩
        refine z_if_ne C 43 dX5_ordersAtWork_37 (by decide) (fun c_37 => ?_) (fun c_37 => ?_)
        · refine z_iinc C (v := 1) dX5_ordersAtWork_43 rfl (by decide) (by decide) ?_
          dsimp only [List.set]
          refine z_goto C 4 dX5_ordersAtWork_46 (by decide) ?_
          exact ih (j + 1) _ _ (by rw [e2]; exact nI_1 j) (by show _ = if _ then _ else _; rw [if_neg (fun q => c_37 (by rw [e34, if_pos q.2]))]; exact e1) (by omega) (by omega)
        · refine z_iinc C (v := 1) dX5_ordersAtWork_40 rfl (by decide) (by decide) ?_
          dsimp only [List.set]
          refine z_iinc C (v := 1) dX5_ordersAtWork_43 rfl (by decide) (by decide) ?_
          dsimp only [List.set]
          refine z_goto C 4 dX5_ordersAtWork_46 (by decide) ?_
          exact ih (j + 1) _ _ (by rw [e2]; exact nI_1 j) (by show _ = if _ then _ else _; rw [if_pos ⟨c_21, Classical.byContradiction fun q => absurd (by rw [e34, if_neg q] at c_37; exact c_37) (by decide)⟩, e1]) (by omega) (by omega)
end
set_option maxRecDepth 100000 in
set_option maxHeartbeats 4000000 in
theorem c_X5_ordersAtWork {l : Launch} {D : va_G} {ad : Nat → Nat → Nat} {cy : Nat → ClassId} {A : Nat → Prop} {sa : Nat → Nat} {σ : St} {n : Nat} (hn : σ 0 0 8 = nI n) (hn20 : n ≤ 20) : MI l D ad cy A sa yX5_ordersAtWork cX5_ordersAtWork 3 (some .int) 1 σ [.ref (ad 0 0)] (fun r σ' => r = awV σ n ∧ σ = σ') := by
  refine MI.mk "FretSchool" (by decide) rfl (Nat.le_of_ble_eq_true rfl) rfl ?_
  intro p e s m args below meth c C
  change Z _ _ _ _ _ _ _ _ _ _ _ _ _ _ _ _ _ _ _ [some (.ref (ad 0 0)), none, none] 0 []
  refine z_iconst C (v := 0) dX5_ordersAtWork_0 (by decide) ?_
  refine z_istore_n C dX5_ordersAtWork_1 (by decide) ?_
  dsimp only [List.set]
  refine z_iconst C (v := 0) dX5_ordersAtWork_2 (by decide) ?_
  refine z_istore_n C dX5_ordersAtWork_3 (by decide) ?_
  dsimp only [List.set]
  exact lp_X5_ordersAtWork C hn hn20 (n + 1) 0 _ _ nI_0.symm rfl (by omega) (by omega)
noncomputable def K_order (σ : St) (w t x : Int32) : Nat := by classical exact if outR w 0 4 ∨ outR t 0 3 ∨ outR x 4 16 then 1 else if ¬ 3 ≤ σ 5 0 (ix t) ∨ ¬ awV σ (ix (σ 0 0 8)) < 2 ∨ ¬ σ 0 0 8 < 20 then 2 else 0
def orderS (σ : St) (n : Nat) (w t x : Int32) : St := up (up (up (up (up σ 5 0 (ix t) (σ 5 0 (ix t) - 3)) 16 n 0 w) 16 n 1 x) 16 n 2 (σ 0 0 9 + 2 * x)) 0 0 8 (nI (n + 1))
theorem K_order_0 {σ : St} {w t x : Int32} (h1 : ¬ outR w 0 4) (h2 : ¬ outR t 0 3) (h3 : ¬ outR x 4 16) (h4 : 3 ≤ σ 5 0 (ix t)) (h5 : awV σ (ix (σ 0 0 8)) < 2) (h6 : σ 0 0 8 < 20) : K_order σ w t x = 0 := by
  unfold K_order
  rw [if_neg (fun h => h.elim h1 (fun h => h.elim h2 h3)), if_neg (fun h => h.elim (fun q => q h4) (fun h => h.elim (fun q => q h5) (fun q => q h6)))]
set_option maxRecDepth 100000 in
set_option maxHeartbeats 4000000 in
theorem c_X5_order {l : Launch} {D : va_G} {ad : Nat → Nat → Nat} {cy : Nat → ClassId} {A : Nat → Prop} {sa : Nat → Nat} {σ : St} {x y z : Int32} (hI : Inv σ) : XI l D ad cy A sa yX5_order cX5_order 5 (some .int) 2 4 σ [.ref (ad 0 0), .int x, .int y, .int z] (fun r σ' => K_order σ x y z = 0 ∧ r = σ 0 0 8 ∧ orderS σ (ix (σ 0 0 8)) x y z = σ') (fun E u => σ = u ∧ pxK [IAE, ISE] (K_order σ x y z) E) := by
  refine XI.mk "FretSchool" (by decide) rfl (Nat.le_of_ble_eq_true rfl) rfl ?_
  intro p e s m args below meth c C hex
  change Z _ _ _ _ _ _ _ _ _ _ _ _ _ _ _ _ _ _ _ [some (.ref (ad 0 0)), some (.int x), some (.int y), some (.int z), none] 0 []
  obtain ⟨no, hno, eno⟩ := hI.2.2.1
  have eix : ix (σ 0 0 8) = no := by rw [eno]; exact nI_clamp (by omega)
  refine z_iload_n C dX5_order_0 rfl ?_
  refine y_csv C (As := [_]) (c_X5_needPupil) okX5_needPupil wd192 (rok (by decide) (by decide)) ⟨Nat.le_of_ble_eq_true rfl, Nat.le_of_ble_eq_true rfl⟩ rfl (Nat.le_of_ble_eq_true rfl) dX5_order_1 (x_on C hex (by decide) (by decide) (fun E u h => ⟨h.1, by unfold K_order; rw [if_pos (Or.inl h.2.2)]; exact ⟨by decide, congrArg some h.2.1.symm⟩⟩)) ?_
  rintro _ ⟨rfl, hr1⟩
  refine z_iload_n C dX5_order_4 rfl ?_
  refine z_iconst C (v := 0) dX5_order_5 (by decide) ?_
  refine z_iconst C (v := 3) dX5_order_6 (by decide) ?_
  refine y_csv C (As := [_, _, _]) (c_X5_needRange) okX5_needRange wd195 (rok (by decide) (by decide)) ⟨Nat.le_of_ble_eq_true rfl, Nat.le_of_ble_eq_true rfl⟩ rfl (Nat.le_of_ble_eq_true rfl) dX5_order_7 (x_on C hex (by decide) (by decide) (fun E u h => ⟨h.1, by unfold K_order; rw [if_pos (Or.inr (Or.inl h.2.2))]; exact ⟨by decide, congrArg some h.2.1.symm⟩⟩)) ?_
  rintro _ ⟨rfl, hr7⟩
  obtain ⟨et, ht3⟩ := nout (n := 3) (by decide) hr7
  refine z_iload_n C dX5_order_10 rfl ?_
  refine z_iconst C (v := 4) dX5_order_11 (by decide) ?_
  refine z_bipush C (v := 16) dX5_order_12 (by decide) ?_
  refine y_csv C (As := [_, _, _]) (c_X5_needRange) okX5_needRange wd195 (rok (by decide) (by decide)) ⟨Nat.le_of_ble_eq_true rfl, Nat.le_of_ble_eq_true rfl⟩ rfl (Nat.le_of_ble_eq_true rfl) dX5_order_14 (x_on C hex (by decide) (by decide) (fun E u h => ⟨h.1, by unfold K_order; rw [if_pos (Or.inr (Or.inr h.2.2))]; exact ⟨by decide, congrArg some h.2.1.symm⟩⟩)) ?_
  rintro _ ⟨rfl, hr14⟩
  refine z_aload_n C dX5_order_17 rfl ?_
  refine g_0_4 C wd144 dX5_order_18 ?_
  refine z_iload_n C dX5_order_21 rfl ?_
  refine a_5 C et (by omega) dX5_order_22 ?_
  refine z_iconst C (v := 3) dX5_order_23 (by decide) ?_
  refine z_icmp_ge C 37 dX5_order_24 (by decide) (fun c_24 => ?_) (fun c_24 => ?_)
  · refine z_aload_n C dX5_order_37 rfl ?_
    refine z_cvi C (As := []) (c_X5_ordersAtWork eno hno) okX5_ordersAtWork wd525 rc_0 (rok (by decide) (by decide)) ⟨Nat.le_of_ble_eq_true rfl, Nat.le_of_ble_eq_true rfl⟩ rfl (Nat.le_of_ble_eq_true rfl) dX5_order_38 ?_
    rintro r38 _ ⟨e38, rfl⟩
    rw [← eix] at e38
    refine z_iconst C (v := 2) dX5_order_41 (by decide) ?_
    refine z_icmp_lt C 55 dX5_order_42 (by decide) (fun c_42 => ?_) (fun c_42 => ?_)
    · refine z_aload_n C dX5_order_55 rfl ?_
      refine g_0_8 C wd148 dX5_order_56 ?_
      refine z_bipush C (v := 20) dX5_order_59 (by decide) ?_
      refine z_icmp_lt C 74 dX5_order_61 (by decide) (fun c_61 => ?_) (fun c_61 => ?_)
      · have hn20 : no < 20 := by rw [eno, show (20 : Int32) = nI 20 from rfl, nI_ltI (by omega) (by omega)] at c_61; exact c_61
        refine z_aload_n C dX5_order_74 rfl ?_
        refine g_0_4 C wd144 dX5_order_75 ?_
        refine z_iload_n C dX5_order_78 rfl ?_
        refine z_dup2 C dX5_order_79 rfl rfl ?_
        refine a_5 C et (by omega) dX5_order_80 ?_
        refine z_iconst C (v := 3) dX5_order_81 (by decide) ?_
        refine z_isub C dX5_order_82 ?_
        refine s_5 C et (by omega) dX5_order_83 ?_
        refine z_aload_n C dX5_order_84 rfl ?_
        refine g_0_8 C wd148 dX5_order_85 ?_
        refine z_istore C dX5_order_88 (by decide) ?_
        dsimp only [List.set]
        refine z_aload_n C dX5_order_90 rfl ?_
        refine g_0_3 C wd143 dX5_order_91 ?_
        refine z_iload C dX5_order_94 rfl ?_
        refine a_4 C (j := no) (by rw [up_app, if_neg (by omega)]; exact eno) hn20 dX5_order_96 ?_
        refine z_iload_n C dX5_order_97 rfl ?_
        refine z_iload_n C dX5_order_98 rfl ?_
        refine z_aload_n C dX5_order_99 rfl ?_
        refine g_0_9 C wd149 dX5_order_100 ?_
        refine z_iconst C (v := 2) dX5_order_103 (by decide) ?_
        refine z_iload_n C dX5_order_104 rfl ?_
        refine z_imul C dX5_order_105 ?_
        refine z_iadd C dX5_order_106 ?_
        refine z_cvv C (As := [_, _, _]) (c_X2_place hn20) okX2_place wd535 (rc_16 hn20) (rok (by decide) (by decide)) ⟨Nat.le_of_ble_eq_true rfl, Nat.le_of_ble_eq_true rfl⟩ rfl (Nat.le_of_ble_eq_true rfl) dX5_order_107 ?_
        rintro _ rfl
        refine z_aload_n C dX5_order_110 rfl ?_
        refine z_dup C dX5_order_111 rfl ?_
        refine g_0_8 C wd148 dX5_order_112 ?_
        refine z_iconst C (v := 1) dX5_order_115 (by decide) ?_
        refine z_iadd C dX5_order_116 ?_
        refine p_0_8 C wd148 dX5_order_117 ?_
        refine z_iload C dX5_order_120 rfl ?_
        refine y_ret (by decide) (by decide) ?_
        refine z_iret C dX5_order_122 ?_
        refine ⟨K_order_0 hr1 hr7 hr14 c_24 (by rw [← e38]; exact c_42) c_61, ?_, ?_⟩
        · rw [up_app, if_neg (by omega)]
        · unfold orderS
          rw [eix]
          simp only [up_app]
          simp only [Nat.reduceEqDiff, false_and, and_false, and_true, true_and, if_false, if_true, eno, nI_1]
      · refine y_ise C hex (tx := "there are 20 orders") (List.mem_of_getElem? (i := 12) rfl) dX5_order_64 dX5_order_67 dX5_order_68 dX5_order_70 dX5_order_73 ⟨Nat.le_of_ble_eq_true rfl, Nat.le_of_ble_eq_true rfl⟩ (by decide) (by decide) ?_
        exact ⟨rfl, by unfold K_order; rw [if_neg (fun h => h.elim hr1 (fun h => h.elim hr7 hr14)), if_pos (Or.inr (Or.inr c_61))]; exact ⟨by decide, rfl⟩⟩
    · refine y_ise C hex (tx := "two orders are at work") (List.mem_of_getElem? (i := 11) rfl) dX5_order_45 dX5_order_48 dX5_order_49 dX5_order_51 dX5_order_54 ⟨Nat.le_of_ble_eq_true rfl, Nat.le_of_ble_eq_true rfl⟩ (by decide) (by decide) ?_
      exact ⟨rfl, by unfold K_order; rw [if_neg (fun h => h.elim hr1 (fun h => h.elim hr7 hr14)), if_pos (Or.inr (Or.inl (by rw [← e38]; exact c_42)))]; exact ⟨by decide, rfl⟩⟩
  · refine y_ise C hex (tx := "there is too little of the wood") (List.mem_of_getElem? (i := 10) rfl) dX5_order_27 dX5_order_30 dX5_order_31 dX5_order_33 dX5_order_36 ⟨Nat.le_of_ble_eq_true rfl, Nat.le_of_ble_eq_true rfl⟩ (by decide) (by decide) ?_
    exact ⟨rfl, by unfold K_order; rw [if_neg (fun h => h.elim hr1 (fun h => h.elim hr7 hr14)), if_pos (Or.inl c_24)]; exact ⟨by decide, rfl⟩⟩
noncomputable def K_fetch (σ : St) (r a b c0 d0 : Int32) : Nat := by classical exact if bad r (σ 0 0 8) then 1 else if outR a 0 60 ∨ outR b 0 60 ∨ outR c0 0 60 ∨ outR d0 0 60 then 2 else if σ 0 0 9 < σ 16 (ix r) 2 ∨ ¬ σ 16 (ix r) 3 = 0 ∨ ¬ σ 0 0 7 < 8 then 3 else 0
def fetchS (σ : St) (r n : Nat) (a b c0 d0 : Int32) : St := up (up (up (up (up (up (up (up σ 16 r 3 1) 13 n 1 (σ 16 r 0)) 13 n 2 (σ 16 r 1)) 14 n 0 a) 14 n 1 b) 14 n 2 c0) 14 n 3 d0) 0 0 7 (nI (n + 1))
set_option maxRecDepth 100000 in
set_option maxHeartbeats 4000000 in
theorem c_X5_fetch {l : Launch} {D : va_G} {ad : Nat → Nat → Nat} {cy : Nat → ClassId} {A : Nat → Prop} {sa : Nat → Nat} {σ : St} {x a b c0 d0 : Int32} (hI : Inv σ) : XI l D ad cy A sa yX5_fetch cX5_fetch 8 (some .int) 1 6 σ [.ref (ad 0 0), .int x, .int a, .int b, .int c0, .int d0] (fun r σ' => K_fetch σ x a b c0 d0 = 0 ∧ r = σ 0 0 7 ∧ fetchS σ (ix x) (ix (σ 0 0 7)) a b c0 d0 = σ') (fun E u => σ = u ∧ pxK [IOOBE, IAE, ISE] (K_fetch σ x a b c0 d0) E) := by
  refine XI.mk "FretSchool" (by decide) rfl (Nat.le_of_ble_eq_true rfl) rfl ?_
  intro p e s m args below meth c C hex
  change Z _ _ _ _ _ _ _ _ _ _ _ _ _ _ _ _ _ _ _ [some (.ref (ad 0 0)), some (.int x), some (.int a), some (.int b), some (.int c0), some (.int d0), none, none] 0 []
  obtain ⟨ni, hni, eni⟩ := hI.2.1
  have eix : ix (σ 0 0 7) = ni := by rw [eni]; exact nI_clamp (by omega)
  refine z_aload_n C dX5_fetch_0 rfl ?_
  refine z_iload_n C dX5_fetch_1 rfl ?_
  refine y_cvv C (As := [_]) (c_X5_needOrder) okX5_needOrder wd512 rc_0 (rok (by decide) (by decide)) ⟨Nat.le_of_ble_eq_true rfl, Nat.le_of_ble_eq_true rfl⟩ rfl (Nat.le_of_ble_eq_true rfl) dX5_fetch_2 (x_on C hex (by decide) (by decide) (fun E u h => ⟨h.1, by unfold K_fetch; rw [if_pos h.2.2]; exact ⟨by decide, congrArg some h.2.1.symm⟩⟩)) ?_
  rintro _ ⟨rfl, hr2⟩
  obtain ⟨no, hno, eno⟩ := hI.2.2.1
  rw [eno] at hr2
  obtain ⟨eo, ho1, ho2⟩ := nbad hno (by decide) hr2
  rw [← eno] at hr2
  refine z_iload_n C dX5_fetch_5 rfl ?_
  refine z_iconst C (v := 0) dX5_fetch_6 (by decide) ?_
  refine z_bipush C (v := 60) dX5_fetch_7 (by decide) ?_
  refine y_csv C (As := [_, _, _]) (c_X5_needRange) okX5_needRange wd195 (rok (by decide) (by decide)) ⟨Nat.le_of_ble_eq_true rfl, Nat.le_of_ble_eq_true rfl⟩ rfl (Nat.le_of_ble_eq_true rfl) dX5_fetch_9 (x_on C hex (by decide) (by decide) (fun E u h => ⟨h.1, by unfold K_fetch; rw [if_neg hr2, if_pos (Or.inl h.2.2)]; exact ⟨by decide, congrArg some h.2.1.symm⟩⟩)) ?_
  rintro _ ⟨rfl, hr9⟩
  refine z_iload_n C dX5_fetch_12 rfl ?_
  refine z_iconst C (v := 0) dX5_fetch_13 (by decide) ?_
  refine z_bipush C (v := 60) dX5_fetch_14 (by decide) ?_
  refine y_csv C (As := [_, _, _]) (c_X5_needRange) okX5_needRange wd195 (rok (by decide) (by decide)) ⟨Nat.le_of_ble_eq_true rfl, Nat.le_of_ble_eq_true rfl⟩ rfl (Nat.le_of_ble_eq_true rfl) dX5_fetch_16 (x_on C hex (by decide) (by decide) (fun E u h => ⟨h.1, by unfold K_fetch; rw [if_neg hr2, if_pos (Or.inr (Or.inl h.2.2))]; exact ⟨by decide, congrArg some h.2.1.symm⟩⟩)) ?_
  rintro _ ⟨rfl, hr16⟩
  refine z_iload C dX5_fetch_19 rfl ?_
  refine z_iconst C (v := 0) dX5_fetch_21 (by decide) ?_
  refine z_bipush C (v := 60) dX5_fetch_22 (by decide) ?_
  refine y_csv C (As := [_, _, _]) (c_X5_needRange) okX5_needRange wd195 (rok (by decide) (by decide)) ⟨Nat.le_of_ble_eq_true rfl, Nat.le_of_ble_eq_true rfl⟩ rfl (Nat.le_of_ble_eq_true rfl) dX5_fetch_24 (x_on C hex (by decide) (by decide) (fun E u h => ⟨h.1, by unfold K_fetch; rw [if_neg hr2, if_pos (Or.inr (Or.inr (Or.inl h.2.2)))]; exact ⟨by decide, congrArg some h.2.1.symm⟩⟩)) ?_
  rintro _ ⟨rfl, hr24⟩
  refine z_iload C dX5_fetch_27 rfl ?_
  refine z_iconst C (v := 0) dX5_fetch_29 (by decide) ?_
  refine z_bipush C (v := 60) dX5_fetch_30 (by decide) ?_
  refine y_csv C (As := [_, _, _]) (c_X5_needRange) okX5_needRange wd195 (rok (by decide) (by decide)) ⟨Nat.le_of_ble_eq_true rfl, Nat.le_of_ble_eq_true rfl⟩ rfl (Nat.le_of_ble_eq_true rfl) dX5_fetch_32 (x_on C hex (by decide) (by decide) (fun E u h => ⟨h.1, by unfold K_fetch; rw [if_neg hr2, if_pos (Or.inr (Or.inr (Or.inr h.2.2)))]; exact ⟨by decide, congrArg some h.2.1.symm⟩⟩)) ?_
  rintro _ ⟨rfl, hr32⟩
  refine z_aload_n C dX5_fetch_35 rfl ?_
  refine g_0_3 C wd143 dX5_fetch_36 ?_
  refine z_iload_n C dX5_fetch_39 rfl ?_
  refine a_4 C eo ho2 dX5_fetch_40 ?_
  refine z_astore C dX5_fetch_41 (by decide) ?_
  dsimp only [List.set]
  refine z_aload C dX5_fetch_43 rfl ?_
  refine z_aload_n C dX5_fetch_45 rfl ?_
  refine g_0_9 C wd149 dX5_fetch_46 ?_
  refine z_cvi C (As := [_]) (c_X2_isReady ho2) okX2_isReady wd529 (rc_16 ho2) (rok (by decide) (by decide)) ⟨Nat.le_of_ble_eq_true rfl, Nat.le_of_ble_eq_true rfl⟩ rfl (Nat.le_of_ble_eq_true rfl) dX5_fetch_49 ?_
  rintro r49 _ ⟨e49, rfl⟩
  refine z_if_ne C 65 dX5_fetch_52 (by decide) (fun c_52 => ?_) (fun c_52 => ?_)
  · have hrd : ¬ σ 0 0 9 < σ 16 (ix x) 2 := fun q => c_52 (by rw [e49, if_pos q])
    refine z_aload C dX5_fetch_65 rfl ?_
    refine g_16_3 ho2 C wd103 dX5_fetch_67 ?_
    refine z_if_eq C 83 dX5_fetch_70 (by decide) (fun c_70 => ?_) (fun c_70 => ?_)
    · refine z_aload_n C dX5_fetch_83 rfl ?_
      refine g_0_7 C wd147 dX5_fetch_84 ?_
      refine z_bipush C (v := 8) dX5_fetch_87 (by decide) ?_
      refine z_icmp_lt C 102 dX5_fetch_89 (by decide) (fun c_89 => ?_) (fun c_89 => ?_)
      · have hn8 : ni < 8 := by rw [eni, show (8 : Int32) = nI 8 from rfl, nI_ltI (by omega) (by omega)] at c_89; exact c_89
        refine z_aload C dX5_fetch_102 rfl ?_
        refine z_iconst C (v := 1) dX5_fetch_104 (by decide) ?_
        refine p_16_3 ho2 C (by first | exact Or.inl rfl | exact Or.inr rfl | assumption) wd103 dX5_fetch_105 ?_
        refine z_aload_n C dX5_fetch_108 rfl ?_
        refine g_0_7 C wd147 dX5_fetch_109 ?_
        refine z_istore C dX5_fetch_112 (by decide) ?_
        dsimp only [List.set]
        refine z_aload_n C dX5_fetch_114 rfl ?_
        refine g_0_1 C wd141 dX5_fetch_115 ?_
        refine z_iload C dX5_fetch_118 rfl ?_
        refine a_2 C (j := ni) (by rw [up_app, if_neg (by omega)]; exact eni) hn8 dX5_fetch_120 ?_
        refine z_aload C dX5_fetch_121 rfl ?_
        refine g_16_0 ho2 C wd97 dX5_fetch_123 ?_
        refine z_aload C dX5_fetch_126 rfl ?_
        refine g_16_1 ho2 C wd99 dX5_fetch_128 ?_
        refine z_cvv C (As := [_, _]) (c_X1_build hn8) okX1_build wd560 (rc_13 hn8) (rok (by decide) (by decide)) ⟨Nat.le_of_ble_eq_true rfl, Nat.le_of_ble_eq_true rfl⟩ rfl (Nat.le_of_ble_eq_true rfl) dX5_fetch_131 ?_
        rintro _ rfl
        refine z_aload_n C dX5_fetch_134 rfl ?_
        refine g_0_1 C wd141 dX5_fetch_135 ?_
        refine z_iload C dX5_fetch_138 rfl ?_
        refine a_2 C (j := ni) (by rw [up_app, if_neg (by omega)]; exact eni) hn8 dX5_fetch_140 ?_
        refine z_iload_n C dX5_fetch_141 rfl ?_
        refine z_iload_n C dX5_fetch_142 rfl ?_
        refine z_iload C dX5_fetch_143 rfl ?_
        refine z_iload C dX5_fetch_145 rfl ?_
        refine z_cvv C (As := [_, _, _, _]) (c_X1_tuneAll hn8) okX1_tuneAll wd564 (rc_13 hn8) (rok (by decide) (by decide)) ⟨Nat.le_of_ble_eq_true rfl, Nat.le_of_ble_eq_true rfl⟩ rfl (Nat.le_of_ble_eq_true rfl) dX5_fetch_147 ?_
        rintro _ rfl
        refine z_aload_n C dX5_fetch_150 rfl ?_
        refine z_dup C dX5_fetch_151 rfl ?_
        refine g_0_7 C wd147 dX5_fetch_152 ?_
        refine z_iconst C (v := 1) dX5_fetch_155 (by decide) ?_
        refine z_iadd C dX5_fetch_156 ?_
        refine p_0_7 C wd147 dX5_fetch_157 ?_
        refine z_iload C dX5_fetch_160 rfl ?_
        refine y_ret (by decide) (by decide) ?_
        refine z_iret C dX5_fetch_162 ?_
        refine ⟨by unfold K_fetch; rw [if_neg hr2, if_neg (fun h => h.elim hr9 (fun h => h.elim hr16 (fun h => h.elim hr24 hr32))), if_neg (fun h => h.elim hrd (fun h => h.elim (fun q => q c_70) (fun q => q c_89)))], ?_, ?_⟩
        · rw [up_app, if_neg (by omega)]
        · unfold fetchS
          rw [eix]
          simp only [up_app]
          simp only [Nat.reduceEqDiff, false_and, and_false, and_true, true_and, if_false, if_true, eni, nI_1]
      · refine y_ise C hex (tx := "there are 8 instruments") (List.mem_of_getElem? (i := 16) rfl) dX5_fetch_92 dX5_fetch_95 dX5_fetch_96 dX5_fetch_98 dX5_fetch_101 ⟨Nat.le_of_ble_eq_true rfl, Nat.le_of_ble_eq_true rfl⟩ (by decide) (by decide) ?_
        exact ⟨rfl, by unfold K_fetch; rw [if_neg hr2, if_neg (fun h => h.elim hr9 (fun h => h.elim hr16 (fun h => h.elim hr24 hr32))), if_pos (Or.inr (Or.inr c_89))]; exact ⟨by decide, rfl⟩⟩
    · refine y_ise C hex (tx := "the order was fetched") (List.mem_of_getElem? (i := 15) rfl) dX5_fetch_73 dX5_fetch_76 dX5_fetch_77 dX5_fetch_79 dX5_fetch_82 ⟨Nat.le_of_ble_eq_true rfl, Nat.le_of_ble_eq_true rfl⟩ (by decide) (by decide) ?_
      exact ⟨rfl, by unfold K_fetch; rw [if_neg hr2, if_neg (fun h => h.elim hr9 (fun h => h.elim hr16 (fun h => h.elim hr24 hr32))), if_pos (Or.inr (Or.inl c_70))]; exact ⟨by decide, rfl⟩⟩
  · have hrd : σ 0 0 9 < σ 16 (ix x) 2 := Classical.byContradiction fun q => absurd (by rw [e49, if_neg q] at c_52; exact c_52) (by decide)
    refine y_ise C hex (tx := "the order is not ready") (List.mem_of_getElem? (i := 14) rfl) dX5_fetch_55 dX5_fetch_58 dX5_fetch_59 dX5_fetch_61 dX5_fetch_64 ⟨Nat.le_of_ble_eq_true rfl, Nat.le_of_ble_eq_true rfl⟩ (by decide) (by decide) ?_
    exact ⟨rfl, by unfold K_fetch; rw [if_neg hr2, if_neg (fun h => h.elim hr9 (fun h => h.elim hr16 (fun h => h.elim hr24 hr32))), if_pos (Or.inl hrd)]; exact ⟨by decide, rfl⟩⟩
