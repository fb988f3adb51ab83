/-! ===== the model: the methods that write ===== -/
set_option maxRecDepth 100000 in
set_option maxHeartbeats 4000000 in
theorem c_X6_begin {l : Launch} {D : va_G} {ad : Nat → Nat → Nat} {cy : Nat → ClassId} {A : Nat → Prop} {sa : Nat → Nat} {σ : St} {g : St} (hM : MRel g σ) : MI l D ad cy A sa yX6_begin cX6_begin 1 (some .int) 1 σ [.ref (ad 17 0)] (fun r σ' => MPost g (up g 0 0 6 (g 0 0 6 + 1)) σ σ' (K_begin g) ∧ (K_begin g = 0 → r = g 0 0 6)) := by
  refine MI.mk "FretSchoolModel" (by decide) rfl (Nat.le_of_ble_eq_true rfl) rfl ?_
  intro p e s m args below meth c C
  change Z _ _ _ _ _ _ _ _ _ _ _ _ _ _ _ _ _ _ _ [some (.ref (ad 17 0))] 0 []
  refine z_aload_n C dX6_begin_0 rfl ?_
  refine z_aload_n C dX6_begin_1 rfl ?_
  refine g_17_1 C wd586 dX6_begin_2 ?_
  refine z_bipush C (v := 8) dX6_begin_5 (by decide) ?_
  refine z_icmp_ge C 14 dX6_begin_7 (by decide) (fun c_7 => ?_) (fun c_7 => ?_)
  · rw [hM.1] at c_7
    have hK : K_begin g = 1 := by unfold K_begin; rw [if_pos (Int32.not_lt.mpr c_7)]
    refine z_iconst C (v := 0) dX6_begin_14 (by decide) ?_
    refine z_iconst C (v := 1) dX6_begin_15 (by decide) ?_
    refine z_iconst C (v := 1) dX6_begin_16 (by decide) ?_
    refine z_cvi C (As := [_, _, _]) (c_X6_goes) okX6_goes wd652 rc_17 (rok (by decide) (by decide)) ⟨Nat.le_of_ble_eq_true rfl, Nat.le_of_ble_eq_true rfl⟩ rfl (Nat.le_of_ble_eq_true rfl) dX6_begin_17 ?_
    rintro r17 _ ⟨rfl, e17⟩
    refine z_if_ne C 25 dX6_begin_20 (by decide) (fun c_20 => ?_) (fun c_20 => ?_)
    · exact absurd (e17.trans (by decide)) c_20
    · refine z_iconst C (v := 0) dX6_begin_23 (by decide) ?_
      refine z_iret C dX6_begin_24 ?_
      exact ⟨by rw [hK]; exact MPost.no hM (by decide), fun a => absurd (a.symm.trans hK) (by decide)⟩
  · rw [hM.1] at c_7
    have hK : K_begin g = 0 := by unfold K_begin; rw [if_neg (fun q => q (Int32.not_le.mp c_7))]
    refine z_iconst C (v := 1) dX6_begin_10 (by decide) ?_
    refine z_goto C 15 dX6_begin_11 (by decide) ?_
    refine z_iconst C (v := 1) dX6_begin_15 (by decide) ?_
    refine z_iconst C (v := 1) dX6_begin_16 (by decide) ?_
    refine z_cvi C (As := [_, _, _]) (c_X6_goes) okX6_goes wd652 rc_17 (rok (by decide) (by decide)) ⟨Nat.le_of_ble_eq_true rfl, Nat.le_of_ble_eq_true rfl⟩ rfl (Nat.le_of_ble_eq_true rfl) dX6_begin_17 ?_
    rintro r17 _ ⟨rfl, e17⟩
    refine z_if_ne C 25 dX6_begin_20 (by decide) (fun c_20 => ?_) (fun c_20 => ?_)
    · refine z_aload_n C dX6_begin_25 rfl ?_
      refine z_dup C dX6_begin_26 rfl ?_
      refine g_17_1 C wd586 dX6_begin_27 ?_
      refine z_iconst C (v := 1) dX6_begin_30 (by decide) ?_
      refine z_iadd C dX6_begin_31 ?_
      refine p_17_1 C wd586 dX6_begin_32 ?_
      refine z_aload_n C dX6_begin_35 rfl ?_
      refine g_17_1 C wd586 dX6_begin_36 ?_
      refine z_iconst C (v := 1) dX6_begin_39 (by decide) ?_
      refine z_isub C dX6_begin_40 ?_
      refine z_iret C dX6_begin_41 ?_
      refine ⟨⟨fun a b c0 h => by rw [up_low (by decide) a b c0 h, up_low (by decide) a b c0 h], by rw [up_app, if_neg (by omega), up_app, if_pos ⟨rfl, rfl, rfl⟩, hK]; rfl, fun _ => ?_, fun q => absurd hK q⟩, fun _ => ?_⟩
      · rw [show up σ 17 0 18 (nI (tC 1 1 1)) 17 0 1 = g 0 0 6 by rw [up_app, if_neg (by omega)]; exact hM.1]
        exact mr_np (hM.fs FS.thr)
      · rw [up_app, if_pos ⟨rfl, rfl, rfl⟩, up_app, if_neg (by omega), hM.1, Int32.add_sub_cancel]
    · exact absurd (e17.symm.trans c_20) (by decide)
set_option maxRecDepth 100000 in
set_option maxHeartbeats 4000000 in
theorem c_X6_addNote {l : Launch} {D : va_G} {ad : Nat → Nat → Nat} {cy : Nat → ClassId} {A : Nat → Prop} {sa : Nat → Nat} {σ : St} {g : St} {x y : Int32} (hM : MRel g σ) (hI : Inv g) : MI l D ad cy A sa yX6_addNote cX6_addNote 4 (some .int) 2 σ [.ref (ad 17 0), .int x, .int y] (fun r σ' => MPost g (up (up g 12 (ix x) (cN g (ix x)) y) 11 (ix x) 1 (nI (cN g (ix x) + 1))) σ σ' (K_addNote g x y) ∧ (K_addNote g x y = 0 → r = nI (cN g (ix x) + 1))) := by
  refine MI.mk "FretSchoolModel" (by decide) rfl (Nat.le_of_ble_eq_true rfl) rfl ?_
  intro p e s m args below meth c C
  change Z _ _ _ _ _ _ _ _ _ _ _ _ _ _ _ _ _ _ _ [some (.ref (ad 17 0)), some (.int x), some (.int y), none] 0 []
  obtain ⟨np, hnp, enp⟩ := hI.1
  have enp1 : σ 17 0 1 = nI np := hM.1.trans enp
  obtain ⟨ni, hni, eni⟩ := hI.2.1
  have eni1 : σ 17 0 4 = nI ni := hM.2.1.trans eni
  refine z_aload_n C dX6_addNote_0 rfl ?_
  refine z_iload_n C dX6_addNote_1 rfl ?_
  refine z_cvi C (As := [_]) (c_X6_isPiece enp1 (by omega)) okX6_isPiece wd660 rc_17 (rok (by decide) (by decide)) ⟨Nat.le_of_ble_eq_true rfl, Nat.le_of_ble_eq_true rfl⟩ rfl (Nat.le_of_ble_eq_true rfl) dX6_addNote_2 ?_
  rintro r2 _ ⟨rfl, h2⟩
  rw [← enp] at h2
  rcases h2 with ⟨rfl, hb2⟩ | ⟨rfl, hb2⟩
  · obtain ⟨ex, hx1, hx8⟩ := nbad hnp (by decide) (by rw [enp] at hb2; exact hb2)
    obtain ⟨ec, hc16⟩ := hI.2.2.2.1 (ix x) hx8
    have em : σ 18 0 (ix x) = nI (cN g (ix x)) := (hM.many hx8).trans ec
    refine z_istore_n C dX6_addNote_5 (by decide) ?_
    dsimp only [List.set]
    refine z_aload_n C dX6_addNote_6 rfl ?_
    refine z_iload_n C dX6_addNote_7 rfl ?_
    refine z_iload_n C dX6_addNote_8 rfl ?_
    refine z_iconst C (v := 0) dX6_addNote_9 (by decide) ?_
    refine z_bipush C (v := 80) dX6_addNote_10 (by decide) ?_
    refine z_csi C (As := [_, _, _]) (c_X6_in) okX6_in wd664 (rok (by decide) (by decide)) ⟨Nat.le_of_ble_eq_true rfl, Nat.le_of_ble_eq_true rfl⟩ rfl (Nat.le_of_ble_eq_true rfl) dX6_addNote_12 ?_
    rintro r12 _ ⟨rfl, h12⟩
    rcases h12 with ⟨rfl, hb12⟩ | ⟨rfl, hb12⟩
    · refine z_iload_n C dX6_addNote_15 rfl ?_
      refine z_if_eq C 34 dX6_addNote_16 (by decide) (fun c_16 => ?_) (fun c_16 => ?_)
      · exact absurd c_16 (by decide)
      · refine z_aload_n C dX6_addNote_19 rfl ?_
        refine g_17_2 C wd587 dX6_addNote_20 ?_
        refine z_iload_n C dX6_addNote_23 rfl ?_
        refine a_18 C ex hx8 dX6_addNote_24 ?_
        refine z_bipush C (v := 16) dX6_addNote_25 (by decide) ?_
        refine z_icmp_ge C 34 dX6_addNote_27 (by decide) (fun c_27 => ?_) (fun c_27 => ?_)
        · rw [hM.many hx8] at c_27
          refine z_iconst C (v := 0) dX6_addNote_34 (by decide) ?_
          refine z_cvi C (As := [_, _, _]) (c_X6_goes) okX6_goes wd652 rc_17 (rok (by decide) (by decide)) ⟨Nat.le_of_ble_eq_true rfl, Nat.le_of_ble_eq_true rfl⟩ rfl (Nat.le_of_ble_eq_true rfl) dX6_addNote_35 ?_
          rintro r35 _ ⟨rfl, e35⟩
          refine z_if_ne C 43 dX6_addNote_38 (by decide) (fun c_38 => ?_) (fun c_38 => ?_)
          · exact absurd (e35.trans (by decide)) c_38
          · have hK : K_addNote g x y = 3 := by unfold K_addNote; rw [if_neg hb2, if_neg hb12, if_pos (Int32.not_lt.mpr c_27)]
            refine z_iconst C (v := 0) dX6_addNote_41 (by decide) ?_
            refine z_iret C dX6_addNote_42 ?_
            exact ⟨by rw [hK]; exact MPost.no hM (by decide), fun a => absurd (a.symm.trans hK) (by decide)⟩
        · rw [hM.many hx8] at c_27
          have hlt : cN g (ix x) < 16 := by rw [ec, show (16 : Int32) = nI 16 from rfl, nI_leI (by omega) (by omega)] at c_27; omega
          refine z_iconst C (v := 1) dX6_addNote_30 (by decide) ?_
          refine z_goto C 35 dX6_addNote_31 (by decide) ?_
          refine z_cvi C (As := [_, _, _]) (c_X6_goes) okX6_goes wd652 rc_17 (rok (by decide) (by decide)) ⟨Nat.le_of_ble_eq_true rfl, Nat.le_of_ble_eq_true rfl⟩ rfl (Nat.le_of_ble_eq_true rfl) dX6_addNote_35 ?_
          rintro r35 _ ⟨rfl, e35⟩
          refine z_if_ne C 43 dX6_addNote_38 (by decide) (fun c_38 => ?_) (fun c_38 => ?_)
          · have hK : K_addNote g x y = 0 := by unfold K_addNote; rw [if_neg hb2, if_neg hb12, if_neg (fun q => q (Int32.not_le.mp c_27))]
            refine z_aload_n C dX6_addNote_43 rfl ?_
            refine g_17_3 C wd588 dX6_addNote_44 ?_
            refine z_bipush C (v := 16) dX6_addNote_47 (by decide) ?_
            refine z_iload_n C dX6_addNote_49 rfl ?_
            refine z_imul C dX6_addNote_50 ?_
            refine z_aload_n C dX6_addNote_51 rfl ?_
            refine g_17_2 C wd587 dX6_addNote_52 ?_
            refine z_iload_n C dX6_addNote_55 rfl ?_
            refine a_18 C ex hx8 dX6_addNote_56 ?_
            refine z_iadd C dX6_addNote_57 ?_
            refine z_iload_n C dX6_addNote_58 rfl ?_
            refine s_19 C (ix2 (m := 16) (i := ix x) (j := cN g (ix x)) rfl ex (by rw [up_app, if_neg (by omega)]; exact em)) (by omega) dX6_addNote_59 ?_
            refine z_aload_n C dX6_addNote_60 rfl ?_
            refine g_17_2 C wd587 dX6_addNote_61 ?_
            refine z_iload_n C dX6_addNote_64 rfl ?_
            refine z_dup2 C dX6_addNote_65 rfl rfl ?_
            refine a_18 C ex hx8 dX6_addNote_66 ?_
            refine z_iconst C (v := 1) dX6_addNote_67 (by decide) ?_
            refine z_iadd C dX6_addNote_68 ?_
            refine s_18 C ex hx8 dX6_addNote_69 ?_
            refine z_aload_n C dX6_addNote_70 rfl ?_
            refine g_17_2 C wd587 dX6_addNote_71 ?_
            refine z_iload_n C dX6_addNote_74 rfl ?_
            refine a_18 C ex hx8 dX6_addNote_75 ?_
            refine z_iret C dX6_addNote_76 ?_
            refine ⟨⟨fun a b c0 h => by rw [up_low (by decide) a b c0 h, up_low (by decide) a b c0 h, up_low (by decide) a b c0 h], by rw [up_app, if_neg (by omega), up_app, if_neg (by omega), up_app, if_pos ⟨rfl, rfl, rfl⟩, hK]; rfl, fun _ => ?_, fun q => absurd hK q⟩, fun _ => ?_⟩
            · rw [show up (up σ 17 0 18 (nI (tC 1 1 1))) 19 0 (16 * ix x + cN g (ix x)) y 18 0 (ix x) + 1 = nI (cN g (ix x) + 1) by rw [up_app, if_neg (by omega), up_app, if_neg (by omega), em, nI_1]]
              exact mr_many (mr_pit hlt (hM.fs FS.thr))
            · rw [up_app, if_pos ⟨rfl, rfl, rfl⟩, up_app, if_neg (by omega), up_app, if_neg (by omega), em, nI_1]
          · exact absurd (e35.symm.trans c_38) (by decide)
    · refine z_iload_n C dX6_addNote_15 rfl ?_
      refine z_if_eq C 34 dX6_addNote_16 (by decide) (fun c_16 => ?_) (fun c_16 => ?_)
      · exact absurd c_16 (by decide)
      · refine z_aload_n C dX6_addNote_19 rfl ?_
        refine g_17_2 C wd587 dX6_addNote_20 ?_
        refine z_iload_n C dX6_addNote_23 rfl ?_
        refine a_18 C ex hx8 dX6_addNote_24 ?_
        refine z_bipush C (v := 16) dX6_addNote_25 (by decide) ?_
        refine z_icmp_ge C 34 dX6_addNote_27 (by decide) (fun c_27 => ?_) (fun c_27 => ?_)
        · rw [hM.many hx8] at c_27
          refine z_iconst C (v := 0) dX6_addNote_34 (by decide) ?_
          refine z_cvi C (As := [_, _, _]) (c_X6_goes) okX6_goes wd652 rc_17 (rok (by decide) (by decide)) ⟨Nat.le_of_ble_eq_true rfl, Nat.le_of_ble_eq_true rfl⟩ rfl (Nat.le_of_ble_eq_true rfl) dX6_addNote_35 ?_
          rintro r35 _ ⟨rfl, e35⟩
          refine z_if_ne C 43 dX6_addNote_38 (by decide) (fun c_38 => ?_) (fun c_38 => ?_)
          · exact absurd (e35.trans (by decide)) c_38
          · have hK : K_addNote g x y = 2 := by unfold K_addNote; rw [if_neg hb2, if_pos hb12]
            refine z_iconst C (v := 0) dX6_addNote_41 (by decide) ?_
            refine z_iret C dX6_addNote_42 ?_
            exact ⟨by rw [hK]; exact MPost.no hM (by decide), fun a => absurd (a.symm.trans hK) (by decide)⟩
        · rw [hM.many hx8] at c_27
          have hlt : cN g (ix x) < 16 := by rw [ec, show (16 : Int32) = nI 16 from rfl, nI_leI (by omega) (by omega)] at c_27; omega
          refine z_iconst C (v := 1) dX6_addNote_30 (by decide) ?_
          refine z_goto C 35 dX6_addNote_31 (by decide) ?_
          refine z_cvi C (As := [_, _, _]) (c_X6_goes) okX6_goes wd652 rc_17 (rok (by decide) (by decide)) ⟨Nat.le_of_ble_eq_true rfl, Nat.le_of_ble_eq_true rfl⟩ rfl (Nat.le_of_ble_eq_true rfl) dX6_addNote_35 ?_
          rintro r35 _ ⟨rfl, e35⟩
          refine z_if_ne C 43 dX6_addNote_38 (by decide) (fun c_38 => ?_) (fun c_38 => ?_)
          · exact absurd (e35.trans (by decide)) c_38
          · have hK : K_addNote g x y = 2 := by unfold K_addNote; rw [if_neg hb2, if_pos hb12]
            refine z_iconst C (v := 0) dX6_addNote_41 (by decide) ?_
            refine z_iret C dX6_addNote_42 ?_
            exact ⟨by rw [hK]; exact MPost.no hM (by decide), fun a => absurd (a.symm.trans hK) (by decide)⟩
  · refine z_istore_n C dX6_addNote_5 (by decide) ?_
    dsimp only [List.set]
    refine z_aload_n C dX6_addNote_6 rfl ?_
    refine z_iload_n C dX6_addNote_7 rfl ?_
    refine z_iload_n C dX6_addNote_8 rfl ?_
    refine z_iconst C (v := 0) dX6_addNote_9 (by decide) ?_
    refine z_bipush C (v := 80) dX6_addNote_10 (by decide) ?_
    refine z_csi C (As := [_, _, _]) (c_X6_in) okX6_in wd664 (rok (by decide) (by decide)) ⟨Nat.le_of_ble_eq_true rfl, Nat.le_of_ble_eq_true rfl⟩ rfl (Nat.le_of_ble_eq_true rfl) dX6_addNote_12 ?_
    rintro r12 _ ⟨rfl, h12⟩
    rcases h12 with ⟨rfl, hb12⟩ | ⟨rfl, hb12⟩
    · refine z_iload_n C dX6_addNote_15 rfl ?_
      refine z_if_eq C 34 dX6_addNote_16 (by decide) (fun c_16 => ?_) (fun c_16 => ?_)
      · refine z_iconst C (v := 0) dX6_addNote_34 (by decide) ?_
        refine z_cvi C (As := [_, _, _]) (c_X6_goes) okX6_goes wd652 rc_17 (rok (by decide) (by decide)) ⟨Nat.le_of_ble_eq_true rfl, Nat.le_of_ble_eq_true rfl⟩ rfl (Nat.le_of_ble_eq_true rfl) dX6_addNote_35 ?_
        rintro r35 _ ⟨rfl, e35⟩
        refine z_if_ne C 43 dX6_addNote_38 (by decide) (fun c_38 => ?_) (fun c_38 => ?_)
        · exact absurd (e35.trans (by decide)) c_38
        · have hK : K_addNote g x y = 1 := by unfold K_addNote; rw [if_pos hb2]
          refine z_iconst C (v := 0) dX6_addNote_41 (by decide) ?_
          refine z_iret C dX6_addNote_42 ?_
          exact ⟨by rw [hK]; exact MPost.no hM (by decide), fun a => absurd (a.symm.trans hK) (by decide)⟩
      · exact absurd rfl c_16
    · refine z_iload_n C dX6_addNote_15 rfl ?_
      refine z_if_eq C 34 dX6_addNote_16 (by decide) (fun c_16 => ?_) (fun c_16 => ?_)
      · refine z_iconst C (v := 0) dX6_addNote_34 (by decide) ?_
        refine z_cvi C (As := [_, _, _]) (c_X6_goes) okX6_goes wd652 rc_17 (rok (by decide) (by decide)) ⟨Nat.le_of_ble_eq_true rfl, Nat.le_of_ble_eq_true rfl⟩ rfl (Nat.le_of_ble_eq_true rfl) dX6_addNote_35 ?_
        rintro r35 _ ⟨rfl, e35⟩
        refine z_if_ne C 43 dX6_addNote_38 (by decide) (fun c_38 => ?_) (fun c_38 => ?_)
        · exact absurd (e35.trans (by decide)) c_38
        · have hK : K_addNote g x y = 1 := by unfold K_addNote; rw [if_pos hb2]
          refine z_iconst C (v := 0) dX6_addNote_41 (by decide) ?_
          refine z_iret C dX6_addNote_42 ?_
          exact ⟨by rw [hK]; exact MPost.no hM (by decide), fun a => absurd (a.symm.trans hK) (by decide)⟩
      · exact absurd rfl c_16
theorem K_pitch_ok {g : St} {x y : Int32} (hI : Inv g) (h : K_pitch g x y = 0) : x = nI (ix x) ∧ ix x < 8 ∧ y = nI (ix y) ∧ ix y < 16 := by
  obtain ⟨np, hnp, enp⟩ := hI.1
  unfold K_pitch at h
  by_cases hb : bad x (g 0 0 6) ∨ bad y (g 11 (ix x) 1)
  · rw [if_pos hb] at h; exact absurd h (by decide)
  · have b1 : ¬ bad x (nI np) := by rw [← enp]; exact fun q => hb (Or.inl q)
    obtain ⟨e1, h1, h2⟩ := nbad hnp (by decide) b1
    obtain ⟨ec, hc16⟩ := hI.2.2.2.1 (ix x) h2
    have b3 : ¬ bad y (nI (cN g (ix x))) := by rw [← ec]; exact fun q => hb (Or.inr q)
    obtain ⟨e3, h5, h6⟩ := nbad hc16 (by decide) b3
    exact ⟨e1, h2, e3, h6⟩
set_option maxRecDepth 100000 in
set_option maxHeartbeats 4000000 in
theorem c_X6_pitch {l : Launch} {D : va_G} {ad : Nat → Nat → Nat} {cy : Nat → ClassId} {A : Nat → Prop} {sa : Nat → Nat} {σ : St} {g : St} {x y : Int32} (hM : MRel g σ) (hI : Inv g) : MI l D ad cy A sa yX6_pitch cX6_pitch 3 (some .int) 3 σ [.ref (ad 17 0), .int x, .int y] (fun r σ' => MPost g g σ σ' (K_pitch g x y) ∧ (K_pitch g x y = 0 → r = g 12 (ix x) (ix y))) := by
  refine MI.mk "FretSchoolModel" (by decide) rfl (Nat.le_of_ble_eq_true rfl) rfl ?_
  intro p e s m args below meth c C
  change Z _ _ _ _ _ _ _ _ _ _ _ _ _ _ _ _ _ _ _ [some (.ref (ad 17 0)), some (.int x), some (.int y)] 0 []
  refine z_aload_n C dX6_pitch_0 rfl ?_
  refine z_aload_n C dX6_pitch_1 rfl ?_
  refine z_iload_n C dX6_pitch_2 rfl ?_
  refine z_iload_n C dX6_pitch_3 rfl ?_
  refine z_cvi C (As := [_, _]) (c_X6_isNote hM hI) okX6_isNote wd675 rc_17 (rok (by decide) (by decide)) ⟨Nat.le_of_ble_eq_true rfl, Nat.le_of_ble_eq_true rfl⟩ rfl (Nat.le_of_ble_eq_true rfl) dX6_pitch_4 ?_
  rintro r4 _ ⟨rfl, h4⟩
  rcases h4 with ⟨rfl, hb4⟩ | ⟨rfl, hb4⟩
  · have hK : K_pitch g x y = 0 := by unfold K_pitch; rw [if_neg hb4]
    obtain ⟨ex, hx8, ey, hy16⟩ := K_pitch_ok hI hK
    refine z_iconst C (v := 1) dX6_pitch_7 (by decide) ?_
    refine z_iconst C (v := 1) dX6_pitch_8 (by decide) ?_
    refine z_cvi C (As := [_, _, _]) (c_X6_goes) okX6_goes wd652 rc_17 (rok (by decide) (by decide)) ⟨Nat.le_of_ble_eq_true rfl, Nat.le_of_ble_eq_true rfl⟩ rfl (Nat.le_of_ble_eq_true rfl) dX6_pitch_9 ?_
    rintro r9 _ ⟨rfl, e9⟩
    refine z_if_eq C 29 dX6_pitch_12 (by decide) (fun c_12 => ?_) (fun c_12 => ?_)
    · exact absurd (e9.symm.trans c_12) (by decide)
    · refine z_aload_n C dX6_pitch_15 rfl ?_
      refine g_17_3 C wd588 dX6_pitch_16 ?_
      refine z_bipush C (v := 16) dX6_pitch_19 (by decide) ?_
      refine z_iload_n C dX6_pitch_21 rfl ?_
      refine z_imul C dX6_pitch_22 ?_
      refine z_iload_n C dX6_pitch_23 rfl ?_
      refine z_iadd C dX6_pitch_24 ?_
      refine a_19 C (ix2 (m := 16) (i := ix x) (j := ix y) rfl ex ey) (by omega) dX6_pitch_25 ?_
      refine z_goto C 30 dX6_pitch_26 (by decide) ?_
      refine z_iret C dX6_pitch_30 ?_
      exact ⟨MPost.fs hM FS.thr (by rw [up_app, if_pos ⟨rfl, rfl, rfl⟩, hK]; rfl), fun _ => by rw [up_app, if_neg (by omega)]; exact hM.pit hx8 hy16⟩
  · have hK : K_pitch g x y = 1 := by unfold K_pitch; rw [if_pos hb4]
    refine z_iconst C (v := 1) dX6_pitch_7 (by decide) ?_
    refine z_iconst C (v := 1) dX6_pitch_8 (by decide) ?_
    refine z_cvi C (As := [_, _, _]) (c_X6_goes) okX6_goes wd652 rc_17 (rok (by decide) (by decide)) ⟨Nat.le_of_ble_eq_true rfl, Nat.le_of_ble_eq_true rfl⟩ rfl (Nat.le_of_ble_eq_true rfl) dX6_pitch_9 ?_
    rintro r9 _ ⟨rfl, e9⟩
    refine z_if_eq C 29 dX6_pitch_12 (by decide) (fun c_12 => ?_) (fun c_12 => ?_)
    · refine z_iconst C (v := 0) dX6_pitch_29 (by decide) ?_
      refine z_iret C dX6_pitch_30 ?_
      exact ⟨by rw [hK]; exact MPost.no hM (by decide), fun a => absurd (a.symm.trans hK) (by decide)⟩
    · exact absurd (e9.trans (by decide)) c_12
set_option maxRecDepth 100000 in
set_option maxHeartbeats 4000000 in
theorem c_X6_tune {l : Launch} {D : va_G} {ad : Nat → Nat → Nat} {cy : Nat → ClassId} {A : Nat → Prop} {sa : Nat → Nat} {σ : St} {g : St} {x y z : Int32} (hM : MRel g σ) (hI : Inv g) : MI l D ad cy A sa yX6_tune cX6_tune 6 (some .int) 2 σ [.ref (ad 17 0), .int x, .int y, .int z] (fun r σ' => MPost g (up g 14 (ix x) (ix y) z) σ σ' (K_tune g x y z) ∧ (K_tune g x y z = 0 → r = g 14 (ix x) (ix y))) := by
  refine MI.mk "FretSchoolModel" (by decide) rfl (Nat.le_of_ble_eq_true rfl) rfl ?_
  intro p e s m args below meth c C
  change Z _ _ _ _ _ _ _ _ _ _ _ _ _ _ _ _ _ _ _ [some (.ref (ad 17 0)), some (.int x), some (.int y), some (.int z), none, none] 0 []
  obtain ⟨np, hnp, enp⟩ := hI.1
  have enp1 : σ 17 0 1 = nI np := hM.1.trans enp
  obtain ⟨ni, hni, eni⟩ := hI.2.1
  have eni1 : σ 17 0 4 = nI ni := hM.2.1.trans eni
  refine z_aload_n C dX6_tune_0 rfl ?_
  refine z_iload_n C dX6_tune_1 rfl ?_
  refine z_cvi C (As := [_]) (c_X6_isInstrument eni1 (by omega)) okX6_isInstrument wd683 rc_17 (rok (by decide) (by decide)) ⟨Nat.le_of_ble_eq_true rfl, Nat.le_of_ble_eq_true rfl⟩ rfl (Nat.le_of_ble_eq_true rfl) dX6_tune_2 ?_
  rintro r2 _ ⟨rfl, h2⟩
  rw [← eni] at h2
  rcases h2 with ⟨rfl, hb2⟩ | ⟨rfl, hb2⟩
  · obtain ⟨ex, hx1, hx8⟩ := nbad hni (by decide) (by rw [eni] at hb2; exact hb2)
    refine z_istore C dX6_tune_5 (by decide) ?_
    dsimp only [List.set]
    refine z_aload_n C dX6_tune_7 rfl ?_
    refine z_iload C dX6_tune_8 rfl ?_
    refine z_iload_n C dX6_tune_10 rfl ?_
    refine z_iconst C (v := 0) dX6_tune_11 (by decide) ?_
    refine z_iconst C (v := 3) dX6_tune_12 (by decide) ?_
    refine z_csi C (As := [_, _, _]) (c_X6_in) okX6_in wd664 (rok (by decide) (by decide)) ⟨Nat.le_of_ble_eq_true rfl, Nat.le_of_ble_eq_true rfl⟩ rfl (Nat.le_of_ble_eq_true rfl) dX6_tune_13 ?_
    rintro r13 _ ⟨rfl, h13⟩
    refine z_if_eq C 33 dX6_tune_16 (by decide) (fun c_16 => ?_) (fun c_16 => ?_)
    · have hb13 : outR y 0 3 := h13.elim (fun a => absurd (a.1.symm.trans c_16) (by decide)) (fun a => a.2)
      refine z_iconst C (v := 0) dX6_tune_33 (by decide) ?_
      refine z_iconst C (v := 1) dX6_tune_34 (by decide) ?_
      refine z_cvi C (As := [_, _, _]) (c_X6_goes) okX6_goes wd652 rc_17 (rok (by decide) (by decide)) ⟨Nat.le_of_ble_eq_true rfl, Nat.le_of_ble_eq_true rfl⟩ rfl (Nat.le_of_ble_eq_true rfl) dX6_tune_35 ?_
      rintro r35 _ ⟨rfl, e35⟩
      refine z_if_ne C 43 dX6_tune_38 (by decide) (fun c_38 => ?_) (fun c_38 => ?_)
      · exact absurd (e35.trans (by decide)) c_38
      · have hK : K_tune g x y z = 2 := by unfold K_tune; rw [if_neg hb2, if_pos (Or.inl hb13)]
        refine z_iconst C (v := 0) dX6_tune_41 (by decide) ?_
        refine z_iret C dX6_tune_42 ?_
        exact ⟨by rw [hK]; exact MPost.no hM (by decide), fun a => absurd (a.symm.trans hK) (by decide)⟩
    · have hb13 : ¬ outR y 0 3 := h13.elim (fun a => a.2) (fun a => absurd a.1 c_16)
      refine z_iload_n C dX6_tune_19 rfl ?_
      refine z_iconst C (v := 0) dX6_tune_20 (by decide) ?_
      refine z_bipush C (v := 60) dX6_tune_21 (by decide) ?_
      refine z_csi C (As := [_, _, _]) (c_X6_in) okX6_in wd664 (rok (by decide) (by decide)) ⟨Nat.le_of_ble_eq_true rfl, Nat.le_of_ble_eq_true rfl⟩ rfl (Nat.le_of_ble_eq_true rfl) dX6_tune_23 ?_
      rintro r23 _ ⟨rfl, h23⟩
      refine z_if_eq C 33 dX6_tune_26 (by decide) (fun c_26 => ?_) (fun c_26 => ?_)
      · have hb23 : outR z 0 60 := h23.elim (fun a => absurd (a.1.symm.trans c_26) (by decide)) (fun a => a.2)
        refine z_iconst C (v := 0) dX6_tune_33 (by decide) ?_
        refine z_iconst C (v := 1) dX6_tune_34 (by decide) ?_
        refine z_cvi C (As := [_, _, _]) (c_X6_goes) okX6_goes wd652 rc_17 (rok (by decide) (by decide)) ⟨Nat.le_of_ble_eq_true rfl, Nat.le_of_ble_eq_true rfl⟩ rfl (Nat.le_of_ble_eq_true rfl) dX6_tune_35 ?_
        rintro r35 _ ⟨rfl, e35⟩
        refine z_if_ne C 43 dX6_tune_38 (by decide) (fun c_38 => ?_) (fun c_38 => ?_)
        · exact absurd (e35.trans (by decide)) c_38
        · have hK : K_tune g x y z = 2 := by unfold K_tune; rw [if_neg hb2, if_pos (Or.inr hb23)]
          refine z_iconst C (v := 0) dX6_tune_41 (by decide) ?_
          refine z_iret C dX6_tune_42 ?_
          exact ⟨by rw [hK]; exact MPost.no hM (by decide), fun a => absurd (a.symm.trans hK) (by decide)⟩
      · have hb23 : ¬ outR z 0 60 := h23.elim (fun a => a.2) (fun a => absurd a.1 c_26)
        refine z_iconst C (v := 1) dX6_tune_29 (by decide) ?_
        refine z_goto C 34 dX6_tune_30 (by decide) ?_
        refine z_iconst C (v := 1) dX6_tune_34 (by decide) ?_
        refine z_cvi C (As := [_, _, _]) (c_X6_goes) okX6_goes wd652 rc_17 (rok (by decide) (by decide)) ⟨Nat.le_of_ble_eq_true rfl, Nat.le_of_ble_eq_true rfl⟩ rfl (Nat.le_of_ble_eq_true rfl) dX6_tune_35 ?_
        rintro r35 _ ⟨rfl, e35⟩
        refine z_if_ne C 43 dX6_tune_38 (by decide) (fun c_38 => ?_) (fun c_38 => ?_)
        · have hK : K_tune g x y z = 0 := by unfold K_tune; rw [if_neg hb2, if_neg (fun q => q.elim hb13 hb23)]
          obtain ⟨et, ht3⟩ := nout (n := 3) (by decide) hb13
          refine z_aload_n C dX6_tune_43 rfl ?_
          refine g_17_7 C wd592 dX6_tune_44 ?_
          refine z_iconst C (v := 4) dX6_tune_47 (by decide) ?_
          refine z_iload_n C dX6_tune_48 rfl ?_
          refine z_imul C dX6_tune_49 ?_
          refine z_iload_n C dX6_tune_50 rfl ?_
          refine z_iadd C dX6_tune_51 ?_
          refine a_22 C (ix2 (m := 4) (i := ix x) (j := ix y) rfl ex et) (by omega) dX6_tune_52 ?_
          refine z_istore C dX6_tune_53 (by decide) ?_
          dsimp only [List.set]
          refine z_aload_n C dX6_tune_55 rfl ?_
          refine g_17_7 C wd592 dX6_tune_56 ?_
          refine z_iconst C (v := 4) dX6_tune_59 (by decide) ?_
          refine z_iload_n C dX6_tune_60 rfl ?_
          refine z_imul C dX6_tune_61 ?_
          refine z_iload_n C dX6_tune_62 rfl ?_
          refine z_iadd C dX6_tune_63 ?_
          refine z_iload_n C dX6_tune_64 rfl ?_
          refine s_22 C (ix2 (m := 4) (i := ix x) (j := ix y) rfl ex et) (by omega) dX6_tune_65 ?_
          refine z_iload C dX6_tune_66 rfl ?_
          refine z_iret C dX6_tune_68 ?_
          exact ⟨⟨fun a b c0 h => by rw [up_low (by decide) a b c0 h, up_low (by decide) a b c0 h], by rw [up_app, if_neg (by omega), up_app, if_pos ⟨rfl, rfl, rfl⟩, hK]; rfl, fun _ => mr_opn (by omega) (hM.fs FS.thr), fun q => absurd hK q⟩, fun _ => by rw [up_app, if_neg (by omega)]; exact hM.opn hx8 (by omega)⟩
        · exact absurd (e35.symm.trans c_38) (by decide)
  · refine z_istore C dX6_tune_5 (by decide) ?_
    dsimp only [List.set]
    refine z_aload_n C dX6_tune_7 rfl ?_
    refine z_iload C dX6_tune_8 rfl ?_
    refine z_iload_n C dX6_tune_10 rfl ?_
    refine z_iconst C (v := 0) dX6_tune_11 (by decide) ?_
    refine z_iconst C (v := 3) dX6_tune_12 (by decide) ?_
    refine z_csi C (As := [_, _, _]) (c_X6_in) okX6_in wd664 (rok (by decide) (by decide)) ⟨Nat.le_of_ble_eq_true rfl, Nat.le_of_ble_eq_true rfl⟩ rfl (Nat.le_of_ble_eq_true rfl) dX6_tune_13 ?_
    rintro r13 _ ⟨rfl, h13⟩
    refine z_if_eq C 33 dX6_tune_16 (by decide) (fun c_16 => ?_) (fun c_16 => ?_)
    · have hb13 : outR y 0 3 := h13.elim (fun a => absurd (a.1.symm.trans c_16) (by decide)) (fun a => a.2)
      refine z_iconst C (v := 0) dX6_tune_33 (by decide) ?_
      refine z_iconst C (v := 1) dX6_tune_34 (by decide) ?_
      refine z_cvi C (As := [_, _, _]) (c_X6_goes) okX6_goes wd652 rc_17 (rok (by decide) (by decide)) ⟨Nat.le_of_ble_eq_true rfl, Nat.le_of_ble_eq_true rfl⟩ rfl (Nat.le_of_ble_eq_true rfl) dX6_tune_35 ?_
      rintro r35 _ ⟨rfl, e35⟩
      refine z_if_ne C 43 dX6_tune_38 (by decide) (fun c_38 => ?_) (fun c_38 => ?_)
      · exact absurd (e35.trans (by decide)) c_38
      · have hK : K_tune g x y z = 1 := by unfold K_tune; rw [if_pos hb2]
        refine z_iconst C (v := 0) dX6_tune_41 (by decide) ?_
        refine z_iret C dX6_tune_42 ?_
        exact ⟨by rw [hK]; exact MPost.no hM (by decide), fun a => absurd (a.symm.trans hK) (by decide)⟩
    · have hb13 : ¬ outR y 0 3 := h13.elim (fun a => a.2) (fun a => absurd a.1 c_16)
      refine z_iload_n C dX6_tune_19 rfl ?_
      refine z_iconst C (v := 0) dX6_tune_20 (by decide) ?_
      refine z_bipush C (v := 60) dX6_tune_21 (by decide) ?_
      refine z_csi C (As := [_, _, _]) (c_X6_in) okX6_in wd664 (rok (by decide) (by decide)) ⟨Nat.le_of_ble_eq_true rfl, Nat.le_of_ble_eq_true rfl⟩ rfl (Nat.le_of_ble_eq_true rfl) dX6_tune_23 ?_
      rintro r23 _ ⟨rfl, h23⟩
      refine z_if_eq C 33 dX6_tune_26 (by decide) (fun c_26 => ?_) (fun c_26 => ?_)
      · have hb23 : outR z 0 60 := h23.elim (fun a => absurd (a.1.symm.trans c_26) (by decide)) (fun a => a.2)
        refine z_iconst C (v := 0) dX6_tune_33 (by decide) ?_
        refine z_iconst C (v := 1) dX6_tune_34 (by decide) ?_
        refine z_cvi C (As := [_, _, _]) (c_X6_goes) okX6_goes wd652 rc_17 (rok (by decide) (by decide)) ⟨Nat.le_of_ble_eq_true rfl, Nat.le_of_ble_eq_true rfl⟩ rfl (Nat.le_of_ble_eq_true rfl) dX6_tune_35 ?_
        rintro r35 _ ⟨rfl, e35⟩
        refine z_if_ne C 43 dX6_tune_38 (by decide) (fun c_38 => ?_) (fun c_38 => ?_)
        · exact absurd (e35.trans (by decide)) c_38
        · have hK : K_tune g x y z = 1 := by unfold K_tune; rw [if_pos hb2]
          refine z_iconst C (v := 0) dX6_tune_41 (by decide) ?_
          refine z_iret C dX6_tune_42 ?_
          exact ⟨by rw [hK]; exact MPost.no hM (by decide), fun a => absurd (a.symm.trans hK) (by decide)⟩
      · have hb23 : ¬ outR z 0 60 := h23.elim (fun a => a.2) (fun a => absurd a.1 c_26)
        refine z_iconst C (v := 1) dX6_tune_29 (by decide) ?_
        refine z_goto C 34 dX6_tune_30 (by decide) ?_
        refine z_iconst C (v := 1) dX6_tune_34 (by decide) ?_
        refine z_cvi C (As := [_, _, _]) (c_X6_goes) okX6_goes wd652 rc_17 (rok (by decide) (by decide)) ⟨Nat.le_of_ble_eq_true rfl, Nat.le_of_ble_eq_true rfl⟩ rfl (Nat.le_of_ble_eq_true rfl) dX6_tune_35 ?_
        rintro r35 _ ⟨rfl, e35⟩
        refine z_if_ne C 43 dX6_tune_38 (by decide) (fun c_38 => ?_) (fun c_38 => ?_)
        · exact absurd (e35.trans (by decide)) c_38
        · have hK : K_tune g x y z = 1 := by unfold K_tune; rw [if_pos hb2]
          refine z_iconst C (v := 0) dX6_tune_41 (by decide) ?_
          refine z_iret C dX6_tune_42 ?_
          exact ⟨by rw [hK]; exact MPost.no hM (by decide), fun a => absurd (a.symm.trans hK) (by decide)⟩
set_option maxRecDepth 100000 in
set_option maxHeartbeats 4000000 in
theorem c_X6_owner {l : Launch} {D : va_G} {ad : Nat → Nat → Nat} {cy : Nat → ClassId} {A : Nat → Prop} {sa : Nat → Nat} {σ : St} {g : St} {x : Int32} (hM : MRel g σ) (hI : Inv g) : MI l D ad cy A sa yX6_owner cX6_owner 2 (some .int) 2 σ [.ref (ad 17 0), .int x] (fun r σ' => MPost g g σ σ' (K_inst g x) ∧ (K_inst g x = 0 → r = g 13 (ix x) 1)) := by
  refine MI.mk "FretSchoolModel" (by decide) rfl (Nat.le_of_ble_eq_true rfl) rfl ?_
  intro p e s m args below meth c C
  change Z _ _ _ _ _ _ _ _ _ _ _ _ _ _ _ _ _ _ _ [some (.ref (ad 17 0)), some (.int x)] 0 []
  obtain ⟨np, hnp, enp⟩ := hI.1
  have enp1 : σ 17 0 1 = nI np := hM.1.trans enp
  obtain ⟨ni, hni, eni⟩ := hI.2.1
  have eni1 : σ 17 0 4 = nI ni := hM.2.1.trans eni
  refine z_aload_n C dX6_owner_0 rfl ?_
  refine z_aload_n C dX6_owner_1 rfl ?_
  refine z_iload_n C dX6_owner_2 rfl ?_
  refine z_cvi C (As := [_]) (c_X6_isInstrument eni1 (by omega)) okX6_isInstrument wd683 rc_17 (rok (by decide) (by decide)) ⟨Nat.le_of_ble_eq_true rfl, Nat.le_of_ble_eq_true rfl⟩ rfl (Nat.le_of_ble_eq_true rfl) dX6_owner_3 ?_
  rintro r3 _ ⟨rfl, h3⟩
  rw [← eni] at h3
  rcases h3 with ⟨rfl, hb2⟩ | ⟨rfl, hb2⟩
  · have hK : K_inst g x = 0 := by unfold K_inst; rw [if_neg hb2]
    obtain ⟨ex, hx1, hx8⟩ := nbad hni (by decide) (by rw [eni] at hb2; exact hb2)
    refine z_iconst C (v := 1) dX6_owner_6 (by decide) ?_
    refine z_iconst C (v := 1) dX6_owner_7 (by decide) ?_
    refine z_cvi C (As := [_, _, _]) (c_X6_goes) okX6_goes wd652 rc_17 (rok (by decide) (by decide)) ⟨Nat.le_of_ble_eq_true rfl, Nat.le_of_ble_eq_true rfl⟩ rfl (Nat.le_of_ble_eq_true rfl) dX6_owner_8 ?_
    rintro r8 _ ⟨rfl, e8⟩
    refine z_if_eq C 23 dX6_owner_11 (by decide) (fun c_11 => ?_) (fun c_11 => ?_)
    · exact absurd (e8.symm.trans c_11) (by decide)
    · refine z_aload_n C dX6_owner_14 rfl ?_
      refine g_17_5 C wd590 dX6_owner_15 ?_
      refine z_iload_n C dX6_owner_18 rfl ?_
      refine a_20 C ex hx8 dX6_owner_19 ?_
      refine z_goto C 24 dX6_owner_20 (by decide) ?_
      refine z_iret C dX6_owner_24 ?_
      exact ⟨MPost.fs hM FS.thr (by rw [up_app, if_pos ⟨rfl, rfl, rfl⟩, hK]; rfl), fun _ => by rw [up_app, if_neg (by omega)]; exact hM.own hx8⟩
  · have hK : K_inst g x = 1 := by unfold K_inst; rw [if_pos hb2]
    refine z_iconst C (v := 1) dX6_owner_6 (by decide) ?_
    refine z_iconst C (v := 1) dX6_owner_7 (by decide) ?_
    refine z_cvi C (As := [_, _, _]) (c_X6_goes) okX6_goes wd652 rc_17 (rok (by decide) (by decide)) ⟨Nat.le_of_ble_eq_true rfl, Nat.le_of_ble_eq_true rfl⟩ rfl (Nat.le_of_ble_eq_true rfl) dX6_owner_8 ?_
    rintro r8 _ ⟨rfl, e8⟩
    refine z_if_eq C 23 dX6_owner_11 (by decide) (fun c_11 => ?_) (fun c_11 => ?_)
    · refine z_iconst C (v := 0) dX6_owner_23 (by decide) ?_
      refine z_iret C dX6_owner_24 ?_
      exact ⟨by rw [hK]; exact MPost.no hM (by decide), fun a => absurd (a.symm.trans hK) (by decide)⟩
    · exact absurd (e8.trans (by decide)) c_11
set_option maxRecDepth 100000 in
set_option maxHeartbeats 4000000 in
theorem c_X6_ready {l : Launch} {D : va_G} {ad : Nat → Nat → Nat} {cy : Nat → ClassId} {A : Nat → Prop} {sa : Nat → Nat} {σ : St} {g : St} {x : Int32} (hM : MRel g σ) (hI : Inv g) : MI l D ad cy A sa yX6_ready cX6_ready 2 (some .int) 2 σ [.ref (ad 17 0), .int x] (fun r σ' => MPost g g σ σ' (K_ready g x) ∧ (K_ready g x = 0 → r = g 16 (ix x) 2)) := by
  refine MI.mk "FretSchoolModel" (by decide) rfl (Nat.le_of_ble_eq_true rfl) rfl ?_
  intro p e s m args below meth c C
  change Z _ _ _ _ _ _ _ _ _ _ _ _ _ _ _ _ _ _ _ [some (.ref (ad 17 0)), some (.int x)] 0 []
  obtain ⟨no, hno, eno⟩ := hI.2.2.1
  have eno1 : σ 17 0 11 = nI no := hM.2.2.1.trans eno
  refine z_aload_n C dX6_ready_0 rfl ?_
  refine z_aload_n C dX6_ready_1 rfl ?_
  refine z_iload_n C dX6_ready_2 rfl ?_
  refine z_cvi C (As := [_]) (c_X6_isOrder eno1 (by omega)) okX6_isOrder wd794 rc_17 (rok (by decide) (by decide)) ⟨Nat.le_of_ble_eq_true rfl, Nat.le_of_ble_eq_true rfl⟩ rfl (Nat.le_of_ble_eq_true rfl) dX6_ready_3 ?_
  rintro r3 _ ⟨rfl, h3⟩
  rw [← eno] at h3
  rcases h3 with ⟨rfl, hb2⟩ | ⟨rfl, hb2⟩
  · have hK : K_ready g x = 0 := by unfold K_ready; rw [if_neg hb2]
    obtain ⟨ex, hx1, hx8⟩ := nbad hno (by decide) (by rw [eno] at hb2; exact hb2)
    refine z_iconst C (v := 1) dX6_ready_6 (by decide) ?_
    refine z_iconst C (v := 1) dX6_ready_7 (by decide) ?_
    refine z_cvi C (As := [_, _, _]) (c_X6_goes) okX6_goes wd652 rc_17 (rok (by decide) (by decide)) ⟨Nat.le_of_ble_eq_true rfl, Nat.le_of_ble_eq_true rfl⟩ rfl (Nat.le_of_ble_eq_true rfl) dX6_ready_8 ?_
    rintro r8 _ ⟨rfl, e8⟩
    refine z_if_eq C 23 dX6_ready_11 (by decide) (fun c_11 => ?_) (fun c_11 => ?_)
    · exact absurd (e8.symm.trans c_11) (by decide)
    · refine z_aload_n C dX6_ready_14 rfl ?_
      refine g_17_14 C wd599 dX6_ready_15 ?_
      refine z_iload_n C dX6_ready_18 rfl ?_
      refine a_28 C ex hx8 dX6_ready_19 ?_
      refine z_goto C 24 dX6_ready_20 (by decide) ?_
      refine z_iret C dX6_ready_24 ?_
      exact ⟨MPost.fs hM FS.thr (by rw [up_app, if_pos ⟨rfl, rfl, rfl⟩, hK]; rfl), fun _ => by rw [up_app, if_neg (by omega)]; exact hM.rdy hx8⟩
  · have hK : K_ready g x = 1 := by unfold K_ready; rw [if_pos hb2]
    refine z_iconst C (v := 1) dX6_ready_6 (by decide) ?_
    refine z_iconst C (v := 1) dX6_ready_7 (by decide) ?_
    refine z_cvi C (As := [_, _, _]) (c_X6_goes) okX6_goes wd652 rc_17 (rok (by decide) (by decide)) ⟨Nat.le_of_ble_eq_true rfl, Nat.le_of_ble_eq_true rfl⟩ rfl (Nat.le_of_ble_eq_true rfl) dX6_ready_8 ?_
    rintro r8 _ ⟨rfl, e8⟩
    refine z_if_eq C 23 dX6_ready_11 (by decide) (fun c_11 => ?_) (fun c_11 => ?_)
    · refine z_iconst C (v := 0) dX6_ready_23 (by decide) ?_
      refine z_iret C dX6_ready_24 ?_
      exact ⟨by rw [hK]; exact MPost.no hM (by decide), fun a => absurd (a.symm.trans hK) (by decide)⟩
    · exact absurd (e8.trans (by decide)) c_11
set_option maxRecDepth 100000 in
set_option maxHeartbeats 4000000 in
theorem c_X6_level {l : Launch} {D : va_G} {ad : Nat → Nat → Nat} {cy : Nat → ClassId} {A : Nat → Prop} {sa : Nat → Nat} {σ : St} {g : St} {x : Int32} (hM : MRel g σ) : MI l D ad cy A sa yX6_level cX6_level 2 (some .int) 2 σ [.ref (ad 17 0), .int x] (fun r σ' => MPost g g σ σ' (K_pupil x) ∧ (K_pupil x = 0 → r = g 15 (ix x) 0)) := by
  refine MI.mk "FretSchoolModel" (by decide) rfl (Nat.le_of_ble_eq_true rfl) rfl ?_
  intro p e s m args below meth c C
  change Z _ _ _ _ _ _ _ _ _ _ _ _ _ _ _ _ _ _ _ [some (.ref (ad 17 0)), some (.int x)] 0 []
  refine z_aload_n C dX6_level_0 rfl ?_
  refine z_iload_n C dX6_level_1 rfl ?_
  refine z_csi C (As := [_]) (c_X6_isPupil) okX6_isPupil wd755 (rok (by decide) (by decide)) ⟨Nat.le_of_ble_eq_true rfl, Nat.le_of_ble_eq_true rfl⟩ rfl (Nat.le_of_ble_eq_true rfl) dX6_level_2 ?_
  rintro r2 _ ⟨rfl, h2⟩
  rcases h2 with ⟨rfl, hb2⟩ | ⟨rfl, hb2⟩
  · have hK : K_pupil x = 0 := by unfold K_pupil; rw [if_neg hb2]
    obtain ⟨ew, hw4⟩ := nout (n := 4) (by decide) hb2
    have hw5 : ix x < 5 := by omega
    refine z_iconst C (v := 1) dX6_level_5 (by decide) ?_
    refine z_iconst C (v := 1) dX6_level_6 (by decide) ?_
    refine z_cvi C (As := [_, _, _]) (c_X6_goes) okX6_goes wd652 rc_17 (rok (by decide) (by decide)) ⟨Nat.le_of_ble_eq_true rfl, Nat.le_of_ble_eq_true rfl⟩ rfl (Nat.le_of_ble_eq_true rfl) dX6_level_7 ?_
    rintro r7 _ ⟨rfl, e7⟩
    refine z_if_eq C 22 dX6_level_10 (by decide) (fun c_10 => ?_) (fun c_10 => ?_)
    · exact absurd (e7.symm.trans c_10) (by decide)
    · refine z_aload_n C dX6_level_13 rfl ?_
      refine g_17_8 C wd593 dX6_level_14 ?_
      refine z_iload_n C dX6_level_17 rfl ?_
      refine a_23 C ew hw5 dX6_level_18 ?_
      refine z_goto C 23 dX6_level_19 (by decide) ?_
      refine z_iret C dX6_level_23 ?_
      exact ⟨MPost.fs hM FS.thr (by rw [up_app, if_pos ⟨rfl, rfl, rfl⟩, hK]; rfl), fun _ => by rw [up_app, if_neg (by omega)]; exact hM.lev hw5⟩
  · have hK : K_pupil x = 1 := by unfold K_pupil; rw [if_pos hb2]
    refine z_iconst C (v := 1) dX6_level_5 (by decide) ?_
    refine z_iconst C (v := 1) dX6_level_6 (by decide) ?_
    refine z_cvi C (As := [_, _, _]) (c_X6_goes) okX6_goes wd652 rc_17 (rok (by decide) (by decide)) ⟨Nat.le_of_ble_eq_true rfl, Nat.le_of_ble_eq_true rfl⟩ rfl (Nat.le_of_ble_eq_true rfl) dX6_level_7 ?_
    rintro r7 _ ⟨rfl, e7⟩
    refine z_if_eq C 22 dX6_level_10 (by decide) (fun c_10 => ?_) (fun c_10 => ?_)
    · refine z_iconst C (v := 0) dX6_level_22 (by decide) ?_
      refine z_iret C dX6_level_23 ?_
      exact ⟨by rw [hK]; exact MPost.no hM (by decide), fun a => absurd (a.symm.trans hK) (by decide)⟩
    · exact absurd (e7.trans (by decide)) c_10
set_option maxRecDepth 100000 in
set_option maxHeartbeats 4000000 in
theorem c_X6_known {l : Launch} {D : va_G} {ad : Nat → Nat → Nat} {cy : Nat → ClassId} {A : Nat → Prop} {sa : Nat → Nat} {σ : St} {g : St} {x : Int32} (hM : MRel g σ) : MI l D ad cy A sa yX6_known cX6_known 2 (some .int) 2 σ [.ref (ad 17 0), .int x] (fun r σ' => MPost g g σ σ' (K_pupil x) ∧ (K_pupil x = 0 → r = g 15 (ix x) 1)) := by
  refine MI.mk "FretSchoolModel" (by decide) rfl (Nat.le_of_ble_eq_true rfl) rfl ?_
  intro p e s m args below meth c C
  change Z _ _ _ _ _ _ _ _ _ _ _ _ _ _ _ _ _ _ _ [some (.ref (ad 17 0)), some (.int x)] 0 []
  refine z_aload_n C dX6_known_0 rfl ?_
  refine z_iload_n C dX6_known_1 rfl ?_
  refine z_csi C (As := [_]) (c_X6_isPupil) okX6_isPupil wd755 (rok (by decide) (by decide)) ⟨Nat.le_of_ble_eq_true rfl, Nat.le_of_ble_eq_true rfl⟩ rfl (Nat.le_of_ble_eq_true rfl) dX6_known_2 ?_
  rintro r2 _ ⟨rfl, h2⟩
  rcases h2 with ⟨rfl, hb2⟩ | ⟨rfl, hb2⟩
  · have hK : K_pupil x = 0 := by unfold K_pupil; rw [if_neg hb2]
    obtain ⟨ew, hw4⟩ := nout (n := 4) (by decide) hb2
    have hw5 : ix x < 5 := by omega
    refine z_iconst C (v := 1) dX6_known_5 (by decide) ?_
    refine z_iconst C (v := 1) dX6_known_6 (by decide) ?_
    refine z_cvi C (As := [_, _, _]) (c_X6_goes) okX6_goes wd652 rc_17 (rok (by decide) (by decide)) ⟨Nat.le_of_ble_eq_true rfl, Nat.le_of_ble_eq_true rfl⟩ rfl (Nat.le_of_ble_eq_true rfl) dX6_known_7 ?_
    rintro r7 _ ⟨rfl, e7⟩
    refine z_if_eq C 22 dX6_known_10 (by decide) (fun c_10 => ?_) (fun c_10 => ?_)
    · exact absurd (e7.symm.trans c_10) (by decide)
    · refine z_aload_n C dX6_known_13 rfl ?_
      refine g_17_9 C wd594 dX6_known_14 ?_
      refine z_iload_n C dX6_known_17 rfl ?_
      refine a_24 C ew hw5 dX6_known_18 ?_
      refine z_goto C 23 dX6_known_19 (by decide) ?_
      refine z_iret C dX6_known_23 ?_
      exact ⟨MPost.fs hM FS.thr (by rw [up_app, if_pos ⟨rfl, rfl, rfl⟩, hK]; rfl), fun _ => by rw [up_app, if_neg (by omega)]; exact hM.kno hw5⟩
  · have hK : K_pupil x = 1 := by unfold K_pupil; rw [if_pos hb2]
    refine z_iconst C (v := 1) dX6_known_5 (by decide) ?_
    refine z_iconst C (v := 1) dX6_known_6 (by decide) ?_
    refine z_cvi C (As := [_, _, _]) (c_X6_goes) okX6_goes wd652 rc_17 (rok (by decide) (by decide)) ⟨Nat.le_of_ble_eq_true rfl, Nat.le_of_ble_eq_true rfl⟩ rfl (Nat.le_of_ble_eq_true rfl) dX6_known_7 ?_
    rintro r7 _ ⟨rfl, e7⟩
    refine z_if_eq C 22 dX6_known_10 (by decide) (fun c_10 => ?_) (fun c_10 => ?_)
    · refine z_iconst C (v := 0) dX6_known_22 (by decide) ?_
      refine z_iret C dX6_known_23 ?_
      exact ⟨by rw [hK]; exact MPost.no hM (by decide), fun a => absurd (a.symm.trans hK) (by decide)⟩
    · exact absurd (e7.trans (by decide)) c_10
set_option maxRecDepth 100000 in
set_option maxHeartbeats 4000000 in
theorem c_X6_instruments {l : Launch} {D : va_G} {ad : Nat → Nat → Nat} {cy : Nat → ClassId} {A : Nat → Prop} {sa : Nat → Nat} {σ : St} {g : St} (hM : MRel g σ) : MI l D ad cy A sa yX6_instruments cX6_instruments 1 (some .int) 1 σ [.ref (ad 17 0)] (fun r σ' => r = g 0 0 7 ∧ MPost g g σ σ' 0) := by
  refine MI.mk "FretSchoolModel" (by decide) rfl (Nat.le_of_ble_eq_true rfl) rfl ?_
  intro p e s m args below meth c C
  change Z _ _ _ _ _ _ _ _ _ _ _ _ _ _ _ _ _ _ _ [some (.ref (ad 17 0))] 0 []
  refine z_aload_n C dX6_instruments_0 rfl ?_
  refine z_aload_n C dX6_instruments_1 rfl ?_
  refine g_17_4 C wd589 dX6_instruments_2 ?_
  refine z_cvi C (As := [_]) (c_X6_told) okX6_told wd695 rc_17 (rok (by decide) (by decide)) ⟨Nat.le_of_ble_eq_true rfl, Nat.le_of_ble_eq_true rfl⟩ rfl (Nat.le_of_ble_eq_true rfl) dX6_instruments_5 ?_
  rintro r5 _ ⟨e5, rfl⟩
  refine z_iret C dX6_instruments_8 ?_
  exact ⟨e5.trans hM.2.1, MPost.fs hM FS.thr (by rw [up_app, if_pos ⟨rfl, rfl, rfl⟩]; rfl)⟩
set_option maxRecDepth 100000 in
set_option maxHeartbeats 4000000 in
theorem c_X6_today {l : Launch} {D : va_G} {ad : Nat → Nat → Nat} {cy : Nat → ClassId} {A : Nat → Prop} {sa : Nat → Nat} {σ : St} {g : St} (hM : MRel g σ) : MI l D ad cy A sa yX6_today cX6_today 1 (some .int) 1 σ [.ref (ad 17 0)] (fun r σ' => r = g 0 0 9 ∧ MPost g g σ σ' 0) := by
  refine MI.mk "FretSchoolModel" (by decide) rfl (Nat.le_of_ble_eq_true rfl) rfl ?_
  intro p e s m args below meth c C
  change Z _ _ _ _ _ _ _ _ _ _ _ _ _ _ _ _ _ _ _ [some (.ref (ad 17 0))] 0 []
  refine z_aload_n C dX6_today_0 rfl ?_
  refine z_aload_n C dX6_today_1 rfl ?_
  refine g_17_0 C wd585 dX6_today_2 ?_
  refine z_cvi C (As := [_]) (c_X6_told) okX6_told wd695 rc_17 (rok (by decide) (by decide)) ⟨Nat.le_of_ble_eq_true rfl, Nat.le_of_ble_eq_true rfl⟩ rfl (Nat.le_of_ble_eq_true rfl) dX6_today_5 ?_
  rintro r5 _ ⟨e5, rfl⟩
  refine z_iret C dX6_today_8 ?_
  exact ⟨e5.trans hM.2.2.2.1, MPost.fs hM FS.thr (by rw [up_app, if_pos ⟨rfl, rfl, rfl⟩]; rfl)⟩
set_option maxRecDepth 100000 in
set_option maxHeartbeats 4000000 in
theorem c_X6_addWood {l : Launch} {D : va_G} {ad : Nat → Nat → Nat} {cy : Nat → ClassId} {A : Nat → Prop} {sa : Nat → Nat} {σ : St} {g : St} {x y : Int32} (hM : MRel g σ) : MI l D ad cy A sa yX6_addWood cX6_addWood 3 (some .int) 1 σ [.ref (ad 17 0), .int x, .int y] (fun r σ' => MPost g (up g 5 0 (ix x) (g 5 0 (ix x) + y)) σ σ' (K_wood x y) ∧ (K_wood x y = 0 → r = g 5 0 (ix x) + y)) := by
  refine MI.mk "FretSchoolModel" (by decide) rfl (Nat.le_of_ble_eq_true rfl) rfl ?_
  intro p e s m args below meth c C
  change Z _ _ _ _ _ _ _ _ _ _ _ _ _ _ _ _ _ _ _ [some (.ref (ad 17 0)), some (.int x), some (.int y)] 0 []
  refine z_aload_n C dX6_addWood_0 rfl ?_
  refine z_iload_n C dX6_addWood_1 rfl ?_
  refine z_iconst C (v := 0) dX6_addWood_2 (by decide) ?_
  refine z_iconst C (v := 3) dX6_addWood_3 (by decide) ?_
  refine z_csi C (As := [_, _, _]) (c_X6_in) okX6_in wd664 (rok (by decide) (by decide)) ⟨Nat.le_of_ble_eq_true rfl, Nat.le_of_ble_eq_true rfl⟩ rfl (Nat.le_of_ble_eq_true rfl) dX6_addWood_4 ?_
  rintro r4 _ ⟨rfl, h4⟩
  refine z_if_eq C 24 dX6_addWood_7 (by decide) (fun c_7 => ?_) (fun c_7 => ?_)
  · have hb4 : outR x 0 3 := h4.elim (fun a => absurd (a.1.symm.trans c_7) (by decide)) (fun a => a.2)
    refine z_iconst C (v := 0) dX6_addWood_24 (by decide) ?_
    refine z_iconst C (v := 1) dX6_addWood_25 (by decide) ?_
    refine z_iconst C (v := 1) dX6_addWood_26 (by decide) ?_
    refine z_cvi C (As := [_, _, _]) (c_X6_goes) okX6_goes wd652 rc_17 (rok (by decide) (by decide)) ⟨Nat.le_of_ble_eq_true rfl, Nat.le_of_ble_eq_true rfl⟩ rfl (Nat.le_of_ble_eq_true rfl) dX6_addWood_27 ?_
    rintro r27 _ ⟨rfl, e27⟩
    refine z_if_ne C 35 dX6_addWood_30 (by decide) (fun c_30 => ?_) (fun c_30 => ?_)
    · exact absurd (e27.trans (by decide)) c_30
    · have hK : K_wood x y = 1 := by unfold K_wood; rw [if_pos (Or.inl hb4)]
      refine z_iconst C (v := 0) dX6_addWood_33 (by decide) ?_
      refine z_iret C dX6_addWood_34 ?_
      exact ⟨by rw [hK]; exact MPost.no hM (by decide), fun a => absurd (a.symm.trans hK) (by decide)⟩
  · have hb4 : ¬ outR x 0 3 := h4.elim (fun a => a.2) (fun a => absurd a.1 c_7)
    refine z_iload_n C dX6_addWood_10 rfl ?_
    refine z_iconst C (v := 1) dX6_addWood_11 (by decide) ?_
    refine z_bipush C (v := 20) dX6_addWood_12 (by decide) ?_
    refine z_csi C (As := [_, _, _]) (c_X6_in) okX6_in wd664 (rok (by decide) (by decide)) ⟨Nat.le_of_ble_eq_true rfl, Nat.le_of_ble_eq_true rfl⟩ rfl (Nat.le_of_ble_eq_true rfl) dX6_addWood_14 ?_
    rintro r14 _ ⟨rfl, h14⟩
    refine z_if_eq C 24 dX6_addWood_17 (by decide) (fun c_17 => ?_) (fun c_17 => ?_)
    · have hb14 : outR y 1 20 := h14.elim (fun a => absurd (a.1.symm.trans c_17) (by decide)) (fun a => a.2)
      refine z_iconst C (v := 0) dX6_addWood_24 (by decide) ?_
      refine z_iconst C (v := 1) dX6_addWood_25 (by decide) ?_
      refine z_iconst C (v := 1) dX6_addWood_26 (by decide) ?_
      refine z_cvi C (As := [_, _, _]) (c_X6_goes) okX6_goes wd652 rc_17 (rok (by decide) (by decide)) ⟨Nat.le_of_ble_eq_true rfl, Nat.le_of_ble_eq_true rfl⟩ rfl (Nat.le_of_ble_eq_true rfl) dX6_addWood_27 ?_
      rintro r27 _ ⟨rfl, e27⟩
      refine z_if_ne C 35 dX6_addWood_30 (by decide) (fun c_30 => ?_) (fun c_30 => ?_)
      · exact absurd (e27.trans (by decide)) c_30
      · have hK : K_wood x y = 1 := by unfold K_wood; rw [if_pos (Or.inr hb14)]
        refine z_iconst C (v := 0) dX6_addWood_33 (by decide) ?_
        refine z_iret C dX6_addWood_34 ?_
        exact ⟨by rw [hK]; exact MPost.no hM (by decide), fun a => absurd (a.symm.trans hK) (by decide)⟩
    · have hb14 : ¬ outR y 1 20 := h14.elim (fun a => a.2) (fun a => absurd a.1 c_17)
      refine z_iconst C (v := 1) dX6_addWood_20 (by decide) ?_
      refine z_goto C 25 dX6_addWood_21 (by decide) ?_
      refine z_iconst C (v := 1) dX6_addWood_25 (by decide) ?_
      refine z_iconst C (v := 1) dX6_addWood_26 (by decide) ?_
      refine z_cvi C (As := [_, _, _]) (c_X6_goes) okX6_goes wd652 rc_17 (rok (by decide) (by decide)) ⟨Nat.le_of_ble_eq_true rfl, Nat.le_of_ble_eq_true rfl⟩ rfl (Nat.le_of_ble_eq_true rfl) dX6_addWood_27 ?_
      rintro r27 _ ⟨rfl, e27⟩
      refine z_if_ne C 35 dX6_addWood_30 (by decide) (fun c_30 => ?_) (fun c_30 => ?_)
      · have hK : K_wood x y = 0 := by unfold K_wood; rw [if_neg (fun q => q.elim hb4 hb14)]
        obtain ⟨et, ht3⟩ := nout (n := 3) (by decide) hb4
        refine z_aload_n C dX6_addWood_35 rfl ?_
        refine g_17_10 C wd595 dX6_addWood_36 ?_
        refine z_iload_n C dX6_addWood_39 rfl ?_
        refine z_dup2 C dX6_addWood_40 rfl rfl ?_
        refine a_25 C et (by omega) dX6_addWood_41 ?_
        refine z_iload_n C dX6_addWood_42 rfl ?_
        refine z_iadd C dX6_addWood_43 ?_
        refine s_25 C et (by omega) dX6_addWood_44 ?_
        refine z_aload_n C dX6_addWood_45 rfl ?_
        refine g_17_10 C wd595 dX6_addWood_46 ?_
        refine z_iload_n C dX6_addWood_49 rfl ?_
        refine a_25 C et (by omega) dX6_addWood_50 ?_
        refine z_iret C dX6_addWood_51 ?_
        have es : up σ 17 0 18 (nI (tC 1 1 1)) 25 0 (ix x) = g 5 0 (ix x) := by rw [up_app, if_neg (by omega)]; exact hM.stk (by omega)
        rw [es]
        exact ⟨⟨fun a b c0 h => by rw [up_low (by decide) a b c0 h, up_low (by decide) a b c0 h], by rw [up_app, if_neg (by omega), up_app, if_pos ⟨rfl, rfl, rfl⟩, hK]; rfl, fun _ => mr_stk (hM.fs FS.thr), fun q => absurd hK q⟩, fun _ => by rw [up_app, if_pos ⟨rfl, rfl, rfl⟩]⟩
      · exact absurd (e27.symm.trans c_30) (by decide)
set_option maxRecDepth 100000 in
set_option maxHeartbeats 4000000 in
theorem c_X6_pass {l : Launch} {D : va_G} {ad : Nat → Nat → Nat} {cy : Nat → ClassId} {A : Nat → Prop} {sa : Nat → Nat} {σ : St} {g : St} {x : Int32} (hM : MRel g σ) : MI l D ad cy A sa yX6_pass cX6_pass 3 (some .int) 1 σ [.ref (ad 17 0), .int x] (fun r σ' => MPost g (up g 0 0 9 (g 0 0 9 + x)) σ σ' (K_pass g x) ∧ (K_pass g x = 0 → r = g 0 0 9 + x)) := by
  refine MI.mk "FretSchoolModel" (by decide) rfl (Nat.le_of_ble_eq_true rfl) rfl ?_
  intro p e s m args below meth c C
  change Z _ _ _ _ _ _ _ _ _ _ _ _ _ _ _ _ _ _ _ [some (.ref (ad 17 0)), some (.int x), none] 0 []
  refine z_iload_n C dX6_pass_0 rfl ?_
  refine z_iconst C (v := 1) dX6_pass_1 (by decide) ?_
  refine z_bipush C (v := 100) dX6_pass_2 (by decide) ?_
  refine z_csi C (As := [_, _, _]) (c_X6_in) okX6_in wd664 (rok (by decide) (by decide)) ⟨Nat.le_of_ble_eq_true rfl, Nat.le_of_ble_eq_true rfl⟩ rfl (Nat.le_of_ble_eq_true rfl) dX6_pass_4 ?_
  rintro r4 _ ⟨rfl, h4⟩
  rcases h4 with ⟨rfl, hb4⟩ | ⟨rfl, hb4⟩
  · refine z_istore_n C dX6_pass_7 (by decide) ?_
    dsimp only [List.set]
    refine z_aload_n C dX6_pass_8 rfl ?_
    refine z_iload_n C dX6_pass_9 rfl ?_
    refine z_iload_n C dX6_pass_10 rfl ?_
    refine z_if_eq C 30 dX6_pass_11 (by decide) (fun c_11 => ?_) (fun c_11 => ?_)
    · exact absurd c_11 (by decide)
    · refine z_aload_n C dX6_pass_14 rfl ?_
      refine g_17_0 C wd585 dX6_pass_15 ?_
      refine z_iload_n C dX6_pass_18 rfl ?_
      refine z_iadd C dX6_pass_19 ?_
      refine z_sipush C (v := 5000) dX6_pass_20 (by decide) ?_
      refine z_icmp_gt C 30 dX6_pass_23 (by decide) (fun c_23 => ?_) (fun c_23 => ?_)
      · rw [hM.2.2.2.1] at c_23
        refine z_iconst C (v := 0) dX6_pass_30 (by decide) ?_
        refine z_iconst C (v := 1) dX6_pass_31 (by decide) ?_
        refine z_cvi C (As := [_, _, _]) (c_X6_goes) okX6_goes wd652 rc_17 (rok (by decide) (by decide)) ⟨Nat.le_of_ble_eq_true rfl, Nat.le_of_ble_eq_true rfl⟩ rfl (Nat.le_of_ble_eq_true rfl) dX6_pass_32 ?_
        rintro r32 _ ⟨rfl, e32⟩
        refine z_if_ne C 40 dX6_pass_35 (by decide) (fun c_35 => ?_) (fun c_35 => ?_)
        · exact absurd (e32.trans (by decide)) c_35
        · have hK : K_pass g x = 2 := by unfold K_pass; rw [if_neg hb4, if_pos (Int32.not_le.mpr c_23)]
          refine z_iconst C (v := 0) dX6_pass_38 (by decide) ?_
          refine z_iret C dX6_pass_39 ?_
          exact ⟨by rw [hK]; exact MPost.no hM (by decide), fun a => absurd (a.symm.trans hK) (by decide)⟩
      · rw [hM.2.2.2.1] at c_23
        refine z_iconst C (v := 1) dX6_pass_26 (by decide) ?_
        refine z_goto C 31 dX6_pass_27 (by decide) ?_
        refine z_iconst C (v := 1) dX6_pass_31 (by decide) ?_
        refine z_cvi C (As := [_, _, _]) (c_X6_goes) okX6_goes wd652 rc_17 (rok (by decide) (by decide)) ⟨Nat.le_of_ble_eq_true rfl, Nat.le_of_ble_eq_true rfl⟩ rfl (Nat.le_of_ble_eq_true rfl) dX6_pass_32 ?_
        rintro r32 _ ⟨rfl, e32⟩
        refine z_if_ne C 40 dX6_pass_35 (by decide) (fun c_35 => ?_) (fun c_35 => ?_)
        · have hK : K_pass g x = 0 := by unfold K_pass; rw [if_neg hb4, if_neg (fun q => q (Int32.not_lt.mp c_23))]
          refine z_aload_n C dX6_pass_40 rfl ?_
          refine z_dup C dX6_pass_41 rfl ?_
          refine g_17_0 C wd585 dX6_pass_42 ?_
          refine z_iload_n C dX6_pass_45 rfl ?_
          refine z_iadd C dX6_pass_46 ?_
          refine p_17_0 C wd585 dX6_pass_47 ?_
          refine z_aload_n C dX6_pass_50 rfl ?_
          refine g_17_0 C wd585 dX6_pass_51 ?_
          refine z_iret C dX6_pass_54 ?_
          have es : up σ 17 0 18 (nI (tC 1 1 1)) 17 0 0 = g 0 0 9 := by rw [up_app, if_neg (by omega)]; exact hM.2.2.2.1
          rw [es]
          exact ⟨⟨fun a b c0 h => by rw [up_low (by decide) a b c0 h, up_low (by decide) a b c0 h], by rw [up_app, if_neg (by omega), up_app, if_pos ⟨rfl, rfl, rfl⟩, hK]; rfl, fun _ => mr_day (hM.fs FS.thr), fun q => absurd hK q⟩, fun _ => by rw [up_app, if_pos ⟨rfl, rfl, rfl⟩]⟩
        · exact absurd (e32.symm.trans c_35) (by decide)
  · refine z_istore_n C dX6_pass_7 (by decide) ?_
    dsimp only [List.set]
    refine z_aload_n C dX6_pass_8 rfl ?_
    refine z_iload_n C dX6_pass_9 rfl ?_
    refine z_iload_n C dX6_pass_10 rfl ?_
    refine z_if_eq C 30 dX6_pass_11 (by decide) (fun c_11 => ?_) (fun c_11 => ?_)
    · refine z_iconst C (v := 0) dX6_pass_30 (by decide) ?_
      refine z_iconst C (v := 1) dX6_pass_31 (by decide) ?_
      refine z_cvi C (As := [_, _, _]) (c_X6_goes) okX6_goes wd652 rc_17 (rok (by decide) (by decide)) ⟨Nat.le_of_ble_eq_true rfl, Nat.le_of_ble_eq_true rfl⟩ rfl (Nat.le_of_ble_eq_true rfl) dX6_pass_32 ?_
      rintro r32 _ ⟨rfl, e32⟩
      refine z_if_ne C 40 dX6_pass_35 (by decide) (fun c_35 => ?_) (fun c_35 => ?_)
      · exact absurd (e32.trans (by decide)) c_35
      · have hK : K_pass g x = 1 := by unfold K_pass; rw [if_pos hb4]
        refine z_iconst C (v := 0) dX6_pass_38 (by decide) ?_
        refine z_iret C dX6_pass_39 ?_
        exact ⟨by rw [hK]; exact MPost.no hM (by decide), fun a => absurd (a.symm.trans hK) (by decide)⟩
    · exact absurd rfl c_11
