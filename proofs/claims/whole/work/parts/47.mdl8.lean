/-! ===== the model: transpose, lessons, orders ===== -/
set_option maxRecDepth 100000 in
set_option maxHeartbeats 4000000 in
theorem c_X6_isKnown {l : Launch} {D : va_G} {ad : Nat → Nat → Nat} {cy : Nat → ClassId} {A : Nat → Prop} {sa : Nat → Nat} {σ : St} {g : St} {w x : Int32} {j : Nat} (hM : MRel g σ) (ew : w = nI (ix w)) (hw5 : ix w < 5) (ex : x = nI j) (hj : j < 8) : MI l D ad cy A sa yX6_isKnown cX6_isKnown 3 (some .boolean) 0 σ [.ref (ad 17 0), .int w, .int x] (fun r σ' => σ = σ' ∧ ((r = 1 ∧ knowsP g w x) ∨ (r = 0 ∧ ¬ knowsP g w x))) := by
  refine MI.mk "FretSchoolModel" (by decide) rfl (Nat.le_of_ble_eq_true rfl) rfl ?_
  intro p e s m args below meth c C
  change Z _ _ _ _ _ _ _ _ _ _ _ _ _ _ _ _ _ _ _ [some (.ref (ad 17 0)), some (.int w), some (.int x)] 0 []
  refine z_aload_n C dX6_isKnown_0 rfl ?_
  refine g_17_9 C wd594 dX6_isKnown_1 ?_
  refine z_iload_n C dX6_isKnown_4 rfl ?_
  refine a_24 C ew hw5 dX6_isKnown_5 ?_
  refine z_iload_n C dX6_isKnown_6 rfl ?_
  refine z_ishr C dX6_isKnown_7 ?_
  refine z_iconst C (v := 1) dX6_isKnown_8 (by decide) ?_
  refine z_iand C dX6_isKnown_9 ?_
  refine z_iconst C (v := 1) dX6_isKnown_10 (by decide) ?_
  refine z_icmp_ne C 18 dX6_isKnown_11 (by decide) (fun c_11 => ?_) (fun c_11 => ?_)
  · have hk : ¬ knowsP g w x := fun q => c_11 (by rw [hM.kno hw5, ex, bit_two (by omega), ← ex]; exact q)
    refine z_iconst C (v := 0) dX6_isKnown_18 (by decide) ?_
    refine z_zret C dX6_isKnown_19 (by first | exact Or.inl rfl | exact Or.inr rfl | assumption) ?_
    exact ⟨rfl, Or.inr ⟨rfl, hk⟩⟩
  · have hk : knowsP g w x := by rw [hM.kno hw5, ex, bit_two (by omega), ← ex] at c_11; exact c_11
    refine z_iconst C (v := 1) dX6_isKnown_14 (by decide) ?_
    refine z_goto C 19 dX6_isKnown_15 (by decide) ?_
    refine z_zret C dX6_isKnown_19 (by first | exact Or.inl rfl | exact Or.inr rfl | assumption) ?_
    exact ⟨rfl, Or.inl ⟨rfl, hk⟩⟩
theorem nI_nm1 {n : Nat} (h : n < 2 ^ 31) : nI n ≠ -1 := by
  intro e
  have e2 := congrArg Int32.toInt e
  rw [nI_toInt h, show (-1 : Int32).toInt = -1 by decide] at e2
  omega
theorem lsV_yes {g : St} {w : Int32} {j q : Nat} (h1 : g 13 q 1 = w) (h2 : PLw g j q) (h3 : ¬ g 15 (ix w) 0 < valH g j q) : lsV g w j q = valH g j q ∧ valH g j q = nI (HG g j q) ∧ HG g j q < 13 := by
  obtain ⟨e, hl⟩ := h2.hval
  refine ⟨?_, e, hl⟩
  rw [e] at h3
  unfold lsV
  rw [if_pos ⟨h1, h2, h3⟩, e]
theorem lsV_no1 {g : St} {w : Int32} {j q : Nat} (h : ¬ g 13 q 1 = w) : lsV g w j q = -1 := by unfold lsV; rw [if_neg (fun a => h a.1)]
theorem lsV_no2 {g : St} {w : Int32} {j q : Nat} (h : ¬ PLw g j q) : lsV g w j q = -1 := by unfold lsV; rw [if_neg (fun a => h a.2.1)]
theorem lsV_no3 {g : St} {w : Int32} {j q : Nat} (h2 : PLw g j q) (h : g 15 (ix w) 0 < valH g j q) : lsV g w j q = -1 := by
  rw [h2.hval.1] at h
  unfold lsV
  rw [if_neg (fun a => a.2.2 h)]
theorem valH_1 {g : St} {j q : Nat} (h : valH g j q = -1) : ¬ PLw g j q := fun a => by
  obtain ⟨e, hl⟩ := a.hval
  exact nI_nm1 (Nat.lt_trans hl (by decide)) (e.symm.trans h)
theorem valH_2 {g : St} {j q : Nat} (h : ¬ valH g j q = -1) : PLw g j q := Classical.byContradiction fun a => h (PLw.nval a).1
set_option maxRecDepth 100000 in
set_option maxHeartbeats 4000000 in
theorem c_X6_canLearn {l : Launch} {D : va_G} {ad : Nat → Nat → Nat} {cy : Nat → ClassId} {A : Nat → Prop} {sa : Nat → Nat} {σ : St} {g : St} {w x1 x2 : Int32} {j q : Nat} (hM : MRel g σ) (hI : Inv g) (ew : w = nI (ix w)) (hw5 : ix w < 5) (e1 : x1 = nI j) (hj : j < 8) (e2 : x2 = nI q) (hq : q < 8) (hl : nI q < g 0 0 7) : MI l D ad cy A sa yX6_canLearn cX6_canLearn 5 (some .boolean) 6 σ [.ref (ad 17 0), .int w, .int x1, .int x2] (fun r σ' => FR σ σ' ∧ ((r = 1 ∧ ¬ knowsP g w x1 ∧ ¬ lsV g w j q = -1 ∧ lsV g w j q = valH g j q ∧ HG g j q < 13 ∧ valH g j q = nI (HG g j q)) ∨ (r = 0 ∧ (knowsP g w x1 ∨ lsV g w j q = -1)))) := by
  refine MI.mk "FretSchoolModel" (by decide) rfl (Nat.le_of_ble_eq_true rfl) rfl ?_
  intro p e s m args below meth c C
  change Z _ _ _ _ _ _ _ _ _ _ _ _ _ _ _ _ _ _ _ [some (.ref (ad 17 0)), some (.int w), some (.int x1), some (.int x2), none] 0 []
  refine z_aload_n C dX6_canLearn_0 rfl ?_
  refine z_iload_n C dX6_canLearn_1 rfl ?_
  refine z_iload_n C dX6_canLearn_2 rfl ?_
  refine z_cvi C (As := [_, _]) (c_X6_hardestOf hM hI e1 hj e2 hq hl) okX6_hardestOf wd735 rc_17 (rok (by decide) (by decide)) ⟨Nat.le_of_ble_eq_true rfl, Nat.le_of_ble_eq_true rfl⟩ rfl (Nat.le_of_ble_eq_true rfl) dX6_canLearn_3 ?_
  rintro r3 σ1 ⟨hfr, e3⟩
  have hM1 : MRel g σ1 := hM.fs hfr.fs
  refine z_istore C dX6_canLearn_6 (by decide) ?_
  dsimp only [List.set]
  refine z_aload_n C dX6_canLearn_8 rfl ?_
  refine g_17_5 C wd590 dX6_canLearn_9 ?_
  refine z_iload_n C dX6_canLearn_12 rfl ?_
  refine a_20 C e2 hq dX6_canLearn_13 ?_
  refine z_iload_n C dX6_canLearn_14 rfl ?_
  refine z_icmp_ne C 48 dX6_canLearn_15 (by decide) (fun c_15 => ?_) (fun c_15 => ?_)
  · rw [hM1.own hq] at c_15
    refine z_iconst C (v := 0) dX6_canLearn_48 (by decide) ?_
    refine z_zret C dX6_canLearn_49 (by first | exact Or.inl rfl | exact Or.inr rfl | assumption) ?_
    exact ⟨hfr, Or.inr ⟨rfl, Or.inr (lsV_no1 c_15)⟩⟩
  · rw [hM1.own hq] at c_15
    refine z_aload_n C dX6_canLearn_18 rfl ?_
    refine z_iload_n C dX6_canLearn_19 rfl ?_
    refine z_iload_n C dX6_canLearn_20 rfl ?_
    refine z_cvi C (As := [_, _]) (c_X6_isKnown hM1 ew hw5 e1 hj) okX6_isKnown wd762 rc_17 (rok (by decide) (by decide)) ⟨Nat.le_of_ble_eq_true rfl, Nat.le_of_ble_eq_true rfl⟩ rfl (Nat.le_of_ble_eq_true rfl) dX6_canLearn_21 ?_
    rintro r21 _ ⟨rfl, h21⟩
    refine z_if_ne C 48 dX6_canLearn_24 (by decide) (fun c_24 => ?_) (fun c_24 => ?_)
    · have hk : knowsP g w x1 := h21.elim (fun a => a.2) (fun a => absurd a.1 c_24)
      refine z_iconst C (v := 0) dX6_canLearn_48 (by decide) ?_
      refine z_zret C dX6_canLearn_49 (by first | exact Or.inl rfl | exact Or.inr rfl | assumption) ?_
      exact ⟨hfr, Or.inr ⟨rfl, Or.inl hk⟩⟩
    · have hk : ¬ knowsP g w x1 := h21.elim (fun a => absurd (a.1.symm.trans c_24) (by decide)) (fun a => a.2)
      refine z_iload C dX6_canLearn_27 rfl ?_
      refine z_iconst C (v := (-1)) dX6_canLearn_29 (by decide) ?_
      refine z_icmp_eq C 48 dX6_canLearn_30 (by decide) (fun c_30 => ?_) (fun c_30 => ?_)
      · refine z_iconst C (v := 0) dX6_canLearn_48 (by decide) ?_
        refine z_zret C dX6_canLearn_49 (by first | exact Or.inl rfl | exact Or.inr rfl | assumption) ?_
        exact ⟨hfr, Or.inr ⟨rfl, Or.inr (lsV_no2 (valH_1 (e3.symm.trans c_30)))⟩⟩
      · have hPL : PLw g j q := valH_2 (fun a => c_30 (e3.trans a))
        refine z_iload C dX6_canLearn_33 rfl ?_
        refine z_aload_n C dX6_canLearn_35 rfl ?_
        refine g_17_8 C wd593 dX6_canLearn_36 ?_
        refine z_iload_n C dX6_canLearn_39 rfl ?_
        refine a_23 C ew hw5 dX6_canLearn_40 ?_
        refine z_icmp_gt C 48 dX6_canLearn_41 (by decide) (fun c_41 => ?_) (fun c_41 => ?_)
        · rw [hM1.lev hw5, e3] at c_41
          refine z_iconst C (v := 0) dX6_canLearn_48 (by decide) ?_
          refine z_zret C dX6_canLearn_49 (by first | exact Or.inl rfl | exact Or.inr rfl | assumption) ?_
          exact ⟨hfr, Or.inr ⟨rfl, Or.inr (lsV_no3 hPL c_41)⟩⟩
        · rw [hM1.lev hw5, e3] at c_41
          refine z_iconst C (v := 1) dX6_canLearn_44 (by decide) ?_
          refine z_goto C 49 dX6_canLearn_45 (by decide) ?_
          refine z_zret C dX6_canLearn_49 (by first | exact Or.inl rfl | exact Or.inr rfl | assumption) ?_
          obtain ⟨y1, y2, y3⟩ := lsV_yes c_15 hPL c_41
          exact ⟨hfr, Or.inl ⟨rfl, hk, fun a => c_30 (e3.trans (y1.symm.trans a)), y1, y3, y2⟩⟩
theorem mr_swap {g σ : St} {w p q : Int32} (h : MRel g σ) : MRel (learnS g g w p q) (up (up σ 23 0 (ix w) (lvL g w p q)) 24 0 (ix w) (g 15 (ix w) 1 ||| (1 <<< (p &&& 31)))) := by
  have h1 := mr_lev (a := ix w) (x := lvL g w p q) (mr_kno (a := ix w) (x := g 15 (ix w) 1 ||| (1 <<< (p &&& 31))) h)
  have e : up (up σ 24 0 (ix w) (g 15 (ix w) 1 ||| (1 <<< (p &&& 31)))) 23 0 (ix w) (lvL g w p q) = up (up σ 23 0 (ix w) (lvL g w p q)) 24 0 (ix w) (g 15 (ix w) 1 ||| (1 <<< (p &&& 31))) := by
    funext a b c0
    simp only [up_app]
    by_cases q1 : a = 24 ∧ b = 0 ∧ c0 = ix w
    · rw [if_neg (by omega), if_pos q1, if_pos q1]
    · rw [if_neg q1, if_neg q1]
  rw [← e]
  exact h1
set_option maxRecDepth 100000 in
set_option maxHeartbeats 4000000 in
theorem c_X6_learn {l : Launch} {D : va_G} {ad : Nat → Nat → Nat} {cy : Nat → ClassId} {A : Nat → Prop} {sa : Nat → Nat} {σ : St} {g : St} {w x y : Int32} (hM : MRel g σ) (hI : Inv g) : MI l D ad cy A sa yX6_learn cX6_learn 6 (some .int) 7 σ [.ref (ad 17 0), .int w, .int x, .int y] (fun r σ' => MPost g (learnS g g w x y) σ σ' (K_learn g w x y) ∧ (K_learn g w x y = 0 → r = lvL g w x y)) := by
  refine MI.mk "FretSchoolModel" (by decide) rfl (Nat.le_of_ble_eq_true rfl) rfl ?_
  intro p e s m args below meth c C
  change Z _ _ _ _ _ _ _ _ _ _ _ _ _ _ _ _ _ _ _ [some (.ref (ad 17 0)), some (.int w), some (.int x), some (.int y), none, none] 0 []
  obtain ⟨np, hnp, enp⟩ := hI.1
  have enp1 : σ 17 0 1 = nI np := hM.1.trans enp
  obtain ⟨ni, hni, eni⟩ := hI.2.1
  have eni1 : σ 17 0 4 = nI ni := hM.2.1.trans eni
  refine z_aload_n C dX6_learn_0 rfl ?_
  refine z_iload_n C dX6_learn_1 rfl ?_
  refine z_cvi C (As := [_]) (c_X6_isPiece enp1 (by omega)) okX6_isPiece wd660 rc_17 (rok (by decide) (by decide)) ⟨Nat.le_of_ble_eq_true rfl, Nat.le_of_ble_eq_true rfl⟩ rfl (Nat.le_of_ble_eq_true rfl) dX6_learn_2 ?_
  rintro r2 _ ⟨rfl, h2⟩
  rw [← enp] at h2
  refine z_if_eq C 20 dX6_learn_5 (by decide) (fun c_5 => ?_) (fun c_5 => ?_)
  · have hb1 : bad x (g 0 0 6) := h2.elim (fun a => absurd (a.1.symm.trans c_5) (by decide)) (fun a => a.2)
    refine z_iconst C (v := 0) dX6_learn_20 (by decide) ?_
    refine z_istore C dX6_learn_21 (by decide) ?_
    dsimp only [List.set]
    refine z_iload_n C dX6_learn_23 rfl ?_
    refine z_csi C (As := [_]) (c_X6_isPupil) okX6_isPupil wd755 (rok (by decide) (by decide)) ⟨Nat.le_of_ble_eq_true rfl, Nat.le_of_ble_eq_true rfl⟩ rfl (Nat.le_of_ble_eq_true rfl) dX6_learn_24 ?_
    rintro r24 _ ⟨rfl, h24⟩
    rcases h24 with ⟨rfl, hb24⟩ | ⟨rfl, hb24⟩
    · obtain ⟨ew, hw4⟩ := nout (n := 4) (by decide) hb24
      have hw5 : ix w < 5 := by omega
      refine z_istore C dX6_learn_27 (by decide) ?_
      dsimp only [List.set]
      refine z_aload_n C dX6_learn_29 rfl ?_
      refine z_iload C dX6_learn_30 rfl ?_
      refine z_iload C dX6_learn_32 rfl ?_
      refine z_iload C dX6_learn_34 rfl ?_
      refine z_if_eq C 58 dX6_learn_36 (by decide) (fun c_36 => ?_) (fun c_36 => ?_)
      · refine z_iconst C (v := 0) dX6_learn_58 (by decide) ?_
        refine z_cvi C (As := [_, _, _]) (c_X6_goes) okX6_goes wd652 rc_17 (rok (by decide) (by decide)) ⟨Nat.le_of_ble_eq_true rfl, Nat.le_of_ble_eq_true rfl⟩ rfl (Nat.le_of_ble_eq_true rfl) dX6_learn_59 ?_
        rintro r59 _ ⟨rfl, e59⟩
        refine z_if_ne C 67 dX6_learn_62 (by decide) (fun c_62 => ?_) (fun c_62 => ?_)
        · exact absurd (e59.trans (by decide)) c_62
        · have hK : K_learn g w x y = 1 := by unfold K_learn; rw [if_pos (Or.inl hb1)]
          refine z_iconst C (v := 0) dX6_learn_65 (by decide) ?_
          refine z_iret C dX6_learn_66 ?_
          refine ⟨?_, fun a => absurd (a.symm.trans hK) (by decide)⟩
          rw [hK]
          exact MPost.no hM (by decide)
      · exact absurd rfl c_36
    · refine z_istore C dX6_learn_27 (by decide) ?_
      dsimp only [List.set]
      refine z_aload_n C dX6_learn_29 rfl ?_
      refine z_iload C dX6_learn_30 rfl ?_
      refine z_iload C dX6_learn_32 rfl ?_
      refine z_iload C dX6_learn_34 rfl ?_
      refine z_if_eq C 58 dX6_learn_36 (by decide) (fun c_36 => ?_) (fun c_36 => ?_)
      · refine z_iconst C (v := 0) dX6_learn_58 (by decide) ?_
        refine z_cvi C (As := [_, _, _]) (c_X6_goes) okX6_goes wd652 rc_17 (rok (by decide) (by decide)) ⟨Nat.le_of_ble_eq_true rfl, Nat.le_of_ble_eq_true rfl⟩ rfl (Nat.le_of_ble_eq_true rfl) dX6_learn_59 ?_
        rintro r59 _ ⟨rfl, e59⟩
        refine z_if_ne C 67 dX6_learn_62 (by decide) (fun c_62 => ?_) (fun c_62 => ?_)
        · exact absurd (e59.trans (by decide)) c_62
        · have hK : K_learn g w x y = 1 := by unfold K_learn; rw [if_pos (Or.inl hb1)]
          refine z_iconst C (v := 0) dX6_learn_65 (by decide) ?_
          refine z_iret C dX6_learn_66 ?_
          refine ⟨?_, fun a => absurd (a.symm.trans hK) (by decide)⟩
          rw [hK]
          exact MPost.no hM (by decide)
      · exact absurd rfl c_36
  · have hb1 : ¬ bad x (g 0 0 6) := h2.elim (fun a => a.2) (fun a => absurd a.1 c_5)
    refine z_aload_n C dX6_learn_8 rfl ?_
    refine z_iload_n C dX6_learn_9 rfl ?_
    refine z_cvi C (As := [_]) (c_X6_isInstrument eni1 (by omega)) okX6_isInstrument wd683 rc_17 (rok (by decide) (by decide)) ⟨Nat.le_of_ble_eq_true rfl, Nat.le_of_ble_eq_true rfl⟩ rfl (Nat.le_of_ble_eq_true rfl) dX6_learn_10 ?_
    rintro r10 _ ⟨rfl, h10⟩
    rw [← eni] at h10
    refine z_if_eq C 20 dX6_learn_13 (by decide) (fun c_13 => ?_) (fun c_13 => ?_)
    · have hb2 : bad y (g 0 0 7) := h10.elim (fun a => absurd (a.1.symm.trans c_13) (by decide)) (fun a => a.2)
      refine z_iconst C (v := 0) dX6_learn_20 (by decide) ?_
      refine z_istore C dX6_learn_21 (by decide) ?_
      dsimp only [List.set]
      refine z_iload_n C dX6_learn_23 rfl ?_
      refine z_csi C (As := [_]) (c_X6_isPupil) okX6_isPupil wd755 (rok (by decide) (by decide)) ⟨Nat.le_of_ble_eq_true rfl, Nat.le_of_ble_eq_true rfl⟩ rfl (Nat.le_of_ble_eq_true rfl) dX6_learn_24 ?_
      rintro r24 _ ⟨rfl, h24⟩
      rcases h24 with ⟨rfl, hb24⟩ | ⟨rfl, hb24⟩
      · obtain ⟨ew, hw4⟩ := nout (n := 4) (by decide) hb24
        have hw5 : ix w < 5 := by omega
        refine z_istore C dX6_learn_27 (by decide) ?_
        dsimp only [List.set]
        refine z_aload_n C dX6_learn_29 rfl ?_
        refine z_iload C dX6_learn_30 rfl ?_
        refine z_iload C dX6_learn_32 rfl ?_
        refine z_iload C dX6_learn_34 rfl ?_
        refine z_if_eq C 58 dX6_learn_36 (by decide) (fun c_36 => ?_) (fun c_36 => ?_)
        · refine z_iconst C (v := 0) dX6_learn_58 (by decide) ?_
          refine z_cvi C (As := [_, _, _]) (c_X6_goes) okX6_goes wd652 rc_17 (rok (by decide) (by decide)) ⟨Nat.le_of_ble_eq_true rfl, Nat.le_of_ble_eq_true rfl⟩ rfl (Nat.le_of_ble_eq_true rfl) dX6_learn_59 ?_
          rintro r59 _ ⟨rfl, e59⟩
          refine z_if_ne C 67 dX6_learn_62 (by decide) (fun c_62 => ?_) (fun c_62 => ?_)
          · exact absurd (e59.trans (by decide)) c_62
          · have hK : K_learn g w x y = 1 := by unfold K_learn; rw [if_pos (Or.inr hb2)]
            refine z_iconst C (v := 0) dX6_learn_65 (by decide) ?_
            refine z_iret C dX6_learn_66 ?_
            refine ⟨?_, fun a => absurd (a.symm.trans hK) (by decide)⟩
            rw [hK]
            exact MPost.no hM (by decide)
        · exact absurd rfl c_36
      · refine z_istore C dX6_learn_27 (by decide) ?_
        dsimp only [List.set]
        refine z_aload_n C dX6_learn_29 rfl ?_
        refine z_iload C dX6_learn_30 rfl ?_
        refine z_iload C dX6_learn_32 rfl ?_
        refine z_iload C dX6_learn_34 rfl ?_
        refine z_if_eq C 58 dX6_learn_36 (by decide) (fun c_36 => ?_) (fun c_36 => ?_)
        · refine z_iconst C (v := 0) dX6_learn_58 (by decide) ?_
          refine z_cvi C (As := [_, _, _]) (c_X6_goes) okX6_goes wd652 rc_17 (rok (by decide) (by decide)) ⟨Nat.le_of_ble_eq_true rfl, Nat.le_of_ble_eq_true rfl⟩ rfl (Nat.le_of_ble_eq_true rfl) dX6_learn_59 ?_
          rintro r59 _ ⟨rfl, e59⟩
          refine z_if_ne C 67 dX6_learn_62 (by decide) (fun c_62 => ?_) (fun c_62 => ?_)
          · exact absurd (e59.trans (by decide)) c_62
          · have hK : K_learn g w x y = 1 := by unfold K_learn; rw [if_pos (Or.inr hb2)]
            refine z_iconst C (v := 0) dX6_learn_65 (by decide) ?_
            refine z_iret C dX6_learn_66 ?_
            refine ⟨?_, fun a => absurd (a.symm.trans hK) (by decide)⟩
            rw [hK]
            exact MPost.no hM (by decide)
        · exact absurd rfl c_36
    · have hb2 : ¬ bad y (g 0 0 7) := h10.elim (fun a => a.2) (fun a => absurd a.1 c_13)
      obtain ⟨ex, hx1, hx8⟩ := nbad hnp (by decide) (by rw [enp] at hb1; exact hb1)
      obtain ⟨ey, hy1, hy8⟩ := nbad hni (by decide) (by rw [eni] at hb2; exact hb2)
      have hyl : nI (ix y) < g 0 0 7 := by rw [eni]; exact nI_lt hy1 (by omega)
      refine z_iconst C (v := 1) dX6_learn_16 (by decide) ?_
      refine z_goto C 21 dX6_learn_17 (by decide) ?_
      refine z_istore C dX6_learn_21 (by decide) ?_
      dsimp only [List.set]
      refine z_iload_n C dX6_learn_23 rfl ?_
      refine z_csi C (As := [_]) (c_X6_isPupil) okX6_isPupil wd755 (rok (by decide) (by decide)) ⟨Nat.le_of_ble_eq_true rfl, Nat.le_of_ble_eq_true rfl⟩ rfl (Nat.le_of_ble_eq_true rfl) dX6_learn_24 ?_
      rintro r24 _ ⟨rfl, h24⟩
      rcases h24 with ⟨rfl, hb24⟩ | ⟨rfl, hb24⟩
      · obtain ⟨ew, hw4⟩ := nout (n := 4) (by decide) hb24
        have hw5 : ix w < 5 := by omega
        refine z_istore C dX6_learn_27 (by decide) ?_
        dsimp only [List.set]
        refine z_aload_n C dX6_learn_29 rfl ?_
        refine z_iload C dX6_learn_30 rfl ?_
        refine z_iload C dX6_learn_32 rfl ?_
        refine z_iload C dX6_learn_34 rfl ?_
        refine z_if_eq C 58 dX6_learn_36 (by decide) (fun c_36 => ?_) (fun c_36 => ?_)
        · exact absurd c_36 (by decide)
        · refine z_iload C dX6_learn_39 rfl ?_
          refine z_if_eq C 58 dX6_learn_41 (by decide) (fun c_41 => ?_) (fun c_41 => ?_)
          · exact absurd c_41 (by decide)
          · refine z_aload_n C dX6_learn_44 rfl ?_
            refine z_iload_n C dX6_learn_45 rfl ?_
            refine z_iload_n C dX6_learn_46 rfl ?_
            refine z_iload_n C dX6_learn_47 rfl ?_
            refine z_cvi C (As := [_, _, _]) (c_X6_canLearn hM hI ew hw5 ex hx8 ey hy8 hyl) okX6_canLearn wd758 rc_17 (rok (by decide) (by decide)) ⟨Nat.le_of_ble_eq_true rfl, Nat.le_of_ble_eq_true rfl⟩ rfl (Nat.le_of_ble_eq_true rfl) dX6_learn_48 ?_
            rintro r48 σ1 ⟨hfr, h48⟩
            have hM1 : MRel g σ1 := hM.fs hfr.fs
            refine z_if_eq C 58 dX6_learn_51 (by decide) (fun c_51 => ?_) (fun c_51 => ?_)
            · have hc48 : knowsP g w x ∨ lsV g w (ix x) (ix y) = -1 := h48.elim (fun a => absurd (a.1.symm.trans c_51) (by decide)) (fun a => a.2)
              refine z_iconst C (v := 0) dX6_learn_58 (by decide) ?_
              refine z_cvi C (As := [_, _, _]) (c_X6_goes) okX6_goes wd652 rc_17 (rok (by decide) (by decide)) ⟨Nat.le_of_ble_eq_true rfl, Nat.le_of_ble_eq_true rfl⟩ rfl (Nat.le_of_ble_eq_true rfl) dX6_learn_59 ?_
              rintro r59 _ ⟨rfl, e59⟩
              refine z_if_ne C 67 dX6_learn_62 (by decide) (fun c_62 => ?_) (fun c_62 => ?_)
              · exact absurd (e59.trans (by decide)) c_62
              · have hK : K_learn g w x y = 3 := by unfold K_learn; rw [if_neg (fun q => q.elim hb1 hb2), if_neg hb24, if_pos hc48]
                refine z_iconst C (v := 0) dX6_learn_65 (by decide) ?_
                refine z_iret C dX6_learn_66 ?_
                refine ⟨?_, fun a => absurd (a.symm.trans hK) (by decide)⟩
                rw [hK]
                exact ⟨fun a b c0 h => by rw [up_low (by decide) a b c0 h]; exact hfr a b c0 (by omega) (by omega), by rw [up_app, if_pos ⟨rfl, rfl, rfl⟩]; rfl, fun q => absurd q (by decide), fun _ => hM1.fs FS.thr⟩
            · obtain ⟨hc1, hc2, hc3, hc4, hc5⟩ : ¬ knowsP g w x ∧ ¬ lsV g w (ix x) (ix y) = -1 ∧ lsV g w (ix x) (ix y) = valH g (ix x) (ix y) ∧ HG g (ix x) (ix y) < 13 ∧ valH g (ix x) (ix y) = nI (HG g (ix x) (ix y)) := h48.elim (fun a => a.2) (fun a => absurd a.1 c_51)
              refine z_iconst C (v := 1) dX6_learn_54 (by decide) ?_
              refine z_goto C 59 dX6_learn_55 (by decide) ?_
              refine z_cvi C (As := [_, _, _]) (c_X6_goes) okX6_goes wd652 rc_17 (rok (by decide) (by decide)) ⟨Nat.le_of_ble_eq_true rfl, Nat.le_of_ble_eq_true rfl⟩ rfl (Nat.le_of_ble_eq_true rfl) dX6_learn_59 ?_
              rintro r59 _ ⟨rfl, e59⟩
              refine z_if_ne C 67 dX6_learn_62 (by decide) (fun c_62 => ?_) (fun c_62 => ?_)
              · have hK : K_learn g w x y = 0 := by unfold K_learn; rw [if_neg (fun q => q.elim hb1 hb2), if_neg hb24, if_neg (fun q => q.elim hc1 hc2)]
                refine z_aload_n C dX6_learn_67 rfl ?_
                refine g_17_8 C wd593 dX6_learn_68 ?_
                refine z_iload_n C dX6_learn_71 rfl ?_
                refine z_dup2 C dX6_learn_72 rfl rfl ?_
                refine a_23 C ew hw5 dX6_learn_73 ?_
                refine z_aload_n C dX6_learn_74 rfl ?_
                refine z_iload_n C dX6_learn_75 rfl ?_
                refine z_iload_n C dX6_learn_76 rfl ?_
                refine z_cvi C (As := [_, _]) (c_X6_hardestOf (hM1.fs FS.thr) hI ex hx8 ey hy8 hyl) okX6_hardestOf wd735 rc_17 (rok (by decide) (by decide)) ⟨Nat.le_of_ble_eq_true rfl, Nat.le_of_ble_eq_true rfl⟩ rfl (Nat.le_of_ble_eq_true rfl) dX6_learn_77 ?_
                rintro r77 σ2 ⟨hfr2, e77⟩
                have hM2 : MRel g σ2 := (hM1.fs FS.thr).fs hfr2.fs
                rw [show up σ1 17 0 18 (nI (tC 1 1 1)) 23 0 (ix w) = σ2 23 0 (ix w) by rw [hfr2 23 0 (ix w) (by decide) (by decide)]]
                refine z_aload_n C dX6_learn_80 rfl ?_
                refine g_17_8 C wd593 dX6_learn_81 ?_
                refine z_iload_n C dX6_learn_84 rfl ?_
                refine a_23 C ew hw5 dX6_learn_85 ?_
                refine z_icmp_ne C 93 dX6_learn_86 (by decide) (fun c_86 => ?_) (fun c_86 => ?_)
                · refine z_iconst C (v := 0) dX6_learn_93 (by decide) ?_
                  refine z_iadd C dX6_learn_94 ?_
                  refine s_23 C ew hw5 dX6_learn_95 ?_
                  refine z_aload_n C dX6_learn_96 rfl ?_
                  refine g_17_9 C wd594 dX6_learn_97 ?_
                  refine z_iload_n C dX6_learn_100 rfl ?_
                  refine z_dup2 C dX6_learn_101 rfl rfl ?_
                  refine a_24 C ew hw5 dX6_learn_102 ?_
                  refine z_iconst C (v := 1) dX6_learn_103 (by decide) ?_
                  refine z_iload_n C dX6_learn_104 rfl ?_
                  refine z_ishl C dX6_learn_105 ?_
                  refine z_ior C dX6_learn_106 ?_
                  refine s_24 C ew hw5 dX6_learn_107 ?_
                  refine z_aload_n C dX6_learn_108 rfl ?_
                  refine g_17_8 C wd593 dX6_learn_109 ?_
                  refine z_iload_n C dX6_learn_112 rfl ?_
                  refine a_23 C ew hw5 dX6_learn_113 ?_
                  refine z_iret C dX6_learn_114 ?_
                  have es : σ2 23 0 (ix w) = g 15 (ix w) 0 := hM2.lev hw5
                  have ek : up σ2 23 0 (ix w) (lvL g w x y) 24 0 (ix w) = g 15 (ix w) 1 := by rw [up_app, if_neg (by omega)]; exact hM2.kno hw5
                  have ev : σ2 23 0 (ix w) + 0 = lvL g w x y := by
                    unfold lvL
                    rw [es, hc3]
                    rw [Int32.add_zero, if_neg (fun a => c_86 (by rw [es, e77]; exact a))]
                  rw [ev, ek]
                  refine ⟨⟨fun a b c0 h => ?_, ?_, fun _ => ?_, fun q => absurd hK q⟩, fun _ => ?_⟩
                  · rw [up_low (by decide) a b c0 h, up_low (by decide) a b c0 h, hfr2 a b c0 (by omega) (by omega), up_low (by decide) a b c0 h]
                    exact hfr a b c0 (by omega) (by omega)
                  · rw [up_app, if_neg (by omega), up_app, if_neg (by omega), hfr2 17 0 18 (by decide) (by decide), up_app, if_pos ⟨rfl, rfl, rfl⟩, hK]; rfl
                  · exact mr_swap hM2
                  · rw [up_app, if_neg (by omega), up_app, if_pos ⟨rfl, rfl, rfl⟩]
                · refine z_iconst C (v := 1) dX6_learn_89 (by decide) ?_
                  refine z_goto C 94 dX6_learn_90 (by decide) ?_
                  refine z_iadd C dX6_learn_94 ?_
                  refine s_23 C ew hw5 dX6_learn_95 ?_
                  refine z_aload_n C dX6_learn_96 rfl ?_
                  refine g_17_9 C wd594 dX6_learn_97 ?_
                  refine z_iload_n C dX6_learn_100 rfl ?_
                  refine z_dup2 C dX6_learn_101 rfl rfl ?_
                  refine a_24 C ew hw5 dX6_learn_102 ?_
                  refine z_iconst C (v := 1) dX6_learn_103 (by decide) ?_
                  refine z_iload_n C dX6_learn_104 rfl ?_
                  refine z_ishl C dX6_learn_105 ?_
                  refine z_ior C dX6_learn_106 ?_
                  refine s_24 C ew hw5 dX6_learn_107 ?_
                  refine z_aload_n C dX6_learn_108 rfl ?_
                  refine g_17_8 C wd593 dX6_learn_109 ?_
                  refine z_iload_n C dX6_learn_112 rfl ?_
                  refine a_23 C ew hw5 dX6_learn_113 ?_
                  refine z_iret C dX6_learn_114 ?_
                  have es : σ2 23 0 (ix w) = g 15 (ix w) 0 := hM2.lev hw5
                  have ek : up σ2 23 0 (ix w) (lvL g w x y) 24 0 (ix w) = g 15 (ix w) 1 := by rw [up_app, if_neg (by omega)]; exact hM2.kno hw5
                  have ev : σ2 23 0 (ix w) + 1 = lvL g w x y := by
                    unfold lvL
                    rw [es, hc3]
                    rw [if_pos (by rw [es, e77] at c_86; exact c_86)]
                  rw [ev, ek]
                  refine ⟨⟨fun a b c0 h => ?_, ?_, fun _ => ?_, fun q => absurd hK q⟩, fun _ => ?_⟩
                  · rw [up_low (by decide) a b c0 h, up_low (by decide) a b c0 h, hfr2 a b c0 (by omega) (by omega), up_low (by decide) a b c0 h]
                    exact hfr a b c0 (by omega) (by omega)
                  · rw [up_app, if_neg (by omega), up_app, if_neg (by omega), hfr2 17 0 18 (by decide) (by decide), up_app, if_pos ⟨rfl, rfl, rfl⟩, hK]; rfl
                  · exact mr_swap hM2
                  · rw [up_app, if_neg (by omega), up_app, if_pos ⟨rfl, rfl, rfl⟩]
              · exact absurd (e59.symm.trans c_62) (by decide)
      · refine z_istore C dX6_learn_27 (by decide) ?_
        dsimp only [List.set]
        refine z_aload_n C dX6_learn_29 rfl ?_
        refine z_iload C dX6_learn_30 rfl ?_
        refine z_iload C dX6_learn_32 rfl ?_
        refine z_iload C dX6_learn_34 rfl ?_
        refine z_if_eq C 58 dX6_learn_36 (by decide) (fun c_36 => ?_) (fun c_36 => ?_)
        · exact absurd c_36 (by decide)
        · refine z_iload C dX6_learn_39 rfl ?_
          refine z_if_eq C 58 dX6_learn_41 (by decide) (fun c_41 => ?_) (fun c_41 => ?_)
          · refine z_iconst C (v := 0) dX6_learn_58 (by decide) ?_
            refine z_cvi C (As := [_, _, _]) (c_X6_goes) okX6_goes wd652 rc_17 (rok (by decide) (by decide)) ⟨Nat.le_of_ble_eq_true rfl, Nat.le_of_ble_eq_true rfl⟩ rfl (Nat.le_of_ble_eq_true rfl) dX6_learn_59 ?_
            rintro r59 _ ⟨rfl, e59⟩
            refine z_if_ne C 67 dX6_learn_62 (by decide) (fun c_62 => ?_) (fun c_62 => ?_)
            · exact absurd (e59.trans (by decide)) c_62
            · have hK : K_learn g w x y = 2 := by unfold K_learn; rw [if_neg (fun q => q.elim hb1 hb2), if_pos hb24]
              refine z_iconst C (v := 0) dX6_learn_65 (by decide) ?_
              refine z_iret C dX6_learn_66 ?_
              refine ⟨?_, fun a => absurd (a.symm.trans hK) (by decide)⟩
              rw [hK]
              exact MPost.no hM (by decide)
          · exact absurd rfl c_41
