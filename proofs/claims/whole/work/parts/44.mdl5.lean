/-! ===== the model: notes, pupils, woods, days ===== -/
theorem K_byAll_ok {g : St} {x y : Int32} (hI : Inv g) (h : K_byAll g x y = 0) : x = nI (ix x) ∧ ix x < 8 ∧ y = nI (ix y) ∧ ix y < 8 ∧ nI (ix y) < g 0 0 7 := by
  apply K_pq_ok hI
  unfold K_byAll at h
  unfold K_pq
  by_cases hb : bad x (g 0 0 6) ∨ bad y (g 0 0 7)
  · rw [if_pos hb] at h; exact absurd h (by decide)
  · rw [if_neg hb]
set_option maxRecDepth 100000 in
set_option maxHeartbeats 4000000 in
theorem c_X6_shiftsByAll {l : Launch} {D : va_G} {ad : Nat → Nat → Nat} {cy : Nat → ClassId} {A : Nat → Prop} {sa : Nat → Nat} {σ : St} {g : St} {x y : Int32} (hM : MRel g σ) (hI : Inv g) : MI l D ad cy A sa yX6_shiftsByAll cX6_shiftsByAll 4 (some .int) 6 σ [.ref (ad 17 0), .int x, .int y] (fun r σ' => MPost g g σ σ' (K_byAll g x y) ∧ (K_byAll g x y = 0 → r = valS g (ix x) (ix y))) := by
  refine MI.mk "FretSchoolModel" (by decide) rfl (Nat.le_of_ble_eq_true rfl) rfl ?_
  intro p e s m args below meth c C
  change Z _ _ _ _ _ _ _ _ _ _ _ _ _ _ _ _ _ _ _ [some (.ref (ad 17 0)), some (.int x), some (.int y), none] 0 []
  obtain ⟨np, hnp, enp⟩ := hI.1
  have enp1 : σ 17 0 1 = nI np := hM.1.trans enp
  obtain ⟨ni, hni, eni⟩ := hI.2.1
  have eni1 : σ 17 0 4 = nI ni := hM.2.1.trans eni
  refine z_aload_n C dX6_shiftsByAll_0 rfl ?_
  refine z_iload_n C dX6_shiftsByAll_1 rfl ?_
  refine z_cvi C (As := [_]) (c_X6_isPiece enp1 (by omega)) okX6_isPiece wd660 rc_17 (rok (by decide) (by decide)) ⟨Nat.le_of_ble_eq_true rfl, Nat.le_of_ble_eq_true rfl⟩ rfl (Nat.le_of_ble_eq_true rfl) dX6_shiftsByAll_2 ?_
  rintro r2 _ ⟨rfl, h2⟩
  rw [← enp] at h2
  refine z_if_eq C 20 dX6_shiftsByAll_5 (by decide) (fun c_5 => ?_) (fun c_5 => ?_)
  · have hb1 : bad x (g 0 0 6) := h2.elim (fun a => absurd (a.1.symm.trans c_5) (by decide)) (fun a => a.2)
    refine z_iconst C (v := 0) dX6_shiftsByAll_20 (by decide) ?_
    refine z_istore_n C dX6_shiftsByAll_21 (by decide) ?_
    dsimp only [List.set]
    refine z_aload_n C dX6_shiftsByAll_22 rfl ?_
    refine z_iload_n C dX6_shiftsByAll_23 rfl ?_
    refine z_iload_n C dX6_shiftsByAll_24 rfl ?_
    refine z_if_eq C 42 dX6_shiftsByAll_25 (by decide) (fun c_25 => ?_) (fun c_25 => ?_)
    · refine z_iconst C (v := 0) dX6_shiftsByAll_42 (by decide) ?_
      refine z_iconst C (v := 1) dX6_shiftsByAll_43 (by decide) ?_
      refine z_cvi C (As := [_, _, _]) (c_X6_goes) okX6_goes wd652 rc_17 (rok (by decide) (by decide)) ⟨Nat.le_of_ble_eq_true rfl, Nat.le_of_ble_eq_true rfl⟩ rfl (Nat.le_of_ble_eq_true rfl) dX6_shiftsByAll_44 ?_
      rintro r44 _ ⟨rfl, e44⟩
      refine z_if_eq C 59 dX6_shiftsByAll_47 (by decide) (fun c_47 => ?_) (fun c_47 => ?_)
      · have hK : K_byAll g x y = 1 := by unfold K_byAll; rw [if_pos (Or.inl hb1)]
        refine z_iconst C (v := 0) dX6_shiftsByAll_59 (by decide) ?_
        refine z_iret C dX6_shiftsByAll_60 ?_
        exact ⟨by rw [hK]; exact MPost.no hM (by decide), fun a => absurd (a.symm.trans hK) (by decide)⟩
      · exact absurd e44 c_47
    · exact absurd rfl c_25
  · have hb1 : ¬ bad x (g 0 0 6) := h2.elim (fun a => a.2) (fun a => absurd a.1 c_5)
    obtain ⟨ex, hx1, hx8⟩ := nbad hnp (by decide) (by rw [enp] at hb1; exact hb1)
    refine z_aload_n C dX6_shiftsByAll_8 rfl ?_
    refine z_iload_n C dX6_shiftsByAll_9 rfl ?_
    refine z_cvi C (As := [_]) (c_X6_isInstrument eni1 (by omega)) okX6_isInstrument wd683 rc_17 (rok (by decide) (by decide)) ⟨Nat.le_of_ble_eq_true rfl, Nat.le_of_ble_eq_true rfl⟩ rfl (Nat.le_of_ble_eq_true rfl) dX6_shiftsByAll_10 ?_
    rintro r10 _ ⟨rfl, h10⟩
    rw [← eni] at h10
    refine z_if_eq C 20 dX6_shiftsByAll_13 (by decide) (fun c_13 => ?_) (fun c_13 => ?_)
    · have hb2 : bad y (g 0 0 7) := h10.elim (fun a => absurd (a.1.symm.trans c_13) (by decide)) (fun a => a.2)
      refine z_iconst C (v := 0) dX6_shiftsByAll_20 (by decide) ?_
      refine z_istore_n C dX6_shiftsByAll_21 (by decide) ?_
      dsimp only [List.set]
      refine z_aload_n C dX6_shiftsByAll_22 rfl ?_
      refine z_iload_n C dX6_shiftsByAll_23 rfl ?_
      refine z_iload_n C dX6_shiftsByAll_24 rfl ?_
      refine z_if_eq C 42 dX6_shiftsByAll_25 (by decide) (fun c_25 => ?_) (fun c_25 => ?_)
      · refine z_iconst C (v := 0) dX6_shiftsByAll_42 (by decide) ?_
        refine z_iconst C (v := 1) dX6_shiftsByAll_43 (by decide) ?_
        refine z_cvi C (As := [_, _, _]) (c_X6_goes) okX6_goes wd652 rc_17 (rok (by decide) (by decide)) ⟨Nat.le_of_ble_eq_true rfl, Nat.le_of_ble_eq_true rfl⟩ rfl (Nat.le_of_ble_eq_true rfl) dX6_shiftsByAll_44 ?_
        rintro r44 _ ⟨rfl, e44⟩
        refine z_if_eq C 59 dX6_shiftsByAll_47 (by decide) (fun c_47 => ?_) (fun c_47 => ?_)
        · have hK : K_byAll g x y = 1 := by unfold K_byAll; rw [if_pos (Or.inr hb2)]
          refine z_iconst C (v := 0) dX6_shiftsByAll_59 (by decide) ?_
          refine z_iret C dX6_shiftsByAll_60 ?_
          exact ⟨by rw [hK]; exact MPost.no hM (by decide), fun a => absurd (a.symm.trans hK) (by decide)⟩
        · exact absurd e44 c_47
      · exact absurd rfl c_25
    · have hb2 : ¬ bad y (g 0 0 7) := h10.elim (fun a => a.2) (fun a => absurd a.1 c_13)
      refine z_iconst C (v := 1) dX6_shiftsByAll_16 (by decide) ?_
      refine z_goto C 21 dX6_shiftsByAll_17 (by decide) ?_
      refine z_istore_n C dX6_shiftsByAll_21 (by decide) ?_
      dsimp only [List.set]
      refine z_aload_n C dX6_shiftsByAll_22 rfl ?_
      refine z_iload_n C dX6_shiftsByAll_23 rfl ?_
      refine z_iload_n C dX6_shiftsByAll_24 rfl ?_
      refine z_if_eq C 42 dX6_shiftsByAll_25 (by decide) (fun c_25 => ?_) (fun c_25 => ?_)
      · exact absurd c_25 (by decide)
      · refine z_aload_n C dX6_shiftsByAll_28 rfl ?_
        refine g_17_2 C wd587 dX6_shiftsByAll_29 ?_
        refine z_iload_n C dX6_shiftsByAll_32 rfl ?_
        refine a_18 C ex (by omega) dX6_shiftsByAll_33 ?_
        refine z_iconst C (v := 4) dX6_shiftsByAll_34 (by decide) ?_
        refine z_icmp_gt C 42 dX6_shiftsByAll_35 (by decide) (fun c_35 => ?_) (fun c_35 => ?_)
        · rw [hM.many hx8] at c_35
          refine z_iconst C (v := 0) dX6_shiftsByAll_42 (by decide) ?_
          refine z_iconst C (v := 1) dX6_shiftsByAll_43 (by decide) ?_
          refine z_cvi C (As := [_, _, _]) (c_X6_goes) okX6_goes wd652 rc_17 (rok (by decide) (by decide)) ⟨Nat.le_of_ble_eq_true rfl, Nat.le_of_ble_eq_true rfl⟩ rfl (Nat.le_of_ble_eq_true rfl) dX6_shiftsByAll_44 ?_
          rintro r44 _ ⟨rfl, e44⟩
          refine z_if_eq C 59 dX6_shiftsByAll_47 (by decide) (fun c_47 => ?_) (fun c_47 => ?_)
          · have hK : K_byAll g x y = 2 := by unfold K_byAll; rw [if_neg (fun q => q.elim hb1 hb2), if_pos (fun q => absurd q (Int32.not_le.mpr c_35))]
            refine z_iconst C (v := 0) dX6_shiftsByAll_59 (by decide) ?_
            refine z_iret C dX6_shiftsByAll_60 ?_
            exact ⟨by rw [hK]; exact MPost.no hM (by decide), fun a => absurd (a.symm.trans hK) (by decide)⟩
          · exact absurd e44 c_47
        · rw [hM.many hx8] at c_35
          refine z_iconst C (v := 1) dX6_shiftsByAll_38 (by decide) ?_
          refine z_goto C 43 dX6_shiftsByAll_39 (by decide) ?_
          refine z_iconst C (v := 1) dX6_shiftsByAll_43 (by decide) ?_
          refine z_cvi C (As := [_, _, _]) (c_X6_goes) okX6_goes wd652 rc_17 (rok (by decide) (by decide)) ⟨Nat.le_of_ble_eq_true rfl, Nat.le_of_ble_eq_true rfl⟩ rfl (Nat.le_of_ble_eq_true rfl) dX6_shiftsByAll_44 ?_
          rintro r44 _ ⟨rfl, e44⟩
          refine z_if_eq C 59 dX6_shiftsByAll_47 (by decide) (fun c_47 => ?_) (fun c_47 => ?_)
          · exact absurd c_47 (by rw [e44]; decide)
          · have hK : K_byAll g x y = 0 := by unfold K_byAll; rw [if_neg (fun q => q.elim hb1 hb2), if_neg (fun q => q (Int32.not_lt.mp c_35))]
            obtain ⟨-, -, ey, hy8, hyl⟩ := K_byAll_ok hI hK
            refine z_aload_n C dX6_shiftsByAll_50 rfl ?_
            refine z_iload_n C dX6_shiftsByAll_51 rfl ?_
            refine z_iload_n C dX6_shiftsByAll_52 rfl ?_
            refine z_cvi C (As := [_, _]) (c_X6_finds (hM.fs FS.thr) hI ex hx8 ey hy8 hyl) okX6_finds wd707 rc_17 (rok (by decide) (by decide)) ⟨Nat.le_of_ble_eq_true rfl, Nat.le_of_ble_eq_true rfl⟩ rfl (Nat.le_of_ble_eq_true rfl) dX6_shiftsByAll_53 ?_
            rintro r53 σ1 ⟨hfr, e53, -⟩
            refine z_goto C 60 dX6_shiftsByAll_56 (by decide) ?_
            refine z_iret C dX6_shiftsByAll_60 ?_
            exact ⟨MPost.fs hM (FS.thr.trans hfr.fs) (by rw [hfr 17 0 18 (by decide) (by decide), up_app, if_pos ⟨rfl, rfl, rfl⟩, hK]; rfl), fun _ => e53⟩
set_option maxRecDepth 100000 in
set_option maxHeartbeats 4000000 in
theorem c_X6_asksNote {l : Launch} {D : va_G} {ad : Nat → Nat → Nat} {cy : Nat → ClassId} {A : Nat → Prop} {sa : Nat → Nat} {σ : St} {g : St} {x y z : Int32} (hM : MRel g σ) (hI : Inv g) : MI l D ad cy A sa yX6_asksNote cX6_asksNote 4 (some .boolean) 3 σ [.ref (ad 17 0), .int x, .int y, .int z] (fun r σ' => σ' = up σ 17 0 18 (nI (K_note g x y z)) ∧ ((r = 1 ∧ K_note g x y z = 0) ∨ (r = 0 ∧ K_note g x y z = 1))) := by
  refine MI.mk "FretSchoolModel" (by decide) rfl (Nat.le_of_ble_eq_true rfl) rfl ?_
  intro p e s m args below meth c C
  change Z _ _ _ _ _ _ _ _ _ _ _ _ _ _ _ _ _ _ _ [some (.ref (ad 17 0)), some (.int x), some (.int y), some (.int z)] 0 []
  obtain ⟨np, hnp, enp⟩ := hI.1
  have enp1 : σ 17 0 1 = nI np := hM.1.trans enp
  obtain ⟨ni, hni, eni⟩ := hI.2.1
  have eni1 : σ 17 0 4 = nI ni := hM.2.1.trans eni
  refine z_aload_n C dX6_asksNote_0 rfl ?_
  refine z_aload_n C dX6_asksNote_1 rfl ?_
  refine z_iload_n C dX6_asksNote_2 rfl ?_
  refine z_iload_n C dX6_asksNote_3 rfl ?_
  refine z_cvi C (As := [_, _]) (c_X6_isNote hM hI) okX6_isNote wd675 rc_17 (rok (by decide) (by decide)) ⟨Nat.le_of_ble_eq_true rfl, Nat.le_of_ble_eq_true rfl⟩ rfl (Nat.le_of_ble_eq_true rfl) dX6_asksNote_4 ?_
  rintro r4 _ ⟨rfl, h4⟩
  refine z_if_eq C 22 dX6_asksNote_7 (by decide) (fun c_7 => ?_) (fun c_7 => ?_)
  · have hb1 : bad x (g 0 0 6) ∨ bad y (g 11 (ix x) 1) := h4.elim (fun a => absurd (a.1.symm.trans c_7) (by decide)) (fun a => a.2)
    refine z_iconst C (v := 0) dX6_asksNote_22 (by decide) ?_
    refine z_iconst C (v := 1) dX6_asksNote_23 (by decide) ?_
    refine z_iconst C (v := 1) dX6_asksNote_24 (by decide) ?_
    refine z_cvi C (As := [_, _, _]) (c_X6_goes) okX6_goes wd652 rc_17 (rok (by decide) (by decide)) ⟨Nat.le_of_ble_eq_true rfl, Nat.le_of_ble_eq_true rfl⟩ rfl (Nat.le_of_ble_eq_true rfl) dX6_asksNote_25 ?_
    rintro r25 _ ⟨rfl, e25⟩
    have hz25 : r25 = 0 ∨ r25 = 1 := by rw [e25]; split; exact Or.inr rfl; exact Or.inl rfl
    refine z_zret C dX6_asksNote_28 (by first | exact Or.inl rfl | exact Or.inr rfl | assumption) ?_
    have hK : K_note g x y z = 1 := by unfold K_note; rw [if_pos (hb1.elim Or.inl (fun q => Or.inr (Or.inl q)))]
    rw [hK]
    exact ⟨rfl, Or.inr ⟨e25, rfl⟩⟩
  · have hb1 : ¬ (bad x (g 0 0 6) ∨ bad y (g 11 (ix x) 1)) := h4.elim (fun a => a.2) (fun a => absurd a.1 c_7)
    refine z_aload_n C dX6_asksNote_10 rfl ?_
    refine z_iload_n C dX6_asksNote_11 rfl ?_
    refine z_cvi C (As := [_]) (c_X6_isInstrument eni1 (by omega)) okX6_isInstrument wd683 rc_17 (rok (by decide) (by decide)) ⟨Nat.le_of_ble_eq_true rfl, Nat.le_of_ble_eq_true rfl⟩ rfl (Nat.le_of_ble_eq_true rfl) dX6_asksNote_12 ?_
    rintro r12 _ ⟨rfl, h12⟩
    rw [← eni] at h12
    refine z_if_eq C 22 dX6_asksNote_15 (by decide) (fun c_15 => ?_) (fun c_15 => ?_)
    · have hb2 : bad z (g 0 0 7) := h12.elim (fun a => absurd (a.1.symm.trans c_15) (by decide)) (fun a => a.2)
      refine z_iconst C (v := 0) dX6_asksNote_22 (by decide) ?_
      refine z_iconst C (v := 1) dX6_asksNote_23 (by decide) ?_
      refine z_iconst C (v := 1) dX6_asksNote_24 (by decide) ?_
      refine z_cvi C (As := [_, _, _]) (c_X6_goes) okX6_goes wd652 rc_17 (rok (by decide) (by decide)) ⟨Nat.le_of_ble_eq_true rfl, Nat.le_of_ble_eq_true rfl⟩ rfl (Nat.le_of_ble_eq_true rfl) dX6_asksNote_25 ?_
      rintro r25 _ ⟨rfl, e25⟩
      have hz25 : r25 = 0 ∨ r25 = 1 := by rw [e25]; split; exact Or.inr rfl; exact Or.inl rfl
      refine z_zret C dX6_asksNote_28 (by first | exact Or.inl rfl | exact Or.inr rfl | assumption) ?_
      have hK : K_note g x y z = 1 := by unfold K_note; rw [if_pos (Or.inr (Or.inr hb2))]
      rw [hK]
      exact ⟨rfl, Or.inr ⟨e25, rfl⟩⟩
    · have hb2 : ¬ bad z (g 0 0 7) := h12.elim (fun a => a.2) (fun a => absurd a.1 c_15)
      refine z_iconst C (v := 1) dX6_asksNote_18 (by decide) ?_
      refine z_goto C 23 dX6_asksNote_19 (by decide) ?_
      refine z_iconst C (v := 1) dX6_asksNote_23 (by decide) ?_
      refine z_iconst C (v := 1) dX6_asksNote_24 (by decide) ?_
      refine z_cvi C (As := [_, _, _]) (c_X6_goes) okX6_goes wd652 rc_17 (rok (by decide) (by decide)) ⟨Nat.le_of_ble_eq_true rfl, Nat.le_of_ble_eq_true rfl⟩ rfl (Nat.le_of_ble_eq_true rfl) dX6_asksNote_25 ?_
      rintro r25 _ ⟨rfl, e25⟩
      have hz25 : r25 = 0 ∨ r25 = 1 := by rw [e25]; split; exact Or.inr rfl; exact Or.inl rfl
      refine z_zret C dX6_asksNote_28 (by first | exact Or.inl rfl | exact Or.inr rfl | assumption) ?_
      have hK : K_note g x y z = 0 := by unfold K_note; rw [if_neg (fun q => q.elim (fun q => hb1 (Or.inl q)) (fun q => q.elim (fun q => hb1 (Or.inr q)) hb2))]
      rw [hK]
      exact ⟨rfl, Or.inl ⟨e25, rfl⟩⟩
theorem K_note_ok {g : St} {x y z : Int32} (hI : Inv g) (h : K_note g x y z = 0) : x = nI (ix x) ∧ ix x < 8 ∧ y = nI (ix y) ∧ ix y < cN g (ix x) ∧ cN g (ix x) ≤ 16 ∧ z = nI (ix z) ∧ ix z < 8 ∧ nI (ix z) < g 0 0 7 := by
  obtain ⟨np, hnp, enp⟩ := hI.1
  obtain ⟨ni, hni, eni⟩ := hI.2.1
  unfold K_note at h
  by_cases hb : bad x (g 0 0 6) ∨ bad y (g 11 (ix x) 1) ∨ bad z (g 0 0 7)
  · rw [if_pos hb] at h; exact absurd h (by decide)
  · have b1 : ¬ bad x (nI np) := by rw [← enp]; exact fun q => hb (Or.inl q)
    have b2 : ¬ bad z (nI ni) := by rw [← eni]; exact fun q => hb (Or.inr (Or.inr q))
    obtain ⟨e1, h1, h2⟩ := nbad hnp (by decide) b1
    obtain ⟨e2, h3, h4⟩ := nbad hni (by decide) b2
    obtain ⟨ec, hc16⟩ := hI.2.2.2.1 (ix x) h2
    have b3 : ¬ bad y (nI (cN g (ix x))) := by rw [← ec]; exact fun q => hb (Or.inr (Or.inl q))
    obtain ⟨e3, h5, h6⟩ := nbad hc16 (by decide) b3
    exact ⟨e1, h2, e3, h5, hc16, e2, h4, by rw [eni]; exact nI_lt h3 (by omega)⟩
theorem PLw.pval {g : St} {j q i : Nat} (h : PLw g j q) : valP g j i q = nI (RW g j q i) ∧ valT g j i q = lowS (g 12 j i) (g 14 q) (nI (RW g j q i)) := by
  have h' : PL g j q := h
  exact ⟨by unfold valP; rw [if_pos h'], by unfold valT; rw [if_pos h']⟩
theorem PLw.npval {g : St} {j q i : Nat} (h : ¬ PLw g j q) : valP g j i q = -1 ∧ valT g j i q = -1 := by
  have h' : ¬ PL g j q := h
  exact ⟨by unfold valP; rw [if_neg h'], by unfold valT; rw [if_neg h']⟩
/-- scanning the strings from the top: what was found above t -/
theorem lowS_top {p h : Int32} {O : Nat → Int32} {found : Int32} (h3 : (found = -1 ∧ ∀ k, 0 ≤ k → k < 4 → ¬ lies (p - O k) h) ∨ ∃ k, 0 ≤ k ∧ k < 4 ∧ found = nI k ∧ lies (p - O k) h ∧ ∀ k2, 0 ≤ k2 → k2 < k → ¬ lies (p - O k2) h) : found = lowS p O h := by
  rcases h3 with ⟨h1, h2⟩ | ⟨k, _, hk, h1, h2, h4⟩
  · rw [h1]; exact lowS_none (fun k hk => h2 k (Nat.zero_le _) hk)
  · rw [h1]; exact lowS_at hk (fun k2 hk2 => h4 k2 (Nat.zero_le _) hk2) h2
set_option maxRecDepth 100000 in
set_option maxHeartbeats 4000000 in
theorem c_X6_position {l : Launch} {D : va_G} {ad : Nat → Nat → Nat} {cy : Nat → ClassId} {A : Nat → Prop} {sa : Nat → Nat} {σ : St} {g : St} {x y z : Int32} (hM : MRel g σ) (hI : Inv g) : MI l D ad cy A sa yX6_position cX6_position 4 (some .int) 5 σ [.ref (ad 17 0), .int x, .int y, .int z] (fun r σ' => MPost g g σ σ' (K_note g x y z) ∧ (K_note g x y z = 0 → r = valP g (ix x) (ix y) (ix z))) := by
  refine MI.mk "FretSchoolModel" (by decide) rfl (Nat.le_of_ble_eq_true rfl) rfl ?_
  intro p e s m args below meth c C
  change Z _ _ _ _ _ _ _ _ _ _ _ _ _ _ _ _ _ _ _ [some (.ref (ad 17 0)), some (.int x), some (.int y), some (.int z)] 0 []
  refine z_aload_n C dX6_position_0 rfl ?_
  refine z_iload_n C dX6_position_1 rfl ?_
  refine z_iload_n C dX6_position_2 rfl ?_
  refine z_iload_n C dX6_position_3 rfl ?_
  refine z_cvi C (As := [_, _, _]) (c_X6_asksNote hM hI) okX6_asksNote wd743 rc_17 (rok (by decide) (by decide)) ⟨Nat.le_of_ble_eq_true rfl, Nat.le_of_ble_eq_true rfl⟩ rfl (Nat.le_of_ble_eq_true rfl) dX6_position_4 ?_
  rintro r4 _ ⟨rfl, h4⟩
  refine z_if_ne C 14 dX6_position_7 (by decide) (fun c_7 => ?_) (fun c_7 => ?_)
  · have hK : K_note g x y z = 0 := h4.elim (fun a => a.2) (fun a => absurd a.1 c_7)
    obtain ⟨ex, hx8, ey, hyc, hc16, ez, hz8, hzl⟩ := K_note_ok hI hK
    refine z_aload_n C dX6_position_14 rfl ?_
    refine z_iload_n C dX6_position_15 rfl ?_
    refine z_iload_n C dX6_position_16 rfl ?_
    refine z_cvi C (As := [_, _]) (c_X6_finds (hM.fs FS.thr) hI ex hx8 ez hz8 hzl) okX6_finds wd707 rc_17 (rok (by decide) (by decide)) ⟨Nat.le_of_ble_eq_true rfl, Nat.le_of_ble_eq_true rfl⟩ rfl (Nat.le_of_ble_eq_true rfl) dX6_position_17 ?_
    rintro r17 σ1 ⟨hfr, e17, hbest⟩
    refine z_iconst C (v := (-1)) dX6_position_20 (by decide) ?_
    refine z_icmp_ne C 28 dX6_position_21 (by decide) (fun c_21 => ?_) (fun c_21 => ?_)
    · have hPL : PLw g (ix x) (ix z) := Classical.byContradiction fun h => c_21 (e17.trans (PLw.nval h).2)
      refine z_aload_n C dX6_position_28 rfl ?_
      refine g_17_17 C wd602 dX6_position_29 ?_
      refine z_iload_n C dX6_position_32 rfl ?_
      refine a_31 C ey (by omega) dX6_position_33 ?_
      refine z_iret C dX6_position_34 ?_
      exact ⟨(MPost.fs hM (FS.thr.trans hfr.fs) (by rw [hfr 17 0 18 (by decide) (by decide), up_app, if_pos ⟨rfl, rfl, rfl⟩])), fun _ => by rw [hPL.pval.1]; exact hbest hPL _ hyc⟩
    · have hnP : ¬ PLw g (ix x) (ix z) := fun h => h.sval (e17.symm.trans c_21)
      refine z_iconst C (v := (-1)) dX6_position_24 (by decide) ?_
      refine z_goto C 34 dX6_position_25 (by decide) ?_
      refine z_iret C dX6_position_34 ?_
      exact ⟨(MPost.fs hM (FS.thr.trans hfr.fs) (by rw [hfr 17 0 18 (by decide) (by decide), up_app, if_pos ⟨rfl, rfl, rfl⟩])), fun _ => (PLw.npval hnP).1.symm⟩
  · have hK : K_note g x y z = 1 := h4.elim (fun a => absurd (a.1.symm.trans c_7) (by decide)) (fun a => a.2)
    refine z_iconst C (v := 0) dX6_position_10 (by decide) ?_
    refine z_goto C 34 dX6_position_11 (by decide) ?_
    refine z_iret C dX6_position_34 ?_
    exact ⟨by rw [hK]; exact MPost.no hM (by decide), fun a => absurd (a.symm.trans hK) (by decide)⟩
section
variable {p : Program} {l : Launch} {e : Env} {R : Room} {s : State} {m : MethodId} {args : Array Value} {below : List Frame} {meth : Method} {c : Code} {D : va_G} {ad : Nat → Nat → Nat} {cy : Nat → ClassId} {A : Nat → Prop} {sa : Nat → Nat} {cells slots : Nat} {σ : St}
set_option maxRecDepth 100000 in
set_option maxHeartbeats 4000000 in
theorem lp_X6_string (C : Cx p l s m args meth c cX6_string "FretSchoolModel" 6 (some .int) D ad cy A sa) {g : St} {x y z : Int32} (hM : MRel g σ) (hI : Inv g) {σ1 : St} (hpost : MPost g g σ σ1 (K_note g x y z)) (hM1 : MRel g σ1) (ex : x = nI (ix x)) (hx8 : ix x < 8) (ey : y = nI (ix y)) (hyc : ix y < cN g (ix x)) (hc16 : cN g (ix x) ≤ 16) (ez : z = nI (ix z)) (hz8 : ix z < 8) (hzl : nI (ix z) < g 0 0 7) (hPL : PLw g (ix x) (ix z)) (hb : σ1 31 0 (ix y) = nI (RW g (ix x) (ix z) (ix y))) : ∀ (t : Nat) (x4 x5 : Int32), x5 + 1 = nI t → t ≤ 4 → ((x4 = -1 ∧ ∀ k, t ≤ k → k < 4 → ¬ lies (g 12 (ix x) (ix y) - g 14 (ix z) k) (nI (RW g (ix x) (ix z) (ix y)))) ∨ ∃ k, t ≤ k ∧ k < 4 ∧ x4 = nI k ∧ lies (g 12 (ix x) (ix y) - g 14 (ix z) k) (nI (RW g (ix x) (ix z) (ix y))) ∧ ∀ k2, t ≤ k2 → k2 < k → ¬ lies (g 12 (ix x) (ix y) - g 14 (ix z) k2) (nI (RW g (ix x) (ix z) (ix y)))) → Z p l e (rmD 5 0) s m args below meth c D ad cy A 6 0 0 (MQ below (va_Qi (fun r σ' => MPost g g σ σ' (K_note g x y z) ∧ (K_note g x y z = 0 → r = valT g (ix x) (ix y) (ix z))) (Bw D ad cy) A) args s 0 0 A) σ1 [some (.ref (ad 17 0)), some (.int x), some (.int y), some (.int z), some (.int x4), some (.int x5)] 30 [] := by
  obtain ⟨ra1, ra2, ra3, -⟩ := hPL.row (ix y) hyc
  have hri : RW g (ix x) (ix z) (ix y) + 3 ≤ fN g (ix z) := (Pf_iff.mp ra3).2.1
  clear ra3
  obtain ⟨eff, hf4, hf16⟩ := hI.fr hz8 hzl
  intro t
  induction t with
  | zero =>
    intro x4 x5 e5 ht hS
    have hx : x5 < 0 := by
      have h1 : x5 = -1 := by
        have h2 : x5 + 1 - 1 = nI 0 - 1 := by rw [e5]
        rw [Int32.add_sub_cancel] at h2
        rw [h2]
        decide
      rw [h1]
      decide
    refine z_iload C dX6_string_30 rfl ?_
    refine z_if_lt C 68 dX6_string_32 (by decide) (fun c_32 => ?_) (fun c_32 => ?_)
    · refine z_iload C dX6_string_68 rfl ?_
      refine z_iret C dX6_string_70 ?_
      exact ⟨hpost, fun _ => by rw [hPL.pval.2]; exact lowS_top hS⟩
    · exact absurd hx c_32
  | succ t ih =>
    intro x4 x5 e5 ht hS
    have e5 : x5 = nI t := by
      have h2 : x5 + 1 - 1 = nI (t + 1) - 1 := by rw [e5]
      rw [Int32.add_sub_cancel, nI_pred] at h2
      exact h2
    refine z_iload C dX6_string_30 rfl ?_
    refine z_if_lt C 68 dX6_string_32 (by decide) (fun c_32 => ?_) (fun c_32 => ?_)
    · exact absurd c_32 (by rw [e5]; exact nI_pos (by omega))
    refine z_aload_n C dX6_string_35 rfl ?_
    refine z_iload_n C dX6_string_36 rfl ?_
    refine z_iload_n C dX6_string_37 rfl ?_
    refine z_iload_n C dX6_string_38 rfl ?_
    refine z_iload C dX6_string_39 rfl ?_
    refine z_aload_n C dX6_string_41 rfl ?_
    refine g_17_17 C wd602 dX6_string_42 ?_
    refine z_iload_n C dX6_string_45 rfl ?_
    refine a_31 C ey (by omega) dX6_string_46 ?_
    refine z_cvi C (As := [_, _, _, _, _]) (c_X6_lies hM1 ex hx8 ey (by omega) ez hz8 e5 (by omega) hb hzl eff hf16 hri) okX6_lies wd719 rc_17 (rok (by decide) (by decide)) ⟨Nat.le_of_ble_eq_true rfl, Nat.le_of_ble_eq_true rfl⟩ rfl (Nat.le_of_ble_eq_true rfl) dX6_string_47 ?_
    rintro r47 _ ⟨rfl, h47⟩
    refine z_if_eq C 58 dX6_string_50 (by decide) (fun c_50 => ?_) (fun c_50 => ?_)
    · refine z_iload C dX6_string_58 rfl ?_
      refine z_istore C dX6_string_60 (by decide) ?_
      dsimp only [List.set]
      refine z_iinc C (v := (-1)) dX6_string_62 rfl (by decide) (by decide) ?_
      dsimp only [List.set]
      refine z_goto C 30 dX6_string_65 (by decide) ?_
      exact ih _ _ (by rw [e5, Int32.add_assoc]; exact Int32.add_zero _) (by omega) (hS.elim (fun a => Or.inl ⟨a.1, fun k k1 k2 => (Nat.eq_or_lt_of_le k1).elim (fun q => by subst q; exact h47.elim (fun b => absurd (b.1.symm.trans c_50) (by decide)) (fun b => b.2)) (fun q => a.2 k q k2)⟩) (fun a => by
            obtain ⟨k, k1, k2, k3, k4, k5⟩ := a
            exact Or.inr ⟨k, by omega, k2, k3, k4, fun k9 b1 b2 => (Nat.eq_or_lt_of_le b1).elim (fun q => by subst q; exact h47.elim (fun b => absurd (b.1.symm.trans c_50) (by decide)) (fun b => b.2)) (fun q => k5 k9 q b2)⟩))
    · refine z_iload C dX6_string_53 rfl ?_
      refine z_goto C 60 dX6_string_55 (by decide) ?_
      refine z_istore C dX6_string_60 (by decide) ?_
      dsimp only [List.set]
      refine z_iinc C (v := (-1)) dX6_string_62 rfl (by decide) (by decide) ?_
      dsimp only [List.set]
      refine z_goto C 30 dX6_string_65 (by decide) ?_
      exact ih _ _ (by rw [e5, Int32.add_assoc]; exact Int32.add_zero _) (by omega) (Or.inr ⟨t, Nat.le_refl _, by omega, e5, h47.elim (fun b => b.2) (fun b => absurd b.1 c_50), fun k9 b1 b2 => absurd b2 (by omega)⟩)
end
set_option maxRecDepth 100000 in
set_option maxHeartbeats 4000000 in
theorem c_X6_string {l : Launch} {D : va_G} {ad : Nat → Nat → Nat} {cy : Nat → ClassId} {A : Nat → Prop} {sa : Nat → Nat} {σ : St} {g : St} {x y z : Int32} (hM : MRel g σ) (hI : Inv g) : MI l D ad cy A sa yX6_string cX6_string 6 (some .int) 5 σ [.ref (ad 17 0), .int x, .int y, .int z] (fun r σ' => MPost g g σ σ' (K_note g x y z) ∧ (K_note g x y z = 0 → r = valT g (ix x) (ix y) (ix z))) := by
  refine MI.mk "FretSchoolModel" (by decide) rfl (Nat.le_of_ble_eq_true rfl) rfl ?_
  intro p e s m args below meth c C
  change Z _ _ _ _ _ _ _ _ _ _ _ _ _ _ _ _ _ _ _ [some (.ref (ad 17 0)), some (.int x), some (.int y), some (.int z), none, none] 0 []
  refine z_aload_n C dX6_string_0 rfl ?_
  refine z_iload_n C dX6_string_1 rfl ?_
  refine z_iload_n C dX6_string_2 rfl ?_
  refine z_iload_n C dX6_string_3 rfl ?_
  refine z_cvi C (As := [_, _, _]) (c_X6_asksNote hM hI) okX6_asksNote wd743 rc_17 (rok (by decide) (by decide)) ⟨Nat.le_of_ble_eq_true rfl, Nat.le_of_ble_eq_true rfl⟩ rfl (Nat.le_of_ble_eq_true rfl) dX6_string_4 ?_
  rintro r4 _ ⟨rfl, h4⟩
  refine z_if_ne C 12 dX6_string_7 (by decide) (fun c_7 => ?_) (fun c_7 => ?_)
  · have hK : K_note g x y z = 0 := h4.elim (fun a => a.2) (fun a => absurd a.1 c_7)
    obtain ⟨ex, hx8, ey, hyc, hc16, ez, hz8, hzl⟩ := K_note_ok hI hK
    refine z_aload_n C dX6_string_12 rfl ?_
    refine z_iload_n C dX6_string_13 rfl ?_
    refine z_iload_n C dX6_string_14 rfl ?_
    refine z_cvi C (As := [_, _]) (c_X6_finds (hM.fs FS.thr) hI ex hx8 ez hz8 hzl) okX6_finds wd707 rc_17 (rok (by decide) (by decide)) ⟨Nat.le_of_ble_eq_true rfl, Nat.le_of_ble_eq_true rfl⟩ rfl (Nat.le_of_ble_eq_true rfl) dX6_string_15 ?_
    rintro r15 σ1 ⟨hfr, e15, hbest⟩
    refine z_iconst C (v := (-1)) dX6_string_18 (by decide) ?_
    refine z_icmp_ne C 24 dX6_string_19 (by decide) (fun c_19 => ?_) (fun c_19 => ?_)
    · have hPL : PLw g (ix x) (ix z) := Classical.byContradiction fun h => c_19 (e15.trans (PLw.nval h).2)
      refine z_iconst C (v := (-1)) dX6_string_24 (by decide) ?_
      refine z_istore C dX6_string_25 (by decide) ?_
      dsimp only [List.set]
      refine z_iconst C (v := 3) dX6_string_27 (by decide) ?_
      refine z_istore C dX6_string_28 (by decide) ?_
      dsimp only [List.set]
      exact lp_X6_string C hM hI (MPost.fs hM (FS.thr.trans hfr.fs) (by rw [hfr 17 0 18 (by decide) (by decide), up_app, if_pos ⟨rfl, rfl, rfl⟩])) ((hM.fs FS.thr).fs hfr.fs) ex hx8 ey hyc hc16 ez hz8 hzl hPL (hbest hPL _ hyc) 4 _ _ (by decide) (by omega) (Or.inl ⟨rfl, fun k k1 k2 => absurd k1 (by omega)⟩)
    · have hnP : ¬ PLw g (ix x) (ix z) := fun h => h.sval (e15.symm.trans c_19)
      refine z_iconst C (v := (-1)) dX6_string_22 (by decide) ?_
      refine z_iret C dX6_string_23 ?_
      exact ⟨(MPost.fs hM (FS.thr.trans hfr.fs) (by rw [hfr 17 0 18 (by decide) (by decide), up_app, if_pos ⟨rfl, rfl, rfl⟩])), fun _ => (PLw.npval hnP).2.symm⟩
  · have hK : K_note g x y z = 1 := h4.elim (fun a => absurd (a.1.symm.trans c_7) (by decide)) (fun a => a.2)
    refine z_iconst C (v := 0) dX6_string_10 (by decide) ?_
    refine z_iret C dX6_string_11 ?_
    exact ⟨by rw [hK]; exact MPost.no hM (by decide), fun a => absurd (a.symm.trans hK) (by decide)⟩
