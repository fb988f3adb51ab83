/-! ===== the model: transpose, orders ===== -/
theorem awV_s {g : St} {k : Nat} : awV g (k + 1) = if g 16 k 3 = 0 ∧ g 0 0 9 < g 16 k 2 then awV g k + 1 else awV g k := rfl
section
variable {p : Program} {l : Launch} {e : Env} {R : Room} {s : State} {m : MethodId} {args : Array Value} {below : List Frame} {meth : Method} {c : Code} {D : va_G} {ad : Nat → Nat → Nat} {cy : Nat → ClassId} {A : Nat → Prop} {sa : Nat → Nat} {cells slots : Nat} {σ : St}
set_option maxRecDepth 100000 in
set_option maxHeartbeats 4000000 in
theorem lp_X6_atWork (C : Cx p l s m args meth c cX6_atWork "FretSchoolModel" 3 (some .int) D ad cy A sa) {g : St} {n : Nat} (hM : MRel g σ) (hI : Inv g) (hn : g 0 0 8 = nI n) (hn20 : n ≤ 20) : ∀ (f j : Nat) (x1 x2 : Int32), x2 = nI j → x1 = awV g j → j ≤ n → n < j + f → Z p l e (rmD 0 0) s m args below meth c D ad cy A 3 0 0 (MQ below (va_Qi (fun r σ' => r = awV g n ∧ σ = σ') (Bw D ad cy) A) args s 0 0 A) σ [some (.ref (ad 17 0)), some (.int x1), some (.int x2)] 4 [] := by
  have hn1 : σ 17 0 11 = nI n := hM.2.2.1.trans hn
  intro f
  induction f with
  | zero => intro j x1 x2 _ _ _ h; exact absurd h (by omega)
  | succ f ih =>
    intro j x1 x2 e2 e1 hj hf
    refine z_iload_n C dX6_atWork_4 rfl ?_
    refine z_aload_n C dX6_atWork_5 rfl ?_
    refine g_17_11 C wd596 dX6_atWork_6 ?_
    refine z_icmp_ge C 48 dX6_atWork_9 (by decide) (fun c_9 => ?_) (fun c_9 => ?_)
    · have hjn : n ≤ j := by rw [hn1, e2, nI_leI (by omega) (by omega)] at c_9; exact c_9
      refine z_iload_n C dX6_atWork_48 rfl ?_
      refine z_iret C dX6_atWork_49 ?_
      exact ⟨by rw [e1, show j = n by omega], rfl⟩
    · have hjn : j < n := by rw [hn1, e2, nI_leI (by omega) (by omega)] at c_9; omega
      refine z_iload_n C dX6_atWork_12 rfl ?_
      refine z_aload_n C dX6_atWork_13 rfl ?_
      refine g_17_15 C wd600 dX6_atWork_14 ?_
      refine z_iload_n C dX6_atWork_17 rfl ?_
      refine a_29 C e2 (by omega) dX6_atWork_18 ?_
      refine z_if_ne C 39 dX6_atWork_19 (by decide) (fun c_19 => ?_) (fun c_19 => ?_)
      · rw [hM.fet (by omega)] at c_19
        refine z_iconst C (v := 0) dX6_atWork_39 (by decide) ?_
        refine z_iadd C dX6_atWork_40 ?_
        refine z_istore_n C dX6_atWork_41 (by decide) ?_
        dsimp only [List.set]
        refine z_iinc C (v := 1) dX6_atWork_42 rfl (by decide) (by decide) ?_
        dsimp only [List.set]
        refine z_goto C 4 dX6_atWork_45 (by decide) ?_
        exact ih (j + 1) _ _ (by rw [e2]; exact nI_1 j) (by rw [awV_s, if_neg (fun q => c_19 q.1), Int32.add_zero]; exact e1) (by omega) (by omega)
      · rw [hM.fet (by omega)] at c_19
        refine z_aload_n C dX6_atWork_22 rfl ?_
        refine g_17_0 C wd585 dX6_atWork_23 ?_
        refine z_aload_n C dX6_atWork_26 rfl ?_
        refine g_17_14 C wd599 dX6_atWork_27 ?_
        refine z_iload_n C dX6_atWork_30 rfl ?_
        refine a_28 C e2 (by omega) dX6_atWork_31 ?_
        refine z_icmp_ge C 39 dX6_atWork_32 (by decide) (fun c_32 => ?_) (fun c_32 => ?_)
        · rw [hM.2.2.2.1, hM.rdy (by omega)] at c_32
          refine z_iconst C (v := 0) dX6_atWork_39 (by decide) ?_
          refine z_iadd C dX6_atWork_40 ?_
          refine z_istore_n C dX6_atWork_41 (by decide) ?_
          dsimp only [List.set]
          refine z_iinc C (v := 1) dX6_atWork_42 rfl (by decide) (by decide) ?_
          dsimp only [List.set]
          refine z_goto C 4 dX6_atWork_45 (by decide) ?_
          exact ih (j + 1) _ _ (by rw [e2]; exact nI_1 j) (by rw [awV_s, if_neg (fun q => absurd q.2 (Int32.not_lt.mpr c_32)), Int32.add_zero]; exact e1) (by omega) (by omega)
        · rw [hM.2.2.2.1, hM.rdy (by omega)] at c_32
          refine z_iconst C (v := 1) dX6_atWork_35 (by decide) ?_
          refine z_goto C 40 dX6_atWork_36 (by decide) ?_
          refine z_iadd C dX6_atWork_40 ?_
          refine z_istore_n C dX6_atWork_41 (by decide) ?_
          dsimp only [List.set]
          refine z_iinc C (v := 1) dX6_atWork_42 rfl (by decide) (by decide) ?_
          dsimp only [List.set]
          refine z_goto C 4 dX6_atWork_45 (by decide) ?_
          exact ih (j + 1) _ _ (by rw [e2]; exact nI_1 j) (by rw [awV_s, if_pos ⟨c_19, Int32.not_le.mp c_32⟩, e1]) (by omega) (by omega)
end
set_option maxRecDepth 100000 in
set_option maxHeartbeats 4000000 in
theorem c_X6_atWork {l : Launch} {D : va_G} {ad : Nat → Nat → Nat} {cy : Nat → ClassId} {A : Nat → Prop} {sa : Nat → Nat} {σ : St} {g : St} {n : Nat} (hM : MRel g σ) (hI : Inv g) (hn : g 0 0 8 = nI n) (hn20 : n ≤ 20) : MI l D ad cy A sa yX6_atWork cX6_atWork 3 (some .int) 0 σ [.ref (ad 17 0)] (fun r σ' => r = awV g n ∧ σ = σ') := by
  refine MI.mk "FretSchoolModel" (by decide) rfl (Nat.le_of_ble_eq_true rfl) rfl ?_
  intro p e s m args below meth c C
  change Z _ _ _ _ _ _ _ _ _ _ _ _ _ _ _ _ _ _ _ [some (.ref (ad 17 0)), none, none] 0 []
  refine z_iconst C (v := 0) dX6_atWork_0 (by decide) ?_
  refine z_istore_n C dX6_atWork_1 (by decide) ?_
  dsimp only [List.set]
  refine z_iconst C (v := 0) dX6_atWork_2 (by decide) ?_
  refine z_istore_n C dX6_atWork_3 (by decide) ?_
  dsimp only [List.set]
  exact lp_X6_atWork C hM hI hn hn20 (n + 1) 0 _ _ nI_0.symm rfl (by omega) (by omega)
set_option maxRecDepth 100000 in
set_option maxHeartbeats 4000000 in
theorem c_X6_order {l : Launch} {D : va_G} {ad : Nat → Nat → Nat} {cy : Nat → ClassId} {A : Nat → Prop} {sa : Nat → Nat} {σ : St} {g : St} {w x y : Int32} (hM : MRel g σ) (hI : Inv g) : MI l D ad cy A sa yX6_order cX6_order 5 (some .int) 2 σ [.ref (ad 17 0), .int w, .int x, .int y] (fun r σ' => MPost g (orderS g (ix (g 0 0 8)) w x y) σ σ' (K_order g w x y) ∧ (K_order g w x y = 0 → r = g 0 0 8)) := by
  refine MI.mk "FretSchoolModel" (by decide) rfl (Nat.le_of_ble_eq_true rfl) rfl ?_
  intro p e s m args below meth c C
  change Z _ _ _ _ _ _ _ _ _ _ _ _ _ _ _ _ _ _ _ [some (.ref (ad 17 0)), some (.int w), some (.int x), some (.int y), none] 0 []
  obtain ⟨no, hno, eno⟩ := hI.2.2.1
  have eno1 : σ 17 0 11 = nI no := hM.2.2.1.trans eno
  have eix : ix (g 0 0 8) = no := by rw [eno]; exact nI_clamp (by omega)
  refine z_iload_n C dX6_order_0 rfl ?_
  refine z_csi C (As := [_]) (c_X6_isPupil) okX6_isPupil wd755 (rok (by decide) (by decide)) ⟨Nat.le_of_ble_eq_true rfl, Nat.le_of_ble_eq_true rfl⟩ rfl (Nat.le_of_ble_eq_true rfl) dX6_order_1 ?_
  rintro r1 _ ⟨rfl, h1⟩
  refine z_if_eq C 30 dX6_order_4 (by decide) (fun c_4 => ?_) (fun c_4 => ?_)
  · have hb1 : outR w 0 4 := h1.elim (fun a => absurd (a.1.symm.trans c_4) (by decide)) (fun a => a.2)
    refine z_iconst C (v := 0) dX6_order_30 (by decide) ?_
    refine z_istore C dX6_order_31 (by decide) ?_
    dsimp only [List.set]
    refine z_aload_n C dX6_order_33 rfl ?_
    refine z_iload C dX6_order_34 rfl ?_
    refine z_iload C dX6_order_36 rfl ?_
    refine z_if_eq C 72 dX6_order_38 (by decide) (fun c_38 => ?_) (fun c_38 => ?_)
    · refine z_iconst C (v := 0) dX6_order_72 (by decide) ?_
      refine z_iconst C (v := 1) dX6_order_73 (by decide) ?_
      refine z_cvi C (As := [_, _, _]) (c_X6_goes) okX6_goes wd652 rc_17 (rok (by decide) (by decide)) ⟨Nat.le_of_ble_eq_true rfl, Nat.le_of_ble_eq_true rfl⟩ rfl (Nat.le_of_ble_eq_true rfl) dX6_order_74 ?_
      rintro r74 _ ⟨rfl, e74⟩
      refine z_if_ne C 82 dX6_order_77 (by decide) (fun c_77 => ?_) (fun c_77 => ?_)
      · exact absurd (e74.trans (by decide)) c_77
      · have hK : K_order g w x y = 1 := by unfold K_order; rw [if_pos (Or.inl hb1)]
        refine z_iconst C (v := 0) dX6_order_80 (by decide) ?_
        refine z_iret C dX6_order_81 ?_
        exact ⟨by rw [hK]; exact MPost.no hM (by decide), fun a => absurd (a.symm.trans hK) (by decide)⟩
    · exact absurd rfl c_38
  · have hb1 : ¬ outR w 0 4 := h1.elim (fun a => a.2) (fun a => absurd a.1 c_4)
    refine z_iload_n C dX6_order_7 rfl ?_
    refine z_iconst C (v := 0) dX6_order_8 (by decide) ?_
    refine z_iconst C (v := 3) dX6_order_9 (by decide) ?_
    refine z_csi C (As := [_, _, _]) (c_X6_in) okX6_in wd664 (rok (by decide) (by decide)) ⟨Nat.le_of_ble_eq_true rfl, Nat.le_of_ble_eq_true rfl⟩ rfl (Nat.le_of_ble_eq_true rfl) dX6_order_10 ?_
    rintro r10 _ ⟨rfl, h10⟩
    refine z_if_eq C 30 dX6_order_13 (by decide) (fun c_13 => ?_) (fun c_13 => ?_)
    · have hb10 : outR x 0 3 := h10.elim (fun a => absurd (a.1.symm.trans c_13) (by decide)) (fun a => a.2)
      refine z_iconst C (v := 0) dX6_order_30 (by decide) ?_
      refine z_istore C dX6_order_31 (by decide) ?_
      dsimp only [List.set]
      refine z_aload_n C dX6_order_33 rfl ?_
      refine z_iload C dX6_order_34 rfl ?_
      refine z_iload C dX6_order_36 rfl ?_
      refine z_if_eq C 72 dX6_order_38 (by decide) (fun c_38 => ?_) (fun c_38 => ?_)
      · refine z_iconst C (v := 0) dX6_order_72 (by decide) ?_
        refine z_iconst C (v := 1) dX6_order_73 (by decide) ?_
        refine z_cvi C (As := [_, _, _]) (c_X6_goes) okX6_goes wd652 rc_17 (rok (by decide) (by decide)) ⟨Nat.le_of_ble_eq_true rfl, Nat.le_of_ble_eq_true rfl⟩ rfl (Nat.le_of_ble_eq_true rfl) dX6_order_74 ?_
        rintro r74 _ ⟨rfl, e74⟩
        refine z_if_ne C 82 dX6_order_77 (by decide) (fun c_77 => ?_) (fun c_77 => ?_)
        · exact absurd (e74.trans (by decide)) c_77
        · have hK : K_order g w x y = 1 := by unfold K_order; rw [if_pos (Or.inr (Or.inl hb10))]
          refine z_iconst C (v := 0) dX6_order_80 (by decide) ?_
          refine z_iret C dX6_order_81 ?_
          exact ⟨by rw [hK]; exact MPost.no hM (by decide), fun a => absurd (a.symm.trans hK) (by decide)⟩
      · exact absurd rfl c_38
    · have hb10 : ¬ outR x 0 3 := h10.elim (fun a => a.2) (fun a => absurd a.1 c_13)
      obtain ⟨et, ht3⟩ := nout (n := 3) (by decide) hb10
      refine z_iload_n C dX6_order_16 rfl ?_
      refine z_iconst C (v := 4) dX6_order_17 (by decide) ?_
      refine z_bipush C (v := 16) dX6_order_18 (by decide) ?_
      refine z_csi C (As := [_, _, _]) (c_X6_in) okX6_in wd664 (rok (by decide) (by decide)) ⟨Nat.le_of_ble_eq_true rfl, Nat.le_of_ble_eq_true rfl⟩ rfl (Nat.le_of_ble_eq_true rfl) dX6_order_20 ?_
      rintro r20 _ ⟨rfl, h20⟩
      refine z_if_eq C 30 dX6_order_23 (by decide) (fun c_23 => ?_) (fun c_23 => ?_)
      · have hb20 : outR y 4 16 := h20.elim (fun a => absurd (a.1.symm.trans c_23) (by decide)) (fun a => a.2)
        refine z_iconst C (v := 0) dX6_order_30 (by decide) ?_
        refine z_istore C dX6_order_31 (by decide) ?_
        dsimp only [List.set]
        refine z_aload_n C dX6_order_33 rfl ?_
        refine z_iload C dX6_order_34 rfl ?_
        refine z_iload C dX6_order_36 rfl ?_
        refine z_if_eq C 72 dX6_order_38 (by decide) (fun c_38 => ?_) (fun c_38 => ?_)
        · refine z_iconst C (v := 0) dX6_order_72 (by decide) ?_
          refine z_iconst C (v := 1) dX6_order_73 (by decide) ?_
          refine z_cvi C (As := [_, _, _]) (c_X6_goes) okX6_goes wd652 rc_17 (rok (by decide) (by decide)) ⟨Nat.le_of_ble_eq_true rfl, Nat.le_of_ble_eq_true rfl⟩ rfl (Nat.le_of_ble_eq_true rfl) dX6_order_74 ?_
          rintro r74 _ ⟨rfl, e74⟩
          refine z_if_ne C 82 dX6_order_77 (by decide) (fun c_77 => ?_) (fun c_77 => ?_)
          · exact absurd (e74.trans (by decide)) c_77
          · have hK : K_order g w x y = 1 := by unfold K_order; rw [if_pos (Or.inr (Or.inr hb20))]
            refine z_iconst C (v := 0) dX6_order_80 (by decide) ?_
            refine z_iret C dX6_order_81 ?_
            exact ⟨by rw [hK]; exact MPost.no hM (by decide), fun a => absurd (a.symm.trans hK) (by decide)⟩
        · exact absurd rfl c_38
      · have hb20 : ¬ outR y 4 16 := h20.elim (fun a => a.2) (fun a => absurd a.1 c_23)
        refine z_iconst C (v := 1) dX6_order_26 (by decide) ?_
        refine z_goto C 31 dX6_order_27 (by decide) ?_
        refine z_istore C dX6_order_31 (by decide) ?_
        dsimp only [List.set]
        refine z_aload_n C dX6_order_33 rfl ?_
        refine z_iload C dX6_order_34 rfl ?_
        refine z_iload C dX6_order_36 rfl ?_
        refine z_if_eq C 72 dX6_order_38 (by decide) (fun c_38 => ?_) (fun c_38 => ?_)
        · exact absurd c_38 (by decide)
        · refine z_aload_n C dX6_order_41 rfl ?_
          refine g_17_10 C wd595 dX6_order_42 ?_
          refine z_iload_n C dX6_order_45 rfl ?_
          refine a_25 C et (by omega) dX6_order_46 ?_
          refine z_iconst C (v := 3) dX6_order_47 (by decide) ?_
          refine z_icmp_lt C 72 dX6_order_48 (by decide) (fun c_48 => ?_) (fun c_48 => ?_)
          · rw [hM.stk (by omega)] at c_48
            refine z_iconst C (v := 0) dX6_order_72 (by decide) ?_
            refine z_iconst C (v := 1) dX6_order_73 (by decide) ?_
            refine z_cvi C (As := [_, _, _]) (c_X6_goes) okX6_goes wd652 rc_17 (rok (by decide) (by decide)) ⟨Nat.le_of_ble_eq_true rfl, Nat.le_of_ble_eq_true rfl⟩ rfl (Nat.le_of_ble_eq_true rfl) dX6_order_74 ?_
            rintro r74 _ ⟨rfl, e74⟩
            refine z_if_ne C 82 dX6_order_77 (by decide) (fun c_77 => ?_) (fun c_77 => ?_)
            · exact absurd (e74.trans (by decide)) c_77
            · have hK : K_order g w x y = 2 := by unfold K_order; rw [if_neg (fun q => q.elim hb1 (fun q => q.elim hb10 hb20)), if_pos (Or.inl (Int32.not_le.mpr c_48))]
              refine z_iconst C (v := 0) dX6_order_80 (by decide) ?_
              refine z_iret C dX6_order_81 ?_
              exact ⟨by rw [hK]; exact MPost.no hM (by decide), fun a => absurd (a.symm.trans hK) (by decide)⟩
          · rw [hM.stk (by omega)] at c_48
            refine z_aload_n C dX6_order_51 rfl ?_
            refine z_cvi C (As := []) (c_X6_atWork hM hI eno hno) okX6_atWork wd786 rc_17 (rok (by decide) (by decide)) ⟨Nat.le_of_ble_eq_true rfl, Nat.le_of_ble_eq_true rfl⟩ rfl (Nat.le_of_ble_eq_true rfl) dX6_order_52 ?_
            rintro r52 _ ⟨e52, rfl⟩
            refine z_iconst C (v := 2) dX6_order_55 (by decide) ?_
            refine z_icmp_ge C 72 dX6_order_56 (by decide) (fun c_56 => ?_) (fun c_56 => ?_)
            · rw [e52, ← eix] at c_56
              refine z_iconst C (v := 0) dX6_order_72 (by decide) ?_
              refine z_iconst C (v := 1) dX6_order_73 (by decide) ?_
              refine z_cvi C (As := [_, _, _]) (c_X6_goes) okX6_goes wd652 rc_17 (rok (by decide) (by decide)) ⟨Nat.le_of_ble_eq_true rfl, Nat.le_of_ble_eq_true rfl⟩ rfl (Nat.le_of_ble_eq_true rfl) dX6_order_74 ?_
              rintro r74 _ ⟨rfl, e74⟩
              refine z_if_ne C 82 dX6_order_77 (by decide) (fun c_77 => ?_) (fun c_77 => ?_)
              · exact absurd (e74.trans (by decide)) c_77
              · have hK : K_order g w x y = 2 := by unfold K_order; rw [if_neg (fun q => q.elim hb1 (fun q => q.elim hb10 hb20)), if_pos (Or.inr (Or.inl (Int32.not_lt.mpr c_56)))]
                refine z_iconst C (v := 0) dX6_order_80 (by decide) ?_
                refine z_iret C dX6_order_81 ?_
                exact ⟨by rw [hK]; exact MPost.no hM (by decide), fun a => absurd (a.symm.trans hK) (by decide)⟩
            · rw [e52, ← eix] at c_56
              refine z_aload_n C dX6_order_59 rfl ?_
              refine g_17_11 C wd596 dX6_order_60 ?_
              refine z_bipush C (v := 20) dX6_order_63 (by decide) ?_
              refine z_icmp_ge C 72 dX6_order_65 (by decide) (fun c_65 => ?_) (fun c_65 => ?_)
              · rw [hM.2.2.1] at c_65
                refine z_iconst C (v := 0) dX6_order_72 (by decide) ?_
                refine z_iconst C (v := 1) dX6_order_73 (by decide) ?_
                refine z_cvi C (As := [_, _, _]) (c_X6_goes) okX6_goes wd652 rc_17 (rok (by decide) (by decide)) ⟨Nat.le_of_ble_eq_true rfl, Nat.le_of_ble_eq_true rfl⟩ rfl (Nat.le_of_ble_eq_true rfl) dX6_order_74 ?_
                rintro r74 _ ⟨rfl, e74⟩
                refine z_if_ne C 82 dX6_order_77 (by decide) (fun c_77 => ?_) (fun c_77 => ?_)
                · exact absurd (e74.trans (by decide)) c_77
                · have hK : K_order g w x y = 2 := by unfold K_order; rw [if_neg (fun q => q.elim hb1 (fun q => q.elim hb10 hb20)), if_pos (Or.inr (Or.inr (Int32.not_lt.mpr c_65)))]
                  refine z_iconst C (v := 0) dX6_order_80 (by decide) ?_
                  refine z_iret C dX6_order_81 ?_
                  exact ⟨by rw [hK]; exact MPost.no hM (by decide), fun a => absurd (a.symm.trans hK) (by decide)⟩
              · rw [hM.2.2.1] at c_65
                have hn20 : no < 20 := by rw [eno, show (20 : Int32) = nI 20 from rfl, nI_leI (by omega) (by omega)] at c_65; omega
                refine z_iconst C (v := 1) dX6_order_68 (by decide) ?_
                refine z_goto C 73 dX6_order_69 (by decide) ?_
                refine z_iconst C (v := 1) dX6_order_73 (by decide) ?_
                refine z_cvi C (As := [_, _, _]) (c_X6_goes) okX6_goes wd652 rc_17 (rok (by decide) (by decide)) ⟨Nat.le_of_ble_eq_true rfl, Nat.le_of_ble_eq_true rfl⟩ rfl (Nat.le_of_ble_eq_true rfl) dX6_order_74 ?_
                rintro r74 _ ⟨rfl, e74⟩
                refine z_if_ne C 82 dX6_order_77 (by decide) (fun c_77 => ?_) (fun c_77 => ?_)
                · have hK : K_order g w x y = 0 := by unfold K_order; rw [if_neg (fun q => q.elim hb1 (fun q => q.elim hb10 hb20)), if_neg (fun q => q.elim (fun q => q (Int32.not_lt.mp c_48)) (fun q => q.elim (fun q => q (Int32.not_le.mp c_56)) (fun q => q (Int32.not_le.mp c_65))))]
                  refine z_aload_n C dX6_order_82 rfl ?_
                  refine g_17_10 C wd595 dX6_order_83 ?_
                  refine z_iload_n C dX6_order_86 rfl ?_
                  refine z_dup2 C dX6_order_87 rfl rfl ?_
                  refine a_25 C et (by omega) dX6_order_88 ?_
                  refine z_iconst C (v := 3) dX6_order_89 (by decide) ?_
                  refine z_isub C dX6_order_90 ?_
                  refine s_25 C et (by omega) dX6_order_91 ?_
                  refine z_aload_n C dX6_order_92 rfl ?_
                  refine g_17_12 C wd597 dX6_order_93 ?_
                  refine z_aload_n C dX6_order_96 rfl ?_
                  refine g_17_11 C wd596 dX6_order_97 ?_
                  refine z_iload_n C dX6_order_100 rfl ?_
                  refine s_26 C (j := no) (by rw [up_app, if_neg (by omega), up_app, if_neg (by omega)]; exact eno1) hn20 dX6_order_101 ?_
                  refine z_aload_n C dX6_order_102 rfl ?_
                  refine g_17_13 C wd598 dX6_order_103 ?_
                  refine z_aload_n C dX6_order_106 rfl ?_
                  refine g_17_11 C wd596 dX6_order_107 ?_
                  refine z_iload_n C dX6_order_110 rfl ?_
                  refine s_27 C (j := no) (by rw [up_app, if_neg (by omega), up_app, if_neg (by omega), up_app, if_neg (by omega)]; exact eno1) hn20 dX6_order_111 ?_
                  refine z_aload_n C dX6_order_112 rfl ?_
                  refine g_17_14 C wd599 dX6_order_113 ?_
                  refine z_aload_n C dX6_order_116 rfl ?_
                  refine g_17_11 C wd596 dX6_order_117 ?_
                  refine z_aload_n C dX6_order_120 rfl ?_
                  refine g_17_0 C wd585 dX6_order_121 ?_
                  refine z_iconst C (v := 2) dX6_order_124 (by decide) ?_
                  refine z_iload_n C dX6_order_125 rfl ?_
                  refine z_imul C dX6_order_126 ?_
                  refine z_iadd C dX6_order_127 ?_
                  refine s_28 C (j := no) (by rw [up_app, if_neg (by omega), up_app, if_neg (by omega), up_app, if_neg (by omega), up_app, if_neg (by omega)]; exact eno1) hn20 dX6_order_128 ?_
                  refine z_aload_n C dX6_order_129 rfl ?_
                  refine z_dup C dX6_order_130 rfl ?_
                  refine g_17_11 C wd596 dX6_order_131 ?_
                  refine z_iconst C (v := 1) dX6_order_134 (by decide) ?_
                  refine z_iadd C dX6_order_135 ?_
                  refine p_17_11 C wd596 dX6_order_136 ?_
                  refine z_aload_n C dX6_order_139 rfl ?_
                  refine g_17_11 C wd596 dX6_order_140 ?_
                  refine z_iconst C (v := 1) dX6_order_143 (by decide) ?_
                  refine z_isub C dX6_order_144 ?_
                  refine z_iret C dX6_order_145 ?_
                  have hM0 : MRel g (up σ 17 0 18 (nI (tC 1 1 1))) := hM.fs FS.thr
                  generalize hS0 : (up σ 17 0 18 (nI (tC 1 1 1))) = σ0 at hM0 ⊢
                  have ht0 : σ0 17 0 18 = nI 0 := by rw [← hS0, up_app, if_pos ⟨rfl, rfl, rfl⟩]; rfl
                  have hl0 : ∀ a b c0, (a < 17 ∨ a = 32) → σ0 a b c0 = σ a b c0 := fun a b c0 h => by rw [← hS0, up_low (by decide) a b c0 h]
                  have es : σ0 25 0 (ix x) = g 5 0 (ix x) := hM0.stk (by omega)
                  have eo : σ0 17 0 11 = nI no := hM0.2.2.1.trans eno
                  have ed : σ0 17 0 0 = g 0 0 9 := hM0.2.2.2.1
                  refine ⟨⟨fun a b c0 h => ?_, ?_, fun _ => ?_, fun q => absurd hK q⟩, fun _ => ?_⟩
                  · rw [up_low (by decide) a b c0 h, up_low (by decide) a b c0 h, up_low (by decide) a b c0 h, up_low (by decide) a b c0 h, up_low (by decide) a b c0 h]
                    exact hl0 a b c0 h
                  · simp only [up_app]
                    simp only [Nat.reduceEqDiff, false_and, and_false, if_false, ht0, hK]
                  · rw [eix]
                    simp only [up_app]
                    simp only [Nat.reduceEqDiff, false_and, and_false, and_true, true_and, if_false, if_true, es, eo, ed]
                    rw [nI_1]
                    have h1 := mr_rdy (a := no) (x := g 0 0 9 + 2 * y) (mr_ord (a := no) (x := y) (mr_buy (a := no) (x := w) (mr_stk (a := ix x) (x := g 5 0 (ix x) - 3) hM0)))
                    refine mr_no h1 (fun i hi hl => ?_)
                    rw [nI_ltI (by omega) (by omega)] at hl
                    rcases Nat.lt_or_ge i no with q | q
                    · exact h1.ord hi (by rw [up_app, if_neg (by omega), up_app, if_neg (by omega), up_app, if_neg (by omega), up_app, if_neg (by omega), eno]; exact nI_lt q (by omega))
                    · rw [show i = no by omega]
                      rw [up_app, if_neg (by omega), up_app, if_pos ⟨rfl, rfl, rfl⟩, up_app, if_neg (by omega), up_app, if_pos ⟨rfl, rfl, rfl⟩]
                  · simp only [up_app]
                    simp only [Nat.reduceEqDiff, false_and, and_false, and_true, true_and, if_false, if_true, eo]
                    rw [Int32.add_sub_cancel]
                    exact eno.symm
                · exact absurd (e74.symm.trans c_77) (by decide)
set_option maxRecDepth 100000 in
set_option maxHeartbeats 4000000 in
theorem c_X6_fetch {l : Launch} {D : va_G} {ad : Nat → Nat → Nat} {cy : Nat → ClassId} {A : Nat → Prop} {sa : Nat → Nat} {σ : St} {g : St} {x a b c0 d0 : Int32} (hM : MRel g σ) (hI : Inv g) : MI l D ad cy A sa yX6_fetch cX6_fetch 8 (some .int) 2 σ [.ref (ad 17 0), .int x, .int a, .int b, .int c0, .int d0] (fun r σ' => MPost g (fetchS g (ix x) (ix (g 0 0 7)) a b c0 d0) σ σ' (K_fetch g x a b c0 d0) ∧ (K_fetch g x a b c0 d0 = 0 → r = g 0 0 7)) := by
  refine MI.mk "FretSchoolModel" (by decide) rfl (Nat.le_of_ble_eq_true rfl) rfl ?_
  intro p e s m args below meth c C
  change Z _ _ _ _ _ _ _ _ _ _ _ _ _ _ _ _ _ _ _ [some (.ref (ad 17 0)), some (.int x), some (.int a), some (.int b), some (.int c0), some (.int d0), none, none] 0 []
  obtain ⟨no, hno, eno⟩ := hI.2.2.1
  have eno1 : σ 17 0 11 = nI no := hM.2.2.1.trans eno
  obtain ⟨ni, hni, eni⟩ := hI.2.1
  have eni1 : σ 17 0 4 = nI ni := hM.2.1.trans eni
  have eix : ix (g 0 0 7) = ni := by rw [eni]; exact nI_clamp (by omega)
  refine z_aload_n C dX6_fetch_0 rfl ?_
  refine z_iload_n C dX6_fetch_1 rfl ?_
  refine z_cvi C (As := [_]) (c_X6_isOrder eno1 (by omega)) okX6_isOrder wd794 rc_17 (rok (by decide) (by decide)) ⟨Nat.le_of_ble_eq_true rfl, Nat.le_of_ble_eq_true rfl⟩ rfl (Nat.le_of_ble_eq_true rfl) dX6_fetch_2 ?_
  rintro r2 _ ⟨rfl, h2⟩
  rw [← eno] at h2
  rcases h2 with ⟨rfl, hb2⟩ | ⟨rfl, hb2⟩
  · obtain ⟨ex, hx1, hx8⟩ := nbad hno (by decide) (by rw [eno] at hb2; exact hb2)
    have hxl : nI (ix x) < g 0 0 8 := by rw [eno]; exact nI_lt hx1 (by omega)
    refine z_istore C dX6_fetch_5 (by decide) ?_
    dsimp only [List.set]
    refine z_iload_n C dX6_fetch_7 rfl ?_
    refine z_csi C (As := [_]) (c_X6_isOpen) okX6_isOpen wd802 (rok (by decide) (by decide)) ⟨Nat.le_of_ble_eq_true rfl, Nat.le_of_ble_eq_true rfl⟩ rfl (Nat.le_of_ble_eq_true rfl) dX6_fetch_8 ?_
    rintro r8 _ ⟨rfl, h8⟩
    refine z_if_eq C 41 dX6_fetch_11 (by decide) (fun c_11 => ?_) (fun c_11 => ?_)
    · have hb8 : outR a 0 60 := h8.elim (fun a => absurd (a.1.symm.trans c_11) (by decide)) (fun a => a.2)
      refine z_iconst C (v := 0) dX6_fetch_41 (by decide) ?_
      refine z_istore C dX6_fetch_42 (by decide) ?_
      dsimp only [List.set]
      refine z_aload_n C dX6_fetch_44 rfl ?_
      refine z_iload C dX6_fetch_45 rfl ?_
      refine z_iload C dX6_fetch_47 rfl ?_
      refine z_iload C dX6_fetch_49 rfl ?_
      refine z_if_eq C 89 dX6_fetch_51 (by decide) (fun c_51 => ?_) (fun c_51 => ?_)
      · exact absurd c_51 (by decide)
      · refine z_aload_n C dX6_fetch_54 rfl ?_
        refine g_17_0 C wd585 dX6_fetch_55 ?_
        refine z_aload_n C dX6_fetch_58 rfl ?_
        refine g_17_14 C wd599 dX6_fetch_59 ?_
        refine z_iload_n C dX6_fetch_62 rfl ?_
        refine a_28 C ex hx8 dX6_fetch_63 ?_
        refine z_icmp_lt C 89 dX6_fetch_64 (by decide) (fun c_64 => ?_) (fun c_64 => ?_)
        · rw [hM.2.2.2.1, hM.rdy hx8] at c_64
          refine z_iconst C (v := 0) dX6_fetch_89 (by decide) ?_
          refine z_cvi C (As := [_, _, _]) (c_X6_goes) okX6_goes wd652 rc_17 (rok (by decide) (by decide)) ⟨Nat.le_of_ble_eq_true rfl, Nat.le_of_ble_eq_true rfl⟩ rfl (Nat.le_of_ble_eq_true rfl) dX6_fetch_90 ?_
          rintro r90 _ ⟨rfl, e90⟩
          refine z_if_ne C 98 dX6_fetch_93 (by decide) (fun c_93 => ?_) (fun c_93 => ?_)
          · exact absurd (e90.trans (by decide)) c_93
          · have hK : K_fetch g x a b c0 d0 = 2 := by unfold K_fetch; rw [if_neg hb2, if_pos (Or.inl hb8)]
            refine z_iconst C (v := 0) dX6_fetch_96 (by decide) ?_
            refine z_iret C dX6_fetch_97 ?_
            exact ⟨by rw [hK]; exact MPost.no hM (by decide), fun a => absurd (a.symm.trans hK) (by decide)⟩
        · rw [hM.2.2.2.1, hM.rdy hx8] at c_64
          refine z_aload_n C dX6_fetch_67 rfl ?_
          refine g_17_15 C wd600 dX6_fetch_68 ?_
          refine z_iload_n C dX6_fetch_71 rfl ?_
          refine a_29 C ex hx8 dX6_fetch_72 ?_
          refine z_if_ne C 89 dX6_fetch_73 (by decide) (fun c_73 => ?_) (fun c_73 => ?_)
          · rw [hM.fet hx8] at c_73
            refine z_iconst C (v := 0) dX6_fetch_89 (by decide) ?_
            refine z_cvi C (As := [_, _, _]) (c_X6_goes) okX6_goes wd652 rc_17 (rok (by decide) (by decide)) ⟨Nat.le_of_ble_eq_true rfl, Nat.le_of_ble_eq_true rfl⟩ rfl (Nat.le_of_ble_eq_true rfl) dX6_fetch_90 ?_
            rintro r90 _ ⟨rfl, e90⟩
            refine z_if_ne C 98 dX6_fetch_93 (by decide) (fun c_93 => ?_) (fun c_93 => ?_)
            · exact absurd (e90.trans (by decide)) c_93
            · have hK : K_fetch g x a b c0 d0 = 2 := by unfold K_fetch; rw [if_neg hb2, if_pos (Or.inl hb8)]
              refine z_iconst C (v := 0) dX6_fetch_96 (by decide) ?_
              refine z_iret C dX6_fetch_97 ?_
              exact ⟨by rw [hK]; exact MPost.no hM (by decide), fun a => absurd (a.symm.trans hK) (by decide)⟩
          · rw [hM.fet hx8] at c_73
            refine z_aload_n C dX6_fetch_76 rfl ?_
            refine g_17_4 C wd589 dX6_fetch_77 ?_
            refine z_bipush C (v := 8) dX6_fetch_80 (by decide) ?_
            refine z_icmp_ge C 89 dX6_fetch_82 (by decide) (fun c_82 => ?_) (fun c_82 => ?_)
            · rw [hM.2.1] at c_82
              refine z_iconst C (v := 0) dX6_fetch_89 (by decide) ?_
              refine z_cvi C (As := [_, _, _]) (c_X6_goes) okX6_goes wd652 rc_17 (rok (by decide) (by decide)) ⟨Nat.le_of_ble_eq_true rfl, Nat.le_of_ble_eq_true rfl⟩ rfl (Nat.le_of_ble_eq_true rfl) dX6_fetch_90 ?_
              rintro r90 _ ⟨rfl, e90⟩
              refine z_if_ne C 98 dX6_fetch_93 (by decide) (fun c_93 => ?_) (fun c_93 => ?_)
              · exact absurd (e90.trans (by decide)) c_93
              · have hK : K_fetch g x a b c0 d0 = 2 := by unfold K_fetch; rw [if_neg hb2, if_pos (Or.inl hb8)]
                refine z_iconst C (v := 0) dX6_fetch_96 (by decide) ?_
                refine z_iret C dX6_fetch_97 ?_
                exact ⟨by rw [hK]; exact MPost.no hM (by decide), fun a => absurd (a.symm.trans hK) (by decide)⟩
            · rw [hM.2.1] at c_82
              have hn8 : ni < 8 := by rw [eni, show (8 : Int32) = nI 8 from rfl, nI_leI (by omega) (by omega)] at c_82; omega
              refine z_iconst C (v := 1) dX6_fetch_85 (by decide) ?_
              refine z_goto C 90 dX6_fetch_86 (by decide) ?_
              refine z_cvi C (As := [_, _, _]) (c_X6_goes) okX6_goes wd652 rc_17 (rok (by decide) (by decide)) ⟨Nat.le_of_ble_eq_true rfl, Nat.le_of_ble_eq_true rfl⟩ rfl (Nat.le_of_ble_eq_true rfl) dX6_fetch_90 ?_
              rintro r90 _ ⟨rfl, e90⟩
              refine z_if_ne C 98 dX6_fetch_93 (by decide) (fun c_93 => ?_) (fun c_93 => ?_)
              · exact absurd (e90.trans (by decide)) c_93
              · have hK : K_fetch g x a b c0 d0 = 2 := by unfold K_fetch; rw [if_neg hb2, if_pos (Or.inl hb8)]
                refine z_iconst C (v := 0) dX6_fetch_96 (by decide) ?_
                refine z_iret C dX6_fetch_97 ?_
                exact ⟨by rw [hK]; exact MPost.no hM (by decide), fun a => absurd (a.symm.trans hK) (by decide)⟩
    · have hb8 : ¬ outR a 0 60 := h8.elim (fun a => a.2) (fun a => absurd a.1 c_11)
      refine z_iload_n C dX6_fetch_14 rfl ?_
      refine z_csi C (As := [_]) (c_X6_isOpen) okX6_isOpen wd802 (rok (by decide) (by decide)) ⟨Nat.le_of_ble_eq_true rfl, Nat.le_of_ble_eq_true rfl⟩ rfl (Nat.le_of_ble_eq_true rfl) dX6_fetch_15 ?_
      rintro r15 _ ⟨rfl, h15⟩
      refine z_if_eq C 41 dX6_fetch_18 (by decide) (fun c_18 => ?_) (fun c_18 => ?_)
      · have hb15 : outR b 0 60 := h15.elim (fun a => absurd (a.1.symm.trans c_18) (by decide)) (fun a => a.2)
        refine z_iconst C (v := 0) dX6_fetch_41 (by decide) ?_
        refine z_istore C dX6_fetch_42 (by decide) ?_
        dsimp only [List.set]
        refine z_aload_n C dX6_fetch_44 rfl ?_
        refine z_iload C dX6_fetch_45 rfl ?_
        refine z_iload C dX6_fetch_47 rfl ?_
        refine z_iload C dX6_fetch_49 rfl ?_
        refine z_if_eq C 89 dX6_fetch_51 (by decide) (fun c_51 => ?_) (fun c_51 => ?_)
        · exact absurd c_51 (by decide)
        · refine z_aload_n C dX6_fetch_54 rfl ?_
          refine g_17_0 C wd585 dX6_fetch_55 ?_
          refine z_aload_n C dX6_fetch_58 rfl ?_
          refine g_17_14 C wd599 dX6_fetch_59 ?_
          refine z_iload_n C dX6_fetch_62 rfl ?_
          refine a_28 C ex hx8 dX6_fetch_63 ?_
          refine z_icmp_lt C 89 dX6_fetch_64 (by decide) (fun c_64 => ?_) (fun c_64 => ?_)
          · rw [hM.2.2.2.1, hM.rdy hx8] at c_64
            refine z_iconst C (v := 0) dX6_fetch_89 (by decide) ?_
            refine z_cvi C (As := [_, _, _]) (c_X6_goes) okX6_goes wd652 rc_17 (rok (by decide) (by decide)) ⟨Nat.le_of_ble_eq_true rfl, Nat.le_of_ble_eq_true rfl⟩ rfl (Nat.le_of_ble_eq_true rfl) dX6_fetch_90 ?_
            rintro r90 _ ⟨rfl, e90⟩
            refine z_if_ne C 98 dX6_fetch_93 (by decide) (fun c_93 => ?_) (fun c_93 => ?_)
            · exact absurd (e90.trans (by decide)) c_93
            · have hK : K_fetch g x a b c0 d0 = 2 := by unfold K_fetch; rw [if_neg hb2, if_pos (Or.inr (Or.inl hb15))]
              refine z_iconst C (v := 0) dX6_fetch_96 (by decide) ?_
              refine z_iret C dX6_fetch_97 ?_
              exact ⟨by rw [hK]; exact MPost.no hM (by decide), fun a => absurd (a.symm.trans hK) (by decide)⟩
          · rw [hM.2.2.2.1, hM.rdy hx8] at c_64
            refine z_aload_n C dX6_fetch_67 rfl ?_
            refine g_17_15 C wd600 dX6_fetch_68 ?_
            refine z_iload_n C dX6_fetch_71 rfl ?_
            refine a_29 C ex hx8 dX6_fetch_72 ?_
            refine z_if_ne C 89 dX6_fetch_73 (by decide) (fun c_73 => ?_) (fun c_73 => ?_)
            · rw [hM.fet hx8] at c_73
              refine z_iconst C (v := 0) dX6_fetch_89 (by decide) ?_
              refine z_cvi C (As := [_, _, _]) (c_X6_goes) okX6_goes wd652 rc_17 (rok (by decide) (by decide)) ⟨Nat.le_of_ble_eq_true rfl, Nat.le_of_ble_eq_true rfl⟩ rfl (Nat.le_of_ble_eq_true rfl) dX6_fetch_90 ?_
              rintro r90 _ ⟨rfl, e90⟩
              refine z_if_ne C 98 dX6_fetch_93 (by decide) (fun c_93 => ?_) (fun c_93 => ?_)
              · exact absurd (e90.trans (by decide)) c_93
              · have hK : K_fetch g x a b c0 d0 = 2 := by unfold K_fetch; rw [if_neg hb2, if_pos (Or.inr (Or.inl hb15))]
                refine z_iconst C (v := 0) dX6_fetch_96 (by decide) ?_
                refine z_iret C dX6_fetch_97 ?_
                exact ⟨by rw [hK]; exact MPost.no hM (by decide), fun a => absurd (a.symm.trans hK) (by decide)⟩
            · rw [hM.fet hx8] at c_73
              refine z_aload_n C dX6_fetch_76 rfl ?_
              refine g_17_4 C wd589 dX6_fetch_77 ?_
              refine z_bipush C (v := 8) dX6_fetch_80 (by decide) ?_
              refine z_icmp_ge C 89 dX6_fetch_82 (by decide) (fun c_82 => ?_) (fun c_82 => ?_)
              · rw [hM.2.1] at c_82
                refine z_iconst C (v := 0) dX6_fetch_89 (by decide) ?_
                refine z_cvi C (As := [_, _, _]) (c_X6_goes) okX6_goes wd652 rc_17 (rok (by decide) (by decide)) ⟨Nat.le_of_ble_eq_true rfl, Nat.le_of_ble_eq_true rfl⟩ rfl (Nat.le_of_ble_eq_true rfl) dX6_fetch_90 ?_
                rintro r90 _ ⟨rfl, e90⟩
                refine z_if_ne C 98 dX6_fetch_93 (by decide) (fun c_93 => ?_) (fun c_93 => ?_)
                · exact absurd (e90.trans (by decide)) c_93
                · have hK : K_fetch g x a b c0 d0 = 2 := by unfold K_fetch; rw [if_neg hb2, if_pos (Or.inr (Or.inl hb15))]
                  refine z_iconst C (v := 0) dX6_fetch_96 (by decide) ?_
                  refine z_iret C dX6_fetch_97 ?_
                  exact ⟨by rw [hK]; exact MPost.no hM (by decide), fun a => absurd (a.symm.trans hK) (by decide)⟩
              · rw [hM.2.1] at c_82
                have hn8 : ni < 8 := by rw [eni, show (8 : Int32) = nI 8 from rfl, nI_leI (by omega) (by omega)] at c_82; omega
                refine z_iconst C (v := 1) dX6_fetch_85 (by decide) ?_
                refine z_goto C 90 dX6_fetch_86 (by decide) ?_
                refine z_cvi C (As := [_, _, _]) (c_X6_goes) okX6_goes wd652 rc_17 (rok (by decide) (by decide)) ⟨Nat.le_of_ble_eq_true rfl, Nat.le_of_ble_eq_true rfl⟩ rfl (Nat.le_of_ble_eq_true rfl) dX6_fetch_90 ?_
                rintro r90 _ ⟨rfl, e90⟩
                refine z_if_ne C 98 dX6_fetch_93 (by decide) (fun c_93 => ?_) (fun c_93 => ?_)
                · exact absurd (e90.trans (by decide)) c_93
                · have hK : K_fetch g x a b c0 d0 = 2 := by unfold K_fetch; rw [if_neg hb2, if_pos (Or.inr (Or.inl hb15))]
                  refine z_iconst C (v := 0) dX6_fetch_96 (by decide) ?_
                  refine z_iret C dX6_fetch_97 ?_
                  exact ⟨by rw [hK]; exact MPost.no hM (by decide), fun a => absurd (a.symm.trans hK) (by decide)⟩
      · have hb15 : ¬ outR b 0 60 := h15.elim (fun a => a.2) (fun a => absurd a.1 c_18)
        refine z_iload C dX6_fetch_21 rfl ?_
        refine z_csi C (As := [_]) (c_X6_isOpen) okX6_isOpen wd802 (rok (by decide) (by decide)) ⟨Nat.le_of_ble_eq_true rfl, Nat.le_of_ble_eq_true rfl⟩ rfl (Nat.le_of_ble_eq_true rfl) dX6_fetch_23 ?_
        rintro r23 _ ⟨rfl, h23⟩
        refine z_if_eq C 41 dX6_fetch_26 (by decide) (fun c_26 => ?_) (fun c_26 => ?_)
        · have hb23 : outR c0 0 60 := h23.elim (fun a => absurd (a.1.symm.trans c_26) (by decide)) (fun a => a.2)
          refine z_iconst C (v := 0) dX6_fetch_41 (by decide) ?_
          refine z_istore C dX6_fetch_42 (by decide) ?_
          dsimp only [List.set]
          refine z_aload_n C dX6_fetch_44 rfl ?_
          refine z_iload C dX6_fetch_45 rfl ?_
          refine z_iload C dX6_fetch_47 rfl ?_
          refine z_iload C dX6_fetch_49 rfl ?_
          refine z_if_eq C 89 dX6_fetch_51 (by decide) (fun c_51 => ?_) (fun c_51 => ?_)
          · exact absurd c_51 (by decide)
          · refine z_aload_n C dX6_fetch_54 rfl ?_
            refine g_17_0 C wd585 dX6_fetch_55 ?_
            refine z_aload_n C dX6_fetch_58 rfl ?_
            refine g_17_14 C wd599 dX6_fetch_59 ?_
            refine z_iload_n C dX6_fetch_62 rfl ?_
            refine a_28 C ex hx8 dX6_fetch_63 ?_
            refine z_icmp_lt C 89 dX6_fetch_64 (by decide) (fun c_64 => ?_) (fun c_64 => ?_)
            · rw [hM.2.2.2.1, hM.rdy hx8] at c_64
              refine z_iconst C (v := 0) dX6_fetch_89 (by decide) ?_
              refine z_cvi C (As := [_, _, _]) (c_X6_goes) okX6_goes wd652 rc_17 (rok (by decide) (by decide)) ⟨Nat.le_of_ble_eq_true rfl, Nat.le_of_ble_eq_true rfl⟩ rfl (Nat.le_of_ble_eq_true rfl) dX6_fetch_90 ?_
              rintro r90 _ ⟨rfl, e90⟩
              refine z_if_ne C 98 dX6_fetch_93 (by decide) (fun c_93 => ?_) (fun c_93 => ?_)
              · exact absurd (e90.trans (by decide)) c_93
              · have hK : K_fetch g x a b c0 d0 = 2 := by unfold K_fetch; rw [if_neg hb2, if_pos (Or.inr (Or.inr (Or.inl hb23)))]
                refine z_iconst C (v := 0) dX6_fetch_96 (by decide) ?_
                refine z_iret C dX6_fetch_97 ?_
                exact ⟨by rw [hK]; exact MPost.no hM (by decide), fun a => absurd (a.symm.trans hK) (by decide)⟩
            · rw [hM.2.2.2.1, hM.rdy hx8] at c_64
              refine z_aload_n C dX6_fetch_67 rfl ?_
              refine g_17_15 C wd600 dX6_fetch_68 ?_
              refine z_iload_n C dX6_fetch_71 rfl ?_
              refine a_29 C ex hx8 dX6_fetch_72 ?_
              refine z_if_ne C 89 dX6_fetch_73 (by decide) (fun c_73 => ?_) (fun c_73 => ?_)
              · rw [hM.fet hx8] at c_73
                refine z_iconst C (v := 0) dX6_fetch_89 (by decide) ?_
                refine z_cvi C (As := [_, _, _]) (c_X6_goes) okX6_goes wd652 rc_17 (rok (by decide) (by decide)) ⟨Nat.le_of_ble_eq_true rfl, Nat.le_of_ble_eq_true rfl⟩ rfl (Nat.le_of_ble_eq_true rfl) dX6_fetch_90 ?_
                rintro r90 _ ⟨rfl, e90⟩
                refine z_if_ne C 98 dX6_fetch_93 (by decide) (fun c_93 => ?_) (fun c_93 => ?_)
                · exact absurd (e90.trans (by decide)) c_93
                · have hK : K_fetch g x a b c0 d0 = 2 := by unfold K_fetch; rw [if_neg hb2, if_pos (Or.inr (Or.inr (Or.inl hb23)))]
                  refine z_iconst C (v := 0) dX6_fetch_96 (by decide) ?_
                  refine z_iret C dX6_fetch_97 ?_
                  exact ⟨by rw [hK]; exact MPost.no hM (by decide), fun a => absurd (a.symm.trans hK) (by decide)⟩
              · rw [hM.fet hx8] at c_73
                refine z_aload_n C dX6_fetch_76 rfl ?_
                refine g_17_4 C wd589 dX6_fetch_77 ?_
                refine z_bipush C (v := 8) dX6_fetch_80 (by decide) ?_
                refine z_icmp_ge C 89 dX6_fetch_82 (by decide) (fun c_82 => ?_) (fun c_82 => ?_)
                · rw [hM.2.1] at c_82
                  refine z_iconst C (v := 0) dX6_fetch_89 (by decide) ?_
                  refine z_cvi C (As := [_, _, _]) (c_X6_goes) okX6_goes wd652 rc_17 (rok (by decide) (by decide)) ⟨Nat.le_of_ble_eq_true rfl, Nat.le_of_ble_eq_true rfl⟩ rfl (Nat.le_of_ble_eq_true rfl) dX6_fetch_90 ?_
                  rintro r90 _ ⟨rfl, e90⟩
                  refine z_if_ne C 98 dX6_fetch_93 (by decide) (fun c_93 => ?_) (fun c_93 => ?_)
                  · exact absurd (e90.trans (by decide)) c_93
                  · have hK : K_fetch g x a b c0 d0 = 2 := by unfold K_fetch; rw [if_neg hb2, if_pos (Or.inr (Or.inr (Or.inl hb23)))]
                    refine z_iconst C (v := 0) dX6_fetch_96 (by decide) ?_
                    refine z_iret C dX6_fetch_97 ?_
                    exact ⟨by rw [hK]; exact MPost.no hM (by decide), fun a => absurd (a.symm.trans hK) (by decide)⟩
                · rw [hM.2.1] at c_82
                  have hn8 : ni < 8 := by rw [eni, show (8 : Int32) = nI 8 from rfl, nI_leI (by omega) (by omega)] at c_82; omega
                  refine z_iconst C (v := 1) dX6_fetch_85 (by decide) ?_
                  refine z_goto C 90 dX6_fetch_86 (by decide) ?_
                  refine z_cvi C (As := [_, _, _]) (c_X6_goes) okX6_goes wd652 rc_17 (rok (by decide) (by decide)) ⟨Nat.le_of_ble_eq_true rfl, Nat.le_of_ble_eq_true rfl⟩ rfl (Nat.le_of_ble_eq_true rfl) dX6_fetch_90 ?_
                  rintro r90 _ ⟨rfl, e90⟩
                  refine z_if_ne C 98 dX6_fetch_93 (by decide) (fun c_93 => ?_) (fun c_93 => ?_)
                  · exact absurd (e90.trans (by decide)) c_93
                  · have hK : K_fetch g x a b c0 d0 = 2 := by unfold K_fetch; rw [if_neg hb2, if_pos (Or.inr (Or.inr (Or.inl hb23)))]
                    refine z_iconst C (v := 0) dX6_fetch_96 (by decide) ?_
                    refine z_iret C dX6_fetch_97 ?_
                    exact ⟨by rw [hK]; exact MPost.no hM (by decide), fun a => absurd (a.symm.trans hK) (by decide)⟩
        · have hb23 : ¬ outR c0 0 60 := h23.elim (fun a => a.2) (fun a => absurd a.1 c_26)
          refine z_iload C dX6_fetch_29 rfl ?_
          refine z_csi C (As := [_]) (c_X6_isOpen) okX6_isOpen wd802 (rok (by decide) (by decide)) ⟨Nat.le_of_ble_eq_true rfl, Nat.le_of_ble_eq_true rfl⟩ rfl (Nat.le_of_ble_eq_true rfl) dX6_fetch_31 ?_
          rintro r31 _ ⟨rfl, h31⟩
          refine z_if_eq C 41 dX6_fetch_34 (by decide) (fun c_34 => ?_) (fun c_34 => ?_)
          · have hb31 : outR d0 0 60 := h31.elim (fun a => absurd (a.1.symm.trans c_34) (by decide)) (fun a => a.2)
            refine z_iconst C (v := 0) dX6_fetch_41 (by decide) ?_
            refine z_istore C dX6_fetch_42 (by decide) ?_
            dsimp only [List.set]
            refine z_aload_n C dX6_fetch_44 rfl ?_
            refine z_iload C dX6_fetch_45 rfl ?_
            refine z_iload C dX6_fetch_47 rfl ?_
            refine z_iload C dX6_fetch_49 rfl ?_
            refine z_if_eq C 89 dX6_fetch_51 (by decide) (fun c_51 => ?_) (fun c_51 => ?_)
            · exact absurd c_51 (by decide)
            · refine z_aload_n C dX6_fetch_54 rfl ?_
              refine g_17_0 C wd585 dX6_fetch_55 ?_
              refine z_aload_n C dX6_fetch_58 rfl ?_
              refine g_17_14 C wd599 dX6_fetch_59 ?_
              refine z_iload_n C dX6_fetch_62 rfl ?_
              refine a_28 C ex hx8 dX6_fetch_63 ?_
              refine z_icmp_lt C 89 dX6_fetch_64 (by decide) (fun c_64 => ?_) (fun c_64 => ?_)
              · rw [hM.2.2.2.1, hM.rdy hx8] at c_64
                refine z_iconst C (v := 0) dX6_fetch_89 (by decide) ?_
                refine z_cvi C (As := [_, _, _]) (c_X6_goes) okX6_goes wd652 rc_17 (rok (by decide) (by decide)) ⟨Nat.le_of_ble_eq_true rfl, Nat.le_of_ble_eq_true rfl⟩ rfl (Nat.le_of_ble_eq_true rfl) dX6_fetch_90 ?_
                rintro r90 _ ⟨rfl, e90⟩
                refine z_if_ne C 98 dX6_fetch_93 (by decide) (fun c_93 => ?_) (fun c_93 => ?_)
                · exact absurd (e90.trans (by decide)) c_93
                · have hK : K_fetch g x a b c0 d0 = 2 := by unfold K_fetch; rw [if_neg hb2, if_pos (Or.inr (Or.inr (Or.inr hb31)))]
                  refine z_iconst C (v := 0) dX6_fetch_96 (by decide) ?_
                  refine z_iret C dX6_fetch_97 ?_
                  exact ⟨by rw [hK]; exact MPost.no hM (by decide), fun a => absurd (a.symm.trans hK) (by decide)⟩
              · rw [hM.2.2.2.1, hM.rdy hx8] at c_64
                refine z_aload_n C dX6_fetch_67 rfl ?_
                refine g_17_15 C wd600 dX6_fetch_68 ?_
                refine z_iload_n C dX6_fetch_71 rfl ?_
                refine a_29 C ex hx8 dX6_fetch_72 ?_
                refine z_if_ne C 89 dX6_fetch_73 (by decide) (fun c_73 => ?_) (fun c_73 => ?_)
                · rw [hM.fet hx8] at c_73
                  refine z_iconst C (v := 0) dX6_fetch_89 (by decide) ?_
                  refine z_cvi C (As := [_, _, _]) (c_X6_goes) okX6_goes wd652 rc_17 (rok (by decide) (by decide)) ⟨Nat.le_of_ble_eq_true rfl, Nat.le_of_ble_eq_true rfl⟩ rfl (Nat.le_of_ble_eq_true rfl) dX6_fetch_90 ?_
                  rintro r90 _ ⟨rfl, e90⟩
                  refine z_if_ne C 98 dX6_fetch_93 (by decide) (fun c_93 => ?_) (fun c_93 => ?_)
                  · exact absurd (e90.trans (by decide)) c_93
                  · have hK : K_fetch g x a b c0 d0 = 2 := by unfold K_fetch; rw [if_neg hb2, if_pos (Or.inr (Or.inr (Or.inr hb31)))]
                    refine z_iconst C (v := 0) dX6_fetch_96 (by decide) ?_
                    refine z_iret C dX6_fetch_97 ?_
                    exact ⟨by rw [hK]; exact MPost.no hM (by decide), fun a => absurd (a.symm.trans hK) (by decide)⟩
                · rw [hM.fet hx8] at c_73
                  refine z_aload_n C dX6_fetch_76 rfl ?_
                  refine g_17_4 C wd589 dX6_fetch_77 ?_
                  refine z_bipush C (v := 8) dX6_fetch_80 (by decide) ?_
                  refine z_icmp_ge C 89 dX6_fetch_82 (by decide) (fun c_82 => ?_) (fun c_82 => ?_)
                  · rw [hM.2.1] at c_82
                    refine z_iconst C (v := 0) dX6_fetch_89 (by decide) ?_
                    refine z_cvi C (As := [_, _, _]) (c_X6_goes) okX6_goes wd652 rc_17 (rok (by decide) (by decide)) ⟨Nat.le_of_ble_eq_true rfl, Nat.le_of_ble_eq_true rfl⟩ rfl (Nat.le_of_ble_eq_true rfl) dX6_fetch_90 ?_
                    rintro r90 _ ⟨rfl, e90⟩
                    refine z_if_ne C 98 dX6_fetch_93 (by decide) (fun c_93 => ?_) (fun c_93 => ?_)
                    · exact absurd (e90.trans (by decide)) c_93
                    · have hK : K_fetch g x a b c0 d0 = 2 := by unfold K_fetch; rw [if_neg hb2, if_pos (Or.inr (Or.inr (Or.inr hb31)))]
                      refine z_iconst C (v := 0) dX6_fetch_96 (by decide) ?_
                      refine z_iret C dX6_fetch_97 ?_
                      exact ⟨by rw [hK]; exact MPost.no hM (by decide), fun a => absurd (a.symm.trans hK) (by decide)⟩
                  · rw [hM.2.1] at c_82
                    have hn8 : ni < 8 := by rw [eni, show (8 : Int32) = nI 8 from rfl, nI_leI (by omega) (by omega)] at c_82; omega
                    refine z_iconst C (v := 1) dX6_fetch_85 (by decide) ?_
                    refine z_goto C 90 dX6_fetch_86 (by decide) ?_
                    refine z_cvi C (As := [_, _, _]) (c_X6_goes) okX6_goes wd652 rc_17 (rok (by decide) (by decide)) ⟨Nat.le_of_ble_eq_true rfl, Nat.le_of_ble_eq_true rfl⟩ rfl (Nat.le_of_ble_eq_true rfl) dX6_fetch_90 ?_
                    rintro r90 _ ⟨rfl, e90⟩
                    refine z_if_ne C 98 dX6_fetch_93 (by decide) (fun c_93 => ?_) (fun c_93 => ?_)
                    · exact absurd (e90.trans (by decide)) c_93
                    · have hK : K_fetch g x a b c0 d0 = 2 := by unfold K_fetch; rw [if_neg hb2, if_pos (Or.inr (Or.inr (Or.inr hb31)))]
                      refine z_iconst C (v := 0) dX6_fetch_96 (by decide) ?_
                      refine z_iret C dX6_fetch_97 ?_
                      exact ⟨by rw [hK]; exact MPost.no hM (by decide), fun a => absurd (a.symm.trans hK) (by decide)⟩
          · have hb31 : ¬ outR d0 0 60 := h31.elim (fun a => a.2) (fun a => absurd a.1 c_34)
            refine z_iconst C (v := 1) dX6_fetch_37 (by decide) ?_
            refine z_goto C 42 dX6_fetch_38 (by decide) ?_
            refine z_istore C dX6_fetch_42 (by decide) ?_
            dsimp only [List.set]
            refine z_aload_n C dX6_fetch_44 rfl ?_
            refine z_iload C dX6_fetch_45 rfl ?_
            refine z_iload C dX6_fetch_47 rfl ?_
            refine z_iload C dX6_fetch_49 rfl ?_
            refine z_if_eq C 89 dX6_fetch_51 (by decide) (fun c_51 => ?_) (fun c_51 => ?_)
            · exact absurd c_51 (by decide)
            · refine z_aload_n C dX6_fetch_54 rfl ?_
              refine g_17_0 C wd585 dX6_fetch_55 ?_
              refine z_aload_n C dX6_fetch_58 rfl ?_
              refine g_17_14 C wd599 dX6_fetch_59 ?_
              refine z_iload_n C dX6_fetch_62 rfl ?_
              refine a_28 C ex hx8 dX6_fetch_63 ?_
              refine z_icmp_lt C 89 dX6_fetch_64 (by decide) (fun c_64 => ?_) (fun c_64 => ?_)
              · rw [hM.2.2.2.1, hM.rdy hx8] at c_64
                refine z_iconst C (v := 0) dX6_fetch_89 (by decide) ?_
                refine z_cvi C (As := [_, _, _]) (c_X6_goes) okX6_goes wd652 rc_17 (rok (by decide) (by decide)) ⟨Nat.le_of_ble_eq_true rfl, Nat.le_of_ble_eq_true rfl⟩ rfl (Nat.le_of_ble_eq_true rfl) dX6_fetch_90 ?_
                rintro r90 _ ⟨rfl, e90⟩
                refine z_if_ne C 98 dX6_fetch_93 (by decide) (fun c_93 => ?_) (fun c_93 => ?_)
                · exact absurd (e90.trans (by decide)) c_93
                · have hK : K_fetch g x a b c0 d0 = 3 := by unfold K_fetch; rw [if_neg hb2, if_neg (fun q => q.elim hb8 (fun q => q.elim hb15 (fun q => q.elim hb23 hb31))), if_pos (Or.inl c_64)]
                  refine z_iconst C (v := 0) dX6_fetch_96 (by decide) ?_
                  refine z_iret C dX6_fetch_97 ?_
                  exact ⟨by rw [hK]; exact MPost.no hM (by decide), fun a => absurd (a.symm.trans hK) (by decide)⟩
              · rw [hM.2.2.2.1, hM.rdy hx8] at c_64
                refine z_aload_n C dX6_fetch_67 rfl ?_
                refine g_17_15 C wd600 dX6_fetch_68 ?_
                refine z_iload_n C dX6_fetch_71 rfl ?_
                refine a_29 C ex hx8 dX6_fetch_72 ?_
                refine z_if_ne C 89 dX6_fetch_73 (by decide) (fun c_73 => ?_) (fun c_73 => ?_)
                · rw [hM.fet hx8] at c_73
                  refine z_iconst C (v := 0) dX6_fetch_89 (by decide) ?_
                  refine z_cvi C (As := [_, _, _]) (c_X6_goes) okX6_goes wd652 rc_17 (rok (by decide) (by decide)) ⟨Nat.le_of_ble_eq_true rfl, Nat.le_of_ble_eq_true rfl⟩ rfl (Nat.le_of_ble_eq_true rfl) dX6_fetch_90 ?_
                  rintro r90 _ ⟨rfl, e90⟩
                  refine z_if_ne C 98 dX6_fetch_93 (by decide) (fun c_93 => ?_) (fun c_93 => ?_)
                  · exact absurd (e90.trans (by decide)) c_93
                  · have hK : K_fetch g x a b c0 d0 = 3 := by unfold K_fetch; rw [if_neg hb2, if_neg (fun q => q.elim hb8 (fun q => q.elim hb15 (fun q => q.elim hb23 hb31))), if_pos (Or.inr (Or.inl c_73))]
                    refine z_iconst C (v := 0) dX6_fetch_96 (by decide) ?_
                    refine z_iret C dX6_fetch_97 ?_
                    exact ⟨by rw [hK]; exact MPost.no hM (by decide), fun a => absurd (a.symm.trans hK) (by decide)⟩
                · rw [hM.fet hx8] at c_73
                  refine z_aload_n C dX6_fetch_76 rfl ?_
                  refine g_17_4 C wd589 dX6_fetch_77 ?_
                  refine z_bipush C (v := 8) dX6_fetch_80 (by decide) ?_
                  refine z_icmp_ge C 89 dX6_fetch_82 (by decide) (fun c_82 => ?_) (fun c_82 => ?_)
                  · rw [hM.2.1] at c_82
                    refine z_iconst C (v := 0) dX6_fetch_89 (by decide) ?_
                    refine z_cvi C (As := [_, _, _]) (c_X6_goes) okX6_goes wd652 rc_17 (rok (by decide) (by decide)) ⟨Nat.le_of_ble_eq_true rfl, Nat.le_of_ble_eq_true rfl⟩ rfl (Nat.le_of_ble_eq_true rfl) dX6_fetch_90 ?_
                    rintro r90 _ ⟨rfl, e90⟩
                    refine z_if_ne C 98 dX6_fetch_93 (by decide) (fun c_93 => ?_) (fun c_93 => ?_)
                    · exact absurd (e90.trans (by decide)) c_93
                    · have hK : K_fetch g x a b c0 d0 = 3 := by unfold K_fetch; rw [if_neg hb2, if_neg (fun q => q.elim hb8 (fun q => q.elim hb15 (fun q => q.elim hb23 hb31))), if_pos (Or.inr (Or.inr (Int32.not_lt.mpr c_82)))]
                      refine z_iconst C (v := 0) dX6_fetch_96 (by decide) ?_
                      refine z_iret C dX6_fetch_97 ?_
                      exact ⟨by rw [hK]; exact MPost.no hM (by decide), fun a => absurd (a.symm.trans hK) (by decide)⟩
                  · rw [hM.2.1] at c_82
                    have hn8 : ni < 8 := by rw [eni, show (8 : Int32) = nI 8 from rfl, nI_leI (by omega) (by omega)] at c_82; omega
                    refine z_iconst C (v := 1) dX6_fetch_85 (by decide) ?_
                    refine z_goto C 90 dX6_fetch_86 (by decide) ?_
                    refine z_cvi C (As := [_, _, _]) (c_X6_goes) okX6_goes wd652 rc_17 (rok (by decide) (by decide)) ⟨Nat.le_of_ble_eq_true rfl, Nat.le_of_ble_eq_true rfl⟩ rfl (Nat.le_of_ble_eq_true rfl) dX6_fetch_90 ?_
                    rintro r90 _ ⟨rfl, e90⟩
                    refine z_if_ne C 98 dX6_fetch_93 (by decide) (fun c_93 => ?_) (fun c_93 => ?_)
                    · have hK : K_fetch g x a b c0 d0 = 0 := by unfold K_fetch; rw [if_neg hb2, if_neg (fun q => q.elim hb8 (fun q => q.elim hb15 (fun q => q.elim hb23 hb31))), if_neg (fun q => q.elim c_64 (fun q => q.elim (fun q => q c_73) (fun q => q (Int32.not_le.mp c_82))))]
                      refine z_aload_n C dX6_fetch_98 rfl ?_
                      refine g_17_15 C wd600 dX6_fetch_99 ?_
                      refine z_iload_n C dX6_fetch_102 rfl ?_
                      refine z_iconst C (v := 1) dX6_fetch_103 (by decide) ?_
                      refine s_29 C ex hx8 (by first | exact Or.inl rfl | exact Or.inr rfl | assumption) dX6_fetch_104 ?_
                      refine z_aload_n C dX6_fetch_105 rfl ?_
                      refine g_17_5 C wd590 dX6_fetch_106 ?_
                      refine z_aload_n C dX6_fetch_109 rfl ?_
                      refine g_17_4 C wd589 dX6_fetch_110 ?_
                      refine z_aload_n C dX6_fetch_113 rfl ?_
                      refine g_17_12 C wd597 dX6_fetch_114 ?_
                      refine z_iload_n C dX6_fetch_117 rfl ?_
                      refine a_26 C ex hx8 dX6_fetch_118 ?_
                      refine s_20 C (j := ni) (by rw [up_app, if_neg (by omega), up_app, if_neg (by omega)]; exact eni1) hn8 dX6_fetch_119 ?_
                      refine z_aload_n C dX6_fetch_120 rfl ?_
                      refine g_17_6 C wd591 dX6_fetch_121 ?_
                      refine z_aload_n C dX6_fetch_124 rfl ?_
                      refine g_17_4 C wd589 dX6_fetch_125 ?_
                      refine z_aload_n C dX6_fetch_128 rfl ?_
                      refine g_17_13 C wd598 dX6_fetch_129 ?_
                      refine z_iload_n C dX6_fetch_132 rfl ?_
                      refine a_27 C ex hx8 dX6_fetch_133 ?_
                      refine s_21 C (j := ni) (by rw [up_app, if_neg (by omega), up_app, if_neg (by omega), up_app, if_neg (by omega)]; exact eni1) hn8 dX6_fetch_134 ?_
                      refine z_aload_n C dX6_fetch_135 rfl ?_
                      refine g_17_7 C wd592 dX6_fetch_136 ?_
                      refine z_iconst C (v := 4) dX6_fetch_139 (by decide) ?_
                      refine z_aload_n C dX6_fetch_140 rfl ?_
                      refine g_17_4 C wd589 dX6_fetch_141 ?_
                      refine z_imul C dX6_fetch_144 ?_
                      refine z_iload_n C dX6_fetch_145 rfl ?_
                      refine s_22 C (j := 4 * ni) (by rw [up_app, if_neg (by omega), up_app, if_neg (by omega), up_app, if_neg (by omega), up_app, if_neg (by omega), eni1, show (4 : Int32) = nI 4 from rfl, pk_mul]) (by omega) dX6_fetch_146 ?_
                      refine z_aload_n C dX6_fetch_147 rfl ?_
                      refine g_17_7 C wd592 dX6_fetch_148 ?_
                      refine z_iconst C (v := 4) dX6_fetch_151 (by decide) ?_
                      refine z_aload_n C dX6_fetch_152 rfl ?_
                      refine g_17_4 C wd589 dX6_fetch_153 ?_
                      refine z_imul C dX6_fetch_156 ?_
                      refine z_iconst C (v := 1) dX6_fetch_157 (by decide) ?_
                      refine z_iadd C dX6_fetch_158 ?_
                      refine z_iload_n C dX6_fetch_159 rfl ?_
                      refine s_22 C (j := 4 * ni + 1) (by rw [up_app, if_neg (by omega), up_app, if_neg (by omega), up_app, if_neg (by omega), up_app, if_neg (by omega), up_app, if_neg (by omega), eni1, show (4 : Int32) = nI 4 from rfl, pk_mul, nI_1]) (by omega) dX6_fetch_160 ?_
                      refine z_aload_n C dX6_fetch_161 rfl ?_
                      refine g_17_7 C wd592 dX6_fetch_162 ?_
                      refine z_iconst C (v := 4) dX6_fetch_165 (by decide) ?_
                      refine z_aload_n C dX6_fetch_166 rfl ?_
                      refine g_17_4 C wd589 dX6_fetch_167 ?_
                      refine z_imul C dX6_fetch_170 ?_
                      refine z_iconst C (v := 2) dX6_fetch_171 (by decide) ?_
                      refine z_iadd C dX6_fetch_172 ?_
                      refine z_iload C dX6_fetch_173 rfl ?_
                      refine s_22 C (j := 4 * ni + 2) (by rw [up_app, if_neg (by omega), up_app, if_neg (by omega), up_app, if_neg (by omega), up_app, if_neg (by omega), up_app, if_neg (by omega), up_app, if_neg (by omega), eni1, show (4 : Int32) = nI 4 from rfl, pk_mul, show (2 : Int32) = nI 2 from rfl, nI_add]) (by omega) dX6_fetch_175 ?_
                      refine z_aload_n C dX6_fetch_176 rfl ?_
                      refine g_17_7 C wd592 dX6_fetch_177 ?_
                      refine z_iconst C (v := 4) dX6_fetch_180 (by decide) ?_
                      refine z_aload_n C dX6_fetch_181 rfl ?_
                      refine g_17_4 C wd589 dX6_fetch_182 ?_
                      refine z_imul C dX6_fetch_185 ?_
                      refine z_iconst C (v := 3) dX6_fetch_186 (by decide) ?_
                      refine z_iadd C dX6_fetch_187 ?_
                      refine z_iload C dX6_fetch_188 rfl ?_
                      refine s_22 C (j := 4 * ni + 3) (by rw [up_app, if_neg (by omega), up_app, if_neg (by omega), up_app, if_neg (by omega), up_app, if_neg (by omega), up_app, if_neg (by omega), up_app, if_neg (by omega), up_app, if_neg (by omega), eni1, show (4 : Int32) = nI 4 from rfl, pk_mul, show (3 : Int32) = nI 3 from rfl, nI_add]) (by omega) dX6_fetch_190 ?_
                      refine z_aload_n C dX6_fetch_191 rfl ?_
                      refine z_dup C dX6_fetch_192 rfl ?_
                      refine g_17_4 C wd589 dX6_fetch_193 ?_
                      refine z_iconst C (v := 1) dX6_fetch_196 (by decide) ?_
                      refine z_iadd C dX6_fetch_197 ?_
                      refine p_17_4 C wd589 dX6_fetch_198 ?_
                      refine z_aload_n C dX6_fetch_201 rfl ?_
                      refine g_17_4 C wd589 dX6_fetch_202 ?_
                      refine z_iconst C (v := 1) dX6_fetch_205 (by decide) ?_
                      refine z_isub C dX6_fetch_206 ?_
                      refine z_iret C dX6_fetch_207 ?_
                      have hM0 : MRel g (up σ 17 0 18 (nI (tC 1 1 1))) := hM.fs FS.thr
                      generalize hS0 : (up σ 17 0 18 (nI (tC 1 1 1))) = σ0 at hM0 ⊢
                      have ht0 : σ0 17 0 18 = nI 0 := by rw [← hS0, up_app, if_pos ⟨rfl, rfl, rfl⟩]; rfl
                      have hl0 : ∀ a b c0, (a < 17 ∨ a = 32) → σ0 a b c0 = σ a b c0 := fun a b c0 h => by rw [← hS0, up_low (by decide) a b c0 h]
                      have eb : σ0 26 0 (ix x) = g 16 (ix x) 0 := hM0.buy hx8
                      have eo : σ0 27 0 (ix x) = g 16 (ix x) 1 := hM0.ord hx8 hxl
                      have ei : σ0 17 0 4 = nI ni := hM0.2.1.trans eni
                      refine ⟨⟨fun a1 b1 c1 h => ?_, ?_, fun _ => ?_, fun q => absurd hK q⟩, fun _ => ?_⟩
                      · rw [up_low (by decide) a1 b1 c1 h, up_low (by decide) a1 b1 c1 h, up_low (by decide) a1 b1 c1 h, up_low (by decide) a1 b1 c1 h, up_low (by decide) a1 b1 c1 h, up_low (by decide) a1 b1 c1 h, up_low (by decide) a1 b1 c1 h, up_low (by decide) a1 b1 c1 h]
                        exact hl0 a1 b1 c1 h
                      · simp only [up_app]
                        simp only [Nat.reduceEqDiff, false_and, and_false, if_false, ht0, hK]
                      · rw [eix]
                        simp only [up_app]
                        simp only [Nat.reduceEqDiff, false_and, and_false, and_true, true_and, if_false, if_true, eb, eo, ei]
                        rw [nI_1]
                        have h1 := mr_opn (a := ni) (b := 3) (x := d0) (by omega) (mr_opn (a := ni) (b := 2) (x := c0) (by omega) (mr_opn (a := ni) (b := 1) (x := b) (by omega) (mr_opn (a := ni) (b := 0) (x := a) (by omega) (mr_fr (a := ni) (x := g 16 (ix x) 1) (mr_own (a := ni) (x := g 16 (ix x) 0) (mr_fet (a := ix x) (x := 1) hM0))))))
                        refine mr_ni h1 (fun i hi hl => ?_)
                        rw [nI_ltI (by omega) (by omega)] at hl
                        rcases Nat.lt_or_ge i ni with q | q
                        · exact h1.fr hi (by simp only [up_app]; simp only [Nat.reduceEqDiff, false_and, and_false, if_false]; rw [eni]; exact nI_lt q (by omega))
                        · rw [show i = ni by omega]
                          simp only [up_app]
                          simp only [Nat.reduceEqDiff, false_and, and_false, and_true, true_and, if_false, if_true]
                      · simp only [up_app]
                        simp only [Nat.reduceEqDiff, false_and, and_false, and_true, true_and, if_false, if_true, ei]
                        rw [Int32.add_sub_cancel]
                        exact eni.symm
                    · exact absurd (e90.symm.trans c_93) (by decide)
  · refine z_istore C dX6_fetch_5 (by decide) ?_
    dsimp only [List.set]
    refine z_iload_n C dX6_fetch_7 rfl ?_
    refine z_csi C (As := [_]) (c_X6_isOpen) okX6_isOpen wd802 (rok (by decide) (by decide)) ⟨Nat.le_of_ble_eq_true rfl, Nat.le_of_ble_eq_true rfl⟩ rfl (Nat.le_of_ble_eq_true rfl) dX6_fetch_8 ?_
    rintro r8 _ ⟨rfl, h8⟩
    refine z_if_eq C 41 dX6_fetch_11 (by decide) (fun c_11 => ?_) (fun c_11 => ?_)
    · have hb8 : outR a 0 60 := h8.elim (fun a => absurd (a.1.symm.trans c_11) (by decide)) (fun a => a.2)
      refine z_iconst C (v := 0) dX6_fetch_41 (by decide) ?_
      refine z_istore C dX6_fetch_42 (by decide) ?_
      dsimp only [List.set]
      refine z_aload_n C dX6_fetch_44 rfl ?_
      refine z_iload C dX6_fetch_45 rfl ?_
      refine z_iload C dX6_fetch_47 rfl ?_
      refine z_iload C dX6_fetch_49 rfl ?_
      refine z_if_eq C 89 dX6_fetch_51 (by decide) (fun c_51 => ?_) (fun c_51 => ?_)
      · refine z_iconst C (v := 0) dX6_fetch_89 (by decide) ?_
        refine z_cvi C (As := [_, _, _]) (c_X6_goes) okX6_goes wd652 rc_17 (rok (by decide) (by decide)) ⟨Nat.le_of_ble_eq_true rfl, Nat.le_of_ble_eq_true rfl⟩ rfl (Nat.le_of_ble_eq_true rfl) dX6_fetch_90 ?_
        rintro r90 _ ⟨rfl, e90⟩
        refine z_if_ne C 98 dX6_fetch_93 (by decide) (fun c_93 => ?_) (fun c_93 => ?_)
        · exact absurd (e90.trans (by decide)) c_93
        · have hK : K_fetch g x a b c0 d0 = 1 := by unfold K_fetch; rw [if_pos hb2]
          refine z_iconst C (v := 0) dX6_fetch_96 (by decide) ?_
          refine z_iret C dX6_fetch_97 ?_
          exact ⟨by rw [hK]; exact MPost.no hM (by decide), fun a => absurd (a.symm.trans hK) (by decide)⟩
      · exact absurd rfl c_51
    · have hb8 : ¬ outR a 0 60 := h8.elim (fun a => a.2) (fun a => absurd a.1 c_11)
      refine z_iload_n C dX6_fetch_14 rfl ?_
      refine z_csi C (As := [_]) (c_X6_isOpen) okX6_isOpen wd802 (rok (by decide) (by decide)) ⟨Nat.le_of_ble_eq_true rfl, Nat.le_of_ble_eq_true rfl⟩ rfl (Nat.le_of_ble_eq_true rfl) dX6_fetch_15 ?_
      rintro r15 _ ⟨rfl, h15⟩
      refine z_if_eq C 41 dX6_fetch_18 (by decide) (fun c_18 => ?_) (fun c_18 => ?_)
      · have hb15 : outR b 0 60 := h15.elim (fun a => absurd (a.1.symm.trans c_18) (by decide)) (fun a => a.2)
        refine z_iconst C (v := 0) dX6_fetch_41 (by decide) ?_
        refine z_istore C dX6_fetch_42 (by decide) ?_
        dsimp only [List.set]
        refine z_aload_n C dX6_fetch_44 rfl ?_
        refine z_iload C dX6_fetch_45 rfl ?_
        refine z_iload C dX6_fetch_47 rfl ?_
        refine z_iload C dX6_fetch_49 rfl ?_
        refine z_if_eq C 89 dX6_fetch_51 (by decide) (fun c_51 => ?_) (fun c_51 => ?_)
        · refine z_iconst C (v := 0) dX6_fetch_89 (by decide) ?_
          refine z_cvi C (As := [_, _, _]) (c_X6_goes) okX6_goes wd652 rc_17 (rok (by decide) (by decide)) ⟨Nat.le_of_ble_eq_true rfl, Nat.le_of_ble_eq_true rfl⟩ rfl (Nat.le_of_ble_eq_true rfl) dX6_fetch_90 ?_
          rintro r90 _ ⟨rfl, e90⟩
          refine z_if_ne C 98 dX6_fetch_93 (by decide) (fun c_93 => ?_) (fun c_93 => ?_)
          · exact absurd (e90.trans (by decide)) c_93
          · have hK : K_fetch g x a b c0 d0 = 1 := by unfold K_fetch; rw [if_pos hb2]
            refine z_iconst C (v := 0) dX6_fetch_96 (by decide) ?_
            refine z_iret C dX6_fetch_97 ?_
            exact ⟨by rw [hK]; exact MPost.no hM (by decide), fun a => absurd (a.symm.trans hK) (by decide)⟩
        · exact absurd rfl c_51
      · have hb15 : ¬ outR b 0 60 := h15.elim (fun a => a.2) (fun a => absurd a.1 c_18)
        refine z_iload C dX6_fetch_21 rfl ?_
        refine z_csi C (As := [_]) (c_X6_isOpen) okX6_isOpen wd802 (rok (by decide) (by decide)) ⟨Nat.le_of_ble_eq_true rfl, Nat.le_of_ble_eq_true rfl⟩ rfl (Nat.le_of_ble_eq_true rfl) dX6_fetch_23 ?_
        rintro r23 _ ⟨rfl, h23⟩
        refine z_if_eq C 41 dX6_fetch_26 (by decide) (fun c_26 => ?_) (fun c_26 => ?_)
        · have hb23 : outR c0 0 60 := h23.elim (fun a => absurd (a.1.symm.trans c_26) (by decide)) (fun a => a.2)
          refine z_iconst C (v := 0) dX6_fetch_41 (by decide) ?_
          refine z_istore C dX6_fetch_42 (by decide) ?_
          dsimp only [List.set]
          refine z_aload_n C dX6_fetch_44 rfl ?_
          refine z_iload C dX6_fetch_45 rfl ?_
          refine z_iload C dX6_fetch_47 rfl ?_
          refine z_iload C dX6_fetch_49 rfl ?_
          refine z_if_eq C 89 dX6_fetch_51 (by decide) (fun c_51 => ?_) (fun c_51 => ?_)
          · refine z_iconst C (v := 0) dX6_fetch_89 (by decide) ?_
            refine z_cvi C (As := [_, _, _]) (c_X6_goes) okX6_goes wd652 rc_17 (rok (by decide) (by decide)) ⟨Nat.le_of_ble_eq_true rfl, Nat.le_of_ble_eq_true rfl⟩ rfl (Nat.le_of_ble_eq_true rfl) dX6_fetch_90 ?_
            rintro r90 _ ⟨rfl, e90⟩
            refine z_if_ne C 98 dX6_fetch_93 (by decide) (fun c_93 => ?_) (fun c_93 => ?_)
            · exact absurd (e90.trans (by decide)) c_93
            · have hK : K_fetch g x a b c0 d0 = 1 := by unfold K_fetch; rw [if_pos hb2]
              refine z_iconst C (v := 0) dX6_fetch_96 (by decide) ?_
              refine z_iret C dX6_fetch_97 ?_
              exact ⟨by rw [hK]; exact MPost.no hM (by decide), fun a => absurd (a.symm.trans hK) (by decide)⟩
          · exact absurd rfl c_51
        · have hb23 : ¬ outR c0 0 60 := h23.elim (fun a => a.2) (fun a => absurd a.1 c_26)
          refine z_iload C dX6_fetch_29 rfl ?_
          refine z_csi C (As := [_]) (c_X6_isOpen) okX6_isOpen wd802 (rok (by decide) (by decide)) ⟨Nat.le_of_ble_eq_true rfl, Nat.le_of_ble_eq_true rfl⟩ rfl (Nat.le_of_ble_eq_true rfl) dX6_fetch_31 ?_
          rintro r31 _ ⟨rfl, h31⟩
          refine z_if_eq C 41 dX6_fetch_34 (by decide) (fun c_34 => ?_) (fun c_34 => ?_)
          · have hb31 : outR d0 0 60 := h31.elim (fun a => absurd (a.1.symm.trans c_34) (by decide)) (fun a => a.2)
            refine z_iconst C (v := 0) dX6_fetch_41 (by decide) ?_
            refine z_istore C dX6_fetch_42 (by decide) ?_
            dsimp only [List.set]
            refine z_aload_n C dX6_fetch_44 rfl ?_
            refine z_iload C dX6_fetch_45 rfl ?_
            refine z_iload C dX6_fetch_47 rfl ?_
            refine z_iload C dX6_fetch_49 rfl ?_
            refine z_if_eq C 89 dX6_fetch_51 (by decide) (fun c_51 => ?_) (fun c_51 => ?_)
            · refine z_iconst C (v := 0) dX6_fetch_89 (by decide) ?_
              refine z_cvi C (As := [_, _, _]) (c_X6_goes) okX6_goes wd652 rc_17 (rok (by decide) (by decide)) ⟨Nat.le_of_ble_eq_true rfl, Nat.le_of_ble_eq_true rfl⟩ rfl (Nat.le_of_ble_eq_true rfl) dX6_fetch_90 ?_
              rintro r90 _ ⟨rfl, e90⟩
              refine z_if_ne C 98 dX6_fetch_93 (by decide) (fun c_93 => ?_) (fun c_93 => ?_)
              · exact absurd (e90.trans (by decide)) c_93
              · have hK : K_fetch g x a b c0 d0 = 1 := by unfold K_fetch; rw [if_pos hb2]
                refine z_iconst C (v := 0) dX6_fetch_96 (by decide) ?_
                refine z_iret C dX6_fetch_97 ?_
                exact ⟨by rw [hK]; exact MPost.no hM (by decide), fun a => absurd (a.symm.trans hK) (by decide)⟩
            · exact absurd rfl c_51
          · have hb31 : ¬ outR d0 0 60 := h31.elim (fun a => a.2) (fun a => absurd a.1 c_34)
            refine z_iconst C (v := 1) dX6_fetch_37 (by decide) ?_
            refine z_goto C 42 dX6_fetch_38 (by decide) ?_
            refine z_istore C dX6_fetch_42 (by decide) ?_
            dsimp only [List.set]
            refine z_aload_n C dX6_fetch_44 rfl ?_
            refine z_iload C dX6_fetch_45 rfl ?_
            refine z_iload C dX6_fetch_47 rfl ?_
            refine z_iload C dX6_fetch_49 rfl ?_
            refine z_if_eq C 89 dX6_fetch_51 (by decide) (fun c_51 => ?_) (fun c_51 => ?_)
            · refine z_iconst C (v := 0) dX6_fetch_89 (by decide) ?_
              refine z_cvi C (As := [_, _, _]) (c_X6_goes) okX6_goes wd652 rc_17 (rok (by decide) (by decide)) ⟨Nat.le_of_ble_eq_true rfl, Nat.le_of_ble_eq_true rfl⟩ rfl (Nat.le_of_ble_eq_true rfl) dX6_fetch_90 ?_
              rintro r90 _ ⟨rfl, e90⟩
              refine z_if_ne C 98 dX6_fetch_93 (by decide) (fun c_93 => ?_) (fun c_93 => ?_)
              · exact absurd (e90.trans (by decide)) c_93
              · have hK : K_fetch g x a b c0 d0 = 1 := by unfold K_fetch; rw [if_pos hb2]
                refine z_iconst C (v := 0) dX6_fetch_96 (by decide) ?_
                refine z_iret C dX6_fetch_97 ?_
                exact ⟨by rw [hK]; exact MPost.no hM (by decide), fun a => absurd (a.symm.trans hK) (by decide)⟩
            · exact absurd rfl c_51
theorem MPost.up2 {g g' σ σ1 σ' : St} {K : Nat} (h : MPost g g' σ1 σ' K) (hl : ∀ a b c0, (a < 17 ∨ a = 32) → σ1 a b c0 = σ a b c0) : MPost g g' σ σ' K := ⟨fun a b c0 q => (h.1 a b c0 q).trans (hl a b c0 q), h.2.1, h.2.2.1, h.2.2.2⟩
theorem mvd_s {g : St} {i j : Nat} {x : Int32} : mvd g i x (j + 1) = up (mvd g i x j) 12 i j (g 12 i j + x) := by
  show up (mvd g i x j) 12 i j (mvd g i x j 12 i j + x) = _
  rw [mvd_app, if_neg (by omega)]
section
variable {p : Program} {l : Launch} {e : Env} {R : Room} {s : State} {m : MethodId} {args : Array Value} {below : List Frame} {meth : Method} {c : Code} {D : va_G} {ad : Nat → Nat → Nat} {cy : Nat → ClassId} {A : Nat → Prop} {sa : Nat → Nat} {cells slots : Nat} {σ : St}
set_option maxRecDepth 100000 in
set_option maxHeartbeats 4000000 in
theorem lp_trans2 (C : Cx p l s m args meth c cX6_transpose "FretSchoolModel" 7 (none : Option Jvm.ClassFile.FieldType) D ad cy A sa) {g : St} {x y : Int32} (hM : MRel g σ) (hI : Inv g) (hx : x = nI (ix x)) (hx8 : ix x < 8) (hK : K_trans g x y = 0) {x3 x4 : Int32} : ∀ (fu j : Nat) (σ' : St) (x5 x6 : Int32), x6 = nI j → j ≤ cN g (ix x) → cN g (ix x) < j + fu → (∀ a b c0, (a < 17 ∨ a = 32) → σ' a b c0 = σ a b c0) → σ' 17 0 18 = 0 → MRel (mvd g (ix x) y j) σ' → Z p l e (rmD 2 0) s m args below meth c D ad cy A 7 0 0 (MQ below (va_Qv (fun σ' => MPost g (mvd g (ix x) y (cN g (ix x))) σ σ' (K_trans g x y)) (Bw D ad cy) A) args s 0 0 A) σ' [some (.ref (ad 17 0)), some (.int x), some (.int y), some (.int x3), some (.int x4), some (.int x5), some (.int x6)] 98 [] := by
  obtain ⟨ec, hc16⟩ := hI.2.2.2.1 (ix x) hx8
  intro fu
  induction fu with
  | zero => intro j σ' x5 x6 _ _ h; exact absurd h (by omega)
  | succ fu ih =>
    intro j σ' x5 x6 e6 hj hfu hl ht hMj
    have em : σ' 18 0 (ix x) = nI (cN g (ix x)) := by rw [hMj.many hx8, mvd_app, if_neg (by omega)]; exact ec
    refine z_iload C dX6_transpose_98 rfl ?_
    refine z_aload_n C dX6_transpose_100 rfl ?_
    refine g_17_2 C wd587 dX6_transpose_101 ?_
    refine z_iload_n C dX6_transpose_104 rfl ?_
    refine a_18 C hx hx8 dX6_transpose_105 ?_
    refine z_icmp_ge C 131 dX6_transpose_106 (by decide) (fun c_106 => ?_) (fun c_106 => ?_)
    · have hjn : cN g (ix x) ≤ j := by rw [em, e6, nI_leI (by omega) (by omega)] at c_106; exact c_106
      refine z_vret C dX6_transpose_131 ?_
      exact ⟨hl, by rw [ht, hK]; rfl, fun _ => by rw [← show j = cN g (ix x) by omega]; exact hMj, fun q => absurd hK q⟩
    · have hjn : j < cN g (ix x) := by rw [em, e6, nI_leI (by omega) (by omega)] at c_106; omega
      have ep : σ' 19 0 (16 * ix x + j) = g 12 (ix x) j := by rw [hMj.pit hx8 (by omega), mvd_app, if_neg (by omega)]
      refine z_aload_n C dX6_transpose_109 rfl ?_
      refine g_17_3 C wd588 dX6_transpose_110 ?_
      refine z_bipush C (v := 16) dX6_transpose_113 (by decide) ?_
      refine z_iload_n C dX6_transpose_115 rfl ?_
      refine z_imul C dX6_transpose_116 ?_
      refine z_iload C dX6_transpose_117 rfl ?_
      refine z_iadd C dX6_transpose_119 ?_
      refine z_dup2 C dX6_transpose_120 rfl rfl ?_
      refine a_19 C (ix2 (m := 16) (i := ix x) (j := j) rfl hx e6) (by omega) dX6_transpose_121 ?_
      refine z_iload_n C dX6_transpose_122 rfl ?_
      refine z_iadd C dX6_transpose_123 ?_
      refine s_19 C (ix2 (m := 16) (i := ix x) (j := j) rfl hx e6) (by omega) dX6_transpose_124 ?_
      refine z_iinc C (v := 1) dX6_transpose_125 rfl (by decide) (by decide) ?_
      dsimp only [List.set]
      refine z_goto C 98 dX6_transpose_128 (by decide) ?_
      exact ih (j + 1) _ _ _ (by rw [e6]; exact nI_1 j) (by omega) (by omega) (fun a b c0 h => by rw [up_low (by decide) a b c0 h]; exact hl a b c0 h) (by rw [up_app, if_neg (by omega)]; exact ht) (by rw [mvd_s, ep]; exact mr_pit (by omega) hMj)
end
theorem okP_out {z : Int32} : ¬ outR z 0 80 ↔ okP z := by
  unfold outR okP
  exact ⟨fun h => ⟨fun q => h (Or.inl q), Classical.byContradiction fun q => h (Or.inr q)⟩, fun h q => q.elim h.1 (fun q => q h.2)⟩
section
variable {p : Program} {l : Launch} {e : Env} {R : Room} {s : State} {m : MethodId} {args : Array Value} {below : List Frame} {meth : Method} {c : Code} {D : va_G} {ad : Nat → Nat → Nat} {cy : Nat → ClassId} {A : Nat → Prop} {sa : Nat → Nat} {cells slots : Nat} {σ : St}
set_option maxRecDepth 100000 in
set_option maxHeartbeats 4000000 in
theorem lp_trans1 (C : Cx p l s m args meth c cX6_transpose "FretSchoolModel" 7 (none : Option Jvm.ClassFile.FieldType) D ad cy A sa) {g : St} {x y : Int32} (hM : MRel g σ) (hI : Inv g) (hx : x = nI (ix x)) (hx8 : ix x < 8) {x3 x4 : Int32} (e3 : x3 = 1) (e4 : x4 = 1) {post : St → Prop} (kx : ∀ x5 x6 : Int32, ((x5 = 1 ∧ canMv g (ix x) y) ∨ (x5 = 0 ∧ ¬ canMv g (ix x) y)) → Z p l e (rmD 2 0) s m args below meth c D ad cy A 7 0 0 (MQ below (va_Qv (post) (Bw D ad cy) A) args s 0 0 A) σ [some (.ref (ad 17 0)), some (.int x), some (.int y), some (.int x3), some (.int x4), some (.int x5), some (.int x6)] 83 []) : ∀ (fu j : Nat) (x5 x6 : Int32), x6 = nI j → j ≤ cN g (ix x) → cN g (ix x) < j + fu → ((x5 = 1 ∧ ∀ k, k < j → okP (g 12 (ix x) k + y)) ∨ (x5 = 0 ∧ ∃ k, k < j ∧ ¬ okP (g 12 (ix x) k + y))) → Z p l e (rmD 2 0) s m args below meth c D ad cy A 7 0 0 (MQ below (va_Qv (post) (Bw D ad cy) A) args s 0 0 A) σ [some (.ref (ad 17 0)), some (.int x), some (.int y), some (.int x3), some (.int x4), some (.int x5), some (.int x6)] 22 [] := by
  obtain ⟨ec, hc16⟩ := hI.2.2.2.1 (ix x) hx8
  have em : σ 18 0 (ix x) = nI (cN g (ix x)) := (hM.many hx8).trans ec
  intro fu
  induction fu with
  | zero => intro j x5 x6 _ _ h; exact absurd h (by omega)
  | succ fu ih =>
    intro j x5 x6 e6 hj hfu hfit
    refine z_iload_n C dX6_transpose_22 rfl ?_
    refine z_if_eq C 83 dX6_transpose_23 (by decide) (fun c_23 => ?_) (fun c_23 => ?_)
    · exact absurd (e3.symm.trans c_23) (by decide)
    refine z_iload C dX6_transpose_26 rfl ?_
    refine z_if_eq C 83 dX6_transpose_28 (by decide) (fun c_28 => ?_) (fun c_28 => ?_)
    · exact absurd (e4.symm.trans c_28) (by decide)
    refine z_iload C dX6_transpose_31 rfl ?_
    refine z_aload_n C dX6_transpose_33 rfl ?_
    refine g_17_2 C wd587 dX6_transpose_34 ?_
    refine z_iload_n C dX6_transpose_37 rfl ?_
    refine a_18 C hx hx8 dX6_transpose_38 ?_
    refine z_icmp_ge C 83 dX6_transpose_39 (by decide) (fun c_39 => ?_) (fun c_39 => ?_)
    · have hjn : cN g (ix x) ≤ j := by rw [em, e6, nI_leI (by omega) (by omega)] at c_39; exact c_39
      exact kx _ _ (hfit.elim (fun a => Or.inl ⟨a.1, fun k hk => a.2 k (by omega)⟩) (fun a => Or.inr ⟨a.1, fun q => by obtain ⟨k, hk, hn⟩ := a.2; exact hn (q k (by omega))⟩))
    · have hjn : j < cN g (ix x) := by rw [em, e6, nI_leI (by omega) (by omega)] at c_39; omega
      refine z_iload C dX6_transpose_42 rfl ?_
      refine z_if_eq C 74 dX6_transpose_44 (by decide) (fun c_44 => ?_) (fun c_44 => ?_)
      · have h5 : ∃ k, k < j ∧ ¬ okP (g 12 (ix x) k + y) := hfit.elim (fun a => absurd (a.1.symm.trans c_44) (by decide)) (fun a => a.2)
        refine z_iconst C (v := 0) dX6_transpose_74 (by decide) ?_
        refine z_istore C dX6_transpose_75 (by decide) ?_
        dsimp only [List.set]
        refine z_iinc C (v := 1) dX6_transpose_77 rfl (by decide) (by decide) ?_
        dsimp only [List.set]
        refine z_goto C 22 dX6_transpose_80 (by decide) ?_
        exact ih (j + 1) _ _ (by rw [e6]; exact nI_1 j) (by omega) (by omega) (Or.inr ⟨rfl, by obtain ⟨k, hk, hn⟩ := h5; exact ⟨k, by omega, hn⟩⟩)
      · have h5 : ∀ k, k < j → okP (g 12 (ix x) k + y) := hfit.elim (fun a => a.2) (fun a => absurd a.1 c_44)
        refine z_aload_n C dX6_transpose_47 rfl ?_
        refine g_17_3 C wd588 dX6_transpose_48 ?_
        refine z_bipush C (v := 16) dX6_transpose_51 (by decide) ?_
        refine z_iload_n C dX6_transpose_53 rfl ?_
        refine z_imul C dX6_transpose_54 ?_
        refine z_iload C dX6_transpose_55 rfl ?_
        refine z_iadd C dX6_transpose_57 ?_
        refine a_19 C (ix2 (m := 16) (i := ix x) (j := j) rfl hx e6) (by omega) dX6_transpose_58 ?_
        refine z_iload_n C dX6_transpose_59 rfl ?_
        refine z_iadd C dX6_transpose_60 ?_
        refine z_iconst C (v := 0) dX6_transpose_61 (by decide) ?_
        refine z_bipush C (v := 80) dX6_transpose_62 (by decide) ?_
        refine z_csi C (As := [_, _, _]) (c_X6_in) okX6_in wd664 (rok (by decide) (by decide)) ⟨Nat.le_of_ble_eq_true rfl, Nat.le_of_ble_eq_true rfl⟩ rfl (Nat.le_of_ble_eq_true rfl) dX6_transpose_64 ?_
        rintro r64 _ ⟨rfl, h64⟩
        rw [hM.pit hx8 (by omega)] at h64
        refine z_if_eq C 74 dX6_transpose_67 (by decide) (fun c_67 => ?_) (fun c_67 => ?_)
        · have h6 : ¬ okP (g 12 (ix x) j + y) := h64.elim (fun a => absurd (a.1.symm.trans c_67) (by decide)) (fun a q => okP_out.mpr q a.2)
          refine z_iconst C (v := 0) dX6_transpose_74 (by decide) ?_
          refine z_istore C dX6_transpose_75 (by decide) ?_
          dsimp only [List.set]
          refine z_iinc C (v := 1) dX6_transpose_77 rfl (by decide) (by decide) ?_
          dsimp only [List.set]
          refine z_goto C 22 dX6_transpose_80 (by decide) ?_
          exact ih (j + 1) _ _ (by rw [e6]; exact nI_1 j) (by omega) (by omega) (Or.inr ⟨rfl, j, by omega, h6⟩)
        · have h6 : okP (g 12 (ix x) j + y) := h64.elim (fun a => okP_out.mp a.2) (fun a => absurd a.1 c_67)
          refine z_iconst C (v := 1) dX6_transpose_70 (by decide) ?_
          refine z_goto C 75 dX6_transpose_71 (by decide) ?_
          refine z_istore C dX6_transpose_75 (by decide) ?_
          dsimp only [List.set]
          refine z_iinc C (v := 1) dX6_transpose_77 rfl (by decide) (by decide) ?_
          dsimp only [List.set]
          refine z_goto C 22 dX6_transpose_80 (by decide) ?_
          exact ih (j + 1) _ _ (by rw [e6]; exact nI_1 j) (by omega) (by omega) (Or.inl ⟨rfl, fun k hk => (Nat.lt_or_ge k j).elim (fun q => h5 k q) (fun q => by rw [show k = j by omega]; exact h6)⟩)
end
set_option maxRecDepth 100000 in
set_option maxHeartbeats 4000000 in
theorem c_X6_transpose {l : Launch} {D : va_G} {ad : Nat → Nat → Nat} {cy : Nat → ClassId} {A : Nat → Prop} {sa : Nat → Nat} {σ : St} {g : St} {x y : Int32} (hM : MRel g σ) (hI : Inv g) : MV l D ad cy A sa yX6_transpose cX6_transpose 7 (none : Option Jvm.ClassFile.FieldType) 2 σ [.ref (ad 17 0), .int x, .int y] (fun σ' => MPost g (mvd g (ix x) y (cN g (ix x))) σ σ' (K_trans g x y)) := by
  refine MV.mk "FretSchoolModel" (by decide) rfl (Nat.le_of_ble_eq_true rfl) rfl ?_
  intro p e s m args below meth c C
  change Z _ _ _ _ _ _ _ _ _ _ _ _ _ _ _ _ _ _ _ [some (.ref (ad 17 0)), some (.int x), some (.int y), none, none, none, none] 0 []
  obtain ⟨np, hnp, enp⟩ := hI.1
  have enp1 : σ 17 0 1 = nI np := hM.1.trans enp
  refine z_aload_n C dX6_transpose_0 rfl ?_
  refine z_iload_n C dX6_transpose_1 rfl ?_
  refine z_cvi C (As := [_]) (c_X6_isPiece enp1 (by omega)) okX6_isPiece wd660 rc_17 (rok (by decide) (by decide)) ⟨Nat.le_of_ble_eq_true rfl, Nat.le_of_ble_eq_true rfl⟩ rfl (Nat.le_of_ble_eq_true rfl) dX6_transpose_2 ?_
  rintro r2 _ ⟨rfl, h2⟩
  rw [← enp] at h2
  rcases h2 with ⟨rfl, hb2⟩ | ⟨rfl, hb2⟩
  · obtain ⟨ex, hx1, hx8⟩ := nbad hnp (by decide) (by rw [enp] at hb2; exact hb2)
    refine z_istore_n C dX6_transpose_5 (by decide) ?_
    dsimp only [List.set]
    refine z_iload_n C dX6_transpose_6 rfl ?_
    refine z_bipush C (v := (-40)) dX6_transpose_7 (by decide) ?_
    refine z_bipush C (v := 40) dX6_transpose_9 (by decide) ?_
    refine z_csi C (As := [_, _, _]) (c_X6_in) okX6_in wd664 (rok (by decide) (by decide)) ⟨Nat.le_of_ble_eq_true rfl, Nat.le_of_ble_eq_true rfl⟩ rfl (Nat.le_of_ble_eq_true rfl) dX6_transpose_11 ?_
    rintro r11 _ ⟨rfl, h11⟩
    rcases h11 with ⟨rfl, hb11⟩ | ⟨rfl, hb11⟩
    · refine z_istore C dX6_transpose_14 (by decide) ?_
      dsimp only [List.set]
      refine z_iconst C (v := 1) dX6_transpose_16 (by decide) ?_
      refine z_istore C dX6_transpose_17 (by decide) ?_
      dsimp only [List.set]
      refine z_iconst C (v := 0) dX6_transpose_19 (by decide) ?_
      refine z_istore C dX6_transpose_20 (by decide) ?_
      dsimp only [List.set]
      refine lp_trans1 C hM hI ex hx8 rfl rfl (fun x5 x6 h5 => ?_) (cN g (ix x) + 1) 0 _ _ nI_0.symm (by omega) (by omega) (Or.inl ⟨rfl, fun k hk => absurd hk (by omega)⟩)
      rcases h5 with ⟨rfl, hcan⟩ | ⟨rfl, hcan⟩
      · have hK : K_trans g x y = 0 := by unfold K_trans; rw [if_neg hb2, if_neg hb11, if_neg (fun q => q hcan)]
        refine z_aload_n C dX6_transpose_83 rfl ?_
        refine z_iload_n C dX6_transpose_84 rfl ?_
        refine z_iload C dX6_transpose_85 rfl ?_
        refine z_iload C dX6_transpose_87 rfl ?_
        refine z_cvi C (As := [_, _, _]) (c_X6_goes) okX6_goes wd652 rc_17 (rok (by decide) (by decide)) ⟨Nat.le_of_ble_eq_true rfl, Nat.le_of_ble_eq_true rfl⟩ rfl (Nat.le_of_ble_eq_true rfl) dX6_transpose_89 ?_
        rintro r89 _ ⟨rfl, e89⟩
        refine z_if_eq C 131 dX6_transpose_92 (by decide) (fun c_92 => ?_) (fun c_92 => ?_)
        · exact absurd (e89.symm.trans c_92) (by decide)
        refine z_iconst C (v := 0) dX6_transpose_95 (by decide) ?_
        refine z_istore C dX6_transpose_96 (by decide) ?_
        dsimp only [List.set]
        exact lp_trans2 C hM hI ex hx8 hK (cN g (ix x) + 1) 0 _ _ _ nI_0.symm (by omega) (by omega) (fun a b c0 h => up_low (by decide) a b c0 h) (by rw [up_app, if_pos ⟨rfl, rfl, rfl⟩]; rfl) (hM.fs FS.thr)
      · have hK : K_trans g x y = 3 := by unfold K_trans; rw [if_neg hb2, if_neg hb11, if_pos hcan]
        refine z_aload_n C dX6_transpose_83 rfl ?_
        refine z_iload_n C dX6_transpose_84 rfl ?_
        refine z_iload C dX6_transpose_85 rfl ?_
        refine z_iload C dX6_transpose_87 rfl ?_
        refine z_cvi C (As := [_, _, _]) (c_X6_goes) okX6_goes wd652 rc_17 (rok (by decide) (by decide)) ⟨Nat.le_of_ble_eq_true rfl, Nat.le_of_ble_eq_true rfl⟩ rfl (Nat.le_of_ble_eq_true rfl) dX6_transpose_89 ?_
        rintro r89 _ ⟨rfl, e89⟩
        refine z_if_eq C 131 dX6_transpose_92 (by decide) (fun c_92 => ?_) (fun c_92 => ?_)
        rotate_left
        · exact absurd (e89.trans (by decide)) c_92
        refine z_vret C dX6_transpose_131 ?_
        rw [hK]
        exact MPost.no hM (by decide)
    · refine z_istore C dX6_transpose_14 (by decide) ?_
      dsimp only [List.set]
      refine z_iconst C (v := 1) dX6_transpose_16 (by decide) ?_
      refine z_istore C dX6_transpose_17 (by decide) ?_
      dsimp only [List.set]
      refine z_iconst C (v := 0) dX6_transpose_19 (by decide) ?_
      refine z_istore C dX6_transpose_20 (by decide) ?_
      dsimp only [List.set]
      refine z_iload_n C dX6_transpose_22 rfl ?_
      refine z_if_eq C 83 dX6_transpose_23 (by decide) (fun c_23 => ?_) (fun c_23 => ?_)
      · exact absurd c_23 (by decide)
      · refine z_iload C dX6_transpose_26 rfl ?_
        refine z_if_eq C 83 dX6_transpose_28 (by decide) (fun c_28 => ?_) (fun c_28 => ?_)
        · refine z_aload_n C dX6_transpose_83 rfl ?_
          refine z_iload_n C dX6_transpose_84 rfl ?_
          refine z_iload C dX6_transpose_85 rfl ?_
          refine z_iload C dX6_transpose_87 rfl ?_
          refine z_cvi C (As := [_, _, _]) (c_X6_goes) okX6_goes wd652 rc_17 (rok (by decide) (by decide)) ⟨Nat.le_of_ble_eq_true rfl, Nat.le_of_ble_eq_true rfl⟩ rfl (Nat.le_of_ble_eq_true rfl) dX6_transpose_89 ?_
          rintro r89 _ ⟨rfl, e89⟩
          refine z_if_eq C 131 dX6_transpose_92 (by decide) (fun c_92 => ?_) (fun c_92 => ?_)
          · have hK : K_trans g x y = 2 := by unfold K_trans; rw [if_neg hb2, if_pos hb11]
            refine z_vret C dX6_transpose_131 ?_
            rw [hK]
            exact MPost.no hM (by decide)
          · exact absurd (e89.trans (by decide)) c_92
        · exact absurd rfl c_28
  · refine z_istore_n C dX6_transpose_5 (by decide) ?_
    dsimp only [List.set]
    refine z_iload_n C dX6_transpose_6 rfl ?_
    refine z_bipush C (v := (-40)) dX6_transpose_7 (by decide) ?_
    refine z_bipush C (v := 40) dX6_transpose_9 (by decide) ?_
    refine z_csi C (As := [_, _, _]) (c_X6_in) okX6_in wd664 (rok (by decide) (by decide)) ⟨Nat.le_of_ble_eq_true rfl, Nat.le_of_ble_eq_true rfl⟩ rfl (Nat.le_of_ble_eq_true rfl) dX6_transpose_11 ?_
    rintro r11 _ ⟨rfl, h11⟩
    rcases h11 with ⟨rfl, hb11⟩ | ⟨rfl, hb11⟩
    · refine z_istore C dX6_transpose_14 (by decide) ?_
      dsimp only [List.set]
      refine z_iconst C (v := 1) dX6_transpose_16 (by decide) ?_
      refine z_istore C dX6_transpose_17 (by decide) ?_
      dsimp only [List.set]
      refine z_iconst C (v := 0) dX6_transpose_19 (by decide) ?_
      refine z_istore C dX6_transpose_20 (by decide) ?_
      dsimp only [List.set]
      refine z_iload_n C dX6_transpose_22 rfl ?_
      refine z_if_eq C 83 dX6_transpose_23 (by decide) (fun c_23 => ?_) (fun c_23 => ?_)
      · refine z_aload_n C dX6_transpose_83 rfl ?_
        refine z_iload_n C dX6_transpose_84 rfl ?_
        refine z_iload C dX6_transpose_85 rfl ?_
        refine z_iload C dX6_transpose_87 rfl ?_
        refine z_cvi C (As := [_, _, _]) (c_X6_goes) okX6_goes wd652 rc_17 (rok (by decide) (by decide)) ⟨Nat.le_of_ble_eq_true rfl, Nat.le_of_ble_eq_true rfl⟩ rfl (Nat.le_of_ble_eq_true rfl) dX6_transpose_89 ?_
        rintro r89 _ ⟨rfl, e89⟩
        refine z_if_eq C 131 dX6_transpose_92 (by decide) (fun c_92 => ?_) (fun c_92 => ?_)
        · have hK : K_trans g x y = 1 := by unfold K_trans; rw [if_pos hb2]
          refine z_vret C dX6_transpose_131 ?_
          rw [hK]
          exact MPost.no hM (by decide)
        · exact absurd (e89.trans (by decide)) c_92
      · exact absurd rfl c_23
    · refine z_istore C dX6_transpose_14 (by decide) ?_
      dsimp only [List.set]
      refine z_iconst C (v := 1) dX6_transpose_16 (by decide) ?_
      refine z_istore C dX6_transpose_17 (by decide) ?_
      dsimp only [List.set]
      refine z_iconst C (v := 0) dX6_transpose_19 (by decide) ?_
      refine z_istore C dX6_transpose_20 (by decide) ?_
      dsimp only [List.set]
      refine z_iload_n C dX6_transpose_22 rfl ?_
      refine z_if_eq C 83 dX6_transpose_23 (by decide) (fun c_23 => ?_) (fun c_23 => ?_)
      · refine z_aload_n C dX6_transpose_83 rfl ?_
        refine z_iload_n C dX6_transpose_84 rfl ?_
        refine z_iload C dX6_transpose_85 rfl ?_
        refine z_iload C dX6_transpose_87 rfl ?_
        refine z_cvi C (As := [_, _, _]) (c_X6_goes) okX6_goes wd652 rc_17 (rok (by decide) (by decide)) ⟨Nat.le_of_ble_eq_true rfl, Nat.le_of_ble_eq_true rfl⟩ rfl (Nat.le_of_ble_eq_true rfl) dX6_transpose_89 ?_
        rintro r89 _ ⟨rfl, e89⟩
        refine z_if_eq C 131 dX6_transpose_92 (by decide) (fun c_92 => ?_) (fun c_92 => ?_)
        · have hK : K_trans g x y = 1 := by unfold K_trans; rw [if_pos hb2]
          refine z_vret C dX6_transpose_131 ?_
          rw [hK]
          exact MPost.no hM (by decide)
        · exact absurd (e89.trans (by decide)) c_92
      · exact absurd rfl c_23
