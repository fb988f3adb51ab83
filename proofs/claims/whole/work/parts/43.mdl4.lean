/-! ===== the model: what is asked ===== -/
def MPost (g g' σ σ' : St) (K : Nat) : Prop := (∀ a b c0, (a < 17 ∨ a = 32) → σ' a b c0 = σ a b c0) ∧ σ' 17 0 18 = nI K ∧ (K = 0 → MRel g' σ') ∧ (K ≠ 0 → MRel g σ')
theorem MPost.fs {g σ σ' : St} {K : Nat} (hM : MRel g σ) (hf : FS σ σ') (ht : σ' 17 0 18 = nI K) : MPost g g σ σ' K := ⟨fun a b c0 h => hf a b c0 (by omega) (by omega) (by omega), ht, fun _ => hM.fs hf, fun _ => hM.fs hf⟩
theorem MPost.no {g g' σ : St} {K : Nat} (hM : MRel g σ) (hK : K ≠ 0) : MPost g g' σ (up σ 17 0 18 (nI K)) K := ⟨fun a b c0 h => FS.thr a b c0 (by omega) (by omega) (by omega), by rw [up_app, if_pos ⟨rfl, rfl, rfl⟩], fun h => absurd h hK, fun _ => hM.fs FS.thr⟩
theorem PLw.hval {g : St} {j q : Nat} (h : PLw g j q) : valH g j q = nI (HG g j q) ∧ HG g j q < 13 := by
  refine ⟨?_, grt_le h.1 h.2 _ (Nat.le_refl _)⟩
  unfold valH
  rw [if_pos (show PL g j q from h)]
theorem PLw.nval {g : St} {j q : Nat} (h : ¬ PLw g j q) : valH g j q = -1 ∧ valS g j q = -1 := by
  have h' : ¬ PL g j q := h
  exact ⟨by unfold valH; rw [if_neg h'], by unfold valS; rw [if_neg h']⟩
theorem PLw.sval {g : St} {j q : Nat} (h : PLw g j q) : valS g j q ≠ -1 := by
  have h' : PL g j q := h
  unfold valS
  rw [if_pos h']
  have h2 := h'.2
  intro e
  have e2 := congrArg Int32.toInt e
  rw [nI_toInt (Nat.lt_trans h2 (by decide))] at e2
  have e3 : (-1 : Int32).toInt = -1 := by decide
  rw [e3] at e2
  have e4 : (0 : Int) ≤ ((BT g j q : Nat) : Int) := Int.natCast_nonneg _
  rw [e2] at e4
  exact absurd e4 (by decide)
noncomputable def GW (g : St) (j q i : Nat) : Nat := grt (PFs g j q) (cN g j) i
theorem GW_1 {g : St} {j q : Nat} : GW g j q 1 = 0 := by
  unfold GW
  rw [grt]
  have e : sh (bef (PFs g j q) (cN g j) 0) (rowf (PFs g j q) (cN g j) 0) = 0 := by unfold bef sh; rfl
  rw [e]
  unfold grt
  rfl
theorem GW_s {g : St} {j q i : Nat} : GW g j q (i + 1 + 1) = if GW g j q (i + 1) < sh (RW g j q i) (RW g j q (i + 1)) then sh (RW g j q i) (RW g j q (i + 1)) else GW g j q (i + 1) := by
  unfold GW
  rw [grt]
  rfl
theorem PLw.gw {g : St} {j q : Nat} (h : PLw g j q) (i : Nat) (hi : i ≤ cN g j) : GW g j q i < 13 := grt_le h.1 h.2 i hi
section
variable {p : Program} {l : Launch} {e : Env} {R : Room} {s : State} {m : MethodId} {args : Array Value} {below : List Frame} {meth : Method} {c : Code} {D : va_G} {ad : Nat → Nat → Nat} {cy : Nat → ClassId} {A : Nat → Prop} {sa : Nat → Nat} {cells slots : Nat} {σ : St}
set_option maxRecDepth 100000 in
set_option maxHeartbeats 4000000 in
theorem lp_X6_hardestOf (C : Cx p l s m args meth c cX6_hardestOf "FretSchoolModel" 6 (some .int) D ad cy A sa) {g : St} {x1 x2 : Int32} {j q : Nat} (hM : MRel g σ) (hI : Inv g) (e1 : x1 = nI j) (hj : j < 8) (e2 : x2 = nI q) (hq : q < 8) (hl : nI q < g 0 0 7) {σ1 : St} (hfr : FR σ σ1) (hPL : PLw g j q) (hbest : ∀ i, i < cN g j → σ1 31 0 i = nI (RW g j q i)) : ∀ (fu i : Nat) (x3 x4 : Int32) (o5 : Option Value), x4 = nI (i + 1) → x3 = nI (GW g j q (i + 1)) → i + 1 ≤ cN g j → cN g j < i + 1 + fu → Z p l e (rmD 5 0) s m args below meth c D ad cy A 6 0 0 (MQ below (va_Qi (fun r σ' => FR σ σ' ∧ r = valH g j q) (Bw D ad cy) A) args s 0 0 A) σ1 [some (.ref (ad 17 0)), some (.int x1), some (.int x2), some (.int x3), some (.int x4), o5] 17 [] := by
  have hc16 := (hI.2.2.2.1 j hj).2
  obtain ⟨eff, hf4, hf16⟩ := hI.fr hq hl
  have efm : nI (fN g q) - 3 = nI (fN g q - 3) := by rw [show (3 : Int32) = nI 3 from rfl, pk_sub (by omega)]
  have hM1 : MRel g σ1 := hM.fs hfr.fs
  have em : σ1 18 0 j = nI (cN g j) := (hM1.many hj).trans (hI.2.2.2.1 j hj).1
  intro fu
  induction fu with
  | zero => intro i x3 x4 o5 _ _ _ h; exact absurd h (by omega)
  | succ fu ih =>
    intro i x3 x4 o5 e4 e3 hi hfu
    refine z_iload C dX6_hardestOf_17 rfl ?_
    refine z_aload_n C dX6_hardestOf_19 rfl ?_
    refine g_17_2 C wd587 dX6_hardestOf_20 ?_
    refine z_iload_n C dX6_hardestOf_23 rfl ?_
    refine a_18 C e1 (by omega) dX6_hardestOf_24 ?_
    refine z_icmp_ge C 68 dX6_hardestOf_25 (by decide) (fun c_25 => ?_) (fun c_25 => ?_)
    · have hin : ¬ i + 1 < cN g j := by rw [em, e4, nI_leI (by omega) (by omega)] at c_25; omega
      refine z_iload_n C dX6_hardestOf_68 rfl ?_
      refine z_iret C dX6_hardestOf_69 ?_
      refine ⟨hfr, ?_⟩
      rw [e3, hPL.hval.1, show i + 1 = cN g j by omega]
      rfl
    · have hin : i + 1 < cN g j := by rw [em, e4, nI_leI (by omega) (by omega)] at c_25; omega
      obtain ⟨ra1, ra2, -, -⟩ := hPL.row i (by omega)
      obtain ⟨rb1, rb2, -, -⟩ := hPL.row (i + 1) (by omega)
      have hg := hPL.gw (i + 1) (by omega)
      have hs := sh_le (b := RW g j q i) (h := RW g j q (i + 1)) ra2 rb2
      refine z_aload_n C dX6_hardestOf_28 rfl ?_
      refine g_17_17 C wd602 dX6_hardestOf_29 ?_
      refine z_iload C dX6_hardestOf_32 rfl ?_
      refine z_iconst C (v := 1) dX6_hardestOf_34 (by decide) ?_
      refine z_isub C dX6_hardestOf_35 ?_
      refine a_31 C (j := i) (by rw [e4, show (1 : Int32) = nI 1 from rfl, pk_sub (by omega)]; rfl) (by omega) dX6_hardestOf_36 ?_
      refine z_aload_n C dX6_hardestOf_37 rfl ?_
      refine g_17_17 C wd602 dX6_hardestOf_38 ?_
      refine z_iload C dX6_hardestOf_41 rfl ?_
      refine a_31 C e4 (by omega) dX6_hardestOf_43 ?_
      refine z_csi C (As := [_, _]) (c_X6_apart (hbest i (by omega)) (hbest (i + 1) (by omega)) ra1 (by omega) (by omega)) okX6_apart wd724 (rok (by decide) (by decide)) ⟨Nat.le_of_ble_eq_true rfl, Nat.le_of_ble_eq_true rfl⟩ rfl (Nat.le_of_ble_eq_true rfl) dX6_hardestOf_44 ?_
      rintro r44 _ ⟨e44, rfl⟩
      refine z_istore C dX6_hardestOf_47 (by decide) ?_
      dsimp only [List.set]
      refine z_iload C dX6_hardestOf_49 rfl ?_
      refine z_iload_n C dX6_hardestOf_51 rfl ?_
      refine z_icmp_le C 60 dX6_hardestOf_52 (by decide) (fun c_52 => ?_) (fun c_52 => ?_)
      · have hle : sh (RW g j q i) (RW g j q (i + 1)) ≤ GW g j q (i + 1) := by rw [e44, e3, nI_leI (by omega) (by omega)] at c_52; exact c_52
        refine z_iload_n C dX6_hardestOf_60 rfl ?_
        refine z_istore_n C dX6_hardestOf_61 (by decide) ?_
        dsimp only [List.set]
        refine z_iinc C (v := 1) dX6_hardestOf_62 rfl (by decide) (by decide) ?_
        dsimp only [List.set]
        refine z_goto C 17 dX6_hardestOf_65 (by decide) ?_
        exact ih (i + 1) _ _ _ (by rw [e4]; exact nI_1 (i + 1)) (by rw [GW_s, if_neg (by omega)]; exact e3) (by omega) (by omega)
      · have hle : GW g j q (i + 1) < sh (RW g j q i) (RW g j q (i + 1)) := by rw [e44, e3, nI_leI (by omega) (by omega)] at c_52; omega
        refine z_iload C dX6_hardestOf_55 rfl ?_
        refine z_goto C 61 dX6_hardestOf_57 (by decide) ?_
        refine z_istore_n C dX6_hardestOf_61 (by decide) ?_
        dsimp only [List.set]
        refine z_iinc C (v := 1) dX6_hardestOf_62 rfl (by decide) (by decide) ?_
        dsimp only [List.set]
        refine z_goto C 17 dX6_hardestOf_65 (by decide) ?_
        exact ih (i + 1) _ _ _ (by rw [e4]; exact nI_1 (i + 1)) (by rw [GW_s, if_pos hle, e44]) (by omega) (by omega)
end
set_option maxRecDepth 100000 in
set_option maxHeartbeats 4000000 in
theorem c_X6_hardestOf {l : Launch} {D : va_G} {ad : Nat → Nat → Nat} {cy : Nat → ClassId} {A : Nat → Prop} {sa : Nat → Nat} {σ : St} {g : St} {x1 x2 : Int32} {j q : Nat} (hM : MRel g σ) (hI : Inv g) (e1 : x1 = nI j) (hj : j < 8) (e2 : x2 = nI q) (hq : q < 8) (hl : nI q < g 0 0 7) : MI l D ad cy A sa yX6_hardestOf cX6_hardestOf 6 (some .int) 5 σ [.ref (ad 17 0), .int x1, .int x2] (fun r σ' => FR σ σ' ∧ r = valH g j q) := by
  refine MI.mk "FretSchoolModel" (by decide) rfl (Nat.le_of_ble_eq_true rfl) rfl ?_
  intro p e s m args below meth c C
  change Z _ _ _ _ _ _ _ _ _ _ _ _ _ _ _ _ _ _ _ [some (.ref (ad 17 0)), some (.int x1), some (.int x2), none, none, none] 0 []
  refine z_aload_n C dX6_hardestOf_0 rfl ?_
  refine z_iload_n C dX6_hardestOf_1 rfl ?_
  refine z_iload_n C dX6_hardestOf_2 rfl ?_
  refine z_cvi C (As := [_, _]) (c_X6_finds hM hI e1 hj e2 hq hl) okX6_finds wd707 rc_17 (rok (by decide) (by decide)) ⟨Nat.le_of_ble_eq_true rfl, Nat.le_of_ble_eq_true rfl⟩ rfl (Nat.le_of_ble_eq_true rfl) dX6_hardestOf_3 ?_
  rintro r3 σ1 ⟨hfr, e3, hbest⟩
  refine z_iconst C (v := (-1)) dX6_hardestOf_6 (by decide) ?_
  refine z_icmp_ne C 12 dX6_hardestOf_7 (by decide) (fun c_7 => ?_) (fun c_7 => ?_)
  · have hPL : PLw g j q := Classical.byContradiction fun h => c_7 (e3.trans (PLw.nval h).2)
    refine z_iconst C (v := 0) dX6_hardestOf_12 (by decide) ?_
    refine z_istore_n C dX6_hardestOf_13 (by decide) ?_
    dsimp only [List.set]
    refine z_iconst C (v := 1) dX6_hardestOf_14 (by decide) ?_
    refine z_istore C dX6_hardestOf_15 (by decide) ?_
    dsimp only [List.set]
    exact lp_X6_hardestOf C hM hI e1 hj e2 hq hl hfr hPL (hbest hPL) (cN g j) 0 _ _ _ rfl (by rw [GW_1]; rfl) (by have := hPL.pos; omega) (by have := hPL.pos; omega)
  · have hnP : ¬ PLw g j q := fun h => h.sval (e3.symm.trans c_7)
    refine z_iconst C (v := (-1)) dX6_hardestOf_10 (by decide) ?_
    refine z_iret C dX6_hardestOf_11 ?_
    exact ⟨hfr, (PLw.nval hnP).1.symm⟩
theorem tC_1 {b c0 : Int32} : tC 0 b c0 = 1 := rfl
theorem tC_v {a b c0 : Int32} : tC a b c0 = if a = 0 then 1 else if b = 0 then 2 else if c0 = 0 then 3 else 0 := rfl
set_option maxRecDepth 100000 in
set_option maxHeartbeats 4000000 in
theorem c_X6_asks {l : Launch} {D : va_G} {ad : Nat → Nat → Nat} {cy : Nat → ClassId} {A : Nat → Prop} {sa : Nat → Nat} {σ : St} {g : St} {x y : Int32} (hM : MRel g σ) (hI : Inv g) : MI l D ad cy A sa yX6_asks cX6_asks 3 (some .boolean) 2 σ [.ref (ad 17 0), .int x, .int y] (fun r σ' => σ' = up σ 17 0 18 (nI (K_pq g x y)) ∧ ((r = 1 ∧ K_pq g x y = 0) ∨ (r = 0 ∧ K_pq g x y = 1))) := by
  refine MI.mk "FretSchoolModel" (by decide) rfl (Nat.le_of_ble_eq_true rfl) rfl ?_
  intro p e s m args below meth c C
  change Z _ _ _ _ _ _ _ _ _ _ _ _ _ _ _ _ _ _ _ [some (.ref (ad 17 0)), some (.int x), some (.int y)] 0 []
  obtain ⟨np, hnp, enp⟩ := hI.1
  have enp1 : σ 17 0 1 = nI np := hM.1.trans enp
  obtain ⟨ni, hni, eni⟩ := hI.2.1
  have eni1 : σ 17 0 4 = nI ni := hM.2.1.trans eni
  refine z_aload_n C dX6_asks_0 rfl ?_
  refine z_aload_n C dX6_asks_1 rfl ?_
  refine z_iload_n C dX6_asks_2 rfl ?_
  refine z_cvi C (As := [_]) (c_X6_isPiece enp1 (by omega)) okX6_isPiece wd660 rc_17 (rok (by decide) (by decide)) ⟨Nat.le_of_ble_eq_true rfl, Nat.le_of_ble_eq_true rfl⟩ rfl (Nat.le_of_ble_eq_true rfl) dX6_asks_3 ?_
  rintro r3 _ ⟨rfl, h3⟩
  rw [← enp] at h3
  refine z_if_eq C 21 dX6_asks_6 (by decide) (fun c_6 => ?_) (fun c_6 => ?_)
  · have hb1 : bad x (g 0 0 6) := h3.elim (fun a => absurd (a.1.symm.trans c_6) (by decide)) (fun a => a.2)
    refine z_iconst C (v := 0) dX6_asks_21 (by decide) ?_
    refine z_iconst C (v := 1) dX6_asks_22 (by decide) ?_
    refine z_iconst C (v := 1) dX6_asks_23 (by decide) ?_
    refine z_cvi C (As := [_, _, _]) (c_X6_goes) okX6_goes wd652 rc_17 (rok (by decide) (by decide)) ⟨Nat.le_of_ble_eq_true rfl, Nat.le_of_ble_eq_true rfl⟩ rfl (Nat.le_of_ble_eq_true rfl) dX6_asks_24 ?_
    rintro r24 _ ⟨rfl, e24⟩
    have hz24 : r24 = 0 ∨ r24 = 1 := by rw [e24]; split; exact Or.inr rfl; exact Or.inl rfl
    refine z_zret C dX6_asks_27 (by first | exact Or.inl rfl | exact Or.inr rfl | assumption) ?_
    have hK : K_pq g x y = 1 := by unfold K_pq; rw [if_pos (Or.inl hb1)]
    rw [hK]
    exact ⟨rfl, Or.inr ⟨e24, rfl⟩⟩
  · have hb1 : ¬ bad x (g 0 0 6) := h3.elim (fun a => a.2) (fun a => absurd a.1 c_6)
    refine z_aload_n C dX6_asks_9 rfl ?_
    refine z_iload_n C dX6_asks_10 rfl ?_
    refine z_cvi C (As := [_]) (c_X6_isInstrument eni1 (by omega)) okX6_isInstrument wd683 rc_17 (rok (by decide) (by decide)) ⟨Nat.le_of_ble_eq_true rfl, Nat.le_of_ble_eq_true rfl⟩ rfl (Nat.le_of_ble_eq_true rfl) dX6_asks_11 ?_
    rintro r11 _ ⟨rfl, h11⟩
    rw [← eni] at h11
    refine z_if_eq C 21 dX6_asks_14 (by decide) (fun c_14 => ?_) (fun c_14 => ?_)
    · have hb2 : bad y (g 0 0 7) := h11.elim (fun a => absurd (a.1.symm.trans c_14) (by decide)) (fun a => a.2)
      refine z_iconst C (v := 0) dX6_asks_21 (by decide) ?_
      refine z_iconst C (v := 1) dX6_asks_22 (by decide) ?_
      refine z_iconst C (v := 1) dX6_asks_23 (by decide) ?_
      refine z_cvi C (As := [_, _, _]) (c_X6_goes) okX6_goes wd652 rc_17 (rok (by decide) (by decide)) ⟨Nat.le_of_ble_eq_true rfl, Nat.le_of_ble_eq_true rfl⟩ rfl (Nat.le_of_ble_eq_true rfl) dX6_asks_24 ?_
      rintro r24 _ ⟨rfl, e24⟩
      have hz24 : r24 = 0 ∨ r24 = 1 := by rw [e24]; split; exact Or.inr rfl; exact Or.inl rfl
      refine z_zret C dX6_asks_27 (by first | exact Or.inl rfl | exact Or.inr rfl | assumption) ?_
      have hK : K_pq g x y = 1 := by unfold K_pq; rw [if_pos (Or.inr hb2)]
      rw [hK]
      exact ⟨rfl, Or.inr ⟨e24, rfl⟩⟩
    · have hb2 : ¬ bad y (g 0 0 7) := h11.elim (fun a => a.2) (fun a => absurd a.1 c_14)
      refine z_iconst C (v := 1) dX6_asks_17 (by decide) ?_
      refine z_goto C 22 dX6_asks_18 (by decide) ?_
      refine z_iconst C (v := 1) dX6_asks_22 (by decide) ?_
      refine z_iconst C (v := 1) dX6_asks_23 (by decide) ?_
      refine z_cvi C (As := [_, _, _]) (c_X6_goes) okX6_goes wd652 rc_17 (rok (by decide) (by decide)) ⟨Nat.le_of_ble_eq_true rfl, Nat.le_of_ble_eq_true rfl⟩ rfl (Nat.le_of_ble_eq_true rfl) dX6_asks_24 ?_
      rintro r24 _ ⟨rfl, e24⟩
      have hz24 : r24 = 0 ∨ r24 = 1 := by rw [e24]; split; exact Or.inr rfl; exact Or.inl rfl
      refine z_zret C dX6_asks_27 (by first | exact Or.inl rfl | exact Or.inr rfl | assumption) ?_
      have hK : K_pq g x y = 0 := by unfold K_pq; rw [if_neg (fun q => q.elim hb1 hb2)]
      rw [hK]
      exact ⟨rfl, Or.inl ⟨e24, rfl⟩⟩
theorem K_pq_ok {g : St} {x y : Int32} (hI : Inv g) (h : K_pq g x y = 0) : x = nI (ix x) ∧ ix x < 8 ∧ y = nI (ix y) ∧ ix y < 8 ∧ nI (ix y) < g 0 0 7 := by
  obtain ⟨np, hnp, enp⟩ := hI.1
  obtain ⟨ni, hni, eni⟩ := hI.2.1
  unfold K_pq at h
  by_cases hb : bad x (g 0 0 6) ∨ bad y (g 0 0 7)
  · rw [if_pos hb] at h; exact absurd h (by decide)
  · have b1 : ¬ bad x (nI np) := by rw [← enp]; exact fun q => hb (Or.inl q)
    have b2 : ¬ bad y (nI ni) := by rw [← eni]; exact fun q => hb (Or.inr q)
    obtain ⟨e1, h1, h2⟩ := nbad hnp (by decide) b1
    obtain ⟨e2, h3, h4⟩ := nbad hni (by decide) b2
    exact ⟨e1, h2, e2, h4, by rw [eni]; exact nI_lt h3 (by omega)⟩
set_option maxRecDepth 100000 in
set_option maxHeartbeats 4000000 in
theorem c_X6_shifts {l : Launch} {D : va_G} {ad : Nat → Nat → Nat} {cy : Nat → ClassId} {A : Nat → Prop} {sa : Nat → Nat} {σ : St} {g : St} {x y : Int32} (hM : MRel g σ) (hI : Inv g) : MI l D ad cy A sa yX6_shifts cX6_shifts 3 (some .int) 6 σ [.ref (ad 17 0), .int x, .int y] (fun r σ' => MPost g g σ σ' (K_pq g x y) ∧ (K_pq g x y = 0 → r = valS g (ix x) (ix y))) := by
  refine MI.mk "FretSchoolModel" (by decide) rfl (Nat.le_of_ble_eq_true rfl) rfl ?_
  intro p e s m args below meth c C
  change Z _ _ _ _ _ _ _ _ _ _ _ _ _ _ _ _ _ _ _ [some (.ref (ad 17 0)), some (.int x), some (.int y)] 0 []
  refine z_aload_n C dX6_shifts_0 rfl ?_
  refine z_iload_n C dX6_shifts_1 rfl ?_
  refine z_iload_n C dX6_shifts_2 rfl ?_
  refine z_cvi C (As := [_, _]) (c_X6_asks hM hI) okX6_asks wd703 rc_17 (rok (by decide) (by decide)) ⟨Nat.le_of_ble_eq_true rfl, Nat.le_of_ble_eq_true rfl⟩ rfl (Nat.le_of_ble_eq_true rfl) dX6_shifts_3 ?_
  rintro r3 _ ⟨rfl, h3⟩
  refine z_if_eq C 18 dX6_shifts_6 (by decide) (fun c_6 => ?_) (fun c_6 => ?_)
  · have hK : K_pq g x y = 1 := h3.elim (fun a => absurd (a.1.symm.trans c_6) (by decide)) (fun a => a.2)
    refine z_iconst C (v := 0) dX6_shifts_18 (by decide) ?_
    refine z_iret C dX6_shifts_19 ?_
    exact ⟨MPost.no hM (by rw [hK]; decide), fun a => absurd (a.symm.trans hK) (by decide)⟩
  · have hK : K_pq g x y = 0 := h3.elim (fun a => a.2) (fun a => absurd a.1 c_6)
    obtain ⟨ex, hx8, ey, hy8, hyl⟩ := K_pq_ok hI hK
    refine z_aload_n C dX6_shifts_9 rfl ?_
    refine z_iload_n C dX6_shifts_10 rfl ?_
    refine z_iload_n C dX6_shifts_11 rfl ?_
    refine z_cvi C (As := [_, _]) (c_X6_finds (hM.fs FS.thr) hI ex hx8 ey hy8 hyl) okX6_finds wd707 rc_17 (rok (by decide) (by decide)) ⟨Nat.le_of_ble_eq_true rfl, Nat.le_of_ble_eq_true rfl⟩ rfl (Nat.le_of_ble_eq_true rfl) dX6_shifts_12 ?_
    rintro r12 σ1 ⟨hfr, e12, -⟩
    refine z_goto C 19 dX6_shifts_15 (by decide) ?_
    refine z_iret C dX6_shifts_19 ?_
    exact ⟨MPost.fs hM (FS.thr.trans hfr.fs) (by rw [hfr 17 0 18 (by decide) (by decide), up_app, if_pos ⟨rfl, rfl, rfl⟩]), fun _ => e12⟩
set_option maxRecDepth 100000 in
set_option maxHeartbeats 4000000 in
theorem c_X6_hardest {l : Launch} {D : va_G} {ad : Nat → Nat → Nat} {cy : Nat → ClassId} {A : Nat → Prop} {sa : Nat → Nat} {σ : St} {g : St} {x y : Int32} (hM : MRel g σ) (hI : Inv g) : MI l D ad cy A sa yX6_hardest cX6_hardest 3 (some .int) 6 σ [.ref (ad 17 0), .int x, .int y] (fun r σ' => MPost g g σ σ' (K_pq g x y) ∧ (K_pq g x y = 0 → r = valH g (ix x) (ix y))) := by
  refine MI.mk "FretSchoolModel" (by decide) rfl (Nat.le_of_ble_eq_true rfl) rfl ?_
  intro p e s m args below meth c C
  change Z _ _ _ _ _ _ _ _ _ _ _ _ _ _ _ _ _ _ _ [some (.ref (ad 17 0)), some (.int x), some (.int y)] 0 []
  refine z_aload_n C dX6_hardest_0 rfl ?_
  refine z_iload_n C dX6_hardest_1 rfl ?_
  refine z_iload_n C dX6_hardest_2 rfl ?_
  refine z_cvi C (As := [_, _]) (c_X6_asks hM hI) okX6_asks wd703 rc_17 (rok (by decide) (by decide)) ⟨Nat.le_of_ble_eq_true rfl, Nat.le_of_ble_eq_true rfl⟩ rfl (Nat.le_of_ble_eq_true rfl) dX6_hardest_3 ?_
  rintro r3 _ ⟨rfl, h3⟩
  refine z_if_eq C 18 dX6_hardest_6 (by decide) (fun c_6 => ?_) (fun c_6 => ?_)
  · have hK : K_pq g x y = 1 := h3.elim (fun a => absurd (a.1.symm.trans c_6) (by decide)) (fun a => a.2)
    refine z_iconst C (v := 0) dX6_hardest_18 (by decide) ?_
    refine z_iret C dX6_hardest_19 ?_
    exact ⟨MPost.no hM (by rw [hK]; decide), fun a => absurd (a.symm.trans hK) (by decide)⟩
  · have hK : K_pq g x y = 0 := h3.elim (fun a => a.2) (fun a => absurd a.1 c_6)
    obtain ⟨ex, hx8, ey, hy8, hyl⟩ := K_pq_ok hI hK
    refine z_aload_n C dX6_hardest_9 rfl ?_
    refine z_iload_n C dX6_hardest_10 rfl ?_
    refine z_iload_n C dX6_hardest_11 rfl ?_
    refine z_cvi C (As := [_, _]) (c_X6_hardestOf (hM.fs FS.thr) hI ex hx8 ey hy8 hyl) okX6_hardestOf wd735 rc_17 (rok (by decide) (by decide)) ⟨Nat.le_of_ble_eq_true rfl, Nat.le_of_ble_eq_true rfl⟩ rfl (Nat.le_of_ble_eq_true rfl) dX6_hardest_12 ?_
    rintro r12 σ1 ⟨hfr, e12⟩
    refine z_goto C 19 dX6_hardest_15 (by decide) ?_
    refine z_iret C dX6_hardest_19 ?_
    exact ⟨MPost.fs hM (FS.thr.trans hfr.fs) (by rw [hfr 17 0 18 (by decide) (by decide), up_app, if_pos ⟨rfl, rfl, rfl⟩]), fun _ => e12⟩
