/-! ===== the hand ===== -/
section
variable {p : Program} {l : Launch} {e : Env} {R : Room} {s : State} {m : MethodId} {args : Array Value} {below : List Frame} {meth : Method} {c : Code} {D : va_G} {ad : Nat → Nat → Nat} {cy : Nat → ClassId} {A : Nat → Prop} {sa : Nat → Nat} {nL cells slots pc : Nat} {cc : ByteArray} {own : String} {ret : Option FieldType} {L : List (Option Value)} {st : List Value} {Q : State → Prop} {σ : St}
theorem z_mabs (C : Cx p l s m args meth c cc own nL ret D ad cy A sa) {index : Nat} {x : Int32} (hw : Cond.methodLink own index yJ9_abs_0f7a4 ∈ BIG) (hR : 1 ≤ R.frames ∧ (st.map fun v => v.category).sum + 13 ≤ R.locals) (hc : cells ≤ R.cells ∧ slots ≤ R.slots) (hdg : decode cc pc = .ok (.invokestatic index, 3)) (k : Z p l e R s m args below meth c D ad cy A nL cells slots Q σ L (pc + 3) (.int (if 0 ≤ x then x else 0 - x) :: st)) : Z p l e R s m args below meth c D ad cy A nL cells slots Q σ L pc (.int x :: st) := by
  intro H locs ls hP hS hl
  obtain ⟨hx, hb, hml, hown, hts, hr, hlk, hF⟩ := C
  exact va_mabs hx hb (hml.trans hl.1.symm) hown (hts _ hw) (hts (Cond.static yJ9_abs_0f7a4) wd322) (hts (Cond.initialized "java/lang/Math") wd24) (hts (Cond.code yJ9_abs_0f7a4 cJ9_abs_0f7a4 1 (some .int)) wd323) hR.1 hR.2 hc.1 hc.2 hdg (k H locs ls hP hS hl)
end
theorem abs_sh : ∀ b, b < 14 → ∀ h, h < 14 → (if 0 ≤ nI h - nI b then nI h - nI b else 0 - (nI h - nI b)) = nI (if b ≤ h then h - b else b - h) := by decide +kernel
theorem nI_ne0' {b : Nat} (hb : b < 2 ^ 31) : nI b = 0 ↔ b = 0 := by rw [show (0 : Int32) = nI 0 from rfl]; exact nI_eq hb (by decide)
theorem am_yes {F : Nat → Nat} {n : Nat} (h : F (n + 1) < mn F n) : am F (n + 1) = n + 1 ∧ mn F (n + 1) = F (n + 1) := ⟨by show (if _ then _ else _) = _; rw [if_pos h], by show (if _ then _ else _) = _; rw [if_pos h]⟩
theorem am_no {F : Nat → Nat} {n : Nat} (h : mn F n ≤ F (n + 1)) : am F (n + 1) = am F n ∧ mn F (n + 1) = mn F n := ⟨by show (if F (n + 1) < mn F n then n + 1 else am F n) = _; rw [if_neg (by omega)], by show (if F (n + 1) < mn F n then F (n + 1) else mn F n) = _; rw [if_neg (by omega)]⟩
set_option maxRecDepth 100000 in
set_option maxHeartbeats 4000000 in
theorem c_X0_shift {l : Launch} {D : va_G} {ad : Nat → Nat → Nat} {cy : Nat → ClassId} {A : Nat → Prop} {sa : Nat → Nat} {σ : St} {x y : Int32} {b h : Nat} (ex : x = nI b) (ey : y = nI h) (hb : b < 14) (hh : h < 14) : MI l D ad cy A sa yX0_shift cX0_shift 2 (some .int) 1 σ [.int x, .int y] (fun r σ' => r = nI (sh b h) ∧ σ = σ') := by
  refine MI.mk "FretSchool$Hand" (by decide) rfl (Nat.le_of_ble_eq_true rfl) rfl ?_
  intro p e s m args below meth c C
  change Z _ _ _ _ _ _ _ _ _ _ _ _ _ _ _ _ _ _ _ [some (.int x), some (.int y)] 0 []
  refine z_iload_n C dX0_shift_0 rfl ?_
  refine z_if_ne C 8 dX0_shift_1 (by decide) (fun c_1 => ?_) (fun c_1 => ?_)
  · refine z_iload_n C dX0_shift_8 rfl ?_
    refine z_iload_n C dX0_shift_9 rfl ?_
    refine z_isub C dX0_shift_10 ?_
    refine z_mabs C wd321 ⟨Nat.le_of_ble_eq_true rfl, Nat.le_of_ble_eq_true rfl⟩ ⟨Nat.le_of_ble_eq_true rfl, Nat.le_of_ble_eq_true rfl⟩ dX0_shift_11 ?_
    refine z_iret C dX0_shift_14 ?_
    refine ⟨?_, rfl⟩
    unfold sh
    rw [ex, nI_ne0' (by omega)] at c_1
    rw [ex, ey, if_neg c_1]
    exact abs_sh b hb h hh
  · refine z_iconst C (v := 0) dX0_shift_4 (by decide) ?_
    refine z_goto C 14 dX0_shift_5 (by decide) ?_
    refine z_iret C dX0_shift_14 ?_
    refine ⟨?_, rfl⟩
    unfold sh
    rw [ex, nI_ne0' (by omega)] at c_1
    rw [if_pos c_1]
    rfl
section
variable {p : Program} {l : Launch} {e : Env} {R : Room} {s : State} {m : MethodId} {args : Array Value} {below : List Frame} {meth : Method} {c : Code} {D : va_G} {ad : Nat → Nat → Nat} {cy : Nat → ClassId} {A : Nat → Prop} {sa : Nat → Nat} {cells slots : Nat} {σ : St}
set_option maxRecDepth 100000 in
set_option maxHeartbeats 4000000 in
theorem lp_X0_nearest (C : Cx p l s m args meth c cX0_nearest "FretSchool$Hand" 7 (some .int) D ad cy A sa) {i b : Nat} {x1 x2 : Int32} {v : Nat → Nat} (e1 : x1 = nI i) (hi : i < 16) (e2 : x2 = nI b) (hb : b < 14) (hv : ∀ g, 1 ≤ g → g ≤ 13 → σ 10 i g = nI (v g) ∧ v g ≤ FARn) (hR : Rok R 1 2) (hcs : cells ≤ R.cells ∧ slots ≤ R.slots) : ∀ (f j : Nat) (x3 x4 x5 : Int32) (o6 : Option Value), x5 = nI (j + 1) → x3 = nI (am (fun g => sh b g + v g) j) → x4 = nI (mn (fun g => sh b g + v g) j) → j ≤ 13 → 13 < j + f → Z p l e R s m args below meth c D ad cy A 7 cells slots (MQ below (va_Qi (fun r σ' => r = nI (am (fun g => sh b g + v g) 13) ∧ σ = σ') (Bw D ad cy) A) args s cells slots A) σ [some (.ref (ad 6 0)), some (.int x1), some (.int x2), some (.int x3), some (.int x4), some (.int x5), o6] 9 [] := by
  intro f
  induction f with
  | zero => intro j x3 x4 x5 o6 _ _ _ _ h; exact absurd h (by omega)
  | succ f ih =>
    intro j x3 x4 x5 o6 e5 e3 e4 hj hf
    refine z_iload C dX0_nearest_9 rfl ?_
    refine z_bipush C (v := 13) dX0_nearest_11 (by decide) ?_
    refine z_icmp_gt C 54 dX0_nearest_13 (by decide) (fun c_13 => ?_) (fun c_13 => ?_)
    · have hj13 : j = 13 := by rw [e5, show (13 : Int32) = nI 13 from rfl, nI_ltI (by omega) (by omega)] at c_13; omega
      refine z_iload_n C dX0_nearest_54 rfl ?_
      refine z_iret C dX0_nearest_55 ?_
      refine ⟨?_, rfl⟩
      rw [e3, hj13]
    · have hj13 : j < 13 := by rw [e5, show (13 : Int32) = nI 13 from rfl, nI_ltI (by omega) (by omega)] at c_13; omega
      refine z_iload_n C dX0_nearest_16 rfl ?_
      refine z_iload C dX0_nearest_17 rfl ?_
      refine z_csi C (As := [_, _]) (c_X0_shift e2 e5 (by omega) (by omega)) okX0_shift wd318 hR hcs rfl (Nat.le_of_ble_eq_true rfl) dX0_nearest_19 ?_
      rintro _ _ ⟨rfl, rfl⟩
      refine z_aload_n C dX0_nearest_22 rfl ?_
      refine g_6_1 C wd122 dX0_nearest_23 ?_
      refine z_iload_n C dX0_nearest_26 rfl ?_
      refine a_8 C (by assumption) (by first | assumption | omega) dX0_nearest_27 ?_
      refine z_iload C dX0_nearest_28 rfl ?_
      refine a_10 (by first | assumption | omega) C (by assumption) (by first | assumption | omega) dX0_nearest_30 ?_
      refine z_iadd C dX0_nearest_31 ?_
      refine z_istore C dX0_nearest_32 (by decide) ?_
      dsimp only [List.set]
      refine z_iload C dX0_nearest_34 rfl ?_
      refine z_iload C dX0_nearest_36 rfl ?_
      refine z_icmp_ge C 48 dX0_nearest_38 (by decide) (fun c_38 => ?_) (fun c_38 => ?_)
      · have hv1 := hv (j + 1) (by omega) (by omega)
        have hs := sh_le (b := b) (h := j + 1) (by omega) (by omega)
        have hm := mn_le (fun g => sh b g + v g) j
        have hF : FARn = 1000000 := rfl
        have e6 : nI (sh b (j + 1)) + σ 10 i (j + 1) = nI ((fun g => sh b g + v g) (j + 1)) := by rw [hv1.1, nI_add]
        have hlt : mn (fun g => sh b g + v g) j ≤ (fun g => sh b g + v g) (j + 1) := by rw [e6, e4, nI_leI (by omega) (by show sh b (j + 1) + v (j + 1) < _; omega)] at c_38; exact c_38
        refine z_iinc C (v := 1) dX0_nearest_48 rfl (by decide) (by decide) ?_
        dsimp only [List.set]
        refine z_goto C 9 dX0_nearest_51 (by decide) ?_
        exact ih (j + 1) _ _ _ _ (by rw [e5]; exact nI_1 (j + 1)) (by rw [e3, (am_no hlt).1]) (by rw [e4, (am_no hlt).2]) (by omega) (by omega)
      · have hv1 := hv (j + 1) (by omega) (by omega)
        have hs := sh_le (b := b) (h := j + 1) (by omega) (by omega)
        have hm := mn_le (fun g => sh b g + v g) j
        have hF : FARn = 1000000 := rfl
        have e6 : nI (sh b (j + 1)) + σ 10 i (j + 1) = nI ((fun g => sh b g + v g) (j + 1)) := by rw [hv1.1, nI_add]
        have hlt : (fun g => sh b g + v g) (j + 1) < mn (fun g => sh b g + v g) j := by rw [e6, e4, nI_leI (by omega) (by show sh b (j + 1) + v (j + 1) < _; omega)] at c_38; omega
        refine z_iload C dX0_nearest_41 rfl ?_
        refine z_istore_n C dX0_nearest_43 (by decide) ?_
        dsimp only [List.set]
        refine z_iload C dX0_nearest_44 rfl ?_
        refine z_istore C dX0_nearest_46 (by decide) ?_
        dsimp only [List.set]
        refine z_iinc C (v := 1) dX0_nearest_48 rfl (by decide) (by decide) ?_
        dsimp only [List.set]
        refine z_goto C 9 dX0_nearest_51 (by decide) ?_
        exact ih (j + 1) _ _ _ _ (by rw [e5]; exact nI_1 (j + 1)) (by rw [e5, (am_yes hlt).1]) (by rw [e6, (am_yes hlt).2]) (by omega) (by omega)
end
set_option maxRecDepth 100000 in
set_option maxHeartbeats 4000000 in
theorem c_X0_nearest {l : Launch} {D : va_G} {ad : Nat → Nat → Nat} {cy : Nat → ClassId} {A : Nat → Prop} {sa : Nat → Nat} {σ : St} {i b : Nat} {x1 x2 : Int32} {v : Nat → Nat} (e1 : x1 = nI i) (hi : i < 16) (e2 : x2 = nI b) (hb : b < 14) (hv : ∀ g, 1 ≤ g → g ≤ 13 → σ 10 i g = nI (v g) ∧ v g ≤ FARn) : MI l D ad cy A sa yX0_nearest cX0_nearest 7 (some .int) 2 σ [.ref (ad 6 0), .int x1, .int x2] (fun r σ' => r = nI (am (fun g => sh b g + v g) 13) ∧ σ = σ') := by
  refine MI.mk "FretSchool$Hand" (by decide) rfl (Nat.le_of_ble_eq_true rfl) rfl ?_
  intro p e s m args below meth c C
  change Z _ _ _ _ _ _ _ _ _ _ _ _ _ _ _ _ _ _ _ [some (.ref (ad 6 0)), some (.int x1), some (.int x2), none, none, none, none] 0 []
  refine z_iconst C (v := 0) dX0_nearest_0 (by decide) ?_
  refine z_istore_n C dX0_nearest_1 (by decide) ?_
  dsimp only [List.set]
  refine z_ldc C (v := 1000000) wd317 dX0_nearest_2 ?_
  refine z_istore C dX0_nearest_4 (by decide) ?_
  dsimp only [List.set]
  refine z_iconst C (v := 1) dX0_nearest_6 (by decide) ?_
  refine z_istore C dX0_nearest_7 (by decide) ?_
  dsimp only [List.set]
  exact lp_X0_nearest C e1 hi e2 hb hv (rok (by decide) (by decide)) ⟨Nat.zero_le _, Nat.zero_le _⟩ 14 0 _ _ _ _ rfl rfl rfl (by omega) (by omega)
theorem VR_last {P : Nat → Nat → Bool} {i h : Nat} (hp : P i h = true) : VR P 0 i h = 0 := by
  show (if P i h = true then 0 else FARn) = 0
  rw [if_pos hp]
theorem VR_more {P : Nat → Nat → Bool} {k i h : Nat} (hp : P i h = true) : VR P (k + 1) i h = mn (fun g => sh h g + VR P k (i + 1) g) 13 := by
  show (if P i h = true then mn (fun g => sh h g + VR P k (i + 1) g) 13 else FARn) = _
  rw [if_pos hp]
theorem row_up {σ : St} {P : Nat → Nat → Bool} {k i j : Nat} {y : Int32} (hrow : ∀ g, 1 ≤ g → g ≤ j → σ 10 i g = nI (VR P k i g)) (hy : y = nI (VR P k i (j + 1))) : ∀ g, 1 ≤ g → g ≤ j + 1 → up σ 10 i (j + 1) y 10 i g = nI (VR P k i g) := by
  intro g h1 h2
  rw [up_app]
  by_cases q : g = j + 1
  · rw [if_pos ⟨rfl, rfl, q⟩, hy, q]
  · rw [if_neg (fun h => q h.2.2)]
    exact hrow g h1 (by omega)
theorem frame_up {σ σ0 : St} {i j : Nat} {y : Int32} (hfr : ∀ a b c0, ¬ (a = 10 ∧ b = i) → σ a b c0 = σ0 a b c0) : ∀ a b c0, ¬ (a = 10 ∧ b = i) → up σ 10 i j y a b c0 = σ0 a b c0 := by
  intro a b c0 h
  rw [up_app, if_neg (fun q => h ⟨q.1, q.2.1⟩)]
  exact hfr a b c0 h
theorem nI_FAR : (1000000 : Int32) = nI FARn := rfl
section
variable {p : Program} {l : Launch} {e : Env} {R : Room} {s : State} {m : MethodId} {args : Array Value} {below : List Frame} {meth : Method} {c : Code} {D : va_G} {ad : Nat → Nat → Nat} {cy : Nat → ClassId} {A : Nat → Prop} {sa : Nat → Nat} {cells slots : Nat} {σ : St}
set_option maxRecDepth 100000 in
set_option maxHeartbeats 4000000 in
theorem lp_X0_measureRest (C : Cx p l s m args meth c cX0_measureRest "FretSchool$Hand" 5 (none : Option Jvm.ClassFile.FieldType) D ad cy A sa) {i k : Nat} {x1 x2 : Int32} {P : Nat → Nat → Bool} (e1 : x1 = nI i) (hi : i < 16) (hR : ∀ h, 1 ≤ h → h ≤ 13 → (σ 7 0 i &&& (1 <<< (nI h &&& 31)) = 0 ↔ ¬ P i h = true)) (hl : (k = 0 ∧ x2 = 1) ∨ (x2 = 0 ∧ i + 1 < 16 ∧ ∃ k', k = k' + 1 ∧ ∀ g, 1 ≤ g → g ≤ 13 → σ 10 (i + 1) g = nI (VR P k' (i + 1) g))) : ∀ (f j : Nat) (σ' : St) (x3 : Int32) (o4 : Option Value), x3 = nI (j + 1) → j ≤ 13 → 13 < j + f → (∀ g, 1 ≤ g → g ≤ j → σ' 10 i g = nI (VR P k i g)) → (∀ a b c0, ¬ (a = 10 ∧ b = i) → σ' a b c0 = σ a b c0) → Z p l e (rmD 3 0) s m args below meth c D ad cy A 5 0 0 (MQ below (va_Qv (fun σ' => (∀ g, 1 ≤ g → g ≤ 13 → σ' 10 i g = nI (VR P k i g)) ∧ ∀ a b c0, ¬ (a = 10 ∧ b = i) → σ' a b c0 = σ a b c0) (Bw D ad cy) A) args s 0 0 A) σ' [some (.ref (ad 6 0)), some (.int x1), some (.int x2), some (.int x3), o4] 2 [] := by
  intro f
  induction f with
  | zero => intro j σ' x3 o4 _ _ h; exact absurd h (by omega)
  | succ f ih =>
    intro j σ' x3 o4 e3 hj hf hrow hfr
    refine z_iload_n C dX0_measureRest_2 rfl ?_
    refine z_bipush C (v := 13) dX0_measureRest_3 (by decide) ?_
    refine z_icmp_gt C 100 dX0_measureRest_5 (by decide) (fun c_5 => ?_) (fun c_5 => ?_)
    · have hj13 : j = 13 := by rw [e3, show (13 : Int32) = nI 13 from rfl, nI_ltI (by omega) (by omega)] at c_5; omega
      refine z_vret C dX0_measureRest_100 ?_
      exact ⟨fun g h1 h2 => hrow g h1 (by omega), hfr⟩
    · have hj13 : j < 13 := by rw [e3, show (13 : Int32) = nI 13 from rfl, nI_ltI (by omega) (by omega)] at c_5; omega
      have hRj : (σ' 7 0 i &&& (1 <<< (x3 &&& 31)) = 0 ↔ ¬ P i (j + 1) = true) := by rw [hfr 7 0 i (by omega), e3]; exact hR (j + 1) (by omega) (by omega)
      refine z_iconst C (v := 0) dX0_measureRest_8 (by decide) ?_
      refine z_istore C dX0_measureRest_9 (by decide) ?_
      dsimp only [List.set]
      refine z_iload_n C dX0_measureRest_11 rfl ?_
      refine z_if_ne C 25 dX0_measureRest_12 (by decide) (fun c_12 => ?_) (fun c_12 => ?_)
      · have hk : k = 0 := hl.elim (fun h => h.1) (fun h => absurd h.1 c_12)
        refine z_aload_n C dX0_measureRest_25 rfl ?_
        refine g_6_0 C wd121 dX0_measureRest_26 ?_
        refine z_iload_n C dX0_measureRest_29 rfl ?_
        refine a_7 C (by assumption) (by first | assumption | omega) dX0_measureRest_30 ?_
        refine z_iload_n C dX0_measureRest_31 rfl ?_
        refine z_csi C (As := [_, _]) (c_X0_canReach) okX0_canReach wd324 (rok (by decide) (by decide)) ⟨Nat.le_of_ble_eq_true rfl, Nat.le_of_ble_eq_true rfl⟩ rfl (Nat.le_of_ble_eq_true rfl) dX0_measureRest_32 ?_
        rintro r32 _ ⟨e32, rfl⟩
        refine z_if_eq C 47 dX0_measureRest_35 (by decide) (fun c_35 => ?_) (fun c_35 => ?_)
        · have hp : ¬ P i (j + 1) = true := by
            apply hRj.mp
            apply Classical.byContradiction
            intro q
            rw [e32, if_neg q] at c_35
            exact absurd c_35 (by decide)
          refine z_aload_n C dX0_measureRest_47 rfl ?_
          refine g_6_1 C wd122 dX0_measureRest_48 ?_
          refine z_iload_n C dX0_measureRest_51 rfl ?_
          refine a_8 C (by assumption) (by first | assumption | omega) dX0_measureRest_52 ?_
          refine z_iload_n C dX0_measureRest_53 rfl ?_
          refine z_ldc C (v := 1000000) wd317 dX0_measureRest_54 ?_
          refine s_10 hi C e3 (by omega) dX0_measureRest_56 ?_
          refine z_goto C 94 dX0_measureRest_57 (by decide) ?_
          refine z_iinc C (v := 1) dX0_measureRest_94 rfl (by decide) (by decide) ?_
          dsimp only [List.set]
          refine z_goto C 2 dX0_measureRest_97 (by decide) ?_
          exact ih (j + 1) _ _ _ (by rw [e3]; exact nI_1 (j + 1)) (by omega) (by omega) (row_up hrow (by rw [VR_no hp]; rfl)) (frame_up hfr)
        · have hp : P i (j + 1) = true := by
            apply Classical.byContradiction
            intro q
            rw [e32, if_pos (hRj.mpr q)] at c_35
            exact c_35 rfl
          refine z_iload_n C dX0_measureRest_38 rfl ?_
          refine z_if_ne C 60 dX0_measureRest_39 (by decide) (fun c_39 => ?_) (fun c_39 => ?_)
          · refine z_aload_n C dX0_measureRest_60 rfl ?_
            refine g_6_1 C wd122 dX0_measureRest_61 ?_
            refine z_iload_n C dX0_measureRest_64 rfl ?_
            refine a_8 C e1 hi dX0_measureRest_65 ?_
            refine z_iload_n C dX0_measureRest_66 rfl ?_
            refine z_iload_n C dX0_measureRest_67 rfl ?_
            refine z_if_eq C 75 dX0_measureRest_68 (by decide) (fun c_68 => ?_) (fun c_68 => ?_)
            · exact absurd c_68 c_12
            · refine z_iconst C (v := 0) dX0_measureRest_71 (by decide) ?_
              refine z_goto C 93 dX0_measureRest_72 (by decide) ?_
              refine s_10 hi C e3 (by omega) dX0_measureRest_93 ?_
              refine z_iinc C (v := 1) dX0_measureRest_94 rfl (by decide) (by decide) ?_
              dsimp only [List.set]
              refine z_goto C 2 dX0_measureRest_97 (by decide) ?_
              exact ih (j + 1) _ _ _ (by rw [e3]; exact nI_1 (j + 1)) (by omega) (by omega) (row_up hrow (by rw [hk, VR_last hp]; rfl)) (frame_up hfr)
          · exact absurd c_39 c_12
      · obtain ⟨hi1, k', hk, hnx⟩ : i + 1 < 16 ∧ ∃ k', k = k' + 1 ∧ ∀ g, 1 ≤ g → g ≤ 13 → σ 10 (i + 1) g = nI (VR P k' (i + 1) g) := hl.elim (fun h => absurd (h.2.symm.trans c_12) (by decide)) (fun h => h.2)
        have hnx' : ∀ g, 1 ≤ g → g ≤ 13 → σ' 10 (i + 1) g = nI (VR P k' (i + 1) g) := fun g h1 h2 => by rw [hfr 10 (i + 1) g (by omega)]; exact hnx g h1 h2
        refine z_aload_n C dX0_measureRest_15 rfl ?_
        refine z_iload_n C dX0_measureRest_16 rfl ?_
        refine z_iconst C (v := 1) dX0_measureRest_17 (by decide) ?_
        refine z_iadd C dX0_measureRest_18 ?_
        refine z_iload_n C dX0_measureRest_19 rfl ?_
        refine z_cvi C (As := [_, _]) (c_X0_nearest (i := i + 1) (b := j + 1) (v := fun g => VR P k' (i + 1) g) (by rw [e1]; exact nI_1 i) hi1 e3 (by omega) (fun g h1 h2 => ⟨hnx' g h1 h2, VR_le _ _ _ _⟩)) okX0_nearest wd313 rc_6 (rok (by decide) (by decide)) ⟨Nat.le_of_ble_eq_true rfl, Nat.le_of_ble_eq_true rfl⟩ rfl (Nat.le_of_ble_eq_true rfl) dX0_measureRest_20 ?_
        rintro r20 _ ⟨e20, rfl⟩
        refine z_istore C dX0_measureRest_23 (by decide) ?_
        dsimp only [List.set]
        refine z_aload_n C dX0_measureRest_25 rfl ?_
        refine g_6_0 C wd121 dX0_measureRest_26 ?_
        refine z_iload_n C dX0_measureRest_29 rfl ?_
        refine a_7 C (by assumption) (by first | assumption | omega) dX0_measureRest_30 ?_
        refine z_iload_n C dX0_measureRest_31 rfl ?_
        refine z_csi C (As := [_, _]) (c_X0_canReach) okX0_canReach wd324 (rok (by decide) (by decide)) ⟨Nat.le_of_ble_eq_true rfl, Nat.le_of_ble_eq_true rfl⟩ rfl (Nat.le_of_ble_eq_true rfl) dX0_measureRest_32 ?_
        rintro r32 _ ⟨e32, rfl⟩
        refine z_if_eq C 47 dX0_measureRest_35 (by decide) (fun c_35 => ?_) (fun c_35 => ?_)
        · have hp : ¬ P i (j + 1) = true := by
            apply hRj.mp
            apply Classical.byContradiction
            intro q
            rw [e32, if_neg q] at c_35
            exact absurd c_35 (by decide)
          refine z_aload_n C dX0_measureRest_47 rfl ?_
          refine g_6_1 C wd122 dX0_measureRest_48 ?_
          refine z_iload_n C dX0_measureRest_51 rfl ?_
          refine a_8 C (by assumption) (by first | assumption | omega) dX0_measureRest_52 ?_
          refine z_iload_n C dX0_measureRest_53 rfl ?_
          refine z_ldc C (v := 1000000) wd317 dX0_measureRest_54 ?_
          refine s_10 hi C e3 (by omega) dX0_measureRest_56 ?_
          refine z_goto C 94 dX0_measureRest_57 (by decide) ?_
          refine z_iinc C (v := 1) dX0_measureRest_94 rfl (by decide) (by decide) ?_
          dsimp only [List.set]
          refine z_goto C 2 dX0_measureRest_97 (by decide) ?_
          exact ih (j + 1) _ _ _ (by rw [e3]; exact nI_1 (j + 1)) (by omega) (by omega) (row_up hrow (by rw [VR_no hp]; rfl)) (frame_up hfr)
        · have hp : P i (j + 1) = true := by
            apply Classical.byContradiction
            intro q
            rw [e32, if_pos (hRj.mpr q)] at c_35
            exact c_35 rfl
          refine z_iload_n C dX0_measureRest_38 rfl ?_
          refine z_if_ne C 60 dX0_measureRest_39 (by decide) (fun c_39 => ?_) (fun c_39 => ?_)
          · exact absurd c_12 c_39
          · refine z_iload C dX0_measureRest_42 rfl ?_
            refine z_if_ne C 60 dX0_measureRest_44 (by decide) (fun c_44 => ?_) (fun c_44 => ?_)
            · obtain ⟨ha1, ha2, ha3, ha4⟩ : 1 ≤ am (fun g => sh (j + 1) g + VR P k' (i + 1) g) 13 ∧ am (fun g => sh (j + 1) g + VR P k' (i + 1) g) 13 ≤ 13 ∧ (fun g => sh (j + 1) g + VR P k' (i + 1) g) (am (fun g => sh (j + 1) g + VR P k' (i + 1) g) 13) = mn (fun g => sh (j + 1) g + VR P k' (i + 1) g) 13 ∧ mn (fun g => sh (j + 1) g + VR P k' (i + 1) g) 13 < FARn := by
                rcases am_spec (fun g => sh (j + 1) g + VR P k' (i + 1) g) 13 with ⟨h1, _, _⟩ | ⟨h1, h2, h3, h4, _, _⟩
                · rw [e20, h1] at c_44; exact absurd rfl c_44
                · exact ⟨h1, h2, h3, h4⟩
              refine z_aload_n C dX0_measureRest_60 rfl ?_
              refine g_6_1 C wd122 dX0_measureRest_61 ?_
              refine z_iload_n C dX0_measureRest_64 rfl ?_
              refine a_8 C e1 hi dX0_measureRest_65 ?_
              refine z_iload_n C dX0_measureRest_66 rfl ?_
              refine z_iload_n C dX0_measureRest_67 rfl ?_
              refine z_if_eq C 75 dX0_measureRest_68 (by decide) (fun c_68 => ?_) (fun c_68 => ?_)
              · refine z_iload_n C dX0_measureRest_75 rfl ?_
                refine z_iload C dX0_measureRest_76 rfl ?_
                refine z_csi C (As := [_, _]) (c_X0_shift e3 e20 (by omega) (by omega)) okX0_shift wd318 (rok (by decide) (by decide)) ⟨Nat.le_of_ble_eq_true rfl, Nat.le_of_ble_eq_true rfl⟩ rfl (Nat.le_of_ble_eq_true rfl) dX0_measureRest_78 ?_
                rintro _ _ ⟨rfl, rfl⟩
                refine z_aload_n C dX0_measureRest_81 rfl ?_
                refine g_6_1 C wd122 dX0_measureRest_82 ?_
                refine z_iload_n C dX0_measureRest_85 rfl ?_
                refine z_iconst C (v := 1) dX0_measureRest_86 (by decide) ?_
                refine z_iadd C dX0_measureRest_87 ?_
                refine a_8 C (j := i + 1) (by rw [e1]; exact nI_1 i) hi1 dX0_measureRest_88 ?_
                refine z_iload C dX0_measureRest_89 rfl ?_
                refine a_10 hi1 C e20 (by omega) dX0_measureRest_91 ?_
                refine z_iadd C dX0_measureRest_92 ?_
                refine s_10 hi C e3 (by omega) dX0_measureRest_93 ?_
                refine z_iinc C (v := 1) dX0_measureRest_94 rfl (by decide) (by decide) ?_
                dsimp only [List.set]
                refine z_goto C 2 dX0_measureRest_97 (by decide) ?_
                exact ih (j + 1) _ _ _ (by rw [e3]; exact nI_1 (j + 1)) (by omega) (by omega) (row_up hrow (by rw [hk, VR_more hp, ← ha3, hnx' _ ha1 ha2, nI_add])) (frame_up hfr)
              · exact absurd c_12 c_68
            · have hz : am (fun g => sh (j + 1) g + VR P k' (i + 1) g) 13 = 0 ∧ mn (fun g => sh (j + 1) g + VR P k' (i + 1) g) 13 = FARn := by
                rcases am_spec (fun g => sh (j + 1) g + VR P k' (i + 1) g) 13 with ⟨h1, h2, _⟩ | ⟨h1, h2, h3, h4, _, _⟩
                · exact ⟨h1, h2⟩
                · rw [e20, nI_ne0' (by omega)] at c_44; omega
              refine z_aload_n C dX0_measureRest_47 rfl ?_
              refine g_6_1 C wd122 dX0_measureRest_48 ?_
              refine z_iload_n C dX0_measureRest_51 rfl ?_
              refine a_8 C (by assumption) (by first | assumption | omega) dX0_measureRest_52 ?_
              refine z_iload_n C dX0_measureRest_53 rfl ?_
              refine z_ldc C (v := 1000000) wd317 dX0_measureRest_54 ?_
              refine s_10 hi C e3 (by omega) dX0_measureRest_56 ?_
              refine z_goto C 94 dX0_measureRest_57 (by decide) ?_
              refine z_iinc C (v := 1) dX0_measureRest_94 rfl (by decide) (by decide) ?_
              dsimp only [List.set]
              refine z_goto C 2 dX0_measureRest_97 (by decide) ?_
              exact ih (j + 1) _ _ _ (by rw [e3]; exact nI_1 (j + 1)) (by omega) (by omega) (row_up hrow (by rw [hk, VR_more hp, hz.2]; rfl)) (frame_up hfr)
end
set_option maxRecDepth 100000 in
set_option maxHeartbeats 4000000 in
theorem c_X0_measureRest {l : Launch} {D : va_G} {ad : Nat → Nat → Nat} {cy : Nat → ClassId} {A : Nat → Prop} {sa : Nat → Nat} {σ : St} {i k : Nat} {x1 x2 : Int32} {P : Nat → Nat → Bool} (e1 : x1 = nI i) (hi : i < 16) (hR : ∀ h, 1 ≤ h → h ≤ 13 → (σ 7 0 i &&& (1 <<< (nI h &&& 31)) = 0 ↔ ¬ P i h = true)) (hl : (k = 0 ∧ x2 = 1) ∨ (x2 = 0 ∧ i + 1 < 16 ∧ ∃ k', k = k' + 1 ∧ ∀ g, 1 ≤ g → g ≤ 13 → σ 10 (i + 1) g = nI (VR P k' (i + 1) g))) : MV l D ad cy A sa yX0_measureRest cX0_measureRest 5 (none : Option Jvm.ClassFile.FieldType) 3 σ [.ref (ad 6 0), .int x1, .int x2] (fun σ' => (∀ g, 1 ≤ g → g ≤ 13 → σ' 10 i g = nI (VR P k i g)) ∧ ∀ a b c0, ¬ (a = 10 ∧ b = i) → σ' a b c0 = σ a b c0) := by
  refine MV.mk "FretSchool$Hand" (by decide) rfl (Nat.le_of_ble_eq_true rfl) rfl ?_
  intro p e s m args below meth c C
  change Z _ _ _ _ _ _ _ _ _ _ _ _ _ _ _ _ _ _ _ [some (.ref (ad 6 0)), some (.int x1), some (.int x2), none, none] 0 []
  refine z_iconst C (v := 1) dX0_measureRest_0 (by decide) ?_
  refine z_istore_n C dX0_measureRest_1 (by decide) ?_
  dsimp only [List.set]
  exact lp_X0_measureRest C e1 hi hR hl 14 0 _ _ _ rfl (by omega) (by omega) (fun g h1 h2 => absurd h1 (by omega)) (fun _ _ _ _ => rfl)
