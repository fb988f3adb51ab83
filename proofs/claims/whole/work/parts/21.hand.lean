/-! ===== the hand ===== -/
section
variable {p : Program} {l : Launch} {e : Env} {R : Room} {s : State} {m : MethodId} {args : Array Value} {below : List Frame} {meth : Method} {c : Code} {D : va_G} {ad : Nat → Nat → Nat} {cy : Nat → ClassId} {A : Nat → Prop} {sa : Nat → Nat} {nL cells slots pc : Nat} {cc : ByteArray} {own : String} {ret : Option FieldType} {L : List (Option Value)} {st : List Value} {Q : State → Prop} {σ : St}
theorem z_mabs (C : Cx p l s m args meth c cc own nL ret D ad cy A sa) {index : Nat} {x : Int32} (hw : Cond.methodLink own index yJ9_abs_0f7a4 ∈ BIG) (hR : 1 ≤ R.frames ∧ (st.map fun v => v.category).sum + 13 ≤ R.locals) (hc : cells ≤ R.cells ∧ slots ≤ R.slots) (hdg : decode cc pc = .ok (.invokestatic index, 3)) (k : Z p l e R s m args below meth c D ad cy A nL cells slots Q σ L (pc + 3) (.int (if 0 ≤ x then x else 0 - x) :: st)) : Z p l e R s m args below meth c D ad cy A nL cells slots Q σ L pc (.int x :: st) := by
  intro H locs ls hP hS hl
  obtain ⟨hx, hb, hml, hown, hts, hr, hlk, hF⟩ := C
  exact va_mabs hx hb (hml.trans hl.1.symm) hown (hts _ hw) (hts (Cond.static yJ9_abs_0f7a4) wd417) (hts (Cond.initialized "java/lang/Math") wd43) (hts (Cond.code yJ9_abs_0f7a4 cJ9_abs_0f7a4 1 (some .int)) wd418) hR.1 hR.2 hc.1 hc.2 hdg (k H locs ls hP hS hl)
end
theorem abs_sh : ∀ b, b < 14 → ∀ h, h < 14 → (if 0 ≤ nI h - nI b then nI h - nI b else 0 - (nI h - nI b)) = nI (if b ≤ h then h - b else b - h) := by decide +kernel
theorem nI_ne0' {b : Nat} (hb : b < 2 ^ 31) : nI b = 0 ↔ b = 0 := by rw [show (0 : Int32) = nI 0 from rfl]; exact nI_eq hb (by decide)
theorem am_yes {F : Nat → Nat} {n : Nat} (h : F (n + 1) < mn F n) : am F (n + 1) = n + 1 ∧ mn F (n + 1) = F (n + 1) := ⟨by show (if _ then _ else _) = _; rw [if_pos h], by show (if _ then _ else _) = _; rw [if_pos h]⟩
theorem am_no {F : Nat → Nat} {n : Nat} (h : mn F n ≤ F (n + 1)) : am F (n + 1) = am F n ∧ mn F (n + 1) = mn F n := ⟨by show (if F (n + 1) < mn F n then n + 1 else am F n) = _; rw [if_neg (by omega)], by show (if F (n + 1) < mn F n then F (n + 1) else mn F n) = _; rw [if_neg (by omega)]⟩
set_option maxRecDepth 100000 in
set_option maxHeartbeats 4000000 in
theorem c_X0_shift {l : Launch} {D : va_G} {ad : Nat → Nat → Nat} {cy : Nat → ClassId} {A : Nat → Prop} {sa : Nat → Nat} {σ : St} {x y : Int32} {b h : Nat} (ex : x = nI b) (ey : y = nI h) (hb : b < 14) (hh : h < 14) : MI l D ad cy A sa yX0_shift cX0_shift 2 (some .int) 1 σ [.int x, .int y] (fun r σ' => r = nI (sh b h) ∧ σ = σ') := by
  refine MI.mk "FretSchool$Hand" (by decide) rfl (Nat.le_of_ble_eq_true rfl) rfl ?_
  intro p e s m args below meth c C
  change Z _ _ _ _ _ _ _ _ _ _ _ _ _ _ _ _ _ _ _ [some (.int x), some (.int y)] 0 []
  refine z_iload_n C dX0_shift_0 rfl ?_
  refine z_if_ne C 8 dX0_shift_1 (by decide) (fun c_1 => ?_) (fun c_1 => ?_)
  · refine z_iload_n C dX0_shift_8 rfl ?_
    refine z_iload_n C dX0_shift_9 rfl ?_
    refine z_isub C dX0_shift_10 ?_
    refine z_mabs C wd416 ⟨Nat.le_of_ble_eq_true rfl, Nat.le_of_ble_eq_true rfl⟩ ⟨Nat.le_of_ble_eq_true rfl, Nat.le_of_ble_eq_true rfl⟩ dX0_shift_11 ?_
    refine z_iret C dX0_shift_14 ?_
    refine ⟨?_, rfl⟩
    unfold sh
    rw [ex, nI_ne0' (by omega)] at c_1
    rw [ex, ey, if_neg c_1]
    exact abs_sh b hb h hh
  · refine z_iconst C (v := 0) dX0_shift_4 (by decide) ?_
    refine z_goto C 14 dX0_shift_5 (by decide) ?_
    refine z_iret C dX0_shift_14 ?_
    refine ⟨?_, rfl⟩
    unfold sh
    rw [ex, nI_ne0' (by omega)] at c_1
    rw [if_pos c_1]
    rfl
section
variable {p : Program} {l : Launch} {e : Env} {R : Room} {s : State} {m : MethodId} {args : Array Value} {below : List Frame} {meth : Method} {c : Code} {D : va_G} {ad : Nat → Nat → Nat} {cy : Nat → ClassId} {A : Nat → Prop} {sa : Nat → Nat} {cells slots : Nat} {σ : St}
set_option maxRecDepth 100000 in
set_option maxHeartbeats 4000000 in
theorem lp_X0_nearest (C : Cx p l s m args meth c cX0_nearest "FretSchool$Hand" 7 (some .int) D ad cy A sa) {i b : Nat} {x1 x2 : Int32} {v : Nat → Nat} (e1 : x1 = nI i) (hi : i < 16) (e2 : x2 = nI b) (hb : b < 14) (hv : ∀ g, 1 ≤ g → g ≤ 13 → σ 10 i g = nI (v g) ∧ v g ≤ FARn) (hR : Rok R 1 2) (hcs : cells ≤ R.cells ∧ slots ≤ R.slots) : ∀ (f j : Nat) (x3 x4 x5 : Int32) (o6 : Option Value), x5 = nI (j + 1) → x3 = nI (am (fun g => sh b g + v g) j) → x4 = nI (mn (fun g => sh b g + v g) j) → j ≤ 13 → 13 < j + f → Z p l e R s m args below meth c D ad cy A 7 cells slots (MQ below (va_Qi (fun r σ' => r = nI (am (fun g => sh b g + v g) 13) ∧ σ = σ') (Bw D ad cy) A) args s cells slots A) σ [some (.ref (ad 6 0)), some (.int x1), some (.int x2), some (.int x3), some (.int x4), some (.int x5), o6] 9 [] := by
  intro f
  induction f with
  | zero => intro j x3 x4 x5 o6 _ _ _ _ h; exact absurd h (by omega)
  | succ f ih =>
    intro j x3 x4 x5 o6 e5 e3 e4 hj hf
    refine z_iload C dX0_nearest_9 rfl ?_
    refine z_bipush C (v := 13) dX0_nearest_11 (by decide) ?_
    refine z_icmp_gt C 54 dX0_nearest_13 (by decide) (fun c_13 => ?_) (fun c_13 => ?_)
    · have hj13 : j = 13 := by rw [e5, show (13 : Int32) = nI 13 from rfl, nI_ltI (by omega) (by omega)] at c_13; omega
      refine z_iload_n C dX0_nearest_54 rfl ?_
      refine z_iret C dX0_nearest_55 ?_
      refine ⟨?_, rfl⟩
      rw [e3, hj13]
    · have hj13 : j < 13 := by rw [e5, show (13 : Int32) = nI 13 from rfl, nI_ltI (by omega) (by omega)] at c_13; omega
      refine z_iload_n C dX0_nearest_16 rfl ?_
      refine z_iload C dX0_nearest_17 rfl ?_
      refine z_csi C (As := [_, _]) (c_X0_shift e2 e5 (by omega) (by omega)) okX0_shift wd413 hR hcs rfl (Nat.le_of_ble_eq_true rfl) dX0_nearest_19 ?_
      rintro _ _ ⟨rfl, rfl⟩
      refine z_aload_n C dX0_nearest_22 rfl ?_
      refine g_6_1 C wd139 dX0_nearest_23 ?_
      refine z_iload_n C dX0_nearest_26 rfl ?_
      refine a_8 C (by assumption) (by first | assumption | omega) dX0_nearest_27 ?_
      refine z_iload C dX0_nearest_28 rfl ?_
      refine a_10 (by first | assumption | omega) C (by assumption) (by first | assumption | omega) dX0_nearest_30 ?_
      refine z_iadd C dX0_nearest_31 ?_
      refine z_istore C dX0_nearest_32 (by decide) ?_
      dsimp only [List.set]
      refine z_iload C dX0_nearest_34 rfl ?_
      refine z_iload C dX0_nearest_36 rfl ?_
      refine z_icmp_ge C 48 dX0_nearest_38 (by decide) (fun c_38 => ?_) (fun c_38 => ?_)
      · have hv1 := hv (j + 1) (by omega) (by omega)
        have hs := sh_le (b := b) (h := j + 1) (by omega) (by omega)
        have hm := mn_le (fun g => sh b g + v g) j
        have hF : FARn = 1000000 := rfl
        have e6 : nI (sh b (j + 1)) + σ 10 i (j + 1) = nI ((fun g => sh b g + v g) (j + 1)) := by rw [hv1.1, nI_add]
        have hlt : mn (fun g => sh b g + v g) j ≤ (fun g => sh b g + v g) (j + 1) := by rw [e6, e4, nI_leI (by omega) (by show sh b (j + 1) + v (j + 1) < _; omega)] at c_38; exact c_38
        refine z_iinc C (v := 1) dX0_nearest_48 rfl (by decide) (by decide) ?_
        dsimp only [List.set]
        refine z_goto C 9 dX0_nearest_51 (by decide) ?_
        exact ih (j + 1) _ _ _ _ (by rw [e5]; exact nI_1 (j + 1)) (by rw [e3, (am_no hlt).1]) (by rw [e4, (am_no hlt).2]) (by omega) (by omega)
      · have hv1 := hv (j + 1) (by omega) (by omega)
        have hs := sh_le (b := b) (h := j + 1) (by omega) (by omega)
        have hm := mn_le (fun g => sh b g + v g) j
        have hF : FARn = 1000000 := rfl
        have e6 : nI (sh b (j + 1)) + σ 10 i (j + 1) = nI ((fun g => sh b g + v g) (j + 1)) := by rw [hv1.1, nI_add]
        have hlt : (fun g => sh b g + v g) (j + 1) < mn (fun g => sh b g + v g) j := by rw [e6, e4, nI_leI (by omega) (by show sh b (j + 1) + v (j + 1) < _; omega)] at c_38; omega
        refine z_iload C dX0_nearest_41 rfl ?_
        refine z_istore_n C dX0_nearest_43 (by decide) ?_
        dsimp only [List.set]
        refine z_iload C dX0_nearest_44 rfl ?_
        refine z_istore C dX0_nearest_46 (by decide) ?_
        dsimp only [List.set]
        refine z_iinc C (v := 1) dX0_nearest_48 rfl (by decide) (by decide) ?_
        dsimp only [List.set]
        refine z_goto C 9 dX0_nearest_51 (by decide) ?_
        exact ih (j + 1) _ _ _ _ (by rw [e5]; exact nI_1 (j + 1)) (by rw [e5, (am_yes hlt).1]) (by rw [e6, (am_yes hlt).2]) (by omega) (by omega)
end
set_option maxRecDepth 100000 in
set_option maxHeartbeats 4000000 in
theorem c_X0_nearest {l : Launch} {D : va_G} {ad : Nat → Nat → Nat} {cy : Nat → ClassId} {A : Nat → Prop} {sa : Nat → Nat} {σ : St} {i b : Nat} {x1 x2 : Int32} {v : Nat → Nat} (e1 : x1 = nI i) (hi : i < 16) (e2 : x2 = nI b) (hb : b < 14) (hv : ∀ g, 1 ≤ g → g ≤ 13 → σ 10 i g = nI (v g) ∧ v g ≤ FARn) : MI l D ad cy A sa yX0_nearest cX0_nearest 7 (some .int) 2 σ [.ref (ad 6 0), .int x1, .int x2] (fun r σ' => r = nI (am (fun g => sh b g + v g) 13) ∧ σ = σ') := by
  refine MI.mk "FretSchool$Hand" (by decide) rfl (Nat.le_of_ble_eq_true rfl) rfl ?_
  intro p e s m args below meth c C
  change Z _ _ _ _ _ _ _ _ _ _ _ _ _ _ _ _ _ _ _ [some (.ref (ad 6 0)), some (.int x1), some (.int x2), none, none, none, none] 0 []
  refine z_iconst C (v := 0) dX0_nearest_0 (by decide) ?_
  refine z_istore_n C dX0_nearest_1 (by decide) ?_
  dsimp only [List.set]
  refine z_ldc C (v := 1000000) wd412 dX0_nearest_2 ?_
  refine z_istore C dX0_nearest_4 (by decide) ?_
  dsimp only [List.set]
  refine z_iconst C (v := 1) dX0_nearest_6 (by decide) ?_
  refine z_istore C dX0_nearest_7 (by decide) ?_
  dsimp only [List.set]
  exact lp_X0_nearest C e1 hi e2 hb hv (rok (by decide) (by decide)) ⟨Nat.zero_le _, Nat.zero_le _⟩ 14 0 _ _ _ _ rfl rfl rfl (by omega) (by omega)
