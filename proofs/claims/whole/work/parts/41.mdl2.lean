/-! ===== the model: the best row ===== -/
theorem ix2 {a x y : Int32} {m i j : Nat} (ha : a = nI m) (hx : x = nI i) (hy : y = nI j) : a * x + y = nI (m * i + j) := by rw [ha, hx, hy, pk_mul, nI_add]
theorem lies_in {f h : Int32} : ¬ outR f h (h + 3) ↔ (¬ f < h ∧ ¬ h + 3 < f) := by
  rw [outR_gt]
  exact ⟨fun q => ⟨fun a => q (Or.inl a), fun a => q (Or.inr a)⟩, fun q a => a.elim q.1 q.2⟩
set_option maxRecDepth 100000 in
set_option maxHeartbeats 4000000 in
theorem c_X6_lies {l : Launch} {D : va_G} {ad : Nat → Nat → Nat} {cy : Nat → ClassId} {A : Nat → Prop} {sa : Nat → Nat} {σ : St} {g : St} {x1 x2 x3 x4 x5 : Int32} {j i q k h f : Nat} (hM : MRel g σ) (e1 : x1 = nI j) (hj : j < 8) (e2 : x2 = nI i) (hi : i < 16) (e3 : x3 = nI q) (hq : q < 8) (e4 : x4 = nI k) (hk : k < 4) (e5 : x5 = nI h) (hl : nI q < g 0 0 7) (hf : g 13 q 2 = nI f) (hf16 : f ≤ 16) (hh : h + 3 ≤ f) : MI l D ad cy A sa yX6_lies cX6_lies 7 (some .boolean) 1 σ [.ref (ad 17 0), .int x1, .int x2, .int x3, .int x4, .int x5] (fun r σ' => σ = σ' ∧ ((r = 1 ∧ lies (g 12 j i - g 14 q k) (nI h)) ∨ (r = 0 ∧ ¬ lies (g 12 j i - g 14 q k) (nI h)))) := by
  refine MI.mk "FretSchoolModel" (by decide) rfl (Nat.le_of_ble_eq_true rfl) rfl ?_
  intro p e s m args below meth c C
  change Z _ _ _ _ _ _ _ _ _ _ _ _ _ _ _ _ _ _ _ [some (.ref (ad 17 0)), some (.int x1), some (.int x2), some (.int x3), some (.int x4), some (.int x5), none] 0 []
  have ep : σ 19 0 (16 * j + i) = g 12 j i := hM.pit hj hi
  have eo : σ 22 0 (4 * q + k) = g 14 q k := hM.opn hq hk
  have ef : σ 21 0 q = nI f := (hM.fr hq hl).trans hf
  refine z_aload_n C dX6_lies_0 rfl ?_
  refine g_17_3 C wd588 dX6_lies_1 ?_
  refine z_bipush C (v := 16) dX6_lies_4 (by decide) ?_
  refine z_iload_n C dX6_lies_6 rfl ?_
  refine z_imul C dX6_lies_7 ?_
  refine z_iload_n C dX6_lies_8 rfl ?_
  refine z_iadd C dX6_lies_9 ?_
  refine a_19 C (ix2 (m := 16) (i := j) (j := i) rfl e1 e2) (by omega) dX6_lies_10 ?_
  refine z_aload_n C dX6_lies_11 rfl ?_
  refine g_17_7 C wd592 dX6_lies_12 ?_
  refine z_iconst C (v := 4) dX6_lies_15 (by decide) ?_
  refine z_iload_n C dX6_lies_16 rfl ?_
  refine z_imul C dX6_lies_17 ?_
  refine z_iload C dX6_lies_18 rfl ?_
  refine z_iadd C dX6_lies_20 ?_
  refine a_22 C (ix2 (m := 4) (i := q) (j := k) rfl e3 e4) (by omega) dX6_lies_21 ?_
  refine z_isub C dX6_lies_22 ?_
  refine z_istore C dX6_lies_23 (by decide) ?_
  dsimp only [List.set]
  refine z_iload C dX6_lies_25 rfl ?_
  refine z_if_eq C 55 dX6_lies_27 (by decide) (fun c_27 => ?_) (fun c_27 => ?_)
  · rw [ep, eo] at c_27
    refine z_iconst C (v := 1) dX6_lies_55 (by decide) ?_
    refine z_goto C 60 dX6_lies_56 (by decide) ?_
    refine z_zret C dX6_lies_60 (by first | exact Or.inl rfl | exact Or.inr rfl | assumption) ?_
    exact ⟨rfl, Or.inl ⟨rfl, Or.inl c_27⟩⟩
  · rw [ep, eo] at c_27
    refine z_iload C dX6_lies_30 rfl ?_
    refine z_iload C dX6_lies_32 rfl ?_
    refine z_iload C dX6_lies_34 rfl ?_
    refine z_iconst C (v := 3) dX6_lies_36 (by decide) ?_
    refine z_iadd C dX6_lies_37 ?_
    refine z_csi C (As := [_, _, _]) (c_X6_in) okX6_in wd664 (rok (by decide) (by decide)) ⟨Nat.le_of_ble_eq_true rfl, Nat.le_of_ble_eq_true rfl⟩ rfl (Nat.le_of_ble_eq_true rfl) dX6_lies_38 ?_
    rintro r38 _ ⟨rfl, h38⟩
    rw [ep, eo, e5] at h38
    refine z_if_eq C 59 dX6_lies_41 (by decide) (fun c_41 => ?_) (fun c_41 => ?_)
    · have hno : ¬ lies (g 12 j i - g 14 q k) (nI h) := fun a => a.elim c_27 (fun a => h38.elim (fun b => absurd (b.1.symm.trans c_41) (by decide)) (fun b => lies_in.mpr a b.2))
      refine z_iconst C (v := 0) dX6_lies_59 (by decide) ?_
      refine z_zret C dX6_lies_60 (by first | exact Or.inl rfl | exact Or.inr rfl | assumption) ?_
      exact ⟨rfl, Or.inr ⟨rfl, hno⟩⟩
    · have hb : ¬ outR (g 12 j i - g 14 q k) (nI h) (nI h + 3) := h38.elim (fun b => b.2) (fun b => absurd b.1 c_41)
      have hyes : lies (g 12 j i - g 14 q k) (nI h) := Or.inr (lies_in.mp hb)
      refine z_iload C dX6_lies_44 rfl ?_
      refine z_aload_n C dX6_lies_46 rfl ?_
      refine g_17_6 C wd591 dX6_lies_47 ?_
      refine z_iload_n C dX6_lies_50 rfl ?_
      refine a_21 C e3 (by omega) dX6_lies_51 ?_
      refine z_icmp_gt C 59 dX6_lies_52 (by decide) (fun c_52 => ?_) (fun c_52 => ?_)
      · rw [ep, eo, ef] at c_52
        have h3 : ¬ nI h + 3 < (g 12 j i - g 14 q k) := (lies_in.mp hb).2
        rw [show nI h + 3 = nI (h + 3) from nI_add h 3] at h3
        exfalso
        have a1 := Int32.not_lt.mp h3
        rw [Int32.le_iff_toInt_le, nI_toInt (by omega)] at a1
        rw [Int32.lt_iff_toInt_lt, nI_toInt (by omega)] at c_52
        omega
      · refine z_iconst C (v := 1) dX6_lies_55 (by decide) ?_
        refine z_goto C 60 dX6_lies_56 (by decide) ?_
        refine z_zret C dX6_lies_60 (by first | exact Or.inl rfl | exact Or.inr rfl | assumption) ?_
        exact ⟨rfl, Or.inl ⟨rfl, hyes⟩⟩
section
variable {p : Program} {l : Launch} {e : Env} {R : Room} {s : State} {m : MethodId} {args : Array Value} {below : List Frame} {meth : Method} {c : Code} {D : va_G} {ad : Nat → Nat → Nat} {cy : Nat → ClassId} {A : Nat → Prop} {sa : Nat → Nat} {cells slots : Nat} {σ : St}
set_option maxRecDepth 100000 in
set_option maxHeartbeats 4000000 in
theorem lp_X6_plays (C : Cx p l s m args meth c cX6_plays "FretSchoolModel" 7 (some .boolean) D ad cy A sa) {g : St} {x1 x2 x3 x4 : Int32} {j i q h f : Nat} (hM : MRel g σ) (e1 : x1 = nI j) (hj : j < 8) (e2 : x2 = nI i) (hi : i < 16) (e3 : x3 = nI q) (hq : q < 8) (e4 : x4 = nI h) (hl : nI q < g 0 0 7) (hf : g 13 q 2 = nI f) (hf16 : f ≤ 16) (h1 : 1 ≤ h) (hh : h + 3 ≤ f) : ∀ (fu t9 : Nat) (x5 x6 : Int32), x6 = nI t9 → ((x5 = 1 ∧ ∃ k, k < t9 ∧ lies (g 12 j i - g 14 q k) (nI h)) ∨ (x5 = 0 ∧ ∀ k, k < t9 → ¬ lies (g 12 j i - g 14 q k) (nI h))) → t9 ≤ 4 → 4 < t9 + fu → Z p l e (rmD 2 0) s m args below meth c D ad cy A 7 0 0 (MQ below (va_Qi (fun r σ' => σ = σ' ∧ ((r = 1 ∧ Pf g j q f i h = true) ∨ (r = 0 ∧ ¬ Pf g j q f i h = true))) (Bw D ad cy) A) args s 0 0 A) σ [some (.ref (ad 17 0)), some (.int x1), some (.int x2), some (.int x3), some (.int x4), some (.int x5), some (.int x6)] 6 [] := by
  intro fu
  induction fu with
  | zero => intro t9 x5 x6 _ _ _ h; exact absurd h (by omega)
  | succ fu ih =>
    intro t9 x5 x6 e6 h5 hm hfu
    have hz5 : x5 = 0 ∨ x5 = 1 := h5.elim (fun h => Or.inr h.1) (fun h => Or.inl h.1)
    refine z_iload C dX6_plays_6 rfl ?_
    refine z_iconst C (v := 4) dX6_plays_8 (by decide) ?_
    refine z_icmp_ge C 44 dX6_plays_9 (by decide) (fun c_9 => ?_) (fun c_9 => ?_)
    · have hm4 : 4 ≤ t9 := by rw [e6, show (4 : Int32) = nI 4 from rfl, nI_leI (by omega) (by omega)] at c_9; exact c_9
      refine z_iload C dX6_plays_44 rfl ?_
      refine z_zret C dX6_plays_46 (by first | exact Or.inl rfl | exact Or.inr rfl | assumption) ?_
      refine ⟨rfl, h5.elim (fun h => Or.inl ⟨h.1, Pf_iff.mpr ⟨h1, hh, lowS_iff.mpr ?_⟩⟩) (fun h => Or.inr ⟨h.1, fun a => ?_⟩)⟩
      · obtain ⟨k, hk, hl⟩ := h.2
        exact ⟨k, by omega, hl⟩
      · obtain ⟨k, hk, hl⟩ := lowS_iff.mp (Pf_iff.mp a).2.2
        exact h.2 k (by omega) hl
    · have hm4 : t9 < 4 := by rw [e6, show (4 : Int32) = nI 4 from rfl, nI_leI (by omega) (by omega)] at c_9; omega
      refine z_iload C dX6_plays_12 rfl ?_
      refine z_if_ne C 31 dX6_plays_14 (by decide) (fun c_14 => ?_) (fun c_14 => ?_)
      · refine z_iconst C (v := 1) dX6_plays_31 (by decide) ?_
        refine z_goto C 36 dX6_plays_32 (by decide) ?_
        refine z_istore C dX6_plays_36 (by decide) ?_
        dsimp only [List.set]
        refine z_iinc C (v := 1) dX6_plays_38 rfl (by decide) (by decide) ?_
        dsimp only [List.set]
        refine z_goto C 6 dX6_plays_41 (by decide) ?_
        exact ih (t9 + 1) _ _ (by rw [e6]; exact nI_1 t9) (Or.inl ⟨rfl, h5.elim (fun h => by obtain ⟨k, hk, hl⟩ := h.2; exact ⟨k, by omega, hl⟩) (fun h => absurd h.1 c_14)⟩) (by omega) (by omega)
      · refine z_aload_n C dX6_plays_17 rfl ?_
        refine z_iload_n C dX6_plays_18 rfl ?_
        refine z_iload_n C dX6_plays_19 rfl ?_
        refine z_iload_n C dX6_plays_20 rfl ?_
        refine z_iload C dX6_plays_21 rfl ?_
        refine z_iload C dX6_plays_23 rfl ?_
        refine z_cvi C (As := [_, _, _, _, _]) (c_X6_lies hM e1 hj e2 hi e3 hq e6 hm4 e4 hl hf hf16 hh) okX6_lies wd719 rc_17 (rok (by decide) (by decide)) ⟨Nat.le_of_ble_eq_true rfl, Nat.le_of_ble_eq_true rfl⟩ rfl (Nat.le_of_ble_eq_true rfl) dX6_plays_25 ?_
        rintro r25 _ ⟨rfl, h25⟩
        refine z_if_eq C 35 dX6_plays_28 (by decide) (fun c_28 => ?_) (fun c_28 => ?_)
        · refine z_iconst C (v := 0) dX6_plays_35 (by decide) ?_
          refine z_istore C dX6_plays_36 (by decide) ?_
          dsimp only [List.set]
          refine z_iinc C (v := 1) dX6_plays_38 rfl (by decide) (by decide) ?_
          dsimp only [List.set]
          refine z_goto C 6 dX6_plays_41 (by decide) ?_
          exact ih (t9 + 1) _ _ (by rw [e6]; exact nI_1 t9) (Or.inr ⟨rfl, fun k hk => (Nat.lt_or_ge k t9).elim (fun q2 => h5.elim (fun h => absurd (h.1.symm.trans c_14) (by decide)) (fun h => h.2 k q2)) (fun q2 => by rw [show k = t9 by omega]; exact h25.elim (fun h => absurd (h.1.symm.trans c_28) (by decide)) (fun h => h.2))⟩) (by omega) (by omega)
        · refine z_iconst C (v := 1) dX6_plays_31 (by decide) ?_
          refine z_goto C 36 dX6_plays_32 (by decide) ?_
          refine z_istore C dX6_plays_36 (by decide) ?_
          dsimp only [List.set]
          refine z_iinc C (v := 1) dX6_plays_38 rfl (by decide) (by decide) ?_
          dsimp only [List.set]
          refine z_goto C 6 dX6_plays_41 (by decide) ?_
          exact ih (t9 + 1) _ _ (by rw [e6]; exact nI_1 t9) (Or.inl ⟨rfl, t9, by omega, h25.elim (fun h => h.2) (fun h => absurd h.1 c_28)⟩) (by omega) (by omega)
end
set_option maxRecDepth 100000 in
set_option maxHeartbeats 4000000 in
theorem c_X6_plays {l : Launch} {D : va_G} {ad : Nat → Nat → Nat} {cy : Nat → ClassId} {A : Nat → Prop} {sa : Nat → Nat} {σ : St} {g : St} {x1 x2 x3 x4 : Int32} {j i q h f : Nat} (hM : MRel g σ) (e1 : x1 = nI j) (hj : j < 8) (e2 : x2 = nI i) (hi : i < 16) (e3 : x3 = nI q) (hq : q < 8) (e4 : x4 = nI h) (hl : nI q < g 0 0 7) (hf : g 13 q 2 = nI f) (hf16 : f ≤ 16) (h1 : 1 ≤ h) (hh : h + 3 ≤ f) : MI l D ad cy A sa yX6_plays cX6_plays 7 (some .boolean) 2 σ [.ref (ad 17 0), .int x1, .int x2, .int x3, .int x4] (fun r σ' => σ = σ' ∧ ((r = 1 ∧ Pf g j q f i h = true) ∨ (r = 0 ∧ ¬ Pf g j q f i h = true))) := by
  refine MI.mk "FretSchoolModel" (by decide) rfl (Nat.le_of_ble_eq_true rfl) rfl ?_
  intro p e s m args below meth c C
  change Z _ _ _ _ _ _ _ _ _ _ _ _ _ _ _ _ _ _ _ [some (.ref (ad 17 0)), some (.int x1), some (.int x2), some (.int x3), some (.int x4), none, none] 0 []
  refine z_iconst C (v := 0) dX6_plays_0 (by decide) ?_
  refine z_istore C dX6_plays_1 (by decide) ?_
  dsimp only [List.set]
  refine z_iconst C (v := 0) dX6_plays_3 (by decide) ?_
  refine z_istore C dX6_plays_4 (by decide) ?_
  dsimp only [List.set]
  exact lp_X6_plays C hM e1 hj e2 hi e3 hq e4 hl hf hf16 h1 hh 5 0 _ _ nI_0.symm (Or.inr ⟨rfl, fun k hk => absurd hk (by omega)⟩) (by omega) (by omega)
set_option maxRecDepth 100000 in
set_option maxHeartbeats 4000000 in
theorem c_X6_apart {l : Launch} {D : va_G} {ad : Nat → Nat → Nat} {cy : Nat → ClassId} {A : Nat → Prop} {sa : Nat → Nat} {σ : St} {x y : Int32} {a b : Nat} (ex : x = nI a) (ey : y = nI b) (ha1 : 1 ≤ a) (ha : a < 14) (hb : b < 14) : MI l D ad cy A sa yX6_apart cX6_apart 2 (some .int) 0 σ [.int x, .int y] (fun r σ' => r = nI (sh a b) ∧ σ = σ') := by
  refine MI.mk "FretSchoolModel" (by decide) rfl (Nat.le_of_ble_eq_true rfl) rfl ?_
  intro p e s m args below meth c C
  change Z _ _ _ _ _ _ _ _ _ _ _ _ _ _ _ _ _ _ _ [some (.int x), some (.int y)] 0 []
  refine z_iload_n C dX6_apart_0 rfl ?_
  refine z_iload_n C dX6_apart_1 rfl ?_
  refine z_icmp_ge C 11 dX6_apart_2 (by decide) (fun c_2 => ?_) (fun c_2 => ?_)
  · have hab : b ≤ a := by rw [ex, ey, nI_leI (by omega) (by omega)] at c_2; exact c_2
    refine z_iload_n C dX6_apart_11 rfl ?_
    refine z_iload_n C dX6_apart_12 rfl ?_
    refine z_isub C dX6_apart_13 ?_
    refine z_iret C dX6_apart_14 ?_
    refine ⟨?_, rfl⟩
    unfold sh
    rw [if_neg (by omega), ex, ey, pk_sub (by omega)]
    by_cases q : a ≤ b
    · rw [if_pos q, show a = b by omega]
    · rw [if_neg q]
  · have hab : ¬ b ≤ a := by rw [ex, ey, nI_leI (by omega) (by omega)] at c_2; exact c_2
    refine z_iload_n C dX6_apart_5 rfl ?_
    refine z_iload_n C dX6_apart_6 rfl ?_
    refine z_isub C dX6_apart_7 ?_
    refine z_goto C 14 dX6_apart_8 (by decide) ?_
    refine z_iret C dX6_apart_14 ?_
    refine ⟨?_, rfl⟩
    unfold sh
    rw [if_neg (by omega), ex, ey, pk_sub (by omega)]
    rw [if_pos (by omega)]
theorem VR_0 {P : Nat → Nat → Bool} {n i h : Nat} (hn : ¬ i + 1 < n) (hp : P i h = true) : VR P (n - 1 - i) i h = 0 := by
  rw [show n - 1 - i = 0 by omega]
  exact VR_last hp
theorem VR_1 {P : Nat → Nat → Bool} {n i h : Nat} (hn : i + 1 < n) (hp : P i h = true) : VR P (n - 1 - i) i h = mn (fun g => sh h g + VR P (n - 1 - (i + 1)) (i + 1) g) 13 := by
  rw [show n - 1 - i = (n - 1 - (i + 1)) + 1 by omega]
  exact VR_more hp
theorem mn_top {g : St} {j q i k h f0 : Nat} (hf : f0 ≤ 16) (h4 : 4 ≤ f0) : mn (fun g1 => sh h g1 + VR (Pf g j q f0) k i g1) 13 = mn (fun g1 => sh h g1 + VR (Pf g j q f0) k i g1) (f0 - 3) := by
  have e : 13 = f0 - 3 + (13 - (f0 - 3)) := by omega
  have hc := (mn_cut (f := fun g1 => sh h g1 + VR (Pf g j q f0) k i g1) (a := f0 - 3) (n := 13 - (f0 - 3)) (fun k2 a1 a2 => by
    have : VR (Pf g j q f0) k i k2 = FARn := VR_no (fun q2 => by have := (Pf_iff.mp q2).2.1; omega)
    show FARn ≤ sh h k2 + VR (Pf g j q f0) k i k2
    omega)).1
  rw [← e] at hc
  exact hc
section
variable {p : Program} {l : Launch} {e : Env} {R : Room} {s : State} {m : MethodId} {args : Array Value} {below : List Frame} {meth : Method} {c : Code} {D : va_G} {ad : Nat → Nat → Nat} {cy : Nat → ClassId} {A : Nat → Prop} {sa : Nat → Nat} {cells slots : Nat} {σ : St}
set_option maxRecDepth 100000 in
set_option maxHeartbeats 4000000 in
theorem lp_X6_from (C : Cx p l s m args meth c cX6_from "FretSchoolModel" 8 (some .int) D ad cy A sa) {g : St} {x1 x2 x3 x4 : Int32} {j i q h : Nat} (hM : MRel g σ) (hI : Inv g) (e1 : x1 = nI j) (hj : j < 8) (e2 : x2 = nI i) (hi : i < cN g j) (e3 : x3 = nI q) (hq : q < 8) (e4 : x4 = nI h) (hl : nI q < g 0 0 7) (h1 : 1 ≤ h) (hh : h + 3 ≤ fN g q) (hnx : i + 1 < cN g j → ∀ g1, 1 ≤ g1 → g1 + 3 ≤ fN g q → σ 30 0 (14 * (i + 1) + g1) = nI (VR (PFs g j q) (cN g j - 1 - (i + 1)) (i + 1) g1)) {F : Nat → Nat} {M : Nat} (hF0 : ∀ g1, F g1 = sh h g1 + VR (PFs g j q) (cN g j - 1 - (i + 1)) (i + 1) g1) (hM0 : M = mn F (fN g q - 3)) (hi1 : i + 1 < cN g j) : ∀ (fu t9 : Nat) (x5 x6 : Int32) (o7 : Option Value), x6 = nI (t9 + 1) → x5 = nI (mn F t9) → t9 + 3 ≤ fN g q → fN g q < t9 + 3 + fu → Z p l e (rmD 3 0) s m args below meth c D ad cy A 8 0 0 (MQ below (va_Qi (fun r σ' => r = nI M ∧ σ = σ') (Bw D ad cy) A) args s 0 0 A) σ [some (.ref (ad 17 0)), some (.int x1), some (.int x2), some (.int x3), some (.int x4), some (.int x5), some (.int x6), o7] 38 [] := by
  have em : σ 18 0 j = nI (cN g j) := (hM.many hj).trans (hI.2.2.2.1 j hj).1
  have hc16 := (hI.2.2.2.1 j hj).2
  obtain ⟨eff, hf4, hf16⟩ := hI.fr hq hl
  have ef : σ 21 0 q = nI (fN g q) := (hM.fr hq hl).trans eff
  have efm : nI (fN g q) - 3 = nI (fN g q - 3) := by rw [show (3 : Int32) = nI 3 from rfl, pk_sub (by omega)]
  intro fu
  induction fu with
  | zero => intro t9 x5 x6 o7 _ _ _ h; exact absurd h (by omega)
  | succ fu ih =>
    intro t9 x5 x6 o7 e6 e5 hm hfu
    have hml := mn_le F t9
    have hFAR : FARn = 1000000 := rfl
    refine z_iload_n C dX6_from_38 rfl ?_
    refine z_iconst C (v := 1) dX6_from_39 (by decide) ?_
    refine z_iadd C dX6_from_40 ?_
    refine z_aload_n C dX6_from_41 rfl ?_
    refine g_17_2 C wd587 dX6_from_42 ?_
    refine z_iload_n C dX6_from_45 rfl ?_
    refine a_18 C e1 (by omega) dX6_from_46 ?_
    refine z_icmp_ge C 109 dX6_from_47 (by decide) (fun c_47 => ?_) (fun c_47 => ?_)
    · rw [em, e2, nI_1, nI_leI (by omega) (by omega)] at c_47
      omega
    · refine z_iload C dX6_from_50 rfl ?_
      refine z_aload_n C dX6_from_52 rfl ?_
      refine g_17_6 C wd591 dX6_from_53 ?_
      refine z_iload_n C dX6_from_56 rfl ?_
      refine a_21 C e3 (by omega) dX6_from_57 ?_
      refine z_iconst C (v := 3) dX6_from_58 (by decide) ?_
      refine z_isub C dX6_from_59 ?_
      refine z_icmp_gt C 109 dX6_from_60 (by decide) (fun c_60 => ?_) (fun c_60 => ?_)
      · have hmf : fN g q - 3 < t9 + 1 := by rw [ef, efm, e6, nI_ltI (by omega) (by omega)] at c_60; exact c_60
        refine z_iload C dX6_from_109 rfl ?_
        refine z_ldc C (v := 1000000) wd723 dX6_from_111 ?_
        refine z_icmp_le C 121 dX6_from_113 (by decide) (fun c_113 => ?_) (fun c_113 => ?_)
        · refine z_iload C dX6_from_121 rfl ?_
          refine z_iret C dX6_from_123 ?_
          refine ⟨?_, rfl⟩
          rw [e5, hM0, show t9 = fN g q - 3 by omega]
        · rw [e5, nI_FAR, nI_leI (by omega) (by omega)] at c_113
          omega
      · have hmf : ¬ fN g q - 3 < t9 + 1 := by rw [ef, efm, e6, nI_ltI (by omega) (by omega)] at c_60; exact c_60
        have hs := sh_le (b := h) (h := t9 + 1) (by omega) (by omega)
        have hv := VR_le (PFs g j q) (cN g j - 1 - (i + 1)) (i + 1) (t9 + 1)
        refine z_iload C dX6_from_63 rfl ?_
        refine z_iload C dX6_from_65 rfl ?_
        refine z_csi C (As := [_, _]) (c_X6_apart e4 e6 h1 (by omega) (by omega)) okX6_apart wd724 (rok (by decide) (by decide)) ⟨Nat.le_of_ble_eq_true rfl, Nat.le_of_ble_eq_true rfl⟩ rfl (Nat.le_of_ble_eq_true rfl) dX6_from_67 ?_
        rintro _ _ ⟨rfl, rfl⟩
        refine z_aload_n C dX6_from_70 rfl ?_
        refine g_17_16 C wd601 dX6_from_71 ?_
        refine z_bipush C (v := 14) dX6_from_74 (by decide) ?_
        refine z_iload_n C dX6_from_76 rfl ?_
        refine z_iconst C (v := 1) dX6_from_77 (by decide) ?_
        refine z_iadd C dX6_from_78 ?_
        refine z_imul C dX6_from_79 ?_
        refine z_iload C dX6_from_80 rfl ?_
        refine z_iadd C dX6_from_82 ?_
        refine a_30 C (ix2 (m := 14) (i := i + 1) (j := t9 + 1) rfl (by rw [e2]; exact nI_1 i) e6) (by omega) dX6_from_83 ?_
        refine z_iadd C dX6_from_84 ?_
        refine z_istore C dX6_from_85 (by decide) ?_
        dsimp only [List.set]
        refine z_iload C dX6_from_87 rfl ?_
        refine z_iload C dX6_from_89 rfl ?_
        refine z_icmp_ge C 99 dX6_from_91 (by decide) (fun c_91 => ?_) (fun c_91 => ?_)
        · have hlt : mn F t9 ≤ F (t9 + 1) := by
            rw [hnx hi1 (t9 + 1) (by omega) (by omega), nI_add, e5, nI_leI (by omega) (by omega), ← hF0] at c_91
            exact c_91
          refine z_iload C dX6_from_99 rfl ?_
          refine z_istore C dX6_from_101 (by decide) ?_
          dsimp only [List.set]
          refine z_iinc C (v := 1) dX6_from_103 rfl (by decide) (by decide) ?_
          dsimp only [List.set]
          refine z_goto C 38 dX6_from_106 (by decide) ?_
          exact ih (t9 + 1) _ _ _ (by rw [e6]; exact nI_1 (t9 + 1)) (by rw [e5, (am_no hlt).2]) (by omega) (by omega)
        · have hlt : F (t9 + 1) < mn F t9 := by
            rw [hnx hi1 (t9 + 1) (by omega) (by omega), nI_add, e5, nI_leI (by omega) (by omega), ← hF0] at c_91
            omega
          refine z_iload C dX6_from_94 rfl ?_
          refine z_goto C 101 dX6_from_96 (by decide) ?_
          refine z_istore C dX6_from_101 (by decide) ?_
          dsimp only [List.set]
          refine z_iinc C (v := 1) dX6_from_103 rfl (by decide) (by decide) ?_
          dsimp only [List.set]
          refine z_goto C 38 dX6_from_106 (by decide) ?_
          exact ih (t9 + 1) _ _ _ (by rw [e6]; exact nI_1 (t9 + 1)) (by rw [(am_yes hlt).2, hF0, hnx hi1 (t9 + 1) (by omega) (by omega), nI_add]) (by omega) (by omega)
end
set_option maxRecDepth 100000 in
set_option maxHeartbeats 4000000 in
theorem c_X6_from {l : Launch} {D : va_G} {ad : Nat → Nat → Nat} {cy : Nat → ClassId} {A : Nat → Prop} {sa : Nat → Nat} {σ : St} {g : St} {x1 x2 x3 x4 : Int32} {j i q h : Nat} (hM : MRel g σ) (hI : Inv g) (e1 : x1 = nI j) (hj : j < 8) (e2 : x2 = nI i) (hi : i < cN g j) (e3 : x3 = nI q) (hq : q < 8) (e4 : x4 = nI h) (hl : nI q < g 0 0 7) (h1 : 1 ≤ h) (hh : h + 3 ≤ fN g q) (hnx : i + 1 < cN g j → ∀ g1, 1 ≤ g1 → g1 + 3 ≤ fN g q → σ 30 0 (14 * (i + 1) + g1) = nI (VR (PFs g j q) (cN g j - 1 - (i + 1)) (i + 1) g1)) : MI l D ad cy A sa yX6_from cX6_from 8 (some .int) 3 σ [.ref (ad 17 0), .int x1, .int x2, .int x3, .int x4] (fun r σ' => r = nI (VR (PFs g j q) (cN g j - 1 - i) i h) ∧ σ = σ') := by
  refine MI.mk "FretSchoolModel" (by decide) rfl (Nat.le_of_ble_eq_true rfl) rfl ?_
  intro p e s m args below meth c C
  change Z _ _ _ _ _ _ _ _ _ _ _ _ _ _ _ _ _ _ _ [some (.ref (ad 17 0)), some (.int x1), some (.int x2), some (.int x3), some (.int x4), none, none, none] 0 []
  have em : σ 18 0 j = nI (cN g j) := (hM.many hj).trans (hI.2.2.2.1 j hj).1
  have hc16 := (hI.2.2.2.1 j hj).2
  obtain ⟨eff, hf4, hf16⟩ := hI.fr hq hl
  have ef : σ 21 0 q = nI (fN g q) := (hM.fr hq hl).trans eff
  have efm : nI (fN g q) - 3 = nI (fN g q - 3) := by rw [show (3 : Int32) = nI 3 from rfl, pk_sub (by omega)]
  have hFAR : FARn = 1000000 := rfl
  refine z_aload_n C dX6_from_0 rfl ?_
  refine z_iload_n C dX6_from_1 rfl ?_
  refine z_iload_n C dX6_from_2 rfl ?_
  refine z_iload_n C dX6_from_3 rfl ?_
  refine z_iload C dX6_from_4 rfl ?_
  refine z_cvi C (As := [_, _, _, _]) (c_X6_plays hM e1 hj e2 (by omega) e3 hq e4 hl eff hf16 h1 hh) okX6_plays wd715 rc_17 (rok (by decide) (by decide)) ⟨Nat.le_of_ble_eq_true rfl, Nat.le_of_ble_eq_true rfl⟩ rfl (Nat.le_of_ble_eq_true rfl) dX6_from_6 ?_
  rintro r6 _ ⟨rfl, h6⟩
  refine z_if_ne C 15 dX6_from_9 (by decide) (fun c_9 => ?_) (fun c_9 => ?_)
  · have hp : PFs g j q i h = true := h6.elim (fun a => a.2) (fun a => absurd a.1 c_9)
    refine z_iload_n C dX6_from_15 rfl ?_
    refine z_iconst C (v := 1) dX6_from_16 (by decide) ?_
    refine z_iadd C dX6_from_17 ?_
    refine z_aload_n C dX6_from_18 rfl ?_
    refine g_17_2 C wd587 dX6_from_19 ?_
    refine z_iload_n C dX6_from_22 rfl ?_
    refine a_18 C e1 (by omega) dX6_from_23 ?_
    refine z_icmp_ge C 32 dX6_from_24 (by decide) (fun c_24 => ?_) (fun c_24 => ?_)
    · have hi1 : ¬ i + 1 < cN g j := by rw [em, e2, nI_1, nI_leI (by omega) (by omega)] at c_24; omega
      refine z_iconst C (v := 0) dX6_from_32 (by decide) ?_
      refine z_istore C dX6_from_33 (by decide) ?_
      dsimp only [List.set]
      refine z_iconst C (v := 1) dX6_from_35 (by decide) ?_
      refine z_istore C dX6_from_36 (by decide) ?_
      dsimp only [List.set]
      refine z_iload_n C dX6_from_38 rfl ?_
      refine z_iconst C (v := 1) dX6_from_39 (by decide) ?_
      refine z_iadd C dX6_from_40 ?_
      refine z_aload_n C dX6_from_41 rfl ?_
      refine g_17_2 C wd587 dX6_from_42 ?_
      refine z_iload_n C dX6_from_45 rfl ?_
      refine a_18 C e1 (by omega) dX6_from_46 ?_
      refine z_icmp_ge C 109 dX6_from_47 (by decide) (fun c_47 => ?_) (fun c_47 => ?_)
      · refine z_iload C dX6_from_109 rfl ?_
        refine z_ldc C (v := 1000000) wd723 dX6_from_111 ?_
        refine z_icmp_le C 121 dX6_from_113 (by decide) (fun c_113 => ?_) (fun c_113 => ?_)
        · refine z_iload C dX6_from_121 rfl ?_
          refine z_iret C dX6_from_123 ?_
          refine ⟨?_, rfl⟩
          rw [VR_0 hi1 hp]
          rfl
        · exact absurd c_113 (by decide)
      · exact absurd c_24 c_47
    · have hi1 : i + 1 < cN g j := by rw [em, e2, nI_1, nI_leI (by omega) (by omega)] at c_24; omega
      refine z_ldc C (v := 1000000) wd723 dX6_from_27 ?_
      refine z_goto C 33 dX6_from_29 (by decide) ?_
      refine z_istore C dX6_from_33 (by decide) ?_
      dsimp only [List.set]
      refine z_iconst C (v := 1) dX6_from_35 (by decide) ?_
      refine z_istore C dX6_from_36 (by decide) ?_
      dsimp only [List.set]
      exact lp_X6_from C hM hI e1 hj e2 hi e3 hq e4 hl h1 hh hnx (F := fun g1 => sh h g1 + VR (PFs g j q) (cN g j - 1 - (i + 1)) (i + 1) g1) (fun _ => rfl) ((VR_1 hi1 hp).trans (mn_top hf16 hf4)) hi1 20 0 _ _ _ rfl rfl (by omega) (by omega)
  · have hp : ¬ PFs g j q i h = true := h6.elim (fun a => absurd (a.1.symm.trans c_9) (by decide)) (fun a => a.2)
    refine z_ldc C (v := 1000000) wd723 dX6_from_12 ?_
    refine z_iret C dX6_from_14 ?_
    refine ⟨?_, rfl⟩
    rw [VR_no hp]
    rfl
