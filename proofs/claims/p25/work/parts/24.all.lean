/-! ===== all fingerings ===== -/
theorem LF_succ {P : Nat → Nat → Bool} {k i b : Nat} : LF P (k + 1) i b = mn (fun g => if P i g = true then sh b g + LF P k (i + 1) g else FARn) 13 := rfl
theorem LF_le (P : Nat → Nat → Bool) (k i b : Nat) : LF P k i b ≤ FARn := by
  cases k with
  | zero => show 0 ≤ FARn; exact Nat.zero_le _
  | succ k => exact mn_le _ _
section
variable {p : Program} {l : Launch} {e : Env} {R : Room} {s : State} {m : MethodId} {args : Array Value} {below : List Frame} {meth : Method} {c : Code} {D : va_G} {ad : Nat → Nat → Nat} {cy : Nat → ClassId} {A : Nat → Prop} {sa : Nat → Nat} {cells slots : Nat} {σ : St}
set_option maxRecDepth 100000 in
set_option maxHeartbeats 4000000 in
theorem lp_X0_leastFrom (C : Cx p l s m args meth c cX0_leastFrom "FretSchool$Hand" 7 (some .int) D ad cy A sa) {n i b k : Nat} {x1 x2 x3 : Int32} {P : Nat → Nat → Bool} (e1 : x1 = nI n) (e2 : x2 = nI i) (e3 : x3 = nI b) (hn : n ≤ 4) (hb : b < 14) (hk : n = i + (k + 1)) (hR : ∀ i, i < n → ∀ h, 1 ≤ h → h ≤ 13 → (σ 7 0 i &&& (1 <<< (nI h &&& 31)) = 0 ↔ ¬ P i h = true)) {F : Nat → Nat} {M : Nat} (hF0 : ∀ g, F g = if P i g = true then sh b g + LF P k (i + 1) g else FARn) (hM : M = mn F 13) (rec : ∀ (g : Nat) (y : Int32), y = nI g → g < 14 → MI l D ad cy A sa yX0_leastFrom cX0_leastFrom 7 (some .int) (2 + k) σ [.ref (ad 7 0), .int x1, .int (x2 + 1), .int y] (fun r σ' => r = nI (LF P k (i + 1) g) ∧ σ = σ')) : ∀ (f j : Nat) (x4 x5 : Int32) (o6 : Option Value), x5 = nI (j + 1) → x4 = nI (mn F j) → j ≤ 13 → 13 < j + f → Z p l e (rmD (2 + (k + 1)) 0) s m args below meth c D ad cy A 7 0 0 (MQ below (va_Qi (fun r σ' => r = nI M ∧ σ = σ') (Bw D ad cy) A) args s 0 0 A) σ [some (.ref (ad 7 0)), some (.int x1), some (.int x2), some (.int x3), some (.int x4), some (.int x5), o6] 19 [] := by
  intro f
  induction f with
  | zero => intro j x4 x5 o6 _ _ _ h; exact absurd h (by omega)
  | succ f ih =>
    intro j x4 x5 o6 e5 e4 hj hf
    refine z_iload C dX0_leastFrom_19 rfl ?_
    refine z_bipush C (v := 13) dX0_leastFrom_21 (by decide) ?_
    refine z_icmp_gt C 78 dX0_leastFrom_23 (by decide) (fun c_23 => ?_) (fun c_23 => ?_)
    · have hj13 : j = 13 := by rw [e5, show (13 : Int32) = nI 13 from rfl, nI_ltI (by omega) (by omega)] at c_23; omega
      refine z_iload C dX0_leastFrom_78 rfl ?_
      refine z_iret C dX0_leastFrom_80 ?_
      refine ⟨?_, rfl⟩
      rw [e4, hj13, ← hM]
    · have hj13 : j < 13 := by rw [e5, show (13 : Int32) = nI 13 from rfl, nI_ltI (by omega) (by omega)] at c_23; omega
      have hRj : (σ 7 0 i &&& (1 <<< (x5 &&& 31)) = 0 ↔ ¬ P i (j + 1) = true) := by rw [e5]; exact hR i (by omega) (j + 1) (by omega) (by omega)
      have hm := mn_le F j
      have hFAR : FARn = 1000000 := rfl
      refine z_aload_n C dX0_leastFrom_26 rfl ?_
      refine z_iload_n C dX0_leastFrom_27 rfl ?_
      refine a_7 C e2 (by omega) dX0_leastFrom_28 ?_
      refine z_iload C dX0_leastFrom_29 rfl ?_
      refine z_csi C (As := [_, _]) (c_X0_canReach) okX0_canReach wd324 (rok (by omega) (by decide)) ⟨Nat.le_of_ble_eq_true rfl, Nat.le_of_ble_eq_true rfl⟩ rfl (Nat.le_of_ble_eq_true rfl) dX0_leastFrom_31 ?_
      rintro r31 _ ⟨e31, rfl⟩
      refine z_if_eq C 72 dX0_leastFrom_34 (by decide) (fun c_34 => ?_) (fun c_34 => ?_)
      · have hp : ¬ P i (j + 1) = true := by
          apply hRj.mp
          apply Classical.byContradiction
          intro q
          rw [e31, if_neg q] at c_34
          exact absurd c_34 (by decide)
        have hF : F (j + 1) = FARn := by rw [hF0, if_neg hp]
        refine z_iinc C (v := 1) dX0_leastFrom_72 rfl (by decide) (by decide) ?_
        dsimp only [List.set]
        refine z_goto C 19 dX0_leastFrom_75 (by decide) ?_
        exact ih (j + 1) _ _ _ (by rw [e5]; exact nI_1 (j + 1)) (by rw [e4, (am_no (F := F) (n := j) (by rw [hF]; exact hm)).2]) (by omega) (by omega)
      · have hp : P i (j + 1) = true := by
          apply Classical.byContradiction
          intro q
          rw [e31, if_pos (hRj.mpr q)] at c_34
          exact c_34 rfl
        have hF : F (j + 1) = sh b (j + 1) + LF P k (i + 1) (j + 1) := by rw [hF0, if_pos hp]
        refine z_iload_n C dX0_leastFrom_37 rfl ?_
        refine z_iload C dX0_leastFrom_38 rfl ?_
        refine z_csi C (As := [_, _]) (c_X0_shift e3 e5 (by omega) (by omega)) okX0_shift wd318 (rok (by omega) (by decide)) ⟨Nat.le_of_ble_eq_true rfl, Nat.le_of_ble_eq_true rfl⟩ rfl (Nat.le_of_ble_eq_true rfl) dX0_leastFrom_40 ?_
        rintro r40 _ ⟨e40, rfl⟩
        refine z_aload_n C dX0_leastFrom_43 rfl ?_
        refine z_iload_n C dX0_leastFrom_44 rfl ?_
        refine z_iload_n C dX0_leastFrom_45 rfl ?_
        refine z_iconst C (v := 1) dX0_leastFrom_46 (by decide) ?_
        refine z_iadd C dX0_leastFrom_47 ?_
        refine z_iload C dX0_leastFrom_48 rfl ?_
        refine z_csi C (As := [_, _, _, _]) (rec (j + 1) _ e5 (by omega)) okX0_leastFrom wd440 (rok (by omega) (by decide)) ⟨Nat.le_of_ble_eq_true rfl, Nat.le_of_ble_eq_true rfl⟩ rfl (Nat.le_of_ble_eq_true rfl) dX0_leastFrom_50 ?_
        rintro r50 _ ⟨e50, rfl⟩
        refine z_iadd C dX0_leastFrom_53 ?_
        refine z_istore C dX0_leastFrom_54 (by decide) ?_
        dsimp only [List.set]
        refine z_iload C dX0_leastFrom_56 rfl ?_
        refine z_iload C dX0_leastFrom_58 rfl ?_
        refine z_icmp_ge C 68 dX0_leastFrom_60 (by decide) (fun c_60 => ?_) (fun c_60 => ?_)
        · have hlt : mn F j ≤ F (j + 1) := by
            rw [hF]
            have hs := sh_le (b := b) (h := j + 1) (by omega) (by omega)
            have hl := LF_le P k (i + 1) (j + 1)
            rw [e40, e50, nI_add, e4, nI_leI (by omega) (by omega)] at c_60
            exact c_60
          refine z_iload C dX0_leastFrom_68 rfl ?_
          refine z_istore C dX0_leastFrom_70 (by decide) ?_
          dsimp only [List.set]
          refine z_iinc C (v := 1) dX0_leastFrom_72 rfl (by decide) (by decide) ?_
          dsimp only [List.set]
          refine z_goto C 19 dX0_leastFrom_75 (by decide) ?_
          exact ih (j + 1) _ _ _ (by rw [e5]; exact nI_1 (j + 1)) (by rw [e4, (am_no hlt).2]) (by omega) (by omega)
        · have hlt : F (j + 1) < mn F j := by
            rw [hF]
            have hs := sh_le (b := b) (h := j + 1) (by omega) (by omega)
            have hl := LF_le P k (i + 1) (j + 1)
            rw [e40, e50, nI_add, e4, nI_leI (by omega) (by omega)] at c_60
            omega
          refine z_iload C dX0_leastFrom_63 rfl ?_
          refine z_goto C 70 dX0_leastFrom_65 (by decide) ?_
          refine z_istore C dX0_leastFrom_70 (by decide) ?_
          dsimp only [List.set]
          refine z_iinc C (v := 1) dX0_leastFrom_72 rfl (by decide) (by decide) ?_
          dsimp only [List.set]
          refine z_goto C 19 dX0_leastFrom_75 (by decide) ?_
          exact ih (j + 1) _ _ _ (by rw [e5]; exact nI_1 (j + 1)) (by rw [(am_yes hlt).2, hF, e40, e50, nI_add]) (by omega) (by omega)
end
set_option maxRecDepth 100000 in
set_option maxHeartbeats 4000000 in
theorem c_X0_leastFrom {l : Launch} {D : va_G} {ad : Nat → Nat → Nat} {cy : Nat → ClassId} {A : Nat → Prop} {sa : Nat → Nat} {σ : St} {n : Nat} {P : Nat → Nat → Bool} (hn : n ≤ 4) (hR : ∀ i, i < n → ∀ h, 1 ≤ h → h ≤ 13 → (σ 7 0 i &&& (1 <<< (nI h &&& 31)) = 0 ↔ ¬ P i h = true)) {x1 : Int32} (e1 : x1 = nI n) : ∀ (k : Nat) {i b : Nat} {x2 x3 : Int32}, x1 = x1 → x2 = nI i → x3 = nI b → b < 14 → n = i + k → MI l D ad cy A sa yX0_leastFrom cX0_leastFrom 7 (some .int) (2 + k) σ [.ref (ad 7 0), .int x1, .int x2, .int x3] (fun r σ' => r = nI (LF P k i b) ∧ σ = σ') := by
  intro k
  induction k with
  | zero =>
    intro i b x2 x3 _ e2 e3 hb hk
    refine MI.mk "FretSchool$Hand" (by decide) rfl (Nat.le_of_ble_eq_true rfl) rfl ?_
    intro p e s m args below meth c C
    change Z _ _ _ _ _ _ _ _ _ _ _ _ _ _ _ _ _ _ _ [some (.ref (ad 7 0)), some (.int x1), some (.int x2), some (.int x3), none, none, none] 0 []
    refine z_iload_n C dX0_leastFrom_0 rfl ?_
    refine z_iload_n C dX0_leastFrom_1 rfl ?_
    refine z_icmp_ge C 10 dX0_leastFrom_2 (by decide) (fun c_2 => ?_) (fun c_2 => ?_)
    rotate_left
    · exact absurd (by rw [e1, e2, nI_leI (by omega) (by omega)]; omega) c_2
    refine z_iconst C (v := 0) dX0_leastFrom_10 (by decide) ?_
    refine z_iret C dX0_leastFrom_11 ?_
    exact ⟨rfl, rfl⟩
  | succ k ih =>
    intro i b x2 x3 _ e2 e3 hb hk
    refine MI.mk "FretSchool$Hand" (by decide) rfl (Nat.le_of_ble_eq_true rfl) rfl ?_
    intro p e s m args below meth c C
    change Z _ _ _ _ _ _ _ _ _ _ _ _ _ _ _ _ _ _ _ [some (.ref (ad 7 0)), some (.int x1), some (.int x2), some (.int x3), none, none, none] 0 []
    refine z_iload_n C dX0_leastFrom_0 rfl ?_
    refine z_iload_n C dX0_leastFrom_1 rfl ?_
    refine z_icmp_ge C 10 dX0_leastFrom_2 (by decide) (fun c_2 => ?_) (fun c_2 => ?_)
    · rw [e1, e2, nI_leI (by omega) (by omega)] at c_2; omega
    refine z_iload_n C dX0_leastFrom_5 rfl ?_
    refine z_iconst C (v := 4) dX0_leastFrom_6 (by decide) ?_
    refine z_icmp_lt C 12 dX0_leastFrom_7 (by decide) (fun c_7 => ?_) (fun c_7 => ?_)
    rotate_left
    · exact absurd (by rw [e2]; exact nI_lt (b := 4) (by omega) (by decide)) c_7
    refine z_ldc C (v := 1000000) wd317 dX0_leastFrom_12 ?_
    refine z_istore C dX0_leastFrom_14 (by decide) ?_
    dsimp only [List.set]
    refine z_iconst C (v := 1) dX0_leastFrom_16 (by decide) ?_
    refine z_istore C dX0_leastFrom_17 (by decide) ?_
    dsimp only [List.set]
    exact lp_X0_leastFrom C e1 e2 e3 hn hb hk hR (F := fun g => if P i g = true then sh b g + LF P k (i + 1) g else FARn) (M := LF P (k + 1) i b) (fun g => rfl) LF_succ (fun g y ey hg => ih rfl (by rw [e2]; exact nI_1 i) ey hg (by omega)) 14 0 _ _ _ rfl rfl (by omega) (by omega)
theorem tot_le (P : Nat → Nat → Bool) (n : Nat) : tot P n ≤ FARn := mn_le _ _
theorem LF_tot {P : Nat → Nat → Bool} {n : Nat} (h : 0 < n) : LF P n 0 0 = tot P n := by
  cases n with
  | zero => omega
  | succ n => exact LF_VR P n 0 0
set_option maxRecDepth 100000 in
set_option maxHeartbeats 4000000 in
theorem c_X0_leastByAll {l : Launch} {D : va_G} {ad : Nat → Nat → Nat} {cy : Nat → ClassId} {A : Nat → Prop} {sa : Nat → Nat} {σ : St} {p0 q0 n f0 : Nat} (hp0 : p0 < 8) (hq0 : q0 < 8) (hn : σ 11 p0 1 = nI n) (hn16 : n ≤ 16) (hf0 : σ 13 q0 2 = nI f0) (hf4 : 4 ≤ f0) (hf16 : f0 ≤ 16) (hn4 : n ≤ 4) : MI l D ad cy A sa yX0_leastByAll cX0_leastByAll 4 (some .int) 7 σ [.ref (ad 6 0), .ref (ad 11 p0), .ref (ad 13 q0)] (fun r σ' => (∀ a b c0, a ≠ 7 → σ' a b c0 = σ a b c0) ∧ r = (if n = 0 ∨ tot (Pf σ p0 q0 f0) n = FARn then -1 else nI (tot (Pf σ p0 q0 f0) n))) := by
  refine MI.mk "FretSchool$Hand" (by decide) rfl (Nat.le_of_ble_eq_true rfl) rfl ?_
  intro p e s m args below meth c C
  change Z _ _ _ _ _ _ _ _ _ _ _ _ _ _ _ _ _ _ _ [some (.ref (ad 6 0)), some (.ref (ad 11 p0)), some (.ref (ad 13 q0)), none] 0 []
  have hTl : tot (Pf σ p0 q0 f0) n ≤ FARn := tot_le _ _
  obtain ⟨T, hT0⟩ : ∃ T, T = tot (Pf σ p0 q0 f0) n := ⟨_, rfl⟩
  rw [← hT0] at hTl ⊢
  have hFAR : FARn = 1000000 := rfl
  refine z_aload_n C dX0_leastByAll_0 rfl ?_
  refine g_11_1 hp0 C wd46 dX0_leastByAll_1 ?_
  refine z_if_ne C 9 dX0_leastByAll_4 (by decide) (fun c_4 => ?_) (fun c_4 => ?_)
  · have hn0 : n ≠ 0 := by rw [hn, nI_ne0' (by omega)] at c_4; exact c_4
    refine z_aload_n C dX0_leastByAll_9 rfl ?_
    refine z_aload_n C dX0_leastByAll_10 rfl ?_
    refine z_aload_n C dX0_leastByAll_11 rfl ?_
    refine z_cvv C (As := [_, _]) (c_X0_feelReach hp0 hq0 hn hn16 hf0 hf4 hf16) okX0_feelReach wd297 rc_6 (rok (by omega) (by decide)) ⟨Nat.le_of_ble_eq_true rfl, Nat.le_of_ble_eq_true rfl⟩ rfl (Nat.le_of_ble_eq_true rfl) dX0_leastByAll_12 ?_
    rintro σ1 ⟨hf1, hb1⟩
    have hn1 : σ1 11 p0 1 = nI n := by rw [hf1 11 p0 1 (by omega)]; exact hn
    refine z_aload_n C dX0_leastByAll_15 rfl ?_
    refine g_6_0 C wd121 dX0_leastByAll_16 ?_
    refine z_aload_n C dX0_leastByAll_19 rfl ?_
    refine g_11_1 hp0 C wd46 dX0_leastByAll_20 ?_
    refine z_iconst C (v := 0) dX0_leastByAll_23 (by decide) ?_
    refine z_iconst C (v := 0) dX0_leastByAll_24 (by decide) ?_
    refine z_csi C (As := [_, _, _, _]) (c_X0_leastFrom (n := n) (P := (Pf σ p0 q0 f0)) hn4 hb1 hn1 n rfl nI_0.symm nI_0.symm (by omega) (by omega)) okX0_leastFrom wd440 (rok (by omega) (by decide)) ⟨Nat.le_of_ble_eq_true rfl, Nat.le_of_ble_eq_true rfl⟩ rfl (Nat.le_of_ble_eq_true rfl) dX0_leastByAll_25 ?_
    rintro r25 _ ⟨e25, rfl⟩
    rw [LF_tot (by omega), ← hT0] at e25
    refine z_istore_n C dX0_leastByAll_28 (by decide) ?_
    dsimp only [List.set]
    refine z_iload_n C dX0_leastByAll_29 rfl ?_
    refine z_ldc C (v := 1000000) wd317 dX0_leastByAll_30 ?_
    refine z_icmp_ge C 39 dX0_leastByAll_32 (by decide) (fun c_32 => ?_) (fun c_32 => ?_)
    · have hT : ¬ T < FARn := by rw [e25, nI_FAR, nI_leI (by omega) (by omega)] at c_32; omega
      refine z_iconst C (v := (-1)) dX0_leastByAll_39 (by decide) ?_
      refine z_iret C dX0_leastByAll_40 ?_
      exact ⟨hf1, by rw [if_pos (Or.inr (by omega))]⟩
    · have hT : T < FARn := by rw [e25, nI_FAR, nI_leI (by omega) (by omega)] at c_32; omega
      refine z_iload_n C dX0_leastByAll_35 rfl ?_
      refine z_goto C 40 dX0_leastByAll_36 (by decide) ?_
      refine z_iret C dX0_leastByAll_40 ?_
      exact ⟨hf1, by rw [if_neg (by omega), e25]⟩
  · have hn0 : n = 0 := by rw [hn, nI_ne0' (by omega)] at c_4; exact c_4
    refine z_iconst C (v := (-1)) dX0_leastByAll_7 (by decide) ?_
    refine z_iret C dX0_leastByAll_8 ?_
    exact ⟨fun _ _ _ _ => rfl, by rw [if_pos (Or.inl hn0)]⟩
