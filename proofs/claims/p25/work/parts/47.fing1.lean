/-! ===== fingers: the law's own sums ===== -/
theorem apN_le {a b : Nat} : apN a b ≤ a + b := by
  unfold apN
  split <;> omega
section
variable {p : Program} {l : Launch} {e : Env} {R : Room} {s : State} {m : MethodId} {args : Array Value} {below : List Frame} {meth : Method} {c : Code} {D : va_G} {ad : Nat → Nat → Nat} {cy : Nat → ClassId} {A : Nat → Prop} {sa : Nat → Nat} {cells slots : Nat} {σ : St}
set_option maxRecDepth 100000 in
set_option maxHeartbeats 4000000 in
theorem lp_f3 (C : Cx p l s m args meth c cL_fingers "FretSchoolLaw" 18 (some .boolean) D ad cy A sa) {T : Nat} {σ : St} {np ni j q w f0 hi n : Nat} {P : Nat → Nat → Bool} (F : FAC ad T σ np ni j q w f0 hi n P) {Q : State → Prop} {i h : Nat} (hi0 : 0 < i) (hin : i < n) (hh1 : 1 ≤ h) (hh2 : h ≤ hi) (hR : Rok R 0 2) (hcR : cells ≤ R.cells ∧ slots ≤ R.slots) {τ : St} (hτ : SameL σ τ) (hah : ∀ g, 1 ≤ g → g ≤ hi → τ 23 0 g = nI (FW P hi (i - 1) g)) {p10 : Int32} {o15 o16 o17 : Option Value} (kx : ∀ (o13 o14 : Option Value), Z p l e (R) s m args below meth c D ad cy A 18 (cells) (slots) Q (τ) [some (.ref (ad 0 0)), some (.ref (ad 17 0)), some (.ref (ad 18 0)), some (.ref (ad 19 0)), some (.int (nI j)), some (.int (nI q)), some (.ref (ad 23 0)), some (.ref (ad 24 0)), some (.int (nI hi)), some (.int (nI i)), some (.int p10), some (.int (nI h)), some (.int (nI (ls (fun k => FW P hi (i - 1) k + apN k h) hi))), o13, o14, o15, o16, o17] 121 []) : ∀ (f k : Nat) (o14 : Option Value), k ≤ hi → hi < k + f → Z p l e (R) s m args below meth c D ad cy A 18 (cells) (slots) Q (τ) [some (.ref (ad 0 0)), some (.ref (ad 17 0)), some (.ref (ad 18 0)), some (.ref (ad 19 0)), some (.int (nI j)), some (.int (nI q)), some (.ref (ad 23 0)), some (.ref (ad 24 0)), some (.int (nI hi)), some (.int (nI i)), some (.int p10), some (.int (nI h)), some (.int (nI (ls (fun k => FW P hi (i - 1) k + apN k h) k))), some (.int (nI (k + 1))), o14, o15, o16, o17] 72 [] := by
  obtain ⟨hI, enp, hnp, eni, hni, hj, hq, h23, h24, ef, hw, hf, hhi, hhi1, em, en, hn, hP, ePF, ecN⟩ := id F
  intro f
  induction f with
  | zero => intro k o14 _ h; exact absurd h (by omega)
  | succ f ih =>
    intro k o14 hk hfu
    have hls := ls_le (fun k => FW P hi (i - 1) k + apN k h) k
    have hfw := FW_le P hi (i - 1) (k + 1)
    have hap := apN_le (a := k + 1) (b := h)
    refine z_iload C dL_fingers_72 rfl ?_
    refine z_iload C dL_fingers_74 rfl ?_
    refine z_icmp_gt C 121 dL_fingers_76 (by decide) (fun c_76 => ?_) (fun c_76 => ?_)
    · have hqn : k = hi := by rw [nI_ltI (by omega) (by omega)] at c_76; omega
      subst hqn
      exact kx _ _
    · have hqn : k < hi := by rw [nI_ltI (by omega) (by omega)] at c_76; omega
      refine z_iload C dL_fingers_79 rfl ?_
      refine z_if_le C 121 dL_fingers_81 (by decide) (fun c_81 => ?_) (fun c_81 => ?_)
      · exact absurd c_81 (nI_nle hi0 (by omega))
      refine z_aload C dL_fingers_84 rfl ?_
      refine z_iload C dL_fingers_86 rfl ?_
      refine a_23 h23 C (j := k + 1) rfl (by omega) dL_fingers_88 ?_
      rw [hah (k + 1) (by omega) (by omega)]
      refine z_iload C dL_fingers_89 rfl ?_
      refine z_iload C dL_fingers_91 rfl ?_
      refine z_csi C (As := [_, _]) (c_L_apart (a := k + 1) (b := h) rfl rfl (by omega) (by omega)) okL_apart wd368 hR hcR rfl (Nat.le_of_ble_eq_true rfl) dL_fingers_93 ?_
      rintro _ _ ⟨rfl, rfl⟩
      refine z_iadd C dL_fingers_96 ?_
      rw [nI_add]
      refine z_istore C dL_fingers_97 (by decide) ?_
      dsimp only [List.set]
      refine z_iload C dL_fingers_99 rfl ?_
      refine z_iload C dL_fingers_101 rfl ?_
      refine z_icmp_ge C 111 dL_fingers_103 (by decide) (fun c_103 => ?_) (fun c_103 => ?_)
      · have hle : ls (fun k => FW P hi (i - 1) k + apN k h) k ≤ FW P hi (i - 1) (k + 1) + apN (k + 1) h := by rw [nI_leI (by omega) (by omega)] at c_103; exact c_103
        have e : ls (fun k => FW P hi (i - 1) k + apN k h) (k + 1) = ls (fun k => FW P hi (i - 1) k + apN k h) k := if_neg (show ¬ FW P hi (i - 1) (k + 1) + apN (k + 1) h < ls (fun k => FW P hi (i - 1) k + apN k h) k by omega)
        refine z_iload C dL_fingers_111 rfl ?_
        refine z_istore C dL_fingers_113 (by decide) ?_
        dsimp only [List.set]
        refine z_iinc C (v := 1) dL_fingers_115 rfl (by decide) (by decide) ?_
        dsimp only [List.set]
        refine z_goto C 72 dL_fingers_118 (by decide) ?_
        rw [nI_1, ← e]
        exact ih (k + 1) _ (by omega) (by omega)
      · have hle : FW P hi (i - 1) (k + 1) + apN (k + 1) h < ls (fun k => FW P hi (i - 1) k + apN k h) k := by rw [nI_leI (by omega) (by omega)] at c_103; omega
        have e : ls (fun k => FW P hi (i - 1) k + apN k h) (k + 1) = FW P hi (i - 1) (k + 1) + apN (k + 1) h := if_pos hle
        refine z_iload C dL_fingers_106 rfl ?_
        refine z_goto C 113 dL_fingers_108 (by decide) ?_
        refine z_istore C dL_fingers_113 (by decide) ?_
        dsimp only [List.set]
        refine z_iinc C (v := 1) dL_fingers_115 rfl (by decide) (by decide) ?_
        dsimp only [List.set]
        refine z_goto C 72 dL_fingers_118 (by decide) ?_
        rw [nI_1, ← e]
        exact ih (k + 1) _ (by omega) (by omega)
end
section
variable {p : Program} {l : Launch} {e : Env} {R : Room} {s : State} {m : MethodId} {args : Array Value} {below : List Frame} {meth : Method} {c : Code} {D : va_G} {ad : Nat → Nat → Nat} {cy : Nat → ClassId} {A : Nat → Prop} {sa : Nat → Nat} {cells slots : Nat} {σ : St}
set_option maxRecDepth 100000 in
set_option maxHeartbeats 4000000 in
theorem lp_f121 (C : Cx p l s m args meth c cL_fingers "FretSchoolLaw" 18 (some .boolean) D ad cy A sa) {T : Nat} {σ : St} {np ni j q w f0 hi n : Nat} {P : Nat → Nat → Bool} (F : FAC ad T σ np ni j q w f0 hi n P) {Q : State → Prop} {i h : Nat} (hin : i < n) (hh1 : 1 ≤ h) (hh2 : h ≤ hi) (hR : Rok R 0 7) (hcR : cells ≤ R.cells ∧ slots ≤ R.slots) {v : Nat} (hF : FW P hi i h = if P i h = true then v else 10000) {τ : St} (hτ : SameL σ τ) {p10 : Int32} (ep : p10 = σ 12 j i) {o13 o14 o15 o16 o17 : Option Value} (kx : ∀ τ', τ' = up τ 24 0 h (nI (FW P hi i h)) → Z p l e (R) s m args below meth c D ad cy A 18 (cells) (slots) Q (τ') [some (.ref (ad 0 0)), some (.ref (ad 17 0)), some (.ref (ad 18 0)), some (.ref (ad 19 0)), some (.int (nI j)), some (.int (nI q)), some (.ref (ad 23 0)), some (.ref (ad 24 0)), some (.int (nI hi)), some (.int (nI i)), some (.int p10), some (.int (nI (h + 1))), some (.int (nI v)), o13, o14, o15, o16, o17] 48 []) : Z p l e (R) s m args below meth c D ad cy A 18 (cells) (slots) Q (τ) [some (.ref (ad 0 0)), some (.ref (ad 17 0)), some (.ref (ad 18 0)), some (.ref (ad 19 0)), some (.int (nI j)), some (.int (nI q)), some (.ref (ad 23 0)), some (.ref (ad 24 0)), some (.int (nI hi)), some (.int (nI i)), some (.int p10), some (.int (nI h)), some (.int (nI v)), o13, o14, o15, o16, o17] 121 [] := by
  obtain ⟨hI, enp, hnp, eni, hni, hj, hq, h23, h24, ef, hw, hf, hhi, hhi1, em, en, hn, hP, ePF, ecN⟩ := id F
  refine z_aload C dL_fingers_121 rfl ?_
  refine z_iload C dL_fingers_123 rfl ?_
  refine z_aload_n C dL_fingers_125 rfl ?_
  refine z_aload_n C dL_fingers_126 rfl ?_
  refine z_iload C dL_fingers_127 rfl ?_
  refine z_iload C dL_fingers_129 rfl ?_
  refine z_iload C dL_fingers_131 rfl ?_
  refine z_csi C (As := [_, _, _, _, _]) (c_L_stringOf (q := q) (h := h) (f0 := f0) (w := w) (by omega) hf hw (by omega) (by rw [hτ.k 19 0 q (by decide)]; exact ef)) okL_stringOf wd371 hR hcR rfl (Nat.le_of_ble_eq_true rfl) dL_fingers_133 ?_
  rintro r133 _ ⟨rfl, e133⟩
  rw [show (fun k => τ 18 0 (4 * q + k)) = (fun k => σ 18 0 (4 * q + k)) from funext fun k => hτ.k 18 0 _ (by decide), ep] at e133
  refine z_if_ge C 145 dL_fingers_136 (by decide) (fun c_136 => ?_) (fun c_136 => ?_)
  · have hp : P i h = true := (hP i h).mpr ⟨hh1, hh2, fun z => by rw [e133, z] at c_136; exact absurd c_136 (by decide)⟩
    refine z_iload C dL_fingers_145 rfl ?_
    refine s_24 h24 C (j := h) rfl (by omega) dL_fingers_147 ?_
    refine z_iinc C (v := 1) dL_fingers_148 rfl (by decide) (by decide) ?_
    dsimp only [List.set]
    refine z_goto C 48 dL_fingers_151 (by decide) ?_
    rw [nI_1]
    exact kx _ (by rw [hF, if_pos hp])
  · have hp : ¬ P i h = true := fun z => by
      obtain ⟨_, _, hz⟩ := (hP i h).mp z
      rcases lowS_rng (σ 12 j i) (nI h) (fun k => σ 18 0 (4 * q + k)) with y | ⟨k, hk, y⟩
      · exact hz y
      · rw [e133, y] at c_136
        exact c_136 (nI_pos' (by omega))
    refine z_sipush C (v := 10000) dL_fingers_139 (by decide) ?_
    refine z_goto C 147 dL_fingers_142 (by decide) ?_
    refine s_24 h24 C (j := h) rfl (by omega) dL_fingers_147 ?_
    refine z_iinc C (v := 1) dL_fingers_148 rfl (by decide) (by decide) ?_
    dsimp only [List.set]
    refine z_goto C 48 dL_fingers_151 (by decide) ?_
    rw [nI_1]
    exact kx _ (by rw [hF, if_neg hp]; rfl)
end
section
variable {p : Program} {l : Launch} {e : Env} {R : Room} {s : State} {m : MethodId} {args : Array Value} {below : List Frame} {meth : Method} {c : Code} {D : va_G} {ad : Nat → Nat → Nat} {cy : Nat → ClassId} {A : Nat → Prop} {sa : Nat → Nat} {cells slots : Nat} {σ : St}
set_option maxRecDepth 100000 in
set_option maxHeartbeats 4000000 in
theorem lp_f2 (C : Cx p l s m args meth c cL_fingers "FretSchoolLaw" 18 (some .boolean) D ad cy A sa) {T : Nat} {σ : St} {np ni j q w f0 hi n : Nat} {P : Nat → Nat → Bool} (F : FAC ad T σ np ni j q w f0 hi n P) {Q : State → Prop} {i : Nat} (hin : i < n) (hR0 : Rok R 0 2) (hR7 : Rok R 0 7) (hcR : cells ≤ R.cells ∧ slots ≤ R.slots) {p10 : Int32} (ep : p10 = σ 12 j i) {o15 o16 o17 : Option Value} (kx : ∀ (τ : St) (o11 o12 o13 o14 : Option Value), SameL σ τ → (∀ g, 1 ≤ g → g ≤ hi → τ 24 0 g = nI (FW P hi i g)) → Z p l e (R) s m args below meth c D ad cy A 18 (cells) (slots) Q (τ) [some (.ref (ad 0 0)), some (.ref (ad 17 0)), some (.ref (ad 18 0)), some (.ref (ad 19 0)), some (.int (nI j)), some (.int (nI q)), some (.ref (ad 23 0)), some (.ref (ad 24 0)), some (.int (nI hi)), some (.int (nI i)), some (.int p10), o11, o12, o13, o14, o15, o16, o17] 154 []) : ∀ (f k : Nat) (τ : St) (o12 o13 o14 : Option Value), k ≤ hi → hi < k + f → SameL σ τ → (0 < i → ∀ g, 1 ≤ g → g ≤ hi → τ 23 0 g = nI (FW P hi (i - 1) g)) → (∀ g, 1 ≤ g → g ≤ k → τ 24 0 g = nI (FW P hi i g)) → Z p l e (R) s m args below meth c D ad cy A 18 (cells) (slots) Q (τ) [some (.ref (ad 0 0)), some (.ref (ad 17 0)), some (.ref (ad 18 0)), some (.ref (ad 19 0)), some (.int (nI j)), some (.int (nI q)), some (.ref (ad 23 0)), some (.ref (ad 24 0)), some (.int (nI hi)), some (.int (nI i)), some (.int p10), some (.int (nI (k + 1))), o12, o13, o14, o15, o16, o17] 48 [] := by
  obtain ⟨hI, enp, hnp, eni, hni, hj, hq, h23, h24, ef, hw, hf, hhi, hhi1, em, en, hn, hP, ePF, ecN⟩ := id F
  intro f
  induction f with
  | zero => intro k τ o12 o13 o14 _ h; exact absurd h (by omega)
  | succ f ih =>
    intro k τ o12 o13 o14 hk hfu hτ hah hno
    refine z_iload C dL_fingers_48 rfl ?_
    refine z_iload C dL_fingers_50 rfl ?_
    refine z_icmp_gt C 154 dL_fingers_52 (by decide) (fun c_52 => ?_) (fun c_52 => ?_)
    · have hqn : k = hi := by rw [nI_ltI (by omega) (by omega)] at c_52; omega
      subst hqn
      exact kx τ _ _ _ _ hτ hno
    · have hqn : k < hi := by rw [nI_ltI (by omega) (by omega)] at c_52; omega
      refine z_iload C dL_fingers_55 rfl ?_
      refine z_if_ne C 64 dL_fingers_57 (by decide) (fun c_57 => ?_) (fun c_57 => ?_)
      · have hi0 : 0 < i := by rw [nI_ne0' (by omega)] at c_57; omega
        refine z_sipush C (v := 10000) dL_fingers_64 (by decide) ?_
        refine z_istore C dL_fingers_67 (by decide) ?_
        dsimp only [List.set]
        refine z_iconst C (v := 1) dL_fingers_69 (by decide) ?_
        refine z_istore C dL_fingers_70 (by decide) ?_
        dsimp only [List.set]
        refine lp_f3 C F (by omega) hin (show 1 ≤ k + 1 by omega) (show k + 1 ≤ hi by omega) hR0 hcR hτ (hah hi0) (fun o13 o14 => ?_) (hi + 1) 0 _ (by omega) (by omega)
        refine lp_f121 C F hin (by omega) (by omega) hR7 hcR (v := ls (fun g => FW P hi (i - 1) g + apN g (k + 1)) hi) (by
          obtain ⟨i0, rfl⟩ : ∃ i0, i = i0 + 1 := ⟨i - 1, by omega⟩
          rfl) hτ ep (fun τ' eτ => ?_)
        have hτ' : SameL σ τ' := by rw [eτ]; exact hτ.up (by decide)
        exact ih (k + 1) τ' _ _ _ (by omega) (by omega) hτ' (fun h0 g g1 g2 => by rw [eτ, up_n (by omega)]; exact hah h0 g g1 g2) (fun g g1 g2 => by
          rw [eτ]
          by_cases z : g = k + 1
          · rw [z, up_at]
          · rw [up_n (by omega)]; exact hno g g1 (by omega))
      · have hi0 : i = 0 := by rw [nI_ne0' (by omega)] at c_57; exact c_57
        refine z_iconst C (v := 0) dL_fingers_60 (by decide) ?_
        refine z_goto C 67 dL_fingers_61 (by decide) ?_
        refine z_istore C dL_fingers_67 (by decide) ?_
        dsimp only [List.set]
        refine z_iconst C (v := 1) dL_fingers_69 (by decide) ?_
        refine z_istore C dL_fingers_70 (by decide) ?_
        dsimp only [List.set]
        refine z_iload C dL_fingers_72 rfl ?_
        refine z_iload C dL_fingers_74 rfl ?_
        refine z_icmp_gt C 121 dL_fingers_76 (by decide) (fun c_76 => ?_) (fun c_76 => ?_)
        · exact absurd c_76 (nI_nlt (a := hi) (b := 1) (by omega) (by omega))
        refine z_iload C dL_fingers_79 rfl ?_
        refine z_if_le C 121 dL_fingers_81 (by decide) (fun c_81 => ?_) (fun c_81 => ?_)
        rotate_left
        · exact absurd (by rw [hi0]; decide) c_81
        refine lp_f121 C F hin (by omega) (by omega) hR7 hcR (v := 0) (by subst hi0; rfl) hτ ep (fun τ' eτ => ?_)
        have hτ' : SameL σ τ' := by rw [eτ]; exact hτ.up (by decide)
        exact ih (k + 1) τ' _ _ _ (by omega) (by omega) hτ' (fun h0 g g1 g2 => by rw [eτ, up_n (by omega)]; exact hah h0 g g1 g2) (fun g g1 g2 => by
          rw [eτ]
          by_cases z : g = k + 1
          · rw [z, up_at]
          · rw [up_n (by omega)]; exact hno g g1 (by omega))
end
section
variable {p : Program} {l : Launch} {e : Env} {R : Room} {s : State} {m : MethodId} {args : Array Value} {below : List Frame} {meth : Method} {c : Code} {D : va_G} {ad : Nat → Nat → Nat} {cy : Nat → ClassId} {A : Nat → Prop} {sa : Nat → Nat} {cells slots : Nat} {σ : St}
set_option maxRecDepth 100000 in
set_option maxHeartbeats 4000000 in
theorem lp_f2b (C : Cx p l s m args meth c cL_fingers "FretSchoolLaw" 18 (some .boolean) D ad cy A sa) {T : Nat} {σ : St} {np ni j q w f0 hi n : Nat} {P : Nat → Nat → Bool} (F : FAC ad T σ np ni j q w f0 hi n P) {Q : State → Prop} {i : Nat} (hin : i < n) {o10 o12 o13 o14 o15 o16 o17 : Option Value} (kx : ∀ (τ : St) (o11 : Option Value), SameL σ τ → (∀ g, 1 ≤ g → g ≤ hi → τ 23 0 g = nI (FW P hi i g)) → Z p l e (R) s m args below meth c D ad cy A 18 (cells) (slots) Q (τ) [some (.ref (ad 0 0)), some (.ref (ad 17 0)), some (.ref (ad 18 0)), some (.ref (ad 19 0)), some (.int (nI j)), some (.int (nI q)), some (.ref (ad 23 0)), some (.ref (ad 24 0)), some (.int (nI hi)), some (.int (nI i)), o10, o11, o12, o13, o14, o15, o16, o17] 180 []) : ∀ (f k : Nat) (τ : St), k ≤ hi → hi < k + f → SameL σ τ → (∀ g, 1 ≤ g → g ≤ hi → τ 24 0 g = nI (FW P hi i g)) → (∀ g, 1 ≤ g → g ≤ k → τ 23 0 g = nI (FW P hi i g)) → Z p l e (R) s m args below meth c D ad cy A 18 (cells) (slots) Q (τ) [some (.ref (ad 0 0)), some (.ref (ad 17 0)), some (.ref (ad 18 0)), some (.ref (ad 19 0)), some (.int (nI j)), some (.int (nI q)), some (.ref (ad 23 0)), some (.ref (ad 24 0)), some (.int (nI hi)), some (.int (nI i)), o10, some (.int (nI (k + 1))), o12, o13, o14, o15, o16, o17] 157 [] := by
  obtain ⟨hI, enp, hnp, eni, hni, hj, hq, h23, h24, ef, hw, hf, hhi, hhi1, em, en, hn, hP, ePF, ecN⟩ := id F
  intro f
  induction f with
  | zero => intro k τ _ h; exact absurd h (by omega)
  | succ f ih =>
    intro k τ hk hfu hτ hno hah
    refine z_iload C dL_fingers_157 rfl ?_
    refine z_iload C dL_fingers_159 rfl ?_
    refine z_icmp_gt C 180 dL_fingers_161 (by decide) (fun c_161 => ?_) (fun c_161 => ?_)
    · have hqn : k = hi := by rw [nI_ltI (by omega) (by omega)] at c_161; omega
      subst hqn
      exact kx τ _ hτ hah
    · have hqn : k < hi := by rw [nI_ltI (by omega) (by omega)] at c_161; omega
      refine z_aload C dL_fingers_164 rfl ?_
      refine z_iload C dL_fingers_166 rfl ?_
      refine z_aload C dL_fingers_168 rfl ?_
      refine z_iload C dL_fingers_170 rfl ?_
      refine a_24 h24 C (j := k + 1) rfl (by omega) dL_fingers_172 ?_
      refine s_23 h23 C (j := k + 1) rfl (by omega) dL_fingers_173 ?_
      refine z_iinc C (v := 1) dL_fingers_174 rfl (by decide) (by decide) ?_
      dsimp only [List.set]
      refine z_goto C 157 dL_fingers_177 (by decide) ?_
      rw [nI_1]
      refine ih (k + 1) _ (by omega) (by omega) (hτ.up (by decide)) (fun g g1 g2 => by rw [up_n (by omega)]; exact hno g g1 g2) (fun g g1 g2 => ?_)
      by_cases z : g = k + 1
      · rw [z, up_at]; exact hno (k + 1) (by omega) (by omega)
      · rw [up_n (by omega)]; exact hah g g1 (by omega)
end
section
variable {p : Program} {l : Launch} {e : Env} {R : Room} {s : State} {m : MethodId} {args : Array Value} {below : List Frame} {meth : Method} {c : Code} {D : va_G} {ad : Nat → Nat → Nat} {cy : Nat → ClassId} {A : Nat → Prop} {sa : Nat → Nat} {cells slots : Nat} {σ : St}
set_option maxRecDepth 100000 in
set_option maxHeartbeats 4000000 in
theorem lp_f1 (C : Cx p l s m args meth c cL_fingers "FretSchoolLaw" 18 (some .boolean) D ad cy A sa) {T : Nat} {σ : St} {np ni j q w f0 hi n : Nat} {P : Nat → Nat → Bool} (F : FAC ad T σ np ni j q w f0 hi n P) {Q : State → Prop} (hR0 : Rok R 0 2) (hR7 : Rok R 0 7) (hR4 : Rok R 3 4) {Bc Bs : Nat} (hB : Bc ≤ R.cells ∧ Bs ≤ R.slots) {o15 o16 o17 : Option Value} (kx : ∀ (τ : St) (o9 o10 o11 o12 o13 o14 : Option Value) (cells slots : Nat), SameL σ τ → (0 < n → ∀ g, 1 ≤ g → g ≤ hi → τ 23 0 g = nI (FW P hi (n - 1) g)) → cells ≤ Bc → slots ≤ Bs → Z p l e (R) s m args below meth c D ad cy A 18 (cells) (slots) Q (τ) [some (.ref (ad 0 0)), some (.ref (ad 17 0)), some (.ref (ad 18 0)), some (.ref (ad 19 0)), some (.int (nI j)), some (.int (nI q)), some (.ref (ad 23 0)), some (.ref (ad 24 0)), some (.int (nI hi)), o9, o10, o11, o12, o13, o14, o15, o16, o17] 186 []) : ∀ (f i : Nat) (τ : St) (o10 o11 o12 o13 o14 : Option Value) {cells slots : Nat}, i ≤ n → n < i + f → SameL σ τ → (0 < i → ∀ g, 1 ≤ g → g ≤ hi → τ 23 0 g = nI (FW P hi (i - 1) g)) → cells + 2 * f ≤ Bc → slots + 12 * f ≤ Bs → Z p l e (R) s m args below meth c D ad cy A 18 (cells) (slots) Q (τ) [some (.ref (ad 0 0)), some (.ref (ad 17 0)), some (.ref (ad 18 0)), some (.ref (ad 19 0)), some (.int (nI j)), some (.int (nI q)), some (.ref (ad 23 0)), some (.ref (ad 24 0)), some (.int (nI hi)), some (.int (nI i)), o10, o11, o12, o13, o14, o15, o16, o17] 26 [] := by
  obtain ⟨hI, enp, hnp, eni, hni, hj, hq, h23, h24, ef, hw, hf, hhi, hhi1, em, en, hn, hP, ePF, ecN⟩ := id F
  intro f
  induction f with
  | zero => intro i τ o10 o11 o12 o13 o14 cells slots _ h; exact absurd h (by omega)
  | succ f ih =>
    intro i τ o10 o11 o12 o13 o14 cells slots hin0 hfu hτ hah hc1 hc2
    refine z_iload C dL_fingers_26 rfl ?_
    refine z_aload_n C dL_fingers_28 rfl ?_
    refine z_iload C dL_fingers_29 rfl ?_
    refine a_17 C (j := j) rfl (by omega) dL_fingers_31 ?_
    rw [hτ.k 17 0 j (by decide), em]
    refine z_icmp_ge C 186 dL_fingers_32 (by decide) (fun c_32 => ?_) (fun c_32 => ?_)
    · have hqn : i = n := by rw [nI_leI (by omega) (by omega)] at c_32; omega
      subst hqn
      exact kx τ _ _ _ _ _ _ _ _ hτ hah (by omega) (by omega)
    · have hin : i < n := by rw [nI_leI (by omega) (by omega)] at c_32; omega
      refine z_aload_n C dL_fingers_35 rfl ?_
      refine z_iload C dL_fingers_36 rfl ?_
      refine z_iload C dL_fingers_38 rfl ?_
      refine z_csw C (As := [_, _, _]) (c_L_pitch (hI.sameL hτ).1) wd335 wd13 wd336 hd_pitch wd334 hR4 ⟨by omega, by omega⟩ rfl (Nat.le_of_ble_eq_true rfl) dL_fingers_40 ?_
      intro r40 τ1 h40
      obtain ⟨e40, rfl⟩ := h40.yes (K_pitch_z (by rw [hτ.k 0 0 6 (by decide), enp]; exact ok_nI hj (by omega)) (by rw [ix_nI (by omega), hτ.k 11 j 1 (by decide), en]; exact ok_nI hin (by omega)))
      rw [ix_nI (by omega), ix_nI (by omega), hτ.k 12 j i (by decide)] at e40
      refine z_istore C dL_fingers_43 (by decide) ?_
      dsimp only [List.set]
      refine z_iconst C (v := 1) dL_fingers_45 (by decide) ?_
      refine z_istore C dL_fingers_46 (by decide) ?_
      dsimp only [List.set]
      refine lp_f2 C F hin hR0 hR7 ⟨by omega, by omega⟩ e40 (fun τ o11 o12 o13 o14 hτ hno => ?_) (hi + 1) 0 τ _ _ _ (by omega) (by omega) hτ hah (fun g g1 g2 => absurd g1 (by omega))
      refine z_iconst C (v := 1) dL_fingers_154 (by decide) ?_
      refine z_istore C dL_fingers_155 (by decide) ?_
      dsimp only [List.set]
      refine lp_f2b C F hin (fun τ o11 hτ hah => ?_) (hi + 1) 0 τ (by omega) (by omega) hτ hno (fun g g1 g2 => absurd g1 (by omega))
      refine z_iinc C (v := 1) dL_fingers_180 rfl (by decide) (by decide) ?_
      dsimp only [List.set]
      refine z_goto C 26 dL_fingers_183 (by decide) ?_
      rw [nI_1]
      exact ih (i + 1) τ _ _ _ _ _ (by omega) (by omega) hτ (fun _ => hah) (by omega) (by omega)
end
section
variable {p : Program} {l : Launch} {e : Env} {R : Room} {s : State} {m : MethodId} {args : Array Value} {below : List Frame} {meth : Method} {c : Code} {D : va_G} {ad : Nat → Nat → Nat} {cy : Nat → ClassId} {A : Nat → Prop} {sa : Nat → Nat} {cells slots : Nat} {σ : St}
set_option maxRecDepth 100000 in
set_option maxHeartbeats 4000000 in
theorem lp_f4 (C : Cx p l s m args meth c cL_fingers "FretSchoolLaw" 18 (some .boolean) D ad cy A sa) {T : Nat} {σ : St} {np ni j q w f0 hi n : Nat} {P : Nat → Nat → Bool} (F : FAC ad T σ np ni j q w f0 hi n P) {Q : State → Prop} {τ : St} (hτ : SameL σ τ) (hah : 0 < n → ∀ g, 1 ≤ g → g ≤ hi → τ 23 0 g = nI (FW P hi (n - 1) g)) {o11 o12 o13 o14 o15 o16 o17 : Option Value} (kx : ∀ o10 : Option Value, Z p l e (R) s m args below meth c D ad cy A 18 (cells) (slots) Q (τ) [some (.ref (ad 0 0)), some (.ref (ad 17 0)), some (.ref (ad 18 0)), some (.ref (ad 19 0)), some (.int (nI j)), some (.int (nI q)), some (.ref (ad 23 0)), some (.ref (ad 24 0)), some (.int (nI hi)), some (.int (nI (leastF P hi n))), o10, o11, o12, o13, o14, o15, o16, o17] 236 []) : ∀ (f k : Nat), k ≤ hi → hi < k + f → (n = 0 → k = 0) → Z p l e (R) s m args below meth c D ad cy A 18 (cells) (slots) Q (τ) [some (.ref (ad 0 0)), some (.ref (ad 17 0)), some (.ref (ad 18 0)), some (.ref (ad 19 0)), some (.int (nI j)), some (.int (nI q)), some (.ref (ad 23 0)), some (.ref (ad 24 0)), some (.int (nI hi)), some (.int (nI (ls (FW P hi (n - 1)) k))), some (.int (nI (k + 1))), o11, o12, o13, o14, o15, o16, o17] 194 [] := by
  obtain ⟨hI, enp, hnp, eni, hni, hj, hq, h23, h24, ef, hw, hf, hhi, hhi1, em, en, hn, hP, ePF, ecN⟩ := id F
  intro f
  induction f with
  | zero => intro k _ h; exact absurd h (by omega)
  | succ f ih =>
    intro k hk hfu hk0
    have hls := ls_le (FW P hi (n - 1)) k
    have hfw := FW_le P hi (n - 1) (k + 1)
    refine z_iload C dL_fingers_194 rfl ?_
    refine z_iload C dL_fingers_196 rfl ?_
    refine z_icmp_gt C 236 dL_fingers_198 (by decide) (fun c_198 => ?_) (fun c_198 => ?_)
    · have hqn : k = hi := by rw [nI_ltI (by omega) (by omega)] at c_198; omega
      have hn0 : n ≠ 0 := fun z => by have := hk0 z; omega
      have e : leastF P hi n = ls (FW P hi (n - 1)) k := by unfold leastF; rw [if_neg hn0, hqn]
      rw [← e]
      exact kx _
    · have hqn : k < hi := by rw [nI_ltI (by omega) (by omega)] at c_198; omega
      refine z_aload_n C dL_fingers_201 rfl ?_
      refine z_iload C dL_fingers_202 rfl ?_
      refine a_17 C (j := j) rfl (by omega) dL_fingers_204 ?_
      rw [hτ.k 17 0 j (by decide), em]
      refine z_if_le C 236 dL_fingers_205 (by decide) (fun c_205 => ?_) (fun c_205 => ?_)
      · have hn0 : n = 0 := Classical.byContradiction fun z => nI_nle (n := n) (by omega) (by omega) c_205
        have e : leastF P hi n = ls (FW P hi (n - 1)) k := by unfold leastF; rw [if_pos hn0, hk0 hn0]; rfl
        rw [← e]
        exact kx _
      · have hn0 : 0 < n := Nat.pos_of_ne_zero fun z => by rw [z] at c_205; exact c_205 (by decide)
        refine z_aload C dL_fingers_208 rfl ?_
        refine z_iload C dL_fingers_210 rfl ?_
        refine a_23 h23 C (j := k + 1) rfl (by omega) dL_fingers_212 ?_
        rw [hah (by omega) (k + 1) (by omega) (by omega)]
        refine z_iload C dL_fingers_213 rfl ?_
        refine z_icmp_ge C 226 dL_fingers_215 (by decide) (fun c_215 => ?_) (fun c_215 => ?_)
        · have hle : ls (FW P hi (n - 1)) k ≤ FW P hi (n - 1) (k + 1) := by rw [nI_leI (by omega) (by omega)] at c_215; exact c_215
          have e : ls (FW P hi (n - 1)) (k + 1) = ls (FW P hi (n - 1)) k := if_neg (by omega)
          refine z_iload C dL_fingers_226 rfl ?_
          refine z_istore C dL_fingers_228 (by decide) ?_
          dsimp only [List.set]
          refine z_iinc C (v := 1) dL_fingers_230 rfl (by decide) (by decide) ?_
          dsimp only [List.set]
          refine z_goto C 194 dL_fingers_233 (by decide) ?_
          rw [nI_1, ← e]
          exact ih (k + 1) (by omega) (by omega) (fun z => by omega)
        · have hle : FW P hi (n - 1) (k + 1) < ls (FW P hi (n - 1)) k := by rw [nI_leI (by omega) (by omega)] at c_215; omega
          have e : ls (FW P hi (n - 1)) (k + 1) = FW P hi (n - 1) (k + 1) := if_pos hle
          refine z_aload C dL_fingers_218 rfl ?_
          refine z_iload C dL_fingers_220 rfl ?_
          refine a_23 h23 C (j := k + 1) rfl (by omega) dL_fingers_222 ?_
          rw [hah (by omega) (k + 1) (by omega) (by omega)]
          refine z_goto C 228 dL_fingers_223 (by decide) ?_
          refine z_istore C dL_fingers_228 (by decide) ?_
          dsimp only [List.set]
          refine z_iinc C (v := 1) dL_fingers_230 rfl (by decide) (by decide) ?_
          dsimp only [List.set]
          refine z_goto C 194 dL_fingers_233 (by decide) ?_
          rw [nI_1, ← e]
          exact ih (k + 1) (by omega) (by omega) (fun z => by omega)
end
