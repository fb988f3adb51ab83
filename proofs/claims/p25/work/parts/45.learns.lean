/-! ===== learns ===== -/
theorem K_learn_1 {σ : St} {w p q : Int32} (h : bad p (σ 0 0 6) ∨ bad q (σ 0 0 7)) : K_learn σ w p q = 1 := by unfold K_learn; rw [if_pos h]
theorem K_learn_2 {σ : St} {w p q : Int32} (h1 : ¬ bad p (σ 0 0 6)) (h2 : ¬ bad q (σ 0 0 7)) (h : outR w 0 4) : K_learn σ w p q = 2 := by unfold K_learn; rw [if_neg (fun z => z.elim h1 h2), if_pos h]
theorem K_learn_3 {σ : St} {w p q : Int32} (h1 : ¬ bad p (σ 0 0 6)) (h2 : ¬ bad q (σ 0 0 7)) (h3 : ¬ outR w 0 4) (h : knowsP σ w p ∨ lsV σ w (ix p) (ix q) = -1) : K_learn σ w p q = 3 := by unfold K_learn; rw [if_neg (fun z => z.elim h1 h2), if_neg h3, if_pos h]
theorem K_learn_0 {σ : St} {w p q : Int32} (h1 : ¬ bad p (σ 0 0 6)) (h2 : ¬ bad q (σ 0 0 7)) (h3 : ¬ outR w 0 4) (h : ¬ knowsP σ w p) (h4 : ¬ lsV σ w (ix p) (ix q) = -1) : K_learn σ w p q = 0 := by unfold K_learn; rw [if_neg (fun z => z.elim h1 h2), if_neg h3, if_neg (fun z => z.elim h h4)]
theorem SameC.eKl {σ τ : St} (h : SameC σ τ) (w p q : Int32) : K_learn τ w p q = K_learn σ w p q := by
  unfold K_learn knowsP
  rw [bad_of h, bad_of h, h.k 15 (ix w) 1 (by decide), h.els]
theorem SameC.elv {σ τ : St} (h : SameC σ τ) (w p q : Int32) : lvL τ w p q = lvL σ w p q := by
  unfold lvL
  rw [h.k 15 (ix w) 0 (by decide), h.els]
theorem SameC.up {σ τ : St} (h : SameC σ τ) (k i j : Nat) (x : Int32) : SameC (up σ k i j x) (up τ k i j x) := fun a b c0 h1 h2 h3 h4 => by
  rw [up_app, up_app, h a b c0 h1 h2 h3 h4]
theorem S_learn_yes {σ τ τ' : St} {x y z r : Int32} {cs : List Int32} (hτ : SameC σ τ) (h : WN τ τ' (K_learn τ x y z) cs (lvL τ x y z) r x y z) (hK : K_learn σ x y z = 0) : SameC (learnS σ σ x y z) τ' ∧ r = lvL σ x y z := by
  obtain ⟨e, σ2, hs, rfl⟩ := h.1 ((hτ.eKl x y z).trans hK)
  refine ⟨?_, e.trans (hτ.elv x y z)⟩
  unfold learnS
  rw [hτ.elv, hτ.k 15 (ix x) 1 (by decide)]
  exact ((hτ.trans hs).up 15 (ix x) 1 _).up 15 (ix x) 0 _
theorem S_learn_no {σ τ τ' : St} {x y z r res c0 : Int32} {cs : List Int32} (hτ : SameC σ τ) (h : WN τ τ' (K_learn τ x y z) cs res r x y z) {j : Nat} (hK : K_learn σ x y z = j + 1) (hc : cs[j]? = some c0) : SameC σ τ' ∧ r = c0 := by
  obtain ⟨e, hs⟩ := h.2 j c0 ((hτ.eKl x y z).trans hK) hc
  exact ⟨hτ.trans hs, e⟩
theorem knows_after {σ : St} {w j : Nat} {p q : Int32} (hj : j < 32) : knowsP (learnS σ σ (nI w) (nI j) q) (nI w) (nI j) := by
  unfold knowsP learnS
  rw [up_n (by omega), up_at]
  intro h
  rw [bit_or hj hj] at h
  exact h.2 rfl
section
variable {p : Program} {l : Launch} {e : Env} {R : Room} {s : State} {m : MethodId} {args : Array Value} {below : List Frame} {meth : Method} {c : Code} {D : va_G} {ad : Nat → Nat → Nat} {cy : Nat → ClassId} {A : Nat → Prop} {sa : Nat → Nat} {cells slots : Nat} {σ : St}
set_option maxRecDepth 100000 in
set_option maxHeartbeats 4000000 in
theorem lp_learns_yes (C : Cx p l s m args meth c cL_learns "FretSchoolLaw" 12 (some .boolean) D ad cy A sa) {T : Nat} {σ : St} (hI : LInv T σ) {w np ni j q : Nat} (hw : w < 5) (enp : σ 0 0 6 = nI np) (hnp : np ≤ 8) (eni : σ 0 0 7 = nI ni) (hni : ni ≤ 8) (hj : j < np) (hq : q < ni) (hK : K_learn σ (nI w) (nI j) (nI q) = 0) (hls : lsV σ (nI w) (ix (nI j)) (ix (nI q)) = valH σ j q) {τ : St} (hτ : SameC σ τ) {o9 o10 o11 : Option Value} : Z p l e (rmD 10 40) s m args below meth c D ad cy A 12 (4) (24) (MQ below (va_Qi (fun r σ' => r = 1 ∧ LInv T σ') (Bw D ad cy) A) args s 40 (6 * 40) A) τ [some (.ref (ad 0 0)), some (.ref (ad 19 0)), some (.ref (ad 22 0)), some (.int (nI w)), some (.int (nI j)), some (.int (nI q)), some (.int (valH σ j q)), some (.int (σ 15 w 0)), some (.int (σ 15 w 1)), o9, o10, o11] 62 [.int 1] := by
  refine z_istore C dL_learns_62 (by decide) ?_
  dsimp only [List.set]
  refine z_iload C dL_learns_64 rfl ?_
  refine z_if_ne C 74 dL_learns_66 (by decide) (fun c_66 => ?_) (fun c_66 => ?_)
  rotate_left
  · exact absurd c_66 (by decide)
  refine z_iload C dL_learns_74 rfl ?_
  refine z_iload C dL_learns_76 rfl ?_
  refine z_icmp_ne C 88 dL_learns_78 (by decide) (fun c_78 => ?_) (fun c_78 => ?_)
  · have hdue : lvL σ (nI w) (nI j) (nI q) = σ 15 w 0 := by unfold lvL; rw [ix_nI (show w < 2 ^ 31 by omega), hls, if_neg c_78]
    refine z_iload C dL_learns_88 rfl ?_
    refine z_istore C dL_learns_90 (by decide) ?_
    dsimp only [List.set]
    refine z_aload_n C dL_learns_92 rfl ?_
    refine z_iload_n C dL_learns_93 rfl ?_
    refine z_iload C dL_learns_94 rfl ?_
    refine z_iload C dL_learns_96 rfl ?_
    refine z_csw C (As := [_, _, _, _]) (c_L_learn (hτ.inv hI.1)) wd583 wd13 wd584 hd_learn wd582 (rok (by decide) (by decide)) ⟨Nat.le_of_ble_eq_true rfl, Nat.le_of_ble_eq_true rfl⟩ rfl (Nat.le_of_ble_eq_true rfl) dL_learns_98 ?_
    intro r98 τ h98
    obtain ⟨hτ, e98⟩ := S_learn_yes hτ h98 hK
    obtain ⟨σ1, hσ1⟩ : ∃ σ1, σ1 = learnS σ σ (nI w) (nI j) (nI q) := ⟨_, rfl⟩
    rw [← hσ1] at hτ
    have hI : LInv T σ1 := by rw [hσ1]; exact LInv_learn hI hw
    have e15 : σ1 15 w 0 = lvL σ (nI w) (nI j) (nI q) := by rw [hσ1]; unfold learnS; rw [ix_nI (show w < 2 ^ 31 by omega), up_at]
    have e151 : σ1 15 w 1 = σ 15 w 1 ||| (1 <<< (nI j &&& 31)) := by rw [hσ1]; unfold learnS; rw [ix_nI (show w < 2 ^ 31 by omega), up_n (by omega), up_at]
    have enp : σ1 0 0 6 = nI np := by rw [hσ1]; unfold learnS; rw [up_n (by omega), up_n (by omega)]; exact enp
    have eni : σ1 0 0 7 = nI ni := by rw [hσ1]; unfold learnS; rw [up_n (by omega), up_n (by omega)]; exact eni
    subst e98
    refine z_iload C dL_learns_101 rfl ?_
    refine z_icmp_ne C 153 dL_learns_103 (by decide) (fun c_103 => ?_) (fun c_103 => ?_)
    · exact absurd hdue c_103
    refine z_aload_n C dL_learns_106 rfl ?_
    refine z_iload_n C dL_learns_107 rfl ?_
    refine z_iload C dL_learns_108 rfl ?_
    refine z_iload C dL_learns_110 rfl ?_
    refine z_csw C (As := [_, _, _, _]) (c_L_learn (hτ.inv hI.1)) wd583 wd13 wd584 hd_learn wd582 (rok (by decide) (by decide)) ⟨Nat.le_of_ble_eq_true rfl, Nat.le_of_ble_eq_true rfl⟩ rfl (Nat.le_of_ble_eq_true rfl) dL_learns_112 ?_
    intro r112 τ h112
    obtain ⟨hτ, rfl⟩ := S_learn_no hτ h112 (j := 2) (K_learn_3 (by rw [enp]; exact ok_nI hj (by omega)) (by rw [eni]; exact ok_nI hq (by omega)) (in_nI (a := 0) (b := 4) (by omega) (by omega) (by omega)) (Or.inl (hσ1 ▸ knows_after (p := 0) (by omega)))) rfl
    refine z_ldc C (v := (-1000003)) wd443 dL_learns_115 ?_
    refine z_icmp_ne C 153 dL_learns_117 (by decide) (fun c_117 => ?_) (fun c_117 => ?_)
    · exact absurd rfl c_117
    refine z_aload_n C dL_learns_120 rfl ?_
    refine z_iconst C (v := 5) dL_learns_121 (by decide) ?_
    refine z_iload C dL_learns_122 rfl ?_
    refine z_iload C dL_learns_124 rfl ?_
    refine z_csw C (As := [_, _, _, _]) (c_L_learn (hτ.inv hI.1)) wd583 wd13 wd584 hd_learn wd582 (rok (by decide) (by decide)) ⟨Nat.le_of_ble_eq_true rfl, Nat.le_of_ble_eq_true rfl⟩ rfl (Nat.le_of_ble_eq_true rfl) dL_learns_126 ?_
    intro r126 τ h126
    obtain ⟨hτ, rfl⟩ := S_learn_no hτ h126 (j := 1) (K_learn_2 (by rw [enp]; exact ok_nI hj (by omega)) (by rw [eni]; exact ok_nI hq (by omega)) out5) rfl
    refine z_ldc C (v := (-1000002)) wd266 dL_learns_129 ?_
    refine z_icmp_ne C 153 dL_learns_131 (by decide) (fun c_131 => ?_) (fun c_131 => ?_)
    · exact absurd rfl c_131
    refine z_aload_n C dL_learns_134 rfl ?_
    refine z_iconst C (v := 5) dL_learns_135 (by decide) ?_
    refine z_aload_n C dL_learns_136 rfl ?_
    refine z_iconst C (v := 0) dL_learns_137 (by decide) ?_
    refine a_22 C (j := 0) (by decide) (by decide) dL_learns_138 ?_
    rw [hτ.k 22 0 0 (by decide), hI.2.1.1, enp]
    refine z_iload C dL_learns_139 rfl ?_
    refine z_csw C (As := [_, _, _, _]) (c_L_learn (hτ.inv hI.1)) wd583 wd13 wd584 hd_learn wd582 (rok (by decide) (by decide)) ⟨Nat.le_of_ble_eq_true rfl, Nat.le_of_ble_eq_true rfl⟩ rfl (Nat.le_of_ble_eq_true rfl) dL_learns_141 ?_
    intro r141 τ h141
    obtain ⟨hτ, rfl⟩ := S_learn_no hτ h141 (j := 0) (K_learn_1 (Or.inl (by rw [enp]; exact no_nI (Nat.le_refl _) (by omega)))) rfl
    refine z_ldc C (v := (-1000001)) wd367 dL_learns_144 ?_
    refine z_icmp_ne C 153 dL_learns_146 (by decide) (fun c_146 => ?_) (fun c_146 => ?_)
    · exact absurd rfl c_146
    refine z_iconst C (v := 1) dL_learns_149 (by decide) ?_
    refine z_goto C 154 dL_learns_150 (by decide) ?_
    refine z_istore C dL_learns_154 (by decide) ?_
    dsimp only [List.set]
    refine z_iload C dL_learns_156 rfl ?_
    refine z_if_eq C 210 dL_learns_158 (by decide) (fun c_158 => ?_) (fun c_158 => ?_)
    · exact absurd c_158 (by decide)
    refine z_aload_n C dL_learns_161 rfl ?_
    refine z_iload_n C dL_learns_162 rfl ?_
    refine z_csw C (As := [_, _]) (c_L_level) wd185 wd13 wd186 hd_level wd184 (rok (by decide) (by decide)) ⟨Nat.le_of_ble_eq_true rfl, Nat.le_of_ble_eq_true rfl⟩ rfl (Nat.le_of_ble_eq_true rfl) dL_learns_163 ?_
    intro r163 τ h163
    obtain ⟨hτ, rfl⟩ := S_pup 0 hτ h163 hw
    refine z_iload C dL_learns_166 rfl ?_
    refine z_if_eq C 176 dL_learns_168 (by decide) (fun c_168 => ?_) (fun c_168 => ?_)
    · exact absurd c_168 (by decide)
    refine z_iload C dL_learns_171 rfl ?_
    refine z_goto C 178 dL_learns_173 (by decide) ?_
    refine z_icmp_ne C 210 dL_learns_178 (by decide) (fun c_178 => ?_) (fun c_178 => ?_)
    · exact absurd (e15.trans hdue) c_178
    refine z_aload_n C dL_learns_181 rfl ?_
    refine z_iload_n C dL_learns_182 rfl ?_
    refine z_csw C (As := [_, _]) (c_L_known) wd268 wd13 wd269 hd_known wd267 (rok (by decide) (by decide)) ⟨Nat.le_of_ble_eq_true rfl, Nat.le_of_ble_eq_true rfl⟩ rfl (Nat.le_of_ble_eq_true rfl) dL_learns_183 ?_
    intro r183 τ h183
    obtain ⟨hτ, rfl⟩ := S_pup 1 hτ h183 hw
    refine z_iload C dL_learns_186 rfl ?_
    refine z_if_eq C 201 dL_learns_188 (by decide) (fun c_188 => ?_) (fun c_188 => ?_)
    · exact absurd c_188 (by decide)
    refine z_iload C dL_learns_191 rfl ?_
    refine z_iconst C (v := 1) dL_learns_193 (by decide) ?_
    refine z_iload C dL_learns_194 rfl ?_
    refine z_ishl C dL_learns_196 ?_
    refine z_ior C dL_learns_197 ?_
    refine z_goto C 203 dL_learns_198 (by decide) ?_
    refine z_icmp_ne C 210 dL_learns_203 (by decide) (fun c_203 => ?_) (fun c_203 => ?_)
    · exact absurd e151 c_203
    refine z_iconst C (v := 1) dL_learns_206 (by decide) ?_
    refine z_goto C 211 dL_learns_207 (by decide) ?_
    refine z_widen (mc := 40) (ms := 6 * 40) (by first | decide | omega) (by first | decide | omega) ?_
    refine z_zret C dL_learns_211 (by first | exact Or.inl rfl | exact Or.inr rfl | assumption) ?_
    exact ⟨rfl, hI.same hτ⟩
  · have hdue : lvL σ (nI w) (nI j) (nI q) = σ 15 w 0 + 1 := by unfold lvL; rw [ix_nI (show w < 2 ^ 31 by omega), hls, if_pos c_78]
    refine z_iload C dL_learns_81 rfl ?_
    refine z_iconst C (v := 1) dL_learns_83 (by decide) ?_
    refine z_iadd C dL_learns_84 ?_
    refine z_goto C 90 dL_learns_85 (by decide) ?_
    refine z_istore C dL_learns_90 (by decide) ?_
    dsimp only [List.set]
    refine z_aload_n C dL_learns_92 rfl ?_
    refine z_iload_n C dL_learns_93 rfl ?_
    refine z_iload C dL_learns_94 rfl ?_
    refine z_iload C dL_learns_96 rfl ?_
    refine z_csw C (As := [_, _, _, _]) (c_L_learn (hτ.inv hI.1)) wd583 wd13 wd584 hd_learn wd582 (rok (by decide) (by decide)) ⟨Nat.le_of_ble_eq_true rfl, Nat.le_of_ble_eq_true rfl⟩ rfl (Nat.le_of_ble_eq_true rfl) dL_learns_98 ?_
    intro r98 τ h98
    obtain ⟨hτ, e98⟩ := S_learn_yes hτ h98 hK
    obtain ⟨σ1, hσ1⟩ : ∃ σ1, σ1 = learnS σ σ (nI w) (nI j) (nI q) := ⟨_, rfl⟩
    rw [← hσ1] at hτ
    have hI : LInv T σ1 := by rw [hσ1]; exact LInv_learn hI hw
    have e15 : σ1 15 w 0 = lvL σ (nI w) (nI j) (nI q) := by rw [hσ1]; unfold learnS; rw [ix_nI (show w < 2 ^ 31 by omega), up_at]
    have e151 : σ1 15 w 1 = σ 15 w 1 ||| (1 <<< (nI j &&& 31)) := by rw [hσ1]; unfold learnS; rw [ix_nI (show w < 2 ^ 31 by omega), up_n (by omega), up_at]
    have enp : σ1 0 0 6 = nI np := by rw [hσ1]; unfold learnS; rw [up_n (by omega), up_n (by omega)]; exact enp
    have eni : σ1 0 0 7 = nI ni := by rw [hσ1]; unfold learnS; rw [up_n (by omega), up_n (by omega)]; exact eni
    subst e98
    refine z_iload C dL_learns_101 rfl ?_
    refine z_icmp_ne C 153 dL_learns_103 (by decide) (fun c_103 => ?_) (fun c_103 => ?_)
    · exact absurd hdue c_103
    refine z_aload_n C dL_learns_106 rfl ?_
    refine z_iload_n C dL_learns_107 rfl ?_
    refine z_iload C dL_learns_108 rfl ?_
    refine z_iload C dL_learns_110 rfl ?_
    refine z_csw C (As := [_, _, _, _]) (c_L_learn (hτ.inv hI.1)) wd583 wd13 wd584 hd_learn wd582 (rok (by decide) (by decide)) ⟨Nat.le_of_ble_eq_true rfl, Nat.le_of_ble_eq_true rfl⟩ rfl (Nat.le_of_ble_eq_true rfl) dL_learns_112 ?_
    intro r112 τ h112
    obtain ⟨hτ, rfl⟩ := S_learn_no hτ h112 (j := 2) (K_learn_3 (by rw [enp]; exact ok_nI hj (by omega)) (by rw [eni]; exact ok_nI hq (by omega)) (in_nI (a := 0) (b := 4) (by omega) (by omega) (by omega)) (Or.inl (hσ1 ▸ knows_after (p := 0) (by omega)))) rfl
    refine z_ldc C (v := (-1000003)) wd443 dL_learns_115 ?_
    refine z_icmp_ne C 153 dL_learns_117 (by decide) (fun c_117 => ?_) (fun c_117 => ?_)
    · exact absurd rfl c_117
    refine z_aload_n C dL_learns_120 rfl ?_
    refine z_iconst C (v := 5) dL_learns_121 (by decide) ?_
    refine z_iload C dL_learns_122 rfl ?_
    refine z_iload C dL_learns_124 rfl ?_
    refine z_csw C (As := [_, _, _, _]) (c_L_learn (hτ.inv hI.1)) wd583 wd13 wd584 hd_learn wd582 (rok (by decide) (by decide)) ⟨Nat.le_of_ble_eq_true rfl, Nat.le_of_ble_eq_true rfl⟩ rfl (Nat.le_of_ble_eq_true rfl) dL_learns_126 ?_
    intro r126 τ h126
    obtain ⟨hτ, rfl⟩ := S_learn_no hτ h126 (j := 1) (K_learn_2 (by rw [enp]; exact ok_nI hj (by omega)) (by rw [eni]; exact ok_nI hq (by omega)) out5) rfl
    refine z_ldc C (v := (-1000002)) wd266 dL_learns_129 ?_
    refine z_icmp_ne C 153 dL_learns_131 (by decide) (fun c_131 => ?_) (fun c_131 => ?_)
    · exact absurd rfl c_131
    refine z_aload_n C dL_learns_134 rfl ?_
    refine z_iconst C (v := 5) dL_learns_135 (by decide) ?_
    refine z_aload_n C dL_learns_136 rfl ?_
    refine z_iconst C (v := 0) dL_learns_137 (by decide) ?_
    refine a_22 C (j := 0) (by decide) (by decide) dL_learns_138 ?_
    rw [hτ.k 22 0 0 (by decide), hI.2.1.1, enp]
    refine z_iload C dL_learns_139 rfl ?_
    refine z_csw C (As := [_, _, _, _]) (c_L_learn (hτ.inv hI.1)) wd583 wd13 wd584 hd_learn wd582 (rok (by decide) (by decide)) ⟨Nat.le_of_ble_eq_true rfl, Nat.le_of_ble_eq_true rfl⟩ rfl (Nat.le_of_ble_eq_true rfl) dL_learns_141 ?_
    intro r141 τ h141
    obtain ⟨hτ, rfl⟩ := S_learn_no hτ h141 (j := 0) (K_learn_1 (Or.inl (by rw [enp]; exact no_nI (Nat.le_refl _) (by omega)))) rfl
    refine z_ldc C (v := (-1000001)) wd367 dL_learns_144 ?_
    refine z_icmp_ne C 153 dL_learns_146 (by decide) (fun c_146 => ?_) (fun c_146 => ?_)
    · exact absurd rfl c_146
    refine z_iconst C (v := 1) dL_learns_149 (by decide) ?_
    refine z_goto C 154 dL_learns_150 (by decide) ?_
    refine z_istore C dL_learns_154 (by decide) ?_
    dsimp only [List.set]
    refine z_iload C dL_learns_156 rfl ?_
    refine z_if_eq C 210 dL_learns_158 (by decide) (fun c_158 => ?_) (fun c_158 => ?_)
    · exact absurd c_158 (by decide)
    refine z_aload_n C dL_learns_161 rfl ?_
    refine z_iload_n C dL_learns_162 rfl ?_
    refine z_csw C (As := [_, _]) (c_L_level) wd185 wd13 wd186 hd_level wd184 (rok (by decide) (by decide)) ⟨Nat.le_of_ble_eq_true rfl, Nat.le_of_ble_eq_true rfl⟩ rfl (Nat.le_of_ble_eq_true rfl) dL_learns_163 ?_
    intro r163 τ h163
    obtain ⟨hτ, rfl⟩ := S_pup 0 hτ h163 hw
    refine z_iload C dL_learns_166 rfl ?_
    refine z_if_eq C 176 dL_learns_168 (by decide) (fun c_168 => ?_) (fun c_168 => ?_)
    · exact absurd c_168 (by decide)
    refine z_iload C dL_learns_171 rfl ?_
    refine z_goto C 178 dL_learns_173 (by decide) ?_
    refine z_icmp_ne C 210 dL_learns_178 (by decide) (fun c_178 => ?_) (fun c_178 => ?_)
    · exact absurd (e15.trans hdue) c_178
    refine z_aload_n C dL_learns_181 rfl ?_
    refine z_iload_n C dL_learns_182 rfl ?_
    refine z_csw C (As := [_, _]) (c_L_known) wd268 wd13 wd269 hd_known wd267 (rok (by decide) (by decide)) ⟨Nat.le_of_ble_eq_true rfl, Nat.le_of_ble_eq_true rfl⟩ rfl (Nat.le_of_ble_eq_true rfl) dL_learns_183 ?_
    intro r183 τ h183
    obtain ⟨hτ, rfl⟩ := S_pup 1 hτ h183 hw
    refine z_iload C dL_learns_186 rfl ?_
    refine z_if_eq C 201 dL_learns_188 (by decide) (fun c_188 => ?_) (fun c_188 => ?_)
    · exact absurd c_188 (by decide)
    refine z_iload C dL_learns_191 rfl ?_
    refine z_iconst C (v := 1) dL_learns_193 (by decide) ?_
    refine z_iload C dL_learns_194 rfl ?_
    refine z_ishl C dL_learns_196 ?_
    refine z_ior C dL_learns_197 ?_
    refine z_goto C 203 dL_learns_198 (by decide) ?_
    refine z_icmp_ne C 210 dL_learns_203 (by decide) (fun c_203 => ?_) (fun c_203 => ?_)
    · exact absurd e151 c_203
    refine z_iconst C (v := 1) dL_learns_206 (by decide) ?_
    refine z_goto C 211 dL_learns_207 (by decide) ?_
    refine z_widen (mc := 40) (ms := 6 * 40) (by first | decide | omega) (by first | decide | omega) ?_
    refine z_zret C dL_learns_211 (by first | exact Or.inl rfl | exact Or.inr rfl | assumption) ?_
    exact ⟨rfl, hI.same hτ⟩
end
section
variable {p : Program} {l : Launch} {e : Env} {R : Room} {s : State} {m : MethodId} {args : Array Value} {below : List Frame} {meth : Method} {c : Code} {D : va_G} {ad : Nat → Nat → Nat} {cy : Nat → ClassId} {A : Nat → Prop} {sa : Nat → Nat} {cells slots : Nat} {σ : St}
set_option maxRecDepth 100000 in
set_option maxHeartbeats 4000000 in
theorem lp_learns_no (C : Cx p l s m args meth c cL_learns "FretSchoolLaw" 12 (some .boolean) D ad cy A sa) {T : Nat} {σ : St} (hI : LInv T σ) {w np ni j q : Nat} (hw : w < 5) (enp : σ 0 0 6 = nI np) (hnp : np ≤ 8) (eni : σ 0 0 7 = nI ni) (hni : ni ≤ 8) (hj : j < np) (hq : q < ni) (hK : K_learn σ (nI w) (nI j) (nI q) = 3) (hno : knowsP σ (nI w) (nI j) ∨ lsV σ (nI w) (ix (nI j)) (ix (nI q)) = -1) {τ : St} (hτ : SameC σ τ) {o9 o10 o11 : Option Value} : Z p l e (rmD 10 40) s m args below meth c D ad cy A 12 (4) (24) (MQ below (va_Qi (fun r σ' => r = 1 ∧ LInv T σ') (Bw D ad cy) A) args s 40 (6 * 40) A) τ [some (.ref (ad 0 0)), some (.ref (ad 19 0)), some (.ref (ad 22 0)), some (.int (nI w)), some (.int (nI j)), some (.int (nI q)), some (.int (valH σ j q)), some (.int (σ 15 w 0)), some (.int (σ 15 w 1)), o9, o10, o11] 62 [.int 0] := by
  refine z_istore C dL_learns_62 (by decide) ?_
  dsimp only [List.set]
  refine z_iload C dL_learns_64 rfl ?_
  refine z_if_ne C 74 dL_learns_66 (by decide) (fun c_66 => ?_) (fun c_66 => ?_)
  · exact absurd rfl c_66
  refine z_ldc C (v := (-1000003)) wd443 dL_learns_69 ?_
  refine z_goto C 90 dL_learns_71 (by decide) ?_
  refine z_istore C dL_learns_90 (by decide) ?_
  dsimp only [List.set]
  refine z_aload_n C dL_learns_92 rfl ?_
  refine z_iload_n C dL_learns_93 rfl ?_
  refine z_iload C dL_learns_94 rfl ?_
  refine z_iload C dL_learns_96 rfl ?_
  refine z_csw C (As := [_, _, _, _]) (c_L_learn (hτ.inv hI.1)) wd583 wd13 wd584 hd_learn wd582 (rok (by decide) (by decide)) ⟨Nat.le_of_ble_eq_true rfl, Nat.le_of_ble_eq_true rfl⟩ rfl (Nat.le_of_ble_eq_true rfl) dL_learns_98 ?_
  intro r98 τ h98
  obtain ⟨hτ, rfl⟩ := S_learn_no hτ h98 (j := 2) hK rfl
  refine z_iload C dL_learns_101 rfl ?_
  refine z_icmp_ne C 153 dL_learns_103 (by decide) (fun c_103 => ?_) (fun c_103 => ?_)
  · exact absurd rfl c_103
  refine z_aload_n C dL_learns_106 rfl ?_
  refine z_iload_n C dL_learns_107 rfl ?_
  refine z_iload C dL_learns_108 rfl ?_
  refine z_iload C dL_learns_110 rfl ?_
  refine z_csw C (As := [_, _, _, _]) (c_L_learn (hτ.inv hI.1)) wd583 wd13 wd584 hd_learn wd582 (rok (by decide) (by decide)) ⟨Nat.le_of_ble_eq_true rfl, Nat.le_of_ble_eq_true rfl⟩ rfl (Nat.le_of_ble_eq_true rfl) dL_learns_112 ?_
  intro r112 τ h112
  obtain ⟨hτ, rfl⟩ := S_learn_no hτ h112 (j := 2) (K_learn_3 (by rw [enp]; exact ok_nI hj (by omega)) (by rw [eni]; exact ok_nI hq (by omega)) (in_nI (a := 0) (b := 4) (by omega) (by omega) (by omega)) hno) rfl
  refine z_ldc C (v := (-1000003)) wd443 dL_learns_115 ?_
  refine z_icmp_ne C 153 dL_learns_117 (by decide) (fun c_117 => ?_) (fun c_117 => ?_)
  · exact absurd rfl c_117
  refine z_aload_n C dL_learns_120 rfl ?_
  refine z_iconst C (v := 5) dL_learns_121 (by decide) ?_
  refine z_iload C dL_learns_122 rfl ?_
  refine z_iload C dL_learns_124 rfl ?_
  refine z_csw C (As := [_, _, _, _]) (c_L_learn (hτ.inv hI.1)) wd583 wd13 wd584 hd_learn wd582 (rok (by decide) (by decide)) ⟨Nat.le_of_ble_eq_true rfl, Nat.le_of_ble_eq_true rfl⟩ rfl (Nat.le_of_ble_eq_true rfl) dL_learns_126 ?_
  intro r126 τ h126
  obtain ⟨hτ, rfl⟩ := S_learn_no hτ h126 (j := 1) (K_learn_2 (by rw [enp]; exact ok_nI hj (by omega)) (by rw [eni]; exact ok_nI hq (by omega)) out5) rfl
  refine z_ldc C (v := (-1000002)) wd266 dL_learns_129 ?_
  refine z_icmp_ne C 153 dL_learns_131 (by decide) (fun c_131 => ?_) (fun c_131 => ?_)
  · exact absurd rfl c_131
  refine z_aload_n C dL_learns_134 rfl ?_
  refine z_iconst C (v := 5) dL_learns_135 (by decide) ?_
  refine z_aload_n C dL_learns_136 rfl ?_
  refine z_iconst C (v := 0) dL_learns_137 (by decide) ?_
  refine a_22 C (j := 0) (by decide) (by decide) dL_learns_138 ?_
  rw [hτ.k 22 0 0 (by decide), hI.2.1.1, enp]
  refine z_iload C dL_learns_139 rfl ?_
  refine z_csw C (As := [_, _, _, _]) (c_L_learn (hτ.inv hI.1)) wd583 wd13 wd584 hd_learn wd582 (rok (by decide) (by decide)) ⟨Nat.le_of_ble_eq_true rfl, Nat.le_of_ble_eq_true rfl⟩ rfl (Nat.le_of_ble_eq_true rfl) dL_learns_141 ?_
  intro r141 τ h141
  obtain ⟨hτ, rfl⟩ := S_learn_no hτ h141 (j := 0) (K_learn_1 (Or.inl (by rw [enp]; exact no_nI (Nat.le_refl _) (by omega)))) rfl
  refine z_ldc C (v := (-1000001)) wd367 dL_learns_144 ?_
  refine z_icmp_ne C 153 dL_learns_146 (by decide) (fun c_146 => ?_) (fun c_146 => ?_)
  · exact absurd rfl c_146
  refine z_iconst C (v := 1) dL_learns_149 (by decide) ?_
  refine z_goto C 154 dL_learns_150 (by decide) ?_
  refine z_istore C dL_learns_154 (by decide) ?_
  dsimp only [List.set]
  refine z_iload C dL_learns_156 rfl ?_
  refine z_if_eq C 210 dL_learns_158 (by decide) (fun c_158 => ?_) (fun c_158 => ?_)
  · exact absurd c_158 (by decide)
  refine z_aload_n C dL_learns_161 rfl ?_
  refine z_iload_n C dL_learns_162 rfl ?_
  refine z_csw C (As := [_, _]) (c_L_level) wd185 wd13 wd186 hd_level wd184 (rok (by decide) (by decide)) ⟨Nat.le_of_ble_eq_true rfl, Nat.le_of_ble_eq_true rfl⟩ rfl (Nat.le_of_ble_eq_true rfl) dL_learns_163 ?_
  intro r163 τ h163
  obtain ⟨hτ, rfl⟩ := S_pup 0 hτ h163 hw
  refine z_iload C dL_learns_166 rfl ?_
  refine z_if_eq C 176 dL_learns_168 (by decide) (fun c_168 => ?_) (fun c_168 => ?_)
  rotate_left
  · exact absurd rfl c_168
  refine z_iload C dL_learns_176 rfl ?_
  refine z_icmp_ne C 210 dL_learns_178 (by decide) (fun c_178 => ?_) (fun c_178 => ?_)
  · exact absurd rfl c_178
  refine z_aload_n C dL_learns_181 rfl ?_
  refine z_iload_n C dL_learns_182 rfl ?_
  refine z_csw C (As := [_, _]) (c_L_known) wd268 wd13 wd269 hd_known wd267 (rok (by decide) (by decide)) ⟨Nat.le_of_ble_eq_true rfl, Nat.le_of_ble_eq_true rfl⟩ rfl (Nat.le_of_ble_eq_true rfl) dL_learns_183 ?_
  intro r183 τ h183
  obtain ⟨hτ, rfl⟩ := S_pup 1 hτ h183 hw
  refine z_iload C dL_learns_186 rfl ?_
  refine z_if_eq C 201 dL_learns_188 (by decide) (fun c_188 => ?_) (fun c_188 => ?_)
  rotate_left
  · exact absurd rfl c_188
  refine z_iload C dL_learns_201 rfl ?_
  refine z_icmp_ne C 210 dL_learns_203 (by decide) (fun c_203 => ?_) (fun c_203 => ?_)
  · exact absurd rfl c_203
  refine z_iconst C (v := 1) dL_learns_206 (by decide) ?_
  refine z_goto C 211 dL_learns_207 (by decide) ?_
  refine z_widen (mc := 40) (ms := 6 * 40) (by first | decide | omega) (by first | decide | omega) ?_
  refine z_zret C dL_learns_211 (by first | exact Or.inl rfl | exact Or.inr rfl | assumption) ?_
  exact ⟨rfl, hI.same hτ⟩
end
set_option maxRecDepth 100000 in
set_option maxHeartbeats 4000000 in
theorem c_L_learns {l : Launch} {D : va_G} {ad : Nat → Nat → Nat} {cy : Nat → ClassId} {A : Nat → Prop} {sa : Nat → Nat} {σ : St} {T : Nat} (hI : LInv T σ) {w np ni j q : Nat} (hw : w < 5) (enp : σ 0 0 6 = nI np) (hnp : np ≤ 8) (eni : σ 0 0 7 = nI ni) (hni : ni ≤ 8) (hj : j < np) (hq : q < ni) : MK l D ad cy A sa yL_learns cL_learns 12 (some .boolean) 10 40 σ [.ref (ad 0 0), .ref (ad 19 0), .ref (ad 22 0), .int (nI w), .int (nI j), .int (nI q)] (fun r σ' => r = 1 ∧ LInv T σ') := by
  refine MK.mk "FretSchoolLaw" (by decide) rfl (Nat.le_of_ble_eq_true rfl) rfl ?_
  intro p e s m args below meth c C
  change Z _ _ _ _ _ _ _ _ _ _ _ _ _ _ _ _ _ _ _ [some (.ref (ad 0 0)), some (.ref (ad 19 0)), some (.ref (ad 22 0)), some (.int (nI w)), some (.int (nI j)), some (.int (nI q)), none, none, none, none, none, none] 0 []
  have hτ : SameC σ σ := SameC.rf
  obtain ⟨wq, hwq, e13, ef⟩ := hI.2.2.2.2.2.2.1 q (by omega) (by rw [eni]; exact nI_lt hq (by omega))
  obtain ⟨_, hf4, hf16⟩ := hI.1.fr (q := q) (by omega) (by rw [eni]; exact nI_lt hq (by omega))
  refine z_aload_n C dL_learns_0 rfl ?_
  refine z_iload C dL_learns_1 rfl ?_
  refine z_iload C dL_learns_3 rfl ?_
  refine z_csw C (As := [_, _, _]) (c_L_hardest (hτ.inv hI.1)) wd391 wd13 wd392 hd_hardest wd390 (rok (by decide) (by decide)) ⟨Nat.le_of_ble_eq_true rfl, Nat.le_of_ble_eq_true rfl⟩ rfl (Nat.le_of_ble_eq_true rfl) dL_learns_5 ?_
  intro r5 τ h5
  obtain ⟨hτ, e5⟩ := S_hard hτ h5 (by rw [enp]; exact ok_nI hj (by omega)) (by rw [eni]; exact ok_nI hq (by omega))
  rw [ix_nI (by omega), ix_nI (by omega)] at e5
  subst e5
  refine z_istore C dL_learns_8 (by decide) ?_
  dsimp only [List.set]
  refine z_aload_n C dL_learns_10 rfl ?_
  refine z_iload_n C dL_learns_11 rfl ?_
  refine z_csw C (As := [_, _]) (c_L_level) wd185 wd13 wd186 hd_level wd184 (rok (by decide) (by decide)) ⟨Nat.le_of_ble_eq_true rfl, Nat.le_of_ble_eq_true rfl⟩ rfl (Nat.le_of_ble_eq_true rfl) dL_learns_12 ?_
  intro r12 τ h12
  obtain ⟨hτ, rfl⟩ := S_pup 0 hτ h12 hw
  refine z_istore C dL_learns_15 (by decide) ?_
  dsimp only [List.set]
  refine z_aload_n C dL_learns_17 rfl ?_
  refine z_iload_n C dL_learns_18 rfl ?_
  refine z_csw C (As := [_, _]) (c_L_known) wd268 wd13 wd269 hd_known wd267 (rok (by decide) (by decide)) ⟨Nat.le_of_ble_eq_true rfl, Nat.le_of_ble_eq_true rfl⟩ rfl (Nat.le_of_ble_eq_true rfl) dL_learns_19 ?_
  intro r19 τ h19
  obtain ⟨hτ, rfl⟩ := S_pup 1 hτ h19 hw
  refine z_istore C dL_learns_22 (by decide) ?_
  dsimp only [List.set]
  refine z_aload_n C dL_learns_24 rfl ?_
  refine z_iload C dL_learns_25 rfl ?_
  refine a_19 C (j := q) rfl (by omega) dL_learns_27 ?_
  rw [hτ.k 19 0 q (by decide), ef]
  refine z_bipush C (v := 32) dL_learns_28 (by decide) ?_
  refine z_idiv C (by decide) dL_learns_30 ?_
  rw [div32 (by omega) (by omega)]
  refine z_iload_n C dL_learns_31 rfl ?_
  refine z_icmp_ne C 61 dL_learns_32 (by decide) (fun c_32 => ?_) (fun c_32 => ?_)
  · have hown : ¬ σ 13 q 1 = nI w := by rw [e13]; exact c_32
    refine z_iconst C (v := 0) dL_learns_61 (by decide) ?_
    have hno : knowsP σ (nI w) (nI j) ∨ lsV σ (nI w) (ix (nI j)) (ix (nI q)) = -1 := Or.inr (by rw [ix_nI (show j < 2 ^ 31 by omega), ix_nI (show q < 2 ^ 31 by omega), lsV_N hw, lsN_no (fun z => hown z.1)]; rfl)
    exact lp_learns_no C hI hw enp hnp eni hni hj hq (K_learn_3 (by rw [enp]; exact ok_nI hj (by omega)) (by rw [eni]; exact ok_nI hq (by omega)) (in_nI (a := 0) (b := 4) (by omega) (by omega) (by omega)) hno) hno hτ
  · have hown : σ 13 q 1 = nI w := by rw [e13]; exact c_32
    refine z_iload C dL_learns_35 rfl ?_
    refine z_iload C dL_learns_37 rfl ?_
    refine z_ishr C dL_learns_39 ?_
    refine z_iconst C (v := 1) dL_learns_40 (by decide) ?_
    refine z_iand C dL_learns_41 ?_
    refine z_if_ne C 61 dL_learns_42 (by decide) (fun c_42 => ?_) (fun c_42 => ?_)
    · have hfr : ¬ frN σ w j := fun h => c_42 ((shr_bit (by omega)).mpr h)
      refine z_iconst C (v := 0) dL_learns_61 (by decide) ?_
      have hno : knowsP σ (nI w) (nI j) ∨ lsV σ (nI w) (ix (nI j)) (ix (nI q)) = -1 := Or.inl (fun h => hfr (by rw [ix_nI (show w < 2 ^ 31 by omega)] at h; exact h))
      exact lp_learns_no C hI hw enp hnp eni hni hj hq (K_learn_3 (by rw [enp]; exact ok_nI hj (by omega)) (by rw [eni]; exact ok_nI hq (by omega)) (in_nI (a := 0) (b := 4) (by omega) (by omega) (by omega)) hno) hno hτ
    · have hfr : frN σ w j := (shr_bit (by omega)).mp c_42
      refine z_iload C dL_learns_45 rfl ?_
      refine z_if_lt C 61 dL_learns_47 (by decide) (fun c_47 => ?_) (fun c_47 => ?_)
      · have hpl : ¬ PL σ j q := fun h => by
          have e : valH σ j q = nI (HG σ j q) := if_pos h
          have := HG_lt h
          rw [e] at c_47
          exact nI_pos (by omega) c_47
        refine z_iconst C (v := 0) dL_learns_61 (by decide) ?_
        have hno : knowsP σ (nI w) (nI j) ∨ lsV σ (nI w) (ix (nI j)) (ix (nI q)) = -1 := Or.inr (by rw [ix_nI (show j < 2 ^ 31 by omega), ix_nI (show q < 2 ^ 31 by omega), lsV_N hw, lsN_no (fun z => hpl z.2.1)]; rfl)
        exact lp_learns_no C hI hw enp hnp eni hni hj hq (K_learn_3 (by rw [enp]; exact ok_nI hj (by omega)) (by rw [eni]; exact ok_nI hq (by omega)) (in_nI (a := 0) (b := 4) (by omega) (by omega) (by omega)) hno) hno hτ
      · have hpl : PL σ j q := Classical.byContradiction fun h => by
          have e : valH σ j q = -1 := if_neg h
          rw [e] at c_47
          exact c_47 (by decide)
        have evh : valH σ j q = nI (HG σ j q) := if_pos hpl
        have hh := HG_lt hpl
        refine z_iload C dL_learns_50 rfl ?_
        refine z_iload C dL_learns_52 rfl ?_
        refine z_icmp_gt C 61 dL_learns_54 (by decide) (fun c_54 => ?_) (fun c_54 => ?_)
        · have hlv : σ 15 w 0 < nI (HG σ j q) := by rw [← evh]; exact c_54
          refine z_iconst C (v := 0) dL_learns_61 (by decide) ?_
          have hno : knowsP σ (nI w) (nI j) ∨ lsV σ (nI w) (ix (nI j)) (ix (nI q)) = -1 := Or.inr (by rw [ix_nI (show j < 2 ^ 31 by omega), ix_nI (show q < 2 ^ 31 by omega), lsV_N hw, lsN_no (fun z => z.2.2 hlv)]; rfl)
          exact lp_learns_no C hI hw enp hnp eni hni hj hq (K_learn_3 (by rw [enp]; exact ok_nI hj (by omega)) (by rw [eni]; exact ok_nI hq (by omega)) (in_nI (a := 0) (b := 4) (by omega) (by omega) (by omega)) hno) hno hτ
        · have hlv : ¬ σ 15 w 0 < nI (HG σ j q) := by rw [← evh]; exact c_54
          refine z_iconst C (v := 1) dL_learns_57 (by decide) ?_
          refine z_goto C 62 dL_learns_58 (by decide) ?_
          have hls : lsV σ (nI w) (ix (nI j)) (ix (nI q)) = valH σ j q := by
            rw [ix_nI (show j < 2 ^ 31 by omega), ix_nI (show q < 2 ^ 31 by omega), lsV_N hw, lsN_yes hown hpl hlv, oN_v (by omega), evh]
          have hne : ¬ nI (HG σ j q) = -1 := fun h => by
            have h3 : ∀ k, k < 13 → ¬ nI k = -1 := by decide +kernel
            exact h3 _ hh h
          exact lp_learns_yes C hI hw enp hnp eni hni hj hq (K_learn_0 (by rw [enp]; exact ok_nI hj (by omega)) (by rw [eni]; exact ok_nI hq (by omega)) (in_nI (a := 0) (b := 4) (by omega) (by omega) (by omega)) (fun h => h (by rw [ix_nI (show w < 2 ^ 31 by omega)]; exact hfr)) (by rw [hls, evh]; exact hne)) hls hτ
