/-! ===== acts ===== -/
theorem K_wood_z {w x : Int32} (h : ¬ (outR w 0 3 ∨ outR x 1 20)) : K_wood w x = 0 := by unfold K_wood; rw [if_neg h]
theorem K_wood_1 {w x : Int32} (h : outR w 0 3 ∨ outR x 1 20) : K_wood w x = 1 := by unfold K_wood; rw [if_pos h]
theorem K_pass_z {σ : St} {x : Int32} (h : ¬ outR x 1 100) (h2 : σ 0 0 9 + x ≤ 5000) : K_pass σ x = 0 := by unfold K_pass; rw [if_neg h, if_neg (fun q => q h2)]
theorem K_pass_1 {σ : St} {x : Int32} (h : outR x 1 100) : K_pass σ x = 1 := by unfold K_pass; rw [if_pos h]
theorem K_tune_1 {σ : St} {q t x : Int32} (h : bad q (σ 0 0 7)) : K_tune σ q t x = 1 := by unfold K_tune; rw [if_pos h]
theorem K_tune_2 {σ : St} {q t x : Int32} (h1 : ¬ bad q (σ 0 0 7)) (h : outR t 0 3 ∨ outR x 0 60) : K_tune σ q t x = 2 := by unfold K_tune; rw [if_neg h1, if_pos h]
theorem K_tune_z {σ : St} {q t x : Int32} (h1 : ¬ bad q (σ 0 0 7)) (h : ¬ (outR t 0 3 ∨ outR x 0 60)) : K_tune σ q t x = 0 := by unfold K_tune; rw [if_neg h1, if_neg h]
section
variable {p : Program} {l : Launch} {e : Env} {R : Room} {s : State} {m : MethodId} {args : Array Value} {below : List Frame} {meth : Method} {c : Code} {D : va_G} {ad : Nat → Nat → Nat} {cy : Nat → ClassId} {A : Nat → Prop} {sa : Nat → Nat} {cells slots : Nat} {σ : St}
set_option maxRecDepth 100000 in
set_option maxHeartbeats 4000000 in
theorem lp_a37 (C : Cx p l s m args meth c cL_acts "FretSchoolLaw" 15 (some .boolean) D ad cy A sa) {T : Nat} {σ : St} (hI : LInv T σ) (hT : T ≤ 4000) (h0 : ad 99 0 = 0) {x y : Int32} {np ni : Nat} (enp : σ 0 0 6 = nI np) (hnp : np ≤ 8) (eni : σ 0 0 7 = nI ni) (hni : ni ≤ 8) {kk : Nat} {o10 o11 o12 o13 o14 : Option Value} : Z p l e (rmD 11 450) s m args below meth c D ad cy A 15 (0) (0) (MQ below (va_Qi (fun r σ' => r = 1 ∧ LInv (T + 20) σ') (Bw D ad cy) A) args s 450 (6 * 450) A) (σ) [some (.ref (ad 0 0)), some (.ref (ad 17 0)), some (.ref (ad 18 0)), some (.ref (ad 19 0)), some (.ref (ad 20 0)), some (.ref (ad 21 0)), some (.ref (ad 22 0)), some (.int x), some (.int y), some (.int (nI kk)), o10, o11, o12, o13, o14] 37 [] := by
  refine z_iload C dL_acts_37 rfl ?_
  refine z_iconst C (v := 4) dL_acts_39 (by decide) ?_
  refine z_csi C (As := [_, _]) (c_L_low (k := 4) rfl (by omega) (by omega)) okL_low wd447 (rok (by decide) (by decide)) ⟨Nat.le_of_ble_eq_true rfl, Nat.le_of_ble_eq_true rfl⟩ rfl (Nat.le_of_ble_eq_true rfl) dL_acts_40 ?_
  rintro _ _ ⟨rfl, rfl⟩
  have ht : lowN y 4 < 4 := lowN_lt (by omega)
  generalize lowN y 4 = t at ht ⊢
  refine z_istore C dL_acts_43 (by decide) ?_
  dsimp only [List.set]
  refine z_iconst C (v := 1) dL_acts_45 (by decide) ?_
  refine z_iload C dL_acts_46 rfl ?_
  refine z_iconst C (v := 2) dL_acts_48 (by decide) ?_
  refine z_ishr C dL_acts_49 ?_
  refine z_bipush C (v := 20) dL_acts_50 (by decide) ?_
  refine z_csi C (As := [_, _]) (c_L_low (k := 20) rfl (by omega) (by omega)) okL_low wd447 (rok (by decide) (by decide)) ⟨Nat.le_of_ble_eq_true rfl, Nat.le_of_ble_eq_true rfl⟩ rfl (Nat.le_of_ble_eq_true rfl) dL_acts_52 ?_
  rintro _ _ ⟨rfl, rfl⟩
  have hb : lowN (y >>> (2 &&& 31)) 20 < 20 := lowN_lt (by omega)
  generalize lowN (y >>> (2 &&& 31)) 20 = b at hb ⊢
  refine z_iadd C dL_acts_55 ?_
  rw [show (1 : Int32) + nI b = nI (1 + b) from nI_add 1 b]
  obtain ⟨v, hv⟩ : ∃ v, v = 1 + b := ⟨_, rfl⟩
  rw [← hv]
  refine z_istore C dL_acts_56 (by decide) ?_
  dsimp only [List.set]
  refine z_aload C dL_acts_58 rfl ?_
  refine z_iload C dL_acts_60 rfl ?_
  refine z_dup2 C dL_acts_62 rfl rfl ?_
  refine a_21 C (j := t) rfl ht dL_acts_63 ?_
  refine z_iload C dL_acts_64 rfl ?_
  refine z_iadd C dL_acts_66 ?_
  refine s_21 C (j := t) rfl ht dL_acts_67 ?_
  refine z_aload_n C dL_acts_68 rfl ?_
  refine z_iload C dL_acts_69 rfl ?_
  refine z_iload C dL_acts_71 rfl ?_
  refine z_csw C (As := [_, _, _]) (c_L_addWood) wd496 wd13 wd497 hd_addWood wd495 (rok (by decide) (by decide)) ⟨Nat.le_of_ble_eq_true rfl, Nat.le_of_ble_eq_true rfl⟩ rfl (Nat.le_of_ble_eq_true rfl) dL_acts_73 ?_
  intro r73 τ h73
  obtain ⟨e73, eτ⟩ := h73.yes (K_wood_z (fun q => q.elim (in_nI (a := 0) (b := 3) (by omega) (by omega) (by omega)) (in_nI (a := 1) (b := 20) (by omega) (by omega) (by omega))))
  rw [ix_nI (by omega), up_n (by omega)] at e73
  rw [ix_nI (by omega)] at eτ
  have hF : LInv (T + 20) τ := LInv.mono (T := T) (by omega) (by rw [← eτ]; exact LInv_wood hI ht)
  have e21 : τ 21 0 t = σ 5 0 t + nI v := by rw [← eτ, up_n (by omega), up_at, hI.2.2.2.2.2.2.2.2.1 t ht]
  clear eτ h73
  refine z_aload C dL_acts_76 rfl ?_
  refine z_iload C dL_acts_78 rfl ?_
  refine a_21 C (j := t) rfl ht dL_acts_80 ?_
  rw [e21]
  refine z_icmp_ne C 124 dL_acts_81 (by decide) (fun c_81 => ?_) (fun c_81 => ?_)
  · exact absurd e73 c_81
  refine z_aload_n C dL_acts_84 rfl ?_
  refine z_iconst C (v := 4) dL_acts_85 (by decide) ?_
  refine z_iconst C (v := 1) dL_acts_86 (by decide) ?_
  refine z_csw C (As := [_, _, _]) (c_L_addWood) wd496 wd13 wd497 hd_addWood wd495 (rok (by decide) (by decide)) ⟨Nat.le_of_ble_eq_true rfl, Nat.le_of_ble_eq_true rfl⟩ rfl (Nat.le_of_ble_eq_true rfl) dL_acts_87 ?_
  intro r87 τ87 h87
  obtain ⟨rfl, rfl⟩ := h87.not (j := 0) (K_wood_1 (Or.inl (Or.inr (by decide)))) rfl
  refine z_ldc C (v := (-1000002)) wd266 dL_acts_90 ?_
  refine z_icmp_ne C 124 dL_acts_92 (by decide) (fun c_92 => ?_) (fun c_92 => ?_)
  · exact absurd rfl c_92
  refine z_aload_n C dL_acts_95 rfl ?_
  refine z_iload C dL_acts_96 rfl ?_
  refine z_iconst C (v := 0) dL_acts_98 (by decide) ?_
  refine z_csw C (As := [_, _, _]) (c_L_addWood) wd496 wd13 wd497 hd_addWood wd495 (rok (by decide) (by decide)) ⟨Nat.le_of_ble_eq_true rfl, Nat.le_of_ble_eq_true rfl⟩ rfl (Nat.le_of_ble_eq_true rfl) dL_acts_99 ?_
  intro r99 τ99 h99
  obtain ⟨rfl, rfl⟩ := h99.not (j := 0) (K_wood_1 (Or.inr (Or.inl (by decide)))) rfl
  refine z_ldc C (v := (-1000002)) wd266 dL_acts_102 ?_
  refine z_icmp_ne C 124 dL_acts_104 (by decide) (fun c_104 => ?_) (fun c_104 => ?_)
  · exact absurd rfl c_104
  refine z_aload_n C dL_acts_107 rfl ?_
  refine z_iload C dL_acts_108 rfl ?_
  refine z_bipush C (v := 21) dL_acts_110 (by decide) ?_
  refine z_csw C (As := [_, _, _]) (c_L_addWood) wd496 wd13 wd497 hd_addWood wd495 (rok (by decide) (by decide)) ⟨Nat.le_of_ble_eq_true rfl, Nat.le_of_ble_eq_true rfl⟩ rfl (Nat.le_of_ble_eq_true rfl) dL_acts_112 ?_
  intro r112 τ112 h112
  obtain ⟨rfl, rfl⟩ := h112.not (j := 0) (K_wood_1 (Or.inr (Or.inr (by decide)))) rfl
  refine z_ldc C (v := (-1000002)) wd266 dL_acts_115 ?_
  refine z_icmp_ne C 124 dL_acts_117 (by decide) (fun c_117 => ?_) (fun c_117 => ?_)
  · exact absurd rfl c_117
  refine z_iconst C (v := 1) dL_acts_120 (by decide) ?_
  refine z_goto C 125 dL_acts_121 (by decide) ?_
  refine z_widen (mc := 450) (ms := 6 * 450) (by first | decide | omega) (by first | decide | omega) ?_
  refine z_zret C dL_acts_125 (by first | exact Or.inl rfl | exact Or.inr rfl | assumption) ?_
  exact ⟨rfl, hF⟩
end
section
variable {p : Program} {l : Launch} {e : Env} {R : Room} {s : State} {m : MethodId} {args : Array Value} {below : List Frame} {meth : Method} {c : Code} {D : va_G} {ad : Nat → Nat → Nat} {cy : Nat → ClassId} {A : Nat → Prop} {sa : Nat → Nat} {cells slots : Nat} {σ : St}
set_option maxRecDepth 100000 in
set_option maxHeartbeats 4000000 in
theorem lp_a157 (C : Cx p l s m args meth c cL_acts "FretSchoolLaw" 15 (some .boolean) D ad cy A sa) {T : Nat} {σ : St} (hI : LInv T σ) (hT : T ≤ 4000) (h0 : ad 99 0 = 0) {x y : Int32} {np ni : Nat} (enp : σ 0 0 6 = nI np) (hnp : np ≤ 8) (eni : σ 0 0 7 = nI ni) (hni : ni ≤ 8) {kk : Nat} {o10 o11 o12 o13 o14 : Option Value} : Z p l e (rmD 11 450) s m args below meth c D ad cy A 15 (0) (0) (MQ below (va_Qi (fun r σ' => r = 1 ∧ LInv (T + 20) σ') (Bw D ad cy) A) args s 450 (6 * 450) A) (σ) [some (.ref (ad 0 0)), some (.ref (ad 17 0)), some (.ref (ad 18 0)), some (.ref (ad 19 0)), some (.ref (ad 20 0)), some (.ref (ad 21 0)), some (.ref (ad 22 0)), some (.int x), some (.int y), some (.int (nI kk)), o10, o11, o12, o13, o14] 157 [] := by
  refine z_iconst C (v := 1) dL_acts_157 (by decide) ?_
  refine z_iload C dL_acts_158 rfl ?_
  refine z_bipush C (v := 20) dL_acts_160 (by decide) ?_
  refine z_csi C (As := [_, _]) (c_L_low (k := 20) rfl (by omega) (by omega)) okL_low wd447 (rok (by decide) (by decide)) ⟨Nat.le_of_ble_eq_true rfl, Nat.le_of_ble_eq_true rfl⟩ rfl (Nat.le_of_ble_eq_true rfl) dL_acts_162 ?_
  rintro _ _ ⟨rfl, rfl⟩
  have hb : lowN y 20 < 20 := lowN_lt (by omega)
  generalize lowN y 20 = b at hb ⊢
  refine z_iadd C dL_acts_165 ?_
  rw [show (1 : Int32) + nI b = nI (1 + b) from nI_add 1 b]
  obtain ⟨v, hv⟩ : ∃ v, v = 1 + b := ⟨_, rfl⟩
  rw [← hv]
  refine z_istore C dL_acts_166 (by decide) ?_
  dsimp only [List.set]
  refine z_aload C dL_acts_168 rfl ?_
  refine z_iconst C (v := 3) dL_acts_170 (by decide) ?_
  refine z_dup2 C dL_acts_171 rfl rfl ?_
  refine a_22 C (j := 3) (by decide) (by decide) dL_acts_172 ?_
  refine z_iload C dL_acts_173 rfl ?_
  refine z_iadd C dL_acts_175 ?_
  refine s_22 C (j := 3) (by decide) (by decide) dL_acts_176 ?_
  refine z_aload_n C dL_acts_177 rfl ?_
  refine z_iload C dL_acts_178 rfl ?_
  refine z_csw C (As := [_, _]) (c_L_pass) wd540 wd13 wd541 hd_pass wd539 (rok (by decide) (by decide)) ⟨Nat.le_of_ble_eq_true rfl, Nat.le_of_ble_eq_true rfl⟩ rfl (Nat.le_of_ble_eq_true rfl) dL_acts_180 ?_
  intro r180 τ h180
  obtain ⟨d, hd, ed⟩ := hI.2.2.1
  obtain ⟨e180, eτ⟩ := h180.yes (K_pass_z (in_nI (a := 1) (b := 100) (by omega) (by omega) (by omega)) (by rw [up_n (by omega), ed, nI_add]; exact nI_le (b := 5000) (by omega) (by omega)))
  have hF : LInv (T + 20) τ := by rw [← eτ]; exact LInv_pass hI ed hd (by omega)
  have e9 : r180 = τ 22 0 3 := by rw [hF.2.1.2.2.2, ← eτ, up_at]; exact e180
  clear eτ h180
  refine z_aload C dL_acts_183 rfl ?_
  refine z_iconst C (v := 3) dL_acts_185 (by decide) ?_
  refine a_22 C (j := 3) (by decide) (by decide) dL_acts_186 ?_
  refine z_icmp_ne C 226 dL_acts_187 (by decide) (fun c_187 => ?_) (fun c_187 => ?_)
  · exact absurd e9 c_187
  refine z_aload_n C dL_acts_190 rfl ?_
  refine z_cvi C (As := []) (c_X5_today) okX5_today wd175 rc_0 (rok (by decide) (by decide)) ⟨Nat.le_of_ble_eq_true rfl, Nat.le_of_ble_eq_true rfl⟩ rfl (Nat.le_of_ble_eq_true rfl) dL_acts_191 ?_
  rintro _ _ ⟨rfl, rfl⟩
  refine z_aload C dL_acts_194 rfl ?_
  refine z_iconst C (v := 3) dL_acts_196 (by decide) ?_
  refine a_22 C (j := 3) (by decide) (by decide) dL_acts_197 ?_
  refine z_icmp_ne C 226 dL_acts_198 (by decide) (fun c_198 => ?_) (fun c_198 => ?_)
  · exact absurd hF.2.1.2.2.2.symm c_198
  refine z_aload_n C dL_acts_201 rfl ?_
  refine z_iconst C (v := 0) dL_acts_202 (by decide) ?_
  refine z_csw C (As := [_, _]) (c_L_pass) wd540 wd13 wd541 hd_pass wd539 (rok (by decide) (by decide)) ⟨Nat.le_of_ble_eq_true rfl, Nat.le_of_ble_eq_true rfl⟩ rfl (Nat.le_of_ble_eq_true rfl) dL_acts_203 ?_
  intro r203 τ203 h203
  obtain ⟨rfl, rfl⟩ := h203.not (j := 0) (K_pass_1 (Or.inl (by decide))) rfl
  refine z_ldc C (v := (-1000002)) wd266 dL_acts_206 ?_
  refine z_icmp_ne C 226 dL_acts_208 (by decide) (fun c_208 => ?_) (fun c_208 => ?_)
  · exact absurd rfl c_208
  refine z_aload_n C dL_acts_211 rfl ?_
  refine z_bipush C (v := 101) dL_acts_212 (by decide) ?_
  refine z_csw C (As := [_, _]) (c_L_pass) wd540 wd13 wd541 hd_pass wd539 (rok (by decide) (by decide)) ⟨Nat.le_of_ble_eq_true rfl, Nat.le_of_ble_eq_true rfl⟩ rfl (Nat.le_of_ble_eq_true rfl) dL_acts_214 ?_
  intro r214 τ214 h214
  obtain ⟨rfl, rfl⟩ := h214.not (j := 0) (K_pass_1 (Or.inr (by decide))) rfl
  refine z_ldc C (v := (-1000002)) wd266 dL_acts_217 ?_
  refine z_icmp_ne C 226 dL_acts_219 (by decide) (fun c_219 => ?_) (fun c_219 => ?_)
  · exact absurd rfl c_219
  refine z_iconst C (v := 1) dL_acts_222 (by decide) ?_
  refine z_goto C 227 dL_acts_223 (by decide) ?_
  refine z_widen (mc := 450) (ms := 6 * 450) (by first | decide | omega) (by first | decide | omega) ?_
  refine z_zret C dL_acts_227 (by first | exact Or.inl rfl | exact Or.inr rfl | assumption) ?_
  exact ⟨rfl, hF⟩
end
section
variable {p : Program} {l : Launch} {e : Env} {R : Room} {s : State} {m : MethodId} {args : Array Value} {below : List Frame} {meth : Method} {c : Code} {D : va_G} {ad : Nat → Nat → Nat} {cy : Nat → ClassId} {A : Nat → Prop} {sa : Nat → Nat} {cells slots : Nat} {σ : St}
set_option maxRecDepth 100000 in
set_option maxHeartbeats 4000000 in
theorem lp_a266 (C : Cx p l s m args meth c cL_acts "FretSchoolLaw" 15 (some .boolean) D ad cy A sa) {T : Nat} {σ : St} (hI : LInv T σ) (hT : T ≤ 4000) (h0 : ad 99 0 = 0) {x y : Int32} {np ni : Nat} (enp : σ 0 0 6 = nI np) (hnp : np ≤ 8) (eni : σ 0 0 7 = nI ni) (hni : ni ≤ 8) {kk : Nat} {o10 o11 o12 o13 o14 : Option Value} : Z p l e (rmD 11 450) s m args below meth c D ad cy A 15 (0) (0) (MQ below (va_Qi (fun r σ' => r = 1 ∧ LInv (T + 20) σ') (Bw D ad cy) A) args s 450 (6 * 450) A) (σ) [some (.ref (ad 0 0)), some (.ref (ad 17 0)), some (.ref (ad 18 0)), some (.ref (ad 19 0)), some (.ref (ad 20 0)), some (.ref (ad 21 0)), some (.ref (ad 22 0)), some (.int x), some (.int y), some (.int (nI kk)), o10, o11, o12, o13, o14] 266 [] := by
  refine z_aload_n C dL_acts_266 rfl ?_
  refine z_aload C dL_acts_267 rfl ?_
  refine z_iconst C (v := 1) dL_acts_269 (by decide) ?_
  refine a_22 C (j := 1) (by decide) (by decide) dL_acts_270 ?_
  rw [hI.2.1.2.1, eni]
  refine z_bipush C (v := 9) dL_acts_271 (by decide) ?_
  refine z_iconst C (v := 0) dL_acts_273 (by decide) ?_
  refine z_csw C (As := [_, _, _, _]) (c_L_tune hI.1) wd576 wd13 wd577 hd_tune wd575 (rok (by decide) (by decide)) ⟨Nat.le_of_ble_eq_true rfl, Nat.le_of_ble_eq_true rfl⟩ rfl (Nat.le_of_ble_eq_true rfl) dL_acts_274 ?_
  intro r274 τ274 h274
  obtain ⟨rfl, rfl⟩ := h274.not (j := 0) (K_tune_1 (by rw [eni]; exact no_nI (Nat.le_refl _) (by omega))) rfl
  refine z_ldc C (v := (-1000001)) wd367 dL_acts_277 ?_
  refine z_icmp_ne C 317 dL_acts_279 (by decide) (fun c_279 => ?_) (fun c_279 => ?_)
  · exact absurd rfl c_279
  refine z_aload_n C dL_acts_282 rfl ?_
  refine z_iconst C (v := 0) dL_acts_283 (by decide) ?_
  refine z_iconst C (v := 0) dL_acts_284 (by decide) ?_
  refine z_aload C dL_acts_285 rfl ?_
  refine z_iconst C (v := 1) dL_acts_287 (by decide) ?_
  refine a_22 C (j := 1) (by decide) (by decide) dL_acts_288 ?_
  rw [hI.2.1.2.1, eni]
  refine z_csw C (As := [_, _, _, _]) (c_L_learn hI.1) wd583 wd13 wd584 hd_learn wd582 (rok (by decide) (by decide)) ⟨Nat.le_of_ble_eq_true rfl, Nat.le_of_ble_eq_true rfl⟩ rfl (Nat.le_of_ble_eq_true rfl) dL_acts_289 ?_
  intro r289 τ h289
  obtain ⟨hs, rfl⟩ := S_learn_no SameC.rf h289 (j := 0) (K_learn_1 (Or.inr (by rw [eni]; exact no_nI (Nat.le_refl _) (by omega)))) rfl
  have hI2 := hI.same hs
  refine z_ldc C (v := (-1000001)) wd367 dL_acts_292 ?_
  refine z_icmp_ne C 317 dL_acts_294 (by decide) (fun c_294 => ?_) (fun c_294 => ?_)
  · exact absurd rfl c_294
  refine z_aload_n C dL_acts_297 rfl ?_
  refine z_aload_n C dL_acts_298 rfl ?_
  refine z_aload C dL_acts_299 rfl ?_
  refine z_iload C dL_acts_301 rfl ?_
  refine z_iconst C (v := 5) dL_acts_303 (by decide) ?_
  refine z_csi C (As := [_, _]) (c_L_low (k := 5) rfl (by omega) (by omega)) okL_low wd447 (rok (by decide) (by decide)) ⟨Nat.le_of_ble_eq_true rfl, Nat.le_of_ble_eq_true rfl⟩ rfl (Nat.le_of_ble_eq_true rfl) dL_acts_304 ?_
  rintro _ _ ⟨rfl, rfl⟩
  have hw : lowN y 5 < 5 := lowN_lt (by omega)
  generalize lowN y 5 = w at hw ⊢
  refine z_csk C (As := [_, _, _, _]) (c_L_nexts hI2 hw) okL_nexts wd595 (rok (by decide) (by decide)) ⟨Nat.le_of_ble_eq_true rfl, Nat.le_of_ble_eq_true rfl⟩ rfl (Nat.le_of_ble_eq_true rfl) dL_acts_307 ?_
  rintro _ τ2 ⟨rfl, hs2⟩
  have hF : LInv (T + 20) τ2 := (hI2.same hs2).mono (by omega)
  refine z_if_eq C 317 dL_acts_310 (by decide) (fun c_310 => ?_) (fun c_310 => ?_)
  · exact absurd c_310 (by decide)
  refine z_iconst C (v := 1) dL_acts_313 (by decide) ?_
  refine z_goto C 318 dL_acts_314 (by decide) ?_
  refine z_widen (mc := 450) (ms := 6 * 450) (by first | decide | omega) (by first | decide | omega) ?_
  refine z_zret C dL_acts_318 (by first | exact Or.inl rfl | exact Or.inr rfl | assumption) ?_
  exact ⟨rfl, hF⟩
end
section
variable {p : Program} {l : Launch} {e : Env} {R : Room} {s : State} {m : MethodId} {args : Array Value} {below : List Frame} {meth : Method} {c : Code} {D : va_G} {ad : Nat → Nat → Nat} {cy : Nat → ClassId} {A : Nat → Prop} {sa : Nat → Nat} {cells slots : Nat} {σ : St}
set_option maxRecDepth 100000 in
set_option maxHeartbeats 4000000 in
theorem lp_a350 (C : Cx p l s m args meth c cL_acts "FretSchoolLaw" 15 (some .boolean) D ad cy A sa) {T : Nat} {σ : St} (hI : LInv T σ) (hT : T ≤ 4000) (h0 : ad 99 0 = 0) {x y : Int32} {np ni : Nat} (enp : σ 0 0 6 = nI np) (hnp : np ≤ 8) (eni : σ 0 0 7 = nI ni) (hni : ni ≤ 8) {q j : Nat} (hq : q < ni) (hj : j < np) {kk : Nat} {o12 o13 o14 : Option Value} : Z p l e (rmD 11 450) s m args below meth c D ad cy A 15 (0) (0) (MQ below (va_Qi (fun r σ' => r = 1 ∧ LInv (T + 20) σ') (Bw D ad cy) A) args s 450 (6 * 450) A) (σ) [some (.ref (ad 0 0)), some (.ref (ad 17 0)), some (.ref (ad 18 0)), some (.ref (ad 19 0)), some (.ref (ad 20 0)), some (.ref (ad 21 0)), some (.ref (ad 22 0)), some (.int x), some (.int y), some (.int (nI kk)), some (.int (nI q)), some (.int (nI j)), o12, o13, o14] 350 [] := by
  refine z_iload C dL_acts_350 rfl ?_
  refine z_bipush C (v := 6) dL_acts_352 (by decide) ?_
  refine z_ishr C dL_acts_354 ?_
  refine z_iconst C (v := 4) dL_acts_355 (by decide) ?_
  refine z_csi C (As := [_, _]) (c_L_low (k := 4) rfl (by omega) (by omega)) okL_low wd447 (rok (by decide) (by decide)) ⟨Nat.le_of_ble_eq_true rfl, Nat.le_of_ble_eq_true rfl⟩ rfl (Nat.le_of_ble_eq_true rfl) dL_acts_356 ?_
  rintro _ _ ⟨rfl, rfl⟩
  have ht : lowN (y >>> (6 &&& 31)) 4 < 4 := lowN_lt (by omega)
  generalize lowN (y >>> (6 &&& 31)) 4 = t at ht ⊢
  refine z_istore C dL_acts_359 (by decide) ?_
  dsimp only [List.set]
  refine z_iload C dL_acts_361 rfl ?_
  refine z_bipush C (v := 8) dL_acts_363 (by decide) ?_
  refine z_ishr C dL_acts_365 ?_
  refine z_bipush C (v := 61) dL_acts_366 (by decide) ?_
  refine z_csi C (As := [_, _]) (c_L_low (k := 61) rfl (by omega) (by omega)) okL_low wd447 (rok (by decide) (by decide)) ⟨Nat.le_of_ble_eq_true rfl, Nat.le_of_ble_eq_true rfl⟩ rfl (Nat.le_of_ble_eq_true rfl) dL_acts_368 ?_
  rintro _ _ ⟨rfl, rfl⟩
  have hv : lowN (y >>> (8 &&& 31)) 61 < 61 := lowN_lt (by omega)
  generalize lowN (y >>> (8 &&& 31)) 61 = v at hv ⊢
  refine z_istore C dL_acts_371 (by decide) ?_
  dsimp only [List.set]
  refine z_aload_n C dL_acts_373 rfl ?_
  refine z_iconst C (v := 4) dL_acts_374 (by decide) ?_
  refine z_iload C dL_acts_375 rfl ?_
  refine z_imul C dL_acts_377 ?_
  refine z_iload C dL_acts_378 rfl ?_
  refine z_iadd C dL_acts_380 ?_
  refine a_18 C (j := 4 * q + t) (ix4 q t) (by omega) dL_acts_381 ?_
  refine z_istore C dL_acts_382 (by decide) ?_
  dsimp only [List.set]
  refine z_aload_n C dL_acts_384 rfl ?_
  refine z_iconst C (v := 4) dL_acts_385 (by decide) ?_
  refine z_iload C dL_acts_386 rfl ?_
  refine z_imul C dL_acts_388 ?_
  refine z_iload C dL_acts_389 rfl ?_
  refine z_iadd C dL_acts_391 ?_
  refine z_iload C dL_acts_392 rfl ?_
  refine s_18 C (j := 4 * q + t) (ix4 q t) (by omega) dL_acts_394 ?_
  refine z_aload_n C dL_acts_395 rfl ?_
  refine z_iload C dL_acts_396 rfl ?_
  refine z_iload C dL_acts_398 rfl ?_
  refine z_iload C dL_acts_400 rfl ?_
  refine z_csw C (As := [_, _, _, _]) (c_L_tune (Inv_law (by omega) hI.1)) wd576 wd13 wd577 hd_tune wd575 (rok (by decide) (by decide)) ⟨Nat.le_of_ble_eq_true rfl, Nat.le_of_ble_eq_true rfl⟩ rfl (Nat.le_of_ble_eq_true rfl) dL_acts_402 ?_
  intro r402 τ h402
  obtain ⟨e402, eτ⟩ := h402.yes (K_tune_z (by rw [up_n (by omega), eni]; exact ok_nI hq (by omega)) (fun z => z.elim (in_nI (a := 0) (b := 3) (by omega) (by omega) (by omega)) (in_nI (a := 0) (b := 60) (by omega) (by omega) (by omega))))
  rw [ix_nI (show q < 2 ^ 31 by omega), ix_nI (show t < 2 ^ 31 by omega)] at e402 eτ
  have e402 : r402 = σ 18 0 (4 * q + t) := by rw [e402, up_n (by omega), hI.2.2.2.2.2.1 q t (by omega) ht]
  have hI2 : LInv T τ := by rw [← eτ]; exact LInv_tune hI (by omega) ht
  have eni2 : τ 0 0 7 = nI ni := by rw [← eτ, up_n (by omega), up_n (by omega)]; exact eni
  clear eτ h402
  have hI := hI2
  have eni := eni2
  have hF : LInv (T + 20) τ := hI2.mono (by omega)
  refine z_iload C dL_acts_405 rfl ?_
  refine z_icmp_ne C 457 dL_acts_407 (by decide) (fun c_407 => ?_) (fun c_407 => ?_)
  · exact absurd e402 c_407
  refine z_aload_n C dL_acts_410 rfl ?_
  refine z_iload C dL_acts_411 rfl ?_
  refine z_iconst C (v := 4) dL_acts_413 (by decide) ?_
  refine z_iconst C (v := 0) dL_acts_414 (by decide) ?_
  refine z_csw C (As := [_, _, _, _]) (c_L_tune hI.1) wd576 wd13 wd577 hd_tune wd575 (rok (by decide) (by decide)) ⟨Nat.le_of_ble_eq_true rfl, Nat.le_of_ble_eq_true rfl⟩ rfl (Nat.le_of_ble_eq_true rfl) dL_acts_415 ?_
  intro r415 τ415 h415
  obtain ⟨rfl, rfl⟩ := h415.not (j := 1) (K_tune_2 (by rw [eni]; exact ok_nI hq (by omega)) (Or.inl (Or.inr (by decide)))) rfl
  refine z_ldc C (v := (-1000002)) wd266 dL_acts_418 ?_
  refine z_icmp_ne C 457 dL_acts_420 (by decide) (fun c_420 => ?_) (fun c_420 => ?_)
  · exact absurd rfl c_420
  refine z_aload_n C dL_acts_423 rfl ?_
  refine z_iload C dL_acts_424 rfl ?_
  refine z_iconst C (v := 0) dL_acts_426 (by decide) ?_
  refine z_bipush C (v := 61) dL_acts_427 (by decide) ?_
  refine z_csw C (As := [_, _, _, _]) (c_L_tune hI.1) wd576 wd13 wd577 hd_tune wd575 (rok (by decide) (by decide)) ⟨Nat.le_of_ble_eq_true rfl, Nat.le_of_ble_eq_true rfl⟩ rfl (Nat.le_of_ble_eq_true rfl) dL_acts_429 ?_
  intro r429 τ429 h429
  obtain ⟨rfl, rfl⟩ := h429.not (j := 1) (K_tune_2 (by rw [eni]; exact ok_nI hq (by omega)) (Or.inr (Or.inr (by decide)))) rfl
  refine z_ldc C (v := (-1000002)) wd266 dL_acts_432 ?_
  refine z_icmp_ne C 457 dL_acts_434 (by decide) (fun c_434 => ?_) (fun c_434 => ?_)
  · exact absurd rfl c_434
  refine z_aload_n C dL_acts_437 rfl ?_
  refine z_aload C dL_acts_438 rfl ?_
  refine z_iconst C (v := 1) dL_acts_440 (by decide) ?_
  refine a_22 C (j := 1) (by decide) (by decide) dL_acts_441 ?_
  rw [hI.2.1.2.1, eni]
  refine z_bipush C (v := 9) dL_acts_442 (by decide) ?_
  refine z_iconst C (v := 0) dL_acts_444 (by decide) ?_
  refine z_csw C (As := [_, _, _, _]) (c_L_tune hI.1) wd576 wd13 wd577 hd_tune wd575 (rok (by decide) (by decide)) ⟨Nat.le_of_ble_eq_true rfl, Nat.le_of_ble_eq_true rfl⟩ rfl (Nat.le_of_ble_eq_true rfl) dL_acts_445 ?_
  intro r445 τ445 h445
  obtain ⟨rfl, rfl⟩ := h445.not (j := 0) (K_tune_1 (by rw [eni]; exact no_nI (Nat.le_refl _) (by omega))) rfl
  refine z_ldc C (v := (-1000001)) wd367 dL_acts_448 ?_
  refine z_icmp_ne C 457 dL_acts_450 (by decide) (fun c_450 => ?_) (fun c_450 => ?_)
  · exact absurd rfl c_450
  refine z_iconst C (v := 1) dL_acts_453 (by decide) ?_
  refine z_goto C 458 dL_acts_454 (by decide) ?_
  refine z_widen (mc := 450) (ms := 6 * 450) (by first | decide | omega) (by first | decide | omega) ?_
  refine z_zret C dL_acts_458 (by first | exact Or.inl rfl | exact Or.inr rfl | assumption) ?_
  exact ⟨rfl, hF⟩
end
section
variable {p : Program} {l : Launch} {e : Env} {R : Room} {s : State} {m : MethodId} {args : Array Value} {below : List Frame} {meth : Method} {c : Code} {D : va_G} {ad : Nat → Nat → Nat} {cy : Nat → ClassId} {A : Nat → Prop} {sa : Nat → Nat} {cells slots : Nat} {σ : St}
set_option maxRecDepth 100000 in
set_option maxHeartbeats 4000000 in
theorem lp_a497 (C : Cx p l s m args meth c cL_acts "FretSchoolLaw" 15 (some .boolean) D ad cy A sa) {T : Nat} {σ : St} (hI : LInv T σ) (hT : T ≤ 4000) (h0 : ad 99 0 = 0) {x y : Int32} {np ni : Nat} (enp : σ 0 0 6 = nI np) (hnp : np ≤ 8) (eni : σ 0 0 7 = nI ni) (hni : ni ≤ 8) {q j : Nat} (hq : q < ni) (hj : j < np) {kk w : Nat} (hw : w < 5) {o12 o13 o14 : Option Value} : Z p l e (rmD 11 450) s m args below meth c D ad cy A 15 (0) (0) (MQ below (va_Qi (fun r σ' => r = 1 ∧ LInv (T + 20) σ') (Bw D ad cy) A) args s 450 (6 * 450) A) (σ) [some (.ref (ad 0 0)), some (.ref (ad 17 0)), some (.ref (ad 18 0)), some (.ref (ad 19 0)), some (.ref (ad 20 0)), some (.ref (ad 21 0)), some (.ref (ad 22 0)), some (.int x), some (.int y), some (.int (nI kk)), some (.int (nI q)), some (.int (nI j)), o12, o13, o14] 497 [.int (nI w)] := by
  refine z_istore C dL_acts_497 (by decide) ?_
  dsimp only [List.set]
  refine z_aload_n C dL_acts_499 rfl ?_
  refine z_aload_n C dL_acts_500 rfl ?_
  refine z_aload C dL_acts_501 rfl ?_
  refine z_iload C dL_acts_503 rfl ?_
  refine z_iload C dL_acts_505 rfl ?_
  refine z_iload C dL_acts_507 rfl ?_
  refine z_csk C (As := [_, _, _, _, _, _]) (c_L_learns hI hw enp hnp eni hni hj hq) okL_learns wd598 (rok (by decide) (by decide)) ⟨Nat.le_of_ble_eq_true rfl, Nat.le_of_ble_eq_true rfl⟩ rfl (Nat.le_of_ble_eq_true rfl) dL_acts_509 ?_
  rintro _ τ ⟨rfl, hI2⟩
  refine z_if_eq C 531 dL_acts_512 (by decide) (fun c_512 => ?_) (fun c_512 => ?_)
  · exact absurd c_512 (by decide)
  refine z_aload_n C dL_acts_515 rfl ?_
  refine z_aload_n C dL_acts_516 rfl ?_
  refine z_aload C dL_acts_517 rfl ?_
  refine z_iload C dL_acts_519 rfl ?_
  refine z_csk C (As := [_, _, _, _]) (c_L_nexts hI2 hw) okL_nexts wd595 (rok (by decide) (by decide)) ⟨Nat.le_of_ble_eq_true rfl, Nat.le_of_ble_eq_true rfl⟩ rfl (Nat.le_of_ble_eq_true rfl) dL_acts_521 ?_
  rintro _ τ2 ⟨rfl, hs2⟩
  have hF : LInv (T + 20) τ2 := (hI2.same hs2).mono (by omega)
  refine z_if_eq C 531 dL_acts_524 (by decide) (fun c_524 => ?_) (fun c_524 => ?_)
  · exact absurd c_524 (by decide)
  refine z_iconst C (v := 1) dL_acts_527 (by decide) ?_
  refine z_goto C 532 dL_acts_528 (by decide) ?_
  refine z_widen (mc := 450) (ms := 6 * 450) (by first | decide | omega) (by first | decide | omega) ?_
  refine z_zret C dL_acts_532 (by first | exact Or.inl rfl | exact Or.inr rfl | assumption) ?_
  exact ⟨rfl, hF⟩
end
set_option maxRecDepth 100000 in
set_option maxHeartbeats 4000000 in
theorem c_L_acts {l : Launch} {D : va_G} {ad : Nat → Nat → Nat} {cy : Nat → ClassId} {A : Nat → Prop} {sa : Nat → Nat} {σ : St} {T : Nat} (hI : LInv T σ) (hT : T ≤ 4000) (h0 : ad 99 0 = 0) {x y : Int32} : MK l D ad cy A sa yL_acts cL_acts 15 (some .boolean) 11 450 σ [.ref (ad 0 0), .ref (ad 17 0), .ref (ad 18 0), .ref (ad 19 0), .ref (ad 20 0), .ref (ad 21 0), .ref (ad 22 0), .int x, .int y] (fun r σ' => r = 1 ∧ LInv (T + 20) σ') := by
  refine MK.mk "FretSchoolLaw" (by decide) rfl (Nat.le_of_ble_eq_true rfl) rfl ?_
  intro p e s m args below meth c C
  change Z _ _ _ _ _ _ _ _ _ _ _ _ _ _ _ _ _ _ _ [some (.ref (ad 0 0)), some (.ref (ad 17 0)), some (.ref (ad 18 0)), some (.ref (ad 19 0)), some (.ref (ad 20 0)), some (.ref (ad 21 0)), some (.ref (ad 22 0)), some (.int x), some (.int y), none, none, none, none, none, none] 0 []
  obtain ⟨np, hnp, enp⟩ := hI.1.1
  obtain ⟨ni, hni, eni⟩ := hI.1.2.1
  refine z_iload C dL_acts_0 rfl ?_
  refine z_bipush C (v := 30) dL_acts_2 (by decide) ?_
  refine z_csi C (As := [_, _]) (c_L_low (k := 30) rfl (by omega) (by omega)) okL_low wd447 (rok (by decide) (by decide)) ⟨Nat.le_of_ble_eq_true rfl, Nat.le_of_ble_eq_true rfl⟩ rfl (Nat.le_of_ble_eq_true rfl) dL_acts_4 ?_
  rintro _ _ ⟨rfl, rfl⟩
  have hkk : lowN x 30 < 30 := lowN_lt (by omega)
  generalize lowN x 30 = kk at hkk ⊢
  refine z_istore C dL_acts_7 (by decide) ?_
  dsimp only [List.set]
  refine z_iload C dL_acts_9 rfl ?_
  refine z_bipush C (v := 12) dL_acts_11 (by decide) ?_
  refine z_icmp_ge C 30 dL_acts_13 (by decide) (fun c_13 => ?_) (fun c_13 => ?_)
  · refine z_iload C dL_acts_30 rfl ?_
    refine z_bipush C (v := 14) dL_acts_32 (by decide) ?_
    refine z_icmp_ge C 126 dL_acts_34 (by decide) (fun c_34 => ?_) (fun c_34 => ?_)
    · have h34 : 14 ≤ kk := by rw [show (14 : Int32) = nI 14 from rfl, nI_leI (by omega) (by omega)] at c_34; exact c_34
      refine z_iload C dL_acts_126 rfl ?_
      refine z_bipush C (v := 17) dL_acts_128 (by decide) ?_
      refine z_icmp_ge C 150 dL_acts_130 (by decide) (fun c_130 => ?_) (fun c_130 => ?_)
      · have h130 : 17 ≤ kk := by rw [show (17 : Int32) = nI 17 from rfl, nI_leI (by omega) (by omega)] at c_130; exact c_130
        refine z_iload C dL_acts_150 rfl ?_
        refine z_bipush C (v := 20) dL_acts_152 (by decide) ?_
        refine z_icmp_ge C 228 dL_acts_154 (by decide) (fun c_154 => ?_) (fun c_154 => ?_)
        · have h154 : 20 ≤ kk := by rw [show (20 : Int32) = nI 20 from rfl, nI_leI (by omega) (by omega)] at c_154; exact c_154
          refine z_iload C dL_acts_228 rfl ?_
          refine z_bipush C (v := 23) dL_acts_230 (by decide) ?_
          refine z_icmp_ge C 252 dL_acts_232 (by decide) (fun c_232 => ?_) (fun c_232 => ?_)
          · have h232 : 23 ≤ kk := by rw [show (23 : Int32) = nI 23 from rfl, nI_leI (by omega) (by omega)] at c_232; exact c_232
            refine z_aload C dL_acts_252 rfl ?_
            refine z_iconst C (v := 1) dL_acts_254 (by decide) ?_
            refine a_22 C (j := 1) (by decide) (by decide) dL_acts_255 ?_
            rw [hI.2.1.2.1, eni]
            refine z_if_eq C 266 dL_acts_256 (by decide) (fun c_256 => ?_) (fun c_256 => ?_)
            · skip
              exact lp_a266 C hI hT h0 enp hnp eni hni
            · have hni0 : 0 < ni := by rw [nI_ne0' (by omega)] at c_256; omega
              refine z_aload C dL_acts_259 rfl ?_
              refine z_iconst C (v := 0) dL_acts_261 (by decide) ?_
              refine a_22 C (j := 0) (by decide) (by decide) dL_acts_262 ?_
              rw [hI.2.1.1, enp]
              refine z_if_ne C 319 dL_acts_263 (by decide) (fun c_263 => ?_) (fun c_263 => ?_)
              · have hnp0 : 0 < np := by rw [nI_ne0' (by omega)] at c_263; omega
                refine z_iload C dL_acts_319 rfl ?_
                refine z_aload C dL_acts_321 rfl ?_
                refine z_iconst C (v := 1) dL_acts_323 (by decide) ?_
                refine a_22 C (j := 1) (by decide) (by decide) dL_acts_324 ?_
                rw [hI.2.1.2.1, eni]
                refine z_csi C (As := [_, _]) (c_L_low (k := ni) rfl (by omega) (by omega)) okL_low wd447 (rok (by decide) (by decide)) ⟨Nat.le_of_ble_eq_true rfl, Nat.le_of_ble_eq_true rfl⟩ rfl (Nat.le_of_ble_eq_true rfl) dL_acts_325 ?_
                rintro _ _ ⟨rfl, rfl⟩
                have hq : lowN y ni < ni := lowN_lt (by omega)
                generalize lowN y ni = q at hq ⊢
                refine z_istore C dL_acts_328 (by decide) ?_
                dsimp only [List.set]
                refine z_iload C dL_acts_330 rfl ?_
                refine z_iconst C (v := 3) dL_acts_332 (by decide) ?_
                refine z_ishr C dL_acts_333 ?_
                refine z_aload C dL_acts_334 rfl ?_
                refine z_iconst C (v := 0) dL_acts_336 (by decide) ?_
                refine a_22 C (j := 0) (by decide) (by decide) dL_acts_337 ?_
                rw [hI.2.1.1, enp]
                refine z_csi C (As := [_, _]) (c_L_low (k := np) rfl (by omega) (by omega)) okL_low wd447 (rok (by decide) (by decide)) ⟨Nat.le_of_ble_eq_true rfl, Nat.le_of_ble_eq_true rfl⟩ rfl (Nat.le_of_ble_eq_true rfl) dL_acts_338 ?_
                rintro _ _ ⟨rfl, rfl⟩
                have hj : lowN (y >>> (3 &&& 31)) np < np := lowN_lt (by omega)
                generalize lowN (y >>> (3 &&& 31)) np = j at hj ⊢
                refine z_istore C dL_acts_341 (by decide) ?_
                dsimp only [List.set]
                refine z_iload C dL_acts_343 rfl ?_
                refine z_bipush C (v := 23) dL_acts_345 (by decide) ?_
                refine z_icmp_ne C 459 dL_acts_347 (by decide) (fun c_347 => ?_) (fun c_347 => ?_)
                · skip
                  refine z_iload C dL_acts_459 rfl ?_
                  refine z_bipush C (v := 26) dL_acts_461 (by decide) ?_
                  refine z_icmp_ge C 533 dL_acts_463 (by decide) (fun c_463 => ?_) (fun c_463 => ?_)
                  · skip
                    refine z_aload_n C dL_acts_533 rfl ?_
                    refine z_aload_n C dL_acts_534 rfl ?_
                    refine z_aload_n C dL_acts_535 rfl ?_
                    refine z_aload_n C dL_acts_536 rfl ?_
                    refine z_iload C dL_acts_537 rfl ?_
                    refine z_iload C dL_acts_539 rfl ?_
                    refine z_csk C (As := [_, _, _, _, _, _]) (c_L_fingers hI enp hnp eni hni hj hq h0) okL_fingers wd331 (rok (by decide) (by decide)) ⟨Nat.le_of_ble_eq_true rfl, Nat.le_of_ble_eq_true rfl⟩ rfl (Nat.le_of_ble_eq_true rfl) dL_acts_541 ?_
                    rintro _ τ ⟨rfl, hs⟩
                    have hF : LInv (T + 20) τ := (hI.same hs).mono (by omega)
                    refine z_widen (mc := 450) (ms := 6 * 450) (by first | decide | omega) (by first | decide | omega) ?_
                    refine z_zret C dL_acts_544 (by first | exact Or.inl rfl | exact Or.inr rfl | assumption) ?_
                    exact ⟨rfl, hF⟩
                  · skip
                    refine z_iload C dL_acts_466 rfl ?_
                    refine z_bipush C (v := 6) dL_acts_468 (by decide) ?_
                    refine z_ishr C dL_acts_470 ?_
                    refine z_iconst C (v := 4) dL_acts_471 (by decide) ?_
                    refine z_csi C (As := [_, _]) (c_L_low (k := 4) rfl (by omega) (by omega)) okL_low wd447 (rok (by decide) (by decide)) ⟨Nat.le_of_ble_eq_true rfl, Nat.le_of_ble_eq_true rfl⟩ rfl (Nat.le_of_ble_eq_true rfl) dL_acts_472 ?_
                    rintro _ _ ⟨rfl, rfl⟩
                    refine z_if_ne C 490 dL_acts_475 (by decide) (fun c_475 => ?_) (fun c_475 => ?_)
                    · obtain ⟨wq, hwq, e13, ef⟩ := hI.2.2.2.2.2.2.1 q (by omega) (by rw [eni]; exact nI_lt hq (by omega))
                      obtain ⟨_, hf4, hf16⟩ := hI.1.fr (q := q) (by omega) (by rw [eni]; exact nI_lt hq (by omega))
                      refine z_aload_n C dL_acts_490 rfl ?_
                      refine z_iload C dL_acts_491 rfl ?_
                      refine a_19 C (j := q) rfl (by omega) dL_acts_493 ?_
                      rw [ef]
                      refine z_bipush C (v := 32) dL_acts_494 (by decide) ?_
                      refine z_idiv C (by decide) dL_acts_496 ?_
                      rw [div32 (by omega) (by omega)]
                      exact lp_a497 C hI hT h0 enp hnp eni hni hq hj hwq
                    · skip
                      refine z_iload C dL_acts_478 rfl ?_
                      refine z_bipush C (v := 8) dL_acts_480 (by decide) ?_
                      refine z_ishr C dL_acts_482 ?_
                      refine z_iconst C (v := 5) dL_acts_483 (by decide) ?_
                      refine z_csi C (As := [_, _]) (c_L_low (k := 5) rfl (by omega) (by omega)) okL_low wd447 (rok (by decide) (by decide)) ⟨Nat.le_of_ble_eq_true rfl, Nat.le_of_ble_eq_true rfl⟩ rfl (Nat.le_of_ble_eq_true rfl) dL_acts_484 ?_
                      rintro _ _ ⟨rfl, rfl⟩
                      refine z_goto C 497 dL_acts_487 (by decide) ?_
                      exact lp_a497 C hI hT h0 enp hnp eni hni hq hj (lowN_lt (by omega))
                · skip
                  exact lp_a350 C hI hT h0 enp hnp eni hni hq hj
              · skip
                exact lp_a266 C hI hT h0 enp hnp eni hni
          · skip
            refine z_aload_n C dL_acts_235 rfl ?_
            refine z_aload_n C dL_acts_236 rfl ?_
            refine z_aload_n C dL_acts_237 rfl ?_
            refine z_aload C dL_acts_238 rfl ?_
            refine z_aload C dL_acts_240 rfl ?_
            refine z_iload C dL_acts_242 rfl ?_
            refine z_iconst C (v := 5) dL_acts_244 (by decide) ?_
            refine z_ishr C dL_acts_245 ?_
            refine z_iload C dL_acts_246 rfl ?_
            refine z_csk C (As := [_, _, _, _, _, _, _]) (c_L_fetches hI) okL_fetches wd547 (rok (by decide) (by decide)) ⟨Nat.le_of_ble_eq_true rfl, Nat.le_of_ble_eq_true rfl⟩ rfl (Nat.le_of_ble_eq_true rfl) dL_acts_248 ?_
            rintro _ τ ⟨rfl, hI2⟩
            have hF : LInv (T + 20) τ := hI2.mono (by omega)
            refine z_widen (mc := 450) (ms := 6 * 450) (by first | decide | omega) (by first | decide | omega) ?_
            refine z_zret C dL_acts_251 (by first | exact Or.inl rfl | exact Or.inr rfl | assumption) ?_
            exact ⟨rfl, hF⟩
        · skip
          exact lp_a157 C hI hT h0 enp hnp eni hni
      · skip
        refine z_aload_n C dL_acts_133 rfl ?_
        refine z_aload C dL_acts_134 rfl ?_
        refine z_aload C dL_acts_136 rfl ?_
        refine z_aload C dL_acts_138 rfl ?_
        refine z_iload C dL_acts_140 rfl ?_
        refine z_iconst C (v := 5) dL_acts_142 (by decide) ?_
        refine z_ishr C dL_acts_143 ?_
        refine z_iload C dL_acts_144 rfl ?_
        refine z_csk C (As := [_, _, _, _, _, _]) (c_L_orders hI) okL_orders wd502 (rok (by decide) (by decide)) ⟨Nat.le_of_ble_eq_true rfl, Nat.le_of_ble_eq_true rfl⟩ rfl (Nat.le_of_ble_eq_true rfl) dL_acts_146 ?_
        rintro _ τ ⟨rfl, hI2⟩
        have hF : LInv (T + 20) τ := hI2.mono (by omega)
        refine z_widen (mc := 450) (ms := 6 * 450) (by first | decide | omega) (by first | decide | omega) ?_
        refine z_zret C dL_acts_149 (by first | exact Or.inl rfl | exact Or.inr rfl | assumption) ?_
        exact ⟨rfl, hF⟩
    · skip
      exact lp_a37 C hI hT h0 enp hnp eni hni
  · refine z_aload_n C dL_acts_16 rfl ?_
    refine z_aload_n C dL_acts_17 rfl ?_
    refine z_aload C dL_acts_18 rfl ?_
    refine z_iload C dL_acts_20 rfl ?_
    refine z_iconst C (v := 5) dL_acts_22 (by decide) ?_
    refine z_ishr C dL_acts_23 ?_
    refine z_iload C dL_acts_24 rfl ?_
    refine z_csk C (As := [_, _, _, _, _]) (c_L_pieces hI) okL_pieces wd451 (rok (by decide) (by decide)) ⟨Nat.le_of_ble_eq_true rfl, Nat.le_of_ble_eq_true rfl⟩ rfl (Nat.le_of_ble_eq_true rfl) dL_acts_26 ?_
    rintro _ τ ⟨rfl, hI2⟩
    have hF : LInv (T + 20) τ := hI2.mono (by omega)
    refine z_widen (mc := 450) (ms := 6 * 450) (by first | decide | omega) (by first | decide | omega) ?_
    refine z_zret C dL_acts_29 (by first | exact Or.inl rfl | exact Or.inr rfl | assumption) ?_
    exact ⟨rfl, hF⟩
