/-! ===== pieces ===== -/
theorem le80 {v : Int32} (h : ¬ 80 < v) : v ≤ 80 := by
  rw [Int32.lt_iff_toInt_lt] at h
  rw [Int32.le_iff_toInt_le]
  omega
theorem gt80 {v : Int32} (h : 80 < v) : ¬ v ≤ 80 := by
  rw [Int32.lt_iff_toInt_lt] at h
  rw [Int32.le_iff_toInt_le]
  omega
section
variable {p : Program} {l : Launch} {e : Env} {R : Room} {s : State} {m : MethodId} {args : Array Value} {below : List Frame} {meth : Method} {c : Code} {D : va_G} {ad : Nat → Nat → Nat} {cy : Nat → ClassId} {A : Nat → Prop} {sa : Nat → Nat} {cells slots : Nat} {σ : St}
set_option maxRecDepth 100000 in
set_option maxHeartbeats 4000000 in
theorem lp_pb_y (C : Cx p l s m args meth c cL_pieces "FretSchoolLaw" 10 (some .boolean) D ad cy A sa) {T : Nat} {σ : St} (hI : LInv T σ) {np : Nat} (enp : σ 0 0 6 = nI np) (hnp : np ≤ 8) {x y : Int32} (h8 : np < 8) {o5 o6 o7 o8 o9 : Option Value} : Z p l e (rmD 10 120) s m args below meth c D ad cy A 10 (0) (0) (MQ below (va_Qi (fun r σ' => r = 1 ∧ LInv T σ') (Bw D ad cy) A) args s 120 (6 * 120) A) (σ) [some (.ref (ad 0 0)), some (.ref (ad 17 0)), some (.ref (ad 22 0)), some (.int x), some (.int y), o5, o6, o7, o8, o9] 16 [] := by
  refine z_aload_n C dL_pieces_16 rfl ?_
  refine z_iconst C (v := 0) dL_pieces_17 (by decide) ?_
  refine a_22 C (j := 0) (by decide) (by decide) dL_pieces_18 ?_
  rw [hI.2.1.1, enp]
  refine z_bipush C (v := 8) dL_pieces_19 (by decide) ?_
  refine z_icmp_ge C 30 dL_pieces_21 (by decide) (fun c_21 => ?_) (fun c_21 => ?_)
  · exact absurd c_21 (nI_ge (a := np) (b := 8) h8 (by omega))
  refine z_aload_n C dL_pieces_24 rfl ?_
  refine z_iconst C (v := 0) dL_pieces_25 (by decide) ?_
  refine a_22 C (j := 0) (by decide) (by decide) dL_pieces_26 ?_
  rw [hI.2.1.1, enp]
  refine z_goto C 32 dL_pieces_27 (by decide) ?_
  refine z_istore C dL_pieces_32 (by decide) ?_
  dsimp only [List.set]
  refine z_aload_n C dL_pieces_34 rfl ?_
  refine z_iconst C (v := 0) dL_pieces_35 (by decide) ?_
  refine z_dup2 C dL_pieces_36 rfl rfl ?_
  refine a_22 C (j := 0) (by decide) (by decide) dL_pieces_37 ?_
  rw [hI.2.1.1, enp]
  refine z_iload C dL_pieces_38 rfl ?_
  refine z_if_ge C 47 dL_pieces_40 (by decide) (fun c_40 => ?_) (fun c_40 => ?_)
  rotate_left
  · exact absurd (nI_pos' (by omega)) c_40
  refine z_iconst C (v := 1) dL_pieces_47 (by decide) ?_
  refine z_iadd C dL_pieces_48 ?_
  refine s_22 C (j := 0) (by decide) (by decide) dL_pieces_49 ?_
  refine z_aload_n C dL_pieces_50 rfl ?_
  refine z_csw C (As := [_]) (c_L_begin) wd455 wd13 wd456 hd_begin wd454 (rok (by decide) (by decide)) ⟨Nat.le_of_ble_eq_true rfl, Nat.le_of_ble_eq_true rfl⟩ rfl (Nat.le_of_ble_eq_true rfl) dL_pieces_51 ?_
  intro r50 τ h50
  obtain ⟨e50, eτ⟩ := h50.yes (K_begin_0 (by rw [up_n (by omega), enp]; exact nI_lt (b := 8) h8 (by omega)))
  rw [up_n (by omega), enp] at e50
  have hI2 : LInv T τ := by rw [← eτ]; exact LInv_begin hI enp h8
  have e11 : τ 11 np 1 = nI 0 := by rw [← eτ, up_n (by omega), up_n (by omega)]; exact hI.2.2.2.2.1 np (by omega) (by rw [enp]; exact nI_nlt (Nat.le_refl _) (by omega))
  refine z_iload C dL_pieces_54 rfl ?_
  refine z_icmp_ne C 80 dL_pieces_56 (by decide) (fun c_56 => ?_) (fun c_56 => ?_)
  · exact absurd e50 c_56
  refine z_iload C dL_pieces_59 rfl ?_
  refine z_if_lt C 76 dL_pieces_61 (by decide) (fun c_61 => ?_) (fun c_61 => ?_)
  · exact absurd c_61 (nI_pos (by omega))
  refine z_aload_n C dL_pieces_64 rfl ?_
  refine z_iload C dL_pieces_65 rfl ?_
  refine z_iconst C (v := 0) dL_pieces_67 (by decide) ?_
  refine z_csw C (As := [_, _, _]) (c_L_pitch hI2.1) wd335 wd13 wd336 hd_pitch wd334 (rok (by decide) (by decide)) ⟨Nat.le_of_ble_eq_true rfl, Nat.le_of_ble_eq_true rfl⟩ rfl (Nat.le_of_ble_eq_true rfl) dL_pieces_68 ?_
  intro r68 τ2 h68
  obtain ⟨hs, rfl⟩ := S_pitch_no SameC.rf h68 (Or.inr (by rw [ix_nI (by omega), e11]; exact no_nI (j := 0) (Nat.le_refl _) (by omega)))
  refine z_ldc C (v := (-1000001)) wd367 dL_pieces_71 ?_
  refine z_icmp_ne C 80 dL_pieces_73 (by decide) (fun c_73 => ?_) (fun c_73 => ?_)
  · exact absurd rfl c_73
  refine z_iconst C (v := 1) dL_pieces_76 (by decide) ?_
  refine z_goto C 81 dL_pieces_77 (by decide) ?_
  refine z_widen (mc := 120) (ms := 6 * 120) (by first | decide | omega) (by first | decide | omega) ?_
  refine z_zret C dL_pieces_81 (by first | exact Or.inl rfl | exact Or.inr rfl | assumption) ?_
  exact ⟨rfl, hI2.same hs⟩
end
section
variable {p : Program} {l : Launch} {e : Env} {R : Room} {s : State} {m : MethodId} {args : Array Value} {below : List Frame} {meth : Method} {c : Code} {D : va_G} {ad : Nat → Nat → Nat} {cy : Nat → ClassId} {A : Nat → Prop} {sa : Nat → Nat} {cells slots : Nat} {σ : St}
set_option maxRecDepth 100000 in
set_option maxHeartbeats 4000000 in
theorem lp_pb_n (C : Cx p l s m args meth c cL_pieces "FretSchoolLaw" 10 (some .boolean) D ad cy A sa) {T : Nat} {σ : St} (hI : LInv T σ) {np : Nat} (enp : σ 0 0 6 = nI np) (hnp : np ≤ 8) {x y : Int32} (h8 : np = 8) {o5 o6 o7 o8 o9 : Option Value} : Z p l e (rmD 10 120) s m args below meth c D ad cy A 10 (0) (0) (MQ below (va_Qi (fun r σ' => r = 1 ∧ LInv T σ') (Bw D ad cy) A) args s 120 (6 * 120) A) (σ) [some (.ref (ad 0 0)), some (.ref (ad 17 0)), some (.ref (ad 22 0)), some (.int x), some (.int y), o5, o6, o7, o8, o9] 16 [] := by
  refine z_aload_n C dL_pieces_16 rfl ?_
  refine z_iconst C (v := 0) dL_pieces_17 (by decide) ?_
  refine a_22 C (j := 0) (by decide) (by decide) dL_pieces_18 ?_
  rw [hI.2.1.1, enp]
  refine z_bipush C (v := 8) dL_pieces_19 (by decide) ?_
  refine z_icmp_ge C 30 dL_pieces_21 (by decide) (fun c_21 => ?_) (fun c_21 => ?_)
  rotate_left
  · exact absurd (nI_le (a := 8) (b := np) (by omega) (by omega)) c_21
  refine z_ldc C (v := (-1000003)) wd443 dL_pieces_30 ?_
  refine z_istore C dL_pieces_32 (by decide) ?_
  dsimp only [List.set]
  refine z_aload_n C dL_pieces_34 rfl ?_
  refine z_iconst C (v := 0) dL_pieces_35 (by decide) ?_
  refine z_dup2 C dL_pieces_36 rfl rfl ?_
  refine a_22 C (j := 0) (by decide) (by decide) dL_pieces_37 ?_
  rw [hI.2.1.1, enp]
  refine z_iload C dL_pieces_38 rfl ?_
  refine z_if_ge C 47 dL_pieces_40 (by decide) (fun c_40 => ?_) (fun c_40 => ?_)
  · exact absurd c_40 (by decide)
  refine z_iconst C (v := 0) dL_pieces_43 (by decide) ?_
  refine z_goto C 48 dL_pieces_44 (by decide) ?_
  refine z_iadd C dL_pieces_48 ?_
  refine s_22 C (j := 0) (by decide) (by decide) dL_pieces_49 ?_
  rw [← up_id (show σ 22 0 0 = nI np + 0 by rw [hI.2.1.1, enp, show (0 : Int32) = nI 0 from rfl, nI_add, Nat.add_zero])]
  refine z_aload_n C dL_pieces_50 rfl ?_
  refine z_csw C (As := [_]) (c_L_begin) wd455 wd13 wd456 hd_begin wd454 (rok (by decide) (by decide)) ⟨Nat.le_of_ble_eq_true rfl, Nat.le_of_ble_eq_true rfl⟩ rfl (Nat.le_of_ble_eq_true rfl) dL_pieces_51 ?_
  intro r50 τ h50
  obtain ⟨e50, rfl⟩ := h50.not (j := 0) (K_begin_1 (by rw [enp]; exact nI_nlt (a := np) (b := 8) (by omega) (by omega))) rfl
  refine z_iload C dL_pieces_54 rfl ?_
  refine z_icmp_ne C 80 dL_pieces_56 (by decide) (fun c_56 => ?_) (fun c_56 => ?_)
  · exact absurd e50 c_56
  refine z_iload C dL_pieces_59 rfl ?_
  refine z_if_lt C 76 dL_pieces_61 (by decide) (fun c_61 => ?_) (fun c_61 => ?_)
  rotate_left
  · exact absurd (by decide) c_61
  refine z_iconst C (v := 1) dL_pieces_76 (by decide) ?_
  refine z_goto C 81 dL_pieces_77 (by decide) ?_
  refine z_widen (mc := 120) (ms := 6 * 120) (by first | decide | omega) (by first | decide | omega) ?_
  refine z_zret C dL_pieces_81 (by first | exact Or.inl rfl | exact Or.inr rfl | assumption) ?_
  exact ⟨rfl, hI⟩
end
section
variable {p : Program} {l : Launch} {e : Env} {R : Room} {s : State} {m : MethodId} {args : Array Value} {below : List Frame} {meth : Method} {c : Code} {D : va_G} {ad : Nat → Nat → Nat} {cy : Nat → ClassId} {A : Nat → Prop} {sa : Nat → Nat} {cells slots : Nat} {σ : St}
set_option maxRecDepth 100000 in
set_option maxHeartbeats 4000000 in
theorem lp_pa_y (C : Cx p l s m args meth c cL_pieces "FretSchoolLaw" 10 (some .boolean) D ad cy A sa) {T : Nat} {σ : St} (hI : LInv T σ) {np : Nat} (enp : σ 0 0 6 = nI np) (hnp : np ≤ 8) {x y : Int32} {j nc : Nat} (hj : j < np) (ec : σ 11 j 1 = nI nc) (hc : nc ≤ 16) (em : σ 17 0 j = nI nc) {p9 : Nat} (hp : p9 ≤ 80) (hc16 : nc < 16) {o6 o7 o8 o9 : Option Value} : Z p l e (rmD 10 120) s m args below meth c D ad cy A 10 (0) (0) (MQ below (va_Qi (fun r σ' => r = 1 ∧ LInv T σ') (Bw D ad cy) A) args s 120 (6 * 120) A) (σ) [some (.ref (ad 0 0)), some (.ref (ad 17 0)), some (.ref (ad 22 0)), some (.int x), some (.int y), some (.int (nI j)), o6, o7, o8, o9] 129 [.int (nI p9)] := by
  refine z_istore C dL_pieces_129 (by decide) ?_
  dsimp only [List.set]
  refine z_aload_n C dL_pieces_131 rfl ?_
  refine z_iload C dL_pieces_132 rfl ?_
  refine a_17 C (j := j) rfl (by omega) dL_pieces_134 ?_
  rw [em]
  refine z_bipush C (v := 16) dL_pieces_135 (by decide) ?_
  refine z_icmp_ge C 149 dL_pieces_137 (by decide) (fun c_137 => ?_) (fun c_137 => ?_)
  · exact absurd c_137 (nI_ge (a := nc) (b := 16) hc16 (by omega))
  refine z_aload_n C dL_pieces_140 rfl ?_
  refine z_iload C dL_pieces_141 rfl ?_
  refine a_17 C (j := j) rfl (by omega) dL_pieces_143 ?_
  rw [em]
  refine z_iconst C (v := 1) dL_pieces_144 (by decide) ?_
  refine z_iadd C dL_pieces_145 ?_
  rw [nI_1]
  refine z_goto C 151 dL_pieces_146 (by decide) ?_
  refine z_istore C dL_pieces_151 (by decide) ?_
  dsimp only [List.set]
  refine z_aload_n C dL_pieces_153 rfl ?_
  refine z_iload C dL_pieces_154 rfl ?_
  refine z_dup2 C dL_pieces_156 rfl rfl ?_
  refine a_17 C (j := j) rfl (by omega) dL_pieces_157 ?_
  rw [em]
  refine z_iload C dL_pieces_158 rfl ?_
  refine z_if_ge C 167 dL_pieces_160 (by decide) (fun c_160 => ?_) (fun c_160 => ?_)
  rotate_left
  · exact absurd (nI_pos' (by omega)) c_160
  refine z_iconst C (v := 1) dL_pieces_167 (by decide) ?_
  refine z_iadd C dL_pieces_168 ?_
  refine s_17 C (j := j) rfl (by omega) dL_pieces_169 ?_
  refine z_aload_n C dL_pieces_170 rfl ?_
  refine z_iload C dL_pieces_171 rfl ?_
  refine z_iload C dL_pieces_173 rfl ?_
  refine z_csw C (As := [_, _, _]) (c_L_addNote (Inv_law (by omega) hI.1)) wd463 wd13 wd464 hd_addNote wd462 (rok (by decide) (by decide)) ⟨Nat.le_of_ble_eq_true rfl, Nat.le_of_ble_eq_true rfl⟩ rfl (Nat.le_of_ble_eq_true rfl) dL_pieces_175 ?_
  intro r175 τ h175
  obtain ⟨e175, eτ⟩ := h175.yes (K_addNote_z (by rw [up_n (by omega), enp]; exact ok_nI hj (by omega)) (in_nI (a := 0) (b := 80) (by omega) hp (by omega)) (by rw [ix_nI (by omega), up_n (by omega), ec]; exact nI_lt (b := 16) hc16 (by omega)))
  rw [ix_nI (by omega), show cN (up σ 17 0 j (nI nc + 1)) j = nc by show (up σ 17 0 j (nI nc + 1) 11 j 1).toNatClampNeg = nc; rw [up_n (by omega), ec, nI_clamp (by omega)]] at e175 eτ
  have hI2 : LInv T τ := by rw [← eτ]; exact LInv_addNote hI enp hnp hj ec hc16 hp
  have enp2 : τ 0 0 6 = nI np := by rw [← eτ, up_n (by omega), up_n (by omega), up_n (by omega)]; exact enp
  have ec2 : τ 11 j 1 = nI (nc + 1) := by rw [← eτ, up_at]
  have ep2 : τ 12 j nc = nI p9 := by rw [← eτ, up_n (by omega), up_at]
  clear eτ h175
  have hI := hI2
  have enp := enp2
  refine z_iload C dL_pieces_178 rfl ?_
  refine z_icmp_ne C 246 dL_pieces_180 (by decide) (fun c_180 => ?_) (fun c_180 => ?_)
  · exact absurd e175 c_180
  refine z_aload_n C dL_pieces_183 rfl ?_
  refine z_iload C dL_pieces_184 rfl ?_
  refine z_bipush C (v := 81) dL_pieces_186 (by decide) ?_
  refine z_csw C (As := [_, _, _]) (c_L_addNote hI.1) wd463 wd13 wd464 hd_addNote wd462 (rok (by decide) (by decide)) ⟨Nat.le_of_ble_eq_true rfl, Nat.le_of_ble_eq_true rfl⟩ rfl (Nat.le_of_ble_eq_true rfl) dL_pieces_188 ?_
  intro r188 τ188 h188
  obtain ⟨rfl, rfl⟩ := h188.not (j := 1) (K_addNote_2 (by rw [enp]; exact ok_nI hj (by omega)) (Or.inr (by decide))) rfl
  refine z_ldc C (v := (-1000002)) wd266 dL_pieces_191 ?_
  refine z_icmp_ne C 246 dL_pieces_193 (by decide) (fun c_193 => ?_) (fun c_193 => ?_)
  · exact absurd rfl c_193
  refine z_aload_n C dL_pieces_196 rfl ?_
  refine z_iload C dL_pieces_197 rfl ?_
  refine z_iconst C (v := (-1)) dL_pieces_199 (by decide) ?_
  refine z_csw C (As := [_, _, _]) (c_L_addNote hI.1) wd463 wd13 wd464 hd_addNote wd462 (rok (by decide) (by decide)) ⟨Nat.le_of_ble_eq_true rfl, Nat.le_of_ble_eq_true rfl⟩ rfl (Nat.le_of_ble_eq_true rfl) dL_pieces_200 ?_
  intro r200 τ200 h200
  obtain ⟨rfl, rfl⟩ := h200.not (j := 1) (K_addNote_2 (by rw [enp]; exact ok_nI hj (by omega)) (Or.inl (by decide))) rfl
  refine z_ldc C (v := (-1000002)) wd266 dL_pieces_203 ?_
  refine z_icmp_ne C 246 dL_pieces_205 (by decide) (fun c_205 => ?_) (fun c_205 => ?_)
  · exact absurd rfl c_205
  refine z_aload_n C dL_pieces_208 rfl ?_
  refine z_aload_n C dL_pieces_209 rfl ?_
  refine z_iconst C (v := 0) dL_pieces_210 (by decide) ?_
  skip
  refine a_22 C (j := 0) (by decide) (by decide) dL_pieces_211 ?_
  rw [hI.2.1.1, enp]
  refine z_bipush C (v := 81) dL_pieces_212 (by decide) ?_
  refine z_csw C (As := [_, _, _]) (c_L_addNote hI.1) wd463 wd13 wd464 hd_addNote wd462 (rok (by decide) (by decide)) ⟨Nat.le_of_ble_eq_true rfl, Nat.le_of_ble_eq_true rfl⟩ rfl (Nat.le_of_ble_eq_true rfl) dL_pieces_214 ?_
  intro r214 τ214 h214
  obtain ⟨rfl, rfl⟩ := h214.not (j := 0) (K_addNote_1 (by rw [enp]; exact no_nI (Nat.le_refl _) (by omega))) rfl
  refine z_ldc C (v := (-1000001)) wd367 dL_pieces_217 ?_
  refine z_icmp_ne C 246 dL_pieces_219 (by decide) (fun c_219 => ?_) (fun c_219 => ?_)
  · exact absurd rfl c_219
  refine z_iload C dL_pieces_222 rfl ?_
  refine z_if_lt C 242 dL_pieces_224 (by decide) (fun c_224 => ?_) (fun c_224 => ?_)
  · exact absurd c_224 (nI_pos (by omega))
  refine z_aload_n C dL_pieces_227 rfl ?_
  refine z_iload C dL_pieces_228 rfl ?_
  refine z_iload C dL_pieces_230 rfl ?_
  refine z_iconst C (v := 1) dL_pieces_232 (by decide) ?_
  refine z_isub C dL_pieces_233 ?_
  rw [show nI (nc + 1) - 1 = nI nc from pk_sub (a := nc + 1) (b := 1) (by omega)]
  refine z_csw C (As := [_, _, _]) (c_L_pitch hI.1) wd335 wd13 wd336 hd_pitch wd334 (rok (by decide) (by decide)) ⟨Nat.le_of_ble_eq_true rfl, Nat.le_of_ble_eq_true rfl⟩ rfl (Nat.le_of_ble_eq_true rfl) dL_pieces_234 ?_
  intro r234 τ2 h234
  obtain ⟨hs, e234⟩ := S_pitch SameC.rf h234 (by rw [enp]; exact ok_nI hj (by omega)) (by rw [ix_nI (by omega), ec2]; exact ok_nI (by omega) (by omega))
  rw [ix_nI (by omega), ix_nI (by omega), ep2] at e234
  subst e234
  refine z_iload C dL_pieces_237 rfl ?_
  refine z_icmp_ne C 246 dL_pieces_239 (by decide) (fun c_239 => ?_) (fun c_239 => ?_)
  · exact absurd rfl c_239
  refine z_iconst C (v := 1) dL_pieces_242 (by decide) ?_
  refine z_goto C 247 dL_pieces_243 (by decide) ?_
  refine z_widen (mc := 120) (ms := 6 * 120) (by first | decide | omega) (by first | decide | omega) ?_
  refine z_zret C dL_pieces_247 (by first | exact Or.inl rfl | exact Or.inr rfl | assumption) ?_
  exact ⟨rfl, hI.same hs⟩
end
section
variable {p : Program} {l : Launch} {e : Env} {R : Room} {s : State} {m : MethodId} {args : Array Value} {below : List Frame} {meth : Method} {c : Code} {D : va_G} {ad : Nat → Nat → Nat} {cy : Nat → ClassId} {A : Nat → Prop} {sa : Nat → Nat} {cells slots : Nat} {σ : St}
set_option maxRecDepth 100000 in
set_option maxHeartbeats 4000000 in
theorem lp_pa_n (C : Cx p l s m args meth c cL_pieces "FretSchoolLaw" 10 (some .boolean) D ad cy A sa) {T : Nat} {σ : St} (hI : LInv T σ) {np : Nat} (enp : σ 0 0 6 = nI np) (hnp : np ≤ 8) {x y : Int32} {j nc : Nat} (hj : j < np) (ec : σ 11 j 1 = nI nc) (hc : nc ≤ 16) (em : σ 17 0 j = nI nc) {p9 : Nat} (hp : p9 ≤ 80) (hc16 : nc = 16) {o6 o7 o8 o9 : Option Value} : Z p l e (rmD 10 120) s m args below meth c D ad cy A 10 (0) (0) (MQ below (va_Qi (fun r σ' => r = 1 ∧ LInv T σ') (Bw D ad cy) A) args s 120 (6 * 120) A) (σ) [some (.ref (ad 0 0)), some (.ref (ad 17 0)), some (.ref (ad 22 0)), some (.int x), some (.int y), some (.int (nI j)), o6, o7, o8, o9] 129 [.int (nI p9)] := by
  refine z_istore C dL_pieces_129 (by decide) ?_
  dsimp only [List.set]
  refine z_aload_n C dL_pieces_131 rfl ?_
  refine z_iload C dL_pieces_132 rfl ?_
  refine a_17 C (j := j) rfl (by omega) dL_pieces_134 ?_
  rw [em]
  refine z_bipush C (v := 16) dL_pieces_135 (by decide) ?_
  refine z_icmp_ge C 149 dL_pieces_137 (by decide) (fun c_137 => ?_) (fun c_137 => ?_)
  rotate_left
  · exact absurd (nI_le (a := 16) (b := nc) (by omega) (by omega)) c_137
  refine z_ldc C (v := (-1000003)) wd443 dL_pieces_149 ?_
  refine z_istore C dL_pieces_151 (by decide) ?_
  dsimp only [List.set]
  refine z_aload_n C dL_pieces_153 rfl ?_
  refine z_iload C dL_pieces_154 rfl ?_
  refine z_dup2 C dL_pieces_156 rfl rfl ?_
  refine a_17 C (j := j) rfl (by omega) dL_pieces_157 ?_
  rw [em]
  refine z_iload C dL_pieces_158 rfl ?_
  refine z_if_ge C 167 dL_pieces_160 (by decide) (fun c_160 => ?_) (fun c_160 => ?_)
  · exact absurd c_160 (by decide)
  refine z_iconst C (v := 0) dL_pieces_163 (by decide) ?_
  refine z_goto C 168 dL_pieces_164 (by decide) ?_
  refine z_iadd C dL_pieces_168 ?_
  refine s_17 C (j := j) rfl (by omega) dL_pieces_169 ?_
  rw [← up_id (show σ 17 0 j = nI nc + 0 by rw [em, show (0 : Int32) = nI 0 from rfl, nI_add, Nat.add_zero])]
  refine z_aload_n C dL_pieces_170 rfl ?_
  refine z_iload C dL_pieces_171 rfl ?_
  refine z_iload C dL_pieces_173 rfl ?_
  refine z_csw C (As := [_, _, _]) (c_L_addNote hI.1) wd463 wd13 wd464 hd_addNote wd462 (rok (by decide) (by decide)) ⟨Nat.le_of_ble_eq_true rfl, Nat.le_of_ble_eq_true rfl⟩ rfl (Nat.le_of_ble_eq_true rfl) dL_pieces_175 ?_
  intro r175 τ h175
  obtain ⟨e175, rfl⟩ := h175.not (j := 2) (K_addNote_3 (by rw [enp]; exact ok_nI hj (by omega)) (in_nI (a := 0) (b := 80) (by omega) hp (by omega)) (by rw [ix_nI (by omega), ec]; exact nI_nlt (a := nc) (b := 16) (by omega) (by omega))) rfl
  refine z_iload C dL_pieces_178 rfl ?_
  refine z_icmp_ne C 246 dL_pieces_180 (by decide) (fun c_180 => ?_) (fun c_180 => ?_)
  · exact absurd e175 c_180
  refine z_aload_n C dL_pieces_183 rfl ?_
  refine z_iload C dL_pieces_184 rfl ?_
  refine z_bipush C (v := 81) dL_pieces_186 (by decide) ?_
  refine z_csw C (As := [_, _, _]) (c_L_addNote hI.1) wd463 wd13 wd464 hd_addNote wd462 (rok (by decide) (by decide)) ⟨Nat.le_of_ble_eq_true rfl, Nat.le_of_ble_eq_true rfl⟩ rfl (Nat.le_of_ble_eq_true rfl) dL_pieces_188 ?_
  intro r188 τ188 h188
  obtain ⟨rfl, rfl⟩ := h188.not (j := 1) (K_addNote_2 (by rw [enp]; exact ok_nI hj (by omega)) (Or.inr (by decide))) rfl
  refine z_ldc C (v := (-1000002)) wd266 dL_pieces_191 ?_
  refine z_icmp_ne C 246 dL_pieces_193 (by decide) (fun c_193 => ?_) (fun c_193 => ?_)
  · exact absurd rfl c_193
  refine z_aload_n C dL_pieces_196 rfl ?_
  refine z_iload C dL_pieces_197 rfl ?_
  refine z_iconst C (v := (-1)) dL_pieces_199 (by decide) ?_
  refine z_csw C (As := [_, _, _]) (c_L_addNote hI.1) wd463 wd13 wd464 hd_addNote wd462 (rok (by decide) (by decide)) ⟨Nat.le_of_ble_eq_true rfl, Nat.le_of_ble_eq_true rfl⟩ rfl (Nat.le_of_ble_eq_true rfl) dL_pieces_200 ?_
  intro r200 τ200 h200
  obtain ⟨rfl, rfl⟩ := h200.not (j := 1) (K_addNote_2 (by rw [enp]; exact ok_nI hj (by omega)) (Or.inl (by decide))) rfl
  refine z_ldc C (v := (-1000002)) wd266 dL_pieces_203 ?_
  refine z_icmp_ne C 246 dL_pieces_205 (by decide) (fun c_205 => ?_) (fun c_205 => ?_)
  · exact absurd rfl c_205
  refine z_aload_n C dL_pieces_208 rfl ?_
  refine z_aload_n C dL_pieces_209 rfl ?_
  refine z_iconst C (v := 0) dL_pieces_210 (by decide) ?_
  refine a_22 C (j := 0) (by decide) (by decide) dL_pieces_211 ?_
  rw [hI.2.1.1, enp]
  refine z_bipush C (v := 81) dL_pieces_212 (by decide) ?_
  refine z_csw C (As := [_, _, _]) (c_L_addNote hI.1) wd463 wd13 wd464 hd_addNote wd462 (rok (by decide) (by decide)) ⟨Nat.le_of_ble_eq_true rfl, Nat.le_of_ble_eq_true rfl⟩ rfl (Nat.le_of_ble_eq_true rfl) dL_pieces_214 ?_
  intro r214 τ214 h214
  obtain ⟨rfl, rfl⟩ := h214.not (j := 0) (K_addNote_1 (by rw [enp]; exact no_nI (Nat.le_refl _) (by omega))) rfl
  refine z_ldc C (v := (-1000001)) wd367 dL_pieces_217 ?_
  refine z_icmp_ne C 246 dL_pieces_219 (by decide) (fun c_219 => ?_) (fun c_219 => ?_)
  · exact absurd rfl c_219
  refine z_iload C dL_pieces_222 rfl ?_
  refine z_if_lt C 242 dL_pieces_224 (by decide) (fun c_224 => ?_) (fun c_224 => ?_)
  rotate_left
  · exact absurd (by decide) c_224
  refine z_iconst C (v := 1) dL_pieces_242 (by decide) ?_
  refine z_goto C 247 dL_pieces_243 (by decide) ?_
  refine z_widen (mc := 120) (ms := 6 * 120) (by first | decide | omega) (by first | decide | omega) ?_
  refine z_zret C dL_pieces_247 (by first | exact Or.inl rfl | exact Or.inr rfl | assumption) ?_
  exact ⟨rfl, hI⟩
end
section
variable {p : Program} {l : Launch} {e : Env} {R : Room} {s : State} {m : MethodId} {args : Array Value} {below : List Frame} {meth : Method} {c : Code} {D : va_G} {ad : Nat → Nat → Nat} {cy : Nat → ClassId} {A : Nat → Prop} {sa : Nat → Nat} {cells slots : Nat} {σ : St}
set_option maxRecDepth 100000 in
set_option maxHeartbeats 4000000 in
theorem lp_pt_y (C : Cx p l s m args meth c cL_pieces "FretSchoolLaw" 10 (some .boolean) D ad cy A sa) {T : Nat} {σ : St} (hI : LInv T σ) {np : Nat} (enp : σ 0 0 6 = nI np) (hnp : np ≤ 8) {x y : Int32} {j nc : Nat} (hj : j < np) (ec : σ 11 j 1 = nI nc) (hc : nc ≤ 16) (em : σ 17 0 j = nI nc) {b : Int32} (hb : ¬ outR b (-40) 40) (hcan : ∀ k, k < nc → okP (σ 12 j k + b)) {v8 : Int32} (hv8 : 0 < nc → v8 = σ 12 j 0) {o9 : Option Value} {cells slots : Nat} (hc1 : cells + 14 ≤ 120) (hc2 : slots + 84 ≤ 6 * 120) : Z p l e (rmD 10 120) s m args below meth c D ad cy A 10 (cells) (slots) (MQ below (va_Qi (fun r σ' => r = 1 ∧ LInv T σ') (Bw D ad cy) A) args s 120 (6 * 120) A) (σ) [some (.ref (ad 0 0)), some (.ref (ad 17 0)), some (.ref (ad 22 0)), some (.int x), some (.int y), some (.int (nI j)), some (.int b), some (.int 1), some (.int v8), o9] 376 [] := by
  have ecN : cN σ j = nc := by show (σ 11 j 1).toNatClampNeg = nc; rw [ec, nI_clamp (by omega)]
  refine z_aload_n C dL_pieces_376 rfl ?_
  refine z_iload C dL_pieces_377 rfl ?_
  refine z_iload C dL_pieces_379 rfl ?_
  refine z_csw C (As := [_, _, _]) (c_L_transpose hI.1) wd480 wd13 wd481 hd_transpose wd479 (rok (by decide) (by decide)) ⟨by show _ ≤ 120; omega, by show _ ≤ 6 * (120); omega⟩ rfl (Nat.le_of_ble_eq_true rfl) dL_pieces_381 ?_
  intro r381 τ h381
  obtain ⟨rfl, eτ⟩ := h381.yes (K_trans_z (by rw [enp]; exact ok_nI hj (by omega)) hb (by rw [ix_nI (by omega)]; intro k hk; rw [ecN] at hk; exact hcan k hk))
  rw [ix_nI (by omega), ecN] at eτ
  have hI2 : LInv T τ := by rw [← eτ]; exact LInv_mvd hI
  have enp2 : τ 0 0 6 = nI np := by rw [← eτ, mvd_app, if_neg (by omega)]; exact enp
  have ec2 : τ 11 j 1 = nI nc := by rw [← eτ, mvd_app, if_neg (by omega)]; exact ec
  have em2 : τ 17 0 j = nI nc := by rw [← eτ, mvd_app, if_neg (by omega)]; exact em
  have ep2 : 0 < nc → τ 12 j 0 = σ 12 j 0 + b := fun h => by rw [← eτ, mvd_app, if_pos ⟨rfl, rfl, h⟩]
  clear eτ h381
  have hI := hI2
  have enp := enp2
  have ec := ec2
  have em := em2
  refine z_iload C dL_pieces_384 rfl ?_
  refine z_if_eq C 393 dL_pieces_386 (by decide) (fun c_386 => ?_) (fun c_386 => ?_)
  · exact absurd c_386 (by decide)
  refine z_iconst C (v := 0) dL_pieces_389 (by decide) ?_
  refine z_goto C 395 dL_pieces_390 (by decide) ?_
  refine z_icmp_ne C 474 dL_pieces_395 (by decide) (fun c_395 => ?_) (fun c_395 => ?_)
  · exact absurd rfl c_395
  refine z_aload_n C dL_pieces_398 rfl ?_
  refine z_iload C dL_pieces_399 rfl ?_
  refine a_17 C (j := j) rfl (by omega) dL_pieces_401 ?_
  rw [em]
  refine z_if_eq C 430 dL_pieces_402 (by decide) (fun c_402 => ?_) (fun c_402 => ?_)
  · have hc0 : nc = 0 := by rw [nI_ne0' (by omega)] at c_402; exact c_402
    refine z_aload_n C dL_pieces_430 rfl ?_
    refine z_iload C dL_pieces_431 rfl ?_
    refine z_bipush C (v := 41) dL_pieces_433 (by decide) ?_
    refine z_csw C (As := [_, _, _]) (c_L_transpose hI.1) wd480 wd13 wd481 hd_transpose wd479 (rok (by decide) (by decide)) ⟨by show _ ≤ 120; omega, by show _ ≤ 6 * (120); omega⟩ rfl (Nat.le_of_ble_eq_true rfl) dL_pieces_435 ?_
    intro r435 τ435 h435
    obtain ⟨rfl, rfl⟩ := h435.not (j := 1) (K_trans_2 (by rw [enp]; exact ok_nI hj (by omega)) (Or.inr (by decide))) rfl
    refine z_ldc C (v := (-1000002)) wd266 dL_pieces_438 ?_
    refine z_icmp_ne C 474 dL_pieces_440 (by decide) (fun c_440 => ?_) (fun c_440 => ?_)
    · exact absurd rfl c_440
    refine z_aload_n C dL_pieces_443 rfl ?_
    refine z_iload C dL_pieces_444 rfl ?_
    refine z_bipush C (v := (-41)) dL_pieces_446 (by decide) ?_
    refine z_csw C (As := [_, _, _]) (c_L_transpose hI.1) wd480 wd13 wd481 hd_transpose wd479 (rok (by decide) (by decide)) ⟨by show _ ≤ 120; omega, by show _ ≤ 6 * (120); omega⟩ rfl (Nat.le_of_ble_eq_true rfl) dL_pieces_448 ?_
    intro r448 τ448 h448
    obtain ⟨rfl, rfl⟩ := h448.not (j := 1) (K_trans_2 (by rw [enp]; exact ok_nI hj (by omega)) (Or.inl (by decide))) rfl
    refine z_ldc C (v := (-1000002)) wd266 dL_pieces_451 ?_
    refine z_icmp_ne C 474 dL_pieces_453 (by decide) (fun c_453 => ?_) (fun c_453 => ?_)
    · exact absurd rfl c_453
    refine z_aload_n C dL_pieces_456 rfl ?_
    refine z_aload_n C dL_pieces_457 rfl ?_
    refine z_iconst C (v := 0) dL_pieces_458 (by decide) ?_
    refine a_22 C (j := 0) (by decide) (by decide) dL_pieces_459 ?_
    rw [hI.2.1.1, enp]
    refine z_bipush C (v := 41) dL_pieces_460 (by decide) ?_
    refine z_csw C (As := [_, _, _]) (c_L_transpose hI.1) wd480 wd13 wd481 hd_transpose wd479 (rok (by decide) (by decide)) ⟨by show _ ≤ 120; omega, by show _ ≤ 6 * (120); omega⟩ rfl (Nat.le_of_ble_eq_true rfl) dL_pieces_462 ?_
    intro r462 τ462 h462
    obtain ⟨rfl, rfl⟩ := h462.not (j := 0) (K_trans_1 (by rw [enp]; exact no_nI (Nat.le_refl _) (by omega))) rfl
    refine z_ldc C (v := (-1000001)) wd367 dL_pieces_465 ?_
    refine z_icmp_ne C 474 dL_pieces_467 (by decide) (fun c_467 => ?_) (fun c_467 => ?_)
    · exact absurd rfl c_467
    refine z_iconst C (v := 1) dL_pieces_470 (by decide) ?_
    refine z_goto C 475 dL_pieces_471 (by decide) ?_
    refine z_widen (mc := 120) (ms := 6 * 120) (by first | decide | omega) (by first | decide | omega) ?_
    refine z_zret C dL_pieces_475 (by first | exact Or.inl rfl | exact Or.inr rfl | assumption) ?_
    exact ⟨rfl, hI⟩
  · have hc0 : 0 < nc := by rw [nI_ne0' (by omega)] at c_402; omega
    refine z_aload_n C dL_pieces_405 rfl ?_
    refine z_iload C dL_pieces_406 rfl ?_
    refine z_iconst C (v := 0) dL_pieces_408 (by decide) ?_
    refine z_csw C (As := [_, _, _]) (c_L_pitch hI.1) wd335 wd13 wd336 hd_pitch wd334 (rok (by decide) (by decide)) ⟨by show _ ≤ 120; omega, by show _ ≤ 6 * (120); omega⟩ rfl (Nat.le_of_ble_eq_true rfl) dL_pieces_409 ?_
    intro r409 τ2 h409
    obtain ⟨e409, rfl⟩ := h409.yes (K_pitch_z (by rw [enp]; exact ok_nI hj (by omega)) (by rw [ix_nI (by omega), ec]; exact ok_nI (j := 0) hc0 (by omega)))
    rw [ix_nI (by omega), show ix 0 = 0 from rfl, ep2 hc0] at e409
    subst e409
    refine z_iload C dL_pieces_412 rfl ?_
    refine z_if_eq C 425 dL_pieces_414 (by decide) (fun c_414 => ?_) (fun c_414 => ?_)
    · exact absurd c_414 (by decide)
    refine z_iload C dL_pieces_417 rfl ?_
    refine z_iload C dL_pieces_419 rfl ?_
    refine z_iadd C dL_pieces_421 ?_
    refine z_goto C 427 dL_pieces_422 (by decide) ?_
    refine z_icmp_ne C 474 dL_pieces_427 (by decide) (fun c_427 => ?_) (fun c_427 => ?_)
    · exact absurd (by rw [hv8 hc0]) c_427
    refine z_aload_n C dL_pieces_430 rfl ?_
    refine z_iload C dL_pieces_431 rfl ?_
    refine z_bipush C (v := 41) dL_pieces_433 (by decide) ?_
    refine z_csw C (As := [_, _, _]) (c_L_transpose hI.1) wd480 wd13 wd481 hd_transpose wd479 (rok (by decide) (by decide)) ⟨by show _ ≤ 120; omega, by show _ ≤ 6 * (120); omega⟩ rfl (Nat.le_of_ble_eq_true rfl) dL_pieces_435 ?_
    intro r435 τ435 h435
    obtain ⟨rfl, rfl⟩ := h435.not (j := 1) (K_trans_2 (by rw [enp]; exact ok_nI hj (by omega)) (Or.inr (by decide))) rfl
    refine z_ldc C (v := (-1000002)) wd266 dL_pieces_438 ?_
    refine z_icmp_ne C 474 dL_pieces_440 (by decide) (fun c_440 => ?_) (fun c_440 => ?_)
    · exact absurd rfl c_440
    refine z_aload_n C dL_pieces_443 rfl ?_
    refine z_iload C dL_pieces_444 rfl ?_
    refine z_bipush C (v := (-41)) dL_pieces_446 (by decide) ?_
    refine z_csw C (As := [_, _, _]) (c_L_transpose hI.1) wd480 wd13 wd481 hd_transpose wd479 (rok (by decide) (by decide)) ⟨by show _ ≤ 120; omega, by show _ ≤ 6 * (120); omega⟩ rfl (Nat.le_of_ble_eq_true rfl) dL_pieces_448 ?_
    intro r448 τ448 h448
    obtain ⟨rfl, rfl⟩ := h448.not (j := 1) (K_trans_2 (by rw [enp]; exact ok_nI hj (by omega)) (Or.inl (by decide))) rfl
    refine z_ldc C (v := (-1000002)) wd266 dL_pieces_451 ?_
    refine z_icmp_ne C 474 dL_pieces_453 (by decide) (fun c_453 => ?_) (fun c_453 => ?_)
    · exact absurd rfl c_453
    refine z_aload_n C dL_pieces_456 rfl ?_
    refine z_aload_n C dL_pieces_457 rfl ?_
    refine z_iconst C (v := 0) dL_pieces_458 (by decide) ?_
    refine a_22 C (j := 0) (by decide) (by decide) dL_pieces_459 ?_
    rw [hI.2.1.1, enp]
    refine z_bipush C (v := 41) dL_pieces_460 (by decide) ?_
    refine z_csw C (As := [_, _, _]) (c_L_transpose hI.1) wd480 wd13 wd481 hd_transpose wd479 (rok (by decide) (by decide)) ⟨by show _ ≤ 120; omega, by show _ ≤ 6 * (120); omega⟩ rfl (Nat.le_of_ble_eq_true rfl) dL_pieces_462 ?_
    intro r462 τ462 h462
    obtain ⟨rfl, rfl⟩ := h462.not (j := 0) (K_trans_1 (by rw [enp]; exact no_nI (Nat.le_refl _) (by omega))) rfl
    refine z_ldc C (v := (-1000001)) wd367 dL_pieces_465 ?_
    refine z_icmp_ne C 474 dL_pieces_467 (by decide) (fun c_467 => ?_) (fun c_467 => ?_)
    · exact absurd rfl c_467
    refine z_iconst C (v := 1) dL_pieces_470 (by decide) ?_
    refine z_goto C 475 dL_pieces_471 (by decide) ?_
    refine z_widen (mc := 120) (ms := 6 * 120) (by first | decide | omega) (by first | decide | omega) ?_
    refine z_zret C dL_pieces_475 (by first | exact Or.inl rfl | exact Or.inr rfl | assumption) ?_
    exact ⟨rfl, hI⟩
end
section
variable {p : Program} {l : Launch} {e : Env} {R : Room} {s : State} {m : MethodId} {args : Array Value} {below : List Frame} {meth : Method} {c : Code} {D : va_G} {ad : Nat → Nat → Nat} {cy : Nat → ClassId} {A : Nat → Prop} {sa : Nat → Nat} {cells slots : Nat} {σ : St}
set_option maxRecDepth 100000 in
set_option maxHeartbeats 4000000 in
theorem lp_pt_n (C : Cx p l s m args meth c cL_pieces "FretSchoolLaw" 10 (some .boolean) D ad cy A sa) {T : Nat} {σ : St} (hI : LInv T σ) {np : Nat} (enp : σ 0 0 6 = nI np) (hnp : np ≤ 8) {x y : Int32} {j nc : Nat} (hj : j < np) (ec : σ 11 j 1 = nI nc) (hc : nc ≤ 16) (em : σ 17 0 j = nI nc) {b : Int32} (hb : ¬ outR b (-40) 40) (hcan : ∃ k, k < nc ∧ ¬ okP (σ 12 j k + b)) {v8 : Int32} (hv8 : 0 < nc → v8 = σ 12 j 0) {o9 : Option Value} {cells slots : Nat} (hc1 : cells + 14 ≤ 120) (hc2 : slots + 84 ≤ 6 * 120) : Z p l e (rmD 10 120) s m args below meth c D ad cy A 10 (cells) (slots) (MQ below (va_Qi (fun r σ' => r = 1 ∧ LInv T σ') (Bw D ad cy) A) args s 120 (6 * 120) A) (σ) [some (.ref (ad 0 0)), some (.ref (ad 17 0)), some (.ref (ad 22 0)), some (.int x), some (.int y), some (.int (nI j)), some (.int b), some (.int 0), some (.int v8), o9] 376 [] := by
  have ecN : cN σ j = nc := by show (σ 11 j 1).toNatClampNeg = nc; rw [ec, nI_clamp (by omega)]
  refine z_aload_n C dL_pieces_376 rfl ?_
  refine z_iload C dL_pieces_377 rfl ?_
  refine z_iload C dL_pieces_379 rfl ?_
  refine z_csw C (As := [_, _, _]) (c_L_transpose hI.1) wd480 wd13 wd481 hd_transpose wd479 (rok (by decide) (by decide)) ⟨by show _ ≤ 120; omega, by show _ ≤ 6 * (120); omega⟩ rfl (Nat.le_of_ble_eq_true rfl) dL_pieces_381 ?_
  intro r381 τ h381
  obtain ⟨rfl, rfl⟩ := h381.not (j := 2) (K_trans_3 (by rw [enp]; exact ok_nI hj (by omega)) hb (by rw [ix_nI (by omega)]; intro q; obtain ⟨k, hk, hn⟩ := hcan; exact hn (q k (by rw [ecN]; exact hk)))) rfl
  refine z_iload C dL_pieces_384 rfl ?_
  refine z_if_eq C 393 dL_pieces_386 (by decide) (fun c_386 => ?_) (fun c_386 => ?_)
  rotate_left
  · exact absurd rfl c_386
  refine z_ldc C (v := (-1000003)) wd443 dL_pieces_393 ?_
  refine z_icmp_ne C 474 dL_pieces_395 (by decide) (fun c_395 => ?_) (fun c_395 => ?_)
  · exact absurd rfl c_395
  refine z_aload_n C dL_pieces_398 rfl ?_
  refine z_iload C dL_pieces_399 rfl ?_
  refine a_17 C (j := j) rfl (by omega) dL_pieces_401 ?_
  rw [em]
  refine z_if_eq C 430 dL_pieces_402 (by decide) (fun c_402 => ?_) (fun c_402 => ?_)
  · have hc0 : nc = 0 := by rw [nI_ne0' (by omega)] at c_402; exact c_402
    refine z_aload_n C dL_pieces_430 rfl ?_
    refine z_iload C dL_pieces_431 rfl ?_
    refine z_bipush C (v := 41) dL_pieces_433 (by decide) ?_
    refine z_csw C (As := [_, _, _]) (c_L_transpose hI.1) wd480 wd13 wd481 hd_transpose wd479 (rok (by decide) (by decide)) ⟨by show _ ≤ 120; omega, by show _ ≤ 6 * (120); omega⟩ rfl (Nat.le_of_ble_eq_true rfl) dL_pieces_435 ?_
    intro r435 τ435 h435
    obtain ⟨rfl, rfl⟩ := h435.not (j := 1) (K_trans_2 (by rw [enp]; exact ok_nI hj (by omega)) (Or.inr (by decide))) rfl
    refine z_ldc C (v := (-1000002)) wd266 dL_pieces_438 ?_
    refine z_icmp_ne C 474 dL_pieces_440 (by decide) (fun c_440 => ?_) (fun c_440 => ?_)
    · exact absurd rfl c_440
    refine z_aload_n C dL_pieces_443 rfl ?_
    refine z_iload C dL_pieces_444 rfl ?_
    refine z_bipush C (v := (-41)) dL_pieces_446 (by decide) ?_
    refine z_csw C (As := [_, _, _]) (c_L_transpose hI.1) wd480 wd13 wd481 hd_transpose wd479 (rok (by decide) (by decide)) ⟨by show _ ≤ 120; omega, by show _ ≤ 6 * (120); omega⟩ rfl (Nat.le_of_ble_eq_true rfl) dL_pieces_448 ?_
    intro r448 τ448 h448
    obtain ⟨rfl, rfl⟩ := h448.not (j := 1) (K_trans_2 (by rw [enp]; exact ok_nI hj (by omega)) (Or.inl (by decide))) rfl
    refine z_ldc C (v := (-1000002)) wd266 dL_pieces_451 ?_
    refine z_icmp_ne C 474 dL_pieces_453 (by decide) (fun c_453 => ?_) (fun c_453 => ?_)
    · exact absurd rfl c_453
    refine z_aload_n C dL_pieces_456 rfl ?_
    refine z_aload_n C dL_pieces_457 rfl ?_
    refine z_iconst C (v := 0) dL_pieces_458 (by decide) ?_
    refine a_22 C (j := 0) (by decide) (by decide) dL_pieces_459 ?_
    rw [hI.2.1.1, enp]
    refine z_bipush C (v := 41) dL_pieces_460 (by decide) ?_
    refine z_csw C (As := [_, _, _]) (c_L_transpose hI.1) wd480 wd13 wd481 hd_transpose wd479 (rok (by decide) (by decide)) ⟨by show _ ≤ 120; omega, by show _ ≤ 6 * (120); omega⟩ rfl (Nat.le_of_ble_eq_true rfl) dL_pieces_462 ?_
    intro r462 τ462 h462
    obtain ⟨rfl, rfl⟩ := h462.not (j := 0) (K_trans_1 (by rw [enp]; exact no_nI (Nat.le_refl _) (by omega))) rfl
    refine z_ldc C (v := (-1000001)) wd367 dL_pieces_465 ?_
    refine z_icmp_ne C 474 dL_pieces_467 (by decide) (fun c_467 => ?_) (fun c_467 => ?_)
    · exact absurd rfl c_467
    refine z_iconst C (v := 1) dL_pieces_470 (by decide) ?_
    refine z_goto C 475 dL_pieces_471 (by decide) ?_
    refine z_widen (mc := 120) (ms := 6 * 120) (by first | decide | omega) (by first | decide | omega) ?_
    refine z_zret C dL_pieces_475 (by first | exact Or.inl rfl | exact Or.inr rfl | assumption) ?_
    exact ⟨rfl, hI⟩
  · have hc0 : 0 < nc := by rw [nI_ne0' (by omega)] at c_402; omega
    refine z_aload_n C dL_pieces_405 rfl ?_
    refine z_iload C dL_pieces_406 rfl ?_
    refine z_iconst C (v := 0) dL_pieces_408 (by decide) ?_
    refine z_csw C (As := [_, _, _]) (c_L_pitch hI.1) wd335 wd13 wd336 hd_pitch wd334 (rok (by decide) (by decide)) ⟨by show _ ≤ 120; omega, by show _ ≤ 6 * (120); omega⟩ rfl (Nat.le_of_ble_eq_true rfl) dL_pieces_409 ?_
    intro r409 τ2 h409
    obtain ⟨e409, rfl⟩ := h409.yes (K_pitch_z (by rw [enp]; exact ok_nI hj (by omega)) (by rw [ix_nI (by omega), ec]; exact ok_nI (j := 0) hc0 (by omega)))
    rw [ix_nI (by omega), show ix 0 = 0 from rfl] at e409
    subst e409
    refine z_iload C dL_pieces_412 rfl ?_
    refine z_if_eq C 425 dL_pieces_414 (by decide) (fun c_414 => ?_) (fun c_414 => ?_)
    rotate_left
    · exact absurd rfl c_414
    refine z_iload C dL_pieces_425 rfl ?_
    refine z_icmp_ne C 474 dL_pieces_427 (by decide) (fun c_427 => ?_) (fun c_427 => ?_)
    · exact absurd (by rw [hv8 hc0]) c_427
    refine z_aload_n C dL_pieces_430 rfl ?_
    refine z_iload C dL_pieces_431 rfl ?_
    refine z_bipush C (v := 41) dL_pieces_433 (by decide) ?_
    refine z_csw C (As := [_, _, _]) (c_L_transpose hI.1) wd480 wd13 wd481 hd_transpose wd479 (rok (by decide) (by decide)) ⟨by show _ ≤ 120; omega, by show _ ≤ 6 * (120); omega⟩ rfl (Nat.le_of_ble_eq_true rfl) dL_pieces_435 ?_
    intro r435 τ435 h435
    obtain ⟨rfl, rfl⟩ := h435.not (j := 1) (K_trans_2 (by rw [enp]; exact ok_nI hj (by omega)) (Or.inr (by decide))) rfl
    refine z_ldc C (v := (-1000002)) wd266 dL_pieces_438 ?_
    refine z_icmp_ne C 474 dL_pieces_440 (by decide) (fun c_440 => ?_) (fun c_440 => ?_)
    · exact absurd rfl c_440
    refine z_aload_n C dL_pieces_443 rfl ?_
    refine z_iload C dL_pieces_444 rfl ?_
    refine z_bipush C (v := (-41)) dL_pieces_446 (by decide) ?_
    refine z_csw C (As := [_, _, _]) (c_L_transpose hI.1) wd480 wd13 wd481 hd_transpose wd479 (rok (by decide) (by decide)) ⟨by show _ ≤ 120; omega, by show _ ≤ 6 * (120); omega⟩ rfl (Nat.le_of_ble_eq_true rfl) dL_pieces_448 ?_
    intro r448 τ448 h448
    obtain ⟨rfl, rfl⟩ := h448.not (j := 1) (K_trans_2 (by rw [enp]; exact ok_nI hj (by omega)) (Or.inl (by decide))) rfl
    refine z_ldc C (v := (-1000002)) wd266 dL_pieces_451 ?_
    refine z_icmp_ne C 474 dL_pieces_453 (by decide) (fun c_453 => ?_) (fun c_453 => ?_)
    · exact absurd rfl c_453
    refine z_aload_n C dL_pieces_456 rfl ?_
    refine z_aload_n C dL_pieces_457 rfl ?_
    refine z_iconst C (v := 0) dL_pieces_458 (by decide) ?_
    refine a_22 C (j := 0) (by decide) (by decide) dL_pieces_459 ?_
    rw [hI.2.1.1, enp]
    refine z_bipush C (v := 41) dL_pieces_460 (by decide) ?_
    refine z_csw C (As := [_, _, _]) (c_L_transpose hI.1) wd480 wd13 wd481 hd_transpose wd479 (rok (by decide) (by decide)) ⟨by show _ ≤ 120; omega, by show _ ≤ 6 * (120); omega⟩ rfl (Nat.le_of_ble_eq_true rfl) dL_pieces_462 ?_
    intro r462 τ462 h462
    obtain ⟨rfl, rfl⟩ := h462.not (j := 0) (K_trans_1 (by rw [enp]; exact no_nI (Nat.le_refl _) (by omega))) rfl
    refine z_ldc C (v := (-1000001)) wd367 dL_pieces_465 ?_
    refine z_icmp_ne C 474 dL_pieces_467 (by decide) (fun c_467 => ?_) (fun c_467 => ?_)
    · exact absurd rfl c_467
    refine z_iconst C (v := 1) dL_pieces_470 (by decide) ?_
    refine z_goto C 475 dL_pieces_471 (by decide) ?_
    refine z_widen (mc := 120) (ms := 6 * 120) (by first | decide | omega) (by first | decide | omega) ?_
    refine z_zret C dL_pieces_475 (by first | exact Or.inl rfl | exact Or.inr rfl | assumption) ?_
    exact ⟨rfl, hI⟩
end
section
variable {p : Program} {l : Launch} {e : Env} {R : Room} {s : State} {m : MethodId} {args : Array Value} {below : List Frame} {meth : Method} {c : Code} {D : va_G} {ad : Nat → Nat → Nat} {cy : Nat → ClassId} {A : Nat → Prop} {sa : Nat → Nat} {cells slots : Nat} {σ : St}
set_option maxRecDepth 100000 in
set_option maxHeartbeats 4000000 in
theorem lp_p319 (C : Cx p l s m args meth c cL_pieces "FretSchoolLaw" 10 (some .boolean) D ad cy A sa) {T : Nat} {σ : St} (hI : LInv T σ) {np : Nat} (enp : σ 0 0 6 = nI np) (hnp : np ≤ 8) {x y : Int32} {j nc : Nat} (hj : j < np) (ec : σ 11 j 1 = nI nc) (hc : nc ≤ 16) (em : σ 17 0 j = nI nc) {b : Int32} (hb : ¬ outR b (-40) 40) {v8 : Int32} (hv8 : 0 < nc → v8 = σ 12 j 0) : ∀ (f k : Nat) (v7 : Int32) {cells slots : Nat}, k ≤ nc → nc < k + f → ((v7 = 1 ∧ ∀ k0, k0 < k → okP (σ 12 j k0 + b)) ∨ (v7 = 0 ∧ ∃ k0, k0 < k ∧ ¬ okP (σ 12 j k0 + b))) → cells + 4 * f + 14 ≤ 120 → slots + 24 * f + 84 ≤ 6 * 120 → Z p l e (rmD 10 120) s m args below meth c D ad cy A 10 (cells) (slots) (MQ below (va_Qi (fun r σ' => r = 1 ∧ LInv T σ') (Bw D ad cy) A) args s 120 (6 * 120) A) (σ) [some (.ref (ad 0 0)), some (.ref (ad 17 0)), some (.ref (ad 22 0)), some (.int x), some (.int y), some (.int (nI j)), some (.int b), some (.int v7), some (.int v8), some (.int (nI k))] 319 [] := by
  intro f
  induction f with
  | zero => intro k v7 cells slots _ h; exact absurd h (by omega)
  | succ f ih =>
    intro k v7 cells slots hk hfu hv7 hc1 hc2
    refine z_iload C dL_pieces_319 rfl ?_
    refine z_aload_n C dL_pieces_321 rfl ?_
    refine z_iload C dL_pieces_322 rfl ?_
    refine a_17 C (j := j) rfl (by omega) dL_pieces_324 ?_
    rw [em]
    refine z_icmp_ge C 376 dL_pieces_325 (by decide) (fun c_325 => ?_) (fun c_325 => ?_)
    · have hqn : k = nc := by rw [nI_leI (by omega) (by omega)] at c_325; omega
      rcases hv7 with ⟨rfl, h⟩ | ⟨rfl, h⟩
      · exact lp_pt_y C hI enp hnp hj ec hc em hb (fun k0 h0 => h k0 (by omega)) hv8 (by omega) (by omega)
      · obtain ⟨k0, h0, h1⟩ := h
        exact lp_pt_n C hI enp hnp hj ec hc em hb ⟨k0, by omega, h1⟩ hv8 (by omega) (by omega)
    · have hkc : k < nc := by rw [nI_leI (by omega) (by omega)] at c_325; omega
      refine z_iload C dL_pieces_328 rfl ?_
      refine z_if_eq C 367 dL_pieces_330 (by decide) (fun c_330 => ?_) (fun c_330 => ?_)
      · obtain ⟨z7, k0, hk0l, hk0⟩ : v7 = 0 ∧ ∃ k0, k0 < k ∧ ¬ okP (σ 12 j k0 + b) := hv7.elim (fun h => absurd c_330 (by rw [h.1]; decide)) id
        subst z7
        refine z_iconst C (v := 0) dL_pieces_367 (by decide) ?_
        refine z_istore C dL_pieces_368 (by decide) ?_
        dsimp only [List.set]
        refine z_iinc C (v := 1) dL_pieces_370 rfl (by decide) (by decide) ?_
        dsimp only [List.set]
        refine z_goto C 319 dL_pieces_373 (by decide) ?_
        rw [nI_1]
        exact ih (k + 1) _ (by omega) (by omega) (Or.inr ⟨rfl, k0, by omega, hk0⟩) (by omega) (by omega)
      · obtain ⟨z7, hok⟩ : v7 = 1 ∧ ∀ k0, k0 < k → okP (σ 12 j k0 + b) := hv7.elim id (fun h => absurd h.1 c_330)
        subst z7
        refine z_aload_n C dL_pieces_333 rfl ?_
        refine z_iload C dL_pieces_334 rfl ?_
        refine z_iload C dL_pieces_336 rfl ?_
        refine z_csw C (As := [_, _, _]) (c_L_pitch hI.1) wd335 wd13 wd336 hd_pitch wd334 (rok (by decide) (by decide)) ⟨by show _ ≤ 120; omega, by show _ ≤ 6 * (120); omega⟩ rfl (Nat.le_of_ble_eq_true rfl) dL_pieces_338 ?_
        intro r338 τ338 h338
        obtain ⟨rfl, rfl⟩ := h338.yes (K_pitch_z (by rw [enp]; exact ok_nI hj (by omega)) (by rw [ix_nI (by omega), ec]; exact ok_nI hkc (by omega)))
        rw [ix_nI (by omega), ix_nI (by omega)]
        refine z_iload C dL_pieces_341 rfl ?_
        refine z_iadd C dL_pieces_343 ?_
        refine z_if_lt C 367 dL_pieces_344 (by decide) (fun c_344 => ?_) (fun c_344 => ?_)
        · refine z_iconst C (v := 0) dL_pieces_367 (by decide) ?_
          refine z_istore C dL_pieces_368 (by decide) ?_
          dsimp only [List.set]
          refine z_iinc C (v := 1) dL_pieces_370 rfl (by decide) (by decide) ?_
          dsimp only [List.set]
          refine z_goto C 319 dL_pieces_373 (by decide) ?_
          rw [nI_1]
          exact ih (k + 1) _ (by omega) (by omega) (Or.inr ⟨rfl, k, by omega, fun q => q.1 c_344⟩) (by omega) (by omega)
        · refine z_aload_n C dL_pieces_347 rfl ?_
          refine z_iload C dL_pieces_348 rfl ?_
          refine z_iload C dL_pieces_350 rfl ?_
          refine z_csw C (As := [_, _, _]) (c_L_pitch hI.1) wd335 wd13 wd336 hd_pitch wd334 (rok (by decide) (by decide)) ⟨by show _ ≤ 120; omega, by show _ ≤ 6 * (120); omega⟩ rfl (Nat.le_of_ble_eq_true rfl) dL_pieces_352 ?_
          intro r352 τ352 h352
          obtain ⟨rfl, rfl⟩ := h352.yes (K_pitch_z (by rw [enp]; exact ok_nI hj (by omega)) (by rw [ix_nI (by omega), ec]; exact ok_nI hkc (by omega)))
          rw [ix_nI (by omega), ix_nI (by omega)]
          refine z_iload C dL_pieces_355 rfl ?_
          refine z_iadd C dL_pieces_357 ?_
          refine z_bipush C (v := 80) dL_pieces_358 (by decide) ?_
          refine z_icmp_gt C 367 dL_pieces_360 (by decide) (fun c_360 => ?_) (fun c_360 => ?_)
          · refine z_iconst C (v := 0) dL_pieces_367 (by decide) ?_
            refine z_istore C dL_pieces_368 (by decide) ?_
            dsimp only [List.set]
            refine z_iinc C (v := 1) dL_pieces_370 rfl (by decide) (by decide) ?_
            dsimp only [List.set]
            refine z_goto C 319 dL_pieces_373 (by decide) ?_
            rw [nI_1]
            exact ih (k + 1) _ (by omega) (by omega) (Or.inr ⟨rfl, k, by omega, fun q => gt80 c_360 q.2⟩) (by omega) (by omega)
          · refine z_iconst C (v := 1) dL_pieces_363 (by decide) ?_
            refine z_goto C 368 dL_pieces_364 (by decide) ?_
            refine z_istore C dL_pieces_368 (by decide) ?_
            dsimp only [List.set]
            refine z_iinc C (v := 1) dL_pieces_370 rfl (by decide) (by decide) ?_
            dsimp only [List.set]
            refine z_goto C 319 dL_pieces_373 (by decide) ?_
            rw [nI_1]
            exact ih (k + 1) _ (by omega) (by omega) (Or.inl ⟨rfl, fun k0 h => by
              by_cases q : k0 = k
              · rw [q]; exact ⟨c_344, le80 c_360⟩
              · exact hok k0 (by omega)⟩) (by omega) (by omega)
end
section
variable {p : Program} {l : Launch} {e : Env} {R : Room} {s : State} {m : MethodId} {args : Array Value} {below : List Frame} {meth : Method} {c : Code} {D : va_G} {ad : Nat → Nat → Nat} {cy : Nat → ClassId} {A : Nat → Prop} {sa : Nat → Nat} {cells slots : Nat} {σ : St}
set_option maxRecDepth 100000 in
set_option maxHeartbeats 4000000 in
theorem lp_p291 (C : Cx p l s m args meth c cL_pieces "FretSchoolLaw" 10 (some .boolean) D ad cy A sa) {T : Nat} {σ : St} (hI : LInv T σ) {np : Nat} (enp : σ 0 0 6 = nI np) (hnp : np ≤ 8) {x y : Int32} {j nc : Nat} (hj : j < np) (ec : σ 11 j 1 = nI nc) (hc : nc ≤ 16) (em : σ 17 0 j = nI nc) {b : Int32} (hb : ¬ outR b (-40) 40) {o6 o7 o8 o9 : Option Value} : Z p l e (rmD 10 120) s m args below meth c D ad cy A 10 (0) (0) (MQ below (va_Qi (fun r σ' => r = 1 ∧ LInv T σ') (Bw D ad cy) A) args s 120 (6 * 120) A) (σ) [some (.ref (ad 0 0)), some (.ref (ad 17 0)), some (.ref (ad 22 0)), some (.int x), some (.int y), some (.int (nI j)), o6, o7, o8, o9] 291 [.int b] := by
  refine z_istore C dL_pieces_291 (by decide) ?_
  dsimp only [List.set]
  refine z_iconst C (v := 1) dL_pieces_293 (by decide) ?_
  refine z_istore C dL_pieces_294 (by decide) ?_
  dsimp only [List.set]
  refine z_aload_n C dL_pieces_296 rfl ?_
  refine z_iload C dL_pieces_297 rfl ?_
  refine a_17 C (j := j) rfl (by omega) dL_pieces_299 ?_
  rw [em]
  refine z_if_ne C 307 dL_pieces_300 (by decide) (fun c_300 => ?_) (fun c_300 => ?_)
  · have hc0 : 0 < nc := by rw [nI_ne0' (by omega)] at c_300; omega
    refine z_aload_n C dL_pieces_307 rfl ?_
    refine z_iload C dL_pieces_308 rfl ?_
    refine z_iconst C (v := 0) dL_pieces_310 (by decide) ?_
    refine z_csw C (As := [_, _, _]) (c_L_pitch hI.1) wd335 wd13 wd336 hd_pitch wd334 (rok (by decide) (by decide)) ⟨Nat.le_of_ble_eq_true rfl, Nat.le_of_ble_eq_true rfl⟩ rfl (Nat.le_of_ble_eq_true rfl) dL_pieces_311 ?_
    intro r311 τ2 h311
    obtain ⟨e311, rfl⟩ := h311.yes (K_pitch_z (by rw [enp]; exact ok_nI hj (by omega)) (by rw [ix_nI (by omega), ec]; exact ok_nI (j := 0) hc0 (by omega)))
    rw [ix_nI (by omega), show ix 0 = 0 from rfl] at e311
    subst e311
    refine z_istore C dL_pieces_314 (by decide) ?_
    dsimp only [List.set]
    refine z_iconst C (v := 0) dL_pieces_316 (by decide) ?_
    refine z_istore C dL_pieces_317 (by decide) ?_
    dsimp only [List.set]
    exact lp_p319 C hI enp hnp hj ec hc em hb (fun _ => rfl) (nc + 1) 0 1 (by omega) (by omega) (Or.inl ⟨rfl, fun k0 h => absurd h (by omega)⟩) (by omega) (by omega)
  · have hc0 : nc = 0 := by rw [nI_ne0' (by omega)] at c_300; exact c_300
    refine z_iconst C (v := 0) dL_pieces_303 (by decide) ?_
    refine z_goto C 314 dL_pieces_304 (by decide) ?_
    refine z_istore C dL_pieces_314 (by decide) ?_
    dsimp only [List.set]
    refine z_iconst C (v := 0) dL_pieces_316 (by decide) ?_
    refine z_istore C dL_pieces_317 (by decide) ?_
    dsimp only [List.set]
    exact lp_p319 C hI enp hnp hj ec hc em hb (fun h => absurd h (by omega)) (nc + 1) 0 1 (by omega) (by omega) (Or.inl ⟨rfl, fun k0 h => absurd h (by omega)⟩) (by omega) (by omega)
end
theorem by_81 {a : Nat} (h : a < 81) : ¬ outR (nI a - 40) (-40) 40 := by
  have : ∀ a, a < 81 → ¬ (nI a - 40 < -40) ∧ nI a - 40 ≤ 40 := by decide +kernel
  exact fun q => q.elim (this a h).1 (fun q => q (this a h).2)
theorem by_9 {a : Nat} (h : a < 9) : ¬ outR (nI a - 4) (-40) 40 := by
  have : ∀ a, a < 9 → ¬ (nI a - 4 < -40) ∧ nI a - 4 ≤ 40 := by decide +kernel
  exact fun q => q.elim (this a h).1 (fun q => q (this a h).2)
set_option maxRecDepth 100000 in
set_option maxHeartbeats 4000000 in
theorem c_L_pieces {l : Launch} {D : va_G} {ad : Nat → Nat → Nat} {cy : Nat → ClassId} {A : Nat → Prop} {sa : Nat → Nat} {σ : St} {T : Nat} (hI : LInv T σ) {x y : Int32} : MK l D ad cy A sa yL_pieces cL_pieces 10 (some .boolean) 10 120 σ [.ref (ad 0 0), .ref (ad 17 0), .ref (ad 22 0), .int x, .int y] (fun r σ' => r = 1 ∧ LInv T σ') := by
  refine MK.mk "FretSchoolLaw" (by decide) rfl (Nat.le_of_ble_eq_true rfl) rfl ?_
  intro p e s m args below meth c C
  change Z _ _ _ _ _ _ _ _ _ _ _ _ _ _ _ _ _ _ _ [some (.ref (ad 0 0)), some (.ref (ad 17 0)), some (.ref (ad 22 0)), some (.int x), some (.int y), none, none, none, none, none] 0 []
  obtain ⟨np, hnp, enp⟩ := hI.1.1
  refine z_aload_n C dL_pieces_0 rfl ?_
  refine z_iconst C (v := 0) dL_pieces_1 (by decide) ?_
  refine a_22 C (j := 0) (by decide) (by decide) dL_pieces_2 ?_
  rw [hI.2.1.1, enp]
  refine z_iconst C (v := 2) dL_pieces_3 (by decide) ?_
  refine z_icmp_lt C 16 dL_pieces_4 (by decide) (fun c_4 => ?_) (fun c_4 => ?_)
  · by_cases h8 : np < 8
    · exact lp_pb_y C hI enp hnp h8
    · exact lp_pb_n C hI enp hnp (by omega)
  · have hn2 : 2 ≤ np := by rw [show (2 : Int32) = nI 2 from rfl, nI_ltI (by omega) (by omega)] at c_4; omega
    refine z_iload_n C dL_pieces_7 rfl ?_
    refine z_bipush C (v := 8) dL_pieces_8 (by decide) ?_
    refine z_csi C (As := [_, _]) (c_L_low (k := 8) rfl (by omega) (by omega)) okL_low wd447 (rok (by decide) (by decide)) ⟨Nat.le_of_ble_eq_true rfl, Nat.le_of_ble_eq_true rfl⟩ rfl (Nat.le_of_ble_eq_true rfl) dL_pieces_10 ?_
    rintro _ _ ⟨rfl, rfl⟩
    refine z_if_ne C 82 dL_pieces_13 (by decide) (fun c_13 => ?_) (fun c_13 => ?_)
    · refine z_iload_n C dL_pieces_82 rfl ?_
      refine z_iconst C (v := 3) dL_pieces_83 (by decide) ?_
      refine z_ishr C dL_pieces_84 ?_
      refine z_aload_n C dL_pieces_85 rfl ?_
      refine z_iconst C (v := 0) dL_pieces_86 (by decide) ?_
      refine a_22 C (j := 0) (by decide) (by decide) dL_pieces_87 ?_
      rw [hI.2.1.1, enp]
      refine z_csi C (As := [_, _]) (c_L_low (k := np) rfl (by omega) (by omega)) okL_low wd447 (rok (by decide) (by decide)) ⟨Nat.le_of_ble_eq_true rfl, Nat.le_of_ble_eq_true rfl⟩ rfl (Nat.le_of_ble_eq_true rfl) dL_pieces_88 ?_
      rintro _ _ ⟨rfl, rfl⟩
      have hj : lowN (x >>> (3 &&& 31)) np < np := lowN_lt (by omega)
      generalize lowN (x >>> (3 &&& 31)) np = j at hj ⊢
      obtain ⟨ec, hc⟩ := hI.1.2.2.2.1 j (by omega)
      have em : σ 17 0 j = nI (cN σ j) := (hI.2.2.2.1 j (by omega)).trans ec
      generalize cN σ j = nc at ec hc em
      refine z_istore C dL_pieces_91 (by decide) ?_
      dsimp only [List.set]
      refine z_iload_n C dL_pieces_93 rfl ?_
      refine z_bipush C (v := 6) dL_pieces_94 (by decide) ?_
      refine z_ishr C dL_pieces_96 ?_
      refine z_bipush C (v := 6) dL_pieces_97 (by decide) ?_
      refine z_csi C (As := [_, _]) (c_L_low (k := 6) rfl (by omega) (by omega)) okL_low wd447 (rok (by decide) (by decide)) ⟨Nat.le_of_ble_eq_true rfl, Nat.le_of_ble_eq_true rfl⟩ rfl (Nat.le_of_ble_eq_true rfl) dL_pieces_99 ?_
      rintro _ _ ⟨rfl, rfl⟩
      refine z_if_le C 248 dL_pieces_102 (by decide) (fun c_102 => ?_) (fun c_102 => ?_)
      · refine z_iload C dL_pieces_248 rfl ?_
        refine z_iload C dL_pieces_250 rfl ?_
        refine z_bipush C (v := 8) dL_pieces_252 (by decide) ?_
        refine z_ishr C dL_pieces_254 ?_
        refine z_iconst C (v := 3) dL_pieces_255 (by decide) ?_
        refine z_csi C (As := [_, _]) (c_L_low (k := 3) rfl (by omega) (by omega)) okL_low wd447 (rok (by decide) (by decide)) ⟨Nat.le_of_ble_eq_true rfl, Nat.le_of_ble_eq_true rfl⟩ rfl (Nat.le_of_ble_eq_true rfl) dL_pieces_256 ?_
        rintro _ _ ⟨rfl, rfl⟩
        refine z_if_ne C 267 dL_pieces_259 (by decide) (fun c_259 => ?_) (fun c_259 => ?_)
        · refine z_bipush C (v := 9) dL_pieces_267 (by decide) ?_
          refine z_csi C (As := [_, _]) (c_L_low (k := 9) rfl (by omega) (by omega)) okL_low wd447 (rok (by decide) (by decide)) ⟨Nat.le_of_ble_eq_true rfl, Nat.le_of_ble_eq_true rfl⟩ rfl (Nat.le_of_ble_eq_true rfl) dL_pieces_269 ?_
          rintro _ _ ⟨rfl, rfl⟩
          refine z_iload C dL_pieces_272 rfl ?_
          refine z_bipush C (v := 8) dL_pieces_274 (by decide) ?_
          refine z_ishr C dL_pieces_276 ?_
          refine z_iconst C (v := 3) dL_pieces_277 (by decide) ?_
          refine z_csi C (As := [_, _]) (c_L_low (k := 3) rfl (by omega) (by omega)) okL_low wd447 (rok (by decide) (by decide)) ⟨Nat.le_of_ble_eq_true rfl, Nat.le_of_ble_eq_true rfl⟩ rfl (Nat.le_of_ble_eq_true rfl) dL_pieces_278 ?_
          rintro _ _ ⟨rfl, rfl⟩
          refine z_if_ne C 289 dL_pieces_281 (by decide) (fun c_281 => ?_) (fun c_281 => ?_)
          rotate_left
          · exact absurd c_281 c_259
          refine z_iconst C (v := 4) dL_pieces_289 (by decide) ?_
          refine z_isub C dL_pieces_290 ?_
          exact lp_p291 C hI enp hnp hj ec hc em (by_9 (lowN_lt (by omega)))
        · refine z_bipush C (v := 81) dL_pieces_262 (by decide) ?_
          refine z_goto C 269 dL_pieces_264 (by decide) ?_
          refine z_csi C (As := [_, _]) (c_L_low (k := 81) rfl (by omega) (by omega)) okL_low wd447 (rok (by decide) (by decide)) ⟨Nat.le_of_ble_eq_true rfl, Nat.le_of_ble_eq_true rfl⟩ rfl (Nat.le_of_ble_eq_true rfl) dL_pieces_269 ?_
          rintro _ _ ⟨rfl, rfl⟩
          refine z_iload C dL_pieces_272 rfl ?_
          refine z_bipush C (v := 8) dL_pieces_274 (by decide) ?_
          refine z_ishr C dL_pieces_276 ?_
          refine z_iconst C (v := 3) dL_pieces_277 (by decide) ?_
          refine z_csi C (As := [_, _]) (c_L_low (k := 3) rfl (by omega) (by omega)) okL_low wd447 (rok (by decide) (by decide)) ⟨Nat.le_of_ble_eq_true rfl, Nat.le_of_ble_eq_true rfl⟩ rfl (Nat.le_of_ble_eq_true rfl) dL_pieces_278 ?_
          rintro _ _ ⟨rfl, rfl⟩
          refine z_if_ne C 289 dL_pieces_281 (by decide) (fun c_281 => ?_) (fun c_281 => ?_)
          · exact absurd c_259 c_281
          refine z_bipush C (v := 40) dL_pieces_284 (by decide) ?_
          refine z_goto C 290 dL_pieces_286 (by decide) ?_
          refine z_isub C dL_pieces_290 ?_
          exact lp_p291 C hI enp hnp hj ec hc em (by_81 (lowN_lt (by omega)))
      · refine z_iload C dL_pieces_105 rfl ?_
        refine z_iload C dL_pieces_107 rfl ?_
        refine z_bipush C (v := 8) dL_pieces_109 (by decide) ?_
        refine z_ishr C dL_pieces_111 ?_
        refine z_iconst C (v := 4) dL_pieces_112 (by decide) ?_
        refine z_csi C (As := [_, _]) (c_L_low (k := 4) rfl (by omega) (by omega)) okL_low wd447 (rok (by decide) (by decide)) ⟨Nat.le_of_ble_eq_true rfl, Nat.le_of_ble_eq_true rfl⟩ rfl (Nat.le_of_ble_eq_true rfl) dL_pieces_113 ?_
        rintro _ _ ⟨rfl, rfl⟩
        refine z_if_ne C 124 dL_pieces_116 (by decide) (fun c_116 => ?_) (fun c_116 => ?_)
        · refine z_bipush C (v := 30) dL_pieces_124 (by decide) ?_
          refine z_csi C (As := [_, _]) (c_L_low (k := 30) rfl (by omega) (by omega)) okL_low wd447 (rok (by decide) (by decide)) ⟨Nat.le_of_ble_eq_true rfl, Nat.le_of_ble_eq_true rfl⟩ rfl (Nat.le_of_ble_eq_true rfl) dL_pieces_126 ?_
          rintro _ _ ⟨rfl, rfl⟩
          have hp : lowN y 30 ≤ 80 := by have := lowN_lt (v := y) (k := 30) (by omega); omega
          by_cases hc16 : nc < 16
          · exact lp_pa_y C hI enp hnp hj ec hc em hp hc16
          · exact lp_pa_n C hI enp hnp hj ec hc em hp (by omega)
        · refine z_bipush C (v := 81) dL_pieces_119 (by decide) ?_
          refine z_goto C 126 dL_pieces_121 (by decide) ?_
          refine z_csi C (As := [_, _]) (c_L_low (k := 81) rfl (by omega) (by omega)) okL_low wd447 (rok (by decide) (by decide)) ⟨Nat.le_of_ble_eq_true rfl, Nat.le_of_ble_eq_true rfl⟩ rfl (Nat.le_of_ble_eq_true rfl) dL_pieces_126 ?_
          rintro _ _ ⟨rfl, rfl⟩
          have hp : lowN y 81 ≤ 80 := by have := lowN_lt (v := y) (k := 81) (by omega); omega
          by_cases hc16 : nc < 16
          · exact lp_pa_y C hI enp hnp hj ec hc em hp hc16
          · exact lp_pa_n C hI enp hnp hj ec hc em hp (by omega)
    · by_cases h8 : np < 8
      · exact lp_pb_y C hI enp hnp h8
      · exact lp_pb_n C hI enp hnp (by omega)
