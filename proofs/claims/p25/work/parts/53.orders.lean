/-! ===== orders ===== -/
section
variable {p : Program} {l : Launch} {e : Env} {R : Room} {s : State} {m : MethodId} {args : Array Value} {below : List Frame} {meth : Method} {c : Code} {D : va_G} {ad : Nat → Nat → Nat} {cy : Nat → ClassId} {A : Nat → Prop} {sa : Nat → Nat} {cells slots : Nat} {σ : St}
set_option maxRecDepth 100000 in
set_option maxHeartbeats 4000000 in
theorem lp_oy (C : Cx p l s m args meth c cL_orders "FretSchoolLaw" 12 (some .boolean) D ad cy A sa) {T : Nat} {σ : St} (hI : LInv T σ) {no a t f : Nat} (eno : σ 0 0 8 = nI no) (hno : no ≤ 20) (ha : a < 3) (ht : t < 4) (hf1 : 4 ≤ f) (hf2 : f ≤ 16) {x y : Int32} (hs : 3 ≤ σ 5 0 t) (hw : awV σ no < 2) (hn : no < 20) {o9 o10 o11 : Option Value} (hc1 : cells + 24 ≤ 60) (hc2 : slots + 144 ≤ 6 * 60) : Z p l e (rmD 10 60) s m args below meth c D ad cy A 12 (cells) (slots) (MQ below (va_Qi (fun r σ' => r = 1 ∧ LInv T σ') (Bw D ad cy) A) args s 60 (6 * 60) A) (σ) [some (.ref (ad 0 0)), some (.ref (ad 20 0)), some (.ref (ad 21 0)), some (.ref (ad 22 0)), some (.int x), some (.int y), some (.int (nI a)), some (.int (nI t)), some (.int (nI f)), o9, o10, o11] 110 [.int 1] := by
  refine z_istore C dL_orders_110 (by decide) ?_
  dsimp only [List.set]
  refine z_iload C dL_orders_112 rfl ?_
  refine z_if_eq C 123 dL_orders_114 (by decide) (fun c_114 => ?_) (fun c_114 => ?_)
  · exact absurd c_114 (by decide)
  refine z_aload_n C dL_orders_117 rfl ?_
  refine z_iconst C (v := 2) dL_orders_118 (by decide) ?_
  refine a_22 C (j := 2) (by decide) (by decide) dL_orders_119 ?_
  rw [hI.2.1.2.2.1, eno]
  refine z_goto C 125 dL_orders_120 (by decide) ?_
  refine z_istore C dL_orders_125 (by decide) ?_
  dsimp only [List.set]
  refine z_iload C dL_orders_127 rfl ?_
  refine z_if_eq C 159 dL_orders_129 (by decide) (fun c_129 => ?_) (fun c_129 => ?_)
  · exact absurd c_129 (by decide)
  refine z_aload_n C dL_orders_132 rfl ?_
  refine z_iload C dL_orders_133 rfl ?_
  refine z_dup2 C dL_orders_135 rfl rfl ?_
  refine a_21 C (j := t) rfl ht dL_orders_136 ?_
  refine z_iconst C (v := 3) dL_orders_137 (by decide) ?_
  refine z_isub C dL_orders_138 ?_
  refine s_21 C (j := t) rfl ht dL_orders_139 ?_
  refine z_aload_n C dL_orders_140 rfl ?_
  refine z_iload C dL_orders_141 rfl ?_
  refine z_iload C dL_orders_143 rfl ?_
  refine z_bipush C (v := 8) dL_orders_145 (by decide) ?_
  refine z_iload C dL_orders_147 rfl ?_
  refine z_imul C dL_orders_149 ?_
  rw [show (8 : Int32) * nI f = nI (8 * f) from pk_mul 8 f]
  refine z_iadd C dL_orders_150 ?_
  rw [nI_add]
  refine s_20 C (j := no) rfl (by omega) dL_orders_151 ?_
  refine z_aload_n C dL_orders_152 rfl ?_
  refine z_iconst C (v := 2) dL_orders_153 (by decide) ?_
  refine z_dup2 C dL_orders_154 rfl rfl ?_
  refine a_22 C (j := 2) (by decide) (by decide) dL_orders_155 ?_
  rw [up_n (by omega), up_n (by omega), hI.2.1.2.2.1, eno]
  refine z_iconst C (v := 1) dL_orders_156 (by decide) ?_
  refine z_iadd C dL_orders_157 ?_
  refine s_22 C (j := 2) (by decide) (by decide) dL_orders_158 ?_
  refine z_aload_n C dL_orders_159 rfl ?_
  refine z_iload C dL_orders_160 rfl ?_
  refine z_iload C dL_orders_162 rfl ?_
  refine z_iload C dL_orders_164 rfl ?_
  refine z_csw C (As := [_, _, _, _]) (c_L_order (Inv_law (by omega) (Inv_law (by omega) (Inv_law (by omega) hI.1)))) wd518 wd13 wd519 hd_order wd517 (rok (by decide) (by decide)) ⟨by show _ ≤ 60; omega, by show _ ≤ 6 * (60); omega⟩ rfl (Nat.le_of_ble_eq_true rfl) dL_orders_166 ?_
  intro r166 τ h166
  obtain ⟨e166, eτ⟩ := h166.yes (K_ord1 eno hn (by omega) ht hf1 hf2 hs hw)
  rw [up_n (by omega), up_n (by omega), up_n (by omega), eno] at e166
  rw [show ix ((up (up (up σ 21 0 t (σ 21 0 t - 3)) 20 0 no (nI (a + 8 * f))) 22 0 2 (nI no + 1)) 0 0 8) = no by rw [up_n (by omega), up_n (by omega), up_n (by omega), eno, ix_nI (by omega)]] at eτ
  have hI2 : LInv T τ := by rw [← eτ]; exact LInv_order hI eno hn (by omega) ht hf1 hf2 hs hw
  have er : τ 16 no 2 = σ 0 0 9 + 2 * nI f := by rw [← eτ]; unfold orderS; rw [up_n (by omega), up_at, up_n (by omega), up_n (by omega), up_n (by omega)]
  have e9 : τ 0 0 9 = σ 0 0 9 := by rw [← eτ]; unfold orderS; rw [up_n (by omega), up_n (by omega), up_n (by omega), up_n (by omega), up_n (by omega), up_n (by omega), up_n (by omega), up_n (by omega)]
  have eno2 : τ 0 0 8 = nI (no + 1) := by rw [← eτ]; unfold orderS; rw [up_at]
  clear eτ h166
  have hI := hI2
  refine z_iload C dL_orders_169 rfl ?_
  refine z_icmp_ne C 253 dL_orders_171 (by decide) (fun c_171 => ?_) (fun c_171 => ?_)
  · exact absurd e166 c_171
  refine z_aload_n C dL_orders_174 rfl ?_
  refine z_iload C dL_orders_175 rfl ?_
  refine z_iload C dL_orders_177 rfl ?_
  refine z_iconst C (v := 3) dL_orders_179 (by decide) ?_
  refine z_csw C (As := [_, _, _, _]) (c_L_order hI.1) wd518 wd13 wd519 hd_order wd517 (rok (by decide) (by decide)) ⟨by show _ ≤ 60; omega, by show _ ≤ 6 * (60); omega⟩ rfl (Nat.le_of_ble_eq_true rfl) dL_orders_180 ?_
  intro r180 τ180 h180
  obtain ⟨rfl, rfl⟩ := h180.not (j := 0) (K_order_1 (Or.inr (Or.inr (Or.inl (by decide))))) rfl
  refine z_ldc C (v := (-1000002)) wd266 dL_orders_183 ?_
  refine z_icmp_ne C 253 dL_orders_185 (by decide) (fun c_185 => ?_) (fun c_185 => ?_)
  · exact absurd rfl c_185
  refine z_aload_n C dL_orders_188 rfl ?_
  refine z_iload C dL_orders_189 rfl ?_
  refine z_iload C dL_orders_191 rfl ?_
  refine z_bipush C (v := 17) dL_orders_193 (by decide) ?_
  refine z_csw C (As := [_, _, _, _]) (c_L_order hI.1) wd518 wd13 wd519 hd_order wd517 (rok (by decide) (by decide)) ⟨by show _ ≤ 60; omega, by show _ ≤ 6 * (60); omega⟩ rfl (Nat.le_of_ble_eq_true rfl) dL_orders_195 ?_
  intro r195 τ195 h195
  obtain ⟨rfl, rfl⟩ := h195.not (j := 0) (K_order_1 (Or.inr (Or.inr (Or.inr (by decide))))) rfl
  refine z_ldc C (v := (-1000002)) wd266 dL_orders_198 ?_
  refine z_icmp_ne C 253 dL_orders_200 (by decide) (fun c_200 => ?_) (fun c_200 => ?_)
  · exact absurd rfl c_200
  refine z_aload_n C dL_orders_203 rfl ?_
  refine z_iconst C (v := 5) dL_orders_204 (by decide) ?_
  refine z_iconst C (v := 0) dL_orders_205 (by decide) ?_
  refine z_iconst C (v := 4) dL_orders_206 (by decide) ?_
  refine z_csw C (As := [_, _, _, _]) (c_L_order hI.1) wd518 wd13 wd519 hd_order wd517 (rok (by decide) (by decide)) ⟨by show _ ≤ 60; omega, by show _ ≤ 6 * (60); omega⟩ rfl (Nat.le_of_ble_eq_true rfl) dL_orders_207 ?_
  intro r207 τ207 h207
  obtain ⟨rfl, rfl⟩ := h207.not (j := 0) (K_order_1 (Or.inl out5)) rfl
  refine z_ldc C (v := (-1000002)) wd266 dL_orders_210 ?_
  refine z_icmp_ne C 253 dL_orders_212 (by decide) (fun c_212 => ?_) (fun c_212 => ?_)
  · exact absurd rfl c_212
  refine z_aload_n C dL_orders_215 rfl ?_
  refine z_iconst C (v := 0) dL_orders_216 (by decide) ?_
  refine z_iconst C (v := 4) dL_orders_217 (by decide) ?_
  refine z_iconst C (v := 4) dL_orders_218 (by decide) ?_
  refine z_csw C (As := [_, _, _, _]) (c_L_order hI.1) wd518 wd13 wd519 hd_order wd517 (rok (by decide) (by decide)) ⟨by show _ ≤ 60; omega, by show _ ≤ 6 * (60); omega⟩ rfl (Nat.le_of_ble_eq_true rfl) dL_orders_219 ?_
  intro r219 τ219 h219
  obtain ⟨rfl, rfl⟩ := h219.not (j := 0) (K_order_1 (Or.inr (Or.inl (Or.inr (by decide))))) rfl
  refine z_ldc C (v := (-1000002)) wd266 dL_orders_222 ?_
  refine z_icmp_ne C 253 dL_orders_224 (by decide) (fun c_224 => ?_) (fun c_224 => ?_)
  · exact absurd rfl c_224
  refine z_iload C dL_orders_227 rfl ?_
  refine z_if_lt C 249 dL_orders_229 (by decide) (fun c_229 => ?_) (fun c_229 => ?_)
  · exact absurd c_229 (nI_pos (by omega))
  refine z_aload_n C dL_orders_232 rfl ?_
  refine z_iload C dL_orders_233 rfl ?_
  refine z_csw C (As := [_, _]) (c_L_ready hI.1) wd506 wd13 wd507 hd_ready wd505 (rok (by decide) (by decide)) ⟨by show _ ≤ 60; omega, by show _ ≤ 6 * (60); omega⟩ rfl (Nat.le_of_ble_eq_true rfl) dL_orders_235 ?_
  intro r235 τ235 h235
  obtain ⟨e235, rfl⟩ := h235.yes (K_ready_z (by rw [eno2]; exact ok_nI (by omega) (by omega)))
  rw [ix_nI (by omega), er] at e235
  subst e235
  refine z_aload_n C dL_orders_238 rfl ?_
  refine z_iconst C (v := 3) dL_orders_239 (by decide) ?_
  refine a_22 C (j := 3) (by decide) (by decide) dL_orders_240 ?_
  rw [hI.2.1.2.2.2, e9]
  refine z_iconst C (v := 2) dL_orders_241 (by decide) ?_
  refine z_iload C dL_orders_242 rfl ?_
  refine z_imul C dL_orders_244 ?_
  refine z_iadd C dL_orders_245 ?_
  refine z_icmp_ne C 253 dL_orders_246 (by decide) (fun c_246 => ?_) (fun c_246 => ?_)
  · exact absurd rfl c_246
  refine z_iconst C (v := 1) dL_orders_249 (by decide) ?_
  refine z_goto C 254 dL_orders_250 (by decide) ?_
  refine z_widen (mc := 60) (ms := 6 * 60) (by first | decide | omega) (by first | decide | omega) ?_
  refine z_zret C dL_orders_254 (by first | exact Or.inl rfl | exact Or.inr rfl | assumption) ?_
  exact ⟨rfl, hI⟩
end
section
variable {p : Program} {l : Launch} {e : Env} {R : Room} {s : State} {m : MethodId} {args : Array Value} {below : List Frame} {meth : Method} {c : Code} {D : va_G} {ad : Nat → Nat → Nat} {cy : Nat → ClassId} {A : Nat → Prop} {sa : Nat → Nat} {cells slots : Nat} {σ : St}
set_option maxRecDepth 100000 in
set_option maxHeartbeats 4000000 in
theorem lp_on (C : Cx p l s m args meth c cL_orders "FretSchoolLaw" 12 (some .boolean) D ad cy A sa) {T : Nat} {σ : St} (hI : LInv T σ) {no a t f : Nat} (eno : σ 0 0 8 = nI no) (hno : no ≤ 20) (ha : a < 3) (ht : t < 4) (hf1 : 4 ≤ f) (hf2 : f ≤ 16) {x y : Int32} (hno2 : ¬ 3 ≤ σ 5 0 t ∨ ¬ awV σ no < 2 ∨ ¬ nI no < 20) {o9 o10 o11 : Option Value} (hc1 : cells + 24 ≤ 60) (hc2 : slots + 144 ≤ 6 * 60) : Z p l e (rmD 10 60) s m args below meth c D ad cy A 12 (cells) (slots) (MQ below (va_Qi (fun r σ' => r = 1 ∧ LInv T σ') (Bw D ad cy) A) args s 60 (6 * 60) A) (σ) [some (.ref (ad 0 0)), some (.ref (ad 20 0)), some (.ref (ad 21 0)), some (.ref (ad 22 0)), some (.int x), some (.int y), some (.int (nI a)), some (.int (nI t)), some (.int (nI f)), o9, o10, o11] 110 [.int 0] := by
  refine z_istore C dL_orders_110 (by decide) ?_
  dsimp only [List.set]
  refine z_iload C dL_orders_112 rfl ?_
  refine z_if_eq C 123 dL_orders_114 (by decide) (fun c_114 => ?_) (fun c_114 => ?_)
  rotate_left
  · exact absurd rfl c_114
  refine z_ldc C (v := (-1000003)) wd443 dL_orders_123 ?_
  refine z_istore C dL_orders_125 (by decide) ?_
  dsimp only [List.set]
  refine z_iload C dL_orders_127 rfl ?_
  refine z_if_eq C 159 dL_orders_129 (by decide) (fun c_129 => ?_) (fun c_129 => ?_)
  rotate_left
  · exact absurd rfl c_129
  refine z_aload_n C dL_orders_159 rfl ?_
  refine z_iload C dL_orders_160 rfl ?_
  refine z_iload C dL_orders_162 rfl ?_
  refine z_iload C dL_orders_164 rfl ?_
  refine z_csw C (As := [_, _, _, _]) (c_L_order hI.1) wd518 wd13 wd519 hd_order wd517 (rok (by decide) (by decide)) ⟨by show _ ≤ 60; omega, by show _ ≤ 6 * (60); omega⟩ rfl (Nat.le_of_ble_eq_true rfl) dL_orders_166 ?_
  intro r166 τ166 h166
  obtain ⟨e166, rfl⟩ := h166.not (j := 1) (K_order_2 (in_nI (a := 0) (b := 4) (by omega) (by omega) (by omega)) (in_nI (a := 0) (b := 3) (by omega) (by omega) (by omega)) (in_nI (a := 4) (b := 16) hf1 hf2 (by omega)) (by rw [eno, ix_nI (by omega), ix_nI (by omega)]; exact hno2)) rfl
  refine z_iload C dL_orders_169 rfl ?_
  refine z_icmp_ne C 253 dL_orders_171 (by decide) (fun c_171 => ?_) (fun c_171 => ?_)
  · exact absurd e166 c_171
  refine z_aload_n C dL_orders_174 rfl ?_
  refine z_iload C dL_orders_175 rfl ?_
  refine z_iload C dL_orders_177 rfl ?_
  refine z_iconst C (v := 3) dL_orders_179 (by decide) ?_
  refine z_csw C (As := [_, _, _, _]) (c_L_order hI.1) wd518 wd13 wd519 hd_order wd517 (rok (by decide) (by decide)) ⟨by show _ ≤ 60; omega, by show _ ≤ 6 * (60); omega⟩ rfl (Nat.le_of_ble_eq_true rfl) dL_orders_180 ?_
  intro r180 τ180 h180
  obtain ⟨rfl, rfl⟩ := h180.not (j := 0) (K_order_1 (Or.inr (Or.inr (Or.inl (by decide))))) rfl
  refine z_ldc C (v := (-1000002)) wd266 dL_orders_183 ?_
  refine z_icmp_ne C 253 dL_orders_185 (by decide) (fun c_185 => ?_) (fun c_185 => ?_)
  · exact absurd rfl c_185
  refine z_aload_n C dL_orders_188 rfl ?_
  refine z_iload C dL_orders_189 rfl ?_
  refine z_iload C dL_orders_191 rfl ?_
  refine z_bipush C (v := 17) dL_orders_193 (by decide) ?_
  refine z_csw C (As := [_, _, _, _]) (c_L_order hI.1) wd518 wd13 wd519 hd_order wd517 (rok (by decide) (by decide)) ⟨by show _ ≤ 60; omega, by show _ ≤ 6 * (60); omega⟩ rfl (Nat.le_of_ble_eq_true rfl) dL_orders_195 ?_
  intro r195 τ195 h195
  obtain ⟨rfl, rfl⟩ := h195.not (j := 0) (K_order_1 (Or.inr (Or.inr (Or.inr (by decide))))) rfl
  refine z_ldc C (v := (-1000002)) wd266 dL_orders_198 ?_
  refine z_icmp_ne C 253 dL_orders_200 (by decide) (fun c_200 => ?_) (fun c_200 => ?_)
  · exact absurd rfl c_200
  refine z_aload_n C dL_orders_203 rfl ?_
  refine z_iconst C (v := 5) dL_orders_204 (by decide) ?_
  refine z_iconst C (v := 0) dL_orders_205 (by decide) ?_
  refine z_iconst C (v := 4) dL_orders_206 (by decide) ?_
  refine z_csw C (As := [_, _, _, _]) (c_L_order hI.1) wd518 wd13 wd519 hd_order wd517 (rok (by decide) (by decide)) ⟨by show _ ≤ 60; omega, by show _ ≤ 6 * (60); omega⟩ rfl (Nat.le_of_ble_eq_true rfl) dL_orders_207 ?_
  intro r207 τ207 h207
  obtain ⟨rfl, rfl⟩ := h207.not (j := 0) (K_order_1 (Or.inl out5)) rfl
  refine z_ldc C (v := (-1000002)) wd266 dL_orders_210 ?_
  refine z_icmp_ne C 253 dL_orders_212 (by decide) (fun c_212 => ?_) (fun c_212 => ?_)
  · exact absurd rfl c_212
  refine z_aload_n C dL_orders_215 rfl ?_
  refine z_iconst C (v := 0) dL_orders_216 (by decide) ?_
  refine z_iconst C (v := 4) dL_orders_217 (by decide) ?_
  refine z_iconst C (v := 4) dL_orders_218 (by decide) ?_
  refine z_csw C (As := [_, _, _, _]) (c_L_order hI.1) wd518 wd13 wd519 hd_order wd517 (rok (by decide) (by decide)) ⟨by show _ ≤ 60; omega, by show _ ≤ 6 * (60); omega⟩ rfl (Nat.le_of_ble_eq_true rfl) dL_orders_219 ?_
  intro r219 τ219 h219
  obtain ⟨rfl, rfl⟩ := h219.not (j := 0) (K_order_1 (Or.inr (Or.inl (Or.inr (by decide))))) rfl
  refine z_ldc C (v := (-1000002)) wd266 dL_orders_222 ?_
  refine z_icmp_ne C 253 dL_orders_224 (by decide) (fun c_224 => ?_) (fun c_224 => ?_)
  · exact absurd rfl c_224
  refine z_iload C dL_orders_227 rfl ?_
  refine z_if_lt C 249 dL_orders_229 (by decide) (fun c_229 => ?_) (fun c_229 => ?_)
  rotate_left
  · exact absurd (by decide) c_229
  refine z_iconst C (v := 1) dL_orders_249 (by decide) ?_
  refine z_goto C 254 dL_orders_250 (by decide) ?_
  refine z_widen (mc := 60) (ms := 6 * 60) (by first | decide | omega) (by first | decide | omega) ?_
  refine z_zret C dL_orders_254 (by first | exact Or.inl rfl | exact Or.inr rfl | assumption) ?_
  exact ⟨rfl, hI⟩
end
section
variable {p : Program} {l : Launch} {e : Env} {R : Room} {s : State} {m : MethodId} {args : Array Value} {below : List Frame} {meth : Method} {c : Code} {D : va_G} {ad : Nat → Nat → Nat} {cy : Nat → ClassId} {A : Nat → Prop} {sa : Nat → Nat} {cells slots : Nat} {σ : St}
set_option maxRecDepth 100000 in
set_option maxHeartbeats 4000000 in
theorem lp_o83 (C : Cx p l s m args meth c cL_orders "FretSchoolLaw" 12 (some .boolean) D ad cy A sa) {T : Nat} {σ : St} (hI : LInv T σ) {no a t f : Nat} (eno : σ 0 0 8 = nI no) (hno : no ≤ 20) (ha : a < 3) (ht : t < 4) (hf1 : 4 ≤ f) (hf2 : f ≤ 16) {x y : Int32} {o10 o11 : Option Value} (hc1 : cells + 24 ≤ 60) (hc2 : slots + 144 ≤ 6 * 60) : Z p l e (rmD 10 60) s m args below meth c D ad cy A 12 (cells) (slots) (MQ below (va_Qi (fun r σ' => r = 1 ∧ LInv T σ') (Bw D ad cy) A) args s 60 (6 * 60) A) (σ) [some (.ref (ad 0 0)), some (.ref (ad 20 0)), some (.ref (ad 21 0)), some (.ref (ad 22 0)), some (.int x), some (.int y), some (.int (nI a)), some (.int (nI t)), some (.int (nI f)), some (.int (awV σ no)), o10, o11] 83 [] := by
  refine z_aload_n C dL_orders_83 rfl ?_
  refine z_iload C dL_orders_84 rfl ?_
  refine a_21 C (j := t) rfl ht dL_orders_86 ?_
  rw [hI.2.2.2.2.2.2.2.2.1 t ht]
  refine z_iconst C (v := 2) dL_orders_87 (by decide) ?_
  refine z_icmp_le C 109 dL_orders_88 (by decide) (fun c_88 => ?_) (fun c_88 => ?_)
  · refine z_iconst C (v := 0) dL_orders_109 (by decide) ?_
    exact lp_on C hI eno hno ha ht hf1 hf2 (Or.inl (not3 c_88)) hc1 hc2
  · refine z_iload C dL_orders_91 rfl ?_
    refine z_iconst C (v := 2) dL_orders_93 (by decide) ?_
    refine z_icmp_ge C 109 dL_orders_94 (by decide) (fun c_94 => ?_) (fun c_94 => ?_)
    · refine z_iconst C (v := 0) dL_orders_109 (by decide) ?_
      exact lp_on C hI eno hno ha ht hf1 hf2 (Or.inr (Or.inl (fun q => le_not_lt c_94 q))) hc1 hc2
    · refine z_aload_n C dL_orders_97 rfl ?_
      refine z_iconst C (v := 2) dL_orders_98 (by decide) ?_
      refine a_22 C (j := 2) (by decide) (by decide) dL_orders_99 ?_
      rw [hI.2.1.2.2.1, eno]
      refine z_bipush C (v := 20) dL_orders_100 (by decide) ?_
      refine z_icmp_ge C 109 dL_orders_102 (by decide) (fun c_102 => ?_) (fun c_102 => ?_)
      · refine z_iconst C (v := 0) dL_orders_109 (by decide) ?_
        exact lp_on C hI eno hno ha ht hf1 hf2 (Or.inr (Or.inr (fun q => le_not_lt c_102 q))) hc1 hc2
      · refine z_iconst C (v := 1) dL_orders_105 (by decide) ?_
        refine z_goto C 110 dL_orders_106 (by decide) ?_
        exact lp_oy C hI eno hno ha ht hf1 hf2 (ge3 c_88) (not_le_lt c_94) (by rw [show (20 : Int32) = nI 20 from rfl, nI_leI (by omega) (by omega)] at c_102; omega) hc1 hc2
end
section
variable {p : Program} {l : Launch} {e : Env} {R : Room} {s : State} {m : MethodId} {args : Array Value} {below : List Frame} {meth : Method} {c : Code} {D : va_G} {ad : Nat → Nat → Nat} {cy : Nat → ClassId} {A : Nat → Prop} {sa : Nat → Nat} {cells slots : Nat} {σ : St}
set_option maxRecDepth 100000 in
set_option maxHeartbeats 4000000 in
theorem lp_o37 (C : Cx p l s m args meth c cL_orders "FretSchoolLaw" 12 (some .boolean) D ad cy A sa) {T : Nat} {σ : St} (hI : LInv T σ) {no a t f : Nat} (eno : σ 0 0 8 = nI no) (hno : no ≤ 20) (ha : a < 3) (ht : t < 4) (hf1 : 4 ≤ f) (hf2 : f ≤ 16) {x y : Int32} {o11 : Option Value} : ∀ (f9 k : Nat) {cells slots : Nat}, k ≤ no → no < k + f9 → cells + f9 + 24 ≤ 60 → slots + 6 * f9 + 144 ≤ 6 * 60 → Z p l e (rmD 10 60) s m args below meth c D ad cy A 12 (cells) (slots) (MQ below (va_Qi (fun r σ' => r = 1 ∧ LInv T σ') (Bw D ad cy) A) args s 60 (6 * 60) A) (σ) [some (.ref (ad 0 0)), some (.ref (ad 20 0)), some (.ref (ad 21 0)), some (.ref (ad 22 0)), some (.int x), some (.int y), some (.int (nI a)), some (.int (nI t)), some (.int (nI f)), some (.int (awV σ k)), some (.int (nI k)), o11] 37 [] := by
  intro f9
  induction f9 with
  | zero => intro k cells slots _ h; exact absurd h (by omega)
  | succ f9 ih =>
    intro k cells slots hk hfu hc1 hc2
    refine z_iload C dL_orders_37 rfl ?_
    refine z_aload_n C dL_orders_39 rfl ?_
    refine z_iconst C (v := 2) dL_orders_40 (by decide) ?_
    refine a_22 C (j := 2) (by decide) (by decide) dL_orders_41 ?_
    rw [hI.2.1.2.2.1, eno]
    refine z_icmp_ge C 83 dL_orders_42 (by decide) (fun c_42 => ?_) (fun c_42 => ?_)
    · have hqn : k = no := by rw [nI_leI (by omega) (by omega)] at c_42; omega
      subst hqn
      exact lp_o83 C hI eno hno ha ht hf1 hf2 (by omega) (by omega)
    · have hkn : k < no := by rw [nI_leI (by omega) (by omega)] at c_42; omega
      obtain ⟨wk, fk, dk, hwk, hfk1, hfk2, hdk, e0, e1, e3, e20⟩ := hI.2.2.2.2.2.2.2.1 k (by omega) (by rw [eno]; exact nI_lt hkn (by omega))
      refine z_iload C dL_orders_45 rfl ?_
      refine z_aload_n C dL_orders_47 rfl ?_
      refine z_iload C dL_orders_48 rfl ?_
      refine a_20 C (j := k) rfl (by omega) dL_orders_50 ?_
      rw [e20]
      refine z_sipush C (v := 256) dL_orders_51 (by decide) ?_
      refine z_icmp_ge C 73 dL_orders_54 (by decide) (fun c_54 => ?_) (fun c_54 => ?_)
      · have hd : dk ≠ 0 := by rw [show (256 : Int32) = nI 256 from rfl, nI_leI (by omega) (by omega)] at c_54; omega
        refine z_iconst C (v := 0) dL_orders_73 (by decide) ?_
        refine z_iadd C dL_orders_74 ?_
        refine z_istore C dL_orders_75 (by decide) ?_
        dsimp only [List.set]
        refine z_iinc C (v := 1) dL_orders_77 rfl (by decide) (by decide) ?_
        dsimp only [List.set]
        refine z_goto C 37 dL_orders_80 (by decide) ?_
        have e : awV σ (k + 1) = awV σ k := if_neg (fun z => by have := z.1; rw [e3, nI_ne0' (by omega)] at this; omega)
        rw [Int32.add_zero, nI_1, ← e]
        exact ih (k + 1) (by omega) (by omega) (by omega) (by omega)
      · have hd : dk = 0 := by rw [show (256 : Int32) = nI 256 from rfl, nI_leI (by omega) (by omega)] at c_54; omega
        refine z_aload_n C dL_orders_57 rfl ?_
        refine z_iload C dL_orders_58 rfl ?_
        refine z_csw C (As := [_, _]) (c_L_ready hI.1) wd506 wd13 wd507 hd_ready wd505 (rok (by decide) (by decide)) ⟨by show _ ≤ 60; omega, by show _ ≤ 6 * (60); omega⟩ rfl (Nat.le_of_ble_eq_true rfl) dL_orders_60 ?_
        intro r60 τ60 h60
        obtain ⟨rfl, rfl⟩ := h60.yes (K_ready_z (by rw [eno]; exact ok_nI hkn (by omega)))
        rw [ix_nI (by omega)]
        refine z_aload_n C dL_orders_63 rfl ?_
        refine z_iconst C (v := 3) dL_orders_64 (by decide) ?_
        refine a_22 C (j := 3) (by decide) (by decide) dL_orders_65 ?_
        rw [hI.2.1.2.2.2]
        refine z_icmp_le C 73 dL_orders_66 (by decide) (fun c_66 => ?_) (fun c_66 => ?_)
        · refine z_iconst C (v := 0) dL_orders_73 (by decide) ?_
          refine z_iadd C dL_orders_74 ?_
          refine z_istore C dL_orders_75 (by decide) ?_
          dsimp only [List.set]
          refine z_iinc C (v := 1) dL_orders_77 rfl (by decide) (by decide) ?_
          dsimp only [List.set]
          refine z_goto C 37 dL_orders_80 (by decide) ?_
          have e : awV σ (k + 1) = awV σ k := if_neg (fun z => le_not_lt c_66 z.2)
          rw [Int32.add_zero, nI_1, ← e]
          exact ih (k + 1) (by omega) (by omega) (by omega) (by omega)
        · refine z_iconst C (v := 1) dL_orders_69 (by decide) ?_
          refine z_goto C 74 dL_orders_70 (by decide) ?_
          refine z_iadd C dL_orders_74 ?_
          refine z_istore C dL_orders_75 (by decide) ?_
          dsimp only [List.set]
          refine z_iinc C (v := 1) dL_orders_77 rfl (by decide) (by decide) ?_
          dsimp only [List.set]
          refine z_goto C 37 dL_orders_80 (by decide) ?_
          have e : awV σ (k + 1) = awV σ k + 1 := if_pos ⟨by rw [e3, nI_ne0' (by omega)]; omega, not_le_lt c_66⟩
          rw [nI_1, ← e]
          exact ih (k + 1) (by omega) (by omega) (by omega) (by omega)
end
set_option maxRecDepth 100000 in
set_option maxHeartbeats 4000000 in
theorem c_L_orders {l : Launch} {D : va_G} {ad : Nat → Nat → Nat} {cy : Nat → ClassId} {A : Nat → Prop} {sa : Nat → Nat} {σ : St} {T : Nat} (hI : LInv T σ) {x y : Int32} : MK l D ad cy A sa yL_orders cL_orders 12 (some .boolean) 10 60 σ [.ref (ad 0 0), .ref (ad 20 0), .ref (ad 21 0), .ref (ad 22 0), .int x, .int y] (fun r σ' => r = 1 ∧ LInv T σ') := by
  refine MK.mk "FretSchoolLaw" (by decide) rfl (Nat.le_of_ble_eq_true rfl) rfl ?_
  intro p e s m args below meth c C
  change Z _ _ _ _ _ _ _ _ _ _ _ _ _ _ _ _ _ _ _ [some (.ref (ad 0 0)), some (.ref (ad 20 0)), some (.ref (ad 21 0)), some (.ref (ad 22 0)), some (.int x), some (.int y), none, none, none, none, none, none] 0 []
  obtain ⟨no, hno, eno⟩ := hI.1.2.2.1
  refine z_iload C dL_orders_0 rfl ?_
  refine z_iconst C (v := 3) dL_orders_2 (by decide) ?_
  refine z_csi C (As := [_, _]) (c_L_low (k := 3) rfl (by omega) (by omega)) okL_low wd447 (rok (by decide) (by decide)) ⟨by show _ ≤ 60; omega, by show _ ≤ 6 * (60); omega⟩ rfl (Nat.le_of_ble_eq_true rfl) dL_orders_3 ?_
  rintro _ _ ⟨rfl, rfl⟩
  have ha : lowN y 3 < 3 := lowN_lt (by omega)
  generalize lowN y 3 = a at ha ⊢
  refine z_istore C dL_orders_6 (by decide) ?_
  dsimp only [List.set]
  refine z_iload C dL_orders_8 rfl ?_
  refine z_iconst C (v := 2) dL_orders_10 (by decide) ?_
  refine z_ishr C dL_orders_11 ?_
  refine z_iconst C (v := 4) dL_orders_12 (by decide) ?_
  refine z_csi C (As := [_, _]) (c_L_low (k := 4) rfl (by omega) (by omega)) okL_low wd447 (rok (by decide) (by decide)) ⟨by show _ ≤ 60; omega, by show _ ≤ 6 * (60); omega⟩ rfl (Nat.le_of_ble_eq_true rfl) dL_orders_13 ?_
  rintro _ _ ⟨rfl, rfl⟩
  have ht : lowN (y >>> (2 &&& 31)) 4 < 4 := lowN_lt (by omega)
  generalize lowN (y >>> (2 &&& 31)) 4 = t at ht ⊢
  refine z_istore C dL_orders_16 (by decide) ?_
  dsimp only [List.set]
  refine z_iconst C (v := 4) dL_orders_18 (by decide) ?_
  refine z_iload C dL_orders_19 rfl ?_
  refine z_iconst C (v := 4) dL_orders_21 (by decide) ?_
  refine z_ishr C dL_orders_22 ?_
  refine z_bipush C (v := 13) dL_orders_23 (by decide) ?_
  refine z_csi C (As := [_, _]) (c_L_low (k := 13) rfl (by omega) (by omega)) okL_low wd447 (rok (by decide) (by decide)) ⟨by show _ ≤ 60; omega, by show _ ≤ 6 * (60); omega⟩ rfl (Nat.le_of_ble_eq_true rfl) dL_orders_25 ?_
  rintro _ _ ⟨rfl, rfl⟩
  have hb : lowN (y >>> (4 &&& 31)) 13 < 13 := lowN_lt (by omega)
  generalize lowN (y >>> (4 &&& 31)) 13 = b at hb ⊢
  refine z_iadd C dL_orders_28 ?_
  rw [show (4 : Int32) + nI b = nI (4 + b) from nI_add 4 b]
  obtain ⟨f, hf⟩ : ∃ f, f = 4 + b := ⟨_, rfl⟩
  rw [← hf]
  refine z_istore C dL_orders_29 (by decide) ?_
  dsimp only [List.set]
  refine z_iconst C (v := 0) dL_orders_31 (by decide) ?_
  refine z_istore C dL_orders_32 (by decide) ?_
  dsimp only [List.set]
  refine z_iconst C (v := 0) dL_orders_34 (by decide) ?_
  refine z_istore C dL_orders_35 (by decide) ?_
  dsimp only [List.set]
  exact lp_o37 C hI eno hno ha ht (by omega) (by omega) (no + 1) 0 (by omega) (by omega) (by omega) (by omega)
