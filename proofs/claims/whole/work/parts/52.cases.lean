/-! ===== the law: its switch, case by case ===== -/
section ZL
variable {p : Program} {l : Launch} {e : Env} {R : Room} {s : State} {m : MethodId} {args : Array Value} {below : List Frame} {meth : Method} {c : Code} {D : va_G} {ad : Nat → Nat → Nat} {cy : Nat → ClassId} {A : Nat → Prop} {sa : Nat → Nat} {nL cells slots : Nat} {Q : State → Prop} {σ : St} {L : List (Option Value)} {pc : Nat} {st stk : List Value} {cc : ByteArray} {own : String} {ret : Option FieldType}
theorem z_csw (C : Cx p l s m args meth c cc own nL ret D ad cy A sa) {y : MethodName} {bytes : ByteArray} {maxL : Nat} {hh : List (Nat × Nat × Nat × Nat)} {d mc : Nat} {post : Int32 → St → Prop} {As : List Value} {idx : Nat} (M : MW l D ad cy A sa y bytes maxL hh d mc σ As post) (h1 : Cond.static y ∈ BIG) (h2 : Cond.initialized y.cls ∈ BIG) (h3 : Cond.codeWith y bytes maxL (some .int) hh ∈ BIG) (hd : y.cls ≠ "java/lang/invoke/MethodHandle" ∧ y.cls ≠ "java/lang/invoke/VarHandle" ∧ (parseMethodDescriptor y.desc).map (fun d => d.parameters.length) = some As.length) (hw : Cond.methodLink own idx y ∈ BIG) (hR : Rok R d maxL) (hc : cells + mc ≤ R.cells ∧ slots + 6 * mc ≤ R.slots) (hst : stk = As.reverse ++ st) (hcat : (st.map fun v => v.category).sum ≤ 8) (hdg : decode cc pc = .ok (.invokestatic idx, 3)) (kk : ∀ (r : Int32) (σ' : St), post r σ' → Z p l e R s m args below meth c D ad cy A nL (cells + mc) (slots + 6 * mc) Q σ' L (pc + 3) (.int r :: st)) : Z p l e R s m args below meth c D ad cy A nL cells slots Q σ L pc stk := by
  intro H locs ls hP hS hl
  obtain ⟨hx, hb, hml, hown, hts, hr0, hlk, hF⟩ := C
  subst hst
  refine va_calli (vx_runSW (g := F0 m pc ls (As.reverse ++ st)) (As := As) (rest := st) ⟨hx, hb, hml, hown, hts⟩ M (vx_cwSW As.length hts (okS_in h1 h2 h3 hw) rfl rfl rfl hd hR) ⟨PcW.blind, fun U hU hW => ⟨rfl, hF.call hS hU hW, by rw [hU]; exact hP⟩⟩ rfl rfl hl.1 rfl (lv_room hcat) hdg hc) hS (fun q _ h => h) (fun q h => h) (fun r u t H1 locs1 ht hvm hw1 hB hz1 hk1 hS1 => ?_)
  exact kk r u hw1 H1 locs1 ls (by rw [← ht]; exact hB) hS1 hl
theorem z_lcmp (C : Cx p l s m args meth c cc own nL ret D ad cy A sa) {x y : Int64} (hdg : decode cc pc = .ok (.lcmp, 1)) (k : Z p l e R s m args below meth c D ad cy A nL cells slots Q σ L (pc + 1) (.int (lg_cmp x y) :: st)) : Z p l e R s m args below meth c D ad cy A nL cells slots Q σ L pc (.long y :: .long x :: st) :=
  fun H locs ls hP hS hl => W.lcmp C.1 C.2.1 hdg (k H locs ls hP hS hl)
theorem z_sld (C : Cx p l s m args meth c cc own nL ret D ad cy A sa) {b L0 : Nat} {xs : Nat → Int32} (hX : va_X b L0 xs s s.heap) (hbl : b < s.heap.size) (hbA : ¬ A b) {i : Int32} (hin : vp_in i L0) (hdg : decode cc pc = .ok (.iaload, 1)) (k : Z p l e R s m args below meth c D ad cy A nL cells slots Q σ L (pc + 1) (.int (xs i.toNatClampNeg) :: st)) : Z p l e R s m args below meth c D ad cy A nL cells slots Q σ L pc (.int i :: .ref b :: st) :=
  fun H locs ls hP hS hl => va_sld C.1 C.2.1 hX hbl hbA hS hin hdg (k H locs ls hP hS hl)
theorem z_slen (C : Cx p l s m args meth c cc own nL ret D ad cy A sa) {b L0 : Nat} {xs : Nat → Int32} (hX : va_X b L0 xs s s.heap) (hbl : b < s.heap.size) (hbA : ¬ A b) (hdg : decode cc pc = .ok (.arraylength, 1)) (k : Z p l e R s m args below meth c D ad cy A nL cells slots Q σ L (pc + 1) (.int (Int32.ofNat L0) :: st)) : Z p l e R s m args below meth c D ad cy A nL cells slots Q σ L pc (.ref b :: st) :=
  fun H locs ls hP hS hl => va_slen C.1 C.2.1 hX hbl hbA hS hdg (k H locs ls hP hS hl)
end ZL
theorem nI_z {K : Nat} (hb : K < 4) {r : Int32} (h : r = nI K) (h0 : r = 0) : K = 0 := by
  subst h
  by_cases q : K = 0
  · exact q
  · exact absurd h0 (show ¬ nI K = 0 by
      have : K = 1 ∨ K = 2 ∨ K = 3 := by omega
      rcases this with rfl | rfl | rfl <;> decide)
theorem Kb_begin {σ : St}  : K_begin σ < 4 := by
  unfold K_begin
  (repeat' split) <;> decide
theorem Kb_addNote {σ : St} {x y : Int32} : K_addNote σ x y < 4 := by
  unfold K_addNote
  (repeat' split) <;> decide
theorem Kb_trans {σ : St} {x y : Int32} : K_trans σ x y < 4 := by
  unfold K_trans
  (repeat' split) <;> decide
theorem Kb_pitch {σ : St} {x y : Int32} : K_pitch σ x y < 4 := by
  unfold K_pitch
  (repeat' split) <;> decide
theorem Kb_tune {σ : St} {x y z : Int32} : K_tune σ x y z < 4 := by
  unfold K_tune
  (repeat' split) <;> decide
theorem Kb_inst {σ : St} {x : Int32} : K_inst σ x < 4 := by
  unfold K_inst
  (repeat' split) <;> decide
theorem Kb_pq {σ : St} {x y : Int32} : K_pq σ x y < 4 := by
  unfold K_pq
  (repeat' split) <;> decide
theorem Kb_byAll {σ : St} {x y : Int32} : K_byAll σ x y < 4 := by
  unfold K_byAll
  (repeat' split) <;> decide
theorem Kb_note {σ : St} {x y z : Int32} : K_note σ x y z < 4 := by
  unfold K_note
  (repeat' split) <;> decide
theorem Kb_learn {σ : St} {x y z : Int32} : K_learn σ x y z < 4 := by
  unfold K_learn
  (repeat' split) <;> decide
theorem Kb_pupil {x : Int32} : K_pupil x < 4 := by
  unfold K_pupil
  (repeat' split) <;> decide
theorem Kb_wood {x y : Int32} : K_wood x y < 4 := by
  unfold K_wood
  (repeat' split) <;> decide
theorem Kb_order {σ : St} {x y z : Int32} : K_order σ x y z < 4 := by
  unfold K_order
  (repeat' split) <;> decide
theorem Kb_ready {σ : St} {x : Int32} : K_ready σ x < 4 := by
  unfold K_ready
  (repeat' split) <;> decide
theorem Kb_fetch {σ : St} {x a b c0 d0 : Int32} : K_fetch σ x a b c0 d0 < 4 := by
  unfold K_fetch
  (repeat' split) <;> decide
theorem Kb_pass {σ : St} {x : Int32} : K_pass σ x < 4 := by
  unfold K_pass
  (repeat' split) <;> decide
theorem room_c : 500000 ≤ room_1.cells := Nat.le_of_ble_eq_true rfl
theorem room_s : 5000000 ≤ room_1.slots := Nat.le_of_ble_eq_true rfl
theorem okL_begin : yL_begin.cls ≠ "java/lang/invoke/MethodHandle" ∧ yL_begin.cls ≠ "java/lang/invoke/VarHandle" ∧ (parseMethodDescriptor yL_begin.desc).map (fun d => d.parameters.length) = some 2 := by decide +kernel
set_option maxRecDepth 100000 in
set_option maxHeartbeats 4000000 in
theorem law_c0 {p : Program} {l : Launch} {e : Env} {s : State} {m : MethodId} {args : Array Value} {below : List Frame} {meth : Method} {c : Code} {D : va_G} {ad : Nat → Nat → Nat} {cy : Nat → ClassId} {A : Nat → Prop} {sa : Nat → Nat} {cells slots : Nat} {Q : State → Prop} (C : Cx p l s m args meth c cL_law "FretSchoolLaw" 7 (some .boolean) D ad cy A sa) {b L : Nat} {xs : Nat → Int32} (hX : va_X b L xs s s.heap) (hbl : b < s.heap.size) (hbA : ¬ A b) {i : Int32} (hx : ∀ k : Int32, 1 ≤ k → k ≤ 5 → vp_in (i + k) L) (hc : cells + 6 ≤ 500000 ∧ slots + 36 ≤ 5000000) {σ : St} (hR : RelL σ) (kx : ∀ (σ' : St) (o5 o6 : Option Value), RelL σ' → Z p l e room_1 s m args below meth c D ad cy A 7 (cells + 6) (slots + 36) Q σ' [some (.ref b), some (.ref (ad 0 0)), some (.ref (ad 17 0)), some (.ref (ad 32 0)), some (.int i), o5, o6] 1510 []) {o5 o6 : Option Value} : Z p l e room_1 s m args below meth c D ad cy A 7 cells slots Q σ [some (.ref b), some (.ref (ad 0 0)), some (.ref (ad 17 0)), some (.ref (ad 32 0)), some (.int i), o5, o6] 144 [] := by
  refine z_aload_n C dL_law_144 rfl ?_
  refine z_aload_n C dL_law_145 rfl ?_
  refine z_csw C (As := [_, _]) (c_L_begin) wd197 wd29 wd198 okL_begin wd196 ⟨Nat.le_of_ble_eq_true rfl, Nat.le_of_ble_eq_true rfl⟩ ⟨Nat.le_trans (m := 500000) (by omega) room_c, Nat.le_trans (m := 5000000) (by omega) room_s⟩ rfl (Nat.le_of_ble_eq_true rfl) dL_law_146 ?_
  rintro r1 σ1 ⟨hr1, hok1, hno1, hq1⟩
  refine z_istore C dL_law_149 (by decide) ?_
  dsimp only [List.set]
  refine z_aload_n C dL_law_151 rfl ?_
  refine z_cvi C (As := []) (c_X6_begin (g := σ) (hR.1.meq hq1)) okX6_begin wd648 rc_17 ⟨Nat.le_of_ble_eq_true rfl, Nat.le_of_ble_eq_true rfl⟩ ⟨Nat.le_trans (m := 500000) (by omega) room_c, Nat.le_trans (m := 5000000) (by omega) room_s⟩ rfl (Nat.le_of_ble_eq_true rfl) dL_law_152 ?_
  rintro r2 σ2 ⟨hm, hr2⟩
  have hR2 : RelL σ2 := hR.step (fun h => Inv_begin hR.2 h) ⟨fun h => (hok1 h).1, hno1⟩ hm
  refine z_istore C dL_law_155 (by decide) ?_
  dsimp only [List.set]
  refine z_aload_n C dL_law_157 rfl ?_
  refine z_cvi C (As := []) (c_X6_thrown) okX6_thrown wd644 rc_17 ⟨Nat.le_of_ble_eq_true rfl, Nat.le_of_ble_eq_true rfl⟩ ⟨Nat.le_trans (m := 500000) (by omega) room_c, Nat.le_trans (m := 5000000) (by omega) room_s⟩ rfl (Nat.le_of_ble_eq_true rfl) dL_law_158 ?_
  rintro _ _ ⟨rfl, rfl⟩
  refine z_iload C dL_law_161 rfl ?_
  refine z_icmp_eq C 168 dL_law_163 (by decide) (fun c_163 => ?_) (fun c_163 => ?_)
  rotate_left
  · exact absurd (hm.2.1.trans hr1.symm) c_163
  refine z_iload C dL_law_168 rfl ?_
  refine z_if_ne C 185 dL_law_170 (by decide) (fun c_170 => ?_) (fun c_170 => ?_)
  · refine z_goto C 1510 dL_law_185 (by decide) ?_
    exact z_widen (mc := cells + 6) (ms := slots + 36) (by omega) (by omega) (kx σ2 _ _ hR2)
  · refine z_aload_n C dL_law_173 rfl ?_
    refine z_iconst C (v := 0) dL_law_174 (by decide) ?_
    refine z_lald C rfl dL_law_175 ?_
    refine z_iload C dL_law_176 rfl ?_
    refine z_i2l C dL_law_178 ?_
    refine z_lcmp C dL_law_179 ?_
    refine z_if_eq C 185 dL_law_180 (by decide) (fun c_180 => ?_) (fun c_180 => ?_)
    rotate_left
    · exact absurd ((lg_cmp_eq _ _).mpr (congrArg Int32.toInt64 ((hm.1 32 0 0 (Or.inr rfl)).trans ((hok1 (nI_z Kb_begin hr1 c_170)).2.trans (hr2 (nI_z Kb_begin hr1 c_170)).symm)))) c_180
    refine z_goto C 1510 dL_law_185 (by decide) ?_
    exact z_widen (mc := cells + 6) (ms := slots + 36) (by omega) (by omega) (kx σ2 _ _ hR2)
theorem okL_addNote : yL_addNote.cls ≠ "java/lang/invoke/MethodHandle" ∧ yL_addNote.cls ≠ "java/lang/invoke/VarHandle" ∧ (parseMethodDescriptor yL_addNote.desc).map (fun d => d.parameters.length) = some 4 := by decide +kernel
set_option maxRecDepth 100000 in
set_option maxHeartbeats 4000000 in
theorem law_c1 {p : Program} {l : Launch} {e : Env} {s : State} {m : MethodId} {args : Array Value} {below : List Frame} {meth : Method} {c : Code} {D : va_G} {ad : Nat → Nat → Nat} {cy : Nat → ClassId} {A : Nat → Prop} {sa : Nat → Nat} {cells slots : Nat} {Q : State → Prop} (C : Cx p l s m args meth c cL_law "FretSchoolLaw" 7 (some .boolean) D ad cy A sa) {b L : Nat} {xs : Nat → Int32} (hX : va_X b L xs s s.heap) (hbl : b < s.heap.size) (hbA : ¬ A b) {i : Int32} (hx : ∀ k : Int32, 1 ≤ k → k ≤ 5 → vp_in (i + k) L) (hc : cells + 6 ≤ 500000 ∧ slots + 36 ≤ 5000000) {σ : St} (hR : RelL σ) (kx : ∀ (σ' : St) (o5 o6 : Option Value), RelL σ' → Z p l e room_1 s m args below meth c D ad cy A 7 (cells + 6) (slots + 36) Q σ' [some (.ref b), some (.ref (ad 0 0)), some (.ref (ad 17 0)), some (.ref (ad 32 0)), some (.int i), o5, o6] 1510 []) {o5 o6 : Option Value} : Z p l e room_1 s m args below meth c D ad cy A 7 cells slots Q σ [some (.ref b), some (.ref (ad 0 0)), some (.ref (ad 17 0)), some (.ref (ad 32 0)), some (.int i), o5, o6] 188 [] := by
  refine z_aload_n C dL_law_188 rfl ?_
  refine z_aload_n C dL_law_189 rfl ?_
  refine z_iload C dL_law_190 rfl ?_
  refine z_iconst C (v := 1) dL_law_192 (by decide) ?_
  refine z_iadd C dL_law_193 ?_
  refine z_sld C hX hbl hbA (hx _ (by decide) (by decide)) dL_law_194 ?_
  refine z_aload_n C dL_law_195 rfl ?_
  refine z_iload C dL_law_196 rfl ?_
  refine z_iconst C (v := 2) dL_law_198 (by decide) ?_
  refine z_iadd C dL_law_199 ?_
  refine z_sld C hX hbl hbA (hx _ (by decide) (by decide)) dL_law_200 ?_
  refine z_aload_n C dL_law_201 rfl ?_
  refine z_csw C (As := [_, _, _, _]) (c_L_addNote hR.2) wd273 wd29 wd274 okL_addNote wd272 ⟨Nat.le_of_ble_eq_true rfl, Nat.le_of_ble_eq_true rfl⟩ ⟨Nat.le_trans (m := 500000) (by omega) room_c, Nat.le_trans (m := 5000000) (by omega) room_s⟩ rfl (Nat.le_of_ble_eq_true rfl) dL_law_202 ?_
  rintro r1 σ1 ⟨hr1, hok1, hno1, hq1⟩
  refine z_istore C dL_law_205 (by decide) ?_
  dsimp only [List.set]
  refine z_aload_n C dL_law_207 rfl ?_
  refine z_aload_n C dL_law_208 rfl ?_
  refine z_iload C dL_law_209 rfl ?_
  refine z_iconst C (v := 1) dL_law_211 (by decide) ?_
  refine z_iadd C dL_law_212 ?_
  refine z_sld C hX hbl hbA (hx _ (by decide) (by decide)) dL_law_213 ?_
  refine z_aload_n C dL_law_214 rfl ?_
  refine z_iload C dL_law_215 rfl ?_
  refine z_iconst C (v := 2) dL_law_217 (by decide) ?_
  refine z_iadd C dL_law_218 ?_
  refine z_sld C hX hbl hbA (hx _ (by decide) (by decide)) dL_law_219 ?_
  refine z_cvi C (As := [_, _]) (c_X6_addNote (g := σ) (hR.1.meq hq1) hR.2) okX6_addNote wd656 rc_17 ⟨Nat.le_of_ble_eq_true rfl, Nat.le_of_ble_eq_true rfl⟩ ⟨Nat.le_trans (m := 500000) (by omega) room_c, Nat.le_trans (m := 5000000) (by omega) room_s⟩ rfl (Nat.le_of_ble_eq_true rfl) dL_law_220 ?_
  rintro r2 σ2 ⟨hm, hr2⟩
  have hR2 : RelL σ2 := hR.step (fun h => Inv_addNote hR.2 h) ⟨fun h => (hok1 h).1, hno1⟩ hm
  refine z_istore C dL_law_223 (by decide) ?_
  dsimp only [List.set]
  refine z_aload_n C dL_law_225 rfl ?_
  refine z_cvi C (As := []) (c_X6_thrown) okX6_thrown wd644 rc_17 ⟨Nat.le_of_ble_eq_true rfl, Nat.le_of_ble_eq_true rfl⟩ ⟨Nat.le_trans (m := 500000) (by omega) room_c, Nat.le_trans (m := 5000000) (by omega) room_s⟩ rfl (Nat.le_of_ble_eq_true rfl) dL_law_226 ?_
  rintro _ _ ⟨rfl, rfl⟩
  refine z_iload C dL_law_229 rfl ?_
  refine z_icmp_eq C 236 dL_law_231 (by decide) (fun c_231 => ?_) (fun c_231 => ?_)
  rotate_left
  · exact absurd (hm.2.1.trans hr1.symm) c_231
  refine z_iload C dL_law_236 rfl ?_
  refine z_if_ne C 253 dL_law_238 (by decide) (fun c_238 => ?_) (fun c_238 => ?_)
  · refine z_goto C 1510 dL_law_253 (by decide) ?_
    exact z_widen (mc := cells + 6) (ms := slots + 36) (by omega) (by omega) (kx σ2 _ _ hR2)
  · refine z_aload_n C dL_law_241 rfl ?_
    refine z_iconst C (v := 0) dL_law_242 (by decide) ?_
    refine z_lald C rfl dL_law_243 ?_
    refine z_iload C dL_law_244 rfl ?_
    refine z_i2l C dL_law_246 ?_
    refine z_lcmp C dL_law_247 ?_
    refine z_if_eq C 253 dL_law_248 (by decide) (fun c_248 => ?_) (fun c_248 => ?_)
    rotate_left
    · exact absurd ((lg_cmp_eq _ _).mpr (congrArg Int32.toInt64 ((hm.1 32 0 0 (Or.inr rfl)).trans ((hok1 (nI_z Kb_addNote hr1 c_238)).2.trans (hr2 (nI_z Kb_addNote hr1 c_238)).symm)))) c_248
    refine z_goto C 1510 dL_law_253 (by decide) ?_
    exact z_widen (mc := cells + 6) (ms := slots + 36) (by omega) (by omega) (kx σ2 _ _ hR2)
theorem okL_transpose : yL_transpose.cls ≠ "java/lang/invoke/MethodHandle" ∧ yL_transpose.cls ≠ "java/lang/invoke/VarHandle" ∧ (parseMethodDescriptor yL_transpose.desc).map (fun d => d.parameters.length) = some 3 := by decide +kernel
set_option maxRecDepth 100000 in
set_option maxHeartbeats 4000000 in
theorem law_c2 {p : Program} {l : Launch} {e : Env} {s : State} {m : MethodId} {args : Array Value} {below : List Frame} {meth : Method} {c : Code} {D : va_G} {ad : Nat → Nat → Nat} {cy : Nat → ClassId} {A : Nat → Prop} {sa : Nat → Nat} {cells slots : Nat} {Q : State → Prop} (C : Cx p l s m args meth c cL_law "FretSchoolLaw" 7 (some .boolean) D ad cy A sa) {b L : Nat} {xs : Nat → Int32} (hX : va_X b L xs s s.heap) (hbl : b < s.heap.size) (hbA : ¬ A b) {i : Int32} (hx : ∀ k : Int32, 1 ≤ k → k ≤ 5 → vp_in (i + k) L) (hc : cells + 6 ≤ 500000 ∧ slots + 36 ≤ 5000000) {σ : St} (hR : RelL σ) (kx : ∀ (σ' : St) (o5 o6 : Option Value), RelL σ' → Z p l e room_1 s m args below meth c D ad cy A 7 (cells + 6) (slots + 36) Q σ' [some (.ref b), some (.ref (ad 0 0)), some (.ref (ad 17 0)), some (.ref (ad 32 0)), some (.int i), o5, o6] 1510 []) {o5 o6 : Option Value} : Z p l e room_1 s m args below meth c D ad cy A 7 cells slots Q σ [some (.ref b), some (.ref (ad 0 0)), some (.ref (ad 17 0)), some (.ref (ad 32 0)), some (.int i), o5, o6] 256 [] := by
  refine z_aload_n C dL_law_256 rfl ?_
  refine z_aload_n C dL_law_257 rfl ?_
  refine z_iload C dL_law_258 rfl ?_
  refine z_iconst C (v := 1) dL_law_260 (by decide) ?_
  refine z_iadd C dL_law_261 ?_
  refine z_sld C hX hbl hbA (hx _ (by decide) (by decide)) dL_law_262 ?_
  refine z_aload_n C dL_law_263 rfl ?_
  refine z_iload C dL_law_264 rfl ?_
  refine z_iconst C (v := 2) dL_law_266 (by decide) ?_
  refine z_iadd C dL_law_267 ?_
  refine z_sld C hX hbl hbA (hx _ (by decide) (by decide)) dL_law_268 ?_
  refine z_csw C (As := [_, _, _]) (c_L_transpose hR.2) wd331 wd29 wd332 okL_transpose wd330 ⟨Nat.le_of_ble_eq_true rfl, Nat.le_of_ble_eq_true rfl⟩ ⟨Nat.le_trans (m := 500000) (by omega) room_c, Nat.le_trans (m := 5000000) (by omega) room_s⟩ rfl (Nat.le_of_ble_eq_true rfl) dL_law_269 ?_
  rintro r1 σ1 ⟨hr1, hok1, hno1, hq1⟩
  refine z_istore C dL_law_272 (by decide) ?_
  dsimp only [List.set]
  refine z_aload_n C dL_law_274 rfl ?_
  refine z_aload_n C dL_law_275 rfl ?_
  refine z_iload C dL_law_276 rfl ?_
  refine z_iconst C (v := 1) dL_law_278 (by decide) ?_
  refine z_iadd C dL_law_279 ?_
  refine z_sld C hX hbl hbA (hx _ (by decide) (by decide)) dL_law_280 ?_
  refine z_aload_n C dL_law_281 rfl ?_
  refine z_iload C dL_law_282 rfl ?_
  refine z_iconst C (v := 2) dL_law_284 (by decide) ?_
  refine z_iadd C dL_law_285 ?_
  refine z_sld C hX hbl hbA (hx _ (by decide) (by decide)) dL_law_286 ?_
  refine z_cvv C (As := [_, _]) (c_X6_transpose (g := σ) (hR.1.meq hq1) hR.2) okX6_transpose wd667 rc_17 ⟨Nat.le_of_ble_eq_true rfl, Nat.le_of_ble_eq_true rfl⟩ ⟨Nat.le_trans (m := 500000) (by omega) room_c, Nat.le_trans (m := 5000000) (by omega) room_s⟩ rfl (Nat.le_of_ble_eq_true rfl) dL_law_287 ?_
  rintro σ2 hm
  have hR2 : RelL σ2 := hR.step (fun _ => Inv_mvd hR.2) ⟨hok1, hno1⟩ hm
  refine z_aload_n C dL_law_290 rfl ?_
  refine z_cvi C (As := []) (c_X6_thrown) okX6_thrown wd644 rc_17 ⟨Nat.le_of_ble_eq_true rfl, Nat.le_of_ble_eq_true rfl⟩ ⟨Nat.le_trans (m := 500000) (by omega) room_c, Nat.le_trans (m := 5000000) (by omega) room_s⟩ rfl (Nat.le_of_ble_eq_true rfl) dL_law_291 ?_
  rintro _ _ ⟨rfl, rfl⟩
  refine z_iload C dL_law_294 rfl ?_
  refine z_icmp_eq C 301 dL_law_296 (by decide) (fun c_296 => ?_) (fun c_296 => ?_)
  rotate_left
  · exact absurd (hm.2.1.trans hr1.symm) c_296
  refine z_goto C 1510 dL_law_301 (by decide) ?_
  exact z_widen (mc := cells + 6) (ms := slots + 36) (by omega) (by omega) (kx σ2 _ _ hR2)
theorem okL_pitch : yL_pitch.cls ≠ "java/lang/invoke/MethodHandle" ∧ yL_pitch.cls ≠ "java/lang/invoke/VarHandle" ∧ (parseMethodDescriptor yL_pitch.desc).map (fun d => d.parameters.length) = some 4 := by decide +kernel
set_option maxRecDepth 100000 in
set_option maxHeartbeats 4000000 in
theorem law_c3 {p : Program} {l : Launch} {e : Env} {s : State} {m : MethodId} {args : Array Value} {below : List Frame} {meth : Method} {c : Code} {D : va_G} {ad : Nat → Nat → Nat} {cy : Nat → ClassId} {A : Nat → Prop} {sa : Nat → Nat} {cells slots : Nat} {Q : State → Prop} (C : Cx p l s m args meth c cL_law "FretSchoolLaw" 7 (some .boolean) D ad cy A sa) {b L : Nat} {xs : Nat → Int32} (hX : va_X b L xs s s.heap) (hbl : b < s.heap.size) (hbA : ¬ A b) {i : Int32} (hx : ∀ k : Int32, 1 ≤ k → k ≤ 5 → vp_in (i + k) L) (hc : cells + 6 ≤ 500000 ∧ slots + 36 ≤ 5000000) {σ : St} (hR : RelL σ) (kx : ∀ (σ' : St) (o5 o6 : Option Value), RelL σ' → Z p l e room_1 s m args below meth c D ad cy A 7 (cells + 6) (slots + 36) Q σ' [some (.ref b), some (.ref (ad 0 0)), some (.ref (ad 17 0)), some (.ref (ad 32 0)), some (.int i), o5, o6] 1510 []) {o5 o6 : Option Value} : Z p l e room_1 s m args below meth c D ad cy A 7 cells slots Q σ [some (.ref b), some (.ref (ad 0 0)), some (.ref (ad 17 0)), some (.ref (ad 32 0)), some (.int i), o5, o6] 304 [] := by
  refine z_aload_n C dL_law_304 rfl ?_
  refine z_aload_n C dL_law_305 rfl ?_
  refine z_iload C dL_law_306 rfl ?_
  refine z_iconst C (v := 1) dL_law_308 (by decide) ?_
  refine z_iadd C dL_law_309 ?_
  refine z_sld C hX hbl hbA (hx _ (by decide) (by decide)) dL_law_310 ?_
  refine z_aload_n C dL_law_311 rfl ?_
  refine z_iload C dL_law_312 rfl ?_
  refine z_iconst C (v := 2) dL_law_314 (by decide) ?_
  refine z_iadd C dL_law_315 ?_
  refine z_sld C hX hbl hbA (hx _ (by decide) (by decide)) dL_law_316 ?_
  refine z_aload_n C dL_law_317 rfl ?_
  refine z_csw C (As := [_, _, _, _]) (c_L_pitch hR.2) wd347 wd29 wd348 okL_pitch wd346 ⟨Nat.le_of_ble_eq_true rfl, Nat.le_of_ble_eq_true rfl⟩ ⟨Nat.le_trans (m := 500000) (by omega) room_c, Nat.le_trans (m := 5000000) (by omega) room_s⟩ rfl (Nat.le_of_ble_eq_true rfl) dL_law_318 ?_
  rintro r1 σ1 ⟨hr1, hok1, hno1, hq1⟩
  refine z_istore C dL_law_321 (by decide) ?_
  dsimp only [List.set]
  refine z_aload_n C dL_law_323 rfl ?_
  refine z_aload_n C dL_law_324 rfl ?_
  refine z_iload C dL_law_325 rfl ?_
  refine z_iconst C (v := 1) dL_law_327 (by decide) ?_
  refine z_iadd C dL_law_328 ?_
  refine z_sld C hX hbl hbA (hx _ (by decide) (by decide)) dL_law_329 ?_
  refine z_aload_n C dL_law_330 rfl ?_
  refine z_iload C dL_law_331 rfl ?_
  refine z_iconst C (v := 2) dL_law_333 (by decide) ?_
  refine z_iadd C dL_law_334 ?_
  refine z_sld C hX hbl hbA (hx _ (by decide) (by decide)) dL_law_335 ?_
  refine z_cvi C (As := [_, _]) (c_X6_pitch (g := σ) (hR.1.meq hq1) hR.2) okX6_pitch wd671 rc_17 ⟨Nat.le_of_ble_eq_true rfl, Nat.le_of_ble_eq_true rfl⟩ ⟨Nat.le_trans (m := 500000) (by omega) room_c, Nat.le_trans (m := 5000000) (by omega) room_s⟩ rfl (Nat.le_of_ble_eq_true rfl) dL_law_336 ?_
  rintro r2 σ2 ⟨hm, hr2⟩
  have hR2 : RelL σ2 := hR.step (fun _ => hR.2) ⟨fun h => (hok1 h).1, hno1⟩ hm
  refine z_istore C dL_law_339 (by decide) ?_
  dsimp only [List.set]
  refine z_aload_n C dL_law_341 rfl ?_
  refine z_cvi C (As := []) (c_X6_thrown) okX6_thrown wd644 rc_17 ⟨Nat.le_of_ble_eq_true rfl, Nat.le_of_ble_eq_true rfl⟩ ⟨Nat.le_trans (m := 500000) (by omega) room_c, Nat.le_trans (m := 5000000) (by omega) room_s⟩ rfl (Nat.le_of_ble_eq_true rfl) dL_law_342 ?_
  rintro _ _ ⟨rfl, rfl⟩
  refine z_iload C dL_law_345 rfl ?_
  refine z_icmp_eq C 352 dL_law_347 (by decide) (fun c_347 => ?_) (fun c_347 => ?_)
  rotate_left
  · exact absurd (hm.2.1.trans hr1.symm) c_347
  refine z_iload C dL_law_352 rfl ?_
  refine z_if_ne C 369 dL_law_354 (by decide) (fun c_354 => ?_) (fun c_354 => ?_)
  · refine z_goto C 1510 dL_law_369 (by decide) ?_
    exact z_widen (mc := cells + 6) (ms := slots + 36) (by omega) (by omega) (kx σ2 _ _ hR2)
  · refine z_aload_n C dL_law_357 rfl ?_
    refine z_iconst C (v := 0) dL_law_358 (by decide) ?_
    refine z_lald C rfl dL_law_359 ?_
    refine z_iload C dL_law_360 rfl ?_
    refine z_i2l C dL_law_362 ?_
    refine z_lcmp C dL_law_363 ?_
    refine z_if_eq C 369 dL_law_364 (by decide) (fun c_364 => ?_) (fun c_364 => ?_)
    rotate_left
    · exact absurd ((lg_cmp_eq _ _).mpr (congrArg Int32.toInt64 ((hm.1 32 0 0 (Or.inr rfl)).trans ((hok1 (nI_z Kb_pitch hr1 c_354)).2.trans (hr2 (nI_z Kb_pitch hr1 c_354)).symm)))) c_364
    refine z_goto C 1510 dL_law_369 (by decide) ?_
    exact z_widen (mc := cells + 6) (ms := slots + 36) (by omega) (by omega) (kx σ2 _ _ hR2)
theorem okL_tune : yL_tune.cls ≠ "java/lang/invoke/MethodHandle" ∧ yL_tune.cls ≠ "java/lang/invoke/VarHandle" ∧ (parseMethodDescriptor yL_tune.desc).map (fun d => d.parameters.length) = some 5 := by decide +kernel
set_option maxRecDepth 100000 in
set_option maxHeartbeats 4000000 in
theorem law_c4 {p : Program} {l : Launch} {e : Env} {s : State} {m : MethodId} {args : Array Value} {below : List Frame} {meth : Method} {c : Code} {D : va_G} {ad : Nat → Nat → Nat} {cy : Nat → ClassId} {A : Nat → Prop} {sa : Nat → Nat} {cells slots : Nat} {Q : State → Prop} (C : Cx p l s m args meth c cL_law "FretSchoolLaw" 7 (some .boolean) D ad cy A sa) {b L : Nat} {xs : Nat → Int32} (hX : va_X b L xs s s.heap) (hbl : b < s.heap.size) (hbA : ¬ A b) {i : Int32} (hx : ∀ k : Int32, 1 ≤ k → k ≤ 5 → vp_in (i + k) L) (hc : cells + 6 ≤ 500000 ∧ slots + 36 ≤ 5000000) {σ : St} (hR : RelL σ) (kx : ∀ (σ' : St) (o5 o6 : Option Value), RelL σ' → Z p l e room_1 s m args below meth c D ad cy A 7 (cells + 6) (slots + 36) Q σ' [some (.ref b), some (.ref (ad 0 0)), some (.ref (ad 17 0)), some (.ref (ad 32 0)), some (.int i), o5, o6] 1510 []) {o5 o6 : Option Value} : Z p l e room_1 s m args below meth c D ad cy A 7 cells slots Q σ [some (.ref b), some (.ref (ad 0 0)), some (.ref (ad 17 0)), some (.ref (ad 32 0)), some (.int i), o5, o6] 372 [] := by
  refine z_aload_n C dL_law_372 rfl ?_
  refine z_aload_n C dL_law_373 rfl ?_
  refine z_iload C dL_law_374 rfl ?_
  refine z_iconst C (v := 1) dL_law_376 (by decide) ?_
  refine z_iadd C dL_law_377 ?_
  refine z_sld C hX hbl hbA (hx _ (by decide) (by decide)) dL_law_378 ?_
  refine z_aload_n C dL_law_379 rfl ?_
  refine z_iload C dL_law_380 rfl ?_
  refine z_iconst C (v := 2) dL_law_382 (by decide) ?_
  refine z_iadd C dL_law_383 ?_
  refine z_sld C hX hbl hbA (hx _ (by decide) (by decide)) dL_law_384 ?_
  refine z_aload_n C dL_law_385 rfl ?_
  refine z_iload C dL_law_386 rfl ?_
  refine z_iconst C (v := 3) dL_law_388 (by decide) ?_
  refine z_iadd C dL_law_389 ?_
  refine z_sld C hX hbl hbA (hx _ (by decide) (by decide)) dL_law_390 ?_
  refine z_aload_n C dL_law_391 rfl ?_
  refine z_csw C (As := [_, _, _, _, _]) (c_L_tune hR.2) wd359 wd29 wd360 okL_tune wd358 ⟨Nat.le_of_ble_eq_true rfl, Nat.le_of_ble_eq_true rfl⟩ ⟨Nat.le_trans (m := 500000) (by omega) room_c, Nat.le_trans (m := 5000000) (by omega) room_s⟩ rfl (Nat.le_of_ble_eq_true rfl) dL_law_392 ?_
  rintro r1 σ1 ⟨hr1, hok1, hno1, hq1⟩
  refine z_istore C dL_law_395 (by decide) ?_
  dsimp only [List.set]
  refine z_aload_n C dL_law_397 rfl ?_
  refine z_aload_n C dL_law_398 rfl ?_
  refine z_iload C dL_law_399 rfl ?_
  refine z_iconst C (v := 1) dL_law_401 (by decide) ?_
  refine z_iadd C dL_law_402 ?_
  refine z_sld C hX hbl hbA (hx _ (by decide) (by decide)) dL_law_403 ?_
  refine z_aload_n C dL_law_404 rfl ?_
  refine z_iload C dL_law_405 rfl ?_
  refine z_iconst C (v := 2) dL_law_407 (by decide) ?_
  refine z_iadd C dL_law_408 ?_
  refine z_sld C hX hbl hbA (hx _ (by decide) (by decide)) dL_law_409 ?_
  refine z_aload_n C dL_law_410 rfl ?_
  refine z_iload C dL_law_411 rfl ?_
  refine z_iconst C (v := 3) dL_law_413 (by decide) ?_
  refine z_iadd C dL_law_414 ?_
  refine z_sld C hX hbl hbA (hx _ (by decide) (by decide)) dL_law_415 ?_
  refine z_cvi C (As := [_, _, _]) (c_X6_tune (g := σ) (hR.1.meq hq1) hR.2) okX6_tune wd679 rc_17 ⟨Nat.le_of_ble_eq_true rfl, Nat.le_of_ble_eq_true rfl⟩ ⟨Nat.le_trans (m := 500000) (by omega) room_c, Nat.le_trans (m := 5000000) (by omega) room_s⟩ rfl (Nat.le_of_ble_eq_true rfl) dL_law_416 ?_
  rintro r2 σ2 ⟨hm, hr2⟩
  have hR2 : RelL σ2 := hR.step (fun _ => Inv_up (by omega) hR.2) ⟨fun h => (hok1 h).1, hno1⟩ hm
  refine z_istore C dL_law_419 (by decide) ?_
  dsimp only [List.set]
  refine z_aload_n C dL_law_421 rfl ?_
  refine z_cvi C (As := []) (c_X6_thrown) okX6_thrown wd644 rc_17 ⟨Nat.le_of_ble_eq_true rfl, Nat.le_of_ble_eq_true rfl⟩ ⟨Nat.le_trans (m := 500000) (by omega) room_c, Nat.le_trans (m := 5000000) (by omega) room_s⟩ rfl (Nat.le_of_ble_eq_true rfl) dL_law_422 ?_
  rintro _ _ ⟨rfl, rfl⟩
  refine z_iload C dL_law_425 rfl ?_
  refine z_icmp_eq C 432 dL_law_427 (by decide) (fun c_427 => ?_) (fun c_427 => ?_)
  rotate_left
  · exact absurd (hm.2.1.trans hr1.symm) c_427
  refine z_iload C dL_law_432 rfl ?_
  refine z_if_ne C 449 dL_law_434 (by decide) (fun c_434 => ?_) (fun c_434 => ?_)
  · refine z_goto C 1510 dL_law_449 (by decide) ?_
    exact z_widen (mc := cells + 6) (ms := slots + 36) (by omega) (by omega) (kx σ2 _ _ hR2)
  · refine z_aload_n C dL_law_437 rfl ?_
    refine z_iconst C (v := 0) dL_law_438 (by decide) ?_
    refine z_lald C rfl dL_law_439 ?_
    refine z_iload C dL_law_440 rfl ?_
    refine z_i2l C dL_law_442 ?_
    refine z_lcmp C dL_law_443 ?_
    refine z_if_eq C 449 dL_law_444 (by decide) (fun c_444 => ?_) (fun c_444 => ?_)
    rotate_left
    · exact absurd ((lg_cmp_eq _ _).mpr (congrArg Int32.toInt64 ((hm.1 32 0 0 (Or.inr rfl)).trans ((hok1 (nI_z Kb_tune hr1 c_434)).2.trans (hr2 (nI_z Kb_tune hr1 c_434)).symm)))) c_444
    refine z_goto C 1510 dL_law_449 (by decide) ?_
    exact z_widen (mc := cells + 6) (ms := slots + 36) (by omega) (by omega) (kx σ2 _ _ hR2)
theorem okL_owner : yL_owner.cls ≠ "java/lang/invoke/MethodHandle" ∧ yL_owner.cls ≠ "java/lang/invoke/VarHandle" ∧ (parseMethodDescriptor yL_owner.desc).map (fun d => d.parameters.length) = some 3 := by decide +kernel
set_option maxRecDepth 100000 in
set_option maxHeartbeats 4000000 in
theorem law_c5 {p : Program} {l : Launch} {e : Env} {s : State} {m : MethodId} {args : Array Value} {below : List Frame} {meth : Method} {c : Code} {D : va_G} {ad : Nat → Nat → Nat} {cy : Nat → ClassId} {A : Nat → Prop} {sa : Nat → Nat} {cells slots : Nat} {Q : State → Prop} (C : Cx p l s m args meth c cL_law "FretSchoolLaw" 7 (some .boolean) D ad cy A sa) {b L : Nat} {xs : Nat → Int32} (hX : va_X b L xs s s.heap) (hbl : b < s.heap.size) (hbA : ¬ A b) {i : Int32} (hx : ∀ k : Int32, 1 ≤ k → k ≤ 5 → vp_in (i + k) L) (hc : cells + 6 ≤ 500000 ∧ slots + 36 ≤ 5000000) {σ : St} (hR : RelL σ) (kx : ∀ (σ' : St) (o5 o6 : Option Value), RelL σ' → Z p l e room_1 s m args below meth c D ad cy A 7 (cells + 6) (slots + 36) Q σ' [some (.ref b), some (.ref (ad 0 0)), some (.ref (ad 17 0)), some (.ref (ad 32 0)), some (.int i), o5, o6] 1510 []) {o5 o6 : Option Value} : Z p l e room_1 s m args below meth c D ad cy A 7 cells slots Q σ [some (.ref b), some (.ref (ad 0 0)), some (.ref (ad 17 0)), some (.ref (ad 32 0)), some (.int i), o5, o6] 452 [] := by
  refine z_aload_n C dL_law_452 rfl ?_
  refine z_aload_n C dL_law_453 rfl ?_
  refine z_iload C dL_law_454 rfl ?_
  refine z_iconst C (v := 1) dL_law_456 (by decide) ?_
  refine z_iadd C dL_law_457 ?_
  refine z_sld C hX hbl hbA (hx _ (by decide) (by decide)) dL_law_458 ?_
  refine z_aload_n C dL_law_459 rfl ?_
  refine z_csw C (As := [_, _, _]) (c_L_owner hR.2) wd371 wd29 wd372 okL_owner wd370 ⟨Nat.le_of_ble_eq_true rfl, Nat.le_of_ble_eq_true rfl⟩ ⟨Nat.le_trans (m := 500000) (by omega) room_c, Nat.le_trans (m := 5000000) (by omega) room_s⟩ rfl (Nat.le_of_ble_eq_true rfl) dL_law_460 ?_
  rintro r1 σ1 ⟨hr1, hok1, hno1, hq1⟩
  refine z_istore C dL_law_463 (by decide) ?_
  dsimp only [List.set]
  refine z_aload_n C dL_law_465 rfl ?_
  refine z_aload_n C dL_law_466 rfl ?_
  refine z_iload C dL_law_467 rfl ?_
  refine z_iconst C (v := 1) dL_law_469 (by decide) ?_
  refine z_iadd C dL_law_470 ?_
  refine z_sld C hX hbl hbA (hx _ (by decide) (by decide)) dL_law_471 ?_
  refine z_cvi C (As := [_]) (c_X6_owner (g := σ) (hR.1.meq hq1) hR.2) okX6_owner wd687 rc_17 ⟨Nat.le_of_ble_eq_true rfl, Nat.le_of_ble_eq_true rfl⟩ ⟨Nat.le_trans (m := 500000) (by omega) room_c, Nat.le_trans (m := 5000000) (by omega) room_s⟩ rfl (Nat.le_of_ble_eq_true rfl) dL_law_472 ?_
  rintro r2 σ2 ⟨hm, hr2⟩
  have hR2 : RelL σ2 := hR.step (fun _ => hR.2) ⟨fun h => (hok1 h).1, hno1⟩ hm
  refine z_istore C dL_law_475 (by decide) ?_
  dsimp only [List.set]
  refine z_aload_n C dL_law_477 rfl ?_
  refine z_cvi C (As := []) (c_X6_thrown) okX6_thrown wd644 rc_17 ⟨Nat.le_of_ble_eq_true rfl, Nat.le_of_ble_eq_true rfl⟩ ⟨Nat.le_trans (m := 500000) (by omega) room_c, Nat.le_trans (m := 5000000) (by omega) room_s⟩ rfl (Nat.le_of_ble_eq_true rfl) dL_law_478 ?_
  rintro _ _ ⟨rfl, rfl⟩
  refine z_iload C dL_law_481 rfl ?_
  refine z_icmp_eq C 488 dL_law_483 (by decide) (fun c_483 => ?_) (fun c_483 => ?_)
  rotate_left
  · exact absurd (hm.2.1.trans hr1.symm) c_483
  refine z_iload C dL_law_488 rfl ?_
  refine z_if_ne C 505 dL_law_490 (by decide) (fun c_490 => ?_) (fun c_490 => ?_)
  · refine z_goto C 1510 dL_law_505 (by decide) ?_
    exact z_widen (mc := cells + 6) (ms := slots + 36) (by omega) (by omega) (kx σ2 _ _ hR2)
  · refine z_aload_n C dL_law_493 rfl ?_
    refine z_iconst C (v := 0) dL_law_494 (by decide) ?_
    refine z_lald C rfl dL_law_495 ?_
    refine z_iload C dL_law_496 rfl ?_
    refine z_i2l C dL_law_498 ?_
    refine z_lcmp C dL_law_499 ?_
    refine z_if_eq C 505 dL_law_500 (by decide) (fun c_500 => ?_) (fun c_500 => ?_)
    rotate_left
    · exact absurd ((lg_cmp_eq _ _).mpr (congrArg Int32.toInt64 ((hm.1 32 0 0 (Or.inr rfl)).trans ((hok1 (nI_z Kb_inst hr1 c_490)).2.trans (hr2 (nI_z Kb_inst hr1 c_490)).symm)))) c_500
    refine z_goto C 1510 dL_law_505 (by decide) ?_
    exact z_widen (mc := cells + 6) (ms := slots + 36) (by omega) (by omega) (kx σ2 _ _ hR2)
set_option maxRecDepth 100000 in
set_option maxHeartbeats 4000000 in
theorem law_c6 {p : Program} {l : Launch} {e : Env} {s : State} {m : MethodId} {args : Array Value} {below : List Frame} {meth : Method} {c : Code} {D : va_G} {ad : Nat → Nat → Nat} {cy : Nat → ClassId} {A : Nat → Prop} {sa : Nat → Nat} {cells slots : Nat} {Q : State → Prop} (C : Cx p l s m args meth c cL_law "FretSchoolLaw" 7 (some .boolean) D ad cy A sa) {b L : Nat} {xs : Nat → Int32} (hX : va_X b L xs s s.heap) (hbl : b < s.heap.size) (hbA : ¬ A b) {i : Int32} (hx : ∀ k : Int32, 1 ≤ k → k ≤ 5 → vp_in (i + k) L) (hc : cells + 6 ≤ 500000 ∧ slots + 36 ≤ 5000000) {σ : St} (hR : RelL σ) (kx : ∀ (σ' : St) (o5 o6 : Option Value), RelL σ' → Z p l e room_1 s m args below meth c D ad cy A 7 (cells + 6) (slots + 36) Q σ' [some (.ref b), some (.ref (ad 0 0)), some (.ref (ad 17 0)), some (.ref (ad 32 0)), some (.int i), o5, o6] 1510 []) {o5 o6 : Option Value} : Z p l e room_1 s m args below meth c D ad cy A 7 cells slots Q σ [some (.ref b), some (.ref (ad 0 0)), some (.ref (ad 17 0)), some (.ref (ad 32 0)), some (.int i), o5, o6] 508 [] := by
  refine z_aload_n C dL_law_508 rfl ?_
  refine z_cvi C (As := []) (c_X5_instruments) okX5_instruments wd188 rc_0 ⟨Nat.le_of_ble_eq_true rfl, Nat.le_of_ble_eq_true rfl⟩ ⟨Nat.le_trans (m := 500000) (by omega) room_c, Nat.le_trans (m := 5000000) (by omega) room_s⟩ rfl (Nat.le_of_ble_eq_true rfl) dL_law_509 ?_
  rintro _ _ ⟨rfl, rfl⟩
  refine z_aload_n C dL_law_512 rfl ?_
  refine z_cvi C (As := []) (c_X6_instruments (g := σ) hR.1) okX6_instruments wd691 rc_17 ⟨Nat.le_of_ble_eq_true rfl, Nat.le_of_ble_eq_true rfl⟩ ⟨Nat.le_trans (m := 500000) (by omega) room_c, Nat.le_trans (m := 5000000) (by omega) room_s⟩ rfl (Nat.le_of_ble_eq_true rfl) dL_law_513 ?_
  rintro _ σ2 ⟨rfl, hm⟩
  have hR2 : RelL σ2 := hR.step (K := 0) (fun _ => hR.2) ⟨fun _ => CEq.rf, fun _ => CEq.rf⟩ hm
  refine z_icmp_eq C 1510 dL_law_516 (by decide) (fun c_516 => ?_) (fun c_516 => ?_)
  rotate_left
  · exact absurd rfl c_516
  exact z_widen (mc := cells + 6) (ms := slots + 36) (by omega) (by omega) (kx σ2 _ _ hR2)
theorem okL_shifts : yL_shifts.cls ≠ "java/lang/invoke/MethodHandle" ∧ yL_shifts.cls ≠ "java/lang/invoke/VarHandle" ∧ (parseMethodDescriptor yL_shifts.desc).map (fun d => d.parameters.length) = some 4 := by decide +kernel
set_option maxRecDepth 100000 in
set_option maxHeartbeats 4000000 in
theorem law_c7 {p : Program} {l : Launch} {e : Env} {s : State} {m : MethodId} {args : Array Value} {below : List Frame} {meth : Method} {c : Code} {D : va_G} {ad : Nat → Nat → Nat} {cy : Nat → ClassId} {A : Nat → Prop} {sa : Nat → Nat} {cells slots : Nat} {Q : State → Prop} (C : Cx p l s m args meth c cL_law "FretSchoolLaw" 7 (some .boolean) D ad cy A sa) {b L : Nat} {xs : Nat → Int32} (hX : va_X b L xs s s.heap) (hbl : b < s.heap.size) (hbA : ¬ A b) {i : Int32} (hx : ∀ k : Int32, 1 ≤ k → k ≤ 5 → vp_in (i + k) L) (hc : cells + 6 ≤ 500000 ∧ slots + 36 ≤ 5000000) {σ : St} (hR : RelL σ) (kx : ∀ (σ' : St) (o5 o6 : Option Value), RelL σ' → Z p l e room_1 s m args below meth c D ad cy A 7 (cells + 6) (slots + 36) Q σ' [some (.ref b), some (.ref (ad 0 0)), some (.ref (ad 17 0)), some (.ref (ad 32 0)), some (.int i), o5, o6] 1510 []) {o5 o6 : Option Value} : Z p l e room_1 s m args below meth c D ad cy A 7 cells slots Q σ [some (.ref b), some (.ref (ad 0 0)), some (.ref (ad 17 0)), some (.ref (ad 32 0)), some (.int i), o5, o6] 521 [] := by
  refine z_aload_n C dL_law_521 rfl ?_
  refine z_aload_n C dL_law_522 rfl ?_
  refine z_iload C dL_law_523 rfl ?_
  refine z_iconst C (v := 1) dL_law_525 (by decide) ?_
  refine z_iadd C dL_law_526 ?_
  refine z_sld C hX hbl hbA (hx _ (by decide) (by decide)) dL_law_527 ?_
  refine z_aload_n C dL_law_528 rfl ?_
  refine z_iload C dL_law_529 rfl ?_
  refine z_iconst C (v := 2) dL_law_531 (by decide) ?_
  refine z_iadd C dL_law_532 ?_
  refine z_sld C hX hbl hbA (hx _ (by decide) (by decide)) dL_law_533 ?_
  refine z_aload_n C dL_law_534 rfl ?_
  refine z_csw C (As := [_, _, _, _]) (c_L_shifts hR.2) wd378 wd29 wd379 okL_shifts wd377 ⟨Nat.le_of_ble_eq_true rfl, Nat.le_of_ble_eq_true rfl⟩ ⟨Nat.le_trans (m := 500000) (by omega) room_c, Nat.le_trans (m := 5000000) (by omega) room_s⟩ rfl (Nat.le_of_ble_eq_true rfl) dL_law_535 ?_
  rintro r1 σ1 ⟨hr1, hok1, hno1, hq1⟩
  refine z_istore C dL_law_538 (by decide) ?_
  dsimp only [List.set]
  refine z_aload_n C dL_law_540 rfl ?_
  refine z_aload_n C dL_law_541 rfl ?_
  refine z_iload C dL_law_542 rfl ?_
  refine z_iconst C (v := 1) dL_law_544 (by decide) ?_
  refine z_iadd C dL_law_545 ?_
  refine z_sld C hX hbl hbA (hx _ (by decide) (by decide)) dL_law_546 ?_
  refine z_aload_n C dL_law_547 rfl ?_
  refine z_iload C dL_law_548 rfl ?_
  refine z_iconst C (v := 2) dL_law_550 (by decide) ?_
  refine z_iadd C dL_law_551 ?_
  refine z_sld C hX hbl hbA (hx _ (by decide) (by decide)) dL_law_552 ?_
  refine z_cvi C (As := [_, _]) (c_X6_shifts (g := σ) (hR.1.meq hq1) hR.2) okX6_shifts wd699 rc_17 ⟨Nat.le_of_ble_eq_true rfl, Nat.le_of_ble_eq_true rfl⟩ ⟨Nat.le_trans (m := 500000) (by omega) room_c, Nat.le_trans (m := 5000000) (by omega) room_s⟩ rfl (Nat.le_of_ble_eq_true rfl) dL_law_553 ?_
  rintro r2 σ2 ⟨hm, hr2⟩
  have hR2 : RelL σ2 := hR.step (fun _ => hR.2) ⟨fun h => (hok1 h).1, hno1⟩ hm
  refine z_istore C dL_law_556 (by decide) ?_
  dsimp only [List.set]
  refine z_aload_n C dL_law_558 rfl ?_
  refine z_cvi C (As := []) (c_X6_thrown) okX6_thrown wd644 rc_17 ⟨Nat.le_of_ble_eq_true rfl, Nat.le_of_ble_eq_true rfl⟩ ⟨Nat.le_trans (m := 500000) (by omega) room_c, Nat.le_trans (m := 5000000) (by omega) room_s⟩ rfl (Nat.le_of_ble_eq_true rfl) dL_law_559 ?_
  rintro _ _ ⟨rfl, rfl⟩
  refine z_iload C dL_law_562 rfl ?_
  refine z_icmp_eq C 569 dL_law_564 (by decide) (fun c_564 => ?_) (fun c_564 => ?_)
  rotate_left
  · exact absurd (hm.2.1.trans hr1.symm) c_564
  refine z_iload C dL_law_569 rfl ?_
  refine z_if_ne C 586 dL_law_571 (by decide) (fun c_571 => ?_) (fun c_571 => ?_)
  · refine z_goto C 1510 dL_law_586 (by decide) ?_
    exact z_widen (mc := cells + 6) (ms := slots + 36) (by omega) (by omega) (kx σ2 _ _ hR2)
  · refine z_aload_n C dL_law_574 rfl ?_
    refine z_iconst C (v := 0) dL_law_575 (by decide) ?_
    refine z_lald C rfl dL_law_576 ?_
    refine z_iload C dL_law_577 rfl ?_
    refine z_i2l C dL_law_579 ?_
    refine z_lcmp C dL_law_580 ?_
    refine z_if_eq C 586 dL_law_581 (by decide) (fun c_581 => ?_) (fun c_581 => ?_)
    rotate_left
    · exact absurd ((lg_cmp_eq _ _).mpr (congrArg Int32.toInt64 ((hm.1 32 0 0 (Or.inr rfl)).trans ((hok1 (nI_z Kb_pq hr1 c_571)).2.trans (hr2 (nI_z Kb_pq hr1 c_571)).symm)))) c_581
    refine z_goto C 1510 dL_law_586 (by decide) ?_
    exact z_widen (mc := cells + 6) (ms := slots + 36) (by omega) (by omega) (kx σ2 _ _ hR2)
theorem okL_shiftsByAll : yL_shiftsByAll.cls ≠ "java/lang/invoke/MethodHandle" ∧ yL_shiftsByAll.cls ≠ "java/lang/invoke/VarHandle" ∧ (parseMethodDescriptor yL_shiftsByAll.desc).map (fun d => d.parameters.length) = some 4 := by decide +kernel
set_option maxRecDepth 100000 in
set_option maxHeartbeats 4000000 in
theorem law_c8 {p : Program} {l : Launch} {e : Env} {s : State} {m : MethodId} {args : Array Value} {below : List Frame} {meth : Method} {c : Code} {D : va_G} {ad : Nat → Nat → Nat} {cy : Nat → ClassId} {A : Nat → Prop} {sa : Nat → Nat} {cells slots : Nat} {Q : State → Prop} (C : Cx p l s m args meth c cL_law "FretSchoolLaw" 7 (some .boolean) D ad cy A sa) {b L : Nat} {xs : Nat → Int32} (hX : va_X b L xs s s.heap) (hbl : b < s.heap.size) (hbA : ¬ A b) {i : Int32} (hx : ∀ k : Int32, 1 ≤ k → k ≤ 5 → vp_in (i + k) L) (hc : cells + 6 ≤ 500000 ∧ slots + 36 ≤ 5000000) {σ : St} (hR : RelL σ) (kx : ∀ (σ' : St) (o5 o6 : Option Value), RelL σ' → Z p l e room_1 s m args below meth c D ad cy A 7 (cells + 6) (slots + 36) Q σ' [some (.ref b), some (.ref (ad 0 0)), some (.ref (ad 17 0)), some (.ref (ad 32 0)), some (.int i), o5, o6] 1510 []) {o5 o6 : Option Value} : Z p l e room_1 s m args below meth c D ad cy A 7 cells slots Q σ [some (.ref b), some (.ref (ad 0 0)), some (.ref (ad 17 0)), some (.ref (ad 32 0)), some (.int i), o5, o6] 589 [] := by
  refine z_aload_n C dL_law_589 rfl ?_
  refine z_aload_n C dL_law_590 rfl ?_
  refine z_iload C dL_law_591 rfl ?_
  refine z_iconst C (v := 1) dL_law_593 (by decide) ?_
  refine z_iadd C dL_law_594 ?_
  refine z_sld C hX hbl hbA (hx _ (by decide) (by decide)) dL_law_595 ?_
  refine z_aload_n C dL_law_596 rfl ?_
  refine z_iload C dL_law_597 rfl ?_
  refine z_iconst C (v := 2) dL_law_599 (by decide) ?_
  refine z_iadd C dL_law_600 ?_
  refine z_sld C hX hbl hbA (hx _ (by decide) (by decide)) dL_law_601 ?_
  refine z_aload_n C dL_law_602 rfl ?_
  refine z_csw C (As := [_, _, _, _]) (c_L_shiftsByAll hR.2) wd427 wd29 wd428 okL_shiftsByAll wd426 ⟨Nat.le_of_ble_eq_true rfl, Nat.le_of_ble_eq_true rfl⟩ ⟨Nat.le_trans (m := 500000) (by omega) room_c, Nat.le_trans (m := 5000000) (by omega) room_s⟩ rfl (Nat.le_of_ble_eq_true rfl) dL_law_603 ?_
  rintro r1 σ1 ⟨hr1, hok1, hno1, hq1⟩
  refine z_istore C dL_law_606 (by decide) ?_
  dsimp only [List.set]
  refine z_aload_n C dL_law_608 rfl ?_
  refine z_aload_n C dL_law_609 rfl ?_
  refine z_iload C dL_law_610 rfl ?_
  refine z_iconst C (v := 1) dL_law_612 (by decide) ?_
  refine z_iadd C dL_law_613 ?_
  refine z_sld C hX hbl hbA (hx _ (by decide) (by decide)) dL_law_614 ?_
  refine z_aload_n C dL_law_615 rfl ?_
  refine z_iload C dL_law_616 rfl ?_
  refine z_iconst C (v := 2) dL_law_618 (by decide) ?_
  refine z_iadd C dL_law_619 ?_
  refine z_sld C hX hbl hbA (hx _ (by decide) (by decide)) dL_law_620 ?_
  refine z_cvi C (As := [_, _]) (c_X6_shiftsByAll (g := σ) (hR.1.meq hq1) hR.2) okX6_shiftsByAll wd727 rc_17 ⟨Nat.le_of_ble_eq_true rfl, Nat.le_of_ble_eq_true rfl⟩ ⟨Nat.le_trans (m := 500000) (by omega) room_c, Nat.le_trans (m := 5000000) (by omega) room_s⟩ rfl (Nat.le_of_ble_eq_true rfl) dL_law_621 ?_
  rintro r2 σ2 ⟨hm, hr2⟩
  have hR2 : RelL σ2 := hR.step (fun _ => hR.2) ⟨fun h => (hok1 h).1, hno1⟩ hm
  refine z_istore C dL_law_624 (by decide) ?_
  dsimp only [List.set]
  refine z_aload_n C dL_law_626 rfl ?_
  refine z_cvi C (As := []) (c_X6_thrown) okX6_thrown wd644 rc_17 ⟨Nat.le_of_ble_eq_true rfl, Nat.le_of_ble_eq_true rfl⟩ ⟨Nat.le_trans (m := 500000) (by omega) room_c, Nat.le_trans (m := 5000000) (by omega) room_s⟩ rfl (Nat.le_of_ble_eq_true rfl) dL_law_627 ?_
  rintro _ _ ⟨rfl, rfl⟩
  refine z_iload C dL_law_630 rfl ?_
  refine z_icmp_eq C 637 dL_law_632 (by decide) (fun c_632 => ?_) (fun c_632 => ?_)
  rotate_left
  · exact absurd (hm.2.1.trans hr1.symm) c_632
  refine z_iload C dL_law_637 rfl ?_
  refine z_if_ne C 654 dL_law_639 (by decide) (fun c_639 => ?_) (fun c_639 => ?_)
  · refine z_goto C 1510 dL_law_654 (by decide) ?_
    exact z_widen (mc := cells + 6) (ms := slots + 36) (by omega) (by omega) (kx σ2 _ _ hR2)
  · refine z_aload_n C dL_law_642 rfl ?_
    refine z_iconst C (v := 0) dL_law_643 (by decide) ?_
    refine z_lald C rfl dL_law_644 ?_
    refine z_iload C dL_law_645 rfl ?_
    refine z_i2l C dL_law_647 ?_
    refine z_lcmp C dL_law_648 ?_
    refine z_if_eq C 654 dL_law_649 (by decide) (fun c_649 => ?_) (fun c_649 => ?_)
    rotate_left
    · exact absurd ((lg_cmp_eq _ _).mpr (congrArg Int32.toInt64 ((hm.1 32 0 0 (Or.inr rfl)).trans ((hok1 (nI_z Kb_byAll hr1 c_639)).2.trans (hr2 (nI_z Kb_byAll hr1 c_639)).symm)))) c_649
    refine z_goto C 1510 dL_law_654 (by decide) ?_
    exact z_widen (mc := cells + 6) (ms := slots + 36) (by omega) (by omega) (kx σ2 _ _ hR2)
theorem okL_hardest : yL_hardest.cls ≠ "java/lang/invoke/MethodHandle" ∧ yL_hardest.cls ≠ "java/lang/invoke/VarHandle" ∧ (parseMethodDescriptor yL_hardest.desc).map (fun d => d.parameters.length) = some 4 := by decide +kernel
set_option maxRecDepth 100000 in
set_option maxHeartbeats 4000000 in
theorem law_c9 {p : Program} {l : Launch} {e : Env} {s : State} {m : MethodId} {args : Array Value} {below : List Frame} {meth : Method} {c : Code} {D : va_G} {ad : Nat → Nat → Nat} {cy : Nat → ClassId} {A : Nat → Prop} {sa : Nat → Nat} {cells slots : Nat} {Q : State → Prop} (C : Cx p l s m args meth c cL_law "FretSchoolLaw" 7 (some .boolean) D ad cy A sa) {b L : Nat} {xs : Nat → Int32} (hX : va_X b L xs s s.heap) (hbl : b < s.heap.size) (hbA : ¬ A b) {i : Int32} (hx : ∀ k : Int32, 1 ≤ k → k ≤ 5 → vp_in (i + k) L) (hc : cells + 6 ≤ 500000 ∧ slots + 36 ≤ 5000000) {σ : St} (hR : RelL σ) (kx : ∀ (σ' : St) (o5 o6 : Option Value), RelL σ' → Z p l e room_1 s m args below meth c D ad cy A 7 (cells + 6) (slots + 36) Q σ' [some (.ref b), some (.ref (ad 0 0)), some (.ref (ad 17 0)), some (.ref (ad 32 0)), some (.int i), o5, o6] 1510 []) {o5 o6 : Option Value} : Z p l e room_1 s m args below meth c D ad cy A 7 cells slots Q σ [some (.ref b), some (.ref (ad 0 0)), some (.ref (ad 17 0)), some (.ref (ad 32 0)), some (.int i), o5, o6] 657 [] := by
  refine z_aload_n C dL_law_657 rfl ?_
  refine z_aload_n C dL_law_658 rfl ?_
  refine z_iload C dL_law_659 rfl ?_
  refine z_iconst C (v := 1) dL_law_661 (by decide) ?_
  refine z_iadd C dL_law_662 ?_
  refine z_sld C hX hbl hbA (hx _ (by decide) (by decide)) dL_law_663 ?_
  refine z_aload_n C dL_law_664 rfl ?_
  refine z_iload C dL_law_665 rfl ?_
  refine z_iconst C (v := 2) dL_law_667 (by decide) ?_
  refine z_iadd C dL_law_668 ?_
  refine z_sld C hX hbl hbA (hx _ (by decide) (by decide)) dL_law_669 ?_
  refine z_aload_n C dL_law_670 rfl ?_
  refine z_csw C (As := [_, _, _, _]) (c_L_hardest hR.2) wd442 wd29 wd443 okL_hardest wd441 ⟨Nat.le_of_ble_eq_true rfl, Nat.le_of_ble_eq_true rfl⟩ ⟨Nat.le_trans (m := 500000) (by omega) room_c, Nat.le_trans (m := 5000000) (by omega) room_s⟩ rfl (Nat.le_of_ble_eq_true rfl) dL_law_671 ?_
  rintro r1 σ1 ⟨hr1, hok1, hno1, hq1⟩
  refine z_istore C dL_law_674 (by decide) ?_
  dsimp only [List.set]
  refine z_aload_n C dL_law_676 rfl ?_
  refine z_aload_n C dL_law_677 rfl ?_
  refine z_iload C dL_law_678 rfl ?_
  refine z_iconst C (v := 1) dL_law_680 (by decide) ?_
  refine z_iadd C dL_law_681 ?_
  refine z_sld C hX hbl hbA (hx _ (by decide) (by decide)) dL_law_682 ?_
  refine z_aload_n C dL_law_683 rfl ?_
  refine z_iload C dL_law_684 rfl ?_
  refine z_iconst C (v := 2) dL_law_686 (by decide) ?_
  refine z_iadd C dL_law_687 ?_
  refine z_sld C hX hbl hbA (hx _ (by decide) (by decide)) dL_law_688 ?_
  refine z_cvi C (As := [_, _]) (c_X6_hardest (g := σ) (hR.1.meq hq1) hR.2) okX6_hardest wd731 rc_17 ⟨Nat.le_of_ble_eq_true rfl, Nat.le_of_ble_eq_true rfl⟩ ⟨Nat.le_trans (m := 500000) (by omega) room_c, Nat.le_trans (m := 5000000) (by omega) room_s⟩ rfl (Nat.le_of_ble_eq_true rfl) dL_law_689 ?_
  rintro r2 σ2 ⟨hm, hr2⟩
  have hR2 : RelL σ2 := hR.step (fun _ => hR.2) ⟨fun h => (hok1 h).1, hno1⟩ hm
  refine z_istore C dL_law_692 (by decide) ?_
  dsimp only [List.set]
  refine z_aload_n C dL_law_694 rfl ?_
  refine z_cvi C (As := []) (c_X6_thrown) okX6_thrown wd644 rc_17 ⟨Nat.le_of_ble_eq_true rfl, Nat.le_of_ble_eq_true rfl⟩ ⟨Nat.le_trans (m := 500000) (by omega) room_c, Nat.le_trans (m := 5000000) (by omega) room_s⟩ rfl (Nat.le_of_ble_eq_true rfl) dL_law_695 ?_
  rintro _ _ ⟨rfl, rfl⟩
  refine z_iload C dL_law_698 rfl ?_
  refine z_icmp_eq C 705 dL_law_700 (by decide) (fun c_700 => ?_) (fun c_700 => ?_)
  rotate_left
  · exact absurd (hm.2.1.trans hr1.symm) c_700
  refine z_iload C dL_law_705 rfl ?_
  refine z_if_ne C 722 dL_law_707 (by decide) (fun c_707 => ?_) (fun c_707 => ?_)
  · refine z_goto C 1510 dL_law_722 (by decide) ?_
    exact z_widen (mc := cells + 6) (ms := slots + 36) (by omega) (by omega) (kx σ2 _ _ hR2)
  · refine z_aload_n C dL_law_710 rfl ?_
    refine z_iconst C (v := 0) dL_law_711 (by decide) ?_
    refine z_lald C rfl dL_law_712 ?_
    refine z_iload C dL_law_713 rfl ?_
    refine z_i2l C dL_law_715 ?_
    refine z_lcmp C dL_law_716 ?_
    refine z_if_eq C 722 dL_law_717 (by decide) (fun c_717 => ?_) (fun c_717 => ?_)
    rotate_left
    · exact absurd ((lg_cmp_eq _ _).mpr (congrArg Int32.toInt64 ((hm.1 32 0 0 (Or.inr rfl)).trans ((hok1 (nI_z Kb_pq hr1 c_707)).2.trans (hr2 (nI_z Kb_pq hr1 c_707)).symm)))) c_717
    refine z_goto C 1510 dL_law_722 (by decide) ?_
    exact z_widen (mc := cells + 6) (ms := slots + 36) (by omega) (by omega) (kx σ2 _ _ hR2)
theorem okL_position : yL_position.cls ≠ "java/lang/invoke/MethodHandle" ∧ yL_position.cls ≠ "java/lang/invoke/VarHandle" ∧ (parseMethodDescriptor yL_position.desc).map (fun d => d.parameters.length) = some 5 := by decide +kernel
set_option maxRecDepth 100000 in
set_option maxHeartbeats 4000000 in
theorem law_c10 {p : Program} {l : Launch} {e : Env} {s : State} {m : MethodId} {args : Array Value} {below : List Frame} {meth : Method} {c : Code} {D : va_G} {ad : Nat → Nat → Nat} {cy : Nat → ClassId} {A : Nat → Prop} {sa : Nat → Nat} {cells slots : Nat} {Q : State → Prop} (C : Cx p l s m args meth c cL_law "FretSchoolLaw" 7 (some .boolean) D ad cy A sa) {b L : Nat} {xs : Nat → Int32} (hX : va_X b L xs s s.heap) (hbl : b < s.heap.size) (hbA : ¬ A b) {i : Int32} (hx : ∀ k : Int32, 1 ≤ k → k ≤ 5 → vp_in (i + k) L) (hc : cells + 6 ≤ 500000 ∧ slots + 36 ≤ 5000000) {σ : St} (hR : RelL σ) (kx : ∀ (σ' : St) (o5 o6 : Option Value), RelL σ' → Z p l e room_1 s m args below meth c D ad cy A 7 (cells + 6) (slots + 36) Q σ' [some (.ref b), some (.ref (ad 0 0)), some (.ref (ad 17 0)), some (.ref (ad 32 0)), some (.int i), o5, o6] 1510 []) {o5 o6 : Option Value} : Z p l e room_1 s m args below meth c D ad cy A 7 cells slots Q σ [some (.ref b), some (.ref (ad 0 0)), some (.ref (ad 17 0)), some (.ref (ad 32 0)), some (.int i), o5, o6] 725 [] := by
  refine z_aload_n C dL_law_725 rfl ?_
  refine z_aload_n C dL_law_726 rfl ?_
  refine z_iload C dL_law_727 rfl ?_
  refine z_iconst C (v := 1) dL_law_729 (by decide) ?_
  refine z_iadd C dL_law_730 ?_
  refine z_sld C hX hbl hbA (hx _ (by decide) (by decide)) dL_law_731 ?_
  refine z_aload_n C dL_law_732 rfl ?_
  refine z_iload C dL_law_733 rfl ?_
  refine z_iconst C (v := 2) dL_law_735 (by decide) ?_
  refine z_iadd C dL_law_736 ?_
  refine z_sld C hX hbl hbA (hx _ (by decide) (by decide)) dL_law_737 ?_
  refine z_aload_n C dL_law_738 rfl ?_
  refine z_iload C dL_law_739 rfl ?_
  refine z_iconst C (v := 3) dL_law_741 (by decide) ?_
  refine z_iadd C dL_law_742 ?_
  refine z_sld C hX hbl hbA (hx _ (by decide) (by decide)) dL_law_743 ?_
  refine z_aload_n C dL_law_744 rfl ?_
  refine z_csw C (As := [_, _, _, _, _]) (c_L_position hR.2) wd449 wd29 wd450 okL_position wd448 ⟨Nat.le_of_ble_eq_true rfl, Nat.le_of_ble_eq_true rfl⟩ ⟨Nat.le_trans (m := 500000) (by omega) room_c, Nat.le_trans (m := 5000000) (by omega) room_s⟩ rfl (Nat.le_of_ble_eq_true rfl) dL_law_745 ?_
  rintro r1 σ1 ⟨hr1, hok1, hno1, hq1⟩
  refine z_istore C dL_law_748 (by decide) ?_
  dsimp only [List.set]
  refine z_aload_n C dL_law_750 rfl ?_
  refine z_aload_n C dL_law_751 rfl ?_
  refine z_iload C dL_law_752 rfl ?_
  refine z_iconst C (v := 1) dL_law_754 (by decide) ?_
  refine z_iadd C dL_law_755 ?_
  refine z_sld C hX hbl hbA (hx _ (by decide) (by decide)) dL_law_756 ?_
  refine z_aload_n C dL_law_757 rfl ?_
  refine z_iload C dL_law_758 rfl ?_
  refine z_iconst C (v := 2) dL_law_760 (by decide) ?_
  refine z_iadd C dL_law_761 ?_
  refine z_sld C hX hbl hbA (hx _ (by decide) (by decide)) dL_law_762 ?_
  refine z_aload_n C dL_law_763 rfl ?_
  refine z_iload C dL_law_764 rfl ?_
  refine z_iconst C (v := 3) dL_law_766 (by decide) ?_
  refine z_iadd C dL_law_767 ?_
  refine z_sld C hX hbl hbA (hx _ (by decide) (by decide)) dL_law_768 ?_
  refine z_cvi C (As := [_, _, _]) (c_X6_position (g := σ) (hR.1.meq hq1) hR.2) okX6_position wd739 rc_17 ⟨Nat.le_of_ble_eq_true rfl, Nat.le_of_ble_eq_true rfl⟩ ⟨Nat.le_trans (m := 500000) (by omega) room_c, Nat.le_trans (m := 5000000) (by omega) room_s⟩ rfl (Nat.le_of_ble_eq_true rfl) dL_law_769 ?_
  rintro r2 σ2 ⟨hm, hr2⟩
  have hR2 : RelL σ2 := hR.step (fun _ => hR.2) ⟨fun h => (hok1 h).1, hno1⟩ hm
  refine z_istore C dL_law_772 (by decide) ?_
  dsimp only [List.set]
  refine z_aload_n C dL_law_774 rfl ?_
  refine z_cvi C (As := []) (c_X6_thrown) okX6_thrown wd644 rc_17 ⟨Nat.le_of_ble_eq_true rfl, Nat.le_of_ble_eq_true rfl⟩ ⟨Nat.le_trans (m := 500000) (by omega) room_c, Nat.le_trans (m := 5000000) (by omega) room_s⟩ rfl (Nat.le_of_ble_eq_true rfl) dL_law_775 ?_
  rintro _ _ ⟨rfl, rfl⟩
  refine z_iload C dL_law_778 rfl ?_
  refine z_icmp_eq C 785 dL_law_780 (by decide) (fun c_780 => ?_) (fun c_780 => ?_)
  rotate_left
  · exact absurd (hm.2.1.trans hr1.symm) c_780
  refine z_iload C dL_law_785 rfl ?_
  refine z_if_ne C 802 dL_law_787 (by decide) (fun c_787 => ?_) (fun c_787 => ?_)
  · refine z_goto C 1510 dL_law_802 (by decide) ?_
    exact z_widen (mc := cells + 6) (ms := slots + 36) (by omega) (by omega) (kx σ2 _ _ hR2)
  · refine z_aload_n C dL_law_790 rfl ?_
    refine z_iconst C (v := 0) dL_law_791 (by decide) ?_
    refine z_lald C rfl dL_law_792 ?_
    refine z_iload C dL_law_793 rfl ?_
    refine z_i2l C dL_law_795 ?_
    refine z_lcmp C dL_law_796 ?_
    refine z_if_eq C 802 dL_law_797 (by decide) (fun c_797 => ?_) (fun c_797 => ?_)
    rotate_left
    · exact absurd ((lg_cmp_eq _ _).mpr (congrArg Int32.toInt64 ((hm.1 32 0 0 (Or.inr rfl)).trans ((hok1 (nI_z Kb_note hr1 c_787)).2.trans (hr2 (nI_z Kb_note hr1 c_787)).symm)))) c_797
    refine z_goto C 1510 dL_law_802 (by decide) ?_
    exact z_widen (mc := cells + 6) (ms := slots + 36) (by omega) (by omega) (kx σ2 _ _ hR2)
theorem okL_string : yL_string.cls ≠ "java/lang/invoke/MethodHandle" ∧ yL_string.cls ≠ "java/lang/invoke/VarHandle" ∧ (parseMethodDescriptor yL_string.desc).map (fun d => d.parameters.length) = some 5 := by decide +kernel
set_option maxRecDepth 100000 in
set_option maxHeartbeats 4000000 in
theorem law_c11 {p : Program} {l : Launch} {e : Env} {s : State} {m : MethodId} {args : Array Value} {below : List Frame} {meth : Method} {c : Code} {D : va_G} {ad : Nat → Nat → Nat} {cy : Nat → ClassId} {A : Nat → Prop} {sa : Nat → Nat} {cells slots : Nat} {Q : State → Prop} (C : Cx p l s m args meth c cL_law "FretSchoolLaw" 7 (some .boolean) D ad cy A sa) {b L : Nat} {xs : Nat → Int32} (hX : va_X b L xs s s.heap) (hbl : b < s.heap.size) (hbA : ¬ A b) {i : Int32} (hx : ∀ k : Int32, 1 ≤ k → k ≤ 5 → vp_in (i + k) L) (hc : cells + 6 ≤ 500000 ∧ slots + 36 ≤ 5000000) {σ : St} (hR : RelL σ) (kx : ∀ (σ' : St) (o5 o6 : Option Value), RelL σ' → Z p l e room_1 s m args below meth c D ad cy A 7 (cells + 6) (slots + 36) Q σ' [some (.ref b), some (.ref (ad 0 0)), some (.ref (ad 17 0)), some (.ref (ad 32 0)), some (.int i), o5, o6] 1510 []) {o5 o6 : Option Value} : Z p l e room_1 s m args below meth c D ad cy A 7 cells slots Q σ [some (.ref b), some (.ref (ad 0 0)), some (.ref (ad 17 0)), some (.ref (ad 32 0)), some (.int i), o5, o6] 805 [] := by
  refine z_aload_n C dL_law_805 rfl ?_
  refine z_aload_n C dL_law_806 rfl ?_
  refine z_iload C dL_law_807 rfl ?_
  refine z_iconst C (v := 1) dL_law_809 (by decide) ?_
  refine z_iadd C dL_law_810 ?_
  refine z_sld C hX hbl hbA (hx _ (by decide) (by decide)) dL_law_811 ?_
  refine z_aload_n C dL_law_812 rfl ?_
  refine z_iload C dL_law_813 rfl ?_
  refine z_iconst C (v := 2) dL_law_815 (by decide) ?_
  refine z_iadd C dL_law_816 ?_
  refine z_sld C hX hbl hbA (hx _ (by decide) (by decide)) dL_law_817 ?_
  refine z_aload_n C dL_law_818 rfl ?_
  refine z_iload C dL_law_819 rfl ?_
  refine z_iconst C (v := 3) dL_law_821 (by decide) ?_
  refine z_iadd C dL_law_822 ?_
  refine z_sld C hX hbl hbA (hx _ (by decide) (by decide)) dL_law_823 ?_
  refine z_aload_n C dL_law_824 rfl ?_
  refine z_csw C (As := [_, _, _, _, _]) (c_L_string hR.2) wd456 wd29 wd457 okL_string wd455 ⟨Nat.le_of_ble_eq_true rfl, Nat.le_of_ble_eq_true rfl⟩ ⟨Nat.le_trans (m := 500000) (by omega) room_c, Nat.le_trans (m := 5000000) (by omega) room_s⟩ rfl (Nat.le_of_ble_eq_true rfl) dL_law_825 ?_
  rintro r1 σ1 ⟨hr1, hok1, hno1, hq1⟩
  refine z_istore C dL_law_828 (by decide) ?_
  dsimp only [List.set]
  refine z_aload_n C dL_law_830 rfl ?_
  refine z_aload_n C dL_law_831 rfl ?_
  refine z_iload C dL_law_832 rfl ?_
  refine z_iconst C (v := 1) dL_law_834 (by decide) ?_
  refine z_iadd C dL_law_835 ?_
  refine z_sld C hX hbl hbA (hx _ (by decide) (by decide)) dL_law_836 ?_
  refine z_aload_n C dL_law_837 rfl ?_
  refine z_iload C dL_law_838 rfl ?_
  refine z_iconst C (v := 2) dL_law_840 (by decide) ?_
  refine z_iadd C dL_law_841 ?_
  refine z_sld C hX hbl hbA (hx _ (by decide) (by decide)) dL_law_842 ?_
  refine z_aload_n C dL_law_843 rfl ?_
  refine z_iload C dL_law_844 rfl ?_
  refine z_iconst C (v := 3) dL_law_846 (by decide) ?_
  refine z_iadd C dL_law_847 ?_
  refine z_sld C hX hbl hbA (hx _ (by decide) (by decide)) dL_law_848 ?_
  refine z_cvi C (As := [_, _, _]) (c_X6_string (g := σ) (hR.1.meq hq1) hR.2) okX6_string wd747 rc_17 ⟨Nat.le_of_ble_eq_true rfl, Nat.le_of_ble_eq_true rfl⟩ ⟨Nat.le_trans (m := 500000) (by omega) room_c, Nat.le_trans (m := 5000000) (by omega) room_s⟩ rfl (Nat.le_of_ble_eq_true rfl) dL_law_849 ?_
  rintro r2 σ2 ⟨hm, hr2⟩
  have hR2 : RelL σ2 := hR.step (fun _ => hR.2) ⟨fun h => (hok1 h).1, hno1⟩ hm
  refine z_istore C dL_law_852 (by decide) ?_
  dsimp only [List.set]
  refine z_aload_n C dL_law_854 rfl ?_
  refine z_cvi C (As := []) (c_X6_thrown) okX6_thrown wd644 rc_17 ⟨Nat.le_of_ble_eq_true rfl, Nat.le_of_ble_eq_true rfl⟩ ⟨Nat.le_trans (m := 500000) (by omega) room_c, Nat.le_trans (m := 5000000) (by omega) room_s⟩ rfl (Nat.le_of_ble_eq_true rfl) dL_law_855 ?_
  rintro _ _ ⟨rfl, rfl⟩
  refine z_iload C dL_law_858 rfl ?_
  refine z_icmp_eq C 865 dL_law_860 (by decide) (fun c_860 => ?_) (fun c_860 => ?_)
  rotate_left
  · exact absurd (hm.2.1.trans hr1.symm) c_860
  refine z_iload C dL_law_865 rfl ?_
  refine z_if_ne C 882 dL_law_867 (by decide) (fun c_867 => ?_) (fun c_867 => ?_)
  · refine z_goto C 1510 dL_law_882 (by decide) ?_
    exact z_widen (mc := cells + 6) (ms := slots + 36) (by omega) (by omega) (kx σ2 _ _ hR2)
  · refine z_aload_n C dL_law_870 rfl ?_
    refine z_iconst C (v := 0) dL_law_871 (by decide) ?_
    refine z_lald C rfl dL_law_872 ?_
    refine z_iload C dL_law_873 rfl ?_
    refine z_i2l C dL_law_875 ?_
    refine z_lcmp C dL_law_876 ?_
    refine z_if_eq C 882 dL_law_877 (by decide) (fun c_877 => ?_) (fun c_877 => ?_)
    rotate_left
    · exact absurd ((lg_cmp_eq _ _).mpr (congrArg Int32.toInt64 ((hm.1 32 0 0 (Or.inr rfl)).trans ((hok1 (nI_z Kb_note hr1 c_867)).2.trans (hr2 (nI_z Kb_note hr1 c_867)).symm)))) c_877
    refine z_goto C 1510 dL_law_882 (by decide) ?_
    exact z_widen (mc := cells + 6) (ms := slots + 36) (by omega) (by omega) (kx σ2 _ _ hR2)
theorem okL_learn : yL_learn.cls ≠ "java/lang/invoke/MethodHandle" ∧ yL_learn.cls ≠ "java/lang/invoke/VarHandle" ∧ (parseMethodDescriptor yL_learn.desc).map (fun d => d.parameters.length) = some 5 := by decide +kernel
set_option maxRecDepth 100000 in
set_option maxHeartbeats 4000000 in
theorem law_c12 {p : Program} {l : Launch} {e : Env} {s : State} {m : MethodId} {args : Array Value} {below : List Frame} {meth : Method} {c : Code} {D : va_G} {ad : Nat → Nat → Nat} {cy : Nat → ClassId} {A : Nat → Prop} {sa : Nat → Nat} {cells slots : Nat} {Q : State → Prop} (C : Cx p l s m args meth c cL_law "FretSchoolLaw" 7 (some .boolean) D ad cy A sa) {b L : Nat} {xs : Nat → Int32} (hX : va_X b L xs s s.heap) (hbl : b < s.heap.size) (hbA : ¬ A b) {i : Int32} (hx : ∀ k : Int32, 1 ≤ k → k ≤ 5 → vp_in (i + k) L) (hc : cells + 6 ≤ 500000 ∧ slots + 36 ≤ 5000000) {σ : St} (hR : RelL σ) (kx : ∀ (σ' : St) (o5 o6 : Option Value), RelL σ' → Z p l e room_1 s m args below meth c D ad cy A 7 (cells + 6) (slots + 36) Q σ' [some (.ref b), some (.ref (ad 0 0)), some (.ref (ad 17 0)), some (.ref (ad 32 0)), some (.int i), o5, o6] 1510 []) {o5 o6 : Option Value} : Z p l e room_1 s m args below meth c D ad cy A 7 cells slots Q σ [some (.ref b), some (.ref (ad 0 0)), some (.ref (ad 17 0)), some (.ref (ad 32 0)), some (.int i), o5, o6] 885 [] := by
  refine z_aload_n C dL_law_885 rfl ?_
  refine z_aload_n C dL_law_886 rfl ?_
  refine z_iload C dL_law_887 rfl ?_
  refine z_iconst C (v := 1) dL_law_889 (by decide) ?_
  refine z_iadd C dL_law_890 ?_
  refine z_sld C hX hbl hbA (hx _ (by decide) (by decide)) dL_law_891 ?_
  refine z_aload_n C dL_law_892 rfl ?_
  refine z_iload C dL_law_893 rfl ?_
  refine z_iconst C (v := 2) dL_law_895 (by decide) ?_
  refine z_iadd C dL_law_896 ?_
  refine z_sld C hX hbl hbA (hx _ (by decide) (by decide)) dL_law_897 ?_
  refine z_aload_n C dL_law_898 rfl ?_
  refine z_iload C dL_law_899 rfl ?_
  refine z_iconst C (v := 3) dL_law_901 (by decide) ?_
  refine z_iadd C dL_law_902 ?_
  refine z_sld C hX hbl hbA (hx _ (by decide) (by decide)) dL_law_903 ?_
  refine z_aload_n C dL_law_904 rfl ?_
  refine z_csw C (As := [_, _, _, _, _]) (c_L_learn hR.2) wd464 wd29 wd465 okL_learn wd463 ⟨Nat.le_of_ble_eq_true rfl, Nat.le_of_ble_eq_true rfl⟩ ⟨Nat.le_trans (m := 500000) (by omega) room_c, Nat.le_trans (m := 5000000) (by omega) room_s⟩ rfl (Nat.le_of_ble_eq_true rfl) dL_law_905 ?_
  rintro r1 σ1 ⟨hr1, hok1, hno1, hq1⟩
  refine z_istore C dL_law_908 (by decide) ?_
  dsimp only [List.set]
  refine z_aload_n C dL_law_910 rfl ?_
  refine z_aload_n C dL_law_911 rfl ?_
  refine z_iload C dL_law_912 rfl ?_
  refine z_iconst C (v := 1) dL_law_914 (by decide) ?_
  refine z_iadd C dL_law_915 ?_
  refine z_sld C hX hbl hbA (hx _ (by decide) (by decide)) dL_law_916 ?_
  refine z_aload_n C dL_law_917 rfl ?_
  refine z_iload C dL_law_918 rfl ?_
  refine z_iconst C (v := 2) dL_law_920 (by decide) ?_
  refine z_iadd C dL_law_921 ?_
  refine z_sld C hX hbl hbA (hx _ (by decide) (by decide)) dL_law_922 ?_
  refine z_aload_n C dL_law_923 rfl ?_
  refine z_iload C dL_law_924 rfl ?_
  refine z_iconst C (v := 3) dL_law_926 (by decide) ?_
  refine z_iadd C dL_law_927 ?_
  refine z_sld C hX hbl hbA (hx _ (by decide) (by decide)) dL_law_928 ?_
  refine z_cvi C (As := [_, _, _]) (c_X6_learn (g := σ) (hR.1.meq hq1) hR.2) okX6_learn wd751 rc_17 ⟨Nat.le_of_ble_eq_true rfl, Nat.le_of_ble_eq_true rfl⟩ ⟨Nat.le_trans (m := 500000) (by omega) room_c, Nat.le_trans (m := 5000000) (by omega) room_s⟩ rfl (Nat.le_of_ble_eq_true rfl) dL_law_929 ?_
  rintro r2 σ2 ⟨hm, hr2⟩
  have hR2 : RelL σ2 := hR.step (fun _ => Inv_up (by omega) (Inv_up (by omega) hR.2)) ⟨fun h => (hok1 h).1, hno1⟩ hm
  refine z_istore C dL_law_932 (by decide) ?_
  dsimp only [List.set]
  refine z_aload_n C dL_law_934 rfl ?_
  refine z_cvi C (As := []) (c_X6_thrown) okX6_thrown wd644 rc_17 ⟨Nat.le_of_ble_eq_true rfl, Nat.le_of_ble_eq_true rfl⟩ ⟨Nat.le_trans (m := 500000) (by omega) room_c, Nat.le_trans (m := 5000000) (by omega) room_s⟩ rfl (Nat.le_of_ble_eq_true rfl) dL_law_935 ?_
  rintro _ _ ⟨rfl, rfl⟩
  refine z_iload C dL_law_938 rfl ?_
  refine z_icmp_eq C 945 dL_law_940 (by decide) (fun c_940 => ?_) (fun c_940 => ?_)
  rotate_left
  · exact absurd (hm.2.1.trans hr1.symm) c_940
  refine z_iload C dL_law_945 rfl ?_
  refine z_if_ne C 962 dL_law_947 (by decide) (fun c_947 => ?_) (fun c_947 => ?_)
  · refine z_goto C 1510 dL_law_962 (by decide) ?_
    exact z_widen (mc := cells + 6) (ms := slots + 36) (by omega) (by omega) (kx σ2 _ _ hR2)
  · refine z_aload_n C dL_law_950 rfl ?_
    refine z_iconst C (v := 0) dL_law_951 (by decide) ?_
    refine z_lald C rfl dL_law_952 ?_
    refine z_iload C dL_law_953 rfl ?_
    refine z_i2l C dL_law_955 ?_
    refine z_lcmp C dL_law_956 ?_
    refine z_if_eq C 962 dL_law_957 (by decide) (fun c_957 => ?_) (fun c_957 => ?_)
    rotate_left
    · exact absurd ((lg_cmp_eq _ _).mpr (congrArg Int32.toInt64 ((hm.1 32 0 0 (Or.inr rfl)).trans ((hok1 (nI_z Kb_learn hr1 c_947)).2.trans (hr2 (nI_z Kb_learn hr1 c_947)).symm)))) c_957
    refine z_goto C 1510 dL_law_962 (by decide) ?_
    exact z_widen (mc := cells + 6) (ms := slots + 36) (by omega) (by omega) (kx σ2 _ _ hR2)
theorem okL_level : yL_level.cls ≠ "java/lang/invoke/MethodHandle" ∧ yL_level.cls ≠ "java/lang/invoke/VarHandle" ∧ (parseMethodDescriptor yL_level.desc).map (fun d => d.parameters.length) = some 3 := by decide +kernel
set_option maxRecDepth 100000 in
set_option maxHeartbeats 4000000 in
theorem law_c13 {p : Program} {l : Launch} {e : Env} {s : State} {m : MethodId} {args : Array Value} {below : List Frame} {meth : Method} {c : Code} {D : va_G} {ad : Nat → Nat → Nat} {cy : Nat → ClassId} {A : Nat → Prop} {sa : Nat → Nat} {cells slots : Nat} {Q : State → Prop} (C : Cx p l s m args meth c cL_law "FretSchoolLaw" 7 (some .boolean) D ad cy A sa) {b L : Nat} {xs : Nat → Int32} (hX : va_X b L xs s s.heap) (hbl : b < s.heap.size) (hbA : ¬ A b) {i : Int32} (hx : ∀ k : Int32, 1 ≤ k → k ≤ 5 → vp_in (i + k) L) (hc : cells + 6 ≤ 500000 ∧ slots + 36 ≤ 5000000) {σ : St} (hR : RelL σ) (kx : ∀ (σ' : St) (o5 o6 : Option Value), RelL σ' → Z p l e room_1 s m args below meth c D ad cy A 7 (cells + 6) (slots + 36) Q σ' [some (.ref b), some (.ref (ad 0 0)), some (.ref (ad 17 0)), some (.ref (ad 32 0)), some (.int i), o5, o6] 1510 []) {o5 o6 : Option Value} : Z p l e room_1 s m args below meth c D ad cy A 7 cells slots Q σ [some (.ref b), some (.ref (ad 0 0)), some (.ref (ad 17 0)), some (.ref (ad 32 0)), some (.int i), o5, o6] 965 [] := by
  refine z_aload_n C dL_law_965 rfl ?_
  refine z_aload_n C dL_law_966 rfl ?_
  refine z_iload C dL_law_967 rfl ?_
  refine z_iconst C (v := 1) dL_law_969 (by decide) ?_
  refine z_iadd C dL_law_970 ?_
  refine z_sld C hX hbl hbA (hx _ (by decide) (by decide)) dL_law_971 ?_
  refine z_aload_n C dL_law_972 rfl ?_
  refine z_csw C (As := [_, _, _]) (c_L_level) wd488 wd29 wd489 okL_level wd487 ⟨Nat.le_of_ble_eq_true rfl, Nat.le_of_ble_eq_true rfl⟩ ⟨Nat.le_trans (m := 500000) (by omega) room_c, Nat.le_trans (m := 5000000) (by omega) room_s⟩ rfl (Nat.le_of_ble_eq_true rfl) dL_law_973 ?_
  rintro r1 σ1 ⟨hr1, hok1, hno1, hq1⟩
  refine z_istore C dL_law_976 (by decide) ?_
  dsimp only [List.set]
  refine z_aload_n C dL_law_978 rfl ?_
  refine z_aload_n C dL_law_979 rfl ?_
  refine z_iload C dL_law_980 rfl ?_
  refine z_iconst C (v := 1) dL_law_982 (by decide) ?_
  refine z_iadd C dL_law_983 ?_
  refine z_sld C hX hbl hbA (hx _ (by decide) (by decide)) dL_law_984 ?_
  refine z_cvi C (As := [_]) (c_X6_level (g := σ) (hR.1.meq hq1)) okX6_level wd766 rc_17 ⟨Nat.le_of_ble_eq_true rfl, Nat.le_of_ble_eq_true rfl⟩ ⟨Nat.le_trans (m := 500000) (by omega) room_c, Nat.le_trans (m := 5000000) (by omega) room_s⟩ rfl (Nat.le_of_ble_eq_true rfl) dL_law_985 ?_
  rintro r2 σ2 ⟨hm, hr2⟩
  have hR2 : RelL σ2 := hR.step (fun _ => hR.2) ⟨fun h => (hok1 h).1, hno1⟩ hm
  refine z_istore C dL_law_988 (by decide) ?_
  dsimp only [List.set]
  refine z_aload_n C dL_law_990 rfl ?_
  refine z_cvi C (As := []) (c_X6_thrown) okX6_thrown wd644 rc_17 ⟨Nat.le_of_ble_eq_true rfl, Nat.le_of_ble_eq_true rfl⟩ ⟨Nat.le_trans (m := 500000) (by omega) room_c, Nat.le_trans (m := 5000000) (by omega) room_s⟩ rfl (Nat.le_of_ble_eq_true rfl) dL_law_991 ?_
  rintro _ _ ⟨rfl, rfl⟩
  refine z_iload C dL_law_994 rfl ?_
  refine z_icmp_eq C 1001 dL_law_996 (by decide) (fun c_996 => ?_) (fun c_996 => ?_)
  rotate_left
  · exact absurd (hm.2.1.trans hr1.symm) c_996
  refine z_iload C dL_law_1001 rfl ?_
  refine z_if_ne C 1018 dL_law_1003 (by decide) (fun c_1003 => ?_) (fun c_1003 => ?_)
  · refine z_goto C 1510 dL_law_1018 (by decide) ?_
    exact z_widen (mc := cells + 6) (ms := slots + 36) (by omega) (by omega) (kx σ2 _ _ hR2)
  · refine z_aload_n C dL_law_1006 rfl ?_
    refine z_iconst C (v := 0) dL_law_1007 (by decide) ?_
    refine z_lald C rfl dL_law_1008 ?_
    refine z_iload C dL_law_1009 rfl ?_
    refine z_i2l C dL_law_1011 ?_
    refine z_lcmp C dL_law_1012 ?_
    refine z_if_eq C 1018 dL_law_1013 (by decide) (fun c_1013 => ?_) (fun c_1013 => ?_)
    rotate_left
    · exact absurd ((lg_cmp_eq _ _).mpr (congrArg Int32.toInt64 ((hm.1 32 0 0 (Or.inr rfl)).trans ((hok1 (nI_z Kb_pupil hr1 c_1003)).2.trans (hr2 (nI_z Kb_pupil hr1 c_1003)).symm)))) c_1013
    refine z_goto C 1510 dL_law_1018 (by decide) ?_
    exact z_widen (mc := cells + 6) (ms := slots + 36) (by omega) (by omega) (kx σ2 _ _ hR2)
theorem okL_known : yL_known.cls ≠ "java/lang/invoke/MethodHandle" ∧ yL_known.cls ≠ "java/lang/invoke/VarHandle" ∧ (parseMethodDescriptor yL_known.desc).map (fun d => d.parameters.length) = some 3 := by decide +kernel
set_option maxRecDepth 100000 in
set_option maxHeartbeats 4000000 in
theorem law_c14 {p : Program} {l : Launch} {e : Env} {s : State} {m : MethodId} {args : Array Value} {below : List Frame} {meth : Method} {c : Code} {D : va_G} {ad : Nat → Nat → Nat} {cy : Nat → ClassId} {A : Nat → Prop} {sa : Nat → Nat} {cells slots : Nat} {Q : State → Prop} (C : Cx p l s m args meth c cL_law "FretSchoolLaw" 7 (some .boolean) D ad cy A sa) {b L : Nat} {xs : Nat → Int32} (hX : va_X b L xs s s.heap) (hbl : b < s.heap.size) (hbA : ¬ A b) {i : Int32} (hx : ∀ k : Int32, 1 ≤ k → k ≤ 5 → vp_in (i + k) L) (hc : cells + 6 ≤ 500000 ∧ slots + 36 ≤ 5000000) {σ : St} (hR : RelL σ) (kx : ∀ (σ' : St) (o5 o6 : Option Value), RelL σ' → Z p l e room_1 s m args below meth c D ad cy A 7 (cells + 6) (slots + 36) Q σ' [some (.ref b), some (.ref (ad 0 0)), some (.ref (ad 17 0)), some (.ref (ad 32 0)), some (.int i), o5, o6] 1510 []) {o5 o6 : Option Value} : Z p l e room_1 s m args below meth c D ad cy A 7 cells slots Q σ [some (.ref b), some (.ref (ad 0 0)), some (.ref (ad 17 0)), some (.ref (ad 32 0)), some (.int i), o5, o6] 1021 [] := by
  refine z_aload_n C dL_law_1021 rfl ?_
  refine z_aload_n C dL_law_1022 rfl ?_
  refine z_iload C dL_law_1023 rfl ?_
  refine z_iconst C (v := 1) dL_law_1025 (by decide) ?_
  refine z_iadd C dL_law_1026 ?_
  refine z_sld C hX hbl hbA (hx _ (by decide) (by decide)) dL_law_1027 ?_
  refine z_aload_n C dL_law_1028 rfl ?_
  refine z_csw C (As := [_, _, _]) (c_L_known) wd495 wd29 wd496 okL_known wd494 ⟨Nat.le_of_ble_eq_true rfl, Nat.le_of_ble_eq_true rfl⟩ ⟨Nat.le_trans (m := 500000) (by omega) room_c, Nat.le_trans (m := 5000000) (by omega) room_s⟩ rfl (Nat.le_of_ble_eq_true rfl) dL_law_1029 ?_
  rintro r1 σ1 ⟨hr1, hok1, hno1, hq1⟩
  refine z_istore C dL_law_1032 (by decide) ?_
  dsimp only [List.set]
  refine z_aload_n C dL_law_1034 rfl ?_
  refine z_aload_n C dL_law_1035 rfl ?_
  refine z_iload C dL_law_1036 rfl ?_
  refine z_iconst C (v := 1) dL_law_1038 (by decide) ?_
  refine z_iadd C dL_law_1039 ?_
  refine z_sld C hX hbl hbA (hx _ (by decide) (by decide)) dL_law_1040 ?_
  refine z_cvi C (As := [_]) (c_X6_known (g := σ) (hR.1.meq hq1)) okX6_known wd770 rc_17 ⟨Nat.le_of_ble_eq_true rfl, Nat.le_of_ble_eq_true rfl⟩ ⟨Nat.le_trans (m := 500000) (by omega) room_c, Nat.le_trans (m := 5000000) (by omega) room_s⟩ rfl (Nat.le_of_ble_eq_true rfl) dL_law_1041 ?_
  rintro r2 σ2 ⟨hm, hr2⟩
  have hR2 : RelL σ2 := hR.step (fun _ => hR.2) ⟨fun h => (hok1 h).1, hno1⟩ hm
  refine z_istore C dL_law_1044 (by decide) ?_
  dsimp only [List.set]
  refine z_aload_n C dL_law_1046 rfl ?_
  refine z_cvi C (As := []) (c_X6_thrown) okX6_thrown wd644 rc_17 ⟨Nat.le_of_ble_eq_true rfl, Nat.le_of_ble_eq_true rfl⟩ ⟨Nat.le_trans (m := 500000) (by omega) room_c, Nat.le_trans (m := 5000000) (by omega) room_s⟩ rfl (Nat.le_of_ble_eq_true rfl) dL_law_1047 ?_
  rintro _ _ ⟨rfl, rfl⟩
  refine z_iload C dL_law_1050 rfl ?_
  refine z_icmp_eq C 1057 dL_law_1052 (by decide) (fun c_1052 => ?_) (fun c_1052 => ?_)
  rotate_left
  · exact absurd (hm.2.1.trans hr1.symm) c_1052
  refine z_iload C dL_law_1057 rfl ?_
  refine z_if_ne C 1074 dL_law_1059 (by decide) (fun c_1059 => ?_) (fun c_1059 => ?_)
  · refine z_goto C 1510 dL_law_1074 (by decide) ?_
    exact z_widen (mc := cells + 6) (ms := slots + 36) (by omega) (by omega) (kx σ2 _ _ hR2)
  · refine z_aload_n C dL_law_1062 rfl ?_
    refine z_iconst C (v := 0) dL_law_1063 (by decide) ?_
    refine z_lald C rfl dL_law_1064 ?_
    refine z_iload C dL_law_1065 rfl ?_
    refine z_i2l C dL_law_1067 ?_
    refine z_lcmp C dL_law_1068 ?_
    refine z_if_eq C 1074 dL_law_1069 (by decide) (fun c_1069 => ?_) (fun c_1069 => ?_)
    rotate_left
    · exact absurd ((lg_cmp_eq _ _).mpr (congrArg Int32.toInt64 ((hm.1 32 0 0 (Or.inr rfl)).trans ((hok1 (nI_z Kb_pupil hr1 c_1059)).2.trans (hr2 (nI_z Kb_pupil hr1 c_1059)).symm)))) c_1069
    refine z_goto C 1510 dL_law_1074 (by decide) ?_
    exact z_widen (mc := cells + 6) (ms := slots + 36) (by omega) (by omega) (kx σ2 _ _ hR2)
theorem okL_next : yL_next.cls ≠ "java/lang/invoke/MethodHandle" ∧ yL_next.cls ≠ "java/lang/invoke/VarHandle" ∧ (parseMethodDescriptor yL_next.desc).map (fun d => d.parameters.length) = some 3 := by decide +kernel
set_option maxRecDepth 100000 in
set_option maxHeartbeats 4000000 in
theorem law_c15 {p : Program} {l : Launch} {e : Env} {s : State} {m : MethodId} {args : Array Value} {below : List Frame} {meth : Method} {c : Code} {D : va_G} {ad : Nat → Nat → Nat} {cy : Nat → ClassId} {A : Nat → Prop} {sa : Nat → Nat} {cells slots : Nat} {Q : State → Prop} (C : Cx p l s m args meth c cL_law "FretSchoolLaw" 7 (some .boolean) D ad cy A sa) {b L : Nat} {xs : Nat → Int32} (hX : va_X b L xs s s.heap) (hbl : b < s.heap.size) (hbA : ¬ A b) {i : Int32} (hx : ∀ k : Int32, 1 ≤ k → k ≤ 5 → vp_in (i + k) L) (hc : cells + 6 ≤ 500000 ∧ slots + 36 ≤ 5000000) {σ : St} (hR : RelL σ) (kx : ∀ (σ' : St) (o5 o6 : Option Value), RelL σ' → Z p l e room_1 s m args below meth c D ad cy A 7 (cells + 6) (slots + 36) Q σ' [some (.ref b), some (.ref (ad 0 0)), some (.ref (ad 17 0)), some (.ref (ad 32 0)), some (.int i), o5, o6] 1510 []) {o5 o6 : Option Value} : Z p l e room_1 s m args below meth c D ad cy A 7 cells slots Q σ [some (.ref b), some (.ref (ad 0 0)), some (.ref (ad 17 0)), some (.ref (ad 32 0)), some (.int i), o5, o6] 1077 [] := by
  refine z_aload_n C dL_law_1077 rfl ?_
  refine z_aload_n C dL_law_1078 rfl ?_
  refine z_iload C dL_law_1079 rfl ?_
  refine z_iconst C (v := 1) dL_law_1081 (by decide) ?_
  refine z_iadd C dL_law_1082 ?_
  refine z_sld C hX hbl hbA (hx _ (by decide) (by decide)) dL_law_1083 ?_
  refine z_aload_n C dL_law_1084 rfl ?_
  refine z_csw C (As := [_, _, _]) (c_L_next hR.2) wd502 wd29 wd503 okL_next wd501 ⟨Nat.le_of_ble_eq_true rfl, Nat.le_of_ble_eq_true rfl⟩ ⟨Nat.le_trans (m := 500000) (by omega) room_c, Nat.le_trans (m := 5000000) (by omega) room_s⟩ rfl (Nat.le_of_ble_eq_true rfl) dL_law_1085 ?_
  rintro r1 σ1 ⟨hr1, hok1, hno1, hq1⟩
  refine z_istore C dL_law_1088 (by decide) ?_
  dsimp only [List.set]
  refine z_aload_n C dL_law_1090 rfl ?_
  refine z_aload_n C dL_law_1091 rfl ?_
  refine z_iload C dL_law_1092 rfl ?_
  refine z_iconst C (v := 1) dL_law_1094 (by decide) ?_
  refine z_iadd C dL_law_1095 ?_
  refine z_sld C hX hbl hbA (hx _ (by decide) (by decide)) dL_law_1096 ?_
  refine z_cvi C (As := [_]) (c_X6_next (g := σ) (hR.1.meq hq1) hR.2) okX6_next wd774 rc_17 ⟨Nat.le_of_ble_eq_true rfl, Nat.le_of_ble_eq_true rfl⟩ ⟨Nat.le_trans (m := 500000) (by omega) room_c, Nat.le_trans (m := 5000000) (by omega) room_s⟩ rfl (Nat.le_of_ble_eq_true rfl) dL_law_1097 ?_
  rintro r2 σ2 ⟨hm, hr2⟩
  have hR2 : RelL σ2 := hR.step (fun _ => hR.2) ⟨fun h => (hok1 h).1, hno1⟩ hm
  refine z_istore C dL_law_1100 (by decide) ?_
  dsimp only [List.set]
  refine z_aload_n C dL_law_1102 rfl ?_
  refine z_cvi C (As := []) (c_X6_thrown) okX6_thrown wd644 rc_17 ⟨Nat.le_of_ble_eq_true rfl, Nat.le_of_ble_eq_true rfl⟩ ⟨Nat.le_trans (m := 500000) (by omega) room_c, Nat.le_trans (m := 5000000) (by omega) room_s⟩ rfl (Nat.le_of_ble_eq_true rfl) dL_law_1103 ?_
  rintro _ _ ⟨rfl, rfl⟩
  refine z_iload C dL_law_1106 rfl ?_
  refine z_icmp_eq C 1113 dL_law_1108 (by decide) (fun c_1108 => ?_) (fun c_1108 => ?_)
  rotate_left
  · exact absurd (hm.2.1.trans hr1.symm) c_1108
  refine z_iload C dL_law_1113 rfl ?_
  refine z_if_ne C 1130 dL_law_1115 (by decide) (fun c_1115 => ?_) (fun c_1115 => ?_)
  · refine z_goto C 1510 dL_law_1130 (by decide) ?_
    exact z_widen (mc := cells + 6) (ms := slots + 36) (by omega) (by omega) (kx σ2 _ _ hR2)
  · refine z_aload_n C dL_law_1118 rfl ?_
    refine z_iconst C (v := 0) dL_law_1119 (by decide) ?_
    refine z_lald C rfl dL_law_1120 ?_
    refine z_iload C dL_law_1121 rfl ?_
    refine z_i2l C dL_law_1123 ?_
    refine z_lcmp C dL_law_1124 ?_
    refine z_if_eq C 1130 dL_law_1125 (by decide) (fun c_1125 => ?_) (fun c_1125 => ?_)
    rotate_left
    · exact absurd ((lg_cmp_eq _ _).mpr (congrArg Int32.toInt64 ((hm.1 32 0 0 (Or.inr rfl)).trans ((hok1 (nI_z Kb_pupil hr1 c_1115)).2.trans (hr2 (nI_z Kb_pupil hr1 c_1115)).symm)))) c_1125
    refine z_goto C 1510 dL_law_1130 (by decide) ?_
    exact z_widen (mc := cells + 6) (ms := slots + 36) (by omega) (by omega) (kx σ2 _ _ hR2)
theorem okL_addWood : yL_addWood.cls ≠ "java/lang/invoke/MethodHandle" ∧ yL_addWood.cls ≠ "java/lang/invoke/VarHandle" ∧ (parseMethodDescriptor yL_addWood.desc).map (fun d => d.parameters.length) = some 4 := by decide +kernel
set_option maxRecDepth 100000 in
set_option maxHeartbeats 4000000 in
theorem law_c16 {p : Program} {l : Launch} {e : Env} {s : State} {m : MethodId} {args : Array Value} {below : List Frame} {meth : Method} {c : Code} {D : va_G} {ad : Nat → Nat → Nat} {cy : Nat → ClassId} {A : Nat → Prop} {sa : Nat → Nat} {cells slots : Nat} {Q : State → Prop} (C : Cx p l s m args meth c cL_law "FretSchoolLaw" 7 (some .boolean) D ad cy A sa) {b L : Nat} {xs : Nat → Int32} (hX : va_X b L xs s s.heap) (hbl : b < s.heap.size) (hbA : ¬ A b) {i : Int32} (hx : ∀ k : Int32, 1 ≤ k → k ≤ 5 → vp_in (i + k) L) (hc : cells + 6 ≤ 500000 ∧ slots + 36 ≤ 5000000) {σ : St} (hR : RelL σ) (kx : ∀ (σ' : St) (o5 o6 : Option Value), RelL σ' → Z p l e room_1 s m args below meth c D ad cy A 7 (cells + 6) (slots + 36) Q σ' [some (.ref b), some (.ref (ad 0 0)), some (.ref (ad 17 0)), some (.ref (ad 32 0)), some (.int i), o5, o6] 1510 []) {o5 o6 : Option Value} : Z p l e room_1 s m args below meth c D ad cy A 7 cells slots Q σ [some (.ref b), some (.ref (ad 0 0)), some (.ref (ad 17 0)), some (.ref (ad 32 0)), some (.int i), o5, o6] 1133 [] := by
  refine z_aload_n C dL_law_1133 rfl ?_
  refine z_aload_n C dL_law_1134 rfl ?_
  refine z_iload C dL_law_1135 rfl ?_
  refine z_iconst C (v := 1) dL_law_1137 (by decide) ?_
  refine z_iadd C dL_law_1138 ?_
  refine z_sld C hX hbl hbA (hx _ (by decide) (by decide)) dL_law_1139 ?_
  refine z_aload_n C dL_law_1140 rfl ?_
  refine z_iload C dL_law_1141 rfl ?_
  refine z_iconst C (v := 2) dL_law_1143 (by decide) ?_
  refine z_iadd C dL_law_1144 ?_
  refine z_sld C hX hbl hbA (hx _ (by decide) (by decide)) dL_law_1145 ?_
  refine z_aload_n C dL_law_1146 rfl ?_
  refine z_csw C (As := [_, _, _, _]) (c_L_addWood) wd513 wd29 wd514 okL_addWood wd512 ⟨Nat.le_of_ble_eq_true rfl, Nat.le_of_ble_eq_true rfl⟩ ⟨Nat.le_trans (m := 500000) (by omega) room_c, Nat.le_trans (m := 5000000) (by omega) room_s⟩ rfl (Nat.le_of_ble_eq_true rfl) dL_law_1147 ?_
  rintro r1 σ1 ⟨hr1, hok1, hno1, hq1⟩
  refine z_istore C dL_law_1150 (by decide) ?_
  dsimp only [List.set]
  refine z_aload_n C dL_law_1152 rfl ?_
  refine z_aload_n C dL_law_1153 rfl ?_
  refine z_iload C dL_law_1154 rfl ?_
  refine z_iconst C (v := 1) dL_law_1156 (by decide) ?_
  refine z_iadd C dL_law_1157 ?_
  refine z_sld C hX hbl hbA (hx _ (by decide) (by decide)) dL_law_1158 ?_
  refine z_aload_n C dL_law_1159 rfl ?_
  refine z_iload C dL_law_1160 rfl ?_
  refine z_iconst C (v := 2) dL_law_1162 (by decide) ?_
  refine z_iadd C dL_law_1163 ?_
  refine z_sld C hX hbl hbA (hx _ (by decide) (by decide)) dL_law_1164 ?_
  refine z_cvi C (As := [_, _]) (c_X6_addWood (g := σ) (hR.1.meq hq1)) okX6_addWood wd778 rc_17 ⟨Nat.le_of_ble_eq_true rfl, Nat.le_of_ble_eq_true rfl⟩ ⟨Nat.le_trans (m := 500000) (by omega) room_c, Nat.le_trans (m := 5000000) (by omega) room_s⟩ rfl (Nat.le_of_ble_eq_true rfl) dL_law_1165 ?_
  rintro r2 σ2 ⟨hm, hr2⟩
  have hR2 : RelL σ2 := hR.step (fun _ => Inv_up (by omega) hR.2) ⟨fun h => (hok1 h).1, hno1⟩ hm
  refine z_istore C dL_law_1168 (by decide) ?_
  dsimp only [List.set]
  refine z_aload_n C dL_law_1170 rfl ?_
  refine z_cvi C (As := []) (c_X6_thrown) okX6_thrown wd644 rc_17 ⟨Nat.le_of_ble_eq_true rfl, Nat.le_of_ble_eq_true rfl⟩ ⟨Nat.le_trans (m := 500000) (by omega) room_c, Nat.le_trans (m := 5000000) (by omega) room_s⟩ rfl (Nat.le_of_ble_eq_true rfl) dL_law_1171 ?_
  rintro _ _ ⟨rfl, rfl⟩
  refine z_iload C dL_law_1174 rfl ?_
  refine z_icmp_eq C 1181 dL_law_1176 (by decide) (fun c_1176 => ?_) (fun c_1176 => ?_)
  rotate_left
  · exact absurd (hm.2.1.trans hr1.symm) c_1176
  refine z_iload C dL_law_1181 rfl ?_
  refine z_if_ne C 1198 dL_law_1183 (by decide) (fun c_1183 => ?_) (fun c_1183 => ?_)
  · refine z_goto C 1510 dL_law_1198 (by decide) ?_
    exact z_widen (mc := cells + 6) (ms := slots + 36) (by omega) (by omega) (kx σ2 _ _ hR2)
  · refine z_aload_n C dL_law_1186 rfl ?_
    refine z_iconst C (v := 0) dL_law_1187 (by decide) ?_
    refine z_lald C rfl dL_law_1188 ?_
    refine z_iload C dL_law_1189 rfl ?_
    refine z_i2l C dL_law_1191 ?_
    refine z_lcmp C dL_law_1192 ?_
    refine z_if_eq C 1198 dL_law_1193 (by decide) (fun c_1193 => ?_) (fun c_1193 => ?_)
    rotate_left
    · exact absurd ((lg_cmp_eq _ _).mpr (congrArg Int32.toInt64 ((hm.1 32 0 0 (Or.inr rfl)).trans ((hok1 (nI_z Kb_wood hr1 c_1183)).2.trans (hr2 (nI_z Kb_wood hr1 c_1183)).symm)))) c_1193
    refine z_goto C 1510 dL_law_1198 (by decide) ?_
    exact z_widen (mc := cells + 6) (ms := slots + 36) (by omega) (by omega) (kx σ2 _ _ hR2)
theorem okL_order : yL_order.cls ≠ "java/lang/invoke/MethodHandle" ∧ yL_order.cls ≠ "java/lang/invoke/VarHandle" ∧ (parseMethodDescriptor yL_order.desc).map (fun d => d.parameters.length) = some 5 := by decide +kernel
set_option maxRecDepth 100000 in
set_option maxHeartbeats 4000000 in
theorem law_c17 {p : Program} {l : Launch} {e : Env} {s : State} {m : MethodId} {args : Array Value} {below : List Frame} {meth : Method} {c : Code} {D : va_G} {ad : Nat → Nat → Nat} {cy : Nat → ClassId} {A : Nat → Prop} {sa : Nat → Nat} {cells slots : Nat} {Q : State → Prop} (C : Cx p l s m args meth c cL_law "FretSchoolLaw" 7 (some .boolean) D ad cy A sa) {b L : Nat} {xs : Nat → Int32} (hX : va_X b L xs s s.heap) (hbl : b < s.heap.size) (hbA : ¬ A b) {i : Int32} (hx : ∀ k : Int32, 1 ≤ k → k ≤ 5 → vp_in (i + k) L) (hc : cells + 6 ≤ 500000 ∧ slots + 36 ≤ 5000000) {σ : St} (hR : RelL σ) (kx : ∀ (σ' : St) (o5 o6 : Option Value), RelL σ' → Z p l e room_1 s m args below meth c D ad cy A 7 (cells + 6) (slots + 36) Q σ' [some (.ref b), some (.ref (ad 0 0)), some (.ref (ad 17 0)), some (.ref (ad 32 0)), some (.int i), o5, o6] 1510 []) {o5 o6 : Option Value} : Z p l e room_1 s m args below meth c D ad cy A 7 cells slots Q σ [some (.ref b), some (.ref (ad 0 0)), some (.ref (ad 17 0)), some (.ref (ad 32 0)), some (.int i), o5, o6] 1201 [] := by
  refine z_aload_n C dL_law_1201 rfl ?_
  refine z_aload_n C dL_law_1202 rfl ?_
  refine z_iload C dL_law_1203 rfl ?_
  refine z_iconst C (v := 1) dL_law_1205 (by decide) ?_
  refine z_iadd C dL_law_1206 ?_
  refine z_sld C hX hbl hbA (hx _ (by decide) (by decide)) dL_law_1207 ?_
  refine z_aload_n C dL_law_1208 rfl ?_
  refine z_iload C dL_law_1209 rfl ?_
  refine z_iconst C (v := 2) dL_law_1211 (by decide) ?_
  refine z_iadd C dL_law_1212 ?_
  refine z_sld C hX hbl hbA (hx _ (by decide) (by decide)) dL_law_1213 ?_
  refine z_aload_n C dL_law_1214 rfl ?_
  refine z_iload C dL_law_1215 rfl ?_
  refine z_iconst C (v := 3) dL_law_1217 (by decide) ?_
  refine z_iadd C dL_law_1218 ?_
  refine z_sld C hX hbl hbA (hx _ (by decide) (by decide)) dL_law_1219 ?_
  refine z_aload_n C dL_law_1220 rfl ?_
  refine z_csw C (As := [_, _, _, _, _]) (c_L_order hR.2) wd520 wd29 wd521 okL_order wd519 ⟨Nat.le_of_ble_eq_true rfl, Nat.le_of_ble_eq_true rfl⟩ ⟨Nat.le_trans (m := 500000) (by omega) room_c, Nat.le_trans (m := 5000000) (by omega) room_s⟩ rfl (Nat.le_of_ble_eq_true rfl) dL_law_1221 ?_
  rintro r1 σ1 ⟨hr1, hok1, hno1, hq1⟩
  refine z_istore C dL_law_1224 (by decide) ?_
  dsimp only [List.set]
  refine z_aload_n C dL_law_1226 rfl ?_
  refine z_aload_n C dL_law_1227 rfl ?_
  refine z_iload C dL_law_1228 rfl ?_
  refine z_iconst C (v := 1) dL_law_1230 (by decide) ?_
  refine z_iadd C dL_law_1231 ?_
  refine z_sld C hX hbl hbA (hx _ (by decide) (by decide)) dL_law_1232 ?_
  refine z_aload_n C dL_law_1233 rfl ?_
  refine z_iload C dL_law_1234 rfl ?_
  refine z_iconst C (v := 2) dL_law_1236 (by decide) ?_
  refine z_iadd C dL_law_1237 ?_
  refine z_sld C hX hbl hbA (hx _ (by decide) (by decide)) dL_law_1238 ?_
  refine z_aload_n C dL_law_1239 rfl ?_
  refine z_iload C dL_law_1240 rfl ?_
  refine z_iconst C (v := 3) dL_law_1242 (by decide) ?_
  refine z_iadd C dL_law_1243 ?_
  refine z_sld C hX hbl hbA (hx _ (by decide) (by decide)) dL_law_1244 ?_
  refine z_cvi C (As := [_, _, _]) (c_X6_order (g := σ) (hR.1.meq hq1) hR.2) okX6_order wd782 rc_17 ⟨Nat.le_of_ble_eq_true rfl, Nat.le_of_ble_eq_true rfl⟩ ⟨Nat.le_trans (m := 500000) (by omega) room_c, Nat.le_trans (m := 5000000) (by omega) room_s⟩ rfl (Nat.le_of_ble_eq_true rfl) dL_law_1245 ?_
  rintro r2 σ2 ⟨hm, hr2⟩
  have hR2 : RelL σ2 := hR.step (fun h => Inv_order hR.2 h) ⟨fun h => (hok1 h).1, hno1⟩ hm
  refine z_istore C dL_law_1248 (by decide) ?_
  dsimp only [List.set]
  refine z_aload_n C dL_law_1250 rfl ?_
  refine z_cvi C (As := []) (c_X6_thrown) okX6_thrown wd644 rc_17 ⟨Nat.le_of_ble_eq_true rfl, Nat.le_of_ble_eq_true rfl⟩ ⟨Nat.le_trans (m := 500000) (by omega) room_c, Nat.le_trans (m := 5000000) (by omega) room_s⟩ rfl (Nat.le_of_ble_eq_true rfl) dL_law_1251 ?_
  rintro _ _ ⟨rfl, rfl⟩
  refine z_iload C dL_law_1254 rfl ?_
  refine z_icmp_eq C 1261 dL_law_1256 (by decide) (fun c_1256 => ?_) (fun c_1256 => ?_)
  rotate_left
  · exact absurd (hm.2.1.trans hr1.symm) c_1256
  refine z_iload C dL_law_1261 rfl ?_
  refine z_if_ne C 1278 dL_law_1263 (by decide) (fun c_1263 => ?_) (fun c_1263 => ?_)
  · refine z_goto C 1510 dL_law_1278 (by decide) ?_
    exact z_widen (mc := cells + 6) (ms := slots + 36) (by omega) (by omega) (kx σ2 _ _ hR2)
  · refine z_aload_n C dL_law_1266 rfl ?_
    refine z_iconst C (v := 0) dL_law_1267 (by decide) ?_
    refine z_lald C rfl dL_law_1268 ?_
    refine z_iload C dL_law_1269 rfl ?_
    refine z_i2l C dL_law_1271 ?_
    refine z_lcmp C dL_law_1272 ?_
    refine z_if_eq C 1278 dL_law_1273 (by decide) (fun c_1273 => ?_) (fun c_1273 => ?_)
    rotate_left
    · exact absurd ((lg_cmp_eq _ _).mpr (congrArg Int32.toInt64 ((hm.1 32 0 0 (Or.inr rfl)).trans ((hok1 (nI_z Kb_order hr1 c_1263)).2.trans (hr2 (nI_z Kb_order hr1 c_1263)).symm)))) c_1273
    refine z_goto C 1510 dL_law_1278 (by decide) ?_
    exact z_widen (mc := cells + 6) (ms := slots + 36) (by omega) (by omega) (kx σ2 _ _ hR2)
theorem okL_ready : yL_ready.cls ≠ "java/lang/invoke/MethodHandle" ∧ yL_ready.cls ≠ "java/lang/invoke/VarHandle" ∧ (parseMethodDescriptor yL_ready.desc).map (fun d => d.parameters.length) = some 3 := by decide +kernel
set_option maxRecDepth 100000 in
set_option maxHeartbeats 4000000 in
theorem law_c18 {p : Program} {l : Launch} {e : Env} {s : State} {m : MethodId} {args : Array Value} {below : List Frame} {meth : Method} {c : Code} {D : va_G} {ad : Nat → Nat → Nat} {cy : Nat → ClassId} {A : Nat → Prop} {sa : Nat → Nat} {cells slots : Nat} {Q : State → Prop} (C : Cx p l s m args meth c cL_law "FretSchoolLaw" 7 (some .boolean) D ad cy A sa) {b L : Nat} {xs : Nat → Int32} (hX : va_X b L xs s s.heap) (hbl : b < s.heap.size) (hbA : ¬ A b) {i : Int32} (hx : ∀ k : Int32, 1 ≤ k → k ≤ 5 → vp_in (i + k) L) (hc : cells + 6 ≤ 500000 ∧ slots + 36 ≤ 5000000) {σ : St} (hR : RelL σ) (kx : ∀ (σ' : St) (o5 o6 : Option Value), RelL σ' → Z p l e room_1 s m args below meth c D ad cy A 7 (cells + 6) (slots + 36) Q σ' [some (.ref b), some (.ref (ad 0 0)), some (.ref (ad 17 0)), some (.ref (ad 32 0)), some (.int i), o5, o6] 1510 []) {o5 o6 : Option Value} : Z p l e room_1 s m args below meth c D ad cy A 7 cells slots Q σ [some (.ref b), some (.ref (ad 0 0)), some (.ref (ad 17 0)), some (.ref (ad 32 0)), some (.int i), o5, o6] 1281 [] := by
  refine z_aload_n C dL_law_1281 rfl ?_
  refine z_aload_n C dL_law_1282 rfl ?_
  refine z_iload C dL_law_1283 rfl ?_
  refine z_iconst C (v := 1) dL_law_1285 (by decide) ?_
  refine z_iadd C dL_law_1286 ?_
  refine z_sld C hX hbl hbA (hx _ (by decide) (by decide)) dL_law_1287 ?_
  refine z_aload_n C dL_law_1288 rfl ?_
  refine z_csw C (As := [_, _, _]) (c_L_ready hR.2) wd542 wd29 wd543 okL_ready wd541 ⟨Nat.le_of_ble_eq_true rfl, Nat.le_of_ble_eq_true rfl⟩ ⟨Nat.le_trans (m := 500000) (by omega) room_c, Nat.le_trans (m := 5000000) (by omega) room_s⟩ rfl (Nat.le_of_ble_eq_true rfl) dL_law_1289 ?_
  rintro r1 σ1 ⟨hr1, hok1, hno1, hq1⟩
  refine z_istore C dL_law_1292 (by decide) ?_
  dsimp only [List.set]
  refine z_aload_n C dL_law_1294 rfl ?_
  refine z_aload_n C dL_law_1295 rfl ?_
  refine z_iload C dL_law_1296 rfl ?_
  refine z_iconst C (v := 1) dL_law_1298 (by decide) ?_
  refine z_iadd C dL_law_1299 ?_
  refine z_sld C hX hbl hbA (hx _ (by decide) (by decide)) dL_law_1300 ?_
  refine z_cvi C (As := [_]) (c_X6_ready (g := σ) (hR.1.meq hq1) hR.2) okX6_ready wd790 rc_17 ⟨Nat.le_of_ble_eq_true rfl, Nat.le_of_ble_eq_true rfl⟩ ⟨Nat.le_trans (m := 500000) (by omega) room_c, Nat.le_trans (m := 5000000) (by omega) room_s⟩ rfl (Nat.le_of_ble_eq_true rfl) dL_law_1301 ?_
  rintro r2 σ2 ⟨hm, hr2⟩
  have hR2 : RelL σ2 := hR.step (fun _ => hR.2) ⟨fun h => (hok1 h).1, hno1⟩ hm
  refine z_istore C dL_law_1304 (by decide) ?_
  dsimp only [List.set]
  refine z_aload_n C dL_law_1306 rfl ?_
  refine z_cvi C (As := []) (c_X6_thrown) okX6_thrown wd644 rc_17 ⟨Nat.le_of_ble_eq_true rfl, Nat.le_of_ble_eq_true rfl⟩ ⟨Nat.le_trans (m := 500000) (by omega) room_c, Nat.le_trans (m := 5000000) (by omega) room_s⟩ rfl (Nat.le_of_ble_eq_true rfl) dL_law_1307 ?_
  rintro _ _ ⟨rfl, rfl⟩
  refine z_iload C dL_law_1310 rfl ?_
  refine z_icmp_eq C 1317 dL_law_1312 (by decide) (fun c_1312 => ?_) (fun c_1312 => ?_)
  rotate_left
  · exact absurd (hm.2.1.trans hr1.symm) c_1312
  refine z_iload C dL_law_1317 rfl ?_
  refine z_if_ne C 1334 dL_law_1319 (by decide) (fun c_1319 => ?_) (fun c_1319 => ?_)
  · refine z_goto C 1510 dL_law_1334 (by decide) ?_
    exact z_widen (mc := cells + 6) (ms := slots + 36) (by omega) (by omega) (kx σ2 _ _ hR2)
  · refine z_aload_n C dL_law_1322 rfl ?_
    refine z_iconst C (v := 0) dL_law_1323 (by decide) ?_
    refine z_lald C rfl dL_law_1324 ?_
    refine z_iload C dL_law_1325 rfl ?_
    refine z_i2l C dL_law_1327 ?_
    refine z_lcmp C dL_law_1328 ?_
    refine z_if_eq C 1334 dL_law_1329 (by decide) (fun c_1329 => ?_) (fun c_1329 => ?_)
    rotate_left
    · exact absurd ((lg_cmp_eq _ _).mpr (congrArg Int32.toInt64 ((hm.1 32 0 0 (Or.inr rfl)).trans ((hok1 (nI_z Kb_ready hr1 c_1319)).2.trans (hr2 (nI_z Kb_ready hr1 c_1319)).symm)))) c_1329
    refine z_goto C 1510 dL_law_1334 (by decide) ?_
    exact z_widen (mc := cells + 6) (ms := slots + 36) (by omega) (by omega) (kx σ2 _ _ hR2)
theorem okL_fetch : yL_fetch.cls ≠ "java/lang/invoke/MethodHandle" ∧ yL_fetch.cls ≠ "java/lang/invoke/VarHandle" ∧ (parseMethodDescriptor yL_fetch.desc).map (fun d => d.parameters.length) = some 7 := by decide +kernel
set_option maxRecDepth 100000 in
set_option maxHeartbeats 4000000 in
theorem law_c19 {p : Program} {l : Launch} {e : Env} {s : State} {m : MethodId} {args : Array Value} {below : List Frame} {meth : Method} {c : Code} {D : va_G} {ad : Nat → Nat → Nat} {cy : Nat → ClassId} {A : Nat → Prop} {sa : Nat → Nat} {cells slots : Nat} {Q : State → Prop} (C : Cx p l s m args meth c cL_law "FretSchoolLaw" 7 (some .boolean) D ad cy A sa) {b L : Nat} {xs : Nat → Int32} (hX : va_X b L xs s s.heap) (hbl : b < s.heap.size) (hbA : ¬ A b) {i : Int32} (hx : ∀ k : Int32, 1 ≤ k → k ≤ 5 → vp_in (i + k) L) (hc : cells + 6 ≤ 500000 ∧ slots + 36 ≤ 5000000) {σ : St} (hR : RelL σ) (kx : ∀ (σ' : St) (o5 o6 : Option Value), RelL σ' → Z p l e room_1 s m args below meth c D ad cy A 7 (cells + 6) (slots + 36) Q σ' [some (.ref b), some (.ref (ad 0 0)), some (.ref (ad 17 0)), some (.ref (ad 32 0)), some (.int i), o5, o6] 1510 []) {o5 o6 : Option Value} : Z p l e room_1 s m args below meth c D ad cy A 7 cells slots Q σ [some (.ref b), some (.ref (ad 0 0)), some (.ref (ad 17 0)), some (.ref (ad 32 0)), some (.int i), o5, o6] 1337 [] := by
  refine z_aload_n C dL_law_1337 rfl ?_
  refine z_aload_n C dL_law_1338 rfl ?_
  refine z_iload C dL_law_1339 rfl ?_
  refine z_iconst C (v := 1) dL_law_1341 (by decide) ?_
  refine z_iadd C dL_law_1342 ?_
  refine z_sld C hX hbl hbA (hx _ (by decide) (by decide)) dL_law_1343 ?_
  refine z_aload_n C dL_law_1344 rfl ?_
  refine z_iload C dL_law_1345 rfl ?_
  refine z_iconst C (v := 2) dL_law_1347 (by decide) ?_
  refine z_iadd C dL_law_1348 ?_
  refine z_sld C hX hbl hbA (hx _ (by decide) (by decide)) dL_law_1349 ?_
  refine z_aload_n C dL_law_1350 rfl ?_
  refine z_iload C dL_law_1351 rfl ?_
  refine z_iconst C (v := 3) dL_law_1353 (by decide) ?_
  refine z_iadd C dL_law_1354 ?_
  refine z_sld C hX hbl hbA (hx _ (by decide) (by decide)) dL_law_1355 ?_
  refine z_aload_n C dL_law_1356 rfl ?_
  refine z_iload C dL_law_1357 rfl ?_
  refine z_iconst C (v := 4) dL_law_1359 (by decide) ?_
  refine z_iadd C dL_law_1360 ?_
  refine z_sld C hX hbl hbA (hx _ (by decide) (by decide)) dL_law_1361 ?_
  refine z_aload_n C dL_law_1362 rfl ?_
  refine z_iload C dL_law_1363 rfl ?_
  refine z_iconst C (v := 5) dL_law_1365 (by decide) ?_
  refine z_iadd C dL_law_1366 ?_
  refine z_sld C hX hbl hbA (hx _ (by decide) (by decide)) dL_law_1367 ?_
  refine z_aload_n C dL_law_1368 rfl ?_
  refine z_csw C (As := [_, _, _, _, _, _, _]) (c_L_fetch hR.2) wd554 wd29 wd555 okL_fetch wd553 ⟨Nat.le_of_ble_eq_true rfl, Nat.le_of_ble_eq_true rfl⟩ ⟨Nat.le_trans (m := 500000) (by omega) room_c, Nat.le_trans (m := 5000000) (by omega) room_s⟩ rfl (Nat.le_of_ble_eq_true rfl) dL_law_1369 ?_
  rintro r1 σ1 ⟨hr1, hok1, hno1, hq1⟩
  refine z_istore C dL_law_1372 (by decide) ?_
  dsimp only [List.set]
  refine z_aload_n C dL_law_1374 rfl ?_
  refine z_aload_n C dL_law_1375 rfl ?_
  refine z_iload C dL_law_1376 rfl ?_
  refine z_iconst C (v := 1) dL_law_1378 (by decide) ?_
  refine z_iadd C dL_law_1379 ?_
  refine z_sld C hX hbl hbA (hx _ (by decide) (by decide)) dL_law_1380 ?_
  refine z_aload_n C dL_law_1381 rfl ?_
  refine z_iload C dL_law_1382 rfl ?_
  refine z_iconst C (v := 2) dL_law_1384 (by decide) ?_
  refine z_iadd C dL_law_1385 ?_
  refine z_sld C hX hbl hbA (hx _ (by decide) (by decide)) dL_law_1386 ?_
  refine z_aload_n C dL_law_1387 rfl ?_
  refine z_iload C dL_law_1388 rfl ?_
  refine z_iconst C (v := 3) dL_law_1390 (by decide) ?_
  refine z_iadd C dL_law_1391 ?_
  refine z_sld C hX hbl hbA (hx _ (by decide) (by decide)) dL_law_1392 ?_
  refine z_aload_n C dL_law_1393 rfl ?_
  refine z_iload C dL_law_1394 rfl ?_
  refine z_iconst C (v := 4) dL_law_1396 (by decide) ?_
  refine z_iadd C dL_law_1397 ?_
  refine z_sld C hX hbl hbA (hx _ (by decide) (by decide)) dL_law_1398 ?_
  refine z_aload_n C dL_law_1399 rfl ?_
  refine z_iload C dL_law_1400 rfl ?_
  refine z_iconst C (v := 5) dL_law_1402 (by decide) ?_
  refine z_iadd C dL_law_1403 ?_
  refine z_sld C hX hbl hbA (hx _ (by decide) (by decide)) dL_law_1404 ?_
  refine z_cvi C (As := [_, _, _, _, _]) (c_X6_fetch (g := σ) (hR.1.meq hq1) hR.2) okX6_fetch wd798 rc_17 ⟨Nat.le_of_ble_eq_true rfl, Nat.le_of_ble_eq_true rfl⟩ ⟨Nat.le_trans (m := 500000) (by omega) room_c, Nat.le_trans (m := 5000000) (by omega) room_s⟩ rfl (Nat.le_of_ble_eq_true rfl) dL_law_1405 ?_
  rintro r2 σ2 ⟨hm, hr2⟩
  have hR2 : RelL σ2 := hR.step (fun h => Inv_fetch hR.2 h) ⟨fun h => (hok1 h).1, hno1⟩ hm
  refine z_istore C dL_law_1408 (by decide) ?_
  dsimp only [List.set]
  refine z_aload_n C dL_law_1410 rfl ?_
  refine z_cvi C (As := []) (c_X6_thrown) okX6_thrown wd644 rc_17 ⟨Nat.le_of_ble_eq_true rfl, Nat.le_of_ble_eq_true rfl⟩ ⟨Nat.le_trans (m := 500000) (by omega) room_c, Nat.le_trans (m := 5000000) (by omega) room_s⟩ rfl (Nat.le_of_ble_eq_true rfl) dL_law_1411 ?_
  rintro _ _ ⟨rfl, rfl⟩
  refine z_iload C dL_law_1414 rfl ?_
  refine z_icmp_eq C 1421 dL_law_1416 (by decide) (fun c_1416 => ?_) (fun c_1416 => ?_)
  rotate_left
  · exact absurd (hm.2.1.trans hr1.symm) c_1416
  refine z_iload C dL_law_1421 rfl ?_
  refine z_if_ne C 1438 dL_law_1423 (by decide) (fun c_1423 => ?_) (fun c_1423 => ?_)
  · refine z_goto C 1510 dL_law_1438 (by decide) ?_
    exact z_widen (mc := cells + 6) (ms := slots + 36) (by omega) (by omega) (kx σ2 _ _ hR2)
  · refine z_aload_n C dL_law_1426 rfl ?_
    refine z_iconst C (v := 0) dL_law_1427 (by decide) ?_
    refine z_lald C rfl dL_law_1428 ?_
    refine z_iload C dL_law_1429 rfl ?_
    refine z_i2l C dL_law_1431 ?_
    refine z_lcmp C dL_law_1432 ?_
    refine z_if_eq C 1438 dL_law_1433 (by decide) (fun c_1433 => ?_) (fun c_1433 => ?_)
    rotate_left
    · exact absurd ((lg_cmp_eq _ _).mpr (congrArg Int32.toInt64 ((hm.1 32 0 0 (Or.inr rfl)).trans ((hok1 (nI_z Kb_fetch hr1 c_1423)).2.trans (hr2 (nI_z Kb_fetch hr1 c_1423)).symm)))) c_1433
    refine z_goto C 1510 dL_law_1438 (by decide) ?_
    exact z_widen (mc := cells + 6) (ms := slots + 36) (by omega) (by omega) (kx σ2 _ _ hR2)
theorem okL_pass : yL_pass.cls ≠ "java/lang/invoke/MethodHandle" ∧ yL_pass.cls ≠ "java/lang/invoke/VarHandle" ∧ (parseMethodDescriptor yL_pass.desc).map (fun d => d.parameters.length) = some 3 := by decide +kernel
set_option maxRecDepth 100000 in
set_option maxHeartbeats 4000000 in
theorem law_c20 {p : Program} {l : Launch} {e : Env} {s : State} {m : MethodId} {args : Array Value} {below : List Frame} {meth : Method} {c : Code} {D : va_G} {ad : Nat → Nat → Nat} {cy : Nat → ClassId} {A : Nat → Prop} {sa : Nat → Nat} {cells slots : Nat} {Q : State → Prop} (C : Cx p l s m args meth c cL_law "FretSchoolLaw" 7 (some .boolean) D ad cy A sa) {b L : Nat} {xs : Nat → Int32} (hX : va_X b L xs s s.heap) (hbl : b < s.heap.size) (hbA : ¬ A b) {i : Int32} (hx : ∀ k : Int32, 1 ≤ k → k ≤ 5 → vp_in (i + k) L) (hc : cells + 6 ≤ 500000 ∧ slots + 36 ≤ 5000000) {σ : St} (hR : RelL σ) (kx : ∀ (σ' : St) (o5 o6 : Option Value), RelL σ' → Z p l e room_1 s m args below meth c D ad cy A 7 (cells + 6) (slots + 36) Q σ' [some (.ref b), some (.ref (ad 0 0)), some (.ref (ad 17 0)), some (.ref (ad 32 0)), some (.int i), o5, o6] 1510 []) {o5 o6 : Option Value} : Z p l e room_1 s m args below meth c D ad cy A 7 cells slots Q σ [some (.ref b), some (.ref (ad 0 0)), some (.ref (ad 17 0)), some (.ref (ad 32 0)), some (.int i), o5, o6] 1441 [] := by
  refine z_aload_n C dL_law_1441 rfl ?_
  refine z_aload_n C dL_law_1442 rfl ?_
  refine z_iload C dL_law_1443 rfl ?_
  refine z_iconst C (v := 1) dL_law_1445 (by decide) ?_
  refine z_iadd C dL_law_1446 ?_
  refine z_sld C hX hbl hbA (hx _ (by decide) (by decide)) dL_law_1447 ?_
  refine z_aload_n C dL_law_1448 rfl ?_
  refine z_csw C (As := [_, _, _]) (c_L_pass) wd572 wd29 wd573 okL_pass wd571 ⟨Nat.le_of_ble_eq_true rfl, Nat.le_of_ble_eq_true rfl⟩ ⟨Nat.le_trans (m := 500000) (by omega) room_c, Nat.le_trans (m := 5000000) (by omega) room_s⟩ rfl (Nat.le_of_ble_eq_true rfl) dL_law_1449 ?_
  rintro r1 σ1 ⟨hr1, hok1, hno1, hq1⟩
  refine z_istore C dL_law_1452 (by decide) ?_
  dsimp only [List.set]
  refine z_aload_n C dL_law_1454 rfl ?_
  refine z_aload_n C dL_law_1455 rfl ?_
  refine z_iload C dL_law_1456 rfl ?_
  refine z_iconst C (v := 1) dL_law_1458 (by decide) ?_
  refine z_iadd C dL_law_1459 ?_
  refine z_sld C hX hbl hbA (hx _ (by decide) (by decide)) dL_law_1460 ?_
  refine z_cvi C (As := [_]) (c_X6_pass (g := σ) (hR.1.meq hq1)) okX6_pass wd805 rc_17 ⟨Nat.le_of_ble_eq_true rfl, Nat.le_of_ble_eq_true rfl⟩ ⟨Nat.le_trans (m := 500000) (by omega) room_c, Nat.le_trans (m := 5000000) (by omega) room_s⟩ rfl (Nat.le_of_ble_eq_true rfl) dL_law_1461 ?_
  rintro r2 σ2 ⟨hm, hr2⟩
  have hR2 : RelL σ2 := hR.step (fun _ => Inv_up (by omega) hR.2) ⟨fun h => (hok1 h).1, hno1⟩ hm
  refine z_istore C dL_law_1464 (by decide) ?_
  dsimp only [List.set]
  refine z_aload_n C dL_law_1466 rfl ?_
  refine z_cvi C (As := []) (c_X6_thrown) okX6_thrown wd644 rc_17 ⟨Nat.le_of_ble_eq_true rfl, Nat.le_of_ble_eq_true rfl⟩ ⟨Nat.le_trans (m := 500000) (by omega) room_c, Nat.le_trans (m := 5000000) (by omega) room_s⟩ rfl (Nat.le_of_ble_eq_true rfl) dL_law_1467 ?_
  rintro _ _ ⟨rfl, rfl⟩
  refine z_iload C dL_law_1470 rfl ?_
  refine z_icmp_eq C 1477 dL_law_1472 (by decide) (fun c_1472 => ?_) (fun c_1472 => ?_)
  rotate_left
  · exact absurd (hm.2.1.trans hr1.symm) c_1472
  refine z_iload C dL_law_1477 rfl ?_
  refine z_if_ne C 1494 dL_law_1479 (by decide) (fun c_1479 => ?_) (fun c_1479 => ?_)
  · refine z_goto C 1510 dL_law_1494 (by decide) ?_
    exact z_widen (mc := cells + 6) (ms := slots + 36) (by omega) (by omega) (kx σ2 _ _ hR2)
  · refine z_aload_n C dL_law_1482 rfl ?_
    refine z_iconst C (v := 0) dL_law_1483 (by decide) ?_
    refine z_lald C rfl dL_law_1484 ?_
    refine z_iload C dL_law_1485 rfl ?_
    refine z_i2l C dL_law_1487 ?_
    refine z_lcmp C dL_law_1488 ?_
    refine z_if_eq C 1494 dL_law_1489 (by decide) (fun c_1489 => ?_) (fun c_1489 => ?_)
    rotate_left
    · exact absurd ((lg_cmp_eq _ _).mpr (congrArg Int32.toInt64 ((hm.1 32 0 0 (Or.inr rfl)).trans ((hok1 (nI_z Kb_pass hr1 c_1479)).2.trans (hr2 (nI_z Kb_pass hr1 c_1479)).symm)))) c_1489
    refine z_goto C 1510 dL_law_1494 (by decide) ?_
    exact z_widen (mc := cells + 6) (ms := slots + 36) (by omega) (by omega) (kx σ2 _ _ hR2)
set_option maxRecDepth 100000 in
set_option maxHeartbeats 4000000 in
theorem law_c21 {p : Program} {l : Launch} {e : Env} {s : State} {m : MethodId} {args : Array Value} {below : List Frame} {meth : Method} {c : Code} {D : va_G} {ad : Nat → Nat → Nat} {cy : Nat → ClassId} {A : Nat → Prop} {sa : Nat → Nat} {cells slots : Nat} {Q : State → Prop} (C : Cx p l s m args meth c cL_law "FretSchoolLaw" 7 (some .boolean) D ad cy A sa) {b L : Nat} {xs : Nat → Int32} (hX : va_X b L xs s s.heap) (hbl : b < s.heap.size) (hbA : ¬ A b) {i : Int32} (hx : ∀ k : Int32, 1 ≤ k → k ≤ 5 → vp_in (i + k) L) (hc : cells + 6 ≤ 500000 ∧ slots + 36 ≤ 5000000) {σ : St} (hR : RelL σ) (kx : ∀ (σ' : St) (o5 o6 : Option Value), RelL σ' → Z p l e room_1 s m args below meth c D ad cy A 7 (cells + 6) (slots + 36) Q σ' [some (.ref b), some (.ref (ad 0 0)), some (.ref (ad 17 0)), some (.ref (ad 32 0)), some (.int i), o5, o6] 1510 []) {o5 o6 : Option Value} : Z p l e room_1 s m args below meth c D ad cy A 7 cells slots Q σ [some (.ref b), some (.ref (ad 0 0)), some (.ref (ad 17 0)), some (.ref (ad 32 0)), some (.int i), o5, o6] 1497 [] := by
  refine z_aload_n C dL_law_1497 rfl ?_
  refine z_cvi C (As := []) (c_X5_today) okX5_today wd192 rc_0 ⟨Nat.le_of_ble_eq_true rfl, Nat.le_of_ble_eq_true rfl⟩ ⟨Nat.le_trans (m := 500000) (by omega) room_c, Nat.le_trans (m := 5000000) (by omega) room_s⟩ rfl (Nat.le_of_ble_eq_true rfl) dL_law_1498 ?_
  rintro _ _ ⟨rfl, rfl⟩
  refine z_aload_n C dL_law_1501 rfl ?_
  refine z_cvi C (As := []) (c_X6_today (g := σ) hR.1) okX6_today wd809 rc_17 ⟨Nat.le_of_ble_eq_true rfl, Nat.le_of_ble_eq_true rfl⟩ ⟨Nat.le_trans (m := 500000) (by omega) room_c, Nat.le_trans (m := 5000000) (by omega) room_s⟩ rfl (Nat.le_of_ble_eq_true rfl) dL_law_1502 ?_
  rintro _ σ2 ⟨rfl, hm⟩
  have hR2 : RelL σ2 := hR.step (K := 0) (fun _ => hR.2) ⟨fun _ => CEq.rf, fun _ => CEq.rf⟩ hm
  refine z_icmp_eq C 1510 dL_law_1505 (by decide) (fun c_1505 => ?_) (fun c_1505 => ?_)
  rotate_left
  · exact absurd rfl c_1505
  exact z_widen (mc := cells + 6) (ms := slots + 36) (by omega) (by omega) (kx σ2 _ _ hR2)
