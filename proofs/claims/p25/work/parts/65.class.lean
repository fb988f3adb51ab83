/-! ===== the class's constructor ===== -/
theorem va_D_iff {A : Nat → Prop} {ws : va_W} : va_D A ws ↔ (ws.map (·.1)).Nodup ∧ ∀ x ∈ ws, A x.1 := by
  constructor
  · intro h
    refine ⟨List.pairwise_iff_getElem.mpr fun i j hi hj hij e => ?_, fun x hx => ?_⟩
    · rw [List.length_map] at hi hj
      rw [List.getElem_map, List.getElem_map] at e
      exact absurd (h.1 i j _ _ (List.getElem?_eq_getElem hi) (List.getElem?_eq_getElem hj) e) (by omega)
    · obtain ⟨k, hk⟩ := List.getElem?_of_mem hx
      exact h.2 k x hk
  · intro h
    refine ⟨fun i j p q hi hj e => ?_, fun k q hk => h.2 q (List.mem_of_getElem? hk)⟩
    have h1 : (ws.map (·.1))[i]? = some p.1 := by rw [List.getElem?_map, hi]; rfl
    have h2 : (ws.map (·.1))[j]? = some q.1 := by rw [List.getElem?_map, hj]; rfl
    exact (List.getElem?_inj (List.getElem?_eq_some_iff.mp h1).1 h.1).mp (h1.trans (by rw [e]; exact h2.symm))
theorem va_P_mem {D : va_G} {cl : List vw_C} {ws ws' : va_W} {H : Heap} (h : va_P D cl ws H) (hs : ∀ x ∈ ws', x ∈ ws) : va_P D cl ws' H := fun k q hk => by
  obtain ⟨j, hj⟩ := List.getElem?_of_mem (hs q (List.mem_of_getElem? hk))
  exact h j q hj
theorem va_D_perm {A : Nat → Prop} {ws ws' : va_W} (h : va_D A ws) (hp : ws.Perm ws') : va_D A ws' := by
  rw [va_D_iff] at h ⊢
  exact ⟨(hp.map _).nodup_iff.mp h.1, fun x hx => h.2 x (hp.mem_iff.mpr hx)⟩
theorem b_permP {p : Program} {l : Launch} {e : Env} {R : Room} {s : State} {m : MethodId} {args : Array Value} {below : List Frame} {meth : Method} {c : Code} {D : va_G} {A : Nat → Prop} {nL cells slots : Nat} {Q : State → Prop} {ws ws' : va_W} {L : List (Option Value)} {pc : Nat} {st : List Value} (h : ws.Perm ws') (k : ZB p l e R s m args below meth c D A nL cells slots Q ws' L pc st) : ZB p l e R s m args below meth c D A nL cells slots Q ws L pc st :=
  fun H locs ls hP hD hS hl => k H locs ls (va_P_mem hP (fun x hx => h.mem_iff.mpr hx)) (va_D_perm hD h) hS hl
theorem b_move {p : Program} {l : Launch} {e : Env} {R : Room} {s : State} {m : MethodId} {args : Array Value} {below : List Frame} {meth : Method} {c : Code} {D : va_G} {A : Nat → Prop} {nL cells slots : Nat} {Q : State → Prop} {x y : Nat × va_E} {rest : va_W} {L : List (Option Value)} {pc : Nat} {st : List Value} (k : ZB p l e R s m args below meth c D A nL cells slots Q (x :: y :: rest) L pc st) : ZB p l e R s m args below meth c D A nL cells slots Q ((x :: rest) ++ [y]) L pc st :=
  b_permP (List.Perm.cons x (List.perm_append_comm (l₁ := rest) (l₂ := [y]))) k
theorem qf_0 {a : Nat → Nat} : (fun _ => none) = qf a 0 := by
  funext j
  unfold qf
  rw [if_neg (Nat.not_lt_zero _)]
theorem fl_0 {U : Nat → Nat → va_W} {a b : Nat → Nat} {rest : va_W} : rest = rest ++ fl U a b 0 := (List.append_nil rest).symm
def mkHand (cy : Nat → ClassId) (b : Nat) : va_W → Prop := fun u => ∃ q0 : Nat, ∃ q1 : Nat, ∃ q2 : Nat, ∃ r : Nat → Nat, u = (b, .inr (0, [.ref q0, .ref q1, .ref q2, .int 0, .int 0])) :: (q0, .inl (cy 0, 16, .inl (fun _ => 0))) :: (q1, qref 16 (cy 7) (fun i => if i < 16 then some (r i) else none)) :: (List.map (fun i => (r i, .inl (cy 0, 14, .inl (fun _ => 0)))) (List.range 16) ++ [(q2, .inl (cy 0, 16, .inl (fun _ => 0)))])
def mkClass (cy : Nat → ClassId) (b : Nat) : va_W → Prop := fun w => ∃ (q1 q2 q3 q4 q5 q6 : Nat) (u : va_W) (a1 b1 a2 b2 a3 b3 a4 b4 : Nat → Nat), mkHand cy q6 u ∧ w = (b, (.inr (5, [.ref q1, .ref q2, .ref q3, .ref q4, .ref q5, .ref q6, .int 0, .int 0, .int 0, .int 0]) : va_E)) :: (((q5, .inl (cy 0, 4, .inl (fun _ => 0))) :: ((q4, qref 20 (cy 6) (qf a4 20)) :: (((q3, qref 5 (cy 5) (qf a3 5)) :: (((q2, qref 8 (cy 4) (qf a2 8)) :: (((q1, qref 8 (cy 3) (qf a1 8)) :: ([] ++ fl (U_X3 cy) a1 b1 8)) ++ fl (U_X1 cy) a2 b2 8)) ++ fl (U_X4 cy) a3 b3 5)) ++ fl (U_X2 cy) a4 b4 20))) ++ u)
set_option maxRecDepth 100000 in
set_option maxHeartbeats 4000000 in
theorem k_X5 {l : Launch} {D : va_G} {cy : Nat → ClassId} (b sz : Nat) : MC l D cy yX5_init cX5_init 2 2 82 612 [(b, .inr (5, [.null, .null, .null, .null, .null, .null, .int 0, .int 0, .int 0, .int 0]))] sz b (mkClass cy b) := by
  refine MC.mk "FretSchool" (by decide) rfl (Nat.le_of_ble_eq_true rfl) rfl ?_
  intro p e s m args below meth c A hAe C hni
  change ZB _ _ _ _ _ _ _ _ _ _ _ _ _ _ _ _ _ [some (.ref b), none] 0 []
  refine b_aload_n C dX5_init_0 rfl ?_
  refine b_obj C ⟨Nat.le_of_ble_eq_true rfl, Nat.le_of_ble_eq_true rfl⟩ wd32 dX5_init_1 ?_
  refine b_aload_n C dX5_init_4 rfl ?_
  refine b_bipush C (v := 8) dX5_init_5 (by decide) ?_
  refine b_anew C 3 rfl (List.mem_of_getElem? (i := 0) rfl) wd35 (N' := 8) (by decide) (by decide) (by decide) ⟨Nat.le_of_ble_eq_true rfl, Nat.le_of_ble_eq_true rfl⟩ dX5_init_7 (fun q1 => ?_)
  refine b_move ?_
  refine b_putF C hni 0 0 rfl rfl (by decide) inB5 tyX5_ok nmX5 wd140 rfl rfl rfl rfl rfl (Nat.le_of_ble_eq_true rfl) dX5_init_10 ?_
  refine b_iconst C (v := nI 0) dX5_init_13 (by decide) ?_
  refine b_istore_n C dX5_init_14 (by decide) ?_
  refine b_eq (ws' := (b, (.inr (5, [.ref q1, .null, .null, .null, .null, .null, .int 0, .int 0, .int 0, .int 0]) : va_E)) :: (q1, qref 8 (cy 3) (qf (fun _ => 0) 0)) :: ([] ++ fl (U_X3 cy) (fun _ => 0) (fun _ => 0) 0)) (by rw [← qf_0, ← fl_0]; rfl) ?_
  refine b_widen (mc := 1 + 0 * 2) (ms := 8 + 0 * 18) (by decide) (by decide) ?_
  refine fill_X3 (cells := 1) (slots := 8) C rfl ⟨Nat.le_of_ble_eq_true rfl, Nat.le_of_ble_eq_true rfl⟩ ⟨Nat.le_of_ble_eq_true rfl, Nat.le_of_ble_eq_true rfl⟩ (fun a1 b1 v1 => ?_) 8 0 rfl (fun _ => 0) (fun _ => 0)
  refine b_widen (mc := 17) (ms := 152) (by decide) (by decide) ?_
  refine b_aload_n C dX5_init_40 rfl ?_
  refine b_bipush C (v := 8) dX5_init_41 (by decide) ?_
  refine b_anew C 4 rfl (List.mem_of_getElem? (i := 1) rfl) wd54 (N' := 8) (by decide) (by decide) (by decide) ⟨Nat.le_of_ble_eq_true rfl, Nat.le_of_ble_eq_true rfl⟩ dX5_init_43 (fun q2 => ?_)
  refine b_move ?_
  refine b_putF C hni 0 1 rfl rfl (by decide) inB5 tyX5_ok nmX5 wd141 rfl rfl rfl rfl rfl (Nat.le_of_ble_eq_true rfl) dX5_init_46 ?_
  refine b_iconst C (v := nI 0) dX5_init_49 (by decide) ?_
  refine b_istore_n C dX5_init_50 (by decide) ?_
  refine b_eq (ws' := (b, (.inr (5, [.ref q1, .ref q2, .null, .null, .null, .null, .int 0, .int 0, .int 0, .int 0]) : va_E)) :: (q2, qref 8 (cy 4) (qf (fun _ => 0) 0)) :: (((q1, qref 8 (cy 3) (qf a1 8)) :: ([] ++ fl (U_X3 cy) a1 b1 8)) ++ fl (U_X1 cy) (fun _ => 0) (fun _ => 0) 0)) (by rw [← qf_0, ← fl_0]; rfl) ?_
  refine b_widen (mc := 18 + 0 * 2) (ms := 160 + 0 * 7) (by decide) (by decide) ?_
  refine fill_X1 (cells := 18) (slots := 160) C rfl ⟨Nat.le_of_ble_eq_true rfl, Nat.le_of_ble_eq_true rfl⟩ ⟨Nat.le_of_ble_eq_true rfl, Nat.le_of_ble_eq_true rfl⟩ (fun a2 b2 v2 => ?_) 8 0 rfl (fun _ => 0) (fun _ => 0)
  refine b_widen (mc := 34) (ms := 216) (by decide) (by decide) ?_
  refine b_aload_n C dX5_init_76 rfl ?_
  refine b_iconst C (v := 5) dX5_init_77 (by decide) ?_
  refine b_anew C 5 rfl (List.mem_of_getElem? (i := 2) rfl) wd73 (N' := 5) (by decide) (by decide) (by decide) ⟨Nat.le_of_ble_eq_true rfl, Nat.le_of_ble_eq_true rfl⟩ dX5_init_78 (fun q3 => ?_)
  refine b_move ?_
  refine b_putF C hni 0 2 rfl rfl (by decide) inB5 tyX5_ok nmX5 wd142 rfl rfl rfl rfl rfl (Nat.le_of_ble_eq_true rfl) dX5_init_81 ?_
  refine b_iconst C (v := nI 0) dX5_init_84 (by decide) ?_
  refine b_istore_n C dX5_init_85 (by decide) ?_
  refine b_eq (ws' := (b, (.inr (5, [.ref q1, .ref q2, .ref q3, .null, .null, .null, .int 0, .int 0, .int 0, .int 0]) : va_E)) :: (q3, qref 5 (cy 5) (qf (fun _ => 0) 0)) :: (((q2, qref 8 (cy 4) (qf a2 8)) :: (((q1, qref 8 (cy 3) (qf a1 8)) :: ([] ++ fl (U_X3 cy) a1 b1 8)) ++ fl (U_X1 cy) a2 b2 8)) ++ fl (U_X4 cy) (fun _ => 0) (fun _ => 0) 0)) (by rw [← qf_0, ← fl_0]; rfl) ?_
  refine b_widen (mc := 35 + 0 * 1) (ms := 221 + 0 * 2) (by decide) (by decide) ?_
  refine fill_X4 (cells := 35) (slots := 221) C rfl ⟨Nat.le_of_ble_eq_true rfl, Nat.le_of_ble_eq_true rfl⟩ ⟨Nat.le_of_ble_eq_true rfl, Nat.le_of_ble_eq_true rfl⟩ (fun a3 b3 v3 => ?_) 5 0 rfl (fun _ => 0) (fun _ => 0)
  refine b_widen (mc := 40) (ms := 231) (by decide) (by decide) ?_
  refine b_aload_n C dX5_init_110 rfl ?_
  refine b_bipush C (v := 20) dX5_init_111 (by decide) ?_
  refine b_anew C 6 rfl (List.mem_of_getElem? (i := 3) rfl) wd89 (N' := 20) (by decide) (by decide) (by decide) ⟨Nat.le_of_ble_eq_true rfl, Nat.le_of_ble_eq_true rfl⟩ dX5_init_113 (fun q4 => ?_)
  refine b_move ?_
  refine b_putF C hni 0 3 rfl rfl (by decide) inB5 tyX5_ok nmX5 wd143 rfl rfl rfl rfl rfl (Nat.le_of_ble_eq_true rfl) dX5_init_116 ?_
  refine b_iconst C (v := nI 0) dX5_init_119 (by decide) ?_
  refine b_istore_n C dX5_init_120 (by decide) ?_
  refine b_eq (ws' := (b, (.inr (5, [.ref q1, .ref q2, .ref q3, .ref q4, .null, .null, .int 0, .int 0, .int 0, .int 0]) : va_E)) :: (q4, qref 20 (cy 6) (qf (fun _ => 0) 0)) :: (((q3, qref 5 (cy 5) (qf a3 5)) :: (((q2, qref 8 (cy 4) (qf a2 8)) :: (((q1, qref 8 (cy 3) (qf a1 8)) :: ([] ++ fl (U_X3 cy) a1 b1 8)) ++ fl (U_X1 cy) a2 b2 8)) ++ fl (U_X4 cy) a3 b3 5)) ++ fl (U_X2 cy) (fun _ => 0) (fun _ => 0) 0)) (by rw [← qf_0, ← fl_0]; rfl) ?_
  refine b_widen (mc := 41 + 0 * 1) (ms := 251 + 0 * 4) (by decide) (by decide) ?_
  refine fill_X2 (cells := 41) (slots := 251) C rfl ⟨Nat.le_of_ble_eq_true rfl, Nat.le_of_ble_eq_true rfl⟩ ⟨Nat.le_of_ble_eq_true rfl, Nat.le_of_ble_eq_true rfl⟩ (fun a4 b4 v4 => ?_) 20 0 rfl (fun _ => 0) (fun _ => 0)
  refine b_widen (mc := 61) (ms := 331) (by decide) (by decide) ?_
  refine b_aload_n C dX5_init_146 rfl ?_
  refine b_iconst C (v := 4) dX5_init_147 (by decide) ?_
  refine b_newi C (N' := 4) (by decide) (by decide) (by decide) ⟨Nat.le_of_ble_eq_true rfl, Nat.le_of_ble_eq_true rfl⟩ dX5_init_148 (fun q5 => ?_)
  refine b_move ?_
  refine b_putF C hni 0 4 rfl rfl (by decide) inB5 tyX5_ok nmX5 wd144 rfl rfl rfl rfl rfl (Nat.le_of_ble_eq_true rfl) dX5_init_150 ?_
  refine b_eq (ws' := (b, (.inr (5, [.ref q1, .ref q2, .ref q3, .ref q4, .ref q5, .null, .int 0, .int 0, .int 0, .int 0]) : va_E)) :: ((q5, .inl (cy 0, 4, .inl (fun _ => 0))) :: ((q4, qref 20 (cy 6) (qf a4 20)) :: (((q3, qref 5 (cy 5) (qf a3 5)) :: (((q2, qref 8 (cy 4) (qf a2 8)) :: (((q1, qref 8 (cy 3) (qf a1 8)) :: ([] ++ fl (U_X3 cy) a1 b1 8)) ++ fl (U_X1 cy) a2 b2 8)) ++ fl (U_X4 cy) a3 b3 5)) ++ fl (U_X2 cy) a4 b4 20)))) rfl ?_
  refine b_aload_n C dX5_init_153 rfl ?_
  refine b_makeN C (ci := 0) rfl inB0 tyX0_ok (fun j hj => by rcases (show j = 0 ∨ j = 1 ∨ j = 2 ∨ j = 3 ∨ j = 4 by omega) with rfl | rfl | rfl | rfl | rfl <;> rfl) wd113 wd114 wd19 k_X0 wd117 rfl (C.2.2.2.2.2.2.2.1.2.1 (43, yX0_init) (List.mem_of_getElem? (i := 4) rfl)) wd116 rfl (ok_init _ (List.mem_of_getElem? (i := 0) rfl)) ⟨Nat.le_of_ble_eq_true rfl, Nat.le_of_ble_eq_true rfl⟩ ⟨Nat.le_of_ble_eq_true rfl, Nat.le_of_ble_eq_true rfl⟩ (Nat.le_of_ble_eq_true rfl) dX5_init_154 dX5_init_157 dX5_init_158 (fun q6 u hu => ?_)
  refine b_widen (mc := 82) (ms := 612) (by decide) (by decide) ?_
  refine b_putF C hni 0 5 rfl rfl (by decide) inB5 tyX5_ok nmX5 wd145 rfl rfl rfl rfl rfl (Nat.le_of_ble_eq_true rfl) dX5_init_161 ?_
  refine b_eq (ws' := (b, (.inr (5, [.ref q1, .ref q2, .ref q3, .ref q4, .ref q5, .ref q6, .int 0, .int 0, .int 0, .int 0]) : va_E)) :: (((q5, .inl (cy 0, 4, .inl (fun _ => 0))) :: ((q4, qref 20 (cy 6) (qf a4 20)) :: (((q3, qref 5 (cy 5) (qf a3 5)) :: (((q2, qref 8 (cy 4) (qf a2 8)) :: (((q1, qref 8 (cy 3) (qf a1 8)) :: ([] ++ fl (U_X3 cy) a1 b1 8)) ++ fl (U_X1 cy) a2 b2 8)) ++ fl (U_X4 cy) a3 b3 5)) ++ fl (U_X2 cy) a4 b4 20))) ++ u)) rfl ?_
  refine b_aload_n C dX5_init_164 rfl ?_
  refine b_iconst C (v := 0) dX5_init_165 (by decide) ?_
  refine b_put C 0 6 rfl rfl (by decide) inB5 tyX5_ok nmX5 wd146 rfl rfl rfl rfl (Nat.le_of_ble_eq_true rfl) dX5_init_166 ?_
  refine b_eq (ws' := (b, (.inr (5, [.ref q1, .ref q2, .ref q3, .ref q4, .ref q5, .ref q6, .int 0, .int 0, .int 0, .int 0]) : va_E)) :: (((q5, .inl (cy 0, 4, .inl (fun _ => 0))) :: ((q4, qref 20 (cy 6) (qf a4 20)) :: (((q3, qref 5 (cy 5) (qf a3 5)) :: (((q2, qref 8 (cy 4) (qf a2 8)) :: (((q1, qref 8 (cy 3) (qf a1 8)) :: ([] ++ fl (U_X3 cy) a1 b1 8)) ++ fl (U_X1 cy) a2 b2 8)) ++ fl (U_X4 cy) a3 b3 5)) ++ fl (U_X2 cy) a4 b4 20))) ++ u)) rfl ?_
  refine b_aload_n C dX5_init_169 rfl ?_
  refine b_iconst C (v := 0) dX5_init_170 (by decide) ?_
  refine b_put C 0 7 rfl rfl (by decide) inB5 tyX5_ok nmX5 wd147 rfl rfl rfl rfl (Nat.le_of_ble_eq_true rfl) dX5_init_171 ?_
  refine b_eq (ws' := (b, (.inr (5, [.ref q1, .ref q2, .ref q3, .ref q4, .ref q5, .ref q6, .int 0, .int 0, .int 0, .int 0]) : va_E)) :: (((q5, .inl (cy 0, 4, .inl (fun _ => 0))) :: ((q4, qref 20 (cy 6) (qf a4 20)) :: (((q3, qref 5 (cy 5) (qf a3 5)) :: (((q2, qref 8 (cy 4) (qf a2 8)) :: (((q1, qref 8 (cy 3) (qf a1 8)) :: ([] ++ fl (U_X3 cy) a1 b1 8)) ++ fl (U_X1 cy) a2 b2 8)) ++ fl (U_X4 cy) a3 b3 5)) ++ fl (U_X2 cy) a4 b4 20))) ++ u)) rfl ?_
  refine b_aload_n C dX5_init_174 rfl ?_
  refine b_iconst C (v := 0) dX5_init_175 (by decide) ?_
  refine b_put C 0 8 rfl rfl (by decide) inB5 tyX5_ok nmX5 wd148 rfl rfl rfl rfl (Nat.le_of_ble_eq_true rfl) dX5_init_176 ?_
  refine b_eq (ws' := (b, (.inr (5, [.ref q1, .ref q2, .ref q3, .ref q4, .ref q5, .ref q6, .int 0, .int 0, .int 0, .int 0]) : va_E)) :: (((q5, .inl (cy 0, 4, .inl (fun _ => 0))) :: ((q4, qref 20 (cy 6) (qf a4 20)) :: (((q3, qref 5 (cy 5) (qf a3 5)) :: (((q2, qref 8 (cy 4) (qf a2 8)) :: (((q1, qref 8 (cy 3) (qf a1 8)) :: ([] ++ fl (U_X3 cy) a1 b1 8)) ++ fl (U_X1 cy) a2 b2 8)) ++ fl (U_X4 cy) a3 b3 5)) ++ fl (U_X2 cy) a4 b4 20))) ++ u)) rfl ?_
  refine b_aload_n C dX5_init_179 rfl ?_
  refine b_iconst C (v := 0) dX5_init_180 (by decide) ?_
  refine b_put C 0 9 rfl rfl (by decide) inB5 tyX5_ok nmX5 wd149 rfl rfl rfl rfl (Nat.le_of_ble_eq_true rfl) dX5_init_181 ?_
  refine b_eq (ws' := (b, (.inr (5, [.ref q1, .ref q2, .ref q3, .ref q4, .ref q5, .ref q6, .int 0, .int 0, .int 0, .int 0]) : va_E)) :: (((q5, .inl (cy 0, 4, .inl (fun _ => 0))) :: ((q4, qref 20 (cy 6) (qf a4 20)) :: (((q3, qref 5 (cy 5) (qf a3 5)) :: (((q2, qref 8 (cy 4) (qf a2 8)) :: (((q1, qref 8 (cy 3) (qf a1 8)) :: ([] ++ fl (U_X3 cy) a1 b1 8)) ++ fl (U_X1 cy) a2 b2 8)) ++ fl (U_X4 cy) a3 b3 5)) ++ fl (U_X2 cy) a4 b4 20))) ++ u)) rfl ?_
  exact b_ret C dX5_init_184 ⟨q1, q2, q3, q4, q5, q6, u, a1, b1, a2, b2, a3, b3, a4, b4, hu, rfl⟩
