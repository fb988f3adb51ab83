/-! ===== the law's own methods: a call with its catches ===== -/
def MW (l : Launch) (D : va_G) (ad : Nat → Nat → Nat) (cy : Nat → ClassId) (A : Nat → Prop) (sa : Nat → Nat) (y : MethodName) (bytes : ByteArray) (maxL : Nat) (hh : List (Nat × Nat × Nat × Nat)) (d mc : Nat) (σ : St) (av : List Value) (post : Int32 → St → Prop) : Prop :=
  Met l y (Cond.codeWith y bytes maxL (some .int) hh :: BIG) (rmD d mc) (PcW l D ad cy A sa σ av) (va_Qi post (Bw D ad cy) A) mc (6 * mc) A
theorem Met_ofWH {l : Launch} {y : MethodName} {ws ws' : List Cond} {rm : Room} {Pc : Array Value → State → Prop} {Qc : Array Value → State → Outcome → State → Prop} {mc ms : Nat} {free : Addr → Prop} {cc : ByteArray} {maxL : Nat} {ret : Option FieldType} {hh : List (Nat × Nat × Nat × Nat)}
    (hy : plainName y.cls = true) (hw : ws = Cond.codeWith y cc maxL ret hh :: ws')
    (body : ∀ p e s m args below meth c s₁, BodyLoose p l y (headSpec ws rm) cc maxL ret e s m args below meth c s₁ → c.maxLocals = maxL → Pc args s →
      W p l e (headSpec ws rm).room s m args below meth c s.heap [] 0 0 (MQ below Qc args s mc ms free) (entryFrame m args maxL)) : Met l y ws rm Pc Qc mc ms free := by
  refine MetFree.of_bodyS (code := cc) (maxLocals := maxL) (ret := ret) hy ?_ ?_
  · intro args s m h hn
    obtain ⟨m9, meth, c, hn9, h1, h2, h3, h4, -, h5, h6, -⟩ := Cond.codeWith_spec (atoms_spec (ws := ws) h _ (by rw [hw]; exact List.mem_cons_self))
    cases hn.symm.trans hn9
    exact ⟨meth, c, h1, h2, h3, h4, h5, h6⟩
  · intro p e s m args below meth c s₁ B hml hP _
    have hh0 : s₁.heap = s.heap := by rw [B.state]; rfl
    obtain ⟨t, a1, o, b1, b2, b3⟩ := body p e s m args below meth c s₁ B hml hP s₁ hh0 (Stand.of_body B)
    exact ⟨t, o, a1, b1, b2, ⟨b3.1, b3.2⟩⟩
theorem MW.mk {l : Launch} {D : va_G} {ad : Nat → Nat → Nat} {cy : Nat → ClassId} {A : Nat → Prop} {sa : Nat → Nat} {y : MethodName} {bytes : ByteArray} {maxL : Nat} {hh : List (Nat × Nat × Nat × Nat)} {d mc : Nat} {σ : St} {av : List Value} {post : Int32 → St → Prop} (own : String) (hy : plainName y.cls = true) (ho : y.cls = own) (hlen : (lg_sl av).length ≤ maxL) (hc : av.all (fun v => v.category == 1) = true)
    (body : ∀ (p : Program) (e : Env) (s : State) (m : MethodId) (args : Array Value) (below : List Frame) (meth : Method) (c : Code), Cx p l s m args meth c bytes own maxL (some .int) D ad cy A sa → c.exceptionTable.toList = tableOf hh → Z p l e (rmD d mc) s m args below meth c D ad cy A maxL 0 0 (MQ below (va_Qi post (Bw D ad cy) A) args s mc (6 * mc) A) σ (L0 av maxL) 0 []) : MW l D ad cy A sa y bytes maxL hh d mc σ av post := by
  refine Met_ofWH (cc := bytes) (maxL := maxL) (ret := some .int) (hh := hh) hy rfl ?_
  intro p e s m args below meth c s₁ B hml hv
  obtain ⟨rfl, hF, hP⟩ := hv
  have C := Cx.of (own := own) B hml ho hF
  have hl := lv_entry av (n := maxL) hlen
  rw [lg_entry_eq]
  have hts := atoms_spec (ws := Cond.codeWith y bytes maxL (some .int) hh :: BIG) B.pre
  exact body p e s m _ below meth c C (vx_table (x := y) B (hts _ List.mem_cons_self)) s.heap [] _ hP va_S.rf (lh_entry hc hl)
/-- the class's state is g's, but the hand's scratch -/
def CEq (g σ : St) : Prop := ∀ a b c0, a < 17 → a ≠ 6 → a ≠ 7 → a ≠ 9 → a ≠ 10 → σ a b c0 = g a b c0
def MEq (σ σ' : St) : Prop := ∀ a b c0, 17 ≤ a → a ≠ 32 → σ' a b c0 = σ a b c0
def WPost (g' σ σ' : St) (K : Nat) (res r : Int32) : Prop := r = nI K ∧ (K = 0 → CEq g' σ' ∧ σ' 32 0 0 = res) ∧ (K ≠ 0 → CEq σ σ') ∧ MEq σ σ'
theorem CEq.rf {σ : St} : CEq σ σ := fun _ _ _ _ _ _ _ _ => rfl
theorem MEq.rf {σ : St} : MEq σ σ := fun _ _ _ _ _ => rfl
theorem CEq.of {σ σ' : St} (h : SameC σ σ') : CEq σ σ' := fun a b c0 _ h1 h2 h3 h4 => h a b c0 h1 h2 h3 h4
theorem MEq.of {σ σ' : St} (h : SameC σ σ') : MEq σ σ' := fun a b c0 h1 _ => h a b c0 (by omega) (by omega) (by omega) (by omega)
theorem CEq.up {g σ : St} {k i j : Nat} {x : Int32} (h : CEq g σ) : CEq (up g k i j x) (up σ k i j x) := fun a b c0 h1 h2 h3 h4 h5 => by rw [up_app, up_app, h a b c0 h1 h2 h3 h4 h5]
theorem MEq.up {σ σ' : St} {k i j : Nat} {x : Int32} (h : MEq σ σ') (hk : k < 17) : MEq σ (up σ' k i j x) := fun a b c0 h1 h2 => by rw [up_app, if_neg (by omega)]; exact h a b c0 h1 h2
theorem WPost.ok {g' σ σ1 : St} {K : Nat} {res : Int32} (hK : K = 0) (h1 : CEq g' σ1) (h2 : MEq σ σ1) : WPost g' σ (up σ1 32 0 0 res) K res (nI 0) := ⟨by rw [hK], fun _ => ⟨fun a b c0 q1 q2 q3 q4 q5 => by rw [up_app, if_neg (by omega)]; exact h1 a b c0 q1 q2 q3 q4 q5, by rw [up_app, if_pos ⟨rfl, rfl, rfl⟩]⟩, fun q => absurd hK q, fun a b c0 q1 q2 => by rw [up_app, if_neg (by omega)]; exact h2 a b c0 q1 q2⟩
theorem WPost.no {g' σ σ1 : St} {K n : Nat} {res : Int32} (hK : K = n) (hn : n ≠ 0) (h1 : SameC σ σ1) : WPost g' σ σ1 K res (nI n) := ⟨by rw [hK], fun q => absurd (hK.symm.trans q) hn, fun _ => CEq.of h1, MEq.of h1⟩
section ZX
variable {p : Program} {l : Launch} {e : Env} {R : Room} {s : State} {m : MethodId} {args : Array Value} {below : List Frame} {meth : Method} {c : Code} {D : va_G} {ad : Nat → Nat → Nat} {cy : Nat → ClassId} {A : Nat → Prop} {sa : Nat → Nat} {nL cells slots : Nat} {Q : State → Prop} {L : List (Option Value)} {pc : Nat} {st : List Value} {cc : ByteArray} {own : String} {ret : Option FieldType}
theorem x_catch {q9 : Addr} (C : Cx p l s m args meth c cc own nL ret D ad cy A sa) {E : String} {pre suf : List ExceptionTableEntry} {x : ExceptionTableEntry} (tbl : c.exceptionTable.toList = pre ++ x :: suf) (hE : E ∈ exs) (hpre : ∀ z ∈ pre, z.catchType ≠ 0 ∧ ∃ E1 : String, E1 ∈ exs ∧ E ≠ E1 ∧ Cond.classLink own z.catchType E1 ∈ BIG) (hx : covers x pc = true) (h0 : x.catchType ≠ 0) (hw : Cond.classLink own x.catchType E ∈ BIG) {σ : St} (kk : Z p l e R s m args below meth c D ad cy A nL cells slots Q σ L x.handlerPc [.ref q9])
    {ce : Cell} {H1 : Heap} {locs1 : List Loc} {ls : Array Slot} (hP : va_P D vwCl (WL ad cy σ) H1) (hS : va_S A s.heap H1 locs1) (hl : lh ls nL L) (g1 : H1[q9]? = some ce) (g2 : ce.vm = .none) (g3 : s.vm.findClass E = some ce.cls) : vx_W p l e R s m args below meth c H1 locs1 cells slots Q (F0 m pc ls st) q9 := by
  obtain ⟨hx0, hb, hml, hown, hts, hr, hlk, hF⟩ := C
  refine vx_catch (own := own) (name := E) hown pre x suf tbl (fun z hz => ?_) hx h0 (hts _ hw) (va_tabs rfl rfl (hF.2.2.2.2.2.2.2.1.1 E hE)) g1 g2 g3 (kk H1 locs1 ls hP hS hl)
  obtain ⟨z0, E1, hE1, hne, hw1⟩ := hpre z hz
  exact Or.inr ⟨z0, E1, hts _ hw1, hF.2.2.2.2.2.2.2.2 E hE E1 hE1 hne⟩
end ZX
set_option maxRecDepth 100000 in
set_option maxHeartbeats 4000000 in
theorem c_L_begin {l : Launch} {D : va_G} {ad : Nat → Nat → Nat} {cy : Nat → ClassId} {A : Nat → Prop} {sa : Nat → Nat} {σ : St}  : MW l D ad cy A sa yL_begin cL_begin 3 [(0, 8, 11, 13)] 1 1 σ [.ref (ad 0 0), .ref (ad 32 0)] (fun r σ' => WPost (up σ 0 0 6 (σ 0 0 6 + 1)) σ σ' (K_begin σ) (σ 0 0 6) r) := by
  refine MW.mk "FretSchoolLaw" (by decide) rfl (Nat.le_of_ble_eq_true rfl) rfl ?_
  intro p e s m args below meth c C tbl
  change Z _ _ _ _ _ _ _ _ _ _ _ _ _ _ _ _ _ _ _ [some (.ref (ad 0 0)), some (.ref (ad 32 0)), none] 0 []
  refine z_aload_n C dL_begin_0 rfl ?_
  refine z_iconst C (v := 0) dL_begin_1 (by decide) ?_
  refine z_aload_n C dL_begin_2 rfl ?_
  refine y_cvi C (As := []) (c_X5_begin) okX5_begin wd200 rc_0 (rok (by decide) (by decide)) ⟨Nat.le_of_ble_eq_true rfl, Nat.le_of_ble_eq_true rfl⟩ rfl (Nat.le_of_ble_eq_true rfl) dL_begin_3 (fun E ce q9 u H1 locs1 ls hp hP hS hl g1 g2 g3 => by
    obtain ⟨hsm, hK0, hE⟩ := hp
    subst hsm
    obtain ⟨k, hk⟩ : ∃ k, K_begin σ = k := ⟨_, rfl⟩
    rw [hk] at hK0 hE
    match k, hk, hK0, hE with
    | 0, _, hK0, _ => exact absurd rfl hK0
    | 1, hk, _, hE =>
      obtain rfl : ISE = E := Option.some.inj hE
      refine x_catch C (pre := []) (x := ⟨0, 8, 11, 13⟩) (suf := []) tbl (by decide +kernel) (fun z hz => absurd hz List.not_mem_nil) (by decide) (by decide) wd199 ?_ hP hS hl g1 g2 g3
      refine z_astore_n C dL_begin_11 (by decide) ?_
      dsimp only [List.set]
      refine z_iconst C (v := 1) dL_begin_12 (by decide) ?_
      refine z_widen (mc := 1) (ms := 6) (by decide) (by decide) ?_
      refine z_iret C dL_begin_13 ?_
      exact WPost.no hk (by decide) SameC.rf
    ) ?_
  rintro _ _ ⟨hK0, rfl, rfl⟩
  refine z_i2l C dL_begin_6 ?_
  refine z_last C rfl dL_begin_7 ?_
  refine z_goto C 14 dL_begin_8 (by decide) ?_
  refine z_iconst C (v := 0) dL_begin_14 (by decide) ?_
  refine z_widen (mc := 1) (ms := 6) (by decide) (by decide) ?_
  refine z_iret C dL_begin_15 ?_
  exact WPost.ok hK0 (CEq.rf) ((MEq.rf.up (by decide)))
set_option maxRecDepth 100000 in
set_option maxHeartbeats 4000000 in
theorem c_L_addNote {l : Launch} {D : va_G} {ad : Nat → Nat → Nat} {cy : Nat → ClassId} {A : Nat → Prop} {sa : Nat → Nat} {σ : St} {x y : Int32} (hI : Inv σ) : MW l D ad cy A sa yL_addNote cL_addNote 5 [(0, 10, 13, 19), (0, 10, 17, 21), (0, 10, 21, 13)] 4 3 σ [.ref (ad 0 0), .int x, .int y, .ref (ad 32 0)] (fun r σ' => WPost (up (up σ 12 (ix x) (cN σ (ix x)) y) 11 (ix x) 1 (nI (cN σ (ix x) + 1))) σ σ' (K_addNote σ x y) (nI (cN σ (ix x) + 1)) r) := by
  refine MW.mk "FretSchoolLaw" (by decide) rfl (Nat.le_of_ble_eq_true rfl) rfl ?_
  intro p e s m args below meth c C tbl
  change Z _ _ _ _ _ _ _ _ _ _ _ _ _ _ _ _ _ _ _ [some (.ref (ad 0 0)), some (.int x), some (.int y), some (.ref (ad 32 0)), none] 0 []
  refine z_aload_n C dL_addNote_0 rfl ?_
  refine z_iconst C (v := 0) dL_addNote_1 (by decide) ?_
  refine z_aload_n C dL_addNote_2 rfl ?_
  refine z_iload_n C dL_addNote_3 rfl ?_
  refine z_iload_n C dL_addNote_4 rfl ?_
  refine y_cvi C (As := [_, _]) (c_X5_addNote hI) okX5_addNote wd277 rc_0 (rok (by decide) (by decide)) ⟨Nat.le_of_ble_eq_true rfl, Nat.le_of_ble_eq_true rfl⟩ rfl (Nat.le_of_ble_eq_true rfl) dL_addNote_5 (fun E ce q9 u H1 locs1 ls hp hP hS hl g1 g2 g3 => by
    obtain ⟨hsm, hK0, hE⟩ := hp
    subst hsm
    obtain ⟨k, hk⟩ : ∃ k, K_addNote σ x y = k := ⟨_, rfl⟩
    rw [hk] at hK0 hE
    match k, hk, hK0, hE with
    | 0, _, hK0, _ => exact absurd rfl hK0
    | 1, hk, _, hE =>
      obtain rfl : IOOBE = E := Option.some.inj hE
      refine x_catch C (pre := []) (x := ⟨0, 10, 13, 19⟩) (suf := [⟨0, 10, 17, 21⟩, ⟨0, 10, 21, 13⟩]) tbl (by decide +kernel) (fun z hz => absurd hz List.not_mem_nil) (by decide) (by decide) wd275 ?_ hP hS hl g1 g2 g3
      refine z_astore C dL_addNote_13 (by decide) ?_
      dsimp only [List.set]
      refine z_iconst C (v := 1) dL_addNote_15 (by decide) ?_
      refine z_widen (mc := 3) (ms := 18) (by decide) (by decide) ?_
      refine z_iret C dL_addNote_16 ?_
      exact WPost.no hk (by decide) SameC.rf
    | 2, hk, _, hE =>
      obtain rfl : IAE = E := Option.some.inj hE
      refine x_catch C (pre := [⟨0, 10, 13, 19⟩]) (x := ⟨0, 10, 17, 21⟩) (suf := [⟨0, 10, 21, 13⟩]) tbl (by decide +kernel) (List.forall_mem_cons.mpr ⟨⟨(by decide), IOOBE, by decide +kernel, by decide +kernel, wd275⟩, fun _ h => absurd h List.not_mem_nil⟩) (by decide) (by decide) wd276 ?_ hP hS hl g1 g2 g3
      refine z_astore C dL_addNote_17 (by decide) ?_
      dsimp only [List.set]
      refine z_iconst C (v := 2) dL_addNote_19 (by decide) ?_
      refine z_widen (mc := 3) (ms := 18) (by decide) (by decide) ?_
      refine z_iret C dL_addNote_20 ?_
      exact WPost.no hk (by decide) SameC.rf
    | 3, hk, _, hE =>
      obtain rfl : ISE = E := Option.some.inj hE
      refine x_catch C (pre := [⟨0, 10, 13, 19⟩, ⟨0, 10, 17, 21⟩]) (x := ⟨0, 10, 21, 13⟩) (suf := []) tbl (by decide +kernel) (List.forall_mem_cons.mpr ⟨⟨(by decide), IOOBE, by decide +kernel, by decide +kernel, wd275⟩, List.forall_mem_cons.mpr ⟨⟨(by decide), IAE, by decide +kernel, by decide +kernel, wd276⟩, fun _ h => absurd h List.not_mem_nil⟩⟩) (by decide) (by decide) wd199 ?_ hP hS hl g1 g2 g3
      refine z_astore C dL_addNote_21 (by decide) ?_
      dsimp only [List.set]
      refine z_iconst C (v := 3) dL_addNote_23 (by decide) ?_
      refine z_widen (mc := 3) (ms := 18) (by decide) (by decide) ?_
      refine z_iret C dL_addNote_24 ?_
      exact WPost.no hk (by decide) SameC.rf
    ) ?_
  rintro _ _ ⟨hK0, rfl, rfl⟩
  refine z_i2l C dL_addNote_8 ?_
  refine z_last C rfl dL_addNote_9 ?_
  refine z_goto C 25 dL_addNote_10 (by decide) ?_
  refine z_iconst C (v := 0) dL_addNote_25 (by decide) ?_
  refine z_widen (mc := 3) (ms := 18) (by decide) (by decide) ?_
  refine z_iret C dL_addNote_26 ?_
  exact WPost.ok hK0 (CEq.rf) (((MEq.rf.up (by decide)).up (by decide)))
set_option maxRecDepth 100000 in
set_option maxHeartbeats 4000000 in
theorem c_L_transpose {l : Launch} {D : va_G} {ad : Nat → Nat → Nat} {cy : Nat → ClassId} {A : Nat → Prop} {sa : Nat → Nat} {σ : St} {x y : Int32} (hI : Inv σ) : MW l D ad cy A sa yL_transpose cL_transpose 4 [(0, 6, 9, 19), (0, 6, 12, 21), (0, 6, 15, 13)] 2 3 σ [.ref (ad 0 0), .int x, .int y] (fun r σ' => r = nI (K_trans σ x y) ∧ (K_trans σ x y = 0 → CEq (mvd σ (ix x) y (cN σ (ix x))) σ') ∧ (K_trans σ x y ≠ 0 → CEq σ σ') ∧ MEq σ σ') := by
  refine MW.mk "FretSchoolLaw" (by decide) rfl (Nat.le_of_ble_eq_true rfl) rfl ?_
  intro p e s m args below meth c C tbl
  change Z _ _ _ _ _ _ _ _ _ _ _ _ _ _ _ _ _ _ _ [some (.ref (ad 0 0)), some (.int x), some (.int y), none] 0 []
  refine z_aload_n C dL_transpose_0 rfl ?_
  refine z_iload_n C dL_transpose_1 rfl ?_
  refine z_iload_n C dL_transpose_2 rfl ?_
  refine y_cvv C (As := [_, _]) (c_X5_transpose hI) okX5_transpose wd333 rc_0 (rok (by decide) (by decide)) ⟨Nat.le_of_ble_eq_true rfl, Nat.le_of_ble_eq_true rfl⟩ rfl (Nat.le_of_ble_eq_true rfl) dL_transpose_3 (fun E ce q9 u H1 locs1 ls hp hP hS hl g1 g2 g3 => by
    obtain ⟨hsm, hK0, hE⟩ := hp
    subst hsm
    obtain ⟨k, hk⟩ : ∃ k, K_trans σ x y = k := ⟨_, rfl⟩
    rw [hk] at hK0 hE
    match k, hk, hK0, hE with
    | 0, _, hK0, _ => exact absurd rfl hK0
    | 1, hk, _, hE =>
      obtain rfl : IOOBE = E := Option.some.inj hE
      refine x_catch C (pre := []) (x := ⟨0, 6, 9, 19⟩) (suf := [⟨0, 6, 12, 21⟩, ⟨0, 6, 15, 13⟩]) tbl (by decide +kernel) (fun z hz => absurd hz List.not_mem_nil) (by decide) (by decide) wd275 ?_ hP hS hl g1 g2 g3
      refine z_astore_n C dL_transpose_9 (by decide) ?_
      dsimp only [List.set]
      refine z_iconst C (v := 1) dL_transpose_10 (by decide) ?_
      refine z_widen (mc := 3) (ms := 18) (by decide) (by decide) ?_
      refine z_iret C dL_transpose_11 ?_
      exact ⟨by rw [hk]; rfl, fun a => absurd (hk.symm.trans a) (by decide), fun _ => CEq.rf, MEq.rf⟩
    | 2, hk, _, hE =>
      obtain rfl : IAE = E := Option.some.inj hE
      refine x_catch C (pre := [⟨0, 6, 9, 19⟩]) (x := ⟨0, 6, 12, 21⟩) (suf := [⟨0, 6, 15, 13⟩]) tbl (by decide +kernel) (List.forall_mem_cons.mpr ⟨⟨(by decide), IOOBE, by decide +kernel, by decide +kernel, wd275⟩, fun _ h => absurd h List.not_mem_nil⟩) (by decide) (by decide) wd276 ?_ hP hS hl g1 g2 g3
      refine z_astore_n C dL_transpose_12 (by decide) ?_
      dsimp only [List.set]
      refine z_iconst C (v := 2) dL_transpose_13 (by decide) ?_
      refine z_widen (mc := 3) (ms := 18) (by decide) (by decide) ?_
      refine z_iret C dL_transpose_14 ?_
      exact ⟨by rw [hk]; rfl, fun a => absurd (hk.symm.trans a) (by decide), fun _ => CEq.rf, MEq.rf⟩
    | 3, hk, _, hE =>
      obtain rfl : ISE = E := Option.some.inj hE
      refine x_catch C (pre := [⟨0, 6, 9, 19⟩, ⟨0, 6, 12, 21⟩]) (x := ⟨0, 6, 15, 13⟩) (suf := []) tbl (by decide +kernel) (List.forall_mem_cons.mpr ⟨⟨(by decide), IOOBE, by decide +kernel, by decide +kernel, wd275⟩, List.forall_mem_cons.mpr ⟨⟨(by decide), IAE, by decide +kernel, by decide +kernel, wd276⟩, fun _ h => absurd h List.not_mem_nil⟩⟩) (by decide) (by decide) wd199 ?_ hP hS hl g1 g2 g3
      refine z_astore_n C dL_transpose_15 (by decide) ?_
      dsimp only [List.set]
      refine z_iconst C (v := 3) dL_transpose_16 (by decide) ?_
      refine z_widen (mc := 3) (ms := 18) (by decide) (by decide) ?_
      refine z_iret C dL_transpose_17 ?_
      exact ⟨by rw [hk]; rfl, fun a => absurd (hk.symm.trans a) (by decide), fun _ => CEq.rf, MEq.rf⟩
    ) ?_
  rintro _ ⟨hK0, rfl⟩
  refine z_goto C 18 dL_transpose_6 (by decide) ?_
  refine z_iconst C (v := 0) dL_transpose_18 (by decide) ?_
  refine z_widen (mc := 3) (ms := 18) (by decide) (by decide) ?_
  refine z_iret C dL_transpose_19 ?_
  exact ⟨by rw [hK0]; rfl, fun _ => CEq.rf, fun a => absurd hK0 a, fun a b c0 h1 h2 => by rw [mvd_app, if_neg (by omega)]⟩
set_option maxRecDepth 100000 in
set_option maxHeartbeats 4000000 in
theorem c_L_pitch {l : Launch} {D : va_G} {ad : Nat → Nat → Nat} {cy : Nat → ClassId} {A : Nat → Prop} {sa : Nat → Nat} {σ : St} {x y : Int32} (hI : Inv σ) : MW l D ad cy A sa yL_pitch cL_pitch 5 [(0, 10, 13, 19)] 3 2 σ [.ref (ad 0 0), .int x, .int y, .ref (ad 32 0)] (fun r σ' => WPost (σ) σ σ' (K_pitch σ x y) (σ 12 (ix x) (ix y)) r) := by
  refine MW.mk "FretSchoolLaw" (by decide) rfl (Nat.le_of_ble_eq_true rfl) rfl ?_
  intro p e s m args below meth c C tbl
  change Z _ _ _ _ _ _ _ _ _ _ _ _ _ _ _ _ _ _ _ [some (.ref (ad 0 0)), some (.int x), some (.int y), some (.ref (ad 32 0)), none] 0 []
  refine z_aload_n C dL_pitch_0 rfl ?_
  refine z_iconst C (v := 0) dL_pitch_1 (by decide) ?_
  refine z_aload_n C dL_pitch_2 rfl ?_
  refine z_iload_n C dL_pitch_3 rfl ?_
  refine z_iload_n C dL_pitch_4 rfl ?_
  refine y_cvi C (As := [_, _]) (c_X5_pitch hI) okX5_pitch wd349 rc_0 (rok (by decide) (by decide)) ⟨Nat.le_of_ble_eq_true rfl, Nat.le_of_ble_eq_true rfl⟩ rfl (Nat.le_of_ble_eq_true rfl) dL_pitch_5 (fun E ce q9 u H1 locs1 ls hp hP hS hl g1 g2 g3 => by
    obtain ⟨hsm, hK0, hE⟩ := hp
    subst hsm
    obtain ⟨k, hk⟩ : ∃ k, K_pitch σ x y = k := ⟨_, rfl⟩
    rw [hk] at hK0 hE
    match k, hk, hK0, hE with
    | 0, _, hK0, _ => exact absurd rfl hK0
    | 1, hk, _, hE =>
      obtain rfl : IOOBE = E := Option.some.inj hE
      refine x_catch C (pre := []) (x := ⟨0, 10, 13, 19⟩) (suf := []) tbl (by decide +kernel) (fun z hz => absurd hz List.not_mem_nil) (by decide) (by decide) wd275 ?_ hP hS hl g1 g2 g3
      refine z_astore C dL_pitch_13 (by decide) ?_
      dsimp only [List.set]
      refine z_iconst C (v := 1) dL_pitch_15 (by decide) ?_
      refine z_widen (mc := 2) (ms := 12) (by decide) (by decide) ?_
      refine z_iret C dL_pitch_16 ?_
      exact WPost.no hk (by decide) SameC.rf
    ) ?_
  rintro _ _ ⟨hK0, rfl, rfl⟩
  refine z_i2l C dL_pitch_8 ?_
  refine z_last C rfl dL_pitch_9 ?_
  refine z_goto C 17 dL_pitch_10 (by decide) ?_
  refine z_iconst C (v := 0) dL_pitch_17 (by decide) ?_
  refine z_widen (mc := 2) (ms := 12) (by decide) (by decide) ?_
  refine z_iret C dL_pitch_18 ?_
  exact WPost.ok hK0 (CEq.rf) (MEq.rf)
set_option maxRecDepth 100000 in
set_option maxHeartbeats 4000000 in
theorem c_L_tune {l : Launch} {D : va_G} {ad : Nat → Nat → Nat} {cy : Nat → ClassId} {A : Nat → Prop} {sa : Nat → Nat} {σ : St} {x y z : Int32} (hI : Inv σ) : MW l D ad cy A sa yL_tune cL_tune 6 [(0, 12, 15, 19), (0, 12, 19, 21)] 2 3 σ [.ref (ad 0 0), .int x, .int y, .int z, .ref (ad 32 0)] (fun r σ' => WPost (up σ 14 (ix x) (ix y) z) σ σ' (K_tune σ x y z) (σ 14 (ix x) (ix y)) r) := by
  refine MW.mk "FretSchoolLaw" (by decide) rfl (Nat.le_of_ble_eq_true rfl) rfl ?_
  intro p e s m args below meth c C tbl
  change Z _ _ _ _ _ _ _ _ _ _ _ _ _ _ _ _ _ _ _ [some (.ref (ad 0 0)), some (.int x), some (.int y), some (.int z), some (.ref (ad 32 0)), none] 0 []
  refine z_aload C dL_tune_0 rfl ?_
  refine z_iconst C (v := 0) dL_tune_2 (by decide) ?_
  refine z_aload_n C dL_tune_3 rfl ?_
  refine z_iload_n C dL_tune_4 rfl ?_
  refine z_iload_n C dL_tune_5 rfl ?_
  refine z_iload_n C dL_tune_6 rfl ?_
  refine y_cvi C (As := [_, _, _]) (c_X5_tune hI) okX5_tune wd361 rc_0 (rok (by decide) (by decide)) ⟨Nat.le_of_ble_eq_true rfl, Nat.le_of_ble_eq_true rfl⟩ rfl (Nat.le_of_ble_eq_true rfl) dL_tune_7 (fun E ce q9 u H1 locs1 ls hp hP hS hl g1 g2 g3 => by
    obtain ⟨hsm, hK0, hE⟩ := hp
    subst hsm
    obtain ⟨k, hk⟩ : ∃ k, K_tune σ x y z = k := ⟨_, rfl⟩
    rw [hk] at hK0 hE
    match k, hk, hK0, hE with
    | 0, _, hK0, _ => exact absurd rfl hK0
    | 1, hk, _, hE =>
      obtain rfl : IOOBE = E := Option.some.inj hE
      refine x_catch C (pre := []) (x := ⟨0, 12, 15, 19⟩) (suf := [⟨0, 12, 19, 21⟩]) tbl (by decide +kernel) (fun z hz => absurd hz List.not_mem_nil) (by decide) (by decide) wd275 ?_ hP hS hl g1 g2 g3
      refine z_astore C dL_tune_15 (by decide) ?_
      dsimp only [List.set]
      refine z_iconst C (v := 1) dL_tune_17 (by decide) ?_
      refine z_widen (mc := 3) (ms := 18) (by decide) (by decide) ?_
      refine z_iret C dL_tune_18 ?_
      exact WPost.no hk (by decide) SameC.rf
    | 2, hk, _, hE =>
      obtain rfl : IAE = E := Option.some.inj hE
      refine x_catch C (pre := [⟨0, 12, 15, 19⟩]) (x := ⟨0, 12, 19, 21⟩) (suf := []) tbl (by decide +kernel) (List.forall_mem_cons.mpr ⟨⟨(by decide), IOOBE, by decide +kernel, by decide +kernel, wd275⟩, fun _ h => absurd h List.not_mem_nil⟩) (by decide) (by decide) wd276 ?_ hP hS hl g1 g2 g3
      refine z_astore C dL_tune_19 (by decide) ?_
      dsimp only [List.set]
      refine z_iconst C (v := 2) dL_tune_21 (by decide) ?_
      refine z_widen (mc := 3) (ms := 18) (by decide) (by decide) ?_
      refine z_iret C dL_tune_22 ?_
      exact WPost.no hk (by decide) SameC.rf
    ) ?_
  rintro _ _ ⟨hK0, rfl, rfl⟩
  refine z_i2l C dL_tune_10 ?_
  refine z_last C rfl dL_tune_11 ?_
  refine z_goto C 23 dL_tune_12 (by decide) ?_
  refine z_iconst C (v := 0) dL_tune_23 (by decide) ?_
  refine z_widen (mc := 3) (ms := 18) (by decide) (by decide) ?_
  refine z_iret C dL_tune_24 ?_
  exact WPost.ok hK0 (CEq.rf) ((MEq.rf.up (by decide)))
set_option maxRecDepth 100000 in
set_option maxHeartbeats 4000000 in
theorem c_L_owner {l : Launch} {D : va_G} {ad : Nat → Nat → Nat} {cy : Nat → ClassId} {A : Nat → Prop} {sa : Nat → Nat} {σ : St} {x : Int32} (hI : Inv σ) : MW l D ad cy A sa yL_owner cL_owner 4 [(0, 9, 12, 19)] 2 1 σ [.ref (ad 0 0), .int x, .ref (ad 32 0)] (fun r σ' => WPost (σ) σ σ' (K_inst σ x) (σ 13 (ix x) 1) r) := by
  refine MW.mk "FretSchoolLaw" (by decide) rfl (Nat.le_of_ble_eq_true rfl) rfl ?_
  intro p e s m args below meth c C tbl
  change Z _ _ _ _ _ _ _ _ _ _ _ _ _ _ _ _ _ _ _ [some (.ref (ad 0 0)), some (.int x), some (.ref (ad 32 0)), none] 0 []
  refine z_aload_n C dL_owner_0 rfl ?_
  refine z_iconst C (v := 0) dL_owner_1 (by decide) ?_
  refine z_aload_n C dL_owner_2 rfl ?_
  refine z_iload_n C dL_owner_3 rfl ?_
  refine y_cvi C (As := [_]) (c_X5_owner hI) okX5_owner wd373 rc_0 (rok (by decide) (by decide)) ⟨Nat.le_of_ble_eq_true rfl, Nat.le_of_ble_eq_true rfl⟩ rfl (Nat.le_of_ble_eq_true rfl) dL_owner_4 (fun E ce q9 u H1 locs1 ls hp hP hS hl g1 g2 g3 => by
    obtain ⟨hsm, hK0, hE⟩ := hp
    subst hsm
    obtain ⟨k, hk⟩ : ∃ k, K_inst σ x = k := ⟨_, rfl⟩
    rw [hk] at hK0 hE
    match k, hk, hK0, hE with
    | 0, _, hK0, _ => exact absurd rfl hK0
    | 1, hk, _, hE =>
      obtain rfl : IOOBE = E := Option.some.inj hE
      refine x_catch C (pre := []) (x := ⟨0, 9, 12, 19⟩) (suf := []) tbl (by decide +kernel) (fun z hz => absurd hz List.not_mem_nil) (by decide) (by decide) wd275 ?_ hP hS hl g1 g2 g3
      refine z_astore_n C dL_owner_12 (by decide) ?_
      dsimp only [List.set]
      refine z_iconst C (v := 1) dL_owner_13 (by decide) ?_
      refine z_widen (mc := 1) (ms := 6) (by decide) (by decide) ?_
      refine z_iret C dL_owner_14 ?_
      exact WPost.no hk (by decide) SameC.rf
    ) ?_
  rintro _ _ ⟨hK0, rfl, rfl⟩
  refine z_i2l C dL_owner_7 ?_
  refine z_last C rfl dL_owner_8 ?_
  refine z_goto C 15 dL_owner_9 (by decide) ?_
  refine z_iconst C (v := 0) dL_owner_15 (by decide) ?_
  refine z_widen (mc := 1) (ms := 6) (by decide) (by decide) ?_
  refine z_iret C dL_owner_16 ?_
  exact WPost.ok hK0 (CEq.rf) (MEq.rf)
set_option maxRecDepth 100000 in
set_option maxHeartbeats 4000000 in
theorem c_L_shifts {l : Launch} {D : va_G} {ad : Nat → Nat → Nat} {cy : Nat → ClassId} {A : Nat → Prop} {sa : Nat → Nat} {σ : St} {x y : Int32} (hI : Inv σ) : MW l D ad cy A sa yL_shifts cL_shifts 5 [(0, 10, 13, 19)] 7 2 σ [.ref (ad 0 0), .int x, .int y, .ref (ad 32 0)] (fun r σ' => WPost (σ) σ σ' (K_pq σ x y) (valS σ (ix x) (ix y)) r) := by
  refine MW.mk "FretSchoolLaw" (by decide) rfl (Nat.le_of_ble_eq_true rfl) rfl ?_
  intro p e s m args below meth c C tbl
  change Z _ _ _ _ _ _ _ _ _ _ _ _ _ _ _ _ _ _ _ [some (.ref (ad 0 0)), some (.int x), some (.int y), some (.ref (ad 32 0)), none] 0 []
  refine z_aload_n C dL_shifts_0 rfl ?_
  refine z_iconst C (v := 0) dL_shifts_1 (by decide) ?_
  refine z_aload_n C dL_shifts_2 rfl ?_
  refine z_iload_n C dL_shifts_3 rfl ?_
  refine z_iload_n C dL_shifts_4 rfl ?_
  refine y_cvi C (As := [_, _]) (c_X5_shifts hI) okX5_shifts wd380 rc_0 (rok (by decide) (by decide)) ⟨Nat.le_of_ble_eq_true rfl, Nat.le_of_ble_eq_true rfl⟩ rfl (Nat.le_of_ble_eq_true rfl) dL_shifts_5 (fun E ce q9 u H1 locs1 ls hp hP hS hl g1 g2 g3 => by
    obtain ⟨hsm, hK0, hE⟩ := hp
    subst hsm
    obtain ⟨k, hk⟩ : ∃ k, K_pq σ x y = k := ⟨_, rfl⟩
    rw [hk] at hK0 hE
    match k, hk, hK0, hE with
    | 0, _, hK0, _ => exact absurd rfl hK0
    | 1, hk, _, hE =>
      obtain rfl : IOOBE = E := Option.some.inj hE
      refine x_catch C (pre := []) (x := ⟨0, 10, 13, 19⟩) (suf := []) tbl (by decide +kernel) (fun z hz => absurd hz List.not_mem_nil) (by decide) (by decide) wd275 ?_ hP hS hl g1 g2 g3
      refine z_astore C dL_shifts_13 (by decide) ?_
      dsimp only [List.set]
      refine z_iconst C (v := 1) dL_shifts_15 (by decide) ?_
      refine z_widen (mc := 2) (ms := 12) (by decide) (by decide) ?_
      refine z_iret C dL_shifts_16 ?_
      exact WPost.no hk (by decide) SameC.rf
    ) ?_
  rintro _ σ1 ⟨hK0, rfl, hsm⟩
  refine z_i2l C dL_shifts_8 ?_
  refine z_last C rfl dL_shifts_9 ?_
  refine z_goto C 17 dL_shifts_10 (by decide) ?_
  refine z_iconst C (v := 0) dL_shifts_17 (by decide) ?_
  refine z_widen (mc := 2) (ms := 12) (by decide) (by decide) ?_
  refine z_iret C dL_shifts_18 ?_
  exact WPost.ok hK0 (CEq.of hsm) (MEq.of hsm)
set_option maxRecDepth 100000 in
set_option maxHeartbeats 4000000 in
theorem c_L_shiftsByAll {l : Launch} {D : va_G} {ad : Nat → Nat → Nat} {cy : Nat → ClassId} {A : Nat → Prop} {sa : Nat → Nat} {σ : St} {x y : Int32} (hI : Inv σ) : MW l D ad cy A sa yL_shiftsByAll cL_shiftsByAll 5 [(0, 10, 13, 19), (0, 10, 17, 13)] 9 3 σ [.ref (ad 0 0), .int x, .int y, .ref (ad 32 0)] (fun r σ' => WPost (σ) σ σ' (K_byAll σ x y) (valS σ (ix x) (ix y)) r) := by
  refine MW.mk "FretSchoolLaw" (by decide) rfl (Nat.le_of_ble_eq_true rfl) rfl ?_
  intro p e s m args below meth c C tbl
  change Z _ _ _ _ _ _ _ _ _ _ _ _ _ _ _ _ _ _ _ [some (.ref (ad 0 0)), some (.int x), some (.int y), some (.ref (ad 32 0)), none] 0 []
  refine z_aload_n C dL_shiftsByAll_0 rfl ?_
  refine z_iconst C (v := 0) dL_shiftsByAll_1 (by decide) ?_
  refine z_aload_n C dL_shiftsByAll_2 rfl ?_
  refine z_iload_n C dL_shiftsByAll_3 rfl ?_
  refine z_iload_n C dL_shiftsByAll_4 rfl ?_
  refine y_cvi C (As := [_, _]) (c_X5_shiftsByAll hI) okX5_shiftsByAll wd429 rc_0 (rok (by decide) (by decide)) ⟨Nat.le_of_ble_eq_true rfl, Nat.le_of_ble_eq_true rfl⟩ rfl (Nat.le_of_ble_eq_true rfl) dL_shiftsByAll_5 (fun E ce q9 u H1 locs1 ls hp hP hS hl g1 g2 g3 => by
    obtain ⟨hsm, hK0, hE⟩ := hp
    subst hsm
    obtain ⟨k, hk⟩ : ∃ k, K_byAll σ x y = k := ⟨_, rfl⟩
    rw [hk] at hK0 hE
    match k, hk, hK0, hE with
    | 0, _, hK0, _ => exact absurd rfl hK0
    | 1, hk, _, hE =>
      obtain rfl : IOOBE = E := Option.some.inj hE
      refine x_catch C (pre := []) (x := ⟨0, 10, 13, 19⟩) (suf := [⟨0, 10, 17, 13⟩]) tbl (by decide +kernel) (fun z hz => absurd hz List.not_mem_nil) (by decide) (by decide) wd275 ?_ hP hS hl g1 g2 g3
      refine z_astore C dL_shiftsByAll_13 (by decide) ?_
      dsimp only [List.set]
      refine z_iconst C (v := 1) dL_shiftsByAll_15 (by decide) ?_
      refine z_widen (mc := 3) (ms := 18) (by decide) (by decide) ?_
      refine z_iret C dL_shiftsByAll_16 ?_
      exact WPost.no hk (by decide) SameC.rf
    | 2, hk, _, hE =>
      obtain rfl : ISE = E := Option.some.inj hE
      refine x_catch C (pre := [⟨0, 10, 13, 19⟩]) (x := ⟨0, 10, 17, 13⟩) (suf := []) tbl (by decide +kernel) (List.forall_mem_cons.mpr ⟨⟨(by decide), IOOBE, by decide +kernel, by decide +kernel, wd275⟩, fun _ h => absurd h List.not_mem_nil⟩) (by decide) (by decide) wd199 ?_ hP hS hl g1 g2 g3
      refine z_astore C dL_shiftsByAll_17 (by decide) ?_
      dsimp only [List.set]
      refine z_iconst C (v := 2) dL_shiftsByAll_19 (by decide) ?_
      refine z_widen (mc := 3) (ms := 18) (by decide) (by decide) ?_
      refine z_iret C dL_shiftsByAll_20 ?_
      exact WPost.no hk (by decide) SameC.rf
    ) ?_
  rintro _ σ1 ⟨hK0, rfl, hsm⟩
  refine z_i2l C dL_shiftsByAll_8 ?_
  refine z_last C rfl dL_shiftsByAll_9 ?_
  refine z_goto C 21 dL_shiftsByAll_10 (by decide) ?_
  refine z_iconst C (v := 0) dL_shiftsByAll_21 (by decide) ?_
  refine z_widen (mc := 3) (ms := 18) (by decide) (by decide) ?_
  refine z_iret C dL_shiftsByAll_22 ?_
  exact WPost.ok hK0 (CEq.of hsm) (MEq.of hsm)
set_option maxRecDepth 100000 in
set_option maxHeartbeats 4000000 in
theorem c_L_hardest {l : Launch} {D : va_G} {ad : Nat → Nat → Nat} {cy : Nat → ClassId} {A : Nat → Prop} {sa : Nat → Nat} {σ : St} {x y : Int32} (hI : Inv σ) : MW l D ad cy A sa yL_hardest cL_hardest 5 [(0, 10, 13, 19)] 7 2 σ [.ref (ad 0 0), .int x, .int y, .ref (ad 32 0)] (fun r σ' => WPost (σ) σ σ' (K_pq σ x y) (valH σ (ix x) (ix y)) r) := by
  refine MW.mk "FretSchoolLaw" (by decide) rfl (Nat.le_of_ble_eq_true rfl) rfl ?_
  intro p e s m args below meth c C tbl
  change Z _ _ _ _ _ _ _ _ _ _ _ _ _ _ _ _ _ _ _ [some (.ref (ad 0 0)), some (.int x), some (.int y), some (.ref (ad 32 0)), none] 0 []
  refine z_aload_n C dL_hardest_0 rfl ?_
  refine z_iconst C (v := 0) dL_hardest_1 (by decide) ?_
  refine z_aload_n C dL_hardest_2 rfl ?_
  refine z_iload_n C dL_hardest_3 rfl ?_
  refine z_iload_n C dL_hardest_4 rfl ?_
  refine y_cvi C (As := [_, _]) (c_X5_hardest hI) okX5_hardest wd444 rc_0 (rok (by decide) (by decide)) ⟨Nat.le_of_ble_eq_true rfl, Nat.le_of_ble_eq_true rfl⟩ rfl (Nat.le_of_ble_eq_true rfl) dL_hardest_5 (fun E ce q9 u H1 locs1 ls hp hP hS hl g1 g2 g3 => by
    obtain ⟨hsm, hK0, hE⟩ := hp
    subst hsm
    obtain ⟨k, hk⟩ : ∃ k, K_pq σ x y = k := ⟨_, rfl⟩
    rw [hk] at hK0 hE
    match k, hk, hK0, hE with
    | 0, _, hK0, _ => exact absurd rfl hK0
    | 1, hk, _, hE =>
      obtain rfl : IOOBE = E := Option.some.inj hE
      refine x_catch C (pre := []) (x := ⟨0, 10, 13, 19⟩) (suf := []) tbl (by decide +kernel) (fun z hz => absurd hz List.not_mem_nil) (by decide) (by decide) wd275 ?_ hP hS hl g1 g2 g3
      refine z_astore C dL_hardest_13 (by decide) ?_
      dsimp only [List.set]
      refine z_iconst C (v := 1) dL_hardest_15 (by decide) ?_
      refine z_widen (mc := 2) (ms := 12) (by decide) (by decide) ?_
      refine z_iret C dL_hardest_16 ?_
      exact WPost.no hk (by decide) SameC.rf
    ) ?_
  rintro _ σ1 ⟨hK0, rfl, hsm⟩
  refine z_i2l C dL_hardest_8 ?_
  refine z_last C rfl dL_hardest_9 ?_
  refine z_goto C 17 dL_hardest_10 (by decide) ?_
  refine z_iconst C (v := 0) dL_hardest_17 (by decide) ?_
  refine z_widen (mc := 2) (ms := 12) (by decide) (by decide) ?_
  refine z_iret C dL_hardest_18 ?_
  exact WPost.ok hK0 (CEq.of hsm) (MEq.of hsm)
set_option maxRecDepth 100000 in
set_option maxHeartbeats 4000000 in
theorem c_L_position {l : Launch} {D : va_G} {ad : Nat → Nat → Nat} {cy : Nat → ClassId} {A : Nat → Prop} {sa : Nat → Nat} {σ : St} {x y z : Int32} (hI : Inv σ) : MW l D ad cy A sa yL_position cL_position 6 [(0, 12, 15, 19)] 7 4 σ [.ref (ad 0 0), .int x, .int y, .int z, .ref (ad 32 0)] (fun r σ' => WPost (σ) σ σ' (K_note σ x y z) (valP σ (ix x) (ix y) (ix z)) r) := by
  refine MW.mk "FretSchoolLaw" (by decide) rfl (Nat.le_of_ble_eq_true rfl) rfl ?_
  intro p e s m args below meth c C tbl
  change Z _ _ _ _ _ _ _ _ _ _ _ _ _ _ _ _ _ _ _ [some (.ref (ad 0 0)), some (.int x), some (.int y), some (.int z), some (.ref (ad 32 0)), none] 0 []
  refine z_aload C dL_position_0 rfl ?_
  refine z_iconst C (v := 0) dL_position_2 (by decide) ?_
  refine z_aload_n C dL_position_3 rfl ?_
  refine z_iload_n C dL_position_4 rfl ?_
  refine z_iload_n C dL_position_5 rfl ?_
  refine z_iload_n C dL_position_6 rfl ?_
  refine y_cvi C (As := [_, _, _]) (c_X5_position hI) okX5_position wd451 rc_0 (rok (by decide) (by decide)) ⟨Nat.le_of_ble_eq_true rfl, Nat.le_of_ble_eq_true rfl⟩ rfl (Nat.le_of_ble_eq_true rfl) dL_position_7 (fun E ce q9 u H1 locs1 ls hp hP hS hl g1 g2 g3 => by
    obtain ⟨hsm, hK0, hE⟩ := hp
    subst hsm
    obtain ⟨k, hk⟩ : ∃ k, K_note σ x y z = k := ⟨_, rfl⟩
    rw [hk] at hK0 hE
    match k, hk, hK0, hE with
    | 0, _, hK0, _ => exact absurd rfl hK0
    | 1, hk, _, hE =>
      obtain rfl : IOOBE = E := Option.some.inj hE
      refine x_catch C (pre := []) (x := ⟨0, 12, 15, 19⟩) (suf := []) tbl (by decide +kernel) (fun z hz => absurd hz List.not_mem_nil) (by decide) (by decide) wd275 ?_ hP hS hl g1 g2 g3
      refine z_astore C dL_position_15 (by decide) ?_
      dsimp only [List.set]
      refine z_iconst C (v := 1) dL_position_17 (by decide) ?_
      refine z_widen (mc := 4) (ms := 24) (by decide) (by decide) ?_
      refine z_iret C dL_position_18 ?_
      exact WPost.no hk (by decide) SameC.rf
    ) ?_
  rintro _ σ1 ⟨hK0, rfl, hsm⟩
  refine z_i2l C dL_position_10 ?_
  refine z_last C rfl dL_position_11 ?_
  refine z_goto C 19 dL_position_12 (by decide) ?_
  refine z_iconst C (v := 0) dL_position_19 (by decide) ?_
  refine z_widen (mc := 4) (ms := 24) (by decide) (by decide) ?_
  refine z_iret C dL_position_20 ?_
  exact WPost.ok hK0 (CEq.of hsm) (MEq.of hsm)
set_option maxRecDepth 100000 in
set_option maxHeartbeats 4000000 in
theorem c_L_string {l : Launch} {D : va_G} {ad : Nat → Nat → Nat} {cy : Nat → ClassId} {A : Nat → Prop} {sa : Nat → Nat} {σ : St} {x y z : Int32} (hI : Inv σ) : MW l D ad cy A sa yL_string cL_string 6 [(0, 12, 15, 19)] 7 4 σ [.ref (ad 0 0), .int x, .int y, .int z, .ref (ad 32 0)] (fun r σ' => WPost (σ) σ σ' (K_note σ x y z) (valT σ (ix x) (ix y) (ix z)) r) := by
  refine MW.mk "FretSchoolLaw" (by decide) rfl (Nat.le_of_ble_eq_true rfl) rfl ?_
  intro p e s m args below meth c C tbl
  change Z _ _ _ _ _ _ _ _ _ _ _ _ _ _ _ _ _ _ _ [some (.ref (ad 0 0)), some (.int x), some (.int y), some (.int z), some (.ref (ad 32 0)), none] 0 []
  refine z_aload C dL_string_0 rfl ?_
  refine z_iconst C (v := 0) dL_string_2 (by decide) ?_
  refine z_aload_n C dL_string_3 rfl ?_
  refine z_iload_n C dL_string_4 rfl ?_
  refine z_iload_n C dL_string_5 rfl ?_
  refine z_iload_n C dL_string_6 rfl ?_
  refine y_cvi C (As := [_, _, _]) (c_X5_string hI) okX5_string wd458 rc_0 (rok (by decide) (by decide)) ⟨Nat.le_of_ble_eq_true rfl, Nat.le_of_ble_eq_true rfl⟩ rfl (Nat.le_of_ble_eq_true rfl) dL_string_7 (fun E ce q9 u H1 locs1 ls hp hP hS hl g1 g2 g3 => by
    obtain ⟨hsm, hK0, hE⟩ := hp
    subst hsm
    obtain ⟨k, hk⟩ : ∃ k, K_note σ x y z = k := ⟨_, rfl⟩
    rw [hk] at hK0 hE
    match k, hk, hK0, hE with
    | 0, _, hK0, _ => exact absurd rfl hK0
    | 1, hk, _, hE =>
      obtain rfl : IOOBE = E := Option.some.inj hE
      refine x_catch C (pre := []) (x := ⟨0, 12, 15, 19⟩) (suf := []) tbl (by decide +kernel) (fun z hz => absurd hz List.not_mem_nil) (by decide) (by decide) wd275 ?_ hP hS hl g1 g2 g3
      refine z_astore C dL_string_15 (by decide) ?_
      dsimp only [List.set]
      refine z_iconst C (v := 1) dL_string_17 (by decide) ?_
      refine z_widen (mc := 4) (ms := 24) (by decide) (by decide) ?_
      refine z_iret C dL_string_18 ?_
      exact WPost.no hk (by decide) SameC.rf
    ) ?_
  rintro _ σ1 ⟨hK0, rfl, hsm⟩
  refine z_i2l C dL_string_10 ?_
  refine z_last C rfl dL_string_11 ?_
  refine z_goto C 19 dL_string_12 (by decide) ?_
  refine z_iconst C (v := 0) dL_string_19 (by decide) ?_
  refine z_widen (mc := 4) (ms := 24) (by decide) (by decide) ?_
  refine z_iret C dL_string_20 ?_
  exact WPost.ok hK0 (CEq.of hsm) (MEq.of hsm)
set_option maxRecDepth 100000 in
set_option maxHeartbeats 4000000 in
theorem c_L_learn {l : Launch} {D : va_G} {ad : Nat → Nat → Nat} {cy : Nat → ClassId} {A : Nat → Prop} {sa : Nat → Nat} {σ : St} {x y z : Int32} (hI : Inv σ) : MW l D ad cy A sa yL_learn cL_learn 6 [(0, 12, 15, 19), (0, 12, 19, 21), (0, 12, 23, 13)] 8 4 σ [.ref (ad 0 0), .int x, .int y, .int z, .ref (ad 32 0)] (fun r σ' => WPost (learnS σ σ x y z) σ σ' (K_learn σ x y z) (lvL σ x y z) r) := by
  refine MW.mk "FretSchoolLaw" (by decide) rfl (Nat.le_of_ble_eq_true rfl) rfl ?_
  intro p e s m args below meth c C tbl
  change Z _ _ _ _ _ _ _ _ _ _ _ _ _ _ _ _ _ _ _ [some (.ref (ad 0 0)), some (.int x), some (.int y), some (.int z), some (.ref (ad 32 0)), none] 0 []
  refine z_aload C dL_learn_0 rfl ?_
  refine z_iconst C (v := 0) dL_learn_2 (by decide) ?_
  refine z_aload_n C dL_learn_3 rfl ?_
  refine z_iload_n C dL_learn_4 rfl ?_
  refine z_iload_n C dL_learn_5 rfl ?_
  refine z_iload_n C dL_learn_6 rfl ?_
  refine y_cvi C (As := [_, _, _]) (c_X5_learn hI) okX5_learn wd466 rc_0 (rok (by decide) (by decide)) ⟨Nat.le_of_ble_eq_true rfl, Nat.le_of_ble_eq_true rfl⟩ rfl (Nat.le_of_ble_eq_true rfl) dL_learn_7 (fun E ce q9 u H1 locs1 ls hp hP hS hl g1 g2 g3 => by
    obtain ⟨hsm, hK0, hE⟩ := hp
    obtain ⟨k, hk⟩ : ∃ k, K_learn σ x y z = k := ⟨_, rfl⟩
    rw [hk] at hK0 hE
    match k, hk, hK0, hE with
    | 0, _, hK0, _ => exact absurd rfl hK0
    | 1, hk, _, hE =>
      obtain rfl : IOOBE = E := Option.some.inj hE
      refine x_catch C (pre := []) (x := ⟨0, 12, 15, 19⟩) (suf := [⟨0, 12, 19, 21⟩, ⟨0, 12, 23, 13⟩]) tbl (by decide +kernel) (fun z hz => absurd hz List.not_mem_nil) (by decide) (by decide) wd275 ?_ hP hS hl g1 g2 g3
      refine z_astore C dL_learn_15 (by decide) ?_
      dsimp only [List.set]
      refine z_iconst C (v := 1) dL_learn_17 (by decide) ?_
      refine z_widen (mc := 4) (ms := 24) (by decide) (by decide) ?_
      refine z_iret C dL_learn_18 ?_
      exact WPost.no hk (by decide) hsm
    | 2, hk, _, hE =>
      obtain rfl : IAE = E := Option.some.inj hE
      refine x_catch C (pre := [⟨0, 12, 15, 19⟩]) (x := ⟨0, 12, 19, 21⟩) (suf := [⟨0, 12, 23, 13⟩]) tbl (by decide +kernel) (List.forall_mem_cons.mpr ⟨⟨(by decide), IOOBE, by decide +kernel, by decide +kernel, wd275⟩, fun _ h => absurd h List.not_mem_nil⟩) (by decide) (by decide) wd276 ?_ hP hS hl g1 g2 g3
      refine z_astore C dL_learn_19 (by decide) ?_
      dsimp only [List.set]
      refine z_iconst C (v := 2) dL_learn_21 (by decide) ?_
      refine z_widen (mc := 4) (ms := 24) (by decide) (by decide) ?_
      refine z_iret C dL_learn_22 ?_
      exact WPost.no hk (by decide) hsm
    | 3, hk, _, hE =>
      obtain rfl : ISE = E := Option.some.inj hE
      refine x_catch C (pre := [⟨0, 12, 15, 19⟩, ⟨0, 12, 19, 21⟩]) (x := ⟨0, 12, 23, 13⟩) (suf := []) tbl (by decide +kernel) (List.forall_mem_cons.mpr ⟨⟨(by decide), IOOBE, by decide +kernel, by decide +kernel, wd275⟩, List.forall_mem_cons.mpr ⟨⟨(by decide), IAE, by decide +kernel, by decide +kernel, wd276⟩, fun _ h => absurd h List.not_mem_nil⟩⟩) (by decide) (by decide) wd199 ?_ hP hS hl g1 g2 g3
      refine z_astore C dL_learn_23 (by decide) ?_
      dsimp only [List.set]
      refine z_iconst C (v := 3) dL_learn_25 (by decide) ?_
      refine z_widen (mc := 4) (ms := 24) (by decide) (by decide) ?_
      refine z_iret C dL_learn_26 ?_
      exact WPost.no hk (by decide) hsm
    ) ?_
  rintro _ _ ⟨hK0, rfl, σ1, hsm, rfl⟩
  refine z_i2l C dL_learn_10 ?_
  refine z_last C rfl dL_learn_11 ?_
  refine z_goto C 27 dL_learn_12 (by decide) ?_
  refine z_iconst C (v := 0) dL_learn_27 (by decide) ?_
  refine z_widen (mc := 4) (ms := 24) (by decide) (by decide) ?_
  refine z_iret C dL_learn_28 ?_
  exact WPost.ok hK0 (((CEq.of hsm).up).up) (((MEq.of hsm).up (by decide)).up (by decide))
set_option maxRecDepth 100000 in
set_option maxHeartbeats 4000000 in
theorem c_L_level {l : Launch} {D : va_G} {ad : Nat → Nat → Nat} {cy : Nat → ClassId} {A : Nat → Prop} {sa : Nat → Nat} {σ : St} {x : Int32} : MW l D ad cy A sa yL_level cL_level 4 [(0, 9, 12, 21)] 3 1 σ [.ref (ad 0 0), .int x, .ref (ad 32 0)] (fun r σ' => WPost (σ) σ σ' (K_pupil x) (σ 15 (ix x) 0) r) := by
  refine MW.mk "FretSchoolLaw" (by decide) rfl (Nat.le_of_ble_eq_true rfl) rfl ?_
  intro p e s m args below meth c C tbl
  change Z _ _ _ _ _ _ _ _ _ _ _ _ _ _ _ _ _ _ _ [some (.ref (ad 0 0)), some (.int x), some (.ref (ad 32 0)), none] 0 []
  refine z_aload_n C dL_level_0 rfl ?_
  refine z_iconst C (v := 0) dL_level_1 (by decide) ?_
  refine z_aload_n C dL_level_2 rfl ?_
  refine z_iload_n C dL_level_3 rfl ?_
  refine y_cvi C (As := [_]) (c_X5_level) okX5_level wd490 rc_0 (rok (by decide) (by decide)) ⟨Nat.le_of_ble_eq_true rfl, Nat.le_of_ble_eq_true rfl⟩ rfl (Nat.le_of_ble_eq_true rfl) dL_level_4 (fun E ce q9 u H1 locs1 ls hp hP hS hl g1 g2 g3 => by
    obtain ⟨hsm, hK0, hE⟩ := hp
    subst hsm
    obtain ⟨k, hk⟩ : ∃ k, K_pupil x = k := ⟨_, rfl⟩
    rw [hk] at hK0 hE
    match k, hk, hK0, hE with
    | 0, _, hK0, _ => exact absurd rfl hK0
    | 1, hk, _, hE =>
      obtain rfl : IAE = E := Option.some.inj hE
      refine x_catch C (pre := []) (x := ⟨0, 9, 12, 21⟩) (suf := []) tbl (by decide +kernel) (fun z hz => absurd hz List.not_mem_nil) (by decide) (by decide) wd276 ?_ hP hS hl g1 g2 g3
      refine z_astore_n C dL_level_12 (by decide) ?_
      dsimp only [List.set]
      refine z_iconst C (v := 1) dL_level_13 (by decide) ?_
      refine z_widen (mc := 1) (ms := 6) (by decide) (by decide) ?_
      refine z_iret C dL_level_14 ?_
      exact WPost.no hk (by decide) SameC.rf
    ) ?_
  rintro _ _ ⟨hK0, rfl, rfl⟩
  refine z_i2l C dL_level_7 ?_
  refine z_last C rfl dL_level_8 ?_
  refine z_goto C 15 dL_level_9 (by decide) ?_
  refine z_iconst C (v := 0) dL_level_15 (by decide) ?_
  refine z_widen (mc := 1) (ms := 6) (by decide) (by decide) ?_
  refine z_iret C dL_level_16 ?_
  exact WPost.ok hK0 (CEq.rf) (MEq.rf)
set_option maxRecDepth 100000 in
set_option maxHeartbeats 4000000 in
theorem c_L_known {l : Launch} {D : va_G} {ad : Nat → Nat → Nat} {cy : Nat → ClassId} {A : Nat → Prop} {sa : Nat → Nat} {σ : St} {x : Int32} : MW l D ad cy A sa yL_known cL_known 4 [(0, 9, 12, 21)] 3 1 σ [.ref (ad 0 0), .int x, .ref (ad 32 0)] (fun r σ' => WPost (σ) σ σ' (K_pupil x) (σ 15 (ix x) 1) r) := by
  refine MW.mk "FretSchoolLaw" (by decide) rfl (Nat.le_of_ble_eq_true rfl) rfl ?_
  intro p e s m args below meth c C tbl
  change Z _ _ _ _ _ _ _ _ _ _ _ _ _ _ _ _ _ _ _ [some (.ref (ad 0 0)), some (.int x), some (.ref (ad 32 0)), none] 0 []
  refine z_aload_n C dL_known_0 rfl ?_
  refine z_iconst C (v := 0) dL_known_1 (by decide) ?_
  refine z_aload_n C dL_known_2 rfl ?_
  refine z_iload_n C dL_known_3 rfl ?_
  refine y_cvi C (As := [_]) (c_X5_known) okX5_known wd497 rc_0 (rok (by decide) (by decide)) ⟨Nat.le_of_ble_eq_true rfl, Nat.le_of_ble_eq_true rfl⟩ rfl (Nat.le_of_ble_eq_true rfl) dL_known_4 (fun E ce q9 u H1 locs1 ls hp hP hS hl g1 g2 g3 => by
    obtain ⟨hsm, hK0, hE⟩ := hp
    subst hsm
    obtain ⟨k, hk⟩ : ∃ k, K_pupil x = k := ⟨_, rfl⟩
    rw [hk] at hK0 hE
    match k, hk, hK0, hE with
    | 0, _, hK0, _ => exact absurd rfl hK0
    | 1, hk, _, hE =>
      obtain rfl : IAE = E := Option.some.inj hE
      refine x_catch C (pre := []) (x := ⟨0, 9, 12, 21⟩) (suf := []) tbl (by decide +kernel) (fun z hz => absurd hz List.not_mem_nil) (by decide) (by decide) wd276 ?_ hP hS hl g1 g2 g3
      refine z_astore_n C dL_known_12 (by decide) ?_
      dsimp only [List.set]
      refine z_iconst C (v := 1) dL_known_13 (by decide) ?_
      refine z_widen (mc := 1) (ms := 6) (by decide) (by decide) ?_
      refine z_iret C dL_known_14 ?_
      exact WPost.no hk (by decide) SameC.rf
    ) ?_
  rintro _ _ ⟨hK0, rfl, rfl⟩
  refine z_i2l C dL_known_7 ?_
  refine z_last C rfl dL_known_8 ?_
  refine z_goto C 15 dL_known_9 (by decide) ?_
  refine z_iconst C (v := 0) dL_known_15 (by decide) ?_
  refine z_widen (mc := 1) (ms := 6) (by decide) (by decide) ?_
  refine z_iret C dL_known_16 ?_
  exact WPost.ok hK0 (CEq.rf) (MEq.rf)
set_option maxRecDepth 100000 in
set_option maxHeartbeats 4000000 in
theorem c_L_next {l : Launch} {D : va_G} {ad : Nat → Nat → Nat} {cy : Nat → ClassId} {A : Nat → Prop} {sa : Nat → Nat} {σ : St} {x : Int32} (hI : Inv σ) : MW l D ad cy A sa yL_next cL_next 4 [(0, 9, 12, 21)] 9 1 σ [.ref (ad 0 0), .int x, .ref (ad 32 0)] (fun r σ' => WPost (σ) σ σ' (K_pupil x) ((nxV σ x (ix (σ 0 0 7)) (ix (σ 0 0 6))).1) r) := by
  refine MW.mk "FretSchoolLaw" (by decide) rfl (Nat.le_of_ble_eq_true rfl) rfl ?_
  intro p e s m args below meth c C tbl
  change Z _ _ _ _ _ _ _ _ _ _ _ _ _ _ _ _ _ _ _ [some (.ref (ad 0 0)), some (.int x), some (.ref (ad 32 0)), none] 0 []
  refine z_aload_n C dL_next_0 rfl ?_
  refine z_iconst C (v := 0) dL_next_1 (by decide) ?_
  refine z_aload_n C dL_next_2 rfl ?_
  refine z_iload_n C dL_next_3 rfl ?_
  refine y_cvi C (As := [_]) (c_X5_next hI) okX5_next wd504 rc_0 (rok (by decide) (by decide)) ⟨Nat.le_of_ble_eq_true rfl, Nat.le_of_ble_eq_true rfl⟩ rfl (Nat.le_of_ble_eq_true rfl) dL_next_4 (fun E ce q9 u H1 locs1 ls hp hP hS hl g1 g2 g3 => by
    obtain ⟨hsm, hK0, hE⟩ := hp
    subst hsm
    obtain ⟨k, hk⟩ : ∃ k, K_pupil x = k := ⟨_, rfl⟩
    rw [hk] at hK0 hE
    match k, hk, hK0, hE with
    | 0, _, hK0, _ => exact absurd rfl hK0
    | 1, hk, _, hE =>
      obtain rfl : IAE = E := Option.some.inj hE
      refine x_catch C (pre := []) (x := ⟨0, 9, 12, 21⟩) (suf := []) tbl (by decide +kernel) (fun z hz => absurd hz List.not_mem_nil) (by decide) (by decide) wd276 ?_ hP hS hl g1 g2 g3
      refine z_astore_n C dL_next_12 (by decide) ?_
      dsimp only [List.set]
      refine z_iconst C (v := 1) dL_next_13 (by decide) ?_
      refine z_widen (mc := 1) (ms := 6) (by decide) (by decide) ?_
      refine z_iret C dL_next_14 ?_
      exact WPost.no hk (by decide) SameC.rf
    ) ?_
  rintro _ σ1 ⟨hK0, hsm, rfl⟩
  refine z_i2l C dL_next_7 ?_
  refine z_last C rfl dL_next_8 ?_
  refine z_goto C 15 dL_next_9 (by decide) ?_
  refine z_iconst C (v := 0) dL_next_15 (by decide) ?_
  refine z_widen (mc := 1) (ms := 6) (by decide) (by decide) ?_
  refine z_iret C dL_next_16 ?_
  exact WPost.ok hK0 (CEq.of hsm) (MEq.of hsm)
set_option maxRecDepth 100000 in
set_option maxHeartbeats 4000000 in
theorem c_L_addWood {l : Launch} {D : va_G} {ad : Nat → Nat → Nat} {cy : Nat → ClassId} {A : Nat → Prop} {sa : Nat → Nat} {σ : St} {x y : Int32} : MW l D ad cy A sa yL_addWood cL_addWood 5 [(0, 10, 13, 21)] 2 2 σ [.ref (ad 0 0), .int x, .int y, .ref (ad 32 0)] (fun r σ' => WPost (up σ 5 0 (ix x) (σ 5 0 (ix x) + y)) σ σ' (K_wood x y) (σ 5 0 (ix x) + y) r) := by
  refine MW.mk "FretSchoolLaw" (by decide) rfl (Nat.le_of_ble_eq_true rfl) rfl ?_
  intro p e s m args below meth c C tbl
  change Z _ _ _ _ _ _ _ _ _ _ _ _ _ _ _ _ _ _ _ [some (.ref (ad 0 0)), some (.int x), some (.int y), some (.ref (ad 32 0)), none] 0 []
  refine z_aload_n C dL_addWood_0 rfl ?_
  refine z_iconst C (v := 0) dL_addWood_1 (by decide) ?_
  refine z_aload_n C dL_addWood_2 rfl ?_
  refine z_iload_n C dL_addWood_3 rfl ?_
  refine z_iload_n C dL_addWood_4 rfl ?_
  refine y_cvi C (As := [_, _]) (c_X5_addWood) okX5_addWood wd515 rc_0 (rok (by decide) (by decide)) ⟨Nat.le_of_ble_eq_true rfl, Nat.le_of_ble_eq_true rfl⟩ rfl (Nat.le_of_ble_eq_true rfl) dL_addWood_5 (fun E ce q9 u H1 locs1 ls hp hP hS hl g1 g2 g3 => by
    obtain ⟨hsm, hK0, hE⟩ := hp
    subst hsm
    obtain ⟨k, hk⟩ : ∃ k, K_wood x y = k := ⟨_, rfl⟩
    rw [hk] at hK0 hE
    match k, hk, hK0, hE with
    | 0, _, hK0, _ => exact absurd rfl hK0
    | 1, hk, _, hE =>
      obtain rfl : IAE = E := Option.some.inj hE
      refine x_catch C (pre := []) (x := ⟨0, 10, 13, 21⟩) (suf := []) tbl (by decide +kernel) (fun z hz => absurd hz List.not_mem_nil) (by decide) (by decide) wd276 ?_ hP hS hl g1 g2 g3
      refine z_astore C dL_addWood_13 (by decide) ?_
      dsimp only [List.set]
      refine z_iconst C (v := 1) dL_addWood_15 (by decide) ?_
      refine z_widen (mc := 2) (ms := 12) (by decide) (by decide) ?_
      refine z_iret C dL_addWood_16 ?_
      exact WPost.no hk (by decide) SameC.rf
    ) ?_
  rintro _ _ ⟨hK0, rfl, rfl⟩
  refine z_i2l C dL_addWood_8 ?_
  refine z_last C rfl dL_addWood_9 ?_
  refine z_goto C 17 dL_addWood_10 (by decide) ?_
  refine z_iconst C (v := 0) dL_addWood_17 (by decide) ?_
  refine z_widen (mc := 2) (ms := 12) (by decide) (by decide) ?_
  refine z_iret C dL_addWood_18 ?_
  exact WPost.ok hK0 (CEq.rf) ((MEq.rf.up (by decide)))
set_option maxRecDepth 100000 in
set_option maxHeartbeats 4000000 in
theorem c_L_order {l : Launch} {D : va_G} {ad : Nat → Nat → Nat} {cy : Nat → ClassId} {A : Nat → Prop} {sa : Nat → Nat} {σ : St} {x y z : Int32} (hI : Inv σ) : MW l D ad cy A sa yL_order cL_order 6 [(0, 12, 15, 21), (0, 12, 19, 13)] 3 4 σ [.ref (ad 0 0), .int x, .int y, .int z, .ref (ad 32 0)] (fun r σ' => WPost (orderS σ (ix (σ 0 0 8)) x y z) σ σ' (K_order σ x y z) (σ 0 0 8) r) := by
  refine MW.mk "FretSchoolLaw" (by decide) rfl (Nat.le_of_ble_eq_true rfl) rfl ?_
  intro p e s m args below meth c C tbl
  change Z _ _ _ _ _ _ _ _ _ _ _ _ _ _ _ _ _ _ _ [some (.ref (ad 0 0)), some (.int x), some (.int y), some (.int z), some (.ref (ad 32 0)), none] 0 []
  refine z_aload C dL_order_0 rfl ?_
  refine z_iconst C (v := 0) dL_order_2 (by decide) ?_
  refine z_aload_n C dL_order_3 rfl ?_
  refine z_iload_n C dL_order_4 rfl ?_
  refine z_iload_n C dL_order_5 rfl ?_
  refine z_iload_n C dL_order_6 rfl ?_
  refine y_cvi C (As := [_, _, _]) (c_X5_order hI) okX5_order wd522 rc_0 (rok (by decide) (by decide)) ⟨Nat.le_of_ble_eq_true rfl, Nat.le_of_ble_eq_true rfl⟩ rfl (Nat.le_of_ble_eq_true rfl) dL_order_7 (fun E ce q9 u H1 locs1 ls hp hP hS hl g1 g2 g3 => by
    obtain ⟨hsm, hK0, hE⟩ := hp
    subst hsm
    obtain ⟨k, hk⟩ : ∃ k, K_order σ x y z = k := ⟨_, rfl⟩
    rw [hk] at hK0 hE
    match k, hk, hK0, hE with
    | 0, _, hK0, _ => exact absurd rfl hK0
    | 1, hk, _, hE =>
      obtain rfl : IAE = E := Option.some.inj hE
      refine x_catch C (pre := []) (x := ⟨0, 12, 15, 21⟩) (suf := [⟨0, 12, 19, 13⟩]) tbl (by decide +kernel) (fun z hz => absurd hz List.not_mem_nil) (by decide) (by decide) wd276 ?_ hP hS hl g1 g2 g3
      refine z_astore C dL_order_15 (by decide) ?_
      dsimp only [List.set]
      refine z_iconst C (v := 1) dL_order_17 (by decide) ?_
      refine z_widen (mc := 4) (ms := 24) (by decide) (by decide) ?_
      refine z_iret C dL_order_18 ?_
      exact WPost.no hk (by decide) SameC.rf
    | 2, hk, _, hE =>
      obtain rfl : ISE = E := Option.some.inj hE
      refine x_catch C (pre := [⟨0, 12, 15, 21⟩]) (x := ⟨0, 12, 19, 13⟩) (suf := []) tbl (by decide +kernel) (List.forall_mem_cons.mpr ⟨⟨(by decide), IAE, by decide +kernel, by decide +kernel, wd276⟩, fun _ h => absurd h List.not_mem_nil⟩) (by decide) (by decide) wd199 ?_ hP hS hl g1 g2 g3
      refine z_astore C dL_order_19 (by decide) ?_
      dsimp only [List.set]
      refine z_iconst C (v := 2) dL_order_21 (by decide) ?_
      refine z_widen (mc := 4) (ms := 24) (by decide) (by decide) ?_
      refine z_iret C dL_order_22 ?_
      exact WPost.no hk (by decide) SameC.rf
    ) ?_
  rintro _ _ ⟨hK0, rfl, rfl⟩
  refine z_i2l C dL_order_10 ?_
  refine z_last C rfl dL_order_11 ?_
  refine z_goto C 23 dL_order_12 (by decide) ?_
  refine z_iconst C (v := 0) dL_order_23 (by decide) ?_
  refine z_widen (mc := 4) (ms := 24) (by decide) (by decide) ?_
  refine z_iret C dL_order_24 ?_
  exact WPost.ok hK0 (CEq.rf) ((((((MEq.rf.up (by decide)).up (by decide)).up (by decide)).up (by decide)).up (by decide)))
set_option maxRecDepth 100000 in
set_option maxHeartbeats 4000000 in
theorem c_L_ready {l : Launch} {D : va_G} {ad : Nat → Nat → Nat} {cy : Nat → ClassId} {A : Nat → Prop} {sa : Nat → Nat} {σ : St} {x : Int32} (hI : Inv σ) : MW l D ad cy A sa yL_ready cL_ready 4 [(0, 9, 12, 19)] 2 1 σ [.ref (ad 0 0), .int x, .ref (ad 32 0)] (fun r σ' => WPost (σ) σ σ' (K_ready σ x) (σ 16 (ix x) 2) r) := by
  refine MW.mk "FretSchoolLaw" (by decide) rfl (Nat.le_of_ble_eq_true rfl) rfl ?_
  intro p e s m args below meth c C tbl
  change Z _ _ _ _ _ _ _ _ _ _ _ _ _ _ _ _ _ _ _ [some (.ref (ad 0 0)), some (.int x), some (.ref (ad 32 0)), none] 0 []
  refine z_aload_n C dL_ready_0 rfl ?_
  refine z_iconst C (v := 0) dL_ready_1 (by decide) ?_
  refine z_aload_n C dL_ready_2 rfl ?_
  refine z_iload_n C dL_ready_3 rfl ?_
  refine y_cvi C (As := [_]) (c_X5_ready hI) okX5_ready wd544 rc_0 (rok (by decide) (by decide)) ⟨Nat.le_of_ble_eq_true rfl, Nat.le_of_ble_eq_true rfl⟩ rfl (Nat.le_of_ble_eq_true rfl) dL_ready_4 (fun E ce q9 u H1 locs1 ls hp hP hS hl g1 g2 g3 => by
    obtain ⟨hsm, hK0, hE⟩ := hp
    subst hsm
    obtain ⟨k, hk⟩ : ∃ k, K_ready σ x = k := ⟨_, rfl⟩
    rw [hk] at hK0 hE
    match k, hk, hK0, hE with
    | 0, _, hK0, _ => exact absurd rfl hK0
    | 1, hk, _, hE =>
      obtain rfl : IOOBE = E := Option.some.inj hE
      refine x_catch C (pre := []) (x := ⟨0, 9, 12, 19⟩) (suf := []) tbl (by decide +kernel) (fun z hz => absurd hz List.not_mem_nil) (by decide) (by decide) wd275 ?_ hP hS hl g1 g2 g3
      refine z_astore_n C dL_ready_12 (by decide) ?_
      dsimp only [List.set]
      refine z_iconst C (v := 1) dL_ready_13 (by decide) ?_
      refine z_widen (mc := 1) (ms := 6) (by decide) (by decide) ?_
      refine z_iret C dL_ready_14 ?_
      exact WPost.no hk (by decide) SameC.rf
    ) ?_
  rintro _ _ ⟨hK0, rfl, rfl⟩
  refine z_i2l C dL_ready_7 ?_
  refine z_last C rfl dL_ready_8 ?_
  refine z_goto C 15 dL_ready_9 (by decide) ?_
  refine z_iconst C (v := 0) dL_ready_15 (by decide) ?_
  refine z_widen (mc := 1) (ms := 6) (by decide) (by decide) ?_
  refine z_iret C dL_ready_16 ?_
  exact WPost.ok hK0 (CEq.rf) (MEq.rf)
set_option maxRecDepth 100000 in
set_option maxHeartbeats 4000000 in
theorem c_L_fetch {l : Launch} {D : va_G} {ad : Nat → Nat → Nat} {cy : Nat → ClassId} {A : Nat → Prop} {sa : Nat → Nat} {σ : St} {x a b c0 d0 : Int32} (hI : Inv σ) : MW l D ad cy A sa yL_fetch cL_fetch 8 [(0, 16, 19, 19), (0, 16, 23, 21), (0, 16, 27, 13)] 2 6 σ [.ref (ad 0 0), .int x, .int a, .int b, .int c0, .int d0, .ref (ad 32 0)] (fun r σ' => WPost (fetchS σ (ix x) (ix (σ 0 0 7)) a b c0 d0) σ σ' (K_fetch σ x a b c0 d0) (σ 0 0 7) r) := by
  refine MW.mk "FretSchoolLaw" (by decide) rfl (Nat.le_of_ble_eq_true rfl) rfl ?_
  intro p e s m args below meth c C tbl
  change Z _ _ _ _ _ _ _ _ _ _ _ _ _ _ _ _ _ _ _ [some (.ref (ad 0 0)), some (.int x), some (.int a), some (.int b), some (.int c0), some (.int d0), some (.ref (ad 32 0)), none] 0 []
  refine z_aload C dL_fetch_0 rfl ?_
  refine z_iconst C (v := 0) dL_fetch_2 (by decide) ?_
  refine z_aload_n C dL_fetch_3 rfl ?_
  refine z_iload_n C dL_fetch_4 rfl ?_
  refine z_iload_n C dL_fetch_5 rfl ?_
  refine z_iload_n C dL_fetch_6 rfl ?_
  refine z_iload C dL_fetch_7 rfl ?_
  refine z_iload C dL_fetch_9 rfl ?_
  refine y_cvi C (As := [_, _, _, _, _]) (c_X5_fetch hI) okX5_fetch wd556 rc_0 (rok (by decide) (by decide)) ⟨Nat.le_of_ble_eq_true rfl, Nat.le_of_ble_eq_true rfl⟩ rfl (Nat.le_of_ble_eq_true rfl) dL_fetch_11 (fun E ce q9 u H1 locs1 ls hp hP hS hl g1 g2 g3 => by
    obtain ⟨hsm, hK0, hE⟩ := hp
    subst hsm
    obtain ⟨k, hk⟩ : ∃ k, K_fetch σ x a b c0 d0 = k := ⟨_, rfl⟩
    rw [hk] at hK0 hE
    match k, hk, hK0, hE with
    | 0, _, hK0, _ => exact absurd rfl hK0
    | 1, hk, _, hE =>
      obtain rfl : IOOBE = E := Option.some.inj hE
      refine x_catch C (pre := []) (x := ⟨0, 16, 19, 19⟩) (suf := [⟨0, 16, 23, 21⟩, ⟨0, 16, 27, 13⟩]) tbl (by decide +kernel) (fun z hz => absurd hz List.not_mem_nil) (by decide) (by decide) wd275 ?_ hP hS hl g1 g2 g3
      refine z_astore C dL_fetch_19 (by decide) ?_
      dsimp only [List.set]
      refine z_iconst C (v := 1) dL_fetch_21 (by decide) ?_
      refine z_widen (mc := 6) (ms := 36) (by decide) (by decide) ?_
      refine z_iret C dL_fetch_22 ?_
      exact WPost.no hk (by decide) SameC.rf
    | 2, hk, _, hE =>
      obtain rfl : IAE = E := Option.some.inj hE
      refine x_catch C (pre := [⟨0, 16, 19, 19⟩]) (x := ⟨0, 16, 23, 21⟩) (suf := [⟨0, 16, 27, 13⟩]) tbl (by decide +kernel) (List.forall_mem_cons.mpr ⟨⟨(by decide), IOOBE, by decide +kernel, by decide +kernel, wd275⟩, fun _ h => absurd h List.not_mem_nil⟩) (by decide) (by decide) wd276 ?_ hP hS hl g1 g2 g3
      refine z_astore C dL_fetch_23 (by decide) ?_
      dsimp only [List.set]
      refine z_iconst C (v := 2) dL_fetch_25 (by decide) ?_
      refine z_widen (mc := 6) (ms := 36) (by decide) (by decide) ?_
      refine z_iret C dL_fetch_26 ?_
      exact WPost.no hk (by decide) SameC.rf
    | 3, hk, _, hE =>
      obtain rfl : ISE = E := Option.some.inj hE
      refine x_catch C (pre := [⟨0, 16, 19, 19⟩, ⟨0, 16, 23, 21⟩]) (x := ⟨0, 16, 27, 13⟩) (suf := []) tbl (by decide +kernel) (List.forall_mem_cons.mpr ⟨⟨(by decide), IOOBE, by decide +kernel, by decide +kernel, wd275⟩, List.forall_mem_cons.mpr ⟨⟨(by decide), IAE, by decide +kernel, by decide +kernel, wd276⟩, fun _ h => absurd h List.not_mem_nil⟩⟩) (by decide) (by decide) wd199 ?_ hP hS hl g1 g2 g3
      refine z_astore C dL_fetch_27 (by decide) ?_
      dsimp only [List.set]
      refine z_iconst C (v := 3) dL_fetch_29 (by decide) ?_
      refine z_widen (mc := 6) (ms := 36) (by decide) (by decide) ?_
      refine z_iret C dL_fetch_30 ?_
      exact WPost.no hk (by decide) SameC.rf
    ) ?_
  rintro _ _ ⟨hK0, rfl, rfl⟩
  refine z_i2l C dL_fetch_14 ?_
  refine z_last C rfl dL_fetch_15 ?_
  refine z_goto C 31 dL_fetch_16 (by decide) ?_
  refine z_iconst C (v := 0) dL_fetch_31 (by decide) ?_
  refine z_widen (mc := 6) (ms := 36) (by decide) (by decide) ?_
  refine z_iret C dL_fetch_32 ?_
  exact WPost.ok hK0 (CEq.rf) (((((((((MEq.rf.up (by decide)).up (by decide)).up (by decide)).up (by decide)).up (by decide)).up (by decide)).up (by decide)).up (by decide)))
set_option maxRecDepth 100000 in
set_option maxHeartbeats 4000000 in
theorem c_L_pass {l : Launch} {D : va_G} {ad : Nat → Nat → Nat} {cy : Nat → ClassId} {A : Nat → Prop} {sa : Nat → Nat} {σ : St} {x : Int32} : MW l D ad cy A sa yL_pass cL_pass 4 [(0, 9, 12, 21), (0, 9, 15, 13)] 2 2 σ [.ref (ad 0 0), .int x, .ref (ad 32 0)] (fun r σ' => WPost (up σ 0 0 9 (σ 0 0 9 + x)) σ σ' (K_pass σ x) (σ 0 0 9 + x) r) := by
  refine MW.mk "FretSchoolLaw" (by decide) rfl (Nat.le_of_ble_eq_true rfl) rfl ?_
  intro p e s m args below meth c C tbl
  change Z _ _ _ _ _ _ _ _ _ _ _ _ _ _ _ _ _ _ _ [some (.ref (ad 0 0)), some (.int x), some (.ref (ad 32 0)), none] 0 []
  refine z_aload_n C dL_pass_0 rfl ?_
  refine z_iconst C (v := 0) dL_pass_1 (by decide) ?_
  refine z_aload_n C dL_pass_2 rfl ?_
  refine z_iload_n C dL_pass_3 rfl ?_
  refine y_cvi C (As := [_]) (c_X5_pass) okX5_pass wd574 rc_0 (rok (by decide) (by decide)) ⟨Nat.le_of_ble_eq_true rfl, Nat.le_of_ble_eq_true rfl⟩ rfl (Nat.le_of_ble_eq_true rfl) dL_pass_4 (fun E ce q9 u H1 locs1 ls hp hP hS hl g1 g2 g3 => by
    obtain ⟨hsm, hK0, hE⟩ := hp
    subst hsm
    obtain ⟨k, hk⟩ : ∃ k, K_pass σ x = k := ⟨_, rfl⟩
    rw [hk] at hK0 hE
    match k, hk, hK0, hE with
    | 0, _, hK0, _ => exact absurd rfl hK0
    | 1, hk, _, hE =>
      obtain rfl : IAE = E := Option.some.inj hE
      refine x_catch C (pre := []) (x := ⟨0, 9, 12, 21⟩) (suf := [⟨0, 9, 15, 13⟩]) tbl (by decide +kernel) (fun z hz => absurd hz List.not_mem_nil) (by decide) (by decide) wd276 ?_ hP hS hl g1 g2 g3
      refine z_astore_n C dL_pass_12 (by decide) ?_
      dsimp only [List.set]
      refine z_iconst C (v := 1) dL_pass_13 (by decide) ?_
      refine z_widen (mc := 2) (ms := 12) (by decide) (by decide) ?_
      refine z_iret C dL_pass_14 ?_
      exact WPost.no hk (by decide) SameC.rf
    | 2, hk, _, hE =>
      obtain rfl : ISE = E := Option.some.inj hE
      refine x_catch C (pre := [⟨0, 9, 12, 21⟩]) (x := ⟨0, 9, 15, 13⟩) (suf := []) tbl (by decide +kernel) (List.forall_mem_cons.mpr ⟨⟨(by decide), IAE, by decide +kernel, by decide +kernel, wd276⟩, fun _ h => absurd h List.not_mem_nil⟩) (by decide) (by decide) wd199 ?_ hP hS hl g1 g2 g3
      refine z_astore_n C dL_pass_15 (by decide) ?_
      dsimp only [List.set]
      refine z_iconst C (v := 2) dL_pass_16 (by decide) ?_
      refine z_widen (mc := 2) (ms := 12) (by decide) (by decide) ?_
      refine z_iret C dL_pass_17 ?_
      exact WPost.no hk (by decide) SameC.rf
    ) ?_
  rintro _ _ ⟨hK0, rfl, rfl⟩
  refine z_i2l C dL_pass_7 ?_
  refine z_last C rfl dL_pass_8 ?_
  refine z_goto C 18 dL_pass_9 (by decide) ?_
  refine z_iconst C (v := 0) dL_pass_18 (by decide) ?_
  refine z_widen (mc := 2) (ms := 12) (by decide) (by decide) ?_
  refine z_iret C dL_pass_19 ?_
  exact WPost.ok hK0 (CEq.rf) ((MEq.rf.up (by decide)))
