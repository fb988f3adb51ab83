/-! ===== the law's own methods: a call with its catches ===== -/
def MW (l : Launch) (D : va_G) (ad : Nat → Nat → Nat) (cy : Nat → ClassId) (A : Nat → Prop) (sa : Nat → Nat) (y : MethodName) (bytes : ByteArray) (maxL : Nat) (hh : List (Nat × Nat × Nat × Nat)) (d mc : Nat) (σ : St) (av : List Value) (post : Int32 → St → Prop) : Prop :=
  Met l y (Cond.codeWith y bytes maxL (some .int) hh :: BIG) (rmD d mc) (PcW l D ad cy A sa σ av) (va_Qi post (Bw D ad cy) A) mc (6 * mc) A
theorem Met_ofWH {l : Launch} {y : MethodName} {ws ws' : List Cond} {rm : Room} {Pc : Array Value → State → Prop} {Qc : Array Value → State → Outcome → State → Prop} {mc ms : Nat} {free : Addr → Prop} {cc : ByteArray} {maxL : Nat} {ret : Option FieldType} {hh : List (Nat × Nat × Nat × Nat)}
    (hy : plainName y.cls = true) (hw : ws = Cond.codeWith y cc maxL ret hh :: ws')
    (body : ∀ p e s m args below meth c s₁, BodyLoose p l y (headSpec ws rm) cc maxL ret e s m args below meth c s₁ → c.maxLocals = maxL → Pc args s →
      W p l e (headSpec ws rm).room s m args below meth c s.heap [] 0 0 (MQ below Qc args s mc ms free) (entryFrame m args maxL)) : Met l y ws rm Pc Qc mc ms free := by
  refine MetFree.of_bodyS (code := cc) (maxLocals := maxL) (ret := ret) hy ?_ ?_
  · intro args s m h hn
    obtain ⟨m9, meth, c, hn9, h1, h2, h3, h4, -, h5, h6, -⟩ := Cond.codeWith_spec (atoms_spec (ws := ws) h _ (by rw [hw]; exact List.mem_cons_self))
    cases hn.symm.trans hn9
    exact ⟨meth, c, h1, h2, h3, h4, h5, h6⟩
  · intro p e s m args below meth c s₁ B hml hP _
    have hh0 : s₁.heap = s.heap := by rw [B.state]; rfl
    obtain ⟨t, a1, o, b1, b2, b3⟩ := body p e s m args below meth c s₁ B hml hP s₁ hh0 (Stand.of_body B)
    exact ⟨t, o, a1, b1, b2, ⟨b3.1, b3.2⟩⟩
theorem MW.mk {l : Launch} {D : va_G} {ad : Nat → Nat → Nat} {cy : Nat → ClassId} {A : Nat → Prop} {sa : Nat → Nat} {y : MethodName} {bytes : ByteArray} {maxL : Nat} {hh : List (Nat × Nat × Nat × Nat)} {d mc : Nat} {σ : St} {av : List Value} {post : Int32 → St → Prop} (own : String) (hy : plainName y.cls = true) (ho : y.cls = own) (hlen : (lg_sl av).length ≤ maxL) (hc : av.all (fun v => v.category == 1) = true)
    (body : ∀ (p : Program) (e : Env) (s : State) (m : MethodId) (args : Array Value) (below : List Frame) (meth : Method) (c : Code), Cx p l s m args meth c bytes own maxL (some .int) D ad cy A sa → c.exceptionTable.toList = tableOf hh → Z p l e (rmD d mc) s m args below meth c D ad cy A maxL 0 0 (MQ below (va_Qi post (Bw D ad cy) A) args s mc (6 * mc) A) σ (L0 av maxL) 0 []) : MW l D ad cy A sa y bytes maxL hh d mc σ av post := by
  refine Met_ofWH (cc := bytes) (maxL := maxL) (ret := some .int) (hh := hh) hy rfl ?_
  intro p e s m args below meth c s₁ B hml hv
  obtain ⟨rfl, hF, hP⟩ := hv
  have C := Cx.of (own := own) B hml ho hF
  have hl := lv_entry av (n := maxL) hlen
  rw [lg_entry_eq]
  have hts := atoms_spec (ws := Cond.codeWith y bytes maxL (some .int) hh :: BIG) B.pre
  exact body p e s m _ below meth c C (vx_table (x := y) B (hts _ List.mem_cons_self)) s.heap [] _ hP va_S.rf (lh_entry hc hl)
section ZX
variable {p : Program} {l : Launch} {e : Env} {R : Room} {s : State} {m : MethodId} {args : Array Value} {below : List Frame} {meth : Method} {c : Code} {D : va_G} {ad : Nat → Nat → Nat} {cy : Nat → ClassId} {A : Nat → Prop} {sa : Nat → Nat} {nL cells slots : Nat} {Q : State → Prop} {L : List (Option Value)} {pc : Nat} {st : List Value} {cc : ByteArray} {own : String} {ret : Option FieldType}
theorem x_catch {q9 : Addr} (C : Cx p l s m args meth c cc own nL ret D ad cy A sa) {E : String} {pre suf : List ExceptionTableEntry} {x : ExceptionTableEntry} (tbl : c.exceptionTable.toList = pre ++ x :: suf) (hE : E ∈ exs) (hpre : ∀ z ∈ pre, z.catchType ≠ 0 ∧ ∃ E1 : String, E1 ∈ exs ∧ E ≠ E1 ∧ Cond.classLink own z.catchType E1 ∈ BIG) (hx : covers x pc = true) (h0 : x.catchType ≠ 0) (hw : Cond.classLink own x.catchType E ∈ BIG) {σ : St} (kk : Z p l e R s m args below meth c D ad cy A nL cells slots Q σ L x.handlerPc [.ref q9])
    {ce : Cell} {H1 : Heap} {locs1 : List Loc} {ls : Array Slot} (hP : va_P D vwCl (WL ad cy σ) H1) (hS : va_S A s.heap H1 locs1) (hl : lh ls nL L) (g1 : H1[q9]? = some ce) (g2 : ce.vm = .none) (g3 : s.vm.findClass E = some ce.cls) : vx_W p l e R s m args below meth c H1 locs1 cells slots Q (F0 m pc ls st) q9 := by
  obtain ⟨hx0, hb, hml, hown, hts, hr, hlk, hF⟩ := C
  refine vx_catch (own := own) (name := E) hown pre x suf tbl (fun z hz => ?_) hx h0 (hts _ hw) (va_tabs rfl rfl (hF.2.2.2.2.2.2.2.1.1 E hE)) g1 g2 g3 (kk H1 locs1 ls hP hS hl)
  obtain ⟨z0, E1, hE1, hne, hw1⟩ := hpre z hz
  exact Or.inr ⟨z0, E1, hts _ hw1, hF.2.2.2.2.2.2.2.2 E hE E1 hE1 hne⟩
end ZX
/-- what a wrapper answers: the class's answer, or the number of what it threw; a throw changes nothing -/
def WP (g' σ σ' : St) (K : Nat) (cs : List Int32) (res r : Int32) : Prop := (K = 0 → r = res ∧ g' = σ') ∧ ∀ j c, K = j + 1 → cs[j]? = some c → r = c ∧ σ = σ'
def WS (σ σ' : St) (K : Nat) (cs : List Int32) (res r : Int32) : Prop := SameC σ σ' ∧ (K = 0 → r = res) ∧ ∀ j c, K = j + 1 → cs[j]? = some c → r = c
def WN (σ σ' : St) (K : Nat) (cs : List Int32) (res r : Int32) (p q t : Int32) : Prop := (K = 0 → r = res ∧ ∃ σ2, SameC σ σ2 ∧ learnS σ σ2 p q t = σ') ∧ ∀ j c, K = j + 1 → cs[j]? = some c → r = c ∧ SameC σ σ'
theorem WP.ok {g' σ : St} {K : Nat} {cs : List Int32} {res : Int32} (hK : K = 0) : WP g' σ g' K cs res res := ⟨fun _ => ⟨rfl, rfl⟩, fun j c h => absurd (hK.symm.trans h) (by omega)⟩
theorem WP.no {g' σ : St} {K n : Nat} {cs : List Int32} {res r : Int32} (hK : K = n + 1) (hc : cs[n]? = some r) : WP g' σ σ K cs res r := ⟨fun h => absurd (hK.symm.trans h) (by omega), fun j c h hj => by
  have e : j = n := by omega
  subst e
  exact ⟨Option.some.inj (hc.symm.trans hj), rfl⟩⟩
theorem WS.ok {σ σ' : St} {K : Nat} {cs : List Int32} {res : Int32} (hK : K = 0) (hs : SameC σ σ') : WS σ σ' K cs res res := ⟨hs, fun _ => rfl, fun j c h => absurd (hK.symm.trans h) (by omega)⟩
theorem WS.no {σ σ' : St} {K n : Nat} {cs : List Int32} {res r : Int32} (hK : K = n + 1) (hc : cs[n]? = some r) (hs : SameC σ σ') : WS σ σ' K cs res r := ⟨hs, fun h => absurd (hK.symm.trans h) (by omega), fun j c h hj => by
  have e : j = n := by omega
  subst e
  exact Option.some.inj (hc.symm.trans hj)⟩
theorem WN.ok {σ σ2 : St} {K : Nat} {cs : List Int32} {res p q t : Int32} (hK : K = 0) (hs : SameC σ σ2) : WN σ (learnS σ σ2 p q t) K cs res res p q t := ⟨fun _ => ⟨rfl, σ2, hs, rfl⟩, fun j c h => absurd (hK.symm.trans h) (by omega)⟩
theorem WN.no {σ σ' : St} {K n : Nat} {cs : List Int32} {res r p q t : Int32} (hK : K = n + 1) (hc : cs[n]? = some r) (hs : SameC σ σ') : WN σ σ' K cs res r p q t := ⟨fun h => absurd (hK.symm.trans h) (by omega), fun j c h hj => by
  have e : j = n := by omega
  subst e
  exact ⟨Option.some.inj (hc.symm.trans hj), hs⟩⟩
set_option maxRecDepth 100000 in
set_option maxHeartbeats 4000000 in
theorem c_L_begin {l : Launch} {D : va_G} {ad : Nat → Nat → Nat} {cy : Nat → ClassId} {A : Nat → Prop} {sa : Nat → Nat} {σ : St}  : MW l D ad cy A sa yL_begin cL_begin 2 [(0, 4, 5, 16)] 1 1 σ [.ref (ad 0 0)] (fun r σ' => WP (up σ 0 0 6 (σ 0 0 6 + 1)) σ σ' (K_begin σ) [-1000003] (σ 0 0 6) r) := by
  refine MW.mk "FretSchoolLaw" (by decide) rfl (Nat.le_of_ble_eq_true rfl) rfl ?_
  intro p e s m args below meth c C tbl
  change Z _ _ _ _ _ _ _ _ _ _ _ _ _ _ _ _ _ _ _ [some (.ref (ad 0 0)), none] 0 []
  refine z_aload_n C dL_begin_0 rfl ?_
  refine y_cvi C (As := []) (c_X5_begin) okX5_begin wd457 rc_0 (rok (by decide) (by decide)) ⟨Nat.le_of_ble_eq_true rfl, Nat.le_of_ble_eq_true rfl⟩ rfl (Nat.le_of_ble_eq_true rfl) dL_begin_1 (fun E ce q9 u H1 locs1 ls hp hP hS hl g1 g2 g3 => by
    obtain ⟨hsm, hK0, hE⟩ := hp
    subst hsm
    obtain ⟨k, hk⟩ : ∃ k, K_begin σ = k := ⟨_, rfl⟩
    rw [hk] at hK0 hE
    match k, hk, hK0, hE with
    | 0, _, hK0, _ => exact absurd rfl hK0
    | 1, hk, _, hE =>
      obtain rfl : ISE = E := Option.some.inj hE
      refine x_catch C (pre := []) (x := ⟨0, 4, 5, 16⟩) (suf := []) tbl (by decide +kernel) (fun z hz => absurd hz List.not_mem_nil) (by decide) (by decide) wd415 ?_ hP hS hl g1 g2 g3
      refine z_astore_n C dL_begin_5 (by decide) ?_
      dsimp only [List.set]
      refine z_ldc C (v := (-1000003)) wd443 dL_begin_6 ?_
      refine z_widen (mc := 1) (ms := 6) (by decide) (by decide) ?_
      refine z_iret C dL_begin_8 ?_
      exact WP.no hk rfl
    ) ?_
  rintro _ _ ⟨hK0, rfl, rfl⟩
  refine z_widen (mc := 1) (ms := 6) (by decide) (by decide) ?_
  refine z_iret C dL_begin_4 ?_
  exact WP.ok hK0
set_option maxRecDepth 100000 in
set_option maxHeartbeats 4000000 in
theorem c_L_addNote {l : Launch} {D : va_G} {ad : Nat → Nat → Nat} {cy : Nat → ClassId} {A : Nat → Prop} {sa : Nat → Nat} {σ : St} {x y : Int32} (hI : Inv σ) : MW l D ad cy A sa yL_addNote cL_addNote 4 [(0, 6, 7, 23), (0, 6, 11, 26), (0, 6, 15, 16)] 4 3 σ [.ref (ad 0 0), .int x, .int y] (fun r σ' => WP (up (up σ 12 (ix x) (cN σ (ix x)) y) 11 (ix x) 1 (nI (cN σ (ix x) + 1))) σ σ' (K_addNote σ x y) [-1000001, -1000002, -1000003] (nI (cN σ (ix x) + 1)) r) := by
  refine MW.mk "FretSchoolLaw" (by decide) rfl (Nat.le_of_ble_eq_true rfl) rfl ?_
  intro p e s m args below meth c C tbl
  change Z _ _ _ _ _ _ _ _ _ _ _ _ _ _ _ _ _ _ _ [some (.ref (ad 0 0)), some (.int x), some (.int y), none] 0 []
  refine z_aload_n C dL_addNote_0 rfl ?_
  refine z_iload_n C dL_addNote_1 rfl ?_
  refine z_iload_n C dL_addNote_2 rfl ?_
  refine y_cvi C (As := [_, _]) (c_X5_addNote hI) okX5_addNote wd465 rc_0 (rok (by decide) (by decide)) ⟨Nat.le_of_ble_eq_true rfl, Nat.le_of_ble_eq_true rfl⟩ rfl (Nat.le_of_ble_eq_true rfl) dL_addNote_3 (fun E ce q9 u H1 locs1 ls hp hP hS hl g1 g2 g3 => by
    obtain ⟨hsm, hK0, hE⟩ := hp
    subst hsm
    obtain ⟨k, hk⟩ : ∃ k, K_addNote σ x y = k := ⟨_, rfl⟩
    rw [hk] at hK0 hE
    match k, hk, hK0, hE with
    | 0, _, hK0, _ => exact absurd rfl hK0
    | 1, hk, _, hE =>
      obtain rfl : IOOBE = E := Option.some.inj hE
      refine x_catch C (pre := []) (x := ⟨0, 6, 7, 23⟩) (suf := [⟨0, 6, 11, 26⟩, ⟨0, 6, 15, 16⟩]) tbl (by decide +kernel) (fun z hz => absurd hz List.not_mem_nil) (by decide) (by decide) wd337 ?_ hP hS hl g1 g2 g3
      refine z_astore_n C dL_addNote_7 (by decide) ?_
      dsimp only [List.set]
      refine z_ldc C (v := (-1000001)) wd367 dL_addNote_8 ?_
      refine z_widen (mc := 3) (ms := 18) (by decide) (by decide) ?_
      refine z_iret C dL_addNote_10 ?_
      exact WP.no hk rfl
    | 2, hk, _, hE =>
      obtain rfl : IAE = E := Option.some.inj hE
      refine x_catch C (pre := [⟨0, 6, 7, 23⟩]) (x := ⟨0, 6, 11, 26⟩) (suf := [⟨0, 6, 15, 16⟩]) tbl (by decide +kernel) (List.forall_mem_cons.mpr ⟨⟨(by decide), IOOBE, by decide +kernel, by decide +kernel, wd337⟩, fun _ h => absurd h List.not_mem_nil⟩) (by decide) (by decide) wd187 ?_ hP hS hl g1 g2 g3
      refine z_astore_n C dL_addNote_11 (by decide) ?_
      dsimp only [List.set]
      refine z_ldc C (v := (-1000002)) wd266 dL_addNote_12 ?_
      refine z_widen (mc := 3) (ms := 18) (by decide) (by decide) ?_
      refine z_iret C dL_addNote_14 ?_
      exact WP.no hk rfl
    | 3, hk, _, hE =>
      obtain rfl : ISE = E := Option.some.inj hE
      refine x_catch C (pre := [⟨0, 6, 7, 23⟩, ⟨0, 6, 11, 26⟩]) (x := ⟨0, 6, 15, 16⟩) (suf := []) tbl (by decide +kernel) (List.forall_mem_cons.mpr ⟨⟨(by decide), IOOBE, by decide +kernel, by decide +kernel, wd337⟩, List.forall_mem_cons.mpr ⟨⟨(by decide), IAE, by decide +kernel, by decide +kernel, wd187⟩, fun _ h => absurd h List.not_mem_nil⟩⟩) (by decide) (by decide) wd415 ?_ hP hS hl g1 g2 g3
      refine z_astore_n C dL_addNote_15 (by decide) ?_
      dsimp only [List.set]
      refine z_ldc C (v := (-1000003)) wd443 dL_addNote_16 ?_
      refine z_widen (mc := 3) (ms := 18) (by decide) (by decide) ?_
      refine z_iret C dL_addNote_18 ?_
      exact WP.no hk rfl
    ) ?_
  rintro _ _ ⟨hK0, rfl, rfl⟩
  refine z_widen (mc := 3) (ms := 18) (by decide) (by decide) ?_
  refine z_iret C dL_addNote_6 ?_
  exact WP.ok hK0
set_option maxRecDepth 100000 in
set_option maxHeartbeats 4000000 in
theorem c_L_transpose {l : Launch} {D : va_G} {ad : Nat → Nat → Nat} {cy : Nat → ClassId} {A : Nat → Prop} {sa : Nat → Nat} {σ : St} {x y : Int32} (hI : Inv σ) : MW l D ad cy A sa yL_transpose cL_transpose 4 [(0, 7, 8, 23), (0, 7, 12, 26), (0, 7, 16, 16)] 2 3 σ [.ref (ad 0 0), .int x, .int y] (fun r σ' => WP (mvd σ (ix x) y (cN σ (ix x))) σ σ' (K_trans σ x y) [-1000001, -1000002, -1000003] (0) r) := by
  refine MW.mk "FretSchoolLaw" (by decide) rfl (Nat.le_of_ble_eq_true rfl) rfl ?_
  intro p e s m args below meth c C tbl
  change Z _ _ _ _ _ _ _ _ _ _ _ _ _ _ _ _ _ _ _ [some (.ref (ad 0 0)), some (.int x), some (.int y), none] 0 []
  refine z_aload_n C dL_transpose_0 rfl ?_
  refine z_iload_n C dL_transpose_1 rfl ?_
  refine z_iload_n C dL_transpose_2 rfl ?_
  refine y_cvv C (As := [_, _]) (c_X5_transpose hI) okX5_transpose wd482 rc_0 (rok (by decide) (by decide)) ⟨Nat.le_of_ble_eq_true rfl, Nat.le_of_ble_eq_true rfl⟩ rfl (Nat.le_of_ble_eq_true rfl) dL_transpose_3 (fun E ce q9 u H1 locs1 ls hp hP hS hl g1 g2 g3 => by
    obtain ⟨hsm, hK0, hE⟩ := hp
    subst hsm
    obtain ⟨k, hk⟩ : ∃ k, K_trans σ x y = k := ⟨_, rfl⟩
    rw [hk] at hK0 hE
    match k, hk, hK0, hE with
    | 0, _, hK0, _ => exact absurd rfl hK0
    | 1, hk, _, hE =>
      obtain rfl : IOOBE = E := Option.some.inj hE
      refine x_catch C (pre := []) (x := ⟨0, 7, 8, 23⟩) (suf := [⟨0, 7, 12, 26⟩, ⟨0, 7, 16, 16⟩]) tbl (by decide +kernel) (fun z hz => absurd hz List.not_mem_nil) (by decide) (by decide) wd337 ?_ hP hS hl g1 g2 g3
      refine z_astore_n C dL_transpose_8 (by decide) ?_
      dsimp only [List.set]
      refine z_ldc C (v := (-1000001)) wd367 dL_transpose_9 ?_
      refine z_widen (mc := 3) (ms := 18) (by decide) (by decide) ?_
      refine z_iret C dL_transpose_11 ?_
      exact WP.no hk rfl
    | 2, hk, _, hE =>
      obtain rfl : IAE = E := Option.some.inj hE
      refine x_catch C (pre := [⟨0, 7, 8, 23⟩]) (x := ⟨0, 7, 12, 26⟩) (suf := [⟨0, 7, 16, 16⟩]) tbl (by decide +kernel) (List.forall_mem_cons.mpr ⟨⟨(by decide), IOOBE, by decide +kernel, by decide +kernel, wd337⟩, fun _ h => absurd h List.not_mem_nil⟩) (by decide) (by decide) wd187 ?_ hP hS hl g1 g2 g3
      refine z_astore_n C dL_transpose_12 (by decide) ?_
      dsimp only [List.set]
      refine z_ldc C (v := (-1000002)) wd266 dL_transpose_13 ?_
      refine z_widen (mc := 3) (ms := 18) (by decide) (by decide) ?_
      refine z_iret C dL_transpose_15 ?_
      exact WP.no hk rfl
    | 3, hk, _, hE =>
      obtain rfl : ISE = E := Option.some.inj hE
      refine x_catch C (pre := [⟨0, 7, 8, 23⟩, ⟨0, 7, 12, 26⟩]) (x := ⟨0, 7, 16, 16⟩) (suf := []) tbl (by decide +kernel) (List.forall_mem_cons.mpr ⟨⟨(by decide), IOOBE, by decide +kernel, by decide +kernel, wd337⟩, List.forall_mem_cons.mpr ⟨⟨(by decide), IAE, by decide +kernel, by decide +kernel, wd187⟩, fun _ h => absurd h List.not_mem_nil⟩⟩) (by decide) (by decide) wd415 ?_ hP hS hl g1 g2 g3
      refine z_astore_n C dL_transpose_16 (by decide) ?_
      dsimp only [List.set]
      refine z_ldc C (v := (-1000003)) wd443 dL_transpose_17 ?_
      refine z_widen (mc := 3) (ms := 18) (by decide) (by decide) ?_
      refine z_iret C dL_transpose_19 ?_
      exact WP.no hk rfl
    ) ?_
  rintro _ ⟨hK0, rfl⟩
  refine z_iconst C (v := 0) dL_transpose_6 (by decide) ?_
  refine z_widen (mc := 3) (ms := 18) (by decide) (by decide) ?_
  refine z_iret C dL_transpose_7 ?_
  exact WP.ok hK0
set_option maxRecDepth 100000 in
set_option maxHeartbeats 4000000 in
theorem c_L_pitch {l : Launch} {D : va_G} {ad : Nat → Nat → Nat} {cy : Nat → ClassId} {A : Nat → Prop} {sa : Nat → Nat} {σ : St} {x y : Int32} (hI : Inv σ) : MW l D ad cy A sa yL_pitch cL_pitch 4 [(0, 6, 7, 23)] 3 2 σ [.ref (ad 0 0), .int x, .int y] (fun r σ' => WP (σ) σ σ' (K_pitch σ x y) [-1000001] (σ 12 (ix x) (ix y)) r) := by
  refine MW.mk "FretSchoolLaw" (by decide) rfl (Nat.le_of_ble_eq_true rfl) rfl ?_
  intro p e s m args below meth c C tbl
  change Z _ _ _ _ _ _ _ _ _ _ _ _ _ _ _ _ _ _ _ [some (.ref (ad 0 0)), some (.int x), some (.int y), none] 0 []
  refine z_aload_n C dL_pitch_0 rfl ?_
  refine z_iload_n C dL_pitch_1 rfl ?_
  refine z_iload_n C dL_pitch_2 rfl ?_
  refine y_cvi C (As := [_, _]) (c_X5_pitch hI) okX5_pitch wd338 rc_0 (rok (by decide) (by decide)) ⟨Nat.le_of_ble_eq_true rfl, Nat.le_of_ble_eq_true rfl⟩ rfl (Nat.le_of_ble_eq_true rfl) dL_pitch_3 (fun E ce q9 u H1 locs1 ls hp hP hS hl g1 g2 g3 => by
    obtain ⟨hsm, hK0, hE⟩ := hp
    subst hsm
    obtain ⟨k, hk⟩ : ∃ k, K_pitch σ x y = k := ⟨_, rfl⟩
    rw [hk] at hK0 hE
    match k, hk, hK0, hE with
    | 0, _, hK0, _ => exact absurd rfl hK0
    | 1, hk, _, hE =>
      obtain rfl : IOOBE = E := Option.some.inj hE
      refine x_catch C (pre := []) (x := ⟨0, 6, 7, 23⟩) (suf := []) tbl (by decide +kernel) (fun z hz => absurd hz List.not_mem_nil) (by decide) (by decide) wd337 ?_ hP hS hl g1 g2 g3
      refine z_astore_n C dL_pitch_7 (by decide) ?_
      dsimp only [List.set]
      refine z_ldc C (v := (-1000001)) wd367 dL_pitch_8 ?_
      refine z_widen (mc := 2) (ms := 12) (by decide) (by decide) ?_
      refine z_iret C dL_pitch_10 ?_
      exact WP.no hk rfl
    ) ?_
  rintro _ _ ⟨hK0, rfl, rfl⟩
  refine z_widen (mc := 2) (ms := 12) (by decide) (by decide) ?_
  refine z_iret C dL_pitch_6 ?_
  exact WP.ok hK0
set_option maxRecDepth 100000 in
set_option maxHeartbeats 4000000 in
theorem c_L_tune {l : Launch} {D : va_G} {ad : Nat → Nat → Nat} {cy : Nat → ClassId} {A : Nat → Prop} {sa : Nat → Nat} {σ : St} {x y z : Int32} (hI : Inv σ) : MW l D ad cy A sa yL_tune cL_tune 5 [(0, 7, 8, 23), (0, 7, 13, 26)] 2 3 σ [.ref (ad 0 0), .int x, .int y, .int z] (fun r σ' => WP (up σ 14 (ix x) (ix y) z) σ σ' (K_tune σ x y z) [-1000001, -1000002] (σ 14 (ix x) (ix y)) r) := by
  refine MW.mk "FretSchoolLaw" (by decide) rfl (Nat.le_of_ble_eq_true rfl) rfl ?_
  intro p e s m args below meth c C tbl
  change Z _ _ _ _ _ _ _ _ _ _ _ _ _ _ _ _ _ _ _ [some (.ref (ad 0 0)), some (.int x), some (.int y), some (.int z), none] 0 []
  refine z_aload_n C dL_tune_0 rfl ?_
  refine z_iload_n C dL_tune_1 rfl ?_
  refine z_iload_n C dL_tune_2 rfl ?_
  refine z_iload_n C dL_tune_3 rfl ?_
  refine y_cvi C (As := [_, _, _]) (c_X5_tune hI) okX5_tune wd578 rc_0 (rok (by decide) (by decide)) ⟨Nat.le_of_ble_eq_true rfl, Nat.le_of_ble_eq_true rfl⟩ rfl (Nat.le_of_ble_eq_true rfl) dL_tune_4 (fun E ce q9 u H1 locs1 ls hp hP hS hl g1 g2 g3 => by
    obtain ⟨hsm, hK0, hE⟩ := hp
    subst hsm
    obtain ⟨k, hk⟩ : ∃ k, K_tune σ x y z = k := ⟨_, rfl⟩
    rw [hk] at hK0 hE
    match k, hk, hK0, hE with
    | 0, _, hK0, _ => exact absurd rfl hK0
    | 1, hk, _, hE =>
      obtain rfl : IOOBE = E := Option.some.inj hE
      refine x_catch C (pre := []) (x := ⟨0, 7, 8, 23⟩) (suf := [⟨0, 7, 13, 26⟩]) tbl (by decide +kernel) (fun z hz => absurd hz List.not_mem_nil) (by decide) (by decide) wd337 ?_ hP hS hl g1 g2 g3
      refine z_astore C dL_tune_8 (by decide) ?_
      dsimp only [List.set]
      refine z_ldc C (v := (-1000001)) wd367 dL_tune_10 ?_
      refine z_widen (mc := 3) (ms := 18) (by decide) (by decide) ?_
      refine z_iret C dL_tune_12 ?_
      exact WP.no hk rfl
    | 2, hk, _, hE =>
      obtain rfl : IAE = E := Option.some.inj hE
      refine x_catch C (pre := [⟨0, 7, 8, 23⟩]) (x := ⟨0, 7, 13, 26⟩) (suf := []) tbl (by decide +kernel) (List.forall_mem_cons.mpr ⟨⟨(by decide), IOOBE, by decide +kernel, by decide +kernel, wd337⟩, fun _ h => absurd h List.not_mem_nil⟩) (by decide) (by decide) wd187 ?_ hP hS hl g1 g2 g3
      refine z_astore C dL_tune_13 (by decide) ?_
      dsimp only [List.set]
      refine z_ldc C (v := (-1000002)) wd266 dL_tune_15 ?_
      refine z_widen (mc := 3) (ms := 18) (by decide) (by decide) ?_
      refine z_iret C dL_tune_17 ?_
      exact WP.no hk rfl
    ) ?_
  rintro _ _ ⟨hK0, rfl, rfl⟩
  refine z_widen (mc := 3) (ms := 18) (by decide) (by decide) ?_
  refine z_iret C dL_tune_7 ?_
  exact WP.ok hK0
set_option maxRecDepth 100000 in
set_option maxHeartbeats 4000000 in
theorem c_L_owner {l : Launch} {D : va_G} {ad : Nat → Nat → Nat} {cy : Nat → ClassId} {A : Nat → Prop} {sa : Nat → Nat} {σ : St} {x : Int32} (hI : Inv σ) : MW l D ad cy A sa yL_owner cL_owner 3 [(0, 5, 6, 23)] 2 1 σ [.ref (ad 0 0), .int x] (fun r σ' => WP (σ) σ σ' (K_inst σ x) [-1000001] (σ 13 (ix x) 1) r) := by
  refine MW.mk "FretSchoolLaw" (by decide) rfl (Nat.le_of_ble_eq_true rfl) rfl ?_
  intro p e s m args below meth c C tbl
  change Z _ _ _ _ _ _ _ _ _ _ _ _ _ _ _ _ _ _ _ [some (.ref (ad 0 0)), some (.int x), none] 0 []
  refine z_aload_n C dL_owner_0 rfl ?_
  refine z_iload_n C dL_owner_1 rfl ?_
  refine y_cvi C (As := [_]) (c_X5_owner hI) okX5_owner wd571 rc_0 (rok (by decide) (by decide)) ⟨Nat.le_of_ble_eq_true rfl, Nat.le_of_ble_eq_true rfl⟩ rfl (Nat.le_of_ble_eq_true rfl) dL_owner_2 (fun E ce q9 u H1 locs1 ls hp hP hS hl g1 g2 g3 => by
    obtain ⟨hsm, hK0, hE⟩ := hp
    subst hsm
    obtain ⟨k, hk⟩ : ∃ k, K_inst σ x = k := ⟨_, rfl⟩
    rw [hk] at hK0 hE
    match k, hk, hK0, hE with
    | 0, _, hK0, _ => exact absurd rfl hK0
    | 1, hk, _, hE =>
      obtain rfl : IOOBE = E := Option.some.inj hE
      refine x_catch C (pre := []) (x := ⟨0, 5, 6, 23⟩) (suf := []) tbl (by decide +kernel) (fun z hz => absurd hz List.not_mem_nil) (by decide) (by decide) wd337 ?_ hP hS hl g1 g2 g3
      refine z_astore_n C dL_owner_6 (by decide) ?_
      dsimp only [List.set]
      refine z_ldc C (v := (-1000001)) wd367 dL_owner_7 ?_
      refine z_widen (mc := 1) (ms := 6) (by decide) (by decide) ?_
      refine z_iret C dL_owner_9 ?_
      exact WP.no hk rfl
    ) ?_
  rintro _ _ ⟨hK0, rfl, rfl⟩
  refine z_widen (mc := 1) (ms := 6) (by decide) (by decide) ?_
  refine z_iret C dL_owner_5 ?_
  exact WP.ok hK0
set_option maxRecDepth 100000 in
set_option maxHeartbeats 4000000 in
theorem c_L_shifts {l : Launch} {D : va_G} {ad : Nat → Nat → Nat} {cy : Nat → ClassId} {A : Nat → Prop} {sa : Nat → Nat} {σ : St} {x y : Int32} (hI : Inv σ) : MW l D ad cy A sa yL_shifts cL_shifts 4 [(0, 6, 7, 23)] 7 2 σ [.ref (ad 0 0), .int x, .int y] (fun r σ' => WS σ σ' (K_pq σ x y) [-1000001] (valS σ (ix x) (ix y)) r) := by
  refine MW.mk "FretSchoolLaw" (by decide) rfl (Nat.le_of_ble_eq_true rfl) rfl ?_
  intro p e s m args below meth c C tbl
  change Z _ _ _ _ _ _ _ _ _ _ _ _ _ _ _ _ _ _ _ [some (.ref (ad 0 0)), some (.int x), some (.int y), none] 0 []
  refine z_aload_n C dL_shifts_0 rfl ?_
  refine z_iload_n C dL_shifts_1 rfl ?_
  refine z_iload_n C dL_shifts_2 rfl ?_
  refine y_cvi C (As := [_, _]) (c_X5_shifts hI) okX5_shifts wd377 rc_0 (rok (by decide) (by decide)) ⟨Nat.le_of_ble_eq_true rfl, Nat.le_of_ble_eq_true rfl⟩ rfl (Nat.le_of_ble_eq_true rfl) dL_shifts_3 (fun E ce q9 u H1 locs1 ls hp hP hS hl g1 g2 g3 => by
    obtain ⟨hsm, hK0, hE⟩ := hp
    subst hsm
    obtain ⟨k, hk⟩ : ∃ k, K_pq σ x y = k := ⟨_, rfl⟩
    rw [hk] at hK0 hE
    match k, hk, hK0, hE with
    | 0, _, hK0, _ => exact absurd rfl hK0
    | 1, hk, _, hE =>
      obtain rfl : IOOBE = E := Option.some.inj hE
      refine x_catch C (pre := []) (x := ⟨0, 6, 7, 23⟩) (suf := []) tbl (by decide +kernel) (fun z hz => absurd hz List.not_mem_nil) (by decide) (by decide) wd337 ?_ hP hS hl g1 g2 g3
      refine z_astore_n C dL_shifts_7 (by decide) ?_
      dsimp only [List.set]
      refine z_ldc C (v := (-1000001)) wd367 dL_shifts_8 ?_
      refine z_widen (mc := 2) (ms := 12) (by decide) (by decide) ?_
      refine z_iret C dL_shifts_10 ?_
      exact WS.no hk rfl SameC.rf
    ) ?_
  rintro _ σ1 ⟨hK0, rfl, hsm⟩
  refine z_widen (mc := 2) (ms := 12) (by decide) (by decide) ?_
  refine z_iret C dL_shifts_6 ?_
  exact WS.ok hK0 hsm
set_option maxRecDepth 100000 in
set_option maxHeartbeats 4000000 in
theorem c_L_shiftsByAll {l : Launch} {D : va_G} {ad : Nat → Nat → Nat} {cy : Nat → ClassId} {A : Nat → Prop} {sa : Nat → Nat} {σ : St} {x y : Int32} (hI : Inv σ) : MW l D ad cy A sa yL_shiftsByAll cL_shiftsByAll 4 [(0, 6, 7, 23), (0, 6, 11, 16)] 9 3 σ [.ref (ad 0 0), .int x, .int y] (fun r σ' => WS σ σ' (K_byAll σ x y) [-1000001, -1000003] (valS σ (ix x) (ix y)) r) := by
  refine MW.mk "FretSchoolLaw" (by decide) rfl (Nat.le_of_ble_eq_true rfl) rfl ?_
  intro p e s m args below meth c C tbl
  change Z _ _ _ _ _ _ _ _ _ _ _ _ _ _ _ _ _ _ _ [some (.ref (ad 0 0)), some (.int x), some (.int y), none] 0 []
  refine z_aload_n C dL_shiftsByAll_0 rfl ?_
  refine z_iload_n C dL_shiftsByAll_1 rfl ?_
  refine z_iload_n C dL_shiftsByAll_2 rfl ?_
  refine y_cvi C (As := [_, _]) (c_X5_shiftsByAll hI) okX5_shiftsByAll wd416 rc_0 (rok (by decide) (by decide)) ⟨Nat.le_of_ble_eq_true rfl, Nat.le_of_ble_eq_true rfl⟩ rfl (Nat.le_of_ble_eq_true rfl) dL_shiftsByAll_3 (fun E ce q9 u H1 locs1 ls hp hP hS hl g1 g2 g3 => by
    obtain ⟨hsm, hK0, hE⟩ := hp
    subst hsm
    obtain ⟨k, hk⟩ : ∃ k, K_byAll σ x y = k := ⟨_, rfl⟩
    rw [hk] at hK0 hE
    match k, hk, hK0, hE with
    | 0, _, hK0, _ => exact absurd rfl hK0
    | 1, hk, _, hE =>
      obtain rfl : IOOBE = E := Option.some.inj hE
      refine x_catch C (pre := []) (x := ⟨0, 6, 7, 23⟩) (suf := [⟨0, 6, 11, 16⟩]) tbl (by decide +kernel) (fun z hz => absurd hz List.not_mem_nil) (by decide) (by decide) wd337 ?_ hP hS hl g1 g2 g3
      refine z_astore_n C dL_shiftsByAll_7 (by decide) ?_
      dsimp only [List.set]
      refine z_ldc C (v := (-1000001)) wd367 dL_shiftsByAll_8 ?_
      refine z_widen (mc := 3) (ms := 18) (by decide) (by decide) ?_
      refine z_iret C dL_shiftsByAll_10 ?_
      exact WS.no hk rfl SameC.rf
    | 2, hk, _, hE =>
      obtain rfl : ISE = E := Option.some.inj hE
      refine x_catch C (pre := [⟨0, 6, 7, 23⟩]) (x := ⟨0, 6, 11, 16⟩) (suf := []) tbl (by decide +kernel) (List.forall_mem_cons.mpr ⟨⟨(by decide), IOOBE, by decide +kernel, by decide +kernel, wd337⟩, fun _ h => absurd h List.not_mem_nil⟩) (by decide) (by decide) wd415 ?_ hP hS hl g1 g2 g3
      refine z_astore_n C dL_shiftsByAll_11 (by decide) ?_
      dsimp only [List.set]
      refine z_ldc C (v := (-1000003)) wd443 dL_shiftsByAll_12 ?_
      refine z_widen (mc := 3) (ms := 18) (by decide) (by decide) ?_
      refine z_iret C dL_shiftsByAll_14 ?_
      exact WS.no hk rfl SameC.rf
    ) ?_
  rintro _ σ1 ⟨hK0, rfl, hsm⟩
  refine z_widen (mc := 3) (ms := 18) (by decide) (by decide) ?_
  refine z_iret C dL_shiftsByAll_6 ?_
  exact WS.ok hK0 hsm
set_option maxRecDepth 100000 in
set_option maxHeartbeats 4000000 in
theorem c_L_hardest {l : Launch} {D : va_G} {ad : Nat → Nat → Nat} {cy : Nat → ClassId} {A : Nat → Prop} {sa : Nat → Nat} {σ : St} {x y : Int32} (hI : Inv σ) : MW l D ad cy A sa yL_hardest cL_hardest 4 [(0, 6, 7, 23)] 7 2 σ [.ref (ad 0 0), .int x, .int y] (fun r σ' => WS σ σ' (K_pq σ x y) [-1000001] (valH σ (ix x) (ix y)) r) := by
  refine MW.mk "FretSchoolLaw" (by decide) rfl (Nat.le_of_ble_eq_true rfl) rfl ?_
  intro p e s m args below meth c C tbl
  change Z _ _ _ _ _ _ _ _ _ _ _ _ _ _ _ _ _ _ _ [some (.ref (ad 0 0)), some (.int x), some (.int y), none] 0 []
  refine z_aload_n C dL_hardest_0 rfl ?_
  refine z_iload_n C dL_hardest_1 rfl ?_
  refine z_iload_n C dL_hardest_2 rfl ?_
  refine y_cvi C (As := [_, _]) (c_X5_hardest hI) okX5_hardest wd393 rc_0 (rok (by decide) (by decide)) ⟨Nat.le_of_ble_eq_true rfl, Nat.le_of_ble_eq_true rfl⟩ rfl (Nat.le_of_ble_eq_true rfl) dL_hardest_3 (fun E ce q9 u H1 locs1 ls hp hP hS hl g1 g2 g3 => by
    obtain ⟨hsm, hK0, hE⟩ := hp
    subst hsm
    obtain ⟨k, hk⟩ : ∃ k, K_pq σ x y = k := ⟨_, rfl⟩
    rw [hk] at hK0 hE
    match k, hk, hK0, hE with
    | 0, _, hK0, _ => exact absurd rfl hK0
    | 1, hk, _, hE =>
      obtain rfl : IOOBE = E := Option.some.inj hE
      refine x_catch C (pre := []) (x := ⟨0, 6, 7, 23⟩) (suf := []) tbl (by decide +kernel) (fun z hz => absurd hz List.not_mem_nil) (by decide) (by decide) wd337 ?_ hP hS hl g1 g2 g3
      refine z_astore_n C dL_hardest_7 (by decide) ?_
      dsimp only [List.set]
      refine z_ldc C (v := (-1000001)) wd367 dL_hardest_8 ?_
      refine z_widen (mc := 2) (ms := 12) (by decide) (by decide) ?_
      refine z_iret C dL_hardest_10 ?_
      exact WS.no hk rfl SameC.rf
    ) ?_
  rintro _ σ1 ⟨hK0, rfl, hsm⟩
  refine z_widen (mc := 2) (ms := 12) (by decide) (by decide) ?_
  refine z_iret C dL_hardest_6 ?_
  exact WS.ok hK0 hsm
set_option maxRecDepth 100000 in
set_option maxHeartbeats 4000000 in
theorem c_L_position {l : Launch} {D : va_G} {ad : Nat → Nat → Nat} {cy : Nat → ClassId} {A : Nat → Prop} {sa : Nat → Nat} {σ : St} {x y z : Int32} (hI : Inv σ) : MW l D ad cy A sa yL_position cL_position 5 [(0, 7, 8, 23)] 7 4 σ [.ref (ad 0 0), .int x, .int y, .int z] (fun r σ' => WS σ σ' (K_note σ x y z) [-1000001] (valP σ (ix x) (ix y) (ix z)) r) := by
  refine MW.mk "FretSchoolLaw" (by decide) rfl (Nat.le_of_ble_eq_true rfl) rfl ?_
  intro p e s m args below meth c C tbl
  change Z _ _ _ _ _ _ _ _ _ _ _ _ _ _ _ _ _ _ _ [some (.ref (ad 0 0)), some (.int x), some (.int y), some (.int z), none] 0 []
  refine z_aload_n C dL_position_0 rfl ?_
  refine z_iload_n C dL_position_1 rfl ?_
  refine z_iload_n C dL_position_2 rfl ?_
  refine z_iload_n C dL_position_3 rfl ?_
  refine y_cvi C (As := [_, _, _]) (c_X5_position hI) okX5_position wd400 rc_0 (rok (by decide) (by decide)) ⟨Nat.le_of_ble_eq_true rfl, Nat.le_of_ble_eq_true rfl⟩ rfl (Nat.le_of_ble_eq_true rfl) dL_position_4 (fun E ce q9 u H1 locs1 ls hp hP hS hl g1 g2 g3 => by
    obtain ⟨hsm, hK0, hE⟩ := hp
    subst hsm
    obtain ⟨k, hk⟩ : ∃ k, K_note σ x y z = k := ⟨_, rfl⟩
    rw [hk] at hK0 hE
    match k, hk, hK0, hE with
    | 0, _, hK0, _ => exact absurd rfl hK0
    | 1, hk, _, hE =>
      obtain rfl : IOOBE = E := Option.some.inj hE
      refine x_catch C (pre := []) (x := ⟨0, 7, 8, 23⟩) (suf := []) tbl (by decide +kernel) (fun z hz => absurd hz List.not_mem_nil) (by decide) (by decide) wd337 ?_ hP hS hl g1 g2 g3
      refine z_astore C dL_position_8 (by decide) ?_
      dsimp only [List.set]
      refine z_ldc C (v := (-1000001)) wd367 dL_position_10 ?_
      refine z_widen (mc := 4) (ms := 24) (by decide) (by decide) ?_
      refine z_iret C dL_position_12 ?_
      exact WS.no hk rfl SameC.rf
    ) ?_
  rintro _ σ1 ⟨hK0, rfl, hsm⟩
  refine z_widen (mc := 4) (ms := 24) (by decide) (by decide) ?_
  refine z_iret C dL_position_7 ?_
  exact WS.ok hK0 hsm
set_option maxRecDepth 100000 in
set_option maxHeartbeats 4000000 in
theorem c_L_string {l : Launch} {D : va_G} {ad : Nat → Nat → Nat} {cy : Nat → ClassId} {A : Nat → Prop} {sa : Nat → Nat} {σ : St} {x y z : Int32} (hI : Inv σ) : MW l D ad cy A sa yL_string cL_string 5 [(0, 7, 8, 23)] 7 4 σ [.ref (ad 0 0), .int x, .int y, .int z] (fun r σ' => WS σ σ' (K_note σ x y z) [-1000001] (valT σ (ix x) (ix y) (ix z)) r) := by
  refine MW.mk "FretSchoolLaw" (by decide) rfl (Nat.le_of_ble_eq_true rfl) rfl ?_
  intro p e s m args below meth c C tbl
  change Z _ _ _ _ _ _ _ _ _ _ _ _ _ _ _ _ _ _ _ [some (.ref (ad 0 0)), some (.int x), some (.int y), some (.int z), none] 0 []
  refine z_aload_n C dL_string_0 rfl ?_
  refine z_iload_n C dL_string_1 rfl ?_
  refine z_iload_n C dL_string_2 rfl ?_
  refine z_iload_n C dL_string_3 rfl ?_
  refine y_cvi C (As := [_, _, _]) (c_X5_string hI) okX5_string wd407 rc_0 (rok (by decide) (by decide)) ⟨Nat.le_of_ble_eq_true rfl, Nat.le_of_ble_eq_true rfl⟩ rfl (Nat.le_of_ble_eq_true rfl) dL_string_4 (fun E ce q9 u H1 locs1 ls hp hP hS hl g1 g2 g3 => by
    obtain ⟨hsm, hK0, hE⟩ := hp
    subst hsm
    obtain ⟨k, hk⟩ : ∃ k, K_note σ x y z = k := ⟨_, rfl⟩
    rw [hk] at hK0 hE
    match k, hk, hK0, hE with
    | 0, _, hK0, _ => exact absurd rfl hK0
    | 1, hk, _, hE =>
      obtain rfl : IOOBE = E := Option.some.inj hE
      refine x_catch C (pre := []) (x := ⟨0, 7, 8, 23⟩) (suf := []) tbl (by decide +kernel) (fun z hz => absurd hz List.not_mem_nil) (by decide) (by decide) wd337 ?_ hP hS hl g1 g2 g3
      refine z_astore C dL_string_8 (by decide) ?_
      dsimp only [List.set]
      refine z_ldc C (v := (-1000001)) wd367 dL_string_10 ?_
      refine z_widen (mc := 4) (ms := 24) (by decide) (by decide) ?_
      refine z_iret C dL_string_12 ?_
      exact WS.no hk rfl SameC.rf
    ) ?_
  rintro _ σ1 ⟨hK0, rfl, hsm⟩
  refine z_widen (mc := 4) (ms := 24) (by decide) (by decide) ?_
  refine z_iret C dL_string_7 ?_
  exact WS.ok hK0 hsm
set_option maxRecDepth 100000 in
set_option maxHeartbeats 4000000 in
theorem c_L_learn {l : Launch} {D : va_G} {ad : Nat → Nat → Nat} {cy : Nat → ClassId} {A : Nat → Prop} {sa : Nat → Nat} {σ : St} {x y z : Int32} (hI : Inv σ) : MW l D ad cy A sa yL_learn cL_learn 5 [(0, 7, 8, 23), (0, 7, 13, 26), (0, 7, 18, 16)] 8 4 σ [.ref (ad 0 0), .int x, .int y, .int z] (fun r σ' => WN σ σ' (K_learn σ x y z) [-1000001, -1000002, -1000003] (lvL σ x y z) r x y z) := by
  refine MW.mk "FretSchoolLaw" (by decide) rfl (Nat.le_of_ble_eq_true rfl) rfl ?_
  intro p e s m args below meth c C tbl
  change Z _ _ _ _ _ _ _ _ _ _ _ _ _ _ _ _ _ _ _ [some (.ref (ad 0 0)), some (.int x), some (.int y), some (.int z), none] 0 []
  refine z_aload_n C dL_learn_0 rfl ?_
  refine z_iload_n C dL_learn_1 rfl ?_
  refine z_iload_n C dL_learn_2 rfl ?_
  refine z_iload_n C dL_learn_3 rfl ?_
  refine y_cvi C (As := [_, _, _]) (c_X5_learn hI) okX5_learn wd585 rc_0 (rok (by decide) (by decide)) ⟨Nat.le_of_ble_eq_true rfl, Nat.le_of_ble_eq_true rfl⟩ rfl (Nat.le_of_ble_eq_true rfl) dL_learn_4 (fun E ce q9 u H1 locs1 ls hp hP hS hl g1 g2 g3 => by
    obtain ⟨hsm, hK0, hE⟩ := hp
    obtain ⟨k, hk⟩ : ∃ k, K_learn σ x y z = k := ⟨_, rfl⟩
    rw [hk] at hK0 hE
    match k, hk, hK0, hE with
    | 0, _, hK0, _ => exact absurd rfl hK0
    | 1, hk, _, hE =>
      obtain rfl : IOOBE = E := Option.some.inj hE
      refine x_catch C (pre := []) (x := ⟨0, 7, 8, 23⟩) (suf := [⟨0, 7, 13, 26⟩, ⟨0, 7, 18, 16⟩]) tbl (by decide +kernel) (fun z hz => absurd hz List.not_mem_nil) (by decide) (by decide) wd337 ?_ hP hS hl g1 g2 g3
      refine z_astore C dL_learn_8 (by decide) ?_
      dsimp only [List.set]
      refine z_ldc C (v := (-1000001)) wd367 dL_learn_10 ?_
      refine z_widen (mc := 4) (ms := 24) (by decide) (by decide) ?_
      refine z_iret C dL_learn_12 ?_
      exact WN.no hk rfl hsm
    | 2, hk, _, hE =>
      obtain rfl : IAE = E := Option.some.inj hE
      refine x_catch C (pre := [⟨0, 7, 8, 23⟩]) (x := ⟨0, 7, 13, 26⟩) (suf := [⟨0, 7, 18, 16⟩]) tbl (by decide +kernel) (List.forall_mem_cons.mpr ⟨⟨(by decide), IOOBE, by decide +kernel, by decide +kernel, wd337⟩, fun _ h => absurd h List.not_mem_nil⟩) (by decide) (by decide) wd187 ?_ hP hS hl g1 g2 g3
      refine z_astore C dL_learn_13 (by decide) ?_
      dsimp only [List.set]
      refine z_ldc C (v := (-1000002)) wd266 dL_learn_15 ?_
      refine z_widen (mc := 4) (ms := 24) (by decide) (by decide) ?_
      refine z_iret C dL_learn_17 ?_
      exact WN.no hk rfl hsm
    | 3, hk, _, hE =>
      obtain rfl : ISE = E := Option.some.inj hE
      refine x_catch C (pre := [⟨0, 7, 8, 23⟩, ⟨0, 7, 13, 26⟩]) (x := ⟨0, 7, 18, 16⟩) (suf := []) tbl (by decide +kernel) (List.forall_mem_cons.mpr ⟨⟨(by decide), IOOBE, by decide +kernel, by decide +kernel, wd337⟩, List.forall_mem_cons.mpr ⟨⟨(by decide), IAE, by decide +kernel, by decide +kernel, wd187⟩, fun _ h => absurd h List.not_mem_nil⟩⟩) (by decide) (by decide) wd415 ?_ hP hS hl g1 g2 g3
      refine z_astore C dL_learn_18 (by decide) ?_
      dsimp only [List.set]
      refine z_ldc C (v := (-1000003)) wd443 dL_learn_20 ?_
      refine z_widen (mc := 4) (ms := 24) (by decide) (by decide) ?_
      refine z_iret C dL_learn_22 ?_
      exact WN.no hk rfl hsm
    ) ?_
  rintro _ _ ⟨hK0, rfl, σ1, hsm, rfl⟩
  refine z_widen (mc := 4) (ms := 24) (by decide) (by decide) ?_
  refine z_iret C dL_learn_7 ?_
  exact WN.ok hK0 hsm
set_option maxRecDepth 100000 in
set_option maxHeartbeats 4000000 in
theorem c_L_level {l : Launch} {D : va_G} {ad : Nat → Nat → Nat} {cy : Nat → ClassId} {A : Nat → Prop} {sa : Nat → Nat} {σ : St} {x : Int32} : MW l D ad cy A sa yL_level cL_level 3 [(0, 5, 6, 26)] 3 1 σ [.ref (ad 0 0), .int x] (fun r σ' => WP (σ) σ σ' (K_pupil x) [-1000002] (σ 15 (ix x) 0) r) := by
  refine MW.mk "FretSchoolLaw" (by decide) rfl (Nat.le_of_ble_eq_true rfl) rfl ?_
  intro p e s m args below meth c C tbl
  change Z _ _ _ _ _ _ _ _ _ _ _ _ _ _ _ _ _ _ _ [some (.ref (ad 0 0)), some (.int x), none] 0 []
  refine z_aload_n C dL_level_0 rfl ?_
  refine z_iload_n C dL_level_1 rfl ?_
  refine y_cvi C (As := [_]) (c_X5_level) okX5_level wd188 rc_0 (rok (by decide) (by decide)) ⟨Nat.le_of_ble_eq_true rfl, Nat.le_of_ble_eq_true rfl⟩ rfl (Nat.le_of_ble_eq_true rfl) dL_level_2 (fun E ce q9 u H1 locs1 ls hp hP hS hl g1 g2 g3 => by
    obtain ⟨hsm, hK0, hE⟩ := hp
    subst hsm
    obtain ⟨k, hk⟩ : ∃ k, K_pupil x = k := ⟨_, rfl⟩
    rw [hk] at hK0 hE
    match k, hk, hK0, hE with
    | 0, _, hK0, _ => exact absurd rfl hK0
    | 1, hk, _, hE =>
      obtain rfl : IAE = E := Option.some.inj hE
      refine x_catch C (pre := []) (x := ⟨0, 5, 6, 26⟩) (suf := []) tbl (by decide +kernel) (fun z hz => absurd hz List.not_mem_nil) (by decide) (by decide) wd187 ?_ hP hS hl g1 g2 g3
      refine z_astore_n C dL_level_6 (by decide) ?_
      dsimp only [List.set]
      refine z_ldc C (v := (-1000002)) wd266 dL_level_7 ?_
      refine z_widen (mc := 1) (ms := 6) (by decide) (by decide) ?_
      refine z_iret C dL_level_9 ?_
      exact WP.no hk rfl
    ) ?_
  rintro _ _ ⟨hK0, rfl, rfl⟩
  refine z_widen (mc := 1) (ms := 6) (by decide) (by decide) ?_
  refine z_iret C dL_level_5 ?_
  exact WP.ok hK0
set_option maxRecDepth 100000 in
set_option maxHeartbeats 4000000 in
theorem c_L_known {l : Launch} {D : va_G} {ad : Nat → Nat → Nat} {cy : Nat → ClassId} {A : Nat → Prop} {sa : Nat → Nat} {σ : St} {x : Int32} : MW l D ad cy A sa yL_known cL_known 3 [(0, 5, 6, 26)] 3 1 σ [.ref (ad 0 0), .int x] (fun r σ' => WP (σ) σ σ' (K_pupil x) [-1000002] (σ 15 (ix x) 1) r) := by
  refine MW.mk "FretSchoolLaw" (by decide) rfl (Nat.le_of_ble_eq_true rfl) rfl ?_
  intro p e s m args below meth c C tbl
  change Z _ _ _ _ _ _ _ _ _ _ _ _ _ _ _ _ _ _ _ [some (.ref (ad 0 0)), some (.int x), none] 0 []
  refine z_aload_n C dL_known_0 rfl ?_
  refine z_iload_n C dL_known_1 rfl ?_
  refine y_cvi C (As := [_]) (c_X5_known) okX5_known wd270 rc_0 (rok (by decide) (by decide)) ⟨Nat.le_of_ble_eq_true rfl, Nat.le_of_ble_eq_true rfl⟩ rfl (Nat.le_of_ble_eq_true rfl) dL_known_2 (fun E ce q9 u H1 locs1 ls hp hP hS hl g1 g2 g3 => by
    obtain ⟨hsm, hK0, hE⟩ := hp
    subst hsm
    obtain ⟨k, hk⟩ : ∃ k, K_pupil x = k := ⟨_, rfl⟩
    rw [hk] at hK0 hE
    match k, hk, hK0, hE with
    | 0, _, hK0, _ => exact absurd rfl hK0
    | 1, hk, _, hE =>
      obtain rfl : IAE = E := Option.some.inj hE
      refine x_catch C (pre := []) (x := ⟨0, 5, 6, 26⟩) (suf := []) tbl (by decide +kernel) (fun z hz => absurd hz List.not_mem_nil) (by decide) (by decide) wd187 ?_ hP hS hl g1 g2 g3
      refine z_astore_n C dL_known_6 (by decide) ?_
      dsimp only [List.set]
      refine z_ldc C (v := (-1000002)) wd266 dL_known_7 ?_
      refine z_widen (mc := 1) (ms := 6) (by decide) (by decide) ?_
      refine z_iret C dL_known_9 ?_
      exact WP.no hk rfl
    ) ?_
  rintro _ _ ⟨hK0, rfl, rfl⟩
  refine z_widen (mc := 1) (ms := 6) (by decide) (by decide) ?_
  refine z_iret C dL_known_5 ?_
  exact WP.ok hK0
set_option maxRecDepth 100000 in
set_option maxHeartbeats 4000000 in
theorem c_L_next {l : Launch} {D : va_G} {ad : Nat → Nat → Nat} {cy : Nat → ClassId} {A : Nat → Prop} {sa : Nat → Nat} {σ : St} {x : Int32} (hI : Inv σ) : MW l D ad cy A sa yL_next cL_next 3 [(0, 5, 6, 26)] 9 1 σ [.ref (ad 0 0), .int x] (fun r σ' => WS σ σ' (K_pupil x) [-1000002] ((nxV σ x (ix (σ 0 0 7)) (ix (σ 0 0 6))).1) r) := by
  refine MW.mk "FretSchoolLaw" (by decide) rfl (Nat.le_of_ble_eq_true rfl) rfl ?_
  intro p e s m args below meth c C tbl
  change Z _ _ _ _ _ _ _ _ _ _ _ _ _ _ _ _ _ _ _ [some (.ref (ad 0 0)), some (.int x), none] 0 []
  refine z_aload_n C dL_next_0 rfl ?_
  refine z_iload_n C dL_next_1 rfl ?_
  refine y_cvi C (As := [_]) (c_X5_next hI) okX5_next wd277 rc_0 (rok (by decide) (by decide)) ⟨Nat.le_of_ble_eq_true rfl, Nat.le_of_ble_eq_true rfl⟩ rfl (Nat.le_of_ble_eq_true rfl) dL_next_2 (fun E ce q9 u H1 locs1 ls hp hP hS hl g1 g2 g3 => by
    obtain ⟨hsm, hK0, hE⟩ := hp
    subst hsm
    obtain ⟨k, hk⟩ : ∃ k, K_pupil x = k := ⟨_, rfl⟩
    rw [hk] at hK0 hE
    match k, hk, hK0, hE with
    | 0, _, hK0, _ => exact absurd rfl hK0
    | 1, hk, _, hE =>
      obtain rfl : IAE = E := Option.some.inj hE
      refine x_catch C (pre := []) (x := ⟨0, 5, 6, 26⟩) (suf := []) tbl (by decide +kernel) (fun z hz => absurd hz List.not_mem_nil) (by decide) (by decide) wd187 ?_ hP hS hl g1 g2 g3
      refine z_astore_n C dL_next_6 (by decide) ?_
      dsimp only [List.set]
      refine z_ldc C (v := (-1000002)) wd266 dL_next_7 ?_
      refine z_widen (mc := 1) (ms := 6) (by decide) (by decide) ?_
      refine z_iret C dL_next_9 ?_
      exact WS.no hk rfl SameC.rf
    ) ?_
  rintro _ σ1 ⟨hK0, hsm, rfl⟩
  refine z_widen (mc := 1) (ms := 6) (by decide) (by decide) ?_
  refine z_iret C dL_next_5 ?_
  exact WS.ok hK0 hsm
set_option maxRecDepth 100000 in
set_option maxHeartbeats 4000000 in
theorem c_L_addWood {l : Launch} {D : va_G} {ad : Nat → Nat → Nat} {cy : Nat → ClassId} {A : Nat → Prop} {sa : Nat → Nat} {σ : St} {x y : Int32} : MW l D ad cy A sa yL_addWood cL_addWood 4 [(0, 6, 7, 26)] 2 2 σ [.ref (ad 0 0), .int x, .int y] (fun r σ' => WP (up σ 5 0 (ix x) (σ 5 0 (ix x) + y)) σ σ' (K_wood x y) [-1000002] (σ 5 0 (ix x) + y) r) := by
  refine MW.mk "FretSchoolLaw" (by decide) rfl (Nat.le_of_ble_eq_true rfl) rfl ?_
  intro p e s m args below meth c C tbl
  change Z _ _ _ _ _ _ _ _ _ _ _ _ _ _ _ _ _ _ _ [some (.ref (ad 0 0)), some (.int x), some (.int y), none] 0 []
  refine z_aload_n C dL_addWood_0 rfl ?_
  refine z_iload_n C dL_addWood_1 rfl ?_
  refine z_iload_n C dL_addWood_2 rfl ?_
  refine y_cvi C (As := [_, _]) (c_X5_addWood) okX5_addWood wd498 rc_0 (rok (by decide) (by decide)) ⟨Nat.le_of_ble_eq_true rfl, Nat.le_of_ble_eq_true rfl⟩ rfl (Nat.le_of_ble_eq_true rfl) dL_addWood_3 (fun E ce q9 u H1 locs1 ls hp hP hS hl g1 g2 g3 => by
    obtain ⟨hsm, hK0, hE⟩ := hp
    subst hsm
    obtain ⟨k, hk⟩ : ∃ k, K_wood x y = k := ⟨_, rfl⟩
    rw [hk] at hK0 hE
    match k, hk, hK0, hE with
    | 0, _, hK0, _ => exact absurd rfl hK0
    | 1, hk, _, hE =>
      obtain rfl : IAE = E := Option.some.inj hE
      refine x_catch C (pre := []) (x := ⟨0, 6, 7, 26⟩) (suf := []) tbl (by decide +kernel) (fun z hz => absurd hz List.not_mem_nil) (by decide) (by decide) wd187 ?_ hP hS hl g1 g2 g3
      refine z_astore_n C dL_addWood_7 (by decide) ?_
      dsimp only [List.set]
      refine z_ldc C (v := (-1000002)) wd266 dL_addWood_8 ?_
      refine z_widen (mc := 2) (ms := 12) (by decide) (by decide) ?_
      refine z_iret C dL_addWood_10 ?_
      exact WP.no hk rfl
    ) ?_
  rintro _ _ ⟨hK0, rfl, rfl⟩
  refine z_widen (mc := 2) (ms := 12) (by decide) (by decide) ?_
  refine z_iret C dL_addWood_6 ?_
  exact WP.ok hK0
set_option maxRecDepth 100000 in
set_option maxHeartbeats 4000000 in
theorem c_L_order {l : Launch} {D : va_G} {ad : Nat → Nat → Nat} {cy : Nat → ClassId} {A : Nat → Prop} {sa : Nat → Nat} {σ : St} {x y z : Int32} (hI : Inv σ) : MW l D ad cy A sa yL_order cL_order 5 [(0, 7, 8, 26), (0, 7, 13, 16)] 3 4 σ [.ref (ad 0 0), .int x, .int y, .int z] (fun r σ' => WP (orderS σ (ix (σ 0 0 8)) x y z) σ σ' (K_order σ x y z) [-1000002, -1000003] (σ 0 0 8) r) := by
  refine MW.mk "FretSchoolLaw" (by decide) rfl (Nat.le_of_ble_eq_true rfl) rfl ?_
  intro p e s m args below meth c C tbl
  change Z _ _ _ _ _ _ _ _ _ _ _ _ _ _ _ _ _ _ _ [some (.ref (ad 0 0)), some (.int x), some (.int y), some (.int z), none] 0 []
  refine z_aload_n C dL_order_0 rfl ?_
  refine z_iload_n C dL_order_1 rfl ?_
  refine z_iload_n C dL_order_2 rfl ?_
  refine z_iload_n C dL_order_3 rfl ?_
  refine y_cvi C (As := [_, _, _]) (c_X5_order hI) okX5_order wd520 rc_0 (rok (by decide) (by decide)) ⟨Nat.le_of_ble_eq_true rfl, Nat.le_of_ble_eq_true rfl⟩ rfl (Nat.le_of_ble_eq_true rfl) dL_order_4 (fun E ce q9 u H1 locs1 ls hp hP hS hl g1 g2 g3 => by
    obtain ⟨hsm, hK0, hE⟩ := hp
    subst hsm
    obtain ⟨k, hk⟩ : ∃ k, K_order σ x y z = k := ⟨_, rfl⟩
    rw [hk] at hK0 hE
    match k, hk, hK0, hE with
    | 0, _, hK0, _ => exact absurd rfl hK0
    | 1, hk, _, hE =>
      obtain rfl : IAE = E := Option.some.inj hE
      refine x_catch C (pre := []) (x := ⟨0, 7, 8, 26⟩) (suf := [⟨0, 7, 13, 16⟩]) tbl (by decide +kernel) (fun z hz => absurd hz List.not_mem_nil) (by decide) (by decide) wd187 ?_ hP hS hl g1 g2 g3
      refine z_astore C dL_order_8 (by decide) ?_
      dsimp only [List.set]
      refine z_ldc C (v := (-1000002)) wd266 dL_order_10 ?_
      refine z_widen (mc := 4) (ms := 24) (by decide) (by decide) ?_
      refine z_iret C dL_order_12 ?_
      exact WP.no hk rfl
    | 2, hk, _, hE =>
      obtain rfl : ISE = E := Option.some.inj hE
      refine x_catch C (pre := [⟨0, 7, 8, 26⟩]) (x := ⟨0, 7, 13, 16⟩) (suf := []) tbl (by decide +kernel) (List.forall_mem_cons.mpr ⟨⟨(by decide), IAE, by decide +kernel, by decide +kernel, wd187⟩, fun _ h => absurd h List.not_mem_nil⟩) (by decide) (by decide) wd415 ?_ hP hS hl g1 g2 g3
      refine z_astore C dL_order_13 (by decide) ?_
      dsimp only [List.set]
      refine z_ldc C (v := (-1000003)) wd443 dL_order_15 ?_
      refine z_widen (mc := 4) (ms := 24) (by decide) (by decide) ?_
      refine z_iret C dL_order_17 ?_
      exact WP.no hk rfl
    ) ?_
  rintro _ _ ⟨hK0, rfl, rfl⟩
  refine z_widen (mc := 4) (ms := 24) (by decide) (by decide) ?_
  refine z_iret C dL_order_7 ?_
  exact WP.ok hK0
set_option maxRecDepth 100000 in
set_option maxHeartbeats 4000000 in
theorem c_L_ready {l : Launch} {D : va_G} {ad : Nat → Nat → Nat} {cy : Nat → ClassId} {A : Nat → Prop} {sa : Nat → Nat} {σ : St} {x : Int32} (hI : Inv σ) : MW l D ad cy A sa yL_ready cL_ready 3 [(0, 5, 6, 23)] 2 1 σ [.ref (ad 0 0), .int x] (fun r σ' => WP (σ) σ σ' (K_ready σ x) [-1000001] (σ 16 (ix x) 2) r) := by
  refine MW.mk "FretSchoolLaw" (by decide) rfl (Nat.le_of_ble_eq_true rfl) rfl ?_
  intro p e s m args below meth c C tbl
  change Z _ _ _ _ _ _ _ _ _ _ _ _ _ _ _ _ _ _ _ [some (.ref (ad 0 0)), some (.int x), none] 0 []
  refine z_aload_n C dL_ready_0 rfl ?_
  refine z_iload_n C dL_ready_1 rfl ?_
  refine y_cvi C (As := [_]) (c_X5_ready hI) okX5_ready wd508 rc_0 (rok (by decide) (by decide)) ⟨Nat.le_of_ble_eq_true rfl, Nat.le_of_ble_eq_true rfl⟩ rfl (Nat.le_of_ble_eq_true rfl) dL_ready_2 (fun E ce q9 u H1 locs1 ls hp hP hS hl g1 g2 g3 => by
    obtain ⟨hsm, hK0, hE⟩ := hp
    subst hsm
    obtain ⟨k, hk⟩ : ∃ k, K_ready σ x = k := ⟨_, rfl⟩
    rw [hk] at hK0 hE
    match k, hk, hK0, hE with
    | 0, _, hK0, _ => exact absurd rfl hK0
    | 1, hk, _, hE =>
      obtain rfl : IOOBE = E := Option.some.inj hE
      refine x_catch C (pre := []) (x := ⟨0, 5, 6, 23⟩) (suf := []) tbl (by decide +kernel) (fun z hz => absurd hz List.not_mem_nil) (by decide) (by decide) wd337 ?_ hP hS hl g1 g2 g3
      refine z_astore_n C dL_ready_6 (by decide) ?_
      dsimp only [List.set]
      refine z_ldc C (v := (-1000001)) wd367 dL_ready_7 ?_
      refine z_widen (mc := 1) (ms := 6) (by decide) (by decide) ?_
      refine z_iret C dL_ready_9 ?_
      exact WP.no hk rfl
    ) ?_
  rintro _ _ ⟨hK0, rfl, rfl⟩
  refine z_widen (mc := 1) (ms := 6) (by decide) (by decide) ?_
  refine z_iret C dL_ready_5 ?_
  exact WP.ok hK0
set_option maxRecDepth 100000 in
set_option maxHeartbeats 4000000 in
theorem c_L_fetch {l : Launch} {D : va_G} {ad : Nat → Nat → Nat} {cy : Nat → ClassId} {A : Nat → Prop} {sa : Nat → Nat} {σ : St} {x a b c0 d0 : Int32} (hI : Inv σ) : MW l D ad cy A sa yL_fetch cL_fetch 7 [(0, 11, 12, 23), (0, 11, 17, 26), (0, 11, 22, 16)] 2 6 σ [.ref (ad 0 0), .int x, .int a, .int b, .int c0, .int d0] (fun r σ' => WP (fetchS σ (ix x) (ix (σ 0 0 7)) a b c0 d0) σ σ' (K_fetch σ x a b c0 d0) [-1000001, -1000002, -1000003] (σ 0 0 7) r) := by
  refine MW.mk "FretSchoolLaw" (by decide) rfl (Nat.le_of_ble_eq_true rfl) rfl ?_
  intro p e s m args below meth c C tbl
  change Z _ _ _ _ _ _ _ _ _ _ _ _ _ _ _ _ _ _ _ [some (.ref (ad 0 0)), some (.int x), some (.int a), some (.int b), some (.int c0), some (.int d0), none] 0 []
  refine z_aload_n C dL_fetch_0 rfl ?_
  refine z_iload_n C dL_fetch_1 rfl ?_
  refine z_iload_n C dL_fetch_2 rfl ?_
  refine z_iload_n C dL_fetch_3 rfl ?_
  refine z_iload C dL_fetch_4 rfl ?_
  refine z_iload C dL_fetch_6 rfl ?_
  refine y_cvi C (As := [_, _, _, _, _]) (c_X5_fetch hI) okX5_fetch wd553 rc_0 (rok (by decide) (by decide)) ⟨Nat.le_of_ble_eq_true rfl, Nat.le_of_ble_eq_true rfl⟩ rfl (Nat.le_of_ble_eq_true rfl) dL_fetch_8 (fun E ce q9 u H1 locs1 ls hp hP hS hl g1 g2 g3 => by
    obtain ⟨hsm, hK0, hE⟩ := hp
    subst hsm
    obtain ⟨k, hk⟩ : ∃ k, K_fetch σ x a b c0 d0 = k := ⟨_, rfl⟩
    rw [hk] at hK0 hE
    match k, hk, hK0, hE with
    | 0, _, hK0, _ => exact absurd rfl hK0
    | 1, hk, _, hE =>
      obtain rfl : IOOBE = E := Option.some.inj hE
      refine x_catch C (pre := []) (x := ⟨0, 11, 12, 23⟩) (suf := [⟨0, 11, 17, 26⟩, ⟨0, 11, 22, 16⟩]) tbl (by decide +kernel) (fun z hz => absurd hz List.not_mem_nil) (by decide) (by decide) wd337 ?_ hP hS hl g1 g2 g3
      refine z_astore C dL_fetch_12 (by decide) ?_
      dsimp only [List.set]
      refine z_ldc C (v := (-1000001)) wd367 dL_fetch_14 ?_
      refine z_widen (mc := 6) (ms := 36) (by decide) (by decide) ?_
      refine z_iret C dL_fetch_16 ?_
      exact WP.no hk rfl
    | 2, hk, _, hE =>
      obtain rfl : IAE = E := Option.some.inj hE
      refine x_catch C (pre := [⟨0, 11, 12, 23⟩]) (x := ⟨0, 11, 17, 26⟩) (suf := [⟨0, 11, 22, 16⟩]) tbl (by decide +kernel) (List.forall_mem_cons.mpr ⟨⟨(by decide), IOOBE, by decide +kernel, by decide +kernel, wd337⟩, fun _ h => absurd h List.not_mem_nil⟩) (by decide) (by decide) wd187 ?_ hP hS hl g1 g2 g3
      refine z_astore C dL_fetch_17 (by decide) ?_
      dsimp only [List.set]
      refine z_ldc C (v := (-1000002)) wd266 dL_fetch_19 ?_
      refine z_widen (mc := 6) (ms := 36) (by decide) (by decide) ?_
      refine z_iret C dL_fetch_21 ?_
      exact WP.no hk rfl
    | 3, hk, _, hE =>
      obtain rfl : ISE = E := Option.some.inj hE
      refine x_catch C (pre := [⟨0, 11, 12, 23⟩, ⟨0, 11, 17, 26⟩]) (x := ⟨0, 11, 22, 16⟩) (suf := []) tbl (by decide +kernel) (List.forall_mem_cons.mpr ⟨⟨(by decide), IOOBE, by decide +kernel, by decide +kernel, wd337⟩, List.forall_mem_cons.mpr ⟨⟨(by decide), IAE, by decide +kernel, by decide +kernel, wd187⟩, fun _ h => absurd h List.not_mem_nil⟩⟩) (by decide) (by decide) wd415 ?_ hP hS hl g1 g2 g3
      refine z_astore C dL_fetch_22 (by decide) ?_
      dsimp only [List.set]
      refine z_ldc C (v := (-1000003)) wd443 dL_fetch_24 ?_
      refine z_widen (mc := 6) (ms := 36) (by decide) (by decide) ?_
      refine z_iret C dL_fetch_26 ?_
      exact WP.no hk rfl
    ) ?_
  rintro _ _ ⟨hK0, rfl, rfl⟩
  refine z_widen (mc := 6) (ms := 36) (by decide) (by decide) ?_
  refine z_iret C dL_fetch_11 ?_
  exact WP.ok hK0
set_option maxRecDepth 100000 in
set_option maxHeartbeats 4000000 in
theorem c_L_pass {l : Launch} {D : va_G} {ad : Nat → Nat → Nat} {cy : Nat → ClassId} {A : Nat → Prop} {sa : Nat → Nat} {σ : St} {x : Int32} : MW l D ad cy A sa yL_pass cL_pass 3 [(0, 5, 6, 26), (0, 5, 10, 16)] 2 2 σ [.ref (ad 0 0), .int x] (fun r σ' => WP (up σ 0 0 9 (σ 0 0 9 + x)) σ σ' (K_pass σ x) [-1000002, -1000003] (σ 0 0 9 + x) r) := by
  refine MW.mk "FretSchoolLaw" (by decide) rfl (Nat.le_of_ble_eq_true rfl) rfl ?_
  intro p e s m args below meth c C tbl
  change Z _ _ _ _ _ _ _ _ _ _ _ _ _ _ _ _ _ _ _ [some (.ref (ad 0 0)), some (.int x), none] 0 []
  refine z_aload_n C dL_pass_0 rfl ?_
  refine z_iload_n C dL_pass_1 rfl ?_
  refine y_cvi C (As := [_]) (c_X5_pass) okX5_pass wd542 rc_0 (rok (by decide) (by decide)) ⟨Nat.le_of_ble_eq_true rfl, Nat.le_of_ble_eq_true rfl⟩ rfl (Nat.le_of_ble_eq_true rfl) dL_pass_2 (fun E ce q9 u H1 locs1 ls hp hP hS hl g1 g2 g3 => by
    obtain ⟨hsm, hK0, hE⟩ := hp
    subst hsm
    obtain ⟨k, hk⟩ : ∃ k, K_pass σ x = k := ⟨_, rfl⟩
    rw [hk] at hK0 hE
    match k, hk, hK0, hE with
    | 0, _, hK0, _ => exact absurd rfl hK0
    | 1, hk, _, hE =>
      obtain rfl : IAE = E := Option.some.inj hE
      refine x_catch C (pre := []) (x := ⟨0, 5, 6, 26⟩) (suf := [⟨0, 5, 10, 16⟩]) tbl (by decide +kernel) (fun z hz => absurd hz List.not_mem_nil) (by decide) (by decide) wd187 ?_ hP hS hl g1 g2 g3
      refine z_astore_n C dL_pass_6 (by decide) ?_
      dsimp only [List.set]
      refine z_ldc C (v := (-1000002)) wd266 dL_pass_7 ?_
      refine z_widen (mc := 2) (ms := 12) (by decide) (by decide) ?_
      refine z_iret C dL_pass_9 ?_
      exact WP.no hk rfl
    | 2, hk, _, hE =>
      obtain rfl : ISE = E := Option.some.inj hE
      refine x_catch C (pre := [⟨0, 5, 6, 26⟩]) (x := ⟨0, 5, 10, 16⟩) (suf := []) tbl (by decide +kernel) (List.forall_mem_cons.mpr ⟨⟨(by decide), IAE, by decide +kernel, by decide +kernel, wd187⟩, fun _ h => absurd h List.not_mem_nil⟩) (by decide) (by decide) wd415 ?_ hP hS hl g1 g2 g3
      refine z_astore_n C dL_pass_10 (by decide) ?_
      dsimp only [List.set]
      refine z_ldc C (v := (-1000003)) wd443 dL_pass_11 ?_
      refine z_widen (mc := 2) (ms := 12) (by decide) (by decide) ?_
      refine z_iret C dL_pass_13 ?_
      exact WP.no hk rfl
    ) ?_
  rintro _ _ ⟨hK0, rfl, rfl⟩
  refine z_widen (mc := 2) (ms := 12) (by decide) (by decide) ?_
  refine z_iret C dL_pass_5 ?_
  exact WP.ok hK0
section ZL
variable {p : Program} {l : Launch} {e : Env} {R : Room} {s : State} {m : MethodId} {args : Array Value} {below : List Frame} {meth : Method} {c : Code} {D : va_G} {ad : Nat → Nat → Nat} {cy : Nat → ClassId} {A : Nat → Prop} {sa : Nat → Nat} {nL cells slots : Nat} {Q : State → Prop} {σ : St} {L : List (Option Value)} {pc : Nat} {st stk : List Value} {cc : ByteArray} {own : String} {ret : Option FieldType}
theorem z_csw (C : Cx p l s m args meth c cc own nL ret D ad cy A sa) {y : MethodName} {bytes : ByteArray} {maxL : Nat} {hh : List (Nat × Nat × Nat × Nat)} {d mc : Nat} {post : Int32 → St → Prop} {As : List Value} {idx : Nat} (M : MW l D ad cy A sa y bytes maxL hh d mc σ As post) (h1 : Cond.static y ∈ BIG) (h2 : Cond.initialized y.cls ∈ BIG) (h3 : Cond.codeWith y bytes maxL (some .int) hh ∈ BIG) (hd : y.cls ≠ "java/lang/invoke/MethodHandle" ∧ y.cls ≠ "java/lang/invoke/VarHandle" ∧ (parseMethodDescriptor y.desc).map (fun d => d.parameters.length) = some As.length) (hw : Cond.methodLink own idx y ∈ BIG) (hR : Rok R d maxL) (hc : cells + mc ≤ R.cells ∧ slots + 6 * mc ≤ R.slots) (hst : stk = As.reverse ++ st) (hcat : (st.map fun v => v.category).sum ≤ 8) (hdg : decode cc pc = .ok (.invokestatic idx, 3)) (kk : ∀ (r : Int32) (σ' : St), post r σ' → Z p l e R s m args below meth c D ad cy A nL (cells + mc) (slots + 6 * mc) Q σ' L (pc + 3) (.int r :: st)) : Z p l e R s m args below meth c D ad cy A nL cells slots Q σ L pc stk := by
  intro H locs ls hP hS hl
  obtain ⟨hx, hb, hml, hown, hts, hr0, hlk, hF⟩ := C
  subst hst
  refine va_calli (vx_runSW (g := F0 m pc ls (As.reverse ++ st)) (As := As) (rest := st) ⟨hx, hb, hml, hown, hts⟩ M (vx_cwSW As.length hts (okS_in h1 h2 h3 hw) rfl rfl rfl hd hR) ⟨PcW.blind, fun U hU hW => ⟨rfl, hF.call hS hU hW, by rw [hU]; exact hP⟩⟩ rfl rfl hl.1 rfl (lv_room hcat) hdg hc) hS (fun q _ h => h) (fun q h => h) (fun r u t H1 locs1 ht hvm hw1 hB hz1 hk1 hS1 => ?_)
  exact kk r u hw1 H1 locs1 ls (by rw [← ht]; exact hB) hS1 hl
theorem z_sld (C : Cx p l s m args meth c cc own nL ret D ad cy A sa) {b L0 : Nat} {xs : Nat → Int32} (hX : va_X b L0 xs s s.heap) (hbl : b < s.heap.size) (hbA : ¬ A b) {i : Int32} (hin : vp_in i L0) (hdg : decode cc pc = .ok (.iaload, 1)) (k : Z p l e R s m args below meth c D ad cy A nL cells slots Q σ L (pc + 1) (.int (xs i.toNatClampNeg) :: st)) : Z p l e R s m args below meth c D ad cy A nL cells slots Q σ L pc (.int i :: .ref b :: st) :=
  fun H locs ls hP hS hl => va_sld C.1 C.2.1 hX hbl hbA hS hin hdg (k H locs ls hP hS hl)
theorem z_slen (C : Cx p l s m args meth c cc own nL ret D ad cy A sa) {b L0 : Nat} {xs : Nat → Int32} (hX : va_X b L0 xs s s.heap) (hbl : b < s.heap.size) (hbA : ¬ A b) (hdg : decode cc pc = .ok (.arraylength, 1)) (k : Z p l e R s m args below meth c D ad cy A nL cells slots Q σ L (pc + 1) (.int (Int32.ofNat L0) :: st)) : Z p l e R s m args below meth c D ad cy A nL cells slots Q σ L pc (.ref b :: st) :=
  fun H locs ls hP hS hl => va_slen C.1 C.2.1 hX hbl hbA hS hdg (k H locs ls hP hS hl)
/-- a method of the law that may make cells -/
def MK (l : Launch) (D : va_G) (ad : Nat → Nat → Nat) (cy : Nat → ClassId) (A : Nat → Prop) (sa : Nat → Nat) (y : MethodName) (bytes : ByteArray) (maxL : Nat) (ret : Option FieldType) (d mc : Nat) (σ : St) (av : List Value) (post : Int32 → St → Prop) : Prop :=
  Met l y (Cond.code y bytes maxL ret :: BIG) (rmD d mc) (PcW l D ad cy A sa σ av) (va_Qi post (Bw D ad cy) A) mc (6 * mc) A
theorem MK.mk {y : MethodName} {bytes : ByteArray} {maxL : Nat} {d mc : Nat} {av : List Value} {post : Int32 → St → Prop} (own : String) (hy : plainName y.cls = true) (ho : y.cls = own) (hlen : (lg_sl av).length ≤ maxL) (hc : av.all (fun v => v.category == 1) = true)
    (body : ∀ (p : Program) (e : Env) (s : State) (m : MethodId) (args : Array Value) (below : List Frame) (meth : Method) (c : Code), Cx p l s m args meth c bytes own maxL ret D ad cy A sa → Z p l e (rmD d mc) s m args below meth c D ad cy A maxL 0 0 (MQ below (va_Qi post (Bw D ad cy) A) args s mc (6 * mc) A) σ (L0 av maxL) 0 []) : MK l D ad cy A sa y bytes maxL ret d mc σ av post := by
  refine Met.ofW (cc := bytes) (maxL := maxL) (ret := ret) hy rfl ?_
  intro p e s m args below meth c s₁ B hml hv
  obtain ⟨rfl, hF, hP⟩ := hv
  have C := Cx.of (own := own) B hml ho hF
  have hl := lv_entry av (n := maxL) hlen
  rw [lg_entry_eq]
  exact body p e s m _ below meth c C s.heap [] _ hP va_S.rf (lh_entry hc hl)
theorem z_csk (C : Cx p l s m args meth c cc own nL ret D ad cy A sa) {y : MethodName} {bytes : ByteArray} {maxL : Nat} {ret' : Option FieldType} {d mc : Nat} {post : Int32 → St → Prop} {As : List Value} {idx : Nat} (M : MK l D ad cy A sa y bytes maxL ret' d mc σ As post) (ok : OkS y bytes maxL ret' As.length) (hw : Cond.methodLink own idx y ∈ BIG) (hR : Rok R d maxL) (hc : cells + mc ≤ R.cells ∧ slots + 6 * mc ≤ R.slots) (hst : stk = As.reverse ++ st) (hcat : (st.map fun v => v.category).sum ≤ 8) (hdg : decode cc pc = .ok (.invokestatic idx, 3)) (kk : ∀ (r : Int32) (σ' : St), post r σ' → Z p l e R s m args below meth c D ad cy A nL (cells + mc) (slots + 6 * mc) Q σ' L (pc + 3) (.int r :: st)) : Z p l e R s m args below meth c D ad cy A nL cells slots Q σ L pc stk := by
  intro H locs ls hP hS hl
  obtain ⟨hx, hb, hml, hown, hts, hr0, hlk, hF⟩ := C
  subst hst
  refine va_calli (va_runS (g := F0 m pc ls (As.reverse ++ st)) (As := As) (rest := st) ⟨hx, hb, hml, hown, hts⟩ M (va_cwS As.length hts (okS_in ok.1 ok.2.1 ok.2.2.1 hw) rfl rfl rfl ok.2.2.2 hR) ⟨PcW.blind, fun U hU hW => ⟨rfl, hF.call hS hU hW, by rw [hU]; exact hP⟩⟩ rfl rfl hl.1 rfl (lv_room hcat) hdg hc) hS (fun q _ h => h) (fun q h => h) (fun r u t H1 locs1 ht hvm hw1 hB hz1 hk1 hS1 => ?_)
  exact kk r u hw1 H1 locs1 ls (by rw [← ht]; exact hB) hS1 hl
theorem z_irem (C : Cx p l s m args meth c cc own nL ret D ad cy A sa) {x y : Int32} (hy : ¬ y = 0) (hdg : decode cc pc = .ok (.irem, 1)) (k : Z p l e R s m args below meth c D ad cy A nL cells slots Q σ L (pc + 1) (.int (x - x / y * y) :: st)) : Z p l e R s m args below meth c D ad cy A nL cells slots Q σ L pc (.int y :: .int x :: st) :=
  fun H locs ls hP hS hl => lv_irem C.1 C.2.1 hdg hy (k H locs ls hP hS hl)
theorem z_idiv (C : Cx p l s m args meth c cc own nL ret D ad cy A sa) {x y : Int32} (hy : ¬ y = 0) (hdg : decode cc pc = .ok (.idiv, 1)) (k : Z p l e R s m args below meth c D ad cy A nL cells slots Q σ L (pc + 1) (.int (x / y) :: st)) : Z p l e R s m args below meth c D ad cy A nL cells slots Q σ L pc (.int y :: .int x :: st) :=
  fun H locs ls hP hS hl => lv_idiv C.1 C.2.1 hdg hy (k H locs ls hP hS hl)
end ZL
theorem okL_at : OkS yL_at cL_at 2 (some .int) 2 := ⟨wd180, wd13, wd181, by decide +kernel⟩
theorem okL_fingers : OkS yL_fingers cL_fingers 18 (some .boolean) 6 := ⟨wd332, wd13, wd333, by decide +kernel⟩
theorem okL_apart : OkS yL_apart cL_apart 2 (some .int) 2 := ⟨wd369, wd13, wd370, by decide +kernel⟩
theorem okL_stringOf : OkS yL_stringOf cL_stringOf 7 (some .int) 5 := ⟨wd372, wd13, wd373, by decide +kernel⟩
theorem okL_acts : OkS yL_acts cL_acts 15 (some .boolean) 9 := ⟨wd445, wd13, wd446, by decide +kernel⟩
theorem okL_low : OkS yL_low cL_low 2 (some .int) 2 := ⟨wd448, wd13, wd449, by decide +kernel⟩
theorem okL_pieces : OkS yL_pieces cL_pieces 10 (some .boolean) 5 := ⟨wd452, wd13, wd453, by decide +kernel⟩
theorem okL_orders : OkS yL_orders cL_orders 12 (some .boolean) 6 := ⟨wd503, wd13, wd504, by decide +kernel⟩
theorem okL_fetches : OkS yL_fetches cL_fetches 13 (some .boolean) 7 := ⟨wd548, wd13, wd549, by decide +kernel⟩
theorem okL_nexts : OkS yL_nexts cL_nexts 9 (some .boolean) 4 := ⟨wd596, wd13, wd597, by decide +kernel⟩
theorem okL_learns : OkS yL_learns cL_learns 12 (some .boolean) 6 := ⟨wd599, wd13, wd600, by decide +kernel⟩
