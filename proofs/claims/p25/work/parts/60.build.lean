/-! ===== making the world: the constructors ===== -/
/-- what the tables say, all through the making -/
def nests : List (Nat × MethodName) := [(15, yX3_init), (22, yX1_init), (29, yX4_init), (36, yX2_init), (43, yX0_init)]
def overs : List String := [RX3, RX1, RX4, RX2]
def Fb (D : va_G) (cy : Nat → ClassId) (s : State) : Prop := va_K D vwCl (tysL cy) s ∧ (∀ q ∈ nests, va_Nw (.methodLinkNest "FretSchool" q.1 q.2 "FretSchool") s) ∧ (∀ C ∈ overs, va_AO C s) ∧ va_AOA .int s
theorem va_AOA.moved {ty : FieldType} {u U : State} (hvm : u.vm.Alike U.vm) (h : va_AOA ty u) : va_AOA ty U := by
  unfold va_AOA Cond.before Cond.holds at h ⊢
  simp only [Cond.value] at h ⊢
  simp only [hvm.findClass]
  cases h1 : u.vm.findClass ty.array.toString with
  | none => rw [h1] at h; exact absurd (show false = true from h) (by decide)
  | some comp =>
    rw [h1] at h
    rw [Option.bind_some] at h ⊢
    cases h2 : (u.vm.classes.findIdx? fun (x : Class) => match x.kind with | .array component _ => component == comp | _ => false) with
    | none =>
      have h' := (congrArg (fun o : Option Nat => ((o.bind (fun c => (u.vm.classes[c]?).map fun (k : Class) => match k.kind with | .array _ ty1 => decide (ty1 = ty.array) && decide (u.vm.findClass ("[" ++ ty.array.toString) = some c) | _ => false)) == some true)) h2).symm.trans h
      exact absurd (show false = true from h') (by decide)
    | some c =>
      have h' := (congrArg (fun o : Option Nat => ((o.bind (fun c => (u.vm.classes[c]?).map fun (k : Class) => match k.kind with | .array _ ty1 => decide (ty1 = ty.array) && decide (u.vm.findClass ("[" ++ ty.array.toString) = some c) | _ => false)) == some true)) h2).symm.trans h
      have hi : (U.vm.classes.findIdx? fun (x : Class) => match x.kind with | .array component _ => component == comp | _ => false) = some c := by
        have e1 := va_idx_bare (vm := U.vm) (comp := comp)
        have e2 := va_idx_bare (vm := u.vm) (comp := comp)
        first | rw [hvm.bare_eq] at e1 | rw [← hvm.bare_eq] at e1
        exact e1.symm.trans (e2.trans h2)
      refine (congrArg (fun o : Option Nat => ((o.bind (fun c => (U.vm.classes[c]?).map fun (k : Class) => match k.kind with | .array _ ty1 => decide (ty1 = ty.array) && decide (u.vm.findClass ("[" ++ ty.array.toString) = some c) | _ => false)) == some true)) hi).trans ?_
      dsimp only [Option.bind_some] at h' ⊢
      cases h3 : u.vm.classes[c]? with
      | none => rw [h3] at h'; exact absurd (show false = true from h') (by decide)
      | some k =>
        obtain ⟨k', hk', he⟩ := hvm.2.2 _ _ h3
        have hkind : k'.kind = k.kind := by rw [he]
        rw [h3] at h'
        rw [hk']
        simp only [Option.map_some] at h' ⊢
        rw [hkind]
        exact h'
theorem Fb.call {D : va_G} {cy : Nat → ClassId} {s U : State} (h : Fb D cy s) (hW : s.WarmedH U.vm) : Fb D cy U :=
  ⟨va_K.moved hW.alike h.1, fun q hq => (h.2.1 q hq).warmM hW, fun C hC => (h.2.2.1 C hC).moved hW.alike, h.2.2.2.moved hW.alike⟩
theorem Fb.blind {D : va_G} {cy : Nat → ClassId} {U : State} {g : JFrame} {mk : MethodId} {a : Array Value} (h : Fb D cy U) : Fb D cy (U.calling g mk a) :=
  ⟨va_K.moved (u := U) (U := U.calling g mk a) (Vm.Alike.refl U.vm) h.1, fun q hq => va_tabs rfl (rfl : U.vm = (U.calling g mk a).vm) (h.2.1 q hq), fun C hC => va_AO.moved (u := U) (U := U.calling g mk a) (Vm.Alike.refl U.vm) (h.2.2.1 C hC), va_AOA.moved (u := U) (U := U.calling g mk a) (Vm.Alike.refl U.vm) h.2.2.2⟩
def Bx (p : Program) (s : State) (m : MethodId) (args : Array Value) (meth : Method) (c : Code) (cc : ByteArray) (own : String) (nL : Nat) (ret : Option FieldType) (D : va_G) (cy : Nat → ClassId) (A : Nat → Prop) : Prop :=
  p.tables.exec = Jvm.exec ∧ c.code = cc ∧ c.maxLocals = nL ∧ s.vm.findClass own = some m.cls ∧ (∀ w ∈ BIG, w.before args s = true) ∧ meth.sig.returnType = ret ∧ meth.locks = false ∧ Fb D cy s ∧ (∀ q : Nat, s.heap.size ≤ q → A q)
def ZB (p : Program) (l : Launch) (e : Env) (R : Room) (s : State) (m : MethodId) (args : Array Value) (below : List Frame) (meth : Method) (c : Code) (D : va_G) (A : Nat → Prop) (nL : Nat) (cells slots : Nat) (Q : State → Prop) (ws : va_W) (L : List (Option Value)) (pc : Nat) (st : List Value) : Prop :=
  ∀ (H : Heap) (locs : List Loc) (ls : Array Slot), va_P D vwCl ws H → va_D A ws → va_S A s.heap H locs → lh ls nL L → W p l e R s m args below meth c H locs cells slots Q (F0 m pc ls st)
section ZBR
variable {p : Program} {l : Launch} {e : Env} {R : Room} {s : State} {m : MethodId} {args : Array Value} {below : List Frame} {meth : Method} {c : Code} {D : va_G} {cy : Nat → ClassId} {A : Nat → Prop} {nL cells slots : Nat} {Q : State → Prop} {ws : va_W} {L : List (Option Value)} {pc : Nat} {st : List Value} {cc : ByteArray} {own : String} {ret : Option FieldType}
theorem b_iconst (C : Bx p s m args meth c cc own nL ret D cy A) {n : Int} {v : Int32} (hdg : decode cc pc = .ok (.iconst n, 1)) (hv : Int32.ofInt n = v) (k : ZB p l e R s m args below meth c D A nL cells slots Q ws L (pc + 1) (.int v :: st)) : ZB p l e R s m args below meth c D A nL cells slots Q ws L pc st :=
  fun H locs ls hP hD hS hl => lv_iconst C.1 C.2.1 hdg hv (k H locs ls hP hD hS hl)
theorem b_bipush (C : Bx p s m args meth c cc own nL ret D cy A) {n : Int} {v : Int32} (hdg : decode cc pc = .ok (.bipush n, 2)) (hv : (Int8.ofInt n).toInt32 = v) (k : ZB p l e R s m args below meth c D A nL cells slots Q ws L (pc + 2) (.int v :: st)) : ZB p l e R s m args below meth c D A nL cells slots Q ws L pc st :=
  fun H locs ls hP hD hS hl => lv_bipush C.1 C.2.1 hdg hv (k H locs ls hP hD hS hl)
theorem b_sipush (C : Bx p s m args meth c cc own nL ret D cy A) {n : Int} {v : Int32} (hdg : decode cc pc = .ok (.sipush n, 3)) (hv : (Int16.ofInt n).toInt32 = v) (k : ZB p l e R s m args below meth c D A nL cells slots Q ws L (pc + 3) (.int v :: st)) : ZB p l e R s m args below meth c D A nL cells slots Q ws L pc st :=
  fun H locs ls hP hD hS hl => lv_sipush C.1 C.2.1 hdg hv (k H locs ls hP hD hS hl)
theorem b_iload_n (C : Bx p s m args meth c cc own nL ret D cy A) {n : Fin 4} {x : Int32} (hdg : decode cc pc = .ok (.iload_n n, 1)) (hx : L[(n : Nat)]? = some (some (.int x))) (k : ZB p l e R s m args below meth c D A nL cells slots Q ws L (pc + 1) (.int x :: st)) : ZB p l e R s m args below meth c D A nL cells slots Q ws L pc st :=
  fun H locs ls hP hD hS hl => lv_iload_n C.1 C.2.1 hdg rfl (hl.at hx) (k H locs ls hP hD hS hl)
theorem b_aload_n (C : Bx p s m args meth c cc own nL ret D cy A) {n : Fin 4} {x : Nat} (hdg : decode cc pc = .ok (.aload_n n, 1)) (hx : L[(n : Nat)]? = some (some (.ref x))) (k : ZB p l e R s m args below meth c D A nL cells slots Q ws L (pc + 1) (.ref x :: st)) : ZB p l e R s m args below meth c D A nL cells slots Q ws L pc st :=
  fun H locs ls hP hD hS hl => lv_aload_n C.1 C.2.1 hdg rfl (hl.at hx) (k H locs ls hP hD hS hl)
theorem b_istore_n (C : Bx p s m args meth c cc own nL ret D cy A) {n : Fin 4} {x : Int32} (hdg : decode cc pc = .ok (.istore_n n, 1)) (hn : (n : Nat) < nL) (k : ZB p l e R s m args below meth c D A nL cells slots Q ws (L.set (n : Nat) (some (.int x))) (pc + 1) st) : ZB p l e R s m args below meth c D A nL cells slots Q ws L pc (.int x :: st) :=
  fun H locs _ hP hD hS hl => lv_istore_n C.1 C.2.1 hdg rfl hl.has hn rfl (fun ls' h' => k H locs ls' hP hD hS (hl.set rfl h'))
theorem b_iinc (C : Bx p s m args meth c cc own nL ret D cy A) {i : Nat} {n : Int} {x v : Int32} (hdg : decode cc pc = .ok (.iinc i n, 3)) (hx : L[i]? = some (some (.int x))) (hv : Int32.ofInt n = v) (hn : i < nL) (k : ZB p l e R s m args below meth c D A nL cells slots Q ws (L.set i (some (.int (x + v)))) (pc + 3) st) : ZB p l e R s m args below meth c D A nL cells slots Q ws L pc st := by
  intro H locs ls hP hD hS hl
  obtain ⟨k0, hk0⟩ := List.getElem?_of_mem (prs_mem.mpr hx)
  exact lv_iinc C.1 C.2.1 hdg hl.has hk0 (by rw [hv]) hn rfl (fun ls' h' => k H locs ls' hP hD hS (hl.set rfl h'))
theorem b_dup (C : Bx p s m args meth c cc own nL ret D cy A) {v : Value} (hdg : decode cc pc = .ok (.dup, 1)) (hv : v.category = 1) (k : ZB p l e R s m args below meth c D A nL cells slots Q ws L (pc + 1) (v :: v :: st)) : ZB p l e R s m args below meth c D A nL cells slots Q ws L pc (v :: st) :=
  fun H locs ls hP hD hS hl => lv_dup C.1 C.2.1 hdg hv (k H locs ls hP hD hS hl)
theorem b_goto (C : Bx p s m args meth c cc own nL ret D cy A) {off : Int} (tgt : Nat) (hdg : decode cc pc = .ok (.goto off, 3)) (ht : (pc : Int) + off = (tgt : Int)) (k : ZB p l e R s m args below meth c D A nL cells slots Q ws L tgt st) : ZB p l e R s m args below meth c D A nL cells slots Q ws L pc st :=
  fun H locs ls hP hD hS hl => lv_goto C.1 C.2.1 hdg ht (k H locs ls hP hD hS hl)
theorem b_icmp_ge (C : Bx p s m args meth c cc own nL ret D cy A) {x y : Int32} {off : Int} (tgt : Nat) (hdg : decode cc pc = .ok (.if_icmp .ge off, 3)) (ht : (pc : Int) + off = (tgt : Int)) (kt : y ≤ x → ZB p l e R s m args below meth c D A nL cells slots Q ws L tgt st) (kf : ¬ y ≤ x → ZB p l e R s m args below meth c D A nL cells slots Q ws L (pc + 3) st) : ZB p l e R s m args below meth c D A nL cells slots Q ws L pc (.int y :: .int x :: st) :=
  fun H locs ls hP hD hS hl => lv_icmp_ge C.1 C.2.1 hdg ht (fun h => kt h H locs ls hP hD hS hl) (fun h => kf h H locs ls hP hD hS hl)
theorem b_icmp_lt (C : Bx p s m args meth c cc own nL ret D cy A) {x y : Int32} {off : Int} (tgt : Nat) (hdg : decode cc pc = .ok (.if_icmp .lt off, 3)) (ht : (pc : Int) + off = (tgt : Int)) (kt : x < y → ZB p l e R s m args below meth c D A nL cells slots Q ws L tgt st) (kf : ¬ x < y → ZB p l e R s m args below meth c D A nL cells slots Q ws L (pc + 3) st) : ZB p l e R s m args below meth c D A nL cells slots Q ws L pc (.int y :: .int x :: st) :=
  fun H locs ls hP hD hS hl => lv_icmp_lt C.1 C.2.1 hdg ht (fun h => kt h H locs ls hP hD hS hl) (fun h => kf h H locs ls hP hD hS hl)
theorem b_widen {mc ms : Nat} (h1 : cells ≤ mc) (h2 : slots ≤ ms) (k : ZB p l e R s m args below meth c D A nL mc ms Q ws L pc st) : ZB p l e R s m args below meth c D A nL cells slots Q ws L pc st :=
  fun H locs ls hP hD hS hl => W.widen h1 h2 (k H locs ls hP hD hS hl)
theorem b_loc {L' : List (Option Value)} (hs : ∀ (i : Nat) (v : Value), L'[i]? = some (some v) → L[i]? = some (some v)) (k : ZB p l e R s m args below meth c D A nL cells slots Q ws L' pc st) : ZB p l e R s m args below meth c D A nL cells slots Q ws L pc st :=
  fun H locs ls hP hD hS hl => k H locs ls hP hD hS (hl.sub hs)
/-- the same things in another order -/
theorem b_perm {ws' : va_W} (is : List Nat) (hn : va_nd is = true) (hs : is.map (fun i => ws[i]?) = ws'.map some) (k : ZB p l e R s m args below meth c D A nL cells slots Q ws' L pc st) : ZB p l e R s m args below meth c D A nL cells slots Q ws L pc st :=
  fun H locs ls hP hD hS hl => k H locs ls (hP.sub is (by
    have h := congrArg (List.filterMap id) hs
    simpa [List.filterMap_map] using h)) (hD.sub is hn hs) hS hl
/-- Object's own constructor -/
theorem b_obj (C : Bx p s m args meth c cc own nL ret D cy A) {idx : Nat} {a : Nat} (hR : 1 ≤ R.frames ∧ (st.map fun v => v.category).sum + 12 ≤ R.locals) (hw : Cond.methodLink own idx (⟨"java/lang/Object", "<init>", "()V"⟩ : MethodName) ∈ BIG) (hdg : decode cc pc = .ok (.invokespecial idx, 3)) (k : ZB p l e R s m args below meth c D A nL cells slots Q ws L (pc + 3) st) : ZB p l e R s m args below meth c D A nL cells slots Q ws L pc (.ref a :: st) :=
  fun H locs ls hP hD hS hl => W.objInit C.1 C.2.1 C.2.2.2.1 (C.2.2.2.2.1 _ hw) (C.2.2.2.2.1 _ wd33) (C.2.2.2.2.1 _ wd34) rfl (by rw [C.2.2.1]; exact hl.1) rfl hdg hR.1 (by show 2 * 0 + _ + 12 ≤ _; omega) (k H locs ls hP hD hS hl)
theorem b_put (C : Bx p s m args meth c cc own nL ret D cy A) (q0 f : Nat) {a ci : Nat} {fs : List Value} (he : ws[q0]? = some (a, .inr (ci, fs))) {Cn : String} {T : u_T} {N : Nat} (hcl : vwCl[ci]? = some (Cn, T, N)) (hf : f < N) (hin : ∀ w ∈ u_ws Cn T N, w ∈ BIG) {ty0 : Nat → FieldType} (hty : ∀ k, k < N → parseFieldDescriptor (T k).2.2.1 = some (ty0 k)) (hnm : ∀ a, a < N → ∀ b, b < N → a ≠ b → (T a).2.1 ≠ (T b).2.1) {idx : Nat} {rf : String} (hw : Cond.fieldLink own idx rf (T f).2.1 (T f).2.2.1 ∈ BIG) (hsame : (T f).1 = rf) (hfin : (T f).2.2.2 = false) {v : Value} (hn : narrow (ty0 f) v = v) (hfit : fits (ty0 f) v = true) (hlen : f < fs.length) (hdg : decode cc pc = .ok (.putfield idx, 3)) (kk : ZB p l e R s m args below meth c D A nL cells slots Q (ws.set q0 (a, .inr (ci, fs.set f v))) L (pc + 3) st) : ZB p l e R s m args below meth c D A nL cells slots Q ws L pc (v :: .ref a :: st) := by
  intro H locs ls hP hD hS hl
  obtain ⟨hx, hb, hml, hown, hts, hr, hlk, hF, hA⟩ := C
  exact va_put hx hb (Ts := BIG) hts hin ty0 hty hnm hown hF.1 hP hD hS q0 he hcl f hf (hts _ hw) (fun x h => by rw [← hsame]; exact h) hfin (hty f hf) hn hfit hlen hdg (fun H1 locs1 hP1 hD1 hS1 => kk H1 locs1 ls hP1 hD1 hS1 hl)
theorem b_get (C : Bx p s m args meth c cc own nL ret D cy A) (q0 f : Nat) {a ci : Nat} {fs : List Value} (he : ws[q0]? = some (a, .inr (ci, fs))) {Cn : String} {T : u_T} {N : Nat} (hcl : vwCl[ci]? = some (Cn, T, N)) (hf : f < N) (hin : ∀ w ∈ u_ws Cn T N, w ∈ BIG) {idx : Nat} {rf : String} (hw : Cond.fieldLink own idx rf (T f).2.1 (T f).2.2.1 ∈ BIG) (hsame : (T f).1 = rf) {v : Value} (hv : fs[f]? = some v) (hdg : decode cc pc = .ok (.getfield idx, 3)) (kk : ZB p l e R s m args below meth c D A nL cells slots Q ws L (pc + 3) (v :: st)) : ZB p l e R s m args below meth c D A nL cells slots Q ws L pc (.ref a :: st) := by
  intro H locs ls hP hD hS hl
  obtain ⟨hx, hb, hml, hown, hts, hr, hlk, hF, hA⟩ := C
  exact va_get hx hb (Ts := BIG) hts hin hown hF.1 hP q0 he hcl f hf (hts _ hw) (fun x h => by rw [← hsame]; exact h) hv hdg (kk H locs ls hP hD hS hl)
theorem b_newi (C : Bx p s m args meth c cc own nL ret D cy A) {n : Int32} {N' : Nat} (hn : ¬ n < 0) (hN : n.toNatClampNeg = N') (hbytes : N' * 4 ≤ 536870912) (hc : cells + 1 ≤ R.cells ∧ slots + N' ≤ R.slots) (hdg : decode cc pc = .ok (.newarray .int, 2)) (kk : ∀ q : Nat, ZB p l e R s m args below meth c D A nL (cells + 1) (slots + N') Q (ws ++ [(q, .inl (cy 0, N', .inl (fun _ => 0)))]) L (pc + 2) (.ref q :: st)) : ZB p l e R s m args below meth c D A nL cells slots Q ws L pc (.int n :: st) := by
  intro H locs ls hP hD hS hl
  obtain ⟨hx, hb, hml, hown, hts, hr, hlk, hF, hA⟩ := C
  refine va_newa (atype := .int) (ty := .int) (a0 := (N', .inl (fun _ => 0))) hx hb (hts _ wd53) rfl hF.1 hP hD hS hA (fun cA => rfl) hn hN hbytes hc.1 hc.2 hdg (fun q cA H1 hK1 hP1 hD1 hS1 => ?_)
  obtain rfl : cy 0 = cA := Option.some.inj ((hF.1.2 0 _ rfl).2.symm.trans (hK1.2 8 _ rfl).2)
  exact kk q H1 locs ls hP1 hD1 hS1 hl
end ZBR
