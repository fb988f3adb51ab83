/-! ===== one instruction, one row: over the world of this claim ===== -/
/-- the locals, place by place -/
def lh (ls : Array Slot) (nL : Nat) (L : List (Option Value)) : Prop := ls.size = nL ∧ lv_wf ls ∧ ∀ (i : Nat) (v : Value), L[i]? = some (some v) → v.category = 1 ∧ ls[i]? = some (.val v)
def prs (L : List (Option Value)) : List (Nat × Value) := (List.range L.length).filterMap (fun i => (L[i]?.join).map (fun v => (i, v)))
theorem prs_mem {L : List (Option Value)} {i : Nat} {v : Value} : (i, v) ∈ prs L ↔ L[i]? = some (some v) := by
  unfold prs
  rw [List.mem_filterMap]
  constructor
  · rintro ⟨j, hj, h⟩
    cases hq : L[j]? with
    | none => rw [hq] at h; cases h
    | some o =>
      rw [hq] at h
      cases o with
      | none => cases h
      | some w => cases h; exact hq
  · intro h
    refine ⟨i, List.mem_range.mpr (List.getElem?_eq_some_iff.mp h).1, ?_⟩
    rw [h]
    rfl
theorem lh.has {ls : Array Slot} {nL : Nat} {L : List (Option Value)} (h : lh ls nL L) : lv_has ls nL (prs L) := ⟨h.1, h.2.1, fun q hq => (h.2.2 q.1 q.2 (prs_mem.mp hq)).2⟩
theorem lh.at {ls : Array Slot} {nL : Nat} {L : List (Option Value)} (h : lh ls nL L) {i : Nat} {v : Value} (hi : L[i]? = some (some v)) : ls[i]? = some (.val v) := (h.2.2 i v hi).2
theorem lh.set {ls ls' : Array Slot} {nL i : Nat} {L : List (Option Value)} {v : Value} (h : lh ls nL L) (hc : v.category = 1) (h' : lv_has ls' nL ((i, v) :: (prs L).filter (fun q => !(q.1 == i) && !(q.1 + 1 == i && q.2.category == 2)))) : lh ls' nL (L.set i (some v)) := by
  refine ⟨h'.1, h'.2.1, fun j w hj => ?_⟩
  by_cases e : j = i
  · subst e
    have hlt : j < L.length := by
      have := (List.getElem?_eq_some_iff.mp hj).1
      rw [List.length_set] at this
      exact this
    rw [List.getElem?_set_self hlt] at hj
    cases hj
    exact ⟨hc, h'.2.2 (j, v) List.mem_cons_self⟩
  · rw [List.getElem?_set_ne (Ne.symm e)] at hj
    have hw := h.2.2 j w hj
    refine ⟨hw.1, h'.2.2 (j, w) (List.mem_cons_of_mem _ (List.mem_filter.mpr ⟨prs_mem.mpr hj, ?_⟩))⟩
    simp [e, hw.1]
/-- fewer known locals -/
theorem lh.sub {ls : Array Slot} {nL : Nat} {L L' : List (Option Value)} (h : lh ls nL L) (hs : ∀ (i : Nat) (v : Value), L'[i]? = some (some v) → L[i]? = some (some v)) : lh ls nL L' := ⟨h.1, h.2.1, fun i v hi => h.2.2 i v (hs i v hi)⟩
def rmD (d mc : Nat) : Room := { frames := d + 6, cells := mc, slots := 6 * mc, locals := 40 * d + 100 }
/-- what stands through a method's body -/
def Cx (p : Program) (l : Launch) (s : State) (m : MethodId) (args : Array Value) (meth : Method) (c : Code) (cc : ByteArray) (own : String) (nL : Nat) (ret : Option FieldType) (D : va_G) (ad : Nat → Nat → Nat) (cy : Nat → ClassId) (A : Nat → Prop) (sa : Nat → Nat) : Prop :=
  p.tables.exec = Jvm.exec ∧ c.code = cc ∧ c.maxLocals = nL ∧ s.vm.findClass own = some m.cls ∧ (∀ w ∈ BIG, w.before args s = true) ∧ meth.sig.returnType = ret ∧ meth.locks = false ∧ Fx l D ad cy A sa s
/-- the machine at pc, with the world σ, locals L, stack st -/
def Z (p : Program) (l : Launch) (e : Env) (R : Room) (s : State) (m : MethodId) (args : Array Value) (below : List Frame) (meth : Method) (c : Code) (D : va_G) (ad : Nat → Nat → Nat) (cy : Nat → ClassId) (A : Nat → Prop) (nL : Nat) (cells slots : Nat) (Q : State → Prop) (σ : St) (L : List (Option Value)) (pc : Nat) (st : List Value) : Prop :=
  ∀ (H : Heap) (locs : List Loc) (ls : Array Slot), va_P D vwCl (WL ad cy σ) H → va_S A s.heap H locs → lh ls nL L → W p l e R s m args below meth c H locs cells slots Q (F0 m pc ls st)
section ZR
variable {p : Program} {l : Launch} {e : Env} {R : Room} {s : State} {m : MethodId} {args : Array Value} {below : List Frame} {meth : Method} {c : Code} {D : va_G} {ad : Nat → Nat → Nat} {cy : Nat → ClassId} {A : Nat → Prop} {sa : Nat → Nat} {nL cells slots : Nat} {Q : State → Prop} {σ : St} {L : List (Option Value)} {pc : Nat} {st : List Value} {cc : ByteArray} {own : String} {ret : Option FieldType}
theorem z_iconst (C : Cx p l s m args meth c cc own nL ret D ad cy A sa) {n : Int} {v : Int32} (hdg : decode cc pc = .ok (.iconst n, 1)) (hv : Int32.ofInt n = v) (k : Z p l e R s m args below meth c D ad cy A nL cells slots Q σ L (pc + 1) (.int v :: st)) : Z p l e R s m args below meth c D ad cy A nL cells slots Q σ L pc st :=
  fun H locs ls hP hS hl => lv_iconst C.1 C.2.1 hdg hv (k H locs ls hP hS hl)
theorem z_bipush (C : Cx p l s m args meth c cc own nL ret D ad cy A sa) {n : Int} {v : Int32} (hdg : decode cc pc = .ok (.bipush n, 2)) (hv : (Int8.ofInt n).toInt32 = v) (k : Z p l e R s m args below meth c D ad cy A nL cells slots Q σ L (pc + 2) (.int v :: st)) : Z p l e R s m args below meth c D ad cy A nL cells slots Q σ L pc st :=
  fun H locs ls hP hS hl => lv_bipush C.1 C.2.1 hdg hv (k H locs ls hP hS hl)
theorem z_sipush (C : Cx p l s m args meth c cc own nL ret D ad cy A sa) {n : Int} {v : Int32} (hdg : decode cc pc = .ok (.sipush n, 3)) (hv : (Int16.ofInt n).toInt32 = v) (k : Z p l e R s m args below meth c D ad cy A nL cells slots Q σ L (pc + 3) (.int v :: st)) : Z p l e R s m args below meth c D ad cy A nL cells slots Q σ L pc st :=
  fun H locs ls hP hS hl => lv_sipush C.1 C.2.1 hdg hv (k H locs ls hP hS hl)
theorem z_ldc (C : Cx p l s m args meth c cc own nL ret D ad cy A sa) {index : Nat} {v : Int32} (hw : Cond.constant own index v ∈ BIG) (hdg : decode cc pc = .ok (.ldc index, 2)) (k : Z p l e R s m args below meth c D ad cy A nL cells slots Q σ L (pc + 2) (.int v :: st)) : Z p l e R s m args below meth c D ad cy A nL cells slots Q σ L pc st :=
  fun H locs ls hP hS hl => lv_ldc C.1 C.2.1 C.2.2.2.1 (C.2.2.2.2.1 _ hw) hdg (k H locs ls hP hS hl)
theorem z_iload_n (C : Cx p l s m args meth c cc own nL ret D ad cy A sa) {n : Fin 4} {x : Int32} (hdg : decode cc pc = .ok (.iload_n n, 1)) (hx : L[(n : Nat)]? = some (some (.int x))) (k : Z p l e R s m args below meth c D ad cy A nL cells slots Q σ L (pc + 1) (.int x :: st)) : Z p l e R s m args below meth c D ad cy A nL cells slots Q σ L pc st :=
  fun H locs ls hP hS hl => lv_iload_n C.1 C.2.1 hdg rfl (hl.at hx) (k H locs ls hP hS hl)
theorem z_aload_n (C : Cx p l s m args meth c cc own nL ret D ad cy A sa) {n : Fin 4} {x : Nat} (hdg : decode cc pc = .ok (.aload_n n, 1)) (hx : L[(n : Nat)]? = some (some (.ref x))) (k : Z p l e R s m args below meth c D ad cy A nL cells slots Q σ L (pc + 1) (.ref x :: st)) : Z p l e R s m args below meth c D ad cy A nL cells slots Q σ L pc st :=
  fun H locs ls hP hS hl => lv_aload_n C.1 C.2.1 hdg rfl (hl.at hx) (k H locs ls hP hS hl)
theorem z_iload (C : Cx p l s m args meth c cc own nL ret D ad cy A sa) {n : Nat} {x : Int32} (hdg : decode cc pc = .ok (.iload n, 2)) (hx : L[n]? = some (some (.int x))) (k : Z p l e R s m args below meth c D ad cy A nL cells slots Q σ L (pc + 2) (.int x :: st)) : Z p l e R s m args below meth c D ad cy A nL cells slots Q σ L pc st :=
  fun H locs ls hP hS hl => lv_iload C.1 C.2.1 hdg (hl.at hx) (k H locs ls hP hS hl)
theorem z_aload (C : Cx p l s m args meth c cc own nL ret D ad cy A sa) {n : Nat} {x : Nat} (hdg : decode cc pc = .ok (.aload n, 2)) (hx : L[n]? = some (some (.ref x))) (k : Z p l e R s m args below meth c D ad cy A nL cells slots Q σ L (pc + 2) (.ref x :: st)) : Z p l e R s m args below meth c D ad cy A nL cells slots Q σ L pc st :=
  fun H locs ls hP hS hl => lv_aload C.1 C.2.1 hdg (hl.at hx) (k H locs ls hP hS hl)
theorem z_istore_n (C : Cx p l s m args meth c cc own nL ret D ad cy A sa) {n : Fin 4} {x : Int32} (hdg : decode cc pc = .ok (.istore_n n, 1)) (hn : (n : Nat) < nL) (k : Z p l e R s m args below meth c D ad cy A nL cells slots Q σ (L.set (n : Nat) (some (.int x))) (pc + 1) st) : Z p l e R s m args below meth c D ad cy A nL cells slots Q σ L pc (.int x :: st) :=
  fun H locs _ hP hS hl => lv_istore_n C.1 C.2.1 hdg rfl hl.has hn rfl (fun ls' h' => k H locs ls' hP hS (hl.set rfl h'))
theorem z_istore (C : Cx p l s m args meth c cc own nL ret D ad cy A sa) {n : Nat} {x : Int32} (hdg : decode cc pc = .ok (.istore n, 2)) (hn : n < nL) (k : Z p l e R s m args below meth c D ad cy A nL cells slots Q σ (L.set n (some (.int x))) (pc + 2) st) : Z p l e R s m args below meth c D ad cy A nL cells slots Q σ L pc (.int x :: st) :=
  fun H locs _ hP hS hl => lv_istore C.1 C.2.1 hdg hl.has hn rfl (fun ls' h' => k H locs ls' hP hS (hl.set rfl h'))
theorem z_astore_n (C : Cx p l s m args meth c cc own nL ret D ad cy A sa) {n : Fin 4} {x : Nat} (hdg : decode cc pc = .ok (.astore_n n, 1)) (hn : (n : Nat) < nL) (k : Z p l e R s m args below meth c D ad cy A nL cells slots Q σ (L.set (n : Nat) (some (.ref x))) (pc + 1) st) : Z p l e R s m args below meth c D ad cy A nL cells slots Q σ L pc (.ref x :: st) :=
  fun H locs _ hP hS hl => lv_astore_n C.1 C.2.1 hdg rfl hl.has hn rfl (fun ls' h' => k H locs ls' hP hS (hl.set rfl h'))
theorem z_astore (C : Cx p l s m args meth c cc own nL ret D ad cy A sa) {n : Nat} {x : Nat} (hdg : decode cc pc = .ok (.astore n, 2)) (hn : n < nL) (k : Z p l e R s m args below meth c D ad cy A nL cells slots Q σ (L.set n (some (.ref x))) (pc + 2) st) : Z p l e R s m args below meth c D ad cy A nL cells slots Q σ L pc (.ref x :: st) :=
  fun H locs _ hP hS hl => lv_astore C.1 C.2.1 hdg hl.has hn rfl (fun ls' h' => k H locs ls' hP hS (hl.set rfl h'))
theorem z_iinc (C : Cx p l s m args meth c cc own nL ret D ad cy A sa) {i : Nat} {n : Int} {x v : Int32} (hdg : decode cc pc = .ok (.iinc i n, 3)) (hx : L[i]? = some (some (.int x))) (hv : Int32.ofInt n = v) (hn : i < nL) (k : Z p l e R s m args below meth c D ad cy A nL cells slots Q σ (L.set i (some (.int (x + v)))) (pc + 3) st) : Z p l e R s m args below meth c D ad cy A nL cells slots Q σ L pc st := by
  intro H locs ls hP hS hl
  obtain ⟨k0, hk0⟩ := List.getElem?_of_mem (prs_mem.mpr hx)
  exact lv_iinc C.1 C.2.1 hdg hl.has hk0 (by rw [hv]) hn rfl (fun ls' h' => k H locs ls' hP hS (hl.set rfl h'))
theorem z_iadd (C : Cx p l s m args meth c cc own nL ret D ad cy A sa) {x y : Int32} (hdg : decode cc pc = .ok (.iadd, 1)) (k : Z p l e R s m args below meth c D ad cy A nL cells slots Q σ L (pc + 1) (.int (x + y) :: st)) : Z p l e R s m args below meth c D ad cy A nL cells slots Q σ L pc (.int y :: .int x :: st) :=
  fun H locs ls hP hS hl => lv_iadd C.1 C.2.1 hdg (k H locs ls hP hS hl)
theorem z_isub (C : Cx p l s m args meth c cc own nL ret D ad cy A sa) {x y : Int32} (hdg : decode cc pc = .ok (.isub, 1)) (k : Z p l e R s m args below meth c D ad cy A nL cells slots Q σ L (pc + 1) (.int (x - y) :: st)) : Z p l e R s m args below meth c D ad cy A nL cells slots Q σ L pc (.int y :: .int x :: st) :=
  fun H locs ls hP hS hl => lv_isub C.1 C.2.1 hdg (k H locs ls hP hS hl)
theorem z_imul (C : Cx p l s m args meth c cc own nL ret D ad cy A sa) {x y : Int32} (hdg : decode cc pc = .ok (.imul, 1)) (k : Z p l e R s m args below meth c D ad cy A nL cells slots Q σ L (pc + 1) (.int (x * y) :: st)) : Z p l e R s m args below meth c D ad cy A nL cells slots Q σ L pc (.int y :: .int x :: st) :=
  fun H locs ls hP hS hl => lv_imul C.1 C.2.1 hdg (k H locs ls hP hS hl)
theorem z_iand (C : Cx p l s m args meth c cc own nL ret D ad cy A sa) {x y : Int32} (hdg : decode cc pc = .ok (.iand, 1)) (k : Z p l e R s m args below meth c D ad cy A nL cells slots Q σ L (pc + 1) (.int (x &&& y) :: st)) : Z p l e R s m args below meth c D ad cy A nL cells slots Q σ L pc (.int y :: .int x :: st) :=
  fun H locs ls hP hS hl => lv_iand C.1 C.2.1 hdg (k H locs ls hP hS hl)
theorem z_ior (C : Cx p l s m args meth c cc own nL ret D ad cy A sa) {x y : Int32} (hdg : decode cc pc = .ok (.ior, 1)) (k : Z p l e R s m args below meth c D ad cy A nL cells slots Q σ L (pc + 1) (.int (x ||| y) :: st)) : Z p l e R s m args below meth c D ad cy A nL cells slots Q σ L pc (.int y :: .int x :: st) :=
  fun H locs ls hP hS hl => lv_ior C.1 C.2.1 hdg (k H locs ls hP hS hl)
theorem z_ishl (C : Cx p l s m args meth c cc own nL ret D ad cy A sa) {x y : Int32} (hdg : decode cc pc = .ok (.ishl, 1)) (k : Z p l e R s m args below meth c D ad cy A nL cells slots Q σ L (pc + 1) (.int (x <<< (y &&& 31)) :: st)) : Z p l e R s m args below meth c D ad cy A nL cells slots Q σ L pc (.int y :: .int x :: st) :=
  fun H locs ls hP hS hl => lv_ishl C.1 C.2.1 hdg (k H locs ls hP hS hl)
theorem z_ishr (C : Cx p l s m args meth c cc own nL ret D ad cy A sa) {x y : Int32} (hdg : decode cc pc = .ok (.ishr, 1)) (k : Z p l e R s m args below meth c D ad cy A nL cells slots Q σ L (pc + 1) (.int (x >>> (y &&& 31)) :: st)) : Z p l e R s m args below meth c D ad cy A nL cells slots Q σ L pc (.int y :: .int x :: st) :=
  fun H locs ls hP hS hl => lv_ishr C.1 C.2.1 hdg (k H locs ls hP hS hl)
theorem z_ineg (C : Cx p l s m args meth c cc own nL ret D ad cy A sa) {x : Int32} (hdg : decode cc pc = .ok (.ineg, 1)) (k : Z p l e R s m args below meth c D ad cy A nL cells slots Q σ L (pc + 1) (.int (-x) :: st)) : Z p l e R s m args below meth c D ad cy A nL cells slots Q σ L pc (.int x :: st) :=
  fun H locs ls hP hS hl => lv_ineg C.1 C.2.1 hdg (k H locs ls hP hS hl)
theorem z_i2l (C : Cx p l s m args meth c cc own nL ret D ad cy A sa) {x : Int32} (hdg : decode cc pc = .ok (.i2l, 1)) (k : Z p l e R s m args below meth c D ad cy A nL cells slots Q σ L (pc + 1) (.long x.toInt64 :: st)) : Z p l e R s m args below meth c D ad cy A nL cells slots Q σ L pc (.int x :: st) :=
  fun H locs ls hP hS hl => lv_i2l C.1 C.2.1 hdg rfl (k H locs ls hP hS hl)
theorem z_dup (C : Cx p l s m args meth c cc own nL ret D ad cy A sa) {v : Value} (hdg : decode cc pc = .ok (.dup, 1)) (hv : v.category = 1) (k : Z p l e R s m args below meth c D ad cy A nL cells slots Q σ L (pc + 1) (v :: v :: st)) : Z p l e R s m args below meth c D ad cy A nL cells slots Q σ L pc (v :: st) :=
  fun H locs ls hP hS hl => lv_dup C.1 C.2.1 hdg hv (k H locs ls hP hS hl)
theorem z_pop (C : Cx p l s m args meth c cc own nL ret D ad cy A sa) {v : Value} (hdg : decode cc pc = .ok (.pop, 1)) (hv : v.category = 1) (k : Z p l e R s m args below meth c D ad cy A nL cells slots Q σ L (pc + 1) st) : Z p l e R s m args below meth c D ad cy A nL cells slots Q σ L pc (v :: st) :=
  fun H locs ls hP hS hl => lv_pop C.1 C.2.1 hdg hv (k H locs ls hP hS hl)
theorem z_goto (C : Cx p l s m args meth c cc own nL ret D ad cy A sa) {off : Int} (tgt : Nat) (hdg : decode cc pc = .ok (.goto off, 3)) (ht : (pc : Int) + off = (tgt : Int)) (k : Z p l e R s m args below meth c D ad cy A nL cells slots Q σ L tgt st) : Z p l e R s m args below meth c D ad cy A nL cells slots Q σ L pc st :=
  fun H locs ls hP hS hl => lv_goto C.1 C.2.1 hdg ht (k H locs ls hP hS hl)
theorem z_icmp_eq (C : Cx p l s m args meth c cc own nL ret D ad cy A sa) {x y : Int32} {off : Int} (tgt : Nat) (hdg : decode cc pc = .ok (.if_icmp .eq off, 3)) (ht : (pc : Int) + off = (tgt : Int)) (kt : x = y → Z p l e R s m args below meth c D ad cy A nL cells slots Q σ L tgt st) (kf : ¬ x = y → Z p l e R s m args below meth c D ad cy A nL cells slots Q σ L (pc + 3) st) : Z p l e R s m args below meth c D ad cy A nL cells slots Q σ L pc (.int y :: .int x :: st) :=
  fun H locs ls hP hS hl => lv_icmp_eq C.1 C.2.1 hdg ht (fun h => kt h H locs ls hP hS hl) (fun h => kf h H locs ls hP hS hl)
theorem z_if_eq (C : Cx p l s m args meth c cc own nL ret D ad cy A sa) {x : Int32} {off : Int} (tgt : Nat) (hdg : decode cc pc = .ok (.ifCond .eq off, 3)) (ht : (pc : Int) + off = (tgt : Int)) (kt : x = 0 → Z p l e R s m args below meth c D ad cy A nL cells slots Q σ L tgt st) (kf : ¬ x = 0 → Z p l e R s m args below meth c D ad cy A nL cells slots Q σ L (pc + 3) st) : Z p l e R s m args below meth c D ad cy A nL cells slots Q σ L pc (.int x :: st) :=
  fun H locs ls hP hS hl => lv_if_eq C.1 C.2.1 hdg ht (fun h => kt h H locs ls hP hS hl) (fun h => kf h H locs ls hP hS hl)
theorem z_icmp_ne (C : Cx p l s m args meth c cc own nL ret D ad cy A sa) {x y : Int32} {off : Int} (tgt : Nat) (hdg : decode cc pc = .ok (.if_icmp .ne off, 3)) (ht : (pc : Int) + off = (tgt : Int)) (kt : ¬ x = y → Z p l e R s m args below meth c D ad cy A nL cells slots Q σ L tgt st) (kf : x = y → Z p l e R s m args below meth c D ad cy A nL cells slots Q σ L (pc + 3) st) : Z p l e R s m args below meth c D ad cy A nL cells slots Q σ L pc (.int y :: .int x :: st) :=
  fun H locs ls hP hS hl => lv_icmp_ne C.1 C.2.1 hdg ht (fun h => kt h H locs ls hP hS hl) (fun h => kf h H locs ls hP hS hl)
theorem z_if_ne (C : Cx p l s m args meth c cc own nL ret D ad cy A sa) {x : Int32} {off : Int} (tgt : Nat) (hdg : decode cc pc = .ok (.ifCond .ne off, 3)) (ht : (pc : Int) + off = (tgt : Int)) (kt : ¬ x = 0 → Z p l e R s m args below meth c D ad cy A nL cells slots Q σ L tgt st) (kf : x = 0 → Z p l e R s m args below meth c D ad cy A nL cells slots Q σ L (pc + 3) st) : Z p l e R s m args below meth c D ad cy A nL cells slots Q σ L pc (.int x :: st) :=
  fun H locs ls hP hS hl => lv_if_ne C.1 C.2.1 hdg ht (fun h => kt h H locs ls hP hS hl) (fun h => kf h H locs ls hP hS hl)
theorem z_icmp_lt (C : Cx p l s m args meth c cc own nL ret D ad cy A sa) {x y : Int32} {off : Int} (tgt : Nat) (hdg : decode cc pc = .ok (.if_icmp .lt off, 3)) (ht : (pc : Int) + off = (tgt : Int)) (kt : x < y → Z p l e R s m args below meth c D ad cy A nL cells slots Q σ L tgt st) (kf : ¬ x < y → Z p l e R s m args below meth c D ad cy A nL cells slots Q σ L (pc + 3) st) : Z p l e R s m args below meth c D ad cy A nL cells slots Q σ L pc (.int y :: .int x :: st) :=
  fun H locs ls hP hS hl => lv_icmp_lt C.1 C.2.1 hdg ht (fun h => kt h H locs ls hP hS hl) (fun h => kf h H locs ls hP hS hl)
theorem z_if_lt (C : Cx p l s m args meth c cc own nL ret D ad cy A sa) {x : Int32} {off : Int} (tgt : Nat) (hdg : decode cc pc = .ok (.ifCond .lt off, 3)) (ht : (pc : Int) + off = (tgt : Int)) (kt : x < 0 → Z p l e R s m args below meth c D ad cy A nL cells slots Q σ L tgt st) (kf : ¬ x < 0 → Z p l e R s m args below meth c D ad cy A nL cells slots Q σ L (pc + 3) st) : Z p l e R s m args below meth c D ad cy A nL cells slots Q σ L pc (.int x :: st) :=
  fun H locs ls hP hS hl => lv_if_lt C.1 C.2.1 hdg ht (fun h => kt h H locs ls hP hS hl) (fun h => kf h H locs ls hP hS hl)
theorem z_icmp_ge (C : Cx p l s m args meth c cc own nL ret D ad cy A sa) {x y : Int32} {off : Int} (tgt : Nat) (hdg : decode cc pc = .ok (.if_icmp .ge off, 3)) (ht : (pc : Int) + off = (tgt : Int)) (kt : y ≤ x → Z p l e R s m args below meth c D ad cy A nL cells slots Q σ L tgt st) (kf : ¬ y ≤ x → Z p l e R s m args below meth c D ad cy A nL cells slots Q σ L (pc + 3) st) : Z p l e R s m args below meth c D ad cy A nL cells slots Q σ L pc (.int y :: .int x :: st) :=
  fun H locs ls hP hS hl => lv_icmp_ge C.1 C.2.1 hdg ht (fun h => kt h H locs ls hP hS hl) (fun h => kf h H locs ls hP hS hl)
theorem z_if_ge (C : Cx p l s m args meth c cc own nL ret D ad cy A sa) {x : Int32} {off : Int} (tgt : Nat) (hdg : decode cc pc = .ok (.ifCond .ge off, 3)) (ht : (pc : Int) + off = (tgt : Int)) (kt : 0 ≤ x → Z p l e R s m args below meth c D ad cy A nL cells slots Q σ L tgt st) (kf : ¬ 0 ≤ x → Z p l e R s m args below meth c D ad cy A nL cells slots Q σ L (pc + 3) st) : Z p l e R s m args below meth c D ad cy A nL cells slots Q σ L pc (.int x :: st) :=
  fun H locs ls hP hS hl => lv_if_ge C.1 C.2.1 hdg ht (fun h => kt h H locs ls hP hS hl) (fun h => kf h H locs ls hP hS hl)
theorem z_icmp_gt (C : Cx p l s m args meth c cc own nL ret D ad cy A sa) {x y : Int32} {off : Int} (tgt : Nat) (hdg : decode cc pc = .ok (.if_icmp .gt off, 3)) (ht : (pc : Int) + off = (tgt : Int)) (kt : y < x → Z p l e R s m args below meth c D ad cy A nL cells slots Q σ L tgt st) (kf : ¬ y < x → Z p l e R s m args below meth c D ad cy A nL cells slots Q σ L (pc + 3) st) : Z p l e R s m args below meth c D ad cy A nL cells slots Q σ L pc (.int y :: .int x :: st) :=
  fun H locs ls hP hS hl => lv_icmp_gt C.1 C.2.1 hdg ht (fun h => kt h H locs ls hP hS hl) (fun h => kf h H locs ls hP hS hl)
theorem z_if_gt (C : Cx p l s m args meth c cc own nL ret D ad cy A sa) {x : Int32} {off : Int} (tgt : Nat) (hdg : decode cc pc = .ok (.ifCond .gt off, 3)) (ht : (pc : Int) + off = (tgt : Int)) (kt : 0 < x → Z p l e R s m args below meth c D ad cy A nL cells slots Q σ L tgt st) (kf : ¬ 0 < x → Z p l e R s m args below meth c D ad cy A nL cells slots Q σ L (pc + 3) st) : Z p l e R s m args below meth c D ad cy A nL cells slots Q σ L pc (.int x :: st) :=
  fun H locs ls hP hS hl => lv_if_gt C.1 C.2.1 hdg ht (fun h => kt h H locs ls hP hS hl) (fun h => kf h H locs ls hP hS hl)
theorem z_icmp_le (C : Cx p l s m args meth c cc own nL ret D ad cy A sa) {x y : Int32} {off : Int} (tgt : Nat) (hdg : decode cc pc = .ok (.if_icmp .le off, 3)) (ht : (pc : Int) + off = (tgt : Int)) (kt : x ≤ y → Z p l e R s m args below meth c D ad cy A nL cells slots Q σ L tgt st) (kf : ¬ x ≤ y → Z p l e R s m args below meth c D ad cy A nL cells slots Q σ L (pc + 3) st) : Z p l e R s m args below meth c D ad cy A nL cells slots Q σ L pc (.int y :: .int x :: st) :=
  fun H locs ls hP hS hl => lv_icmp_le C.1 C.2.1 hdg ht (fun h => kt h H locs ls hP hS hl) (fun h => kf h H locs ls hP hS hl)
theorem z_if_le (C : Cx p l s m args meth c cc own nL ret D ad cy A sa) {x : Int32} {off : Int} (tgt : Nat) (hdg : decode cc pc = .ok (.ifCond .le off, 3)) (ht : (pc : Int) + off = (tgt : Int)) (kt : x ≤ 0 → Z p l e R s m args below meth c D ad cy A nL cells slots Q σ L tgt st) (kf : ¬ x ≤ 0 → Z p l e R s m args below meth c D ad cy A nL cells slots Q σ L (pc + 3) st) : Z p l e R s m args below meth c D ad cy A nL cells slots Q σ L pc (.int x :: st) :=
  fun H locs ls hP hS hl => lv_if_le C.1 C.2.1 hdg ht (fun h => kt h H locs ls hP hS hl) (fun h => kf h H locs ls hP hS hl)
theorem z_dup2 (C : Cx p l s m args meth c cc own nL ret D ad cy A sa) {v w : Value} (hdg : decode cc pc = .ok (.dup2, 1)) (hv : v.category = 1) (hw : w.category = 1) (k : Z p l e R s m args below meth c D ad cy A nL cells slots Q σ L (pc + 1) (v :: w :: v :: w :: st)) : Z p l e R s m args below meth c D ad cy A nL cells slots Q σ L pc (v :: w :: st) :=
  fun H locs ls hP hS hl => lv_dup2_11 C.1 C.2.1 hdg hv hw (k H locs ls hP hS hl)
end ZR
