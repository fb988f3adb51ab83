/-! ===== contracts, calls, returns, throws ===== -/
def Bw (D : va_G) (ad : Nat → Nat → Nat) (cy : Nat → ClassId) : St → State → Prop := fun u t => va_P D vwCl (WL ad cy u) t.heap
def PcW (l : Launch) (D : va_G) (ad : Nat → Nat → Nat) (cy : Nat → ClassId) (A : Nat → Prop) (sa : Nat → Nat) (σ : St) (av : List Value) : Array Value → State → Prop := va_Pc av (fun U => Fx l D ad cy A sa U ∧ va_P D vwCl (WL ad cy σ) U.heap)
theorem PcW.blind {l : Launch} {D : va_G} {ad : Nat → Nat → Nat} {cy : Nat → ClassId} {A : Nat → Prop} {sa : Nat → Nat} {σ : St} {av : List Value} : FrameBlind (PcW l D ad cy A sa σ av) := fun _ _ _ _ q => ⟨q.1, q.2.1.blind, q.2.2⟩
/-- a method that answers an int and throws nothing -/
def MI (l : Launch) (D : va_G) (ad : Nat → Nat → Nat) (cy : Nat → ClassId) (A : Nat → Prop) (sa : Nat → Nat) (y : MethodName) (bytes : ByteArray) (maxL : Nat) (ret : Option FieldType) (d : Nat) (σ : St) (av : List Value) (post : Int32 → St → Prop) : Prop :=
  Met l y (Cond.code y bytes maxL ret :: BIG) (rmD d 0) (PcW l D ad cy A sa σ av) (va_Qi post (Bw D ad cy) A) 0 0 A
def MV (l : Launch) (D : va_G) (ad : Nat → Nat → Nat) (cy : Nat → ClassId) (A : Nat → Prop) (sa : Nat → Nat) (y : MethodName) (bytes : ByteArray) (maxL : Nat) (ret : Option FieldType) (d : Nat) (σ : St) (av : List Value) (post : St → Prop) : Prop :=
  Met l y (Cond.code y bytes maxL ret :: BIG) (rmD d 0) (PcW l D ad cy A sa σ av) (va_Qv post (Bw D ad cy) A) 0 0 A
def XW (D : va_G) (ad : Nat → Nat → Nat) (cy : Nat → ClassId) (A : Nat → Prop) (px : String → St → Prop) : String → State → State → Prop := vx_X (S := St) (fun _ => True) (fun E u t => px E u ∧ Bw D ad cy u t) A
def XI (l : Launch) (D : va_G) (ad : Nat → Nat → Nat) (cy : Nat → ClassId) (A : Nat → Prop) (sa : Nat → Nat) (y : MethodName) (bytes : ByteArray) (maxL : Nat) (ret : Option FieldType) (d mc : Nat) (σ : St) (av : List Value) (post : Int32 → St → Prop) (px : String → St → Prop) : Prop :=
  vx_Met l y (Cond.code y bytes maxL ret :: BIG) (rmD d mc) (PcW l D ad cy A sa σ av) (va_Qi post (Bw D ad cy) A) (XW D ad cy A px) mc (6 * mc) A
def XV (l : Launch) (D : va_G) (ad : Nat → Nat → Nat) (cy : Nat → ClassId) (A : Nat → Prop) (sa : Nat → Nat) (y : MethodName) (bytes : ByteArray) (maxL : Nat) (ret : Option FieldType) (d mc : Nat) (σ : St) (av : List Value) (post : St → Prop) (px : String → St → Prop) : Prop :=
  vx_Met l y (Cond.code y bytes maxL ret :: BIG) (rmD d mc) (PcW l D ad cy A sa σ av) (va_Qv post (Bw D ad cy) A) (XW D ad cy A px) mc (6 * mc) A
def L0 (av : List Value) (n : Nat) : List (Option Value) := av.map some ++ List.replicate (n - av.length) none
theorem lv_args_mem : ∀ (av : List Value) (k j : Nat) (v : Value), (∀ w ∈ av, w.category = 1) → av[j]? = some v → (k + j, v) ∈ lv_args k av
  | [], k, j, v, _, h => by simp at h
  | a :: r, k, 0, v, hc, h => by
    have e : a = v := by simpa using h
    subst e
    exact List.mem_cons_self
  | a :: r, k, j + 1, v, hc, h => by
    have h1 : ¬ a.category = 2 := by rw [hc a List.mem_cons_self]; decide
    have ih := lv_args_mem r (k + 1) j v (fun w hw => hc w (List.mem_cons_of_mem _ hw)) (by simpa using h)
    show (k + (j + 1), v) ∈ (k, a) :: lv_args (if a.category = 2 then k + 2 else k + 1) r
    rw [if_neg h1, show k + (j + 1) = k + 1 + j by omega]
    exact List.mem_cons_of_mem _ ih
theorem lh_entry {av : List Value} {n : Nat} {ls : Array Slot} (hc : av.all (fun v => v.category == 1) = true) (h : lv_has ls n (lv_args 0 av)) : lh ls n (L0 av n) := by
  have hc' : ∀ w ∈ av, w.category = 1 := fun w hw => by simpa using List.all_eq_true.mp hc w hw
  refine ⟨h.1, h.2.1, fun i v hi => ?_⟩
  have hav : av[i]? = some v := by
    unfold L0 at hi
    by_cases hl : i < (av.map some).length
    · rw [List.getElem?_append_left hl, List.getElem?_map] at hi
      cases hq : av[i]? with
      | none => rw [hq] at hi; cases hi
      | some w => rw [hq] at hi; cases hi; rfl
    · rw [List.getElem?_append_right (by omega), List.getElem?_replicate] at hi
      split at hi <;> cases hi
  have hm := lv_args_mem av 0 i v hc' hav
  rw [Nat.zero_add] at hm
  exact ⟨hc' v (List.mem_of_getElem? hav), h.2.2 _ hm⟩
theorem Cx.of {p : Program} {l : Launch} {e : Env} {s s₁ : State} {m : MethodId} {args : Array Value} {below : List Frame} {meth : Method} {c : Code} {y : MethodName} {bytes : ByteArray} {maxL : Nat} {ret : Option FieldType} {w0 : Cond} {rm : Room} {own : String} {D : va_G} {ad : Nat → Nat → Nat} {cy : Nat → ClassId} {A : Nat → Prop} {sa : Nat → Nat} (B : BodyLoose p l y (headSpec (w0 :: BIG) rm) bytes maxL ret e s m args below meth c s₁) (hml : c.maxLocals = maxL) (ho : y.cls = own) (hF : Fx l D ad cy A sa s) : Cx p l s m args meth c bytes own maxL ret D ad cy A sa := by
  have hts := atoms_spec (ws := w0 :: BIG) B.pre
  exact ⟨B.exec, B.bytes, hml, by rw [← ho]; exact findClass_of_methodNamed B.named, fun w hw => hts w (List.mem_cons_of_mem _ hw), B.returns, B.notSynchronized, hF⟩

theorem MI.mk {l : Launch} {D : va_G} {ad : Nat → Nat → Nat} {cy : Nat → ClassId} {A : Nat → Prop} {sa : Nat → Nat} {y : MethodName} {bytes : ByteArray} {maxL : Nat} {ret : Option FieldType} {d : Nat} {σ : St} {av : List Value} {post : Int32 → St → Prop} (own : String) (hy : plainName y.cls = true) (ho : y.cls = own) (hlen : (lg_sl av).length ≤ maxL) (hc : av.all (fun v => v.category == 1) = true)
    (body : ∀ (p : Program) (e : Env) (s : State) (m : MethodId) (args : Array Value) (below : List Frame) (meth : Method) (c : Code), Cx p l s m args meth c bytes own maxL ret D ad cy A sa → Z p l e (rmD d 0) s m args below meth c D ad cy A maxL 0 0 (MQ below (va_Qi post (Bw D ad cy) A) args s 0 0 A) σ (L0 av maxL) 0 []) : MI l D ad cy A sa y bytes maxL ret d σ av post := by
  refine Met.ofW (cc := bytes) (maxL := maxL) (ret := ret) hy rfl ?_
  intro p e s m args below meth c s₁ B hml hv
  obtain ⟨rfl, hF, hP⟩ := hv
  have C := Cx.of (own := own) B hml ho hF
  have hl := lv_entry av (n := maxL) hlen
  rw [lg_entry_eq]
  exact body p e s m _ below meth c C s.heap [] _ hP va_S.rf (lh_entry hc hl)
theorem MV.mk {l : Launch} {D : va_G} {ad : Nat → Nat → Nat} {cy : Nat → ClassId} {A : Nat → Prop} {sa : Nat → Nat} {y : MethodName} {bytes : ByteArray} {maxL : Nat} {ret : Option FieldType} {d : Nat} {σ : St} {av : List Value} {post : St → Prop} (own : String) (hy : plainName y.cls = true) (ho : y.cls = own) (hlen : (lg_sl av).length ≤ maxL) (hc : av.all (fun v => v.category == 1) = true)
    (body : ∀ (p : Program) (e : Env) (s : State) (m : MethodId) (args : Array Value) (below : List Frame) (meth : Method) (c : Code), Cx p l s m args meth c bytes own maxL ret D ad cy A sa → Z p l e (rmD d 0) s m args below meth c D ad cy A maxL 0 0 (MQ below (va_Qv post (Bw D ad cy) A) args s 0 0 A) σ (L0 av maxL) 0 []) : MV l D ad cy A sa y bytes maxL ret d σ av post := by
  refine Met.ofW (cc := bytes) (maxL := maxL) (ret := ret) hy rfl ?_
  intro p e s m args below meth c s₁ B hml hv
  obtain ⟨rfl, hF, hP⟩ := hv
  have C := Cx.of (own := own) B hml ho hF
  have hl := lv_entry av (n := maxL) hlen
  rw [lg_entry_eq]
  exact body p e s m _ below meth c C s.heap [] _ hP va_S.rf (lh_entry hc hl)
theorem XI.mk {l : Launch} {D : va_G} {ad : Nat → Nat → Nat} {cy : Nat → ClassId} {A : Nat → Prop} {sa : Nat → Nat} {y : MethodName} {bytes : ByteArray} {maxL : Nat} {ret : Option FieldType} {d : Nat} {σ : St} {av : List Value} {mc : Nat} {post : Int32 → St → Prop} {px : String → St → Prop} (own : String) (hy : plainName y.cls = true) (ho : y.cls = own) (hlen : (lg_sl av).length ≤ maxL) (hc : av.all (fun v => v.category == 1) = true)
    (body : ∀ (p : Program) (e : Env) (s : State) (m : MethodId) (args : Array Value) (below : List Frame) (meth : Method) (c : Code), Cx p l s m args meth c bytes own maxL ret D ad cy A sa → (∀ x ∈ c.exceptionTable.toList, False) → Z p l e (rmD d mc) s m args below meth c D ad cy A maxL 0 0 (vx_MQ below (va_Qi post (Bw D ad cy) A) (XW D ad cy A px) args s mc (6 * mc) A) σ (L0 av maxL) 0 []) : XI l D ad cy A sa y bytes maxL ret d mc σ av post px := by
  refine vx_ofW (cc := bytes) (maxL := maxL) (ret := ret) hy rfl ?_
  intro p e s m args below meth c s₁ B hml hex hv
  obtain ⟨rfl, hF, hP⟩ := hv
  have C := Cx.of (own := own) B hml ho hF
  have hl := lv_entry av (n := maxL) hlen
  rw [lg_entry_eq]
  exact body p e s m _ below meth c C hex s.heap [] _ hP va_S.rf (lh_entry hc hl)
theorem XV.mk {l : Launch} {D : va_G} {ad : Nat → Nat → Nat} {cy : Nat → ClassId} {A : Nat → Prop} {sa : Nat → Nat} {y : MethodName} {bytes : ByteArray} {maxL : Nat} {ret : Option FieldType} {d : Nat} {σ : St} {av : List Value} {mc : Nat} {post : St → Prop} {px : String → St → Prop} (own : String) (hy : plainName y.cls = true) (ho : y.cls = own) (hlen : (lg_sl av).length ≤ maxL) (hc : av.all (fun v => v.category == 1) = true)
    (body : ∀ (p : Program) (e : Env) (s : State) (m : MethodId) (args : Array Value) (below : List Frame) (meth : Method) (c : Code), Cx p l s m args meth c bytes own maxL ret D ad cy A sa → (∀ x ∈ c.exceptionTable.toList, False) → Z p l e (rmD d mc) s m args below meth c D ad cy A maxL 0 0 (vx_MQ below (va_Qv post (Bw D ad cy) A) (XW D ad cy A px) args s mc (6 * mc) A) σ (L0 av maxL) 0 []) : XV l D ad cy A sa y bytes maxL ret d mc σ av post px := by
  refine vx_ofW (cc := bytes) (maxL := maxL) (ret := ret) hy rfl ?_
  intro p e s m args below meth c s₁ B hml hex hv
  obtain ⟨rfl, hF, hP⟩ := hv
  have C := Cx.of (own := own) B hml ho hF
  have hl := lv_entry av (n := maxL) hlen
  rw [lg_entry_eq]
  exact body p e s m _ below meth c C hex s.heap [] _ hP va_S.rf (lh_entry hc hl)
section ZC
variable {p : Program} {l : Launch} {e : Env} {R : Room} {s : State} {m : MethodId} {args : Array Value} {below : List Frame} {meth : Method} {c : Code} {D : va_G} {ad : Nat → Nat → Nat} {cy : Nat → ClassId} {A : Nat → Prop} {sa : Nat → Nat} {nL cells slots : Nat} {Q : State → Prop} {σ : St} {L : List (Option Value)} {pc : Nat} {st stk : List Value} {cc : ByteArray} {own : String} {ret : Option FieldType}
/-- returns -/
theorem z_iret (C : Cx p l s m args meth c cc own nL (some .int) D ad cy A sa) {post : Int32 → St → Prop} {v : Int32} (hdg : decode cc pc = .ok (.ireturn, 1)) (h : post v σ) : Z p l e R s m args below meth c D ad cy A nL cells slots (MQ below (va_Qi post (Bw D ad cy) A) args s cells slots A) σ L pc [.int v] :=
  fun H locs ls hP hS hl => W.iret C.1 C.2.1 C.2.2.2.2.2.1 (fun t ht hW => ⟨⟨v, σ, rfl, h, by show va_P D vwCl (WL ad cy σ) t.heap; rw [ht]; exact hP⟩, hS.F ht⟩) hS.2.2 hdg C.2.2.2.2.2.2.1
theorem z_zret (C : Cx p l s m args meth c cc own nL (some .boolean) D ad cy A sa) {post : Int32 → St → Prop} {v : Int32} (hdg : decode cc pc = .ok (.ireturn, 1)) (hz : v = 0 ∨ v = 1) (h : post v σ) : Z p l e R s m args below meth c D ad cy A nL cells slots (MQ below (va_Qi post (Bw D ad cy) A) args s cells slots A) σ L pc [.int v] :=
  fun H locs ls hP hS hl => W.zret C.1 C.2.1 C.2.2.2.2.2.1 (by rcases hz with rfl | rfl <;> decide +kernel) (fun t ht hW => ⟨⟨v, σ, rfl, h, by show va_P D vwCl (WL ad cy σ) t.heap; rw [ht]; exact hP⟩, hS.F ht⟩) hS.2.2 hdg C.2.2.2.2.2.2.1
theorem z_vret (C : Cx p l s m args meth c cc own nL none D ad cy A sa) {post : St → Prop} (hdg : decode cc pc = .ok (.return_, 1)) (h : post σ) : Z p l e R s m args below meth c D ad cy A nL cells slots (MQ below (va_Qv post (Bw D ad cy) A) args s cells slots A) σ L pc [] :=
  fun H locs ls hP hS hl => W.vret C.1 C.2.1 C.2.2.2.2.2.1 (fun t ht hW => ⟨⟨σ, rfl, h, by show va_P D vwCl (WL ad cy σ) t.heap; rw [ht]; exact hP⟩, hS.F ht⟩) hS.2.2 hdg C.2.2.2.2.2.2.1
/-- the end of a method that may throw -/
theorem y_ret {Qc : Array Value → State → Outcome → State → Prop} {XC : String → State → State → Prop} {mc ms : Nat} (h1 : cells ≤ mc) (h2 : slots ≤ ms) (k : Z p l e R s m args below meth c D ad cy A nL mc ms (MQ below Qc args s mc ms A) σ L pc st) : Z p l e R s m args below meth c D ad cy A nL cells slots (vx_MQ below Qc XC args s mc ms A) σ L pc st :=
  fun H locs ls hP hS hl => W.widen h1 h2 (vx_ret (k H locs ls hP hS hl))
theorem z_widen {mc ms : Nat} (h1 : cells ≤ mc) (h2 : slots ≤ ms) (k : Z p l e R s m args below meth c D ad cy A nL mc ms Q σ L pc st) : Z p l e R s m args below meth c D ad cy A nL cells slots Q σ L pc st :=
  fun H locs ls hP hS hl => W.widen h1 h2 (k H locs ls hP hS hl)
theorem z_loc {L' : List (Option Value)} (hs : ∀ (i : Nat) (v : Value), L'[i]? = some (some v) → L[i]? = some (some v)) (k : Z p l e R s m args below meth c D ad cy A nL cells slots Q σ L' pc st) : Z p l e R s m args below meth c D ad cy A nL cells slots Q σ L pc st :=
  fun H locs ls hP hS hl => k H locs ls hP hS (hl.sub hs)
/-- the words of a callee -/
def OkV (y : MethodName) (bytes : ByteArray) (maxL : Nat) (ret : Option FieldType) (n : Nat) (Cn : String) : Prop := Cond.instanceMethod y ∈ BIG ∧ Cond.selects Cn y y ∈ BIG ∧ Cond.initialized Cn ∈ BIG ∧ Cond.code y bytes maxL ret ∈ BIG ∧ (y.cls = Cn ∧ y.cls ≠ "java/lang/invoke/MethodHandle" ∧ y.cls ≠ "java/lang/invoke/VarHandle" ∧ (parseMethodDescriptor y.desc).map (fun d => d.parameters.length) = some n)
def OkS (y : MethodName) (bytes : ByteArray) (maxL : Nat) (ret : Option FieldType) (n : Nat) : Prop := Cond.static y ∈ BIG ∧ Cond.initialized y.cls ∈ BIG ∧ Cond.code y bytes maxL ret ∈ BIG ∧ (y.cls ≠ "java/lang/invoke/MethodHandle" ∧ y.cls ≠ "java/lang/invoke/VarHandle" ∧ (parseMethodDescriptor y.desc).map (fun d => d.parameters.length) = some n)
def Rcv (ad : Nat → Nat → Nat) (cy : Nat → ClassId) (σ : St) (k i : Nat) (Cn : String) : Prop := (k, i) ∈ IX ad ∧ ∃ (ci : Nat) (fs : List Value) (T : u_T) (N : Nat), cf ad cy k i (σ k i) = .inr (ci, fs) ∧ vwCl[ci]? = some (Cn, T, N)
def Rok (R : Room) (d maxL : Nat) : Prop := d + 6 + 1 ≤ R.frames ∧ 8 + (maxL + 11) + (40 * d + 100) ≤ R.locals
theorem rok {d d' mc maxL : Nat} (h : d < d') (hm : maxL ≤ 20) : Rok (rmD d' mc) d maxL := ⟨by show d + 6 + 1 ≤ d' + 6; omega, by show 8 + (maxL + 11) + (40 * d + 100) ≤ 40 * d' + 100; omega⟩
theorem big_good {w : Cond} (h : w ∈ BIG) : w ∈ BIG ∧ ((w.onTables && w.keeps) = true ∨ ∃ ty, w = .arrayClass ty) := ⟨h, good_of_word (List.mem_filter.mp h).2⟩
theorem okV_in {y : MethodName} {bytes : ByteArray} {maxL : Nat} {ret : Option FieldType} {n idx : Nat} {Cn : String} (h : OkV y bytes maxL ret n Cn) (hw : Cond.methodLink own idx y ∈ BIG) : GoodIn BIG (wsV own idx Cn y (Cond.code y bytes maxL ret :: BIG)) := by
  obtain ⟨h1, h2, h3, h4, -⟩ := h
  intro w hm
  rcases List.mem_append.mp hm with hm | hm
  · rcases List.mem_cons.mp hm with rfl | hm
    · exact big_good hw
    · rcases List.mem_cons.mp hm with rfl | hm
      · exact big_good h1
      · rcases List.mem_cons.mp hm with rfl | hm
        · exact big_good h2
        · rcases List.mem_cons.mp hm with rfl | hm
          · exact big_good h3
          · exact absurd hm List.not_mem_nil
  · rcases List.mem_cons.mp hm with rfl | hm
    · exact big_good h4
    · exact big_good hm
theorem okS_in {y : MethodName} {w0 : Cond} {idx : Nat} (h1 : Cond.static y ∈ BIG) (h2 : Cond.initialized y.cls ∈ BIG) (h4 : w0 ∈ BIG) (hw : Cond.methodLink own idx y ∈ BIG) : GoodIn BIG (va_wsS own idx y (w0 :: BIG)) := by
  intro w hm
  rcases List.mem_append.mp hm with hm | hm
  · rcases List.mem_cons.mp hm with rfl | hm
    · exact big_good hw
    · rcases List.mem_cons.mp hm with rfl | hm
      · exact big_good h1
      · rcases List.mem_cons.mp hm with rfl | hm
        · exact big_good h2
        · exact absurd hm List.not_mem_nil
  · rcases List.mem_cons.mp hm with rfl | hm
    · exact big_good h4
    · exact big_good hm
theorem Rcv.cell {H : Heap} {k i : Nat} {Cn : String} (h : Rcv ad cy σ k i Cn) (hK : va_K D vwCl (tysL cy) s) (hP : va_P D vwCl (WL ad cy σ) H) : ∃ cell : Cell, H[ad k i]? = some cell ∧ cell.vm.isStatics = false ∧ s.vm.findClass Cn = some cell.cls := by
  obtain ⟨hm, ci, fs, T, N, hcf, hcl⟩ := h
  obtain ⟨j, hj⟩ := IX_at hm
  have he := WL_at (ad := ad) (cy := cy) (σ := σ) hj
  rw [hcf] at he
  exact va_recv hK hP (q := (Cn, T, N)) hcl he

theorem z_cvi (C : Cx p l s m args meth c cc own nL ret D ad cy A sa) {y : MethodName} {bytes : ByteArray} {maxL : Nat} {ret' : Option FieldType} {d : Nat} {post : Int32 → St → Prop} {k i : Nat} {Cn : String} {As : List Value} {idx : Nat} (M : MI l D ad cy A sa y bytes maxL ret' d σ (.ref (ad k i) :: As) post) (ok : OkV y bytes maxL ret' As.length Cn) (hw : Cond.methodLink own idx y ∈ BIG) (hr : Rcv ad cy σ k i Cn) (hR : Rok R d maxL) (hc : cells ≤ R.cells ∧ slots ≤ R.slots) (hst : stk = As.reverse ++ .ref (ad k i) :: st) (hcat : (st.map fun v => v.category).sum ≤ 8) (hdg : decode cc pc = .ok (.invokevirtual idx, 3)) (kk : ∀ (r : Int32) (σ' : St), post r σ' → Z p l e R s m args below meth c D ad cy A nL cells slots Q σ' L (pc + 3) (.int r :: st)) : Z p l e R s m args below meth c D ad cy A nL cells slots Q σ L pc stk := by
  intro H locs ls hP hS hl
  obtain ⟨hx, hb, hml, hown, hts, hr0, hlk, hF⟩ := C
  subst hst
  refine va_calli (va_runV (g := F0 m pc ls (As.reverse ++ .ref (ad k i) :: st)) (As := As) (rest := st) ⟨hx, hb, hml, hown, hts⟩ M (cwV As.length hts (okV_in ok hw) rfl rfl rfl ok.2.2.2.2 hR) ⟨PcW.blind, hr.cell hF.2.1 hP, fun U hU hW => ⟨rfl, hF.call hS hU hW, by rw [hU]; exact hP⟩⟩ rfl rfl hl.1 rfl (lv_room hcat) hdg hc) hS (fun q _ h => h) (fun q h => h) (fun r u t H1 locs1 ht hvm hw1 hB hz1 hk1 hS1 => ?_)
  exact kk r u hw1 H1 locs1 ls (by rw [← ht]; exact hB) hS1 hl
theorem z_csi (C : Cx p l s m args meth c cc own nL ret D ad cy A sa) {y : MethodName} {bytes : ByteArray} {maxL : Nat} {ret' : Option FieldType} {d : Nat} {post : Int32 → St → Prop} {As : List Value} {idx : Nat} (M : MI l D ad cy A sa y bytes maxL ret' d σ As post) (ok : OkS y bytes maxL ret' As.length) (hw : Cond.methodLink own idx y ∈ BIG) (hR : Rok R d maxL) (hc : cells ≤ R.cells ∧ slots ≤ R.slots) (hst : stk = As.reverse ++ st) (hcat : (st.map fun v => v.category).sum ≤ 8) (hdg : decode cc pc = .ok (.invokestatic idx, 3)) (kk : ∀ (r : Int32) (σ' : St), post r σ' → Z p l e R s m args below meth c D ad cy A nL cells slots Q σ' L (pc + 3) (.int r :: st)) : Z p l e R s m args below meth c D ad cy A nL cells slots Q σ L pc stk := by
  intro H locs ls hP hS hl
  obtain ⟨hx, hb, hml, hown, hts, hr0, hlk, hF⟩ := C
  subst hst
  refine va_calli (va_runS (g := F0 m pc ls (As.reverse ++ st)) (As := As) (rest := st) ⟨hx, hb, hml, hown, hts⟩ M (va_cwS As.length hts (okS_in ok.1 ok.2.1 ok.2.2.1 hw) rfl rfl rfl ok.2.2.2 hR) ⟨PcW.blind, fun U hU hW => ⟨rfl, hF.call hS hU hW, by rw [hU]; exact hP⟩⟩ rfl rfl hl.1 rfl (lv_room hcat) hdg hc) hS (fun q _ h => h) (fun q h => h) (fun r u t H1 locs1 ht hvm hw1 hB hz1 hk1 hS1 => ?_)
  exact kk r u hw1 H1 locs1 ls (by rw [← ht]; exact hB) hS1 hl
theorem z_cvv (C : Cx p l s m args meth c cc own nL ret D ad cy A sa) {y : MethodName} {bytes : ByteArray} {maxL : Nat} {ret' : Option FieldType} {d : Nat} {post : St → Prop} {k i : Nat} {Cn : String} {As : List Value} {idx : Nat} (M : MV l D ad cy A sa y bytes maxL ret' d σ (.ref (ad k i) :: As) post) (ok : OkV y bytes maxL ret' As.length Cn) (hw : Cond.methodLink own idx y ∈ BIG) (hr : Rcv ad cy σ k i Cn) (hR : Rok R d maxL) (hc : cells ≤ R.cells ∧ slots ≤ R.slots) (hst : stk = As.reverse ++ .ref (ad k i) :: st) (hcat : (st.map fun v => v.category).sum ≤ 8) (hdg : decode cc pc = .ok (.invokevirtual idx, 3)) (kk : ∀ (σ' : St), post σ' → Z p l e R s m args below meth c D ad cy A nL cells slots Q σ' L (pc + 3) st) : Z p l e R s m args below meth c D ad cy A nL cells slots Q σ L pc stk := by
  intro H locs ls hP hS hl
  obtain ⟨hx, hb, hml, hown, hts, hr0, hlk, hF⟩ := C
  subst hst
  refine va_callv (va_runV (g := F0 m pc ls (As.reverse ++ .ref (ad k i) :: st)) (As := As) (rest := st) ⟨hx, hb, hml, hown, hts⟩ M (cwV As.length hts (okV_in ok hw) rfl rfl rfl ok.2.2.2.2 hR) ⟨PcW.blind, hr.cell hF.2.1 hP, fun U hU hW => ⟨rfl, hF.call hS hU hW, by rw [hU]; exact hP⟩⟩ rfl rfl hl.1 rfl (lv_room hcat) hdg hc) hS (fun q _ h => h) (fun q h => h) (fun u t H1 locs1 ht hvm hw1 hB hz1 hk1 hS1 => ?_)
  exact kk u hw1 H1 locs1 ls (by rw [← ht]; exact hB) hS1 hl
theorem z_csv (C : Cx p l s m args meth c cc own nL ret D ad cy A sa) {y : MethodName} {bytes : ByteArray} {maxL : Nat} {ret' : Option FieldType} {d : Nat} {post : St → Prop} {As : List Value} {idx : Nat} (M : MV l D ad cy A sa y bytes maxL ret' d σ As post) (ok : OkS y bytes maxL ret' As.length) (hw : Cond.methodLink own idx y ∈ BIG) (hR : Rok R d maxL) (hc : cells ≤ R.cells ∧ slots ≤ R.slots) (hst : stk = As.reverse ++ st) (hcat : (st.map fun v => v.category).sum ≤ 8) (hdg : decode cc pc = .ok (.invokestatic idx, 3)) (kk : ∀ (σ' : St), post σ' → Z p l e R s m args below meth c D ad cy A nL cells slots Q σ' L (pc + 3) st) : Z p l e R s m args below meth c D ad cy A nL cells slots Q σ L pc stk := by
  intro H locs ls hP hS hl
  obtain ⟨hx, hb, hml, hown, hts, hr0, hlk, hF⟩ := C
  subst hst
  refine va_callv (va_runS (g := F0 m pc ls (As.reverse ++ st)) (As := As) (rest := st) ⟨hx, hb, hml, hown, hts⟩ M (va_cwS As.length hts (okS_in ok.1 ok.2.1 ok.2.2.1 hw) rfl rfl rfl ok.2.2.2 hR) ⟨PcW.blind, fun U hU hW => ⟨rfl, hF.call hS hU hW, by rw [hU]; exact hP⟩⟩ rfl rfl hl.1 rfl (lv_room hcat) hdg hc) hS (fun q _ h => h) (fun q h => h) (fun u t H1 locs1 ht hvm hw1 hB hz1 hk1 hS1 => ?_)
  exact kk u hw1 H1 locs1 ls (by rw [← ht]; exact hB) hS1 hl
theorem y_cvi (C : Cx p l s m args meth c cc own nL ret D ad cy A sa) {y : MethodName} {bytes : ByteArray} {maxL : Nat} {ret' : Option FieldType} {d : Nat} {mc : Nat} {post : Int32 → St → Prop} {px : String → St → Prop} {k i : Nat} {Cn : String} {As : List Value} {idx : Nat} (M : XI l D ad cy A sa y bytes maxL ret' d mc σ (.ref (ad k i) :: As) post px) (ok : OkV y bytes maxL ret' As.length Cn) (hw : Cond.methodLink own idx y ∈ BIG) (hr : Rcv ad cy σ k i Cn) (hR : Rok R d maxL) (hc : cells + mc ≤ R.cells ∧ slots + 6 * mc ≤ R.slots) (hst : stk = As.reverse ++ .ref (ad k i) :: st) (hcat : (st.map fun v => v.category).sum ≤ 8) (hdg : decode cc pc = .ok (.invokevirtual idx, 3)) (kx : ∀ (E : String) (ce : Cell) (q9 : Addr) (u : St) (H1 : Heap) (locs1 : List Loc) (ls : Array Slot), px E u → va_P D vwCl (WL ad cy u) H1 → va_S A s.heap H1 locs1 → lh ls nL L → H1[q9]? = some ce → ce.vm = .none → s.vm.findClass E = some ce.cls → vx_W p l e R s m args below meth c H1 locs1 (cells + mc) (slots + 6 * mc) Q (F0 m pc ls st) q9) (kk : ∀ (r : Int32) (σ' : St), post r σ' → Z p l e R s m args below meth c D ad cy A nL (cells + mc) (slots + 6 * mc) Q σ' L (pc + 3) (.int r :: st)) : Z p l e R s m args below meth c D ad cy A nL cells slots Q σ L pc stk := by
  intro H locs ls hP hS hl
  obtain ⟨hx, hb, hml, hown, hts, hr0, hlk, hF⟩ := C
  subst hst
  refine vx_calli (vx_runV (g := F0 m pc ls (As.reverse ++ .ref (ad k i) :: st)) (As := As) (rest := st) ⟨hx, hb, hml, hown, hts⟩ M (cwV As.length hts (okV_in ok hw) rfl rfl rfl ok.2.2.2.2 hR) ⟨PcW.blind, hr.cell hF.2.1 hP, fun U hU hW => ⟨rfl, hF.call hS hU hW, by rw [hU]; exact hP⟩⟩ rfl rfl hl.1 rfl (lv_room hcat) hdg hc) hS (fun q _ h => h) (fun q h => h) (fun q _ h => h) (fun E ce q9 u t H1 locs1 ht hvm _ hB hz1 hk1 hS1 h1 h2 h3 => ?_) (fun r u t H1 locs1 ht hvm hw1 hB hz1 hk1 hS1 => ?_)
  · exact kx E ce q9 u H1 locs1 ls hB.1 (by rw [← ht]; exact hB.2) hS1 hl h1 h2 h3
  · exact kk r u hw1 H1 locs1 ls (by rw [← ht]; exact hB) hS1 hl
theorem y_csi (C : Cx p l s m args meth c cc own nL ret D ad cy A sa) {y : MethodName} {bytes : ByteArray} {maxL : Nat} {ret' : Option FieldType} {d : Nat} {mc : Nat} {post : Int32 → St → Prop} {px : String → St → Prop} {As : List Value} {idx : Nat} (M : XI l D ad cy A sa y bytes maxL ret' d mc σ As post px) (ok : OkS y bytes maxL ret' As.length) (hw : Cond.methodLink own idx y ∈ BIG) (hR : Rok R d maxL) (hc : cells + mc ≤ R.cells ∧ slots + 6 * mc ≤ R.slots) (hst : stk = As.reverse ++ st) (hcat : (st.map fun v => v.category).sum ≤ 8) (hdg : decode cc pc = .ok (.invokestatic idx, 3)) (kx : ∀ (E : String) (ce : Cell) (q9 : Addr) (u : St) (H1 : Heap) (locs1 : List Loc) (ls : Array Slot), px E u → va_P D vwCl (WL ad cy u) H1 → va_S A s.heap H1 locs1 → lh ls nL L → H1[q9]? = some ce → ce.vm = .none → s.vm.findClass E = some ce.cls → vx_W p l e R s m args below meth c H1 locs1 (cells + mc) (slots + 6 * mc) Q (F0 m pc ls st) q9) (kk : ∀ (r : Int32) (σ' : St), post r σ' → Z p l e R s m args below meth c D ad cy A nL (cells + mc) (slots + 6 * mc) Q σ' L (pc + 3) (.int r :: st)) : Z p l e R s m args below meth c D ad cy A nL cells slots Q σ L pc stk := by
  intro H locs ls hP hS hl
  obtain ⟨hx, hb, hml, hown, hts, hr0, hlk, hF⟩ := C
  subst hst
  refine vx_calli (vx_runS (g := F0 m pc ls (As.reverse ++ st)) (As := As) (rest := st) ⟨hx, hb, hml, hown, hts⟩ M (va_cwS As.length hts (okS_in ok.1 ok.2.1 ok.2.2.1 hw) rfl rfl rfl ok.2.2.2 hR) ⟨PcW.blind, fun U hU hW => ⟨rfl, hF.call hS hU hW, by rw [hU]; exact hP⟩⟩ rfl rfl hl.1 rfl (lv_room hcat) hdg hc) hS (fun q _ h => h) (fun q h => h) (fun q _ h => h) (fun E ce q9 u t H1 locs1 ht hvm _ hB hz1 hk1 hS1 h1 h2 h3 => ?_) (fun r u t H1 locs1 ht hvm hw1 hB hz1 hk1 hS1 => ?_)
  · exact kx E ce q9 u H1 locs1 ls hB.1 (by rw [← ht]; exact hB.2) hS1 hl h1 h2 h3
  · exact kk r u hw1 H1 locs1 ls (by rw [← ht]; exact hB) hS1 hl
theorem y_cvv (C : Cx p l s m args meth c cc own nL ret D ad cy A sa) {y : MethodName} {bytes : ByteArray} {maxL : Nat} {ret' : Option FieldType} {d : Nat} {mc : Nat} {post : St → Prop} {px : String → St → Prop} {k i : Nat} {Cn : String} {As : List Value} {idx : Nat} (M : XV l D ad cy A sa y bytes maxL ret' d mc σ (.ref (ad k i) :: As) post px) (ok : OkV y bytes maxL ret' As.length Cn) (hw : Cond.methodLink own idx y ∈ BIG) (hr : Rcv ad cy σ k i Cn) (hR : Rok R d maxL) (hc : cells + mc ≤ R.cells ∧ slots + 6 * mc ≤ R.slots) (hst : stk = As.reverse ++ .ref (ad k i) :: st) (hcat : (st.map fun v => v.category).sum ≤ 8) (hdg : decode cc pc = .ok (.invokevirtual idx, 3)) (kx : ∀ (E : String) (ce : Cell) (q9 : Addr) (u : St) (H1 : Heap) (locs1 : List Loc) (ls : Array Slot), px E u → va_P D vwCl (WL ad cy u) H1 → va_S A s.heap H1 locs1 → lh ls nL L → H1[q9]? = some ce → ce.vm = .none → s.vm.findClass E = some ce.cls → vx_W p l e R s m args below meth c H1 locs1 (cells + mc) (slots + 6 * mc) Q (F0 m pc ls st) q9) (kk : ∀ (σ' : St), post σ' → Z p l e R s m args below meth c D ad cy A nL (cells + mc) (slots + 6 * mc) Q σ' L (pc + 3) st) : Z p l e R s m args below meth c D ad cy A nL cells slots Q σ L pc stk := by
  intro H locs ls hP hS hl
  obtain ⟨hx, hb, hml, hown, hts, hr0, hlk, hF⟩ := C
  subst hst
  refine vx_callv (vx_runV (g := F0 m pc ls (As.reverse ++ .ref (ad k i) :: st)) (As := As) (rest := st) ⟨hx, hb, hml, hown, hts⟩ M (cwV As.length hts (okV_in ok hw) rfl rfl rfl ok.2.2.2.2 hR) ⟨PcW.blind, hr.cell hF.2.1 hP, fun U hU hW => ⟨rfl, hF.call hS hU hW, by rw [hU]; exact hP⟩⟩ rfl rfl hl.1 rfl (lv_room hcat) hdg hc) hS (fun q _ h => h) (fun q h => h) (fun q _ h => h) (fun E ce q9 u t H1 locs1 ht hvm _ hB hz1 hk1 hS1 h1 h2 h3 => ?_) (fun u t H1 locs1 ht hvm hw1 hB hz1 hk1 hS1 => ?_)
  · exact kx E ce q9 u H1 locs1 ls hB.1 (by rw [← ht]; exact hB.2) hS1 hl h1 h2 h3
  · exact kk u hw1 H1 locs1 ls (by rw [← ht]; exact hB) hS1 hl
theorem y_csv (C : Cx p l s m args meth c cc own nL ret D ad cy A sa) {y : MethodName} {bytes : ByteArray} {maxL : Nat} {ret' : Option FieldType} {d : Nat} {mc : Nat} {post : St → Prop} {px : String → St → Prop} {As : List Value} {idx : Nat} (M : XV l D ad cy A sa y bytes maxL ret' d mc σ As post px) (ok : OkS y bytes maxL ret' As.length) (hw : Cond.methodLink own idx y ∈ BIG) (hR : Rok R d maxL) (hc : cells + mc ≤ R.cells ∧ slots + 6 * mc ≤ R.slots) (hst : stk = As.reverse ++ st) (hcat : (st.map fun v => v.category).sum ≤ 8) (hdg : decode cc pc = .ok (.invokestatic idx, 3)) (kx : ∀ (E : String) (ce : Cell) (q9 : Addr) (u : St) (H1 : Heap) (locs1 : List Loc) (ls : Array Slot), px E u → va_P D vwCl (WL ad cy u) H1 → va_S A s.heap H1 locs1 → lh ls nL L → H1[q9]? = some ce → ce.vm = .none → s.vm.findClass E = some ce.cls → vx_W p l e R s m args below meth c H1 locs1 (cells + mc) (slots + 6 * mc) Q (F0 m pc ls st) q9) (kk : ∀ (σ' : St), post σ' → Z p l e R s m args below meth c D ad cy A nL (cells + mc) (slots + 6 * mc) Q σ' L (pc + 3) st) : Z p l e R s m args below meth c D ad cy A nL cells slots Q σ L pc stk := by
  intro H locs ls hP hS hl
  obtain ⟨hx, hb, hml, hown, hts, hr0, hlk, hF⟩ := C
  subst hst
  refine vx_callv (vx_runS (g := F0 m pc ls (As.reverse ++ st)) (As := As) (rest := st) ⟨hx, hb, hml, hown, hts⟩ M (va_cwS As.length hts (okS_in ok.1 ok.2.1 ok.2.2.1 hw) rfl rfl rfl ok.2.2.2 hR) ⟨PcW.blind, fun U hU hW => ⟨rfl, hF.call hS hU hW, by rw [hU]; exact hP⟩⟩ rfl rfl hl.1 rfl (lv_room hcat) hdg hc) hS (fun q _ h => h) (fun q h => h) (fun q _ h => h) (fun E ce q9 u t H1 locs1 ht hvm _ hB hz1 hk1 hS1 h1 h2 h3 => ?_) (fun u t H1 locs1 ht hvm hw1 hB hz1 hk1 hS1 => ?_)
  · exact kx E ce q9 u H1 locs1 ls hB.1 (by rw [← ht]; exact hB.2) hS1 hl h1 h2 h3
  · exact kk u hw1 H1 locs1 ls (by rw [← ht]; exact hB) hS1 hl
theorem x_on (C : Cx p l s m args meth c cc own nL ret D ad cy A sa) (hex : ∀ x ∈ c.exceptionTable.toList, False) {Qc : Array Value → State → Outcome → State → Prop} {px px' : String → St → Prop} {mc' c1 s1 : Nat} (h1 : c1 ≤ mc') (h2 : s1 ≤ 6 * mc') (hpx : ∀ E u, px E u → px' E u) (E : String) (ce : Cell) (q9 : Addr) (u : St) (H1 : Heap) (locs1 : List Loc) (ls : Array Slot) (hp : px E u) (hP : va_P D vwCl (WL ad cy u) H1) (hS : va_S A s.heap H1 locs1) (_ : lh ls nL L) (g1 : H1[q9]? = some ce) (g2 : ce.vm = .none) (g3 : s.vm.findClass E = some ce.cls) : vx_W p l e R s m args below meth c H1 locs1 c1 s1 (vx_MQ below Qc (XW D ad cy A px') args s mc' (6 * mc') A) (F0 m pc ls st) q9 :=
  vx_out (fun x hx => absurd (hex x hx) id) C.2.2.2.2.2.2.1 g1 g2 g3 (fun t ht hvm => ⟨u, trivial, ⟨hpx E u hp, by show va_P D vwCl (WL ad cy u) t.heap; rw [ht]; exact hP⟩, hS.F ht⟩) hS.2.2 h1 h2
end ZC
theorem rc_0 {ad : Nat → Nat → Nat} {cy : Nat → ClassId} {σ : St} : Rcv ad cy σ 0 0 "FretSchool" := ⟨IX_mem (by decide) (by decide), 5, _, _, _, rfl, rfl⟩
theorem rc_6 {ad : Nat → Nat → Nat} {cy : Nat → ClassId} {σ : St} : Rcv ad cy σ 6 0 "FretSchool$Hand" := ⟨IX_mem (by decide) (by decide), 0, _, _, _, rfl, rfl⟩
theorem rc_11 {ad : Nat → Nat → Nat} {cy : Nat → ClassId} {σ : St} {i : Nat} (hi : i < 8) : Rcv ad cy σ 11 i "FretSchool$Piece" := ⟨IX_mem (by decide) hi, 3, _, _, _, rfl, rfl⟩
theorem rc_13 {ad : Nat → Nat → Nat} {cy : Nat → ClassId} {σ : St} {i : Nat} (hi : i < 8) : Rcv ad cy σ 13 i "FretSchool$Instrument" := ⟨IX_mem (by decide) hi, 1, _, _, _, rfl, rfl⟩
theorem rc_15 {ad : Nat → Nat → Nat} {cy : Nat → ClassId} {σ : St} {i : Nat} (hi : i < 5) : Rcv ad cy σ 15 i "FretSchool$Pupil" := ⟨IX_mem (by decide) hi, 4, _, _, _, rfl, rfl⟩
theorem rc_16 {ad : Nat → Nat → Nat} {cy : Nat → ClassId} {σ : St} {i : Nat} (hi : i < 20) : Rcv ad cy σ 16 i "FretSchool$Order" := ⟨IX_mem (by decide) hi, 2, _, _, _, rfl, rfl⟩
theorem okX5_instruments : OkV yX5_instruments cX5_instruments 1 (some .int) 0 "FretSchool" := ⟨wd172, wd173, wd14, wd174, by decide +kernel⟩
theorem okX5_today : OkV yX5_today cX5_today 1 (some .int) 0 "FretSchool" := ⟨wd176, wd177, wd14, wd178, by decide +kernel⟩
theorem okX5_level : OkV yX5_level cX5_level 2 (some .int) 1 "FretSchool" := ⟨wd189, wd190, wd14, wd191, by decide +kernel⟩
theorem okX5_needPupil : OkS yX5_needPupil cX5_needPupil 1 (none : Option Jvm.ClassFile.FieldType) 1 := ⟨wd193, wd14, wd194, by decide +kernel⟩
theorem okX5_needRange : OkS yX5_needRange cX5_needRange 3 (none : Option Jvm.ClassFile.FieldType) 3 := ⟨wd196, wd14, wd197, by decide +kernel⟩
theorem okX5_known : OkV yX5_known cX5_known 2 (some .int) 1 "FretSchool" := ⟨wd271, wd272, wd14, wd273, by decide +kernel⟩
theorem okX5_next : OkV yX5_next cX5_next 6 (some .int) 1 "FretSchool" := ⟨wd278, wd279, wd14, wd280, by decide +kernel⟩
theorem okX4_knows : OkV yX4_knows cX4_knows 2 (some .boolean) 1 "FretSchool$Pupil" := ⟨wd282, wd283, wd17, wd284, by decide +kernel⟩
theorem okX5_easiestShift : OkV yX5_easiestShift cX5_easiestShift 6 (some .int) 2 "FretSchool" := ⟨wd287, wd1, wd14, wd288, by decide +kernel⟩
theorem okX5_learnableShift : OkV yX5_learnableShift cX5_learnableShift 5 (some .int) 3 "FretSchool" := ⟨wd291, wd2, wd14, wd292, by decide +kernel⟩
theorem okX0_placeBest : OkV yX0_placeBest cX0_placeBest 4 (some .boolean) 2 "FretSchool$Hand" := ⟨wd294, wd295, wd19, wd296, by decide +kernel⟩
theorem okX0_feelReach : OkV yX0_feelReach cX0_feelReach 6 (none : Option Jvm.ClassFile.FieldType) 2 "FretSchool$Hand" := ⟨wd299, wd3, wd19, wd300, by decide +kernel⟩
theorem okX1_highestPosition : OkV yX1_highestPosition cX1_highestPosition 1 (some .int) 0 "FretSchool$Instrument" := ⟨wd302, wd303, wd16, wd304, by decide +kernel⟩
theorem okX1_lowestString : OkV yX1_lowestString cX1_lowestString 5 (some .int) 2 "FretSchool$Instrument" := ⟨wd306, wd307, wd16, wd308, by decide +kernel⟩
theorem okX0_measureRest : OkV yX0_measureRest cX0_measureRest 5 (none : Option Jvm.ClassFile.FieldType) 2 "FretSchool$Hand" := ⟨wd311, wd4, wd19, wd312, by decide +kernel⟩
theorem okX0_nearest : OkV yX0_nearest cX0_nearest 7 (some .int) 2 "FretSchool$Hand" := ⟨wd315, wd5, wd19, wd316, by decide +kernel⟩
theorem okX0_shift : OkS yX0_shift cX0_shift 2 (some .int) 2 := ⟨wd319, wd19, wd320, by decide +kernel⟩
theorem okX0_canReach : OkS yX0_canReach cX0_canReach 2 (some .boolean) 2 := ⟨wd325, wd19, wd326, by decide +kernel⟩
theorem okX0_chooseRow : OkV yX0_chooseRow cX0_chooseRow 6 (some .boolean) 1 "FretSchool$Hand" := ⟨wd329, wd6, wd19, wd330, by decide +kernel⟩
theorem okX5_pitch : OkV yX5_pitch cX5_pitch 3 (some .int) 2 "FretSchool" := ⟨wd339, wd340, wd14, wd341, by decide +kernel⟩
theorem okX5_needNote : OkV yX5_needNote cX5_needNote 3 (none : Option Jvm.ClassFile.FieldType) 2 "FretSchool" := ⟨wd344, wd7, wd14, wd345, by decide +kernel⟩
theorem okX5_needPiece : OkV yX5_needPiece cX5_needPiece 2 (none : Option Jvm.ClassFile.FieldType) 1 "FretSchool" := ⟨wd348, wd8, wd14, wd349, by decide +kernel⟩
theorem okX5_shifts : OkV yX5_shifts cX5_shifts 3 (some .int) 2 "FretSchool" := ⟨wd378, wd379, wd14, wd380, by decide +kernel⟩
theorem okX5_findBest : OkV yX5_findBest cX5_findBest 3 (some .boolean) 2 "FretSchool" := ⟨wd383, wd9, wd14, wd384, by decide +kernel⟩
theorem okX5_needInstrument : OkV yX5_needInstrument cX5_needInstrument 2 (none : Option Jvm.ClassFile.FieldType) 1 "FretSchool" := ⟨wd387, wd10, wd14, wd388, by decide +kernel⟩
theorem okX5_hardest : OkV yX5_hardest cX5_hardest 3 (some .int) 2 "FretSchool" := ⟨wd394, wd395, wd14, wd396, by decide +kernel⟩
theorem okX5_position : OkV yX5_position cX5_position 4 (some .int) 3 "FretSchool" := ⟨wd401, wd402, wd14, wd403, by decide +kernel⟩
theorem okX5_string : OkV yX5_string cX5_string 4 (some .int) 3 "FretSchool" := ⟨wd408, wd409, wd14, wd410, by decide +kernel⟩
theorem okX5_shiftsByAll : OkV yX5_shiftsByAll cX5_shiftsByAll 3 (some .int) 2 "FretSchool" := ⟨wd417, wd418, wd14, wd419, by decide +kernel⟩
theorem okX0_leastByAll : OkV yX0_leastByAll cX0_leastByAll 4 (some .int) 2 "FretSchool$Hand" := ⟨wd437, wd438, wd19, wd439, by decide +kernel⟩
theorem okX0_leastFrom : OkS yX0_leastFrom cX0_leastFrom 7 (some .int) 4 := ⟨wd441, wd19, wd442, by decide +kernel⟩
theorem okX5_begin : OkV yX5_begin cX5_begin 2 (some .int) 0 "FretSchool" := ⟨wd458, wd459, wd14, wd460, by decide +kernel⟩
theorem okX5_addNote : OkV yX5_addNote cX5_addNote 4 (some .int) 2 "FretSchool" := ⟨wd466, wd467, wd14, wd468, by decide +kernel⟩
theorem okX3_isFull : OkV yX3_isFull cX3_isFull 1 (some .boolean) 0 "FretSchool$Piece" := ⟨wd470, wd471, wd15, wd472, by decide +kernel⟩
theorem okX3_append : OkV yX3_append cX3_append 2 (none : Option Jvm.ClassFile.FieldType) 1 "FretSchool$Piece" := ⟨wd475, wd476, wd15, wd477, by decide +kernel⟩
theorem okX5_transpose : OkV yX5_transpose cX5_transpose 4 (none : Option Jvm.ClassFile.FieldType) 2 "FretSchool" := ⟨wd483, wd484, wd14, wd485, by decide +kernel⟩
theorem okX3_canMove : OkV yX3_canMove cX3_canMove 4 (some .boolean) 1 "FretSchool$Piece" := ⟨wd487, wd488, wd15, wd489, by decide +kernel⟩
theorem okX3_move : OkV yX3_move cX3_move 3 (none : Option Jvm.ClassFile.FieldType) 1 "FretSchool$Piece" := ⟨wd492, wd493, wd15, wd494, by decide +kernel⟩
theorem okX5_addWood : OkV yX5_addWood cX5_addWood 3 (some .int) 2 "FretSchool" := ⟨wd499, wd500, wd14, wd501, by decide +kernel⟩
theorem okX5_ready : OkV yX5_ready cX5_ready 2 (some .int) 1 "FretSchool" := ⟨wd509, wd510, wd14, wd511, by decide +kernel⟩
theorem okX5_needOrder : OkV yX5_needOrder cX5_needOrder 2 (none : Option Jvm.ClassFile.FieldType) 1 "FretSchool" := ⟨wd514, wd11, wd14, wd515, by decide +kernel⟩
theorem okX5_order : OkV yX5_order cX5_order 5 (some .int) 3 "FretSchool" := ⟨wd521, wd522, wd14, wd523, by decide +kernel⟩
theorem okX5_ordersAtWork : OkV yX5_ordersAtWork cX5_ordersAtWork 3 (some .int) 0 "FretSchool" := ⟨wd527, wd12, wd14, wd528, by decide +kernel⟩
theorem okX2_isReady : OkV yX2_isReady cX2_isReady 2 (some .boolean) 1 "FretSchool$Order" := ⟨wd530, wd531, wd18, wd532, by decide +kernel⟩
theorem okX2_place : OkV yX2_place cX2_place 4 (none : Option Jvm.ClassFile.FieldType) 3 "FretSchool$Order" := ⟨wd536, wd537, wd18, wd538, by decide +kernel⟩
theorem okX5_pass : OkV yX5_pass cX5_pass 2 (some .int) 1 "FretSchool" := ⟨wd543, wd544, wd14, wd545, by decide +kernel⟩
theorem okX5_fetch : OkV yX5_fetch cX5_fetch 8 (some .int) 5 "FretSchool" := ⟨wd554, wd555, wd14, wd556, by decide +kernel⟩
theorem okX1_build : OkV yX1_build cX1_build 3 (none : Option Jvm.ClassFile.FieldType) 2 "FretSchool$Instrument" := ⟨wd561, wd562, wd16, wd563, by decide +kernel⟩
theorem okX1_tuneAll : OkV yX1_tuneAll cX1_tuneAll 5 (none : Option Jvm.ClassFile.FieldType) 4 "FretSchool$Instrument" := ⟨wd565, wd566, wd16, wd567, by decide +kernel⟩
theorem okX5_owner : OkV yX5_owner cX5_owner 2 (some .int) 1 "FretSchool" := ⟨wd572, wd573, wd14, wd574, by decide +kernel⟩
theorem okX5_tune : OkV yX5_tune cX5_tune 6 (some .int) 3 "FretSchool" := ⟨wd579, wd580, wd14, wd581, by decide +kernel⟩
theorem okX5_learn : OkV yX5_learn cX5_learn 6 (some .int) 3 "FretSchool" := ⟨wd586, wd587, wd14, wd588, by decide +kernel⟩
theorem okX4_takeIn : OkV yX4_takeIn cX4_takeIn 3 (none : Option Jvm.ClassFile.FieldType) 2 "FretSchool$Pupil" := ⟨wd592, wd593, wd17, wd594, by decide +kernel⟩
