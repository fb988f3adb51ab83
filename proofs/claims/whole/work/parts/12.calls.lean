/-! ===== contracts, calls, returns, throws ===== -/
def Bw (D : va_G) (ad : Nat → Nat → Nat) (cy : Nat → ClassId) : St → State → Prop := fun u t => va_P D vwCl (WL ad cy u) t.heap
def PcW (l : Launch) (D : va_G) (ad : Nat → Nat → Nat) (cy : Nat → ClassId) (A : Nat → Prop) (sa : Nat → Nat) (σ : St) (av : List Value) : Array Value → State → Prop := va_Pc av (fun U => Fx l D ad cy A sa U ∧ va_P D vwCl (WL ad cy σ) U.heap)
theorem PcW.blind {l : Launch} {D : va_G} {ad : Nat → Nat → Nat} {cy : Nat → ClassId} {A : Nat → Prop} {sa : Nat → Nat} {σ : St} {av : List Value} : FrameBlind (PcW l D ad cy A sa σ av) := fun _ _ _ _ q => ⟨q.1, q.2.1.blind, q.2.2⟩
/-- a method that answers an int and throws nothing -/
def MI (l : Launch) (D : va_G) (ad : Nat → Nat → Nat) (cy : Nat → ClassId) (A : Nat → Prop) (sa : Nat → Nat) (y : MethodName) (bytes : ByteArray) (maxL : Nat) (ret : Option FieldType) (d : Nat) (σ : St) (av : List Value) (post : Int32 → St → Prop) : Prop :=
  Met l y (Cond.code y bytes maxL ret :: BIG) (rmD d 0) (PcW l D ad cy A sa σ av) (va_Qi post (Bw D ad cy) A) 0 0 A
def MV (l : Launch) (D : va_G) (ad : Nat → Nat → Nat) (cy : Nat → ClassId) (A : Nat → Prop) (sa : Nat → Nat) (y : MethodName) (bytes : ByteArray) (maxL : Nat) (ret : Option FieldType) (d : Nat) (σ : St) (av : List Value) (post : St → Prop) : Prop :=
  Met l y (Cond.code y bytes maxL ret :: BIG) (rmD d 0) (PcW l D ad cy A sa σ av) (va_Qv post (Bw D ad cy) A) 0 0 A
def XW (D : va_G) (ad : Nat → Nat → Nat) (cy : Nat → ClassId) (A : Nat → Prop) (px : String → St → Prop) : String → State → State → Prop := vx_X (S := St) (fun _ => True) (fun E u t => px E u ∧ Bw D ad cy u t) A
def XI (l : Launch) (D : va_G) (ad : Nat → Nat → Nat) (cy : Nat → ClassId) (A : Nat → Prop) (sa : Nat → Nat) (y : MethodName) (bytes : ByteArray) (maxL : Nat) (ret : Option FieldType) (d mc : Nat) (σ : St) (av : List Value) (post : Int32 → St → Prop) (px : String → St → Prop) : Prop :=
  vx_Met l y (Cond.code y bytes maxL ret :: BIG) (rmD d mc) (PcW l D ad cy A sa σ av) (va_Qi post (Bw D ad cy) A) (XW D ad cy A px) mc (6 * mc) A
def XV (l : Launch) (D : va_G) (ad : Nat → Nat → Nat) (cy : Nat → ClassId) (A : Nat → Prop) (sa : Nat → Nat) (y : MethodName) (bytes : ByteArray) (maxL : Nat) (ret : Option FieldType) (d mc : Nat) (σ : St) (av : List Value) (post : St → Prop) (px : String → St → Prop) : Prop :=
  vx_Met l y (Cond.code y bytes maxL ret :: BIG) (rmD d mc) (PcW l D ad cy A sa σ av) (va_Qv post (Bw D ad cy) A) (XW D ad cy A px) mc (6 * mc) A
def L0 (av : List Value) (n : Nat) : List (Option Value) := av.map some ++ List.replicate (n - av.length) none
theorem lv_args_mem : ∀ (av : List Value) (k j : Nat) (v : Value), (∀ w ∈ av, w.category = 1) → av[j]? = some v → (k + j, v) ∈ lv_args k av
  | [], k, j, v, _, h => by simp at h
  | a :: r, k, 0, v, hc, h => by
    have e : a = v := by simpa using h
    subst e
    exact List.mem_cons_self
  | a :: r, k, j + 1, v, hc, h => by
    have h1 : ¬ a.category = 2 := by rw [hc a List.mem_cons_self]; decide
    have ih := lv_args_mem r (k + 1) j v (fun w hw => hc w (List.mem_cons_of_mem _ hw)) (by simpa using h)
    show (k + (j + 1), v) ∈ (k, a) :: lv_args (if a.category = 2 then k + 2 else k + 1) r
    rw [if_neg h1, show k + (j + 1) = k + 1 + j by omega]
    exact List.mem_cons_of_mem _ ih
theorem lh_entry {av : List Value} {n : Nat} {ls : Array Slot} (hc : av.all (fun v => v.category == 1) = true) (h : lv_has ls n (lv_args 0 av)) : lh ls n (L0 av n) := by
  have hc' : ∀ w ∈ av, w.category = 1 := fun w hw => by simpa using List.all_eq_true.mp hc w hw
  refine ⟨h.1, h.2.1, fun i v hi => ?_⟩
  have hav : av[i]? = some v := by
    unfold L0 at hi
    by_cases hl : i < (av.map some).length
    · rw [List.getElem?_append_left hl, List.getElem?_map] at hi
      cases hq : av[i]? with
      | none => rw [hq] at hi; cases hi
      | some w => rw [hq] at hi; cases hi; rfl
    · rw [List.getElem?_append_right (by omega), List.getElem?_replicate] at hi
      split at hi <;> cases hi
  have hm := lv_args_mem av 0 i v hc' hav
  rw [Nat.zero_add] at hm
  exact ⟨hc' v (List.mem_of_getElem? hav), h.2.2 _ hm⟩
theorem Cx.of {p : Program} {l : Launch} {e : Env} {s s₁ : State} {m : MethodId} {args : Array Value} {below : List Frame} {meth : Method} {c : Code} {y : MethodName} {bytes : ByteArray} {maxL : Nat} {ret : Option FieldType} {w0 : Cond} {rm : Room} {own : String} {D : va_G} {ad : Nat → Nat → Nat} {cy : Nat → ClassId} {A : Nat → Prop} {sa : Nat → Nat} (B : BodyLoose p l y (headSpec (w0 :: BIG) rm) bytes maxL ret e s m args below meth c s₁) (hml : c.maxLocals = maxL) (ho : y.cls = own) (hF : Fx l D ad cy A sa s) : Cx p l s m args meth c bytes own maxL ret D ad cy A sa := by
  have hts := atoms_spec (ws := w0 :: BIG) B.pre
  exact ⟨B.exec, B.bytes, hml, by rw [← ho]; exact findClass_of_methodNamed B.named, fun w hw => hts w (List.mem_cons_of_mem _ hw), B.returns, B.notSynchronized, hF⟩

theorem MI.mk {l : Launch} {D : va_G} {ad : Nat → Nat → Nat} {cy : Nat → ClassId} {A : Nat → Prop} {sa : Nat → Nat} {y : MethodName} {bytes : ByteArray} {maxL : Nat} {ret : Option FieldType} {d : Nat} {σ : St} {av : List Value} {post : Int32 → St → Prop} (own : String) (hy : plainName y.cls = true) (ho : y.cls = own) (hlen : (lg_sl av).length ≤ maxL) (hc : av.all (fun v => v.category == 1) = true)
    (body : ∀ (p : Program) (e : Env) (s : State) (m : MethodId) (args : Array Value) (below : List Frame) (meth : Method) (c : Code), Cx p l s m args meth c bytes own maxL ret D ad cy A sa → Z p l e (rmD d 0) s m args below meth c D ad cy A maxL 0 0 (MQ below (va_Qi post (Bw D ad cy) A) args s 0 0 A) σ (L0 av maxL) 0 []) : MI l D ad cy A sa y bytes maxL ret d σ av post := by
  refine Met.ofW (cc := bytes) (maxL := maxL) (ret := ret) hy rfl ?_
  intro p e s m args below meth c s₁ B hml hv
  obtain ⟨rfl, hF, hP⟩ := hv
  have C := Cx.of (own := own) B hml ho hF
  have hl := lv_entry av (n := maxL) hlen
  rw [lg_entry_eq]
  exact body p e s m _ below meth c C s.heap [] _ hP va_S.rf (lh_entry hc hl)
theorem MV.mk {l : Launch} {D : va_G} {ad : Nat → Nat → Nat} {cy : Nat → ClassId} {A : Nat → Prop} {sa : Nat → Nat} {y : MethodName} {bytes : ByteArray} {maxL : Nat} {ret : Option FieldType} {d : Nat} {σ : St} {av : List Value} {post : St → Prop} (own : String) (hy : plainName y.cls = true) (ho : y.cls = own) (hlen : (lg_sl av).length ≤ maxL) (hc : av.all (fun v => v.category == 1) = true)
    (body : ∀ (p : Program) (e : Env) (s : State) (m : MethodId) (args : Array Value) (below : List Frame) (meth : Method) (c : Code), Cx p l s m args meth c bytes own maxL ret D ad cy A sa → Z p l e (rmD d 0) s m args below meth c D ad cy A maxL 0 0 (MQ below (va_Qv post (Bw D ad cy) A) args s 0 0 A) σ (L0 av maxL) 0 []) : MV l D ad cy A sa y bytes maxL ret d σ av post := by
  refine Met.ofW (cc := bytes) (maxL := maxL) (ret := ret) hy rfl ?_
  intro p e s m args below meth c s₁ B hml hv
  obtain ⟨rfl, hF, hP⟩ := hv
  have C := Cx.of (own := own) B hml ho hF
  have hl := lv_entry av (n := maxL) hlen
  rw [lg_entry_eq]
  exact body p e s m _ below meth c C s.heap [] _ hP va_S.rf (lh_entry hc hl)
theorem XI.mk {l : Launch} {D : va_G} {ad : Nat → Nat → Nat} {cy : Nat → ClassId} {A : Nat → Prop} {sa : Nat → Nat} {y : MethodName} {bytes : ByteArray} {maxL : Nat} {ret : Option FieldType} {d : Nat} {σ : St} {av : List Value} {mc : Nat} {post : Int32 → St → Prop} {px : String → St → Prop} (own : String) (hy : plainName y.cls = true) (ho : y.cls = own) (hlen : (lg_sl av).length ≤ maxL) (hc : av.all (fun v => v.category == 1) = true)
    (body : ∀ (p : Program) (e : Env) (s : State) (m : MethodId) (args : Array Value) (below : List Frame) (meth : Method) (c : Code), Cx p l s m args meth c bytes own maxL ret D ad cy A sa → (∀ x ∈ c.exceptionTable.toList, False) → Z p l e (rmD d mc) s m args below meth c D ad cy A maxL 0 0 (vx_MQ below (va_Qi post (Bw D ad cy) A) (XW D ad cy A px) args s mc (6 * mc) A) σ (L0 av maxL) 0 []) : XI l D ad cy A sa y bytes maxL ret d mc σ av post px := by
  refine vx_ofW (cc := bytes) (maxL := maxL) (ret := ret) hy rfl ?_
  intro p e s m args below meth c s₁ B hml hex hv
  obtain ⟨rfl, hF, hP⟩ := hv
  have C := Cx.of (own := own) B hml ho hF
  have hl := lv_entry av (n := maxL) hlen
  rw [lg_entry_eq]
  exact body p e s m _ below meth c C hex s.heap [] _ hP va_S.rf (lh_entry hc hl)
theorem XV.mk {l : Launch} {D : va_G} {ad : Nat → Nat → Nat} {cy : Nat → ClassId} {A : Nat → Prop} {sa : Nat → Nat} {y : MethodName} {bytes : ByteArray} {maxL : Nat} {ret : Option FieldType} {d : Nat} {σ : St} {av : List Value} {mc : Nat} {post : St → Prop} {px : String → St → Prop} (own : String) (hy : plainName y.cls = true) (ho : y.cls = own) (hlen : (lg_sl av).length ≤ maxL) (hc : av.all (fun v => v.category == 1) = true)
    (body : ∀ (p : Program) (e : Env) (s : State) (m : MethodId) (args : Array Value) (below : List Frame) (meth : Method) (c : Code), Cx p l s m args meth c bytes own maxL ret D ad cy A sa → (∀ x ∈ c.exceptionTable.toList, False) → Z p l e (rmD d mc) s m args below meth c D ad cy A maxL 0 0 (vx_MQ below (va_Qv post (Bw D ad cy) A) (XW D ad cy A px) args s mc (6 * mc) A) σ (L0 av maxL) 0 []) : XV l D ad cy A sa y bytes maxL ret d mc σ av post px := by
  refine vx_ofW (cc := bytes) (maxL := maxL) (ret := ret) hy rfl ?_
  intro p e s m args below meth c s₁ B hml hex hv
  obtain ⟨rfl, hF, hP⟩ := hv
  have C := Cx.of (own := own) B hml ho hF
  have hl := lv_entry av (n := maxL) hlen
  rw [lg_entry_eq]
  exact body p e s m _ below meth c C hex s.heap [] _ hP va_S.rf (lh_entry hc hl)
section ZC
variable {p : Program} {l : Launch} {e : Env} {R : Room} {s : State} {m : MethodId} {args : Array Value} {below : List Frame} {meth : Method} {c : Code} {D : va_G} {ad : Nat → Nat → Nat} {cy : Nat → ClassId} {A : Nat → Prop} {sa : Nat → Nat} {nL cells slots : Nat} {Q : State → Prop} {σ : St} {L : List (Option Value)} {pc : Nat} {st stk : List Value} {cc : ByteArray} {own : String} {ret : Option FieldType}
/-- returns -/
theorem z_iret (C : Cx p l s m args meth c cc own nL (some .int) D ad cy A sa) {post : Int32 → St → Prop} {v : Int32} (hdg : decode cc pc = .ok (.ireturn, 1)) (h : post v σ) : Z p l e R s m args below meth c D ad cy A nL cells slots (MQ below (va_Qi post (Bw D ad cy) A) args s cells slots A) σ L pc [.int v] :=
  fun H locs ls hP hS hl => W.iret C.1 C.2.1 C.2.2.2.2.2.1 (fun t ht hW => ⟨⟨v, σ, rfl, h, by show va_P D vwCl (WL ad cy σ) t.heap; rw [ht]; exact hP⟩, hS.F ht⟩) hS.2.2 hdg C.2.2.2.2.2.2.1
theorem z_zret (C : Cx p l s m args meth c cc own nL (some .boolean) D ad cy A sa) {post : Int32 → St → Prop} {v : Int32} (hdg : decode cc pc = .ok (.ireturn, 1)) (hz : v = 0 ∨ v = 1) (h : post v σ) : Z p l e R s m args below meth c D ad cy A nL cells slots (MQ below (va_Qi post (Bw D ad cy) A) args s cells slots A) σ L pc [.int v] :=
  fun H locs ls hP hS hl => W.zret C.1 C.2.1 C.2.2.2.2.2.1 (by rcases hz with rfl | rfl <;> decide +kernel) (fun t ht hW => ⟨⟨v, σ, rfl, h, by show va_P D vwCl (WL ad cy σ) t.heap; rw [ht]; exact hP⟩, hS.F ht⟩) hS.2.2 hdg C.2.2.2.2.2.2.1
theorem z_vret (C : Cx p l s m args meth c cc own nL none D ad cy A sa) {post : St → Prop} (hdg : decode cc pc = .ok (.return_, 1)) (h : post σ) : Z p l e R s m args below meth c D ad cy A nL cells slots (MQ below (va_Qv post (Bw D ad cy) A) args s cells slots A) σ L pc [] :=
  fun H locs ls hP hS hl => W.vret C.1 C.2.1 C.2.2.2.2.2.1 (fun t ht hW => ⟨⟨σ, rfl, h, by show va_P D vwCl (WL ad cy σ) t.heap; rw [ht]; exact hP⟩, hS.F ht⟩) hS.2.2 hdg C.2.2.2.2.2.2.1
/-- the end of a method that may throw -/
theorem y_ret {Qc : Array Value → State → Outcome → State → Prop} {XC : String → State → State → Prop} {mc ms : Nat} (h1 : cells ≤ mc) (h2 : slots ≤ ms) (k : Z p l e R s m args below meth c D ad cy A nL mc ms (MQ below Qc args s mc ms A) σ L pc st) : Z p l e R s m args below meth c D ad cy A nL cells slots (vx_MQ below Qc XC args s mc ms A) σ L pc st :=
  fun H locs ls hP hS hl => W.widen h1 h2 (vx_ret (k H locs ls hP hS hl))
theorem z_widen {mc ms : Nat} (h1 : cells ≤ mc) (h2 : slots ≤ ms) (k : Z p l e R s m args below meth c D ad cy A nL mc ms Q σ L pc st) : Z p l e R s m args below meth c D ad cy A nL cells slots Q σ L pc st :=
  fun H locs ls hP hS hl => W.widen h1 h2 (k H locs ls hP hS hl)
theorem z_loc {L' : List (Option Value)} (hs : ∀ (i : Nat) (v : Value), L'[i]? = some (some v) → L[i]? = some (some v)) (k : Z p l e R s m args below meth c D ad cy A nL cells slots Q σ L' pc st) : Z p l e R s m args below meth c D ad cy A nL cells slots Q σ L pc st :=
  fun H locs ls hP hS hl => k H locs ls hP hS (hl.sub hs)
/-- the words of a callee -/
def OkV (y : MethodName) (bytes : ByteArray) (maxL : Nat) (ret : Option FieldType) (n : Nat) (Cn : String) : Prop := Cond.instanceMethod y ∈ BIG ∧ Cond.selects Cn y y ∈ BIG ∧ Cond.initialized Cn ∈ BIG ∧ Cond.code y bytes maxL ret ∈ BIG ∧ (y.cls = Cn ∧ y.cls ≠ "java/lang/invoke/MethodHandle" ∧ y.cls ≠ "java/lang/invoke/VarHandle" ∧ (parseMethodDescriptor y.desc).map (fun d => d.parameters.length) = some n)
def OkS (y : MethodName) (bytes : ByteArray) (maxL : Nat) (ret : Option FieldType) (n : Nat) : Prop := Cond.static y ∈ BIG ∧ Cond.initialized y.cls ∈ BIG ∧ Cond.code y bytes maxL ret ∈ BIG ∧ (y.cls ≠ "java/lang/invoke/MethodHandle" ∧ y.cls ≠ "java/lang/invoke/VarHandle" ∧ (parseMethodDescriptor y.desc).map (fun d => d.parameters.length) = some n)
def Rcv (ad : Nat → Nat → Nat) (cy : Nat → ClassId) (σ : St) (k i : Nat) (Cn : String) : Prop := k < 33 ∧ i < nk k ∧ ∃ (ci : Nat) (fs : List Value) (T : u_T) (N : Nat), cf ad cy k i (σ k i) = .inr (ci, fs) ∧ vwCl[ci]? = some (Cn, T, N)
def Rok (R : Room) (d maxL : Nat) : Prop := d + 6 + 1 ≤ R.frames ∧ 8 + (maxL + 11) + (40 * d + 100) ≤ R.locals
theorem rok {d d' mc maxL : Nat} (h : d < d') (hm : maxL ≤ 20) : Rok (rmD d' mc) d maxL := ⟨by show d + 6 + 1 ≤ d' + 6; omega, by show 8 + (maxL + 11) + (40 * d + 100) ≤ 40 * d' + 100; omega⟩
theorem big_good {w : Cond} (h : w ∈ BIG) : w ∈ BIG ∧ ((w.onTables && w.keeps) = true ∨ ∃ ty, w = .arrayClass ty) := ⟨h, good_of_word (List.mem_filter.mp h).2⟩
theorem okV_in {y : MethodName} {bytes : ByteArray} {maxL : Nat} {ret : Option FieldType} {n idx : Nat} {Cn : String} (h : OkV y bytes maxL ret n Cn) (hw : Cond.methodLink own idx y ∈ BIG) : GoodIn BIG (wsV own idx Cn y (Cond.code y bytes maxL ret :: BIG)) := by
  obtain ⟨h1, h2, h3, h4, -⟩ := h
  intro w hm
  rcases List.mem_append.mp hm with hm | hm
  · rcases List.mem_cons.mp hm with rfl | hm
    · exact big_good hw
    · rcases List.mem_cons.mp hm with rfl | hm
      · exact big_good h1
      · rcases List.mem_cons.mp hm with rfl | hm
        · exact big_good h2
        · rcases List.mem_cons.mp hm with rfl | hm
          · exact big_good h3
          · exact absurd hm List.not_mem_nil
  · rcases List.mem_cons.mp hm with rfl | hm
    · exact big_good h4
    · exact big_good hm
theorem okS_in {y : MethodName} {w0 : Cond} {idx : Nat} (h1 : Cond.static y ∈ BIG) (h2 : Cond.initialized y.cls ∈ BIG) (h4 : w0 ∈ BIG) (hw : Cond.methodLink own idx y ∈ BIG) : GoodIn BIG (va_wsS own idx y (w0 :: BIG)) := by
  intro w hm
  rcases List.mem_append.mp hm with hm | hm
  · rcases List.mem_cons.mp hm with rfl | hm
    · exact big_good hw
    · rcases List.mem_cons.mp hm with rfl | hm
      · exact big_good h1
      · rcases List.mem_cons.mp hm with rfl | hm
        · exact big_good h2
        · exact absurd hm List.not_mem_nil
  · rcases List.mem_cons.mp hm with rfl | hm
    · exact big_good h4
    · exact big_good hm
theorem Rcv.cell {H : Heap} {k i : Nat} {Cn : String} (h : Rcv ad cy σ k i Cn) (hK : va_K D vwCl (tysL cy) s) (hP : va_P D vwCl (WL ad cy σ) H) : ∃ cell : Cell, H[ad k i]? = some cell ∧ cell.vm.isStatics = false ∧ s.vm.findClass Cn = some cell.cls := by
  obtain ⟨hk, hi, ci, fs, T, N, hcf, hcl⟩ := h
  obtain ⟨j, hj⟩ := IX_at hk hi
  have he := WL_at (ad := ad) (cy := cy) (σ := σ) hj
  rw [hcf] at he
  exact va_recv hK hP (q := (Cn, T, N)) hcl he

theorem z_cvi (C : Cx p l s m args meth c cc own nL ret D ad cy A sa) {y : MethodName} {bytes : ByteArray} {maxL : Nat} {ret' : Option FieldType} {d : Nat} {post : Int32 → St → Prop} {k i : Nat} {Cn : String} {As : List Value} {idx : Nat} (M : MI l D ad cy A sa y bytes maxL ret' d σ (.ref (ad k i) :: As) post) (ok : OkV y bytes maxL ret' As.length Cn) (hw : Cond.methodLink own idx y ∈ BIG) (hr : Rcv ad cy σ k i Cn) (hR : Rok R d maxL) (hc : cells ≤ R.cells ∧ slots ≤ R.slots) (hst : stk = As.reverse ++ .ref (ad k i) :: st) (hcat : (st.map fun v => v.category).sum ≤ 8) (hdg : decode cc pc = .ok (.invokevirtual idx, 3)) (kk : ∀ (r : Int32) (σ' : St), post r σ' → Z p l e R s m args below meth c D ad cy A nL cells slots Q σ' L (pc + 3) (.int r :: st)) : Z p l e R s m args below meth c D ad cy A nL cells slots Q σ L pc stk := by
  intro H locs ls hP hS hl
  obtain ⟨hx, hb, hml, hown, hts, hr0, hlk, hF⟩ := C
  subst hst
  refine va_calli (va_runV (g := F0 m pc ls (As.reverse ++ .ref (ad k i) :: st)) (As := As) (rest := st) ⟨hx, hb, hml, hown, hts⟩ M (cwV As.length hts (okV_in ok hw) rfl rfl rfl ok.2.2.2.2 hR) ⟨PcW.blind, hr.cell hF.2.1 hP, fun U hU hW => ⟨rfl, hF.call hS hU hW, by rw [hU]; exact hP⟩⟩ rfl rfl hl.1 rfl (lv_room hcat) hdg hc) hS (fun q _ h => h) (fun q h => h) (fun r u t H1 locs1 ht hvm hw1 hB hz1 hk1 hS1 => ?_)
  exact kk r u hw1 H1 locs1 ls (by rw [← ht]; exact hB) hS1 hl
theorem z_csi (C : Cx p l s m args meth c cc own nL ret D ad cy A sa) {y : MethodName} {bytes : ByteArray} {maxL : Nat} {ret' : Option FieldType} {d : Nat} {post : Int32 → St → Prop} {As : List Value} {idx : Nat} (M : MI l D ad cy A sa y bytes maxL ret' d σ As post) (ok : OkS y bytes maxL ret' As.length) (hw : Cond.methodLink own idx y ∈ BIG) (hR : Rok R d maxL) (hc : cells ≤ R.cells ∧ slots ≤ R.slots) (hst : stk = As.reverse ++ st) (hcat : (st.map fun v => v.category).sum ≤ 8) (hdg : decode cc pc = .ok (.invokestatic idx, 3)) (kk : ∀ (r : Int32) (σ' : St), post r σ' → Z p l e R s m args below meth c D ad cy A nL cells slots Q σ' L (pc + 3) (.int r :: st)) : Z p l e R s m args below meth c D ad cy A nL cells slots Q σ L pc stk := by
  intro H locs ls hP hS hl
  obtain ⟨hx, hb, hml, hown, hts, hr0, hlk, hF⟩ := C
  subst hst
  refine va_calli (va_runS (g := F0 m pc ls (As.reverse ++ st)) (As := As) (rest := st) ⟨hx, hb, hml, hown, hts⟩ M (va_cwS As.length hts (okS_in ok.1 ok.2.1 ok.2.2.1 hw) rfl rfl rfl ok.2.2.2 hR) ⟨PcW.blind, fun U hU hW => ⟨rfl, hF.call hS hU hW, by rw [hU]; exact hP⟩⟩ rfl rfl hl.1 rfl (lv_room hcat) hdg hc) hS (fun q _ h => h) (fun q h => h) (fun r u t H1 locs1 ht hvm hw1 hB hz1 hk1 hS1 => ?_)
  exact kk r u hw1 H1 locs1 ls (by rw [← ht]; exact hB) hS1 hl
theorem z_cvv (C : Cx p l s m args meth c cc own nL ret D ad cy A sa) {y : MethodName} {bytes : ByteArray} {maxL : Nat} {ret' : Option FieldType} {d : Nat} {post : St → Prop} {k i : Nat} {Cn : String} {As : List Value} {idx : Nat} (M : MV l D ad cy A sa y bytes maxL ret' d σ (.ref (ad k i) :: As) post) (ok : OkV y bytes maxL ret' As.length Cn) (hw : Cond.methodLink own idx y ∈ BIG) (hr : Rcv ad cy σ k i Cn) (hR : Rok R d maxL) (hc : cells ≤ R.cells ∧ slots ≤ R.slots) (hst : stk = As.reverse ++ .ref (ad k i) :: st) (hcat : (st.map fun v => v.category).sum ≤ 8) (hdg : decode cc pc = .ok (.invokevirtual idx, 3)) (kk : ∀ (σ' : St), post σ' → Z p l e R s m args below meth c D ad cy A nL cells slots Q σ' L (pc + 3) st) : Z p l e R s m args below meth c D ad cy A nL cells slots Q σ L pc stk := by
  intro H locs ls hP hS hl
  obtain ⟨hx, hb, hml, hown, hts, hr0, hlk, hF⟩ := C
  subst hst
  refine va_callv (va_runV (g := F0 m pc ls (As.reverse ++ .ref (ad k i) :: st)) (As := As) (rest := st) ⟨hx, hb, hml, hown, hts⟩ M (cwV As.length hts (okV_in ok hw) rfl rfl rfl ok.2.2.2.2 hR) ⟨PcW.blind, hr.cell hF.2.1 hP, fun U hU hW => ⟨rfl, hF.call hS hU hW, by rw [hU]; exact hP⟩⟩ rfl rfl hl.1 rfl (lv_room hcat) hdg hc) hS (fun q _ h => h) (fun q h => h) (fun u t H1 locs1 ht hvm hw1 hB hz1 hk1 hS1 => ?_)
  exact kk u hw1 H1 locs1 ls (by rw [← ht]; exact hB) hS1 hl
theorem z_csv (C : Cx p l s m args meth c cc own nL ret D ad cy A sa) {y : MethodName} {bytes : ByteArray} {maxL : Nat} {ret' : Option FieldType} {d : Nat} {post : St → Prop} {As : List Value} {idx : Nat} (M : MV l D ad cy A sa y bytes maxL ret' d σ As post) (ok : OkS y bytes maxL ret' As.length) (hw : Cond.methodLink own idx y ∈ BIG) (hR : Rok R d maxL) (hc : cells ≤ R.cells ∧ slots ≤ R.slots) (hst : stk = As.reverse ++ st) (hcat : (st.map fun v => v.category).sum ≤ 8) (hdg : decode cc pc = .ok (.invokestatic idx, 3)) (kk : ∀ (σ' : St), post σ' → Z p l e R s m args below meth c D ad cy A nL cells slots Q σ' L (pc + 3) st) : Z p l e R s m args below meth c D ad cy A nL cells slots Q σ L pc stk := by
  intro H locs ls hP hS hl
  obtain ⟨hx, hb, hml, hown, hts, hr0, hlk, hF⟩ := C
  subst hst
  refine va_callv (va_runS (g := F0 m pc ls (As.reverse ++ st)) (As := As) (rest := st) ⟨hx, hb, hml, hown, hts⟩ M (va_cwS As.length hts (okS_in ok.1 ok.2.1 ok.2.2.1 hw) rfl rfl rfl ok.2.2.2 hR) ⟨PcW.blind, fun U hU hW => ⟨rfl, hF.call hS hU hW, by rw [hU]; exact hP⟩⟩ rfl rfl hl.1 rfl (lv_room hcat) hdg hc) hS (fun q _ h => h) (fun q h => h) (fun u t H1 locs1 ht hvm hw1 hB hz1 hk1 hS1 => ?_)
  exact kk u hw1 H1 locs1 ls (by rw [← ht]; exact hB) hS1 hl
theorem y_cvi (C : Cx p l s m args meth c cc own nL ret D ad cy A sa) {y : MethodName} {bytes : ByteArray} {maxL : Nat} {ret' : Option FieldType} {d : Nat} {mc : Nat} {post : Int32 → St → Prop} {px : String → St → Prop} {k i : Nat} {Cn : String} {As : List Value} {idx : Nat} (M : XI l D ad cy A sa y bytes maxL ret' d mc σ (.ref (ad k i) :: As) post px) (ok : OkV y bytes maxL ret' As.length Cn) (hw : Cond.methodLink own idx y ∈ BIG) (hr : Rcv ad cy σ k i Cn) (hR : Rok R d maxL) (hc : cells + mc ≤ R.cells ∧ slots + 6 * mc ≤ R.slots) (hst : stk = As.reverse ++ .ref (ad k i) :: st) (hcat : (st.map fun v => v.category).sum ≤ 8) (hdg : decode cc pc = .ok (.invokevirtual idx, 3)) (kx : ∀ (E : String) (ce : Cell) (q9 : Addr) (u : St) (H1 : Heap) (locs1 : List Loc) (ls : Array Slot), px E u → va_P D vwCl (WL ad cy u) H1 → va_S A s.heap H1 locs1 → lh ls nL L → H1[q9]? = some ce → ce.vm = .none → s.vm.findClass E = some ce.cls → vx_W p l e R s m args below meth c H1 locs1 (cells + mc) (slots + 6 * mc) Q (F0 m pc ls st) q9) (kk : ∀ (r : Int32) (σ' : St), post r σ' → Z p l e R s m args below meth c D ad cy A nL (cells + mc) (slots + 6 * mc) Q σ' L (pc + 3) (.int r :: st)) : Z p l e R s m args below meth c D ad cy A nL cells slots Q σ L pc stk := by
  intro H locs ls hP hS hl
  obtain ⟨hx, hb, hml, hown, hts, hr0, hlk, hF⟩ := C
  subst hst
  refine vx_calli (vx_runV (g := F0 m pc ls (As.reverse ++ .ref (ad k i) :: st)) (As := As) (rest := st) ⟨hx, hb, hml, hown, hts⟩ M (cwV As.length hts (okV_in ok hw) rfl rfl rfl ok.2.2.2.2 hR) ⟨PcW.blind, hr.cell hF.2.1 hP, fun U hU hW => ⟨rfl, hF.call hS hU hW, by rw [hU]; exact hP⟩⟩ rfl rfl hl.1 rfl (lv_room hcat) hdg hc) hS (fun q _ h => h) (fun q h => h) (fun q _ h => h) (fun E ce q9 u t H1 locs1 ht hvm _ hB hz1 hk1 hS1 h1 h2 h3 => ?_) (fun r u t H1 locs1 ht hvm hw1 hB hz1 hk1 hS1 => ?_)
  · exact kx E ce q9 u H1 locs1 ls hB.1 (by rw [← ht]; exact hB.2) hS1 hl h1 h2 h3
  · exact kk r u hw1 H1 locs1 ls (by rw [← ht]; exact hB) hS1 hl
theorem y_csi (C : Cx p l s m args meth c cc own nL ret D ad cy A sa) {y : MethodName} {bytes : ByteArray} {maxL : Nat} {ret' : Option FieldType} {d : Nat} {mc : Nat} {post : Int32 → St → Prop} {px : String → St → Prop} {As : List Value} {idx : Nat} (M : XI l D ad cy A sa y bytes maxL ret' d mc σ As post px) (ok : OkS y bytes maxL ret' As.length) (hw : Cond.methodLink own idx y ∈ BIG) (hR : Rok R d maxL) (hc : cells + mc ≤ R.cells ∧ slots + 6 * mc ≤ R.slots) (hst : stk = As.reverse ++ st) (hcat : (st.map fun v => v.category).sum ≤ 8) (hdg : decode cc pc = .ok (.invokestatic idx, 3)) (kx : ∀ (E : String) (ce : Cell) (q9 : Addr) (u : St) (H1 : Heap) (locs1 : List Loc) (ls : Array Slot), px E u → va_P D vwCl (WL ad cy u) H1 → va_S A s.heap H1 locs1 → lh ls nL L → H1[q9]? = some ce → ce.vm = .none → s.vm.findClass E = some ce.cls → vx_W p l e R s m args below meth c H1 locs1 (cells + mc) (slots + 6 * mc) Q (F0 m pc ls st) q9) (kk : ∀ (r : Int32) (σ' : St), post r σ' → Z p l e R s m args below meth c D ad cy A nL (cells + mc) (slots + 6 * mc) Q σ' L (pc + 3) (.int r :: st)) : Z p l e R s m args below meth c D ad cy A nL cells slots Q σ L pc stk := by
  intro H locs ls hP hS hl
  obtain ⟨hx, hb, hml, hown, hts, hr0, hlk, hF⟩ := C
  subst hst
  refine vx_calli (vx_runS (g := F0 m pc ls (As.reverse ++ st)) (As := As) (rest := st) ⟨hx, hb, hml, hown, hts⟩ M (va_cwS As.length hts (okS_in ok.1 ok.2.1 ok.2.2.1 hw) rfl rfl rfl ok.2.2.2 hR) ⟨PcW.blind, fun U hU hW => ⟨rfl, hF.call hS hU hW, by rw [hU]; exact hP⟩⟩ rfl rfl hl.1 rfl (lv_room hcat) hdg hc) hS (fun q _ h => h) (fun q h => h) (fun q _ h => h) (fun E ce q9 u t H1 locs1 ht hvm _ hB hz1 hk1 hS1 h1 h2 h3 => ?_) (fun r u t H1 locs1 ht hvm hw1 hB hz1 hk1 hS1 => ?_)
  · exact kx E ce q9 u H1 locs1 ls hB.1 (by rw [← ht]; exact hB.2) hS1 hl h1 h2 h3
  · exact kk r u hw1 H1 locs1 ls (by rw [← ht]; exact hB) hS1 hl
theorem y_cvv (C : Cx p l s m args meth c cc own nL ret D ad cy A sa) {y : MethodName} {bytes : ByteArray} {maxL : Nat} {ret' : Option FieldType} {d : Nat} {mc : Nat} {post : St → Prop} {px : String → St → Prop} {k i : Nat} {Cn : String} {As : List Value} {idx : Nat} (M : XV l D ad cy A sa y bytes maxL ret' d mc σ (.ref (ad k i) :: As) post px) (ok : OkV y bytes maxL ret' As.length Cn) (hw : Cond.methodLink own idx y ∈ BIG) (hr : Rcv ad cy σ k i Cn) (hR : Rok R d maxL) (hc : cells + mc ≤ R.cells ∧ slots + 6 * mc ≤ R.slots) (hst : stk = As.reverse ++ .ref (ad k i) :: st) (hcat : (st.map fun v => v.category).sum ≤ 8) (hdg : decode cc pc = .ok (.invokevirtual idx, 3)) (kx : ∀ (E : String) (ce : Cell) (q9 : Addr) (u : St) (H1 : Heap) (locs1 : List Loc) (ls : Array Slot), px E u → va_P D vwCl (WL ad cy u) H1 → va_S A s.heap H1 locs1 → lh ls nL L → H1[q9]? = some ce → ce.vm = .none → s.vm.findClass E = some ce.cls → vx_W p l e R s m args below meth c H1 locs1 (cells + mc) (slots + 6 * mc) Q (F0 m pc ls st) q9) (kk : ∀ (σ' : St), post σ' → Z p l e R s m args below meth c D ad cy A nL (cells + mc) (slots + 6 * mc) Q σ' L (pc + 3) st) : Z p l e R s m args below meth c D ad cy A nL cells slots Q σ L pc stk := by
  intro H locs ls hP hS hl
  obtain ⟨hx, hb, hml, hown, hts, hr0, hlk, hF⟩ := C
  subst hst
  refine vx_callv (vx_runV (g := F0 m pc ls (As.reverse ++ .ref (ad k i) :: st)) (As := As) (rest := st) ⟨hx, hb, hml, hown, hts⟩ M (cwV As.length hts (okV_in ok hw) rfl rfl rfl ok.2.2.2.2 hR) ⟨PcW.blind, hr.cell hF.2.1 hP, fun U hU hW => ⟨rfl, hF.call hS hU hW, by rw [hU]; exact hP⟩⟩ rfl rfl hl.1 rfl (lv_room hcat) hdg hc) hS (fun q _ h => h) (fun q h => h) (fun q _ h => h) (fun E ce q9 u t H1 locs1 ht hvm _ hB hz1 hk1 hS1 h1 h2 h3 => ?_) (fun u t H1 locs1 ht hvm hw1 hB hz1 hk1 hS1 => ?_)
  · exact kx E ce q9 u H1 locs1 ls hB.1 (by rw [← ht]; exact hB.2) hS1 hl h1 h2 h3
  · exact kk u hw1 H1 locs1 ls (by rw [← ht]; exact hB) hS1 hl
theorem y_csv (C : Cx p l s m args meth c cc own nL ret D ad cy A sa) {y : MethodName} {bytes : ByteArray} {maxL : Nat} {ret' : Option FieldType} {d : Nat} {mc : Nat} {post : St → Prop} {px : String → St → Prop} {As : List Value} {idx : Nat} (M : XV l D ad cy A sa y bytes maxL ret' d mc σ As post px) (ok : OkS y bytes maxL ret' As.length) (hw : Cond.methodLink own idx y ∈ BIG) (hR : Rok R d maxL) (hc : cells + mc ≤ R.cells ∧ slots + 6 * mc ≤ R.slots) (hst : stk = As.reverse ++ st) (hcat : (st.map fun v => v.category).sum ≤ 8) (hdg : decode cc pc = .ok (.invokestatic idx, 3)) (kx : ∀ (E : String) (ce : Cell) (q9 : Addr) (u : St) (H1 : Heap) (locs1 : List Loc) (ls : Array Slot), px E u → va_P D vwCl (WL ad cy u) H1 → va_S A s.heap H1 locs1 → lh ls nL L → H1[q9]? = some ce → ce.vm = .none → s.vm.findClass E = some ce.cls → vx_W p l e R s m args below meth c H1 locs1 (cells + mc) (slots + 6 * mc) Q (F0 m pc ls st) q9) (kk : ∀ (σ' : St), post σ' → Z p l e R s m args below meth c D ad cy A nL (cells + mc) (slots + 6 * mc) Q σ' L (pc + 3) st) : Z p l e R s m args below meth c D ad cy A nL cells slots Q σ L pc stk := by
  intro H locs ls hP hS hl
  obtain ⟨hx, hb, hml, hown, hts, hr0, hlk, hF⟩ := C
  subst hst
  refine vx_callv (vx_runS (g := F0 m pc ls (As.reverse ++ st)) (As := As) (rest := st) ⟨hx, hb, hml, hown, hts⟩ M (va_cwS As.length hts (okS_in ok.1 ok.2.1 ok.2.2.1 hw) rfl rfl rfl ok.2.2.2 hR) ⟨PcW.blind, fun U hU hW => ⟨rfl, hF.call hS hU hW, by rw [hU]; exact hP⟩⟩ rfl rfl hl.1 rfl (lv_room hcat) hdg hc) hS (fun q _ h => h) (fun q h => h) (fun q _ h => h) (fun E ce q9 u t H1 locs1 ht hvm _ hB hz1 hk1 hS1 h1 h2 h3 => ?_) (fun u t H1 locs1 ht hvm hw1 hB hz1 hk1 hS1 => ?_)
  · exact kx E ce q9 u H1 locs1 ls hB.1 (by rw [← ht]; exact hB.2) hS1 hl h1 h2 h3
  · exact kk u hw1 H1 locs1 ls (by rw [← ht]; exact hB) hS1 hl
theorem x_on (C : Cx p l s m args meth c cc own nL ret D ad cy A sa) (hex : ∀ x ∈ c.exceptionTable.toList, False) {Qc : Array Value → State → Outcome → State → Prop} {px px' : String → St → Prop} {mc' c1 s1 : Nat} (h1 : c1 ≤ mc') (h2 : s1 ≤ 6 * mc') (hpx : ∀ E u, px E u → px' E u) (E : String) (ce : Cell) (q9 : Addr) (u : St) (H1 : Heap) (locs1 : List Loc) (ls : Array Slot) (hp : px E u) (hP : va_P D vwCl (WL ad cy u) H1) (hS : va_S A s.heap H1 locs1) (_ : lh ls nL L) (g1 : H1[q9]? = some ce) (g2 : ce.vm = .none) (g3 : s.vm.findClass E = some ce.cls) : vx_W p l e R s m args below meth c H1 locs1 c1 s1 (vx_MQ below Qc (XW D ad cy A px') args s mc' (6 * mc') A) (F0 m pc ls st) q9 :=
  vx_out (fun x hx => absurd (hex x hx) id) C.2.2.2.2.2.2.1 g1 g2 g3 (fun t ht hvm => ⟨u, trivial, ⟨hpx E u hp, by show va_P D vwCl (WL ad cy u) t.heap; rw [ht]; exact hP⟩, hS.F ht⟩) hS.2.2 h1 h2
end ZC
theorem rc_0 {ad : Nat → Nat → Nat} {cy : Nat → ClassId} {σ : St} : Rcv ad cy σ 0 0 "FretSchool" := ⟨by decide, by decide, 5, _, _, _, rfl, rfl⟩
theorem rc_6 {ad : Nat → Nat → Nat} {cy : Nat → ClassId} {σ : St} : Rcv ad cy σ 6 0 "FretSchool$Hand" := ⟨by decide, by decide, 0, _, _, _, rfl, rfl⟩
theorem rc_11 {ad : Nat → Nat → Nat} {cy : Nat → ClassId} {σ : St} {i : Nat} (hi : i < 8) : Rcv ad cy σ 11 i "FretSchool$Piece" := ⟨by decide, hi, 3, _, _, _, rfl, rfl⟩
theorem rc_13 {ad : Nat → Nat → Nat} {cy : Nat → ClassId} {σ : St} {i : Nat} (hi : i < 8) : Rcv ad cy σ 13 i "FretSchool$Instrument" := ⟨by decide, hi, 1, _, _, _, rfl, rfl⟩
theorem rc_15 {ad : Nat → Nat → Nat} {cy : Nat → ClassId} {σ : St} {i : Nat} (hi : i < 5) : Rcv ad cy σ 15 i "FretSchool$Pupil" := ⟨by decide, hi, 4, _, _, _, rfl, rfl⟩
theorem rc_16 {ad : Nat → Nat → Nat} {cy : Nat → ClassId} {σ : St} {i : Nat} (hi : i < 20) : Rcv ad cy σ 16 i "FretSchool$Order" := ⟨by decide, hi, 2, _, _, _, rfl, rfl⟩
theorem rc_17 {ad : Nat → Nat → Nat} {cy : Nat → ClassId} {σ : St} : Rcv ad cy σ 17 0 "FretSchoolModel" := ⟨by decide, by decide, 6, _, _, _, rfl, rfl⟩
theorem okX5_instruments : OkV yX5_instruments cX5_instruments 1 (some .int) 0 "FretSchool" := ⟨wd189, wd190, wd30, wd191, by decide +kernel⟩
theorem okX5_today : OkV yX5_today cX5_today 1 (some .int) 0 "FretSchool" := ⟨wd193, wd194, wd30, wd195, by decide +kernel⟩
theorem okX5_begin : OkV yX5_begin cX5_begin 2 (some .int) 0 "FretSchool" := ⟨wd201, wd202, wd30, wd203, by decide +kernel⟩
theorem okX5_addNote : OkV yX5_addNote cX5_addNote 4 (some .int) 2 "FretSchool" := ⟨wd278, wd279, wd30, wd280, by decide +kernel⟩
theorem okX5_needPiece : OkV yX5_needPiece cX5_needPiece 2 (none : Option Jvm.ClassFile.FieldType) 1 "FretSchool" := ⟨wd283, wd1, wd30, wd284, by decide +kernel⟩
theorem okX5_needRange : OkS yX5_needRange cX5_needRange 3 (none : Option Jvm.ClassFile.FieldType) 3 := ⟨wd302, wd30, wd303, by decide +kernel⟩
theorem okX3_isFull : OkV yX3_isFull cX3_isFull 1 (some .boolean) 0 "FretSchool$Piece" := ⟨wd321, wd322, wd31, wd323, by decide +kernel⟩
theorem okX3_append : OkV yX3_append cX3_append 2 (none : Option Jvm.ClassFile.FieldType) 1 "FretSchool$Piece" := ⟨wd326, wd327, wd31, wd328, by decide +kernel⟩
theorem okX5_transpose : OkV yX5_transpose cX5_transpose 4 (none : Option Jvm.ClassFile.FieldType) 2 "FretSchool" := ⟨wd334, wd335, wd30, wd336, by decide +kernel⟩
theorem okX3_canMove : OkV yX3_canMove cX3_canMove 4 (some .boolean) 1 "FretSchool$Piece" := ⟨wd338, wd339, wd31, wd340, by decide +kernel⟩
theorem okX3_move : OkV yX3_move cX3_move 3 (none : Option Jvm.ClassFile.FieldType) 1 "FretSchool$Piece" := ⟨wd343, wd344, wd31, wd345, by decide +kernel⟩
theorem okX5_pitch : OkV yX5_pitch cX5_pitch 3 (some .int) 2 "FretSchool" := ⟨wd350, wd351, wd30, wd352, by decide +kernel⟩
theorem okX5_needNote : OkV yX5_needNote cX5_needNote 3 (none : Option Jvm.ClassFile.FieldType) 2 "FretSchool" := ⟨wd355, wd2, wd30, wd356, by decide +kernel⟩
theorem okX5_tune : OkV yX5_tune cX5_tune 6 (some .int) 3 "FretSchool" := ⟨wd362, wd363, wd30, wd364, by decide +kernel⟩
theorem okX5_needInstrument : OkV yX5_needInstrument cX5_needInstrument 2 (none : Option Jvm.ClassFile.FieldType) 1 "FretSchool" := ⟨wd367, wd3, wd30, wd368, by decide +kernel⟩
theorem okX5_owner : OkV yX5_owner cX5_owner 2 (some .int) 1 "FretSchool" := ⟨wd374, wd375, wd30, wd376, by decide +kernel⟩
theorem okX5_shifts : OkV yX5_shifts cX5_shifts 3 (some .int) 2 "FretSchool" := ⟨wd381, wd382, wd30, wd383, by decide +kernel⟩
theorem okX5_findBest : OkV yX5_findBest cX5_findBest 3 (some .boolean) 2 "FretSchool" := ⟨wd386, wd4, wd30, wd387, by decide +kernel⟩
theorem okX0_placeBest : OkV yX0_placeBest cX0_placeBest 4 (some .boolean) 2 "FretSchool$Hand" := ⟨wd389, wd390, wd35, wd391, by decide +kernel⟩
theorem okX0_feelReach : OkV yX0_feelReach cX0_feelReach 6 (none : Option Jvm.ClassFile.FieldType) 2 "FretSchool$Hand" := ⟨wd394, wd5, wd35, wd395, by decide +kernel⟩
theorem okX1_highestPosition : OkV yX1_highestPosition cX1_highestPosition 1 (some .int) 0 "FretSchool$Instrument" := ⟨wd397, wd398, wd32, wd399, by decide +kernel⟩
theorem okX1_lowestString : OkV yX1_lowestString cX1_lowestString 5 (some .int) 2 "FretSchool$Instrument" := ⟨wd401, wd402, wd32, wd403, by decide +kernel⟩
theorem okX0_measureRest : OkV yX0_measureRest cX0_measureRest 5 (none : Option Jvm.ClassFile.FieldType) 2 "FretSchool$Hand" := ⟨wd406, wd6, wd35, wd407, by decide +kernel⟩
theorem okX0_nearest : OkV yX0_nearest cX0_nearest 7 (some .int) 2 "FretSchool$Hand" := ⟨wd410, wd7, wd35, wd411, by decide +kernel⟩
theorem okX0_shift : OkS yX0_shift cX0_shift 2 (some .int) 2 := ⟨wd414, wd35, wd415, by decide +kernel⟩
theorem okX0_canReach : OkS yX0_canReach cX0_canReach 2 (some .boolean) 2 := ⟨wd420, wd35, wd421, by decide +kernel⟩
theorem okX0_chooseRow : OkV yX0_chooseRow cX0_chooseRow 6 (some .boolean) 1 "FretSchool$Hand" := ⟨wd424, wd8, wd35, wd425, by decide +kernel⟩
theorem okX5_shiftsByAll : OkV yX5_shiftsByAll cX5_shiftsByAll 3 (some .int) 2 "FretSchool" := ⟨wd430, wd431, wd30, wd432, by decide +kernel⟩
theorem okX0_leastByAll : OkV yX0_leastByAll cX0_leastByAll 4 (some .int) 2 "FretSchool$Hand" := ⟨wd435, wd436, wd35, wd437, by decide +kernel⟩
theorem okX0_leastFrom : OkS yX0_leastFrom cX0_leastFrom 7 (some .int) 4 := ⟨wd439, wd35, wd440, by decide +kernel⟩
theorem okX5_hardest : OkV yX5_hardest cX5_hardest 3 (some .int) 2 "FretSchool" := ⟨wd445, wd446, wd30, wd447, by decide +kernel⟩
theorem okX5_position : OkV yX5_position cX5_position 4 (some .int) 3 "FretSchool" := ⟨wd452, wd453, wd30, wd454, by decide +kernel⟩
theorem okX5_string : OkV yX5_string cX5_string 4 (some .int) 3 "FretSchool" := ⟨wd459, wd460, wd30, wd461, by decide +kernel⟩
theorem okX5_learn : OkV yX5_learn cX5_learn 6 (some .int) 3 "FretSchool" := ⟨wd467, wd468, wd30, wd469, by decide +kernel⟩
theorem okX5_needPupil : OkS yX5_needPupil cX5_needPupil 1 (none : Option Jvm.ClassFile.FieldType) 1 := ⟨wd471, wd30, wd472, by decide +kernel⟩
theorem okX4_knows : OkV yX4_knows cX4_knows 2 (some .boolean) 1 "FretSchool$Pupil" := ⟨wd474, wd475, wd33, wd476, by decide +kernel⟩
theorem okX5_learnableShift : OkV yX5_learnableShift cX5_learnableShift 5 (some .int) 3 "FretSchool" := ⟨wd480, wd9, wd30, wd481, by decide +kernel⟩
theorem okX4_takeIn : OkV yX4_takeIn cX4_takeIn 3 (none : Option Jvm.ClassFile.FieldType) 2 "FretSchool$Pupil" := ⟨wd484, wd485, wd33, wd486, by decide +kernel⟩
theorem okX5_level : OkV yX5_level cX5_level 2 (some .int) 1 "FretSchool" := ⟨wd491, wd492, wd30, wd493, by decide +kernel⟩
theorem okX5_known : OkV yX5_known cX5_known 2 (some .int) 1 "FretSchool" := ⟨wd498, wd499, wd30, wd500, by decide +kernel⟩
theorem okX5_next : OkV yX5_next cX5_next 6 (some .int) 1 "FretSchool" := ⟨wd505, wd506, wd30, wd507, by decide +kernel⟩
theorem okX5_easiestShift : OkV yX5_easiestShift cX5_easiestShift 6 (some .int) 2 "FretSchool" := ⟨wd510, wd10, wd30, wd511, by decide +kernel⟩
theorem okX5_addWood : OkV yX5_addWood cX5_addWood 3 (some .int) 2 "FretSchool" := ⟨wd516, wd517, wd30, wd518, by decide +kernel⟩
theorem okX5_order : OkV yX5_order cX5_order 5 (some .int) 3 "FretSchool" := ⟨wd523, wd524, wd30, wd525, by decide +kernel⟩
theorem okX5_ordersAtWork : OkV yX5_ordersAtWork cX5_ordersAtWork 3 (some .int) 0 "FretSchool" := ⟨wd529, wd11, wd30, wd530, by decide +kernel⟩
theorem okX2_isReady : OkV yX2_isReady cX2_isReady 2 (some .boolean) 1 "FretSchool$Order" := ⟨wd532, wd533, wd34, wd534, by decide +kernel⟩
theorem okX2_place : OkV yX2_place cX2_place 4 (none : Option Jvm.ClassFile.FieldType) 3 "FretSchool$Order" := ⟨wd538, wd539, wd34, wd540, by decide +kernel⟩
theorem okX5_ready : OkV yX5_ready cX5_ready 2 (some .int) 1 "FretSchool" := ⟨wd545, wd546, wd30, wd547, by decide +kernel⟩
theorem okX5_needOrder : OkV yX5_needOrder cX5_needOrder 2 (none : Option Jvm.ClassFile.FieldType) 1 "FretSchool" := ⟨wd550, wd12, wd30, wd551, by decide +kernel⟩
theorem okX5_fetch : OkV yX5_fetch cX5_fetch 8 (some .int) 5 "FretSchool" := ⟨wd557, wd558, wd30, wd559, by decide +kernel⟩
theorem okX1_build : OkV yX1_build cX1_build 3 (none : Option Jvm.ClassFile.FieldType) 2 "FretSchool$Instrument" := ⟨wd564, wd565, wd32, wd566, by decide +kernel⟩
theorem okX1_tuneAll : OkV yX1_tuneAll cX1_tuneAll 5 (none : Option Jvm.ClassFile.FieldType) 4 "FretSchool$Instrument" := ⟨wd568, wd569, wd32, wd570, by decide +kernel⟩
theorem okX5_pass : OkV yX5_pass cX5_pass 2 (some .int) 1 "FretSchool" := ⟨wd575, wd576, wd30, wd577, by decide +kernel⟩
theorem okX6_thrown : OkV yX6_thrown cX6_thrown 1 (some .int) 0 "FretSchoolModel" := ⟨wd645, wd646, wd36, wd647, by decide +kernel⟩
theorem okX6_begin : OkV yX6_begin cX6_begin 1 (some .int) 0 "FretSchoolModel" := ⟨wd649, wd650, wd36, wd651, by decide +kernel⟩
theorem okX6_goes : OkV yX6_goes cX6_goes 4 (some .boolean) 3 "FretSchoolModel" := ⟨wd654, wd13, wd36, wd655, by decide +kernel⟩
theorem okX6_addNote : OkV yX6_addNote cX6_addNote 4 (some .int) 2 "FretSchoolModel" := ⟨wd657, wd658, wd36, wd659, by decide +kernel⟩
theorem okX6_isPiece : OkV yX6_isPiece cX6_isPiece 2 (some .boolean) 1 "FretSchoolModel" := ⟨wd662, wd14, wd36, wd663, by decide +kernel⟩
theorem okX6_in : OkS yX6_in cX6_in 3 (some .boolean) 3 := ⟨wd665, wd36, wd666, by decide +kernel⟩
theorem okX6_transpose : OkV yX6_transpose cX6_transpose 7 (none : Option Jvm.ClassFile.FieldType) 2 "FretSchoolModel" := ⟨wd668, wd669, wd36, wd670, by decide +kernel⟩
theorem okX6_pitch : OkV yX6_pitch cX6_pitch 3 (some .int) 2 "FretSchoolModel" := ⟨wd672, wd673, wd36, wd674, by decide +kernel⟩
theorem okX6_isNote : OkV yX6_isNote cX6_isNote 3 (some .boolean) 2 "FretSchoolModel" := ⟨wd677, wd15, wd36, wd678, by decide +kernel⟩
theorem okX6_tune : OkV yX6_tune cX6_tune 6 (some .int) 3 "FretSchoolModel" := ⟨wd680, wd681, wd36, wd682, by decide +kernel⟩
theorem okX6_isInstrument : OkV yX6_isInstrument cX6_isInstrument 2 (some .boolean) 1 "FretSchoolModel" := ⟨wd685, wd16, wd36, wd686, by decide +kernel⟩
theorem okX6_owner : OkV yX6_owner cX6_owner 2 (some .int) 1 "FretSchoolModel" := ⟨wd688, wd689, wd36, wd690, by decide +kernel⟩
theorem okX6_instruments : OkV yX6_instruments cX6_instruments 1 (some .int) 0 "FretSchoolModel" := ⟨wd692, wd693, wd36, wd694, by decide +kernel⟩
theorem okX6_told : OkV yX6_told cX6_told 2 (some .int) 1 "FretSchoolModel" := ⟨wd697, wd17, wd36, wd698, by decide +kernel⟩
theorem okX6_shifts : OkV yX6_shifts cX6_shifts 3 (some .int) 2 "FretSchoolModel" := ⟨wd700, wd701, wd36, wd702, by decide +kernel⟩
theorem okX6_asks : OkV yX6_asks cX6_asks 3 (some .boolean) 2 "FretSchoolModel" := ⟨wd705, wd18, wd36, wd706, by decide +kernel⟩
theorem okX6_finds : OkV yX6_finds cX6_finds 7 (some .int) 2 "FretSchoolModel" := ⟨wd709, wd19, wd36, wd710, by decide +kernel⟩
theorem okX6_from : OkV yX6_from cX6_from 8 (some .int) 4 "FretSchoolModel" := ⟨wd713, wd20, wd36, wd714, by decide +kernel⟩
theorem okX6_plays : OkV yX6_plays cX6_plays 7 (some .boolean) 4 "FretSchoolModel" := ⟨wd717, wd21, wd36, wd718, by decide +kernel⟩
theorem okX6_lies : OkV yX6_lies cX6_lies 7 (some .boolean) 5 "FretSchoolModel" := ⟨wd721, wd22, wd36, wd722, by decide +kernel⟩
theorem okX6_apart : OkS yX6_apart cX6_apart 2 (some .int) 2 := ⟨wd725, wd36, wd726, by decide +kernel⟩
theorem okX6_shiftsByAll : OkV yX6_shiftsByAll cX6_shiftsByAll 4 (some .int) 2 "FretSchoolModel" := ⟨wd728, wd729, wd36, wd730, by decide +kernel⟩
theorem okX6_hardest : OkV yX6_hardest cX6_hardest 3 (some .int) 2 "FretSchoolModel" := ⟨wd732, wd733, wd36, wd734, by decide +kernel⟩
theorem okX6_hardestOf : OkV yX6_hardestOf cX6_hardestOf 6 (some .int) 2 "FretSchoolModel" := ⟨wd737, wd23, wd36, wd738, by decide +kernel⟩
theorem okX6_position : OkV yX6_position cX6_position 4 (some .int) 3 "FretSchoolModel" := ⟨wd740, wd741, wd36, wd742, by decide +kernel⟩
theorem okX6_asksNote : OkV yX6_asksNote cX6_asksNote 4 (some .boolean) 3 "FretSchoolModel" := ⟨wd745, wd24, wd36, wd746, by decide +kernel⟩
theorem okX6_string : OkV yX6_string cX6_string 6 (some .int) 3 "FretSchoolModel" := ⟨wd748, wd749, wd36, wd750, by decide +kernel⟩
theorem okX6_learn : OkV yX6_learn cX6_learn 6 (some .int) 3 "FretSchoolModel" := ⟨wd752, wd753, wd36, wd754, by decide +kernel⟩
theorem okX6_isPupil : OkS yX6_isPupil cX6_isPupil 1 (some .boolean) 1 := ⟨wd756, wd36, wd757, by decide +kernel⟩
theorem okX6_canLearn : OkV yX6_canLearn cX6_canLearn 5 (some .boolean) 3 "FretSchoolModel" := ⟨wd760, wd25, wd36, wd761, by decide +kernel⟩
theorem okX6_isKnown : OkV yX6_isKnown cX6_isKnown 3 (some .boolean) 2 "FretSchoolModel" := ⟨wd764, wd26, wd36, wd765, by decide +kernel⟩
theorem okX6_level : OkV yX6_level cX6_level 2 (some .int) 1 "FretSchoolModel" := ⟨wd767, wd768, wd36, wd769, by decide +kernel⟩
theorem okX6_known : OkV yX6_known cX6_known 2 (some .int) 1 "FretSchoolModel" := ⟨wd771, wd772, wd36, wd773, by decide +kernel⟩
theorem okX6_next : OkV yX6_next cX6_next 6 (some .int) 1 "FretSchoolModel" := ⟨wd775, wd776, wd36, wd777, by decide +kernel⟩
theorem okX6_addWood : OkV yX6_addWood cX6_addWood 3 (some .int) 2 "FretSchoolModel" := ⟨wd779, wd780, wd36, wd781, by decide +kernel⟩
theorem okX6_order : OkV yX6_order cX6_order 5 (some .int) 3 "FretSchoolModel" := ⟨wd783, wd784, wd36, wd785, by decide +kernel⟩
theorem okX6_atWork : OkV yX6_atWork cX6_atWork 3 (some .int) 0 "FretSchoolModel" := ⟨wd788, wd27, wd36, wd789, by decide +kernel⟩
theorem okX6_ready : OkV yX6_ready cX6_ready 2 (some .int) 1 "FretSchoolModel" := ⟨wd791, wd792, wd36, wd793, by decide +kernel⟩
theorem okX6_isOrder : OkV yX6_isOrder cX6_isOrder 2 (some .boolean) 1 "FretSchoolModel" := ⟨wd796, wd28, wd36, wd797, by decide +kernel⟩
theorem okX6_fetch : OkV yX6_fetch cX6_fetch 8 (some .int) 5 "FretSchoolModel" := ⟨wd799, wd800, wd36, wd801, by decide +kernel⟩
theorem okX6_isOpen : OkS yX6_isOpen cX6_isOpen 1 (some .boolean) 1 := ⟨wd803, wd36, wd804, by decide +kernel⟩
theorem okX6_pass : OkV yX6_pass cX6_pass 3 (some .int) 1 "FretSchoolModel" := ⟨wd806, wd807, wd36, wd808, by decide +kernel⟩
theorem okX6_today : OkV yX6_today cX6_today 1 (some .int) 0 "FretSchoolModel" := ⟨wd810, wd811, wd36, wd812, by decide +kernel⟩
