/-! ===== making the world: a constructor's contract and its call ===== -/
def rmB (d mc ms : Nat) : Room := { frames := d + 2, cells := mc, slots := ms, locals := 40 * d + 60 }
def MC (l : Launch) (D : va_G) (cy : Nat → ClassId) (y : MethodName) (bytes : ByteArray) (maxL d mc ms : Nat) (ws0 : va_W) (sz b : Nat) (post : va_W → Prop) : Prop :=
  Met l y (Cond.code y bytes maxL none :: BIG) (rmB d mc ms) (va_Pc [.ref b] (fun U => Fb D cy U ∧ U.heap.size = sz ∧ va_P D vwCl ws0 U.heap ∧ va_D (fun _ => True) ws0)) (va_Qv post (fun w t => va_P D vwCl w t.heap ∧ va_D (va_A ws0 sz) w) (va_A ws0 sz)) mc ms (va_A ws0 sz)
theorem MC.mk {l : Launch} {D : va_G} {cy : Nat → ClassId} {y : MethodName} {bytes : ByteArray} {maxL d mc ms : Nat} {ws0 : va_W} {sz b : Nat} {post : va_W → Prop} (own : String) (hy : plainName y.cls = true) (ho : y.cls = own) (hlen : 1 ≤ maxL) (hy1 : y.name = "<init>")
    (body : ∀ (p : Program) (e : Env) (s : State) (m : MethodId) (args : Array Value) (below : List Frame) (meth : Method) (c : Code) (A : Nat → Prop), A = va_A ws0 s.heap.size → Bx p s m args meth c bytes own maxL none D cy A → meth.name = "<init>" → ZB p l e (rmB d mc ms) s m args below meth c D A maxL 0 0 (MQ below (va_Qv post (fun w t => va_P D vwCl w t.heap ∧ va_D A w) A) args s mc ms A) ws0 (L0 [.ref b] maxL) 0 []) : MC l D cy y bytes maxL d mc ms ws0 sz b post := by
  refine Met.ofW (cc := bytes) (maxL := maxL) (ret := none) hy rfl ?_
  intro p e s m args below meth c s₁ B hml hv
  obtain ⟨rfl, hF, hsz, hP, hD⟩ := hv
  subst hsz
  have hts := atoms_spec (ws := Cond.code y bytes maxL none :: BIG) B.pre
  have C : Bx p s m [Value.ref b].toArray meth c bytes own maxL none D cy (va_A ws0 s.heap.size) := ⟨B.exec, B.bytes, hml, by rw [← ho]; exact findClass_of_methodNamed B.named, fun w hw => hts w (List.mem_cons_of_mem _ hw), B.returns, B.notSynchronized, hF, fun q h => Or.inr h⟩
  have hl := lv_entry [.ref b] (n := maxL) hlen
  rw [lg_entry_eq]
  exact body p e s m _ below meth c _ rfl C ((name_of_methodNamed B.named B.method).1.trans hy1) s.heap [] _ hP hD.self va_S.rf (lh_entry rfl hl)
/-- behind a constructor: the rest of the world, and what it made -/
theorem b_join {A0 : Nat → Prop} {D : va_G} {cl : List vw_C} {ws w1 : va_W} {x : Nat × va_E} {H H1 : Heap} (hP : va_P D cl (ws ++ [x]) H) (hD : va_D A0 (ws ++ [x])) (hk : ∀ q : Nat, q < H.size → ¬ va_A [x] H.size q → H1[q]? = H[q]?) (hF : ∀ q, va_A [x] H.size q → A0 q) (hP1 : va_P D cl w1 H1) (hD1 : va_D (va_A [x] H.size) w1) : va_P D cl (ws ++ w1) H1 ∧ va_D A0 (ws ++ w1) := by
  have hx : (ws ++ [x])[ws.length]? = some x := by rw [List.getElem?_append_right (Nat.le_refl _), Nat.sub_self]; rfl
  have hin : ∀ (k : Nat) (q : Nat × va_E), ws[k]? = some q → (ws ++ [x])[k]? = some q := fun k q hq => by rw [List.getElem?_append_left (List.getElem?_eq_some_iff.mp hq).1]; exact hq
  have apart : ∀ (k : Nat) (q : Nat × va_E), ws[k]? = some q → q.1 < H.size ∧ ¬ va_A [x] H.size q.1 := by
    intro k q hq
    have hlt := (hP k q (hin k q hq)).lt
    refine ⟨hlt, ?_⟩
    rintro (⟨j, e, hj⟩ | h)
    · have hj0 : j < 1 := (List.getElem?_eq_some_iff.mp hj).1
      rw [show j = 0 by omega] at hj
      have ex : x = (q.1, e) := Option.some.inj hj
      have := hD.1 k ws.length q x (hin k q hq) hx (by rw [ex])
      have hkl := (List.getElem?_eq_some_iff.mp hq).1
      omega
    · omega
  have hPr : va_P D cl ws H1 := fun k q hq => (hP k q (hin k q hq)).kept (hk q.1 (apart k q hq).1 (apart k q hq).2)
  refine ⟨hPr.app hP1, fun i j p q hi hj hpq => ?_, fun k q hk0 => ?_⟩
  · by_cases h1 : i < ws.length
    · rw [List.getElem?_append_left h1] at hi
      by_cases h2 : j < ws.length
      · rw [List.getElem?_append_left h2] at hj
        exact hD.1 i j p q (hin i p hi) (hin j q hj) hpq
      · rw [List.getElem?_append_right (by omega)] at hj
        exact absurd (hpq ▸ hD1.2 _ q hj) (apart i p hi).2
    · rw [List.getElem?_append_right (by omega)] at hi
      by_cases h2 : j < ws.length
      · rw [List.getElem?_append_left h2] at hj
        exact absurd (hpq.symm ▸ hD1.2 _ p hi) (apart j q hj).2
      · rw [List.getElem?_append_right (by omega)] at hj
        have := hD1.1 _ _ p q hi hj hpq
        omega
  · by_cases h1 : k < ws.length
    · rw [List.getElem?_append_left h1] at hk0
      exact hD.2 k q (hin k q hk0)
    · rw [List.getElem?_append_right (by omega)] at hk0
      exact hF _ (hD1.2 _ q hk0)
section ZBC
variable {p : Program} {l : Launch} {e : Env} {R : Room} {s : State} {m : MethodId} {args : Array Value} {below : List Frame} {meth : Method} {c : Code} {D : va_G} {cy : Nat → ClassId} {A : Nat → Prop} {nL cells slots : Nat} {Q : State → Prop} {ws : va_W} {L : List (Option Value)} {pc : Nat} {st : List Value} {cc : ByteArray} {own : String} {ret : Option FieldType}
theorem b_ret (C : Bx p s m args meth c cc own nL none D cy A) {post : va_W → Prop} (hdg : decode cc pc = .ok (.return_, 1)) (h : post ws) : ZB p l e R s m args below meth c D A nL cells slots (MQ below (va_Qv post (fun w t => va_P D vwCl w t.heap ∧ va_D A w) A) args s cells slots A) ws L pc [] :=
  fun H locs ls hP hD hS hl => W.vret C.1 C.2.1 C.2.2.2.2.2.1 (fun t ht hW => ⟨⟨ws, rfl, h, by rw [ht]; exact hP, hD⟩, hS.F ht⟩) hS.2.2 hdg C.2.2.2.2.2.2.1
theorem b_putF (C : Bx p s m args meth c cc own nL ret D cy A) (hni : meth.name = "<init>") (q0 f : Nat) {a ci : Nat} {fs : List Value} (he : ws[q0]? = some (a, .inr (ci, fs))) {Cn : String} {T : u_T} {N : Nat} (hcl : vwCl[ci]? = some (Cn, T, N)) (hf : f < N) (hin : ∀ w ∈ u_ws Cn T N, w ∈ BIG) {ty0 : Nat → FieldType} (hty : ∀ k, k < N → parseFieldDescriptor (T k).2.2.1 = some (ty0 k)) (hnm : ∀ a, a < N → ∀ b, b < N → a ≠ b → (T a).2.1 ≠ (T b).2.1) {idx : Nat} {rf : String} (hw : Cond.fieldLink own idx rf (T f).2.1 (T f).2.2.1 ∈ BIG) (hsame : (T f).1 = rf) (hfin : (T f).2.2.2 = true) (hown2 : (T f).1 = own) {v : Value} (hn : narrow (ty0 f) v = v) (hfit : fits (ty0 f) v = true) (hlen : f < fs.length) (hdg : decode cc pc = .ok (.putfield idx, 3)) (kk : ZB p l e R s m args below meth c D A nL cells slots Q (ws.set q0 (a, .inr (ci, fs.set f v))) L (pc + 3) st) : ZB p l e R s m args below meth c D A nL cells slots Q ws L pc (v :: .ref a :: st) := by
  intro H locs ls hP hD hS hl
  obtain ⟨hx, hb, hml, hown, hts, hr, hlk, hF, hA⟩ := C
  exact va_putF hx hb (Ts := BIG) hts hin ty0 hty hnm hown hF.1 hP hD hS q0 he hcl f hf (hts _ hw) (fun x h => by rw [← hsame]; exact h) hfin hni hown2 (hty f hf) hn hfit hlen hdg (fun H1 locs1 hP1 hD1 hS1 => kk H1 locs1 ls hP1 hD1 hS1 hl)
theorem b_makeN (C : Bx p s m args meth c cc own nL ret D cy A) {ci : Nat} {Cn : String} {T : u_T} {N : Nat} {fs : List Value} (hcl : vwCl[ci]? = some (Cn, T, N)) (hin : ∀ w ∈ u_ws Cn T N, w ∈ BIG) {ty : Nat → FieldType} (hty : ∀ k, k < N → parseFieldDescriptor (T k).2.2.1 = some (ty k)) (hfs : ∀ j, j < N → defaultValue (ty j) = vp_V fs j) {i1 i2 : Nat} (w1 : Cond.classLink own i1 Cn ∈ BIG) (w2 : Cond.instantiable Cn N ∈ BIG) (w3 : Cond.initialized Cn ∈ BIG) {y : MethodName} {bytes : ByteArray} {maxL d mc ms : Nat} {post : Nat → va_W → Prop} (M : ∀ b sz, MC l D cy y bytes maxL d mc ms [(b, .inr (ci, fs))] sz b (post b)) (w4 : Cond.code y bytes maxL none ∈ BIG) (hy : y.cls = Cn) {host : String} (w5 : va_Nw (.methodLinkNest own i2 y host) s) (w6 : Cond.instanceMethod y ∈ BIG) (hy1 : y.name = "<init>") (hd : y.cls ≠ "java/lang/invoke/MethodHandle" ∧ y.cls ≠ "java/lang/invoke/VarHandle" ∧ (parseMethodDescriptor y.desc).map (fun d => d.parameters.length) = some 0) (hR : d + 3 ≤ R.frames ∧ 8 + (maxL + 11) + (40 * d + 60) ≤ R.locals) (hc : cells + 1 + mc ≤ R.cells ∧ slots + N + ms ≤ R.slots) (hcat : ((Value.ref 0 :: st).map fun v => v.category).sum ≤ 8) (g1 : decode cc pc = .ok (.new i1, 3)) (g2 : decode cc (pc + 3) = .ok (.dup, 1)) (g3 : decode cc (pc + 4) = .ok (.invokespecial i2, 3)) (kk : ∀ (b : Nat) (u : va_W), post b u → ZB p l e R s m args below meth c D A nL (cells + 1 + mc) (slots + N + ms) Q (ws ++ u) L (pc + 7) (.ref b :: st)) : ZB p l e R s m args below meth c D A nL cells slots Q ws L pc st := by
  intro H locs ls hP hD hS hl
  obtain ⟨hx, hb, hml, hown, hts, hr, hlk, hF, hA⟩ := C
  refine va_new hx hb hts hin ty hty hown (hts _ w1) (hts _ w2) (hts _ w3) hF.1 hP hD hS hA hcl hfs (by omega) (by omega) g1 (fun b H1 hP1 hD1 hS1 => ?_)
  refine lv_dup hx hb g2 rfl ?_
  have hG : GoodIn BIG (Cond.code y bytes maxL none :: BIG) := fun w hm => by
    rcases List.mem_cons.mp hm with rfl | hm
    · exact big_good w4
    · exact big_good hm
  have hbx : (ws ++ [(b, .inr (ci, fs))])[ws.length]? = some (b, (.inr (ci, fs) : va_E)) := by rw [List.getElem?_append_right (Nat.le_refl _), Nat.sub_self]; rfl
  have hPc : va_P D vwCl [(b, .inr (ci, fs))] H1 := hP1.sub [ws.length] (by rw [List.filterMap_cons, hbx]; rfl)
  have hDc : va_D (fun _ => True) [((b, .inr (ci, fs)) : Nat × va_E)] := ⟨fun i j p q hi hj _ => by
    have h1 : i < 1 := (List.getElem?_eq_some_iff.mp hi).1
    have h2 : j < 1 := (List.getElem?_eq_some_iff.mp hj).1
    omega, fun _ _ _ => trivial⟩
  have hFc : ∀ q, va_A [((b, .inr (ci, fs)) : Nat × va_E)] H1.size q → A q := va_free (wc := [(b, .inr (ci, fs))]) hD1 hS1 hA [ws.length] (by rw [List.map_cons, hbx]; rfl)
  refine va_callv (va_runIN (As := []) (rest := .ref b :: st) (g := F0 m (pc + 4) ls (.ref b :: .ref b :: st)) ⟨hx, hb, hml, hown, hts⟩ (M b H1.size) ⟨va_cnB 0 hts hG rfl rfl rfl w5 (by rw [hy]; exact hts _ w3) hd hR, hy1, hts _ w6⟩ ⟨fun a U g mk q => by obtain ⟨q0, q1, q2, q3, q4⟩ := q; exact ⟨q0, q1.blind, q2, q3, q4⟩, fun U hU hW => ⟨rfl, hF.call hW, by rw [hU], by rw [hU]; exact hPc, hDc⟩⟩ rfl rfl hl.1 rfl (lv_room hcat) g3 ⟨hc.1, hc.2⟩) hS1 (fun q _ h => hFc q h) hFc (fun u t H2 locs2 ht hvm h5 hB hz1 hk1 hS2 => ?_)
  obtain ⟨hPu, hDu⟩ := hB
  rw [ht] at hPu
  obtain ⟨hP3, hD3⟩ := b_join hP1 hD1 hk1 hFc hPu hDu
  exact kk b u h5 H2 locs2 ls hP3 hD3 hS2 hl
theorem b_makeI (C : Bx p s m args meth c cc own nL ret D cy A) {ci : Nat} {Cn : String} {T : u_T} {N : Nat} {fs : List Value} (hcl : vwCl[ci]? = some (Cn, T, N)) (hin : ∀ w ∈ u_ws Cn T N, w ∈ BIG) {ty : Nat → FieldType} (hty : ∀ k, k < N → parseFieldDescriptor (T k).2.2.1 = some (ty k)) (hfs : ∀ j, j < N → defaultValue (ty j) = vp_V fs j) {i1 i2 : Nat} (w1 : Cond.classLink own i1 Cn ∈ BIG) (w2 : Cond.instantiable Cn N ∈ BIG) (w3 : Cond.initialized Cn ∈ BIG) {y : MethodName} {bytes : ByteArray} {maxL d mc ms : Nat} {post : Nat → va_W → Prop} (M : ∀ b sz, MC l D cy y bytes maxL d mc ms [(b, .inr (ci, fs))] sz b (post b)) (w4 : Cond.code y bytes maxL none ∈ BIG) (hy : y.cls = Cn) (w5 : Cond.methodLink own i2 y ∈ BIG) (w6 : Cond.instanceMethod y ∈ BIG) (hy1 : y.name = "<init>") (hd : y.cls ≠ "java/lang/invoke/MethodHandle" ∧ y.cls ≠ "java/lang/invoke/VarHandle" ∧ (parseMethodDescriptor y.desc).map (fun d => d.parameters.length) = some 0) (hR : d + 3 ≤ R.frames ∧ 8 + (maxL + 11) + (40 * d + 60) ≤ R.locals) (hc : cells + 1 + mc ≤ R.cells ∧ slots + N + ms ≤ R.slots) (hcat : ((Value.ref 0 :: st).map fun v => v.category).sum ≤ 8) (g1 : decode cc pc = .ok (.new i1, 3)) (g2 : decode cc (pc + 3) = .ok (.dup, 1)) (g3 : decode cc (pc + 4) = .ok (.invokespecial i2, 3)) (kk : ∀ (b : Nat) (u : va_W), post b u → ZB p l e R s m args below meth c D A nL (cells + 1 + mc) (slots + N + ms) Q (ws ++ u) L (pc + 7) (.ref b :: st)) : ZB p l e R s m args below meth c D A nL cells slots Q ws L pc st := by
  intro H locs ls hP hD hS hl
  obtain ⟨hx, hb, hml, hown, hts, hr, hlk, hF, hA⟩ := C
  refine va_new hx hb hts hin ty hty hown (hts _ w1) (hts _ w2) (hts _ w3) hF.1 hP hD hS hA hcl hfs (by omega) (by omega) g1 (fun b H1 hP1 hD1 hS1 => ?_)
  refine lv_dup hx hb g2 rfl ?_
  have hG : GoodIn BIG (Cond.code y bytes maxL none :: BIG) := fun w hm => by
    rcases List.mem_cons.mp hm with rfl | hm
    · exact big_good w4
    · exact big_good hm
  have hbx : (ws ++ [(b, .inr (ci, fs))])[ws.length]? = some (b, (.inr (ci, fs) : va_E)) := by rw [List.getElem?_append_right (Nat.le_refl _), Nat.sub_self]; rfl
  have hPc : va_P D vwCl [(b, .inr (ci, fs))] H1 := hP1.sub [ws.length] (by rw [List.filterMap_cons, hbx]; rfl)
  have hDc : va_D (fun _ => True) [((b, .inr (ci, fs)) : Nat × va_E)] := ⟨fun i j p q hi hj _ => by
    have h1 : i < 1 := (List.getElem?_eq_some_iff.mp hi).1
    have h2 : j < 1 := (List.getElem?_eq_some_iff.mp hj).1
    omega, fun _ _ _ => trivial⟩
  have hFc : ∀ q, va_A [((b, .inr (ci, fs)) : Nat × va_E)] H1.size q → A q := va_free (wc := [(b, .inr (ci, fs))]) hD1 hS1 hA [ws.length] (by rw [List.map_cons, hbx]; rfl)
  refine va_callv (va_runI (As := []) (rest := .ref b :: st) (g := F0 m (pc + 4) ls (.ref b :: .ref b :: st)) ⟨hx, hb, hml, hown, hts⟩ (M b H1.size) (cwI 0 hts hG rfl rfl rfl (by rw [hy]; exact hts _ w3) (hts _ w5) (hts _ w6) hy1 hd hR) ⟨fun a U g mk q => by obtain ⟨q0, q1, q2, q3, q4⟩ := q; exact ⟨q0, q1.blind, q2, q3, q4⟩, fun U hU hW => ⟨rfl, hF.call hW, by rw [hU], by rw [hU]; exact hPc, hDc⟩⟩ rfl rfl hl.1 rfl (lv_room hcat) g3 ⟨hc.1, hc.2⟩) hS1 (fun q _ h => hFc q h) hFc (fun u t H2 locs2 ht hvm h5 hB hz1 hk1 hS2 => ?_)
  obtain ⟨hPu, hDu⟩ := hB
  rw [ht] at hPu
  obtain ⟨hP3, hD3⟩ := b_join hP1 hD1 hk1 hFc hPu hDu
  exact kk b u h5 H2 locs2 ls hP3 hD3 hS2 hl
end ZBC
