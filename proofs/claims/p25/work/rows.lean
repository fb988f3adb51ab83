section
-- ===== PART A: goes FIRST, ahead of the names: the tables' words, and 'selects' of the private methods out of them =====
/-- a private method of a class that the tables say can be made, by its rows of tables_1 -/
def lw_okq (q : MethodName × Nat) : Prop := (q.1.cls ≠ "java/lang/invoke/MethodHandle" ∧ q.1.cls ≠ "java/lang/invoke/VarHandle") ∧ Cond.instantiable q.1.cls q.2 ∈ tables_1 ∧ Cond.privateMethod q.1 ∈ tables_1 ∧ Cond.instanceMethod q.1 ∈ tables_1
theorem lw_p0 : lw_okq (⟨"java/lang/Throwable", "fillInStackTrace", "(I)Ljava/lang/Throwable;"⟩, 6) := ⟨⟨by decide +kernel, by decide +kernel⟩, List.mem_of_getElem? (i := 224) (by decide +kernel), List.mem_of_getElem? (i := 222) (by decide +kernel), List.mem_of_getElem? (i := 223) (by decide +kernel)⟩
theorem lw_p1 : lw_okq (⟨"FretSchool", "easiestShift", "(II)I"⟩, 10) := ⟨⟨by decide +kernel, by decide +kernel⟩, List.mem_of_getElem? (i := 15) (by decide +kernel), List.mem_of_getElem? (i := 273) (by decide +kernel), List.mem_of_getElem? (i := 274) (by decide +kernel)⟩
theorem lw_p2 : lw_okq (⟨"FretSchool", "learnableShift", "(III)I"⟩, 10) := ⟨⟨by decide +kernel, by decide +kernel⟩, List.mem_of_getElem? (i := 15) (by decide +kernel), List.mem_of_getElem? (i := 277) (by decide +kernel), List.mem_of_getElem? (i := 278) (by decide +kernel)⟩
theorem lw_p3 : lw_okq (⟨"FretSchool$Hand", "feelReach", "(LFretSchool$Piece;LFretSchool$Instrument;)V"⟩, 5) := ⟨⟨by decide +kernel, by decide +kernel⟩, List.mem_of_getElem? (i := 101) (by decide +kernel), List.mem_of_getElem? (i := 285) (by decide +kernel), List.mem_of_getElem? (i := 286) (by decide +kernel)⟩
theorem lw_p4 : lw_okq (⟨"FretSchool$Hand", "measureRest", "(IZ)V"⟩, 5) := ⟨⟨by decide +kernel, by decide +kernel⟩, List.mem_of_getElem? (i := 101) (by decide +kernel), List.mem_of_getElem? (i := 297) (by decide +kernel), List.mem_of_getElem? (i := 298) (by decide +kernel)⟩
theorem lw_p5 : lw_okq (⟨"FretSchool$Hand", "nearest", "(II)I"⟩, 5) := ⟨⟨by decide +kernel, by decide +kernel⟩, List.mem_of_getElem? (i := 101) (by decide +kernel), List.mem_of_getElem? (i := 301) (by decide +kernel), List.mem_of_getElem? (i := 302) (by decide +kernel)⟩
theorem lw_p6 : lw_okq (⟨"FretSchool$Hand", "chooseRow", "(I)Z"⟩, 5) := ⟨⟨by decide +kernel, by decide +kernel⟩, List.mem_of_getElem? (i := 101) (by decide +kernel), List.mem_of_getElem? (i := 315) (by decide +kernel), List.mem_of_getElem? (i := 316) (by decide +kernel)⟩
theorem lw_p7 : lw_okq (⟨"FretSchool", "needNote", "(II)V"⟩, 10) := ⟨⟨by decide +kernel, by decide +kernel⟩, List.mem_of_getElem? (i := 15) (by decide +kernel), List.mem_of_getElem? (i := 330) (by decide +kernel), List.mem_of_getElem? (i := 331) (by decide +kernel)⟩
theorem lw_p8 : lw_okq (⟨"FretSchool", "needPiece", "(I)V"⟩, 10) := ⟨⟨by decide +kernel, by decide +kernel⟩, List.mem_of_getElem? (i := 15) (by decide +kernel), List.mem_of_getElem? (i := 334) (by decide +kernel), List.mem_of_getElem? (i := 335) (by decide +kernel)⟩
theorem lw_p9 : lw_okq (⟨"FretSchool", "findBest", "(II)Z"⟩, 10) := ⟨⟨by decide +kernel, by decide +kernel⟩, List.mem_of_getElem? (i := 15) (by decide +kernel), List.mem_of_getElem? (i := 369) (by decide +kernel), List.mem_of_getElem? (i := 370) (by decide +kernel)⟩
theorem lw_p10 : lw_okq (⟨"FretSchool", "needInstrument", "(I)V"⟩, 10) := ⟨⟨by decide +kernel, by decide +kernel⟩, List.mem_of_getElem? (i := 15) (by decide +kernel), List.mem_of_getElem? (i := 373) (by decide +kernel), List.mem_of_getElem? (i := 374) (by decide +kernel)⟩
theorem lw_p11 : lw_okq (⟨"FretSchool", "needOrder", "(I)V"⟩, 10) := ⟨⟨by decide +kernel, by decide +kernel⟩, List.mem_of_getElem? (i := 15) (by decide +kernel), List.mem_of_getElem? (i := 500) (by decide +kernel), List.mem_of_getElem? (i := 501) (by decide +kernel)⟩
theorem lw_p12 : lw_okq (⟨"FretSchool", "ordersAtWork", "()I"⟩, 10) := ⟨⟨by decide +kernel, by decide +kernel⟩, List.mem_of_getElem? (i := 15) (by decide +kernel), List.mem_of_getElem? (i := 513) (by decide +kernel), List.mem_of_getElem? (i := 514) (by decide +kernel)⟩
def lw_privs_1 : List (MethodName × Nat) := [(⟨"java/lang/Throwable", "fillInStackTrace", "(I)Ljava/lang/Throwable;"⟩, 6), (⟨"FretSchool", "easiestShift", "(II)I"⟩, 10), (⟨"FretSchool", "learnableShift", "(III)I"⟩, 10), (⟨"FretSchool$Hand", "feelReach", "(LFretSchool$Piece;LFretSchool$Instrument;)V"⟩, 5), (⟨"FretSchool$Hand", "measureRest", "(IZ)V"⟩, 5), (⟨"FretSchool$Hand", "nearest", "(II)I"⟩, 5), (⟨"FretSchool$Hand", "chooseRow", "(I)Z"⟩, 5), (⟨"FretSchool", "needNote", "(II)V"⟩, 10), (⟨"FretSchool", "needPiece", "(I)V"⟩, 10), (⟨"FretSchool", "findBest", "(II)Z"⟩, 10), (⟨"FretSchool", "needInstrument", "(I)V"⟩, 10), (⟨"FretSchool", "needOrder", "(I)V"⟩, 10), (⟨"FretSchool", "ordersAtWork", "()I"⟩, 10)]
theorem lw_r1 : ∀ q ∈ lw_privs_1, lw_okq q := List.forall_mem_cons.mpr ⟨lw_p0, List.forall_mem_cons.mpr ⟨lw_p1, List.forall_mem_cons.mpr ⟨lw_p2, List.forall_mem_cons.mpr ⟨lw_p3, List.forall_mem_cons.mpr ⟨lw_p4, List.forall_mem_cons.mpr ⟨lw_p5, List.forall_mem_cons.mpr ⟨lw_p6, List.forall_mem_cons.mpr ⟨lw_p7, List.forall_mem_cons.mpr ⟨lw_p8, List.forall_mem_cons.mpr ⟨lw_p9, List.forall_mem_cons.mpr ⟨lw_p10, List.forall_mem_cons.mpr ⟨lw_p11, List.forall_mem_cons.mpr ⟨lw_p12, fun _ h => absurd h List.not_mem_nil⟩⟩⟩⟩⟩⟩⟩⟩⟩⟩⟩⟩⟩
def lw_privs : List (MethodName × Nat) := lw_privs_1
def lw_tbl : List Cond := k2_sels lw_privs ++ tables_1
theorem lw_privs_ok : ∀ q ∈ lw_privs, lw_okq q := lw_r1
-- ===== end of PART A; then your names; then what follows =====
/-- what the printed names ask of an array of arrays (their own word for it isn't in this claim's kit) -/
def va_AOA (ty : FieldType) (U : State) : Prop := (Cond.arrayOver (.array ty)).before #[] U = true
theorem va_AOA.of {ty : FieldType} {A : Array Value} {U : State} (h : (Cond.arrayOver (.array ty)).before A U = true) : va_AOA ty U := h
theorem va_AOA.use {ty : FieldType} {A : Array Value} {U : State} (h : va_AOA ty U) : (Cond.arrayOver (.array ty)).before A U = true := h
end
section
/-! ===== BEGIN words of one list among another's, by their places ===== -/
theorem goodIn_r {big : List Cond} (ws : List Cond) (ps : List Nat) (hp : ws = ps.filterMap (fun i => big[i]?)) (h : ws.all goodWord = true) : GoodIn big ws := by
  intro w hw
  have h1 := List.all_eq_true.mp h w hw
  rw [hp] at hw
  obtain ⟨i, -, hi⟩ := List.mem_filterMap.mp hw
  have hm : w ∈ big := by first | exact List.mem_of_getElem? hi | exact List.getElem?_mem hi
  exact ⟨hm, good_of_word h1⟩
theorem goodIn_app {big a b : List Cond} (ha : GoodIn big a) (hb : GoodIn big b) : GoodIn big (a ++ b) := fun w h => (List.mem_append.mp h).elim (ha w) (hb w)
theorem goodIn_ca {big a b : List Cond} {c : Cond} (ha : GoodIn big (c :: a)) (hb : GoodIn big b) : GoodIn big (c :: (a ++ b)) := fun w h => (List.mem_cons.mp h).elim (fun e => ha w (List.mem_cons.mpr (Or.inl e))) (fun h => (List.mem_append.mp h).elim (fun h => ha w (List.mem_cons.mpr (Or.inr h))) (hb w))
theorem goodIn_sub {big ws : List Cond} (hm : ∀ w ∈ ws, w ∈ big) (h : ws.all goodWord = true) : GoodIn big ws := fun w hw => ⟨hm w hw, good_of_word (List.all_eq_true.mp h w hw)⟩
/-! ===== END ===== -/

/-! ===== BEGIN new T[n][m]: the outer array a place, the inner ones among the pooled ===== -/
/-- f, but v at every address of l -/
def vr_up {α : Type} (f : Nat → α) (l : List Nat) (v : α) : Nat → α := fun a => if a ∈ l then v else f a
theorem vr_up_in {α : Type} {f : Nat → α} {l : List Nat} {v : α} {a : Nat} (h : a ∈ l) : vr_up f l v a = v := if_pos h
theorem vr_up_ne {α : Type} {f : Nat → α} {l : List Nat} {v : α} {a : Nat} (h : a ∉ l) : vr_up f l v a = f a := if_neg h
theorem vr_rows {L l : List Nat} {f : Nat → va_E} {e : va_E} (h : ∀ a, a ∈ l → a ∉ L) : va_pl L f ++ l.map (fun a => (a, e)) = va_pl (L ++ l) (vr_up f l e) := by
  unfold va_pl
  rw [List.map_append]
  congr 1
  · apply List.map_congr_left
    intro a ha
    rw [vr_up_ne (fun q => h a q ha)]
  · apply List.map_congr_left
    intro a ha
    rw [vr_up_in ha]
theorem vr_lay {X rows : va_W} {x : Nat × va_E} {pl : va_W} {D : va_G} {cl : List vw_C} {H : Heap} (hP : va_P D cl (((X ++ pl) ++ [x]) ++ rows) H) : va_P D cl ((X ++ [x]) ++ (pl ++ rows)) H := by
  rw [List.append_assoc (X ++ pl)] at hP
  have h := va_P.swap hP
  rw [← List.append_assoc X] at h
  have h2 := va_P.swap h
  rw [List.append_assoc (X ++ [x])] at h2
  exact h2
theorem vr_layD {X rows : va_W} {x : Nat × va_E} {pl : va_W} {A : Nat → Prop} (hD : va_D A (((X ++ pl) ++ [x]) ++ rows)) : va_D A ((X ++ [x]) ++ (pl ++ rows)) := by
  rw [List.append_assoc (X ++ pl)] at hD
  have h := va_D.swap hD
  rw [← List.append_assoc X] at h
  have h2 := va_D.swap h
  rw [List.append_assoc (X ++ [x])] at h2
  exact h2
theorem vr_outer (c : ClassId) (N h0 : Nat) : ∀ i : Nat, Jvm.Free.Multi.outerC c N h0 i = arrV c N (fun j => va_rf (if j < i then some (h0 + 1 + j) else none))
  | 0 => by
    show ({ cls := c, slots := Array.replicate N .null, vm := .none } : Cell) = _
    rw [arrV_new]
    refine congrArg (arrV c N) (funext fun j => ?_)
    simp [va_rf]
  | i + 1 => by
    show (Jvm.Free.Multi.outerC c N h0 i).setSlot i (.ref (h0 + 1 + i)) = _
    rw [vr_outer c N h0 i, arrV_store]
    refine congrArg (arrV c N) (funext fun j => ?_)
    by_cases e : j = i
    · subst e
      simp [updV, va_rf]
    · by_cases h : j < i
      · simp [updV, e, h, Nat.lt_succ_of_lt h]
      · simp [updV, e, h, show ¬ j < i + 1 by omega]
section VGM
variable {p : Program} {l : Launch} {e : Env} {R : Room} {s : State} {m : MethodId} {args : Array Value} {below : List Frame} {meth : Method} {c : Code} {H : Heap} {locs : List Loc} {cells slots : Nat} {Q : State → Prop}
variable {cc : ByteArray} {pc : Nat} {ls : Array Slot} {rest : List Value} {D : va_G} {cl : List vw_C} {A : Nat → Prop} {a : Nat} {tys : List (ClassId × FieldType)} {ws : va_W} {H0 : Heap}
theorem va_mna {X : va_W} {L : List Nat} {f : Nat → va_E} {cc : ByteArray} (hexec : p.tables.exec = Jvm.exec) (hb : c.code = cc) {own : String} {index : Nat} {ty : FieldType} {cy : ClassId} (hown : s.vm.findClass own = some m.cls) (hclink : (Cond.classLink own index ("[" ++ (FieldType.array ty).toString)).before args s = true) (hover : va_AOA ty s) (harr : (Cond.arrayClass ty).before args s = true) (hcy : s.vm.findClass (FieldType.array ty).toString = some cy)
    (hK : va_K D cl tys s) (hP : va_P D cl (X ++ va_pl L f) H) (hD : va_D A (X ++ va_pl L f)) (hS : va_S A H0 H locs) (hA : ∀ q, H0.size ≤ q → A q) {n k : Int32} {N' K' : Nat} {z : vp_A} (hn : ¬ n < 0) (hk : ¬ k < 0) (hN : n.toNatClampNeg = N') (hM : k.toNatClampNeg = K')
    (hb1 : N' * 4 ≤ 536870912) (hb2 : K' * componentBytes ty ≤ 536870912) (hb3 : K' ≤ 536870912) (hdf : fits ty (defaultValue ty) = true) (hdd : (defaultValue ty).isDefault = true) (hcells : cells + (1 + N') ≤ R.cells) (hslots : slots + (N' + N' * K') ≤ R.slots) (hz : ∀ c : ClassId, Jvm.Free.Multi.innerC c K' (defaultValue ty) = vp_cell c z) (hdg : decode cc pc = .ok (.multianewarray index 2, 4))
    (kk : ∀ (q : Nat) (r : Nat → Nat) (cA : ClassId) (H1 : Heap), (∀ i j : Nat, i < N' → j < N' → r i = r j → i = j) → (∀ i : Nat, i < N' → r i ∉ L) → va_K D cl (tys ++ [(cA, .array ty)]) s →
      va_P D cl ((X ++ [(q, .inl (cA, N', .inr (.inr (.inr (.inr (fun i => if i < N' then some (r i) else none))))))]) ++ va_pl (L ++ (List.range N').map r) (vr_up f ((List.range N').map r) (.inl (cy, z)))) H1 → va_D A ((X ++ [(q, .inl (cA, N', .inr (.inr (.inr (.inr (fun i => if i < N' then some (r i) else none))))))]) ++ va_pl (L ++ (List.range N').map r) (vr_up f ((List.range N').map r) (.inl (cy, z)))) → va_S A H0 H1 locs →
      W p l e R s m args below meth c H1 locs (cells + 1 + N') (slots + N' + N' * K') Q (F0 m (pc + 4) ls (.ref q :: rest))) : W p l e R s m args below meth c H locs cells slots Q (F0 m pc ls (.int k :: .int n :: rest)) := by
  subst hN
  subst hM
  intro T hT Xs
  obtain ⟨vm₁, cA, comp, -, fA, fC, hO, -, X', step⟩ := Xs.multianewarray2F hexec hown hclink (va_AOA.use hover) harr (g := F0 m pc ls (.int k :: .int n :: rest)) rfl (by rw [hb]; exact hdg) rfl hn hk hb1 hb2 hb3 hdf hdd hcells hslots
  have ec : some cy = some comp := hcy.symm.trans fC
  cases ec
  generalize hF : Jvm.Free.Multi.fill (T.setVm vm₁) cA cy n.toNatClampNeg k.toNatClampNeg (defaultValue ty) n.toNatClampNeg = F at X' step
  have hTh : (T.setVm vm₁).heap = H := hT
  obtain ⟨f1, f2, -, -⟩ := Jvm.Free.Multi.fill_facts (T.setVm vm₁) cA cy n.toNatClampNeg k.toNatClampNeg (defaultValue ty) n.toNatClampNeg
  rw [hF, hTh] at f1 f2
  have hold : ∀ x : Nat, x < H.size → F.heap[x]? = H[x]? := fun x hx => by
    have := Jvm.Free.Multi.fill_old (T.setVm vm₁) cA cy n.toNatClampNeg k.toNatClampNeg (defaultValue ty) (a := x) (by rw [hTh]; exact hx) n.toNatClampNeg
    rw [hF, hTh] at this
    exact this
  have hrow : ∀ j : Nat, j < n.toNatClampNeg → F.heap[H.size + 1 + j]? = some (vp_cell cy z) := fun j hj => by
    have := Jvm.Free.Multi.fill_inner (T.setVm vm₁) cA cy n.toNatClampNeg k.toNatClampNeg (defaultValue ty) n.toNatClampNeg j hj
    rw [hF, hTh, hz] at this
    exact this
  have hout : Jvm.Free.Multi.outerC cA n.toNatClampNeg H.size n.toNatClampNeg = vp_cell cA (n.toNatClampNeg, .inr (.inr (.inr (.inr (fun i => if i < n.toNatClampNeg then some (H.size + 1 + i) else none))))) := by
    rw [vp_cell_q]
    exact vr_outer cA n.toNatClampNeg H.size n.toNatClampNeg
  rw [hout] at f2
  have hlt : ∀ a, a ∈ L → a < H.size := fun a ha => by
    obtain ⟨k9, hk9⟩ := va_pl_get (X := X) (f := f) ha
    exact (hP k9 _ hk9).lt
  have hnl : ∀ i : Nat, i < n.toNatClampNeg → H.size + 1 + i ∉ L := fun i _ h => by
    have := hlt _ h
    omega
  have hnm : ∀ a, a ∈ (List.range n.toNatClampNeg).map (fun i => H.size + 1 + i) → a ∉ L := fun a ha h => by
    obtain ⟨i, -, rfl⟩ := List.mem_map.mp ha
    have := hlt _ h
    omega
  have hP0 : va_P D cl (X ++ va_pl L f) F.heap := hP.kept (fun k9 x hx => hold x.1 ((hP k9 x hx).lt))
  have hP1 : va_P D cl ((X ++ va_pl L f) ++ [(H.size, .inl (cA, n.toNatClampNeg, .inr (.inr (.inr (.inr (fun i => if i < n.toNatClampNeg then some (H.size + 1 + i) else none))))))]) F.heap := hP0.app (fun k9 x hx => by
    have h0 : k9 < 1 := (List.getElem?_eq_some_iff.mp hx).1
    rw [show k9 = 0 by omega] at hx
    cases hx
    exact f2)
  have hP2 : va_P D cl (((X ++ va_pl L f) ++ [(H.size, .inl (cA, n.toNatClampNeg, .inr (.inr (.inr (.inr (fun i => if i < n.toNatClampNeg then some (H.size + 1 + i) else none))))))]) ++ ((List.range n.toNatClampNeg).map (fun i => H.size + 1 + i)).map (fun a => (a, .inl (cy, z)))) F.heap := hP1.app (fun k9 x hx => by
    obtain ⟨a, ha, rfl⟩ := List.mem_map.mp (List.mem_of_getElem? hx)
    obtain ⟨i, hi, rfl⟩ := List.mem_map.mp ha
    exact hrow i (List.mem_range.mp hi))
  have hD2 : va_D A (((X ++ va_pl L f) ++ [(H.size, .inl (cA, n.toNatClampNeg, .inr (.inr (.inr (.inr (fun i => if i < n.toNatClampNeg then some (H.size + 1 + i) else none))))))]) ++ ((List.range n.toNatClampNeg).map (fun i => H.size + 1 + i)).map (fun a => (a, .inl (cy, z)))) := by
    have hD1 := hD.push (e := .inl (cA, n.toNatClampNeg, .inr (.inr (.inr (.inr (fun i => if i < n.toNatClampNeg then some (H.size + 1 + i) else none)))))) hP rfl (hA _ hS.1)
    generalize hW1 : (X ++ va_pl L f) ++ [(H.size, .inl (cA, n.toNatClampNeg, .inr (.inr (.inr (.inr (fun i => if i < n.toNatClampNeg then some (H.size + 1 + i) else none))))))] = W1 at hD1 hP1 ⊢
    have hle : ∀ (k9 : Nat) (x : Nat × va_E), W1[k9]? = some x → x.1 ≤ H.size := fun k9 x hx => by
      rw [← hW1] at hx
      by_cases hl : k9 < (X ++ va_pl L f).length
      · rw [List.getElem?_append_left hl] at hx
        exact Nat.le_of_lt ((hP k9 x hx).lt)
      · rw [List.getElem?_append_right (by omega)] at hx
        have h0 : k9 - (X ++ va_pl L f).length < 1 := (List.getElem?_eq_some_iff.mp hx).1
        rw [show k9 - (X ++ va_pl L f).length = 0 by omega] at hx
        cases hx
        exact Nat.le_refl _
    have hr : ∀ (k9 : Nat) (x : Nat × va_E), (((List.range n.toNatClampNeg).map (fun i => H.size + 1 + i)).map (fun a => ((a, .inl (cy, z)) : Nat × va_E)))[k9]? = some x → x.1 = H.size + 1 + k9 := fun k9 x hx => by
      rw [List.getElem?_map, List.getElem?_map] at hx
      by_cases h9 : k9 < n.toNatClampNeg
      · rw [List.getElem?_range h9] at hx
        cases hx
        rfl
      · have hn0 : (List.range n.toNatClampNeg)[k9]? = none := List.getElem?_eq_none (by rw [List.length_range]; omega)
        rw [hn0] at hx
        cases hx
    refine ⟨fun i j x y hi hj hxy => ?_, fun k9 x hx => ?_⟩
    · by_cases h1 : i < W1.length <;> by_cases h2 : j < W1.length
      · rw [List.getElem?_append_left h1] at hi
        rw [List.getElem?_append_left h2] at hj
        exact hD1.1 i j x y hi hj hxy
      · rw [List.getElem?_append_left h1] at hi
        rw [List.getElem?_append_right (by omega)] at hj
        have := hle _ _ hi
        have := hr _ _ hj
        omega
      · rw [List.getElem?_append_right (by omega)] at hi
        rw [List.getElem?_append_left h2] at hj
        have := hle _ _ hj
        have := hr _ _ hi
        omega
      · rw [List.getElem?_append_right (by omega)] at hi hj
        have := hr _ _ hi
        have := hr _ _ hj
        omega
    · by_cases h1 : k9 < W1.length
      · rw [List.getElem?_append_left h1] at hx
        exact hD1.2 k9 x hx
      · rw [List.getElem?_append_right (by omega)] at hx
        have := hr _ _ hx
        exact hA _ (by have := hS.1; omega)
  have hAr : ArrOfT s cA (.array ty) := fun N9 z9 => by
    obtain ⟨-, k9, hk9, cm9, hkk9⟩ := (hO 0 0 0).1
    exact ⟨(fun q hq => by cases hq), k9, hk9, cm9, hkk9⟩
  have hK2 : va_K D cl (tys ++ [(cA, .array ty)]) s := ⟨hK.1, fun k9 x hx => by
    by_cases hl : k9 < tys.length
    · rw [List.getElem?_append_left hl] at hx
      exact hK.2 k9 x hx
    · rw [List.getElem?_append_right (by omega)] at hx
      have h0 : k9 - tys.length < 1 := (List.getElem?_eq_some_iff.mp hx).1
      rw [show k9 - tys.length = 0 by omega] at hx
      cases hx
      exact ⟨hAr, fA⟩⟩
  obtain ⟨t, a1, b1⟩ := kk H.size (fun i => H.size + 1 + i) cA F.heap (fun i j _ _ h => by have h9 : H.size + 1 + i = H.size + 1 + j := h; omega) hnl hK2 (by rw [← vr_rows hnm]; exact vr_lay hP2) (by rw [← vr_rows hnm]; exact vr_layD hD2) ⟨by rw [f1]; have := hS.1; omega, fun x h1 h2 => (hold x (Nat.lt_of_lt_of_le h1 hS.1)).trans (hS.2.1 x h1 h2), hS.2.2⟩ F rfl X'
  refine ⟨t, step t ?_, b1⟩
  have e : T.heap.size = H.size := by rw [hT]
  rw [e]
  exact a1
end VGM
/-! ===== END ===== -/

/-! ===== BEGIN exceptions that leave a method, and their catching by the caller (launches without stack traces) ===== -/
section VXA
/-! The laws vx_back, vx_callV, vx_callS, vx_callSW, vx_throw0, vx_throwS follow proofs of the library, with one case more: JvmDerived/Free/Laws.lean (Back.of_free), Shelf42/LK1.lean (callV, callS), Shelf/KitTraced.lean (throwNew0V, throwNewS). -/
/-- where a method has thrown q: the class by its name, the cell, what was written, the world -/
def vx_T (XC : String → State → State → Prop) (st : State) (q : Addr) (t : State) (mc ms : Nat) (free : Addr → Prop) : Prop :=
  ∃ (E : String) (ce : Cell) (L : List Loc), XC E st t ∧ t.heap[q]? = some ce ∧ ce.vm = .none ∧ st.vm.findClass E = some ce.cls ∧ st.WarmedH t.vm ∧ st.sameButNew ({ t with vm := st.vm } : State) L mc ms ∧ ∀ z ∈ L, free z.base
def vx_Q (Qc : Array Value → State → Outcome → State → Prop) (XC : String → State → State → Prop) (mc ms : Nat) (free : Addr → Prop) : Array Value → State → Outcome → State → Prop := fun a st o t =>
  (Qc a st o t ∧ ∃ L, FrameEnd st o t L mc ms ∧ ∀ q ∈ L, free q.base) ∨ ∃ q, o = .threw q ∧ vx_T XC st q t mc ms free
/-- a callee that returns or throws -/
def vx_Met (l : Launch) (y : MethodName) (ws : List Cond) (rm : Room) (Pc : Array Value → State → Prop) (Qc : Array Value → State → Outcome → State → Prop) (XC : String → State → State → Prop) (mc ms : Nat) (free : Addr → Prop) : Prop :=
  MetFree l y (headSpec ws rm) Pc (fun _ _ _ _ _ => True) (vx_Q Qc XC mc ms free)
def vx_Post (XC : String → State → State → Prop) (mc ms : Nat) (free : Addr → Prop) : Pt → Array Value → Addr → Pt → Prop := fun A a q B =>
  ∃ (g : JFrame) (mk : MethodId) (t : State) (L : List Loc) (E : String) (ce : Cell), B.U.heap = t.heap ∧ B.U.vm = t.vm ∧ XC E (A.U.calling g mk a) t ∧ t.heap[q]? = some ce ∧ ce.vm = .none ∧ A.U.vm.findClass E = some ce.cls ∧ B.locs = A.locs ++ L ∧ (∀ z ∈ L, free z.base) ∧ B.cells = A.cells + mc ∧ B.slots = A.slots + ms
def vx_Back (l : Launch) (R : Room) (p : Program) (e : Env) (below : List Frame) (s : State) (sargs : Array Value) (y : MethodName) (len W9 : Nat)
    (Pre : Pt → Array Value → Prop) (Post : Pt → Array Value → Option Value → Pt → Prop) (PostX : Pt → Array Value → Addr → Pt → Prop) : Prop :=
  ∀ (m : MethodId) (meth : Method) (c : Code) (A : Pt) (g : JFrame) (ig : Instr) (mk : MethodId) (a : Array Value),
    Stand p l e R s m sargs below meth c A.U A.locs A.cells A.slots → g.method = m → g.locals.size = c.maxLocals → decode c.code g.pc = .ok (ig, len) →
    2 * g.monitorRoom + (g.stack.map fun v => v.category).sum ≤ W9 → A.U.methodNamed? y = some mk → Pre A a →
    (∃ (v : Option Value) (B : Pt), Stand p l e R s m sargs below meth c B.U B.locs B.cells B.slots ∧ Post A a v B ∧
      Steps p.tables e below (doInvoke e (A.U.setTop g) [] mk a).1 (B.U.setTop { g with pc := g.pc + len, stack := v.toList ++ g.stack })) ∨
    (∃ (q : Addr) (B : Pt), Stand p l e R s m sargs below meth c B.U B.locs B.cells B.slots ∧ PostX A a q B ∧
      Steps p.tables e below (doInvoke e (A.U.setTop g) [] mk a).1 ((B.U.setTop g).pushFrame (.throwing q)))
section Payer
variable {l : Launch} {R : Room} {p : Program} {e : Env} {below : List Frame} {s : State} {sargs : Array Value} {y : MethodName} {len W9 : Nat}
theorem vx_back {ws : List Cond} {rm : Room} {Pc : Array Value → State → Prop} {Qc : Array Value → State → Outcome → State → Prop} {XC : String → State → State → Prop} {mc ms : Nat} {free : Addr → Prop} {bytes : ByteArray} {maxL : Nat} {ret : Option FieldType}
    (hM : vx_Met l y ws rm Pc Qc XC mc ms free) (hblind : FrameBlind Pc) (hrc : rm.cells = mc) (hrs : rm.slots = ms)
    (hframes : rm.frames + 1 ≤ R.frames) (hlocals : W9 + (maxL + 11) + rm.locals ≤ R.locals)
    (hws : ∀ w ∈ ws, ∀ a' U, s.WarmedH U.vm → w.before a' U = true) (hcode : Cond.code y bytes maxL ret ∈ ws) (hinit : ∀ a' U, s.WarmedH U.vm → (Cond.initialized y.cls).before a' U = true) :
    vx_Back l R p e below s sargs y len W9 (PreOf R mc ms Pc) (PostOf Qc mc ms free) (vx_Post XC mc ms free) := by
  intro m meth c A g ig mk a X hg hsize hdg hW hn hp
  have h1 : (headSpec ws rm).pre.before a A.U = true := atoms_intro fun w hw => hws w hw _ _ X.warmed
  have h2 : (Cond.code y bytes maxL ret).before a A.U = true := hws _ hcode _ _ X.warmed
  have h3 : (Cond.initialized y.cls).before a A.U = true := hinit _ _ X.warmed
  have h4 : A.cells + (headSpec ws rm).room.cells ≤ R.cells := by rw [show (headSpec ws rm).room.cells = mc from hrc]; exact hp.1
  have h5 : A.slots + (headSpec ws rm).room.slots ≤ R.slots := by rw [show (headSpec ws rm).room.slots = ms from hrs]; exact hp.2.1
  have hPc : Pc a (A.U.calling g mk a) := hblind _ _ _ _ hp.2.2
  obtain ⟨U, Ls, c0, s0⟩ := A
  dsimp only [Pt.U, Pt.locs, Pt.cells, Pt.slots] at h1 h2 h3 h4 h5 X hn hPc ⊢
  obtain ⟨methY, cY, hmY, hcY, -, hlY, -, -, -, -⟩ := Cond.code_spec hn h2
  obtain ⟨kY, hkY, -⟩ := className_of_methodNamed hn
  have hinitY : kY.init = .initialized := Cond.initialized_spec (findClass_of_methodNamed hn) hkY h3
  have h : At U g.method c below := by rw [hg]; exact X.here
  have hlocals9 : W9 + (maxL + 11) + (headSpec ws rm).room.locals ≤ R.locals := hlocals
  have happ : (headSpec ws rm).appliesLoose y e.platform (U.calling g mk a) = true :=
    Spec.appliesLoose_calling (g := g) h hdg hn hkY hinitY
      (X.room_calling (g := g) (R' := (headSpec ws rm).room) hsize hmY hcY hframes (by rw [hlY]; omega) h4 h5) h1
  obtain ⟨mid, hmid⟩ := h.above
  have hfr : (U.setTop g).frames = (.java g :: mid) ++ below := by rw [State.frames_setTop' g h.top, hmid]; rfl
  obtain ⟨o, s₂, hsteps, -, hend, hq⟩ := Steps.callFree hM p X.admits X.cas X.clock (acts := []) hfr happ hPc trivial
  have hq' : vx_Q Qc XC mc ms free a (U.calling g mk a) o s₂ := hq
  rw [State.frames_setTop' g h.top] at hend
  obtain ⟨g₀, hg0⟩ := Option.isSome_iff_exists.mp h.top
  obtain ⟨r, hr⟩ := State.topJava?_eq_some.mp hg0
  have hr' : (({ U with heap := s₂.heap, slotsUsed := s₂.slotsUsed } : State).setVm s₂.vm).frames = .java g₀ :: r := hr
  rcases hq' with ⟨hqc, L, hfe, hL⟩ | ⟨q, rfl, E, ce, L, hx, hce, hcv, hcl, hW₂, hsm, hL⟩
  · obtain ⟨⟨v, rfl⟩, hW₂, e2, q2, q3, q4, q5, q6⟩ := id hfe
    have e3 : s₂ = ({ (U.calling g mk a).setFrames s₂.frames with heap := s₂.heap, slotsUsed := s₂.slotsUsed } : State).setVm s₂.vm := by
      have : s₂ = ({ s₂ with vm := (U.calling g mk a).vm } : State).setVm s₂.vm := rfl
      rw [e2] at this
      exact this
    obtain ⟨c₂, i₂, len₂, hc₂, hd₂, hf₂⟩ := hend
    have hW' : U.WarmedH s₂.vm := hW₂
    have hcc : c₂ = c := by
      have h1 : s₂.code? g.method = U.code? g.method := by
        rw [State.code?_eq, State.code?_eq, hW'.alike.method?]
      exact Option.some.inj (hc₂.symm.trans (h1.trans h.code))
    subst hcc
    have hlen : len₂ = len := by rw [hdg] at hd₂; cases hd₂; rfl
    subst hlen
    have hs₂ : s₂ = (({ U with heap := s₂.heap, slotsUsed := s₂.slotsUsed } : State).setVm s₂.vm).setTop { g with pc := g.pc + len₂, stack := v.toList ++ g.stack } := by
      refine e3.trans ?_
      rw [hf₂, State.calling_eq h.top, State.setFrames_setFrames, State.setTop_of_frames _ hr', hr]
      rfl
    have hsame : U.sameButNew ({ U with heap := s₂.heap, slotsUsed := s₂.slotsUsed } : State) L mc ms := by
      refine ⟨?_, q2, q3, q4, q5, q6⟩
      obtain ⟨t, ht, -⟩ := State.frames_cons hr
      show ({ U with heap := s₂.heap, slotsUsed := s₂.slotsUsed } : State) = { U.setFrames U.frames with heap := s₂.heap, slotsUsed := s₂.slotsUsed }
      rw [State.setFrames_self ht]
    subst hg
    refine Or.inl ⟨v, ⟨(({ U with heap := s₂.heap, slotsUsed := s₂.slotsUsed } : State).setVm s₂.vm), Ls ++ L, c0 + mc, s0 + ms⟩,
      ⟨X.admits, X.cas, X.clock, X.frames, X.room, X.hears, X.method, X.code, (X.here.setHeapUsed s₂.heap s₂.slotsUsed).setVm hW'.alike, X.tail, State.WarmedH.trans X.warmed hW', X.limits, X.bytes, X.same.trans (hsame.setVm s.vm)⟩,
      ⟨g, mk, s₂, L, rfl, rfl, hqc, rfl, hL, rfl, rfl⟩, ?_⟩
    show Steps p.tables e below _ ((({ U with heap := s₂.heap, slotsUsed := s₂.slotsUsed } : State).setVm s₂.vm).setTop { g with pc := g.pc + len₂, stack := v.toList ++ g.stack })
    rw [← hs₂]
    exact hsteps
  · obtain ⟨e2, q2, q3, q4, q5, q6⟩ := id hsm
    have e3 : s₂ = ({ (U.calling g mk a).setFrames s₂.frames with heap := s₂.heap, slotsUsed := s₂.slotsUsed } : State).setVm s₂.vm := by
      have : s₂ = ({ s₂ with vm := (U.calling g mk a).vm } : State).setVm s₂.vm := rfl
      rw [e2] at this
      exact this
    have hf₂ : s₂.frames = .throwing q :: .java g :: U.frames.tail := hend
    have hW' : U.WarmedH s₂.vm := hW₂
    have hs₂ : s₂ = ((({ U with heap := s₂.heap, slotsUsed := s₂.slotsUsed } : State).setVm s₂.vm).setTop g).pushFrame (.throwing q) := by
      refine e3.trans ?_
      rw [hf₂, State.calling_eq h.top, State.setFrames_setFrames, State.pushFrame, State.frames_setTop _ hr', State.setTop_of_frames _ hr', State.setFrames_setFrames, hr]
      rfl
    have hsame : U.sameButNew ({ U with heap := s₂.heap, slotsUsed := s₂.slotsUsed } : State) L mc ms := by
      refine ⟨?_, q2, q3, q4, q5, q6⟩
      obtain ⟨t, ht, -⟩ := State.frames_cons hr
      show ({ U with heap := s₂.heap, slotsUsed := s₂.slotsUsed } : State) = { U.setFrames U.frames with heap := s₂.heap, slotsUsed := s₂.slotsUsed }
      rw [State.setFrames_self ht]
    subst hg
    refine Or.inr ⟨q, ⟨(({ U with heap := s₂.heap, slotsUsed := s₂.slotsUsed } : State).setVm s₂.vm), Ls ++ L, c0 + mc, s0 + ms⟩,
      ⟨X.admits, X.cas, X.clock, X.frames, X.room, X.hears, X.method, X.code, (X.here.setHeapUsed s₂.heap s₂.slotsUsed).setVm hW'.alike, X.tail, State.WarmedH.trans X.warmed hW', X.limits, X.bytes, X.same.trans (hsame.setVm s.vm)⟩,
      ⟨g, mk, s₂, L, E, ce, rfl, rfl, hx, hce, hcv, hcl, rfl, hL, rfl, rfl⟩, ?_⟩
    show Steps p.tables e below _ (((({ U with heap := s₂.heap, slotsUsed := s₂.slotsUsed } : State).setVm s₂.vm).setTop g).pushFrame (.throwing q))
    rw [← hs₂]
    exact hsteps
end Payer
section Calls
variable {p : Program} {l : Launch} {e : Env} {R : Room} {s : State} {m : MethodId} {args : Array Value} {below : List Frame} {meth : Method} {c : Code} {T : State} {locs : List Loc} {cells slots : Nat}
theorem vx_callV (X : Stand p l e R s m args below meth c T locs cells slots) (hexec : p.tables.exec = Jvm.exec) {own C : String} {index : Nat} {y : MethodName} {bytes : ByteArray} {maxL : Nat} {ret : Option FieldType}
    (hown : s.vm.findClass own = some m.cls) (hlink : (Cond.methodLink own index y).before args s = true) (hinst : (Cond.instanceMethod y).before args s = true) (hsel : (Cond.selects C y y).before args s = true)
    (hcode : (Cond.code y bytes maxL ret).before args s = true) (hy : y.cls ≠ "java/lang/invoke/MethodHandle" ∧ y.cls ≠ "java/lang/invoke/VarHandle")
    {W9 : Nat} {Pre : Pt → Array Value → Prop} {Post : Pt → Array Value → Option Value → Pt → Prop} {PostX : Pt → Array Value → Addr → Pt → Prop} (hK : vx_Back l R p e below s args y 3 W9 Pre Post PostX)
    {b : Addr} {cellB : Cell} (hcell : T.heap[b]? = some cellB) (hobj : cellB.vm.isStatics = false) (hcls : s.vm.findClass C = some cellB.cls)
    {g : JFrame} (hg : g.method = m) (hsize : g.locals.size = c.maxLocals) {argsL rest : List Value} (hlen : ∀ sig, parseMethodDescriptor y.desc = some sig → argsL.length = sig.parameters.length)
    (hstack : g.stack = argsL.reverse ++ .ref b :: rest) (hW : 2 * g.monitorRoom + (rest.map fun v => v.category).sum ≤ W9) (hdg : decode c.code g.pc = .ok (.invokevirtual index, 3))
    (hpre : ∀ vm₁, s.WarmedH vm₁ → Pre ⟨T.setVm vm₁, locs, cells, slots⟩ (Value.ref b :: argsL).toArray) :
    (∃ (v : Option Value) (vm₁ : Vm) (B : Pt), s.WarmedH vm₁ ∧ Stand p l e R s m args below meth c B.U B.locs B.cells B.slots ∧ Post ⟨T.setVm vm₁, locs, cells, slots⟩ (Value.ref b :: argsL).toArray v B ∧
      ∀ target, Steps p.tables e below (B.U.setTop { g with pc := g.pc + 3, stack := v.toList ++ rest }) target → Steps p.tables e below (T.setTop g) target) ∨
    (∃ (q : Addr) (vm₁ : Vm) (B : Pt), s.WarmedH vm₁ ∧ Stand p l e R s m args below meth c B.U B.locs B.cells B.slots ∧ PostX ⟨T.setVm vm₁, locs, cells, slots⟩ (Value.ref b :: argsL).toArray q B ∧
      Steps p.tables e below (T.setTop g) ((B.U.setTop { g with stack := rest }).pushFrame (.throwing q))) := by
  obtain ⟨mk, methM, hnamed, hmethM, hstM, habM⟩ := Cond.instanceMethod_spec hinst
  obtain ⟨methM', cM, hmethM', -, -, -, -, -, -, hsigM⟩ := Cond.code_spec hnamed hcode
  cases hmethM.symm.trans hmethM'
  obtain ⟨c2, r2, m2, q1, q2, q3, q4, kP, hkP, hkPi⟩ := Cond.selects_spec hsel
  cases hcls.symm.trans q1
  cases (State.methodFound?_of_named hnamed hy).symm.trans q2
  cases hnamed.symm.trans q3
  have hselP : selectMethod e.platform s.vm cellB.cls mk = .method mk := by rw [Launch.admits_selectMethod X.admits]; exact q4
  obtain ⟨vm₁, X₁, hstep₁⟩ := X.invokevirtual hexec hown hlink hnamed hmethM hstM hkP hkPi hy (a := b) (cell := cellB) hcell
    (fun z h => by rw [h] at hobj; cases hobj) hselP hmethM habM hkP hkPi (g := g) hg (argsL := argsL) (rest := rest) (hlen _ hsigM) hstack hdg
  rcases hK m meth c ⟨T.setVm vm₁, locs, cells, slots⟩ { g with stack := rest } (.invokevirtual index) mk (Value.ref b :: argsL).toArray X₁ hg hsize hdg hW (X₁.named hnamed) (hpre vm₁ X₁.warmed) with ⟨v, B, X', hpost, hsteps⟩ | ⟨q, B, X', hpost, hsteps⟩
  · exact Or.inl ⟨v, vm₁, B, X₁.warmed, X', hpost, fun target h => hstep₁ _ fun acts => by rw [doInvoke_state]; exact hsteps.trans h⟩
  · exact Or.inr ⟨q, vm₁, B, X₁.warmed, X', hpost, hstep₁ _ fun acts => by rw [doInvoke_state]; exact hsteps⟩
theorem vx_callS (X : Stand p l e R s m args below meth c T locs cells slots) (hexec : p.tables.exec = Jvm.exec) {own : String} {index : Nat} {y : MethodName} {bytes : ByteArray} {maxL : Nat} {ret : Option FieldType}
    (hown : s.vm.findClass own = some m.cls) (hlink : (Cond.methodLink own index y).before args s = true) (hstat : (Cond.static y).before args s = true) (hinit : (Cond.initialized y.cls).before args s = true)
    (hcode : (Cond.code y bytes maxL ret).before args s = true) (hy : y.cls ≠ "java/lang/invoke/MethodHandle" ∧ y.cls ≠ "java/lang/invoke/VarHandle")
    {W9 : Nat} {Pre : Pt → Array Value → Prop} {Post : Pt → Array Value → Option Value → Pt → Prop} {PostX : Pt → Array Value → Addr → Pt → Prop} (hK : vx_Back l R p e below s args y 3 W9 Pre Post PostX)
    {g : JFrame} (hg : g.method = m) (hsize : g.locals.size = c.maxLocals) {argsL rest : List Value} (hlen : ∀ sig, parseMethodDescriptor y.desc = some sig → argsL.length = sig.parameters.length)
    (hstack : g.stack = argsL.reverse ++ rest) (hW : 2 * g.monitorRoom + (rest.map fun v => v.category).sum ≤ W9) (hdg : decode c.code g.pc = .ok (.invokestatic index, 3))
    (hpre : ∀ vm₁, s.WarmedH vm₁ → Pre ⟨T.setVm vm₁, locs, cells, slots⟩ argsL.toArray) :
    (∃ (v : Option Value) (vm₁ : Vm) (B : Pt), s.WarmedH vm₁ ∧ Stand p l e R s m args below meth c B.U B.locs B.cells B.slots ∧ Post ⟨T.setVm vm₁, locs, cells, slots⟩ argsL.toArray v B ∧
      ∀ target, Steps p.tables e below (B.U.setTop { g with pc := g.pc + 3, stack := v.toList ++ rest }) target → Steps p.tables e below (T.setTop g) target) ∨
    (∃ (q : Addr) (vm₁ : Vm) (B : Pt), s.WarmedH vm₁ ∧ Stand p l e R s m args below meth c B.U B.locs B.cells B.slots ∧ PostX ⟨T.setVm vm₁, locs, cells, slots⟩ argsL.toArray q B ∧
      Steps p.tables e below (T.setTop g) ((B.U.setTop { g with stack := rest }).pushFrame (.throwing q))) := by
  obtain ⟨mk, hnamed⟩ := Cond.code_named hcode
  obtain ⟨methM, cM, hmethM, -, -, -, -, -, -, hsigM⟩ := Cond.code_spec hnamed hcode
  have hstatic : methM.isStatic = true := Cond.static_spec hnamed hmethM hstat
  obtain ⟨kP, hkP, -⟩ := className_of_methodNamed hnamed
  have hinitP : kP.init = .initialized := Cond.initialized_spec (findClass_of_methodNamed hnamed) hkP hinit
  obtain ⟨vm₁, X₁, hstep₁⟩ := X.invokestatic hexec hown hlink hnamed hmethM hstatic hkP hinitP hy (g := g) hg (argsL := argsL) (rest := rest) (hlen _ hsigM) hstack hdg
  rcases hK m meth c ⟨T.setVm vm₁, locs, cells, slots⟩ { g with stack := rest } (.invokestatic index) mk argsL.toArray X₁ hg hsize hdg hW (X₁.named hnamed) (hpre vm₁ X₁.warmed) with ⟨v, B, X', hpost, hsteps⟩ | ⟨q, B, X', hpost, hsteps⟩
  · exact Or.inl ⟨v, vm₁, B, X₁.warmed, X', hpost, fun target h => hstep₁ _ fun acts => by rw [doInvoke_state]; exact hsteps.trans h⟩
  · exact Or.inr ⟨q, vm₁, B, X₁.warmed, X', hpost, hstep₁ _ fun acts => by rw [doInvoke_state]; exact hsteps⟩
end Calls
theorem vx_cls {s : State} {T : State} {vm₁ : Vm} {E : String} {k : ClassId} (hW : s.WarmedH vm₁) (h : (T.setVm vm₁).vm.findClass E = some k) : s.vm.findClass E = some k := by
  have h1 : vm₁.findClass E = some k := h
  rw [hW.alike.findClass] at h1
  exact h1
/-- the method's frame g, with q thrown over it -/
def vx_W (p : Program) (l : Launch) (e : Env) (R : Room) (s : State) (m : MethodId) (args : Array Value) (below : List Frame) (meth : Method) (c : Code) (H : Heap) (locs : List Loc) (cells slots : Nat) (Q : State → Prop) (g : JFrame) (q : Addr) : Prop :=
  ∀ T : State, T.heap = H → Stand p l e R s m args below meth c T locs cells slots → ∃ t, Steps p.tables e below ((T.setTop g).pushFrame (.throwing q)) t ∧ Q t
def vx_Run (p : Program) (l : Launch) (e : Env) (R : Room) (s : State) (m : MethodId) (args : Array Value) (below : List Frame) (meth : Method) (c : Code) (H : Heap) (locs : List Loc) (cells slots mc ms : Nat) (g : JFrame) (rest : List Value) (Qa : State → Outcome → State → Prop) (XC : String → State → State → Prop) (free : Addr → Prop) : Prop :=
  ∀ T : State, T.heap = H → Stand p l e R s m args below meth c T locs cells slots →
    (∃ (v : Option Value) (st₀ t T' : State) (L : List Loc), st₀.heap = H ∧ Stand p l e R s m args below meth c T' (locs ++ L) (cells + mc) (slots + ms) ∧ (∀ q ∈ L, free q.base) ∧ T'.heap = t.heap ∧ T'.vm = t.vm ∧ Qa st₀ (.returned v) t ∧
      Goes p e below T g T' { g with pc := g.pc + 3, stack := v.toList ++ rest }) ∨
    (∃ (q : Addr) (st₀ t T' : State) (L : List Loc) (E : String) (ce : Cell), st₀.heap = H ∧ Stand p l e R s m args below meth c T' (locs ++ L) (cells + mc) (slots + ms) ∧ (∀ z ∈ L, free z.base) ∧ T'.heap = t.heap ∧ T'.vm = t.vm ∧ XC E st₀ t ∧ t.heap[q]? = some ce ∧ ce.vm = .none ∧ s.vm.findClass E = some ce.cls ∧
      Steps p.tables e below (T.setTop g) ((T'.setTop { g with stack := rest }).pushFrame (.throwing q)))
def vx_X {S : Type} (px : S → Prop) (B : String → S → State → Prop) (A : Nat → Prop) : String → State → State → Prop := fun E st t => ∃ u : S, px u ∧ B E u t ∧ va_F A st t
section Runs
variable {p : Program} {l : Launch} {e : Env} {R : Room} {s : State} {m : MethodId} {args : Array Value} {below : List Frame} {meth : Method} {c : Code} {H : Heap} {locs : List Loc} {cells slots : Nat}
variable {y : MethodName} {bytes cc : ByteArray} {maxL nL mc ms n index : Nat} {ret : Option FieldType} {ws : List Cond} {rm : Room} {Pc : Array Value → State → Prop} {Qc : Array Value → State → Outcome → State → Prop} {XC : String → State → State → Prop} {free : Addr → Prop} {Ts : List Cond} {own C : String} {b : Addr} {As rest : List Value} {g : JFrame}
theorem vx_callBack (cb : CallB R s args own index y bytes maxL ret ws rm mc ms n) (hM : vx_Met l y ws rm Pc Qc XC mc ms free) (hbl : FrameBlind Pc) : vx_Back l R p e below s args y 3 8 (PreOf R mc ms Pc) (PostOf Qc mc ms free) (vx_Post XC mc ms free) := by
  obtain ⟨hrc, hrs, hfr, hlo, hws, hcw, -, hini, -⟩ := cb
  exact vx_back (bytes := bytes) (maxL := maxL) (ret := ret) hM hbl hrc hrs hfr hlo hws hcw (fun a' U hW => word_at hW (Or.inl (by first | rfl | simp [Cond.onTables, Cond.keeps, Cond.steady])) hini)
theorem vx_runV (S : CallFix p m c cc nL s args Ts own) (hM : vx_Met l y ws rm Pc Qc XC mc ms free) (cw : CallW R s args own C index y bytes maxL ret ws rm mc ms n) (hp : PreV s H C b Pc As)
    (hg : g.method = m) (hn : As.length = n) (hsize : g.locals.size = nL) (hstack : g.stack = As.reverse ++ .ref b :: rest) (hW : 2 * g.monitorRoom + (rest.map fun v => v.category).sum ≤ 8) (hdg : decode cc g.pc = .ok (.invokevirtual index, 3)) (hf : cells + mc ≤ R.cells ∧ slots + ms ≤ R.slots) :
    vx_Run p l e R s m args below meth c H locs cells slots mc ms g rest (Qc (Value.ref b :: As).toArray) XC free := by
  have hK : vx_Back l R p e below s args y 3 8 (PreOf R mc ms Pc) (PostOf Qc mc ms free) (vx_Post XC mc ms free) := vx_callBack cw.1 hM hp.1
  obtain ⟨⟨-, -, -, -, -, -, hcode, -, hy, hlen, hl⟩, hin, hse⟩ := cw
  obtain ⟨hx, hb, hml, ho, -⟩ := S
  obtain ⟨-, ⟨cellB, hcB, hoB, hclB⟩, hPc⟩ := hp
  intro T hT X
  rcases vx_callV X hx (C := C) (bytes := bytes) (maxL := maxL) (ret := ret) ho hl hin hse hcode hy hK (by rw [hT]; exact hcB) hoB hclB hg (hsize.trans hml.symm) (argsL := As) (rest := rest) (fun sig h => hn.trans (hlen sig h)) hstack hW (by rw [hb]; exact hdg)
    (fun vm₁ hW₁ => ⟨hf.1, hf.2, hPc (T.setVm vm₁) hT hW₁⟩) with ⟨v, vm₁, ⟨U', l2, c2, s2⟩, hW₁, X', ⟨g', mk, t, L, e1, e2, hq, h1, hL, h2, h3⟩, st⟩ | ⟨q, vm₁, ⟨U', l2, c2, s2⟩, hW₁, X', ⟨g', mk, t, L, E, ce, e1, e2, hq, hce, hcv, hcl, h1, hL, h2, h3⟩, st⟩
  · dsimp only [Pt.U, Pt.locs, Pt.cells, Pt.slots] at X' e1 e2 h1 h2 h3 st
    subst h1; subst h2; subst h3
    exact Or.inl ⟨v, (T.setVm vm₁).calling g' mk (Value.ref b :: As).toArray, t, U', L, hT, X', hL, e1, e2, hq, st⟩
  · dsimp only [Pt.U, Pt.locs, Pt.cells, Pt.slots] at X' e1 e2 h1 h2 h3 st hcl
    subst h1; subst h2; subst h3
    exact Or.inr ⟨q, (T.setVm vm₁).calling g' mk (Value.ref b :: As).toArray, t, U', L, E, ce, hT, X', hL, e1, e2, hq, hce, hcv, vx_cls hW₁ hcl, st⟩
theorem vx_runS (S : CallFix p m c cc nL s args Ts own) (hM : vx_Met l y ws rm Pc Qc XC mc ms free) (cw : CallB R s args own index y bytes maxL ret ws rm mc ms n ∧ (Cond.static y).before args s = true) (hp : PreS s H Pc As)
    (hg : g.method = m) (hn : As.length = n) (hsize : g.locals.size = nL) (hstack : g.stack = As.reverse ++ rest) (hW : 2 * g.monitorRoom + (rest.map fun v => v.category).sum ≤ 8) (hdg : decode cc g.pc = .ok (.invokestatic index, 3)) (hf : cells + mc ≤ R.cells ∧ slots + ms ≤ R.slots) :
    vx_Run p l e R s m args below meth c H locs cells slots mc ms g rest (Qc As.toArray) XC free := by
  have hK : vx_Back l R p e below s args y 3 8 (PreOf R mc ms Pc) (PostOf Qc mc ms free) (vx_Post XC mc ms free) := vx_callBack cw.1 hM hp.1
  obtain ⟨⟨-, -, -, -, -, -, hcode, hini, hy, hlen, hl⟩, hstt⟩ := cw
  obtain ⟨hx, hb, hml, ho, -⟩ := S
  intro T hT X
  rcases vx_callS X hx (bytes := bytes) (maxL := maxL) (ret := ret) ho hl hstt hini hcode hy hK hg (hsize.trans hml.symm) (argsL := As) (rest := rest) (fun sig h => hn.trans (hlen sig h)) hstack hW (by rw [hb]; exact hdg)
    (fun vm₁ hW₁ => ⟨hf.1, hf.2, hp.2 (T.setVm vm₁) hT hW₁⟩) with ⟨v, vm₁, ⟨U', l2, c2, s2⟩, hW₁, X', ⟨g', mk, t, L, e1, e2, hq, h1, hL, h2, h3⟩, st⟩ | ⟨q, vm₁, ⟨U', l2, c2, s2⟩, hW₁, X', ⟨g', mk, t, L, E, ce, e1, e2, hq, hce, hcv, hcl, h1, hL, h2, h3⟩, st⟩
  · dsimp only [Pt.U, Pt.locs, Pt.cells, Pt.slots] at X' e1 e2 h1 h2 h3 st
    subst h1; subst h2; subst h3
    exact Or.inl ⟨v, (T.setVm vm₁).calling g' mk As.toArray, t, U', L, hT, X', hL, e1, e2, hq, st⟩
  · dsimp only [Pt.U, Pt.locs, Pt.cells, Pt.slots] at X' e1 e2 h1 h2 h3 st hcl
    subst h1; subst h2; subst h3
    exact Or.inr ⟨q, (T.setVm vm₁).calling g' mk As.toArray, t, U', L, E, ce, hT, X', hL, e1, e2, hq, hce, hcv, vx_cls hW₁ hcl, st⟩
end Runs
section Rows
variable {p : Program} {l : Launch} {e : Env} {R : Room} {s : State} {m : MethodId} {args : Array Value} {below : List Frame} {meth : Method} {c : Code} {H : Heap} {locs : List Loc} {cells slots : Nat} {Q : State → Prop}
variable {mc ms : Nat} {free : Addr → Prop} {A0 A1 : Nat → Prop} {H0 : Heap} {a : Array Value} {pc : Nat} {ls : Array Slot} {st0 rest : List Value}
theorem vx_keep {st₀ t T' : State} {L : List Loc} (h0 : st₀.heap = H) (e1 : T'.heap = t.heap) (hS : va_S A0 H0 H locs) (hA : ∀ q, q < H.size → A1 q → A0 q) (hf : ∀ q, free q → A0 q) (hL : ∀ q ∈ L, free q.base) (hF : va_F A1 st₀ t) :
    H.size ≤ T'.heap.size ∧ (∀ q : Nat, q < H.size → ¬ A1 q → T'.heap[q]? = H[q]?) ∧ va_S A0 H0 T'.heap (locs ++ L) := by
  obtain ⟨hz, hk⟩ := hF
  rw [h0] at hz hk
  exact ⟨by rw [e1]; exact hz, fun q h1 h2 => by rw [e1]; exact hk q h1 h2,
    ⟨Nat.le_trans hS.1 (by rw [e1]; exact hz), fun q h1 h2 => by rw [e1, hk q (Nat.lt_of_lt_of_le h1 hS.1) (fun z => h2 (hA q (Nat.lt_of_lt_of_le h1 hS.1) z))]; exact hS.2.1 q h1 h2, fun q hq => by
      rcases List.mem_append.mp hq with h | h
      · exact hS.2.2 q h
      · exact hf _ (hL q h)⟩⟩
theorem vx_calli {S SX : Type} {post : Int32 → S → Prop} {px : SX → Prop} {B : S → State → Prop} {BX : String → SX → State → Prop} {AX : Nat → Prop} (hr : vx_Run p l e R s m args below meth c H locs cells slots mc ms (F0 m pc ls st0) rest (va_Qi post B A1 a) (vx_X px BX AX) free) (hS : va_S A0 H0 H locs) (hA : ∀ q, q < H.size → A1 q → A0 q) (hf : ∀ q, free q → A0 q) (hAX : ∀ q, q < H.size → AX q → A0 q)
    (kx : ∀ (E : String) (ce : Cell) (q9 : Addr) (u : SX) (t : State) (H1 : Heap) (locs1 : List Loc), t.heap = H1 → s.vm.Alike t.vm → px u → BX E u t → H.size ≤ H1.size → (∀ q : Nat, q < H.size → ¬ AX q → H1[q]? = H[q]?) → va_S A0 H0 H1 locs1 → H1[q9]? = some ce → ce.vm = .none → s.vm.findClass E = some ce.cls → vx_W p l e R s m args below meth c H1 locs1 (cells + mc) (slots + ms) Q (F0 m pc ls rest) q9)
    (kk : ∀ (r : Int32) (u : S) (t : State) (H1 : Heap) (locs1 : List Loc), t.heap = H1 → s.vm.Alike t.vm → post r u → B u t → H.size ≤ H1.size → (∀ q : Nat, q < H.size → ¬ A1 q → H1[q]? = H[q]?) → va_S A0 H0 H1 locs1 → W p l e R s m args below meth c H1 locs1 (cells + mc) (slots + ms) Q (F0 m (pc + 3) ls (.int r :: rest))) : W p l e R s m args below meth c H locs cells slots Q (F0 m pc ls st0) := by
  intro T hT X
  rcases hr T hT X with ⟨v, st₀, t, T', L, h0, X', hL, e1, e2, ⟨⟨r, u, hv, hp, hb⟩, hF⟩, st⟩ | ⟨q, st₀, t, T', L, E, ce, h0, X', hL, e1, e2, ⟨u, hp, hb, hF⟩, hce, hcv, hcl, st⟩
  · cases hv
    obtain ⟨k1, k2, k3⟩ := vx_keep h0 e1 hS hA hf hL hF
    obtain ⟨t2, a1, b1⟩ := kk r u t T'.heap (locs ++ L) e1.symm (by rw [← e2]; exact X'.warmed.alike) hp hb k1 k2 k3 T' rfl X'
    exact ⟨t2, st t2 a1, b1⟩
  · obtain ⟨k1, k2, k3⟩ := vx_keep h0 e1 hS hAX hf hL hF
    obtain ⟨t2, a1, b1⟩ := kx E ce q u t T'.heap (locs ++ L) e1.symm (by rw [← e2]; exact X'.warmed.alike) hp hb k1 k2 k3 (by rw [e1]; exact hce) hcv hcl T' rfl X'
    exact ⟨t2, st.trans a1, b1⟩
theorem vx_calll {S SX : Type} {post : Int64 → S → Prop} {px : SX → Prop} {B : S → State → Prop} {BX : String → SX → State → Prop} {AX : Nat → Prop} (hr : vx_Run p l e R s m args below meth c H locs cells slots mc ms (F0 m pc ls st0) rest (va_Ql post B A1 a) (vx_X px BX AX) free) (hS : va_S A0 H0 H locs) (hA : ∀ q, q < H.size → A1 q → A0 q) (hf : ∀ q, free q → A0 q) (hAX : ∀ q, q < H.size → AX q → A0 q)
    (kx : ∀ (E : String) (ce : Cell) (q9 : Addr) (u : SX) (t : State) (H1 : Heap) (locs1 : List Loc), t.heap = H1 → s.vm.Alike t.vm → px u → BX E u t → H.size ≤ H1.size → (∀ q : Nat, q < H.size → ¬ AX q → H1[q]? = H[q]?) → va_S A0 H0 H1 locs1 → H1[q9]? = some ce → ce.vm = .none → s.vm.findClass E = some ce.cls → vx_W p l e R s m args below meth c H1 locs1 (cells + mc) (slots + ms) Q (F0 m pc ls rest) q9)
    (kk : ∀ (r : Int64) (u : S) (t : State) (H1 : Heap) (locs1 : List Loc), t.heap = H1 → s.vm.Alike t.vm → post r u → B u t → H.size ≤ H1.size → (∀ q : Nat, q < H.size → ¬ A1 q → H1[q]? = H[q]?) → va_S A0 H0 H1 locs1 → W p l e R s m args below meth c H1 locs1 (cells + mc) (slots + ms) Q (F0 m (pc + 3) ls (.long r :: rest))) : W p l e R s m args below meth c H locs cells slots Q (F0 m pc ls st0) := by
  intro T hT X
  rcases hr T hT X with ⟨v, st₀, t, T', L, h0, X', hL, e1, e2, ⟨⟨r, u, hv, hp, hb⟩, hF⟩, st⟩ | ⟨q, st₀, t, T', L, E, ce, h0, X', hL, e1, e2, ⟨u, hp, hb, hF⟩, hce, hcv, hcl, st⟩
  · cases hv
    obtain ⟨k1, k2, k3⟩ := vx_keep h0 e1 hS hA hf hL hF
    obtain ⟨t2, a1, b1⟩ := kk r u t T'.heap (locs ++ L) e1.symm (by rw [← e2]; exact X'.warmed.alike) hp hb k1 k2 k3 T' rfl X'
    exact ⟨t2, st t2 a1, b1⟩
  · obtain ⟨k1, k2, k3⟩ := vx_keep h0 e1 hS hAX hf hL hF
    obtain ⟨t2, a1, b1⟩ := kx E ce q u t T'.heap (locs ++ L) e1.symm (by rw [← e2]; exact X'.warmed.alike) hp hb k1 k2 k3 (by rw [e1]; exact hce) hcv hcl T' rfl X'
    exact ⟨t2, st.trans a1, b1⟩
theorem vx_callf {S SX : Type} {post : UInt32 → S → Prop} {px : SX → Prop} {B : S → State → Prop} {BX : String → SX → State → Prop} {AX : Nat → Prop} (hr : vx_Run p l e R s m args below meth c H locs cells slots mc ms (F0 m pc ls st0) rest (va_Qf post B A1 a) (vx_X px BX AX) free) (hS : va_S A0 H0 H locs) (hA : ∀ q, q < H.size → A1 q → A0 q) (hf : ∀ q, free q → A0 q) (hAX : ∀ q, q < H.size → AX q → A0 q)
    (kx : ∀ (E : String) (ce : Cell) (q9 : Addr) (u : SX) (t : State) (H1 : Heap) (locs1 : List Loc), t.heap = H1 → s.vm.Alike t.vm → px u → BX E u t → H.size ≤ H1.size → (∀ q : Nat, q < H.size → ¬ AX q → H1[q]? = H[q]?) → va_S A0 H0 H1 locs1 → H1[q9]? = some ce → ce.vm = .none → s.vm.findClass E = some ce.cls → vx_W p l e R s m args below meth c H1 locs1 (cells + mc) (slots + ms) Q (F0 m pc ls rest) q9)
    (kk : ∀ (r : UInt32) (u : S) (t : State) (H1 : Heap) (locs1 : List Loc), t.heap = H1 → s.vm.Alike t.vm → post r u → B u t → H.size ≤ H1.size → (∀ q : Nat, q < H.size → ¬ A1 q → H1[q]? = H[q]?) → va_S A0 H0 H1 locs1 → W p l e R s m args below meth c H1 locs1 (cells + mc) (slots + ms) Q (F0 m (pc + 3) ls (.float r :: rest))) : W p l e R s m args below meth c H locs cells slots Q (F0 m pc ls st0) := by
  intro T hT X
  rcases hr T hT X with ⟨v, st₀, t, T', L, h0, X', hL, e1, e2, ⟨⟨r, u, hv, hp, hb⟩, hF⟩, st⟩ | ⟨q, st₀, t, T', L, E, ce, h0, X', hL, e1, e2, ⟨u, hp, hb, hF⟩, hce, hcv, hcl, st⟩
  · cases hv
    obtain ⟨k1, k2, k3⟩ := vx_keep h0 e1 hS hA hf hL hF
    obtain ⟨t2, a1, b1⟩ := kk r u t T'.heap (locs ++ L) e1.symm (by rw [← e2]; exact X'.warmed.alike) hp hb k1 k2 k3 T' rfl X'
    exact ⟨t2, st t2 a1, b1⟩
  · obtain ⟨k1, k2, k3⟩ := vx_keep h0 e1 hS hAX hf hL hF
    obtain ⟨t2, a1, b1⟩ := kx E ce q u t T'.heap (locs ++ L) e1.symm (by rw [← e2]; exact X'.warmed.alike) hp hb k1 k2 k3 (by rw [e1]; exact hce) hcv hcl T' rfl X'
    exact ⟨t2, st.trans a1, b1⟩
theorem vx_calld {S SX : Type} {post : UInt64 → S → Prop} {px : SX → Prop} {B : S → State → Prop} {BX : String → SX → State → Prop} {AX : Nat → Prop} (hr : vx_Run p l e R s m args below meth c H locs cells slots mc ms (F0 m pc ls st0) rest (va_Qd post B A1 a) (vx_X px BX AX) free) (hS : va_S A0 H0 H locs) (hA : ∀ q, q < H.size → A1 q → A0 q) (hf : ∀ q, free q → A0 q) (hAX : ∀ q, q < H.size → AX q → A0 q)
    (kx : ∀ (E : String) (ce : Cell) (q9 : Addr) (u : SX) (t : State) (H1 : Heap) (locs1 : List Loc), t.heap = H1 → s.vm.Alike t.vm → px u → BX E u t → H.size ≤ H1.size → (∀ q : Nat, q < H.size → ¬ AX q → H1[q]? = H[q]?) → va_S A0 H0 H1 locs1 → H1[q9]? = some ce → ce.vm = .none → s.vm.findClass E = some ce.cls → vx_W p l e R s m args below meth c H1 locs1 (cells + mc) (slots + ms) Q (F0 m pc ls rest) q9)
    (kk : ∀ (r : UInt64) (u : S) (t : State) (H1 : Heap) (locs1 : List Loc), t.heap = H1 → s.vm.Alike t.vm → post r u → B u t → H.size ≤ H1.size → (∀ q : Nat, q < H.size → ¬ A1 q → H1[q]? = H[q]?) → va_S A0 H0 H1 locs1 → W p l e R s m args below meth c H1 locs1 (cells + mc) (slots + ms) Q (F0 m (pc + 3) ls (.double r :: rest))) : W p l e R s m args below meth c H locs cells slots Q (F0 m pc ls st0) := by
  intro T hT X
  rcases hr T hT X with ⟨v, st₀, t, T', L, h0, X', hL, e1, e2, ⟨⟨r, u, hv, hp, hb⟩, hF⟩, st⟩ | ⟨q, st₀, t, T', L, E, ce, h0, X', hL, e1, e2, ⟨u, hp, hb, hF⟩, hce, hcv, hcl, st⟩
  · cases hv
    obtain ⟨k1, k2, k3⟩ := vx_keep h0 e1 hS hA hf hL hF
    obtain ⟨t2, a1, b1⟩ := kk r u t T'.heap (locs ++ L) e1.symm (by rw [← e2]; exact X'.warmed.alike) hp hb k1 k2 k3 T' rfl X'
    exact ⟨t2, st t2 a1, b1⟩
  · obtain ⟨k1, k2, k3⟩ := vx_keep h0 e1 hS hAX hf hL hF
    obtain ⟨t2, a1, b1⟩ := kx E ce q u t T'.heap (locs ++ L) e1.symm (by rw [← e2]; exact X'.warmed.alike) hp hb k1 k2 k3 (by rw [e1]; exact hce) hcv hcl T' rfl X'
    exact ⟨t2, st.trans a1, b1⟩
theorem vx_callv {S SX : Type} {post : S → Prop} {px : SX → Prop} {B : S → State → Prop} {BX : String → SX → State → Prop} {AX : Nat → Prop} (hr : vx_Run p l e R s m args below meth c H locs cells slots mc ms (F0 m pc ls st0) rest (va_Qv post B A1 a) (vx_X px BX AX) free) (hS : va_S A0 H0 H locs) (hA : ∀ q, q < H.size → A1 q → A0 q) (hf : ∀ q, free q → A0 q) (hAX : ∀ q, q < H.size → AX q → A0 q)
    (kx : ∀ (E : String) (ce : Cell) (q9 : Addr) (u : SX) (t : State) (H1 : Heap) (locs1 : List Loc), t.heap = H1 → s.vm.Alike t.vm → px u → BX E u t → H.size ≤ H1.size → (∀ q : Nat, q < H.size → ¬ AX q → H1[q]? = H[q]?) → va_S A0 H0 H1 locs1 → H1[q9]? = some ce → ce.vm = .none → s.vm.findClass E = some ce.cls → vx_W p l e R s m args below meth c H1 locs1 (cells + mc) (slots + ms) Q (F0 m pc ls rest) q9)
    (kk : ∀ (u : S) (t : State) (H1 : Heap) (locs1 : List Loc), t.heap = H1 → s.vm.Alike t.vm → post u → B u t → H.size ≤ H1.size → (∀ q : Nat, q < H.size → ¬ A1 q → H1[q]? = H[q]?) → va_S A0 H0 H1 locs1 → W p l e R s m args below meth c H1 locs1 (cells + mc) (slots + ms) Q (F0 m (pc + 3) ls (rest))) : W p l e R s m args below meth c H locs cells slots Q (F0 m pc ls st0) := by
  intro T hT X
  rcases hr T hT X with ⟨v, st₀, t, T', L, h0, X', hL, e1, e2, ⟨⟨u, hv, hp, hb⟩, hF⟩, st⟩ | ⟨q, st₀, t, T', L, E, ce, h0, X', hL, e1, e2, ⟨u, hp, hb, hF⟩, hce, hcv, hcl, st⟩
  · cases hv
    obtain ⟨k1, k2, k3⟩ := vx_keep h0 e1 hS hA hf hL hF
    obtain ⟨t2, a1, b1⟩ := kk u t T'.heap (locs ++ L) e1.symm (by rw [← e2]; exact X'.warmed.alike) hp hb k1 k2 k3 T' rfl X'
    exact ⟨t2, st t2 a1, b1⟩
  · obtain ⟨k1, k2, k3⟩ := vx_keep h0 e1 hS hAX hf hL hF
    obtain ⟨t2, a1, b1⟩ := kx E ce q u t T'.heap (locs ++ L) e1.symm (by rw [← e2]; exact X'.warmed.alike) hp hb k1 k2 k3 (by rw [e1]; exact hce) hcv hcl T' rfl X'
    exact ⟨t2, st.trans a1, b1⟩
/-- caught by the row x of this method's table; the rows ahead don't take it -/
theorem vx_catch {own name : String} {E : String} {ce : Cell} {q : Addr} (hown : s.vm.findClass own = some m.cls) (pre : List ExceptionTableEntry) (x : ExceptionTableEntry) (suf : List ExceptionTableEntry) (hsplit : c.exceptionTable.toList = pre ++ x :: suf)
    (hpass : ∀ z ∈ pre, covers z pc = false ∨ (z.catchType ≠ 0 ∧ ∃ nm : String, (Cond.classLink own z.catchType nm).before args s = true ∧ va_Nc E nm s)) (hx : covers x pc = true) (h0 : x.catchType ≠ 0)
    (hlink : (Cond.classLink own x.catchType name).before args s = true) (hcast : (Cond.castable E name).before args s = true) (hcell : H[q]? = some ce) (hv : ce.vm = .none) (hcl : s.vm.findClass E = some ce.cls)
    (kk : W p l e R s m args below meth c H locs cells slots Q (F0 m x.handlerPc ls [.ref q])) : vx_W p l e R s m args below meth c H locs cells slots Q (F0 m pc ls rest) q := by
  intro T hT X
  have hpl : e.platform.magicAccessors = ({} : Platform).magicAccessors := by rw [X.admits.platform]
  obtain ⟨c3, c4, hc3, hc4, hasg⟩ := Cond.castable_spec hcast
  cases Option.some.inj (hc3.symm.trans hcl)
  obtain ⟨c5, hc5, hcl5⟩ := Cond.classLink_spec hown hlink e.platform hpl
  cases Option.some.inj (hc4.symm.trans hc5)
  obtain ⟨vm', X', st⟩ := X.thenCaughtThrough q (g := F0 m pc ls rest) rfl (Steps.refl _) (by rw [hT]; exact hcell) (by rw [hv]; rfl) (by obtain ⟨k9, h9, -⟩ := Vm.findClass_spec hcl; exact ⟨k9, h9⟩) pre x suf hsplit
    (fun z hz => by
      rcases hpass z hz with h | ⟨hz0, nm, hl1, hn1⟩
      · exact Or.inl h
      · obtain ⟨c6, hc6, hcl6⟩ := Cond.classLink_spec hown hl1 e.platform hpl
        obtain ⟨a8, b8, h1, h2, h3⟩ := hn1
        cases Option.some.inj (h1.symm.trans hcl)
        cases Option.some.inj (h2.symm.trans hc6)
        exact Or.inr ⟨hz0, _, hcl6, h3⟩) hx (Or.inr ⟨h0, c4, hcl5, hasg⟩)
  obtain ⟨t, a1, b1⟩ := kk (T.setVm vm') hT X'
  exact ⟨t, st.trans a1, b1⟩
end Rows
section Ends
variable {p : Program} {l : Launch} {e : Env} {R : Room} {s : State} {m : MethodId} {args : Array Value} {below : List Frame} {meth : Method} {c : Code} {H : Heap} {locs : List Loc} {cells slots : Nat} {Q : State → Prop}
variable {mc ms : Nat} {free : Addr → Prop} {A0 A1 : Nat → Prop} {H0 : Heap} {a : Array Value} {ls : Array Slot} {st0 rest : List Value}
variable {Qc : Array Value → State → Outcome → State → Prop} {XC : String → State → State → Prop}
/-- what a body that may throw owes at its end -/
def vx_MQ (below : List Frame) (Qc : Array Value → State → Outcome → State → Prop) (XC : String → State → State → Prop) (a : Array Value) (s : State) (mc ms : Nat) (free : Addr → Prop) : State → Prop := fun t =>
  ∃ o, t.status = .running ∧ Ended t below o ∧ vx_Q Qc XC mc ms free a s o t
theorem vx_ret {g : JFrame} {mc ms : Nat} (k : W p l e R s m args below meth c H locs cells slots (MQ below Qc args s mc ms free) g) : W p l e R s m args below meth c H locs cells slots (vx_MQ below Qc XC args s mc ms free) g := by
  intro T hT X
  obtain ⟨t, a1, o, b1, b2, b3, b4⟩ := k T hT X
  exact ⟨t, a1, o, b1, b2, Or.inl ⟨b3, b4⟩⟩
/-- not caught here: it goes on to the caller -/
theorem vx_widen {g : JFrame} {q : Addr} {k n : Nat} (h1 : cells ≤ k) (h2 : slots ≤ n) (kk : vx_W p l e R s m args below meth c H locs k n Q g q) : vx_W p l e R s m args below meth c H locs cells slots Q g q := fun T hT X => kk T hT (stand_widen X h1 h2)
theorem vx_out {pc : Nat} {E : String} {ce : Cell} {q : Addr} {mc ms : Nat} (hout : ∀ x ∈ c.exceptionTable.toList, covers x pc = false) (hlocks : meth.locks = false) (hcell : H[q]? = some ce) (hv : ce.vm = .none) (hcl : s.vm.findClass E = some ce.cls)
    (hx : ∀ t : State, t.heap = H → s.vm.Alike t.vm → XC E s t) (hf : ∀ z ∈ locs, free z.base) (hc : cells ≤ mc) (hs : slots ≤ ms) :
    vx_W p l e R s m args below meth c H locs cells slots (vx_MQ below Qc XC args s mc ms free) (F0 m pc ls rest) q := by
  intro T hT X
  obtain ⟨st1, hrun, hend, hW, hsm⟩ := X.leaveThrown q (g := F0 m pc ls rest) rfl rfl rfl hout hlocks
  have hcell9 : (T.setFrames (.throwing q :: below)).heap[q]? = some ce := by
    show T.heap[q]? = some ce
    rw [hT]; exact hcell
  exact ⟨_, st1, .threw q, hrun, hend, Or.inr ⟨q, rfl, E, ce, locs, hx _ hT hW.alike, hcell9, hv, hcl, hW, hsm.mono hc hs, hf⟩⟩
theorem vx_frame {U : State} {k n : Nat} (h : s.sameButNew ({ U with vm := s.vm } : State) locs k n) : s.heap.size ≤ U.heap.size ∧ ∀ q : Nat, q < s.heap.size → (∀ z ∈ locs, z.base ≠ q) → U.heap[q]? = s.heap[q]? := by
  obtain ⟨-, h2, -, -, -, h6⟩ := h
  refine ⟨h2, fun q hq hz => ?_⟩
  obtain ⟨c9, e1, e2, e3, e4⟩ := h6 q _ (Array.getElem?_eq_getElem hq)
  have hs : c9.slots = (s.heap[q]).slots := Array.ext_getElem? fun i => e4 i fun hm => hz _ hm rfl
  have h9 : c9 = s.heap[q] := by
    rw [hs] at e2
    exact e2
  have e5 : U.heap[q]? = some c9 := e1
  rw [e5, h9, Array.getElem?_eq_getElem hq]
/-- the words of a throw but the four that speak of the heap -/
def vx_no (w : Cond) : Bool := decide (w ≠ .isRef (.static Bundle.tN "UNASSIGNED_STACK" Bundle.steD)) && decide (w ≠ .isRef (.static Bundle.tN "SUPPRESSED_SENTINEL" Bundle.listD)) && decide (w ≠ .laysStatic Bundle.tN "UNASSIGNED_STACK" Bundle.steD) && decide (w ≠ .laysStatic Bundle.tN "SUPPRESSED_SENTINEL" Bundle.listD)
def vx_at0 (own : String) (ic : Nat) (X : String) (names : List String) : List Cond := (Bundle.ownAtoms0 own ic X names).filter vx_no
def vx_atS (own : String) (ic : Nat) (X : String) (names : List String) : List Cond := (Bundle.ownAtoms own ic X names).filter vx_no
/-- a word that the tables alone decide, or a good one -/
def vx_ot (w : Cond) : Bool := w.onTables || goodWord w
theorem vx_ot_at {args a' : Array Value} {s U : State} {w : Cond} (hW : s.WarmedH U.vm) (hvm : s.vm = U.vm) (hg : vx_ot w = true) (h : w.before args s = true) : w.before a' U = true := by
  simp only [vx_ot, Bool.or_eq_true] at hg
  rcases hg with hg | hg
  · exact va_tabs hg hvm h
  · exact word_at hW (good_of_word hg) h
/-- a list's words: the good ones out of the method's own list, the others by premises of their own -/
theorem vx_hat {args : Array Value} {s : State} {L B : List Cond} (h1 : ∀ w ∈ L.filter goodWord, w.before args s = true) (h2 : ∀ w ∈ L.filter (fun w => !goodWord w), w ∈ B) (h3 : ∀ w ∈ B, w.before args s = true) : ∀ w ∈ L, w.before args s = true := by
  intro w hw
  by_cases g : goodWord w = true
  · exact h1 w (List.mem_filter.mpr ⟨hw, g⟩)
  · refine h3 w (h2 w (List.mem_filter.mpr ⟨hw, ?_⟩))
    show (!goodWord w) = true
    cases hgw : goodWord w
    · rfl
    · exact absurd hgw g
theorem vx_c {args : Array Value} {s : State} {w : Cond} {B : List Cond} (h : w.before args s = true) (t : ∀ w ∈ B, w.before args s = true) : ∀ w' ∈ w :: B, w'.before args s = true := fun w' h' => (List.mem_cons.mp h').elim (fun e => by rw [e]; exact h) (t w')
theorem vx_n {args : Array Value} {s : State} : ∀ w ∈ ([] : List Cond), w.before args s = true := fun _ h => nomatch h
theorem vx_own {args : Array Value} {s : State} {L : List Cond} (h1 : ∀ w ∈ L.filter vx_no, w.before args s = true)
    (hU : (Cond.isRef (.static Bundle.tN "UNASSIGNED_STACK" Bundle.steD)).before args s = true) (hN : (Cond.isRef (.static Bundle.tN "SUPPRESSED_SENTINEL" Bundle.listD)).before args s = true)
    (lU : (Cond.laysStatic Bundle.tN "UNASSIGNED_STACK" Bundle.steD).before args s = true) (lN : (Cond.laysStatic Bundle.tN "SUPPRESSED_SENTINEL" Bundle.listD).before args s = true) : ∀ w ∈ L, w.before args s = true := by
  intro w hw
  by_cases e1 : w = .isRef (.static Bundle.tN "UNASSIGNED_STACK" Bundle.steD)
  · rw [e1]; exact hU
  · by_cases e2 : w = .isRef (.static Bundle.tN "SUPPRESSED_SENTINEL" Bundle.listD)
    · rw [e2]; exact hN
    · by_cases e3 : w = .laysStatic Bundle.tN "UNASSIGNED_STACK" Bundle.steD
      · rw [e3]; exact lU
      · by_cases e4 : w = .laysStatic Bundle.tN "SUPPRESSED_SENTINEL" Bundle.listD
        · rw [e4]; exact lN
        · exact h1 w (List.mem_filter.mpr ⟨hw, by unfold vx_no; rw [decide_eq_true e1, decide_eq_true e2, decide_eq_true e3, decide_eq_true e4]; rfl⟩)
/-- where a static field lies, its class's statics cell in H -/
def vx_L (C n d : String) (A : Nat → Prop) (U : State) (H : Heap) : Prop := ∃ (c : ClassId) (k : Class) (i : Nat) (f : Field) (a : Nat) (cell : Cell), U.vm.findClass C = some c ∧ U.fieldFound? C n d = some (c, k, i, f) ∧ f.isStatic = true ∧ k.statics = some a ∧ H[a]? = some cell ∧ cell.vm.isStatics = true ∧ cell.cls = c ∧ f.slot < cell.slots.size ∧ k.staticTypes[f.slot]? = some f.type ∧ ¬ A a
theorem vx_L.moved {C n d : String} {A : Nat → Prop} {u U : State} {H : Heap} (hvm : u.vm.Alike U.vm) (h : vx_L C n d A u H) : vx_L C n d A U H := by
  obtain ⟨c, k, i, f, a, cell, h1, h2, h3, h4, h5, h6, h7, h8, h9, h10⟩ := h
  obtain ⟨k', hi', he⟩ := State.fieldFound?_setVm hvm h2
  exact ⟨c, k', i, f, a, cell, by rw [hvm.findClass]; exact h1, hi', h3, by rw [he]; exact h4, h5, h6, h7, h8, by rw [he]; exact h9, h10⟩
theorem vx_L.kept {C n d : String} {A : Nat → Prop} {U : State} {H H1 : Heap} (h : vx_L C n d A U H) (hq : ∀ a : Nat, a < H.size → ¬ A a → H1[a]? = H[a]?) : vx_L C n d A U H1 := by
  obtain ⟨c, k, i, f, a, cell, h1, h2, h3, h4, h5, h6, h7, h8, h9, h10⟩ := h
  exact ⟨c, k, i, f, a, cell, h1, h2, h3, h4, by rw [hq a (Array.getElem?_eq_some_iff.mp h5).1 h10]; exact h5, h6, h7, h8, h9, h10⟩
theorem vx_L.narrow {C n d : String} {A B : Nat → Prop} {U : State} {H : Heap} (h : vx_L C n d A U H) (hAB : ∀ q, B q → A q) : vx_L C n d B U H := by
  obtain ⟨c, k, i, f, a, cell, h1, h2, h3, h4, h5, h6, h7, h8, h9, h10⟩ := h
  exact ⟨c, k, i, f, a, cell, h1, h2, h3, h4, h5, h6, h7, h8, h9, fun z => h10 (hAB _ z)⟩
theorem vx_L.word {C n d : String} {A : Nat → Prop} {s : State} {args : Array Value} (h : vx_L C n d A s s.heap) : (Cond.laysStatic C n d).before args s = true := by
  obtain ⟨c, k, i, f, a, cell, h1, h2, h3, h4, h5, h6, h7, h8, h9, -⟩ := h
  show (Cond.laysStatic C n d).holds args s none s [] = true
  exact Cond.laysStatic_of h1 h2 h3 h4 h5 h6 h7 h8 h9
/-- .. and what it holds: null or some reference -/
def vx_Zq (C n d : String) (A : Nat → Prop) (U : State) (H : Heap) : Prop := va_Zq C n d A U H ∧ vx_L C n d A U H
theorem vx_Zq.moved {C n d : String} {A : Nat → Prop} {u U : State} {H : Heap} (hvm : u.vm.Alike U.vm) (h : vx_Zq C n d A u H) : vx_Zq C n d A U H := ⟨va_Zq.moved hvm h.1, vx_L.moved hvm h.2⟩
theorem vx_Zq.kept {C n d : String} {A : Nat → Prop} {U : State} {H H1 : Heap} (h : vx_Zq C n d A U H) (hq : ∀ a : Nat, a < H.size → ¬ A a → H1[a]? = H[a]?) : vx_Zq C n d A U H1 := ⟨va_Zq.kept h.1 hq, vx_L.kept h.2 hq⟩
theorem vx_Zq.narrow {C n d : String} {A B : Nat → Prop} {U : State} {H : Heap} (h : vx_Zq C n d A U H) (hAB : ∀ q, B q → A q) : vx_Zq C n d B U H := ⟨va_Zq.narrow h.1 hAB, vx_L.narrow h.2 hAB⟩
theorem vx_Zqof {args : Array Value} {s : State} {C n d : String} {A : Nat → Prop} (hl : (Cond.laysStatic C n d).before args s = true) (hini : (Cond.initialized C).before args s = true) (h : (Cond.isRef (.static C n d)).before args s = true) (hA : ∀ a : Nat, a < s.heap.size → ¬ A a) : vx_Zq C n d A s s.heap := by
  refine ⟨va_Zqof hl hini h hA, ?_⟩
  obtain ⟨c, k, i, f, a, cell, h1, h2, h3, h4, h5, h6, h7, h8, h9⟩ := Cond.laysStatic_spec hl
  exact ⟨c, k, i, f, a, cell, h1, h2, h3, h4, h5, h6, h7, h8, h9, hA a (Array.getElem?_eq_some_iff.mp h5).1⟩
theorem vx_isRef {C n d : String} {v : Value} {A : Nat → Prop} {s : State} {args : Array Value} (h : va_Z C n d v A s s.heap) (hv : v.isRef = true) : (Cond.isRef (.static C n d)).before args s = true := by
  obtain ⟨cf, kf, fi, f, a, cell, h1, h2, h3, h4, h5, h6, h7, -⟩ := h
  have he : (Term.static C n d).eval args s none [] s = some v := by
    simp [Term.eval, State.fieldNamed?, h1, h2, h4, h5, h6, h7]
  simp only [Cond.before, Cond.holds, Cond.value, he]
  cases v <;> simp_all [Value.isRef]
theorem vx_isRefq {C n d : String} {A : Nat → Prop} {s : State} {args : Array Value} (h : va_Zq C n d A s s.heap) : (Cond.isRef (.static C n d)).before args s = true := by
  rcases h with h | ⟨t, h⟩
  · exact vx_isRef h rfl
  · exact vx_isRef h rfl
/-- the same frame, seen from here: as if the method were called anew in this heap -/
theorem vx_rebase {T : State} (X : Stand p l e R s m args below meth c T locs cells slots) {R' : Room} (hf : R'.frames ≤ R.frames) (hl : R'.locals ≤ R.locals) (hc : cells + R'.cells ≤ R.cells) (hs : slots + R'.slots ≤ R.slots) :
    Stand p l e R' ((T.setVm s.vm).setFrames (.invoking m args :: below)) m args below meth c T [] 0 0 := by
  have htop : (T.setVm s.vm).topJava?.isSome := X.here.top
  have hF : ((T.setVm s.vm).setFrames (.invoking m args :: below)).frames = .invoking m args :: below := State.frames_setFrames _ (State.cur_lt_of_top htop)
  obtain ⟨g₀, hg0⟩ := Option.isSome_iff_exists.mp htop
  obtain ⟨r, hr⟩ := State.topJava?_eq_some.mp hg0
  have hl9 : e.platform.stackLimits (T.setVm s.vm).me = e.platform.stackLimits s.me := X.limits
  have hb9 : (T.setVm s.vm).me.stackBytes = s.me.stackBytes := X.bytes
  refine ⟨X.admits, X.cas, X.clock, hF, ?_, X.hears, X.method, X.code, X.here, X.tail, X.warmed, ?_, ?_, ?_⟩
  · have h := X.room
    have hU : ((T.setVm s.vm).setFrames (.invoking m args :: below)).localsInUse = s.localsInUse := by
      rw [State.localsInUse_invoking hF (meth := meth) (c := c) X.method X.code, State.localsInUse_invoking X.frames X.method X.code]
    simp only [State.hasRoom, Bool.and_eq_true, decide_eq_true_eq] at h ⊢
    obtain ⟨⟨⟨⟨h1, h2, h3, h4, h5, h6⟩, h7⟩, h8⟩, h9⟩ := h
    rw [X.frames, List.length_cons] at h2 h3
    have q1 := X.heapSize
    have q2 := X.used
    simp only [hF, hU, List.length_cons, State.stackLimits_setFrames, State.stackBytes_setFrames, hl9, hb9]
    refine ⟨⟨⟨⟨by omega, by omega, by omega, by omega, by omega, h6⟩, ?_⟩, ?_⟩, X.book⟩
    · show T.heap.size + R'.cells ≤ e.platform.maxCells
      omega
    · show T.slotsUsed + R'.slots ≤ e.platform.maxSlots
      omega
  · rw [State.stackLimits_setFrames]; rfl
  · rw [State.stackBytes_setFrames]; rfl
  · refine ⟨?_, Nat.le_refl _, Nat.le_refl _, ?_, ?_, fun a c9 h9 => ⟨c9, h9, rfl, rfl, fun _ _ => rfl⟩⟩
    · obtain ⟨t, ht, -⟩ := State.frames_cons hr
      show T.setVm s.vm = { ((T.setVm s.vm).setFrames (.invoking m args :: below)).setFrames (T.setVm s.vm).frames with heap := T.heap, slotsUsed := T.slotsUsed }
      rw [State.setFrames_setFrames, State.setFrames_self ht]
      rfl
    · show T.slotsUsed = T.slotsUsed + ((T.heap.toList.drop T.heap.size).map (·.slots.size)).sum
      rw [List.drop_eq_nil_of_le (Nat.le_of_eq Array.length_toList)]
      rfl
    · show ((T.heap.toList.drop T.heap.size).map (·.slots.size)).sum ≤ 0
      rw [List.drop_eq_nil_of_le (Nat.le_of_eq Array.length_toList)]
      exact Nat.le_refl _
/-- 'throw new E()': new; dup; invokespecial; athrow -/
theorem vx_throw0 {cc : ByteArray} {pc : Nat} (hexec : p.tables.exec = Jvm.exec) (hb : c.code = cc) (hl : l.stackTraces = false) {own cls : String} {names : List String} {ik ic mc ms : Nat} {A : Nat → Prop}
    (hown : s.vm.findClass own = some m.cls) (hcls : Bundle.fit cls = true) (hnames : ∀ n ∈ names, Bundle.fit n = true)
    (hk : (Cond.classLink own ik cls).before args s = true) (hini : (Cond.initialized cls).before args s = true) (hat : ∀ w ∈ vx_at0 own ic cls names, w.before args s = true)
    (hgood : ∀ w ∈ Cond.classLink own ik cls :: Cond.initialized cls :: vx_at0 own ic cls names, vx_ot w = true)
    (hU : vx_Zq Bundle.tN "UNASSIGNED_STACK" Bundle.steD A s s.heap) (hN : vx_Zq Bundle.tN "SUPPRESSED_SENTINEL" Bundle.listD A s s.heap) (hS : va_S A s.heap H locs) (hsize : ls.size = c.maxLocals)
    (d0 : decode cc pc = .ok (.new ik, 3)) (d3 : decode cc (pc + 3) = .ok (.dup, 1)) (d4 : decode cc (pc + 4) = .ok (.invokespecial ic, 3)) (d7 : decode cc (pc + 7) = .ok (.athrow, 1))
    (hout : ∀ x ∈ c.exceptionTable.toList, covers x (pc + 7) = false)
    (hRframes : names.length + 3 < R.frames) (hRlocals : (rest.map fun v => v.category).sum + (13 * (names.length + 1) + 42) ≤ R.locals) (hRcells : cells + 1 ≤ R.cells) (hRslots : slots + 6 ≤ R.slots) (hlocks : meth.locks = false)
    (hx : ∀ t : State, s.vm.Alike t.vm → H.size ≤ t.heap.size → (∀ q : Nat, q < H.size → t.heap[q]? = H[q]?) → XC cls s t)
    (hf : ∀ z ∈ locs, free z.base) (hc : cells + 1 ≤ mc) (hs : slots + 6 ≤ ms) :
    W p l e R s m args below meth c H locs cells slots (vx_MQ below Qc XC args s mc ms free) (F0 m pc ls rest) := by
  intro T hT X
  have htr : e.platform.stackTraces = false := (show e.platform.stackTraces = l.stackTraces by rw [X.admits.platform]).trans hl
  have Y := vx_rebase X (R' := { frames := R.frames, locals := R.locals, cells := 1, slots := 6 }) (Nat.le_refl _) (Nat.le_refl _) hRcells hRslots
  obtain ⟨s', hA⟩ : ∃ z, z = (T.setVm s.vm).setFrames (.invoking m args :: below) := ⟨_, rfl⟩
  rw [← hA] at Y
  have hvm : s'.vm = s.vm := by rw [hA]; rfl
  have hhp : s'.heap = H := by rw [hA]; exact hT
  have hW0 : s.WarmedH s'.vm := by rw [hvm]; exact State.WarmedH.refl s
  have hat' : ∀ w ∈ vx_at0 own ic cls names, w.before args s' = true := fun w hw => vx_ot_at hW0 hvm.symm (hgood w (List.mem_cons_of_mem _ (List.mem_cons_of_mem _ hw))) (hat w hw)
  have hk' : (Cond.classLink own ik cls).before args s' = true := vx_ot_at hW0 hvm.symm (hgood _ List.mem_cons_self) hk
  have hini' : (Cond.initialized cls).before args s' = true := vx_ot_at hW0 hvm.symm (hgood _ (List.mem_cons_of_mem _ List.mem_cons_self)) hini
  have hU' : vx_Zq Bundle.tN "UNASSIGNED_STACK" Bundle.steD A s' s'.heap := by rw [hhp]; exact vx_Zq.moved hW0.alike (hU.kept hS.2.1)
  have hN' : vx_Zq Bundle.tN "SUPPRESSED_SENTINEL" Bundle.listD A s' s'.heap := by rw [hhp]; exact vx_Zq.moved hW0.alike (hN.kept hS.2.1)
  have h : ∀ w ∈ Bundle.ownAtoms0 own ic cls names, w.before args s' = true := vx_own hat' (vx_isRefq hU'.1) (vx_isRefq hN'.1) hU'.2.word hN'.2.word
  have hown' : s'.vm.findClass own = some m.cls := by rw [hvm]; exact hown
  have hins : (Cond.instantiable cls 6).before args s' = true := h _ (by simp [Bundle.ownAtoms0])
  obtain ⟨vm₁, cX, kX, hfX, hkX, -, -, X₁, st1⟩ := Y.newCold hexec (own := own) (C := cls) (index := ik) (n := 6) hown' hk' hins hini'
    (g := F0 m pc ls rest) rfl (by rw [hb]; exact d0) (Nat.le_refl _) (Nat.le_refl _)
  generalize hT1 : (T.setVm vm₁).pushCell { cls := cX, slots := kX.instanceTypes.map defaultValue, vm := .none } = T1 at X₁ st1
  have hcat : (Value.ref T.heap.size).category = 1 := rfl
  have hcellA : T1.heap[T.heap.size]? = some (freshCell cX kX) := by rw [← hT1]; exact State.heap_pushCell_size _ _
  have d3' : decode c.code (pc + 3) = .ok (.dup, 1) := by rw [hb]; exact d3
  obtain ⟨U, hsteps, hrun, hend, hW, hsame, ce, hce, hO⟩ := X₁.ctorThrow0 hexec htr (own := own) (cls := cls) (names := names) (ic := ic) hown' hcls hnames h (fun x hx => nomatch hx) hfX hkX hcellA (by rw [hhp, hT]; exact Nat.le_refl _)
    (g := { method := m, pc := pc + 4, locals := ls, stack := .ref T.heap.size :: .ref T.heap.size :: rest, locked := none }) rfl hsize rfl rfl (rest := rest) rfl
    (by rw [hb]; exact d4) (by rw [hb]; exact d7) hout hRframes (by simp only [List.map_cons, List.sum_cons, hcat]; omega) hlocks
  obtain ⟨f1, f2⟩ := vx_frame hsame
  rw [hhp] at f1 f2
  have hWs : s.WarmedH U.vm := State.WarmedH.trans hW0 hW
  have hcl : s.vm.findClass cls = some ce.cls := by
    have h9 := hO.cls
    rw [hvm] at h9
    exact h9
  have hall : s.sameButNew ({ U with vm := s.vm } : State) locs mc ms := by
    subst hA
    obtain ⟨e1, e2⟩ := hsame
    rw [State.setFrames_setFrames] at e1
    have h2 : (T.setVm s.vm).sameButNew ({ U with vm := s.vm } : State) [] (0 + 1) (0 + 6) := ⟨e1, e2⟩
    have h3 := X.same.trans h2
    rw [List.append_nil] at h3
    exact h3.mono hc hs
  refine ⟨U, ?_, .threw T.heap.size, hrun, hend, Or.inr ⟨T.heap.size, rfl, cls, ce, locs, hx U hWs.alike f1 (fun q hq => f2 q hq (fun z hz => nomatch hz)), hce, hO.vm, hcl, hWs, hall, hf⟩⟩
  refine st1 _ ?_
  show Steps p.tables e below (T1.setTop { method := m, pc := pc + 3, locals := ls, stack := .ref T.heap.size :: rest, locked := none }) _
  jvm_step X₁.here [X₁.here.top, hexec, d3', Value.category]
  exact hsteps
/-- 'throw new E("text")': new; dup; ldc; invokespecial; athrow -/
theorem vx_throwS {cc : ByteArray} {pc : Nat} (hexec : p.tables.exec = Jvm.exec) (hb : c.code = cc) (hl : l.stackTraces = false) {own cls text : String} {names : List String} {ik is ic mc ms sa : Nat} {A : Nat → Prop}
    (hown : s.vm.findClass own = some m.cls) (hcls : Bundle.fit cls = true) (hnames : ∀ n ∈ names, Bundle.fit n = true)
    (hk : (Cond.classLink own ik cls).before args s = true) (hini : (Cond.initialized cls).before args s = true) (hstr : vk_R own is text sa s) (hat : ∀ w ∈ vx_atS own ic cls names, w.before args s = true)
    (hgood : ∀ w ∈ Cond.classLink own ik cls :: Cond.initialized cls :: vx_atS own ic cls names, vx_ot w = true)
    (hU : vx_Zq Bundle.tN "UNASSIGNED_STACK" Bundle.steD A s s.heap) (hN : vx_Zq Bundle.tN "SUPPRESSED_SENTINEL" Bundle.listD A s s.heap) (hS : va_S A s.heap H locs) (hsize : ls.size = c.maxLocals)
    (d0 : decode cc pc = .ok (.new ik, 3)) (d3 : decode cc (pc + 3) = .ok (.dup, 1)) (d4 : decode cc (pc + 4) = .ok (.ldc is, 2)) (d6 : decode cc (pc + 6) = .ok (.invokespecial ic, 3)) (d9 : decode cc (pc + 9) = .ok (.athrow, 1))
    (hout : ∀ x ∈ c.exceptionTable.toList, covers x (pc + 9) = false)
    (hRframes : names.length + 3 < R.frames) (hRlocals : (rest.map fun v => v.category).sum + (13 * (names.length + 1) + 43) ≤ R.locals) (hRcells : cells + 1 ≤ R.cells) (hRslots : slots + 6 ≤ R.slots) (hlocks : meth.locks = false)
    (hx : ∀ t : State, s.vm.Alike t.vm → H.size ≤ t.heap.size → (∀ q : Nat, q < H.size → t.heap[q]? = H[q]?) → XC cls s t)
    (hf : ∀ z ∈ locs, free z.base) (hc : cells + 1 ≤ mc) (hs : slots + 6 ≤ ms) :
    W p l e R s m args below meth c H locs cells slots (vx_MQ below Qc XC args s mc ms free) (F0 m pc ls rest) := by
  intro T hT X
  have htr : e.platform.stackTraces = false := (show e.platform.stackTraces = l.stackTraces by rw [X.admits.platform]).trans hl
  have Y := vx_rebase X (R' := { frames := R.frames, locals := R.locals, cells := 1, slots := 6 }) (Nat.le_refl _) (Nat.le_refl _) hRcells hRslots
  obtain ⟨s', hA⟩ : ∃ z, z = (T.setVm s.vm).setFrames (.invoking m args :: below) := ⟨_, rfl⟩
  rw [← hA] at Y
  have hvm : s'.vm = s.vm := by rw [hA]; rfl
  have hhp : s'.heap = H := by rw [hA]; exact hT
  have hW0 : s.WarmedH s'.vm := by rw [hvm]; exact State.WarmedH.refl s
  have hat' : ∀ w ∈ vx_atS own ic cls names, w.before args s' = true := fun w hw => vx_ot_at hW0 hvm.symm (hgood w (List.mem_cons_of_mem _ (List.mem_cons_of_mem _ hw))) (hat w hw)
  have hk' : (Cond.classLink own ik cls).before args s' = true := vx_ot_at hW0 hvm.symm (hgood _ List.mem_cons_self) hk
  have hini' : (Cond.initialized cls).before args s' = true := vx_ot_at hW0 hvm.symm (hgood _ (List.mem_cons_of_mem _ List.mem_cons_self)) hini
  have hU' : vx_Zq Bundle.tN "UNASSIGNED_STACK" Bundle.steD A s' s'.heap := by rw [hhp]; exact vx_Zq.moved hW0.alike (hU.kept hS.2.1)
  have hN' : vx_Zq Bundle.tN "SUPPRESSED_SENTINEL" Bundle.listD A s' s'.heap := by rw [hhp]; exact vx_Zq.moved hW0.alike (hN.kept hS.2.1)
  have h : ∀ w ∈ Bundle.ownAtoms own ic cls names, w.before args s' = true := vx_own hat' (vx_isRefq hU'.1) (vx_isRefq hN'.1) hU'.2.word hN'.2.word
  have hown' : s'.vm.findClass own = some m.cls := by rw [hvm]; exact hown
  have hins : (Cond.instantiable cls 6).before args s' = true := h _ (by simp [Bundle.ownAtoms])
  obtain ⟨vm₁, cX, kX, hfX, hkX, -, -, X₁, st1⟩ := Y.newCold hexec (own := own) (C := cls) (index := ik) (n := 6) hown' hk' hins hini'
    (g := F0 m pc ls rest) rfl (by rw [hb]; exact d0) (Nat.le_refl _) (Nat.le_refl _)
  generalize hT1 : (T.setVm vm₁).pushCell { cls := cX, slots := kX.instanceTypes.map defaultValue, vm := .none } = T1 at X₁ st1
  have hcat : (Value.ref T.heap.size).category = 1 := rfl
  have hcellA : T1.heap[T.heap.size]? = some (freshCell cX kX) := by rw [← hT1]; exact State.heap_pushCell_size _ _
  have d3' : decode c.code (pc + 3) = .ok (.dup, 1) := by rw [hb]; exact d3
  have d4' : decode c.code (pc + 4) = .ok (.ldc is, 2) := by rw [hb]; exact d4
  have hstr' : vk_R own is text sa s' := vk_R.warm hW0 hstr
  obtain ⟨U, hsteps, hrun, hend, hW, hsame, ce, hce, hO⟩ := X₁.ctorThrowS hexec htr (own := own) (cls := cls) (names := names) (ic := ic) hown' hcls hnames h (fun x hx => nomatch hx) hfX hkX hcellA (by rw [hhp, hT]; exact Nat.le_refl _) (msg := .ref sa) rfl
    (g := { method := m, pc := pc + 6, locals := ls, stack := .ref sa :: .ref T.heap.size :: .ref T.heap.size :: rest, locked := none }) rfl hsize rfl rfl (rest := rest) rfl
    (by rw [hb]; exact d6) (by rw [hb]; exact d9) hout hRframes (by simp only [List.map_cons, List.sum_cons, hcat]; omega) hlocks
  obtain ⟨f1, f2⟩ := vx_frame hsame
  rw [hhp] at f1 f2
  have hWs : s.WarmedH U.vm := State.WarmedH.trans hW0 hW
  have hcl : s.vm.findClass cls = some ce.cls := by
    have h9 := hO.cls
    rw [hvm] at h9
    exact h9
  have hall : s.sameButNew ({ U with vm := s.vm } : State) locs mc ms := by
    subst hA
    obtain ⟨e1, e2⟩ := hsame
    rw [State.setFrames_setFrames] at e1
    have h2 : (T.setVm s.vm).sameButNew ({ U with vm := s.vm } : State) [] (0 + 1) (0 + 6) := ⟨e1, e2⟩
    have h3 := X.same.trans h2
    rw [List.append_nil] at h3
    exact h3.mono hc hs
  refine ⟨U, ?_, .threw T.heap.size, hrun, hend, Or.inr ⟨T.heap.size, rfl, cls, ce, locs, hx U hWs.alike f1 (fun q hq => f2 q hq (fun z hz => nomatch hz)), hce, hO.vm, hcl, hWs, hall, hf⟩⟩
  refine st1 _ ?_
  show Steps p.tables e below (T1.setTop { method := m, pc := pc + 3, locals := ls, stack := .ref T.heap.size :: rest, locked := none }) _
  jvm_step X₁.here [X₁.here.top, hexec, d3', Value.category]
  exact X₁.ldcString hexec (own := own) (text := text) (index := is) (a := sa) hown' hstr'.1 hstr'.2
    (g := { method := m, pc := pc + 4, locals := ls, stack := .ref T.heap.size :: .ref T.heap.size :: rest, locked := none }) rfl d4' _ hsteps
/-- 'throw new E("text")', the text by a wide index -/
theorem vx_throwSW {cc : ByteArray} {pc : Nat} (hexec : p.tables.exec = Jvm.exec) (hb : c.code = cc) (hl : l.stackTraces = false) {own cls text : String} {names : List String} {ik is ic mc ms sa : Nat} {A : Nat → Prop}
    (hown : s.vm.findClass own = some m.cls) (hcls : Bundle.fit cls = true) (hnames : ∀ n ∈ names, Bundle.fit n = true)
    (hk : (Cond.classLink own ik cls).before args s = true) (hini : (Cond.initialized cls).before args s = true) (hstr : vk_R own is text sa s) (hat : ∀ w ∈ vx_atS own ic cls names, w.before args s = true)
    (hgood : ∀ w ∈ Cond.classLink own ik cls :: Cond.initialized cls :: vx_atS own ic cls names, vx_ot w = true)
    (hU : vx_Zq Bundle.tN "UNASSIGNED_STACK" Bundle.steD A s s.heap) (hN : vx_Zq Bundle.tN "SUPPRESSED_SENTINEL" Bundle.listD A s s.heap) (hS : va_S A s.heap H locs) (hsize : ls.size = c.maxLocals)
    (d0 : decode cc pc = .ok (.new ik, 3)) (d3 : decode cc (pc + 3) = .ok (.dup, 1)) (d4 : decode cc (pc + 4) = .ok (.ldc_w is, 3)) (d7 : decode cc (pc + 7) = .ok (.invokespecial ic, 3)) (d10 : decode cc (pc + 10) = .ok (.athrow, 1))
    (hout : ∀ x ∈ c.exceptionTable.toList, covers x (pc + 10) = false)
    (hRframes : names.length + 3 < R.frames) (hRlocals : (rest.map fun v => v.category).sum + (13 * (names.length + 1) + 43) ≤ R.locals) (hRcells : cells + 1 ≤ R.cells) (hRslots : slots + 6 ≤ R.slots) (hlocks : meth.locks = false)
    (hx : ∀ t : State, s.vm.Alike t.vm → H.size ≤ t.heap.size → (∀ q : Nat, q < H.size → t.heap[q]? = H[q]?) → XC cls s t)
    (hf : ∀ z ∈ locs, free z.base) (hc : cells + 1 ≤ mc) (hs : slots + 6 ≤ ms) :
    W p l e R s m args below meth c H locs cells slots (vx_MQ below Qc XC args s mc ms free) (F0 m pc ls rest) := by
  intro T hT X
  have htr : e.platform.stackTraces = false := (show e.platform.stackTraces = l.stackTraces by rw [X.admits.platform]).trans hl
  have Y := vx_rebase X (R' := { frames := R.frames, locals := R.locals, cells := 1, slots := 6 }) (Nat.le_refl _) (Nat.le_refl _) hRcells hRslots
  obtain ⟨s', hA⟩ : ∃ z, z = (T.setVm s.vm).setFrames (.invoking m args :: below) := ⟨_, rfl⟩
  rw [← hA] at Y
  have hvm : s'.vm = s.vm := by rw [hA]; rfl
  have hhp : s'.heap = H := by rw [hA]; exact hT
  have hW0 : s.WarmedH s'.vm := by rw [hvm]; exact State.WarmedH.refl s
  have hat' : ∀ w ∈ vx_atS own ic cls names, w.before args s' = true := fun w hw => vx_ot_at hW0 hvm.symm (hgood w (List.mem_cons_of_mem _ (List.mem_cons_of_mem _ hw))) (hat w hw)
  have hk' : (Cond.classLink own ik cls).before args s' = true := vx_ot_at hW0 hvm.symm (hgood _ List.mem_cons_self) hk
  have hini' : (Cond.initialized cls).before args s' = true := vx_ot_at hW0 hvm.symm (hgood _ (List.mem_cons_of_mem _ List.mem_cons_self)) hini
  have hU' : vx_Zq Bundle.tN "UNASSIGNED_STACK" Bundle.steD A s' s'.heap := by rw [hhp]; exact vx_Zq.moved hW0.alike (hU.kept hS.2.1)
  have hN' : vx_Zq Bundle.tN "SUPPRESSED_SENTINEL" Bundle.listD A s' s'.heap := by rw [hhp]; exact vx_Zq.moved hW0.alike (hN.kept hS.2.1)
  have h : ∀ w ∈ Bundle.ownAtoms own ic cls names, w.before args s' = true := vx_own hat' (vx_isRefq hU'.1) (vx_isRefq hN'.1) hU'.2.word hN'.2.word
  have hown' : s'.vm.findClass own = some m.cls := by rw [hvm]; exact hown
  have hins : (Cond.instantiable cls 6).before args s' = true := h _ (by simp [Bundle.ownAtoms])
  obtain ⟨vm₁, cX, kX, hfX, hkX, -, -, X₁, st1⟩ := Y.newCold hexec (own := own) (C := cls) (index := ik) (n := 6) hown' hk' hins hini'
    (g := F0 m pc ls rest) rfl (by rw [hb]; exact d0) (Nat.le_refl _) (Nat.le_refl _)
  generalize hT1 : (T.setVm vm₁).pushCell { cls := cX, slots := kX.instanceTypes.map defaultValue, vm := .none } = T1 at X₁ st1
  have hcat : (Value.ref T.heap.size).category = 1 := rfl
  have hcellA : T1.heap[T.heap.size]? = some (freshCell cX kX) := by rw [← hT1]; exact State.heap_pushCell_size _ _
  have d3' : decode c.code (pc + 3) = .ok (.dup, 1) := by rw [hb]; exact d3
  have d4' : decode c.code (pc + 4) = .ok (.ldc_w is, 3) := by rw [hb]; exact d4
  have hstr' : vk_R own is text sa s' := vk_R.warm hW0 hstr
  obtain ⟨U, hsteps, hrun, hend, hW, hsame, ce, hce, hO⟩ := X₁.ctorThrowS hexec htr (own := own) (cls := cls) (names := names) (ic := ic) hown' hcls hnames h (fun x hx => nomatch hx) hfX hkX hcellA (by rw [hhp, hT]; exact Nat.le_refl _) (msg := .ref sa) rfl
    (g := { method := m, pc := pc + 7, locals := ls, stack := .ref sa :: .ref T.heap.size :: .ref T.heap.size :: rest, locked := none }) rfl hsize rfl rfl (rest := rest) rfl
    (by rw [hb]; exact d7) (by rw [hb]; exact d10) hout hRframes (by simp only [List.map_cons, List.sum_cons, hcat]; omega) hlocks
  obtain ⟨f1, f2⟩ := vx_frame hsame
  rw [hhp] at f1 f2
  have hWs : s.WarmedH U.vm := State.WarmedH.trans hW0 hW
  have hcl : s.vm.findClass cls = some ce.cls := by
    have h9 := hO.cls
    rw [hvm] at h9
    exact h9
  have hall : s.sameButNew ({ U with vm := s.vm } : State) locs mc ms := by
    subst hA
    obtain ⟨e1, e2⟩ := hsame
    rw [State.setFrames_setFrames] at e1
    have h2 : (T.setVm s.vm).sameButNew ({ U with vm := s.vm } : State) [] (0 + 1) (0 + 6) := ⟨e1, e2⟩
    have h3 := X.same.trans h2
    rw [List.append_nil] at h3
    exact h3.mono hc hs
  refine ⟨U, ?_, .threw T.heap.size, hrun, hend, Or.inr ⟨T.heap.size, rfl, cls, ce, locs, hx U hWs.alike f1 (fun q hq => f2 q hq (fun z hz => nomatch hz)), hce, hO.vm, hcl, hWs, hall, hf⟩⟩
  refine st1 _ ?_
  show Steps p.tables e below (T1.setTop { method := m, pc := pc + 3, locals := ls, stack := .ref T.heap.size :: rest, locked := none }) _
  jvm_step X₁.here [X₁.here.top, hexec, d3', Value.category]
  exact X₁.ldcStringW hexec (own := own) (text := text) (index := is) (a := sa) hown' hstr'.1 hstr'.2
    (g := { method := m, pc := pc + 4, locals := ls, stack := .ref T.heap.size :: .ref T.heap.size :: rest, locked := none }) rfl d4' _ hsteps
end Ends
section Bodies
variable {l : Launch}
theorem vx_ofW {y : MethodName} {ws ws' : List Cond} {rm : Room} {Pc : Array Value → State → Prop} {Qc : Array Value → State → Outcome → State → Prop} {XC : String → State → State → Prop} {mc ms : Nat} {free : Addr → Prop} {cc : ByteArray} {maxL : Nat} {ret : Option FieldType}
    (hy : plainName y.cls = true) (hw : ws = Cond.code y cc maxL ret :: ws')
    (body : ∀ p e s m args below meth c s₁, BodyLoose p l y (headSpec ws rm) cc maxL ret e s m args below meth c s₁ → c.maxLocals = maxL → (∀ x ∈ c.exceptionTable.toList, False) → Pc args s →
      W p l e (headSpec ws rm).room s m args below meth c s.heap [] 0 0 (vx_MQ below Qc XC args s mc ms free) (entryFrame m args maxL)) : vx_Met l y ws rm Pc Qc XC mc ms free := by
  refine MetFree.of_bodyS (code := cc) (maxLocals := maxL) (ret := ret) hy ?_ ?_
  · intro args s m h hn
    obtain ⟨meth, c, h1, h2, h3, h4, h5, h6, -, -⟩ := Cond.code_spec hn (atoms_spec (ws := ws) h _ (by rw [hw]; exact List.mem_cons_self))
    exact ⟨meth, c, h1, h2, h3, h4, h5, h6⟩
  · intro p e s m args below meth c s₁ B hml hP _
    have hh0 : s₁.heap = s.heap := by rw [B.state]; rfl
    have ht : ∀ x ∈ c.exceptionTable.toList, False := by
      obtain ⟨meth9, c9, h1, h2, -, -, -, -, h7, -⟩ := Cond.code_spec B.named (atoms_spec (ws := ws) B.pre _ (by rw [hw]; exact List.mem_cons_self))
      cases Option.some.inj (h1.symm.trans B.method)
      cases Option.some.inj (h2.symm.trans (Stand.of_body B).code)
      intro x hx
      rw [Array.isEmpty_iff.mp h7] at hx
      cases hx
    obtain ⟨t, a1, o, b1, b2, b3⟩ := body p e s m args below meth c s₁ B hml ht hP s₁ hh0 (Stand.of_body B)
    exact ⟨t, o, a1, b1, b2, b3⟩
/-- the table of a body with handlers -/
theorem vx_table {p : Program} {x y : MethodName} {S : Spec} {cc bytes : ByteArray} {maxL maxL' : Nat} {ret ret' : Option FieldType} {e : Env} {s s₁ : State} {m : MethodId} {args : Array Value} {below : List Frame} {meth : Method} {c : Code} {hh : List (Nat × Nat × Nat × Nat)}
    (B : BodyLoose p l y S cc maxL ret e s m args below meth c s₁) (h : (Cond.codeWith y bytes maxL' ret' hh).before args s = true) : c.exceptionTable.toList = tableOf hh := by
  obtain ⟨m9, meth9, c9, hn9, h1, h2, -, -, h6, -⟩ := Cond.codeWith_spec h
  cases Option.some.inj (hn9.symm.trans B.named)
  cases Option.some.inj (h1.symm.trans B.method)
  cases Option.some.inj (h2.symm.trans (Stand.of_body B).code)
  rw [← h6, table_eq]
end Bodies
end VXA
/-! ===== END ===== -/
/-! ===== BEGIN a static call of a method with an exception table ===== -/
section VXS
variable {p : Program} {l : Launch} {e : Env} {R : Room} {s : State} {m : MethodId} {args : Array Value} {below : List Frame} {meth : Method} {c : Code} {T : State} {H : Heap} {locs : List Loc} {cells slots : Nat}
abbrev vx_CSW (R : Room) (s : State) (args : Array Value) (own : String) (index : Nat) (y : MethodName) (bytes : ByteArray) (maxL : Nat) (ret : Option FieldType) (hh : List (Nat × Nat × Nat × Nat)) (ws : List Cond) (rm : Room) (mc ms n : Nat) : Prop :=
  (rm.cells = mc ∧ rm.slots = ms ∧ rm.frames + 1 ≤ R.frames ∧ 8 + (maxL + 11) + rm.locals ≤ R.locals ∧ (∀ w ∈ ws, ∀ (a' : Array Value) (U : State), s.WarmedH U.vm → w.before a' U = true) ∧ Cond.codeWith y bytes maxL ret hh ∈ ws) ∧
  (Cond.codeWith y bytes maxL ret hh).before args s = true ∧ (Cond.initialized y.cls).before args s = true ∧ (y.cls ≠ "java/lang/invoke/MethodHandle" ∧ y.cls ≠ "java/lang/invoke/VarHandle") ∧
  (∀ sig, parseMethodDescriptor y.desc = some sig → n = sig.parameters.length) ∧ (Cond.methodLink own index y).before args s = true ∧ (Cond.static y).before args s = true
theorem vx_cwSW {own : String} {index maxL mc ms : Nat} {y : MethodName} {bytes : ByteArray} {ret : Option FieldType} {hh : List (Nat × Nat × Nat × Nat)} {Ts ws ws' : List Cond} {rm : Room} (n : Nat) (ht : ∀ w ∈ Ts, w.before args s = true) (hT : GoodIn Ts (va_wsS own index y ws)) (hw : ws = Cond.codeWith y bytes maxL ret hh :: ws') (hrc : rm.cells = mc) (hrs : rm.slots = ms)
    (hd : y.cls ≠ "java/lang/invoke/MethodHandle" ∧ y.cls ≠ "java/lang/invoke/VarHandle" ∧ (parseMethodDescriptor y.desc).map (fun d => d.parameters.length) = some n) (hR : rm.frames + 1 ≤ R.frames ∧ 8 + (maxL + 11) + rm.locals ≤ R.locals) :
    vx_CSW R s args own index y bytes maxL ret hh ws rm mc ms n := by
  have ok : ∀ w ∈ va_wsS own index y ws, w.before args s = true := fun w h => ht w (hT w h).1
  have hG : GoodIn Ts ws := fun w h => hT w (by unfold va_wsS; exact List.mem_append_right _ h)
  have hc : Cond.codeWith y bytes maxL ret hh ∈ ws := by rw [hw]; exact List.mem_cons_self
  refine ⟨⟨hrc, hrs, hR.1, hR.2, pay_in ht hG, hc⟩, ht _ (hG _ hc).1, ok _ (by simp [va_wsS]), ⟨hd.1, hd.2.1⟩, fun sig h => ?_, ok _ (by simp [va_wsS]), ok _ (by simp [va_wsS])⟩
  have h2 := hd.2.2
  rw [h] at h2
  exact (Option.some.inj h2).symm
theorem vx_callSW (X : Stand p l e R s m args below meth c T locs cells slots) (hexec : p.tables.exec = Jvm.exec) {own : String} {index : Nat} {y : MethodName} {bytes : ByteArray} {maxL : Nat} {ret : Option FieldType} {hh : List (Nat × Nat × Nat × Nat)}
    (hown : s.vm.findClass own = some m.cls) (hlink : (Cond.methodLink own index y).before args s = true) (hstat : (Cond.static y).before args s = true) (hinit : (Cond.initialized y.cls).before args s = true)
    (hcode : (Cond.codeWith y bytes maxL ret hh).before args s = true) (hy : y.cls ≠ "java/lang/invoke/MethodHandle" ∧ y.cls ≠ "java/lang/invoke/VarHandle")
    {W9 : Nat} {Pre : Pt → Array Value → Prop} {Post : Pt → Array Value → Option Value → Pt → Prop} (hK : Back l R p e below s args y 3 W9 Pre Post)
    {g : JFrame} (hg : g.method = m) (hsize : g.locals.size = c.maxLocals) {argsL rest : List Value} (hlen : ∀ sig, parseMethodDescriptor y.desc = some sig → argsL.length = sig.parameters.length)
    (hstack : g.stack = argsL.reverse ++ rest) (hW : 2 * g.monitorRoom + (rest.map fun v => v.category).sum ≤ W9) (hdg : decode c.code g.pc = .ok (.invokestatic index, 3))
    (hpre : ∀ vm₁, s.WarmedH vm₁ → Pre ⟨T.setVm vm₁, locs, cells, slots⟩ argsL.toArray) :
    ∃ (v : Option Value) (vm₁ : Vm) (B : Pt), s.WarmedH vm₁ ∧ Stand p l e R s m args below meth c B.U B.locs B.cells B.slots ∧ Post ⟨T.setVm vm₁, locs, cells, slots⟩ argsL.toArray v B ∧
      ∀ target, Steps p.tables e below (B.U.setTop { g with pc := g.pc + 3, stack := v.toList ++ rest }) target → Steps p.tables e below (T.setTop g) target := by
  obtain ⟨mk, methM, cM, hnamed, hmethM, -, -, -, -, -, -, hsigM⟩ := Cond.codeWith_spec hcode
  have hstatic : methM.isStatic = true := Cond.static_spec hnamed hmethM hstat
  obtain ⟨kP, hkP, -⟩ := className_of_methodNamed hnamed
  have hinitP : kP.init = .initialized := Cond.initialized_spec (findClass_of_methodNamed hnamed) hkP hinit
  obtain ⟨vm₁, X₁, hstep₁⟩ := X.invokestatic hexec hown hlink hnamed hmethM hstatic hkP hinitP hy (g := g) hg (argsL := argsL) (rest := rest) (hlen _ hsigM) hstack hdg
  obtain ⟨v, B, X', hpost, hsteps⟩ := hK m meth c ⟨T.setVm vm₁, locs, cells, slots⟩ { g with stack := rest } (.invokestatic index) mk argsL.toArray X₁ hg hsize hdg hW (X₁.named hnamed) (hpre vm₁ X₁.warmed)
  exact ⟨v, vm₁, B, X₁.warmed, X', hpost, fun target h => hstep₁ _ fun acts => by rw [doInvoke_state]; exact hsteps.trans h⟩
theorem vx_runSW {y : MethodName} {bytes cc : ByteArray} {maxL nL mc ms n index : Nat} {ret : Option FieldType} {hh : List (Nat × Nat × Nat × Nat)} {ws : List Cond} {rm : Room} {Pc : Array Value → State → Prop} {Qc : Array Value → State → Outcome → State → Prop} {free : Addr → Prop} {Ts : List Cond} {own : String} {As rest : List Value} {g : JFrame}
    (S : CallFix p m c cc nL s args Ts own) (hM : Met l y ws rm Pc Qc mc ms free) (cw : vx_CSW R s args own index y bytes maxL ret hh ws rm mc ms n) (hp : PreS s H Pc As)
    (hg : g.method = m) (hn : As.length = n) (hsize : g.locals.size = nL) (hstack : g.stack = As.reverse ++ rest) (hW : 2 * g.monitorRoom + (rest.map fun v => v.category).sum ≤ 8) (hdg : decode cc g.pc = .ok (.invokestatic index, 3)) (hf : cells + mc ≤ R.cells ∧ slots + ms ≤ R.slots) :
    va_Run p l e R s m args below meth c H locs cells slots mc ms g rest (Qc As.toArray) (free) := by
  obtain ⟨⟨hrc, hrs, hfr, hlo, hws, hcw⟩, hcode, hini, hy, hlen, hl, hstt⟩ := cw
  have hK : Back l R p e below s args y 3 8 (PreOf R mc ms Pc) (PostOf Qc mc ms free) := va_backW (hh := hh) (bytes := bytes) (maxL := maxL) (ret := ret) hM hp.1 hrc hrs hfr hlo hws hcw (fun a' U hW => word_at hW (Or.inl (by first | rfl | simp [Cond.onTables, Cond.keeps, Cond.steady])) hini)
  obtain ⟨hx, hb, hml, ho, -⟩ := S
  intro T hT X
  obtain ⟨v, vm₁, ⟨U', l2, c2, s2⟩, hW₁, X', ⟨g', mk, t, L, e1, e2, hq, h1, hL, h2, h3⟩, st⟩ := vx_callSW X hx (hh := hh) (bytes := bytes) (maxL := maxL) (ret := ret) ho hl hstt hini hcode hy hK hg (hsize.trans hml.symm) (argsL := As) (rest := rest) (fun sig h => hn.trans (hlen sig h)) hstack hW (by rw [hb]; exact hdg)
    (fun vm₁ hW₁ => ⟨hf.1, hf.2, hp.2 (T.setVm vm₁) hT hW₁⟩)
  dsimp only [Pt.U, Pt.locs, Pt.cells, Pt.slots] at X' e1 e2 h1 h2 h3 st
  subst h1; subst h2; subst h3
  exact ⟨v, (T.setVm vm₁).calling g' mk As.toArray, t, U', L, hT, X', hL, e1, e2, hq, st⟩
/-- not caught here, past rows that name other classes: it goes on to the caller -/
theorem vx_outP {p : Program} {l : Launch} {e : Env} {R : Room} {s : State} {m : MethodId} {args : Array Value} {below : List Frame} {meth : Method} {c : Code} {H : Heap} {locs : List Loc} {cells slots : Nat} {free : Addr → Prop} {ls : Array Slot} {rest : List Value} {Qc : Array Value → State → Outcome → State → Prop} {XC : String → State → State → Prop}
    {pc : Nat} {own E : String} {ce : Cell} {q : Addr} {mc ms : Nat} (hown : s.vm.findClass own = some m.cls) (hlocks : meth.locks = false)
    (hpass : ∀ z ∈ c.exceptionTable.toList, covers z pc = false ∨ (z.catchType ≠ 0 ∧ ∃ nm : String, (Cond.classLink own z.catchType nm).before args s = true ∧ va_Nc E nm s)) (hcell : H[q]? = some ce) (hv : ce.vm = .none) (hcl : s.vm.findClass E = some ce.cls)
    (hx : ∀ t : State, t.heap = H → s.vm.Alike t.vm → XC E s t) (hf : ∀ z ∈ locs, free z.base) (hc : cells ≤ mc) (hs : slots ≤ ms) :
    vx_W p l e R s m args below meth c H locs cells slots (vx_MQ below Qc XC args s mc ms free) (F0 m pc ls rest) q := by
  intro T hT X
  have hpl : e.platform.magicAccessors = ({} : Platform).magicAccessors := by rw [X.admits.platform]
  obtain ⟨vm', hW', X', st⟩ := X.outThrough hlocks q (g := F0 m pc ls rest) rfl rfl rfl (cell := ce) (by rw [hT]; exact hcell) (by rw [hv]; rfl)
    (by obtain ⟨k9, h9, -⟩ := Vm.findClass_spec hcl; exact ⟨k9, h9⟩) (fun z hz => by
      rcases hpass z hz with h | ⟨hz0, nm, hl1, hn1⟩
      · exact Or.inl h
      · obtain ⟨c6, hc6, hcl6⟩ := Cond.classLink_spec hown hl1 e.platform hpl
        obtain ⟨a8, b8, h1, h2, h3⟩ := hn1
        cases Option.some.inj (h1.symm.trans hcl)
        cases Option.some.inj (h2.symm.trans hc6)
        exact Or.inr ⟨hz0, _, hcl6, h3⟩)
  obtain ⟨g₀, hfr⟩ := X'.frames_eq
  have hcell9 : ((T.setVm vm').setFrames (.throwing q :: below)).heap[q]? = some ce := by
    show T.heap[q]? = some ce
    rw [hT]; exact hcell
  have hend : Ended ((T.setVm vm').setFrames (.throwing q :: below)) below (.threw q) := State.frames_setFrames _ (State.cur_lt_of_frames hfr)
  refine ⟨(T.setVm vm').setFrames (.throwing q :: below), ?_, .threw q, X'.here.running, hend, Or.inr ⟨q, rfl, E, ce, locs, hx _ hT (X'.ends _).1.alike, hcell9, hv, hcl, (X'.ends _).1, (X'.ends _).2.mono hc hs, hf⟩⟩
  rw [X.pushThrowing_eq]
  exact st
/-- a thing of a world lies in the heap -/
theorem vx_lt {D : va_G} {cl : List vw_C} {ws : va_W} {H1 : Heap} (h : va_P D cl ws H1) {k : Nat} {q : Nat × va_E} (hk : ws[k]? = some q) : q.1 < H1.size := (h k q hk).lt
end VXS
/-! ===== END ===== -/
/-! ===== BEGIN methods with a table of their own: called by a name, returning or throwing ===== -/
section VXH
/-! vx_backW, vx_callVX, vx_callSX, vx_callVW, vx_runVW, vx_runVX, vx_runSX, vx_ofWH follow the same proofs as their sisters above (Free/Laws.lean, Shelf42/LK1.lean); vx_outP calls Shelf42/NT130.lean (outThrough). -/
section
variable {l : Launch} {R : Room} {p : Program} {e : Env} {below : List Frame} {s : State} {sargs : Array Value} {y : MethodName} {len W9 : Nat}
theorem vx_backW {ws : List Cond} {rm : Room} {Pc : Array Value → State → Prop} {Qc : Array Value → State → Outcome → State → Prop} {XC : String → State → State → Prop} {mc ms : Nat} {free : Addr → Prop} {bytes : ByteArray} {maxL : Nat} {ret : Option FieldType} {hh : List (Nat × Nat × Nat × Nat)}
    (hM : vx_Met l y ws rm Pc Qc XC mc ms free) (hblind : FrameBlind Pc) (hrc : rm.cells = mc) (hrs : rm.slots = ms)
    (hframes : rm.frames + 1 ≤ R.frames) (hlocals : W9 + (maxL + 11) + rm.locals ≤ R.locals)
    (hws : ∀ w ∈ ws, ∀ a' U, s.WarmedH U.vm → w.before a' U = true) (hcode : Cond.codeWith y bytes maxL ret hh ∈ ws) (hinit : ∀ a' U, s.WarmedH U.vm → (Cond.initialized y.cls).before a' U = true) :
    vx_Back l R p e below s sargs y len W9 (PreOf R mc ms Pc) (PostOf Qc mc ms free) (vx_Post XC mc ms free) := by
  intro m meth c A g ig mk a X hg hsize hdg hW hn hp
  have h1 : (headSpec ws rm).pre.before a A.U = true := atoms_intro fun w hw => hws w hw _ _ X.warmed
  have h2 : (Cond.codeWith y bytes maxL ret hh).before a A.U = true := hws _ hcode _ _ X.warmed
  have h3 : (Cond.initialized y.cls).before a A.U = true := hinit _ _ X.warmed
  have h4 : A.cells + (headSpec ws rm).room.cells ≤ R.cells := by rw [show (headSpec ws rm).room.cells = mc from hrc]; exact hp.1
  have h5 : A.slots + (headSpec ws rm).room.slots ≤ R.slots := by rw [show (headSpec ws rm).room.slots = ms from hrs]; exact hp.2.1
  have hPc : Pc a (A.U.calling g mk a) := hblind _ _ _ _ hp.2.2
  obtain ⟨U, Ls, c0, s0⟩ := A
  dsimp only [Pt.U, Pt.locs, Pt.cells, Pt.slots] at h1 h2 h3 h4 h5 X hn hPc ⊢
  obtain ⟨m9, methY, cY, hn9, hmY, hcY, -, hlY, -⟩ := Cond.codeWith_spec h2
  cases Option.some.inj (hn9.symm.trans hn)
  obtain ⟨kY, hkY, -⟩ := className_of_methodNamed hn
  have hinitY : kY.init = .initialized := Cond.initialized_spec (findClass_of_methodNamed hn) hkY h3
  have h : At U g.method c below := by rw [hg]; exact X.here
  have hlocals9 : W9 + (maxL + 11) + (headSpec ws rm).room.locals ≤ R.locals := hlocals
  have happ : (headSpec ws rm).appliesLoose y e.platform (U.calling g mk a) = true :=
    Spec.appliesLoose_calling (g := g) h hdg hn hkY hinitY
      (X.room_calling (g := g) (R' := (headSpec ws rm).room) hsize hmY hcY hframes (by rw [hlY]; omega) h4 h5) h1
  obtain ⟨mid, hmid⟩ := h.above
  have hfr : (U.setTop g).frames = (.java g :: mid) ++ below := by rw [State.frames_setTop' g h.top, hmid]; rfl
  obtain ⟨o, s₂, hsteps, -, hend, hq⟩ := Steps.callFree hM p X.admits X.cas X.clock (acts := []) hfr happ hPc trivial
  have hq' : vx_Q Qc XC mc ms free a (U.calling g mk a) o s₂ := hq
  rw [State.frames_setTop' g h.top] at hend
  obtain ⟨g₀, hg0⟩ := Option.isSome_iff_exists.mp h.top
  obtain ⟨r, hr⟩ := State.topJava?_eq_some.mp hg0
  have hr' : (({ U with heap := s₂.heap, slotsUsed := s₂.slotsUsed } : State).setVm s₂.vm).frames = .java g₀ :: r := hr
  rcases hq' with ⟨hqc, L, hfe, hL⟩ | ⟨q, rfl, E, ce, L, hx, hce, hcv, hcl, hW₂, hsm, hL⟩
  · obtain ⟨⟨v, rfl⟩, hW₂, e2, q2, q3, q4, q5, q6⟩ := id hfe
    have e3 : s₂ = ({ (U.calling g mk a).setFrames s₂.frames with heap := s₂.heap, slotsUsed := s₂.slotsUsed } : State).setVm s₂.vm := by
      have : s₂ = ({ s₂ with vm := (U.calling g mk a).vm } : State).setVm s₂.vm := rfl
      rw [e2] at this
      exact this
    obtain ⟨c₂, i₂, len₂, hc₂, hd₂, hf₂⟩ := hend
    have hW' : U.WarmedH s₂.vm := hW₂
    have hcc : c₂ = c := by
      have h1 : s₂.code? g.method = U.code? g.method := by
        rw [State.code?_eq, State.code?_eq, hW'.alike.method?]
      exact Option.some.inj (hc₂.symm.trans (h1.trans h.code))
    subst hcc
    have hlen : len₂ = len := by rw [hdg] at hd₂; cases hd₂; rfl
    subst hlen
    have hs₂ : s₂ = (({ U with heap := s₂.heap, slotsUsed := s₂.slotsUsed } : State).setVm s₂.vm).setTop { g with pc := g.pc + len₂, stack := v.toList ++ g.stack } := by
      refine e3.trans ?_
      rw [hf₂, State.calling_eq h.top, State.setFrames_setFrames, State.setTop_of_frames _ hr', hr]
      rfl
    have hsame : U.sameButNew ({ U with heap := s₂.heap, slotsUsed := s₂.slotsUsed } : State) L mc ms := by
      refine ⟨?_, q2, q3, q4, q5, q6⟩
      obtain ⟨t, ht, -⟩ := State.frames_cons hr
      show ({ U with heap := s₂.heap, slotsUsed := s₂.slotsUsed } : State) = { U.setFrames U.frames with heap := s₂.heap, slotsUsed := s₂.slotsUsed }
      rw [State.setFrames_self ht]
    subst hg
    refine Or.inl ⟨v, ⟨(({ U with heap := s₂.heap, slotsUsed := s₂.slotsUsed } : State).setVm s₂.vm), Ls ++ L, c0 + mc, s0 + ms⟩,
      ⟨X.admits, X.cas, X.clock, X.frames, X.room, X.hears, X.method, X.code, (X.here.setHeapUsed s₂.heap s₂.slotsUsed).setVm hW'.alike, X.tail, State.WarmedH.trans X.warmed hW', X.limits, X.bytes, X.same.trans (hsame.setVm s.vm)⟩,
      ⟨g, mk, s₂, L, rfl, rfl, hqc, rfl, hL, rfl, rfl⟩, ?_⟩
    show Steps p.tables e below _ ((({ U with heap := s₂.heap, slotsUsed := s₂.slotsUsed } : State).setVm s₂.vm).setTop { g with pc := g.pc + len₂, stack := v.toList ++ g.stack })
    rw [← hs₂]
    exact hsteps
  · obtain ⟨e2, q2, q3, q4, q5, q6⟩ := id hsm
    have e3 : s₂ = ({ (U.calling g mk a).setFrames s₂.frames with heap := s₂.heap, slotsUsed := s₂.slotsUsed } : State).setVm s₂.vm := by
      have : s₂ = ({ s₂ with vm := (U.calling g mk a).vm } : State).setVm s₂.vm := rfl
      rw [e2] at this
      exact this
    have hf₂ : s₂.frames = .throwing q :: .java g :: U.frames.tail := hend
    have hW' : U.WarmedH s₂.vm := hW₂
    have hs₂ : s₂ = ((({ U with heap := s₂.heap, slotsUsed := s₂.slotsUsed } : State).setVm s₂.vm).setTop g).pushFrame (.throwing q) := by
      refine e3.trans ?_
      rw [hf₂, State.calling_eq h.top, State.setFrames_setFrames, State.pushFrame, State.frames_setTop _ hr', State.setTop_of_frames _ hr', State.setFrames_setFrames, hr]
      rfl
    have hsame : U.sameButNew ({ U with heap := s₂.heap, slotsUsed := s₂.slotsUsed } : State) L mc ms := by
      refine ⟨?_, q2, q3, q4, q5, q6⟩
      obtain ⟨t, ht, -⟩ := State.frames_cons hr
      show ({ U with heap := s₂.heap, slotsUsed := s₂.slotsUsed } : State) = { U.setFrames U.frames with heap := s₂.heap, slotsUsed := s₂.slotsUsed }
      rw [State.setFrames_self ht]
    subst hg
    refine Or.inr ⟨q, ⟨(({ U with heap := s₂.heap, slotsUsed := s₂.slotsUsed } : State).setVm s₂.vm), Ls ++ L, c0 + mc, s0 + ms⟩,
      ⟨X.admits, X.cas, X.clock, X.frames, X.room, X.hears, X.method, X.code, (X.here.setHeapUsed s₂.heap s₂.slotsUsed).setVm hW'.alike, X.tail, State.WarmedH.trans X.warmed hW', X.limits, X.bytes, X.same.trans (hsame.setVm s.vm)⟩,
      ⟨g, mk, s₂, L, E, ce, rfl, rfl, hx, hce, hcv, hcl, rfl, hL, rfl, rfl⟩, ?_⟩
    show Steps p.tables e below _ (((({ U with heap := s₂.heap, slotsUsed := s₂.slotsUsed } : State).setVm s₂.vm).setTop g).pushFrame (.throwing q))
    rw [← hs₂]
    exact hsteps
end
variable {p : Program} {l : Launch} {e : Env} {R : Room} {s : State} {m : MethodId} {args : Array Value} {below : List Frame} {meth : Method} {c : Code} {T : State} {H : Heap} {locs : List Loc} {cells slots : Nat}
theorem vx_callVX (X : Stand p l e R s m args below meth c T locs cells slots) (hexec : p.tables.exec = Jvm.exec) {own C : String} {index : Nat} {y : MethodName} {bytes : ByteArray} {maxL : Nat} {ret : Option FieldType} {hh : List (Nat × Nat × Nat × Nat)}
    (hown : s.vm.findClass own = some m.cls) (hlink : (Cond.methodLink own index y).before args s = true) (hinst : (Cond.instanceMethod y).before args s = true) (hsel : (Cond.selects C y y).before args s = true)
    (hcode : (Cond.codeWith y bytes maxL ret hh).before args s = true) (hy : y.cls ≠ "java/lang/invoke/MethodHandle" ∧ y.cls ≠ "java/lang/invoke/VarHandle")
    {W9 : Nat} {Pre : Pt → Array Value → Prop} {Post : Pt → Array Value → Option Value → Pt → Prop} {PostX : Pt → Array Value → Addr → Pt → Prop} (hK : vx_Back l R p e below s args y 3 W9 Pre Post PostX)
    {b : Addr} {cellB : Cell} (hcell : T.heap[b]? = some cellB) (hobj : cellB.vm.isStatics = false) (hcls : s.vm.findClass C = some cellB.cls)
    {g : JFrame} (hg : g.method = m) (hsize : g.locals.size = c.maxLocals) {argsL rest : List Value} (hlen : ∀ sig, parseMethodDescriptor y.desc = some sig → argsL.length = sig.parameters.length)
    (hstack : g.stack = argsL.reverse ++ .ref b :: rest) (hW : 2 * g.monitorRoom + (rest.map fun v => v.category).sum ≤ W9) (hdg : decode c.code g.pc = .ok (.invokevirtual index, 3))
    (hpre : ∀ vm₁, s.WarmedH vm₁ → Pre ⟨T.setVm vm₁, locs, cells, slots⟩ (Value.ref b :: argsL).toArray) :
    (∃ (v : Option Value) (vm₁ : Vm) (B : Pt), s.WarmedH vm₁ ∧ Stand p l e R s m args below meth c B.U B.locs B.cells B.slots ∧ Post ⟨T.setVm vm₁, locs, cells, slots⟩ (Value.ref b :: argsL).toArray v B ∧
      ∀ target, Steps p.tables e below (B.U.setTop { g with pc := g.pc + 3, stack := v.toList ++ rest }) target → Steps p.tables e below (T.setTop g) target) ∨
    (∃ (q : Addr) (vm₁ : Vm) (B : Pt), s.WarmedH vm₁ ∧ Stand p l e R s m args below meth c B.U B.locs B.cells B.slots ∧ PostX ⟨T.setVm vm₁, locs, cells, slots⟩ (Value.ref b :: argsL).toArray q B ∧
      Steps p.tables e below (T.setTop g) ((B.U.setTop { g with stack := rest }).pushFrame (.throwing q))) := by
  obtain ⟨mk, methM, hnamed, hmethM, hstM, habM⟩ := Cond.instanceMethod_spec hinst
  obtain ⟨m8, methM', cM, hn8, hmethM', -, -, -, -, -, -, hsigM⟩ := Cond.codeWith_spec hcode
  cases Option.some.inj (hn8.symm.trans hnamed)
  cases hmethM.symm.trans hmethM'
  obtain ⟨c2, r2, m2, q1, q2, q3, q4, kP, hkP, hkPi⟩ := Cond.selects_spec hsel
  cases hcls.symm.trans q1
  cases (State.methodFound?_of_named hnamed hy).symm.trans q2
  cases hnamed.symm.trans q3
  have hselP : selectMethod e.platform s.vm cellB.cls mk = .method mk := by rw [Launch.admits_selectMethod X.admits]; exact q4
  obtain ⟨vm₁, X₁, hstep₁⟩ := X.invokevirtual hexec hown hlink hnamed hmethM hstM hkP hkPi hy (a := b) (cell := cellB) hcell
    (fun z h => by rw [h] at hobj; cases hobj) hselP hmethM habM hkP hkPi (g := g) hg (argsL := argsL) (rest := rest) (hlen _ hsigM) hstack hdg
  rcases hK m meth c ⟨T.setVm vm₁, locs, cells, slots⟩ { g with stack := rest } (.invokevirtual index) mk (Value.ref b :: argsL).toArray X₁ hg hsize hdg hW (X₁.named hnamed) (hpre vm₁ X₁.warmed) with ⟨v, B, X', hpost, hsteps⟩ | ⟨q, B, X', hpost, hsteps⟩
  · exact Or.inl ⟨v, vm₁, B, X₁.warmed, X', hpost, fun target h => hstep₁ _ fun acts => by rw [doInvoke_state]; exact hsteps.trans h⟩
  · exact Or.inr ⟨q, vm₁, B, X₁.warmed, X', hpost, hstep₁ _ fun acts => by rw [doInvoke_state]; exact hsteps⟩
theorem vx_callSX (X : Stand p l e R s m args below meth c T locs cells slots) (hexec : p.tables.exec = Jvm.exec) {own : String} {index : Nat} {y : MethodName} {bytes : ByteArray} {maxL : Nat} {ret : Option FieldType} {hh : List (Nat × Nat × Nat × Nat)}
    (hown : s.vm.findClass own = some m.cls) (hlink : (Cond.methodLink own index y).before args s = true) (hstat : (Cond.static y).before args s = true) (hinit : (Cond.initialized y.cls).before args s = true)
    (hcode : (Cond.codeWith y bytes maxL ret hh).before args s = true) (hy : y.cls ≠ "java/lang/invoke/MethodHandle" ∧ y.cls ≠ "java/lang/invoke/VarHandle")
    {W9 : Nat} {Pre : Pt → Array Value → Prop} {Post : Pt → Array Value → Option Value → Pt → Prop} {PostX : Pt → Array Value → Addr → Pt → Prop} (hK : vx_Back l R p e below s args y 3 W9 Pre Post PostX)
    {g : JFrame} (hg : g.method = m) (hsize : g.locals.size = c.maxLocals) {argsL rest : List Value} (hlen : ∀ sig, parseMethodDescriptor y.desc = some sig → argsL.length = sig.parameters.length)
    (hstack : g.stack = argsL.reverse ++ rest) (hW : 2 * g.monitorRoom + (rest.map fun v => v.category).sum ≤ W9) (hdg : decode c.code g.pc = .ok (.invokestatic index, 3))
    (hpre : ∀ vm₁, s.WarmedH vm₁ → Pre ⟨T.setVm vm₁, locs, cells, slots⟩ argsL.toArray) :
    (∃ (v : Option Value) (vm₁ : Vm) (B : Pt), s.WarmedH vm₁ ∧ Stand p l e R s m args below meth c B.U B.locs B.cells B.slots ∧ Post ⟨T.setVm vm₁, locs, cells, slots⟩ argsL.toArray v B ∧
      ∀ target, Steps p.tables e below (B.U.setTop { g with pc := g.pc + 3, stack := v.toList ++ rest }) target → Steps p.tables e below (T.setTop g) target) ∨
    (∃ (q : Addr) (vm₁ : Vm) (B : Pt), s.WarmedH vm₁ ∧ Stand p l e R s m args below meth c B.U B.locs B.cells B.slots ∧ PostX ⟨T.setVm vm₁, locs, cells, slots⟩ argsL.toArray q B ∧
      Steps p.tables e below (T.setTop g) ((B.U.setTop { g with stack := rest }).pushFrame (.throwing q))) := by
  obtain ⟨mk, methM, cM, hnamed, hmethM, -, -, -, -, -, -, hsigM⟩ := Cond.codeWith_spec hcode
  have hstatic : methM.isStatic = true := Cond.static_spec hnamed hmethM hstat
  obtain ⟨kP, hkP, -⟩ := className_of_methodNamed hnamed
  have hinitP : kP.init = .initialized := Cond.initialized_spec (findClass_of_methodNamed hnamed) hkP hinit
  obtain ⟨vm₁, X₁, hstep₁⟩ := X.invokestatic hexec hown hlink hnamed hmethM hstatic hkP hinitP hy (g := g) hg (argsL := argsL) (rest := rest) (hlen _ hsigM) hstack hdg
  rcases hK m meth c ⟨T.setVm vm₁, locs, cells, slots⟩ { g with stack := rest } (.invokestatic index) mk argsL.toArray X₁ hg hsize hdg hW (X₁.named hnamed) (hpre vm₁ X₁.warmed) with ⟨v, B, X', hpost, hsteps⟩ | ⟨q, B, X', hpost, hsteps⟩
  · exact Or.inl ⟨v, vm₁, B, X₁.warmed, X', hpost, fun target h => hstep₁ _ fun acts => by rw [doInvoke_state]; exact hsteps.trans h⟩
  · exact Or.inr ⟨q, vm₁, B, X₁.warmed, X', hpost, hstep₁ _ fun acts => by rw [doInvoke_state]; exact hsteps⟩
theorem vx_callVW (X : Stand p l e R s m args below meth c T locs cells slots) (hexec : p.tables.exec = Jvm.exec) {own C : String} {index : Nat} {y : MethodName} {bytes : ByteArray} {maxL : Nat} {ret : Option FieldType} {hh : List (Nat × Nat × Nat × Nat)}
    (hown : s.vm.findClass own = some m.cls) (hlink : (Cond.methodLink own index y).before args s = true) (hinst : (Cond.instanceMethod y).before args s = true) (hsel : (Cond.selects C y y).before args s = true)
    (hcode : (Cond.codeWith y bytes maxL ret hh).before args s = true) (hy : y.cls ≠ "java/lang/invoke/MethodHandle" ∧ y.cls ≠ "java/lang/invoke/VarHandle")
    {W9 : Nat} {Pre : Pt → Array Value → Prop} {Post : Pt → Array Value → Option Value → Pt → Prop} (hK : Back l R p e below s args y 3 W9 Pre Post)
    {b : Addr} {cellB : Cell} (hcell : T.heap[b]? = some cellB) (hobj : cellB.vm.isStatics = false) (hcls : s.vm.findClass C = some cellB.cls)
    {g : JFrame} (hg : g.method = m) (hsize : g.locals.size = c.maxLocals) {argsL rest : List Value} (hlen : ∀ sig, parseMethodDescriptor y.desc = some sig → argsL.length = sig.parameters.length)
    (hstack : g.stack = argsL.reverse ++ .ref b :: rest) (hW : 2 * g.monitorRoom + (rest.map fun v => v.category).sum ≤ W9) (hdg : decode c.code g.pc = .ok (.invokevirtual index, 3))
    (hpre : ∀ vm₁, s.WarmedH vm₁ → Pre ⟨T.setVm vm₁, locs, cells, slots⟩ (Value.ref b :: argsL).toArray) :
    ∃ (v : Option Value) (vm₁ : Vm) (B : Pt), s.WarmedH vm₁ ∧ Stand p l e R s m args below meth c B.U B.locs B.cells B.slots ∧ Post ⟨T.setVm vm₁, locs, cells, slots⟩ (Value.ref b :: argsL).toArray v B ∧
      ∀ target, Steps p.tables e below (B.U.setTop { g with pc := g.pc + 3, stack := v.toList ++ rest }) target → Steps p.tables e below (T.setTop g) target := by
  obtain ⟨mk, methM, hnamed, hmethM, hstM, habM⟩ := Cond.instanceMethod_spec hinst
  obtain ⟨m8, methM', cM, hn8, hmethM', -, -, -, -, -, -, hsigM⟩ := Cond.codeWith_spec hcode
  cases Option.some.inj (hn8.symm.trans hnamed)
  cases hmethM.symm.trans hmethM'
  obtain ⟨c2, r2, m2, q1, q2, q3, q4, kP, hkP, hkPi⟩ := Cond.selects_spec hsel
  cases hcls.symm.trans q1
  cases (State.methodFound?_of_named hnamed hy).symm.trans q2
  cases hnamed.symm.trans q3
  have hselP : selectMethod e.platform s.vm cellB.cls mk = .method mk := by rw [Launch.admits_selectMethod X.admits]; exact q4
  obtain ⟨vm₁, X₁, hstep₁⟩ := X.invokevirtual hexec hown hlink hnamed hmethM hstM hkP hkPi hy (a := b) (cell := cellB) hcell
    (fun z h => by rw [h] at hobj; cases hobj) hselP hmethM habM hkP hkPi (g := g) hg (argsL := argsL) (rest := rest) (hlen _ hsigM) hstack hdg
  obtain ⟨v, B, X', hpost, hsteps⟩ := hK m meth c ⟨T.setVm vm₁, locs, cells, slots⟩ { g with stack := rest } (.invokevirtual index) mk (Value.ref b :: argsL).toArray X₁ hg hsize hdg hW (X₁.named hnamed) (hpre vm₁ X₁.warmed)
  exact ⟨v, vm₁, B, X₁.warmed, X', hpost, fun target h => hstep₁ _ fun acts => by rw [doInvoke_state]; exact hsteps.trans h⟩
abbrev vx_CVW (R : Room) (s : State) (args : Array Value) (own C : String) (index : Nat) (y : MethodName) (bytes : ByteArray) (maxL : Nat) (ret : Option FieldType) (hh : List (Nat × Nat × Nat × Nat)) (ws : List Cond) (rm : Room) (mc ms n : Nat) : Prop :=
  (rm.cells = mc ∧ rm.slots = ms ∧ rm.frames + 1 ≤ R.frames ∧ 8 + (maxL + 11) + rm.locals ≤ R.locals ∧ (∀ w ∈ ws, ∀ (a' : Array Value) (U : State), s.WarmedH U.vm → w.before a' U = true) ∧ Cond.codeWith y bytes maxL ret hh ∈ ws) ∧
  (Cond.codeWith y bytes maxL ret hh).before args s = true ∧ (Cond.initialized y.cls).before args s = true ∧ (y.cls ≠ "java/lang/invoke/MethodHandle" ∧ y.cls ≠ "java/lang/invoke/VarHandle") ∧
  (∀ sig, parseMethodDescriptor y.desc = some sig → n = sig.parameters.length) ∧ (Cond.methodLink own index y).before args s = true ∧ (Cond.instanceMethod y).before args s = true ∧ (Cond.selects C y y).before args s = true
theorem vx_cwVW {own C : String} {index maxL mc ms : Nat} {y : MethodName} {bytes : ByteArray} {ret : Option FieldType} {hh : List (Nat × Nat × Nat × Nat)} {Ts ws ws' : List Cond} {rm : Room} (n : Nat) (ht : ∀ w ∈ Ts, w.before args s = true) (hT : GoodIn Ts (wsV own index C y ws)) (hw : ws = Cond.codeWith y bytes maxL ret hh :: ws') (hrc : rm.cells = mc) (hrs : rm.slots = ms)
    (hd : y.cls = C ∧ y.cls ≠ "java/lang/invoke/MethodHandle" ∧ y.cls ≠ "java/lang/invoke/VarHandle" ∧ (parseMethodDescriptor y.desc).map (fun d => d.parameters.length) = some n) (hR : rm.frames + 1 ≤ R.frames ∧ 8 + (maxL + 11) + rm.locals ≤ R.locals) :
    vx_CVW R s args own C index y bytes maxL ret hh ws rm mc ms n := by
  obtain ⟨hC, hd⟩ := hd
  subst hC
  have ok : ∀ w ∈ wsV own index y.cls y ws, w.before args s = true := fun w h => ht w (hT w h).1
  have hG : GoodIn Ts ws := fun w h => hT w (by unfold wsV; exact List.mem_append_right _ h)
  have hc : Cond.codeWith y bytes maxL ret hh ∈ ws := by rw [hw]; exact List.mem_cons_self
  refine ⟨⟨hrc, hrs, hR.1, hR.2, pay_in ht hG, hc⟩, ht _ (hG _ hc).1, ok _ (by simp [wsV]), ⟨hd.1, hd.2.1⟩, fun sig h => ?_, ok _ (by simp [wsV]), ok _ (by simp [wsV]), ok _ (by simp [wsV])⟩
  have h2 := hd.2.2
  rw [h] at h2
  exact (Option.some.inj h2).symm
theorem vx_runVW {y : MethodName} {bytes cc : ByteArray} {maxL nL mc ms n index : Nat} {ret : Option FieldType} {hh : List (Nat × Nat × Nat × Nat)} {ws : List Cond} {rm : Room} {Pc : Array Value → State → Prop} {Qc : Array Value → State → Outcome → State → Prop} {free : Addr → Prop} {Ts : List Cond} {own C : String} {b : Addr} {As rest : List Value} {g : JFrame}
    (S : CallFix p m c cc nL s args Ts own) (hM : Met l y ws rm Pc Qc mc ms free) (cw : vx_CVW R s args own C index y bytes maxL ret hh ws rm mc ms n) (hp : PreV s H C b Pc As)
    (hg : g.method = m) (hn : As.length = n) (hsize : g.locals.size = nL) (hstack : g.stack = As.reverse ++ .ref b :: rest) (hW : 2 * g.monitorRoom + (rest.map fun v => v.category).sum ≤ 8) (hdg : decode cc g.pc = .ok (.invokevirtual index, 3)) (hf : cells + mc ≤ R.cells ∧ slots + ms ≤ R.slots) :
    va_Run p l e R s m args below meth c H locs cells slots mc ms g rest (Qc (Value.ref b :: As).toArray) free := by
  obtain ⟨⟨hrc, hrs, hfr, hlo, hws, hcw⟩, hcode, hini, hy, hlen, hl, hin, hse⟩ := cw
  have hK : Back l R p e below s args y 3 8 (PreOf R mc ms Pc) (PostOf Qc mc ms free) := va_backW (hh := hh) (bytes := bytes) (maxL := maxL) (ret := ret) hM hp.1 hrc hrs hfr hlo hws hcw (fun a' U hW => word_at hW (Or.inl (by first | rfl | simp [Cond.onTables, Cond.keeps, Cond.steady])) hini)
  obtain ⟨hx, hb, hml, ho, -⟩ := S
  obtain ⟨-, ⟨cellB, hcB, hoB, hclB⟩, hPc⟩ := hp
  intro T hT X
  obtain ⟨v, vm₁, ⟨U', l2, c2, s2⟩, hW₁, X', ⟨g', mk, t, L, e1, e2, hq, h1, hL, h2, h3⟩, st⟩ := vx_callVW X hx (C := C) (hh := hh) (bytes := bytes) (maxL := maxL) (ret := ret) ho hl hin hse hcode hy hK (by rw [hT]; exact hcB) hoB hclB hg (hsize.trans hml.symm) (argsL := As) (rest := rest) (fun sig h => hn.trans (hlen sig h)) hstack hW (by rw [hb]; exact hdg)
    (fun vm₁ hW₁ => ⟨hf.1, hf.2, hPc (T.setVm vm₁) hT hW₁⟩)
  dsimp only [Pt.U, Pt.locs, Pt.cells, Pt.slots] at X' e1 e2 h1 h2 h3 st
  subst h1; subst h2; subst h3
  exact ⟨v, (T.setVm vm₁).calling g' mk (Value.ref b :: As).toArray, t, U', L, hT, X', hL, e1, e2, hq, st⟩
section
variable {y : MethodName} {bytes cc : ByteArray} {maxL nL mc ms n index : Nat} {ret : Option FieldType} {ws : List Cond} {rm : Room} {Pc : Array Value → State → Prop} {Qc : Array Value → State → Outcome → State → Prop} {XC : String → State → State → Prop} {free : Addr → Prop} {Ts : List Cond} {own C : String} {b : Addr} {As rest : List Value} {g : JFrame}
theorem vx_runVX {hh : List (Nat × Nat × Nat × Nat)} (S : CallFix p m c cc nL s args Ts own) (hM : vx_Met l y ws rm Pc Qc XC mc ms free) (cw : vx_CVW R s args own C index y bytes maxL ret hh ws rm mc ms n) (hp : PreV s H C b Pc As)
    (hg : g.method = m) (hn : As.length = n) (hsize : g.locals.size = nL) (hstack : g.stack = As.reverse ++ .ref b :: rest) (hW : 2 * g.monitorRoom + (rest.map fun v => v.category).sum ≤ 8) (hdg : decode cc g.pc = .ok (.invokevirtual index, 3)) (hf : cells + mc ≤ R.cells ∧ slots + ms ≤ R.slots) :
    vx_Run p l e R s m args below meth c H locs cells slots mc ms g rest (Qc (Value.ref b :: As).toArray) XC free := by
  obtain ⟨⟨hrc, hrs, hfr, hlo, hws, hcw⟩, hcode, hini, hy, hlen, hl, hin, hse⟩ := cw
  have hK : vx_Back l R p e below s args y 3 8 (PreOf R mc ms Pc) (PostOf Qc mc ms free) (vx_Post XC mc ms free) := vx_backW (hh := hh) (bytes := bytes) (maxL := maxL) (ret := ret) hM hp.1 hrc hrs hfr hlo hws hcw (fun a' U hW => word_at hW (Or.inl (by first | rfl | simp [Cond.onTables, Cond.keeps, Cond.steady])) hini)
  obtain ⟨hx, hb, hml, ho, -⟩ := S
  obtain ⟨-, ⟨cellB, hcB, hoB, hclB⟩, hPc⟩ := hp
  intro T hT X
  rcases vx_callVX X hx (C := C) (hh := hh) (bytes := bytes) (maxL := maxL) (ret := ret) ho hl hin hse hcode hy hK (by rw [hT]; exact hcB) hoB hclB hg (hsize.trans hml.symm) (argsL := As) (rest := rest) (fun sig h => hn.trans (hlen sig h)) hstack hW (by rw [hb]; exact hdg)
    (fun vm₁ hW₁ => ⟨hf.1, hf.2, hPc (T.setVm vm₁) hT hW₁⟩) with ⟨v, vm₁, ⟨U', l2, c2, s2⟩, hW₁, X', ⟨g', mk, t, L, e1, e2, hq, h1, hL, h2, h3⟩, st⟩ | ⟨q, vm₁, ⟨U', l2, c2, s2⟩, hW₁, X', ⟨g', mk, t, L, E, ce, e1, e2, hq, hce, hcv, hcl, h1, hL, h2, h3⟩, st⟩
  · dsimp only [Pt.U, Pt.locs, Pt.cells, Pt.slots] at X' e1 e2 h1 h2 h3 st
    subst h1; subst h2; subst h3
    exact Or.inl ⟨v, (T.setVm vm₁).calling g' mk (Value.ref b :: As).toArray, t, U', L, hT, X', hL, e1, e2, hq, st⟩
  · dsimp only [Pt.U, Pt.locs, Pt.cells, Pt.slots] at X' e1 e2 h1 h2 h3 st hcl
    subst h1; subst h2; subst h3
    exact Or.inr ⟨q, (T.setVm vm₁).calling g' mk (Value.ref b :: As).toArray, t, U', L, E, ce, hT, X', hL, e1, e2, hq, hce, hcv, vx_cls hW₁ hcl, st⟩
theorem vx_runSX {hh : List (Nat × Nat × Nat × Nat)} (S : CallFix p m c cc nL s args Ts own) (hM : vx_Met l y ws rm Pc Qc XC mc ms free) (cw : vx_CSW R s args own index y bytes maxL ret hh ws rm mc ms n) (hp : PreS s H Pc As)
    (hg : g.method = m) (hn : As.length = n) (hsize : g.locals.size = nL) (hstack : g.stack = As.reverse ++ rest) (hW : 2 * g.monitorRoom + (rest.map fun v => v.category).sum ≤ 8) (hdg : decode cc g.pc = .ok (.invokestatic index, 3)) (hf : cells + mc ≤ R.cells ∧ slots + ms ≤ R.slots) :
    vx_Run p l e R s m args below meth c H locs cells slots mc ms g rest (Qc As.toArray) XC free := by
  obtain ⟨⟨hrc, hrs, hfr, hlo, hws, hcw⟩, hcode, hini, hy, hlen, hl, hstt⟩ := cw
  have hK : vx_Back l R p e below s args y 3 8 (PreOf R mc ms Pc) (PostOf Qc mc ms free) (vx_Post XC mc ms free) := vx_backW (hh := hh) (bytes := bytes) (maxL := maxL) (ret := ret) hM hp.1 hrc hrs hfr hlo hws hcw (fun a' U hW => word_at hW (Or.inl (by first | rfl | simp [Cond.onTables, Cond.keeps, Cond.steady])) hini)
  obtain ⟨hx, hb, hml, ho, -⟩ := S
  intro T hT X
  rcases vx_callSX X hx (hh := hh) (bytes := bytes) (maxL := maxL) (ret := ret) ho hl hstt hini hcode hy hK hg (hsize.trans hml.symm) (argsL := As) (rest := rest) (fun sig h => hn.trans (hlen sig h)) hstack hW (by rw [hb]; exact hdg)
    (fun vm₁ hW₁ => ⟨hf.1, hf.2, hp.2 (T.setVm vm₁) hT hW₁⟩) with ⟨v, vm₁, ⟨U', l2, c2, s2⟩, hW₁, X', ⟨g', mk, t, L, e1, e2, hq, h1, hL, h2, h3⟩, st⟩ | ⟨q, vm₁, ⟨U', l2, c2, s2⟩, hW₁, X', ⟨g', mk, t, L, E, ce, e1, e2, hq, hce, hcv, hcl, h1, hL, h2, h3⟩, st⟩
  · dsimp only [Pt.U, Pt.locs, Pt.cells, Pt.slots] at X' e1 e2 h1 h2 h3 st
    subst h1; subst h2; subst h3
    exact Or.inl ⟨v, (T.setVm vm₁).calling g' mk As.toArray, t, U', L, hT, X', hL, e1, e2, hq, st⟩
  · dsimp only [Pt.U, Pt.locs, Pt.cells, Pt.slots] at X' e1 e2 h1 h2 h3 st hcl
    subst h1; subst h2; subst h3
    exact Or.inr ⟨q, (T.setVm vm₁).calling g' mk As.toArray, t, U', L, E, ce, hT, X', hL, e1, e2, hq, hce, hcv, vx_cls hW₁ hcl, st⟩
end
end VXH
theorem vx_ofWH {l : Launch} {y : MethodName} {ws ws' : List Cond} {rm : Room} {Pc : Array Value → State → Prop} {Qc : Array Value → State → Outcome → State → Prop} {XC : String → State → State → Prop} {mc ms : Nat} {free : Addr → Prop} {cc : ByteArray} {maxL : Nat} {ret : Option FieldType} {hh : List (Nat × Nat × Nat × Nat)}
    (hy : plainName y.cls = true) (hw : ws = Cond.codeWith y cc maxL ret hh :: ws')
    (body : ∀ p e s m args below meth c s₁, BodyLoose p l y (headSpec ws rm) cc maxL ret e s m args below meth c s₁ → c.maxLocals = maxL → Pc args s →
      W p l e (headSpec ws rm).room s m args below meth c s.heap [] 0 0 (vx_MQ below Qc XC args s mc ms free) (entryFrame m args maxL)) : vx_Met l y ws rm Pc Qc XC mc ms free := by
  refine MetFree.of_bodyS (code := cc) (maxLocals := maxL) (ret := ret) hy ?_ ?_
  · intro args s m h hn
    obtain ⟨m9, meth, c, hn9, h1, h2, h3, h4, -, h5, h6, -⟩ := Cond.codeWith_spec (atoms_spec (ws := ws) h _ (by rw [hw]; exact List.mem_cons_self))
    cases hn.symm.trans hn9
    exact ⟨meth, c, h1, h2, h3, h4, h5, h6⟩
  · intro p e s m args below meth c s₁ B hml hP _
    have hh0 : s₁.heap = s.heap := by rw [B.state]; rfl
    obtain ⟨t, a1, o, b1, b2, b3⟩ := body p e s m args below meth c s₁ B hml hP s₁ hh0 (Stand.of_body B)
    exact ⟨t, o, a1, b1, b2, b3⟩
/-! ===== END ===== -/
end
section
def RX0 : String := "FretSchool$Hand"
def TX0 : u_T := fun k => match k with
  | 0 => ("FretSchool$Hand", "reach", "[I", true)
  | 1 => ("FretSchool$Hand", "rest", "[[I", true)
  | 2 => ("FretSchool$Hand", "row", "[I", true)
  | 3 => ("FretSchool$Hand", "sum", "I", false)
  | _ => ("FretSchool$Hand", "greatest", "I", false)
def tyX0 : Nat → FieldType := fun k => match k with
  | 0 => .array .int
  | 1 => .array (.array .int)
  | 2 => .array .int
  | 3 => .int
  | _ => .int
abbrev wsX00 : List Cond := u_ws RX0 TX0 5
theorem nmX0 : ∀ a, a < 5 → ∀ b, b < 5 → a ≠ b → (TX0 a).2.1 ≠ (TX0 b).2.1 := by decide +kernel
theorem tyX0_ok : ∀ k, k < 5 → parseFieldDescriptor (TX0 k).2.2.1 = some (tyX0 k) := by decide +kernel
abbrev cX0_init : ByteArray := prog_2_method_1_code
def yX0_init : MethodName := ⟨RX0, "<init>", "()V"⟩
abbrev cX0_placeBest : ByteArray := prog_2_method_2_code
def yX0_placeBest : MethodName := ⟨RX0, "placeBest", "(LFretSchool$Piece;LFretSchool$Instrument;)Z"⟩
abbrev cX0_leastByAll : ByteArray := prog_2_method_3_code
def yX0_leastByAll : MethodName := ⟨RX0, "leastByAll", "(LFretSchool$Piece;LFretSchool$Instrument;)I"⟩
abbrev cX0_feelReach : ByteArray := prog_2_method_4_code
def yX0_feelReach : MethodName := ⟨RX0, "feelReach", "(LFretSchool$Piece;LFretSchool$Instrument;)V"⟩
abbrev cX0_measureRest : ByteArray := prog_2_method_5_code
def yX0_measureRest : MethodName := ⟨RX0, "measureRest", "(IZ)V"⟩
abbrev cX0_chooseRow : ByteArray := prog_2_method_6_code
def yX0_chooseRow : MethodName := ⟨RX0, "chooseRow", "(I)Z"⟩
abbrev cX0_nearest : ByteArray := prog_2_method_7_code
def yX0_nearest : MethodName := ⟨RX0, "nearest", "(II)I"⟩
abbrev cX0_leastFrom : ByteArray := prog_2_method_8_code
def yX0_leastFrom : MethodName := ⟨RX0, "leastFrom", "([IIII)I"⟩
abbrev cX0_canReach : ByteArray := prog_2_method_9_code
def yX0_canReach : MethodName := ⟨RX0, "canReach", "(II)Z"⟩
abbrev cX0_shift : ByteArray := prog_2_method_10_code
def yX0_shift : MethodName := ⟨RX0, "shift", "(II)I"⟩
def RX1 : String := "FretSchool$Instrument"
def TX1 : u_T := fun k => match k with
  | 0 => ("FretSchool$Instrument", "open", "[I", true)
  | 1 => ("FretSchool$Instrument", "keeper", "I", false)
  | _ => ("FretSchool$Instrument", "fretCount", "I", false)
def tyX1 : Nat → FieldType := fun k => match k with
  | 0 => .array .int
  | 1 => .int
  | _ => .int
abbrev wsX10 : List Cond := u_ws RX1 TX1 3
theorem nmX1 : ∀ a, a < 3 → ∀ b, b < 3 → a ≠ b → (TX1 a).2.1 ≠ (TX1 b).2.1 := by decide +kernel
theorem tyX1_ok : ∀ k, k < 3 → parseFieldDescriptor (TX1 k).2.2.1 = some (tyX1 k) := by decide +kernel
abbrev cX1_init : ByteArray := prog_3_method_1_code
def yX1_init : MethodName := ⟨RX1, "<init>", "()V"⟩
abbrev cX1_build : ByteArray := prog_3_method_2_code
def yX1_build : MethodName := ⟨RX1, "build", "(II)V"⟩
abbrev cX1_tuneAll : ByteArray := prog_3_method_3_code
def yX1_tuneAll : MethodName := ⟨RX1, "tuneAll", "(IIII)V"⟩
abbrev cX1_highestPosition : ByteArray := prog_3_method_4_code
def yX1_highestPosition : MethodName := ⟨RX1, "highestPosition", "()I"⟩
abbrev cX1_lowestString : ByteArray := prog_3_method_5_code
def yX1_lowestString : MethodName := ⟨RX1, "lowestString", "(II)I"⟩
def RX2 : String := "FretSchool$Order"
def TX2 : u_T := fun k => match k with
  | 0 => ("FretSchool$Order", "buyer", "I", false)
  | 1 => ("FretSchool$Order", "fretCount", "I", false)
  | 2 => ("FretSchool$Order", "readyDay", "I", false)
  | _ => ("FretSchool$Order", "isFetched", "Z", false)
def tyX2 : Nat → FieldType := fun k => match k with
  | 0 => .int
  | 1 => .int
  | 2 => .int
  | _ => .boolean
abbrev wsX20 : List Cond := u_ws RX2 TX2 4
theorem nmX2 : ∀ a, a < 4 → ∀ b, b < 4 → a ≠ b → (TX2 a).2.1 ≠ (TX2 b).2.1 := by decide +kernel
theorem tyX2_ok : ∀ k, k < 4 → parseFieldDescriptor (TX2 k).2.2.1 = some (tyX2 k) := by decide +kernel
abbrev cX2_init : ByteArray := prog_4_method_1_code
def yX2_init : MethodName := ⟨RX2, "<init>", "()V"⟩
abbrev cX2_place : ByteArray := prog_4_method_2_code
def yX2_place : MethodName := ⟨RX2, "place", "(III)V"⟩
abbrev cX2_isReady : ByteArray := prog_4_method_3_code
def yX2_isReady : MethodName := ⟨RX2, "isReady", "(I)Z"⟩
def RX3 : String := "FretSchool$Piece"
def TX3 : u_T := fun k => match k with
  | 0 => ("FretSchool$Piece", "pitches", "[I", true)
  | _ => ("FretSchool$Piece", "count", "I", false)
def tyX3 : Nat → FieldType := fun k => match k with
  | 0 => .array .int
  | _ => .int
abbrev wsX30 : List Cond := u_ws RX3 TX3 2
theorem nmX3 : ∀ a, a < 2 → ∀ b, b < 2 → a ≠ b → (TX3 a).2.1 ≠ (TX3 b).2.1 := by decide +kernel
theorem tyX3_ok : ∀ k, k < 2 → parseFieldDescriptor (TX3 k).2.2.1 = some (tyX3 k) := by decide +kernel
abbrev cX3_init : ByteArray := prog_5_method_1_code
def yX3_init : MethodName := ⟨RX3, "<init>", "()V"⟩
abbrev cX3_isFull : ByteArray := prog_5_method_2_code
def yX3_isFull : MethodName := ⟨RX3, "isFull", "()Z"⟩
abbrev cX3_append : ByteArray := prog_5_method_3_code
def yX3_append : MethodName := ⟨RX3, "append", "(I)V"⟩
abbrev cX3_canMove : ByteArray := prog_5_method_4_code
def yX3_canMove : MethodName := ⟨RX3, "canMove", "(I)Z"⟩
abbrev cX3_move : ByteArray := prog_5_method_5_code
def yX3_move : MethodName := ⟨RX3, "move", "(I)V"⟩
def RX4 : String := "FretSchool$Pupil"
def TX4 : u_T := fun k => match k with
  | 0 => ("FretSchool$Pupil", "grade", "I", false)
  | _ => ("FretSchool$Pupil", "repertoire", "I", false)
def tyX4 : Nat → FieldType := fun k => match k with
  | 0 => .int
  | _ => .int
abbrev wsX40 : List Cond := u_ws RX4 TX4 2
theorem nmX4 : ∀ a, a < 2 → ∀ b, b < 2 → a ≠ b → (TX4 a).2.1 ≠ (TX4 b).2.1 := by decide +kernel
theorem tyX4_ok : ∀ k, k < 2 → parseFieldDescriptor (TX4 k).2.2.1 = some (tyX4 k) := by decide +kernel
abbrev cX4_init : ByteArray := prog_6_method_1_code
def yX4_init : MethodName := ⟨RX4, "<init>", "()V"⟩
abbrev cX4_knows : ByteArray := prog_6_method_2_code
def yX4_knows : MethodName := ⟨RX4, "knows", "(I)Z"⟩
abbrev cX4_takeIn : ByteArray := prog_6_method_3_code
def yX4_takeIn : MethodName := ⟨RX4, "takeIn", "(II)V"⟩
def RX5 : String := "FretSchool"
def TX5 : u_T := fun k => match k with
  | 0 => ("FretSchool", "pieces", "[LFretSchool$Piece;", true)
  | 1 => ("FretSchool", "builds", "[LFretSchool$Instrument;", true)
  | 2 => ("FretSchool", "pupils", "[LFretSchool$Pupil;", true)
  | 3 => ("FretSchool", "orders", "[LFretSchool$Order;", true)
  | 4 => ("FretSchool", "stock", "[I", true)
  | 5 => ("FretSchool", "hand", "LFretSchool$Hand;", true)
  | 6 => ("FretSchool", "pieceCount", "I", false)
  | 7 => ("FretSchool", "buildCount", "I", false)
  | 8 => ("FretSchool", "orderCount", "I", false)
  | _ => ("FretSchool", "day", "I", false)
def tyX5 : Nat → FieldType := fun k => match k with
  | 0 => .array (.object "FretSchool$Piece")
  | 1 => .array (.object "FretSchool$Instrument")
  | 2 => .array (.object "FretSchool$Pupil")
  | 3 => .array (.object "FretSchool$Order")
  | 4 => .array .int
  | 5 => .object "FretSchool$Hand"
  | 6 => .int
  | 7 => .int
  | 8 => .int
  | _ => .int
abbrev wsX50 : List Cond := u_ws RX5 TX5 10
theorem nmX5 : ∀ a, a < 10 → ∀ b, b < 10 → a ≠ b → (TX5 a).2.1 ≠ (TX5 b).2.1 := by decide +kernel
theorem tyX5_ok : ∀ k, k < 10 → parseFieldDescriptor (TX5 k).2.2.1 = some (tyX5 k) := by decide +kernel
abbrev cX5_init : ByteArray := prog_1_method_1_code
def yX5_init : MethodName := ⟨RX5, "<init>", "()V"⟩
abbrev cX5_begin : ByteArray := prog_1_method_2_code
def yX5_begin : MethodName := ⟨RX5, "begin", "()I"⟩
abbrev cX5_addNote : ByteArray := prog_1_method_3_code
def yX5_addNote : MethodName := ⟨RX5, "addNote", "(II)I"⟩
abbrev cX5_transpose : ByteArray := prog_1_method_4_code
def yX5_transpose : MethodName := ⟨RX5, "transpose", "(II)V"⟩
abbrev cX5_pitch : ByteArray := prog_1_method_5_code
def yX5_pitch : MethodName := ⟨RX5, "pitch", "(II)I"⟩
abbrev cX5_tune : ByteArray := prog_1_method_6_code
def yX5_tune : MethodName := ⟨RX5, "tune", "(III)I"⟩
abbrev cX5_owner : ByteArray := prog_1_method_7_code
def yX5_owner : MethodName := ⟨RX5, "owner", "(I)I"⟩
abbrev cX5_instruments : ByteArray := prog_1_method_8_code
def yX5_instruments : MethodName := ⟨RX5, "instruments", "()I"⟩
abbrev cX5_shifts : ByteArray := prog_1_method_9_code
def yX5_shifts : MethodName := ⟨RX5, "shifts", "(II)I"⟩
abbrev cX5_shiftsByAll : ByteArray := prog_1_method_10_code
def yX5_shiftsByAll : MethodName := ⟨RX5, "shiftsByAll", "(II)I"⟩
abbrev cX5_hardest : ByteArray := prog_1_method_11_code
def yX5_hardest : MethodName := ⟨RX5, "hardest", "(II)I"⟩
abbrev cX5_position : ByteArray := prog_1_method_12_code
def yX5_position : MethodName := ⟨RX5, "position", "(III)I"⟩
abbrev cX5_string : ByteArray := prog_1_method_13_code
def yX5_string : MethodName := ⟨RX5, "string", "(III)I"⟩
abbrev cX5_learn : ByteArray := prog_1_method_14_code
def yX5_learn : MethodName := ⟨RX5, "learn", "(III)I"⟩
abbrev cX5_level : ByteArray := prog_1_method_15_code
def yX5_level : MethodName := ⟨RX5, "level", "(I)I"⟩
abbrev cX5_known : ByteArray := prog_1_method_16_code
def yX5_known : MethodName := ⟨RX5, "known", "(I)I"⟩
abbrev cX5_next : ByteArray := prog_1_method_17_code
def yX5_next : MethodName := ⟨RX5, "next", "(I)I"⟩
abbrev cX5_addWood : ByteArray := prog_1_method_18_code
def yX5_addWood : MethodName := ⟨RX5, "addWood", "(II)I"⟩
abbrev cX5_order : ByteArray := prog_1_method_19_code
def yX5_order : MethodName := ⟨RX5, "order", "(III)I"⟩
abbrev cX5_ready : ByteArray := prog_1_method_20_code
def yX5_ready : MethodName := ⟨RX5, "ready", "(I)I"⟩
abbrev cX5_fetch : ByteArray := prog_1_method_21_code
def yX5_fetch : MethodName := ⟨RX5, "fetch", "(IIIII)I"⟩
abbrev cX5_pass : ByteArray := prog_1_method_22_code
def yX5_pass : MethodName := ⟨RX5, "pass", "(I)I"⟩
abbrev cX5_today : ByteArray := prog_1_method_23_code
def yX5_today : MethodName := ⟨RX5, "today", "()I"⟩
abbrev cX5_needPiece : ByteArray := prog_1_method_24_code
def yX5_needPiece : MethodName := ⟨RX5, "needPiece", "(I)V"⟩
abbrev cX5_needNote : ByteArray := prog_1_method_25_code
def yX5_needNote : MethodName := ⟨RX5, "needNote", "(II)V"⟩
abbrev cX5_needInstrument : ByteArray := prog_1_method_26_code
def yX5_needInstrument : MethodName := ⟨RX5, "needInstrument", "(I)V"⟩
abbrev cX5_needOrder : ByteArray := prog_1_method_27_code
def yX5_needOrder : MethodName := ⟨RX5, "needOrder", "(I)V"⟩
abbrev cX5_needPupil : ByteArray := prog_1_method_28_code
def yX5_needPupil : MethodName := ⟨RX5, "needPupil", "(I)V"⟩
abbrev cX5_needRange : ByteArray := prog_1_method_29_code
def yX5_needRange : MethodName := ⟨RX5, "needRange", "(III)V"⟩
abbrev cX5_findBest : ByteArray := prog_1_method_30_code
def yX5_findBest : MethodName := ⟨RX5, "findBest", "(II)Z"⟩
abbrev cX5_learnableShift : ByteArray := prog_1_method_31_code
def yX5_learnableShift : MethodName := ⟨RX5, "learnableShift", "(III)I"⟩
abbrev cX5_easiestShift : ByteArray := prog_1_method_32_code
def yX5_easiestShift : MethodName := ⟨RX5, "easiestShift", "(II)I"⟩
abbrev cX5_ordersAtWork : ByteArray := prog_1_method_33_code
def yX5_ordersAtWork : MethodName := ⟨RX5, "ordersAtWork", "()I"⟩
def RX6 : String := "FretSchoolModel"
def TX6 : u_T := fun k => match k with
  | _ => ("", "", "", false)
def tyX6 : Nat → FieldType := fun k => match k with
  | _ => .int
abbrev wsX60 : List Cond := u_ws RX6 TX6 0
theorem nmX6 : ∀ a, a < 0 → ∀ b, b < 0 → a ≠ b → (TX6 a).2.1 ≠ (TX6 b).2.1 := by decide +kernel
theorem tyX6_ok : ∀ k, k < 0 → parseFieldDescriptor (TX6 k).2.2.1 = some (tyX6 k) := by decide +kernel
def RJ9 : String := "java/lang/Math"
def TJ9 : u_T := fun k => match k with
  | _ => ("", "", "", false)
def tyJ9 : Nat → FieldType := fun k => match k with
  | _ => .int
abbrev wsJ90 : List Cond := u_ws RJ9 TJ9 0
theorem nmJ9 : ∀ a, a < 0 → ∀ b, b < 0 → a ≠ b → (TJ9 a).2.1 ≠ (TJ9 b).2.1 := by decide +kernel
theorem tyJ9_ok : ∀ k, k < 0 → parseFieldDescriptor (TJ9 k).2.2.1 = some (tyJ9 k) := by decide +kernel
abbrev cJ9_abs_0f7a4 : ByteArray := prog_13_method_59_code
def yJ9_abs_0f7a4 : MethodName := ⟨RJ9, "abs", "(I)I"⟩
def RJ0 : String := "java/lang/String"
def TJ0 : u_T := fun k => match k with
  | _ => ("", "", "", false)
def tyJ0 : Nat → FieldType := fun k => match k with
  | _ => .int
abbrev wsJ00 : List Cond := u_ws RJ0 TJ0 0
theorem nmJ0 : ∀ a, a < 0 → ∀ b, b < 0 → a ≠ b → (TJ0 a).2.1 ≠ (TJ0 b).2.1 := by decide +kernel
theorem tyJ0_ok : ∀ k, k < 0 → parseFieldDescriptor (TJ0 k).2.2.1 = some (tyJ0 k) := by decide +kernel
def RL : String := "FretSchoolLaw"
abbrev cL_at : ByteArray := method_2_code
def yL_at : MethodName := ⟨RL, "at", "([II)I"⟩
abbrev cL_low : ByteArray := method_3_code
def yL_low : MethodName := ⟨RL, "low", "(II)I"⟩
abbrev cL_begin : ByteArray := method_4_code
def yL_begin : MethodName := ⟨RL, "begin", "(LFretSchool;)I"⟩
abbrev cL_addNote : ByteArray := method_5_code
def yL_addNote : MethodName := ⟨RL, "addNote", "(LFretSchool;II)I"⟩
abbrev cL_transpose : ByteArray := method_6_code
def yL_transpose : MethodName := ⟨RL, "transpose", "(LFretSchool;II)I"⟩
abbrev cL_pitch : ByteArray := method_7_code
def yL_pitch : MethodName := ⟨RL, "pitch", "(LFretSchool;II)I"⟩
abbrev cL_tune : ByteArray := method_8_code
def yL_tune : MethodName := ⟨RL, "tune", "(LFretSchool;III)I"⟩
abbrev cL_owner : ByteArray := method_9_code
def yL_owner : MethodName := ⟨RL, "owner", "(LFretSchool;I)I"⟩
abbrev cL_shifts : ByteArray := method_10_code
def yL_shifts : MethodName := ⟨RL, "shifts", "(LFretSchool;II)I"⟩
abbrev cL_shiftsByAll : ByteArray := method_11_code
def yL_shiftsByAll : MethodName := ⟨RL, "shiftsByAll", "(LFretSchool;II)I"⟩
abbrev cL_hardest : ByteArray := method_12_code
def yL_hardest : MethodName := ⟨RL, "hardest", "(LFretSchool;II)I"⟩
abbrev cL_position : ByteArray := method_13_code
def yL_position : MethodName := ⟨RL, "position", "(LFretSchool;III)I"⟩
abbrev cL_string : ByteArray := method_14_code
def yL_string : MethodName := ⟨RL, "string", "(LFretSchool;III)I"⟩
abbrev cL_learn : ByteArray := method_15_code
def yL_learn : MethodName := ⟨RL, "learn", "(LFretSchool;III)I"⟩
abbrev cL_level : ByteArray := method_16_code
def yL_level : MethodName := ⟨RL, "level", "(LFretSchool;I)I"⟩
abbrev cL_known : ByteArray := method_17_code
def yL_known : MethodName := ⟨RL, "known", "(LFretSchool;I)I"⟩
abbrev cL_next : ByteArray := method_18_code
def yL_next : MethodName := ⟨RL, "next", "(LFretSchool;I)I"⟩
abbrev cL_addWood : ByteArray := method_19_code
def yL_addWood : MethodName := ⟨RL, "addWood", "(LFretSchool;II)I"⟩
abbrev cL_order : ByteArray := method_20_code
def yL_order : MethodName := ⟨RL, "order", "(LFretSchool;III)I"⟩
abbrev cL_ready : ByteArray := method_21_code
def yL_ready : MethodName := ⟨RL, "ready", "(LFretSchool;I)I"⟩
abbrev cL_fetch : ByteArray := method_22_code
def yL_fetch : MethodName := ⟨RL, "fetch", "(LFretSchool;IIIII)I"⟩
abbrev cL_pass : ByteArray := method_23_code
def yL_pass : MethodName := ⟨RL, "pass", "(LFretSchool;I)I"⟩
abbrev cL_apart : ByteArray := method_24_code
def yL_apart : MethodName := ⟨RL, "apart", "(II)I"⟩
abbrev cL_stringOf : ByteArray := method_25_code
def yL_stringOf : MethodName := ⟨RL, "stringOf", "([I[IIII)I"⟩
abbrev cL_fingers : ByteArray := method_26_code
def yL_fingers : MethodName := ⟨RL, "fingers", "(LFretSchool;[I[I[III)Z"⟩
abbrev cL_nexts : ByteArray := method_27_code
def yL_nexts : MethodName := ⟨RL, "nexts", "(LFretSchool;[I[II)Z"⟩
abbrev cL_learns : ByteArray := method_28_code
def yL_learns : MethodName := ⟨RL, "learns", "(LFretSchool;[I[IIII)Z"⟩
abbrev cL_pieces : ByteArray := method_29_code
def yL_pieces : MethodName := ⟨RL, "pieces", "(LFretSchool;[I[III)Z"⟩
abbrev cL_orders : ByteArray := method_30_code
def yL_orders : MethodName := ⟨RL, "orders", "(LFretSchool;[I[I[III)Z"⟩
abbrev cL_fetches : ByteArray := method_31_code
def yL_fetches : MethodName := ⟨RL, "fetches", "(LFretSchool;[I[I[I[III)Z"⟩
abbrev cL_acts : ByteArray := method_32_code
def yL_acts : MethodName := ⟨RL, "acts", "(LFretSchool;[I[I[I[I[I[III)Z"⟩
abbrev cL_law : ByteArray := code
def yL_law : MethodName := ⟨RL, "law", "([I)Z"⟩
abbrev vwCl : List vw_C := [(RX0, TX0, 5), (RX1, TX1, 3), (RX2, TX2, 4), (RX3, TX3, 2), (RX4, TX4, 2), (RX5, TX5, 10)]
end
section
/-- the good words of the tables -/
def BIG : List Cond := lw_tbl.filter goodWord
theorem bigAll : BIG.all goodWord = true := List.all_eq_true.mpr (fun w h => (List.mem_filter.mp h).2)
theorem bigIn {w : Cond} (i : Nat) (h : lw_tbl[i]? = some w) (hg : goodWord w = true) : w ∈ BIG := List.mem_filter.mpr ⟨List.mem_of_getElem? h, hg⟩
theorem bigT {w : Cond} (h : w ∈ BIG) : w ∈ lw_tbl := (List.mem_filter.mp h).1
theorem wd0 : Cond.selects "java/lang/Throwable" (⟨"java/lang/Throwable", "fillInStackTrace", "(I)Ljava/lang/Throwable;"⟩ : MethodName) (⟨"java/lang/Throwable", "fillInStackTrace", "(I)Ljava/lang/Throwable;"⟩ : MethodName) ∈ BIG := bigIn 0 (by rfl) (by rfl)
theorem wd1 : Cond.selects "FretSchool" yX5_easiestShift yX5_easiestShift ∈ BIG := bigIn 1 (by rfl) (by rfl)
theorem wd2 : Cond.selects "FretSchool" yX5_learnableShift yX5_learnableShift ∈ BIG := bigIn 2 (by rfl) (by rfl)
theorem wd3 : Cond.selects "FretSchool$Hand" yX0_feelReach yX0_feelReach ∈ BIG := bigIn 3 (by rfl) (by rfl)
theorem wd4 : Cond.selects "FretSchool$Hand" yX0_measureRest yX0_measureRest ∈ BIG := bigIn 4 (by rfl) (by rfl)
theorem wd5 : Cond.selects "FretSchool$Hand" yX0_nearest yX0_nearest ∈ BIG := bigIn 5 (by rfl) (by rfl)
theorem wd6 : Cond.selects "FretSchool$Hand" yX0_chooseRow yX0_chooseRow ∈ BIG := bigIn 6 (by rfl) (by rfl)
theorem wd7 : Cond.selects "FretSchool" yX5_needNote yX5_needNote ∈ BIG := bigIn 7 (by rfl) (by rfl)
theorem wd8 : Cond.selects "FretSchool" yX5_needPiece yX5_needPiece ∈ BIG := bigIn 8 (by rfl) (by rfl)
theorem wd9 : Cond.selects "FretSchool" yX5_findBest yX5_findBest ∈ BIG := bigIn 9 (by rfl) (by rfl)
theorem wd10 : Cond.selects "FretSchool" yX5_needInstrument yX5_needInstrument ∈ BIG := bigIn 10 (by rfl) (by rfl)
theorem wd11 : Cond.selects "FretSchool" yX5_needOrder yX5_needOrder ∈ BIG := bigIn 11 (by rfl) (by rfl)
theorem wd12 : Cond.selects "FretSchool" yX5_ordersAtWork yX5_ordersAtWork ∈ BIG := bigIn 12 (by rfl) (by rfl)
theorem wd13 : Cond.initialized "FretSchoolLaw" ∈ BIG := bigIn 13 (by rfl) (by rfl)
theorem wd14 : Cond.initialized "FretSchool" ∈ BIG := bigIn 14 (by rfl) (by rfl)
theorem wd15 : Cond.initialized "FretSchool$Piece" ∈ BIG := bigIn 15 (by rfl) (by rfl)
theorem wd16 : Cond.initialized "FretSchool$Instrument" ∈ BIG := bigIn 16 (by rfl) (by rfl)
theorem wd17 : Cond.initialized "FretSchool$Pupil" ∈ BIG := bigIn 17 (by rfl) (by rfl)
theorem wd18 : Cond.initialized "FretSchool$Order" ∈ BIG := bigIn 18 (by rfl) (by rfl)
theorem wd19 : Cond.initialized "FretSchool$Hand" ∈ BIG := bigIn 19 (by rfl) (by rfl)
theorem wd20 : Cond.initialized "java/lang/Throwable" ∈ BIG := bigIn 20 (by rfl) (by rfl)
theorem wd21 : Cond.initialized "java/lang/Exception" ∈ BIG := bigIn 21 (by rfl) (by rfl)
theorem wd22 : Cond.initialized "java/lang/RuntimeException" ∈ BIG := bigIn 22 (by rfl) (by rfl)
theorem wd23 : Cond.initialized "java/lang/IllegalArgumentException" ∈ BIG := bigIn 23 (by rfl) (by rfl)
theorem wd24 : Cond.initialized "java/lang/Math" ∈ BIG := bigIn 24 (by rfl) (by rfl)
theorem wd25 : Cond.initialized "java/lang/IllegalStateException" ∈ BIG := bigIn 25 (by rfl) (by rfl)
theorem wd26 : Cond.initialized "java/lang/IndexOutOfBoundsException" ∈ BIG := bigIn 26 (by rfl) (by rfl)
theorem wd27 : Cond.classLink "FretSchoolLaw" 11 "FretSchool" ∈ BIG := bigIn 27 (by rfl) (by rfl)
theorem wd28 : Cond.instantiable "FretSchool" 10 ∈ BIG := bigIn 28 (by rfl) (by rfl)
theorem wd29 : Cond.methodLink "FretSchoolLaw" 173 yX5_init ∈ BIG := bigIn 29 (by rfl) (by rfl)
theorem wd30 : Cond.instanceMethod yX5_init ∈ BIG := bigIn 30 (by rfl) (by rfl)
theorem wd31 : Cond.code yX5_init cX5_init 2 (none : Option Jvm.ClassFile.FieldType) ∈ BIG := bigIn 31 (by rfl) (by rfl)
theorem wd32 : Cond.methodLink "FretSchool" 3 (⟨"java/lang/Object", "<init>", "()V"⟩ : MethodName) ∈ BIG := bigIn 32 (by rfl) (by rfl)
theorem wd33 : Cond.instanceMethod (⟨"java/lang/Object", "<init>", "()V"⟩ : MethodName) ∈ BIG := bigIn 33 (by rfl) (by rfl)
theorem wd34 : Cond.code (⟨"java/lang/Object", "<init>", "()V"⟩ : MethodName) object_method_1_code 1 (none : Option Jvm.ClassFile.FieldType) ∈ BIG := bigIn 34 (by rfl) (by rfl)
theorem wd35 : Cond.classLink "FretSchool" 9 "FretSchool$Piece" ∈ BIG := bigIn 35 (by rfl) (by rfl)
theorem wt36 : Cond.arrayOver (.object "FretSchool$Piece") ∈ lw_tbl := List.mem_of_getElem? (i := 36) (by rfl)
theorem wd37 : Cond.instantiable "FretSchool$Piece" 2 ∈ BIG := bigIn 37 (by rfl) (by rfl)
theorem wt38 : Cond.methodLinkNest "FretSchool" 15 yX3_init "FretSchool" ∈ lw_tbl := List.mem_of_getElem? (i := 38) (by rfl)
theorem wd39 : Cond.instanceMethod yX3_init ∈ BIG := bigIn 39 (by rfl) (by rfl)
theorem wd40 : Cond.code yX3_init cX3_init 1 (none : Option Jvm.ClassFile.FieldType) ∈ BIG := bigIn 40 (by rfl) (by rfl)
theorem wd41 : Cond.methodLink "FretSchool$Piece" 3 (⟨"java/lang/Object", "<init>", "()V"⟩ : MethodName) ∈ BIG := bigIn 41 (by rfl) (by rfl)
theorem wd42 : Cond.fieldLink "FretSchool$Piece" 9 "FretSchool$Piece" "pitches" "[I" ∈ BIG := bigIn 42 (by rfl) (by rfl)
theorem wd43 : Cond.fieldLink "FretSchool$Hand" 58 "FretSchool$Piece" "pitches" "[I" ∈ BIG := bigIn 43 (by rfl) (by rfl)
theorem wd44 : Cond.fieldLink "FretSchool" 101 "FretSchool$Piece" "pitches" "[I" ∈ BIG := bigIn 44 (by rfl) (by rfl)
theorem wd45 : Cond.fieldLink "FretSchool$Piece" 15 "FretSchool$Piece" "count" "I" ∈ BIG := bigIn 45 (by rfl) (by rfl)
theorem wd46 : Cond.fieldLink "FretSchool$Hand" 34 "FretSchool$Piece" "count" "I" ∈ BIG := bigIn 46 (by rfl) (by rfl)
theorem wd47 : Cond.fieldLink "FretSchool" 85 "FretSchool$Piece" "count" "I" ∈ BIG := bigIn 47 (by rfl) (by rfl)
theorem wd48 : Cond.laysFinal "FretSchool$Piece" "FretSchool$Piece" "pitches" "[I" ∈ BIG := bigIn 48 (by rfl) (by rfl)
theorem wd50 : Cond.lays "FretSchool$Piece" "FretSchool$Piece" "count" "I" ∈ BIG := bigIn 50 (by rfl) (by rfl)
theorem wd53 : Cond.arrayClass .int ∈ BIG := bigIn 53 (by rfl) (by rfl)
theorem wd54 : Cond.classLink "FretSchool" 16 "FretSchool$Instrument" ∈ BIG := bigIn 54 (by rfl) (by rfl)
theorem wt55 : Cond.arrayOver (.object "FretSchool$Instrument") ∈ lw_tbl := List.mem_of_getElem? (i := 55) (by rfl)
theorem wd56 : Cond.instantiable "FretSchool$Instrument" 3 ∈ BIG := bigIn 56 (by rfl) (by rfl)
theorem wt57 : Cond.methodLinkNest "FretSchool" 22 yX1_init "FretSchool" ∈ lw_tbl := List.mem_of_getElem? (i := 57) (by rfl)
theorem wd58 : Cond.instanceMethod yX1_init ∈ BIG := bigIn 58 (by rfl) (by rfl)
theorem wd59 : Cond.code yX1_init cX1_init 1 (none : Option Jvm.ClassFile.FieldType) ∈ BIG := bigIn 59 (by rfl) (by rfl)
theorem wd60 : Cond.methodLink "FretSchool$Instrument" 3 (⟨"java/lang/Object", "<init>", "()V"⟩ : MethodName) ∈ BIG := bigIn 60 (by rfl) (by rfl)
theorem wd61 : Cond.fieldLink "FretSchool$Instrument" 9 "FretSchool$Instrument" "open" "[I" ∈ BIG := bigIn 61 (by rfl) (by rfl)
theorem wd62 : Cond.fieldLink "FretSchool" 107 "FretSchool$Instrument" "open" "[I" ∈ BIG := bigIn 62 (by rfl) (by rfl)
theorem wd63 : Cond.fieldLink "FretSchool$Instrument" 15 "FretSchool$Instrument" "keeper" "I" ∈ BIG := bigIn 63 (by rfl) (by rfl)
theorem wd64 : Cond.fieldLink "FretSchool" 110 "FretSchool$Instrument" "keeper" "I" ∈ BIG := bigIn 64 (by rfl) (by rfl)
theorem wd65 : Cond.fieldLink "FretSchool$Instrument" 19 "FretSchool$Instrument" "fretCount" "I" ∈ BIG := bigIn 65 (by rfl) (by rfl)
theorem wd66 : Cond.laysFinal "FretSchool$Instrument" "FretSchool$Instrument" "open" "[I" ∈ BIG := bigIn 66 (by rfl) (by rfl)
theorem wd68 : Cond.lays "FretSchool$Instrument" "FretSchool$Instrument" "keeper" "I" ∈ BIG := bigIn 68 (by rfl) (by rfl)
theorem wd70 : Cond.lays "FretSchool$Instrument" "FretSchool$Instrument" "fretCount" "I" ∈ BIG := bigIn 70 (by rfl) (by rfl)
theorem wd73 : Cond.classLink "FretSchool" 23 "FretSchool$Pupil" ∈ BIG := bigIn 73 (by rfl) (by rfl)
theorem wt74 : Cond.arrayOver (.object "FretSchool$Pupil") ∈ lw_tbl := List.mem_of_getElem? (i := 74) (by rfl)
theorem wd75 : Cond.instantiable "FretSchool$Pupil" 2 ∈ BIG := bigIn 75 (by rfl) (by rfl)
theorem wt76 : Cond.methodLinkNest "FretSchool" 29 yX4_init "FretSchool" ∈ lw_tbl := List.mem_of_getElem? (i := 76) (by rfl)
theorem wd77 : Cond.instanceMethod yX4_init ∈ BIG := bigIn 77 (by rfl) (by rfl)
theorem wd78 : Cond.code yX4_init cX4_init 1 (none : Option Jvm.ClassFile.FieldType) ∈ BIG := bigIn 78 (by rfl) (by rfl)
theorem wd79 : Cond.methodLink "FretSchool$Pupil" 3 (⟨"java/lang/Object", "<init>", "()V"⟩ : MethodName) ∈ BIG := bigIn 79 (by rfl) (by rfl)
theorem wd80 : Cond.fieldLink "FretSchool$Pupil" 9 "FretSchool$Pupil" "grade" "I" ∈ BIG := bigIn 80 (by rfl) (by rfl)
theorem wd81 : Cond.fieldLink "FretSchool" 153 "FretSchool$Pupil" "grade" "I" ∈ BIG := bigIn 81 (by rfl) (by rfl)
theorem wd82 : Cond.fieldLink "FretSchool$Pupil" 15 "FretSchool$Pupil" "repertoire" "I" ∈ BIG := bigIn 82 (by rfl) (by rfl)
theorem wd83 : Cond.fieldLink "FretSchool" 156 "FretSchool$Pupil" "repertoire" "I" ∈ BIG := bigIn 83 (by rfl) (by rfl)
theorem wd84 : Cond.lays "FretSchool$Pupil" "FretSchool$Pupil" "grade" "I" ∈ BIG := bigIn 84 (by rfl) (by rfl)
theorem wd86 : Cond.lays "FretSchool$Pupil" "FretSchool$Pupil" "repertoire" "I" ∈ BIG := bigIn 86 (by rfl) (by rfl)
theorem wd89 : Cond.classLink "FretSchool" 30 "FretSchool$Order" ∈ BIG := bigIn 89 (by rfl) (by rfl)
theorem wt90 : Cond.arrayOver (.object "FretSchool$Order") ∈ lw_tbl := List.mem_of_getElem? (i := 90) (by rfl)
theorem wd91 : Cond.instantiable "FretSchool$Order" 4 ∈ BIG := bigIn 91 (by rfl) (by rfl)
theorem wt92 : Cond.methodLinkNest "FretSchool" 36 yX2_init "FretSchool" ∈ lw_tbl := List.mem_of_getElem? (i := 92) (by rfl)
theorem wd93 : Cond.instanceMethod yX2_init ∈ BIG := bigIn 93 (by rfl) (by rfl)
theorem wd94 : Cond.code yX2_init cX2_init 1 (none : Option Jvm.ClassFile.FieldType) ∈ BIG := bigIn 94 (by rfl) (by rfl)
theorem wd95 : Cond.methodLink "FretSchool$Order" 3 (⟨"java/lang/Object", "<init>", "()V"⟩ : MethodName) ∈ BIG := bigIn 95 (by rfl) (by rfl)
theorem wd96 : Cond.fieldLink "FretSchool$Order" 9 "FretSchool$Order" "buyer" "I" ∈ BIG := bigIn 96 (by rfl) (by rfl)
theorem wd97 : Cond.fieldLink "FretSchool" 194 "FretSchool$Order" "buyer" "I" ∈ BIG := bigIn 97 (by rfl) (by rfl)
theorem wd98 : Cond.fieldLink "FretSchool$Order" 15 "FretSchool$Order" "fretCount" "I" ∈ BIG := bigIn 98 (by rfl) (by rfl)
theorem wd99 : Cond.fieldLink "FretSchool" 197 "FretSchool$Order" "fretCount" "I" ∈ BIG := bigIn 99 (by rfl) (by rfl)
theorem wd100 : Cond.fieldLink "FretSchool$Order" 18 "FretSchool$Order" "readyDay" "I" ∈ BIG := bigIn 100 (by rfl) (by rfl)
theorem wd101 : Cond.fieldLink "FretSchool" 178 "FretSchool$Order" "readyDay" "I" ∈ BIG := bigIn 101 (by rfl) (by rfl)
theorem wd102 : Cond.fieldLink "FretSchool$Order" 21 "FretSchool$Order" "isFetched" "Z" ∈ BIG := bigIn 102 (by rfl) (by rfl)
theorem wd103 : Cond.fieldLink "FretSchool" 186 "FretSchool$Order" "isFetched" "Z" ∈ BIG := bigIn 103 (by rfl) (by rfl)
theorem wd104 : Cond.lays "FretSchool$Order" "FretSchool$Order" "buyer" "I" ∈ BIG := bigIn 104 (by rfl) (by rfl)
theorem wd106 : Cond.lays "FretSchool$Order" "FretSchool$Order" "fretCount" "I" ∈ BIG := bigIn 106 (by rfl) (by rfl)
theorem wd108 : Cond.lays "FretSchool$Order" "FretSchool$Order" "readyDay" "I" ∈ BIG := bigIn 108 (by rfl) (by rfl)
theorem wd110 : Cond.lays "FretSchool$Order" "FretSchool$Order" "isFetched" "Z" ∈ BIG := bigIn 110 (by rfl) (by rfl)
theorem wd113 : Cond.classLink "FretSchool" 41 "FretSchool$Hand" ∈ BIG := bigIn 113 (by rfl) (by rfl)
theorem wd114 : Cond.instantiable "FretSchool$Hand" 5 ∈ BIG := bigIn 114 (by rfl) (by rfl)
theorem wt115 : Cond.methodLinkNest "FretSchool" 43 yX0_init "FretSchool" ∈ lw_tbl := List.mem_of_getElem? (i := 115) (by rfl)
theorem wd116 : Cond.instanceMethod yX0_init ∈ BIG := bigIn 116 (by rfl) (by rfl)
theorem wd117 : Cond.code yX0_init cX0_init 1 (none : Option Jvm.ClassFile.FieldType) ∈ BIG := bigIn 117 (by rfl) (by rfl)
theorem wd118 : Cond.methodLink "FretSchool$Hand" 3 (⟨"java/lang/Object", "<init>", "()V"⟩ : MethodName) ∈ BIG := bigIn 118 (by rfl) (by rfl)
theorem wd119 : Cond.classLink "FretSchool$Hand" 15 "[[I" ∈ BIG := bigIn 119 (by rfl) (by rfl)
theorem wt120 : Cond.arrayOver (.array .int) ∈ lw_tbl := List.mem_of_getElem? (i := 120) (by rfl)
theorem wd121 : Cond.fieldLink "FretSchool$Hand" 9 "FretSchool$Hand" "reach" "[I" ∈ BIG := bigIn 121 (by rfl) (by rfl)
theorem wd122 : Cond.fieldLink "FretSchool$Hand" 17 "FretSchool$Hand" "rest" "[[I" ∈ BIG := bigIn 122 (by rfl) (by rfl)
theorem wd123 : Cond.fieldLink "FretSchool$Hand" 20 "FretSchool$Hand" "row" "[I" ∈ BIG := bigIn 123 (by rfl) (by rfl)
theorem wd124 : Cond.fieldLink "FretSchool" 129 "FretSchool$Hand" "row" "[I" ∈ BIG := bigIn 124 (by rfl) (by rfl)
theorem wd125 : Cond.fieldLink "FretSchool$Hand" 23 "FretSchool$Hand" "sum" "I" ∈ BIG := bigIn 125 (by rfl) (by rfl)
theorem wd126 : Cond.fieldLink "FretSchool" 117 "FretSchool$Hand" "sum" "I" ∈ BIG := bigIn 126 (by rfl) (by rfl)
theorem wd127 : Cond.fieldLink "FretSchool$Hand" 27 "FretSchool$Hand" "greatest" "I" ∈ BIG := bigIn 127 (by rfl) (by rfl)
theorem wd128 : Cond.fieldLink "FretSchool" 126 "FretSchool$Hand" "greatest" "I" ∈ BIG := bigIn 128 (by rfl) (by rfl)
theorem wd129 : Cond.laysFinal "FretSchool$Hand" "FretSchool$Hand" "reach" "[I" ∈ BIG := bigIn 129 (by rfl) (by rfl)
theorem wd131 : Cond.laysFinal "FretSchool$Hand" "FretSchool$Hand" "rest" "[[I" ∈ BIG := bigIn 131 (by rfl) (by rfl)
theorem wd133 : Cond.laysFinal "FretSchool$Hand" "FretSchool$Hand" "row" "[I" ∈ BIG := bigIn 133 (by rfl) (by rfl)
theorem wd135 : Cond.lays "FretSchool$Hand" "FretSchool$Hand" "sum" "I" ∈ BIG := bigIn 135 (by rfl) (by rfl)
theorem wd137 : Cond.lays "FretSchool$Hand" "FretSchool$Hand" "greatest" "I" ∈ BIG := bigIn 137 (by rfl) (by rfl)
theorem wd140 : Cond.fieldLink "FretSchool" 11 "FretSchool" "pieces" "[LFretSchool$Piece;" ∈ BIG := bigIn 140 (by rfl) (by rfl)
theorem wd141 : Cond.fieldLink "FretSchool" 18 "FretSchool" "builds" "[LFretSchool$Instrument;" ∈ BIG := bigIn 141 (by rfl) (by rfl)
theorem wd142 : Cond.fieldLink "FretSchool" 25 "FretSchool" "pupils" "[LFretSchool$Pupil;" ∈ BIG := bigIn 142 (by rfl) (by rfl)
theorem wd143 : Cond.fieldLink "FretSchool" 32 "FretSchool" "orders" "[LFretSchool$Order;" ∈ BIG := bigIn 143 (by rfl) (by rfl)
theorem wd144 : Cond.fieldLink "FretSchool" 37 "FretSchool" "stock" "[I" ∈ BIG := bigIn 144 (by rfl) (by rfl)
theorem wd145 : Cond.fieldLink "FretSchool" 44 "FretSchool" "hand" "LFretSchool$Hand;" ∈ BIG := bigIn 145 (by rfl) (by rfl)
theorem wd146 : Cond.fieldLink "FretSchool" 48 "FretSchool" "pieceCount" "I" ∈ BIG := bigIn 146 (by rfl) (by rfl)
theorem wd147 : Cond.fieldLink "FretSchool" 52 "FretSchool" "buildCount" "I" ∈ BIG := bigIn 147 (by rfl) (by rfl)
theorem wd148 : Cond.fieldLink "FretSchool" 55 "FretSchool" "orderCount" "I" ∈ BIG := bigIn 148 (by rfl) (by rfl)
theorem wd149 : Cond.fieldLink "FretSchool" 58 "FretSchool" "day" "I" ∈ BIG := bigIn 149 (by rfl) (by rfl)
theorem wd150 : Cond.laysFinal "FretSchool" "FretSchool" "pieces" "[LFretSchool$Piece;" ∈ BIG := bigIn 150 (by rfl) (by rfl)
theorem wd152 : Cond.laysFinal "FretSchool" "FretSchool" "builds" "[LFretSchool$Instrument;" ∈ BIG := bigIn 152 (by rfl) (by rfl)
theorem wd154 : Cond.laysFinal "FretSchool" "FretSchool" "pupils" "[LFretSchool$Pupil;" ∈ BIG := bigIn 154 (by rfl) (by rfl)
theorem wd156 : Cond.laysFinal "FretSchool" "FretSchool" "orders" "[LFretSchool$Order;" ∈ BIG := bigIn 156 (by rfl) (by rfl)
theorem wd158 : Cond.laysFinal "FretSchool" "FretSchool" "stock" "[I" ∈ BIG := bigIn 158 (by rfl) (by rfl)
theorem wd160 : Cond.laysFinal "FretSchool" "FretSchool" "hand" "LFretSchool$Hand;" ∈ BIG := bigIn 160 (by rfl) (by rfl)
theorem wd162 : Cond.lays "FretSchool" "FretSchool" "pieceCount" "I" ∈ BIG := bigIn 162 (by rfl) (by rfl)
theorem wd164 : Cond.lays "FretSchool" "FretSchool" "buildCount" "I" ∈ BIG := bigIn 164 (by rfl) (by rfl)
theorem wd166 : Cond.lays "FretSchool" "FretSchool" "orderCount" "I" ∈ BIG := bigIn 166 (by rfl) (by rfl)
theorem wd168 : Cond.lays "FretSchool" "FretSchool" "day" "I" ∈ BIG := bigIn 168 (by rfl) (by rfl)
theorem wd171 : Cond.methodLink "FretSchoolLaw" 138 yX5_instruments ∈ BIG := bigIn 171 (by rfl) (by rfl)
theorem wd172 : Cond.instanceMethod yX5_instruments ∈ BIG := bigIn 172 (by rfl) (by rfl)
theorem wd173 : Cond.selects "FretSchool" yX5_instruments yX5_instruments ∈ BIG := bigIn 173 (by rfl) (by rfl)
theorem wd174 : Cond.code yX5_instruments cX5_instruments 1 (some .int) ∈ BIG := bigIn 174 (by rfl) (by rfl)
theorem wd175 : Cond.methodLink "FretSchoolLaw" 153 yX5_today ∈ BIG := bigIn 175 (by rfl) (by rfl)
theorem wd176 : Cond.instanceMethod yX5_today ∈ BIG := bigIn 176 (by rfl) (by rfl)
theorem wd177 : Cond.selects "FretSchool" yX5_today yX5_today ∈ BIG := bigIn 177 (by rfl) (by rfl)
theorem wd178 : Cond.code yX5_today cX5_today 1 (some .int) ∈ BIG := bigIn 178 (by rfl) (by rfl)
theorem wd179 : Cond.methodLink "FretSchoolLaw" 174 yL_at ∈ BIG := bigIn 179 (by rfl) (by rfl)
theorem wd180 : Cond.static yL_at ∈ BIG := bigIn 180 (by rfl) (by rfl)
theorem wd181 : Cond.code yL_at cL_at 2 (some .int) ∈ BIG := bigIn 181 (by rfl) (by rfl)
theorem wd182 : Cond.constant "FretSchoolLaw" 7 (937025989 : Int32) ∈ BIG := bigIn 182 (by rfl) (by rfl)
theorem wd183 : Cond.constant "FretSchoolLaw" 8 (1550557855 : Int32) ∈ BIG := bigIn 183 (by rfl) (by rfl)
theorem wd184 : Cond.methodLink "FretSchoolLaw" 113 yL_level ∈ BIG := bigIn 184 (by rfl) (by rfl)
theorem wd185 : Cond.static yL_level ∈ BIG := bigIn 185 (by rfl) (by rfl)
theorem wd186 : Cond.codeWith yL_level cL_level 3 (some .int) [(0, 5, 6, 26)] ∈ BIG := bigIn 186 (by rfl) (by rfl)
theorem wd187 : Cond.classLink "FretSchoolLaw" 26 "java/lang/IllegalArgumentException" ∈ BIG := bigIn 187 (by rfl) (by rfl)
theorem wd188 : Cond.methodLink "FretSchoolLaw" 62 yX5_level ∈ BIG := bigIn 188 (by rfl) (by rfl)
theorem wd189 : Cond.instanceMethod yX5_level ∈ BIG := bigIn 189 (by rfl) (by rfl)
theorem wd190 : Cond.selects "FretSchool" yX5_level yX5_level ∈ BIG := bigIn 190 (by rfl) (by rfl)
theorem wd191 : Cond.code yX5_level cX5_level 2 (some .int) ∈ BIG := bigIn 191 (by rfl) (by rfl)
theorem wd192 : Cond.methodLink "FretSchool" 136 yX5_needPupil ∈ BIG := bigIn 192 (by rfl) (by rfl)
theorem wd193 : Cond.static yX5_needPupil ∈ BIG := bigIn 193 (by rfl) (by rfl)
theorem wd194 : Cond.code yX5_needPupil cX5_needPupil 1 (none : Option Jvm.ClassFile.FieldType) ∈ BIG := bigIn 194 (by rfl) (by rfl)
theorem wd195 : Cond.methodLink "FretSchool" 72 yX5_needRange ∈ BIG := bigIn 195 (by rfl) (by rfl)
theorem wd196 : Cond.static yX5_needRange ∈ BIG := bigIn 196 (by rfl) (by rfl)
theorem wd197 : Cond.code yX5_needRange cX5_needRange 3 (none : Option Jvm.ClassFile.FieldType) ∈ BIG := bigIn 197 (by rfl) (by rfl)
theorem wd198 : Cond.classLink "FretSchool" 220 "java/lang/IllegalArgumentException" ∈ BIG := bigIn 198 (by rfl) (by rfl)
theorem wd199 : Cond.instantiable "java/lang/IllegalArgumentException" 6 ∈ BIG := bigIn 199 (by rfl) (by rfl)
theorem wt200 : Cond.castable "java/lang/IllegalArgumentException" "java/lang/IllegalArgumentException" ∈ lw_tbl := List.mem_of_getElem? (i := 200) (by rfl)
theorem wd207 : Cond.selects "java/lang/IllegalArgumentException" (⟨"java/lang/Throwable", "fillInStackTrace", "(I)Ljava/lang/Throwable;"⟩ : MethodName) (⟨"java/lang/Throwable", "fillInStackTrace", "(I)Ljava/lang/Throwable;"⟩ : MethodName) ∈ BIG := bigIn 207 (by rfl) (by rfl)
theorem wd208 : Cond.selects "java/lang/IllegalArgumentException" (⟨"java/lang/Throwable", "fillInStackTrace", "()Ljava/lang/Throwable;"⟩ : MethodName) (⟨"java/lang/Throwable", "fillInStackTrace", "()Ljava/lang/Throwable;"⟩ : MethodName) ∈ BIG := bigIn 208 (by rfl) (by rfl)
theorem wd209 : Cond.lays "java/lang/IllegalArgumentException" "java/lang/Throwable" "cause" "Ljava/lang/Throwable;" ∈ BIG := bigIn 209 (by rfl) (by rfl)
theorem wd210 : Cond.lays "java/lang/Throwable" "java/lang/Throwable" "cause" "Ljava/lang/Throwable;" ∈ BIG := bigIn 210 (by rfl) (by rfl)
theorem wd211 : Cond.lays "java/lang/IllegalArgumentException" "java/lang/Throwable" "stackTrace" "[Ljava/lang/StackTraceElement;" ∈ BIG := bigIn 211 (by rfl) (by rfl)
theorem wd212 : Cond.lays "java/lang/Throwable" "java/lang/Throwable" "stackTrace" "[Ljava/lang/StackTraceElement;" ∈ BIG := bigIn 212 (by rfl) (by rfl)
theorem wd213 : Cond.lays "java/lang/IllegalArgumentException" "java/lang/Throwable" "suppressedExceptions" "Ljava/util/List;" ∈ BIG := bigIn 213 (by rfl) (by rfl)
theorem wd214 : Cond.lays "java/lang/Throwable" "java/lang/Throwable" "suppressedExceptions" "Ljava/util/List;" ∈ BIG := bigIn 214 (by rfl) (by rfl)
theorem wd215 : Cond.lays "java/lang/IllegalArgumentException" "java/lang/Throwable" "detailMessage" "Ljava/lang/String;" ∈ BIG := bigIn 215 (by rfl) (by rfl)
theorem wd216 : Cond.lays "java/lang/Throwable" "java/lang/Throwable" "detailMessage" "Ljava/lang/String;" ∈ BIG := bigIn 216 (by rfl) (by rfl)
theorem wd217 : Cond.lays "java/lang/IllegalArgumentException" "java/lang/Throwable" "backtrace" "Ljava/lang/Object;" ∈ BIG := bigIn 217 (by rfl) (by rfl)
theorem wd218 : Cond.lays "java/lang/Throwable" "java/lang/Throwable" "backtrace" "Ljava/lang/Object;" ∈ BIG := bigIn 218 (by rfl) (by rfl)
theorem wd219 : Cond.fieldLink "java/lang/Throwable" 198 "java/lang/Throwable" "backtrace" "Ljava/lang/Object;" ∈ BIG := bigIn 219 (by rfl) (by rfl)
theorem wd221 : Cond.instanceMethod (⟨"java/lang/Throwable", "<init>", "()V"⟩ : MethodName) ∈ BIG := bigIn 221 (by rfl) (by rfl)
theorem wd222 : Cond.code (⟨"java/lang/Throwable", "<init>", "()V"⟩ : MethodName) prog_16_method_1_code 1 (none : Option Jvm.ClassFile.FieldType) ∈ BIG := bigIn 222 (by rfl) (by rfl)
theorem wd223 : Cond.methodLink "java/lang/Throwable" 1 (⟨"java/lang/Object", "<init>", "()V"⟩ : MethodName) ∈ BIG := bigIn 223 (by rfl) (by rfl)
theorem wd224 : Cond.fieldLink "java/lang/Throwable" 13 "java/lang/Throwable" "UNASSIGNED_STACK" "[Ljava/lang/StackTraceElement;" ∈ BIG := bigIn 224 (by rfl) (by rfl)
theorem wt225 : Cond.laysStatic "java/lang/Throwable" "UNASSIGNED_STACK" "[Ljava/lang/StackTraceElement;" ∈ lw_tbl := List.mem_of_getElem? (i := 225) (by rfl)
theorem wd226 : Cond.fieldLink "java/lang/Throwable" 20 "java/lang/Throwable" "SUPPRESSED_SENTINEL" "Ljava/util/List;" ∈ BIG := bigIn 226 (by rfl) (by rfl)
theorem wt227 : Cond.laysStatic "java/lang/Throwable" "SUPPRESSED_SENTINEL" "Ljava/util/List;" ∈ lw_tbl := List.mem_of_getElem? (i := 227) (by rfl)
theorem wd228 : Cond.methodLink "java/lang/Throwable" 27 (⟨"java/lang/Throwable", "fillInStackTrace", "()Ljava/lang/Throwable;"⟩ : MethodName) ∈ BIG := bigIn 228 (by rfl) (by rfl)
theorem wd229 : Cond.instanceMethod (⟨"java/lang/Throwable", "fillInStackTrace", "()Ljava/lang/Throwable;"⟩ : MethodName) ∈ BIG := bigIn 229 (by rfl) (by rfl)
theorem wd230 : Cond.sameMethod "java/lang/Throwable" "java/lang/Throwable" "fillInStackTrace" "()Ljava/lang/Throwable;" ∈ BIG := bigIn 230 (by rfl) (by rfl)
theorem wd231 : Cond.selects "java/lang/IllegalStateException" (⟨"java/lang/Throwable", "fillInStackTrace", "()Ljava/lang/Throwable;"⟩ : MethodName) (⟨"java/lang/Throwable", "fillInStackTrace", "()Ljava/lang/Throwable;"⟩ : MethodName) ∈ BIG := bigIn 231 (by rfl) (by rfl)
theorem wd232 : Cond.selects "java/lang/IndexOutOfBoundsException" (⟨"java/lang/Throwable", "fillInStackTrace", "()Ljava/lang/Throwable;"⟩ : MethodName) (⟨"java/lang/Throwable", "fillInStackTrace", "()Ljava/lang/Throwable;"⟩ : MethodName) ∈ BIG := bigIn 232 (by rfl) (by rfl)
theorem wd234 : Cond.methodLink "java/lang/Throwable" 202 (⟨"java/lang/Throwable", "fillInStackTrace", "(I)Ljava/lang/Throwable;"⟩ : MethodName) ∈ BIG := bigIn 234 (by rfl) (by rfl)
theorem wd236 : Cond.instanceMethod (⟨"java/lang/Throwable", "fillInStackTrace", "(I)Ljava/lang/Throwable;"⟩ : MethodName) ∈ BIG := bigIn 236 (by rfl) (by rfl)
theorem wd237 : Cond.instantiable "java/lang/Throwable" 6 ∈ BIG := bigIn 237 (by rfl) (by rfl)
theorem wt239 : Cond.stringRef "FretSchool" 222 "an argument is out of range" ∈ lw_tbl := List.mem_of_getElem? (i := 239) (by rfl)
theorem wd240 : Cond.methodLink "FretSchool" 224 (⟨"java/lang/IllegalArgumentException", "<init>", "(Ljava/lang/String;)V"⟩ : MethodName) ∈ BIG := bigIn 240 (by rfl) (by rfl)
theorem wd241 : Cond.instanceMethod (⟨"java/lang/IllegalArgumentException", "<init>", "(Ljava/lang/String;)V"⟩ : MethodName) ∈ BIG := bigIn 241 (by rfl) (by rfl)
theorem wd242 : Cond.code (⟨"java/lang/IllegalArgumentException", "<init>", "(Ljava/lang/String;)V"⟩ : MethodName) prog_10_method_2_code 2 (none : Option Jvm.ClassFile.FieldType) ∈ BIG := bigIn 242 (by rfl) (by rfl)
theorem wd243 : Cond.methodLink "java/lang/IllegalArgumentException" 7 (⟨"java/lang/RuntimeException", "<init>", "(Ljava/lang/String;)V"⟩ : MethodName) ∈ BIG := bigIn 243 (by rfl) (by rfl)
theorem wd244 : Cond.instanceMethod (⟨"java/lang/RuntimeException", "<init>", "(Ljava/lang/String;)V"⟩ : MethodName) ∈ BIG := bigIn 244 (by rfl) (by rfl)
theorem wd245 : Cond.code (⟨"java/lang/RuntimeException", "<init>", "(Ljava/lang/String;)V"⟩ : MethodName) prog_14_method_2_code 2 (none : Option Jvm.ClassFile.FieldType) ∈ BIG := bigIn 245 (by rfl) (by rfl)
theorem wd246 : Cond.methodLink "java/lang/RuntimeException" 7 (⟨"java/lang/Exception", "<init>", "(Ljava/lang/String;)V"⟩ : MethodName) ∈ BIG := bigIn 246 (by rfl) (by rfl)
theorem wd247 : Cond.instanceMethod (⟨"java/lang/Exception", "<init>", "(Ljava/lang/String;)V"⟩ : MethodName) ∈ BIG := bigIn 247 (by rfl) (by rfl)
theorem wd248 : Cond.code (⟨"java/lang/Exception", "<init>", "(Ljava/lang/String;)V"⟩ : MethodName) prog_9_method_2_code 2 (none : Option Jvm.ClassFile.FieldType) ∈ BIG := bigIn 248 (by rfl) (by rfl)
theorem wd249 : Cond.methodLink "java/lang/Exception" 7 (⟨"java/lang/Throwable", "<init>", "(Ljava/lang/String;)V"⟩ : MethodName) ∈ BIG := bigIn 249 (by rfl) (by rfl)
theorem wd250 : Cond.instanceMethod (⟨"java/lang/Throwable", "<init>", "(Ljava/lang/String;)V"⟩ : MethodName) ∈ BIG := bigIn 250 (by rfl) (by rfl)
theorem wd251 : Cond.code (⟨"java/lang/Throwable", "<init>", "(Ljava/lang/String;)V"⟩ : MethodName) prog_16_method_2_code 2 (none : Option Jvm.ClassFile.FieldType) ∈ BIG := bigIn 251 (by rfl) (by rfl)
theorem wd252 : Cond.fieldLink "java/lang/Throwable" 198 "java/lang/Throwable" "backtrace" "Ljava/lang/Object;" ∈ BIG := bigIn 252 (by rfl) (by rfl)
theorem wd253 : Cond.fieldLink "java/lang/Throwable" 31 "java/lang/Throwable" "detailMessage" "Ljava/lang/String;" ∈ BIG := bigIn 253 (by rfl) (by rfl)
theorem wd254 : Cond.fieldLink "java/lang/Throwable" 7 "java/lang/Throwable" "cause" "Ljava/lang/Throwable;" ∈ BIG := bigIn 254 (by rfl) (by rfl)
theorem wd255 : Cond.fieldLink "java/lang/Throwable" 17 "java/lang/Throwable" "stackTrace" "[Ljava/lang/StackTraceElement;" ∈ BIG := bigIn 255 (by rfl) (by rfl)
theorem wd256 : Cond.fieldLink "java/lang/Throwable" 24 "java/lang/Throwable" "suppressedExceptions" "Ljava/util/List;" ∈ BIG := bigIn 256 (by rfl) (by rfl)
theorem wd261 : Cond.lays "java/lang/IllegalArgumentException" "java/lang/Throwable" "depth" "I" ∈ BIG := bigIn 261 (by rfl) (by rfl)
theorem wd265 : Cond.arrayClass .byte ∈ BIG := bigIn 265 (by rfl) (by rfl)
theorem wd266 : Cond.constant "FretSchoolLaw" 28 (-1000002 : Int32) ∈ BIG := bigIn 266 (by rfl) (by rfl)
theorem wd267 : Cond.methodLink "FretSchoolLaw" 110 yL_known ∈ BIG := bigIn 267 (by rfl) (by rfl)
theorem wd268 : Cond.static yL_known ∈ BIG := bigIn 268 (by rfl) (by rfl)
theorem wd269 : Cond.codeWith yL_known cL_known 3 (some .int) [(0, 5, 6, 26)] ∈ BIG := bigIn 269 (by rfl) (by rfl)
theorem wd270 : Cond.methodLink "FretSchoolLaw" 65 yX5_known ∈ BIG := bigIn 270 (by rfl) (by rfl)
theorem wd271 : Cond.instanceMethod yX5_known ∈ BIG := bigIn 271 (by rfl) (by rfl)
theorem wd272 : Cond.selects "FretSchool" yX5_known yX5_known ∈ BIG := bigIn 272 (by rfl) (by rfl)
theorem wd273 : Cond.code yX5_known cX5_known 2 (some .int) ∈ BIG := bigIn 273 (by rfl) (by rfl)
theorem wd274 : Cond.methodLink "FretSchoolLaw" 115 yL_next ∈ BIG := bigIn 274 (by rfl) (by rfl)
theorem wd275 : Cond.static yL_next ∈ BIG := bigIn 275 (by rfl) (by rfl)
theorem wd276 : Cond.codeWith yL_next cL_next 3 (some .int) [(0, 5, 6, 26)] ∈ BIG := bigIn 276 (by rfl) (by rfl)
theorem wd277 : Cond.methodLink "FretSchoolLaw" 68 yX5_next ∈ BIG := bigIn 277 (by rfl) (by rfl)
theorem wd278 : Cond.instanceMethod yX5_next ∈ BIG := bigIn 278 (by rfl) (by rfl)
theorem wd279 : Cond.selects "FretSchool" yX5_next yX5_next ∈ BIG := bigIn 279 (by rfl) (by rfl)
theorem wd280 : Cond.code yX5_next cX5_next 6 (some .int) ∈ BIG := bigIn 280 (by rfl) (by rfl)
theorem wd281 : Cond.methodLink "FretSchool" 139 yX4_knows ∈ BIG := bigIn 281 (by rfl) (by rfl)
theorem wd282 : Cond.instanceMethod yX4_knows ∈ BIG := bigIn 282 (by rfl) (by rfl)
theorem wd283 : Cond.selects "FretSchool$Pupil" yX4_knows yX4_knows ∈ BIG := bigIn 283 (by rfl) (by rfl)
theorem wd284 : Cond.code yX4_knows cX4_knows 2 (some .boolean) ∈ BIG := bigIn 284 (by rfl) (by rfl)
theorem wd285 : Cond.methodLink "FretSchool" 159 yX5_easiestShift ∈ BIG := bigIn 285 (by rfl) (by rfl)
theorem wd287 : Cond.instanceMethod yX5_easiestShift ∈ BIG := bigIn 287 (by rfl) (by rfl)
theorem wd288 : Cond.code yX5_easiestShift cX5_easiestShift 6 (some .int) ∈ BIG := bigIn 288 (by rfl) (by rfl)
theorem wd289 : Cond.methodLink "FretSchool" 144 yX5_learnableShift ∈ BIG := bigIn 289 (by rfl) (by rfl)
theorem wd291 : Cond.instanceMethod yX5_learnableShift ∈ BIG := bigIn 291 (by rfl) (by rfl)
theorem wd292 : Cond.code yX5_learnableShift cX5_learnableShift 5 (some .int) ∈ BIG := bigIn 292 (by rfl) (by rfl)
theorem wd293 : Cond.methodLink "FretSchool" 225 yX0_placeBest ∈ BIG := bigIn 293 (by rfl) (by rfl)
theorem wd294 : Cond.instanceMethod yX0_placeBest ∈ BIG := bigIn 294 (by rfl) (by rfl)
theorem wd295 : Cond.selects "FretSchool$Hand" yX0_placeBest yX0_placeBest ∈ BIG := bigIn 295 (by rfl) (by rfl)
theorem wd296 : Cond.code yX0_placeBest cX0_placeBest 4 (some .boolean) ∈ BIG := bigIn 296 (by rfl) (by rfl)
theorem wd297 : Cond.methodLink "FretSchool$Hand" 30 yX0_feelReach ∈ BIG := bigIn 297 (by rfl) (by rfl)
theorem wd299 : Cond.instanceMethod yX0_feelReach ∈ BIG := bigIn 299 (by rfl) (by rfl)
theorem wd300 : Cond.code yX0_feelReach cX0_feelReach 6 (none : Option Jvm.ClassFile.FieldType) ∈ BIG := bigIn 300 (by rfl) (by rfl)
theorem wd301 : Cond.methodLink "FretSchool$Hand" 52 yX1_highestPosition ∈ BIG := bigIn 301 (by rfl) (by rfl)
theorem wd302 : Cond.instanceMethod yX1_highestPosition ∈ BIG := bigIn 302 (by rfl) (by rfl)
theorem wd303 : Cond.selects "FretSchool$Instrument" yX1_highestPosition yX1_highestPosition ∈ BIG := bigIn 303 (by rfl) (by rfl)
theorem wd304 : Cond.code yX1_highestPosition cX1_highestPosition 1 (some .int) ∈ BIG := bigIn 304 (by rfl) (by rfl)
theorem wd305 : Cond.methodLink "FretSchool$Hand" 61 yX1_lowestString ∈ BIG := bigIn 305 (by rfl) (by rfl)
theorem wd306 : Cond.instanceMethod yX1_lowestString ∈ BIG := bigIn 306 (by rfl) (by rfl)
theorem wd307 : Cond.selects "FretSchool$Instrument" yX1_lowestString yX1_lowestString ∈ BIG := bigIn 307 (by rfl) (by rfl)
theorem wd308 : Cond.code yX1_lowestString cX1_lowestString 5 (some .int) ∈ BIG := bigIn 308 (by rfl) (by rfl)
theorem wd309 : Cond.methodLink "FretSchool$Hand" 39 yX0_measureRest ∈ BIG := bigIn 309 (by rfl) (by rfl)
theorem wd311 : Cond.instanceMethod yX0_measureRest ∈ BIG := bigIn 311 (by rfl) (by rfl)
theorem wd312 : Cond.code yX0_measureRest cX0_measureRest 5 (none : Option Jvm.ClassFile.FieldType) ∈ BIG := bigIn 312 (by rfl) (by rfl)
theorem wd313 : Cond.methodLink "FretSchool$Hand" 65 yX0_nearest ∈ BIG := bigIn 313 (by rfl) (by rfl)
theorem wd315 : Cond.instanceMethod yX0_nearest ∈ BIG := bigIn 315 (by rfl) (by rfl)
theorem wd316 : Cond.code yX0_nearest cX0_nearest 7 (some .int) ∈ BIG := bigIn 316 (by rfl) (by rfl)
theorem wd317 : Cond.constant "FretSchool$Hand" 51 (1000000 : Int32) ∈ BIG := bigIn 317 (by rfl) (by rfl)
theorem wd318 : Cond.methodLink "FretSchool$Hand" 72 yX0_shift ∈ BIG := bigIn 318 (by rfl) (by rfl)
theorem wd319 : Cond.static yX0_shift ∈ BIG := bigIn 319 (by rfl) (by rfl)
theorem wd320 : Cond.code yX0_shift cX0_shift 2 (some .int) ∈ BIG := bigIn 320 (by rfl) (by rfl)
theorem wd321 : Cond.methodLink "FretSchool$Hand" 75 yJ9_abs_0f7a4 ∈ BIG := bigIn 321 (by rfl) (by rfl)
theorem wd322 : Cond.static yJ9_abs_0f7a4 ∈ BIG := bigIn 322 (by rfl) (by rfl)
theorem wd323 : Cond.code yJ9_abs_0f7a4 cJ9_abs_0f7a4 1 (some .int) ∈ BIG := bigIn 323 (by rfl) (by rfl)
theorem wd324 : Cond.methodLink "FretSchool$Hand" 68 yX0_canReach ∈ BIG := bigIn 324 (by rfl) (by rfl)
theorem wd325 : Cond.static yX0_canReach ∈ BIG := bigIn 325 (by rfl) (by rfl)
theorem wd326 : Cond.code yX0_canReach cX0_canReach 2 (some .boolean) ∈ BIG := bigIn 326 (by rfl) (by rfl)
theorem wd327 : Cond.methodLink "FretSchool$Hand" 43 yX0_chooseRow ∈ BIG := bigIn 327 (by rfl) (by rfl)
theorem wd329 : Cond.instanceMethod yX0_chooseRow ∈ BIG := bigIn 329 (by rfl) (by rfl)
theorem wd330 : Cond.code yX0_chooseRow cX0_chooseRow 6 (some .boolean) ∈ BIG := bigIn 330 (by rfl) (by rfl)
theorem wd331 : Cond.methodLink "FretSchoolLaw" 170 yL_fingers ∈ BIG := bigIn 331 (by rfl) (by rfl)
theorem wd332 : Cond.static yL_fingers ∈ BIG := bigIn 332 (by rfl) (by rfl)
theorem wd333 : Cond.code yL_fingers cL_fingers 18 (some .boolean) ∈ BIG := bigIn 333 (by rfl) (by rfl)
theorem wd334 : Cond.methodLink "FretSchoolLaw" 87 yL_pitch ∈ BIG := bigIn 334 (by rfl) (by rfl)
theorem wd335 : Cond.static yL_pitch ∈ BIG := bigIn 335 (by rfl) (by rfl)
theorem wd336 : Cond.codeWith yL_pitch cL_pitch 4 (some .int) [(0, 6, 7, 23)] ∈ BIG := bigIn 336 (by rfl) (by rfl)
theorem wd337 : Cond.classLink "FretSchoolLaw" 23 "java/lang/IndexOutOfBoundsException" ∈ BIG := bigIn 337 (by rfl) (by rfl)
theorem wd338 : Cond.methodLink "FretSchoolLaw" 33 yX5_pitch ∈ BIG := bigIn 338 (by rfl) (by rfl)
theorem wd339 : Cond.instanceMethod yX5_pitch ∈ BIG := bigIn 339 (by rfl) (by rfl)
theorem wd340 : Cond.selects "FretSchool" yX5_pitch yX5_pitch ∈ BIG := bigIn 340 (by rfl) (by rfl)
theorem wd341 : Cond.code yX5_pitch cX5_pitch 3 (some .int) ∈ BIG := bigIn 341 (by rfl) (by rfl)
theorem wd342 : Cond.methodLink "FretSchool" 97 yX5_needNote ∈ BIG := bigIn 342 (by rfl) (by rfl)
theorem wd344 : Cond.instanceMethod yX5_needNote ∈ BIG := bigIn 344 (by rfl) (by rfl)
theorem wd345 : Cond.code yX5_needNote cX5_needNote 3 (none : Option Jvm.ClassFile.FieldType) ∈ BIG := bigIn 345 (by rfl) (by rfl)
theorem wd346 : Cond.methodLink "FretSchool" 68 yX5_needPiece ∈ BIG := bigIn 346 (by rfl) (by rfl)
theorem wd348 : Cond.instanceMethod yX5_needPiece ∈ BIG := bigIn 348 (by rfl) (by rfl)
theorem wd349 : Cond.code yX5_needPiece cX5_needPiece 2 (none : Option Jvm.ClassFile.FieldType) ∈ BIG := bigIn 349 (by rfl) (by rfl)
theorem wd350 : Cond.classLink "FretSchool" 209 "java/lang/IndexOutOfBoundsException" ∈ BIG := bigIn 350 (by rfl) (by rfl)
theorem wd351 : Cond.instantiable "java/lang/IndexOutOfBoundsException" 6 ∈ BIG := bigIn 351 (by rfl) (by rfl)
theorem wt352 : Cond.castable "java/lang/IndexOutOfBoundsException" "java/lang/IndexOutOfBoundsException" ∈ lw_tbl := List.mem_of_getElem? (i := 352) (by rfl)
theorem wd353 : Cond.selects "java/lang/IndexOutOfBoundsException" (⟨"java/lang/Throwable", "fillInStackTrace", "(I)Ljava/lang/Throwable;"⟩ : MethodName) (⟨"java/lang/Throwable", "fillInStackTrace", "(I)Ljava/lang/Throwable;"⟩ : MethodName) ∈ BIG := bigIn 353 (by rfl) (by rfl)
theorem wd354 : Cond.lays "java/lang/IndexOutOfBoundsException" "java/lang/Throwable" "cause" "Ljava/lang/Throwable;" ∈ BIG := bigIn 354 (by rfl) (by rfl)
theorem wd355 : Cond.lays "java/lang/IndexOutOfBoundsException" "java/lang/Throwable" "stackTrace" "[Ljava/lang/StackTraceElement;" ∈ BIG := bigIn 355 (by rfl) (by rfl)
theorem wd356 : Cond.lays "java/lang/IndexOutOfBoundsException" "java/lang/Throwable" "suppressedExceptions" "Ljava/util/List;" ∈ BIG := bigIn 356 (by rfl) (by rfl)
theorem wd357 : Cond.lays "java/lang/IndexOutOfBoundsException" "java/lang/Throwable" "detailMessage" "Ljava/lang/String;" ∈ BIG := bigIn 357 (by rfl) (by rfl)
theorem wd358 : Cond.lays "java/lang/IndexOutOfBoundsException" "java/lang/Throwable" "backtrace" "Ljava/lang/Object;" ∈ BIG := bigIn 358 (by rfl) (by rfl)
theorem wt359 : Cond.stringRef "FretSchool" 211 "there is no such piece" ∈ lw_tbl := List.mem_of_getElem? (i := 359) (by rfl)
theorem wd360 : Cond.methodLink "FretSchool" 213 (⟨"java/lang/IndexOutOfBoundsException", "<init>", "(Ljava/lang/String;)V"⟩ : MethodName) ∈ BIG := bigIn 360 (by rfl) (by rfl)
theorem wd361 : Cond.instanceMethod (⟨"java/lang/IndexOutOfBoundsException", "<init>", "(Ljava/lang/String;)V"⟩ : MethodName) ∈ BIG := bigIn 361 (by rfl) (by rfl)
theorem wd362 : Cond.code (⟨"java/lang/IndexOutOfBoundsException", "<init>", "(Ljava/lang/String;)V"⟩ : MethodName) prog_12_method_2_code 2 (none : Option Jvm.ClassFile.FieldType) ∈ BIG := bigIn 362 (by rfl) (by rfl)
theorem wd363 : Cond.methodLink "java/lang/IndexOutOfBoundsException" 7 (⟨"java/lang/RuntimeException", "<init>", "(Ljava/lang/String;)V"⟩ : MethodName) ∈ BIG := bigIn 363 (by rfl) (by rfl)
theorem wd364 : Cond.lays "java/lang/IndexOutOfBoundsException" "java/lang/Throwable" "depth" "I" ∈ BIG := bigIn 364 (by rfl) (by rfl)
theorem wt366 : Cond.stringRef "FretSchool" 214 "there is no such note" ∈ lw_tbl := List.mem_of_getElem? (i := 366) (by rfl)
theorem wd367 : Cond.constant "FretSchoolLaw" 25 (-1000001 : Int32) ∈ BIG := bigIn 367 (by rfl) (by rfl)
theorem wd368 : Cond.methodLink "FretSchoolLaw" 92 yL_apart ∈ BIG := bigIn 368 (by rfl) (by rfl)
theorem wd369 : Cond.static yL_apart ∈ BIG := bigIn 369 (by rfl) (by rfl)
theorem wd370 : Cond.code yL_apart cL_apart 2 (some .int) ∈ BIG := bigIn 370 (by rfl) (by rfl)
theorem wd371 : Cond.methodLink "FretSchoolLaw" 95 yL_stringOf ∈ BIG := bigIn 371 (by rfl) (by rfl)
theorem wd372 : Cond.static yL_stringOf ∈ BIG := bigIn 372 (by rfl) (by rfl)
theorem wd373 : Cond.code yL_stringOf cL_stringOf 7 (some .int) ∈ BIG := bigIn 373 (by rfl) (by rfl)
theorem wd374 : Cond.methodLink "FretSchoolLaw" 99 yL_shifts ∈ BIG := bigIn 374 (by rfl) (by rfl)
theorem wd375 : Cond.static yL_shifts ∈ BIG := bigIn 375 (by rfl) (by rfl)
theorem wd376 : Cond.codeWith yL_shifts cL_shifts 4 (some .int) [(0, 6, 7, 23)] ∈ BIG := bigIn 376 (by rfl) (by rfl)
theorem wd377 : Cond.methodLink "FretSchoolLaw" 44 yX5_shifts ∈ BIG := bigIn 377 (by rfl) (by rfl)
theorem wd378 : Cond.instanceMethod yX5_shifts ∈ BIG := bigIn 378 (by rfl) (by rfl)
theorem wd379 : Cond.selects "FretSchool" yX5_shifts yX5_shifts ∈ BIG := bigIn 379 (by rfl) (by rfl)
theorem wd380 : Cond.code yX5_shifts cX5_shifts 3 (some .int) ∈ BIG := bigIn 380 (by rfl) (by rfl)
theorem wd381 : Cond.methodLink "FretSchool" 113 yX5_findBest ∈ BIG := bigIn 381 (by rfl) (by rfl)
theorem wd383 : Cond.instanceMethod yX5_findBest ∈ BIG := bigIn 383 (by rfl) (by rfl)
theorem wd384 : Cond.code yX5_findBest cX5_findBest 3 (some .boolean) ∈ BIG := bigIn 384 (by rfl) (by rfl)
theorem wd385 : Cond.methodLink "FretSchool" 104 yX5_needInstrument ∈ BIG := bigIn 385 (by rfl) (by rfl)
theorem wd387 : Cond.instanceMethod yX5_needInstrument ∈ BIG := bigIn 387 (by rfl) (by rfl)
theorem wd388 : Cond.code yX5_needInstrument cX5_needInstrument 2 (none : Option Jvm.ClassFile.FieldType) ∈ BIG := bigIn 388 (by rfl) (by rfl)
theorem wt389 : Cond.stringRef "FretSchool" 216 "there is no such instrument" ∈ lw_tbl := List.mem_of_getElem? (i := 389) (by rfl)
theorem wd390 : Cond.methodLink "FretSchoolLaw" 101 yL_hardest ∈ BIG := bigIn 390 (by rfl) (by rfl)
theorem wd391 : Cond.static yL_hardest ∈ BIG := bigIn 391 (by rfl) (by rfl)
theorem wd392 : Cond.codeWith yL_hardest cL_hardest 4 (some .int) [(0, 6, 7, 23)] ∈ BIG := bigIn 392 (by rfl) (by rfl)
theorem wd393 : Cond.methodLink "FretSchoolLaw" 50 yX5_hardest ∈ BIG := bigIn 393 (by rfl) (by rfl)
theorem wd394 : Cond.instanceMethod yX5_hardest ∈ BIG := bigIn 394 (by rfl) (by rfl)
theorem wd395 : Cond.selects "FretSchool" yX5_hardest yX5_hardest ∈ BIG := bigIn 395 (by rfl) (by rfl)
theorem wd396 : Cond.code yX5_hardest cX5_hardest 3 (some .int) ∈ BIG := bigIn 396 (by rfl) (by rfl)
theorem wd397 : Cond.methodLink "FretSchoolLaw" 103 yL_position ∈ BIG := bigIn 397 (by rfl) (by rfl)
theorem wd398 : Cond.static yL_position ∈ BIG := bigIn 398 (by rfl) (by rfl)
theorem wd399 : Cond.codeWith yL_position cL_position 5 (some .int) [(0, 7, 8, 23)] ∈ BIG := bigIn 399 (by rfl) (by rfl)
theorem wd400 : Cond.methodLink "FretSchoolLaw" 53 yX5_position ∈ BIG := bigIn 400 (by rfl) (by rfl)
theorem wd401 : Cond.instanceMethod yX5_position ∈ BIG := bigIn 401 (by rfl) (by rfl)
theorem wd402 : Cond.selects "FretSchool" yX5_position yX5_position ∈ BIG := bigIn 402 (by rfl) (by rfl)
theorem wd403 : Cond.code yX5_position cX5_position 4 (some .int) ∈ BIG := bigIn 403 (by rfl) (by rfl)
theorem wd404 : Cond.methodLink "FretSchoolLaw" 106 yL_string ∈ BIG := bigIn 404 (by rfl) (by rfl)
theorem wd405 : Cond.static yL_string ∈ BIG := bigIn 405 (by rfl) (by rfl)
theorem wd406 : Cond.codeWith yL_string cL_string 5 (some .int) [(0, 7, 8, 23)] ∈ BIG := bigIn 406 (by rfl) (by rfl)
theorem wd407 : Cond.methodLink "FretSchoolLaw" 56 yX5_string ∈ BIG := bigIn 407 (by rfl) (by rfl)
theorem wd408 : Cond.instanceMethod yX5_string ∈ BIG := bigIn 408 (by rfl) (by rfl)
theorem wd409 : Cond.selects "FretSchool" yX5_string yX5_string ∈ BIG := bigIn 409 (by rfl) (by rfl)
theorem wd410 : Cond.code yX5_string cX5_string 4 (some .int) ∈ BIG := bigIn 410 (by rfl) (by rfl)
theorem wd411 : Cond.methodLink "FretSchool" 132 yX1_lowestString ∈ BIG := bigIn 411 (by rfl) (by rfl)
theorem wd412 : Cond.methodLink "FretSchoolLaw" 108 yL_shiftsByAll ∈ BIG := bigIn 412 (by rfl) (by rfl)
theorem wd413 : Cond.static yL_shiftsByAll ∈ BIG := bigIn 413 (by rfl) (by rfl)
theorem wd414 : Cond.codeWith yL_shiftsByAll cL_shiftsByAll 4 (some .int) [(0, 6, 7, 23), (0, 6, 11, 16)] ∈ BIG := bigIn 414 (by rfl) (by rfl)
theorem wd415 : Cond.classLink "FretSchoolLaw" 16 "java/lang/IllegalStateException" ∈ BIG := bigIn 415 (by rfl) (by rfl)
theorem wd416 : Cond.methodLink "FretSchoolLaw" 47 yX5_shiftsByAll ∈ BIG := bigIn 416 (by rfl) (by rfl)
theorem wd417 : Cond.instanceMethod yX5_shiftsByAll ∈ BIG := bigIn 417 (by rfl) (by rfl)
theorem wd418 : Cond.selects "FretSchool" yX5_shiftsByAll yX5_shiftsByAll ∈ BIG := bigIn 418 (by rfl) (by rfl)
theorem wd419 : Cond.code yX5_shiftsByAll cX5_shiftsByAll 3 (some .int) ∈ BIG := bigIn 419 (by rfl) (by rfl)
theorem wd420 : Cond.classLink "FretSchool" 61 "java/lang/IllegalStateException" ∈ BIG := bigIn 420 (by rfl) (by rfl)
theorem wd421 : Cond.instantiable "java/lang/IllegalStateException" 6 ∈ BIG := bigIn 421 (by rfl) (by rfl)
theorem wt422 : Cond.castable "java/lang/IllegalStateException" "java/lang/IllegalStateException" ∈ lw_tbl := List.mem_of_getElem? (i := 422) (by rfl)
theorem wd423 : Cond.selects "java/lang/IllegalStateException" (⟨"java/lang/Throwable", "fillInStackTrace", "(I)Ljava/lang/Throwable;"⟩ : MethodName) (⟨"java/lang/Throwable", "fillInStackTrace", "(I)Ljava/lang/Throwable;"⟩ : MethodName) ∈ BIG := bigIn 423 (by rfl) (by rfl)
theorem wd424 : Cond.lays "java/lang/IllegalStateException" "java/lang/Throwable" "cause" "Ljava/lang/Throwable;" ∈ BIG := bigIn 424 (by rfl) (by rfl)
theorem wd425 : Cond.lays "java/lang/IllegalStateException" "java/lang/Throwable" "stackTrace" "[Ljava/lang/StackTraceElement;" ∈ BIG := bigIn 425 (by rfl) (by rfl)
theorem wd426 : Cond.lays "java/lang/IllegalStateException" "java/lang/Throwable" "suppressedExceptions" "Ljava/util/List;" ∈ BIG := bigIn 426 (by rfl) (by rfl)
theorem wd427 : Cond.lays "java/lang/IllegalStateException" "java/lang/Throwable" "detailMessage" "Ljava/lang/String;" ∈ BIG := bigIn 427 (by rfl) (by rfl)
theorem wd428 : Cond.lays "java/lang/IllegalStateException" "java/lang/Throwable" "backtrace" "Ljava/lang/Object;" ∈ BIG := bigIn 428 (by rfl) (by rfl)
theorem wt429 : Cond.stringRef "FretSchool" 120 "the piece has more than 4 notes" ∈ lw_tbl := List.mem_of_getElem? (i := 429) (by rfl)
theorem wd430 : Cond.methodLink "FretSchool" 65 (⟨"java/lang/IllegalStateException", "<init>", "(Ljava/lang/String;)V"⟩ : MethodName) ∈ BIG := bigIn 430 (by rfl) (by rfl)
theorem wd431 : Cond.instanceMethod (⟨"java/lang/IllegalStateException", "<init>", "(Ljava/lang/String;)V"⟩ : MethodName) ∈ BIG := bigIn 431 (by rfl) (by rfl)
theorem wd432 : Cond.code (⟨"java/lang/IllegalStateException", "<init>", "(Ljava/lang/String;)V"⟩ : MethodName) prog_11_method_2_code 2 (none : Option Jvm.ClassFile.FieldType) ∈ BIG := bigIn 432 (by rfl) (by rfl)
theorem wd433 : Cond.methodLink "java/lang/IllegalStateException" 7 (⟨"java/lang/RuntimeException", "<init>", "(Ljava/lang/String;)V"⟩ : MethodName) ∈ BIG := bigIn 433 (by rfl) (by rfl)
theorem wd434 : Cond.lays "java/lang/IllegalStateException" "java/lang/Throwable" "depth" "I" ∈ BIG := bigIn 434 (by rfl) (by rfl)
theorem wd436 : Cond.methodLink "FretSchool" 122 yX0_leastByAll ∈ BIG := bigIn 436 (by rfl) (by rfl)
theorem wd437 : Cond.instanceMethod yX0_leastByAll ∈ BIG := bigIn 437 (by rfl) (by rfl)
theorem wd438 : Cond.selects "FretSchool$Hand" yX0_leastByAll yX0_leastByAll ∈ BIG := bigIn 438 (by rfl) (by rfl)
theorem wd439 : Cond.code yX0_leastByAll cX0_leastByAll 4 (some .int) ∈ BIG := bigIn 439 (by rfl) (by rfl)
set_option maxRecDepth 20000 in
theorem wd440 : Cond.methodLink "FretSchool$Hand" 47 yX0_leastFrom ∈ BIG := bigIn 440 (by rfl) (by rfl)
set_option maxRecDepth 20000 in
theorem wd441 : Cond.static yX0_leastFrom ∈ BIG := bigIn 441 (by rfl) (by rfl)
set_option maxRecDepth 20000 in
theorem wd442 : Cond.code yX0_leastFrom cX0_leastFrom 7 (some .int) ∈ BIG := bigIn 442 (by rfl) (by rfl)
set_option maxRecDepth 20000 in
theorem wd443 : Cond.constant "FretSchoolLaw" 18 (-1000003 : Int32) ∈ BIG := bigIn 443 (by rfl) (by rfl)
set_option maxRecDepth 20000 in
theorem wd444 : Cond.methodLink "FretSchoolLaw" 178 yL_acts ∈ BIG := bigIn 444 (by rfl) (by rfl)
set_option maxRecDepth 20000 in
theorem wd445 : Cond.static yL_acts ∈ BIG := bigIn 445 (by rfl) (by rfl)
set_option maxRecDepth 20000 in
theorem wd446 : Cond.code yL_acts cL_acts 15 (some .boolean) ∈ BIG := bigIn 446 (by rfl) (by rfl)
set_option maxRecDepth 20000 in
theorem wd447 : Cond.methodLink "FretSchoolLaw" 121 yL_low ∈ BIG := bigIn 447 (by rfl) (by rfl)
set_option maxRecDepth 20000 in
theorem wd448 : Cond.static yL_low ∈ BIG := bigIn 448 (by rfl) (by rfl)
set_option maxRecDepth 20000 in
theorem wd449 : Cond.code yL_low cL_low 2 (some .int) ∈ BIG := bigIn 449 (by rfl) (by rfl)
set_option maxRecDepth 20000 in
theorem wd450 : Cond.constant "FretSchoolLaw" 9 (2147483647 : Int32) ∈ BIG := bigIn 450 (by rfl) (by rfl)
set_option maxRecDepth 20000 in
theorem wd451 : Cond.methodLink "FretSchoolLaw" 141 yL_pieces ∈ BIG := bigIn 451 (by rfl) (by rfl)
set_option maxRecDepth 20000 in
theorem wd452 : Cond.static yL_pieces ∈ BIG := bigIn 452 (by rfl) (by rfl)
set_option maxRecDepth 20000 in
theorem wd453 : Cond.code yL_pieces cL_pieces 10 (some .boolean) ∈ BIG := bigIn 453 (by rfl) (by rfl)
set_option maxRecDepth 20000 in
theorem wd454 : Cond.methodLink "FretSchoolLaw" 124 yL_begin ∈ BIG := bigIn 454 (by rfl) (by rfl)
set_option maxRecDepth 20000 in
theorem wd455 : Cond.static yL_begin ∈ BIG := bigIn 455 (by rfl) (by rfl)
set_option maxRecDepth 20000 in
theorem wd456 : Cond.codeWith yL_begin cL_begin 2 (some .int) [(0, 4, 5, 16)] ∈ BIG := bigIn 456 (by rfl) (by rfl)
set_option maxRecDepth 20000 in
theorem wd457 : Cond.methodLink "FretSchoolLaw" 10 yX5_begin ∈ BIG := bigIn 457 (by rfl) (by rfl)
set_option maxRecDepth 20000 in
theorem wd458 : Cond.instanceMethod yX5_begin ∈ BIG := bigIn 458 (by rfl) (by rfl)
set_option maxRecDepth 20000 in
theorem wd459 : Cond.selects "FretSchool" yX5_begin yX5_begin ∈ BIG := bigIn 459 (by rfl) (by rfl)
set_option maxRecDepth 20000 in
theorem wd460 : Cond.code yX5_begin cX5_begin 2 (some .int) ∈ BIG := bigIn 460 (by rfl) (by rfl)
set_option maxRecDepth 20000 in
theorem wt461 : Cond.stringRef "FretSchool" 63 "there are 8 pieces" ∈ lw_tbl := List.mem_of_getElem? (i := 461) (by rfl)
set_option maxRecDepth 20000 in
theorem wd462 : Cond.methodLink "FretSchoolLaw" 127 yL_addNote ∈ BIG := bigIn 462 (by rfl) (by rfl)
set_option maxRecDepth 20000 in
theorem wd463 : Cond.static yL_addNote ∈ BIG := bigIn 463 (by rfl) (by rfl)
set_option maxRecDepth 20000 in
theorem wd464 : Cond.codeWith yL_addNote cL_addNote 4 (some .int) [(0, 6, 7, 23), (0, 6, 11, 26), (0, 6, 15, 16)] ∈ BIG := bigIn 464 (by rfl) (by rfl)
set_option maxRecDepth 20000 in
theorem wd465 : Cond.methodLink "FretSchoolLaw" 19 yX5_addNote ∈ BIG := bigIn 465 (by rfl) (by rfl)
set_option maxRecDepth 20000 in
theorem wd466 : Cond.instanceMethod yX5_addNote ∈ BIG := bigIn 466 (by rfl) (by rfl)
set_option maxRecDepth 20000 in
theorem wd467 : Cond.selects "FretSchool" yX5_addNote yX5_addNote ∈ BIG := bigIn 467 (by rfl) (by rfl)
set_option maxRecDepth 20000 in
theorem wd468 : Cond.code yX5_addNote cX5_addNote 4 (some .int) ∈ BIG := bigIn 468 (by rfl) (by rfl)
set_option maxRecDepth 20000 in
theorem wd469 : Cond.methodLink "FretSchool" 76 yX3_isFull ∈ BIG := bigIn 469 (by rfl) (by rfl)
set_option maxRecDepth 20000 in
theorem wd470 : Cond.instanceMethod yX3_isFull ∈ BIG := bigIn 470 (by rfl) (by rfl)
set_option maxRecDepth 20000 in
theorem wd471 : Cond.selects "FretSchool$Piece" yX3_isFull yX3_isFull ∈ BIG := bigIn 471 (by rfl) (by rfl)
set_option maxRecDepth 20000 in
theorem wd472 : Cond.code yX3_isFull cX3_isFull 1 (some .boolean) ∈ BIG := bigIn 472 (by rfl) (by rfl)
set_option maxRecDepth 20000 in
theorem wt473 : Cond.stringRef "FretSchool" 80 "the piece has 16 notes" ∈ lw_tbl := List.mem_of_getElem? (i := 473) (by rfl)
set_option maxRecDepth 20000 in
theorem wd474 : Cond.methodLink "FretSchool" 82 yX3_append ∈ BIG := bigIn 474 (by rfl) (by rfl)
set_option maxRecDepth 20000 in
theorem wd475 : Cond.instanceMethod yX3_append ∈ BIG := bigIn 475 (by rfl) (by rfl)
set_option maxRecDepth 20000 in
theorem wd476 : Cond.selects "FretSchool$Piece" yX3_append yX3_append ∈ BIG := bigIn 476 (by rfl) (by rfl)
set_option maxRecDepth 20000 in
theorem wd477 : Cond.code yX3_append cX3_append 2 (none : Option Jvm.ClassFile.FieldType) ∈ BIG := bigIn 477 (by rfl) (by rfl)
set_option maxRecDepth 20000 in
theorem wd478 : Cond.methodLink "FretSchool$Piece" 19 yX3_isFull ∈ BIG := bigIn 478 (by rfl) (by rfl)
set_option maxRecDepth 20000 in
theorem wd479 : Cond.methodLink "FretSchoolLaw" 129 yL_transpose ∈ BIG := bigIn 479 (by rfl) (by rfl)
set_option maxRecDepth 20000 in
theorem wd480 : Cond.static yL_transpose ∈ BIG := bigIn 480 (by rfl) (by rfl)
set_option maxRecDepth 20000 in
theorem wd481 : Cond.codeWith yL_transpose cL_transpose 4 (some .int) [(0, 7, 8, 23), (0, 7, 12, 26), (0, 7, 16, 16)] ∈ BIG := bigIn 481 (by rfl) (by rfl)
set_option maxRecDepth 20000 in
theorem wd482 : Cond.methodLink "FretSchoolLaw" 29 yX5_transpose ∈ BIG := bigIn 482 (by rfl) (by rfl)
set_option maxRecDepth 20000 in
theorem wd483 : Cond.instanceMethod yX5_transpose ∈ BIG := bigIn 483 (by rfl) (by rfl)
set_option maxRecDepth 20000 in
theorem wd484 : Cond.selects "FretSchool" yX5_transpose yX5_transpose ∈ BIG := bigIn 484 (by rfl) (by rfl)
set_option maxRecDepth 20000 in
theorem wd485 : Cond.code yX5_transpose cX5_transpose 4 (none : Option Jvm.ClassFile.FieldType) ∈ BIG := bigIn 485 (by rfl) (by rfl)
set_option maxRecDepth 20000 in
theorem wd486 : Cond.methodLink "FretSchool" 88 yX3_canMove ∈ BIG := bigIn 486 (by rfl) (by rfl)
set_option maxRecDepth 20000 in
theorem wd487 : Cond.instanceMethod yX3_canMove ∈ BIG := bigIn 487 (by rfl) (by rfl)
set_option maxRecDepth 20000 in
theorem wd488 : Cond.selects "FretSchool$Piece" yX3_canMove yX3_canMove ∈ BIG := bigIn 488 (by rfl) (by rfl)
set_option maxRecDepth 20000 in
theorem wd489 : Cond.code yX3_canMove cX3_canMove 4 (some .boolean) ∈ BIG := bigIn 489 (by rfl) (by rfl)
set_option maxRecDepth 20000 in
theorem wt490 : Cond.stringRef "FretSchool" 92 "some pitch would not be from 0 to 80" ∈ lw_tbl := List.mem_of_getElem? (i := 490) (by rfl)
set_option maxRecDepth 20000 in
theorem wd491 : Cond.methodLink "FretSchool" 94 yX3_move ∈ BIG := bigIn 491 (by rfl) (by rfl)
set_option maxRecDepth 20000 in
theorem wd492 : Cond.instanceMethod yX3_move ∈ BIG := bigIn 492 (by rfl) (by rfl)
set_option maxRecDepth 20000 in
theorem wd493 : Cond.selects "FretSchool$Piece" yX3_move yX3_move ∈ BIG := bigIn 493 (by rfl) (by rfl)
set_option maxRecDepth 20000 in
theorem wd494 : Cond.code yX3_move cX3_move 3 (none : Option Jvm.ClassFile.FieldType) ∈ BIG := bigIn 494 (by rfl) (by rfl)
set_option maxRecDepth 20000 in
theorem wd495 : Cond.methodLink "FretSchoolLaw" 145 yL_addWood ∈ BIG := bigIn 495 (by rfl) (by rfl)
set_option maxRecDepth 20000 in
theorem wd496 : Cond.static yL_addWood ∈ BIG := bigIn 496 (by rfl) (by rfl)
set_option maxRecDepth 20000 in
theorem wd497 : Cond.codeWith yL_addWood cL_addWood 4 (some .int) [(0, 6, 7, 26)] ∈ BIG := bigIn 497 (by rfl) (by rfl)
set_option maxRecDepth 20000 in
theorem wd498 : Cond.methodLink "FretSchoolLaw" 71 yX5_addWood ∈ BIG := bigIn 498 (by rfl) (by rfl)
set_option maxRecDepth 20000 in
theorem wd499 : Cond.instanceMethod yX5_addWood ∈ BIG := bigIn 499 (by rfl) (by rfl)
set_option maxRecDepth 20000 in
theorem wd500 : Cond.selects "FretSchool" yX5_addWood yX5_addWood ∈ BIG := bigIn 500 (by rfl) (by rfl)
set_option maxRecDepth 20000 in
theorem wd501 : Cond.code yX5_addWood cX5_addWood 3 (some .int) ∈ BIG := bigIn 501 (by rfl) (by rfl)
set_option maxRecDepth 20000 in
theorem wd502 : Cond.methodLink "FretSchoolLaw" 147 yL_orders ∈ BIG := bigIn 502 (by rfl) (by rfl)
set_option maxRecDepth 20000 in
theorem wd503 : Cond.static yL_orders ∈ BIG := bigIn 503 (by rfl) (by rfl)
set_option maxRecDepth 20000 in
theorem wd504 : Cond.code yL_orders cL_orders 12 (some .boolean) ∈ BIG := bigIn 504 (by rfl) (by rfl)
set_option maxRecDepth 20000 in
theorem wd505 : Cond.methodLink "FretSchoolLaw" 131 yL_ready ∈ BIG := bigIn 505 (by rfl) (by rfl)
set_option maxRecDepth 20000 in
theorem wd506 : Cond.static yL_ready ∈ BIG := bigIn 506 (by rfl) (by rfl)
set_option maxRecDepth 20000 in
theorem wd507 : Cond.codeWith yL_ready cL_ready 3 (some .int) [(0, 5, 6, 23)] ∈ BIG := bigIn 507 (by rfl) (by rfl)
set_option maxRecDepth 20000 in
theorem wd508 : Cond.methodLink "FretSchoolLaw" 77 yX5_ready ∈ BIG := bigIn 508 (by rfl) (by rfl)
set_option maxRecDepth 20000 in
theorem wd509 : Cond.instanceMethod yX5_ready ∈ BIG := bigIn 509 (by rfl) (by rfl)
set_option maxRecDepth 20000 in
theorem wd510 : Cond.selects "FretSchool" yX5_ready yX5_ready ∈ BIG := bigIn 510 (by rfl) (by rfl)
set_option maxRecDepth 20000 in
theorem wd511 : Cond.code yX5_ready cX5_ready 2 (some .int) ∈ BIG := bigIn 511 (by rfl) (by rfl)
set_option maxRecDepth 20000 in
theorem wd512 : Cond.methodLink "FretSchool" 175 yX5_needOrder ∈ BIG := bigIn 512 (by rfl) (by rfl)
set_option maxRecDepth 20000 in
theorem wd514 : Cond.instanceMethod yX5_needOrder ∈ BIG := bigIn 514 (by rfl) (by rfl)
set_option maxRecDepth 20000 in
theorem wd515 : Cond.code yX5_needOrder cX5_needOrder 2 (none : Option Jvm.ClassFile.FieldType) ∈ BIG := bigIn 515 (by rfl) (by rfl)
set_option maxRecDepth 20000 in
theorem wt516 : Cond.stringRef "FretSchool" 218 "there is no such order" ∈ lw_tbl := List.mem_of_getElem? (i := 516) (by rfl)
set_option maxRecDepth 20000 in
theorem wd517 : Cond.methodLink "FretSchoolLaw" 133 yL_order ∈ BIG := bigIn 517 (by rfl) (by rfl)
set_option maxRecDepth 20000 in
theorem wd518 : Cond.static yL_order ∈ BIG := bigIn 518 (by rfl) (by rfl)
set_option maxRecDepth 20000 in
theorem wd519 : Cond.codeWith yL_order cL_order 5 (some .int) [(0, 7, 8, 26), (0, 7, 13, 16)] ∈ BIG := bigIn 519 (by rfl) (by rfl)
set_option maxRecDepth 20000 in
theorem wd520 : Cond.methodLink "FretSchoolLaw" 74 yX5_order ∈ BIG := bigIn 520 (by rfl) (by rfl)
set_option maxRecDepth 20000 in
theorem wd521 : Cond.instanceMethod yX5_order ∈ BIG := bigIn 521 (by rfl) (by rfl)
set_option maxRecDepth 20000 in
theorem wd522 : Cond.selects "FretSchool" yX5_order yX5_order ∈ BIG := bigIn 522 (by rfl) (by rfl)
set_option maxRecDepth 20000 in
theorem wd523 : Cond.code yX5_order cX5_order 5 (some .int) ∈ BIG := bigIn 523 (by rfl) (by rfl)
set_option maxRecDepth 20000 in
theorem wt524 : Cond.stringRef "FretSchool" 162 "there is too little of the wood" ∈ lw_tbl := List.mem_of_getElem? (i := 524) (by rfl)
set_option maxRecDepth 20000 in
theorem wd525 : Cond.methodLink "FretSchool" 164 yX5_ordersAtWork ∈ BIG := bigIn 525 (by rfl) (by rfl)
set_option maxRecDepth 20000 in
theorem wd527 : Cond.instanceMethod yX5_ordersAtWork ∈ BIG := bigIn 527 (by rfl) (by rfl)
set_option maxRecDepth 20000 in
theorem wd528 : Cond.code yX5_ordersAtWork cX5_ordersAtWork 3 (some .int) ∈ BIG := bigIn 528 (by rfl) (by rfl)
set_option maxRecDepth 20000 in
theorem wd529 : Cond.methodLink "FretSchool" 181 yX2_isReady ∈ BIG := bigIn 529 (by rfl) (by rfl)
set_option maxRecDepth 20000 in
theorem wd530 : Cond.instanceMethod yX2_isReady ∈ BIG := bigIn 530 (by rfl) (by rfl)
set_option maxRecDepth 20000 in
theorem wd531 : Cond.selects "FretSchool$Order" yX2_isReady yX2_isReady ∈ BIG := bigIn 531 (by rfl) (by rfl)
set_option maxRecDepth 20000 in
theorem wd532 : Cond.code yX2_isReady cX2_isReady 2 (some .boolean) ∈ BIG := bigIn 532 (by rfl) (by rfl)
set_option maxRecDepth 20000 in
theorem wt533 : Cond.stringRef "FretSchool" 168 "two orders are at work" ∈ lw_tbl := List.mem_of_getElem? (i := 533) (by rfl)
set_option maxRecDepth 20000 in
theorem wt534 : Cond.stringRef "FretSchool" 170 "there are 20 orders" ∈ lw_tbl := List.mem_of_getElem? (i := 534) (by rfl)
set_option maxRecDepth 20000 in
theorem wd535 : Cond.methodLink "FretSchool" 172 yX2_place ∈ BIG := bigIn 535 (by rfl) (by rfl)
set_option maxRecDepth 20000 in
theorem wd536 : Cond.instanceMethod yX2_place ∈ BIG := bigIn 536 (by rfl) (by rfl)
set_option maxRecDepth 20000 in
theorem wd537 : Cond.selects "FretSchool$Order" yX2_place yX2_place ∈ BIG := bigIn 537 (by rfl) (by rfl)
set_option maxRecDepth 20000 in
theorem wd538 : Cond.code yX2_place cX2_place 4 (none : Option Jvm.ClassFile.FieldType) ∈ BIG := bigIn 538 (by rfl) (by rfl)
set_option maxRecDepth 20000 in
theorem wd539 : Cond.methodLink "FretSchoolLaw" 151 yL_pass ∈ BIG := bigIn 539 (by rfl) (by rfl)
set_option maxRecDepth 20000 in
theorem wd540 : Cond.static yL_pass ∈ BIG := bigIn 540 (by rfl) (by rfl)
set_option maxRecDepth 20000 in
theorem wd541 : Cond.codeWith yL_pass cL_pass 3 (some .int) [(0, 5, 6, 26), (0, 5, 10, 16)] ∈ BIG := bigIn 541 (by rfl) (by rfl)
set_option maxRecDepth 20000 in
theorem wd542 : Cond.methodLink "FretSchoolLaw" 84 yX5_pass ∈ BIG := bigIn 542 (by rfl) (by rfl)
set_option maxRecDepth 20000 in
theorem wd543 : Cond.instanceMethod yX5_pass ∈ BIG := bigIn 543 (by rfl) (by rfl)
set_option maxRecDepth 20000 in
theorem wd544 : Cond.selects "FretSchool" yX5_pass yX5_pass ∈ BIG := bigIn 544 (by rfl) (by rfl)
set_option maxRecDepth 20000 in
theorem wd545 : Cond.code yX5_pass cX5_pass 2 (some .int) ∈ BIG := bigIn 545 (by rfl) (by rfl)
set_option maxRecDepth 20000 in
theorem wt546 : Cond.stringRef "FretSchool" 207 "today would be above 5000" ∈ lw_tbl := List.mem_of_getElem? (i := 546) (by rfl)
set_option maxRecDepth 20000 in
theorem wd547 : Cond.methodLink "FretSchoolLaw" 156 yL_fetches ∈ BIG := bigIn 547 (by rfl) (by rfl)
set_option maxRecDepth 20000 in
theorem wd548 : Cond.static yL_fetches ∈ BIG := bigIn 548 (by rfl) (by rfl)
set_option maxRecDepth 20000 in
theorem wd549 : Cond.code yL_fetches cL_fetches 13 (some .boolean) ∈ BIG := bigIn 549 (by rfl) (by rfl)
set_option maxRecDepth 20000 in
theorem wd550 : Cond.methodLink "FretSchoolLaw" 135 yL_fetch ∈ BIG := bigIn 550 (by rfl) (by rfl)
set_option maxRecDepth 20000 in
theorem wd551 : Cond.static yL_fetch ∈ BIG := bigIn 551 (by rfl) (by rfl)
set_option maxRecDepth 20000 in
theorem wd552 : Cond.codeWith yL_fetch cL_fetch 7 (some .int) [(0, 11, 12, 23), (0, 11, 17, 26), (0, 11, 22, 16)] ∈ BIG := bigIn 552 (by rfl) (by rfl)
set_option maxRecDepth 20000 in
theorem wd553 : Cond.methodLink "FretSchoolLaw" 80 yX5_fetch ∈ BIG := bigIn 553 (by rfl) (by rfl)
set_option maxRecDepth 20000 in
theorem wd554 : Cond.instanceMethod yX5_fetch ∈ BIG := bigIn 554 (by rfl) (by rfl)
set_option maxRecDepth 20000 in
theorem wd555 : Cond.selects "FretSchool" yX5_fetch yX5_fetch ∈ BIG := bigIn 555 (by rfl) (by rfl)
set_option maxRecDepth 20000 in
theorem wd556 : Cond.code yX5_fetch cX5_fetch 8 (some .int) ∈ BIG := bigIn 556 (by rfl) (by rfl)
set_option maxRecDepth 20000 in
theorem wt557 : Cond.stringRef "FretSchool" 184 "the order is not ready" ∈ lw_tbl := List.mem_of_getElem? (i := 557) (by rfl)
set_option maxRecDepth 20000 in
theorem wt558 : Cond.stringRef "FretSchool" 190 "the order was fetched" ∈ lw_tbl := List.mem_of_getElem? (i := 558) (by rfl)
set_option maxRecDepth 20000 in
theorem wt559 : Cond.stringRef "FretSchool" 192 "there are 8 instruments" ∈ lw_tbl := List.mem_of_getElem? (i := 559) (by rfl)
set_option maxRecDepth 20000 in
theorem wd560 : Cond.methodLink "FretSchool" 200 yX1_build ∈ BIG := bigIn 560 (by rfl) (by rfl)
set_option maxRecDepth 20000 in
theorem wd561 : Cond.instanceMethod yX1_build ∈ BIG := bigIn 561 (by rfl) (by rfl)
set_option maxRecDepth 20000 in
theorem wd562 : Cond.selects "FretSchool$Instrument" yX1_build yX1_build ∈ BIG := bigIn 562 (by rfl) (by rfl)
set_option maxRecDepth 20000 in
theorem wd563 : Cond.code yX1_build cX1_build 3 (none : Option Jvm.ClassFile.FieldType) ∈ BIG := bigIn 563 (by rfl) (by rfl)
set_option maxRecDepth 20000 in
theorem wd564 : Cond.methodLink "FretSchool" 203 yX1_tuneAll ∈ BIG := bigIn 564 (by rfl) (by rfl)
set_option maxRecDepth 20000 in
theorem wd565 : Cond.instanceMethod yX1_tuneAll ∈ BIG := bigIn 565 (by rfl) (by rfl)
set_option maxRecDepth 20000 in
theorem wd566 : Cond.selects "FretSchool$Instrument" yX1_tuneAll yX1_tuneAll ∈ BIG := bigIn 566 (by rfl) (by rfl)
set_option maxRecDepth 20000 in
theorem wd567 : Cond.code yX1_tuneAll cX1_tuneAll 5 (none : Option Jvm.ClassFile.FieldType) ∈ BIG := bigIn 567 (by rfl) (by rfl)
set_option maxRecDepth 20000 in
theorem wd568 : Cond.methodLink "FretSchoolLaw" 117 yL_owner ∈ BIG := bigIn 568 (by rfl) (by rfl)
set_option maxRecDepth 20000 in
theorem wd569 : Cond.static yL_owner ∈ BIG := bigIn 569 (by rfl) (by rfl)
set_option maxRecDepth 20000 in
theorem wd570 : Cond.codeWith yL_owner cL_owner 3 (some .int) [(0, 5, 6, 23)] ∈ BIG := bigIn 570 (by rfl) (by rfl)
set_option maxRecDepth 20000 in
theorem wd571 : Cond.methodLink "FretSchoolLaw" 40 yX5_owner ∈ BIG := bigIn 571 (by rfl) (by rfl)
set_option maxRecDepth 20000 in
theorem wd572 : Cond.instanceMethod yX5_owner ∈ BIG := bigIn 572 (by rfl) (by rfl)
set_option maxRecDepth 20000 in
theorem wd573 : Cond.selects "FretSchool" yX5_owner yX5_owner ∈ BIG := bigIn 573 (by rfl) (by rfl)
set_option maxRecDepth 20000 in
theorem wd574 : Cond.code yX5_owner cX5_owner 2 (some .int) ∈ BIG := bigIn 574 (by rfl) (by rfl)
set_option maxRecDepth 20000 in
theorem wd575 : Cond.methodLink "FretSchoolLaw" 160 yL_tune ∈ BIG := bigIn 575 (by rfl) (by rfl)
set_option maxRecDepth 20000 in
theorem wd576 : Cond.static yL_tune ∈ BIG := bigIn 576 (by rfl) (by rfl)
set_option maxRecDepth 20000 in
theorem wd577 : Cond.codeWith yL_tune cL_tune 5 (some .int) [(0, 7, 8, 23), (0, 7, 13, 26)] ∈ BIG := bigIn 577 (by rfl) (by rfl)
set_option maxRecDepth 20000 in
theorem wd578 : Cond.methodLink "FretSchoolLaw" 36 yX5_tune ∈ BIG := bigIn 578 (by rfl) (by rfl)
set_option maxRecDepth 20000 in
theorem wd579 : Cond.instanceMethod yX5_tune ∈ BIG := bigIn 579 (by rfl) (by rfl)
set_option maxRecDepth 20000 in
theorem wd580 : Cond.selects "FretSchool" yX5_tune yX5_tune ∈ BIG := bigIn 580 (by rfl) (by rfl)
set_option maxRecDepth 20000 in
theorem wd581 : Cond.code yX5_tune cX5_tune 6 (some .int) ∈ BIG := bigIn 581 (by rfl) (by rfl)
set_option maxRecDepth 20000 in
theorem wd582 : Cond.methodLink "FretSchoolLaw" 119 yL_learn ∈ BIG := bigIn 582 (by rfl) (by rfl)
set_option maxRecDepth 20000 in
theorem wd583 : Cond.static yL_learn ∈ BIG := bigIn 583 (by rfl) (by rfl)
set_option maxRecDepth 20000 in
theorem wd584 : Cond.codeWith yL_learn cL_learn 5 (some .int) [(0, 7, 8, 23), (0, 7, 13, 26), (0, 7, 18, 16)] ∈ BIG := bigIn 584 (by rfl) (by rfl)
set_option maxRecDepth 20000 in
theorem wd585 : Cond.methodLink "FretSchoolLaw" 59 yX5_learn ∈ BIG := bigIn 585 (by rfl) (by rfl)
set_option maxRecDepth 20000 in
theorem wd586 : Cond.instanceMethod yX5_learn ∈ BIG := bigIn 586 (by rfl) (by rfl)
set_option maxRecDepth 20000 in
theorem wd587 : Cond.selects "FretSchool" yX5_learn yX5_learn ∈ BIG := bigIn 587 (by rfl) (by rfl)
set_option maxRecDepth 20000 in
theorem wd588 : Cond.code yX5_learn cX5_learn 6 (some .int) ∈ BIG := bigIn 588 (by rfl) (by rfl)
set_option maxRecDepth 20000 in
theorem wt589 : Cond.stringRef "FretSchool" 142 "the pupil knows the piece" ∈ lw_tbl := List.mem_of_getElem? (i := 589) (by rfl)
set_option maxRecDepth 20000 in
theorem wt590 : Cond.stringRef "FretSchool" 148 "the pupil cannot learn the piece there" ∈ lw_tbl := List.mem_of_getElem? (i := 590) (by rfl)
set_option maxRecDepth 20000 in
theorem wd591 : Cond.methodLink "FretSchool" 150 yX4_takeIn ∈ BIG := bigIn 591 (by rfl) (by rfl)
set_option maxRecDepth 20000 in
theorem wd592 : Cond.instanceMethod yX4_takeIn ∈ BIG := bigIn 592 (by rfl) (by rfl)
set_option maxRecDepth 20000 in
theorem wd593 : Cond.selects "FretSchool$Pupil" yX4_takeIn yX4_takeIn ∈ BIG := bigIn 593 (by rfl) (by rfl)
set_option maxRecDepth 20000 in
theorem wd594 : Cond.code yX4_takeIn cX4_takeIn 3 (none : Option Jvm.ClassFile.FieldType) ∈ BIG := bigIn 594 (by rfl) (by rfl)
set_option maxRecDepth 20000 in
theorem wd595 : Cond.methodLink "FretSchoolLaw" 162 yL_nexts ∈ BIG := bigIn 595 (by rfl) (by rfl)
set_option maxRecDepth 20000 in
theorem wd596 : Cond.static yL_nexts ∈ BIG := bigIn 596 (by rfl) (by rfl)
set_option maxRecDepth 20000 in
theorem wd597 : Cond.code yL_nexts cL_nexts 9 (some .boolean) ∈ BIG := bigIn 597 (by rfl) (by rfl)
set_option maxRecDepth 20000 in
theorem wd598 : Cond.methodLink "FretSchoolLaw" 166 yL_learns ∈ BIG := bigIn 598 (by rfl) (by rfl)
set_option maxRecDepth 20000 in
theorem wd599 : Cond.static yL_learns ∈ BIG := bigIn 599 (by rfl) (by rfl)
set_option maxRecDepth 20000 in
theorem wd600 : Cond.code yL_learns cL_learns 12 (some .boolean) ∈ BIG := bigIn 600 (by rfl) (by rfl)
set_option maxRecDepth 20000 in
theorem wd601 : Cond.sameMethod "java/lang/Throwable" "java/lang/Throwable" "fillInStackTrace" "(I)Ljava/lang/Throwable;" ∈ BIG := bigIn 601 (by rfl) (by rfl)
end
section
theorem dX0_init_0 : decode cX0_init 0 = .ok (.aload_n 0, 1) := by decide +kernel
theorem dX0_init_1 : decode cX0_init 1 = .ok (.invokespecial 3, 3) := by decide +kernel
theorem dX0_init_4 : decode cX0_init 4 = .ok (.aload_n 0, 1) := by decide +kernel
theorem dX0_init_5 : decode cX0_init 5 = .ok (.bipush 16, 2) := by decide +kernel
theorem dX0_init_7 : decode cX0_init 7 = .ok (.newarray .int, 2) := by decide +kernel
theorem dX0_init_9 : decode cX0_init 9 = .ok (.putfield 9, 3) := by decide +kernel
theorem dX0_init_12 : decode cX0_init 12 = .ok (.aload_n 0, 1) := by decide +kernel
theorem dX0_init_13 : decode cX0_init 13 = .ok (.bipush 16, 2) := by decide +kernel
theorem dX0_init_15 : decode cX0_init 15 = .ok (.bipush 14, 2) := by decide +kernel
theorem dX0_init_17 : decode cX0_init 17 = .ok (.multianewarray 15 2, 4) := by decide +kernel
theorem dX0_init_21 : decode cX0_init 21 = .ok (.putfield 17, 3) := by decide +kernel
theorem dX0_init_24 : decode cX0_init 24 = .ok (.aload_n 0, 1) := by decide +kernel
theorem dX0_init_25 : decode cX0_init 25 = .ok (.bipush 16, 2) := by decide +kernel
theorem dX0_init_27 : decode cX0_init 27 = .ok (.newarray .int, 2) := by decide +kernel
theorem dX0_init_29 : decode cX0_init 29 = .ok (.putfield 20, 3) := by decide +kernel
theorem dX0_init_32 : decode cX0_init 32 = .ok (.aload_n 0, 1) := by decide +kernel
theorem dX0_init_33 : decode cX0_init 33 = .ok (.iconst 0, 1) := by decide +kernel
theorem dX0_init_34 : decode cX0_init 34 = .ok (.putfield 23, 3) := by decide +kernel
theorem dX0_init_37 : decode cX0_init 37 = .ok (.aload_n 0, 1) := by decide +kernel
theorem dX0_init_38 : decode cX0_init 38 = .ok (.iconst 0, 1) := by decide +kernel
theorem dX0_init_39 : decode cX0_init 39 = .ok (.putfield 27, 3) := by decide +kernel
theorem dX0_init_42 : decode cX0_init 42 = .ok (.return_, 1) := by decide +kernel
theorem dX0_placeBest_0 : decode cX0_placeBest 0 = .ok (.aload_n 0, 1) := by decide +kernel
theorem dX0_placeBest_1 : decode cX0_placeBest 1 = .ok (.aload_n 1, 1) := by decide +kernel
theorem dX0_placeBest_2 : decode cX0_placeBest 2 = .ok (.aload_n 2, 1) := by decide +kernel
theorem dX0_placeBest_3 : decode cX0_placeBest 3 = .ok (.invokevirtual 30, 3) := by decide +kernel
theorem dX0_placeBest_6 : decode cX0_placeBest 6 = .ok (.aload_n 1, 1) := by decide +kernel
theorem dX0_placeBest_7 : decode cX0_placeBest 7 = .ok (.getfield 34, 3) := by decide +kernel
theorem dX0_placeBest_10 : decode cX0_placeBest 10 = .ok (.iconst 1, 1) := by decide +kernel
theorem dX0_placeBest_11 : decode cX0_placeBest 11 = .ok (.isub, 1) := by decide +kernel
theorem dX0_placeBest_12 : decode cX0_placeBest 12 = .ok (.istore_n 3, 1) := by decide +kernel
theorem dX0_placeBest_13 : decode cX0_placeBest 13 = .ok (.iload_n 3, 1) := by decide +kernel
theorem dX0_placeBest_14 : decode cX0_placeBest 14 = .ok (.ifCond .lt 29, 3) := by decide +kernel
theorem dX0_placeBest_17 : decode cX0_placeBest 17 = .ok (.aload_n 0, 1) := by decide +kernel
theorem dX0_placeBest_18 : decode cX0_placeBest 18 = .ok (.iload_n 3, 1) := by decide +kernel
theorem dX0_placeBest_19 : decode cX0_placeBest 19 = .ok (.iload_n 3, 1) := by decide +kernel
theorem dX0_placeBest_20 : decode cX0_placeBest 20 = .ok (.aload_n 1, 1) := by decide +kernel
theorem dX0_placeBest_21 : decode cX0_placeBest 21 = .ok (.getfield 34, 3) := by decide +kernel
theorem dX0_placeBest_24 : decode cX0_placeBest 24 = .ok (.iconst 1, 1) := by decide +kernel
theorem dX0_placeBest_25 : decode cX0_placeBest 25 = .ok (.isub, 1) := by decide +kernel
theorem dX0_placeBest_26 : decode cX0_placeBest 26 = .ok (.if_icmp .ne 7, 3) := by decide +kernel
theorem dX0_placeBest_29 : decode cX0_placeBest 29 = .ok (.iconst 1, 1) := by decide +kernel
theorem dX0_placeBest_30 : decode cX0_placeBest 30 = .ok (.goto 4, 3) := by decide +kernel
theorem dX0_placeBest_33 : decode cX0_placeBest 33 = .ok (.iconst 0, 1) := by decide +kernel
theorem dX0_placeBest_34 : decode cX0_placeBest 34 = .ok (.invokevirtual 39, 3) := by decide +kernel
theorem dX0_placeBest_37 : decode cX0_placeBest 37 = .ok (.iinc 3 (-1), 3) := by decide +kernel
theorem dX0_placeBest_40 : decode cX0_placeBest 40 = .ok (.goto (-27), 3) := by decide +kernel
theorem dX0_placeBest_43 : decode cX0_placeBest 43 = .ok (.aload_n 1, 1) := by decide +kernel
theorem dX0_placeBest_44 : decode cX0_placeBest 44 = .ok (.getfield 34, 3) := by decide +kernel
theorem dX0_placeBest_47 : decode cX0_placeBest 47 = .ok (.ifCond .le 18, 3) := by decide +kernel
theorem dX0_placeBest_50 : decode cX0_placeBest 50 = .ok (.aload_n 0, 1) := by decide +kernel
theorem dX0_placeBest_51 : decode cX0_placeBest 51 = .ok (.aload_n 1, 1) := by decide +kernel
theorem dX0_placeBest_52 : decode cX0_placeBest 52 = .ok (.getfield 34, 3) := by decide +kernel
theorem dX0_placeBest_55 : decode cX0_placeBest 55 = .ok (.invokevirtual 43, 3) := by decide +kernel
theorem dX0_placeBest_58 : decode cX0_placeBest 58 = .ok (.ifCond .eq 7, 3) := by decide +kernel
theorem dX0_placeBest_61 : decode cX0_placeBest 61 = .ok (.iconst 1, 1) := by decide +kernel
theorem dX0_placeBest_62 : decode cX0_placeBest 62 = .ok (.goto 4, 3) := by decide +kernel
theorem dX0_placeBest_65 : decode cX0_placeBest 65 = .ok (.iconst 0, 1) := by decide +kernel
theorem dX0_placeBest_66 : decode cX0_placeBest 66 = .ok (.ireturn, 1) := by decide +kernel
theorem dX0_leastByAll_0 : decode cX0_leastByAll 0 = .ok (.aload_n 1, 1) := by decide +kernel
theorem dX0_leastByAll_1 : decode cX0_leastByAll 1 = .ok (.getfield 34, 3) := by decide +kernel
theorem dX0_leastByAll_4 : decode cX0_leastByAll 4 = .ok (.ifCond .ne 5, 3) := by decide +kernel
theorem dX0_leastByAll_7 : decode cX0_leastByAll 7 = .ok (.iconst (-1), 1) := by decide +kernel
theorem dX0_leastByAll_8 : decode cX0_leastByAll 8 = .ok (.ireturn, 1) := by decide +kernel
theorem dX0_leastByAll_9 : decode cX0_leastByAll 9 = .ok (.aload_n 0, 1) := by decide +kernel
theorem dX0_leastByAll_10 : decode cX0_leastByAll 10 = .ok (.aload_n 1, 1) := by decide +kernel
theorem dX0_leastByAll_11 : decode cX0_leastByAll 11 = .ok (.aload_n 2, 1) := by decide +kernel
theorem dX0_leastByAll_12 : decode cX0_leastByAll 12 = .ok (.invokevirtual 30, 3) := by decide +kernel
theorem dX0_leastByAll_15 : decode cX0_leastByAll 15 = .ok (.aload_n 0, 1) := by decide +kernel
theorem dX0_leastByAll_16 : decode cX0_leastByAll 16 = .ok (.getfield 9, 3) := by decide +kernel
theorem dX0_leastByAll_19 : decode cX0_leastByAll 19 = .ok (.aload_n 1, 1) := by decide +kernel
theorem dX0_leastByAll_20 : decode cX0_leastByAll 20 = .ok (.getfield 34, 3) := by decide +kernel
theorem dX0_leastByAll_23 : decode cX0_leastByAll 23 = .ok (.iconst 0, 1) := by decide +kernel
theorem dX0_leastByAll_24 : decode cX0_leastByAll 24 = .ok (.iconst 0, 1) := by decide +kernel
theorem dX0_leastByAll_25 : decode cX0_leastByAll 25 = .ok (.invokestatic 47, 3) := by decide +kernel
theorem dX0_leastByAll_28 : decode cX0_leastByAll 28 = .ok (.istore_n 3, 1) := by decide +kernel
theorem dX0_leastByAll_29 : decode cX0_leastByAll 29 = .ok (.iload_n 3, 1) := by decide +kernel
theorem dX0_leastByAll_30 : decode cX0_leastByAll 30 = .ok (.ldc 51, 2) := by decide +kernel
theorem dX0_leastByAll_32 : decode cX0_leastByAll 32 = .ok (.if_icmp .ge 7, 3) := by decide +kernel
theorem dX0_leastByAll_35 : decode cX0_leastByAll 35 = .ok (.iload_n 3, 1) := by decide +kernel
theorem dX0_leastByAll_36 : decode cX0_leastByAll 36 = .ok (.goto 4, 3) := by decide +kernel
theorem dX0_leastByAll_39 : decode cX0_leastByAll 39 = .ok (.iconst (-1), 1) := by decide +kernel
theorem dX0_leastByAll_40 : decode cX0_leastByAll 40 = .ok (.ireturn, 1) := by decide +kernel
theorem dX0_feelReach_0 : decode cX0_feelReach 0 = .ok (.aload_n 2, 1) := by decide +kernel
theorem dX0_feelReach_1 : decode cX0_feelReach 1 = .ok (.invokevirtual 52, 3) := by decide +kernel
theorem dX0_feelReach_4 : decode cX0_feelReach 4 = .ok (.istore_n 3, 1) := by decide +kernel
theorem dX0_feelReach_5 : decode cX0_feelReach 5 = .ok (.iconst 0, 1) := by decide +kernel
theorem dX0_feelReach_6 : decode cX0_feelReach 6 = .ok (.istore 4, 2) := by decide +kernel
theorem dX0_feelReach_8 : decode cX0_feelReach 8 = .ok (.iload 4, 2) := by decide +kernel
theorem dX0_feelReach_10 : decode cX0_feelReach 10 = .ok (.aload_n 1, 1) := by decide +kernel
theorem dX0_feelReach_11 : decode cX0_feelReach 11 = .ok (.getfield 34, 3) := by decide +kernel
theorem dX0_feelReach_14 : decode cX0_feelReach 14 = .ok (.if_icmp .ge 63, 3) := by decide +kernel
theorem dX0_feelReach_17 : decode cX0_feelReach 17 = .ok (.aload_n 0, 1) := by decide +kernel
theorem dX0_feelReach_18 : decode cX0_feelReach 18 = .ok (.getfield 9, 3) := by decide +kernel
theorem dX0_feelReach_21 : decode cX0_feelReach 21 = .ok (.iload 4, 2) := by decide +kernel
theorem dX0_feelReach_23 : decode cX0_feelReach 23 = .ok (.iconst 0, 1) := by decide +kernel
theorem dX0_feelReach_24 : decode cX0_feelReach 24 = .ok (.iastore, 1) := by decide +kernel
theorem dX0_feelReach_25 : decode cX0_feelReach 25 = .ok (.iconst 1, 1) := by decide +kernel
theorem dX0_feelReach_26 : decode cX0_feelReach 26 = .ok (.istore 5, 2) := by decide +kernel
theorem dX0_feelReach_28 : decode cX0_feelReach 28 = .ok (.iload 5, 2) := by decide +kernel
theorem dX0_feelReach_30 : decode cX0_feelReach 30 = .ok (.iload_n 3, 1) := by decide +kernel
theorem dX0_feelReach_31 : decode cX0_feelReach 31 = .ok (.if_icmp .gt 40, 3) := by decide +kernel
theorem dX0_feelReach_34 : decode cX0_feelReach 34 = .ok (.aload_n 2, 1) := by decide +kernel
theorem dX0_feelReach_35 : decode cX0_feelReach 35 = .ok (.aload_n 1, 1) := by decide +kernel
theorem dX0_feelReach_36 : decode cX0_feelReach 36 = .ok (.getfield 58, 3) := by decide +kernel
theorem dX0_feelReach_39 : decode cX0_feelReach 39 = .ok (.iload 4, 2) := by decide +kernel
theorem dX0_feelReach_41 : decode cX0_feelReach 41 = .ok (.iaload, 1) := by decide +kernel
theorem dX0_feelReach_42 : decode cX0_feelReach 42 = .ok (.iload 5, 2) := by decide +kernel
theorem dX0_feelReach_44 : decode cX0_feelReach 44 = .ok (.invokevirtual 61, 3) := by decide +kernel
theorem dX0_feelReach_47 : decode cX0_feelReach 47 = .ok (.iconst (-1), 1) := by decide +kernel
theorem dX0_feelReach_48 : decode cX0_feelReach 48 = .ok (.if_icmp .eq 17, 3) := by decide +kernel
theorem dX0_feelReach_51 : decode cX0_feelReach 51 = .ok (.aload_n 0, 1) := by decide +kernel
theorem dX0_feelReach_52 : decode cX0_feelReach 52 = .ok (.getfield 9, 3) := by decide +kernel
theorem dX0_feelReach_55 : decode cX0_feelReach 55 = .ok (.iload 4, 2) := by decide +kernel
theorem dX0_feelReach_57 : decode cX0_feelReach 57 = .ok (.dup2, 1) := by decide +kernel
theorem dX0_feelReach_58 : decode cX0_feelReach 58 = .ok (.iaload, 1) := by decide +kernel
theorem dX0_feelReach_59 : decode cX0_feelReach 59 = .ok (.iconst 1, 1) := by decide +kernel
theorem dX0_feelReach_60 : decode cX0_feelReach 60 = .ok (.iload 5, 2) := by decide +kernel
theorem dX0_feelReach_62 : decode cX0_feelReach 62 = .ok (.ishl, 1) := by decide +kernel
theorem dX0_feelReach_63 : decode cX0_feelReach 63 = .ok (.ior, 1) := by decide +kernel
theorem dX0_feelReach_64 : decode cX0_feelReach 64 = .ok (.iastore, 1) := by decide +kernel
theorem dX0_feelReach_65 : decode cX0_feelReach 65 = .ok (.iinc 5 1, 3) := by decide +kernel
theorem dX0_feelReach_68 : decode cX0_feelReach 68 = .ok (.goto (-40), 3) := by decide +kernel
theorem dX0_feelReach_71 : decode cX0_feelReach 71 = .ok (.iinc 4 1, 3) := by decide +kernel
theorem dX0_feelReach_74 : decode cX0_feelReach 74 = .ok (.goto (-66), 3) := by decide +kernel
theorem dX0_feelReach_77 : decode cX0_feelReach 77 = .ok (.return_, 1) := by decide +kernel
theorem dX0_measureRest_0 : decode cX0_measureRest 0 = .ok (.iconst 1, 1) := by decide +kernel
theorem dX0_measureRest_1 : decode cX0_measureRest 1 = .ok (.istore_n 3, 1) := by decide +kernel
theorem dX0_measureRest_2 : decode cX0_measureRest 2 = .ok (.iload_n 3, 1) := by decide +kernel
theorem dX0_measureRest_3 : decode cX0_measureRest 3 = .ok (.bipush 13, 2) := by decide +kernel
theorem dX0_measureRest_5 : decode cX0_measureRest 5 = .ok (.if_icmp .gt 95, 3) := by decide +kernel
theorem dX0_measureRest_8 : decode cX0_measureRest 8 = .ok (.iconst 0, 1) := by decide +kernel
theorem dX0_measureRest_9 : decode cX0_measureRest 9 = .ok (.istore 4, 2) := by decide +kernel
theorem dX0_measureRest_11 : decode cX0_measureRest 11 = .ok (.iload_n 2, 1) := by decide +kernel
theorem dX0_measureRest_12 : decode cX0_measureRest 12 = .ok (.ifCond .ne 13, 3) := by decide +kernel
theorem dX0_measureRest_15 : decode cX0_measureRest 15 = .ok (.aload_n 0, 1) := by decide +kernel
theorem dX0_measureRest_16 : decode cX0_measureRest 16 = .ok (.iload_n 1, 1) := by decide +kernel
theorem dX0_measureRest_17 : decode cX0_measureRest 17 = .ok (.iconst 1, 1) := by decide +kernel
theorem dX0_measureRest_18 : decode cX0_measureRest 18 = .ok (.iadd, 1) := by decide +kernel
theorem dX0_measureRest_19 : decode cX0_measureRest 19 = .ok (.iload_n 3, 1) := by decide +kernel
theorem dX0_measureRest_20 : decode cX0_measureRest 20 = .ok (.invokevirtual 65, 3) := by decide +kernel
theorem dX0_measureRest_23 : decode cX0_measureRest 23 = .ok (.istore 4, 2) := by decide +kernel
theorem dX0_measureRest_25 : decode cX0_measureRest 25 = .ok (.aload_n 0, 1) := by decide +kernel
theorem dX0_measureRest_26 : decode cX0_measureRest 26 = .ok (.getfield 9, 3) := by decide +kernel
theorem dX0_measureRest_29 : decode cX0_measureRest 29 = .ok (.iload_n 1, 1) := by decide +kernel
theorem dX0_measureRest_30 : decode cX0_measureRest 30 = .ok (.iaload, 1) := by decide +kernel
theorem dX0_measureRest_31 : decode cX0_measureRest 31 = .ok (.iload_n 3, 1) := by decide +kernel
theorem dX0_measureRest_32 : decode cX0_measureRest 32 = .ok (.invokestatic 68, 3) := by decide +kernel
theorem dX0_measureRest_35 : decode cX0_measureRest 35 = .ok (.ifCond .eq 12, 3) := by decide +kernel
theorem dX0_measureRest_38 : decode cX0_measureRest 38 = .ok (.iload_n 2, 1) := by decide +kernel
theorem dX0_measureRest_39 : decode cX0_measureRest 39 = .ok (.ifCond .ne 21, 3) := by decide +kernel
theorem dX0_measureRest_42 : decode cX0_measureRest 42 = .ok (.iload 4, 2) := by decide +kernel
theorem dX0_measureRest_44 : decode cX0_measureRest 44 = .ok (.ifCond .ne 16, 3) := by decide +kernel
theorem dX0_measureRest_47 : decode cX0_measureRest 47 = .ok (.aload_n 0, 1) := by decide +kernel
theorem dX0_measureRest_48 : decode cX0_measureRest 48 = .ok (.getfield 17, 3) := by decide +kernel
theorem dX0_measureRest_51 : decode cX0_measureRest 51 = .ok (.iload_n 1, 1) := by decide +kernel
theorem dX0_measureRest_52 : decode cX0_measureRest 52 = .ok (.aaload, 1) := by decide +kernel
theorem dX0_measureRest_53 : decode cX0_measureRest 53 = .ok (.iload_n 3, 1) := by decide +kernel
theorem dX0_measureRest_54 : decode cX0_measureRest 54 = .ok (.ldc 51, 2) := by decide +kernel
theorem dX0_measureRest_56 : decode cX0_measureRest 56 = .ok (.iastore, 1) := by decide +kernel
theorem dX0_measureRest_57 : decode cX0_measureRest 57 = .ok (.goto 37, 3) := by decide +kernel
theorem dX0_measureRest_60 : decode cX0_measureRest 60 = .ok (.aload_n 0, 1) := by decide +kernel
theorem dX0_measureRest_61 : decode cX0_measureRest 61 = .ok (.getfield 17, 3) := by decide +kernel
theorem dX0_measureRest_64 : decode cX0_measureRest 64 = .ok (.iload_n 1, 1) := by decide +kernel
theorem dX0_measureRest_65 : decode cX0_measureRest 65 = .ok (.aaload, 1) := by decide +kernel
theorem dX0_measureRest_66 : decode cX0_measureRest 66 = .ok (.iload_n 3, 1) := by decide +kernel
theorem dX0_measureRest_67 : decode cX0_measureRest 67 = .ok (.iload_n 2, 1) := by decide +kernel
theorem dX0_measureRest_68 : decode cX0_measureRest 68 = .ok (.ifCond .eq 7, 3) := by decide +kernel
theorem dX0_measureRest_71 : decode cX0_measureRest 71 = .ok (.iconst 0, 1) := by decide +kernel
theorem dX0_measureRest_72 : decode cX0_measureRest 72 = .ok (.goto 21, 3) := by decide +kernel
theorem dX0_measureRest_75 : decode cX0_measureRest 75 = .ok (.iload_n 3, 1) := by decide +kernel
theorem dX0_measureRest_76 : decode cX0_measureRest 76 = .ok (.iload 4, 2) := by decide +kernel
theorem dX0_measureRest_78 : decode cX0_measureRest 78 = .ok (.invokestatic 72, 3) := by decide +kernel
theorem dX0_measureRest_81 : decode cX0_measureRest 81 = .ok (.aload_n 0, 1) := by decide +kernel
theorem dX0_measureRest_82 : decode cX0_measureRest 82 = .ok (.getfield 17, 3) := by decide +kernel
theorem dX0_measureRest_85 : decode cX0_measureRest 85 = .ok (.iload_n 1, 1) := by decide +kernel
theorem dX0_measureRest_86 : decode cX0_measureRest 86 = .ok (.iconst 1, 1) := by decide +kernel
theorem dX0_measureRest_87 : decode cX0_measureRest 87 = .ok (.iadd, 1) := by decide +kernel
theorem dX0_measureRest_88 : decode cX0_measureRest 88 = .ok (.aaload, 1) := by decide +kernel
theorem dX0_measureRest_89 : decode cX0_measureRest 89 = .ok (.iload 4, 2) := by decide +kernel
theorem dX0_measureRest_91 : decode cX0_measureRest 91 = .ok (.iaload, 1) := by decide +kernel
theorem dX0_measureRest_92 : decode cX0_measureRest 92 = .ok (.iadd, 1) := by decide +kernel
theorem dX0_measureRest_93 : decode cX0_measureRest 93 = .ok (.iastore, 1) := by decide +kernel
theorem dX0_measureRest_94 : decode cX0_measureRest 94 = .ok (.iinc 3 1, 3) := by decide +kernel
theorem dX0_measureRest_97 : decode cX0_measureRest 97 = .ok (.goto (-95), 3) := by decide +kernel
theorem dX0_measureRest_100 : decode cX0_measureRest 100 = .ok (.return_, 1) := by decide +kernel
theorem dX0_chooseRow_0 : decode cX0_chooseRow 0 = .ok (.aload_n 0, 1) := by decide +kernel
theorem dX0_chooseRow_1 : decode cX0_chooseRow 1 = .ok (.iconst 0, 1) := by decide +kernel
theorem dX0_chooseRow_2 : decode cX0_chooseRow 2 = .ok (.putfield 23, 3) := by decide +kernel
theorem dX0_chooseRow_5 : decode cX0_chooseRow 5 = .ok (.aload_n 0, 1) := by decide +kernel
theorem dX0_chooseRow_6 : decode cX0_chooseRow 6 = .ok (.iconst 0, 1) := by decide +kernel
theorem dX0_chooseRow_7 : decode cX0_chooseRow 7 = .ok (.putfield 27, 3) := by decide +kernel
theorem dX0_chooseRow_10 : decode cX0_chooseRow 10 = .ok (.iconst 0, 1) := by decide +kernel
theorem dX0_chooseRow_11 : decode cX0_chooseRow 11 = .ok (.istore_n 2, 1) := by decide +kernel
theorem dX0_chooseRow_12 : decode cX0_chooseRow 12 = .ok (.iconst 0, 1) := by decide +kernel
theorem dX0_chooseRow_13 : decode cX0_chooseRow 13 = .ok (.istore_n 3, 1) := by decide +kernel
theorem dX0_chooseRow_14 : decode cX0_chooseRow 14 = .ok (.iload_n 3, 1) := by decide +kernel
theorem dX0_chooseRow_15 : decode cX0_chooseRow 15 = .ok (.iload_n 1, 1) := by decide +kernel
theorem dX0_chooseRow_16 : decode cX0_chooseRow 16 = .ok (.if_icmp .ge 76, 3) := by decide +kernel
theorem dX0_chooseRow_19 : decode cX0_chooseRow 19 = .ok (.aload_n 0, 1) := by decide +kernel
theorem dX0_chooseRow_20 : decode cX0_chooseRow 20 = .ok (.iload_n 3, 1) := by decide +kernel
theorem dX0_chooseRow_21 : decode cX0_chooseRow 21 = .ok (.iload_n 2, 1) := by decide +kernel
theorem dX0_chooseRow_22 : decode cX0_chooseRow 22 = .ok (.invokevirtual 65, 3) := by decide +kernel
theorem dX0_chooseRow_25 : decode cX0_chooseRow 25 = .ok (.istore 4, 2) := by decide +kernel
theorem dX0_chooseRow_27 : decode cX0_chooseRow 27 = .ok (.iload 4, 2) := by decide +kernel
theorem dX0_chooseRow_29 : decode cX0_chooseRow 29 = .ok (.ifCond .ne 5, 3) := by decide +kernel
theorem dX0_chooseRow_32 : decode cX0_chooseRow 32 = .ok (.iconst 0, 1) := by decide +kernel
theorem dX0_chooseRow_33 : decode cX0_chooseRow 33 = .ok (.ireturn, 1) := by decide +kernel
theorem dX0_chooseRow_34 : decode cX0_chooseRow 34 = .ok (.iload_n 2, 1) := by decide +kernel
theorem dX0_chooseRow_35 : decode cX0_chooseRow 35 = .ok (.iload 4, 2) := by decide +kernel
theorem dX0_chooseRow_37 : decode cX0_chooseRow 37 = .ok (.invokestatic 72, 3) := by decide +kernel
theorem dX0_chooseRow_40 : decode cX0_chooseRow 40 = .ok (.istore 5, 2) := by decide +kernel
theorem dX0_chooseRow_42 : decode cX0_chooseRow 42 = .ok (.aload_n 0, 1) := by decide +kernel
theorem dX0_chooseRow_43 : decode cX0_chooseRow 43 = .ok (.dup, 1) := by decide +kernel
theorem dX0_chooseRow_44 : decode cX0_chooseRow 44 = .ok (.getfield 23, 3) := by decide +kernel
theorem dX0_chooseRow_47 : decode cX0_chooseRow 47 = .ok (.iload 5, 2) := by decide +kernel
theorem dX0_chooseRow_49 : decode cX0_chooseRow 49 = .ok (.iadd, 1) := by decide +kernel
theorem dX0_chooseRow_50 : decode cX0_chooseRow 50 = .ok (.putfield 23, 3) := by decide +kernel
theorem dX0_chooseRow_53 : decode cX0_chooseRow 53 = .ok (.aload_n 0, 1) := by decide +kernel
theorem dX0_chooseRow_54 : decode cX0_chooseRow 54 = .ok (.iload 5, 2) := by decide +kernel
theorem dX0_chooseRow_56 : decode cX0_chooseRow 56 = .ok (.aload_n 0, 1) := by decide +kernel
theorem dX0_chooseRow_57 : decode cX0_chooseRow 57 = .ok (.getfield 27, 3) := by decide +kernel
theorem dX0_chooseRow_60 : decode cX0_chooseRow 60 = .ok (.if_icmp .le 8, 3) := by decide +kernel
theorem dX0_chooseRow_63 : decode cX0_chooseRow 63 = .ok (.iload 5, 2) := by decide +kernel
theorem dX0_chooseRow_65 : decode cX0_chooseRow 65 = .ok (.goto 7, 3) := by decide +kernel
theorem dX0_chooseRow_68 : decode cX0_chooseRow 68 = .ok (.aload_n 0, 1) := by decide +kernel
theorem dX0_chooseRow_69 : decode cX0_chooseRow 69 = .ok (.getfield 27, 3) := by decide +kernel
theorem dX0_chooseRow_72 : decode cX0_chooseRow 72 = .ok (.putfield 27, 3) := by decide +kernel
theorem dX0_chooseRow_75 : decode cX0_chooseRow 75 = .ok (.aload_n 0, 1) := by decide +kernel
theorem dX0_chooseRow_76 : decode cX0_chooseRow 76 = .ok (.getfield 20, 3) := by decide +kernel
theorem dX0_chooseRow_79 : decode cX0_chooseRow 79 = .ok (.iload_n 3, 1) := by decide +kernel
theorem dX0_chooseRow_80 : decode cX0_chooseRow 80 = .ok (.iload 4, 2) := by decide +kernel
theorem dX0_chooseRow_82 : decode cX0_chooseRow 82 = .ok (.iastore, 1) := by decide +kernel
theorem dX0_chooseRow_83 : decode cX0_chooseRow 83 = .ok (.iload 4, 2) := by decide +kernel
theorem dX0_chooseRow_85 : decode cX0_chooseRow 85 = .ok (.istore_n 2, 1) := by decide +kernel
theorem dX0_chooseRow_86 : decode cX0_chooseRow 86 = .ok (.iinc 3 1, 3) := by decide +kernel
theorem dX0_chooseRow_89 : decode cX0_chooseRow 89 = .ok (.goto (-75), 3) := by decide +kernel
theorem dX0_chooseRow_92 : decode cX0_chooseRow 92 = .ok (.iconst 1, 1) := by decide +kernel
theorem dX0_chooseRow_93 : decode cX0_chooseRow 93 = .ok (.ireturn, 1) := by decide +kernel
theorem dX0_nearest_0 : decode cX0_nearest 0 = .ok (.iconst 0, 1) := by decide +kernel
theorem dX0_nearest_1 : decode cX0_nearest 1 = .ok (.istore_n 3, 1) := by decide +kernel
theorem dX0_nearest_2 : decode cX0_nearest 2 = .ok (.ldc 51, 2) := by decide +kernel
theorem dX0_nearest_4 : decode cX0_nearest 4 = .ok (.istore 4, 2) := by decide +kernel
theorem dX0_nearest_6 : decode cX0_nearest 6 = .ok (.iconst 1, 1) := by decide +kernel
theorem dX0_nearest_7 : decode cX0_nearest 7 = .ok (.istore 5, 2) := by decide +kernel
theorem dX0_nearest_9 : decode cX0_nearest 9 = .ok (.iload 5, 2) := by decide +kernel
theorem dX0_nearest_11 : decode cX0_nearest 11 = .ok (.bipush 13, 2) := by decide +kernel
theorem dX0_nearest_13 : decode cX0_nearest 13 = .ok (.if_icmp .gt 41, 3) := by decide +kernel
theorem dX0_nearest_16 : decode cX0_nearest 16 = .ok (.iload_n 2, 1) := by decide +kernel
theorem dX0_nearest_17 : decode cX0_nearest 17 = .ok (.iload 5, 2) := by decide +kernel
theorem dX0_nearest_19 : decode cX0_nearest 19 = .ok (.invokestatic 72, 3) := by decide +kernel
theorem dX0_nearest_22 : decode cX0_nearest 22 = .ok (.aload_n 0, 1) := by decide +kernel
theorem dX0_nearest_23 : decode cX0_nearest 23 = .ok (.getfield 17, 3) := by decide +kernel
theorem dX0_nearest_26 : decode cX0_nearest 26 = .ok (.iload_n 1, 1) := by decide +kernel
theorem dX0_nearest_27 : decode cX0_nearest 27 = .ok (.aaload, 1) := by decide +kernel
theorem dX0_nearest_28 : decode cX0_nearest 28 = .ok (.iload 5, 2) := by decide +kernel
theorem dX0_nearest_30 : decode cX0_nearest 30 = .ok (.iaload, 1) := by decide +kernel
theorem dX0_nearest_31 : decode cX0_nearest 31 = .ok (.iadd, 1) := by decide +kernel
theorem dX0_nearest_32 : decode cX0_nearest 32 = .ok (.istore 6, 2) := by decide +kernel
theorem dX0_nearest_34 : decode cX0_nearest 34 = .ok (.iload 6, 2) := by decide +kernel
theorem dX0_nearest_36 : decode cX0_nearest 36 = .ok (.iload 4, 2) := by decide +kernel
theorem dX0_nearest_38 : decode cX0_nearest 38 = .ok (.if_icmp .ge 10, 3) := by decide +kernel
theorem dX0_nearest_41 : decode cX0_nearest 41 = .ok (.iload 5, 2) := by decide +kernel
theorem dX0_nearest_43 : decode cX0_nearest 43 = .ok (.istore_n 3, 1) := by decide +kernel
theorem dX0_nearest_44 : decode cX0_nearest 44 = .ok (.iload 6, 2) := by decide +kernel
theorem dX0_nearest_46 : decode cX0_nearest 46 = .ok (.istore 4, 2) := by decide +kernel
theorem dX0_nearest_48 : decode cX0_nearest 48 = .ok (.iinc 5 1, 3) := by decide +kernel
theorem dX0_nearest_51 : decode cX0_nearest 51 = .ok (.goto (-42), 3) := by decide +kernel
theorem dX0_nearest_54 : decode cX0_nearest 54 = .ok (.iload_n 3, 1) := by decide +kernel
theorem dX0_nearest_55 : decode cX0_nearest 55 = .ok (.ireturn, 1) := by decide +kernel
theorem dX0_leastFrom_0 : decode cX0_leastFrom 0 = .ok (.iload_n 2, 1) := by decide +kernel
theorem dX0_leastFrom_1 : decode cX0_leastFrom 1 = .ok (.iload_n 1, 1) := by decide +kernel
theorem dX0_leastFrom_2 : decode cX0_leastFrom 2 = .ok (.if_icmp .ge 8, 3) := by decide +kernel
theorem dX0_leastFrom_5 : decode cX0_leastFrom 5 = .ok (.iload_n 2, 1) := by decide +kernel
theorem dX0_leastFrom_6 : decode cX0_leastFrom 6 = .ok (.iconst 4, 1) := by decide +kernel
theorem dX0_leastFrom_7 : decode cX0_leastFrom 7 = .ok (.if_icmp .lt 5, 3) := by decide +kernel
theorem dX0_leastFrom_10 : decode cX0_leastFrom 10 = .ok (.iconst 0, 1) := by decide +kernel
theorem dX0_leastFrom_11 : decode cX0_leastFrom 11 = .ok (.ireturn, 1) := by decide +kernel
theorem dX0_leastFrom_12 : decode cX0_leastFrom 12 = .ok (.ldc 51, 2) := by decide +kernel
theorem dX0_leastFrom_14 : decode cX0_leastFrom 14 = .ok (.istore 4, 2) := by decide +kernel
theorem dX0_leastFrom_16 : decode cX0_leastFrom 16 = .ok (.iconst 1, 1) := by decide +kernel
theorem dX0_leastFrom_17 : decode cX0_leastFrom 17 = .ok (.istore 5, 2) := by decide +kernel
theorem dX0_leastFrom_19 : decode cX0_leastFrom 19 = .ok (.iload 5, 2) := by decide +kernel
theorem dX0_leastFrom_21 : decode cX0_leastFrom 21 = .ok (.bipush 13, 2) := by decide +kernel
theorem dX0_leastFrom_23 : decode cX0_leastFrom 23 = .ok (.if_icmp .gt 55, 3) := by decide +kernel
theorem dX0_leastFrom_26 : decode cX0_leastFrom 26 = .ok (.aload_n 0, 1) := by decide +kernel
theorem dX0_leastFrom_27 : decode cX0_leastFrom 27 = .ok (.iload_n 2, 1) := by decide +kernel
theorem dX0_leastFrom_28 : decode cX0_leastFrom 28 = .ok (.iaload, 1) := by decide +kernel
theorem dX0_leastFrom_29 : decode cX0_leastFrom 29 = .ok (.iload 5, 2) := by decide +kernel
theorem dX0_leastFrom_31 : decode cX0_leastFrom 31 = .ok (.invokestatic 68, 3) := by decide +kernel
theorem dX0_leastFrom_34 : decode cX0_leastFrom 34 = .ok (.ifCond .eq 38, 3) := by decide +kernel
theorem dX0_leastFrom_37 : decode cX0_leastFrom 37 = .ok (.iload_n 3, 1) := by decide +kernel
theorem dX0_leastFrom_38 : decode cX0_leastFrom 38 = .ok (.iload 5, 2) := by decide +kernel
theorem dX0_leastFrom_40 : decode cX0_leastFrom 40 = .ok (.invokestatic 72, 3) := by decide +kernel
theorem dX0_leastFrom_43 : decode cX0_leastFrom 43 = .ok (.aload_n 0, 1) := by decide +kernel
theorem dX0_leastFrom_44 : decode cX0_leastFrom 44 = .ok (.iload_n 1, 1) := by decide +kernel
theorem dX0_leastFrom_45 : decode cX0_leastFrom 45 = .ok (.iload_n 2, 1) := by decide +kernel
theorem dX0_leastFrom_46 : decode cX0_leastFrom 46 = .ok (.iconst 1, 1) := by decide +kernel
theorem dX0_leastFrom_47 : decode cX0_leastFrom 47 = .ok (.iadd, 1) := by decide +kernel
theorem dX0_leastFrom_48 : decode cX0_leastFrom 48 = .ok (.iload 5, 2) := by decide +kernel
theorem dX0_leastFrom_50 : decode cX0_leastFrom 50 = .ok (.invokestatic 47, 3) := by decide +kernel
theorem dX0_leastFrom_53 : decode cX0_leastFrom 53 = .ok (.iadd, 1) := by decide +kernel
theorem dX0_leastFrom_54 : decode cX0_leastFrom 54 = .ok (.istore 6, 2) := by decide +kernel
theorem dX0_leastFrom_56 : decode cX0_leastFrom 56 = .ok (.iload 6, 2) := by decide +kernel
theorem dX0_leastFrom_58 : decode cX0_leastFrom 58 = .ok (.iload 4, 2) := by decide +kernel
theorem dX0_leastFrom_60 : decode cX0_leastFrom 60 = .ok (.if_icmp .ge 8, 3) := by decide +kernel
theorem dX0_leastFrom_63 : decode cX0_leastFrom 63 = .ok (.iload 6, 2) := by decide +kernel
theorem dX0_leastFrom_65 : decode cX0_leastFrom 65 = .ok (.goto 5, 3) := by decide +kernel
theorem dX0_leastFrom_68 : decode cX0_leastFrom 68 = .ok (.iload 4, 2) := by decide +kernel
theorem dX0_leastFrom_70 : decode cX0_leastFrom 70 = .ok (.istore 4, 2) := by decide +kernel
theorem dX0_leastFrom_72 : decode cX0_leastFrom 72 = .ok (.iinc 5 1, 3) := by decide +kernel
theorem dX0_leastFrom_75 : decode cX0_leastFrom 75 = .ok (.goto (-56), 3) := by decide +kernel
theorem dX0_leastFrom_78 : decode cX0_leastFrom 78 = .ok (.iload 4, 2) := by decide +kernel
theorem dX0_leastFrom_80 : decode cX0_leastFrom 80 = .ok (.ireturn, 1) := by decide +kernel
theorem dX0_canReach_0 : decode cX0_canReach 0 = .ok (.iload_n 0, 1) := by decide +kernel
theorem dX0_canReach_1 : decode cX0_canReach 1 = .ok (.iconst 1, 1) := by decide +kernel
theorem dX0_canReach_2 : decode cX0_canReach 2 = .ok (.iload_n 1, 1) := by decide +kernel
theorem dX0_canReach_3 : decode cX0_canReach 3 = .ok (.ishl, 1) := by decide +kernel
theorem dX0_canReach_4 : decode cX0_canReach 4 = .ok (.iand, 1) := by decide +kernel
theorem dX0_canReach_5 : decode cX0_canReach 5 = .ok (.ifCond .eq 7, 3) := by decide +kernel
theorem dX0_canReach_8 : decode cX0_canReach 8 = .ok (.iconst 1, 1) := by decide +kernel
theorem dX0_canReach_9 : decode cX0_canReach 9 = .ok (.goto 4, 3) := by decide +kernel
theorem dX0_canReach_12 : decode cX0_canReach 12 = .ok (.iconst 0, 1) := by decide +kernel
theorem dX0_canReach_13 : decode cX0_canReach 13 = .ok (.ireturn, 1) := by decide +kernel
theorem dX0_shift_0 : decode cX0_shift 0 = .ok (.iload_n 0, 1) := by decide +kernel
theorem dX0_shift_1 : decode cX0_shift 1 = .ok (.ifCond .ne 7, 3) := by decide +kernel
theorem dX0_shift_4 : decode cX0_shift 4 = .ok (.iconst 0, 1) := by decide +kernel
theorem dX0_shift_5 : decode cX0_shift 5 = .ok (.goto 9, 3) := by decide +kernel
theorem dX0_shift_8 : decode cX0_shift 8 = .ok (.iload_n 1, 1) := by decide +kernel
theorem dX0_shift_9 : decode cX0_shift 9 = .ok (.iload_n 0, 1) := by decide +kernel
theorem dX0_shift_10 : decode cX0_shift 10 = .ok (.isub, 1) := by decide +kernel
theorem dX0_shift_11 : decode cX0_shift 11 = .ok (.invokestatic 75, 3) := by decide +kernel
theorem dX0_shift_14 : decode cX0_shift 14 = .ok (.ireturn, 1) := by decide +kernel
end
section
theorem dX1_init_0 : decode cX1_init 0 = .ok (.aload_n 0, 1) := by decide +kernel
theorem dX1_init_1 : decode cX1_init 1 = .ok (.invokespecial 3, 3) := by decide +kernel
theorem dX1_init_4 : decode cX1_init 4 = .ok (.aload_n 0, 1) := by decide +kernel
theorem dX1_init_5 : decode cX1_init 5 = .ok (.iconst 4, 1) := by decide +kernel
theorem dX1_init_6 : decode cX1_init 6 = .ok (.newarray .int, 2) := by decide +kernel
theorem dX1_init_8 : decode cX1_init 8 = .ok (.putfield 9, 3) := by decide +kernel
theorem dX1_init_11 : decode cX1_init 11 = .ok (.aload_n 0, 1) := by decide +kernel
theorem dX1_init_12 : decode cX1_init 12 = .ok (.iconst 0, 1) := by decide +kernel
theorem dX1_init_13 : decode cX1_init 13 = .ok (.putfield 15, 3) := by decide +kernel
theorem dX1_init_16 : decode cX1_init 16 = .ok (.aload_n 0, 1) := by decide +kernel
theorem dX1_init_17 : decode cX1_init 17 = .ok (.iconst 4, 1) := by decide +kernel
theorem dX1_init_18 : decode cX1_init 18 = .ok (.putfield 19, 3) := by decide +kernel
theorem dX1_init_21 : decode cX1_init 21 = .ok (.return_, 1) := by decide +kernel
theorem dX1_build_0 : decode cX1_build 0 = .ok (.aload_n 0, 1) := by decide +kernel
theorem dX1_build_1 : decode cX1_build 1 = .ok (.iload_n 1, 1) := by decide +kernel
theorem dX1_build_2 : decode cX1_build 2 = .ok (.putfield 15, 3) := by decide +kernel
theorem dX1_build_5 : decode cX1_build 5 = .ok (.aload_n 0, 1) := by decide +kernel
theorem dX1_build_6 : decode cX1_build 6 = .ok (.iload_n 2, 1) := by decide +kernel
theorem dX1_build_7 : decode cX1_build 7 = .ok (.putfield 19, 3) := by decide +kernel
theorem dX1_build_10 : decode cX1_build 10 = .ok (.return_, 1) := by decide +kernel
theorem dX1_tuneAll_0 : decode cX1_tuneAll 0 = .ok (.aload_n 0, 1) := by decide +kernel
theorem dX1_tuneAll_1 : decode cX1_tuneAll 1 = .ok (.getfield 9, 3) := by decide +kernel
theorem dX1_tuneAll_4 : decode cX1_tuneAll 4 = .ok (.iconst 0, 1) := by decide +kernel
theorem dX1_tuneAll_5 : decode cX1_tuneAll 5 = .ok (.iload_n 1, 1) := by decide +kernel
theorem dX1_tuneAll_6 : decode cX1_tuneAll 6 = .ok (.iastore, 1) := by decide +kernel
theorem dX1_tuneAll_7 : decode cX1_tuneAll 7 = .ok (.aload_n 0, 1) := by decide +kernel
theorem dX1_tuneAll_8 : decode cX1_tuneAll 8 = .ok (.getfield 9, 3) := by decide +kernel
theorem dX1_tuneAll_11 : decode cX1_tuneAll 11 = .ok (.iconst 1, 1) := by decide +kernel
theorem dX1_tuneAll_12 : decode cX1_tuneAll 12 = .ok (.iload_n 2, 1) := by decide +kernel
theorem dX1_tuneAll_13 : decode cX1_tuneAll 13 = .ok (.iastore, 1) := by decide +kernel
theorem dX1_tuneAll_14 : decode cX1_tuneAll 14 = .ok (.aload_n 0, 1) := by decide +kernel
theorem dX1_tuneAll_15 : decode cX1_tuneAll 15 = .ok (.getfield 9, 3) := by decide +kernel
theorem dX1_tuneAll_18 : decode cX1_tuneAll 18 = .ok (.iconst 2, 1) := by decide +kernel
theorem dX1_tuneAll_19 : decode cX1_tuneAll 19 = .ok (.iload_n 3, 1) := by decide +kernel
theorem dX1_tuneAll_20 : decode cX1_tuneAll 20 = .ok (.iastore, 1) := by decide +kernel
theorem dX1_tuneAll_21 : decode cX1_tuneAll 21 = .ok (.aload_n 0, 1) := by decide +kernel
theorem dX1_tuneAll_22 : decode cX1_tuneAll 22 = .ok (.getfield 9, 3) := by decide +kernel
theorem dX1_tuneAll_25 : decode cX1_tuneAll 25 = .ok (.iconst 3, 1) := by decide +kernel
theorem dX1_tuneAll_26 : decode cX1_tuneAll 26 = .ok (.iload 4, 2) := by decide +kernel
theorem dX1_tuneAll_28 : decode cX1_tuneAll 28 = .ok (.iastore, 1) := by decide +kernel
theorem dX1_tuneAll_29 : decode cX1_tuneAll 29 = .ok (.return_, 1) := by decide +kernel
theorem dX1_highestPosition_0 : decode cX1_highestPosition 0 = .ok (.aload_n 0, 1) := by decide +kernel
theorem dX1_highestPosition_1 : decode cX1_highestPosition 1 = .ok (.getfield 19, 3) := by decide +kernel
theorem dX1_highestPosition_4 : decode cX1_highestPosition 4 = .ok (.iconst 3, 1) := by decide +kernel
theorem dX1_highestPosition_5 : decode cX1_highestPosition 5 = .ok (.isub, 1) := by decide +kernel
theorem dX1_highestPosition_6 : decode cX1_highestPosition 6 = .ok (.ireturn, 1) := by decide +kernel
theorem dX1_lowestString_0 : decode cX1_lowestString 0 = .ok (.iconst 0, 1) := by decide +kernel
theorem dX1_lowestString_1 : decode cX1_lowestString 1 = .ok (.istore_n 3, 1) := by decide +kernel
theorem dX1_lowestString_2 : decode cX1_lowestString 2 = .ok (.iload_n 3, 1) := by decide +kernel
theorem dX1_lowestString_3 : decode cX1_lowestString 3 = .ok (.iconst 4, 1) := by decide +kernel
theorem dX1_lowestString_4 : decode cX1_lowestString 4 = .ok (.if_icmp .ge 40, 3) := by decide +kernel
theorem dX1_lowestString_7 : decode cX1_lowestString 7 = .ok (.iload_n 1, 1) := by decide +kernel
theorem dX1_lowestString_8 : decode cX1_lowestString 8 = .ok (.aload_n 0, 1) := by decide +kernel
theorem dX1_lowestString_9 : decode cX1_lowestString 9 = .ok (.getfield 9, 3) := by decide +kernel
theorem dX1_lowestString_12 : decode cX1_lowestString 12 = .ok (.iload_n 3, 1) := by decide +kernel
theorem dX1_lowestString_13 : decode cX1_lowestString 13 = .ok (.iaload, 1) := by decide +kernel
theorem dX1_lowestString_14 : decode cX1_lowestString 14 = .ok (.isub, 1) := by decide +kernel
theorem dX1_lowestString_15 : decode cX1_lowestString 15 = .ok (.istore 4, 2) := by decide +kernel
theorem dX1_lowestString_17 : decode cX1_lowestString 17 = .ok (.iload 4, 2) := by decide +kernel
theorem dX1_lowestString_19 : decode cX1_lowestString 19 = .ok (.ifCond .eq 17, 3) := by decide +kernel
theorem dX1_lowestString_22 : decode cX1_lowestString 22 = .ok (.iload 4, 2) := by decide +kernel
theorem dX1_lowestString_24 : decode cX1_lowestString 24 = .ok (.iload_n 2, 1) := by decide +kernel
theorem dX1_lowestString_25 : decode cX1_lowestString 25 = .ok (.if_icmp .lt 13, 3) := by decide +kernel
theorem dX1_lowestString_28 : decode cX1_lowestString 28 = .ok (.iload 4, 2) := by decide +kernel
theorem dX1_lowestString_30 : decode cX1_lowestString 30 = .ok (.iload_n 2, 1) := by decide +kernel
theorem dX1_lowestString_31 : decode cX1_lowestString 31 = .ok (.iconst 3, 1) := by decide +kernel
theorem dX1_lowestString_32 : decode cX1_lowestString 32 = .ok (.iadd, 1) := by decide +kernel
theorem dX1_lowestString_33 : decode cX1_lowestString 33 = .ok (.if_icmp .gt 5, 3) := by decide +kernel
theorem dX1_lowestString_36 : decode cX1_lowestString 36 = .ok (.iload_n 3, 1) := by decide +kernel
theorem dX1_lowestString_37 : decode cX1_lowestString 37 = .ok (.ireturn, 1) := by decide +kernel
theorem dX1_lowestString_38 : decode cX1_lowestString 38 = .ok (.iinc 3 1, 3) := by decide +kernel
theorem dX1_lowestString_41 : decode cX1_lowestString 41 = .ok (.goto (-39), 3) := by decide +kernel
theorem dX1_lowestString_44 : decode cX1_lowestString 44 = .ok (.iconst (-1), 1) := by decide +kernel
theorem dX1_lowestString_45 : decode cX1_lowestString 45 = .ok (.ireturn, 1) := by decide +kernel
theorem dX2_init_0 : decode cX2_init 0 = .ok (.aload_n 0, 1) := by decide +kernel
theorem dX2_init_1 : decode cX2_init 1 = .ok (.invokespecial 3, 3) := by decide +kernel
theorem dX2_init_4 : decode cX2_init 4 = .ok (.aload_n 0, 1) := by decide +kernel
theorem dX2_init_5 : decode cX2_init 5 = .ok (.iconst 0, 1) := by decide +kernel
theorem dX2_init_6 : decode cX2_init 6 = .ok (.putfield 9, 3) := by decide +kernel
theorem dX2_init_9 : decode cX2_init 9 = .ok (.aload_n 0, 1) := by decide +kernel
theorem dX2_init_10 : decode cX2_init 10 = .ok (.iconst 4, 1) := by decide +kernel
theorem dX2_init_11 : decode cX2_init 11 = .ok (.putfield 15, 3) := by decide +kernel
theorem dX2_init_14 : decode cX2_init 14 = .ok (.aload_n 0, 1) := by decide +kernel
theorem dX2_init_15 : decode cX2_init 15 = .ok (.iconst 0, 1) := by decide +kernel
theorem dX2_init_16 : decode cX2_init 16 = .ok (.putfield 18, 3) := by decide +kernel
theorem dX2_init_19 : decode cX2_init 19 = .ok (.aload_n 0, 1) := by decide +kernel
theorem dX2_init_20 : decode cX2_init 20 = .ok (.iconst 0, 1) := by decide +kernel
theorem dX2_init_21 : decode cX2_init 21 = .ok (.putfield 21, 3) := by decide +kernel
theorem dX2_init_24 : decode cX2_init 24 = .ok (.return_, 1) := by decide +kernel
theorem dX2_place_0 : decode cX2_place 0 = .ok (.aload_n 0, 1) := by decide +kernel
theorem dX2_place_1 : decode cX2_place 1 = .ok (.iload_n 1, 1) := by decide +kernel
theorem dX2_place_2 : decode cX2_place 2 = .ok (.putfield 9, 3) := by decide +kernel
theorem dX2_place_5 : decode cX2_place 5 = .ok (.aload_n 0, 1) := by decide +kernel
theorem dX2_place_6 : decode cX2_place 6 = .ok (.iload_n 2, 1) := by decide +kernel
theorem dX2_place_7 : decode cX2_place 7 = .ok (.putfield 15, 3) := by decide +kernel
theorem dX2_place_10 : decode cX2_place 10 = .ok (.aload_n 0, 1) := by decide +kernel
theorem dX2_place_11 : decode cX2_place 11 = .ok (.iload_n 3, 1) := by decide +kernel
theorem dX2_place_12 : decode cX2_place 12 = .ok (.putfield 18, 3) := by decide +kernel
theorem dX2_place_15 : decode cX2_place 15 = .ok (.return_, 1) := by decide +kernel
theorem dX2_isReady_0 : decode cX2_isReady 0 = .ok (.iload_n 1, 1) := by decide +kernel
theorem dX2_isReady_1 : decode cX2_isReady 1 = .ok (.aload_n 0, 1) := by decide +kernel
theorem dX2_isReady_2 : decode cX2_isReady 2 = .ok (.getfield 18, 3) := by decide +kernel
theorem dX2_isReady_5 : decode cX2_isReady 5 = .ok (.if_icmp .lt 7, 3) := by decide +kernel
theorem dX2_isReady_8 : decode cX2_isReady 8 = .ok (.iconst 1, 1) := by decide +kernel
theorem dX2_isReady_9 : decode cX2_isReady 9 = .ok (.goto 4, 3) := by decide +kernel
theorem dX2_isReady_12 : decode cX2_isReady 12 = .ok (.iconst 0, 1) := by decide +kernel
theorem dX2_isReady_13 : decode cX2_isReady 13 = .ok (.ireturn, 1) := by decide +kernel
theorem dX3_init_0 : decode cX3_init 0 = .ok (.aload_n 0, 1) := by decide +kernel
theorem dX3_init_1 : decode cX3_init 1 = .ok (.invokespecial 3, 3) := by decide +kernel
theorem dX3_init_4 : decode cX3_init 4 = .ok (.aload_n 0, 1) := by decide +kernel
theorem dX3_init_5 : decode cX3_init 5 = .ok (.bipush 16, 2) := by decide +kernel
theorem dX3_init_7 : decode cX3_init 7 = .ok (.newarray .int, 2) := by decide +kernel
theorem dX3_init_9 : decode cX3_init 9 = .ok (.putfield 9, 3) := by decide +kernel
theorem dX3_init_12 : decode cX3_init 12 = .ok (.aload_n 0, 1) := by decide +kernel
theorem dX3_init_13 : decode cX3_init 13 = .ok (.iconst 0, 1) := by decide +kernel
theorem dX3_init_14 : decode cX3_init 14 = .ok (.putfield 15, 3) := by decide +kernel
theorem dX3_init_17 : decode cX3_init 17 = .ok (.return_, 1) := by decide +kernel
theorem dX3_isFull_0 : decode cX3_isFull 0 = .ok (.aload_n 0, 1) := by decide +kernel
theorem dX3_isFull_1 : decode cX3_isFull 1 = .ok (.getfield 15, 3) := by decide +kernel
theorem dX3_isFull_4 : decode cX3_isFull 4 = .ok (.bipush 16, 2) := by decide +kernel
theorem dX3_isFull_6 : decode cX3_isFull 6 = .ok (.if_icmp .lt 7, 3) := by decide +kernel
theorem dX3_isFull_9 : decode cX3_isFull 9 = .ok (.iconst 1, 1) := by decide +kernel
theorem dX3_isFull_10 : decode cX3_isFull 10 = .ok (.goto 4, 3) := by decide +kernel
theorem dX3_isFull_13 : decode cX3_isFull 13 = .ok (.iconst 0, 1) := by decide +kernel
theorem dX3_isFull_14 : decode cX3_isFull 14 = .ok (.ireturn, 1) := by decide +kernel
theorem dX3_append_0 : decode cX3_append 0 = .ok (.aload_n 0, 1) := by decide +kernel
theorem dX3_append_1 : decode cX3_append 1 = .ok (.invokevirtual 19, 3) := by decide +kernel
theorem dX3_append_4 : decode cX3_append 4 = .ok (.ifCond .eq 4, 3) := by decide +kernel
theorem dX3_append_7 : decode cX3_append 7 = .ok (.return_, 1) := by decide +kernel
theorem dX3_append_8 : decode cX3_append 8 = .ok (.aload_n 0, 1) := by decide +kernel
theorem dX3_append_9 : decode cX3_append 9 = .ok (.getfield 9, 3) := by decide +kernel
theorem dX3_append_12 : decode cX3_append 12 = .ok (.aload_n 0, 1) := by decide +kernel
theorem dX3_append_13 : decode cX3_append 13 = .ok (.getfield 15, 3) := by decide +kernel
theorem dX3_append_16 : decode cX3_append 16 = .ok (.iload_n 1, 1) := by decide +kernel
theorem dX3_append_17 : decode cX3_append 17 = .ok (.iastore, 1) := by decide +kernel
theorem dX3_append_18 : decode cX3_append 18 = .ok (.aload_n 0, 1) := by decide +kernel
theorem dX3_append_19 : decode cX3_append 19 = .ok (.dup, 1) := by decide +kernel
theorem dX3_append_20 : decode cX3_append 20 = .ok (.getfield 15, 3) := by decide +kernel
theorem dX3_append_23 : decode cX3_append 23 = .ok (.iconst 1, 1) := by decide +kernel
theorem dX3_append_24 : decode cX3_append 24 = .ok (.iadd, 1) := by decide +kernel
theorem dX3_append_25 : decode cX3_append 25 = .ok (.putfield 15, 3) := by decide +kernel
theorem dX3_append_28 : decode cX3_append 28 = .ok (.return_, 1) := by decide +kernel
theorem dX3_canMove_0 : decode cX3_canMove 0 = .ok (.iconst 0, 1) := by decide +kernel
theorem dX3_canMove_1 : decode cX3_canMove 1 = .ok (.istore_n 2, 1) := by decide +kernel
theorem dX3_canMove_2 : decode cX3_canMove 2 = .ok (.iload_n 2, 1) := by decide +kernel
theorem dX3_canMove_3 : decode cX3_canMove 3 = .ok (.aload_n 0, 1) := by decide +kernel
theorem dX3_canMove_4 : decode cX3_canMove 4 = .ok (.getfield 15, 3) := by decide +kernel
theorem dX3_canMove_7 : decode cX3_canMove 7 = .ok (.if_icmp .ge 30, 3) := by decide +kernel
theorem dX3_canMove_10 : decode cX3_canMove 10 = .ok (.aload_n 0, 1) := by decide +kernel
theorem dX3_canMove_11 : decode cX3_canMove 11 = .ok (.getfield 9, 3) := by decide +kernel
theorem dX3_canMove_14 : decode cX3_canMove 14 = .ok (.iload_n 2, 1) := by decide +kernel
theorem dX3_canMove_15 : decode cX3_canMove 15 = .ok (.iaload, 1) := by decide +kernel
theorem dX3_canMove_16 : decode cX3_canMove 16 = .ok (.iload_n 1, 1) := by decide +kernel
theorem dX3_canMove_17 : decode cX3_canMove 17 = .ok (.iadd, 1) := by decide +kernel
theorem dX3_canMove_18 : decode cX3_canMove 18 = .ok (.istore_n 3, 1) := by decide +kernel
theorem dX3_canMove_19 : decode cX3_canMove 19 = .ok (.iload_n 3, 1) := by decide +kernel
theorem dX3_canMove_20 : decode cX3_canMove 20 = .ok (.ifCond .lt 9, 3) := by decide +kernel
theorem dX3_canMove_23 : decode cX3_canMove 23 = .ok (.iload_n 3, 1) := by decide +kernel
theorem dX3_canMove_24 : decode cX3_canMove 24 = .ok (.bipush 80, 2) := by decide +kernel
theorem dX3_canMove_26 : decode cX3_canMove 26 = .ok (.if_icmp .le 5, 3) := by decide +kernel
theorem dX3_canMove_29 : decode cX3_canMove 29 = .ok (.iconst 0, 1) := by decide +kernel
theorem dX3_canMove_30 : decode cX3_canMove 30 = .ok (.ireturn, 1) := by decide +kernel
theorem dX3_canMove_31 : decode cX3_canMove 31 = .ok (.iinc 2 1, 3) := by decide +kernel
theorem dX3_canMove_34 : decode cX3_canMove 34 = .ok (.goto (-32), 3) := by decide +kernel
theorem dX3_canMove_37 : decode cX3_canMove 37 = .ok (.iconst 1, 1) := by decide +kernel
theorem dX3_canMove_38 : decode cX3_canMove 38 = .ok (.ireturn, 1) := by decide +kernel
theorem dX3_move_0 : decode cX3_move 0 = .ok (.iconst 0, 1) := by decide +kernel
theorem dX3_move_1 : decode cX3_move 1 = .ok (.istore_n 2, 1) := by decide +kernel
theorem dX3_move_2 : decode cX3_move 2 = .ok (.iload_n 2, 1) := by decide +kernel
theorem dX3_move_3 : decode cX3_move 3 = .ok (.aload_n 0, 1) := by decide +kernel
theorem dX3_move_4 : decode cX3_move 4 = .ok (.getfield 15, 3) := by decide +kernel
theorem dX3_move_7 : decode cX3_move 7 = .ok (.if_icmp .ge 19, 3) := by decide +kernel
theorem dX3_move_10 : decode cX3_move 10 = .ok (.aload_n 0, 1) := by decide +kernel
theorem dX3_move_11 : decode cX3_move 11 = .ok (.getfield 9, 3) := by decide +kernel
theorem dX3_move_14 : decode cX3_move 14 = .ok (.iload_n 2, 1) := by decide +kernel
theorem dX3_move_15 : decode cX3_move 15 = .ok (.dup2, 1) := by decide +kernel
theorem dX3_move_16 : decode cX3_move 16 = .ok (.iaload, 1) := by decide +kernel
theorem dX3_move_17 : decode cX3_move 17 = .ok (.iload_n 1, 1) := by decide +kernel
theorem dX3_move_18 : decode cX3_move 18 = .ok (.iadd, 1) := by decide +kernel
theorem dX3_move_19 : decode cX3_move 19 = .ok (.iastore, 1) := by decide +kernel
theorem dX3_move_20 : decode cX3_move 20 = .ok (.iinc 2 1, 3) := by decide +kernel
theorem dX3_move_23 : decode cX3_move 23 = .ok (.goto (-21), 3) := by decide +kernel
theorem dX3_move_26 : decode cX3_move 26 = .ok (.return_, 1) := by decide +kernel
theorem dX4_init_0 : decode cX4_init 0 = .ok (.aload_n 0, 1) := by decide +kernel
theorem dX4_init_1 : decode cX4_init 1 = .ok (.invokespecial 3, 3) := by decide +kernel
theorem dX4_init_4 : decode cX4_init 4 = .ok (.aload_n 0, 1) := by decide +kernel
theorem dX4_init_5 : decode cX4_init 5 = .ok (.iconst 2, 1) := by decide +kernel
theorem dX4_init_6 : decode cX4_init 6 = .ok (.putfield 9, 3) := by decide +kernel
theorem dX4_init_9 : decode cX4_init 9 = .ok (.aload_n 0, 1) := by decide +kernel
theorem dX4_init_10 : decode cX4_init 10 = .ok (.iconst 0, 1) := by decide +kernel
theorem dX4_init_11 : decode cX4_init 11 = .ok (.putfield 15, 3) := by decide +kernel
theorem dX4_init_14 : decode cX4_init 14 = .ok (.return_, 1) := by decide +kernel
theorem dX4_knows_0 : decode cX4_knows 0 = .ok (.aload_n 0, 1) := by decide +kernel
theorem dX4_knows_1 : decode cX4_knows 1 = .ok (.getfield 15, 3) := by decide +kernel
theorem dX4_knows_4 : decode cX4_knows 4 = .ok (.iconst 1, 1) := by decide +kernel
theorem dX4_knows_5 : decode cX4_knows 5 = .ok (.iload_n 1, 1) := by decide +kernel
theorem dX4_knows_6 : decode cX4_knows 6 = .ok (.ishl, 1) := by decide +kernel
theorem dX4_knows_7 : decode cX4_knows 7 = .ok (.iand, 1) := by decide +kernel
theorem dX4_knows_8 : decode cX4_knows 8 = .ok (.ifCond .eq 7, 3) := by decide +kernel
theorem dX4_knows_11 : decode cX4_knows 11 = .ok (.iconst 1, 1) := by decide +kernel
theorem dX4_knows_12 : decode cX4_knows 12 = .ok (.goto 4, 3) := by decide +kernel
theorem dX4_knows_15 : decode cX4_knows 15 = .ok (.iconst 0, 1) := by decide +kernel
theorem dX4_knows_16 : decode cX4_knows 16 = .ok (.ireturn, 1) := by decide +kernel
theorem dX4_takeIn_0 : decode cX4_takeIn 0 = .ok (.aload_n 0, 1) := by decide +kernel
theorem dX4_takeIn_1 : decode cX4_takeIn 1 = .ok (.dup, 1) := by decide +kernel
theorem dX4_takeIn_2 : decode cX4_takeIn 2 = .ok (.getfield 15, 3) := by decide +kernel
theorem dX4_takeIn_5 : decode cX4_takeIn 5 = .ok (.iconst 1, 1) := by decide +kernel
theorem dX4_takeIn_6 : decode cX4_takeIn 6 = .ok (.iload_n 1, 1) := by decide +kernel
theorem dX4_takeIn_7 : decode cX4_takeIn 7 = .ok (.ishl, 1) := by decide +kernel
theorem dX4_takeIn_8 : decode cX4_takeIn 8 = .ok (.ior, 1) := by decide +kernel
theorem dX4_takeIn_9 : decode cX4_takeIn 9 = .ok (.putfield 15, 3) := by decide +kernel
theorem dX4_takeIn_12 : decode cX4_takeIn 12 = .ok (.iload_n 2, 1) := by decide +kernel
theorem dX4_takeIn_13 : decode cX4_takeIn 13 = .ok (.aload_n 0, 1) := by decide +kernel
theorem dX4_takeIn_14 : decode cX4_takeIn 14 = .ok (.getfield 9, 3) := by decide +kernel
theorem dX4_takeIn_17 : decode cX4_takeIn 17 = .ok (.if_icmp .ne 13, 3) := by decide +kernel
theorem dX4_takeIn_20 : decode cX4_takeIn 20 = .ok (.aload_n 0, 1) := by decide +kernel
theorem dX4_takeIn_21 : decode cX4_takeIn 21 = .ok (.dup, 1) := by decide +kernel
theorem dX4_takeIn_22 : decode cX4_takeIn 22 = .ok (.getfield 9, 3) := by decide +kernel
theorem dX4_takeIn_25 : decode cX4_takeIn 25 = .ok (.iconst 1, 1) := by decide +kernel
theorem dX4_takeIn_26 : decode cX4_takeIn 26 = .ok (.iadd, 1) := by decide +kernel
theorem dX4_takeIn_27 : decode cX4_takeIn 27 = .ok (.putfield 9, 3) := by decide +kernel
theorem dX4_takeIn_30 : decode cX4_takeIn 30 = .ok (.return_, 1) := by decide +kernel
theorem dJ9_abs_0f7a4_0 : decode cJ9_abs_0f7a4 0 = .ok (.iload_n 0, 1) := by decide +kernel
theorem dJ9_abs_0f7a4_1 : decode cJ9_abs_0f7a4 1 = .ok (.ifCond .ge 8, 3) := by decide +kernel
theorem dJ9_abs_0f7a4_4 : decode cJ9_abs_0f7a4 4 = .ok (.iload_n 0, 1) := by decide +kernel
theorem dJ9_abs_0f7a4_5 : decode cJ9_abs_0f7a4 5 = .ok (.ineg, 1) := by decide +kernel
theorem dJ9_abs_0f7a4_6 : decode cJ9_abs_0f7a4 6 = .ok (.goto 4, 3) := by decide +kernel
theorem dJ9_abs_0f7a4_9 : decode cJ9_abs_0f7a4 9 = .ok (.iload_n 0, 1) := by decide +kernel
theorem dJ9_abs_0f7a4_10 : decode cJ9_abs_0f7a4 10 = .ok (.ireturn, 1) := by decide +kernel
end
section
theorem dX5_init_0 : decode cX5_init 0 = .ok (.aload_n 0, 1) := by decide +kernel
theorem dX5_init_1 : decode cX5_init 1 = .ok (.invokespecial 3, 3) := by decide +kernel
theorem dX5_init_4 : decode cX5_init 4 = .ok (.aload_n 0, 1) := by decide +kernel
theorem dX5_init_5 : decode cX5_init 5 = .ok (.bipush 8, 2) := by decide +kernel
theorem dX5_init_7 : decode cX5_init 7 = .ok (.anewarray 9, 3) := by decide +kernel
theorem dX5_init_10 : decode cX5_init 10 = .ok (.putfield 11, 3) := by decide +kernel
theorem dX5_init_13 : decode cX5_init 13 = .ok (.iconst 0, 1) := by decide +kernel
theorem dX5_init_14 : decode cX5_init 14 = .ok (.istore_n 1, 1) := by decide +kernel
theorem dX5_init_15 : decode cX5_init 15 = .ok (.iload_n 1, 1) := by decide +kernel
theorem dX5_init_16 : decode cX5_init 16 = .ok (.bipush 8, 2) := by decide +kernel
theorem dX5_init_18 : decode cX5_init 18 = .ok (.if_icmp .ge 22, 3) := by decide +kernel
theorem dX5_init_21 : decode cX5_init 21 = .ok (.aload_n 0, 1) := by decide +kernel
theorem dX5_init_22 : decode cX5_init 22 = .ok (.getfield 11, 3) := by decide +kernel
theorem dX5_init_25 : decode cX5_init 25 = .ok (.iload_n 1, 1) := by decide +kernel
theorem dX5_init_26 : decode cX5_init 26 = .ok (.new 9, 3) := by decide +kernel
theorem dX5_init_29 : decode cX5_init 29 = .ok (.dup, 1) := by decide +kernel
theorem dX5_init_30 : decode cX5_init 30 = .ok (.invokespecial 15, 3) := by decide +kernel
theorem dX5_init_33 : decode cX5_init 33 = .ok (.aastore, 1) := by decide +kernel
theorem dX5_init_34 : decode cX5_init 34 = .ok (.iinc 1 1, 3) := by decide +kernel
theorem dX5_init_37 : decode cX5_init 37 = .ok (.goto (-22), 3) := by decide +kernel
theorem dX5_init_40 : decode cX5_init 40 = .ok (.aload_n 0, 1) := by decide +kernel
theorem dX5_init_41 : decode cX5_init 41 = .ok (.bipush 8, 2) := by decide +kernel
theorem dX5_init_43 : decode cX5_init 43 = .ok (.anewarray 16, 3) := by decide +kernel
theorem dX5_init_46 : decode cX5_init 46 = .ok (.putfield 18, 3) := by decide +kernel
theorem dX5_init_49 : decode cX5_init 49 = .ok (.iconst 0, 1) := by decide +kernel
theorem dX5_init_50 : decode cX5_init 50 = .ok (.istore_n 1, 1) := by decide +kernel
theorem dX5_init_51 : decode cX5_init 51 = .ok (.iload_n 1, 1) := by decide +kernel
theorem dX5_init_52 : decode cX5_init 52 = .ok (.bipush 8, 2) := by decide +kernel
theorem dX5_init_54 : decode cX5_init 54 = .ok (.if_icmp .ge 22, 3) := by decide +kernel
theorem dX5_init_57 : decode cX5_init 57 = .ok (.aload_n 0, 1) := by decide +kernel
theorem dX5_init_58 : decode cX5_init 58 = .ok (.getfield 18, 3) := by decide +kernel
theorem dX5_init_61 : decode cX5_init 61 = .ok (.iload_n 1, 1) := by decide +kernel
theorem dX5_init_62 : decode cX5_init 62 = .ok (.new 16, 3) := by decide +kernel
theorem dX5_init_65 : decode cX5_init 65 = .ok (.dup, 1) := by decide +kernel
theorem dX5_init_66 : decode cX5_init 66 = .ok (.invokespecial 22, 3) := by decide +kernel
theorem dX5_init_69 : decode cX5_init 69 = .ok (.aastore, 1) := by decide +kernel
theorem dX5_init_70 : decode cX5_init 70 = .ok (.iinc 1 1, 3) := by decide +kernel
theorem dX5_init_73 : decode cX5_init 73 = .ok (.goto (-22), 3) := by decide +kernel
theorem dX5_init_76 : decode cX5_init 76 = .ok (.aload_n 0, 1) := by decide +kernel
theorem dX5_init_77 : decode cX5_init 77 = .ok (.iconst 5, 1) := by decide +kernel
theorem dX5_init_78 : decode cX5_init 78 = .ok (.anewarray 23, 3) := by decide +kernel
theorem dX5_init_81 : decode cX5_init 81 = .ok (.putfield 25, 3) := by decide +kernel
theorem dX5_init_84 : decode cX5_init 84 = .ok (.iconst 0, 1) := by decide +kernel
theorem dX5_init_85 : decode cX5_init 85 = .ok (.istore_n 1, 1) := by decide +kernel
theorem dX5_init_86 : decode cX5_init 86 = .ok (.iload_n 1, 1) := by decide +kernel
theorem dX5_init_87 : decode cX5_init 87 = .ok (.iconst 5, 1) := by decide +kernel
theorem dX5_init_88 : decode cX5_init 88 = .ok (.if_icmp .ge 22, 3) := by decide +kernel
theorem dX5_init_91 : decode cX5_init 91 = .ok (.aload_n 0, 1) := by decide +kernel
theorem dX5_init_92 : decode cX5_init 92 = .ok (.getfield 25, 3) := by decide +kernel
theorem dX5_init_95 : decode cX5_init 95 = .ok (.iload_n 1, 1) := by decide +kernel
theorem dX5_init_96 : decode cX5_init 96 = .ok (.new 23, 3) := by decide +kernel
theorem dX5_init_99 : decode cX5_init 99 = .ok (.dup, 1) := by decide +kernel
theorem dX5_init_100 : decode cX5_init 100 = .ok (.invokespecial 29, 3) := by decide +kernel
theorem dX5_init_103 : decode cX5_init 103 = .ok (.aastore, 1) := by decide +kernel
theorem dX5_init_104 : decode cX5_init 104 = .ok (.iinc 1 1, 3) := by decide +kernel
theorem dX5_init_107 : decode cX5_init 107 = .ok (.goto (-21), 3) := by decide +kernel
theorem dX5_init_110 : decode cX5_init 110 = .ok (.aload_n 0, 1) := by decide +kernel
theorem dX5_init_111 : decode cX5_init 111 = .ok (.bipush 20, 2) := by decide +kernel
theorem dX5_init_113 : decode cX5_init 113 = .ok (.anewarray 30, 3) := by decide +kernel
theorem dX5_init_116 : decode cX5_init 116 = .ok (.putfield 32, 3) := by decide +kernel
theorem dX5_init_119 : decode cX5_init 119 = .ok (.iconst 0, 1) := by decide +kernel
theorem dX5_init_120 : decode cX5_init 120 = .ok (.istore_n 1, 1) := by decide +kernel
theorem dX5_init_121 : decode cX5_init 121 = .ok (.iload_n 1, 1) := by decide +kernel
theorem dX5_init_122 : decode cX5_init 122 = .ok (.bipush 20, 2) := by decide +kernel
theorem dX5_init_124 : decode cX5_init 124 = .ok (.if_icmp .ge 22, 3) := by decide +kernel
theorem dX5_init_127 : decode cX5_init 127 = .ok (.aload_n 0, 1) := by decide +kernel
theorem dX5_init_128 : decode cX5_init 128 = .ok (.getfield 32, 3) := by decide +kernel
theorem dX5_init_131 : decode cX5_init 131 = .ok (.iload_n 1, 1) := by decide +kernel
theorem dX5_init_132 : decode cX5_init 132 = .ok (.new 30, 3) := by decide +kernel
theorem dX5_init_135 : decode cX5_init 135 = .ok (.dup, 1) := by decide +kernel
theorem dX5_init_136 : decode cX5_init 136 = .ok (.invokespecial 36, 3) := by decide +kernel
theorem dX5_init_139 : decode cX5_init 139 = .ok (.aastore, 1) := by decide +kernel
theorem dX5_init_140 : decode cX5_init 140 = .ok (.iinc 1 1, 3) := by decide +kernel
theorem dX5_init_143 : decode cX5_init 143 = .ok (.goto (-22), 3) := by decide +kernel
theorem dX5_init_146 : decode cX5_init 146 = .ok (.aload_n 0, 1) := by decide +kernel
theorem dX5_init_147 : decode cX5_init 147 = .ok (.iconst 4, 1) := by decide +kernel
theorem dX5_init_148 : decode cX5_init 148 = .ok (.newarray .int, 2) := by decide +kernel
theorem dX5_init_150 : decode cX5_init 150 = .ok (.putfield 37, 3) := by decide +kernel
theorem dX5_init_153 : decode cX5_init 153 = .ok (.aload_n 0, 1) := by decide +kernel
theorem dX5_init_154 : decode cX5_init 154 = .ok (.new 41, 3) := by decide +kernel
theorem dX5_init_157 : decode cX5_init 157 = .ok (.dup, 1) := by decide +kernel
theorem dX5_init_158 : decode cX5_init 158 = .ok (.invokespecial 43, 3) := by decide +kernel
theorem dX5_init_161 : decode cX5_init 161 = .ok (.putfield 44, 3) := by decide +kernel
theorem dX5_init_164 : decode cX5_init 164 = .ok (.aload_n 0, 1) := by decide +kernel
theorem dX5_init_165 : decode cX5_init 165 = .ok (.iconst 0, 1) := by decide +kernel
theorem dX5_init_166 : decode cX5_init 166 = .ok (.putfield 48, 3) := by decide +kernel
theorem dX5_init_169 : decode cX5_init 169 = .ok (.aload_n 0, 1) := by decide +kernel
theorem dX5_init_170 : decode cX5_init 170 = .ok (.iconst 0, 1) := by decide +kernel
theorem dX5_init_171 : decode cX5_init 171 = .ok (.putfield 52, 3) := by decide +kernel
theorem dX5_init_174 : decode cX5_init 174 = .ok (.aload_n 0, 1) := by decide +kernel
theorem dX5_init_175 : decode cX5_init 175 = .ok (.iconst 0, 1) := by decide +kernel
theorem dX5_init_176 : decode cX5_init 176 = .ok (.putfield 55, 3) := by decide +kernel
theorem dX5_init_179 : decode cX5_init 179 = .ok (.aload_n 0, 1) := by decide +kernel
theorem dX5_init_180 : decode cX5_init 180 = .ok (.iconst 0, 1) := by decide +kernel
theorem dX5_init_181 : decode cX5_init 181 = .ok (.putfield 58, 3) := by decide +kernel
theorem dX5_init_184 : decode cX5_init 184 = .ok (.return_, 1) := by decide +kernel
theorem dX5_begin_0 : decode cX5_begin 0 = .ok (.aload_n 0, 1) := by decide +kernel
theorem dX5_begin_1 : decode cX5_begin 1 = .ok (.getfield 48, 3) := by decide +kernel
theorem dX5_begin_4 : decode cX5_begin 4 = .ok (.bipush 8, 2) := by decide +kernel
theorem dX5_begin_6 : decode cX5_begin 6 = .ok (.if_icmp .lt 13, 3) := by decide +kernel
theorem dX5_begin_9 : decode cX5_begin 9 = .ok (.new 61, 3) := by decide +kernel
theorem dX5_begin_12 : decode cX5_begin 12 = .ok (.dup, 1) := by decide +kernel
theorem dX5_begin_13 : decode cX5_begin 13 = .ok (.ldc 63, 2) := by decide +kernel
theorem dX5_begin_15 : decode cX5_begin 15 = .ok (.invokespecial 65, 3) := by decide +kernel
theorem dX5_begin_18 : decode cX5_begin 18 = .ok (.athrow, 1) := by decide +kernel
theorem dX5_begin_19 : decode cX5_begin 19 = .ok (.aload_n 0, 1) := by decide +kernel
theorem dX5_begin_20 : decode cX5_begin 20 = .ok (.getfield 48, 3) := by decide +kernel
theorem dX5_begin_23 : decode cX5_begin 23 = .ok (.istore_n 1, 1) := by decide +kernel
theorem dX5_begin_24 : decode cX5_begin 24 = .ok (.aload_n 0, 1) := by decide +kernel
theorem dX5_begin_25 : decode cX5_begin 25 = .ok (.dup, 1) := by decide +kernel
theorem dX5_begin_26 : decode cX5_begin 26 = .ok (.getfield 48, 3) := by decide +kernel
theorem dX5_begin_29 : decode cX5_begin 29 = .ok (.iconst 1, 1) := by decide +kernel
theorem dX5_begin_30 : decode cX5_begin 30 = .ok (.iadd, 1) := by decide +kernel
theorem dX5_begin_31 : decode cX5_begin 31 = .ok (.putfield 48, 3) := by decide +kernel
theorem dX5_begin_34 : decode cX5_begin 34 = .ok (.iload_n 1, 1) := by decide +kernel
theorem dX5_begin_35 : decode cX5_begin 35 = .ok (.ireturn, 1) := by decide +kernel
theorem dX5_addNote_0 : decode cX5_addNote 0 = .ok (.aload_n 0, 1) := by decide +kernel
theorem dX5_addNote_1 : decode cX5_addNote 1 = .ok (.iload_n 1, 1) := by decide +kernel
theorem dX5_addNote_2 : decode cX5_addNote 2 = .ok (.invokevirtual 68, 3) := by decide +kernel
theorem dX5_addNote_5 : decode cX5_addNote 5 = .ok (.iload_n 2, 1) := by decide +kernel
theorem dX5_addNote_6 : decode cX5_addNote 6 = .ok (.iconst 0, 1) := by decide +kernel
theorem dX5_addNote_7 : decode cX5_addNote 7 = .ok (.bipush 80, 2) := by decide +kernel
theorem dX5_addNote_9 : decode cX5_addNote 9 = .ok (.invokestatic 72, 3) := by decide +kernel
theorem dX5_addNote_12 : decode cX5_addNote 12 = .ok (.aload_n 0, 1) := by decide +kernel
theorem dX5_addNote_13 : decode cX5_addNote 13 = .ok (.getfield 11, 3) := by decide +kernel
theorem dX5_addNote_16 : decode cX5_addNote 16 = .ok (.iload_n 1, 1) := by decide +kernel
theorem dX5_addNote_17 : decode cX5_addNote 17 = .ok (.aaload, 1) := by decide +kernel
theorem dX5_addNote_18 : decode cX5_addNote 18 = .ok (.astore_n 3, 1) := by decide +kernel
theorem dX5_addNote_19 : decode cX5_addNote 19 = .ok (.aload_n 3, 1) := by decide +kernel
theorem dX5_addNote_20 : decode cX5_addNote 20 = .ok (.invokevirtual 76, 3) := by decide +kernel
theorem dX5_addNote_23 : decode cX5_addNote 23 = .ok (.ifCond .eq 13, 3) := by decide +kernel
theorem dX5_addNote_26 : decode cX5_addNote 26 = .ok (.new 61, 3) := by decide +kernel
theorem dX5_addNote_29 : decode cX5_addNote 29 = .ok (.dup, 1) := by decide +kernel
theorem dX5_addNote_30 : decode cX5_addNote 30 = .ok (.ldc 80, 2) := by decide +kernel
theorem dX5_addNote_32 : decode cX5_addNote 32 = .ok (.invokespecial 65, 3) := by decide +kernel
theorem dX5_addNote_35 : decode cX5_addNote 35 = .ok (.athrow, 1) := by decide +kernel
theorem dX5_addNote_36 : decode cX5_addNote 36 = .ok (.aload_n 3, 1) := by decide +kernel
theorem dX5_addNote_37 : decode cX5_addNote 37 = .ok (.iload_n 2, 1) := by decide +kernel
theorem dX5_addNote_38 : decode cX5_addNote 38 = .ok (.invokevirtual 82, 3) := by decide +kernel
theorem dX5_addNote_41 : decode cX5_addNote 41 = .ok (.aload_n 3, 1) := by decide +kernel
theorem dX5_addNote_42 : decode cX5_addNote 42 = .ok (.getfield 85, 3) := by decide +kernel
theorem dX5_addNote_45 : decode cX5_addNote 45 = .ok (.ireturn, 1) := by decide +kernel
theorem dX5_transpose_0 : decode cX5_transpose 0 = .ok (.aload_n 0, 1) := by decide +kernel
theorem dX5_transpose_1 : decode cX5_transpose 1 = .ok (.iload_n 1, 1) := by decide +kernel
theorem dX5_transpose_2 : decode cX5_transpose 2 = .ok (.invokevirtual 68, 3) := by decide +kernel
theorem dX5_transpose_5 : decode cX5_transpose 5 = .ok (.iload_n 2, 1) := by decide +kernel
theorem dX5_transpose_6 : decode cX5_transpose 6 = .ok (.bipush (-40), 2) := by decide +kernel
theorem dX5_transpose_8 : decode cX5_transpose 8 = .ok (.bipush 40, 2) := by decide +kernel
theorem dX5_transpose_10 : decode cX5_transpose 10 = .ok (.invokestatic 72, 3) := by decide +kernel
theorem dX5_transpose_13 : decode cX5_transpose 13 = .ok (.aload_n 0, 1) := by decide +kernel
theorem dX5_transpose_14 : decode cX5_transpose 14 = .ok (.getfield 11, 3) := by decide +kernel
theorem dX5_transpose_17 : decode cX5_transpose 17 = .ok (.iload_n 1, 1) := by decide +kernel
theorem dX5_transpose_18 : decode cX5_transpose 18 = .ok (.aaload, 1) := by decide +kernel
theorem dX5_transpose_19 : decode cX5_transpose 19 = .ok (.astore_n 3, 1) := by decide +kernel
theorem dX5_transpose_20 : decode cX5_transpose 20 = .ok (.aload_n 3, 1) := by decide +kernel
theorem dX5_transpose_21 : decode cX5_transpose 21 = .ok (.iload_n 2, 1) := by decide +kernel
theorem dX5_transpose_22 : decode cX5_transpose 22 = .ok (.invokevirtual 88, 3) := by decide +kernel
theorem dX5_transpose_25 : decode cX5_transpose 25 = .ok (.ifCond .ne 13, 3) := by decide +kernel
theorem dX5_transpose_28 : decode cX5_transpose 28 = .ok (.new 61, 3) := by decide +kernel
theorem dX5_transpose_31 : decode cX5_transpose 31 = .ok (.dup, 1) := by decide +kernel
theorem dX5_transpose_32 : decode cX5_transpose 32 = .ok (.ldc 92, 2) := by decide +kernel
theorem dX5_transpose_34 : decode cX5_transpose 34 = .ok (.invokespecial 65, 3) := by decide +kernel
theorem dX5_transpose_37 : decode cX5_transpose 37 = .ok (.athrow, 1) := by decide +kernel
theorem dX5_transpose_38 : decode cX5_transpose 38 = .ok (.aload_n 3, 1) := by decide +kernel
theorem dX5_transpose_39 : decode cX5_transpose 39 = .ok (.iload_n 2, 1) := by decide +kernel
theorem dX5_transpose_40 : decode cX5_transpose 40 = .ok (.invokevirtual 94, 3) := by decide +kernel
theorem dX5_transpose_43 : decode cX5_transpose 43 = .ok (.return_, 1) := by decide +kernel
theorem dX5_pitch_0 : decode cX5_pitch 0 = .ok (.aload_n 0, 1) := by decide +kernel
theorem dX5_pitch_1 : decode cX5_pitch 1 = .ok (.iload_n 1, 1) := by decide +kernel
theorem dX5_pitch_2 : decode cX5_pitch 2 = .ok (.iload_n 2, 1) := by decide +kernel
theorem dX5_pitch_3 : decode cX5_pitch 3 = .ok (.invokevirtual 97, 3) := by decide +kernel
theorem dX5_pitch_6 : decode cX5_pitch 6 = .ok (.aload_n 0, 1) := by decide +kernel
theorem dX5_pitch_7 : decode cX5_pitch 7 = .ok (.getfield 11, 3) := by decide +kernel
theorem dX5_pitch_10 : decode cX5_pitch 10 = .ok (.iload_n 1, 1) := by decide +kernel
theorem dX5_pitch_11 : decode cX5_pitch 11 = .ok (.aaload, 1) := by decide +kernel
theorem dX5_pitch_12 : decode cX5_pitch 12 = .ok (.getfield 101, 3) := by decide +kernel
theorem dX5_pitch_15 : decode cX5_pitch 15 = .ok (.iload_n 2, 1) := by decide +kernel
theorem dX5_pitch_16 : decode cX5_pitch 16 = .ok (.iaload, 1) := by decide +kernel
theorem dX5_pitch_17 : decode cX5_pitch 17 = .ok (.ireturn, 1) := by decide +kernel
theorem dX5_tune_0 : decode cX5_tune 0 = .ok (.aload_n 0, 1) := by decide +kernel
theorem dX5_tune_1 : decode cX5_tune 1 = .ok (.iload_n 1, 1) := by decide +kernel
theorem dX5_tune_2 : decode cX5_tune 2 = .ok (.invokevirtual 104, 3) := by decide +kernel
theorem dX5_tune_5 : decode cX5_tune 5 = .ok (.iload_n 2, 1) := by decide +kernel
theorem dX5_tune_6 : decode cX5_tune 6 = .ok (.iconst 0, 1) := by decide +kernel
theorem dX5_tune_7 : decode cX5_tune 7 = .ok (.iconst 3, 1) := by decide +kernel
theorem dX5_tune_8 : decode cX5_tune 8 = .ok (.invokestatic 72, 3) := by decide +kernel
theorem dX5_tune_11 : decode cX5_tune 11 = .ok (.iload_n 3, 1) := by decide +kernel
theorem dX5_tune_12 : decode cX5_tune 12 = .ok (.iconst 0, 1) := by decide +kernel
theorem dX5_tune_13 : decode cX5_tune 13 = .ok (.bipush 60, 2) := by decide +kernel
theorem dX5_tune_15 : decode cX5_tune 15 = .ok (.invokestatic 72, 3) := by decide +kernel
theorem dX5_tune_18 : decode cX5_tune 18 = .ok (.aload_n 0, 1) := by decide +kernel
theorem dX5_tune_19 : decode cX5_tune 19 = .ok (.getfield 18, 3) := by decide +kernel
theorem dX5_tune_22 : decode cX5_tune 22 = .ok (.iload_n 1, 1) := by decide +kernel
theorem dX5_tune_23 : decode cX5_tune 23 = .ok (.aaload, 1) := by decide +kernel
theorem dX5_tune_24 : decode cX5_tune 24 = .ok (.getfield 107, 3) := by decide +kernel
theorem dX5_tune_27 : decode cX5_tune 27 = .ok (.astore 4, 2) := by decide +kernel
theorem dX5_tune_29 : decode cX5_tune 29 = .ok (.aload 4, 2) := by decide +kernel
theorem dX5_tune_31 : decode cX5_tune 31 = .ok (.iload_n 2, 1) := by decide +kernel
theorem dX5_tune_32 : decode cX5_tune 32 = .ok (.iaload, 1) := by decide +kernel
theorem dX5_tune_33 : decode cX5_tune 33 = .ok (.istore 5, 2) := by decide +kernel
theorem dX5_tune_35 : decode cX5_tune 35 = .ok (.aload 4, 2) := by decide +kernel
theorem dX5_tune_37 : decode cX5_tune 37 = .ok (.iload_n 2, 1) := by decide +kernel
theorem dX5_tune_38 : decode cX5_tune 38 = .ok (.iload_n 3, 1) := by decide +kernel
theorem dX5_tune_39 : decode cX5_tune 39 = .ok (.iastore, 1) := by decide +kernel
theorem dX5_tune_40 : decode cX5_tune 40 = .ok (.iload 5, 2) := by decide +kernel
theorem dX5_tune_42 : decode cX5_tune 42 = .ok (.ireturn, 1) := by decide +kernel
theorem dX5_owner_0 : decode cX5_owner 0 = .ok (.aload_n 0, 1) := by decide +kernel
theorem dX5_owner_1 : decode cX5_owner 1 = .ok (.iload_n 1, 1) := by decide +kernel
theorem dX5_owner_2 : decode cX5_owner 2 = .ok (.invokevirtual 104, 3) := by decide +kernel
theorem dX5_owner_5 : decode cX5_owner 5 = .ok (.aload_n 0, 1) := by decide +kernel
theorem dX5_owner_6 : decode cX5_owner 6 = .ok (.getfield 18, 3) := by decide +kernel
theorem dX5_owner_9 : decode cX5_owner 9 = .ok (.iload_n 1, 1) := by decide +kernel
theorem dX5_owner_10 : decode cX5_owner 10 = .ok (.aaload, 1) := by decide +kernel
theorem dX5_owner_11 : decode cX5_owner 11 = .ok (.getfield 110, 3) := by decide +kernel
theorem dX5_owner_14 : decode cX5_owner 14 = .ok (.ireturn, 1) := by decide +kernel
theorem dX5_instruments_0 : decode cX5_instruments 0 = .ok (.aload_n 0, 1) := by decide +kernel
theorem dX5_instruments_1 : decode cX5_instruments 1 = .ok (.getfield 52, 3) := by decide +kernel
theorem dX5_instruments_4 : decode cX5_instruments 4 = .ok (.ireturn, 1) := by decide +kernel
theorem dX5_shifts_0 : decode cX5_shifts 0 = .ok (.aload_n 0, 1) := by decide +kernel
theorem dX5_shifts_1 : decode cX5_shifts 1 = .ok (.iload_n 1, 1) := by decide +kernel
theorem dX5_shifts_2 : decode cX5_shifts 2 = .ok (.iload_n 2, 1) := by decide +kernel
theorem dX5_shifts_3 : decode cX5_shifts 3 = .ok (.invokevirtual 113, 3) := by decide +kernel
theorem dX5_shifts_6 : decode cX5_shifts 6 = .ok (.ifCond .eq 13, 3) := by decide +kernel
theorem dX5_shifts_9 : decode cX5_shifts 9 = .ok (.aload_n 0, 1) := by decide +kernel
theorem dX5_shifts_10 : decode cX5_shifts 10 = .ok (.getfield 44, 3) := by decide +kernel
theorem dX5_shifts_13 : decode cX5_shifts 13 = .ok (.getfield 117, 3) := by decide +kernel
theorem dX5_shifts_16 : decode cX5_shifts 16 = .ok (.goto 4, 3) := by decide +kernel
theorem dX5_shifts_19 : decode cX5_shifts 19 = .ok (.iconst (-1), 1) := by decide +kernel
theorem dX5_shifts_20 : decode cX5_shifts 20 = .ok (.ireturn, 1) := by decide +kernel
theorem dX5_shiftsByAll_0 : decode cX5_shiftsByAll 0 = .ok (.aload_n 0, 1) := by decide +kernel
theorem dX5_shiftsByAll_1 : decode cX5_shiftsByAll 1 = .ok (.iload_n 1, 1) := by decide +kernel
theorem dX5_shiftsByAll_2 : decode cX5_shiftsByAll 2 = .ok (.invokevirtual 68, 3) := by decide +kernel
theorem dX5_shiftsByAll_5 : decode cX5_shiftsByAll 5 = .ok (.aload_n 0, 1) := by decide +kernel
theorem dX5_shiftsByAll_6 : decode cX5_shiftsByAll 6 = .ok (.iload_n 2, 1) := by decide +kernel
theorem dX5_shiftsByAll_7 : decode cX5_shiftsByAll 7 = .ok (.invokevirtual 104, 3) := by decide +kernel
theorem dX5_shiftsByAll_10 : decode cX5_shiftsByAll 10 = .ok (.aload_n 0, 1) := by decide +kernel
theorem dX5_shiftsByAll_11 : decode cX5_shiftsByAll 11 = .ok (.getfield 11, 3) := by decide +kernel
theorem dX5_shiftsByAll_14 : decode cX5_shiftsByAll 14 = .ok (.iload_n 1, 1) := by decide +kernel
theorem dX5_shiftsByAll_15 : decode cX5_shiftsByAll 15 = .ok (.aaload, 1) := by decide +kernel
theorem dX5_shiftsByAll_16 : decode cX5_shiftsByAll 16 = .ok (.getfield 85, 3) := by decide +kernel
theorem dX5_shiftsByAll_19 : decode cX5_shiftsByAll 19 = .ok (.iconst 4, 1) := by decide +kernel
theorem dX5_shiftsByAll_20 : decode cX5_shiftsByAll 20 = .ok (.if_icmp .le 13, 3) := by decide +kernel
theorem dX5_shiftsByAll_23 : decode cX5_shiftsByAll 23 = .ok (.new 61, 3) := by decide +kernel
theorem dX5_shiftsByAll_26 : decode cX5_shiftsByAll 26 = .ok (.dup, 1) := by decide +kernel
theorem dX5_shiftsByAll_27 : decode cX5_shiftsByAll 27 = .ok (.ldc 120, 2) := by decide +kernel
theorem dX5_shiftsByAll_29 : decode cX5_shiftsByAll 29 = .ok (.invokespecial 65, 3) := by decide +kernel
theorem dX5_shiftsByAll_32 : decode cX5_shiftsByAll 32 = .ok (.athrow, 1) := by decide +kernel
theorem dX5_shiftsByAll_33 : decode cX5_shiftsByAll 33 = .ok (.aload_n 0, 1) := by decide +kernel
theorem dX5_shiftsByAll_34 : decode cX5_shiftsByAll 34 = .ok (.getfield 44, 3) := by decide +kernel
theorem dX5_shiftsByAll_37 : decode cX5_shiftsByAll 37 = .ok (.aload_n 0, 1) := by decide +kernel
theorem dX5_shiftsByAll_38 : decode cX5_shiftsByAll 38 = .ok (.getfield 11, 3) := by decide +kernel
theorem dX5_shiftsByAll_41 : decode cX5_shiftsByAll 41 = .ok (.iload_n 1, 1) := by decide +kernel
theorem dX5_shiftsByAll_42 : decode cX5_shiftsByAll 42 = .ok (.aaload, 1) := by decide +kernel
theorem dX5_shiftsByAll_43 : decode cX5_shiftsByAll 43 = .ok (.aload_n 0, 1) := by decide +kernel
theorem dX5_shiftsByAll_44 : decode cX5_shiftsByAll 44 = .ok (.getfield 18, 3) := by decide +kernel
theorem dX5_shiftsByAll_47 : decode cX5_shiftsByAll 47 = .ok (.iload_n 2, 1) := by decide +kernel
theorem dX5_shiftsByAll_48 : decode cX5_shiftsByAll 48 = .ok (.aaload, 1) := by decide +kernel
theorem dX5_shiftsByAll_49 : decode cX5_shiftsByAll 49 = .ok (.invokevirtual 122, 3) := by decide +kernel
theorem dX5_shiftsByAll_52 : decode cX5_shiftsByAll 52 = .ok (.ireturn, 1) := by decide +kernel
theorem dX5_hardest_0 : decode cX5_hardest 0 = .ok (.aload_n 0, 1) := by decide +kernel
theorem dX5_hardest_1 : decode cX5_hardest 1 = .ok (.iload_n 1, 1) := by decide +kernel
theorem dX5_hardest_2 : decode cX5_hardest 2 = .ok (.iload_n 2, 1) := by decide +kernel
theorem dX5_hardest_3 : decode cX5_hardest 3 = .ok (.invokevirtual 113, 3) := by decide +kernel
theorem dX5_hardest_6 : decode cX5_hardest 6 = .ok (.ifCond .eq 13, 3) := by decide +kernel
theorem dX5_hardest_9 : decode cX5_hardest 9 = .ok (.aload_n 0, 1) := by decide +kernel
theorem dX5_hardest_10 : decode cX5_hardest 10 = .ok (.getfield 44, 3) := by decide +kernel
theorem dX5_hardest_13 : decode cX5_hardest 13 = .ok (.getfield 126, 3) := by decide +kernel
theorem dX5_hardest_16 : decode cX5_hardest 16 = .ok (.goto 4, 3) := by decide +kernel
theorem dX5_hardest_19 : decode cX5_hardest 19 = .ok (.iconst (-1), 1) := by decide +kernel
theorem dX5_hardest_20 : decode cX5_hardest 20 = .ok (.ireturn, 1) := by decide +kernel
theorem dX5_position_0 : decode cX5_position 0 = .ok (.aload_n 0, 1) := by decide +kernel
theorem dX5_position_1 : decode cX5_position 1 = .ok (.iload_n 1, 1) := by decide +kernel
theorem dX5_position_2 : decode cX5_position 2 = .ok (.iload_n 2, 1) := by decide +kernel
theorem dX5_position_3 : decode cX5_position 3 = .ok (.invokevirtual 97, 3) := by decide +kernel
theorem dX5_position_6 : decode cX5_position 6 = .ok (.aload_n 0, 1) := by decide +kernel
theorem dX5_position_7 : decode cX5_position 7 = .ok (.iload_n 1, 1) := by decide +kernel
theorem dX5_position_8 : decode cX5_position 8 = .ok (.iload_n 3, 1) := by decide +kernel
theorem dX5_position_9 : decode cX5_position 9 = .ok (.invokevirtual 113, 3) := by decide +kernel
theorem dX5_position_12 : decode cX5_position 12 = .ok (.ifCond .eq 15, 3) := by decide +kernel
theorem dX5_position_15 : decode cX5_position 15 = .ok (.aload_n 0, 1) := by decide +kernel
theorem dX5_position_16 : decode cX5_position 16 = .ok (.getfield 44, 3) := by decide +kernel
theorem dX5_position_19 : decode cX5_position 19 = .ok (.getfield 129, 3) := by decide +kernel
theorem dX5_position_22 : decode cX5_position 22 = .ok (.iload_n 2, 1) := by decide +kernel
theorem dX5_position_23 : decode cX5_position 23 = .ok (.iaload, 1) := by decide +kernel
theorem dX5_position_24 : decode cX5_position 24 = .ok (.goto 4, 3) := by decide +kernel
theorem dX5_position_27 : decode cX5_position 27 = .ok (.iconst (-1), 1) := by decide +kernel
theorem dX5_position_28 : decode cX5_position 28 = .ok (.ireturn, 1) := by decide +kernel
theorem dX5_string_0 : decode cX5_string 0 = .ok (.aload_n 0, 1) := by decide +kernel
theorem dX5_string_1 : decode cX5_string 1 = .ok (.iload_n 1, 1) := by decide +kernel
theorem dX5_string_2 : decode cX5_string 2 = .ok (.iload_n 2, 1) := by decide +kernel
theorem dX5_string_3 : decode cX5_string 3 = .ok (.invokevirtual 97, 3) := by decide +kernel
theorem dX5_string_6 : decode cX5_string 6 = .ok (.aload_n 0, 1) := by decide +kernel
theorem dX5_string_7 : decode cX5_string 7 = .ok (.iload_n 1, 1) := by decide +kernel
theorem dX5_string_8 : decode cX5_string 8 = .ok (.iload_n 3, 1) := by decide +kernel
theorem dX5_string_9 : decode cX5_string 9 = .ok (.invokevirtual 113, 3) := by decide +kernel
theorem dX5_string_12 : decode cX5_string 12 = .ok (.ifCond .ne 5, 3) := by decide +kernel
theorem dX5_string_15 : decode cX5_string 15 = .ok (.iconst (-1), 1) := by decide +kernel
theorem dX5_string_16 : decode cX5_string 16 = .ok (.ireturn, 1) := by decide +kernel
theorem dX5_string_17 : decode cX5_string 17 = .ok (.aload_n 0, 1) := by decide +kernel
theorem dX5_string_18 : decode cX5_string 18 = .ok (.getfield 18, 3) := by decide +kernel
theorem dX5_string_21 : decode cX5_string 21 = .ok (.iload_n 3, 1) := by decide +kernel
theorem dX5_string_22 : decode cX5_string 22 = .ok (.aaload, 1) := by decide +kernel
theorem dX5_string_23 : decode cX5_string 23 = .ok (.aload_n 0, 1) := by decide +kernel
theorem dX5_string_24 : decode cX5_string 24 = .ok (.getfield 11, 3) := by decide +kernel
theorem dX5_string_27 : decode cX5_string 27 = .ok (.iload_n 1, 1) := by decide +kernel
theorem dX5_string_28 : decode cX5_string 28 = .ok (.aaload, 1) := by decide +kernel
theorem dX5_string_29 : decode cX5_string 29 = .ok (.getfield 101, 3) := by decide +kernel
theorem dX5_string_32 : decode cX5_string 32 = .ok (.iload_n 2, 1) := by decide +kernel
theorem dX5_string_33 : decode cX5_string 33 = .ok (.iaload, 1) := by decide +kernel
theorem dX5_string_34 : decode cX5_string 34 = .ok (.aload_n 0, 1) := by decide +kernel
theorem dX5_string_35 : decode cX5_string 35 = .ok (.getfield 44, 3) := by decide +kernel
theorem dX5_string_38 : decode cX5_string 38 = .ok (.getfield 129, 3) := by decide +kernel
theorem dX5_string_41 : decode cX5_string 41 = .ok (.iload_n 2, 1) := by decide +kernel
theorem dX5_string_42 : decode cX5_string 42 = .ok (.iaload, 1) := by decide +kernel
theorem dX5_string_43 : decode cX5_string 43 = .ok (.invokevirtual 132, 3) := by decide +kernel
theorem dX5_string_46 : decode cX5_string 46 = .ok (.ireturn, 1) := by decide +kernel
theorem dX5_learn_0 : decode cX5_learn 0 = .ok (.aload_n 0, 1) := by decide +kernel
theorem dX5_learn_1 : decode cX5_learn 1 = .ok (.iload_n 2, 1) := by decide +kernel
theorem dX5_learn_2 : decode cX5_learn 2 = .ok (.invokevirtual 68, 3) := by decide +kernel
theorem dX5_learn_5 : decode cX5_learn 5 = .ok (.aload_n 0, 1) := by decide +kernel
theorem dX5_learn_6 : decode cX5_learn 6 = .ok (.iload_n 3, 1) := by decide +kernel
theorem dX5_learn_7 : decode cX5_learn 7 = .ok (.invokevirtual 104, 3) := by decide +kernel
theorem dX5_learn_10 : decode cX5_learn 10 = .ok (.iload_n 1, 1) := by decide +kernel
theorem dX5_learn_11 : decode cX5_learn 11 = .ok (.invokestatic 136, 3) := by decide +kernel
theorem dX5_learn_14 : decode cX5_learn 14 = .ok (.aload_n 0, 1) := by decide +kernel
theorem dX5_learn_15 : decode cX5_learn 15 = .ok (.getfield 25, 3) := by decide +kernel
theorem dX5_learn_18 : decode cX5_learn 18 = .ok (.iload_n 1, 1) := by decide +kernel
theorem dX5_learn_19 : decode cX5_learn 19 = .ok (.aaload, 1) := by decide +kernel
theorem dX5_learn_20 : decode cX5_learn 20 = .ok (.astore 4, 2) := by decide +kernel
theorem dX5_learn_22 : decode cX5_learn 22 = .ok (.aload 4, 2) := by decide +kernel
theorem dX5_learn_24 : decode cX5_learn 24 = .ok (.iload_n 2, 1) := by decide +kernel
theorem dX5_learn_25 : decode cX5_learn 25 = .ok (.invokevirtual 139, 3) := by decide +kernel
theorem dX5_learn_28 : decode cX5_learn 28 = .ok (.ifCond .eq 13, 3) := by decide +kernel
theorem dX5_learn_31 : decode cX5_learn 31 = .ok (.new 61, 3) := by decide +kernel
theorem dX5_learn_34 : decode cX5_learn 34 = .ok (.dup, 1) := by decide +kernel
theorem dX5_learn_35 : decode cX5_learn 35 = .ok (.ldc 142, 2) := by decide +kernel
theorem dX5_learn_37 : decode cX5_learn 37 = .ok (.invokespecial 65, 3) := by decide +kernel
theorem dX5_learn_40 : decode cX5_learn 40 = .ok (.athrow, 1) := by decide +kernel
theorem dX5_learn_41 : decode cX5_learn 41 = .ok (.aload_n 0, 1) := by decide +kernel
theorem dX5_learn_42 : decode cX5_learn 42 = .ok (.iload_n 1, 1) := by decide +kernel
theorem dX5_learn_43 : decode cX5_learn 43 = .ok (.iload_n 2, 1) := by decide +kernel
theorem dX5_learn_44 : decode cX5_learn 44 = .ok (.iload_n 3, 1) := by decide +kernel
theorem dX5_learn_45 : decode cX5_learn 45 = .ok (.invokevirtual 144, 3) := by decide +kernel
theorem dX5_learn_48 : decode cX5_learn 48 = .ok (.istore 5, 2) := by decide +kernel
theorem dX5_learn_50 : decode cX5_learn 50 = .ok (.iload 5, 2) := by decide +kernel
theorem dX5_learn_52 : decode cX5_learn 52 = .ok (.iconst (-1), 1) := by decide +kernel
theorem dX5_learn_53 : decode cX5_learn 53 = .ok (.if_icmp .ne 13, 3) := by decide +kernel
theorem dX5_learn_56 : decode cX5_learn 56 = .ok (.new 61, 3) := by decide +kernel
theorem dX5_learn_59 : decode cX5_learn 59 = .ok (.dup, 1) := by decide +kernel
theorem dX5_learn_60 : decode cX5_learn 60 = .ok (.ldc 148, 2) := by decide +kernel
theorem dX5_learn_62 : decode cX5_learn 62 = .ok (.invokespecial 65, 3) := by decide +kernel
theorem dX5_learn_65 : decode cX5_learn 65 = .ok (.athrow, 1) := by decide +kernel
theorem dX5_learn_66 : decode cX5_learn 66 = .ok (.aload 4, 2) := by decide +kernel
theorem dX5_learn_68 : decode cX5_learn 68 = .ok (.iload_n 2, 1) := by decide +kernel
theorem dX5_learn_69 : decode cX5_learn 69 = .ok (.iload 5, 2) := by decide +kernel
theorem dX5_learn_71 : decode cX5_learn 71 = .ok (.invokevirtual 150, 3) := by decide +kernel
theorem dX5_learn_74 : decode cX5_learn 74 = .ok (.aload 4, 2) := by decide +kernel
theorem dX5_learn_76 : decode cX5_learn 76 = .ok (.getfield 153, 3) := by decide +kernel
theorem dX5_learn_79 : decode cX5_learn 79 = .ok (.ireturn, 1) := by decide +kernel
theorem dX5_level_0 : decode cX5_level 0 = .ok (.iload_n 1, 1) := by decide +kernel
theorem dX5_level_1 : decode cX5_level 1 = .ok (.invokestatic 136, 3) := by decide +kernel
theorem dX5_level_4 : decode cX5_level 4 = .ok (.aload_n 0, 1) := by decide +kernel
theorem dX5_level_5 : decode cX5_level 5 = .ok (.getfield 25, 3) := by decide +kernel
theorem dX5_level_8 : decode cX5_level 8 = .ok (.iload_n 1, 1) := by decide +kernel
theorem dX5_level_9 : decode cX5_level 9 = .ok (.aaload, 1) := by decide +kernel
theorem dX5_level_10 : decode cX5_level 10 = .ok (.getfield 153, 3) := by decide +kernel
theorem dX5_level_13 : decode cX5_level 13 = .ok (.ireturn, 1) := by decide +kernel
theorem dX5_known_0 : decode cX5_known 0 = .ok (.iload_n 1, 1) := by decide +kernel
theorem dX5_known_1 : decode cX5_known 1 = .ok (.invokestatic 136, 3) := by decide +kernel
theorem dX5_known_4 : decode cX5_known 4 = .ok (.aload_n 0, 1) := by decide +kernel
theorem dX5_known_5 : decode cX5_known 5 = .ok (.getfield 25, 3) := by decide +kernel
theorem dX5_known_8 : decode cX5_known 8 = .ok (.iload_n 1, 1) := by decide +kernel
theorem dX5_known_9 : decode cX5_known 9 = .ok (.aaload, 1) := by decide +kernel
theorem dX5_known_10 : decode cX5_known 10 = .ok (.getfield 156, 3) := by decide +kernel
theorem dX5_known_13 : decode cX5_known 13 = .ok (.ireturn, 1) := by decide +kernel
theorem dX5_next_0 : decode cX5_next 0 = .ok (.iload_n 1, 1) := by decide +kernel
theorem dX5_next_1 : decode cX5_next 1 = .ok (.invokestatic 136, 3) := by decide +kernel
theorem dX5_next_4 : decode cX5_next 4 = .ok (.iconst (-1), 1) := by decide +kernel
theorem dX5_next_5 : decode cX5_next 5 = .ok (.istore_n 2, 1) := by decide +kernel
theorem dX5_next_6 : decode cX5_next 6 = .ok (.iconst 0, 1) := by decide +kernel
theorem dX5_next_7 : decode cX5_next 7 = .ok (.istore_n 3, 1) := by decide +kernel
theorem dX5_next_8 : decode cX5_next 8 = .ok (.iconst 0, 1) := by decide +kernel
theorem dX5_next_9 : decode cX5_next 9 = .ok (.istore 4, 2) := by decide +kernel
theorem dX5_next_11 : decode cX5_next 11 = .ok (.iload 4, 2) := by decide +kernel
theorem dX5_next_13 : decode cX5_next 13 = .ok (.aload_n 0, 1) := by decide +kernel
theorem dX5_next_14 : decode cX5_next 14 = .ok (.getfield 48, 3) := by decide +kernel
theorem dX5_next_17 : decode cX5_next 17 = .ok (.if_icmp .ge 59, 3) := by decide +kernel
theorem dX5_next_20 : decode cX5_next 20 = .ok (.aload_n 0, 1) := by decide +kernel
theorem dX5_next_21 : decode cX5_next 21 = .ok (.getfield 25, 3) := by decide +kernel
theorem dX5_next_24 : decode cX5_next 24 = .ok (.iload_n 1, 1) := by decide +kernel
theorem dX5_next_25 : decode cX5_next 25 = .ok (.aaload, 1) := by decide +kernel
theorem dX5_next_26 : decode cX5_next 26 = .ok (.iload 4, 2) := by decide +kernel
theorem dX5_next_28 : decode cX5_next 28 = .ok (.invokevirtual 139, 3) := by decide +kernel
theorem dX5_next_31 : decode cX5_next 31 = .ok (.ifCond .eq 7, 3) := by decide +kernel
theorem dX5_next_34 : decode cX5_next 34 = .ok (.iconst (-1), 1) := by decide +kernel
theorem dX5_next_35 : decode cX5_next 35 = .ok (.goto 10, 3) := by decide +kernel
theorem dX5_next_38 : decode cX5_next 38 = .ok (.aload_n 0, 1) := by decide +kernel
theorem dX5_next_39 : decode cX5_next 39 = .ok (.iload_n 1, 1) := by decide +kernel
theorem dX5_next_40 : decode cX5_next 40 = .ok (.iload 4, 2) := by decide +kernel
theorem dX5_next_42 : decode cX5_next 42 = .ok (.invokevirtual 159, 3) := by decide +kernel
end
section
theorem dX5_next_45 : decode cX5_next 45 = .ok (.istore 5, 2) := by decide +kernel
theorem dX5_next_47 : decode cX5_next 47 = .ok (.iload 5, 2) := by decide +kernel
theorem dX5_next_49 : decode cX5_next 49 = .ok (.iconst (-1), 1) := by decide +kernel
theorem dX5_next_50 : decode cX5_next 50 = .ok (.if_icmp .eq 20, 3) := by decide +kernel
theorem dX5_next_53 : decode cX5_next 53 = .ok (.iload_n 2, 1) := by decide +kernel
theorem dX5_next_54 : decode cX5_next 54 = .ok (.iconst (-1), 1) := by decide +kernel
theorem dX5_next_55 : decode cX5_next 55 = .ok (.if_icmp .eq 9, 3) := by decide +kernel
theorem dX5_next_58 : decode cX5_next 58 = .ok (.iload 5, 2) := by decide +kernel
theorem dX5_next_60 : decode cX5_next 60 = .ok (.iload_n 3, 1) := by decide +kernel
theorem dX5_next_61 : decode cX5_next 61 = .ok (.if_icmp .ge 9, 3) := by decide +kernel
theorem dX5_next_64 : decode cX5_next 64 = .ok (.iload 4, 2) := by decide +kernel
theorem dX5_next_66 : decode cX5_next 66 = .ok (.istore_n 2, 1) := by decide +kernel
theorem dX5_next_67 : decode cX5_next 67 = .ok (.iload 5, 2) := by decide +kernel
theorem dX5_next_69 : decode cX5_next 69 = .ok (.istore_n 3, 1) := by decide +kernel
theorem dX5_next_70 : decode cX5_next 70 = .ok (.iinc 4 1, 3) := by decide +kernel
theorem dX5_next_73 : decode cX5_next 73 = .ok (.goto (-62), 3) := by decide +kernel
theorem dX5_next_76 : decode cX5_next 76 = .ok (.iload_n 2, 1) := by decide +kernel
theorem dX5_next_77 : decode cX5_next 77 = .ok (.ireturn, 1) := by decide +kernel
theorem dX5_addWood_0 : decode cX5_addWood 0 = .ok (.iload_n 1, 1) := by decide +kernel
theorem dX5_addWood_1 : decode cX5_addWood 1 = .ok (.iconst 0, 1) := by decide +kernel
theorem dX5_addWood_2 : decode cX5_addWood 2 = .ok (.iconst 3, 1) := by decide +kernel
theorem dX5_addWood_3 : decode cX5_addWood 3 = .ok (.invokestatic 72, 3) := by decide +kernel
theorem dX5_addWood_6 : decode cX5_addWood 6 = .ok (.iload_n 2, 1) := by decide +kernel
theorem dX5_addWood_7 : decode cX5_addWood 7 = .ok (.iconst 1, 1) := by decide +kernel
theorem dX5_addWood_8 : decode cX5_addWood 8 = .ok (.bipush 20, 2) := by decide +kernel
theorem dX5_addWood_10 : decode cX5_addWood 10 = .ok (.invokestatic 72, 3) := by decide +kernel
theorem dX5_addWood_13 : decode cX5_addWood 13 = .ok (.aload_n 0, 1) := by decide +kernel
theorem dX5_addWood_14 : decode cX5_addWood 14 = .ok (.getfield 37, 3) := by decide +kernel
theorem dX5_addWood_17 : decode cX5_addWood 17 = .ok (.iload_n 1, 1) := by decide +kernel
theorem dX5_addWood_18 : decode cX5_addWood 18 = .ok (.dup2, 1) := by decide +kernel
theorem dX5_addWood_19 : decode cX5_addWood 19 = .ok (.iaload, 1) := by decide +kernel
theorem dX5_addWood_20 : decode cX5_addWood 20 = .ok (.iload_n 2, 1) := by decide +kernel
theorem dX5_addWood_21 : decode cX5_addWood 21 = .ok (.iadd, 1) := by decide +kernel
theorem dX5_addWood_22 : decode cX5_addWood 22 = .ok (.iastore, 1) := by decide +kernel
theorem dX5_addWood_23 : decode cX5_addWood 23 = .ok (.aload_n 0, 1) := by decide +kernel
theorem dX5_addWood_24 : decode cX5_addWood 24 = .ok (.getfield 37, 3) := by decide +kernel
theorem dX5_addWood_27 : decode cX5_addWood 27 = .ok (.iload_n 1, 1) := by decide +kernel
theorem dX5_addWood_28 : decode cX5_addWood 28 = .ok (.iaload, 1) := by decide +kernel
theorem dX5_addWood_29 : decode cX5_addWood 29 = .ok (.ireturn, 1) := by decide +kernel
theorem dX5_order_0 : decode cX5_order 0 = .ok (.iload_n 1, 1) := by decide +kernel
theorem dX5_order_1 : decode cX5_order 1 = .ok (.invokestatic 136, 3) := by decide +kernel
theorem dX5_order_4 : decode cX5_order 4 = .ok (.iload_n 2, 1) := by decide +kernel
theorem dX5_order_5 : decode cX5_order 5 = .ok (.iconst 0, 1) := by decide +kernel
theorem dX5_order_6 : decode cX5_order 6 = .ok (.iconst 3, 1) := by decide +kernel
theorem dX5_order_7 : decode cX5_order 7 = .ok (.invokestatic 72, 3) := by decide +kernel
theorem dX5_order_10 : decode cX5_order 10 = .ok (.iload_n 3, 1) := by decide +kernel
theorem dX5_order_11 : decode cX5_order 11 = .ok (.iconst 4, 1) := by decide +kernel
theorem dX5_order_12 : decode cX5_order 12 = .ok (.bipush 16, 2) := by decide +kernel
theorem dX5_order_14 : decode cX5_order 14 = .ok (.invokestatic 72, 3) := by decide +kernel
theorem dX5_order_17 : decode cX5_order 17 = .ok (.aload_n 0, 1) := by decide +kernel
theorem dX5_order_18 : decode cX5_order 18 = .ok (.getfield 37, 3) := by decide +kernel
theorem dX5_order_21 : decode cX5_order 21 = .ok (.iload_n 2, 1) := by decide +kernel
theorem dX5_order_22 : decode cX5_order 22 = .ok (.iaload, 1) := by decide +kernel
theorem dX5_order_23 : decode cX5_order 23 = .ok (.iconst 3, 1) := by decide +kernel
theorem dX5_order_24 : decode cX5_order 24 = .ok (.if_icmp .ge 13, 3) := by decide +kernel
theorem dX5_order_27 : decode cX5_order 27 = .ok (.new 61, 3) := by decide +kernel
theorem dX5_order_30 : decode cX5_order 30 = .ok (.dup, 1) := by decide +kernel
theorem dX5_order_31 : decode cX5_order 31 = .ok (.ldc 162, 2) := by decide +kernel
theorem dX5_order_33 : decode cX5_order 33 = .ok (.invokespecial 65, 3) := by decide +kernel
theorem dX5_order_36 : decode cX5_order 36 = .ok (.athrow, 1) := by decide +kernel
theorem dX5_order_37 : decode cX5_order 37 = .ok (.aload_n 0, 1) := by decide +kernel
theorem dX5_order_38 : decode cX5_order 38 = .ok (.invokevirtual 164, 3) := by decide +kernel
theorem dX5_order_41 : decode cX5_order 41 = .ok (.iconst 2, 1) := by decide +kernel
theorem dX5_order_42 : decode cX5_order 42 = .ok (.if_icmp .lt 13, 3) := by decide +kernel
theorem dX5_order_45 : decode cX5_order 45 = .ok (.new 61, 3) := by decide +kernel
theorem dX5_order_48 : decode cX5_order 48 = .ok (.dup, 1) := by decide +kernel
theorem dX5_order_49 : decode cX5_order 49 = .ok (.ldc 168, 2) := by decide +kernel
theorem dX5_order_51 : decode cX5_order 51 = .ok (.invokespecial 65, 3) := by decide +kernel
theorem dX5_order_54 : decode cX5_order 54 = .ok (.athrow, 1) := by decide +kernel
theorem dX5_order_55 : decode cX5_order 55 = .ok (.aload_n 0, 1) := by decide +kernel
theorem dX5_order_56 : decode cX5_order 56 = .ok (.getfield 55, 3) := by decide +kernel
theorem dX5_order_59 : decode cX5_order 59 = .ok (.bipush 20, 2) := by decide +kernel
theorem dX5_order_61 : decode cX5_order 61 = .ok (.if_icmp .lt 13, 3) := by decide +kernel
theorem dX5_order_64 : decode cX5_order 64 = .ok (.new 61, 3) := by decide +kernel
theorem dX5_order_67 : decode cX5_order 67 = .ok (.dup, 1) := by decide +kernel
theorem dX5_order_68 : decode cX5_order 68 = .ok (.ldc 170, 2) := by decide +kernel
theorem dX5_order_70 : decode cX5_order 70 = .ok (.invokespecial 65, 3) := by decide +kernel
theorem dX5_order_73 : decode cX5_order 73 = .ok (.athrow, 1) := by decide +kernel
theorem dX5_order_74 : decode cX5_order 74 = .ok (.aload_n 0, 1) := by decide +kernel
theorem dX5_order_75 : decode cX5_order 75 = .ok (.getfield 37, 3) := by decide +kernel
theorem dX5_order_78 : decode cX5_order 78 = .ok (.iload_n 2, 1) := by decide +kernel
theorem dX5_order_79 : decode cX5_order 79 = .ok (.dup2, 1) := by decide +kernel
theorem dX5_order_80 : decode cX5_order 80 = .ok (.iaload, 1) := by decide +kernel
theorem dX5_order_81 : decode cX5_order 81 = .ok (.iconst 3, 1) := by decide +kernel
theorem dX5_order_82 : decode cX5_order 82 = .ok (.isub, 1) := by decide +kernel
theorem dX5_order_83 : decode cX5_order 83 = .ok (.iastore, 1) := by decide +kernel
theorem dX5_order_84 : decode cX5_order 84 = .ok (.aload_n 0, 1) := by decide +kernel
theorem dX5_order_85 : decode cX5_order 85 = .ok (.getfield 55, 3) := by decide +kernel
theorem dX5_order_88 : decode cX5_order 88 = .ok (.istore 4, 2) := by decide +kernel
theorem dX5_order_90 : decode cX5_order 90 = .ok (.aload_n 0, 1) := by decide +kernel
theorem dX5_order_91 : decode cX5_order 91 = .ok (.getfield 32, 3) := by decide +kernel
theorem dX5_order_94 : decode cX5_order 94 = .ok (.iload 4, 2) := by decide +kernel
theorem dX5_order_96 : decode cX5_order 96 = .ok (.aaload, 1) := by decide +kernel
theorem dX5_order_97 : decode cX5_order 97 = .ok (.iload_n 1, 1) := by decide +kernel
theorem dX5_order_98 : decode cX5_order 98 = .ok (.iload_n 3, 1) := by decide +kernel
theorem dX5_order_99 : decode cX5_order 99 = .ok (.aload_n 0, 1) := by decide +kernel
theorem dX5_order_100 : decode cX5_order 100 = .ok (.getfield 58, 3) := by decide +kernel
theorem dX5_order_103 : decode cX5_order 103 = .ok (.iconst 2, 1) := by decide +kernel
theorem dX5_order_104 : decode cX5_order 104 = .ok (.iload_n 3, 1) := by decide +kernel
theorem dX5_order_105 : decode cX5_order 105 = .ok (.imul, 1) := by decide +kernel
theorem dX5_order_106 : decode cX5_order 106 = .ok (.iadd, 1) := by decide +kernel
theorem dX5_order_107 : decode cX5_order 107 = .ok (.invokevirtual 172, 3) := by decide +kernel
theorem dX5_order_110 : decode cX5_order 110 = .ok (.aload_n 0, 1) := by decide +kernel
theorem dX5_order_111 : decode cX5_order 111 = .ok (.dup, 1) := by decide +kernel
theorem dX5_order_112 : decode cX5_order 112 = .ok (.getfield 55, 3) := by decide +kernel
theorem dX5_order_115 : decode cX5_order 115 = .ok (.iconst 1, 1) := by decide +kernel
theorem dX5_order_116 : decode cX5_order 116 = .ok (.iadd, 1) := by decide +kernel
theorem dX5_order_117 : decode cX5_order 117 = .ok (.putfield 55, 3) := by decide +kernel
theorem dX5_order_120 : decode cX5_order 120 = .ok (.iload 4, 2) := by decide +kernel
theorem dX5_order_122 : decode cX5_order 122 = .ok (.ireturn, 1) := by decide +kernel
theorem dX5_ready_0 : decode cX5_ready 0 = .ok (.aload_n 0, 1) := by decide +kernel
theorem dX5_ready_1 : decode cX5_ready 1 = .ok (.iload_n 1, 1) := by decide +kernel
theorem dX5_ready_2 : decode cX5_ready 2 = .ok (.invokevirtual 175, 3) := by decide +kernel
theorem dX5_ready_5 : decode cX5_ready 5 = .ok (.aload_n 0, 1) := by decide +kernel
theorem dX5_ready_6 : decode cX5_ready 6 = .ok (.getfield 32, 3) := by decide +kernel
theorem dX5_ready_9 : decode cX5_ready 9 = .ok (.iload_n 1, 1) := by decide +kernel
theorem dX5_ready_10 : decode cX5_ready 10 = .ok (.aaload, 1) := by decide +kernel
theorem dX5_ready_11 : decode cX5_ready 11 = .ok (.getfield 178, 3) := by decide +kernel
theorem dX5_ready_14 : decode cX5_ready 14 = .ok (.ireturn, 1) := by decide +kernel
theorem dX5_fetch_0 : decode cX5_fetch 0 = .ok (.aload_n 0, 1) := by decide +kernel
theorem dX5_fetch_1 : decode cX5_fetch 1 = .ok (.iload_n 1, 1) := by decide +kernel
theorem dX5_fetch_2 : decode cX5_fetch 2 = .ok (.invokevirtual 175, 3) := by decide +kernel
theorem dX5_fetch_5 : decode cX5_fetch 5 = .ok (.iload_n 2, 1) := by decide +kernel
theorem dX5_fetch_6 : decode cX5_fetch 6 = .ok (.iconst 0, 1) := by decide +kernel
theorem dX5_fetch_7 : decode cX5_fetch 7 = .ok (.bipush 60, 2) := by decide +kernel
theorem dX5_fetch_9 : decode cX5_fetch 9 = .ok (.invokestatic 72, 3) := by decide +kernel
theorem dX5_fetch_12 : decode cX5_fetch 12 = .ok (.iload_n 3, 1) := by decide +kernel
theorem dX5_fetch_13 : decode cX5_fetch 13 = .ok (.iconst 0, 1) := by decide +kernel
theorem dX5_fetch_14 : decode cX5_fetch 14 = .ok (.bipush 60, 2) := by decide +kernel
theorem dX5_fetch_16 : decode cX5_fetch 16 = .ok (.invokestatic 72, 3) := by decide +kernel
theorem dX5_fetch_19 : decode cX5_fetch 19 = .ok (.iload 4, 2) := by decide +kernel
theorem dX5_fetch_21 : decode cX5_fetch 21 = .ok (.iconst 0, 1) := by decide +kernel
theorem dX5_fetch_22 : decode cX5_fetch 22 = .ok (.bipush 60, 2) := by decide +kernel
theorem dX5_fetch_24 : decode cX5_fetch 24 = .ok (.invokestatic 72, 3) := by decide +kernel
theorem dX5_fetch_27 : decode cX5_fetch 27 = .ok (.iload 5, 2) := by decide +kernel
theorem dX5_fetch_29 : decode cX5_fetch 29 = .ok (.iconst 0, 1) := by decide +kernel
theorem dX5_fetch_30 : decode cX5_fetch 30 = .ok (.bipush 60, 2) := by decide +kernel
theorem dX5_fetch_32 : decode cX5_fetch 32 = .ok (.invokestatic 72, 3) := by decide +kernel
theorem dX5_fetch_35 : decode cX5_fetch 35 = .ok (.aload_n 0, 1) := by decide +kernel
theorem dX5_fetch_36 : decode cX5_fetch 36 = .ok (.getfield 32, 3) := by decide +kernel
theorem dX5_fetch_39 : decode cX5_fetch 39 = .ok (.iload_n 1, 1) := by decide +kernel
theorem dX5_fetch_40 : decode cX5_fetch 40 = .ok (.aaload, 1) := by decide +kernel
theorem dX5_fetch_41 : decode cX5_fetch 41 = .ok (.astore 6, 2) := by decide +kernel
theorem dX5_fetch_43 : decode cX5_fetch 43 = .ok (.aload 6, 2) := by decide +kernel
theorem dX5_fetch_45 : decode cX5_fetch 45 = .ok (.aload_n 0, 1) := by decide +kernel
theorem dX5_fetch_46 : decode cX5_fetch 46 = .ok (.getfield 58, 3) := by decide +kernel
theorem dX5_fetch_49 : decode cX5_fetch 49 = .ok (.invokevirtual 181, 3) := by decide +kernel
theorem dX5_fetch_52 : decode cX5_fetch 52 = .ok (.ifCond .ne 13, 3) := by decide +kernel
theorem dX5_fetch_55 : decode cX5_fetch 55 = .ok (.new 61, 3) := by decide +kernel
theorem dX5_fetch_58 : decode cX5_fetch 58 = .ok (.dup, 1) := by decide +kernel
theorem dX5_fetch_59 : decode cX5_fetch 59 = .ok (.ldc 184, 2) := by decide +kernel
theorem dX5_fetch_61 : decode cX5_fetch 61 = .ok (.invokespecial 65, 3) := by decide +kernel
theorem dX5_fetch_64 : decode cX5_fetch 64 = .ok (.athrow, 1) := by decide +kernel
theorem dX5_fetch_65 : decode cX5_fetch 65 = .ok (.aload 6, 2) := by decide +kernel
theorem dX5_fetch_67 : decode cX5_fetch 67 = .ok (.getfield 186, 3) := by decide +kernel
theorem dX5_fetch_70 : decode cX5_fetch 70 = .ok (.ifCond .eq 13, 3) := by decide +kernel
theorem dX5_fetch_73 : decode cX5_fetch 73 = .ok (.new 61, 3) := by decide +kernel
theorem dX5_fetch_76 : decode cX5_fetch 76 = .ok (.dup, 1) := by decide +kernel
theorem dX5_fetch_77 : decode cX5_fetch 77 = .ok (.ldc 190, 2) := by decide +kernel
theorem dX5_fetch_79 : decode cX5_fetch 79 = .ok (.invokespecial 65, 3) := by decide +kernel
theorem dX5_fetch_82 : decode cX5_fetch 82 = .ok (.athrow, 1) := by decide +kernel
theorem dX5_fetch_83 : decode cX5_fetch 83 = .ok (.aload_n 0, 1) := by decide +kernel
theorem dX5_fetch_84 : decode cX5_fetch 84 = .ok (.getfield 52, 3) := by decide +kernel
theorem dX5_fetch_87 : decode cX5_fetch 87 = .ok (.bipush 8, 2) := by decide +kernel
theorem dX5_fetch_89 : decode cX5_fetch 89 = .ok (.if_icmp .lt 13, 3) := by decide +kernel
theorem dX5_fetch_92 : decode cX5_fetch 92 = .ok (.new 61, 3) := by decide +kernel
theorem dX5_fetch_95 : decode cX5_fetch 95 = .ok (.dup, 1) := by decide +kernel
theorem dX5_fetch_96 : decode cX5_fetch 96 = .ok (.ldc 192, 2) := by decide +kernel
theorem dX5_fetch_98 : decode cX5_fetch 98 = .ok (.invokespecial 65, 3) := by decide +kernel
theorem dX5_fetch_101 : decode cX5_fetch 101 = .ok (.athrow, 1) := by decide +kernel
theorem dX5_fetch_102 : decode cX5_fetch 102 = .ok (.aload 6, 2) := by decide +kernel
theorem dX5_fetch_104 : decode cX5_fetch 104 = .ok (.iconst 1, 1) := by decide +kernel
theorem dX5_fetch_105 : decode cX5_fetch 105 = .ok (.putfield 186, 3) := by decide +kernel
theorem dX5_fetch_108 : decode cX5_fetch 108 = .ok (.aload_n 0, 1) := by decide +kernel
theorem dX5_fetch_109 : decode cX5_fetch 109 = .ok (.getfield 52, 3) := by decide +kernel
theorem dX5_fetch_112 : decode cX5_fetch 112 = .ok (.istore 7, 2) := by decide +kernel
theorem dX5_fetch_114 : decode cX5_fetch 114 = .ok (.aload_n 0, 1) := by decide +kernel
theorem dX5_fetch_115 : decode cX5_fetch 115 = .ok (.getfield 18, 3) := by decide +kernel
theorem dX5_fetch_118 : decode cX5_fetch 118 = .ok (.iload 7, 2) := by decide +kernel
theorem dX5_fetch_120 : decode cX5_fetch 120 = .ok (.aaload, 1) := by decide +kernel
theorem dX5_fetch_121 : decode cX5_fetch 121 = .ok (.aload 6, 2) := by decide +kernel
theorem dX5_fetch_123 : decode cX5_fetch 123 = .ok (.getfield 194, 3) := by decide +kernel
theorem dX5_fetch_126 : decode cX5_fetch 126 = .ok (.aload 6, 2) := by decide +kernel
theorem dX5_fetch_128 : decode cX5_fetch 128 = .ok (.getfield 197, 3) := by decide +kernel
theorem dX5_fetch_131 : decode cX5_fetch 131 = .ok (.invokevirtual 200, 3) := by decide +kernel
theorem dX5_fetch_134 : decode cX5_fetch 134 = .ok (.aload_n 0, 1) := by decide +kernel
theorem dX5_fetch_135 : decode cX5_fetch 135 = .ok (.getfield 18, 3) := by decide +kernel
theorem dX5_fetch_138 : decode cX5_fetch 138 = .ok (.iload 7, 2) := by decide +kernel
theorem dX5_fetch_140 : decode cX5_fetch 140 = .ok (.aaload, 1) := by decide +kernel
theorem dX5_fetch_141 : decode cX5_fetch 141 = .ok (.iload_n 2, 1) := by decide +kernel
theorem dX5_fetch_142 : decode cX5_fetch 142 = .ok (.iload_n 3, 1) := by decide +kernel
theorem dX5_fetch_143 : decode cX5_fetch 143 = .ok (.iload 4, 2) := by decide +kernel
theorem dX5_fetch_145 : decode cX5_fetch 145 = .ok (.iload 5, 2) := by decide +kernel
theorem dX5_fetch_147 : decode cX5_fetch 147 = .ok (.invokevirtual 203, 3) := by decide +kernel
theorem dX5_fetch_150 : decode cX5_fetch 150 = .ok (.aload_n 0, 1) := by decide +kernel
theorem dX5_fetch_151 : decode cX5_fetch 151 = .ok (.dup, 1) := by decide +kernel
theorem dX5_fetch_152 : decode cX5_fetch 152 = .ok (.getfield 52, 3) := by decide +kernel
theorem dX5_fetch_155 : decode cX5_fetch 155 = .ok (.iconst 1, 1) := by decide +kernel
theorem dX5_fetch_156 : decode cX5_fetch 156 = .ok (.iadd, 1) := by decide +kernel
theorem dX5_fetch_157 : decode cX5_fetch 157 = .ok (.putfield 52, 3) := by decide +kernel
theorem dX5_fetch_160 : decode cX5_fetch 160 = .ok (.iload 7, 2) := by decide +kernel
theorem dX5_fetch_162 : decode cX5_fetch 162 = .ok (.ireturn, 1) := by decide +kernel
theorem dX5_pass_0 : decode cX5_pass 0 = .ok (.iload_n 1, 1) := by decide +kernel
theorem dX5_pass_1 : decode cX5_pass 1 = .ok (.iconst 1, 1) := by decide +kernel
theorem dX5_pass_2 : decode cX5_pass 2 = .ok (.bipush 100, 2) := by decide +kernel
theorem dX5_pass_4 : decode cX5_pass 4 = .ok (.invokestatic 72, 3) := by decide +kernel
theorem dX5_pass_7 : decode cX5_pass 7 = .ok (.aload_n 0, 1) := by decide +kernel
theorem dX5_pass_8 : decode cX5_pass 8 = .ok (.getfield 58, 3) := by decide +kernel
theorem dX5_pass_11 : decode cX5_pass 11 = .ok (.iload_n 1, 1) := by decide +kernel
theorem dX5_pass_12 : decode cX5_pass 12 = .ok (.iadd, 1) := by decide +kernel
theorem dX5_pass_13 : decode cX5_pass 13 = .ok (.sipush 5000, 3) := by decide +kernel
theorem dX5_pass_16 : decode cX5_pass 16 = .ok (.if_icmp .le 13, 3) := by decide +kernel
theorem dX5_pass_19 : decode cX5_pass 19 = .ok (.new 61, 3) := by decide +kernel
theorem dX5_pass_22 : decode cX5_pass 22 = .ok (.dup, 1) := by decide +kernel
theorem dX5_pass_23 : decode cX5_pass 23 = .ok (.ldc 207, 2) := by decide +kernel
theorem dX5_pass_25 : decode cX5_pass 25 = .ok (.invokespecial 65, 3) := by decide +kernel
theorem dX5_pass_28 : decode cX5_pass 28 = .ok (.athrow, 1) := by decide +kernel
theorem dX5_pass_29 : decode cX5_pass 29 = .ok (.aload_n 0, 1) := by decide +kernel
theorem dX5_pass_30 : decode cX5_pass 30 = .ok (.dup, 1) := by decide +kernel
theorem dX5_pass_31 : decode cX5_pass 31 = .ok (.getfield 58, 3) := by decide +kernel
theorem dX5_pass_34 : decode cX5_pass 34 = .ok (.iload_n 1, 1) := by decide +kernel
theorem dX5_pass_35 : decode cX5_pass 35 = .ok (.iadd, 1) := by decide +kernel
theorem dX5_pass_36 : decode cX5_pass 36 = .ok (.putfield 58, 3) := by decide +kernel
theorem dX5_pass_39 : decode cX5_pass 39 = .ok (.aload_n 0, 1) := by decide +kernel
theorem dX5_pass_40 : decode cX5_pass 40 = .ok (.getfield 58, 3) := by decide +kernel
theorem dX5_pass_43 : decode cX5_pass 43 = .ok (.ireturn, 1) := by decide +kernel
theorem dX5_today_0 : decode cX5_today 0 = .ok (.aload_n 0, 1) := by decide +kernel
theorem dX5_today_1 : decode cX5_today 1 = .ok (.getfield 58, 3) := by decide +kernel
theorem dX5_today_4 : decode cX5_today 4 = .ok (.ireturn, 1) := by decide +kernel
theorem dX5_needPiece_0 : decode cX5_needPiece 0 = .ok (.iload_n 1, 1) := by decide +kernel
theorem dX5_needPiece_1 : decode cX5_needPiece 1 = .ok (.ifCond .lt 11, 3) := by decide +kernel
theorem dX5_needPiece_4 : decode cX5_needPiece 4 = .ok (.iload_n 1, 1) := by decide +kernel
theorem dX5_needPiece_5 : decode cX5_needPiece 5 = .ok (.aload_n 0, 1) := by decide +kernel
theorem dX5_needPiece_6 : decode cX5_needPiece 6 = .ok (.getfield 48, 3) := by decide +kernel
theorem dX5_needPiece_9 : decode cX5_needPiece 9 = .ok (.if_icmp .lt 13, 3) := by decide +kernel
theorem dX5_needPiece_12 : decode cX5_needPiece 12 = .ok (.new 209, 3) := by decide +kernel
theorem dX5_needPiece_15 : decode cX5_needPiece 15 = .ok (.dup, 1) := by decide +kernel
theorem dX5_needPiece_16 : decode cX5_needPiece 16 = .ok (.ldc 211, 2) := by decide +kernel
theorem dX5_needPiece_18 : decode cX5_needPiece 18 = .ok (.invokespecial 213, 3) := by decide +kernel
theorem dX5_needPiece_21 : decode cX5_needPiece 21 = .ok (.athrow, 1) := by decide +kernel
theorem dX5_needPiece_22 : decode cX5_needPiece 22 = .ok (.return_, 1) := by decide +kernel
theorem dX5_needNote_0 : decode cX5_needNote 0 = .ok (.aload_n 0, 1) := by decide +kernel
theorem dX5_needNote_1 : decode cX5_needNote 1 = .ok (.iload_n 1, 1) := by decide +kernel
theorem dX5_needNote_2 : decode cX5_needNote 2 = .ok (.invokevirtual 68, 3) := by decide +kernel
theorem dX5_needNote_5 : decode cX5_needNote 5 = .ok (.iload_n 2, 1) := by decide +kernel
theorem dX5_needNote_6 : decode cX5_needNote 6 = .ok (.ifCond .lt 16, 3) := by decide +kernel
theorem dX5_needNote_9 : decode cX5_needNote 9 = .ok (.iload_n 2, 1) := by decide +kernel
theorem dX5_needNote_10 : decode cX5_needNote 10 = .ok (.aload_n 0, 1) := by decide +kernel
theorem dX5_needNote_11 : decode cX5_needNote 11 = .ok (.getfield 11, 3) := by decide +kernel
theorem dX5_needNote_14 : decode cX5_needNote 14 = .ok (.iload_n 1, 1) := by decide +kernel
theorem dX5_needNote_15 : decode cX5_needNote 15 = .ok (.aaload, 1) := by decide +kernel
theorem dX5_needNote_16 : decode cX5_needNote 16 = .ok (.getfield 85, 3) := by decide +kernel
theorem dX5_needNote_19 : decode cX5_needNote 19 = .ok (.if_icmp .lt 13, 3) := by decide +kernel
theorem dX5_needNote_22 : decode cX5_needNote 22 = .ok (.new 209, 3) := by decide +kernel
theorem dX5_needNote_25 : decode cX5_needNote 25 = .ok (.dup, 1) := by decide +kernel
theorem dX5_needNote_26 : decode cX5_needNote 26 = .ok (.ldc 214, 2) := by decide +kernel
theorem dX5_needNote_28 : decode cX5_needNote 28 = .ok (.invokespecial 213, 3) := by decide +kernel
theorem dX5_needNote_31 : decode cX5_needNote 31 = .ok (.athrow, 1) := by decide +kernel
theorem dX5_needNote_32 : decode cX5_needNote 32 = .ok (.return_, 1) := by decide +kernel
theorem dX5_needInstrument_0 : decode cX5_needInstrument 0 = .ok (.iload_n 1, 1) := by decide +kernel
theorem dX5_needInstrument_1 : decode cX5_needInstrument 1 = .ok (.ifCond .lt 11, 3) := by decide +kernel
theorem dX5_needInstrument_4 : decode cX5_needInstrument 4 = .ok (.iload_n 1, 1) := by decide +kernel
theorem dX5_needInstrument_5 : decode cX5_needInstrument 5 = .ok (.aload_n 0, 1) := by decide +kernel
theorem dX5_needInstrument_6 : decode cX5_needInstrument 6 = .ok (.getfield 52, 3) := by decide +kernel
theorem dX5_needInstrument_9 : decode cX5_needInstrument 9 = .ok (.if_icmp .lt 13, 3) := by decide +kernel
theorem dX5_needInstrument_12 : decode cX5_needInstrument 12 = .ok (.new 209, 3) := by decide +kernel
theorem dX5_needInstrument_15 : decode cX5_needInstrument 15 = .ok (.dup, 1) := by decide +kernel
theorem dX5_needInstrument_16 : decode cX5_needInstrument 16 = .ok (.ldc 216, 2) := by decide +kernel
theorem dX5_needInstrument_18 : decode cX5_needInstrument 18 = .ok (.invokespecial 213, 3) := by decide +kernel
theorem dX5_needInstrument_21 : decode cX5_needInstrument 21 = .ok (.athrow, 1) := by decide +kernel
theorem dX5_needInstrument_22 : decode cX5_needInstrument 22 = .ok (.return_, 1) := by decide +kernel
theorem dX5_needOrder_0 : decode cX5_needOrder 0 = .ok (.iload_n 1, 1) := by decide +kernel
theorem dX5_needOrder_1 : decode cX5_needOrder 1 = .ok (.ifCond .lt 11, 3) := by decide +kernel
theorem dX5_needOrder_4 : decode cX5_needOrder 4 = .ok (.iload_n 1, 1) := by decide +kernel
theorem dX5_needOrder_5 : decode cX5_needOrder 5 = .ok (.aload_n 0, 1) := by decide +kernel
theorem dX5_needOrder_6 : decode cX5_needOrder 6 = .ok (.getfield 55, 3) := by decide +kernel
theorem dX5_needOrder_9 : decode cX5_needOrder 9 = .ok (.if_icmp .lt 13, 3) := by decide +kernel
theorem dX5_needOrder_12 : decode cX5_needOrder 12 = .ok (.new 209, 3) := by decide +kernel
theorem dX5_needOrder_15 : decode cX5_needOrder 15 = .ok (.dup, 1) := by decide +kernel
theorem dX5_needOrder_16 : decode cX5_needOrder 16 = .ok (.ldc 218, 2) := by decide +kernel
theorem dX5_needOrder_18 : decode cX5_needOrder 18 = .ok (.invokespecial 213, 3) := by decide +kernel
theorem dX5_needOrder_21 : decode cX5_needOrder 21 = .ok (.athrow, 1) := by decide +kernel
theorem dX5_needOrder_22 : decode cX5_needOrder 22 = .ok (.return_, 1) := by decide +kernel
theorem dX5_needPupil_0 : decode cX5_needPupil 0 = .ok (.iload_n 0, 1) := by decide +kernel
theorem dX5_needPupil_1 : decode cX5_needPupil 1 = .ok (.iconst 0, 1) := by decide +kernel
theorem dX5_needPupil_2 : decode cX5_needPupil 2 = .ok (.iconst 4, 1) := by decide +kernel
theorem dX5_needPupil_3 : decode cX5_needPupil 3 = .ok (.invokestatic 72, 3) := by decide +kernel
theorem dX5_needPupil_6 : decode cX5_needPupil 6 = .ok (.return_, 1) := by decide +kernel
theorem dX5_needRange_0 : decode cX5_needRange 0 = .ok (.iload_n 0, 1) := by decide +kernel
theorem dX5_needRange_1 : decode cX5_needRange 1 = .ok (.iload_n 1, 1) := by decide +kernel
theorem dX5_needRange_2 : decode cX5_needRange 2 = .ok (.if_icmp .lt 8, 3) := by decide +kernel
theorem dX5_needRange_5 : decode cX5_needRange 5 = .ok (.iload_n 0, 1) := by decide +kernel
theorem dX5_needRange_6 : decode cX5_needRange 6 = .ok (.iload_n 2, 1) := by decide +kernel
theorem dX5_needRange_7 : decode cX5_needRange 7 = .ok (.if_icmp .le 13, 3) := by decide +kernel
theorem dX5_needRange_10 : decode cX5_needRange 10 = .ok (.new 220, 3) := by decide +kernel
theorem dX5_needRange_13 : decode cX5_needRange 13 = .ok (.dup, 1) := by decide +kernel
theorem dX5_needRange_14 : decode cX5_needRange 14 = .ok (.ldc 222, 2) := by decide +kernel
theorem dX5_needRange_16 : decode cX5_needRange 16 = .ok (.invokespecial 224, 3) := by decide +kernel
theorem dX5_needRange_19 : decode cX5_needRange 19 = .ok (.athrow, 1) := by decide +kernel
theorem dX5_needRange_20 : decode cX5_needRange 20 = .ok (.return_, 1) := by decide +kernel
theorem dX5_findBest_0 : decode cX5_findBest 0 = .ok (.aload_n 0, 1) := by decide +kernel
theorem dX5_findBest_1 : decode cX5_findBest 1 = .ok (.iload_n 1, 1) := by decide +kernel
theorem dX5_findBest_2 : decode cX5_findBest 2 = .ok (.invokevirtual 68, 3) := by decide +kernel
theorem dX5_findBest_5 : decode cX5_findBest 5 = .ok (.aload_n 0, 1) := by decide +kernel
theorem dX5_findBest_6 : decode cX5_findBest 6 = .ok (.iload_n 2, 1) := by decide +kernel
theorem dX5_findBest_7 : decode cX5_findBest 7 = .ok (.invokevirtual 104, 3) := by decide +kernel
theorem dX5_findBest_10 : decode cX5_findBest 10 = .ok (.aload_n 0, 1) := by decide +kernel
theorem dX5_findBest_11 : decode cX5_findBest 11 = .ok (.getfield 44, 3) := by decide +kernel
theorem dX5_findBest_14 : decode cX5_findBest 14 = .ok (.aload_n 0, 1) := by decide +kernel
theorem dX5_findBest_15 : decode cX5_findBest 15 = .ok (.getfield 11, 3) := by decide +kernel
theorem dX5_findBest_18 : decode cX5_findBest 18 = .ok (.iload_n 1, 1) := by decide +kernel
theorem dX5_findBest_19 : decode cX5_findBest 19 = .ok (.aaload, 1) := by decide +kernel
theorem dX5_findBest_20 : decode cX5_findBest 20 = .ok (.aload_n 0, 1) := by decide +kernel
theorem dX5_findBest_21 : decode cX5_findBest 21 = .ok (.getfield 18, 3) := by decide +kernel
theorem dX5_findBest_24 : decode cX5_findBest 24 = .ok (.iload_n 2, 1) := by decide +kernel
theorem dX5_findBest_25 : decode cX5_findBest 25 = .ok (.aaload, 1) := by decide +kernel
theorem dX5_findBest_26 : decode cX5_findBest 26 = .ok (.invokevirtual 225, 3) := by decide +kernel
theorem dX5_findBest_29 : decode cX5_findBest 29 = .ok (.ireturn, 1) := by decide +kernel
theorem dX5_learnableShift_0 : decode cX5_learnableShift 0 = .ok (.aload_n 0, 1) := by decide +kernel
theorem dX5_learnableShift_1 : decode cX5_learnableShift 1 = .ok (.getfield 18, 3) := by decide +kernel
theorem dX5_learnableShift_4 : decode cX5_learnableShift 4 = .ok (.iload_n 3, 1) := by decide +kernel
theorem dX5_learnableShift_5 : decode cX5_learnableShift 5 = .ok (.aaload, 1) := by decide +kernel
theorem dX5_learnableShift_6 : decode cX5_learnableShift 6 = .ok (.astore 4, 2) := by decide +kernel
theorem dX5_learnableShift_8 : decode cX5_learnableShift 8 = .ok (.aload 4, 2) := by decide +kernel
theorem dX5_learnableShift_10 : decode cX5_learnableShift 10 = .ok (.getfield 110, 3) := by decide +kernel
theorem dX5_learnableShift_13 : decode cX5_learnableShift 13 = .ok (.iload_n 1, 1) := by decide +kernel
theorem dX5_learnableShift_14 : decode cX5_learnableShift 14 = .ok (.if_icmp .ne 21, 3) := by decide +kernel
theorem dX5_learnableShift_17 : decode cX5_learnableShift 17 = .ok (.aload_n 0, 1) := by decide +kernel
theorem dX5_learnableShift_18 : decode cX5_learnableShift 18 = .ok (.getfield 44, 3) := by decide +kernel
theorem dX5_learnableShift_21 : decode cX5_learnableShift 21 = .ok (.aload_n 0, 1) := by decide +kernel
theorem dX5_learnableShift_22 : decode cX5_learnableShift 22 = .ok (.getfield 11, 3) := by decide +kernel
theorem dX5_learnableShift_25 : decode cX5_learnableShift 25 = .ok (.iload_n 2, 1) := by decide +kernel
theorem dX5_learnableShift_26 : decode cX5_learnableShift 26 = .ok (.aaload, 1) := by decide +kernel
theorem dX5_learnableShift_27 : decode cX5_learnableShift 27 = .ok (.aload 4, 2) := by decide +kernel
theorem dX5_learnableShift_29 : decode cX5_learnableShift 29 = .ok (.invokevirtual 225, 3) := by decide +kernel
theorem dX5_learnableShift_32 : decode cX5_learnableShift 32 = .ok (.ifCond .ne 5, 3) := by decide +kernel
theorem dX5_learnableShift_35 : decode cX5_learnableShift 35 = .ok (.iconst (-1), 1) := by decide +kernel
theorem dX5_learnableShift_36 : decode cX5_learnableShift 36 = .ok (.ireturn, 1) := by decide +kernel
theorem dX5_learnableShift_37 : decode cX5_learnableShift 37 = .ok (.aload_n 0, 1) := by decide +kernel
theorem dX5_learnableShift_38 : decode cX5_learnableShift 38 = .ok (.getfield 44, 3) := by decide +kernel
theorem dX5_learnableShift_41 : decode cX5_learnableShift 41 = .ok (.getfield 126, 3) := by decide +kernel
theorem dX5_learnableShift_44 : decode cX5_learnableShift 44 = .ok (.aload_n 0, 1) := by decide +kernel
theorem dX5_learnableShift_45 : decode cX5_learnableShift 45 = .ok (.getfield 25, 3) := by decide +kernel
theorem dX5_learnableShift_48 : decode cX5_learnableShift 48 = .ok (.iload_n 1, 1) := by decide +kernel
theorem dX5_learnableShift_49 : decode cX5_learnableShift 49 = .ok (.aaload, 1) := by decide +kernel
theorem dX5_learnableShift_50 : decode cX5_learnableShift 50 = .ok (.getfield 153, 3) := by decide +kernel
theorem dX5_learnableShift_53 : decode cX5_learnableShift 53 = .ok (.if_icmp .gt 13, 3) := by decide +kernel
theorem dX5_learnableShift_56 : decode cX5_learnableShift 56 = .ok (.aload_n 0, 1) := by decide +kernel
theorem dX5_learnableShift_57 : decode cX5_learnableShift 57 = .ok (.getfield 44, 3) := by decide +kernel
theorem dX5_learnableShift_60 : decode cX5_learnableShift 60 = .ok (.getfield 126, 3) := by decide +kernel
theorem dX5_learnableShift_63 : decode cX5_learnableShift 63 = .ok (.goto 4, 3) := by decide +kernel
theorem dX5_learnableShift_66 : decode cX5_learnableShift 66 = .ok (.iconst (-1), 1) := by decide +kernel
theorem dX5_learnableShift_67 : decode cX5_learnableShift 67 = .ok (.ireturn, 1) := by decide +kernel
theorem dX5_easiestShift_0 : decode cX5_easiestShift 0 = .ok (.iconst (-1), 1) := by decide +kernel
theorem dX5_easiestShift_1 : decode cX5_easiestShift 1 = .ok (.istore_n 3, 1) := by decide +kernel
theorem dX5_easiestShift_2 : decode cX5_easiestShift 2 = .ok (.iconst 0, 1) := by decide +kernel
theorem dX5_easiestShift_3 : decode cX5_easiestShift 3 = .ok (.istore 4, 2) := by decide +kernel
theorem dX5_easiestShift_5 : decode cX5_easiestShift 5 = .ok (.iload 4, 2) := by decide +kernel
theorem dX5_easiestShift_7 : decode cX5_easiestShift 7 = .ok (.aload_n 0, 1) := by decide +kernel
theorem dX5_easiestShift_8 : decode cX5_easiestShift 8 = .ok (.getfield 52, 3) := by decide +kernel
theorem dX5_easiestShift_11 : decode cX5_easiestShift 11 = .ok (.if_icmp .ge 39, 3) := by decide +kernel
theorem dX5_easiestShift_14 : decode cX5_easiestShift 14 = .ok (.aload_n 0, 1) := by decide +kernel
theorem dX5_easiestShift_15 : decode cX5_easiestShift 15 = .ok (.iload_n 1, 1) := by decide +kernel
theorem dX5_easiestShift_16 : decode cX5_easiestShift 16 = .ok (.iload_n 2, 1) := by decide +kernel
theorem dX5_easiestShift_17 : decode cX5_easiestShift 17 = .ok (.iload 4, 2) := by decide +kernel
theorem dX5_easiestShift_19 : decode cX5_easiestShift 19 = .ok (.invokevirtual 144, 3) := by decide +kernel
theorem dX5_easiestShift_22 : decode cX5_easiestShift 22 = .ok (.istore 5, 2) := by decide +kernel
theorem dX5_easiestShift_24 : decode cX5_easiestShift 24 = .ok (.iload 5, 2) := by decide +kernel
theorem dX5_easiestShift_26 : decode cX5_easiestShift 26 = .ok (.iconst (-1), 1) := by decide +kernel
theorem dX5_easiestShift_27 : decode cX5_easiestShift 27 = .ok (.if_icmp .eq 17, 3) := by decide +kernel
theorem dX5_easiestShift_30 : decode cX5_easiestShift 30 = .ok (.iload_n 3, 1) := by decide +kernel
theorem dX5_easiestShift_31 : decode cX5_easiestShift 31 = .ok (.iconst (-1), 1) := by decide +kernel
theorem dX5_easiestShift_32 : decode cX5_easiestShift 32 = .ok (.if_icmp .eq 9, 3) := by decide +kernel
theorem dX5_easiestShift_35 : decode cX5_easiestShift 35 = .ok (.iload 5, 2) := by decide +kernel
theorem dX5_easiestShift_37 : decode cX5_easiestShift 37 = .ok (.iload_n 3, 1) := by decide +kernel
theorem dX5_easiestShift_38 : decode cX5_easiestShift 38 = .ok (.if_icmp .ge 6, 3) := by decide +kernel
theorem dX5_easiestShift_41 : decode cX5_easiestShift 41 = .ok (.iload 5, 2) := by decide +kernel
theorem dX5_easiestShift_43 : decode cX5_easiestShift 43 = .ok (.istore_n 3, 1) := by decide +kernel
theorem dX5_easiestShift_44 : decode cX5_easiestShift 44 = .ok (.iinc 4 1, 3) := by decide +kernel
theorem dX5_easiestShift_47 : decode cX5_easiestShift 47 = .ok (.goto (-42), 3) := by decide +kernel
theorem dX5_easiestShift_50 : decode cX5_easiestShift 50 = .ok (.iload_n 3, 1) := by decide +kernel
theorem dX5_easiestShift_51 : decode cX5_easiestShift 51 = .ok (.ireturn, 1) := by decide +kernel
theorem dX5_ordersAtWork_0 : decode cX5_ordersAtWork 0 = .ok (.iconst 0, 1) := by decide +kernel
theorem dX5_ordersAtWork_1 : decode cX5_ordersAtWork 1 = .ok (.istore_n 1, 1) := by decide +kernel
theorem dX5_ordersAtWork_2 : decode cX5_ordersAtWork 2 = .ok (.iconst 0, 1) := by decide +kernel
theorem dX5_ordersAtWork_3 : decode cX5_ordersAtWork 3 = .ok (.istore_n 2, 1) := by decide +kernel
theorem dX5_ordersAtWork_4 : decode cX5_ordersAtWork 4 = .ok (.iload_n 2, 1) := by decide +kernel
theorem dX5_ordersAtWork_5 : decode cX5_ordersAtWork 5 = .ok (.aload_n 0, 1) := by decide +kernel
theorem dX5_ordersAtWork_6 : decode cX5_ordersAtWork 6 = .ok (.getfield 55, 3) := by decide +kernel
theorem dX5_ordersAtWork_9 : decode cX5_ordersAtWork 9 = .ok (.if_icmp .ge 40, 3) := by decide +kernel
theorem dX5_ordersAtWork_12 : decode cX5_ordersAtWork 12 = .ok (.aload_n 0, 1) := by decide +kernel
theorem dX5_ordersAtWork_13 : decode cX5_ordersAtWork 13 = .ok (.getfield 32, 3) := by decide +kernel
theorem dX5_ordersAtWork_16 : decode cX5_ordersAtWork 16 = .ok (.iload_n 2, 1) := by decide +kernel
theorem dX5_ordersAtWork_17 : decode cX5_ordersAtWork 17 = .ok (.aaload, 1) := by decide +kernel
theorem dX5_ordersAtWork_18 : decode cX5_ordersAtWork 18 = .ok (.getfield 186, 3) := by decide +kernel
theorem dX5_ordersAtWork_21 : decode cX5_ordersAtWork 21 = .ok (.ifCond .ne 22, 3) := by decide +kernel
theorem dX5_ordersAtWork_24 : decode cX5_ordersAtWork 24 = .ok (.aload_n 0, 1) := by decide +kernel
theorem dX5_ordersAtWork_25 : decode cX5_ordersAtWork 25 = .ok (.getfield 32, 3) := by decide +kernel
theorem dX5_ordersAtWork_28 : decode cX5_ordersAtWork 28 = .ok (.iload_n 2, 1) := by decide +kernel
theorem dX5_ordersAtWork_29 : decode cX5_ordersAtWork 29 = .ok (.aaload, 1) := by decide +kernel
end
section
theorem dX5_ordersAtWork_30 : decode cX5_ordersAtWork 30 = .ok (.aload_n 0, 1) := by decide +kernel
theorem dX5_ordersAtWork_31 : decode cX5_ordersAtWork 31 = .ok (.getfield 58, 3) := by decide +kernel
theorem dX5_ordersAtWork_34 : decode cX5_ordersAtWork 34 = .ok (.invokevirtual 181, 3) := by decide +kernel
theorem dX5_ordersAtWork_37 : decode cX5_ordersAtWork 37 = .ok (.ifCond .ne 6, 3) := by decide +kernel
theorem dX5_ordersAtWork_40 : decode cX5_ordersAtWork 40 = .ok (.iinc 1 1, 3) := by decide +kernel
theorem dX5_ordersAtWork_43 : decode cX5_ordersAtWork 43 = .ok (.iinc 2 1, 3) := by decide +kernel
theorem dX5_ordersAtWork_46 : decode cX5_ordersAtWork 46 = .ok (.goto (-42), 3) := by decide +kernel
theorem dX5_ordersAtWork_49 : decode cX5_ordersAtWork 49 = .ok (.iload_n 1, 1) := by decide +kernel
theorem dX5_ordersAtWork_50 : decode cX5_ordersAtWork 50 = .ok (.ireturn, 1) := by decide +kernel
end
section
theorem dL_at_0 : decode cL_at 0 = .ok (.iload_n 1, 1) := by decide +kernel
theorem dL_at_1 : decode cL_at 1 = .ok (.aload_n 0, 1) := by decide +kernel
theorem dL_at_2 : decode cL_at 2 = .ok (.arraylength, 1) := by decide +kernel
theorem dL_at_3 : decode cL_at 3 = .ok (.if_icmp .ge 9, 3) := by decide +kernel
theorem dL_at_6 : decode cL_at 6 = .ok (.aload_n 0, 1) := by decide +kernel
theorem dL_at_7 : decode cL_at 7 = .ok (.iload_n 1, 1) := by decide +kernel
theorem dL_at_8 : decode cL_at 8 = .ok (.iaload, 1) := by decide +kernel
theorem dL_at_9 : decode cL_at 9 = .ok (.goto 12, 3) := by decide +kernel
theorem dL_at_12 : decode cL_at 12 = .ok (.ldc 7, 2) := by decide +kernel
theorem dL_at_14 : decode cL_at 14 = .ok (.iload_n 1, 1) := by decide +kernel
theorem dL_at_15 : decode cL_at 15 = .ok (.iconst 1, 1) := by decide +kernel
theorem dL_at_16 : decode cL_at 16 = .ok (.iadd, 1) := by decide +kernel
theorem dL_at_17 : decode cL_at 17 = .ok (.imul, 1) := by decide +kernel
theorem dL_at_18 : decode cL_at 18 = .ok (.ldc 8, 2) := by decide +kernel
theorem dL_at_20 : decode cL_at 20 = .ok (.iadd, 1) := by decide +kernel
theorem dL_at_21 : decode cL_at 21 = .ok (.ireturn, 1) := by decide +kernel
theorem dL_low_0 : decode cL_low 0 = .ok (.iload_n 0, 1) := by decide +kernel
theorem dL_low_1 : decode cL_low 1 = .ok (.ldc 9, 2) := by decide +kernel
theorem dL_low_3 : decode cL_low 3 = .ok (.iand, 1) := by decide +kernel
theorem dL_low_4 : decode cL_low 4 = .ok (.iload_n 1, 1) := by decide +kernel
theorem dL_low_5 : decode cL_low 5 = .ok (.irem, 1) := by decide +kernel
theorem dL_low_6 : decode cL_low 6 = .ok (.ireturn, 1) := by decide +kernel
theorem dL_begin_0 : decode cL_begin 0 = .ok (.aload_n 0, 1) := by decide +kernel
theorem dL_begin_1 : decode cL_begin 1 = .ok (.invokevirtual 10, 3) := by decide +kernel
theorem dL_begin_4 : decode cL_begin 4 = .ok (.ireturn, 1) := by decide +kernel
theorem dL_begin_5 : decode cL_begin 5 = .ok (.astore_n 1, 1) := by decide +kernel
theorem dL_begin_6 : decode cL_begin 6 = .ok (.ldc 18, 2) := by decide +kernel
theorem dL_begin_8 : decode cL_begin 8 = .ok (.ireturn, 1) := by decide +kernel
theorem dL_addNote_0 : decode cL_addNote 0 = .ok (.aload_n 0, 1) := by decide +kernel
theorem dL_addNote_1 : decode cL_addNote 1 = .ok (.iload_n 1, 1) := by decide +kernel
theorem dL_addNote_2 : decode cL_addNote 2 = .ok (.iload_n 2, 1) := by decide +kernel
theorem dL_addNote_3 : decode cL_addNote 3 = .ok (.invokevirtual 19, 3) := by decide +kernel
theorem dL_addNote_6 : decode cL_addNote 6 = .ok (.ireturn, 1) := by decide +kernel
theorem dL_addNote_7 : decode cL_addNote 7 = .ok (.astore_n 3, 1) := by decide +kernel
theorem dL_addNote_8 : decode cL_addNote 8 = .ok (.ldc 25, 2) := by decide +kernel
theorem dL_addNote_10 : decode cL_addNote 10 = .ok (.ireturn, 1) := by decide +kernel
theorem dL_addNote_11 : decode cL_addNote 11 = .ok (.astore_n 3, 1) := by decide +kernel
theorem dL_addNote_12 : decode cL_addNote 12 = .ok (.ldc 28, 2) := by decide +kernel
theorem dL_addNote_14 : decode cL_addNote 14 = .ok (.ireturn, 1) := by decide +kernel
theorem dL_addNote_15 : decode cL_addNote 15 = .ok (.astore_n 3, 1) := by decide +kernel
theorem dL_addNote_16 : decode cL_addNote 16 = .ok (.ldc 18, 2) := by decide +kernel
theorem dL_addNote_18 : decode cL_addNote 18 = .ok (.ireturn, 1) := by decide +kernel
theorem dL_transpose_0 : decode cL_transpose 0 = .ok (.aload_n 0, 1) := by decide +kernel
theorem dL_transpose_1 : decode cL_transpose 1 = .ok (.iload_n 1, 1) := by decide +kernel
theorem dL_transpose_2 : decode cL_transpose 2 = .ok (.iload_n 2, 1) := by decide +kernel
theorem dL_transpose_3 : decode cL_transpose 3 = .ok (.invokevirtual 29, 3) := by decide +kernel
theorem dL_transpose_6 : decode cL_transpose 6 = .ok (.iconst 0, 1) := by decide +kernel
theorem dL_transpose_7 : decode cL_transpose 7 = .ok (.ireturn, 1) := by decide +kernel
theorem dL_transpose_8 : decode cL_transpose 8 = .ok (.astore_n 3, 1) := by decide +kernel
theorem dL_transpose_9 : decode cL_transpose 9 = .ok (.ldc 25, 2) := by decide +kernel
theorem dL_transpose_11 : decode cL_transpose 11 = .ok (.ireturn, 1) := by decide +kernel
theorem dL_transpose_12 : decode cL_transpose 12 = .ok (.astore_n 3, 1) := by decide +kernel
theorem dL_transpose_13 : decode cL_transpose 13 = .ok (.ldc 28, 2) := by decide +kernel
theorem dL_transpose_15 : decode cL_transpose 15 = .ok (.ireturn, 1) := by decide +kernel
theorem dL_transpose_16 : decode cL_transpose 16 = .ok (.astore_n 3, 1) := by decide +kernel
theorem dL_transpose_17 : decode cL_transpose 17 = .ok (.ldc 18, 2) := by decide +kernel
theorem dL_transpose_19 : decode cL_transpose 19 = .ok (.ireturn, 1) := by decide +kernel
theorem dL_pitch_0 : decode cL_pitch 0 = .ok (.aload_n 0, 1) := by decide +kernel
theorem dL_pitch_1 : decode cL_pitch 1 = .ok (.iload_n 1, 1) := by decide +kernel
theorem dL_pitch_2 : decode cL_pitch 2 = .ok (.iload_n 2, 1) := by decide +kernel
theorem dL_pitch_3 : decode cL_pitch 3 = .ok (.invokevirtual 33, 3) := by decide +kernel
theorem dL_pitch_6 : decode cL_pitch 6 = .ok (.ireturn, 1) := by decide +kernel
theorem dL_pitch_7 : decode cL_pitch 7 = .ok (.astore_n 3, 1) := by decide +kernel
theorem dL_pitch_8 : decode cL_pitch 8 = .ok (.ldc 25, 2) := by decide +kernel
theorem dL_pitch_10 : decode cL_pitch 10 = .ok (.ireturn, 1) := by decide +kernel
theorem dL_tune_0 : decode cL_tune 0 = .ok (.aload_n 0, 1) := by decide +kernel
theorem dL_tune_1 : decode cL_tune 1 = .ok (.iload_n 1, 1) := by decide +kernel
theorem dL_tune_2 : decode cL_tune 2 = .ok (.iload_n 2, 1) := by decide +kernel
theorem dL_tune_3 : decode cL_tune 3 = .ok (.iload_n 3, 1) := by decide +kernel
theorem dL_tune_4 : decode cL_tune 4 = .ok (.invokevirtual 36, 3) := by decide +kernel
theorem dL_tune_7 : decode cL_tune 7 = .ok (.ireturn, 1) := by decide +kernel
theorem dL_tune_8 : decode cL_tune 8 = .ok (.astore 4, 2) := by decide +kernel
theorem dL_tune_10 : decode cL_tune 10 = .ok (.ldc 25, 2) := by decide +kernel
theorem dL_tune_12 : decode cL_tune 12 = .ok (.ireturn, 1) := by decide +kernel
theorem dL_tune_13 : decode cL_tune 13 = .ok (.astore 4, 2) := by decide +kernel
theorem dL_tune_15 : decode cL_tune 15 = .ok (.ldc 28, 2) := by decide +kernel
theorem dL_tune_17 : decode cL_tune 17 = .ok (.ireturn, 1) := by decide +kernel
theorem dL_owner_0 : decode cL_owner 0 = .ok (.aload_n 0, 1) := by decide +kernel
theorem dL_owner_1 : decode cL_owner 1 = .ok (.iload_n 1, 1) := by decide +kernel
theorem dL_owner_2 : decode cL_owner 2 = .ok (.invokevirtual 40, 3) := by decide +kernel
theorem dL_owner_5 : decode cL_owner 5 = .ok (.ireturn, 1) := by decide +kernel
theorem dL_owner_6 : decode cL_owner 6 = .ok (.astore_n 2, 1) := by decide +kernel
theorem dL_owner_7 : decode cL_owner 7 = .ok (.ldc 25, 2) := by decide +kernel
theorem dL_owner_9 : decode cL_owner 9 = .ok (.ireturn, 1) := by decide +kernel
theorem dL_shifts_0 : decode cL_shifts 0 = .ok (.aload_n 0, 1) := by decide +kernel
theorem dL_shifts_1 : decode cL_shifts 1 = .ok (.iload_n 1, 1) := by decide +kernel
theorem dL_shifts_2 : decode cL_shifts 2 = .ok (.iload_n 2, 1) := by decide +kernel
theorem dL_shifts_3 : decode cL_shifts 3 = .ok (.invokevirtual 44, 3) := by decide +kernel
theorem dL_shifts_6 : decode cL_shifts 6 = .ok (.ireturn, 1) := by decide +kernel
theorem dL_shifts_7 : decode cL_shifts 7 = .ok (.astore_n 3, 1) := by decide +kernel
theorem dL_shifts_8 : decode cL_shifts 8 = .ok (.ldc 25, 2) := by decide +kernel
theorem dL_shifts_10 : decode cL_shifts 10 = .ok (.ireturn, 1) := by decide +kernel
theorem dL_shiftsByAll_0 : decode cL_shiftsByAll 0 = .ok (.aload_n 0, 1) := by decide +kernel
theorem dL_shiftsByAll_1 : decode cL_shiftsByAll 1 = .ok (.iload_n 1, 1) := by decide +kernel
theorem dL_shiftsByAll_2 : decode cL_shiftsByAll 2 = .ok (.iload_n 2, 1) := by decide +kernel
theorem dL_shiftsByAll_3 : decode cL_shiftsByAll 3 = .ok (.invokevirtual 47, 3) := by decide +kernel
theorem dL_shiftsByAll_6 : decode cL_shiftsByAll 6 = .ok (.ireturn, 1) := by decide +kernel
theorem dL_shiftsByAll_7 : decode cL_shiftsByAll 7 = .ok (.astore_n 3, 1) := by decide +kernel
theorem dL_shiftsByAll_8 : decode cL_shiftsByAll 8 = .ok (.ldc 25, 2) := by decide +kernel
theorem dL_shiftsByAll_10 : decode cL_shiftsByAll 10 = .ok (.ireturn, 1) := by decide +kernel
theorem dL_shiftsByAll_11 : decode cL_shiftsByAll 11 = .ok (.astore_n 3, 1) := by decide +kernel
theorem dL_shiftsByAll_12 : decode cL_shiftsByAll 12 = .ok (.ldc 18, 2) := by decide +kernel
theorem dL_shiftsByAll_14 : decode cL_shiftsByAll 14 = .ok (.ireturn, 1) := by decide +kernel
theorem dL_hardest_0 : decode cL_hardest 0 = .ok (.aload_n 0, 1) := by decide +kernel
theorem dL_hardest_1 : decode cL_hardest 1 = .ok (.iload_n 1, 1) := by decide +kernel
theorem dL_hardest_2 : decode cL_hardest 2 = .ok (.iload_n 2, 1) := by decide +kernel
theorem dL_hardest_3 : decode cL_hardest 3 = .ok (.invokevirtual 50, 3) := by decide +kernel
theorem dL_hardest_6 : decode cL_hardest 6 = .ok (.ireturn, 1) := by decide +kernel
theorem dL_hardest_7 : decode cL_hardest 7 = .ok (.astore_n 3, 1) := by decide +kernel
theorem dL_hardest_8 : decode cL_hardest 8 = .ok (.ldc 25, 2) := by decide +kernel
theorem dL_hardest_10 : decode cL_hardest 10 = .ok (.ireturn, 1) := by decide +kernel
theorem dL_position_0 : decode cL_position 0 = .ok (.aload_n 0, 1) := by decide +kernel
theorem dL_position_1 : decode cL_position 1 = .ok (.iload_n 1, 1) := by decide +kernel
theorem dL_position_2 : decode cL_position 2 = .ok (.iload_n 2, 1) := by decide +kernel
theorem dL_position_3 : decode cL_position 3 = .ok (.iload_n 3, 1) := by decide +kernel
theorem dL_position_4 : decode cL_position 4 = .ok (.invokevirtual 53, 3) := by decide +kernel
theorem dL_position_7 : decode cL_position 7 = .ok (.ireturn, 1) := by decide +kernel
theorem dL_position_8 : decode cL_position 8 = .ok (.astore 4, 2) := by decide +kernel
theorem dL_position_10 : decode cL_position 10 = .ok (.ldc 25, 2) := by decide +kernel
theorem dL_position_12 : decode cL_position 12 = .ok (.ireturn, 1) := by decide +kernel
theorem dL_string_0 : decode cL_string 0 = .ok (.aload_n 0, 1) := by decide +kernel
theorem dL_string_1 : decode cL_string 1 = .ok (.iload_n 1, 1) := by decide +kernel
theorem dL_string_2 : decode cL_string 2 = .ok (.iload_n 2, 1) := by decide +kernel
theorem dL_string_3 : decode cL_string 3 = .ok (.iload_n 3, 1) := by decide +kernel
theorem dL_string_4 : decode cL_string 4 = .ok (.invokevirtual 56, 3) := by decide +kernel
theorem dL_string_7 : decode cL_string 7 = .ok (.ireturn, 1) := by decide +kernel
theorem dL_string_8 : decode cL_string 8 = .ok (.astore 4, 2) := by decide +kernel
theorem dL_string_10 : decode cL_string 10 = .ok (.ldc 25, 2) := by decide +kernel
theorem dL_string_12 : decode cL_string 12 = .ok (.ireturn, 1) := by decide +kernel
theorem dL_learn_0 : decode cL_learn 0 = .ok (.aload_n 0, 1) := by decide +kernel
theorem dL_learn_1 : decode cL_learn 1 = .ok (.iload_n 1, 1) := by decide +kernel
theorem dL_learn_2 : decode cL_learn 2 = .ok (.iload_n 2, 1) := by decide +kernel
theorem dL_learn_3 : decode cL_learn 3 = .ok (.iload_n 3, 1) := by decide +kernel
theorem dL_learn_4 : decode cL_learn 4 = .ok (.invokevirtual 59, 3) := by decide +kernel
theorem dL_learn_7 : decode cL_learn 7 = .ok (.ireturn, 1) := by decide +kernel
theorem dL_learn_8 : decode cL_learn 8 = .ok (.astore 4, 2) := by decide +kernel
theorem dL_learn_10 : decode cL_learn 10 = .ok (.ldc 25, 2) := by decide +kernel
theorem dL_learn_12 : decode cL_learn 12 = .ok (.ireturn, 1) := by decide +kernel
theorem dL_learn_13 : decode cL_learn 13 = .ok (.astore 4, 2) := by decide +kernel
theorem dL_learn_15 : decode cL_learn 15 = .ok (.ldc 28, 2) := by decide +kernel
theorem dL_learn_17 : decode cL_learn 17 = .ok (.ireturn, 1) := by decide +kernel
theorem dL_learn_18 : decode cL_learn 18 = .ok (.astore 4, 2) := by decide +kernel
theorem dL_learn_20 : decode cL_learn 20 = .ok (.ldc 18, 2) := by decide +kernel
theorem dL_learn_22 : decode cL_learn 22 = .ok (.ireturn, 1) := by decide +kernel
theorem dL_level_0 : decode cL_level 0 = .ok (.aload_n 0, 1) := by decide +kernel
theorem dL_level_1 : decode cL_level 1 = .ok (.iload_n 1, 1) := by decide +kernel
theorem dL_level_2 : decode cL_level 2 = .ok (.invokevirtual 62, 3) := by decide +kernel
theorem dL_level_5 : decode cL_level 5 = .ok (.ireturn, 1) := by decide +kernel
theorem dL_level_6 : decode cL_level 6 = .ok (.astore_n 2, 1) := by decide +kernel
theorem dL_level_7 : decode cL_level 7 = .ok (.ldc 28, 2) := by decide +kernel
theorem dL_level_9 : decode cL_level 9 = .ok (.ireturn, 1) := by decide +kernel
theorem dL_known_0 : decode cL_known 0 = .ok (.aload_n 0, 1) := by decide +kernel
theorem dL_known_1 : decode cL_known 1 = .ok (.iload_n 1, 1) := by decide +kernel
theorem dL_known_2 : decode cL_known 2 = .ok (.invokevirtual 65, 3) := by decide +kernel
theorem dL_known_5 : decode cL_known 5 = .ok (.ireturn, 1) := by decide +kernel
theorem dL_known_6 : decode cL_known 6 = .ok (.astore_n 2, 1) := by decide +kernel
theorem dL_known_7 : decode cL_known 7 = .ok (.ldc 28, 2) := by decide +kernel
theorem dL_known_9 : decode cL_known 9 = .ok (.ireturn, 1) := by decide +kernel
theorem dL_next_0 : decode cL_next 0 = .ok (.aload_n 0, 1) := by decide +kernel
theorem dL_next_1 : decode cL_next 1 = .ok (.iload_n 1, 1) := by decide +kernel
theorem dL_next_2 : decode cL_next 2 = .ok (.invokevirtual 68, 3) := by decide +kernel
theorem dL_next_5 : decode cL_next 5 = .ok (.ireturn, 1) := by decide +kernel
theorem dL_next_6 : decode cL_next 6 = .ok (.astore_n 2, 1) := by decide +kernel
theorem dL_next_7 : decode cL_next 7 = .ok (.ldc 28, 2) := by decide +kernel
theorem dL_next_9 : decode cL_next 9 = .ok (.ireturn, 1) := by decide +kernel
theorem dL_addWood_0 : decode cL_addWood 0 = .ok (.aload_n 0, 1) := by decide +kernel
theorem dL_addWood_1 : decode cL_addWood 1 = .ok (.iload_n 1, 1) := by decide +kernel
theorem dL_addWood_2 : decode cL_addWood 2 = .ok (.iload_n 2, 1) := by decide +kernel
theorem dL_addWood_3 : decode cL_addWood 3 = .ok (.invokevirtual 71, 3) := by decide +kernel
theorem dL_addWood_6 : decode cL_addWood 6 = .ok (.ireturn, 1) := by decide +kernel
theorem dL_addWood_7 : decode cL_addWood 7 = .ok (.astore_n 3, 1) := by decide +kernel
theorem dL_addWood_8 : decode cL_addWood 8 = .ok (.ldc 28, 2) := by decide +kernel
theorem dL_addWood_10 : decode cL_addWood 10 = .ok (.ireturn, 1) := by decide +kernel
theorem dL_order_0 : decode cL_order 0 = .ok (.aload_n 0, 1) := by decide +kernel
theorem dL_order_1 : decode cL_order 1 = .ok (.iload_n 1, 1) := by decide +kernel
theorem dL_order_2 : decode cL_order 2 = .ok (.iload_n 2, 1) := by decide +kernel
theorem dL_order_3 : decode cL_order 3 = .ok (.iload_n 3, 1) := by decide +kernel
theorem dL_order_4 : decode cL_order 4 = .ok (.invokevirtual 74, 3) := by decide +kernel
theorem dL_order_7 : decode cL_order 7 = .ok (.ireturn, 1) := by decide +kernel
theorem dL_order_8 : decode cL_order 8 = .ok (.astore 4, 2) := by decide +kernel
theorem dL_order_10 : decode cL_order 10 = .ok (.ldc 28, 2) := by decide +kernel
theorem dL_order_12 : decode cL_order 12 = .ok (.ireturn, 1) := by decide +kernel
theorem dL_order_13 : decode cL_order 13 = .ok (.astore 4, 2) := by decide +kernel
theorem dL_order_15 : decode cL_order 15 = .ok (.ldc 18, 2) := by decide +kernel
theorem dL_order_17 : decode cL_order 17 = .ok (.ireturn, 1) := by decide +kernel
theorem dL_ready_0 : decode cL_ready 0 = .ok (.aload_n 0, 1) := by decide +kernel
theorem dL_ready_1 : decode cL_ready 1 = .ok (.iload_n 1, 1) := by decide +kernel
theorem dL_ready_2 : decode cL_ready 2 = .ok (.invokevirtual 77, 3) := by decide +kernel
theorem dL_ready_5 : decode cL_ready 5 = .ok (.ireturn, 1) := by decide +kernel
theorem dL_ready_6 : decode cL_ready 6 = .ok (.astore_n 2, 1) := by decide +kernel
theorem dL_ready_7 : decode cL_ready 7 = .ok (.ldc 25, 2) := by decide +kernel
theorem dL_ready_9 : decode cL_ready 9 = .ok (.ireturn, 1) := by decide +kernel
theorem dL_fetch_0 : decode cL_fetch 0 = .ok (.aload_n 0, 1) := by decide +kernel
theorem dL_fetch_1 : decode cL_fetch 1 = .ok (.iload_n 1, 1) := by decide +kernel
theorem dL_fetch_2 : decode cL_fetch 2 = .ok (.iload_n 2, 1) := by decide +kernel
theorem dL_fetch_3 : decode cL_fetch 3 = .ok (.iload_n 3, 1) := by decide +kernel
theorem dL_fetch_4 : decode cL_fetch 4 = .ok (.iload 4, 2) := by decide +kernel
theorem dL_fetch_6 : decode cL_fetch 6 = .ok (.iload 5, 2) := by decide +kernel
theorem dL_fetch_8 : decode cL_fetch 8 = .ok (.invokevirtual 80, 3) := by decide +kernel
theorem dL_fetch_11 : decode cL_fetch 11 = .ok (.ireturn, 1) := by decide +kernel
theorem dL_fetch_12 : decode cL_fetch 12 = .ok (.astore 6, 2) := by decide +kernel
theorem dL_fetch_14 : decode cL_fetch 14 = .ok (.ldc 25, 2) := by decide +kernel
theorem dL_fetch_16 : decode cL_fetch 16 = .ok (.ireturn, 1) := by decide +kernel
theorem dL_fetch_17 : decode cL_fetch 17 = .ok (.astore 6, 2) := by decide +kernel
theorem dL_fetch_19 : decode cL_fetch 19 = .ok (.ldc 28, 2) := by decide +kernel
theorem dL_fetch_21 : decode cL_fetch 21 = .ok (.ireturn, 1) := by decide +kernel
theorem dL_fetch_22 : decode cL_fetch 22 = .ok (.astore 6, 2) := by decide +kernel
theorem dL_fetch_24 : decode cL_fetch 24 = .ok (.ldc 18, 2) := by decide +kernel
theorem dL_fetch_26 : decode cL_fetch 26 = .ok (.ireturn, 1) := by decide +kernel
theorem dL_pass_0 : decode cL_pass 0 = .ok (.aload_n 0, 1) := by decide +kernel
theorem dL_pass_1 : decode cL_pass 1 = .ok (.iload_n 1, 1) := by decide +kernel
theorem dL_pass_2 : decode cL_pass 2 = .ok (.invokevirtual 84, 3) := by decide +kernel
theorem dL_pass_5 : decode cL_pass 5 = .ok (.ireturn, 1) := by decide +kernel
theorem dL_pass_6 : decode cL_pass 6 = .ok (.astore_n 2, 1) := by decide +kernel
theorem dL_pass_7 : decode cL_pass 7 = .ok (.ldc 28, 2) := by decide +kernel
theorem dL_pass_9 : decode cL_pass 9 = .ok (.ireturn, 1) := by decide +kernel
theorem dL_pass_10 : decode cL_pass 10 = .ok (.astore_n 2, 1) := by decide +kernel
theorem dL_pass_11 : decode cL_pass 11 = .ok (.ldc 18, 2) := by decide +kernel
theorem dL_pass_13 : decode cL_pass 13 = .ok (.ireturn, 1) := by decide +kernel
theorem dL_apart_0 : decode cL_apart 0 = .ok (.iload_n 0, 1) := by decide +kernel
theorem dL_apart_1 : decode cL_apart 1 = .ok (.iload_n 1, 1) := by decide +kernel
theorem dL_apart_2 : decode cL_apart 2 = .ok (.if_icmp .ge 9, 3) := by decide +kernel
theorem dL_apart_5 : decode cL_apart 5 = .ok (.iload_n 1, 1) := by decide +kernel
theorem dL_apart_6 : decode cL_apart 6 = .ok (.iload_n 0, 1) := by decide +kernel
theorem dL_apart_7 : decode cL_apart 7 = .ok (.isub, 1) := by decide +kernel
theorem dL_apart_8 : decode cL_apart 8 = .ok (.goto 6, 3) := by decide +kernel
theorem dL_apart_11 : decode cL_apart 11 = .ok (.iload_n 0, 1) := by decide +kernel
theorem dL_apart_12 : decode cL_apart 12 = .ok (.iload_n 1, 1) := by decide +kernel
theorem dL_apart_13 : decode cL_apart 13 = .ok (.isub, 1) := by decide +kernel
theorem dL_apart_14 : decode cL_apart 14 = .ok (.ireturn, 1) := by decide +kernel
theorem dL_stringOf_0 : decode cL_stringOf 0 = .ok (.iconst 0, 1) := by decide +kernel
theorem dL_stringOf_1 : decode cL_stringOf 1 = .ok (.istore 5, 2) := by decide +kernel
theorem dL_stringOf_3 : decode cL_stringOf 3 = .ok (.iload 5, 2) := by decide +kernel
theorem dL_stringOf_5 : decode cL_stringOf 5 = .ok (.iconst 4, 1) := by decide +kernel
theorem dL_stringOf_6 : decode cL_stringOf 6 = .ok (.if_icmp .ge 56, 3) := by decide +kernel
theorem dL_stringOf_9 : decode cL_stringOf 9 = .ok (.iload_n 3, 1) := by decide +kernel
theorem dL_stringOf_10 : decode cL_stringOf 10 = .ok (.aload_n 0, 1) := by decide +kernel
theorem dL_stringOf_11 : decode cL_stringOf 11 = .ok (.iconst 4, 1) := by decide +kernel
theorem dL_stringOf_12 : decode cL_stringOf 12 = .ok (.iload_n 2, 1) := by decide +kernel
theorem dL_stringOf_13 : decode cL_stringOf 13 = .ok (.imul, 1) := by decide +kernel
theorem dL_stringOf_14 : decode cL_stringOf 14 = .ok (.iload 5, 2) := by decide +kernel
theorem dL_stringOf_16 : decode cL_stringOf 16 = .ok (.iadd, 1) := by decide +kernel
theorem dL_stringOf_17 : decode cL_stringOf 17 = .ok (.iaload, 1) := by decide +kernel
theorem dL_stringOf_18 : decode cL_stringOf 18 = .ok (.isub, 1) := by decide +kernel
theorem dL_stringOf_19 : decode cL_stringOf 19 = .ok (.istore 6, 2) := by decide +kernel
theorem dL_stringOf_21 : decode cL_stringOf 21 = .ok (.iload 6, 2) := by decide +kernel
theorem dL_stringOf_23 : decode cL_stringOf 23 = .ok (.ifCond .eq 30, 3) := by decide +kernel
theorem dL_stringOf_26 : decode cL_stringOf 26 = .ok (.iload 6, 2) := by decide +kernel
theorem dL_stringOf_28 : decode cL_stringOf 28 = .ok (.iload 4, 2) := by decide +kernel
theorem dL_stringOf_30 : decode cL_stringOf 30 = .ok (.if_icmp .lt 26, 3) := by decide +kernel
theorem dL_stringOf_33 : decode cL_stringOf 33 = .ok (.iload 6, 2) := by decide +kernel
theorem dL_stringOf_35 : decode cL_stringOf 35 = .ok (.iload 4, 2) := by decide +kernel
theorem dL_stringOf_37 : decode cL_stringOf 37 = .ok (.iconst 3, 1) := by decide +kernel
theorem dL_stringOf_38 : decode cL_stringOf 38 = .ok (.iadd, 1) := by decide +kernel
theorem dL_stringOf_39 : decode cL_stringOf 39 = .ok (.if_icmp .gt 17, 3) := by decide +kernel
theorem dL_stringOf_42 : decode cL_stringOf 42 = .ok (.iload 6, 2) := by decide +kernel
theorem dL_stringOf_44 : decode cL_stringOf 44 = .ok (.aload_n 1, 1) := by decide +kernel
theorem dL_stringOf_45 : decode cL_stringOf 45 = .ok (.iload_n 2, 1) := by decide +kernel
theorem dL_stringOf_46 : decode cL_stringOf 46 = .ok (.iaload, 1) := by decide +kernel
theorem dL_stringOf_47 : decode cL_stringOf 47 = .ok (.bipush 32, 2) := by decide +kernel
theorem dL_stringOf_49 : decode cL_stringOf 49 = .ok (.irem, 1) := by decide +kernel
theorem dL_stringOf_50 : decode cL_stringOf 50 = .ok (.if_icmp .gt 6, 3) := by decide +kernel
theorem dL_stringOf_53 : decode cL_stringOf 53 = .ok (.iload 5, 2) := by decide +kernel
theorem dL_stringOf_55 : decode cL_stringOf 55 = .ok (.ireturn, 1) := by decide +kernel
theorem dL_stringOf_56 : decode cL_stringOf 56 = .ok (.iinc 5 1, 3) := by decide +kernel
theorem dL_stringOf_59 : decode cL_stringOf 59 = .ok (.goto (-56), 3) := by decide +kernel
theorem dL_stringOf_62 : decode cL_stringOf 62 = .ok (.iconst (-1), 1) := by decide +kernel
theorem dL_stringOf_63 : decode cL_stringOf 63 = .ok (.ireturn, 1) := by decide +kernel
theorem dL_fingers_0 : decode cL_fingers 0 = .ok (.bipush 14, 2) := by decide +kernel
theorem dL_fingers_2 : decode cL_fingers 2 = .ok (.newarray .int, 2) := by decide +kernel
theorem dL_fingers_4 : decode cL_fingers 4 = .ok (.astore 6, 2) := by decide +kernel
theorem dL_fingers_6 : decode cL_fingers 6 = .ok (.bipush 14, 2) := by decide +kernel
theorem dL_fingers_8 : decode cL_fingers 8 = .ok (.newarray .int, 2) := by decide +kernel
theorem dL_fingers_10 : decode cL_fingers 10 = .ok (.astore 7, 2) := by decide +kernel
theorem dL_fingers_12 : decode cL_fingers 12 = .ok (.aload_n 3, 1) := by decide +kernel
theorem dL_fingers_13 : decode cL_fingers 13 = .ok (.iload 5, 2) := by decide +kernel
theorem dL_fingers_15 : decode cL_fingers 15 = .ok (.iaload, 1) := by decide +kernel
theorem dL_fingers_16 : decode cL_fingers 16 = .ok (.bipush 32, 2) := by decide +kernel
theorem dL_fingers_18 : decode cL_fingers 18 = .ok (.irem, 1) := by decide +kernel
theorem dL_fingers_19 : decode cL_fingers 19 = .ok (.iconst 3, 1) := by decide +kernel
theorem dL_fingers_20 : decode cL_fingers 20 = .ok (.isub, 1) := by decide +kernel
theorem dL_fingers_21 : decode cL_fingers 21 = .ok (.istore 8, 2) := by decide +kernel
theorem dL_fingers_23 : decode cL_fingers 23 = .ok (.iconst 0, 1) := by decide +kernel
theorem dL_fingers_24 : decode cL_fingers 24 = .ok (.istore 9, 2) := by decide +kernel
theorem dL_fingers_26 : decode cL_fingers 26 = .ok (.iload 9, 2) := by decide +kernel
theorem dL_fingers_28 : decode cL_fingers 28 = .ok (.aload_n 1, 1) := by decide +kernel
theorem dL_fingers_29 : decode cL_fingers 29 = .ok (.iload 4, 2) := by decide +kernel
theorem dL_fingers_31 : decode cL_fingers 31 = .ok (.iaload, 1) := by decide +kernel
theorem dL_fingers_32 : decode cL_fingers 32 = .ok (.if_icmp .ge 154, 3) := by decide +kernel
theorem dL_fingers_35 : decode cL_fingers 35 = .ok (.aload_n 0, 1) := by decide +kernel
theorem dL_fingers_36 : decode cL_fingers 36 = .ok (.iload 4, 2) := by decide +kernel
theorem dL_fingers_38 : decode cL_fingers 38 = .ok (.iload 9, 2) := by decide +kernel
theorem dL_fingers_40 : decode cL_fingers 40 = .ok (.invokestatic 87, 3) := by decide +kernel
theorem dL_fingers_43 : decode cL_fingers 43 = .ok (.istore 10, 2) := by decide +kernel
theorem dL_fingers_45 : decode cL_fingers 45 = .ok (.iconst 1, 1) := by decide +kernel
theorem dL_fingers_46 : decode cL_fingers 46 = .ok (.istore 11, 2) := by decide +kernel
theorem dL_fingers_48 : decode cL_fingers 48 = .ok (.iload 11, 2) := by decide +kernel
theorem dL_fingers_50 : decode cL_fingers 50 = .ok (.iload 8, 2) := by decide +kernel
theorem dL_fingers_52 : decode cL_fingers 52 = .ok (.if_icmp .gt 102, 3) := by decide +kernel
theorem dL_fingers_55 : decode cL_fingers 55 = .ok (.iload 9, 2) := by decide +kernel
theorem dL_fingers_57 : decode cL_fingers 57 = .ok (.ifCond .ne 7, 3) := by decide +kernel
theorem dL_fingers_60 : decode cL_fingers 60 = .ok (.iconst 0, 1) := by decide +kernel
theorem dL_fingers_61 : decode cL_fingers 61 = .ok (.goto 6, 3) := by decide +kernel
theorem dL_fingers_64 : decode cL_fingers 64 = .ok (.sipush 10000, 3) := by decide +kernel
theorem dL_fingers_67 : decode cL_fingers 67 = .ok (.istore 12, 2) := by decide +kernel
theorem dL_fingers_69 : decode cL_fingers 69 = .ok (.iconst 1, 1) := by decide +kernel
theorem dL_fingers_70 : decode cL_fingers 70 = .ok (.istore 13, 2) := by decide +kernel
theorem dL_fingers_72 : decode cL_fingers 72 = .ok (.iload 13, 2) := by decide +kernel
theorem dL_fingers_74 : decode cL_fingers 74 = .ok (.iload 8, 2) := by decide +kernel
theorem dL_fingers_76 : decode cL_fingers 76 = .ok (.if_icmp .gt 45, 3) := by decide +kernel
theorem dL_fingers_79 : decode cL_fingers 79 = .ok (.iload 9, 2) := by decide +kernel
theorem dL_fingers_81 : decode cL_fingers 81 = .ok (.ifCond .le 40, 3) := by decide +kernel
theorem dL_fingers_84 : decode cL_fingers 84 = .ok (.aload 6, 2) := by decide +kernel
theorem dL_fingers_86 : decode cL_fingers 86 = .ok (.iload 13, 2) := by decide +kernel
theorem dL_fingers_88 : decode cL_fingers 88 = .ok (.iaload, 1) := by decide +kernel
theorem dL_fingers_89 : decode cL_fingers 89 = .ok (.iload 13, 2) := by decide +kernel
theorem dL_fingers_91 : decode cL_fingers 91 = .ok (.iload 11, 2) := by decide +kernel
theorem dL_fingers_93 : decode cL_fingers 93 = .ok (.invokestatic 92, 3) := by decide +kernel
theorem dL_fingers_96 : decode cL_fingers 96 = .ok (.iadd, 1) := by decide +kernel
theorem dL_fingers_97 : decode cL_fingers 97 = .ok (.istore 14, 2) := by decide +kernel
theorem dL_fingers_99 : decode cL_fingers 99 = .ok (.iload 14, 2) := by decide +kernel
theorem dL_fingers_101 : decode cL_fingers 101 = .ok (.iload 12, 2) := by decide +kernel
theorem dL_fingers_103 : decode cL_fingers 103 = .ok (.if_icmp .ge 8, 3) := by decide +kernel
theorem dL_fingers_106 : decode cL_fingers 106 = .ok (.iload 14, 2) := by decide +kernel
theorem dL_fingers_108 : decode cL_fingers 108 = .ok (.goto 5, 3) := by decide +kernel
theorem dL_fingers_111 : decode cL_fingers 111 = .ok (.iload 12, 2) := by decide +kernel
theorem dL_fingers_113 : decode cL_fingers 113 = .ok (.istore 12, 2) := by decide +kernel
theorem dL_fingers_115 : decode cL_fingers 115 = .ok (.iinc 13 1, 3) := by decide +kernel
theorem dL_fingers_118 : decode cL_fingers 118 = .ok (.goto (-46), 3) := by decide +kernel
theorem dL_fingers_121 : decode cL_fingers 121 = .ok (.aload 7, 2) := by decide +kernel
theorem dL_fingers_123 : decode cL_fingers 123 = .ok (.iload 11, 2) := by decide +kernel
theorem dL_fingers_125 : decode cL_fingers 125 = .ok (.aload_n 2, 1) := by decide +kernel
theorem dL_fingers_126 : decode cL_fingers 126 = .ok (.aload_n 3, 1) := by decide +kernel
theorem dL_fingers_127 : decode cL_fingers 127 = .ok (.iload 5, 2) := by decide +kernel
theorem dL_fingers_129 : decode cL_fingers 129 = .ok (.iload 10, 2) := by decide +kernel
theorem dL_fingers_131 : decode cL_fingers 131 = .ok (.iload 11, 2) := by decide +kernel
theorem dL_fingers_133 : decode cL_fingers 133 = .ok (.invokestatic 95, 3) := by decide +kernel
theorem dL_fingers_136 : decode cL_fingers 136 = .ok (.ifCond .ge 9, 3) := by decide +kernel
theorem dL_fingers_139 : decode cL_fingers 139 = .ok (.sipush 10000, 3) := by decide +kernel
theorem dL_fingers_142 : decode cL_fingers 142 = .ok (.goto 5, 3) := by decide +kernel
theorem dL_fingers_145 : decode cL_fingers 145 = .ok (.iload 12, 2) := by decide +kernel
theorem dL_fingers_147 : decode cL_fingers 147 = .ok (.iastore, 1) := by decide +kernel
theorem dL_fingers_148 : decode cL_fingers 148 = .ok (.iinc 11 1, 3) := by decide +kernel
theorem dL_fingers_151 : decode cL_fingers 151 = .ok (.goto (-103), 3) := by decide +kernel
theorem dL_fingers_154 : decode cL_fingers 154 = .ok (.iconst 1, 1) := by decide +kernel
theorem dL_fingers_155 : decode cL_fingers 155 = .ok (.istore 11, 2) := by decide +kernel
theorem dL_fingers_157 : decode cL_fingers 157 = .ok (.iload 11, 2) := by decide +kernel
theorem dL_fingers_159 : decode cL_fingers 159 = .ok (.iload 8, 2) := by decide +kernel
theorem dL_fingers_161 : decode cL_fingers 161 = .ok (.if_icmp .gt 19, 3) := by decide +kernel
theorem dL_fingers_164 : decode cL_fingers 164 = .ok (.aload 6, 2) := by decide +kernel
theorem dL_fingers_166 : decode cL_fingers 166 = .ok (.iload 11, 2) := by decide +kernel
theorem dL_fingers_168 : decode cL_fingers 168 = .ok (.aload 7, 2) := by decide +kernel
theorem dL_fingers_170 : decode cL_fingers 170 = .ok (.iload 11, 2) := by decide +kernel
theorem dL_fingers_172 : decode cL_fingers 172 = .ok (.iaload, 1) := by decide +kernel
theorem dL_fingers_173 : decode cL_fingers 173 = .ok (.iastore, 1) := by decide +kernel
theorem dL_fingers_174 : decode cL_fingers 174 = .ok (.iinc 11 1, 3) := by decide +kernel
theorem dL_fingers_177 : decode cL_fingers 177 = .ok (.goto (-20), 3) := by decide +kernel
theorem dL_fingers_180 : decode cL_fingers 180 = .ok (.iinc 9 1, 3) := by decide +kernel
theorem dL_fingers_183 : decode cL_fingers 183 = .ok (.goto (-157), 3) := by decide +kernel
theorem dL_fingers_186 : decode cL_fingers 186 = .ok (.sipush 10000, 3) := by decide +kernel
theorem dL_fingers_189 : decode cL_fingers 189 = .ok (.istore 9, 2) := by decide +kernel
theorem dL_fingers_191 : decode cL_fingers 191 = .ok (.iconst 1, 1) := by decide +kernel
theorem dL_fingers_192 : decode cL_fingers 192 = .ok (.istore 10, 2) := by decide +kernel
theorem dL_fingers_194 : decode cL_fingers 194 = .ok (.iload 10, 2) := by decide +kernel
theorem dL_fingers_196 : decode cL_fingers 196 = .ok (.iload 8, 2) := by decide +kernel
theorem dL_fingers_198 : decode cL_fingers 198 = .ok (.if_icmp .gt 38, 3) := by decide +kernel
theorem dL_fingers_201 : decode cL_fingers 201 = .ok (.aload_n 1, 1) := by decide +kernel
theorem dL_fingers_202 : decode cL_fingers 202 = .ok (.iload 4, 2) := by decide +kernel
theorem dL_fingers_204 : decode cL_fingers 204 = .ok (.iaload, 1) := by decide +kernel
theorem dL_fingers_205 : decode cL_fingers 205 = .ok (.ifCond .le 31, 3) := by decide +kernel
theorem dL_fingers_208 : decode cL_fingers 208 = .ok (.aload 6, 2) := by decide +kernel
theorem dL_fingers_210 : decode cL_fingers 210 = .ok (.iload 10, 2) := by decide +kernel
theorem dL_fingers_212 : decode cL_fingers 212 = .ok (.iaload, 1) := by decide +kernel
theorem dL_fingers_213 : decode cL_fingers 213 = .ok (.iload 9, 2) := by decide +kernel
theorem dL_fingers_215 : decode cL_fingers 215 = .ok (.if_icmp .ge 11, 3) := by decide +kernel
theorem dL_fingers_218 : decode cL_fingers 218 = .ok (.aload 6, 2) := by decide +kernel
theorem dL_fingers_220 : decode cL_fingers 220 = .ok (.iload 10, 2) := by decide +kernel
theorem dL_fingers_222 : decode cL_fingers 222 = .ok (.iaload, 1) := by decide +kernel
theorem dL_fingers_223 : decode cL_fingers 223 = .ok (.goto 5, 3) := by decide +kernel
theorem dL_fingers_226 : decode cL_fingers 226 = .ok (.iload 9, 2) := by decide +kernel
theorem dL_fingers_228 : decode cL_fingers 228 = .ok (.istore 9, 2) := by decide +kernel
theorem dL_fingers_230 : decode cL_fingers 230 = .ok (.iinc 10 1, 3) := by decide +kernel
theorem dL_fingers_233 : decode cL_fingers 233 = .ok (.goto (-39), 3) := by decide +kernel
theorem dL_fingers_236 : decode cL_fingers 236 = .ok (.aload_n 0, 1) := by decide +kernel
theorem dL_fingers_237 : decode cL_fingers 237 = .ok (.iload 4, 2) := by decide +kernel
theorem dL_fingers_239 : decode cL_fingers 239 = .ok (.iload 5, 2) := by decide +kernel
theorem dL_fingers_241 : decode cL_fingers 241 = .ok (.invokestatic 99, 3) := by decide +kernel
theorem dL_fingers_244 : decode cL_fingers 244 = .ok (.istore 10, 2) := by decide +kernel
theorem dL_fingers_246 : decode cL_fingers 246 = .ok (.aload_n 0, 1) := by decide +kernel
theorem dL_fingers_247 : decode cL_fingers 247 = .ok (.iload 4, 2) := by decide +kernel
theorem dL_fingers_249 : decode cL_fingers 249 = .ok (.iload 5, 2) := by decide +kernel
theorem dL_fingers_251 : decode cL_fingers 251 = .ok (.invokestatic 101, 3) := by decide +kernel
theorem dL_fingers_254 : decode cL_fingers 254 = .ok (.istore 11, 2) := by decide +kernel
theorem dL_fingers_256 : decode cL_fingers 256 = .ok (.iconst 0, 1) := by decide +kernel
theorem dL_fingers_257 : decode cL_fingers 257 = .ok (.istore 12, 2) := by decide +kernel
theorem dL_fingers_259 : decode cL_fingers 259 = .ok (.iconst 0, 1) := by decide +kernel
theorem dL_fingers_260 : decode cL_fingers 260 = .ok (.istore 13, 2) := by decide +kernel
theorem dL_fingers_262 : decode cL_fingers 262 = .ok (.iconst 0, 1) := by decide +kernel
theorem dL_fingers_263 : decode cL_fingers 263 = .ok (.istore 14, 2) := by decide +kernel
theorem dL_fingers_265 : decode cL_fingers 265 = .ok (.iload 14, 2) := by decide +kernel
end
section
theorem dL_fingers_267 : decode cL_fingers 267 = .ok (.aload_n 1, 1) := by decide +kernel
theorem dL_fingers_268 : decode cL_fingers 268 = .ok (.iload 4, 2) := by decide +kernel
theorem dL_fingers_270 : decode cL_fingers 270 = .ok (.iaload, 1) := by decide +kernel
theorem dL_fingers_271 : decode cL_fingers 271 = .ok (.if_icmp .ge 149, 3) := by decide +kernel
theorem dL_fingers_274 : decode cL_fingers 274 = .ok (.aload_n 0, 1) := by decide +kernel
theorem dL_fingers_275 : decode cL_fingers 275 = .ok (.iload 4, 2) := by decide +kernel
theorem dL_fingers_277 : decode cL_fingers 277 = .ok (.iload 14, 2) := by decide +kernel
theorem dL_fingers_279 : decode cL_fingers 279 = .ok (.iload 5, 2) := by decide +kernel
theorem dL_fingers_281 : decode cL_fingers 281 = .ok (.invokestatic 103, 3) := by decide +kernel
theorem dL_fingers_284 : decode cL_fingers 284 = .ok (.istore 15, 2) := by decide +kernel
theorem dL_fingers_286 : decode cL_fingers 286 = .ok (.aload_n 0, 1) := by decide +kernel
theorem dL_fingers_287 : decode cL_fingers 287 = .ok (.iload 4, 2) := by decide +kernel
theorem dL_fingers_289 : decode cL_fingers 289 = .ok (.iload 14, 2) := by decide +kernel
theorem dL_fingers_291 : decode cL_fingers 291 = .ok (.iload 5, 2) := by decide +kernel
theorem dL_fingers_293 : decode cL_fingers 293 = .ok (.invokestatic 106, 3) := by decide +kernel
theorem dL_fingers_296 : decode cL_fingers 296 = .ok (.istore 16, 2) := by decide +kernel
theorem dL_fingers_298 : decode cL_fingers 298 = .ok (.iload 9, 2) := by decide +kernel
theorem dL_fingers_300 : decode cL_fingers 300 = .ok (.sipush 9999, 3) := by decide +kernel
theorem dL_fingers_303 : decode cL_fingers 303 = .ok (.if_icmp .le 18, 3) := by decide +kernel
theorem dL_fingers_306 : decode cL_fingers 306 = .ok (.iload 15, 2) := by decide +kernel
theorem dL_fingers_308 : decode cL_fingers 308 = .ok (.iconst (-1), 1) := by decide +kernel
theorem dL_fingers_309 : decode cL_fingers 309 = .ok (.if_icmp .ne 52, 3) := by decide +kernel
theorem dL_fingers_312 : decode cL_fingers 312 = .ok (.iload 16, 2) := by decide +kernel
theorem dL_fingers_314 : decode cL_fingers 314 = .ok (.iconst (-1), 1) := by decide +kernel
theorem dL_fingers_315 : decode cL_fingers 315 = .ok (.if_icmp .eq 48, 3) := by decide +kernel
theorem dL_fingers_318 : decode cL_fingers 318 = .ok (.goto 43, 3) := by decide +kernel
theorem dL_fingers_321 : decode cL_fingers 321 = .ok (.iload 15, 2) := by decide +kernel
theorem dL_fingers_323 : decode cL_fingers 323 = .ok (.iconst 1, 1) := by decide +kernel
theorem dL_fingers_324 : decode cL_fingers 324 = .ok (.if_icmp .lt 37, 3) := by decide +kernel
theorem dL_fingers_327 : decode cL_fingers 327 = .ok (.iload 15, 2) := by decide +kernel
theorem dL_fingers_329 : decode cL_fingers 329 = .ok (.iload 8, 2) := by decide +kernel
theorem dL_fingers_331 : decode cL_fingers 331 = .ok (.if_icmp .gt 30, 3) := by decide +kernel
theorem dL_fingers_334 : decode cL_fingers 334 = .ok (.iload 16, 2) := by decide +kernel
theorem dL_fingers_336 : decode cL_fingers 336 = .ok (.ifCond .lt 25, 3) := by decide +kernel
theorem dL_fingers_339 : decode cL_fingers 339 = .ok (.iload 16, 2) := by decide +kernel
theorem dL_fingers_341 : decode cL_fingers 341 = .ok (.aload_n 2, 1) := by decide +kernel
theorem dL_fingers_342 : decode cL_fingers 342 = .ok (.aload_n 3, 1) := by decide +kernel
theorem dL_fingers_343 : decode cL_fingers 343 = .ok (.iload 5, 2) := by decide +kernel
theorem dL_fingers_345 : decode cL_fingers 345 = .ok (.aload_n 0, 1) := by decide +kernel
theorem dL_fingers_346 : decode cL_fingers 346 = .ok (.iload 4, 2) := by decide +kernel
theorem dL_fingers_348 : decode cL_fingers 348 = .ok (.iload 14, 2) := by decide +kernel
theorem dL_fingers_350 : decode cL_fingers 350 = .ok (.invokestatic 87, 3) := by decide +kernel
theorem dL_fingers_353 : decode cL_fingers 353 = .ok (.iload 15, 2) := by decide +kernel
theorem dL_fingers_355 : decode cL_fingers 355 = .ok (.invokestatic 95, 3) := by decide +kernel
theorem dL_fingers_358 : decode cL_fingers 358 = .ok (.if_icmp .eq 5, 3) := by decide +kernel
theorem dL_fingers_361 : decode cL_fingers 361 = .ok (.iconst 0, 1) := by decide +kernel
theorem dL_fingers_362 : decode cL_fingers 362 = .ok (.ireturn, 1) := by decide +kernel
theorem dL_fingers_363 : decode cL_fingers 363 = .ok (.iload 14, 2) := by decide +kernel
theorem dL_fingers_365 : decode cL_fingers 365 = .ok (.ifCond .ne 7, 3) := by decide +kernel
theorem dL_fingers_368 : decode cL_fingers 368 = .ok (.iconst 0, 1) := by decide +kernel
theorem dL_fingers_369 : decode cL_fingers 369 = .ok (.goto 20, 3) := by decide +kernel
theorem dL_fingers_372 : decode cL_fingers 372 = .ok (.iload 15, 2) := by decide +kernel
theorem dL_fingers_374 : decode cL_fingers 374 = .ok (.aload_n 0, 1) := by decide +kernel
theorem dL_fingers_375 : decode cL_fingers 375 = .ok (.iload 4, 2) := by decide +kernel
theorem dL_fingers_377 : decode cL_fingers 377 = .ok (.iload 14, 2) := by decide +kernel
theorem dL_fingers_379 : decode cL_fingers 379 = .ok (.iconst 1, 1) := by decide +kernel
theorem dL_fingers_380 : decode cL_fingers 380 = .ok (.isub, 1) := by decide +kernel
theorem dL_fingers_381 : decode cL_fingers 381 = .ok (.iload 5, 2) := by decide +kernel
theorem dL_fingers_383 : decode cL_fingers 383 = .ok (.invokestatic 103, 3) := by decide +kernel
theorem dL_fingers_386 : decode cL_fingers 386 = .ok (.invokestatic 92, 3) := by decide +kernel
theorem dL_fingers_389 : decode cL_fingers 389 = .ok (.istore 17, 2) := by decide +kernel
theorem dL_fingers_391 : decode cL_fingers 391 = .ok (.iload 12, 2) := by decide +kernel
theorem dL_fingers_393 : decode cL_fingers 393 = .ok (.iload 17, 2) := by decide +kernel
theorem dL_fingers_395 : decode cL_fingers 395 = .ok (.iadd, 1) := by decide +kernel
theorem dL_fingers_396 : decode cL_fingers 396 = .ok (.istore 12, 2) := by decide +kernel
theorem dL_fingers_398 : decode cL_fingers 398 = .ok (.iload 17, 2) := by decide +kernel
theorem dL_fingers_400 : decode cL_fingers 400 = .ok (.iload 13, 2) := by decide +kernel
theorem dL_fingers_402 : decode cL_fingers 402 = .ok (.if_icmp .le 8, 3) := by decide +kernel
theorem dL_fingers_405 : decode cL_fingers 405 = .ok (.iload 17, 2) := by decide +kernel
theorem dL_fingers_407 : decode cL_fingers 407 = .ok (.goto 5, 3) := by decide +kernel
theorem dL_fingers_410 : decode cL_fingers 410 = .ok (.iload 13, 2) := by decide +kernel
theorem dL_fingers_412 : decode cL_fingers 412 = .ok (.istore 13, 2) := by decide +kernel
theorem dL_fingers_414 : decode cL_fingers 414 = .ok (.iinc 14 1, 3) := by decide +kernel
theorem dL_fingers_417 : decode cL_fingers 417 = .ok (.goto (-152), 3) := by decide +kernel
theorem dL_fingers_420 : decode cL_fingers 420 = .ok (.iload 9, 2) := by decide +kernel
theorem dL_fingers_422 : decode cL_fingers 422 = .ok (.sipush 9999, 3) := by decide +kernel
theorem dL_fingers_425 : decode cL_fingers 425 = .ok (.if_icmp .le 23, 3) := by decide +kernel
theorem dL_fingers_428 : decode cL_fingers 428 = .ok (.iload 10, 2) := by decide +kernel
theorem dL_fingers_430 : decode cL_fingers 430 = .ok (.iconst (-1), 1) := by decide +kernel
theorem dL_fingers_431 : decode cL_fingers 431 = .ok (.if_icmp .ne 13, 3) := by decide +kernel
theorem dL_fingers_434 : decode cL_fingers 434 = .ok (.iload 11, 2) := by decide +kernel
theorem dL_fingers_436 : decode cL_fingers 436 = .ok (.iconst (-1), 1) := by decide +kernel
theorem dL_fingers_437 : decode cL_fingers 437 = .ok (.if_icmp .ne 7, 3) := by decide +kernel
theorem dL_fingers_440 : decode cL_fingers 440 = .ok (.iconst 1, 1) := by decide +kernel
theorem dL_fingers_441 : decode cL_fingers 441 = .ok (.goto 33, 3) := by decide +kernel
theorem dL_fingers_444 : decode cL_fingers 444 = .ok (.iconst 0, 1) := by decide +kernel
theorem dL_fingers_445 : decode cL_fingers 445 = .ok (.goto 29, 3) := by decide +kernel
theorem dL_fingers_448 : decode cL_fingers 448 = .ok (.iload 10, 2) := by decide +kernel
theorem dL_fingers_450 : decode cL_fingers 450 = .ok (.iload 9, 2) := by decide +kernel
theorem dL_fingers_452 : decode cL_fingers 452 = .ok (.if_icmp .ne 21, 3) := by decide +kernel
theorem dL_fingers_455 : decode cL_fingers 455 = .ok (.iload 12, 2) := by decide +kernel
theorem dL_fingers_457 : decode cL_fingers 457 = .ok (.iload 9, 2) := by decide +kernel
theorem dL_fingers_459 : decode cL_fingers 459 = .ok (.if_icmp .ne 14, 3) := by decide +kernel
theorem dL_fingers_462 : decode cL_fingers 462 = .ok (.iload 11, 2) := by decide +kernel
theorem dL_fingers_464 : decode cL_fingers 464 = .ok (.iload 13, 2) := by decide +kernel
theorem dL_fingers_466 : decode cL_fingers 466 = .ok (.if_icmp .ne 7, 3) := by decide +kernel
theorem dL_fingers_469 : decode cL_fingers 469 = .ok (.iconst 1, 1) := by decide +kernel
theorem dL_fingers_470 : decode cL_fingers 470 = .ok (.goto 4, 3) := by decide +kernel
theorem dL_fingers_473 : decode cL_fingers 473 = .ok (.iconst 0, 1) := by decide +kernel
theorem dL_fingers_474 : decode cL_fingers 474 = .ok (.istore 14, 2) := by decide +kernel
theorem dL_fingers_476 : decode cL_fingers 476 = .ok (.iload 14, 2) := by decide +kernel
theorem dL_fingers_478 : decode cL_fingers 478 = .ok (.ifCond .eq 33, 3) := by decide +kernel
theorem dL_fingers_481 : decode cL_fingers 481 = .ok (.aload_n 0, 1) := by decide +kernel
theorem dL_fingers_482 : decode cL_fingers 482 = .ok (.iload 4, 2) := by decide +kernel
theorem dL_fingers_484 : decode cL_fingers 484 = .ok (.iload 5, 2) := by decide +kernel
theorem dL_fingers_486 : decode cL_fingers 486 = .ok (.invokestatic 108, 3) := by decide +kernel
theorem dL_fingers_489 : decode cL_fingers 489 = .ok (.aload_n 1, 1) := by decide +kernel
theorem dL_fingers_490 : decode cL_fingers 490 = .ok (.iload 4, 2) := by decide +kernel
theorem dL_fingers_492 : decode cL_fingers 492 = .ok (.iaload, 1) := by decide +kernel
theorem dL_fingers_493 : decode cL_fingers 493 = .ok (.iconst 4, 1) := by decide +kernel
theorem dL_fingers_494 : decode cL_fingers 494 = .ok (.if_icmp .le 8, 3) := by decide +kernel
theorem dL_fingers_497 : decode cL_fingers 497 = .ok (.ldc 18, 2) := by decide +kernel
theorem dL_fingers_499 : decode cL_fingers 499 = .ok (.goto 5, 3) := by decide +kernel
theorem dL_fingers_502 : decode cL_fingers 502 = .ok (.iload 10, 2) := by decide +kernel
theorem dL_fingers_504 : decode cL_fingers 504 = .ok (.if_icmp .ne 7, 3) := by decide +kernel
theorem dL_fingers_507 : decode cL_fingers 507 = .ok (.iconst 1, 1) := by decide +kernel
theorem dL_fingers_508 : decode cL_fingers 508 = .ok (.goto 4, 3) := by decide +kernel
theorem dL_fingers_511 : decode cL_fingers 511 = .ok (.iconst 0, 1) := by decide +kernel
theorem dL_fingers_512 : decode cL_fingers 512 = .ok (.istore 14, 2) := by decide +kernel
theorem dL_fingers_514 : decode cL_fingers 514 = .ok (.iload 14, 2) := by decide +kernel
theorem dL_fingers_516 : decode cL_fingers 516 = .ok (.ifCond .eq 53, 3) := by decide +kernel
theorem dL_fingers_519 : decode cL_fingers 519 = .ok (.aload_n 0, 1) := by decide +kernel
theorem dL_fingers_520 : decode cL_fingers 520 = .ok (.iload 4, 2) := by decide +kernel
theorem dL_fingers_522 : decode cL_fingers 522 = .ok (.aload_n 1, 1) := by decide +kernel
theorem dL_fingers_523 : decode cL_fingers 523 = .ok (.iload 4, 2) := by decide +kernel
theorem dL_fingers_525 : decode cL_fingers 525 = .ok (.iaload, 1) := by decide +kernel
theorem dL_fingers_526 : decode cL_fingers 526 = .ok (.iload 5, 2) := by decide +kernel
theorem dL_fingers_528 : decode cL_fingers 528 = .ok (.invokestatic 103, 3) := by decide +kernel
theorem dL_fingers_531 : decode cL_fingers 531 = .ok (.ldc 25, 2) := by decide +kernel
theorem dL_fingers_533 : decode cL_fingers 533 = .ok (.if_icmp .ne 36, 3) := by decide +kernel
theorem dL_fingers_536 : decode cL_fingers 536 = .ok (.aload_n 0, 1) := by decide +kernel
theorem dL_fingers_537 : decode cL_fingers 537 = .ok (.iload 4, 2) := by decide +kernel
theorem dL_fingers_539 : decode cL_fingers 539 = .ok (.iconst (-1), 1) := by decide +kernel
theorem dL_fingers_540 : decode cL_fingers 540 = .ok (.iload 5, 2) := by decide +kernel
theorem dL_fingers_542 : decode cL_fingers 542 = .ok (.invokestatic 106, 3) := by decide +kernel
theorem dL_fingers_545 : decode cL_fingers 545 = .ok (.ldc 25, 2) := by decide +kernel
theorem dL_fingers_547 : decode cL_fingers 547 = .ok (.if_icmp .ne 22, 3) := by decide +kernel
theorem dL_fingers_550 : decode cL_fingers 550 = .ok (.aload_n 0, 1) := by decide +kernel
theorem dL_fingers_551 : decode cL_fingers 551 = .ok (.iload 4, 2) := by decide +kernel
theorem dL_fingers_553 : decode cL_fingers 553 = .ok (.aload_n 1, 1) := by decide +kernel
theorem dL_fingers_554 : decode cL_fingers 554 = .ok (.iload 4, 2) := by decide +kernel
theorem dL_fingers_556 : decode cL_fingers 556 = .ok (.iaload, 1) := by decide +kernel
theorem dL_fingers_557 : decode cL_fingers 557 = .ok (.invokestatic 87, 3) := by decide +kernel
theorem dL_fingers_560 : decode cL_fingers 560 = .ok (.ldc 25, 2) := by decide +kernel
theorem dL_fingers_562 : decode cL_fingers 562 = .ok (.if_icmp .ne 7, 3) := by decide +kernel
theorem dL_fingers_565 : decode cL_fingers 565 = .ok (.iconst 1, 1) := by decide +kernel
theorem dL_fingers_566 : decode cL_fingers 566 = .ok (.goto 4, 3) := by decide +kernel
theorem dL_fingers_569 : decode cL_fingers 569 = .ok (.iconst 0, 1) := by decide +kernel
theorem dL_fingers_570 : decode cL_fingers 570 = .ok (.ireturn, 1) := by decide +kernel
theorem dL_nexts_0 : decode cL_nexts 0 = .ok (.iconst (-1), 1) := by decide +kernel
theorem dL_nexts_1 : decode cL_nexts 1 = .ok (.istore 4, 2) := by decide +kernel
theorem dL_nexts_3 : decode cL_nexts 3 = .ok (.bipush 100, 2) := by decide +kernel
theorem dL_nexts_5 : decode cL_nexts 5 = .ok (.istore 5, 2) := by decide +kernel
theorem dL_nexts_7 : decode cL_nexts 7 = .ok (.iconst 0, 1) := by decide +kernel
theorem dL_nexts_8 : decode cL_nexts 8 = .ok (.istore 6, 2) := by decide +kernel
theorem dL_nexts_10 : decode cL_nexts 10 = .ok (.iload 6, 2) := by decide +kernel
theorem dL_nexts_12 : decode cL_nexts 12 = .ok (.aload_n 2, 1) := by decide +kernel
theorem dL_nexts_13 : decode cL_nexts 13 = .ok (.iconst 0, 1) := by decide +kernel
theorem dL_nexts_14 : decode cL_nexts 14 = .ok (.iaload, 1) := by decide +kernel
theorem dL_nexts_15 : decode cL_nexts 15 = .ok (.if_icmp .ge 90, 3) := by decide +kernel
theorem dL_nexts_18 : decode cL_nexts 18 = .ok (.iconst 0, 1) := by decide +kernel
theorem dL_nexts_19 : decode cL_nexts 19 = .ok (.istore 7, 2) := by decide +kernel
theorem dL_nexts_21 : decode cL_nexts 21 = .ok (.iload 7, 2) := by decide +kernel
theorem dL_nexts_23 : decode cL_nexts 23 = .ok (.aload_n 2, 1) := by decide +kernel
theorem dL_nexts_24 : decode cL_nexts 24 = .ok (.iconst 1, 1) := by decide +kernel
theorem dL_nexts_25 : decode cL_nexts 25 = .ok (.iaload, 1) := by decide +kernel
theorem dL_nexts_26 : decode cL_nexts 26 = .ok (.if_icmp .ge 73, 3) := by decide +kernel
theorem dL_nexts_29 : decode cL_nexts 29 = .ok (.aload_n 1, 1) := by decide +kernel
theorem dL_nexts_30 : decode cL_nexts 30 = .ok (.iload 7, 2) := by decide +kernel
theorem dL_nexts_32 : decode cL_nexts 32 = .ok (.iaload, 1) := by decide +kernel
theorem dL_nexts_33 : decode cL_nexts 33 = .ok (.bipush 32, 2) := by decide +kernel
theorem dL_nexts_35 : decode cL_nexts 35 = .ok (.idiv, 1) := by decide +kernel
theorem dL_nexts_36 : decode cL_nexts 36 = .ok (.iload_n 3, 1) := by decide +kernel
theorem dL_nexts_37 : decode cL_nexts 37 = .ok (.if_icmp .ne 56, 3) := by decide +kernel
theorem dL_nexts_40 : decode cL_nexts 40 = .ok (.aload_n 0, 1) := by decide +kernel
theorem dL_nexts_41 : decode cL_nexts 41 = .ok (.iload_n 3, 1) := by decide +kernel
theorem dL_nexts_42 : decode cL_nexts 42 = .ok (.invokestatic 110, 3) := by decide +kernel
theorem dL_nexts_45 : decode cL_nexts 45 = .ok (.iload 6, 2) := by decide +kernel
theorem dL_nexts_47 : decode cL_nexts 47 = .ok (.ishr, 1) := by decide +kernel
theorem dL_nexts_48 : decode cL_nexts 48 = .ok (.iconst 1, 1) := by decide +kernel
theorem dL_nexts_49 : decode cL_nexts 49 = .ok (.iand, 1) := by decide +kernel
theorem dL_nexts_50 : decode cL_nexts 50 = .ok (.ifCond .ne 43, 3) := by decide +kernel
theorem dL_nexts_53 : decode cL_nexts 53 = .ok (.aload_n 0, 1) := by decide +kernel
theorem dL_nexts_54 : decode cL_nexts 54 = .ok (.iload 6, 2) := by decide +kernel
theorem dL_nexts_56 : decode cL_nexts 56 = .ok (.iload 7, 2) := by decide +kernel
theorem dL_nexts_58 : decode cL_nexts 58 = .ok (.invokestatic 101, 3) := by decide +kernel
theorem dL_nexts_61 : decode cL_nexts 61 = .ok (.istore 8, 2) := by decide +kernel
theorem dL_nexts_63 : decode cL_nexts 63 = .ok (.iload 8, 2) := by decide +kernel
theorem dL_nexts_65 : decode cL_nexts 65 = .ok (.ifCond .lt 28, 3) := by decide +kernel
theorem dL_nexts_68 : decode cL_nexts 68 = .ok (.iload 8, 2) := by decide +kernel
theorem dL_nexts_70 : decode cL_nexts 70 = .ok (.aload_n 0, 1) := by decide +kernel
theorem dL_nexts_71 : decode cL_nexts 71 = .ok (.iload_n 3, 1) := by decide +kernel
theorem dL_nexts_72 : decode cL_nexts 72 = .ok (.invokestatic 113, 3) := by decide +kernel
theorem dL_nexts_75 : decode cL_nexts 75 = .ok (.if_icmp .gt 18, 3) := by decide +kernel
theorem dL_nexts_78 : decode cL_nexts 78 = .ok (.iload 8, 2) := by decide +kernel
theorem dL_nexts_80 : decode cL_nexts 80 = .ok (.iload 5, 2) := by decide +kernel
theorem dL_nexts_82 : decode cL_nexts 82 = .ok (.if_icmp .ge 11, 3) := by decide +kernel
theorem dL_nexts_85 : decode cL_nexts 85 = .ok (.iload 8, 2) := by decide +kernel
theorem dL_nexts_87 : decode cL_nexts 87 = .ok (.istore 5, 2) := by decide +kernel
theorem dL_nexts_89 : decode cL_nexts 89 = .ok (.iload 6, 2) := by decide +kernel
theorem dL_nexts_91 : decode cL_nexts 91 = .ok (.istore 4, 2) := by decide +kernel
theorem dL_nexts_93 : decode cL_nexts 93 = .ok (.iinc 7 1, 3) := by decide +kernel
theorem dL_nexts_96 : decode cL_nexts 96 = .ok (.goto (-75), 3) := by decide +kernel
theorem dL_nexts_99 : decode cL_nexts 99 = .ok (.iinc 6 1, 3) := by decide +kernel
theorem dL_nexts_102 : decode cL_nexts 102 = .ok (.goto (-92), 3) := by decide +kernel
theorem dL_nexts_105 : decode cL_nexts 105 = .ok (.aload_n 0, 1) := by decide +kernel
theorem dL_nexts_106 : decode cL_nexts 106 = .ok (.iload_n 3, 1) := by decide +kernel
theorem dL_nexts_107 : decode cL_nexts 107 = .ok (.invokestatic 115, 3) := by decide +kernel
theorem dL_nexts_110 : decode cL_nexts 110 = .ok (.iload 4, 2) := by decide +kernel
theorem dL_nexts_112 : decode cL_nexts 112 = .ok (.if_icmp .ne 99, 3) := by decide +kernel
theorem dL_nexts_115 : decode cL_nexts 115 = .ok (.aload_n 0, 1) := by decide +kernel
theorem dL_nexts_116 : decode cL_nexts 116 = .ok (.iconst 5, 1) := by decide +kernel
theorem dL_nexts_117 : decode cL_nexts 117 = .ok (.invokestatic 115, 3) := by decide +kernel
theorem dL_nexts_120 : decode cL_nexts 120 = .ok (.ldc 28, 2) := by decide +kernel
theorem dL_nexts_122 : decode cL_nexts 122 = .ok (.if_icmp .ne 89, 3) := by decide +kernel
theorem dL_nexts_125 : decode cL_nexts 125 = .ok (.aload_n 0, 1) := by decide +kernel
theorem dL_nexts_126 : decode cL_nexts 126 = .ok (.iconst (-1), 1) := by decide +kernel
theorem dL_nexts_127 : decode cL_nexts 127 = .ok (.invokestatic 113, 3) := by decide +kernel
theorem dL_nexts_130 : decode cL_nexts 130 = .ok (.ldc 28, 2) := by decide +kernel
theorem dL_nexts_132 : decode cL_nexts 132 = .ok (.if_icmp .ne 79, 3) := by decide +kernel
theorem dL_nexts_135 : decode cL_nexts 135 = .ok (.aload_n 0, 1) := by decide +kernel
theorem dL_nexts_136 : decode cL_nexts 136 = .ok (.iconst 5, 1) := by decide +kernel
theorem dL_nexts_137 : decode cL_nexts 137 = .ok (.invokestatic 110, 3) := by decide +kernel
theorem dL_nexts_140 : decode cL_nexts 140 = .ok (.ldc 28, 2) := by decide +kernel
theorem dL_nexts_142 : decode cL_nexts 142 = .ok (.if_icmp .ne 69, 3) := by decide +kernel
theorem dL_nexts_145 : decode cL_nexts 145 = .ok (.aload_n 0, 1) := by decide +kernel
theorem dL_nexts_146 : decode cL_nexts 146 = .ok (.iload_n 3, 1) := by decide +kernel
theorem dL_nexts_147 : decode cL_nexts 147 = .ok (.invokestatic 113, 3) := by decide +kernel
theorem dL_nexts_150 : decode cL_nexts 150 = .ok (.iconst 2, 1) := by decide +kernel
theorem dL_nexts_151 : decode cL_nexts 151 = .ok (.if_icmp .lt 60, 3) := by decide +kernel
theorem dL_nexts_154 : decode cL_nexts 154 = .ok (.aload_n 0, 1) := by decide +kernel
theorem dL_nexts_155 : decode cL_nexts 155 = .ok (.aload_n 2, 1) := by decide +kernel
theorem dL_nexts_156 : decode cL_nexts 156 = .ok (.iconst 0, 1) := by decide +kernel
theorem dL_nexts_157 : decode cL_nexts 157 = .ok (.iaload, 1) := by decide +kernel
theorem dL_nexts_158 : decode cL_nexts 158 = .ok (.iconst 0, 1) := by decide +kernel
theorem dL_nexts_159 : decode cL_nexts 159 = .ok (.invokestatic 99, 3) := by decide +kernel
theorem dL_nexts_162 : decode cL_nexts 162 = .ok (.ldc 25, 2) := by decide +kernel
theorem dL_nexts_164 : decode cL_nexts 164 = .ok (.if_icmp .ne 47, 3) := by decide +kernel
theorem dL_nexts_167 : decode cL_nexts 167 = .ok (.aload_n 0, 1) := by decide +kernel
theorem dL_nexts_168 : decode cL_nexts 168 = .ok (.iconst 0, 1) := by decide +kernel
theorem dL_nexts_169 : decode cL_nexts 169 = .ok (.aload_n 2, 1) := by decide +kernel
theorem dL_nexts_170 : decode cL_nexts 170 = .ok (.iconst 1, 1) := by decide +kernel
theorem dL_nexts_171 : decode cL_nexts 171 = .ok (.iaload, 1) := by decide +kernel
theorem dL_nexts_172 : decode cL_nexts 172 = .ok (.invokestatic 101, 3) := by decide +kernel
theorem dL_nexts_175 : decode cL_nexts 175 = .ok (.ldc 25, 2) := by decide +kernel
theorem dL_nexts_177 : decode cL_nexts 177 = .ok (.if_icmp .ne 34, 3) := by decide +kernel
theorem dL_nexts_180 : decode cL_nexts 180 = .ok (.aload_n 0, 1) := by decide +kernel
theorem dL_nexts_181 : decode cL_nexts 181 = .ok (.aload_n 2, 1) := by decide +kernel
theorem dL_nexts_182 : decode cL_nexts 182 = .ok (.iconst 0, 1) := by decide +kernel
theorem dL_nexts_183 : decode cL_nexts 183 = .ok (.iaload, 1) := by decide +kernel
theorem dL_nexts_184 : decode cL_nexts 184 = .ok (.aload_n 2, 1) := by decide +kernel
theorem dL_nexts_185 : decode cL_nexts 185 = .ok (.iconst 1, 1) := by decide +kernel
theorem dL_nexts_186 : decode cL_nexts 186 = .ok (.iaload, 1) := by decide +kernel
theorem dL_nexts_187 : decode cL_nexts 187 = .ok (.invokestatic 108, 3) := by decide +kernel
theorem dL_nexts_190 : decode cL_nexts 190 = .ok (.ldc 25, 2) := by decide +kernel
theorem dL_nexts_192 : decode cL_nexts 192 = .ok (.if_icmp .ne 19, 3) := by decide +kernel
theorem dL_nexts_195 : decode cL_nexts 195 = .ok (.aload_n 0, 1) := by decide +kernel
theorem dL_nexts_196 : decode cL_nexts 196 = .ok (.aload_n 2, 1) := by decide +kernel
theorem dL_nexts_197 : decode cL_nexts 197 = .ok (.iconst 1, 1) := by decide +kernel
theorem dL_nexts_198 : decode cL_nexts 198 = .ok (.iaload, 1) := by decide +kernel
theorem dL_nexts_199 : decode cL_nexts 199 = .ok (.invokestatic 117, 3) := by decide +kernel
theorem dL_nexts_202 : decode cL_nexts 202 = .ok (.ldc 25, 2) := by decide +kernel
theorem dL_nexts_204 : decode cL_nexts 204 = .ok (.if_icmp .ne 7, 3) := by decide +kernel
theorem dL_nexts_207 : decode cL_nexts 207 = .ok (.iconst 1, 1) := by decide +kernel
theorem dL_nexts_208 : decode cL_nexts 208 = .ok (.goto 4, 3) := by decide +kernel
theorem dL_nexts_211 : decode cL_nexts 211 = .ok (.iconst 0, 1) := by decide +kernel
theorem dL_nexts_212 : decode cL_nexts 212 = .ok (.ireturn, 1) := by decide +kernel
theorem dL_learns_0 : decode cL_learns 0 = .ok (.aload_n 0, 1) := by decide +kernel
theorem dL_learns_1 : decode cL_learns 1 = .ok (.iload 4, 2) := by decide +kernel
theorem dL_learns_3 : decode cL_learns 3 = .ok (.iload 5, 2) := by decide +kernel
theorem dL_learns_5 : decode cL_learns 5 = .ok (.invokestatic 101, 3) := by decide +kernel
theorem dL_learns_8 : decode cL_learns 8 = .ok (.istore 6, 2) := by decide +kernel
theorem dL_learns_10 : decode cL_learns 10 = .ok (.aload_n 0, 1) := by decide +kernel
theorem dL_learns_11 : decode cL_learns 11 = .ok (.iload_n 3, 1) := by decide +kernel
theorem dL_learns_12 : decode cL_learns 12 = .ok (.invokestatic 113, 3) := by decide +kernel
theorem dL_learns_15 : decode cL_learns 15 = .ok (.istore 7, 2) := by decide +kernel
theorem dL_learns_17 : decode cL_learns 17 = .ok (.aload_n 0, 1) := by decide +kernel
theorem dL_learns_18 : decode cL_learns 18 = .ok (.iload_n 3, 1) := by decide +kernel
theorem dL_learns_19 : decode cL_learns 19 = .ok (.invokestatic 110, 3) := by decide +kernel
theorem dL_learns_22 : decode cL_learns 22 = .ok (.istore 8, 2) := by decide +kernel
theorem dL_learns_24 : decode cL_learns 24 = .ok (.aload_n 1, 1) := by decide +kernel
theorem dL_learns_25 : decode cL_learns 25 = .ok (.iload 5, 2) := by decide +kernel
theorem dL_learns_27 : decode cL_learns 27 = .ok (.iaload, 1) := by decide +kernel
theorem dL_learns_28 : decode cL_learns 28 = .ok (.bipush 32, 2) := by decide +kernel
theorem dL_learns_30 : decode cL_learns 30 = .ok (.idiv, 1) := by decide +kernel
theorem dL_learns_31 : decode cL_learns 31 = .ok (.iload_n 3, 1) := by decide +kernel
theorem dL_learns_32 : decode cL_learns 32 = .ok (.if_icmp .ne 29, 3) := by decide +kernel
theorem dL_learns_35 : decode cL_learns 35 = .ok (.iload 8, 2) := by decide +kernel
theorem dL_learns_37 : decode cL_learns 37 = .ok (.iload 4, 2) := by decide +kernel
theorem dL_learns_39 : decode cL_learns 39 = .ok (.ishr, 1) := by decide +kernel
theorem dL_learns_40 : decode cL_learns 40 = .ok (.iconst 1, 1) := by decide +kernel
theorem dL_learns_41 : decode cL_learns 41 = .ok (.iand, 1) := by decide +kernel
theorem dL_learns_42 : decode cL_learns 42 = .ok (.ifCond .ne 19, 3) := by decide +kernel
theorem dL_learns_45 : decode cL_learns 45 = .ok (.iload 6, 2) := by decide +kernel
theorem dL_learns_47 : decode cL_learns 47 = .ok (.ifCond .lt 14, 3) := by decide +kernel
theorem dL_learns_50 : decode cL_learns 50 = .ok (.iload 6, 2) := by decide +kernel
theorem dL_learns_52 : decode cL_learns 52 = .ok (.iload 7, 2) := by decide +kernel
theorem dL_learns_54 : decode cL_learns 54 = .ok (.if_icmp .gt 7, 3) := by decide +kernel
theorem dL_learns_57 : decode cL_learns 57 = .ok (.iconst 1, 1) := by decide +kernel
theorem dL_learns_58 : decode cL_learns 58 = .ok (.goto 4, 3) := by decide +kernel
theorem dL_learns_61 : decode cL_learns 61 = .ok (.iconst 0, 1) := by decide +kernel
theorem dL_learns_62 : decode cL_learns 62 = .ok (.istore 9, 2) := by decide +kernel
theorem dL_learns_64 : decode cL_learns 64 = .ok (.iload 9, 2) := by decide +kernel
theorem dL_learns_66 : decode cL_learns 66 = .ok (.ifCond .ne 8, 3) := by decide +kernel
theorem dL_learns_69 : decode cL_learns 69 = .ok (.ldc 18, 2) := by decide +kernel
theorem dL_learns_71 : decode cL_learns 71 = .ok (.goto 19, 3) := by decide +kernel
theorem dL_learns_74 : decode cL_learns 74 = .ok (.iload 6, 2) := by decide +kernel
theorem dL_learns_76 : decode cL_learns 76 = .ok (.iload 7, 2) := by decide +kernel
theorem dL_learns_78 : decode cL_learns 78 = .ok (.if_icmp .ne 10, 3) := by decide +kernel
theorem dL_learns_81 : decode cL_learns 81 = .ok (.iload 7, 2) := by decide +kernel
theorem dL_learns_83 : decode cL_learns 83 = .ok (.iconst 1, 1) := by decide +kernel
theorem dL_learns_84 : decode cL_learns 84 = .ok (.iadd, 1) := by decide +kernel
theorem dL_learns_85 : decode cL_learns 85 = .ok (.goto 5, 3) := by decide +kernel
theorem dL_learns_88 : decode cL_learns 88 = .ok (.iload 7, 2) := by decide +kernel
theorem dL_learns_90 : decode cL_learns 90 = .ok (.istore 10, 2) := by decide +kernel
theorem dL_learns_92 : decode cL_learns 92 = .ok (.aload_n 0, 1) := by decide +kernel
theorem dL_learns_93 : decode cL_learns 93 = .ok (.iload_n 3, 1) := by decide +kernel
theorem dL_learns_94 : decode cL_learns 94 = .ok (.iload 4, 2) := by decide +kernel
theorem dL_learns_96 : decode cL_learns 96 = .ok (.iload 5, 2) := by decide +kernel
theorem dL_learns_98 : decode cL_learns 98 = .ok (.invokestatic 119, 3) := by decide +kernel
theorem dL_learns_101 : decode cL_learns 101 = .ok (.iload 10, 2) := by decide +kernel
theorem dL_learns_103 : decode cL_learns 103 = .ok (.if_icmp .ne 50, 3) := by decide +kernel
theorem dL_learns_106 : decode cL_learns 106 = .ok (.aload_n 0, 1) := by decide +kernel
theorem dL_learns_107 : decode cL_learns 107 = .ok (.iload_n 3, 1) := by decide +kernel
theorem dL_learns_108 : decode cL_learns 108 = .ok (.iload 4, 2) := by decide +kernel
theorem dL_learns_110 : decode cL_learns 110 = .ok (.iload 5, 2) := by decide +kernel
theorem dL_learns_112 : decode cL_learns 112 = .ok (.invokestatic 119, 3) := by decide +kernel
theorem dL_learns_115 : decode cL_learns 115 = .ok (.ldc 18, 2) := by decide +kernel
theorem dL_learns_117 : decode cL_learns 117 = .ok (.if_icmp .ne 36, 3) := by decide +kernel
theorem dL_learns_120 : decode cL_learns 120 = .ok (.aload_n 0, 1) := by decide +kernel
theorem dL_learns_121 : decode cL_learns 121 = .ok (.iconst 5, 1) := by decide +kernel
theorem dL_learns_122 : decode cL_learns 122 = .ok (.iload 4, 2) := by decide +kernel
theorem dL_learns_124 : decode cL_learns 124 = .ok (.iload 5, 2) := by decide +kernel
theorem dL_learns_126 : decode cL_learns 126 = .ok (.invokestatic 119, 3) := by decide +kernel
theorem dL_learns_129 : decode cL_learns 129 = .ok (.ldc 28, 2) := by decide +kernel
theorem dL_learns_131 : decode cL_learns 131 = .ok (.if_icmp .ne 22, 3) := by decide +kernel
theorem dL_learns_134 : decode cL_learns 134 = .ok (.aload_n 0, 1) := by decide +kernel
theorem dL_learns_135 : decode cL_learns 135 = .ok (.iconst 5, 1) := by decide +kernel
theorem dL_learns_136 : decode cL_learns 136 = .ok (.aload_n 2, 1) := by decide +kernel
theorem dL_learns_137 : decode cL_learns 137 = .ok (.iconst 0, 1) := by decide +kernel
theorem dL_learns_138 : decode cL_learns 138 = .ok (.iaload, 1) := by decide +kernel
theorem dL_learns_139 : decode cL_learns 139 = .ok (.iload 5, 2) := by decide +kernel
theorem dL_learns_141 : decode cL_learns 141 = .ok (.invokestatic 119, 3) := by decide +kernel
theorem dL_learns_144 : decode cL_learns 144 = .ok (.ldc 25, 2) := by decide +kernel
theorem dL_learns_146 : decode cL_learns 146 = .ok (.if_icmp .ne 7, 3) := by decide +kernel
theorem dL_learns_149 : decode cL_learns 149 = .ok (.iconst 1, 1) := by decide +kernel
theorem dL_learns_150 : decode cL_learns 150 = .ok (.goto 4, 3) := by decide +kernel
theorem dL_learns_153 : decode cL_learns 153 = .ok (.iconst 0, 1) := by decide +kernel
theorem dL_learns_154 : decode cL_learns 154 = .ok (.istore 11, 2) := by decide +kernel
theorem dL_learns_156 : decode cL_learns 156 = .ok (.iload 11, 2) := by decide +kernel
theorem dL_learns_158 : decode cL_learns 158 = .ok (.ifCond .eq 52, 3) := by decide +kernel
theorem dL_learns_161 : decode cL_learns 161 = .ok (.aload_n 0, 1) := by decide +kernel
theorem dL_learns_162 : decode cL_learns 162 = .ok (.iload_n 3, 1) := by decide +kernel
theorem dL_learns_163 : decode cL_learns 163 = .ok (.invokestatic 113, 3) := by decide +kernel
theorem dL_learns_166 : decode cL_learns 166 = .ok (.iload 9, 2) := by decide +kernel
theorem dL_learns_168 : decode cL_learns 168 = .ok (.ifCond .eq 8, 3) := by decide +kernel
theorem dL_learns_171 : decode cL_learns 171 = .ok (.iload 10, 2) := by decide +kernel
theorem dL_learns_173 : decode cL_learns 173 = .ok (.goto 5, 3) := by decide +kernel
theorem dL_learns_176 : decode cL_learns 176 = .ok (.iload 7, 2) := by decide +kernel
theorem dL_learns_178 : decode cL_learns 178 = .ok (.if_icmp .ne 32, 3) := by decide +kernel
theorem dL_learns_181 : decode cL_learns 181 = .ok (.aload_n 0, 1) := by decide +kernel
theorem dL_learns_182 : decode cL_learns 182 = .ok (.iload_n 3, 1) := by decide +kernel
theorem dL_learns_183 : decode cL_learns 183 = .ok (.invokestatic 110, 3) := by decide +kernel
theorem dL_learns_186 : decode cL_learns 186 = .ok (.iload 9, 2) := by decide +kernel
theorem dL_learns_188 : decode cL_learns 188 = .ok (.ifCond .eq 13, 3) := by decide +kernel
theorem dL_learns_191 : decode cL_learns 191 = .ok (.iload 8, 2) := by decide +kernel
theorem dL_learns_193 : decode cL_learns 193 = .ok (.iconst 1, 1) := by decide +kernel
theorem dL_learns_194 : decode cL_learns 194 = .ok (.iload 4, 2) := by decide +kernel
theorem dL_learns_196 : decode cL_learns 196 = .ok (.ishl, 1) := by decide +kernel
theorem dL_learns_197 : decode cL_learns 197 = .ok (.ior, 1) := by decide +kernel
theorem dL_learns_198 : decode cL_learns 198 = .ok (.goto 5, 3) := by decide +kernel
theorem dL_learns_201 : decode cL_learns 201 = .ok (.iload 8, 2) := by decide +kernel
theorem dL_learns_203 : decode cL_learns 203 = .ok (.if_icmp .ne 7, 3) := by decide +kernel
theorem dL_learns_206 : decode cL_learns 206 = .ok (.iconst 1, 1) := by decide +kernel
theorem dL_learns_207 : decode cL_learns 207 = .ok (.goto 4, 3) := by decide +kernel
theorem dL_learns_210 : decode cL_learns 210 = .ok (.iconst 0, 1) := by decide +kernel
theorem dL_learns_211 : decode cL_learns 211 = .ok (.ireturn, 1) := by decide +kernel
theorem dL_pieces_0 : decode cL_pieces 0 = .ok (.aload_n 2, 1) := by decide +kernel
theorem dL_pieces_1 : decode cL_pieces 1 = .ok (.iconst 0, 1) := by decide +kernel
theorem dL_pieces_2 : decode cL_pieces 2 = .ok (.iaload, 1) := by decide +kernel
theorem dL_pieces_3 : decode cL_pieces 3 = .ok (.iconst 2, 1) := by decide +kernel
theorem dL_pieces_4 : decode cL_pieces 4 = .ok (.if_icmp .lt 12, 3) := by decide +kernel
theorem dL_pieces_7 : decode cL_pieces 7 = .ok (.iload_n 3, 1) := by decide +kernel
theorem dL_pieces_8 : decode cL_pieces 8 = .ok (.bipush 8, 2) := by decide +kernel
theorem dL_pieces_10 : decode cL_pieces 10 = .ok (.invokestatic 121, 3) := by decide +kernel
theorem dL_pieces_13 : decode cL_pieces 13 = .ok (.ifCond .ne 69, 3) := by decide +kernel
theorem dL_pieces_16 : decode cL_pieces 16 = .ok (.aload_n 2, 1) := by decide +kernel
theorem dL_pieces_17 : decode cL_pieces 17 = .ok (.iconst 0, 1) := by decide +kernel
theorem dL_pieces_18 : decode cL_pieces 18 = .ok (.iaload, 1) := by decide +kernel
theorem dL_pieces_19 : decode cL_pieces 19 = .ok (.bipush 8, 2) := by decide +kernel
theorem dL_pieces_21 : decode cL_pieces 21 = .ok (.if_icmp .ge 9, 3) := by decide +kernel
theorem dL_pieces_24 : decode cL_pieces 24 = .ok (.aload_n 2, 1) := by decide +kernel
theorem dL_pieces_25 : decode cL_pieces 25 = .ok (.iconst 0, 1) := by decide +kernel
theorem dL_pieces_26 : decode cL_pieces 26 = .ok (.iaload, 1) := by decide +kernel
theorem dL_pieces_27 : decode cL_pieces 27 = .ok (.goto 5, 3) := by decide +kernel
theorem dL_pieces_30 : decode cL_pieces 30 = .ok (.ldc 18, 2) := by decide +kernel
theorem dL_pieces_32 : decode cL_pieces 32 = .ok (.istore 5, 2) := by decide +kernel
theorem dL_pieces_34 : decode cL_pieces 34 = .ok (.aload_n 2, 1) := by decide +kernel
theorem dL_pieces_35 : decode cL_pieces 35 = .ok (.iconst 0, 1) := by decide +kernel
theorem dL_pieces_36 : decode cL_pieces 36 = .ok (.dup2, 1) := by decide +kernel
end
section
theorem dL_pieces_37 : decode cL_pieces 37 = .ok (.iaload, 1) := by decide +kernel
theorem dL_pieces_38 : decode cL_pieces 38 = .ok (.iload 5, 2) := by decide +kernel
theorem dL_pieces_40 : decode cL_pieces 40 = .ok (.ifCond .ge 7, 3) := by decide +kernel
theorem dL_pieces_43 : decode cL_pieces 43 = .ok (.iconst 0, 1) := by decide +kernel
theorem dL_pieces_44 : decode cL_pieces 44 = .ok (.goto 4, 3) := by decide +kernel
theorem dL_pieces_47 : decode cL_pieces 47 = .ok (.iconst 1, 1) := by decide +kernel
theorem dL_pieces_48 : decode cL_pieces 48 = .ok (.iadd, 1) := by decide +kernel
theorem dL_pieces_49 : decode cL_pieces 49 = .ok (.iastore, 1) := by decide +kernel
theorem dL_pieces_50 : decode cL_pieces 50 = .ok (.aload_n 0, 1) := by decide +kernel
theorem dL_pieces_51 : decode cL_pieces 51 = .ok (.invokestatic 124, 3) := by decide +kernel
theorem dL_pieces_54 : decode cL_pieces 54 = .ok (.iload 5, 2) := by decide +kernel
theorem dL_pieces_56 : decode cL_pieces 56 = .ok (.if_icmp .ne 24, 3) := by decide +kernel
theorem dL_pieces_59 : decode cL_pieces 59 = .ok (.iload 5, 2) := by decide +kernel
theorem dL_pieces_61 : decode cL_pieces 61 = .ok (.ifCond .lt 15, 3) := by decide +kernel
theorem dL_pieces_64 : decode cL_pieces 64 = .ok (.aload_n 0, 1) := by decide +kernel
theorem dL_pieces_65 : decode cL_pieces 65 = .ok (.iload 5, 2) := by decide +kernel
theorem dL_pieces_67 : decode cL_pieces 67 = .ok (.iconst 0, 1) := by decide +kernel
theorem dL_pieces_68 : decode cL_pieces 68 = .ok (.invokestatic 87, 3) := by decide +kernel
theorem dL_pieces_71 : decode cL_pieces 71 = .ok (.ldc 25, 2) := by decide +kernel
theorem dL_pieces_73 : decode cL_pieces 73 = .ok (.if_icmp .ne 7, 3) := by decide +kernel
theorem dL_pieces_76 : decode cL_pieces 76 = .ok (.iconst 1, 1) := by decide +kernel
theorem dL_pieces_77 : decode cL_pieces 77 = .ok (.goto 4, 3) := by decide +kernel
theorem dL_pieces_80 : decode cL_pieces 80 = .ok (.iconst 0, 1) := by decide +kernel
theorem dL_pieces_81 : decode cL_pieces 81 = .ok (.ireturn, 1) := by decide +kernel
theorem dL_pieces_82 : decode cL_pieces 82 = .ok (.iload_n 3, 1) := by decide +kernel
theorem dL_pieces_83 : decode cL_pieces 83 = .ok (.iconst 3, 1) := by decide +kernel
theorem dL_pieces_84 : decode cL_pieces 84 = .ok (.ishr, 1) := by decide +kernel
theorem dL_pieces_85 : decode cL_pieces 85 = .ok (.aload_n 2, 1) := by decide +kernel
theorem dL_pieces_86 : decode cL_pieces 86 = .ok (.iconst 0, 1) := by decide +kernel
theorem dL_pieces_87 : decode cL_pieces 87 = .ok (.iaload, 1) := by decide +kernel
theorem dL_pieces_88 : decode cL_pieces 88 = .ok (.invokestatic 121, 3) := by decide +kernel
theorem dL_pieces_91 : decode cL_pieces 91 = .ok (.istore 5, 2) := by decide +kernel
theorem dL_pieces_93 : decode cL_pieces 93 = .ok (.iload_n 3, 1) := by decide +kernel
theorem dL_pieces_94 : decode cL_pieces 94 = .ok (.bipush 6, 2) := by decide +kernel
theorem dL_pieces_96 : decode cL_pieces 96 = .ok (.ishr, 1) := by decide +kernel
theorem dL_pieces_97 : decode cL_pieces 97 = .ok (.bipush 6, 2) := by decide +kernel
theorem dL_pieces_99 : decode cL_pieces 99 = .ok (.invokestatic 121, 3) := by decide +kernel
theorem dL_pieces_102 : decode cL_pieces 102 = .ok (.ifCond .le 146, 3) := by decide +kernel
theorem dL_pieces_105 : decode cL_pieces 105 = .ok (.iload 4, 2) := by decide +kernel
theorem dL_pieces_107 : decode cL_pieces 107 = .ok (.iload 4, 2) := by decide +kernel
theorem dL_pieces_109 : decode cL_pieces 109 = .ok (.bipush 8, 2) := by decide +kernel
theorem dL_pieces_111 : decode cL_pieces 111 = .ok (.ishr, 1) := by decide +kernel
theorem dL_pieces_112 : decode cL_pieces 112 = .ok (.iconst 4, 1) := by decide +kernel
theorem dL_pieces_113 : decode cL_pieces 113 = .ok (.invokestatic 121, 3) := by decide +kernel
theorem dL_pieces_116 : decode cL_pieces 116 = .ok (.ifCond .ne 8, 3) := by decide +kernel
theorem dL_pieces_119 : decode cL_pieces 119 = .ok (.bipush 81, 2) := by decide +kernel
theorem dL_pieces_121 : decode cL_pieces 121 = .ok (.goto 5, 3) := by decide +kernel
theorem dL_pieces_124 : decode cL_pieces 124 = .ok (.bipush 30, 2) := by decide +kernel
theorem dL_pieces_126 : decode cL_pieces 126 = .ok (.invokestatic 121, 3) := by decide +kernel
theorem dL_pieces_129 : decode cL_pieces 129 = .ok (.istore 6, 2) := by decide +kernel
theorem dL_pieces_131 : decode cL_pieces 131 = .ok (.aload_n 1, 1) := by decide +kernel
theorem dL_pieces_132 : decode cL_pieces 132 = .ok (.iload 5, 2) := by decide +kernel
theorem dL_pieces_134 : decode cL_pieces 134 = .ok (.iaload, 1) := by decide +kernel
theorem dL_pieces_135 : decode cL_pieces 135 = .ok (.bipush 16, 2) := by decide +kernel
theorem dL_pieces_137 : decode cL_pieces 137 = .ok (.if_icmp .ge 12, 3) := by decide +kernel
theorem dL_pieces_140 : decode cL_pieces 140 = .ok (.aload_n 1, 1) := by decide +kernel
theorem dL_pieces_141 : decode cL_pieces 141 = .ok (.iload 5, 2) := by decide +kernel
theorem dL_pieces_143 : decode cL_pieces 143 = .ok (.iaload, 1) := by decide +kernel
theorem dL_pieces_144 : decode cL_pieces 144 = .ok (.iconst 1, 1) := by decide +kernel
theorem dL_pieces_145 : decode cL_pieces 145 = .ok (.iadd, 1) := by decide +kernel
theorem dL_pieces_146 : decode cL_pieces 146 = .ok (.goto 5, 3) := by decide +kernel
theorem dL_pieces_149 : decode cL_pieces 149 = .ok (.ldc 18, 2) := by decide +kernel
theorem dL_pieces_151 : decode cL_pieces 151 = .ok (.istore 7, 2) := by decide +kernel
theorem dL_pieces_153 : decode cL_pieces 153 = .ok (.aload_n 1, 1) := by decide +kernel
theorem dL_pieces_154 : decode cL_pieces 154 = .ok (.iload 5, 2) := by decide +kernel
theorem dL_pieces_156 : decode cL_pieces 156 = .ok (.dup2, 1) := by decide +kernel
theorem dL_pieces_157 : decode cL_pieces 157 = .ok (.iaload, 1) := by decide +kernel
theorem dL_pieces_158 : decode cL_pieces 158 = .ok (.iload 7, 2) := by decide +kernel
theorem dL_pieces_160 : decode cL_pieces 160 = .ok (.ifCond .ge 7, 3) := by decide +kernel
theorem dL_pieces_163 : decode cL_pieces 163 = .ok (.iconst 0, 1) := by decide +kernel
theorem dL_pieces_164 : decode cL_pieces 164 = .ok (.goto 4, 3) := by decide +kernel
theorem dL_pieces_167 : decode cL_pieces 167 = .ok (.iconst 1, 1) := by decide +kernel
theorem dL_pieces_168 : decode cL_pieces 168 = .ok (.iadd, 1) := by decide +kernel
theorem dL_pieces_169 : decode cL_pieces 169 = .ok (.iastore, 1) := by decide +kernel
theorem dL_pieces_170 : decode cL_pieces 170 = .ok (.aload_n 0, 1) := by decide +kernel
theorem dL_pieces_171 : decode cL_pieces 171 = .ok (.iload 5, 2) := by decide +kernel
theorem dL_pieces_173 : decode cL_pieces 173 = .ok (.iload 6, 2) := by decide +kernel
theorem dL_pieces_175 : decode cL_pieces 175 = .ok (.invokestatic 127, 3) := by decide +kernel
theorem dL_pieces_178 : decode cL_pieces 178 = .ok (.iload 7, 2) := by decide +kernel
theorem dL_pieces_180 : decode cL_pieces 180 = .ok (.if_icmp .ne 66, 3) := by decide +kernel
theorem dL_pieces_183 : decode cL_pieces 183 = .ok (.aload_n 0, 1) := by decide +kernel
theorem dL_pieces_184 : decode cL_pieces 184 = .ok (.iload 5, 2) := by decide +kernel
theorem dL_pieces_186 : decode cL_pieces 186 = .ok (.bipush 81, 2) := by decide +kernel
theorem dL_pieces_188 : decode cL_pieces 188 = .ok (.invokestatic 127, 3) := by decide +kernel
theorem dL_pieces_191 : decode cL_pieces 191 = .ok (.ldc 28, 2) := by decide +kernel
theorem dL_pieces_193 : decode cL_pieces 193 = .ok (.if_icmp .ne 53, 3) := by decide +kernel
theorem dL_pieces_196 : decode cL_pieces 196 = .ok (.aload_n 0, 1) := by decide +kernel
theorem dL_pieces_197 : decode cL_pieces 197 = .ok (.iload 5, 2) := by decide +kernel
theorem dL_pieces_199 : decode cL_pieces 199 = .ok (.iconst (-1), 1) := by decide +kernel
theorem dL_pieces_200 : decode cL_pieces 200 = .ok (.invokestatic 127, 3) := by decide +kernel
theorem dL_pieces_203 : decode cL_pieces 203 = .ok (.ldc 28, 2) := by decide +kernel
theorem dL_pieces_205 : decode cL_pieces 205 = .ok (.if_icmp .ne 41, 3) := by decide +kernel
theorem dL_pieces_208 : decode cL_pieces 208 = .ok (.aload_n 0, 1) := by decide +kernel
theorem dL_pieces_209 : decode cL_pieces 209 = .ok (.aload_n 2, 1) := by decide +kernel
theorem dL_pieces_210 : decode cL_pieces 210 = .ok (.iconst 0, 1) := by decide +kernel
theorem dL_pieces_211 : decode cL_pieces 211 = .ok (.iaload, 1) := by decide +kernel
theorem dL_pieces_212 : decode cL_pieces 212 = .ok (.bipush 81, 2) := by decide +kernel
theorem dL_pieces_214 : decode cL_pieces 214 = .ok (.invokestatic 127, 3) := by decide +kernel
theorem dL_pieces_217 : decode cL_pieces 217 = .ok (.ldc 25, 2) := by decide +kernel
theorem dL_pieces_219 : decode cL_pieces 219 = .ok (.if_icmp .ne 27, 3) := by decide +kernel
theorem dL_pieces_222 : decode cL_pieces 222 = .ok (.iload 7, 2) := by decide +kernel
theorem dL_pieces_224 : decode cL_pieces 224 = .ok (.ifCond .lt 18, 3) := by decide +kernel
theorem dL_pieces_227 : decode cL_pieces 227 = .ok (.aload_n 0, 1) := by decide +kernel
theorem dL_pieces_228 : decode cL_pieces 228 = .ok (.iload 5, 2) := by decide +kernel
theorem dL_pieces_230 : decode cL_pieces 230 = .ok (.iload 7, 2) := by decide +kernel
theorem dL_pieces_232 : decode cL_pieces 232 = .ok (.iconst 1, 1) := by decide +kernel
theorem dL_pieces_233 : decode cL_pieces 233 = .ok (.isub, 1) := by decide +kernel
theorem dL_pieces_234 : decode cL_pieces 234 = .ok (.invokestatic 87, 3) := by decide +kernel
theorem dL_pieces_237 : decode cL_pieces 237 = .ok (.iload 6, 2) := by decide +kernel
theorem dL_pieces_239 : decode cL_pieces 239 = .ok (.if_icmp .ne 7, 3) := by decide +kernel
theorem dL_pieces_242 : decode cL_pieces 242 = .ok (.iconst 1, 1) := by decide +kernel
theorem dL_pieces_243 : decode cL_pieces 243 = .ok (.goto 4, 3) := by decide +kernel
theorem dL_pieces_246 : decode cL_pieces 246 = .ok (.iconst 0, 1) := by decide +kernel
theorem dL_pieces_247 : decode cL_pieces 247 = .ok (.ireturn, 1) := by decide +kernel
theorem dL_pieces_248 : decode cL_pieces 248 = .ok (.iload 4, 2) := by decide +kernel
theorem dL_pieces_250 : decode cL_pieces 250 = .ok (.iload 4, 2) := by decide +kernel
theorem dL_pieces_252 : decode cL_pieces 252 = .ok (.bipush 8, 2) := by decide +kernel
theorem dL_pieces_254 : decode cL_pieces 254 = .ok (.ishr, 1) := by decide +kernel
theorem dL_pieces_255 : decode cL_pieces 255 = .ok (.iconst 3, 1) := by decide +kernel
theorem dL_pieces_256 : decode cL_pieces 256 = .ok (.invokestatic 121, 3) := by decide +kernel
theorem dL_pieces_259 : decode cL_pieces 259 = .ok (.ifCond .ne 8, 3) := by decide +kernel
theorem dL_pieces_262 : decode cL_pieces 262 = .ok (.bipush 81, 2) := by decide +kernel
theorem dL_pieces_264 : decode cL_pieces 264 = .ok (.goto 5, 3) := by decide +kernel
theorem dL_pieces_267 : decode cL_pieces 267 = .ok (.bipush 9, 2) := by decide +kernel
theorem dL_pieces_269 : decode cL_pieces 269 = .ok (.invokestatic 121, 3) := by decide +kernel
theorem dL_pieces_272 : decode cL_pieces 272 = .ok (.iload 4, 2) := by decide +kernel
theorem dL_pieces_274 : decode cL_pieces 274 = .ok (.bipush 8, 2) := by decide +kernel
theorem dL_pieces_276 : decode cL_pieces 276 = .ok (.ishr, 1) := by decide +kernel
theorem dL_pieces_277 : decode cL_pieces 277 = .ok (.iconst 3, 1) := by decide +kernel
theorem dL_pieces_278 : decode cL_pieces 278 = .ok (.invokestatic 121, 3) := by decide +kernel
theorem dL_pieces_281 : decode cL_pieces 281 = .ok (.ifCond .ne 8, 3) := by decide +kernel
theorem dL_pieces_284 : decode cL_pieces 284 = .ok (.bipush 40, 2) := by decide +kernel
theorem dL_pieces_286 : decode cL_pieces 286 = .ok (.goto 4, 3) := by decide +kernel
theorem dL_pieces_289 : decode cL_pieces 289 = .ok (.iconst 4, 1) := by decide +kernel
theorem dL_pieces_290 : decode cL_pieces 290 = .ok (.isub, 1) := by decide +kernel
theorem dL_pieces_291 : decode cL_pieces 291 = .ok (.istore 6, 2) := by decide +kernel
theorem dL_pieces_293 : decode cL_pieces 293 = .ok (.iconst 1, 1) := by decide +kernel
theorem dL_pieces_294 : decode cL_pieces 294 = .ok (.istore 7, 2) := by decide +kernel
theorem dL_pieces_296 : decode cL_pieces 296 = .ok (.aload_n 1, 1) := by decide +kernel
theorem dL_pieces_297 : decode cL_pieces 297 = .ok (.iload 5, 2) := by decide +kernel
theorem dL_pieces_299 : decode cL_pieces 299 = .ok (.iaload, 1) := by decide +kernel
theorem dL_pieces_300 : decode cL_pieces 300 = .ok (.ifCond .ne 7, 3) := by decide +kernel
theorem dL_pieces_303 : decode cL_pieces 303 = .ok (.iconst 0, 1) := by decide +kernel
theorem dL_pieces_304 : decode cL_pieces 304 = .ok (.goto 10, 3) := by decide +kernel
theorem dL_pieces_307 : decode cL_pieces 307 = .ok (.aload_n 0, 1) := by decide +kernel
theorem dL_pieces_308 : decode cL_pieces 308 = .ok (.iload 5, 2) := by decide +kernel
theorem dL_pieces_310 : decode cL_pieces 310 = .ok (.iconst 0, 1) := by decide +kernel
theorem dL_pieces_311 : decode cL_pieces 311 = .ok (.invokestatic 87, 3) := by decide +kernel
theorem dL_pieces_314 : decode cL_pieces 314 = .ok (.istore 8, 2) := by decide +kernel
theorem dL_pieces_316 : decode cL_pieces 316 = .ok (.iconst 0, 1) := by decide +kernel
theorem dL_pieces_317 : decode cL_pieces 317 = .ok (.istore 9, 2) := by decide +kernel
theorem dL_pieces_319 : decode cL_pieces 319 = .ok (.iload 9, 2) := by decide +kernel
theorem dL_pieces_321 : decode cL_pieces 321 = .ok (.aload_n 1, 1) := by decide +kernel
theorem dL_pieces_322 : decode cL_pieces 322 = .ok (.iload 5, 2) := by decide +kernel
theorem dL_pieces_324 : decode cL_pieces 324 = .ok (.iaload, 1) := by decide +kernel
theorem dL_pieces_325 : decode cL_pieces 325 = .ok (.if_icmp .ge 51, 3) := by decide +kernel
theorem dL_pieces_328 : decode cL_pieces 328 = .ok (.iload 7, 2) := by decide +kernel
theorem dL_pieces_330 : decode cL_pieces 330 = .ok (.ifCond .eq 37, 3) := by decide +kernel
theorem dL_pieces_333 : decode cL_pieces 333 = .ok (.aload_n 0, 1) := by decide +kernel
theorem dL_pieces_334 : decode cL_pieces 334 = .ok (.iload 5, 2) := by decide +kernel
theorem dL_pieces_336 : decode cL_pieces 336 = .ok (.iload 9, 2) := by decide +kernel
theorem dL_pieces_338 : decode cL_pieces 338 = .ok (.invokestatic 87, 3) := by decide +kernel
theorem dL_pieces_341 : decode cL_pieces 341 = .ok (.iload 6, 2) := by decide +kernel
theorem dL_pieces_343 : decode cL_pieces 343 = .ok (.iadd, 1) := by decide +kernel
theorem dL_pieces_344 : decode cL_pieces 344 = .ok (.ifCond .lt 23, 3) := by decide +kernel
theorem dL_pieces_347 : decode cL_pieces 347 = .ok (.aload_n 0, 1) := by decide +kernel
theorem dL_pieces_348 : decode cL_pieces 348 = .ok (.iload 5, 2) := by decide +kernel
theorem dL_pieces_350 : decode cL_pieces 350 = .ok (.iload 9, 2) := by decide +kernel
theorem dL_pieces_352 : decode cL_pieces 352 = .ok (.invokestatic 87, 3) := by decide +kernel
theorem dL_pieces_355 : decode cL_pieces 355 = .ok (.iload 6, 2) := by decide +kernel
theorem dL_pieces_357 : decode cL_pieces 357 = .ok (.iadd, 1) := by decide +kernel
theorem dL_pieces_358 : decode cL_pieces 358 = .ok (.bipush 80, 2) := by decide +kernel
theorem dL_pieces_360 : decode cL_pieces 360 = .ok (.if_icmp .gt 7, 3) := by decide +kernel
theorem dL_pieces_363 : decode cL_pieces 363 = .ok (.iconst 1, 1) := by decide +kernel
theorem dL_pieces_364 : decode cL_pieces 364 = .ok (.goto 4, 3) := by decide +kernel
theorem dL_pieces_367 : decode cL_pieces 367 = .ok (.iconst 0, 1) := by decide +kernel
theorem dL_pieces_368 : decode cL_pieces 368 = .ok (.istore 7, 2) := by decide +kernel
theorem dL_pieces_370 : decode cL_pieces 370 = .ok (.iinc 9 1, 3) := by decide +kernel
theorem dL_pieces_373 : decode cL_pieces 373 = .ok (.goto (-54), 3) := by decide +kernel
theorem dL_pieces_376 : decode cL_pieces 376 = .ok (.aload_n 0, 1) := by decide +kernel
theorem dL_pieces_377 : decode cL_pieces 377 = .ok (.iload 5, 2) := by decide +kernel
theorem dL_pieces_379 : decode cL_pieces 379 = .ok (.iload 6, 2) := by decide +kernel
theorem dL_pieces_381 : decode cL_pieces 381 = .ok (.invokestatic 129, 3) := by decide +kernel
theorem dL_pieces_384 : decode cL_pieces 384 = .ok (.iload 7, 2) := by decide +kernel
theorem dL_pieces_386 : decode cL_pieces 386 = .ok (.ifCond .eq 7, 3) := by decide +kernel
theorem dL_pieces_389 : decode cL_pieces 389 = .ok (.iconst 0, 1) := by decide +kernel
theorem dL_pieces_390 : decode cL_pieces 390 = .ok (.goto 5, 3) := by decide +kernel
theorem dL_pieces_393 : decode cL_pieces 393 = .ok (.ldc 18, 2) := by decide +kernel
theorem dL_pieces_395 : decode cL_pieces 395 = .ok (.if_icmp .ne 79, 3) := by decide +kernel
theorem dL_pieces_398 : decode cL_pieces 398 = .ok (.aload_n 1, 1) := by decide +kernel
theorem dL_pieces_399 : decode cL_pieces 399 = .ok (.iload 5, 2) := by decide +kernel
theorem dL_pieces_401 : decode cL_pieces 401 = .ok (.iaload, 1) := by decide +kernel
theorem dL_pieces_402 : decode cL_pieces 402 = .ok (.ifCond .eq 28, 3) := by decide +kernel
theorem dL_pieces_405 : decode cL_pieces 405 = .ok (.aload_n 0, 1) := by decide +kernel
theorem dL_pieces_406 : decode cL_pieces 406 = .ok (.iload 5, 2) := by decide +kernel
theorem dL_pieces_408 : decode cL_pieces 408 = .ok (.iconst 0, 1) := by decide +kernel
theorem dL_pieces_409 : decode cL_pieces 409 = .ok (.invokestatic 87, 3) := by decide +kernel
theorem dL_pieces_412 : decode cL_pieces 412 = .ok (.iload 7, 2) := by decide +kernel
theorem dL_pieces_414 : decode cL_pieces 414 = .ok (.ifCond .eq 11, 3) := by decide +kernel
theorem dL_pieces_417 : decode cL_pieces 417 = .ok (.iload 8, 2) := by decide +kernel
theorem dL_pieces_419 : decode cL_pieces 419 = .ok (.iload 6, 2) := by decide +kernel
theorem dL_pieces_421 : decode cL_pieces 421 = .ok (.iadd, 1) := by decide +kernel
theorem dL_pieces_422 : decode cL_pieces 422 = .ok (.goto 5, 3) := by decide +kernel
theorem dL_pieces_425 : decode cL_pieces 425 = .ok (.iload 8, 2) := by decide +kernel
theorem dL_pieces_427 : decode cL_pieces 427 = .ok (.if_icmp .ne 47, 3) := by decide +kernel
theorem dL_pieces_430 : decode cL_pieces 430 = .ok (.aload_n 0, 1) := by decide +kernel
theorem dL_pieces_431 : decode cL_pieces 431 = .ok (.iload 5, 2) := by decide +kernel
theorem dL_pieces_433 : decode cL_pieces 433 = .ok (.bipush 41, 2) := by decide +kernel
theorem dL_pieces_435 : decode cL_pieces 435 = .ok (.invokestatic 129, 3) := by decide +kernel
theorem dL_pieces_438 : decode cL_pieces 438 = .ok (.ldc 28, 2) := by decide +kernel
theorem dL_pieces_440 : decode cL_pieces 440 = .ok (.if_icmp .ne 34, 3) := by decide +kernel
theorem dL_pieces_443 : decode cL_pieces 443 = .ok (.aload_n 0, 1) := by decide +kernel
theorem dL_pieces_444 : decode cL_pieces 444 = .ok (.iload 5, 2) := by decide +kernel
theorem dL_pieces_446 : decode cL_pieces 446 = .ok (.bipush (-41), 2) := by decide +kernel
theorem dL_pieces_448 : decode cL_pieces 448 = .ok (.invokestatic 129, 3) := by decide +kernel
theorem dL_pieces_451 : decode cL_pieces 451 = .ok (.ldc 28, 2) := by decide +kernel
theorem dL_pieces_453 : decode cL_pieces 453 = .ok (.if_icmp .ne 21, 3) := by decide +kernel
theorem dL_pieces_456 : decode cL_pieces 456 = .ok (.aload_n 0, 1) := by decide +kernel
theorem dL_pieces_457 : decode cL_pieces 457 = .ok (.aload_n 2, 1) := by decide +kernel
theorem dL_pieces_458 : decode cL_pieces 458 = .ok (.iconst 0, 1) := by decide +kernel
theorem dL_pieces_459 : decode cL_pieces 459 = .ok (.iaload, 1) := by decide +kernel
theorem dL_pieces_460 : decode cL_pieces 460 = .ok (.bipush 41, 2) := by decide +kernel
theorem dL_pieces_462 : decode cL_pieces 462 = .ok (.invokestatic 129, 3) := by decide +kernel
theorem dL_pieces_465 : decode cL_pieces 465 = .ok (.ldc 25, 2) := by decide +kernel
theorem dL_pieces_467 : decode cL_pieces 467 = .ok (.if_icmp .ne 7, 3) := by decide +kernel
theorem dL_pieces_470 : decode cL_pieces 470 = .ok (.iconst 1, 1) := by decide +kernel
theorem dL_pieces_471 : decode cL_pieces 471 = .ok (.goto 4, 3) := by decide +kernel
theorem dL_pieces_474 : decode cL_pieces 474 = .ok (.iconst 0, 1) := by decide +kernel
theorem dL_pieces_475 : decode cL_pieces 475 = .ok (.ireturn, 1) := by decide +kernel
theorem dL_orders_0 : decode cL_orders 0 = .ok (.iload 5, 2) := by decide +kernel
theorem dL_orders_2 : decode cL_orders 2 = .ok (.iconst 3, 1) := by decide +kernel
theorem dL_orders_3 : decode cL_orders 3 = .ok (.invokestatic 121, 3) := by decide +kernel
theorem dL_orders_6 : decode cL_orders 6 = .ok (.istore 6, 2) := by decide +kernel
theorem dL_orders_8 : decode cL_orders 8 = .ok (.iload 5, 2) := by decide +kernel
theorem dL_orders_10 : decode cL_orders 10 = .ok (.iconst 2, 1) := by decide +kernel
theorem dL_orders_11 : decode cL_orders 11 = .ok (.ishr, 1) := by decide +kernel
theorem dL_orders_12 : decode cL_orders 12 = .ok (.iconst 4, 1) := by decide +kernel
theorem dL_orders_13 : decode cL_orders 13 = .ok (.invokestatic 121, 3) := by decide +kernel
theorem dL_orders_16 : decode cL_orders 16 = .ok (.istore 7, 2) := by decide +kernel
theorem dL_orders_18 : decode cL_orders 18 = .ok (.iconst 4, 1) := by decide +kernel
theorem dL_orders_19 : decode cL_orders 19 = .ok (.iload 5, 2) := by decide +kernel
theorem dL_orders_21 : decode cL_orders 21 = .ok (.iconst 4, 1) := by decide +kernel
theorem dL_orders_22 : decode cL_orders 22 = .ok (.ishr, 1) := by decide +kernel
theorem dL_orders_23 : decode cL_orders 23 = .ok (.bipush 13, 2) := by decide +kernel
theorem dL_orders_25 : decode cL_orders 25 = .ok (.invokestatic 121, 3) := by decide +kernel
theorem dL_orders_28 : decode cL_orders 28 = .ok (.iadd, 1) := by decide +kernel
theorem dL_orders_29 : decode cL_orders 29 = .ok (.istore 8, 2) := by decide +kernel
theorem dL_orders_31 : decode cL_orders 31 = .ok (.iconst 0, 1) := by decide +kernel
theorem dL_orders_32 : decode cL_orders 32 = .ok (.istore 9, 2) := by decide +kernel
theorem dL_orders_34 : decode cL_orders 34 = .ok (.iconst 0, 1) := by decide +kernel
theorem dL_orders_35 : decode cL_orders 35 = .ok (.istore 10, 2) := by decide +kernel
theorem dL_orders_37 : decode cL_orders 37 = .ok (.iload 10, 2) := by decide +kernel
theorem dL_orders_39 : decode cL_orders 39 = .ok (.aload_n 3, 1) := by decide +kernel
theorem dL_orders_40 : decode cL_orders 40 = .ok (.iconst 2, 1) := by decide +kernel
theorem dL_orders_41 : decode cL_orders 41 = .ok (.iaload, 1) := by decide +kernel
theorem dL_orders_42 : decode cL_orders 42 = .ok (.if_icmp .ge 41, 3) := by decide +kernel
theorem dL_orders_45 : decode cL_orders 45 = .ok (.iload 9, 2) := by decide +kernel
theorem dL_orders_47 : decode cL_orders 47 = .ok (.aload_n 1, 1) := by decide +kernel
theorem dL_orders_48 : decode cL_orders 48 = .ok (.iload 10, 2) := by decide +kernel
theorem dL_orders_50 : decode cL_orders 50 = .ok (.iaload, 1) := by decide +kernel
theorem dL_orders_51 : decode cL_orders 51 = .ok (.sipush 256, 3) := by decide +kernel
theorem dL_orders_54 : decode cL_orders 54 = .ok (.if_icmp .ge 19, 3) := by decide +kernel
theorem dL_orders_57 : decode cL_orders 57 = .ok (.aload_n 0, 1) := by decide +kernel
theorem dL_orders_58 : decode cL_orders 58 = .ok (.iload 10, 2) := by decide +kernel
theorem dL_orders_60 : decode cL_orders 60 = .ok (.invokestatic 131, 3) := by decide +kernel
theorem dL_orders_63 : decode cL_orders 63 = .ok (.aload_n 3, 1) := by decide +kernel
theorem dL_orders_64 : decode cL_orders 64 = .ok (.iconst 3, 1) := by decide +kernel
theorem dL_orders_65 : decode cL_orders 65 = .ok (.iaload, 1) := by decide +kernel
theorem dL_orders_66 : decode cL_orders 66 = .ok (.if_icmp .le 7, 3) := by decide +kernel
theorem dL_orders_69 : decode cL_orders 69 = .ok (.iconst 1, 1) := by decide +kernel
theorem dL_orders_70 : decode cL_orders 70 = .ok (.goto 4, 3) := by decide +kernel
theorem dL_orders_73 : decode cL_orders 73 = .ok (.iconst 0, 1) := by decide +kernel
theorem dL_orders_74 : decode cL_orders 74 = .ok (.iadd, 1) := by decide +kernel
theorem dL_orders_75 : decode cL_orders 75 = .ok (.istore 9, 2) := by decide +kernel
theorem dL_orders_77 : decode cL_orders 77 = .ok (.iinc 10 1, 3) := by decide +kernel
theorem dL_orders_80 : decode cL_orders 80 = .ok (.goto (-43), 3) := by decide +kernel
theorem dL_orders_83 : decode cL_orders 83 = .ok (.aload_n 2, 1) := by decide +kernel
theorem dL_orders_84 : decode cL_orders 84 = .ok (.iload 7, 2) := by decide +kernel
theorem dL_orders_86 : decode cL_orders 86 = .ok (.iaload, 1) := by decide +kernel
theorem dL_orders_87 : decode cL_orders 87 = .ok (.iconst 2, 1) := by decide +kernel
theorem dL_orders_88 : decode cL_orders 88 = .ok (.if_icmp .le 21, 3) := by decide +kernel
theorem dL_orders_91 : decode cL_orders 91 = .ok (.iload 9, 2) := by decide +kernel
theorem dL_orders_93 : decode cL_orders 93 = .ok (.iconst 2, 1) := by decide +kernel
theorem dL_orders_94 : decode cL_orders 94 = .ok (.if_icmp .ge 15, 3) := by decide +kernel
theorem dL_orders_97 : decode cL_orders 97 = .ok (.aload_n 3, 1) := by decide +kernel
theorem dL_orders_98 : decode cL_orders 98 = .ok (.iconst 2, 1) := by decide +kernel
theorem dL_orders_99 : decode cL_orders 99 = .ok (.iaload, 1) := by decide +kernel
theorem dL_orders_100 : decode cL_orders 100 = .ok (.bipush 20, 2) := by decide +kernel
theorem dL_orders_102 : decode cL_orders 102 = .ok (.if_icmp .ge 7, 3) := by decide +kernel
theorem dL_orders_105 : decode cL_orders 105 = .ok (.iconst 1, 1) := by decide +kernel
theorem dL_orders_106 : decode cL_orders 106 = .ok (.goto 4, 3) := by decide +kernel
theorem dL_orders_109 : decode cL_orders 109 = .ok (.iconst 0, 1) := by decide +kernel
theorem dL_orders_110 : decode cL_orders 110 = .ok (.istore 10, 2) := by decide +kernel
theorem dL_orders_112 : decode cL_orders 112 = .ok (.iload 10, 2) := by decide +kernel
theorem dL_orders_114 : decode cL_orders 114 = .ok (.ifCond .eq 9, 3) := by decide +kernel
theorem dL_orders_117 : decode cL_orders 117 = .ok (.aload_n 3, 1) := by decide +kernel
theorem dL_orders_118 : decode cL_orders 118 = .ok (.iconst 2, 1) := by decide +kernel
theorem dL_orders_119 : decode cL_orders 119 = .ok (.iaload, 1) := by decide +kernel
theorem dL_orders_120 : decode cL_orders 120 = .ok (.goto 5, 3) := by decide +kernel
theorem dL_orders_123 : decode cL_orders 123 = .ok (.ldc 18, 2) := by decide +kernel
theorem dL_orders_125 : decode cL_orders 125 = .ok (.istore 11, 2) := by decide +kernel
theorem dL_orders_127 : decode cL_orders 127 = .ok (.iload 10, 2) := by decide +kernel
theorem dL_orders_129 : decode cL_orders 129 = .ok (.ifCond .eq 30, 3) := by decide +kernel
theorem dL_orders_132 : decode cL_orders 132 = .ok (.aload_n 2, 1) := by decide +kernel
theorem dL_orders_133 : decode cL_orders 133 = .ok (.iload 7, 2) := by decide +kernel
theorem dL_orders_135 : decode cL_orders 135 = .ok (.dup2, 1) := by decide +kernel
theorem dL_orders_136 : decode cL_orders 136 = .ok (.iaload, 1) := by decide +kernel
theorem dL_orders_137 : decode cL_orders 137 = .ok (.iconst 3, 1) := by decide +kernel
theorem dL_orders_138 : decode cL_orders 138 = .ok (.isub, 1) := by decide +kernel
theorem dL_orders_139 : decode cL_orders 139 = .ok (.iastore, 1) := by decide +kernel
theorem dL_orders_140 : decode cL_orders 140 = .ok (.aload_n 1, 1) := by decide +kernel
theorem dL_orders_141 : decode cL_orders 141 = .ok (.iload 11, 2) := by decide +kernel
theorem dL_orders_143 : decode cL_orders 143 = .ok (.iload 6, 2) := by decide +kernel
theorem dL_orders_145 : decode cL_orders 145 = .ok (.bipush 8, 2) := by decide +kernel
theorem dL_orders_147 : decode cL_orders 147 = .ok (.iload 8, 2) := by decide +kernel
theorem dL_orders_149 : decode cL_orders 149 = .ok (.imul, 1) := by decide +kernel
theorem dL_orders_150 : decode cL_orders 150 = .ok (.iadd, 1) := by decide +kernel
theorem dL_orders_151 : decode cL_orders 151 = .ok (.iastore, 1) := by decide +kernel
theorem dL_orders_152 : decode cL_orders 152 = .ok (.aload_n 3, 1) := by decide +kernel
theorem dL_orders_153 : decode cL_orders 153 = .ok (.iconst 2, 1) := by decide +kernel
theorem dL_orders_154 : decode cL_orders 154 = .ok (.dup2, 1) := by decide +kernel
theorem dL_orders_155 : decode cL_orders 155 = .ok (.iaload, 1) := by decide +kernel
theorem dL_orders_156 : decode cL_orders 156 = .ok (.iconst 1, 1) := by decide +kernel
theorem dL_orders_157 : decode cL_orders 157 = .ok (.iadd, 1) := by decide +kernel
theorem dL_orders_158 : decode cL_orders 158 = .ok (.iastore, 1) := by decide +kernel
theorem dL_orders_159 : decode cL_orders 159 = .ok (.aload_n 0, 1) := by decide +kernel
theorem dL_orders_160 : decode cL_orders 160 = .ok (.iload 6, 2) := by decide +kernel
theorem dL_orders_162 : decode cL_orders 162 = .ok (.iload 7, 2) := by decide +kernel
theorem dL_orders_164 : decode cL_orders 164 = .ok (.iload 8, 2) := by decide +kernel
theorem dL_orders_166 : decode cL_orders 166 = .ok (.invokestatic 133, 3) := by decide +kernel
theorem dL_orders_169 : decode cL_orders 169 = .ok (.iload 11, 2) := by decide +kernel
theorem dL_orders_171 : decode cL_orders 171 = .ok (.if_icmp .ne 82, 3) := by decide +kernel
theorem dL_orders_174 : decode cL_orders 174 = .ok (.aload_n 0, 1) := by decide +kernel
theorem dL_orders_175 : decode cL_orders 175 = .ok (.iload 6, 2) := by decide +kernel
theorem dL_orders_177 : decode cL_orders 177 = .ok (.iload 7, 2) := by decide +kernel
theorem dL_orders_179 : decode cL_orders 179 = .ok (.iconst 3, 1) := by decide +kernel
theorem dL_orders_180 : decode cL_orders 180 = .ok (.invokestatic 133, 3) := by decide +kernel
theorem dL_orders_183 : decode cL_orders 183 = .ok (.ldc 28, 2) := by decide +kernel
theorem dL_orders_185 : decode cL_orders 185 = .ok (.if_icmp .ne 68, 3) := by decide +kernel
theorem dL_orders_188 : decode cL_orders 188 = .ok (.aload_n 0, 1) := by decide +kernel
theorem dL_orders_189 : decode cL_orders 189 = .ok (.iload 6, 2) := by decide +kernel
theorem dL_orders_191 : decode cL_orders 191 = .ok (.iload 7, 2) := by decide +kernel
theorem dL_orders_193 : decode cL_orders 193 = .ok (.bipush 17, 2) := by decide +kernel
theorem dL_orders_195 : decode cL_orders 195 = .ok (.invokestatic 133, 3) := by decide +kernel
theorem dL_orders_198 : decode cL_orders 198 = .ok (.ldc 28, 2) := by decide +kernel
theorem dL_orders_200 : decode cL_orders 200 = .ok (.if_icmp .ne 53, 3) := by decide +kernel
theorem dL_orders_203 : decode cL_orders 203 = .ok (.aload_n 0, 1) := by decide +kernel
theorem dL_orders_204 : decode cL_orders 204 = .ok (.iconst 5, 1) := by decide +kernel
theorem dL_orders_205 : decode cL_orders 205 = .ok (.iconst 0, 1) := by decide +kernel
theorem dL_orders_206 : decode cL_orders 206 = .ok (.iconst 4, 1) := by decide +kernel
theorem dL_orders_207 : decode cL_orders 207 = .ok (.invokestatic 133, 3) := by decide +kernel
theorem dL_orders_210 : decode cL_orders 210 = .ok (.ldc 28, 2) := by decide +kernel
theorem dL_orders_212 : decode cL_orders 212 = .ok (.if_icmp .ne 41, 3) := by decide +kernel
theorem dL_orders_215 : decode cL_orders 215 = .ok (.aload_n 0, 1) := by decide +kernel
theorem dL_orders_216 : decode cL_orders 216 = .ok (.iconst 0, 1) := by decide +kernel
theorem dL_orders_217 : decode cL_orders 217 = .ok (.iconst 4, 1) := by decide +kernel
theorem dL_orders_218 : decode cL_orders 218 = .ok (.iconst 4, 1) := by decide +kernel
theorem dL_orders_219 : decode cL_orders 219 = .ok (.invokestatic 133, 3) := by decide +kernel
theorem dL_orders_222 : decode cL_orders 222 = .ok (.ldc 28, 2) := by decide +kernel
theorem dL_orders_224 : decode cL_orders 224 = .ok (.if_icmp .ne 29, 3) := by decide +kernel
theorem dL_orders_227 : decode cL_orders 227 = .ok (.iload 11, 2) := by decide +kernel
theorem dL_orders_229 : decode cL_orders 229 = .ok (.ifCond .lt 20, 3) := by decide +kernel
theorem dL_orders_232 : decode cL_orders 232 = .ok (.aload_n 0, 1) := by decide +kernel
theorem dL_orders_233 : decode cL_orders 233 = .ok (.iload 11, 2) := by decide +kernel
theorem dL_orders_235 : decode cL_orders 235 = .ok (.invokestatic 131, 3) := by decide +kernel
theorem dL_orders_238 : decode cL_orders 238 = .ok (.aload_n 3, 1) := by decide +kernel
theorem dL_orders_239 : decode cL_orders 239 = .ok (.iconst 3, 1) := by decide +kernel
theorem dL_orders_240 : decode cL_orders 240 = .ok (.iaload, 1) := by decide +kernel
theorem dL_orders_241 : decode cL_orders 241 = .ok (.iconst 2, 1) := by decide +kernel
theorem dL_orders_242 : decode cL_orders 242 = .ok (.iload 8, 2) := by decide +kernel
theorem dL_orders_244 : decode cL_orders 244 = .ok (.imul, 1) := by decide +kernel
theorem dL_orders_245 : decode cL_orders 245 = .ok (.iadd, 1) := by decide +kernel
theorem dL_orders_246 : decode cL_orders 246 = .ok (.if_icmp .ne 7, 3) := by decide +kernel
theorem dL_orders_249 : decode cL_orders 249 = .ok (.iconst 1, 1) := by decide +kernel
theorem dL_orders_250 : decode cL_orders 250 = .ok (.goto 4, 3) := by decide +kernel
theorem dL_orders_253 : decode cL_orders 253 = .ok (.iconst 0, 1) := by decide +kernel
theorem dL_orders_254 : decode cL_orders 254 = .ok (.ireturn, 1) := by decide +kernel
theorem dL_fetches_0 : decode cL_fetches 0 = .ok (.aload 4, 2) := by decide +kernel
theorem dL_fetches_2 : decode cL_fetches 2 = .ok (.iconst 2, 1) := by decide +kernel
theorem dL_fetches_3 : decode cL_fetches 3 = .ok (.iaload, 1) := by decide +kernel
theorem dL_fetches_4 : decode cL_fetches 4 = .ok (.ifCond .ne 34, 3) := by decide +kernel
theorem dL_fetches_7 : decode cL_fetches 7 = .ok (.aload_n 0, 1) := by decide +kernel
theorem dL_fetches_8 : decode cL_fetches 8 = .ok (.iconst 0, 1) := by decide +kernel
theorem dL_fetches_9 : decode cL_fetches 9 = .ok (.iconst 0, 1) := by decide +kernel
theorem dL_fetches_10 : decode cL_fetches 10 = .ok (.iconst 0, 1) := by decide +kernel
theorem dL_fetches_11 : decode cL_fetches 11 = .ok (.iconst 0, 1) := by decide +kernel
theorem dL_fetches_12 : decode cL_fetches 12 = .ok (.bipush 61, 2) := by decide +kernel
theorem dL_fetches_14 : decode cL_fetches 14 = .ok (.invokestatic 135, 3) := by decide +kernel
theorem dL_fetches_17 : decode cL_fetches 17 = .ok (.ldc 25, 2) := by decide +kernel
theorem dL_fetches_19 : decode cL_fetches 19 = .ok (.if_icmp .ne 17, 3) := by decide +kernel
theorem dL_fetches_22 : decode cL_fetches 22 = .ok (.aload_n 0, 1) := by decide +kernel
theorem dL_fetches_23 : decode cL_fetches 23 = .ok (.iconst 0, 1) := by decide +kernel
theorem dL_fetches_24 : decode cL_fetches 24 = .ok (.invokestatic 131, 3) := by decide +kernel
theorem dL_fetches_27 : decode cL_fetches 27 = .ok (.ldc 25, 2) := by decide +kernel
theorem dL_fetches_29 : decode cL_fetches 29 = .ok (.if_icmp .ne 7, 3) := by decide +kernel
theorem dL_fetches_32 : decode cL_fetches 32 = .ok (.iconst 1, 1) := by decide +kernel
theorem dL_fetches_33 : decode cL_fetches 33 = .ok (.goto 4, 3) := by decide +kernel
theorem dL_fetches_36 : decode cL_fetches 36 = .ok (.iconst 0, 1) := by decide +kernel
theorem dL_fetches_37 : decode cL_fetches 37 = .ok (.ireturn, 1) := by decide +kernel
theorem dL_fetches_38 : decode cL_fetches 38 = .ok (.iload 5, 2) := by decide +kernel
end
section
theorem dL_fetches_40 : decode cL_fetches 40 = .ok (.aload 4, 2) := by decide +kernel
theorem dL_fetches_42 : decode cL_fetches 42 = .ok (.iconst 2, 1) := by decide +kernel
theorem dL_fetches_43 : decode cL_fetches 43 = .ok (.iaload, 1) := by decide +kernel
theorem dL_fetches_44 : decode cL_fetches 44 = .ok (.invokestatic 121, 3) := by decide +kernel
theorem dL_fetches_47 : decode cL_fetches 47 = .ok (.istore 7, 2) := by decide +kernel
theorem dL_fetches_49 : decode cL_fetches 49 = .ok (.iconst 0, 1) := by decide +kernel
theorem dL_fetches_50 : decode cL_fetches 50 = .ok (.istore 8, 2) := by decide +kernel
theorem dL_fetches_52 : decode cL_fetches 52 = .ok (.iload 8, 2) := by decide +kernel
theorem dL_fetches_54 : decode cL_fetches 54 = .ok (.aload 4, 2) := by decide +kernel
theorem dL_fetches_56 : decode cL_fetches 56 = .ok (.iconst 2, 1) := by decide +kernel
theorem dL_fetches_57 : decode cL_fetches 57 = .ok (.iaload, 1) := by decide +kernel
theorem dL_fetches_58 : decode cL_fetches 58 = .ok (.if_icmp .ge 40, 3) := by decide +kernel
theorem dL_fetches_61 : decode cL_fetches 61 = .ok (.aload_n 3, 1) := by decide +kernel
theorem dL_fetches_62 : decode cL_fetches 62 = .ok (.iload 7, 2) := by decide +kernel
theorem dL_fetches_64 : decode cL_fetches 64 = .ok (.iaload, 1) := by decide +kernel
theorem dL_fetches_65 : decode cL_fetches 65 = .ok (.sipush 255, 3) := by decide +kernel
theorem dL_fetches_68 : decode cL_fetches 68 = .ok (.if_icmp .le 30, 3) := by decide +kernel
theorem dL_fetches_71 : decode cL_fetches 71 = .ok (.iload 7, 2) := by decide +kernel
theorem dL_fetches_73 : decode cL_fetches 73 = .ok (.iconst 1, 1) := by decide +kernel
theorem dL_fetches_74 : decode cL_fetches 74 = .ok (.iadd, 1) := by decide +kernel
theorem dL_fetches_75 : decode cL_fetches 75 = .ok (.aload 4, 2) := by decide +kernel
theorem dL_fetches_77 : decode cL_fetches 77 = .ok (.iconst 2, 1) := by decide +kernel
theorem dL_fetches_78 : decode cL_fetches 78 = .ok (.iaload, 1) := by decide +kernel
theorem dL_fetches_79 : decode cL_fetches 79 = .ok (.if_icmp .ne 7, 3) := by decide +kernel
theorem dL_fetches_82 : decode cL_fetches 82 = .ok (.iconst 0, 1) := by decide +kernel
theorem dL_fetches_83 : decode cL_fetches 83 = .ok (.goto 7, 3) := by decide +kernel
theorem dL_fetches_86 : decode cL_fetches 86 = .ok (.iload 7, 2) := by decide +kernel
theorem dL_fetches_88 : decode cL_fetches 88 = .ok (.iconst 1, 1) := by decide +kernel
theorem dL_fetches_89 : decode cL_fetches 89 = .ok (.iadd, 1) := by decide +kernel
theorem dL_fetches_90 : decode cL_fetches 90 = .ok (.istore 7, 2) := by decide +kernel
theorem dL_fetches_92 : decode cL_fetches 92 = .ok (.iinc 8 1, 3) := by decide +kernel
theorem dL_fetches_95 : decode cL_fetches 95 = .ok (.goto (-43), 3) := by decide +kernel
theorem dL_fetches_98 : decode cL_fetches 98 = .ok (.aload_n 3, 1) := by decide +kernel
theorem dL_fetches_99 : decode cL_fetches 99 = .ok (.iload 7, 2) := by decide +kernel
theorem dL_fetches_101 : decode cL_fetches 101 = .ok (.iaload, 1) := by decide +kernel
theorem dL_fetches_102 : decode cL_fetches 102 = .ok (.sipush 256, 3) := by decide +kernel
theorem dL_fetches_105 : decode cL_fetches 105 = .ok (.if_icmp .ge 29, 3) := by decide +kernel
theorem dL_fetches_108 : decode cL_fetches 108 = .ok (.aload_n 0, 1) := by decide +kernel
theorem dL_fetches_109 : decode cL_fetches 109 = .ok (.iload 7, 2) := by decide +kernel
theorem dL_fetches_111 : decode cL_fetches 111 = .ok (.invokestatic 131, 3) := by decide +kernel
theorem dL_fetches_114 : decode cL_fetches 114 = .ok (.aload 4, 2) := by decide +kernel
theorem dL_fetches_116 : decode cL_fetches 116 = .ok (.iconst 3, 1) := by decide +kernel
theorem dL_fetches_117 : decode cL_fetches 117 = .ok (.iaload, 1) := by decide +kernel
theorem dL_fetches_118 : decode cL_fetches 118 = .ok (.if_icmp .gt 16, 3) := by decide +kernel
theorem dL_fetches_121 : decode cL_fetches 121 = .ok (.aload 4, 2) := by decide +kernel
theorem dL_fetches_123 : decode cL_fetches 123 = .ok (.iconst 1, 1) := by decide +kernel
theorem dL_fetches_124 : decode cL_fetches 124 = .ok (.iaload, 1) := by decide +kernel
theorem dL_fetches_125 : decode cL_fetches 125 = .ok (.bipush 8, 2) := by decide +kernel
theorem dL_fetches_127 : decode cL_fetches 127 = .ok (.if_icmp .ge 7, 3) := by decide +kernel
theorem dL_fetches_130 : decode cL_fetches 130 = .ok (.iconst 1, 1) := by decide +kernel
theorem dL_fetches_131 : decode cL_fetches 131 = .ok (.goto 4, 3) := by decide +kernel
theorem dL_fetches_134 : decode cL_fetches 134 = .ok (.iconst 0, 1) := by decide +kernel
theorem dL_fetches_135 : decode cL_fetches 135 = .ok (.istore 8, 2) := by decide +kernel
theorem dL_fetches_137 : decode cL_fetches 137 = .ok (.iload 8, 2) := by decide +kernel
theorem dL_fetches_139 : decode cL_fetches 139 = .ok (.ifCond .eq 10, 3) := by decide +kernel
theorem dL_fetches_142 : decode cL_fetches 142 = .ok (.aload 4, 2) := by decide +kernel
theorem dL_fetches_144 : decode cL_fetches 144 = .ok (.iconst 1, 1) := by decide +kernel
theorem dL_fetches_145 : decode cL_fetches 145 = .ok (.iaload, 1) := by decide +kernel
theorem dL_fetches_146 : decode cL_fetches 146 = .ok (.goto 5, 3) := by decide +kernel
theorem dL_fetches_149 : decode cL_fetches 149 = .ok (.ldc 18, 2) := by decide +kernel
theorem dL_fetches_151 : decode cL_fetches 151 = .ok (.istore 9, 2) := by decide +kernel
theorem dL_fetches_153 : decode cL_fetches 153 = .ok (.iload 6, 2) := by decide +kernel
theorem dL_fetches_155 : decode cL_fetches 155 = .ok (.bipush 20, 2) := by decide +kernel
theorem dL_fetches_157 : decode cL_fetches 157 = .ok (.invokestatic 121, 3) := by decide +kernel
theorem dL_fetches_160 : decode cL_fetches 160 = .ok (.istore 10, 2) := by decide +kernel
theorem dL_fetches_162 : decode cL_fetches 162 = .ok (.iload 6, 2) := by decide +kernel
theorem dL_fetches_164 : decode cL_fetches 164 = .ok (.bipush 6, 2) := by decide +kernel
theorem dL_fetches_166 : decode cL_fetches 166 = .ok (.ishr, 1) := by decide +kernel
theorem dL_fetches_167 : decode cL_fetches 167 = .ok (.bipush 8, 2) := by decide +kernel
theorem dL_fetches_169 : decode cL_fetches 169 = .ok (.invokestatic 121, 3) := by decide +kernel
theorem dL_fetches_172 : decode cL_fetches 172 = .ok (.istore 11, 2) := by decide +kernel
theorem dL_fetches_174 : decode cL_fetches 174 = .ok (.iload 8, 2) := by decide +kernel
theorem dL_fetches_176 : decode cL_fetches 176 = .ok (.ifCond .eq 75, 3) := by decide +kernel
theorem dL_fetches_179 : decode cL_fetches 179 = .ok (.iconst 0, 1) := by decide +kernel
theorem dL_fetches_180 : decode cL_fetches 180 = .ok (.istore 12, 2) := by decide +kernel
theorem dL_fetches_182 : decode cL_fetches 182 = .ok (.iload 12, 2) := by decide +kernel
theorem dL_fetches_184 : decode cL_fetches 184 = .ok (.iconst 4, 1) := by decide +kernel
theorem dL_fetches_185 : decode cL_fetches 185 = .ok (.if_icmp .ge 26, 3) := by decide +kernel
theorem dL_fetches_188 : decode cL_fetches 188 = .ok (.aload_n 1, 1) := by decide +kernel
theorem dL_fetches_189 : decode cL_fetches 189 = .ok (.iconst 4, 1) := by decide +kernel
theorem dL_fetches_190 : decode cL_fetches 190 = .ok (.iload 9, 2) := by decide +kernel
theorem dL_fetches_192 : decode cL_fetches 192 = .ok (.imul, 1) := by decide +kernel
theorem dL_fetches_193 : decode cL_fetches 193 = .ok (.iload 12, 2) := by decide +kernel
theorem dL_fetches_195 : decode cL_fetches 195 = .ok (.iadd, 1) := by decide +kernel
theorem dL_fetches_196 : decode cL_fetches 196 = .ok (.iload 10, 2) := by decide +kernel
theorem dL_fetches_198 : decode cL_fetches 198 = .ok (.iload 12, 2) := by decide +kernel
theorem dL_fetches_200 : decode cL_fetches 200 = .ok (.iload 11, 2) := by decide +kernel
theorem dL_fetches_202 : decode cL_fetches 202 = .ok (.imul, 1) := by decide +kernel
theorem dL_fetches_203 : decode cL_fetches 203 = .ok (.iadd, 1) := by decide +kernel
theorem dL_fetches_204 : decode cL_fetches 204 = .ok (.iastore, 1) := by decide +kernel
theorem dL_fetches_205 : decode cL_fetches 205 = .ok (.iinc 12 1, 3) := by decide +kernel
theorem dL_fetches_208 : decode cL_fetches 208 = .ok (.goto (-26), 3) := by decide +kernel
theorem dL_fetches_211 : decode cL_fetches 211 = .ok (.aload_n 2, 1) := by decide +kernel
theorem dL_fetches_212 : decode cL_fetches 212 = .ok (.iload 9, 2) := by decide +kernel
theorem dL_fetches_214 : decode cL_fetches 214 = .ok (.aload_n 3, 1) := by decide +kernel
theorem dL_fetches_215 : decode cL_fetches 215 = .ok (.iload 7, 2) := by decide +kernel
theorem dL_fetches_217 : decode cL_fetches 217 = .ok (.iaload, 1) := by decide +kernel
theorem dL_fetches_218 : decode cL_fetches 218 = .ok (.bipush 8, 2) := by decide +kernel
theorem dL_fetches_220 : decode cL_fetches 220 = .ok (.idiv, 1) := by decide +kernel
theorem dL_fetches_221 : decode cL_fetches 221 = .ok (.bipush 32, 2) := by decide +kernel
theorem dL_fetches_223 : decode cL_fetches 223 = .ok (.aload_n 3, 1) := by decide +kernel
theorem dL_fetches_224 : decode cL_fetches 224 = .ok (.iload 7, 2) := by decide +kernel
theorem dL_fetches_226 : decode cL_fetches 226 = .ok (.iaload, 1) := by decide +kernel
theorem dL_fetches_227 : decode cL_fetches 227 = .ok (.bipush 8, 2) := by decide +kernel
theorem dL_fetches_229 : decode cL_fetches 229 = .ok (.irem, 1) := by decide +kernel
theorem dL_fetches_230 : decode cL_fetches 230 = .ok (.imul, 1) := by decide +kernel
theorem dL_fetches_231 : decode cL_fetches 231 = .ok (.iadd, 1) := by decide +kernel
theorem dL_fetches_232 : decode cL_fetches 232 = .ok (.iastore, 1) := by decide +kernel
theorem dL_fetches_233 : decode cL_fetches 233 = .ok (.aload_n 3, 1) := by decide +kernel
theorem dL_fetches_234 : decode cL_fetches 234 = .ok (.iload 7, 2) := by decide +kernel
theorem dL_fetches_236 : decode cL_fetches 236 = .ok (.dup2, 1) := by decide +kernel
theorem dL_fetches_237 : decode cL_fetches 237 = .ok (.iaload, 1) := by decide +kernel
theorem dL_fetches_238 : decode cL_fetches 238 = .ok (.sipush 256, 3) := by decide +kernel
theorem dL_fetches_241 : decode cL_fetches 241 = .ok (.iadd, 1) := by decide +kernel
theorem dL_fetches_242 : decode cL_fetches 242 = .ok (.iastore, 1) := by decide +kernel
theorem dL_fetches_243 : decode cL_fetches 243 = .ok (.aload 4, 2) := by decide +kernel
theorem dL_fetches_245 : decode cL_fetches 245 = .ok (.iconst 1, 1) := by decide +kernel
theorem dL_fetches_246 : decode cL_fetches 246 = .ok (.dup2, 1) := by decide +kernel
theorem dL_fetches_247 : decode cL_fetches 247 = .ok (.iaload, 1) := by decide +kernel
theorem dL_fetches_248 : decode cL_fetches 248 = .ok (.iconst 1, 1) := by decide +kernel
theorem dL_fetches_249 : decode cL_fetches 249 = .ok (.iadd, 1) := by decide +kernel
theorem dL_fetches_250 : decode cL_fetches 250 = .ok (.iastore, 1) := by decide +kernel
theorem dL_fetches_251 : decode cL_fetches 251 = .ok (.aload_n 0, 1) := by decide +kernel
theorem dL_fetches_252 : decode cL_fetches 252 = .ok (.iload 7, 2) := by decide +kernel
theorem dL_fetches_254 : decode cL_fetches 254 = .ok (.iload 10, 2) := by decide +kernel
theorem dL_fetches_256 : decode cL_fetches 256 = .ok (.iload 10, 2) := by decide +kernel
theorem dL_fetches_258 : decode cL_fetches 258 = .ok (.iload 11, 2) := by decide +kernel
theorem dL_fetches_260 : decode cL_fetches 260 = .ok (.iadd, 1) := by decide +kernel
theorem dL_fetches_261 : decode cL_fetches 261 = .ok (.iload 10, 2) := by decide +kernel
theorem dL_fetches_263 : decode cL_fetches 263 = .ok (.iconst 2, 1) := by decide +kernel
theorem dL_fetches_264 : decode cL_fetches 264 = .ok (.iload 11, 2) := by decide +kernel
theorem dL_fetches_266 : decode cL_fetches 266 = .ok (.imul, 1) := by decide +kernel
theorem dL_fetches_267 : decode cL_fetches 267 = .ok (.iadd, 1) := by decide +kernel
theorem dL_fetches_268 : decode cL_fetches 268 = .ok (.iload 10, 2) := by decide +kernel
theorem dL_fetches_270 : decode cL_fetches 270 = .ok (.iconst 3, 1) := by decide +kernel
theorem dL_fetches_271 : decode cL_fetches 271 = .ok (.iload 11, 2) := by decide +kernel
theorem dL_fetches_273 : decode cL_fetches 273 = .ok (.imul, 1) := by decide +kernel
theorem dL_fetches_274 : decode cL_fetches 274 = .ok (.iadd, 1) := by decide +kernel
theorem dL_fetches_275 : decode cL_fetches 275 = .ok (.invokestatic 135, 3) := by decide +kernel
theorem dL_fetches_278 : decode cL_fetches 278 = .ok (.iload 9, 2) := by decide +kernel
theorem dL_fetches_280 : decode cL_fetches 280 = .ok (.if_icmp .ne 103, 3) := by decide +kernel
theorem dL_fetches_283 : decode cL_fetches 283 = .ok (.aload_n 0, 1) := by decide +kernel
theorem dL_fetches_284 : decode cL_fetches 284 = .ok (.iload 7, 2) := by decide +kernel
theorem dL_fetches_286 : decode cL_fetches 286 = .ok (.iconst 0, 1) := by decide +kernel
theorem dL_fetches_287 : decode cL_fetches 287 = .ok (.iconst 0, 1) := by decide +kernel
theorem dL_fetches_288 : decode cL_fetches 288 = .ok (.iconst (-1), 1) := by decide +kernel
theorem dL_fetches_289 : decode cL_fetches 289 = .ok (.iconst 0, 1) := by decide +kernel
theorem dL_fetches_290 : decode cL_fetches 290 = .ok (.invokestatic 135, 3) := by decide +kernel
theorem dL_fetches_293 : decode cL_fetches 293 = .ok (.ldc 28, 2) := by decide +kernel
theorem dL_fetches_295 : decode cL_fetches 295 = .ok (.if_icmp .ne 88, 3) := by decide +kernel
theorem dL_fetches_298 : decode cL_fetches 298 = .ok (.aload_n 0, 1) := by decide +kernel
theorem dL_fetches_299 : decode cL_fetches 299 = .ok (.iload 7, 2) := by decide +kernel
theorem dL_fetches_301 : decode cL_fetches 301 = .ok (.bipush 61, 2) := by decide +kernel
theorem dL_fetches_303 : decode cL_fetches 303 = .ok (.iconst 0, 1) := by decide +kernel
theorem dL_fetches_304 : decode cL_fetches 304 = .ok (.iconst 0, 1) := by decide +kernel
theorem dL_fetches_305 : decode cL_fetches 305 = .ok (.iconst 0, 1) := by decide +kernel
theorem dL_fetches_306 : decode cL_fetches 306 = .ok (.invokestatic 135, 3) := by decide +kernel
theorem dL_fetches_309 : decode cL_fetches 309 = .ok (.ldc 28, 2) := by decide +kernel
theorem dL_fetches_311 : decode cL_fetches 311 = .ok (.if_icmp .ne 72, 3) := by decide +kernel
theorem dL_fetches_314 : decode cL_fetches 314 = .ok (.aload_n 0, 1) := by decide +kernel
theorem dL_fetches_315 : decode cL_fetches 315 = .ok (.aload 4, 2) := by decide +kernel
theorem dL_fetches_317 : decode cL_fetches 317 = .ok (.iconst 2, 1) := by decide +kernel
theorem dL_fetches_318 : decode cL_fetches 318 = .ok (.iaload, 1) := by decide +kernel
theorem dL_fetches_319 : decode cL_fetches 319 = .ok (.iconst 0, 1) := by decide +kernel
theorem dL_fetches_320 : decode cL_fetches 320 = .ok (.iconst 0, 1) := by decide +kernel
theorem dL_fetches_321 : decode cL_fetches 321 = .ok (.iconst 0, 1) := by decide +kernel
theorem dL_fetches_322 : decode cL_fetches 322 = .ok (.bipush 61, 2) := by decide +kernel
theorem dL_fetches_324 : decode cL_fetches 324 = .ok (.invokestatic 135, 3) := by decide +kernel
theorem dL_fetches_327 : decode cL_fetches 327 = .ok (.ldc 25, 2) := by decide +kernel
theorem dL_fetches_329 : decode cL_fetches 329 = .ok (.if_icmp .ne 54, 3) := by decide +kernel
theorem dL_fetches_332 : decode cL_fetches 332 = .ok (.aload_n 0, 1) := by decide +kernel
theorem dL_fetches_333 : decode cL_fetches 333 = .ok (.iload 7, 2) := by decide +kernel
theorem dL_fetches_335 : decode cL_fetches 335 = .ok (.iconst 0, 1) := by decide +kernel
theorem dL_fetches_336 : decode cL_fetches 336 = .ok (.iconst 0, 1) := by decide +kernel
theorem dL_fetches_337 : decode cL_fetches 337 = .ok (.iconst 0, 1) := by decide +kernel
theorem dL_fetches_338 : decode cL_fetches 338 = .ok (.iconst 0, 1) := by decide +kernel
theorem dL_fetches_339 : decode cL_fetches 339 = .ok (.invokestatic 135, 3) := by decide +kernel
theorem dL_fetches_342 : decode cL_fetches 342 = .ok (.ldc 18, 2) := by decide +kernel
theorem dL_fetches_344 : decode cL_fetches 344 = .ok (.if_icmp .ne 39, 3) := by decide +kernel
theorem dL_fetches_347 : decode cL_fetches 347 = .ok (.aload_n 0, 1) := by decide +kernel
theorem dL_fetches_348 : decode cL_fetches 348 = .ok (.invokevirtual 138, 3) := by decide +kernel
theorem dL_fetches_351 : decode cL_fetches 351 = .ok (.aload 4, 2) := by decide +kernel
theorem dL_fetches_353 : decode cL_fetches 353 = .ok (.iconst 1, 1) := by decide +kernel
theorem dL_fetches_354 : decode cL_fetches 354 = .ok (.iaload, 1) := by decide +kernel
theorem dL_fetches_355 : decode cL_fetches 355 = .ok (.if_icmp .ne 28, 3) := by decide +kernel
theorem dL_fetches_358 : decode cL_fetches 358 = .ok (.iload 9, 2) := by decide +kernel
theorem dL_fetches_360 : decode cL_fetches 360 = .ok (.ifCond .lt 19, 3) := by decide +kernel
theorem dL_fetches_363 : decode cL_fetches 363 = .ok (.aload_n 0, 1) := by decide +kernel
theorem dL_fetches_364 : decode cL_fetches 364 = .ok (.iload 9, 2) := by decide +kernel
theorem dL_fetches_366 : decode cL_fetches 366 = .ok (.invokestatic 117, 3) := by decide +kernel
theorem dL_fetches_369 : decode cL_fetches 369 = .ok (.aload_n 2, 1) := by decide +kernel
theorem dL_fetches_370 : decode cL_fetches 370 = .ok (.iload 9, 2) := by decide +kernel
theorem dL_fetches_372 : decode cL_fetches 372 = .ok (.iaload, 1) := by decide +kernel
theorem dL_fetches_373 : decode cL_fetches 373 = .ok (.bipush 32, 2) := by decide +kernel
theorem dL_fetches_375 : decode cL_fetches 375 = .ok (.idiv, 1) := by decide +kernel
theorem dL_fetches_376 : decode cL_fetches 376 = .ok (.if_icmp .ne 7, 3) := by decide +kernel
theorem dL_fetches_379 : decode cL_fetches 379 = .ok (.iconst 1, 1) := by decide +kernel
theorem dL_fetches_380 : decode cL_fetches 380 = .ok (.goto 4, 3) := by decide +kernel
theorem dL_fetches_383 : decode cL_fetches 383 = .ok (.iconst 0, 1) := by decide +kernel
theorem dL_fetches_384 : decode cL_fetches 384 = .ok (.ireturn, 1) := by decide +kernel
theorem dL_acts_0 : decode cL_acts 0 = .ok (.iload 7, 2) := by decide +kernel
theorem dL_acts_2 : decode cL_acts 2 = .ok (.bipush 30, 2) := by decide +kernel
theorem dL_acts_4 : decode cL_acts 4 = .ok (.invokestatic 121, 3) := by decide +kernel
theorem dL_acts_7 : decode cL_acts 7 = .ok (.istore 9, 2) := by decide +kernel
theorem dL_acts_9 : decode cL_acts 9 = .ok (.iload 9, 2) := by decide +kernel
theorem dL_acts_11 : decode cL_acts 11 = .ok (.bipush 12, 2) := by decide +kernel
theorem dL_acts_13 : decode cL_acts 13 = .ok (.if_icmp .ge 17, 3) := by decide +kernel
theorem dL_acts_16 : decode cL_acts 16 = .ok (.aload_n 0, 1) := by decide +kernel
theorem dL_acts_17 : decode cL_acts 17 = .ok (.aload_n 1, 1) := by decide +kernel
theorem dL_acts_18 : decode cL_acts 18 = .ok (.aload 6, 2) := by decide +kernel
theorem dL_acts_20 : decode cL_acts 20 = .ok (.iload 7, 2) := by decide +kernel
theorem dL_acts_22 : decode cL_acts 22 = .ok (.iconst 5, 1) := by decide +kernel
theorem dL_acts_23 : decode cL_acts 23 = .ok (.ishr, 1) := by decide +kernel
theorem dL_acts_24 : decode cL_acts 24 = .ok (.iload 8, 2) := by decide +kernel
theorem dL_acts_26 : decode cL_acts 26 = .ok (.invokestatic 141, 3) := by decide +kernel
theorem dL_acts_29 : decode cL_acts 29 = .ok (.ireturn, 1) := by decide +kernel
theorem dL_acts_30 : decode cL_acts 30 = .ok (.iload 9, 2) := by decide +kernel
theorem dL_acts_32 : decode cL_acts 32 = .ok (.bipush 14, 2) := by decide +kernel
theorem dL_acts_34 : decode cL_acts 34 = .ok (.if_icmp .ge 92, 3) := by decide +kernel
theorem dL_acts_37 : decode cL_acts 37 = .ok (.iload 8, 2) := by decide +kernel
theorem dL_acts_39 : decode cL_acts 39 = .ok (.iconst 4, 1) := by decide +kernel
theorem dL_acts_40 : decode cL_acts 40 = .ok (.invokestatic 121, 3) := by decide +kernel
theorem dL_acts_43 : decode cL_acts 43 = .ok (.istore 10, 2) := by decide +kernel
theorem dL_acts_45 : decode cL_acts 45 = .ok (.iconst 1, 1) := by decide +kernel
theorem dL_acts_46 : decode cL_acts 46 = .ok (.iload 8, 2) := by decide +kernel
theorem dL_acts_48 : decode cL_acts 48 = .ok (.iconst 2, 1) := by decide +kernel
theorem dL_acts_49 : decode cL_acts 49 = .ok (.ishr, 1) := by decide +kernel
theorem dL_acts_50 : decode cL_acts 50 = .ok (.bipush 20, 2) := by decide +kernel
theorem dL_acts_52 : decode cL_acts 52 = .ok (.invokestatic 121, 3) := by decide +kernel
theorem dL_acts_55 : decode cL_acts 55 = .ok (.iadd, 1) := by decide +kernel
theorem dL_acts_56 : decode cL_acts 56 = .ok (.istore 11, 2) := by decide +kernel
theorem dL_acts_58 : decode cL_acts 58 = .ok (.aload 5, 2) := by decide +kernel
theorem dL_acts_60 : decode cL_acts 60 = .ok (.iload 10, 2) := by decide +kernel
theorem dL_acts_62 : decode cL_acts 62 = .ok (.dup2, 1) := by decide +kernel
theorem dL_acts_63 : decode cL_acts 63 = .ok (.iaload, 1) := by decide +kernel
theorem dL_acts_64 : decode cL_acts 64 = .ok (.iload 11, 2) := by decide +kernel
theorem dL_acts_66 : decode cL_acts 66 = .ok (.iadd, 1) := by decide +kernel
theorem dL_acts_67 : decode cL_acts 67 = .ok (.iastore, 1) := by decide +kernel
theorem dL_acts_68 : decode cL_acts 68 = .ok (.aload_n 0, 1) := by decide +kernel
theorem dL_acts_69 : decode cL_acts 69 = .ok (.iload 10, 2) := by decide +kernel
theorem dL_acts_71 : decode cL_acts 71 = .ok (.iload 11, 2) := by decide +kernel
theorem dL_acts_73 : decode cL_acts 73 = .ok (.invokestatic 145, 3) := by decide +kernel
theorem dL_acts_76 : decode cL_acts 76 = .ok (.aload 5, 2) := by decide +kernel
theorem dL_acts_78 : decode cL_acts 78 = .ok (.iload 10, 2) := by decide +kernel
theorem dL_acts_80 : decode cL_acts 80 = .ok (.iaload, 1) := by decide +kernel
theorem dL_acts_81 : decode cL_acts 81 = .ok (.if_icmp .ne 43, 3) := by decide +kernel
theorem dL_acts_84 : decode cL_acts 84 = .ok (.aload_n 0, 1) := by decide +kernel
theorem dL_acts_85 : decode cL_acts 85 = .ok (.iconst 4, 1) := by decide +kernel
theorem dL_acts_86 : decode cL_acts 86 = .ok (.iconst 1, 1) := by decide +kernel
theorem dL_acts_87 : decode cL_acts 87 = .ok (.invokestatic 145, 3) := by decide +kernel
theorem dL_acts_90 : decode cL_acts 90 = .ok (.ldc 28, 2) := by decide +kernel
theorem dL_acts_92 : decode cL_acts 92 = .ok (.if_icmp .ne 32, 3) := by decide +kernel
theorem dL_acts_95 : decode cL_acts 95 = .ok (.aload_n 0, 1) := by decide +kernel
theorem dL_acts_96 : decode cL_acts 96 = .ok (.iload 10, 2) := by decide +kernel
theorem dL_acts_98 : decode cL_acts 98 = .ok (.iconst 0, 1) := by decide +kernel
theorem dL_acts_99 : decode cL_acts 99 = .ok (.invokestatic 145, 3) := by decide +kernel
theorem dL_acts_102 : decode cL_acts 102 = .ok (.ldc 28, 2) := by decide +kernel
theorem dL_acts_104 : decode cL_acts 104 = .ok (.if_icmp .ne 20, 3) := by decide +kernel
theorem dL_acts_107 : decode cL_acts 107 = .ok (.aload_n 0, 1) := by decide +kernel
theorem dL_acts_108 : decode cL_acts 108 = .ok (.iload 10, 2) := by decide +kernel
theorem dL_acts_110 : decode cL_acts 110 = .ok (.bipush 21, 2) := by decide +kernel
theorem dL_acts_112 : decode cL_acts 112 = .ok (.invokestatic 145, 3) := by decide +kernel
theorem dL_acts_115 : decode cL_acts 115 = .ok (.ldc 28, 2) := by decide +kernel
theorem dL_acts_117 : decode cL_acts 117 = .ok (.if_icmp .ne 7, 3) := by decide +kernel
theorem dL_acts_120 : decode cL_acts 120 = .ok (.iconst 1, 1) := by decide +kernel
theorem dL_acts_121 : decode cL_acts 121 = .ok (.goto 4, 3) := by decide +kernel
theorem dL_acts_124 : decode cL_acts 124 = .ok (.iconst 0, 1) := by decide +kernel
theorem dL_acts_125 : decode cL_acts 125 = .ok (.ireturn, 1) := by decide +kernel
theorem dL_acts_126 : decode cL_acts 126 = .ok (.iload 9, 2) := by decide +kernel
theorem dL_acts_128 : decode cL_acts 128 = .ok (.bipush 17, 2) := by decide +kernel
theorem dL_acts_130 : decode cL_acts 130 = .ok (.if_icmp .ge 20, 3) := by decide +kernel
theorem dL_acts_133 : decode cL_acts 133 = .ok (.aload_n 0, 1) := by decide +kernel
theorem dL_acts_134 : decode cL_acts 134 = .ok (.aload 4, 2) := by decide +kernel
theorem dL_acts_136 : decode cL_acts 136 = .ok (.aload 5, 2) := by decide +kernel
theorem dL_acts_138 : decode cL_acts 138 = .ok (.aload 6, 2) := by decide +kernel
theorem dL_acts_140 : decode cL_acts 140 = .ok (.iload 7, 2) := by decide +kernel
theorem dL_acts_142 : decode cL_acts 142 = .ok (.iconst 5, 1) := by decide +kernel
theorem dL_acts_143 : decode cL_acts 143 = .ok (.ishr, 1) := by decide +kernel
theorem dL_acts_144 : decode cL_acts 144 = .ok (.iload 8, 2) := by decide +kernel
theorem dL_acts_146 : decode cL_acts 146 = .ok (.invokestatic 147, 3) := by decide +kernel
theorem dL_acts_149 : decode cL_acts 149 = .ok (.ireturn, 1) := by decide +kernel
theorem dL_acts_150 : decode cL_acts 150 = .ok (.iload 9, 2) := by decide +kernel
theorem dL_acts_152 : decode cL_acts 152 = .ok (.bipush 20, 2) := by decide +kernel
theorem dL_acts_154 : decode cL_acts 154 = .ok (.if_icmp .ge 74, 3) := by decide +kernel
theorem dL_acts_157 : decode cL_acts 157 = .ok (.iconst 1, 1) := by decide +kernel
theorem dL_acts_158 : decode cL_acts 158 = .ok (.iload 8, 2) := by decide +kernel
theorem dL_acts_160 : decode cL_acts 160 = .ok (.bipush 20, 2) := by decide +kernel
theorem dL_acts_162 : decode cL_acts 162 = .ok (.invokestatic 121, 3) := by decide +kernel
theorem dL_acts_165 : decode cL_acts 165 = .ok (.iadd, 1) := by decide +kernel
theorem dL_acts_166 : decode cL_acts 166 = .ok (.istore 10, 2) := by decide +kernel
theorem dL_acts_168 : decode cL_acts 168 = .ok (.aload 6, 2) := by decide +kernel
theorem dL_acts_170 : decode cL_acts 170 = .ok (.iconst 3, 1) := by decide +kernel
theorem dL_acts_171 : decode cL_acts 171 = .ok (.dup2, 1) := by decide +kernel
theorem dL_acts_172 : decode cL_acts 172 = .ok (.iaload, 1) := by decide +kernel
theorem dL_acts_173 : decode cL_acts 173 = .ok (.iload 10, 2) := by decide +kernel
theorem dL_acts_175 : decode cL_acts 175 = .ok (.iadd, 1) := by decide +kernel
theorem dL_acts_176 : decode cL_acts 176 = .ok (.iastore, 1) := by decide +kernel
theorem dL_acts_177 : decode cL_acts 177 = .ok (.aload_n 0, 1) := by decide +kernel
theorem dL_acts_178 : decode cL_acts 178 = .ok (.iload 10, 2) := by decide +kernel
theorem dL_acts_180 : decode cL_acts 180 = .ok (.invokestatic 151, 3) := by decide +kernel
theorem dL_acts_183 : decode cL_acts 183 = .ok (.aload 6, 2) := by decide +kernel
theorem dL_acts_185 : decode cL_acts 185 = .ok (.iconst 3, 1) := by decide +kernel
theorem dL_acts_186 : decode cL_acts 186 = .ok (.iaload, 1) := by decide +kernel
theorem dL_acts_187 : decode cL_acts 187 = .ok (.if_icmp .ne 39, 3) := by decide +kernel
theorem dL_acts_190 : decode cL_acts 190 = .ok (.aload_n 0, 1) := by decide +kernel
theorem dL_acts_191 : decode cL_acts 191 = .ok (.invokevirtual 153, 3) := by decide +kernel
theorem dL_acts_194 : decode cL_acts 194 = .ok (.aload 6, 2) := by decide +kernel
theorem dL_acts_196 : decode cL_acts 196 = .ok (.iconst 3, 1) := by decide +kernel
theorem dL_acts_197 : decode cL_acts 197 = .ok (.iaload, 1) := by decide +kernel
theorem dL_acts_198 : decode cL_acts 198 = .ok (.if_icmp .ne 28, 3) := by decide +kernel
theorem dL_acts_201 : decode cL_acts 201 = .ok (.aload_n 0, 1) := by decide +kernel
theorem dL_acts_202 : decode cL_acts 202 = .ok (.iconst 0, 1) := by decide +kernel
theorem dL_acts_203 : decode cL_acts 203 = .ok (.invokestatic 151, 3) := by decide +kernel
theorem dL_acts_206 : decode cL_acts 206 = .ok (.ldc 28, 2) := by decide +kernel
theorem dL_acts_208 : decode cL_acts 208 = .ok (.if_icmp .ne 18, 3) := by decide +kernel
theorem dL_acts_211 : decode cL_acts 211 = .ok (.aload_n 0, 1) := by decide +kernel
theorem dL_acts_212 : decode cL_acts 212 = .ok (.bipush 101, 2) := by decide +kernel
theorem dL_acts_214 : decode cL_acts 214 = .ok (.invokestatic 151, 3) := by decide +kernel
theorem dL_acts_217 : decode cL_acts 217 = .ok (.ldc 28, 2) := by decide +kernel
theorem dL_acts_219 : decode cL_acts 219 = .ok (.if_icmp .ne 7, 3) := by decide +kernel
theorem dL_acts_222 : decode cL_acts 222 = .ok (.iconst 1, 1) := by decide +kernel
theorem dL_acts_223 : decode cL_acts 223 = .ok (.goto 4, 3) := by decide +kernel
theorem dL_acts_226 : decode cL_acts 226 = .ok (.iconst 0, 1) := by decide +kernel
theorem dL_acts_227 : decode cL_acts 227 = .ok (.ireturn, 1) := by decide +kernel
theorem dL_acts_228 : decode cL_acts 228 = .ok (.iload 9, 2) := by decide +kernel
theorem dL_acts_230 : decode cL_acts 230 = .ok (.bipush 23, 2) := by decide +kernel
theorem dL_acts_232 : decode cL_acts 232 = .ok (.if_icmp .ge 20, 3) := by decide +kernel
theorem dL_acts_235 : decode cL_acts 235 = .ok (.aload_n 0, 1) := by decide +kernel
theorem dL_acts_236 : decode cL_acts 236 = .ok (.aload_n 2, 1) := by decide +kernel
theorem dL_acts_237 : decode cL_acts 237 = .ok (.aload_n 3, 1) := by decide +kernel
theorem dL_acts_238 : decode cL_acts 238 = .ok (.aload 4, 2) := by decide +kernel
theorem dL_acts_240 : decode cL_acts 240 = .ok (.aload 6, 2) := by decide +kernel
theorem dL_acts_242 : decode cL_acts 242 = .ok (.iload 7, 2) := by decide +kernel
theorem dL_acts_244 : decode cL_acts 244 = .ok (.iconst 5, 1) := by decide +kernel
theorem dL_acts_245 : decode cL_acts 245 = .ok (.ishr, 1) := by decide +kernel
theorem dL_acts_246 : decode cL_acts 246 = .ok (.iload 8, 2) := by decide +kernel
theorem dL_acts_248 : decode cL_acts 248 = .ok (.invokestatic 156, 3) := by decide +kernel
theorem dL_acts_251 : decode cL_acts 251 = .ok (.ireturn, 1) := by decide +kernel
theorem dL_acts_252 : decode cL_acts 252 = .ok (.aload 6, 2) := by decide +kernel
theorem dL_acts_254 : decode cL_acts 254 = .ok (.iconst 1, 1) := by decide +kernel
theorem dL_acts_255 : decode cL_acts 255 = .ok (.iaload, 1) := by decide +kernel
theorem dL_acts_256 : decode cL_acts 256 = .ok (.ifCond .eq 10, 3) := by decide +kernel
theorem dL_acts_259 : decode cL_acts 259 = .ok (.aload 6, 2) := by decide +kernel
theorem dL_acts_261 : decode cL_acts 261 = .ok (.iconst 0, 1) := by decide +kernel
theorem dL_acts_262 : decode cL_acts 262 = .ok (.iaload, 1) := by decide +kernel
theorem dL_acts_263 : decode cL_acts 263 = .ok (.ifCond .ne 56, 3) := by decide +kernel
theorem dL_acts_266 : decode cL_acts 266 = .ok (.aload_n 0, 1) := by decide +kernel
theorem dL_acts_267 : decode cL_acts 267 = .ok (.aload 6, 2) := by decide +kernel
theorem dL_acts_269 : decode cL_acts 269 = .ok (.iconst 1, 1) := by decide +kernel
theorem dL_acts_270 : decode cL_acts 270 = .ok (.iaload, 1) := by decide +kernel
theorem dL_acts_271 : decode cL_acts 271 = .ok (.bipush 9, 2) := by decide +kernel
theorem dL_acts_273 : decode cL_acts 273 = .ok (.iconst 0, 1) := by decide +kernel
theorem dL_acts_274 : decode cL_acts 274 = .ok (.invokestatic 160, 3) := by decide +kernel
theorem dL_acts_277 : decode cL_acts 277 = .ok (.ldc 25, 2) := by decide +kernel
theorem dL_acts_279 : decode cL_acts 279 = .ok (.if_icmp .ne 38, 3) := by decide +kernel
theorem dL_acts_282 : decode cL_acts 282 = .ok (.aload_n 0, 1) := by decide +kernel
theorem dL_acts_283 : decode cL_acts 283 = .ok (.iconst 0, 1) := by decide +kernel
theorem dL_acts_284 : decode cL_acts 284 = .ok (.iconst 0, 1) := by decide +kernel
theorem dL_acts_285 : decode cL_acts 285 = .ok (.aload 6, 2) := by decide +kernel
theorem dL_acts_287 : decode cL_acts 287 = .ok (.iconst 1, 1) := by decide +kernel
theorem dL_acts_288 : decode cL_acts 288 = .ok (.iaload, 1) := by decide +kernel
theorem dL_acts_289 : decode cL_acts 289 = .ok (.invokestatic 119, 3) := by decide +kernel
theorem dL_acts_292 : decode cL_acts 292 = .ok (.ldc 25, 2) := by decide +kernel
theorem dL_acts_294 : decode cL_acts 294 = .ok (.if_icmp .ne 23, 3) := by decide +kernel
theorem dL_acts_297 : decode cL_acts 297 = .ok (.aload_n 0, 1) := by decide +kernel
theorem dL_acts_298 : decode cL_acts 298 = .ok (.aload_n 3, 1) := by decide +kernel
theorem dL_acts_299 : decode cL_acts 299 = .ok (.aload 6, 2) := by decide +kernel
theorem dL_acts_301 : decode cL_acts 301 = .ok (.iload 8, 2) := by decide +kernel
theorem dL_acts_303 : decode cL_acts 303 = .ok (.iconst 5, 1) := by decide +kernel
theorem dL_acts_304 : decode cL_acts 304 = .ok (.invokestatic 121, 3) := by decide +kernel
theorem dL_acts_307 : decode cL_acts 307 = .ok (.invokestatic 162, 3) := by decide +kernel
theorem dL_acts_310 : decode cL_acts 310 = .ok (.ifCond .eq 7, 3) := by decide +kernel
theorem dL_acts_313 : decode cL_acts 313 = .ok (.iconst 1, 1) := by decide +kernel
theorem dL_acts_314 : decode cL_acts 314 = .ok (.goto 4, 3) := by decide +kernel
theorem dL_acts_317 : decode cL_acts 317 = .ok (.iconst 0, 1) := by decide +kernel
theorem dL_acts_318 : decode cL_acts 318 = .ok (.ireturn, 1) := by decide +kernel
theorem dL_acts_319 : decode cL_acts 319 = .ok (.iload 8, 2) := by decide +kernel
theorem dL_acts_321 : decode cL_acts 321 = .ok (.aload 6, 2) := by decide +kernel
theorem dL_acts_323 : decode cL_acts 323 = .ok (.iconst 1, 1) := by decide +kernel
theorem dL_acts_324 : decode cL_acts 324 = .ok (.iaload, 1) := by decide +kernel
theorem dL_acts_325 : decode cL_acts 325 = .ok (.invokestatic 121, 3) := by decide +kernel
theorem dL_acts_328 : decode cL_acts 328 = .ok (.istore 10, 2) := by decide +kernel
theorem dL_acts_330 : decode cL_acts 330 = .ok (.iload 8, 2) := by decide +kernel
theorem dL_acts_332 : decode cL_acts 332 = .ok (.iconst 3, 1) := by decide +kernel
theorem dL_acts_333 : decode cL_acts 333 = .ok (.ishr, 1) := by decide +kernel
theorem dL_acts_334 : decode cL_acts 334 = .ok (.aload 6, 2) := by decide +kernel
theorem dL_acts_336 : decode cL_acts 336 = .ok (.iconst 0, 1) := by decide +kernel
theorem dL_acts_337 : decode cL_acts 337 = .ok (.iaload, 1) := by decide +kernel
theorem dL_acts_338 : decode cL_acts 338 = .ok (.invokestatic 121, 3) := by decide +kernel
theorem dL_acts_341 : decode cL_acts 341 = .ok (.istore 11, 2) := by decide +kernel
theorem dL_acts_343 : decode cL_acts 343 = .ok (.iload 9, 2) := by decide +kernel
theorem dL_acts_345 : decode cL_acts 345 = .ok (.bipush 23, 2) := by decide +kernel
theorem dL_acts_347 : decode cL_acts 347 = .ok (.if_icmp .ne 112, 3) := by decide +kernel
theorem dL_acts_350 : decode cL_acts 350 = .ok (.iload 8, 2) := by decide +kernel
theorem dL_acts_352 : decode cL_acts 352 = .ok (.bipush 6, 2) := by decide +kernel
theorem dL_acts_354 : decode cL_acts 354 = .ok (.ishr, 1) := by decide +kernel
theorem dL_acts_355 : decode cL_acts 355 = .ok (.iconst 4, 1) := by decide +kernel
theorem dL_acts_356 : decode cL_acts 356 = .ok (.invokestatic 121, 3) := by decide +kernel
theorem dL_acts_359 : decode cL_acts 359 = .ok (.istore 12, 2) := by decide +kernel
theorem dL_acts_361 : decode cL_acts 361 = .ok (.iload 8, 2) := by decide +kernel
end
section
theorem dL_acts_363 : decode cL_acts 363 = .ok (.bipush 8, 2) := by decide +kernel
theorem dL_acts_365 : decode cL_acts 365 = .ok (.ishr, 1) := by decide +kernel
theorem dL_acts_366 : decode cL_acts 366 = .ok (.bipush 61, 2) := by decide +kernel
theorem dL_acts_368 : decode cL_acts 368 = .ok (.invokestatic 121, 3) := by decide +kernel
theorem dL_acts_371 : decode cL_acts 371 = .ok (.istore 13, 2) := by decide +kernel
theorem dL_acts_373 : decode cL_acts 373 = .ok (.aload_n 2, 1) := by decide +kernel
theorem dL_acts_374 : decode cL_acts 374 = .ok (.iconst 4, 1) := by decide +kernel
theorem dL_acts_375 : decode cL_acts 375 = .ok (.iload 10, 2) := by decide +kernel
theorem dL_acts_377 : decode cL_acts 377 = .ok (.imul, 1) := by decide +kernel
theorem dL_acts_378 : decode cL_acts 378 = .ok (.iload 12, 2) := by decide +kernel
theorem dL_acts_380 : decode cL_acts 380 = .ok (.iadd, 1) := by decide +kernel
theorem dL_acts_381 : decode cL_acts 381 = .ok (.iaload, 1) := by decide +kernel
theorem dL_acts_382 : decode cL_acts 382 = .ok (.istore 14, 2) := by decide +kernel
theorem dL_acts_384 : decode cL_acts 384 = .ok (.aload_n 2, 1) := by decide +kernel
theorem dL_acts_385 : decode cL_acts 385 = .ok (.iconst 4, 1) := by decide +kernel
theorem dL_acts_386 : decode cL_acts 386 = .ok (.iload 10, 2) := by decide +kernel
theorem dL_acts_388 : decode cL_acts 388 = .ok (.imul, 1) := by decide +kernel
theorem dL_acts_389 : decode cL_acts 389 = .ok (.iload 12, 2) := by decide +kernel
theorem dL_acts_391 : decode cL_acts 391 = .ok (.iadd, 1) := by decide +kernel
theorem dL_acts_392 : decode cL_acts 392 = .ok (.iload 13, 2) := by decide +kernel
theorem dL_acts_394 : decode cL_acts 394 = .ok (.iastore, 1) := by decide +kernel
theorem dL_acts_395 : decode cL_acts 395 = .ok (.aload_n 0, 1) := by decide +kernel
theorem dL_acts_396 : decode cL_acts 396 = .ok (.iload 10, 2) := by decide +kernel
theorem dL_acts_398 : decode cL_acts 398 = .ok (.iload 12, 2) := by decide +kernel
theorem dL_acts_400 : decode cL_acts 400 = .ok (.iload 13, 2) := by decide +kernel
theorem dL_acts_402 : decode cL_acts 402 = .ok (.invokestatic 160, 3) := by decide +kernel
theorem dL_acts_405 : decode cL_acts 405 = .ok (.iload 14, 2) := by decide +kernel
theorem dL_acts_407 : decode cL_acts 407 = .ok (.if_icmp .ne 50, 3) := by decide +kernel
theorem dL_acts_410 : decode cL_acts 410 = .ok (.aload_n 0, 1) := by decide +kernel
theorem dL_acts_411 : decode cL_acts 411 = .ok (.iload 10, 2) := by decide +kernel
theorem dL_acts_413 : decode cL_acts 413 = .ok (.iconst 4, 1) := by decide +kernel
theorem dL_acts_414 : decode cL_acts 414 = .ok (.iconst 0, 1) := by decide +kernel
theorem dL_acts_415 : decode cL_acts 415 = .ok (.invokestatic 160, 3) := by decide +kernel
theorem dL_acts_418 : decode cL_acts 418 = .ok (.ldc 28, 2) := by decide +kernel
theorem dL_acts_420 : decode cL_acts 420 = .ok (.if_icmp .ne 37, 3) := by decide +kernel
theorem dL_acts_423 : decode cL_acts 423 = .ok (.aload_n 0, 1) := by decide +kernel
theorem dL_acts_424 : decode cL_acts 424 = .ok (.iload 10, 2) := by decide +kernel
theorem dL_acts_426 : decode cL_acts 426 = .ok (.iconst 0, 1) := by decide +kernel
theorem dL_acts_427 : decode cL_acts 427 = .ok (.bipush 61, 2) := by decide +kernel
theorem dL_acts_429 : decode cL_acts 429 = .ok (.invokestatic 160, 3) := by decide +kernel
theorem dL_acts_432 : decode cL_acts 432 = .ok (.ldc 28, 2) := by decide +kernel
theorem dL_acts_434 : decode cL_acts 434 = .ok (.if_icmp .ne 23, 3) := by decide +kernel
theorem dL_acts_437 : decode cL_acts 437 = .ok (.aload_n 0, 1) := by decide +kernel
theorem dL_acts_438 : decode cL_acts 438 = .ok (.aload 6, 2) := by decide +kernel
theorem dL_acts_440 : decode cL_acts 440 = .ok (.iconst 1, 1) := by decide +kernel
theorem dL_acts_441 : decode cL_acts 441 = .ok (.iaload, 1) := by decide +kernel
theorem dL_acts_442 : decode cL_acts 442 = .ok (.bipush 9, 2) := by decide +kernel
theorem dL_acts_444 : decode cL_acts 444 = .ok (.iconst 0, 1) := by decide +kernel
theorem dL_acts_445 : decode cL_acts 445 = .ok (.invokestatic 160, 3) := by decide +kernel
theorem dL_acts_448 : decode cL_acts 448 = .ok (.ldc 25, 2) := by decide +kernel
theorem dL_acts_450 : decode cL_acts 450 = .ok (.if_icmp .ne 7, 3) := by decide +kernel
theorem dL_acts_453 : decode cL_acts 453 = .ok (.iconst 1, 1) := by decide +kernel
theorem dL_acts_454 : decode cL_acts 454 = .ok (.goto 4, 3) := by decide +kernel
theorem dL_acts_457 : decode cL_acts 457 = .ok (.iconst 0, 1) := by decide +kernel
theorem dL_acts_458 : decode cL_acts 458 = .ok (.ireturn, 1) := by decide +kernel
theorem dL_acts_459 : decode cL_acts 459 = .ok (.iload 9, 2) := by decide +kernel
theorem dL_acts_461 : decode cL_acts 461 = .ok (.bipush 26, 2) := by decide +kernel
theorem dL_acts_463 : decode cL_acts 463 = .ok (.if_icmp .ge 70, 3) := by decide +kernel
theorem dL_acts_466 : decode cL_acts 466 = .ok (.iload 8, 2) := by decide +kernel
theorem dL_acts_468 : decode cL_acts 468 = .ok (.bipush 6, 2) := by decide +kernel
theorem dL_acts_470 : decode cL_acts 470 = .ok (.ishr, 1) := by decide +kernel
theorem dL_acts_471 : decode cL_acts 471 = .ok (.iconst 4, 1) := by decide +kernel
theorem dL_acts_472 : decode cL_acts 472 = .ok (.invokestatic 121, 3) := by decide +kernel
theorem dL_acts_475 : decode cL_acts 475 = .ok (.ifCond .ne 15, 3) := by decide +kernel
theorem dL_acts_478 : decode cL_acts 478 = .ok (.iload 8, 2) := by decide +kernel
theorem dL_acts_480 : decode cL_acts 480 = .ok (.bipush 8, 2) := by decide +kernel
theorem dL_acts_482 : decode cL_acts 482 = .ok (.ishr, 1) := by decide +kernel
theorem dL_acts_483 : decode cL_acts 483 = .ok (.iconst 5, 1) := by decide +kernel
theorem dL_acts_484 : decode cL_acts 484 = .ok (.invokestatic 121, 3) := by decide +kernel
theorem dL_acts_487 : decode cL_acts 487 = .ok (.goto 10, 3) := by decide +kernel
theorem dL_acts_490 : decode cL_acts 490 = .ok (.aload_n 3, 1) := by decide +kernel
theorem dL_acts_491 : decode cL_acts 491 = .ok (.iload 10, 2) := by decide +kernel
theorem dL_acts_493 : decode cL_acts 493 = .ok (.iaload, 1) := by decide +kernel
theorem dL_acts_494 : decode cL_acts 494 = .ok (.bipush 32, 2) := by decide +kernel
theorem dL_acts_496 : decode cL_acts 496 = .ok (.idiv, 1) := by decide +kernel
theorem dL_acts_497 : decode cL_acts 497 = .ok (.istore 12, 2) := by decide +kernel
theorem dL_acts_499 : decode cL_acts 499 = .ok (.aload_n 0, 1) := by decide +kernel
theorem dL_acts_500 : decode cL_acts 500 = .ok (.aload_n 3, 1) := by decide +kernel
theorem dL_acts_501 : decode cL_acts 501 = .ok (.aload 6, 2) := by decide +kernel
theorem dL_acts_503 : decode cL_acts 503 = .ok (.iload 12, 2) := by decide +kernel
theorem dL_acts_505 : decode cL_acts 505 = .ok (.iload 11, 2) := by decide +kernel
theorem dL_acts_507 : decode cL_acts 507 = .ok (.iload 10, 2) := by decide +kernel
theorem dL_acts_509 : decode cL_acts 509 = .ok (.invokestatic 166, 3) := by decide +kernel
theorem dL_acts_512 : decode cL_acts 512 = .ok (.ifCond .eq 19, 3) := by decide +kernel
theorem dL_acts_515 : decode cL_acts 515 = .ok (.aload_n 0, 1) := by decide +kernel
theorem dL_acts_516 : decode cL_acts 516 = .ok (.aload_n 3, 1) := by decide +kernel
theorem dL_acts_517 : decode cL_acts 517 = .ok (.aload 6, 2) := by decide +kernel
theorem dL_acts_519 : decode cL_acts 519 = .ok (.iload 12, 2) := by decide +kernel
theorem dL_acts_521 : decode cL_acts 521 = .ok (.invokestatic 162, 3) := by decide +kernel
theorem dL_acts_524 : decode cL_acts 524 = .ok (.ifCond .eq 7, 3) := by decide +kernel
theorem dL_acts_527 : decode cL_acts 527 = .ok (.iconst 1, 1) := by decide +kernel
theorem dL_acts_528 : decode cL_acts 528 = .ok (.goto 4, 3) := by decide +kernel
theorem dL_acts_531 : decode cL_acts 531 = .ok (.iconst 0, 1) := by decide +kernel
theorem dL_acts_532 : decode cL_acts 532 = .ok (.ireturn, 1) := by decide +kernel
theorem dL_acts_533 : decode cL_acts 533 = .ok (.aload_n 0, 1) := by decide +kernel
theorem dL_acts_534 : decode cL_acts 534 = .ok (.aload_n 1, 1) := by decide +kernel
theorem dL_acts_535 : decode cL_acts 535 = .ok (.aload_n 2, 1) := by decide +kernel
theorem dL_acts_536 : decode cL_acts 536 = .ok (.aload_n 3, 1) := by decide +kernel
theorem dL_acts_537 : decode cL_acts 537 = .ok (.iload 11, 2) := by decide +kernel
theorem dL_acts_539 : decode cL_acts 539 = .ok (.iload 10, 2) := by decide +kernel
theorem dL_acts_541 : decode cL_acts 541 = .ok (.invokestatic 170, 3) := by decide +kernel
theorem dL_acts_544 : decode cL_acts 544 = .ok (.ireturn, 1) := by decide +kernel
theorem dL_law_0 : decode cL_law 0 = .ok (.new 11, 3) := by decide +kernel
theorem dL_law_3 : decode cL_law 3 = .ok (.dup, 1) := by decide +kernel
theorem dL_law_4 : decode cL_law 4 = .ok (.invokespecial 173, 3) := by decide +kernel
theorem dL_law_7 : decode cL_law 7 = .ok (.astore_n 1, 1) := by decide +kernel
theorem dL_law_8 : decode cL_law 8 = .ok (.bipush 8, 2) := by decide +kernel
theorem dL_law_10 : decode cL_law 10 = .ok (.newarray .int, 2) := by decide +kernel
theorem dL_law_12 : decode cL_law 12 = .ok (.astore_n 2, 1) := by decide +kernel
theorem dL_law_13 : decode cL_law 13 = .ok (.bipush 32, 2) := by decide +kernel
theorem dL_law_15 : decode cL_law 15 = .ok (.newarray .int, 2) := by decide +kernel
theorem dL_law_17 : decode cL_law 17 = .ok (.astore_n 3, 1) := by decide +kernel
theorem dL_law_18 : decode cL_law 18 = .ok (.bipush 8, 2) := by decide +kernel
theorem dL_law_20 : decode cL_law 20 = .ok (.newarray .int, 2) := by decide +kernel
theorem dL_law_22 : decode cL_law 22 = .ok (.astore 4, 2) := by decide +kernel
theorem dL_law_24 : decode cL_law 24 = .ok (.bipush 20, 2) := by decide +kernel
theorem dL_law_26 : decode cL_law 26 = .ok (.newarray .int, 2) := by decide +kernel
theorem dL_law_28 : decode cL_law 28 = .ok (.astore 5, 2) := by decide +kernel
theorem dL_law_30 : decode cL_law 30 = .ok (.iconst 4, 1) := by decide +kernel
theorem dL_law_31 : decode cL_law 31 = .ok (.newarray .int, 2) := by decide +kernel
theorem dL_law_33 : decode cL_law 33 = .ok (.astore 6, 2) := by decide +kernel
theorem dL_law_35 : decode cL_law 35 = .ok (.iconst 4, 1) := by decide +kernel
theorem dL_law_36 : decode cL_law 36 = .ok (.newarray .int, 2) := by decide +kernel
theorem dL_law_38 : decode cL_law 38 = .ok (.astore 7, 2) := by decide +kernel
theorem dL_law_40 : decode cL_law 40 = .ok (.aload_n 1, 1) := by decide +kernel
theorem dL_law_41 : decode cL_law 41 = .ok (.invokevirtual 153, 3) := by decide +kernel
theorem dL_law_44 : decode cL_law 44 = .ok (.ifCond .ne 40, 3) := by decide +kernel
theorem dL_law_47 : decode cL_law 47 = .ok (.aload_n 1, 1) := by decide +kernel
theorem dL_law_48 : decode cL_law 48 = .ok (.invokevirtual 138, 3) := by decide +kernel
theorem dL_law_51 : decode cL_law 51 = .ok (.ifCond .ne 33, 3) := by decide +kernel
theorem dL_law_54 : decode cL_law 54 = .ok (.aload_n 1, 1) := by decide +kernel
theorem dL_law_55 : decode cL_law 55 = .ok (.iconst 4, 1) := by decide +kernel
theorem dL_law_56 : decode cL_law 56 = .ok (.invokestatic 113, 3) := by decide +kernel
theorem dL_law_59 : decode cL_law 59 = .ok (.iconst 2, 1) := by decide +kernel
theorem dL_law_60 : decode cL_law 60 = .ok (.if_icmp .ne 24, 3) := by decide +kernel
theorem dL_law_63 : decode cL_law 63 = .ok (.aload_n 1, 1) := by decide +kernel
theorem dL_law_64 : decode cL_law 64 = .ok (.iconst 0, 1) := by decide +kernel
theorem dL_law_65 : decode cL_law 65 = .ok (.invokestatic 110, 3) := by decide +kernel
theorem dL_law_68 : decode cL_law 68 = .ok (.ifCond .ne 16, 3) := by decide +kernel
theorem dL_law_71 : decode cL_law 71 = .ok (.aload_n 1, 1) := by decide +kernel
theorem dL_law_72 : decode cL_law 72 = .ok (.iconst 0, 1) := by decide +kernel
theorem dL_law_73 : decode cL_law 73 = .ok (.invokestatic 115, 3) := by decide +kernel
theorem dL_law_76 : decode cL_law 76 = .ok (.iconst (-1), 1) := by decide +kernel
theorem dL_law_77 : decode cL_law 77 = .ok (.if_icmp .ne 7, 3) := by decide +kernel
theorem dL_law_80 : decode cL_law 80 = .ok (.iconst 1, 1) := by decide +kernel
theorem dL_law_81 : decode cL_law 81 = .ok (.goto 4, 3) := by decide +kernel
theorem dL_law_84 : decode cL_law 84 = .ok (.iconst 0, 1) := by decide +kernel
theorem dL_law_85 : decode cL_law 85 = .ok (.istore 8, 2) := by decide +kernel
theorem dL_law_87 : decode cL_law 87 = .ok (.iconst 0, 1) := by decide +kernel
theorem dL_law_88 : decode cL_law 88 = .ok (.istore 9, 2) := by decide +kernel
theorem dL_law_90 : decode cL_law 90 = .ok (.iload 9, 2) := by decide +kernel
theorem dL_law_92 : decode cL_law 92 = .ok (.sipush 160, 3) := by decide +kernel
theorem dL_law_95 : decode cL_law 95 = .ok (.if_icmp .ge 48, 3) := by decide +kernel
theorem dL_law_98 : decode cL_law 98 = .ok (.iload 8, 2) := by decide +kernel
theorem dL_law_100 : decode cL_law 100 = .ok (.ifCond .eq 43, 3) := by decide +kernel
theorem dL_law_103 : decode cL_law 103 = .ok (.aload_n 1, 1) := by decide +kernel
theorem dL_law_104 : decode cL_law 104 = .ok (.aload_n 2, 1) := by decide +kernel
theorem dL_law_105 : decode cL_law 105 = .ok (.aload_n 3, 1) := by decide +kernel
theorem dL_law_106 : decode cL_law 106 = .ok (.aload 4, 2) := by decide +kernel
theorem dL_law_108 : decode cL_law 108 = .ok (.aload 5, 2) := by decide +kernel
theorem dL_law_110 : decode cL_law 110 = .ok (.aload 6, 2) := by decide +kernel
theorem dL_law_112 : decode cL_law 112 = .ok (.aload 7, 2) := by decide +kernel
theorem dL_law_114 : decode cL_law 114 = .ok (.aload_n 0, 1) := by decide +kernel
theorem dL_law_115 : decode cL_law 115 = .ok (.iconst 2, 1) := by decide +kernel
theorem dL_law_116 : decode cL_law 116 = .ok (.iload 9, 2) := by decide +kernel
theorem dL_law_118 : decode cL_law 118 = .ok (.imul, 1) := by decide +kernel
theorem dL_law_119 : decode cL_law 119 = .ok (.invokestatic 174, 3) := by decide +kernel
theorem dL_law_122 : decode cL_law 122 = .ok (.aload_n 0, 1) := by decide +kernel
theorem dL_law_123 : decode cL_law 123 = .ok (.iconst 2, 1) := by decide +kernel
theorem dL_law_124 : decode cL_law 124 = .ok (.iload 9, 2) := by decide +kernel
theorem dL_law_126 : decode cL_law 126 = .ok (.imul, 1) := by decide +kernel
theorem dL_law_127 : decode cL_law 127 = .ok (.iconst 1, 1) := by decide +kernel
theorem dL_law_128 : decode cL_law 128 = .ok (.iadd, 1) := by decide +kernel
theorem dL_law_129 : decode cL_law 129 = .ok (.invokestatic 174, 3) := by decide +kernel
theorem dL_law_132 : decode cL_law 132 = .ok (.invokestatic 178, 3) := by decide +kernel
theorem dL_law_135 : decode cL_law 135 = .ok (.istore 8, 2) := by decide +kernel
theorem dL_law_137 : decode cL_law 137 = .ok (.iinc 9 1, 3) := by decide +kernel
theorem dL_law_140 : decode cL_law 140 = .ok (.goto (-50), 3) := by decide +kernel
theorem dL_law_143 : decode cL_law 143 = .ok (.iconst 0, 1) := by decide +kernel
theorem dL_law_144 : decode cL_law 144 = .ok (.istore 9, 2) := by decide +kernel
theorem dL_law_146 : decode cL_law 146 = .ok (.iload 9, 2) := by decide +kernel
theorem dL_law_148 : decode cL_law 148 = .ok (.aload 7, 2) := by decide +kernel
theorem dL_law_150 : decode cL_law 150 = .ok (.iconst 1, 1) := by decide +kernel
theorem dL_law_151 : decode cL_law 151 = .ok (.iaload, 1) := by decide +kernel
theorem dL_law_152 : decode cL_law 152 = .ok (.if_icmp .ge 48, 3) := by decide +kernel
theorem dL_law_155 : decode cL_law 155 = .ok (.iload 8, 2) := by decide +kernel
theorem dL_law_157 : decode cL_law 157 = .ok (.ifCond .eq 43, 3) := by decide +kernel
theorem dL_law_160 : decode cL_law 160 = .ok (.aload 7, 2) := by decide +kernel
theorem dL_law_162 : decode cL_law 162 = .ok (.iconst 0, 1) := by decide +kernel
theorem dL_law_163 : decode cL_law 163 = .ok (.iaload, 1) := by decide +kernel
theorem dL_law_164 : decode cL_law 164 = .ok (.ifCond .eq 23, 3) := by decide +kernel
theorem dL_law_167 : decode cL_law 167 = .ok (.aload_n 1, 1) := by decide +kernel
theorem dL_law_168 : decode cL_law 168 = .ok (.aload_n 2, 1) := by decide +kernel
theorem dL_law_169 : decode cL_law 169 = .ok (.aload_n 3, 1) := by decide +kernel
theorem dL_law_170 : decode cL_law 170 = .ok (.aload 4, 2) := by decide +kernel
theorem dL_law_172 : decode cL_law 172 = .ok (.iload 9, 2) := by decide +kernel
theorem dL_law_174 : decode cL_law 174 = .ok (.aload 7, 2) := by decide +kernel
theorem dL_law_176 : decode cL_law 176 = .ok (.iconst 0, 1) := by decide +kernel
theorem dL_law_177 : decode cL_law 177 = .ok (.iaload, 1) := by decide +kernel
theorem dL_law_178 : decode cL_law 178 = .ok (.irem, 1) := by decide +kernel
theorem dL_law_179 : decode cL_law 179 = .ok (.iload 9, 2) := by decide +kernel
theorem dL_law_181 : decode cL_law 181 = .ok (.invokestatic 170, 3) := by decide +kernel
theorem dL_law_184 : decode cL_law 184 = .ok (.ifCond .eq 7, 3) := by decide +kernel
theorem dL_law_187 : decode cL_law 187 = .ok (.iconst 1, 1) := by decide +kernel
theorem dL_law_188 : decode cL_law 188 = .ok (.goto 4, 3) := by decide +kernel
theorem dL_law_191 : decode cL_law 191 = .ok (.iconst 0, 1) := by decide +kernel
theorem dL_law_192 : decode cL_law 192 = .ok (.istore 8, 2) := by decide +kernel
theorem dL_law_194 : decode cL_law 194 = .ok (.iinc 9 1, 3) := by decide +kernel
theorem dL_law_197 : decode cL_law 197 = .ok (.goto (-51), 3) := by decide +kernel
theorem dL_law_200 : decode cL_law 200 = .ok (.iload 8, 2) := by decide +kernel
theorem dL_law_202 : decode cL_law 202 = .ok (.ireturn, 1) := by decide +kernel
end
section
/-! ===== the world of this claim: each thing by its kind and number; its ints by a third number ===== -/
abbrev St : Type := Nat → Nat → Nat → Int32
def up (σ : St) (k i j : Nat) (x : Int32) : St := fun k' i' => if k' = k ∧ i' = i then upd (σ k i) j x else σ k' i'
theorem up_app (σ : St) (k i j : Nat) (x : Int32) (k' i' j' : Nat) : up σ k i j x k' i' j' = if k' = k ∧ i' = i ∧ j' = j then x else σ k' i' j' := by
  unfold up upd
  by_cases h : k' = k ∧ i' = i
  · obtain ⟨rfl, rfl⟩ := h
    by_cases hj : j' = j <;> simp [hj]
  · rw [if_neg h]
    by_cases h1 : k' = k
    · have h2 : ¬ i' = i := fun q => h ⟨h1, q⟩
      simp [h1, h2]
    · simp [h1]
theorem up_eq {σ : St} {k i j : Nat} {x : Int32} : up σ k i j x k i = upd (σ k i) j x := by
  unfold up
  rw [if_pos ⟨rfl, rfl⟩]
theorem up_ne {σ : St} {k i j : Nat} {x : Int32} {k' i' : Nat} (h : ¬ (k' = k ∧ i' = i)) : up σ k i j x k' i' = σ k' i' := by
  unfold up
  rw [if_neg h]
/-- how many things of a kind -/
def nk : Nat → Nat := fun k => match k with
  | 10 => 16
  | 11 => 8
  | 12 => 8
  | 13 => 8
  | 14 => 8
  | 15 => 5
  | 16 => 20
  | _ => 1
/-- what a thing is: its references stand, its ints are g -/
def cf (ad : Nat → Nat → Nat) (cy : Nat → ClassId) (k i : Nat) (g : Nat → Int32) : va_E := match k with
  | 0 => .inr (5, [.ref (ad 1 0), .ref (ad 2 0), .ref (ad 3 0), .ref (ad 4 0), .ref (ad 5 0), .ref (ad 6 0), .int (g 6), .int (g 7), .int (g 8), .int (g 9)])
  | 1 => .inl (cy 3, 8, .inr (.inr (.inr (.inr (fun j => some (ad 11 j))))))
  | 2 => .inl (cy 4, 8, .inr (.inr (.inr (.inr (fun j => some (ad 13 j))))))
  | 3 => .inl (cy 5, 5, .inr (.inr (.inr (.inr (fun j => some (ad 15 j))))))
  | 4 => .inl (cy 6, 20, .inr (.inr (.inr (.inr (fun j => some (ad 16 j))))))
  | 5 => .inl (cy 0, 4, .inl g)
  | 6 => .inr (0, [.ref (ad 7 0), .ref (ad 8 0), .ref (ad 9 0), .int (g 3), .int (g 4)])
  | 7 => .inl (cy 0, 16, .inl g)
  | 8 => .inl (cy 7, 16, .inr (.inr (.inr (.inr (fun j => some (ad 10 j))))))
  | 9 => .inl (cy 0, 16, .inl g)
  | 10 => .inl (cy 0, 14, .inl g)
  | 11 => .inr (3, [.ref (ad 12 i), .int (g 1)])
  | 12 => .inl (cy 0, 16, .inl g)
  | 13 => .inr (1, [.ref (ad 14 i), .int (g 1), .int (g 2)])
  | 14 => .inl (cy 0, 4, .inl g)
  | 15 => .inr (4, [.int (g 0), .int (g 1)])
  | 16 => .inr (2, [.int (g 0), .int (g 1), .int (g 2), .int (g 3)])
  | 17 => .inl (cy 0, 8, .inl g)
  | 18 => .inl (cy 0, 32, .inl g)
  | 19 => .inl (cy 0, 8, .inl g)
  | 20 => .inl (cy 0, 20, .inl g)
  | 21 => .inl (cy 0, 4, .inl g)
  | 22 => .inl (cy 0, 4, .inl g)
  | 23 => .inl (cy 0, 14, .inl g)
  | _ => .inl (cy 0, 14, .inl g)
def tysL (cy : Nat → ClassId) : List (ClassId × FieldType) := [(cy 0, .int), (cy 3, .object RX3), (cy 4, .object RX1), (cy 5, .object RX4), (cy 6, .object RX2), (cy 7, .array .int)]
def IXb : List (Nat × Nat) := (List.range 23).flatMap (fun k => (List.range (nk k)).map (fun i => (k, i)))
def IXe : Nat → List (Nat × Nat)
  | 0 => []
  | 1 => [(23, 0)]
  | _ => [(23, 0), (24, 0)]
/-- the things of the world: the class's, the law's; while fingers runs, its two arrays -/
def IX (ad : Nat → Nat → Nat) : List (Nat × Nat) := IXb ++ IXe (ad 99 0)
theorem IXn_nodup : ∀ n, (IXb ++ IXe n).Nodup
  | 0 => by decide +kernel
  | 1 => by decide +kernel
  | n + 2 => by
    show (IXb ++ [(23, 0), (24, 0)]).Nodup
    decide +kernel
theorem IX_nodup {ad : Nat → Nat → Nat} : (IX ad).Nodup := IXn_nodup _
theorem IXb_mem {k i : Nat} (hk : k < 23) (hi : i < nk k) : (k, i) ∈ IXb := List.mem_flatMap.mpr ⟨k, List.mem_range.mpr hk, List.mem_map.mpr ⟨i, List.mem_range.mpr hi, rfl⟩⟩
theorem IX_mem {ad : Nat → Nat → Nat} {k i : Nat} (hk : k < 23) (hi : i < nk k) : (k, i) ∈ IX ad := List.mem_append_left _ (IXb_mem hk hi)
theorem IXb_of {q : Nat × Nat} (h : q ∈ IXb) : q.1 < 23 ∧ q.2 < nk q.1 := by
  obtain ⟨k, hk, h2⟩ := List.mem_flatMap.mp h
  obtain ⟨i, hi, rfl⟩ := List.mem_map.mp h2
  exact ⟨List.mem_range.mp hk, List.mem_range.mp hi⟩
theorem IX_at {ad : Nat → Nat → Nat} {k i : Nat} (h : (k, i) ∈ IX ad) : ∃ j : Nat, (IX ad)[j]? = some (k, i) := List.getElem?_of_mem h
/-- the world: its cells in a row -/
def WLg (I : List (Nat × Nat)) (ad : Nat → Nat → Nat) (cy : Nat → ClassId) (σ : St) : va_W := I.map (fun q => (ad q.1 q.2, cf ad cy q.1 q.2 (σ q.1 q.2)))
def WL (ad : Nat → Nat → Nat) (cy : Nat → ClassId) (σ : St) : va_W := WLg (IX ad) ad cy σ
theorem WLg_at {I : List (Nat × Nat)} {ad : Nat → Nat → Nat} {cy : Nat → ClassId} {σ : St} {k i j : Nat} (h : I[j]? = some (k, i)) : (WLg I ad cy σ)[j]? = some (ad k i, cf ad cy k i (σ k i)) := by
  unfold WLg
  rw [List.getElem?_map, h]
  rfl
theorem WLg_set {I : List (Nat × Nat)} (hI : I.Nodup) {ad : Nat → Nat → Nat} {cy : Nat → ClassId} {σ : St} {k i j f : Nat} {x : Int32} (h : I[j]? = some (k, i)) : (WLg I ad cy σ).set j (ad k i, cf ad cy k i (upd (σ k i) f x)) = WLg I ad cy (up σ k i f x) := by
  apply List.ext_getElem?
  intro n
  have hj : j < I.length := (List.getElem?_eq_some_iff.mp h).1
  by_cases hn : n = j
  · subst hn
    rw [List.getElem?_set_self (by unfold WLg; rw [List.length_map]; exact hj), WLg_at h, up_eq]
  · rw [List.getElem?_set_ne (Ne.symm hn)]
    unfold WLg
    rw [List.getElem?_map, List.getElem?_map]
    cases hq : I[n]? with
    | none => rw [Option.map_none, Option.map_none]
    | some q =>
      have hne : ¬ (q.1 = k ∧ q.2 = i) := by
        rintro ⟨h1, h2⟩
        have e : q = (k, i) := Prod.ext h1 h2
        rw [e] at hq
        exact hn ((List.getElem?_inj (List.getElem?_eq_some_iff.mp hq).1 hI).mp (hq.trans h.symm))
      rw [Option.map_some, Option.map_some, up_ne hne]
theorem WLg_key {I : List (Nat × Nat)} {ad : Nat → Nat → Nat} {cy : Nat → ClassId} {σ : St} (n : Nat) (p : Nat × va_E) (hp : (WLg I ad cy σ)[n]? = some p) : ∃ q, I[n]? = some q ∧ p.1 = ad q.1 q.2 := by
  unfold WLg at hp
  rw [List.getElem?_map] at hp
  cases hq : I[n]? with
  | none => rw [hq] at hp; cases hp
  | some q => rw [hq] at hp; cases hp; exact ⟨q, rfl, rfl⟩
theorem WLg_D {I : List (Nat × Nat)} (hI : I.Nodup) {ad : Nat → Nat → Nat} {A : Nat → Prop} {cy : Nat → ClassId} {σ : St} (h1 : ∀ x ∈ I, ∀ y ∈ I, ad x.1 x.2 = ad y.1 y.2 → x = y) (h2 : ∀ x ∈ I, A (ad x.1 x.2)) : va_D A (WLg I ad cy σ) := by
  refine ⟨fun i j p q hi hj hpq => ?_, fun n p hp => ?_⟩
  · obtain ⟨x, hx, ex⟩ := WLg_key i p hi
    obtain ⟨y, hy, ey⟩ := WLg_key j q hj
    have e : x = y := h1 x (List.mem_of_getElem? hx) y (List.mem_of_getElem? hy) (ex.symm.trans (hpq.trans ey))
    subst e
    exact (List.getElem?_inj (List.getElem?_eq_some_iff.mp hx).1 hI).mp (hx.trans hy.symm)
  · obtain ⟨x, hx, ex⟩ := WLg_key n p hp
    rw [ex]
    exact h2 x (List.mem_of_getElem? hx)
theorem WL_at {ad : Nat → Nat → Nat} {cy : Nat → ClassId} {σ : St} {k i j : Nat} (h : (IX ad)[j]? = some (k, i)) : (WL ad cy σ)[j]? = some (ad k i, cf ad cy k i (σ k i)) := WLg_at h
theorem WL_set {ad : Nat → Nat → Nat} {cy : Nat → ClassId} {σ : St} {k i j f : Nat} {x : Int32} (h : (IX ad)[j]? = some (k, i)) : (WL ad cy σ).set j (ad k i, cf ad cy k i (upd (σ k i) f x)) = WL ad cy (up σ k i f x) := WLg_set IX_nodup h
def Apart (ad : Nat → Nat → Nat) (A : Nat → Prop) : Prop := (∀ x ∈ IX ad, ∀ y ∈ IX ad, ad x.1 x.2 = ad y.1 y.2 → x = y) ∧ ∀ x ∈ IX ad, A (ad x.1 x.2)
theorem Apart.D {ad : Nat → Nat → Nat} {A : Nat → Prop} (h : Apart ad A) (cy : Nat → ClassId) (σ : St) : va_D A (WL ad cy σ) := WLg_D IX_nodup h.1 h.2
/-- the texts of the class, by their entries -/
def strs : List (Nat × String) := [(63, "there are 8 pieces"), (211, "there is no such piece"), (222, "an argument is out of range"), (80, "the piece has 16 notes"), (92, "some pitch would not be from 0 to 80"), (214, "there is no such note"), (216, "there is no such instrument"), (120, "the piece has more than 4 notes"), (142, "the pupil knows the piece"), (148, "the pupil cannot learn the piece there"), (162, "there is too little of the wood"), (168, "two orders are at work"), (170, "there are 20 orders"), (218, "there is no such order"), (184, "the order is not ready"), (190, "the order was fetched"), (192, "there are 8 instruments"), (207, "today would be above 5000")]
def ISE : String := "java/lang/IllegalStateException"
def IOOBE : String := "java/lang/IndexOutOfBoundsException"
def IAE : String := "java/lang/IllegalArgumentException"
def exs : List String := [ISE, IOOBE, IAE]
def decs : List MethodName := [⟨"java/lang/RuntimeException", "<init>", "(Ljava/lang/String;)V"⟩, ⟨"java/lang/Exception", "<init>", "(Ljava/lang/String;)V"⟩, ⟨"java/lang/Throwable", "<init>", "(Ljava/lang/String;)V"⟩]
/-- what stays of a state through the whole run -/
def Fx (l : Launch) (D : va_G) (ad : Nat → Nat → Nat) (cy : Nat → ClassId) (A : Nat → Prop) (sa : Nat → Nat) (s : State) : Prop :=
  l.stackTraces = false ∧ va_K D vwCl (tysL cy) s ∧ Apart ad A ∧ (∀ q : Nat, s.heap.size ≤ q → A q) ∧
  vx_Zq Bundle.tN "UNASSIGNED_STACK" Bundle.steD A s s.heap ∧ vx_Zq Bundle.tN "SUPPRESSED_SENTINEL" Bundle.listD A s s.heap ∧
  (∀ q ∈ strs, vk_R RX5 q.1 q.2 (sa q.1) s) ∧ ((∀ E ∈ exs, va_Nw (.castable E E) s) ∧ ∀ x ∈ decs, va_Nw (.declares x) s) ∧ ∀ E ∈ exs, ∀ F ∈ exs, E ≠ F → va_Nc E F s
theorem Fx.call {l : Launch} {D : va_G} {ad : Nat → Nat → Nat} {cy : Nat → ClassId} {A : Nat → Prop} {sa : Nat → Nat} {s U : State} {H : Heap} {locs : List Loc} (h : Fx l D ad cy A sa s) (hS : va_S A s.heap H locs) (hU : U.heap = H) (hW : s.WarmedH U.vm) : Fx l D ad cy A sa U := by
  obtain ⟨h1, h2, h3, h4, h5, h6, h7, h8, h9⟩ := h
  refine ⟨h1, va_K.moved hW.alike h2, h3, fun q hq => h4 q (Nat.le_trans hS.1 (by rw [← hU]; exact hq)), ?_, ?_, fun q hq => (h7 q hq).warm hW, ⟨fun E hE => (h8.1 E hE).warmC hW, fun x hx => (h8.2 x hx).warmD hW⟩, fun E hE F hF n => (h9 E hE F hF n).moved hW.alike⟩
  · rw [hU]
    exact (h5.kept (fun a h1 h2 => hS.2.1 a h1 h2)).moved hW.alike
  · rw [hU]
    exact (h6.kept (fun a h1 h2 => hS.2.1 a h1 h2)).moved hW.alike
theorem Fx.blind {l : Launch} {D : va_G} {ad : Nat → Nat → Nat} {cy : Nat → ClassId} {A : Nat → Prop} {sa : Nat → Nat} {U : State} {g : JFrame} {mk : MethodId} {a : Array Value} (h : Fx l D ad cy A sa U) : Fx l D ad cy A sa (U.calling g mk a) := by
  obtain ⟨h1, h2, h3, h4, h5, h6, h7, h8, h9⟩ := h
  have hv : U.vm.Alike (U.calling g mk a).vm := Vm.Alike.refl U.vm
  exact ⟨h1, va_K.moved (u := U) (U := U.calling g mk a) hv h2, h3, h4, vx_Zq.moved (u := U) (U := U.calling g mk a) hv h5, vx_Zq.moved (u := U) (U := U.calling g mk a) hv h6, fun q hq => vk_R.same (u := U) (U := U.calling g mk a) rfl (h7 q hq), ⟨fun E hE => va_tabs rfl (rfl : U.vm = (U.calling g mk a).vm) (h8.1 E hE), fun x hx => va_tabs rfl (rfl : U.vm = (U.calling g mk a).vm) (h8.2 x hx)⟩, fun E hE F hF n => (h9 E hE F hF n).moved hv⟩
end
section
/-! ===== one instruction, one row: over the world of this claim ===== -/
/-- the locals, place by place -/
def lh (ls : Array Slot) (nL : Nat) (L : List (Option Value)) : Prop := ls.size = nL ∧ lv_wf ls ∧ ∀ (i : Nat) (v : Value), L[i]? = some (some v) → v.category = 1 ∧ ls[i]? = some (.val v)
def prs (L : List (Option Value)) : List (Nat × Value) := (List.range L.length).filterMap (fun i => (L[i]?.join).map (fun v => (i, v)))
theorem prs_mem {L : List (Option Value)} {i : Nat} {v : Value} : (i, v) ∈ prs L ↔ L[i]? = some (some v) := by
  unfold prs
  rw [List.mem_filterMap]
  constructor
  · rintro ⟨j, hj, h⟩
    cases hq : L[j]? with
    | none => rw [hq] at h; cases h
    | some o =>
      rw [hq] at h
      cases o with
      | none => cases h
      | some w => cases h; exact hq
  · intro h
    refine ⟨i, List.mem_range.mpr (List.getElem?_eq_some_iff.mp h).1, ?_⟩
    rw [h]
    rfl
theorem lh.has {ls : Array Slot} {nL : Nat} {L : List (Option Value)} (h : lh ls nL L) : lv_has ls nL (prs L) := ⟨h.1, h.2.1, fun q hq => (h.2.2 q.1 q.2 (prs_mem.mp hq)).2⟩
theorem lh.at {ls : Array Slot} {nL : Nat} {L : List (Option Value)} (h : lh ls nL L) {i : Nat} {v : Value} (hi : L[i]? = some (some v)) : ls[i]? = some (.val v) := (h.2.2 i v hi).2
theorem lh.set {ls ls' : Array Slot} {nL i : Nat} {L : List (Option Value)} {v : Value} (h : lh ls nL L) (hc : v.category = 1) (h' : lv_has ls' nL ((i, v) :: (prs L).filter (fun q => !(q.1 == i) && !(q.1 + 1 == i && q.2.category == 2)))) : lh ls' nL (L.set i (some v)) := by
  refine ⟨h'.1, h'.2.1, fun j w hj => ?_⟩
  by_cases e : j = i
  · subst e
    have hlt : j < L.length := by
      have := (List.getElem?_eq_some_iff.mp hj).1
      rw [List.length_set] at this
      exact this
    rw [List.getElem?_set_self hlt] at hj
    cases hj
    exact ⟨hc, h'.2.2 (j, v) List.mem_cons_self⟩
  · rw [List.getElem?_set_ne (Ne.symm e)] at hj
    have hw := h.2.2 j w hj
    refine ⟨hw.1, h'.2.2 (j, w) (List.mem_cons_of_mem _ (List.mem_filter.mpr ⟨prs_mem.mpr hj, ?_⟩))⟩
    simp [e, hw.1]
/-- fewer known locals -/
theorem lh.sub {ls : Array Slot} {nL : Nat} {L L' : List (Option Value)} (h : lh ls nL L) (hs : ∀ (i : Nat) (v : Value), L'[i]? = some (some v) → L[i]? = some (some v)) : lh ls nL L' := ⟨h.1, h.2.1, fun i v hi => h.2.2 i v (hs i v hi)⟩
def rmD (d mc : Nat) : Room := { frames := d + 6, cells := mc, slots := 6 * mc, locals := 40 * d + 100 }
/-- what stands through a method's body -/
def Cx (p : Program) (l : Launch) (s : State) (m : MethodId) (args : Array Value) (meth : Method) (c : Code) (cc : ByteArray) (own : String) (nL : Nat) (ret : Option FieldType) (D : va_G) (ad : Nat → Nat → Nat) (cy : Nat → ClassId) (A : Nat → Prop) (sa : Nat → Nat) : Prop :=
  p.tables.exec = Jvm.exec ∧ c.code = cc ∧ c.maxLocals = nL ∧ s.vm.findClass own = some m.cls ∧ (∀ w ∈ BIG, w.before args s = true) ∧ meth.sig.returnType = ret ∧ meth.locks = false ∧ Fx l D ad cy A sa s
/-- the machine at pc, with the world σ, locals L, stack st -/
def Z (p : Program) (l : Launch) (e : Env) (R : Room) (s : State) (m : MethodId) (args : Array Value) (below : List Frame) (meth : Method) (c : Code) (D : va_G) (ad : Nat → Nat → Nat) (cy : Nat → ClassId) (A : Nat → Prop) (nL : Nat) (cells slots : Nat) (Q : State → Prop) (σ : St) (L : List (Option Value)) (pc : Nat) (st : List Value) : Prop :=
  ∀ (H : Heap) (locs : List Loc) (ls : Array Slot), va_P D vwCl (WL ad cy σ) H → va_S A s.heap H locs → lh ls nL L → W p l e R s m args below meth c H locs cells slots Q (F0 m pc ls st)
section ZR
variable {p : Program} {l : Launch} {e : Env} {R : Room} {s : State} {m : MethodId} {args : Array Value} {below : List Frame} {meth : Method} {c : Code} {D : va_G} {ad : Nat → Nat → Nat} {cy : Nat → ClassId} {A : Nat → Prop} {sa : Nat → Nat} {nL cells slots : Nat} {Q : State → Prop} {σ : St} {L : List (Option Value)} {pc : Nat} {st : List Value} {cc : ByteArray} {own : String} {ret : Option FieldType}
theorem z_iconst (C : Cx p l s m args meth c cc own nL ret D ad cy A sa) {n : Int} {v : Int32} (hdg : decode cc pc = .ok (.iconst n, 1)) (hv : Int32.ofInt n = v) (k : Z p l e R s m args below meth c D ad cy A nL cells slots Q σ L (pc + 1) (.int v :: st)) : Z p l e R s m args below meth c D ad cy A nL cells slots Q σ L pc st :=
  fun H locs ls hP hS hl => lv_iconst C.1 C.2.1 hdg hv (k H locs ls hP hS hl)
theorem z_bipush (C : Cx p l s m args meth c cc own nL ret D ad cy A sa) {n : Int} {v : Int32} (hdg : decode cc pc = .ok (.bipush n, 2)) (hv : (Int8.ofInt n).toInt32 = v) (k : Z p l e R s m args below meth c D ad cy A nL cells slots Q σ L (pc + 2) (.int v :: st)) : Z p l e R s m args below meth c D ad cy A nL cells slots Q σ L pc st :=
  fun H locs ls hP hS hl => lv_bipush C.1 C.2.1 hdg hv (k H locs ls hP hS hl)
theorem z_sipush (C : Cx p l s m args meth c cc own nL ret D ad cy A sa) {n : Int} {v : Int32} (hdg : decode cc pc = .ok (.sipush n, 3)) (hv : (Int16.ofInt n).toInt32 = v) (k : Z p l e R s m args below meth c D ad cy A nL cells slots Q σ L (pc + 3) (.int v :: st)) : Z p l e R s m args below meth c D ad cy A nL cells slots Q σ L pc st :=
  fun H locs ls hP hS hl => lv_sipush C.1 C.2.1 hdg hv (k H locs ls hP hS hl)
theorem z_ldc (C : Cx p l s m args meth c cc own nL ret D ad cy A sa) {index : Nat} {v : Int32} (hw : Cond.constant own index v ∈ BIG) (hdg : decode cc pc = .ok (.ldc index, 2)) (k : Z p l e R s m args below meth c D ad cy A nL cells slots Q σ L (pc + 2) (.int v :: st)) : Z p l e R s m args below meth c D ad cy A nL cells slots Q σ L pc st :=
  fun H locs ls hP hS hl => lv_ldc C.1 C.2.1 C.2.2.2.1 (C.2.2.2.2.1 _ hw) hdg (k H locs ls hP hS hl)
theorem z_iload_n (C : Cx p l s m args meth c cc own nL ret D ad cy A sa) {n : Fin 4} {x : Int32} (hdg : decode cc pc = .ok (.iload_n n, 1)) (hx : L[(n : Nat)]? = some (some (.int x))) (k : Z p l e R s m args below meth c D ad cy A nL cells slots Q σ L (pc + 1) (.int x :: st)) : Z p l e R s m args below meth c D ad cy A nL cells slots Q σ L pc st :=
  fun H locs ls hP hS hl => lv_iload_n C.1 C.2.1 hdg rfl (hl.at hx) (k H locs ls hP hS hl)
theorem z_aload_n (C : Cx p l s m args meth c cc own nL ret D ad cy A sa) {n : Fin 4} {x : Nat} (hdg : decode cc pc = .ok (.aload_n n, 1)) (hx : L[(n : Nat)]? = some (some (.ref x))) (k : Z p l e R s m args below meth c D ad cy A nL cells slots Q σ L (pc + 1) (.ref x :: st)) : Z p l e R s m args below meth c D ad cy A nL cells slots Q σ L pc st :=
  fun H locs ls hP hS hl => lv_aload_n C.1 C.2.1 hdg rfl (hl.at hx) (k H locs ls hP hS hl)
theorem z_iload (C : Cx p l s m args meth c cc own nL ret D ad cy A sa) {n : Nat} {x : Int32} (hdg : decode cc pc = .ok (.iload n, 2)) (hx : L[n]? = some (some (.int x))) (k : Z p l e R s m args below meth c D ad cy A nL cells slots Q σ L (pc + 2) (.int x :: st)) : Z p l e R s m args below meth c D ad cy A nL cells slots Q σ L pc st :=
  fun H locs ls hP hS hl => lv_iload C.1 C.2.1 hdg (hl.at hx) (k H locs ls hP hS hl)
theorem z_aload (C : Cx p l s m args meth c cc own nL ret D ad cy A sa) {n : Nat} {x : Nat} (hdg : decode cc pc = .ok (.aload n, 2)) (hx : L[n]? = some (some (.ref x))) (k : Z p l e R s m args below meth c D ad cy A nL cells slots Q σ L (pc + 2) (.ref x :: st)) : Z p l e R s m args below meth c D ad cy A nL cells slots Q σ L pc st :=
  fun H locs ls hP hS hl => lv_aload C.1 C.2.1 hdg (hl.at hx) (k H locs ls hP hS hl)
theorem z_istore_n (C : Cx p l s m args meth c cc own nL ret D ad cy A sa) {n : Fin 4} {x : Int32} (hdg : decode cc pc = .ok (.istore_n n, 1)) (hn : (n : Nat) < nL) (k : Z p l e R s m args below meth c D ad cy A nL cells slots Q σ (L.set (n : Nat) (some (.int x))) (pc + 1) st) : Z p l e R s m args below meth c D ad cy A nL cells slots Q σ L pc (.int x :: st) :=
  fun H locs _ hP hS hl => lv_istore_n C.1 C.2.1 hdg rfl hl.has hn rfl (fun ls' h' => k H locs ls' hP hS (hl.set rfl h'))
theorem z_istore (C : Cx p l s m args meth c cc own nL ret D ad cy A sa) {n : Nat} {x : Int32} (hdg : decode cc pc = .ok (.istore n, 2)) (hn : n < nL) (k : Z p l e R s m args below meth c D ad cy A nL cells slots Q σ (L.set n (some (.int x))) (pc + 2) st) : Z p l e R s m args below meth c D ad cy A nL cells slots Q σ L pc (.int x :: st) :=
  fun H locs _ hP hS hl => lv_istore C.1 C.2.1 hdg hl.has hn rfl (fun ls' h' => k H locs ls' hP hS (hl.set rfl h'))
theorem z_astore_n (C : Cx p l s m args meth c cc own nL ret D ad cy A sa) {n : Fin 4} {x : Nat} (hdg : decode cc pc = .ok (.astore_n n, 1)) (hn : (n : Nat) < nL) (k : Z p l e R s m args below meth c D ad cy A nL cells slots Q σ (L.set (n : Nat) (some (.ref x))) (pc + 1) st) : Z p l e R s m args below meth c D ad cy A nL cells slots Q σ L pc (.ref x :: st) :=
  fun H locs _ hP hS hl => lv_astore_n C.1 C.2.1 hdg rfl hl.has hn rfl (fun ls' h' => k H locs ls' hP hS (hl.set rfl h'))
theorem z_astore (C : Cx p l s m args meth c cc own nL ret D ad cy A sa) {n : Nat} {x : Nat} (hdg : decode cc pc = .ok (.astore n, 2)) (hn : n < nL) (k : Z p l e R s m args below meth c D ad cy A nL cells slots Q σ (L.set n (some (.ref x))) (pc + 2) st) : Z p l e R s m args below meth c D ad cy A nL cells slots Q σ L pc (.ref x :: st) :=
  fun H locs _ hP hS hl => lv_astore C.1 C.2.1 hdg hl.has hn rfl (fun ls' h' => k H locs ls' hP hS (hl.set rfl h'))
theorem z_iinc (C : Cx p l s m args meth c cc own nL ret D ad cy A sa) {i : Nat} {n : Int} {x v : Int32} (hdg : decode cc pc = .ok (.iinc i n, 3)) (hx : L[i]? = some (some (.int x))) (hv : Int32.ofInt n = v) (hn : i < nL) (k : Z p l e R s m args below meth c D ad cy A nL cells slots Q σ (L.set i (some (.int (x + v)))) (pc + 3) st) : Z p l e R s m args below meth c D ad cy A nL cells slots Q σ L pc st := by
  intro H locs ls hP hS hl
  obtain ⟨k0, hk0⟩ := List.getElem?_of_mem (prs_mem.mpr hx)
  exact lv_iinc C.1 C.2.1 hdg hl.has hk0 (by rw [hv]) hn rfl (fun ls' h' => k H locs ls' hP hS (hl.set rfl h'))
theorem z_iadd (C : Cx p l s m args meth c cc own nL ret D ad cy A sa) {x y : Int32} (hdg : decode cc pc = .ok (.iadd, 1)) (k : Z p l e R s m args below meth c D ad cy A nL cells slots Q σ L (pc + 1) (.int (x + y) :: st)) : Z p l e R s m args below meth c D ad cy A nL cells slots Q σ L pc (.int y :: .int x :: st) :=
  fun H locs ls hP hS hl => lv_iadd C.1 C.2.1 hdg (k H locs ls hP hS hl)
theorem z_isub (C : Cx p l s m args meth c cc own nL ret D ad cy A sa) {x y : Int32} (hdg : decode cc pc = .ok (.isub, 1)) (k : Z p l e R s m args below meth c D ad cy A nL cells slots Q σ L (pc + 1) (.int (x - y) :: st)) : Z p l e R s m args below meth c D ad cy A nL cells slots Q σ L pc (.int y :: .int x :: st) :=
  fun H locs ls hP hS hl => lv_isub C.1 C.2.1 hdg (k H locs ls hP hS hl)
theorem z_imul (C : Cx p l s m args meth c cc own nL ret D ad cy A sa) {x y : Int32} (hdg : decode cc pc = .ok (.imul, 1)) (k : Z p l e R s m args below meth c D ad cy A nL cells slots Q σ L (pc + 1) (.int (x * y) :: st)) : Z p l e R s m args below meth c D ad cy A nL cells slots Q σ L pc (.int y :: .int x :: st) :=
  fun H locs ls hP hS hl => lv_imul C.1 C.2.1 hdg (k H locs ls hP hS hl)
theorem z_iand (C : Cx p l s m args meth c cc own nL ret D ad cy A sa) {x y : Int32} (hdg : decode cc pc = .ok (.iand, 1)) (k : Z p l e R s m args below meth c D ad cy A nL cells slots Q σ L (pc + 1) (.int (x &&& y) :: st)) : Z p l e R s m args below meth c D ad cy A nL cells slots Q σ L pc (.int y :: .int x :: st) :=
  fun H locs ls hP hS hl => lv_iand C.1 C.2.1 hdg (k H locs ls hP hS hl)
theorem z_ior (C : Cx p l s m args meth c cc own nL ret D ad cy A sa) {x y : Int32} (hdg : decode cc pc = .ok (.ior, 1)) (k : Z p l e R s m args below meth c D ad cy A nL cells slots Q σ L (pc + 1) (.int (x ||| y) :: st)) : Z p l e R s m args below meth c D ad cy A nL cells slots Q σ L pc (.int y :: .int x :: st) :=
  fun H locs ls hP hS hl => lv_ior C.1 C.2.1 hdg (k H locs ls hP hS hl)
theorem z_ishl (C : Cx p l s m args meth c cc own nL ret D ad cy A sa) {x y : Int32} (hdg : decode cc pc = .ok (.ishl, 1)) (k : Z p l e R s m args below meth c D ad cy A nL cells slots Q σ L (pc + 1) (.int (x <<< (y &&& 31)) :: st)) : Z p l e R s m args below meth c D ad cy A nL cells slots Q σ L pc (.int y :: .int x :: st) :=
  fun H locs ls hP hS hl => lv_ishl C.1 C.2.1 hdg (k H locs ls hP hS hl)
theorem z_ishr (C : Cx p l s m args meth c cc own nL ret D ad cy A sa) {x y : Int32} (hdg : decode cc pc = .ok (.ishr, 1)) (k : Z p l e R s m args below meth c D ad cy A nL cells slots Q σ L (pc + 1) (.int (x >>> (y &&& 31)) :: st)) : Z p l e R s m args below meth c D ad cy A nL cells slots Q σ L pc (.int y :: .int x :: st) :=
  fun H locs ls hP hS hl => lv_ishr C.1 C.2.1 hdg (k H locs ls hP hS hl)
theorem z_ineg (C : Cx p l s m args meth c cc own nL ret D ad cy A sa) {x : Int32} (hdg : decode cc pc = .ok (.ineg, 1)) (k : Z p l e R s m args below meth c D ad cy A nL cells slots Q σ L (pc + 1) (.int (-x) :: st)) : Z p l e R s m args below meth c D ad cy A nL cells slots Q σ L pc (.int x :: st) :=
  fun H locs ls hP hS hl => lv_ineg C.1 C.2.1 hdg (k H locs ls hP hS hl)
theorem z_i2l (C : Cx p l s m args meth c cc own nL ret D ad cy A sa) {x : Int32} (hdg : decode cc pc = .ok (.i2l, 1)) (k : Z p l e R s m args below meth c D ad cy A nL cells slots Q σ L (pc + 1) (.long x.toInt64 :: st)) : Z p l e R s m args below meth c D ad cy A nL cells slots Q σ L pc (.int x :: st) :=
  fun H locs ls hP hS hl => lv_i2l C.1 C.2.1 hdg rfl (k H locs ls hP hS hl)
theorem z_dup (C : Cx p l s m args meth c cc own nL ret D ad cy A sa) {v : Value} (hdg : decode cc pc = .ok (.dup, 1)) (hv : v.category = 1) (k : Z p l e R s m args below meth c D ad cy A nL cells slots Q σ L (pc + 1) (v :: v :: st)) : Z p l e R s m args below meth c D ad cy A nL cells slots Q σ L pc (v :: st) :=
  fun H locs ls hP hS hl => lv_dup C.1 C.2.1 hdg hv (k H locs ls hP hS hl)
theorem z_pop (C : Cx p l s m args meth c cc own nL ret D ad cy A sa) {v : Value} (hdg : decode cc pc = .ok (.pop, 1)) (hv : v.category = 1) (k : Z p l e R s m args below meth c D ad cy A nL cells slots Q σ L (pc + 1) st) : Z p l e R s m args below meth c D ad cy A nL cells slots Q σ L pc (v :: st) :=
  fun H locs ls hP hS hl => lv_pop C.1 C.2.1 hdg hv (k H locs ls hP hS hl)
theorem z_goto (C : Cx p l s m args meth c cc own nL ret D ad cy A sa) {off : Int} (tgt : Nat) (hdg : decode cc pc = .ok (.goto off, 3)) (ht : (pc : Int) + off = (tgt : Int)) (k : Z p l e R s m args below meth c D ad cy A nL cells slots Q σ L tgt st) : Z p l e R s m args below meth c D ad cy A nL cells slots Q σ L pc st :=
  fun H locs ls hP hS hl => lv_goto C.1 C.2.1 hdg ht (k H locs ls hP hS hl)
theorem z_icmp_eq (C : Cx p l s m args meth c cc own nL ret D ad cy A sa) {x y : Int32} {off : Int} (tgt : Nat) (hdg : decode cc pc = .ok (.if_icmp .eq off, 3)) (ht : (pc : Int) + off = (tgt : Int)) (kt : x = y → Z p l e R s m args below meth c D ad cy A nL cells slots Q σ L tgt st) (kf : ¬ x = y → Z p l e R s m args below meth c D ad cy A nL cells slots Q σ L (pc + 3) st) : Z p l e R s m args below meth c D ad cy A nL cells slots Q σ L pc (.int y :: .int x :: st) :=
  fun H locs ls hP hS hl => lv_icmp_eq C.1 C.2.1 hdg ht (fun h => kt h H locs ls hP hS hl) (fun h => kf h H locs ls hP hS hl)
theorem z_if_eq (C : Cx p l s m args meth c cc own nL ret D ad cy A sa) {x : Int32} {off : Int} (tgt : Nat) (hdg : decode cc pc = .ok (.ifCond .eq off, 3)) (ht : (pc : Int) + off = (tgt : Int)) (kt : x = 0 → Z p l e R s m args below meth c D ad cy A nL cells slots Q σ L tgt st) (kf : ¬ x = 0 → Z p l e R s m args below meth c D ad cy A nL cells slots Q σ L (pc + 3) st) : Z p l e R s m args below meth c D ad cy A nL cells slots Q σ L pc (.int x :: st) :=
  fun H locs ls hP hS hl => lv_if_eq C.1 C.2.1 hdg ht (fun h => kt h H locs ls hP hS hl) (fun h => kf h H locs ls hP hS hl)
theorem z_icmp_ne (C : Cx p l s m args meth c cc own nL ret D ad cy A sa) {x y : Int32} {off : Int} (tgt : Nat) (hdg : decode cc pc = .ok (.if_icmp .ne off, 3)) (ht : (pc : Int) + off = (tgt : Int)) (kt : ¬ x = y → Z p l e R s m args below meth c D ad cy A nL cells slots Q σ L tgt st) (kf : x = y → Z p l e R s m args below meth c D ad cy A nL cells slots Q σ L (pc + 3) st) : Z p l e R s m args below meth c D ad cy A nL cells slots Q σ L pc (.int y :: .int x :: st) :=
  fun H locs ls hP hS hl => lv_icmp_ne C.1 C.2.1 hdg ht (fun h => kt h H locs ls hP hS hl) (fun h => kf h H locs ls hP hS hl)
theorem z_if_ne (C : Cx p l s m args meth c cc own nL ret D ad cy A sa) {x : Int32} {off : Int} (tgt : Nat) (hdg : decode cc pc = .ok (.ifCond .ne off, 3)) (ht : (pc : Int) + off = (tgt : Int)) (kt : ¬ x = 0 → Z p l e R s m args below meth c D ad cy A nL cells slots Q σ L tgt st) (kf : x = 0 → Z p l e R s m args below meth c D ad cy A nL cells slots Q σ L (pc + 3) st) : Z p l e R s m args below meth c D ad cy A nL cells slots Q σ L pc (.int x :: st) :=
  fun H locs ls hP hS hl => lv_if_ne C.1 C.2.1 hdg ht (fun h => kt h H locs ls hP hS hl) (fun h => kf h H locs ls hP hS hl)
theorem z_icmp_lt (C : Cx p l s m args meth c cc own nL ret D ad cy A sa) {x y : Int32} {off : Int} (tgt : Nat) (hdg : decode cc pc = .ok (.if_icmp .lt off, 3)) (ht : (pc : Int) + off = (tgt : Int)) (kt : x < y → Z p l e R s m args below meth c D ad cy A nL cells slots Q σ L tgt st) (kf : ¬ x < y → Z p l e R s m args below meth c D ad cy A nL cells slots Q σ L (pc + 3) st) : Z p l e R s m args below meth c D ad cy A nL cells slots Q σ L pc (.int y :: .int x :: st) :=
  fun H locs ls hP hS hl => lv_icmp_lt C.1 C.2.1 hdg ht (fun h => kt h H locs ls hP hS hl) (fun h => kf h H locs ls hP hS hl)
theorem z_if_lt (C : Cx p l s m args meth c cc own nL ret D ad cy A sa) {x : Int32} {off : Int} (tgt : Nat) (hdg : decode cc pc = .ok (.ifCond .lt off, 3)) (ht : (pc : Int) + off = (tgt : Int)) (kt : x < 0 → Z p l e R s m args below meth c D ad cy A nL cells slots Q σ L tgt st) (kf : ¬ x < 0 → Z p l e R s m args below meth c D ad cy A nL cells slots Q σ L (pc + 3) st) : Z p l e R s m args below meth c D ad cy A nL cells slots Q σ L pc (.int x :: st) :=
  fun H locs ls hP hS hl => lv_if_lt C.1 C.2.1 hdg ht (fun h => kt h H locs ls hP hS hl) (fun h => kf h H locs ls hP hS hl)
theorem z_icmp_ge (C : Cx p l s m args meth c cc own nL ret D ad cy A sa) {x y : Int32} {off : Int} (tgt : Nat) (hdg : decode cc pc = .ok (.if_icmp .ge off, 3)) (ht : (pc : Int) + off = (tgt : Int)) (kt : y ≤ x → Z p l e R s m args below meth c D ad cy A nL cells slots Q σ L tgt st) (kf : ¬ y ≤ x → Z p l e R s m args below meth c D ad cy A nL cells slots Q σ L (pc + 3) st) : Z p l e R s m args below meth c D ad cy A nL cells slots Q σ L pc (.int y :: .int x :: st) :=
  fun H locs ls hP hS hl => lv_icmp_ge C.1 C.2.1 hdg ht (fun h => kt h H locs ls hP hS hl) (fun h => kf h H locs ls hP hS hl)
theorem z_if_ge (C : Cx p l s m args meth c cc own nL ret D ad cy A sa) {x : Int32} {off : Int} (tgt : Nat) (hdg : decode cc pc = .ok (.ifCond .ge off, 3)) (ht : (pc : Int) + off = (tgt : Int)) (kt : 0 ≤ x → Z p l e R s m args below meth c D ad cy A nL cells slots Q σ L tgt st) (kf : ¬ 0 ≤ x → Z p l e R s m args below meth c D ad cy A nL cells slots Q σ L (pc + 3) st) : Z p l e R s m args below meth c D ad cy A nL cells slots Q σ L pc (.int x :: st) :=
  fun H locs ls hP hS hl => lv_if_ge C.1 C.2.1 hdg ht (fun h => kt h H locs ls hP hS hl) (fun h => kf h H locs ls hP hS hl)
theorem z_icmp_gt (C : Cx p l s m args meth c cc own nL ret D ad cy A sa) {x y : Int32} {off : Int} (tgt : Nat) (hdg : decode cc pc = .ok (.if_icmp .gt off, 3)) (ht : (pc : Int) + off = (tgt : Int)) (kt : y < x → Z p l e R s m args below meth c D ad cy A nL cells slots Q σ L tgt st) (kf : ¬ y < x → Z p l e R s m args below meth c D ad cy A nL cells slots Q σ L (pc + 3) st) : Z p l e R s m args below meth c D ad cy A nL cells slots Q σ L pc (.int y :: .int x :: st) :=
  fun H locs ls hP hS hl => lv_icmp_gt C.1 C.2.1 hdg ht (fun h => kt h H locs ls hP hS hl) (fun h => kf h H locs ls hP hS hl)
theorem z_if_gt (C : Cx p l s m args meth c cc own nL ret D ad cy A sa) {x : Int32} {off : Int} (tgt : Nat) (hdg : decode cc pc = .ok (.ifCond .gt off, 3)) (ht : (pc : Int) + off = (tgt : Int)) (kt : 0 < x → Z p l e R s m args below meth c D ad cy A nL cells slots Q σ L tgt st) (kf : ¬ 0 < x → Z p l e R s m args below meth c D ad cy A nL cells slots Q σ L (pc + 3) st) : Z p l e R s m args below meth c D ad cy A nL cells slots Q σ L pc (.int x :: st) :=
  fun H locs ls hP hS hl => lv_if_gt C.1 C.2.1 hdg ht (fun h => kt h H locs ls hP hS hl) (fun h => kf h H locs ls hP hS hl)
theorem z_icmp_le (C : Cx p l s m args meth c cc own nL ret D ad cy A sa) {x y : Int32} {off : Int} (tgt : Nat) (hdg : decode cc pc = .ok (.if_icmp .le off, 3)) (ht : (pc : Int) + off = (tgt : Int)) (kt : x ≤ y → Z p l e R s m args below meth c D ad cy A nL cells slots Q σ L tgt st) (kf : ¬ x ≤ y → Z p l e R s m args below meth c D ad cy A nL cells slots Q σ L (pc + 3) st) : Z p l e R s m args below meth c D ad cy A nL cells slots Q σ L pc (.int y :: .int x :: st) :=
  fun H locs ls hP hS hl => lv_icmp_le C.1 C.2.1 hdg ht (fun h => kt h H locs ls hP hS hl) (fun h => kf h H locs ls hP hS hl)
theorem z_if_le (C : Cx p l s m args meth c cc own nL ret D ad cy A sa) {x : Int32} {off : Int} (tgt : Nat) (hdg : decode cc pc = .ok (.ifCond .le off, 3)) (ht : (pc : Int) + off = (tgt : Int)) (kt : x ≤ 0 → Z p l e R s m args below meth c D ad cy A nL cells slots Q σ L tgt st) (kf : ¬ x ≤ 0 → Z p l e R s m args below meth c D ad cy A nL cells slots Q σ L (pc + 3) st) : Z p l e R s m args below meth c D ad cy A nL cells slots Q σ L pc (.int x :: st) :=
  fun H locs ls hP hS hl => lv_if_le C.1 C.2.1 hdg ht (fun h => kt h H locs ls hP hS hl) (fun h => kf h H locs ls hP hS hl)
theorem z_dup2 (C : Cx p l s m args meth c cc own nL ret D ad cy A sa) {v w : Value} (hdg : decode cc pc = .ok (.dup2, 1)) (hv : v.category = 1) (hw : w.category = 1) (k : Z p l e R s m args below meth c D ad cy A nL cells slots Q σ L (pc + 1) (v :: w :: v :: w :: st)) : Z p l e R s m args below meth c D ad cy A nL cells slots Q σ L pc (v :: w :: st) :=
  fun H locs ls hP hS hl => lv_dup2_11 C.1 C.2.1 hdg hv hw (k H locs ls hP hS hl)
end ZR
end
section
/-! ===== fields and arrays of the world ===== -/
theorem inB0 : ∀ w ∈ u_ws RX0 TX0 5, w ∈ BIG := (List.forall_mem_cons.mpr ⟨wd129, (List.forall_mem_cons.mpr ⟨wd131, (List.forall_mem_cons.mpr ⟨wd133, (List.forall_mem_cons.mpr ⟨wd135, (List.forall_mem_cons.mpr ⟨wd137, (fun _ h => absurd h List.not_mem_nil)⟩)⟩)⟩)⟩)⟩)
theorem inB1 : ∀ w ∈ u_ws RX1 TX1 3, w ∈ BIG := (List.forall_mem_cons.mpr ⟨wd66, (List.forall_mem_cons.mpr ⟨wd68, (List.forall_mem_cons.mpr ⟨wd70, (fun _ h => absurd h List.not_mem_nil)⟩)⟩)⟩)
theorem inB2 : ∀ w ∈ u_ws RX2 TX2 4, w ∈ BIG := (List.forall_mem_cons.mpr ⟨wd104, (List.forall_mem_cons.mpr ⟨wd106, (List.forall_mem_cons.mpr ⟨wd108, (List.forall_mem_cons.mpr ⟨wd110, (fun _ h => absurd h List.not_mem_nil)⟩)⟩)⟩)⟩)
theorem inB3 : ∀ w ∈ u_ws RX3 TX3 2, w ∈ BIG := (List.forall_mem_cons.mpr ⟨wd48, (List.forall_mem_cons.mpr ⟨wd50, (fun _ h => absurd h List.not_mem_nil)⟩)⟩)
theorem inB4 : ∀ w ∈ u_ws RX4 TX4 2, w ∈ BIG := (List.forall_mem_cons.mpr ⟨wd84, (List.forall_mem_cons.mpr ⟨wd86, (fun _ h => absurd h List.not_mem_nil)⟩)⟩)
theorem inB5 : ∀ w ∈ u_ws RX5 TX5 10, w ∈ BIG := (List.forall_mem_cons.mpr ⟨wd150, (List.forall_mem_cons.mpr ⟨wd152, (List.forall_mem_cons.mpr ⟨wd154, (List.forall_mem_cons.mpr ⟨wd156, (List.forall_mem_cons.mpr ⟨wd158, (List.forall_mem_cons.mpr ⟨wd160, (List.forall_mem_cons.mpr ⟨wd162, (List.forall_mem_cons.mpr ⟨wd164, (List.forall_mem_cons.mpr ⟨wd166, (List.forall_mem_cons.mpr ⟨wd168, (fun _ h => absurd h List.not_mem_nil)⟩)⟩)⟩)⟩)⟩)⟩)⟩)⟩)⟩)⟩)
theorem tysL_at {cy : Nat → ClassId} : (tysL cy)[0]? = some (cy 0, .int) := rfl
section ZH
variable {p : Program} {l : Launch} {e : Env} {R : Room} {s : State} {m : MethodId} {args : Array Value} {below : List Frame} {meth : Method} {c : Code} {D : va_G} {ad : Nat → Nat → Nat} {cy : Nat → ClassId} {A : Nat → Prop} {sa : Nat → Nat} {nL cells slots : Nat} {Q : State → Prop} {σ : St} {L : List (Option Value)} {pc : Nat} {st : List Value} {cc : ByteArray} {own : String} {ret : Option FieldType}
theorem z_getf (C : Cx p l s m args meth c cc own nL ret D ad cy A sa) (k i f : Nat) (hm : (k, i) ∈ IX ad) {ci : Nat} {fs : List Value} (hcf : cf ad cy k i (σ k i) = .inr (ci, fs)) {Cn : String} {T : u_T} {N : Nat} (hcl : vwCl[ci]? = some (Cn, T, N)) (hf : f < N) (hin : ∀ w ∈ u_ws Cn T N, w ∈ BIG) {idx : Nat} {rf : String} (hw : Cond.fieldLink own idx rf (T f).2.1 (T f).2.2.1 ∈ BIG) (hsame : (T f).1 = rf) {v : Value} (hv : fs[f]? = some v) (hdg : decode cc pc = .ok (.getfield idx, 3)) (kk : Z p l e R s m args below meth c D ad cy A nL cells slots Q σ L (pc + 3) (v :: st)) : Z p l e R s m args below meth c D ad cy A nL cells slots Q σ L pc (.ref (ad k i) :: st) := by
  intro H locs ls hP hS hl
  obtain ⟨hx, hb, hml, hown, hts, hr, hlk, hF⟩ := C
  obtain ⟨j, hj⟩ := IX_at hm
  have he := WL_at (ad := ad) (cy := cy) (σ := σ) hj
  rw [hcf] at he
  exact va_get hx hb (Ts := BIG) hts hin hown hF.2.1 hP j he hcl f hf (hts _ hw) (fun x h => by rw [← hsame]; exact h) hv hdg (kk H locs ls hP hS hl)
theorem z_putf (C : Cx p l s m args meth c cc own nL ret D ad cy A sa) (k i f : Nat) (hm : (k, i) ∈ IX ad) {ci : Nat} {fs : List Value} (hcf : cf ad cy k i (σ k i) = .inr (ci, fs)) {Cn : String} {T : u_T} {N : Nat} (hcl : vwCl[ci]? = some (Cn, T, N)) (hf : f < N) (hin : ∀ w ∈ u_ws Cn T N, w ∈ BIG) {ty0 : Nat → FieldType} (hty : ∀ k, k < N → parseFieldDescriptor (T k).2.2.1 = some (ty0 k)) (hnm : ∀ a, a < N → ∀ b, b < N → a ≠ b → (T a).2.1 ≠ (T b).2.1) {idx : Nat} {rf : String} (hw : Cond.fieldLink own idx rf (T f).2.1 (T f).2.2.1 ∈ BIG) (hsame : (T f).1 = rf) (hfin : (T f).2.2.2 = false) {x : Int32} (hn : narrow (ty0 f) (.int x) = .int x) (hfit : fits (ty0 f) (.int x) = true) (hlen : f < fs.length) (hcf2 : cf ad cy k i (upd (σ k i) f x) = .inr (ci, fs.set f (.int x))) (hdg : decode cc pc = .ok (.putfield idx, 3)) (kk : Z p l e R s m args below meth c D ad cy A nL cells slots Q (up σ k i f x) L (pc + 3) st) : Z p l e R s m args below meth c D ad cy A nL cells slots Q σ L pc (.int x :: .ref (ad k i) :: st) := by
  intro H locs ls hP hS hl
  obtain ⟨hx, hb, hml, hown, hts, hr, hlk, hF⟩ := C
  obtain ⟨j, hj⟩ := IX_at hm
  have he := WL_at (ad := ad) (cy := cy) (σ := σ) hj
  rw [hcf] at he
  refine va_put hx hb (Ts := BIG) hts hin ty0 hty hnm hown hF.2.1 hP (hF.2.2.1.D cy σ) hS j he hcl f hf (hts _ hw) (fun x h => by rw [← hsame]; exact h) hfin (hty f hf) hn hfit hlen hdg (fun H1 locs1 hP1 _ hS1 => ?_)
  rw [← hcf2, WL_set hj] at hP1
  exact kk H1 locs1 ls hP1 hS1 hl
theorem va_aldr {D : va_G} {cl : List vw_C} {tys : List (ClassId × FieldType)} {ws : va_W} {H : Heap} {locs : List Loc} {a : Nat} {ls : Array Slot} {rest : List Value} (hexec : p.tables.exec = Jvm.exec) (hb : c.code = cc) (hK : va_K D cl tys s) (hP : va_P D cl ws H) (q0 t0 : Nat) {cA : ClassId} {ty : FieldType} {n : Nat} {f : Nat → Option Nat} (ha : ws[q0]? = some (a, .inl (cA, n, .inr (.inr (.inr (.inr f)))))) (ht : tys[t0]? = some (cA, ty)) (hty : ty.isReference = true) {i : Int32} (hin : vp_in i n) (hdg : decode cc pc = .ok (.aaload, 1))
    (kk : W p l e R s m args below meth c H locs cells slots Q (F0 m (pc + 1) ls (va_rf (f i.toNatClampNeg) :: rest))) : W p l e R s m args below meth c H locs cells slots Q (F0 m pc ls (.int i :: .ref a :: rest)) := by
  have hlt : i.toNatClampNeg < n := Nat.not_le.mp fun q => hin (Or.inr q)
  exact W.aald (v := va_rf (f i.toNatClampNeg)) (ty := ty) hexec hb (hP q0 _ ha) ((hK.2 t0 _ ht).1 n (fun j => va_rf (f j))) hty (fun q => by cases q) (by show ¬ (i < 0 ∨ (arrV _ _ _).slots.size ≤ _); rw [arrV_size]; exact hin) (by show (arrV _ _ _).slots[_]? = _; rw [arrV_read _ _ hlt]) rfl rfl hdg kk
theorem z_aald (C : Cx p l s m args meth c cc own nL ret D ad cy A sa) (k i : Nat) (hm : (k, i) ∈ IX ad) (t : Nat) {n : Nat} {f : Nat → Option Nat} {cA : ClassId} {ty : FieldType} (hcf : cf ad cy k i (σ k i) = .inl (cA, n, .inr (.inr (.inr (.inr f))))) (ht : (tysL cy)[t]? = some (cA, ty)) (hty : ty.isReference = true) (hn : n < 2 ^ 31) {x : Int32} {j q : Nat} (hx : x = nI j) (hj : j < n) (hq : f j = some q) (hdg : decode cc pc = .ok (.aaload, 1)) (kk : Z p l e R s m args below meth c D ad cy A nL cells slots Q σ L (pc + 1) (.ref q :: st)) : Z p l e R s m args below meth c D ad cy A nL cells slots Q σ L pc (.int x :: .ref (ad k i) :: st) := by
  intro H locs ls hP hS hl
  obtain ⟨he0, hb, hml, hown, hts, hr, hlk, hF⟩ := C
  obtain ⟨j0, hj0⟩ := IX_at hm
  have he := WL_at (ad := ad) (cy := cy) (σ := σ) hj0
  rw [hcf] at he
  subst hx
  refine va_aldr he0 hb hF.2.1 hP j0 t he ht hty (vp_in_nI hj hn) hdg ?_
  rw [nI_clamp (by omega), hq]
  exact kk H locs ls hP hS hl
theorem z_iald (C : Cx p l s m args meth c cc own nL ret D ad cy A sa) (k i : Nat) (hm : (k, i) ∈ IX ad) {n : Nat} (hcf : cf ad cy k i (σ k i) = .inl (cy 0, n, .inl (σ k i))) (hn : n < 2 ^ 31) {x : Int32} {j : Nat} (hx : x = nI j) (hj : j < n) (hdg : decode cc pc = .ok (.iaload, 1)) (kk : Z p l e R s m args below meth c D ad cy A nL cells slots Q σ L (pc + 1) (.int (σ k i j) :: st)) : Z p l e R s m args below meth c D ad cy A nL cells slots Q σ L pc (.int x :: .ref (ad k i) :: st) := by
  intro H locs ls hP hS hl
  obtain ⟨he0, hb, hml, hown, hts, hr, hlk, hF⟩ := C
  obtain ⟨j0, hj0⟩ := IX_at hm
  have he := WL_at (ad := ad) (cy := cy) (σ := σ) hj0
  rw [hcf] at he
  subst hx
  refine va_iald he0 hb hF.2.1 hP j0 0 he rfl (vp_in_nI hj hn) hdg ?_
  rw [nI_clamp (by omega)]
  exact kk H locs ls hP hS hl
theorem z_iast (C : Cx p l s m args meth c cc own nL ret D ad cy A sa) (k i : Nat) (hm : (k, i) ∈ IX ad) {n : Nat} (hcf : ∀ g : Nat → Int32, cf ad cy k i g = .inl (cy 0, n, .inl g)) (hn : n < 2 ^ 31) {x y : Int32} {j : Nat} (hx : x = nI j) (hj : j < n) (hdg : decode cc pc = .ok (.iastore, 1)) (kk : Z p l e R s m args below meth c D ad cy A nL cells slots Q (up σ k i j y) L (pc + 1) st) : Z p l e R s m args below meth c D ad cy A nL cells slots Q σ L pc (.int y :: .int x :: .ref (ad k i) :: st) := by
  intro H locs ls hP hS hl
  obtain ⟨he0, hb, hml, hown, hts, hr, hlk, hF⟩ := C
  obtain ⟨j0, hj0⟩ := IX_at hm
  have he := WL_at (ad := ad) (cy := cy) (σ := σ) hj0
  rw [hcf] at he
  subst hx
  refine va_iast he0 hb hF.2.1 hP (hF.2.2.1.D cy σ) hS j0 0 he rfl (vp_in_nI hj hn) hdg (fun H1 locs1 hP1 _ hS1 => ?_)
  rw [nI_clamp (by omega), ← hcf, WL_set hj0] at hP1
  exact kk H1 locs1 ls hP1 hS1 hl
theorem g_0_0 (C : Cx p l s m args meth c cc own nL ret D ad cy A sa) {idx : Nat} (hw : Cond.fieldLink own idx "FretSchool" "pieces" "[LFretSchool$Piece;" ∈ BIG) (hdg : decode cc pc = .ok (.getfield idx, 3)) (kk : Z p l e R s m args below meth c D ad cy A nL cells slots Q σ L (pc + 3) (.ref (ad 1 0) :: st)) : Z p l e R s m args below meth c D ad cy A nL cells slots Q σ L pc (.ref (ad 0 0) :: st) := z_getf C 0 0 0 (IX_mem (by decide) (by decide)) rfl rfl (by decide) inB5 hw rfl rfl hdg kk
theorem g_0_1 (C : Cx p l s m args meth c cc own nL ret D ad cy A sa) {idx : Nat} (hw : Cond.fieldLink own idx "FretSchool" "builds" "[LFretSchool$Instrument;" ∈ BIG) (hdg : decode cc pc = .ok (.getfield idx, 3)) (kk : Z p l e R s m args below meth c D ad cy A nL cells slots Q σ L (pc + 3) (.ref (ad 2 0) :: st)) : Z p l e R s m args below meth c D ad cy A nL cells slots Q σ L pc (.ref (ad 0 0) :: st) := z_getf C 0 0 1 (IX_mem (by decide) (by decide)) rfl rfl (by decide) inB5 hw rfl rfl hdg kk
theorem g_0_2 (C : Cx p l s m args meth c cc own nL ret D ad cy A sa) {idx : Nat} (hw : Cond.fieldLink own idx "FretSchool" "pupils" "[LFretSchool$Pupil;" ∈ BIG) (hdg : decode cc pc = .ok (.getfield idx, 3)) (kk : Z p l e R s m args below meth c D ad cy A nL cells slots Q σ L (pc + 3) (.ref (ad 3 0) :: st)) : Z p l e R s m args below meth c D ad cy A nL cells slots Q σ L pc (.ref (ad 0 0) :: st) := z_getf C 0 0 2 (IX_mem (by decide) (by decide)) rfl rfl (by decide) inB5 hw rfl rfl hdg kk
theorem g_0_3 (C : Cx p l s m args meth c cc own nL ret D ad cy A sa) {idx : Nat} (hw : Cond.fieldLink own idx "FretSchool" "orders" "[LFretSchool$Order;" ∈ BIG) (hdg : decode cc pc = .ok (.getfield idx, 3)) (kk : Z p l e R s m args below meth c D ad cy A nL cells slots Q σ L (pc + 3) (.ref (ad 4 0) :: st)) : Z p l e R s m args below meth c D ad cy A nL cells slots Q σ L pc (.ref (ad 0 0) :: st) := z_getf C 0 0 3 (IX_mem (by decide) (by decide)) rfl rfl (by decide) inB5 hw rfl rfl hdg kk
theorem g_0_4 (C : Cx p l s m args meth c cc own nL ret D ad cy A sa) {idx : Nat} (hw : Cond.fieldLink own idx "FretSchool" "stock" "[I" ∈ BIG) (hdg : decode cc pc = .ok (.getfield idx, 3)) (kk : Z p l e R s m args below meth c D ad cy A nL cells slots Q σ L (pc + 3) (.ref (ad 5 0) :: st)) : Z p l e R s m args below meth c D ad cy A nL cells slots Q σ L pc (.ref (ad 0 0) :: st) := z_getf C 0 0 4 (IX_mem (by decide) (by decide)) rfl rfl (by decide) inB5 hw rfl rfl hdg kk
theorem g_0_5 (C : Cx p l s m args meth c cc own nL ret D ad cy A sa) {idx : Nat} (hw : Cond.fieldLink own idx "FretSchool" "hand" "LFretSchool$Hand;" ∈ BIG) (hdg : decode cc pc = .ok (.getfield idx, 3)) (kk : Z p l e R s m args below meth c D ad cy A nL cells slots Q σ L (pc + 3) (.ref (ad 6 0) :: st)) : Z p l e R s m args below meth c D ad cy A nL cells slots Q σ L pc (.ref (ad 0 0) :: st) := z_getf C 0 0 5 (IX_mem (by decide) (by decide)) rfl rfl (by decide) inB5 hw rfl rfl hdg kk
theorem g_0_6 (C : Cx p l s m args meth c cc own nL ret D ad cy A sa) {idx : Nat} (hw : Cond.fieldLink own idx "FretSchool" "pieceCount" "I" ∈ BIG) (hdg : decode cc pc = .ok (.getfield idx, 3)) (kk : Z p l e R s m args below meth c D ad cy A nL cells slots Q σ L (pc + 3) (.int (σ 0 0 6) :: st)) : Z p l e R s m args below meth c D ad cy A nL cells slots Q σ L pc (.ref (ad 0 0) :: st) := z_getf C 0 0 6 (IX_mem (by decide) (by decide)) rfl rfl (by decide) inB5 hw rfl rfl hdg kk
theorem p_0_6 (C : Cx p l s m args meth c cc own nL ret D ad cy A sa) {idx : Nat} {x : Int32} (hw : Cond.fieldLink own idx "FretSchool" "pieceCount" "I" ∈ BIG) (hdg : decode cc pc = .ok (.putfield idx, 3)) (kk : Z p l e R s m args below meth c D ad cy A nL cells slots Q (up σ 0 0 6 x) L (pc + 3) st) : Z p l e R s m args below meth c D ad cy A nL cells slots Q σ L pc (.int x :: .ref (ad 0 0) :: st) := z_putf C 0 0 6 (IX_mem (by decide) (by decide)) rfl rfl (by decide) inB5 tyX5_ok nmX5 hw rfl rfl rfl rfl (Nat.le_of_ble_eq_true rfl) rfl hdg kk
theorem g_0_7 (C : Cx p l s m args meth c cc own nL ret D ad cy A sa) {idx : Nat} (hw : Cond.fieldLink own idx "FretSchool" "buildCount" "I" ∈ BIG) (hdg : decode cc pc = .ok (.getfield idx, 3)) (kk : Z p l e R s m args below meth c D ad cy A nL cells slots Q σ L (pc + 3) (.int (σ 0 0 7) :: st)) : Z p l e R s m args below meth c D ad cy A nL cells slots Q σ L pc (.ref (ad 0 0) :: st) := z_getf C 0 0 7 (IX_mem (by decide) (by decide)) rfl rfl (by decide) inB5 hw rfl rfl hdg kk
theorem p_0_7 (C : Cx p l s m args meth c cc own nL ret D ad cy A sa) {idx : Nat} {x : Int32} (hw : Cond.fieldLink own idx "FretSchool" "buildCount" "I" ∈ BIG) (hdg : decode cc pc = .ok (.putfield idx, 3)) (kk : Z p l e R s m args below meth c D ad cy A nL cells slots Q (up σ 0 0 7 x) L (pc + 3) st) : Z p l e R s m args below meth c D ad cy A nL cells slots Q σ L pc (.int x :: .ref (ad 0 0) :: st) := z_putf C 0 0 7 (IX_mem (by decide) (by decide)) rfl rfl (by decide) inB5 tyX5_ok nmX5 hw rfl rfl rfl rfl (Nat.le_of_ble_eq_true rfl) rfl hdg kk
theorem g_0_8 (C : Cx p l s m args meth c cc own nL ret D ad cy A sa) {idx : Nat} (hw : Cond.fieldLink own idx "FretSchool" "orderCount" "I" ∈ BIG) (hdg : decode cc pc = .ok (.getfield idx, 3)) (kk : Z p l e R s m args below meth c D ad cy A nL cells slots Q σ L (pc + 3) (.int (σ 0 0 8) :: st)) : Z p l e R s m args below meth c D ad cy A nL cells slots Q σ L pc (.ref (ad 0 0) :: st) := z_getf C 0 0 8 (IX_mem (by decide) (by decide)) rfl rfl (by decide) inB5 hw rfl rfl hdg kk
theorem p_0_8 (C : Cx p l s m args meth c cc own nL ret D ad cy A sa) {idx : Nat} {x : Int32} (hw : Cond.fieldLink own idx "FretSchool" "orderCount" "I" ∈ BIG) (hdg : decode cc pc = .ok (.putfield idx, 3)) (kk : Z p l e R s m args below meth c D ad cy A nL cells slots Q (up σ 0 0 8 x) L (pc + 3) st) : Z p l e R s m args below meth c D ad cy A nL cells slots Q σ L pc (.int x :: .ref (ad 0 0) :: st) := z_putf C 0 0 8 (IX_mem (by decide) (by decide)) rfl rfl (by decide) inB5 tyX5_ok nmX5 hw rfl rfl rfl rfl (Nat.le_of_ble_eq_true rfl) rfl hdg kk
theorem g_0_9 (C : Cx p l s m args meth c cc own nL ret D ad cy A sa) {idx : Nat} (hw : Cond.fieldLink own idx "FretSchool" "day" "I" ∈ BIG) (hdg : decode cc pc = .ok (.getfield idx, 3)) (kk : Z p l e R s m args below meth c D ad cy A nL cells slots Q σ L (pc + 3) (.int (σ 0 0 9) :: st)) : Z p l e R s m args below meth c D ad cy A nL cells slots Q σ L pc (.ref (ad 0 0) :: st) := z_getf C 0 0 9 (IX_mem (by decide) (by decide)) rfl rfl (by decide) inB5 hw rfl rfl hdg kk
theorem p_0_9 (C : Cx p l s m args meth c cc own nL ret D ad cy A sa) {idx : Nat} {x : Int32} (hw : Cond.fieldLink own idx "FretSchool" "day" "I" ∈ BIG) (hdg : decode cc pc = .ok (.putfield idx, 3)) (kk : Z p l e R s m args below meth c D ad cy A nL cells slots Q (up σ 0 0 9 x) L (pc + 3) st) : Z p l e R s m args below meth c D ad cy A nL cells slots Q σ L pc (.int x :: .ref (ad 0 0) :: st) := z_putf C 0 0 9 (IX_mem (by decide) (by decide)) rfl rfl (by decide) inB5 tyX5_ok nmX5 hw rfl rfl rfl rfl (Nat.le_of_ble_eq_true rfl) rfl hdg kk
theorem g_6_0 (C : Cx p l s m args meth c cc own nL ret D ad cy A sa) {idx : Nat} (hw : Cond.fieldLink own idx "FretSchool$Hand" "reach" "[I" ∈ BIG) (hdg : decode cc pc = .ok (.getfield idx, 3)) (kk : Z p l e R s m args below meth c D ad cy A nL cells slots Q σ L (pc + 3) (.ref (ad 7 0) :: st)) : Z p l e R s m args below meth c D ad cy A nL cells slots Q σ L pc (.ref (ad 6 0) :: st) := z_getf C 6 0 0 (IX_mem (by decide) (by decide)) rfl rfl (by decide) inB0 hw rfl rfl hdg kk
theorem g_6_1 (C : Cx p l s m args meth c cc own nL ret D ad cy A sa) {idx : Nat} (hw : Cond.fieldLink own idx "FretSchool$Hand" "rest" "[[I" ∈ BIG) (hdg : decode cc pc = .ok (.getfield idx, 3)) (kk : Z p l e R s m args below meth c D ad cy A nL cells slots Q σ L (pc + 3) (.ref (ad 8 0) :: st)) : Z p l e R s m args below meth c D ad cy A nL cells slots Q σ L pc (.ref (ad 6 0) :: st) := z_getf C 6 0 1 (IX_mem (by decide) (by decide)) rfl rfl (by decide) inB0 hw rfl rfl hdg kk
theorem g_6_2 (C : Cx p l s m args meth c cc own nL ret D ad cy A sa) {idx : Nat} (hw : Cond.fieldLink own idx "FretSchool$Hand" "row" "[I" ∈ BIG) (hdg : decode cc pc = .ok (.getfield idx, 3)) (kk : Z p l e R s m args below meth c D ad cy A nL cells slots Q σ L (pc + 3) (.ref (ad 9 0) :: st)) : Z p l e R s m args below meth c D ad cy A nL cells slots Q σ L pc (.ref (ad 6 0) :: st) := z_getf C 6 0 2 (IX_mem (by decide) (by decide)) rfl rfl (by decide) inB0 hw rfl rfl hdg kk
theorem g_6_3 (C : Cx p l s m args meth c cc own nL ret D ad cy A sa) {idx : Nat} (hw : Cond.fieldLink own idx "FretSchool$Hand" "sum" "I" ∈ BIG) (hdg : decode cc pc = .ok (.getfield idx, 3)) (kk : Z p l e R s m args below meth c D ad cy A nL cells slots Q σ L (pc + 3) (.int (σ 6 0 3) :: st)) : Z p l e R s m args below meth c D ad cy A nL cells slots Q σ L pc (.ref (ad 6 0) :: st) := z_getf C 6 0 3 (IX_mem (by decide) (by decide)) rfl rfl (by decide) inB0 hw rfl rfl hdg kk
theorem p_6_3 (C : Cx p l s m args meth c cc own nL ret D ad cy A sa) {idx : Nat} {x : Int32} (hw : Cond.fieldLink own idx "FretSchool$Hand" "sum" "I" ∈ BIG) (hdg : decode cc pc = .ok (.putfield idx, 3)) (kk : Z p l e R s m args below meth c D ad cy A nL cells slots Q (up σ 6 0 3 x) L (pc + 3) st) : Z p l e R s m args below meth c D ad cy A nL cells slots Q σ L pc (.int x :: .ref (ad 6 0) :: st) := z_putf C 6 0 3 (IX_mem (by decide) (by decide)) rfl rfl (by decide) inB0 tyX0_ok nmX0 hw rfl rfl rfl rfl (Nat.le_of_ble_eq_true rfl) rfl hdg kk
theorem g_6_4 (C : Cx p l s m args meth c cc own nL ret D ad cy A sa) {idx : Nat} (hw : Cond.fieldLink own idx "FretSchool$Hand" "greatest" "I" ∈ BIG) (hdg : decode cc pc = .ok (.getfield idx, 3)) (kk : Z p l e R s m args below meth c D ad cy A nL cells slots Q σ L (pc + 3) (.int (σ 6 0 4) :: st)) : Z p l e R s m args below meth c D ad cy A nL cells slots Q σ L pc (.ref (ad 6 0) :: st) := z_getf C 6 0 4 (IX_mem (by decide) (by decide)) rfl rfl (by decide) inB0 hw rfl rfl hdg kk
theorem p_6_4 (C : Cx p l s m args meth c cc own nL ret D ad cy A sa) {idx : Nat} {x : Int32} (hw : Cond.fieldLink own idx "FretSchool$Hand" "greatest" "I" ∈ BIG) (hdg : decode cc pc = .ok (.putfield idx, 3)) (kk : Z p l e R s m args below meth c D ad cy A nL cells slots Q (up σ 6 0 4 x) L (pc + 3) st) : Z p l e R s m args below meth c D ad cy A nL cells slots Q σ L pc (.int x :: .ref (ad 6 0) :: st) := z_putf C 6 0 4 (IX_mem (by decide) (by decide)) rfl rfl (by decide) inB0 tyX0_ok nmX0 hw rfl rfl rfl rfl (Nat.le_of_ble_eq_true rfl) rfl hdg kk
theorem g_11_0 {i : Nat} (hi : i < 8) (C : Cx p l s m args meth c cc own nL ret D ad cy A sa) {idx : Nat} (hw : Cond.fieldLink own idx "FretSchool$Piece" "pitches" "[I" ∈ BIG) (hdg : decode cc pc = .ok (.getfield idx, 3)) (kk : Z p l e R s m args below meth c D ad cy A nL cells slots Q σ L (pc + 3) (.ref (ad 12 i) :: st)) : Z p l e R s m args below meth c D ad cy A nL cells slots Q σ L pc (.ref (ad 11 i) :: st) := z_getf C 11 i 0 (IX_mem (by decide) hi) rfl rfl (by decide) inB3 hw rfl rfl hdg kk
theorem g_11_1 {i : Nat} (hi : i < 8) (C : Cx p l s m args meth c cc own nL ret D ad cy A sa) {idx : Nat} (hw : Cond.fieldLink own idx "FretSchool$Piece" "count" "I" ∈ BIG) (hdg : decode cc pc = .ok (.getfield idx, 3)) (kk : Z p l e R s m args below meth c D ad cy A nL cells slots Q σ L (pc + 3) (.int (σ 11 i 1) :: st)) : Z p l e R s m args below meth c D ad cy A nL cells slots Q σ L pc (.ref (ad 11 i) :: st) := z_getf C 11 i 1 (IX_mem (by decide) hi) rfl rfl (by decide) inB3 hw rfl rfl hdg kk
theorem p_11_1 {i : Nat} (hi : i < 8) (C : Cx p l s m args meth c cc own nL ret D ad cy A sa) {idx : Nat} {x : Int32} (hw : Cond.fieldLink own idx "FretSchool$Piece" "count" "I" ∈ BIG) (hdg : decode cc pc = .ok (.putfield idx, 3)) (kk : Z p l e R s m args below meth c D ad cy A nL cells slots Q (up σ 11 i 1 x) L (pc + 3) st) : Z p l e R s m args below meth c D ad cy A nL cells slots Q σ L pc (.int x :: .ref (ad 11 i) :: st) := z_putf C 11 i 1 (IX_mem (by decide) hi) rfl rfl (by decide) inB3 tyX3_ok nmX3 hw rfl rfl rfl rfl (Nat.le_of_ble_eq_true rfl) rfl hdg kk
theorem g_13_0 {i : Nat} (hi : i < 8) (C : Cx p l s m args meth c cc own nL ret D ad cy A sa) {idx : Nat} (hw : Cond.fieldLink own idx "FretSchool$Instrument" "open" "[I" ∈ BIG) (hdg : decode cc pc = .ok (.getfield idx, 3)) (kk : Z p l e R s m args below meth c D ad cy A nL cells slots Q σ L (pc + 3) (.ref (ad 14 i) :: st)) : Z p l e R s m args below meth c D ad cy A nL cells slots Q σ L pc (.ref (ad 13 i) :: st) := z_getf C 13 i 0 (IX_mem (by decide) hi) rfl rfl (by decide) inB1 hw rfl rfl hdg kk
theorem g_13_1 {i : Nat} (hi : i < 8) (C : Cx p l s m args meth c cc own nL ret D ad cy A sa) {idx : Nat} (hw : Cond.fieldLink own idx "FretSchool$Instrument" "keeper" "I" ∈ BIG) (hdg : decode cc pc = .ok (.getfield idx, 3)) (kk : Z p l e R s m args below meth c D ad cy A nL cells slots Q σ L (pc + 3) (.int (σ 13 i 1) :: st)) : Z p l e R s m args below meth c D ad cy A nL cells slots Q σ L pc (.ref (ad 13 i) :: st) := z_getf C 13 i 1 (IX_mem (by decide) hi) rfl rfl (by decide) inB1 hw rfl rfl hdg kk
theorem p_13_1 {i : Nat} (hi : i < 8) (C : Cx p l s m args meth c cc own nL ret D ad cy A sa) {idx : Nat} {x : Int32} (hw : Cond.fieldLink own idx "FretSchool$Instrument" "keeper" "I" ∈ BIG) (hdg : decode cc pc = .ok (.putfield idx, 3)) (kk : Z p l e R s m args below meth c D ad cy A nL cells slots Q (up σ 13 i 1 x) L (pc + 3) st) : Z p l e R s m args below meth c D ad cy A nL cells slots Q σ L pc (.int x :: .ref (ad 13 i) :: st) := z_putf C 13 i 1 (IX_mem (by decide) hi) rfl rfl (by decide) inB1 tyX1_ok nmX1 hw rfl rfl rfl rfl (Nat.le_of_ble_eq_true rfl) rfl hdg kk
theorem g_13_2 {i : Nat} (hi : i < 8) (C : Cx p l s m args meth c cc own nL ret D ad cy A sa) {idx : Nat} (hw : Cond.fieldLink own idx "FretSchool$Instrument" "fretCount" "I" ∈ BIG) (hdg : decode cc pc = .ok (.getfield idx, 3)) (kk : Z p l e R s m args below meth c D ad cy A nL cells slots Q σ L (pc + 3) (.int (σ 13 i 2) :: st)) : Z p l e R s m args below meth c D ad cy A nL cells slots Q σ L pc (.ref (ad 13 i) :: st) := z_getf C 13 i 2 (IX_mem (by decide) hi) rfl rfl (by decide) inB1 hw rfl rfl hdg kk
theorem p_13_2 {i : Nat} (hi : i < 8) (C : Cx p l s m args meth c cc own nL ret D ad cy A sa) {idx : Nat} {x : Int32} (hw : Cond.fieldLink own idx "FretSchool$Instrument" "fretCount" "I" ∈ BIG) (hdg : decode cc pc = .ok (.putfield idx, 3)) (kk : Z p l e R s m args below meth c D ad cy A nL cells slots Q (up σ 13 i 2 x) L (pc + 3) st) : Z p l e R s m args below meth c D ad cy A nL cells slots Q σ L pc (.int x :: .ref (ad 13 i) :: st) := z_putf C 13 i 2 (IX_mem (by decide) hi) rfl rfl (by decide) inB1 tyX1_ok nmX1 hw rfl rfl rfl rfl (Nat.le_of_ble_eq_true rfl) rfl hdg kk
theorem g_15_0 {i : Nat} (hi : i < 5) (C : Cx p l s m args meth c cc own nL ret D ad cy A sa) {idx : Nat} (hw : Cond.fieldLink own idx "FretSchool$Pupil" "grade" "I" ∈ BIG) (hdg : decode cc pc = .ok (.getfield idx, 3)) (kk : Z p l e R s m args below meth c D ad cy A nL cells slots Q σ L (pc + 3) (.int (σ 15 i 0) :: st)) : Z p l e R s m args below meth c D ad cy A nL cells slots Q σ L pc (.ref (ad 15 i) :: st) := z_getf C 15 i 0 (IX_mem (by decide) hi) rfl rfl (by decide) inB4 hw rfl rfl hdg kk
theorem p_15_0 {i : Nat} (hi : i < 5) (C : Cx p l s m args meth c cc own nL ret D ad cy A sa) {idx : Nat} {x : Int32} (hw : Cond.fieldLink own idx "FretSchool$Pupil" "grade" "I" ∈ BIG) (hdg : decode cc pc = .ok (.putfield idx, 3)) (kk : Z p l e R s m args below meth c D ad cy A nL cells slots Q (up σ 15 i 0 x) L (pc + 3) st) : Z p l e R s m args below meth c D ad cy A nL cells slots Q σ L pc (.int x :: .ref (ad 15 i) :: st) := z_putf C 15 i 0 (IX_mem (by decide) hi) rfl rfl (by decide) inB4 tyX4_ok nmX4 hw rfl rfl rfl rfl (Nat.le_of_ble_eq_true rfl) rfl hdg kk
theorem g_15_1 {i : Nat} (hi : i < 5) (C : Cx p l s m args meth c cc own nL ret D ad cy A sa) {idx : Nat} (hw : Cond.fieldLink own idx "FretSchool$Pupil" "repertoire" "I" ∈ BIG) (hdg : decode cc pc = .ok (.getfield idx, 3)) (kk : Z p l e R s m args below meth c D ad cy A nL cells slots Q σ L (pc + 3) (.int (σ 15 i 1) :: st)) : Z p l e R s m args below meth c D ad cy A nL cells slots Q σ L pc (.ref (ad 15 i) :: st) := z_getf C 15 i 1 (IX_mem (by decide) hi) rfl rfl (by decide) inB4 hw rfl rfl hdg kk
theorem p_15_1 {i : Nat} (hi : i < 5) (C : Cx p l s m args meth c cc own nL ret D ad cy A sa) {idx : Nat} {x : Int32} (hw : Cond.fieldLink own idx "FretSchool$Pupil" "repertoire" "I" ∈ BIG) (hdg : decode cc pc = .ok (.putfield idx, 3)) (kk : Z p l e R s m args below meth c D ad cy A nL cells slots Q (up σ 15 i 1 x) L (pc + 3) st) : Z p l e R s m args below meth c D ad cy A nL cells slots Q σ L pc (.int x :: .ref (ad 15 i) :: st) := z_putf C 15 i 1 (IX_mem (by decide) hi) rfl rfl (by decide) inB4 tyX4_ok nmX4 hw rfl rfl rfl rfl (Nat.le_of_ble_eq_true rfl) rfl hdg kk
theorem g_16_0 {i : Nat} (hi : i < 20) (C : Cx p l s m args meth c cc own nL ret D ad cy A sa) {idx : Nat} (hw : Cond.fieldLink own idx "FretSchool$Order" "buyer" "I" ∈ BIG) (hdg : decode cc pc = .ok (.getfield idx, 3)) (kk : Z p l e R s m args below meth c D ad cy A nL cells slots Q σ L (pc + 3) (.int (σ 16 i 0) :: st)) : Z p l e R s m args below meth c D ad cy A nL cells slots Q σ L pc (.ref (ad 16 i) :: st) := z_getf C 16 i 0 (IX_mem (by decide) hi) rfl rfl (by decide) inB2 hw rfl rfl hdg kk
theorem p_16_0 {i : Nat} (hi : i < 20) (C : Cx p l s m args meth c cc own nL ret D ad cy A sa) {idx : Nat} {x : Int32} (hw : Cond.fieldLink own idx "FretSchool$Order" "buyer" "I" ∈ BIG) (hdg : decode cc pc = .ok (.putfield idx, 3)) (kk : Z p l e R s m args below meth c D ad cy A nL cells slots Q (up σ 16 i 0 x) L (pc + 3) st) : Z p l e R s m args below meth c D ad cy A nL cells slots Q σ L pc (.int x :: .ref (ad 16 i) :: st) := z_putf C 16 i 0 (IX_mem (by decide) hi) rfl rfl (by decide) inB2 tyX2_ok nmX2 hw rfl rfl rfl rfl (Nat.le_of_ble_eq_true rfl) rfl hdg kk
theorem g_16_1 {i : Nat} (hi : i < 20) (C : Cx p l s m args meth c cc own nL ret D ad cy A sa) {idx : Nat} (hw : Cond.fieldLink own idx "FretSchool$Order" "fretCount" "I" ∈ BIG) (hdg : decode cc pc = .ok (.getfield idx, 3)) (kk : Z p l e R s m args below meth c D ad cy A nL cells slots Q σ L (pc + 3) (.int (σ 16 i 1) :: st)) : Z p l e R s m args below meth c D ad cy A nL cells slots Q σ L pc (.ref (ad 16 i) :: st) := z_getf C 16 i 1 (IX_mem (by decide) hi) rfl rfl (by decide) inB2 hw rfl rfl hdg kk
theorem p_16_1 {i : Nat} (hi : i < 20) (C : Cx p l s m args meth c cc own nL ret D ad cy A sa) {idx : Nat} {x : Int32} (hw : Cond.fieldLink own idx "FretSchool$Order" "fretCount" "I" ∈ BIG) (hdg : decode cc pc = .ok (.putfield idx, 3)) (kk : Z p l e R s m args below meth c D ad cy A nL cells slots Q (up σ 16 i 1 x) L (pc + 3) st) : Z p l e R s m args below meth c D ad cy A nL cells slots Q σ L pc (.int x :: .ref (ad 16 i) :: st) := z_putf C 16 i 1 (IX_mem (by decide) hi) rfl rfl (by decide) inB2 tyX2_ok nmX2 hw rfl rfl rfl rfl (Nat.le_of_ble_eq_true rfl) rfl hdg kk
theorem g_16_2 {i : Nat} (hi : i < 20) (C : Cx p l s m args meth c cc own nL ret D ad cy A sa) {idx : Nat} (hw : Cond.fieldLink own idx "FretSchool$Order" "readyDay" "I" ∈ BIG) (hdg : decode cc pc = .ok (.getfield idx, 3)) (kk : Z p l e R s m args below meth c D ad cy A nL cells slots Q σ L (pc + 3) (.int (σ 16 i 2) :: st)) : Z p l e R s m args below meth c D ad cy A nL cells slots Q σ L pc (.ref (ad 16 i) :: st) := z_getf C 16 i 2 (IX_mem (by decide) hi) rfl rfl (by decide) inB2 hw rfl rfl hdg kk
theorem p_16_2 {i : Nat} (hi : i < 20) (C : Cx p l s m args meth c cc own nL ret D ad cy A sa) {idx : Nat} {x : Int32} (hw : Cond.fieldLink own idx "FretSchool$Order" "readyDay" "I" ∈ BIG) (hdg : decode cc pc = .ok (.putfield idx, 3)) (kk : Z p l e R s m args below meth c D ad cy A nL cells slots Q (up σ 16 i 2 x) L (pc + 3) st) : Z p l e R s m args below meth c D ad cy A nL cells slots Q σ L pc (.int x :: .ref (ad 16 i) :: st) := z_putf C 16 i 2 (IX_mem (by decide) hi) rfl rfl (by decide) inB2 tyX2_ok nmX2 hw rfl rfl rfl rfl (Nat.le_of_ble_eq_true rfl) rfl hdg kk
theorem g_16_3 {i : Nat} (hi : i < 20) (C : Cx p l s m args meth c cc own nL ret D ad cy A sa) {idx : Nat} (hw : Cond.fieldLink own idx "FretSchool$Order" "isFetched" "Z" ∈ BIG) (hdg : decode cc pc = .ok (.getfield idx, 3)) (kk : Z p l e R s m args below meth c D ad cy A nL cells slots Q σ L (pc + 3) (.int (σ 16 i 3) :: st)) : Z p l e R s m args below meth c D ad cy A nL cells slots Q σ L pc (.ref (ad 16 i) :: st) := z_getf C 16 i 3 (IX_mem (by decide) hi) rfl rfl (by decide) inB2 hw rfl rfl hdg kk
theorem p_16_3 {i : Nat} (hi : i < 20) (C : Cx p l s m args meth c cc own nL ret D ad cy A sa) {idx : Nat} {x : Int32} (hz : x = 0 ∨ x = 1) (hw : Cond.fieldLink own idx "FretSchool$Order" "isFetched" "Z" ∈ BIG) (hdg : decode cc pc = .ok (.putfield idx, 3)) (kk : Z p l e R s m args below meth c D ad cy A nL cells slots Q (up σ 16 i 3 x) L (pc + 3) st) : Z p l e R s m args below meth c D ad cy A nL cells slots Q σ L pc (.int x :: .ref (ad 16 i) :: st) := z_putf C 16 i 3 (IX_mem (by decide) hi) rfl rfl (by decide) inB2 tyX2_ok nmX2 hw rfl rfl (by rcases hz with rfl | rfl <;> decide +kernel) (by rcases hz with rfl | rfl <;> decide +kernel) (Nat.le_of_ble_eq_true rfl) rfl hdg kk
theorem a_5 (C : Cx p l s m args meth c cc own nL ret D ad cy A sa) {x : Int32} {j : Nat} (hx : x = nI j) (hj : j < 4) (hdg : decode cc pc = .ok (.iaload, 1)) (kk : Z p l e R s m args below meth c D ad cy A nL cells slots Q σ L (pc + 1) (.int (σ 5 0 j) :: st)) : Z p l e R s m args below meth c D ad cy A nL cells slots Q σ L pc (.int x :: .ref (ad 5 0) :: st) := z_iald C 5 0 (IX_mem (by decide) (by decide)) rfl (by decide) hx hj hdg kk
theorem s_5 (C : Cx p l s m args meth c cc own nL ret D ad cy A sa) {x y : Int32} {j : Nat} (hx : x = nI j) (hj : j < 4) (hdg : decode cc pc = .ok (.iastore, 1)) (kk : Z p l e R s m args below meth c D ad cy A nL cells slots Q (up σ 5 0 j y) L (pc + 1) st) : Z p l e R s m args below meth c D ad cy A nL cells slots Q σ L pc (.int y :: .int x :: .ref (ad 5 0) :: st) := z_iast C 5 0 (IX_mem (by decide) (by decide)) (fun _ => rfl) (by decide) hx hj hdg kk
theorem a_7 (C : Cx p l s m args meth c cc own nL ret D ad cy A sa) {x : Int32} {j : Nat} (hx : x = nI j) (hj : j < 16) (hdg : decode cc pc = .ok (.iaload, 1)) (kk : Z p l e R s m args below meth c D ad cy A nL cells slots Q σ L (pc + 1) (.int (σ 7 0 j) :: st)) : Z p l e R s m args below meth c D ad cy A nL cells slots Q σ L pc (.int x :: .ref (ad 7 0) :: st) := z_iald C 7 0 (IX_mem (by decide) (by decide)) rfl (by decide) hx hj hdg kk
theorem s_7 (C : Cx p l s m args meth c cc own nL ret D ad cy A sa) {x y : Int32} {j : Nat} (hx : x = nI j) (hj : j < 16) (hdg : decode cc pc = .ok (.iastore, 1)) (kk : Z p l e R s m args below meth c D ad cy A nL cells slots Q (up σ 7 0 j y) L (pc + 1) st) : Z p l e R s m args below meth c D ad cy A nL cells slots Q σ L pc (.int y :: .int x :: .ref (ad 7 0) :: st) := z_iast C 7 0 (IX_mem (by decide) (by decide)) (fun _ => rfl) (by decide) hx hj hdg kk
theorem a_9 (C : Cx p l s m args meth c cc own nL ret D ad cy A sa) {x : Int32} {j : Nat} (hx : x = nI j) (hj : j < 16) (hdg : decode cc pc = .ok (.iaload, 1)) (kk : Z p l e R s m args below meth c D ad cy A nL cells slots Q σ L (pc + 1) (.int (σ 9 0 j) :: st)) : Z p l e R s m args below meth c D ad cy A nL cells slots Q σ L pc (.int x :: .ref (ad 9 0) :: st) := z_iald C 9 0 (IX_mem (by decide) (by decide)) rfl (by decide) hx hj hdg kk
theorem s_9 (C : Cx p l s m args meth c cc own nL ret D ad cy A sa) {x y : Int32} {j : Nat} (hx : x = nI j) (hj : j < 16) (hdg : decode cc pc = .ok (.iastore, 1)) (kk : Z p l e R s m args below meth c D ad cy A nL cells slots Q (up σ 9 0 j y) L (pc + 1) st) : Z p l e R s m args below meth c D ad cy A nL cells slots Q σ L pc (.int y :: .int x :: .ref (ad 9 0) :: st) := z_iast C 9 0 (IX_mem (by decide) (by decide)) (fun _ => rfl) (by decide) hx hj hdg kk
theorem a_10 {i : Nat} (hi : i < 16) (C : Cx p l s m args meth c cc own nL ret D ad cy A sa) {x : Int32} {j : Nat} (hx : x = nI j) (hj : j < 14) (hdg : decode cc pc = .ok (.iaload, 1)) (kk : Z p l e R s m args below meth c D ad cy A nL cells slots Q σ L (pc + 1) (.int (σ 10 i j) :: st)) : Z p l e R s m args below meth c D ad cy A nL cells slots Q σ L pc (.int x :: .ref (ad 10 i) :: st) := z_iald C 10 i (IX_mem (by decide) hi) rfl (by decide) hx hj hdg kk
theorem s_10 {i : Nat} (hi : i < 16) (C : Cx p l s m args meth c cc own nL ret D ad cy A sa) {x y : Int32} {j : Nat} (hx : x = nI j) (hj : j < 14) (hdg : decode cc pc = .ok (.iastore, 1)) (kk : Z p l e R s m args below meth c D ad cy A nL cells slots Q (up σ 10 i j y) L (pc + 1) st) : Z p l e R s m args below meth c D ad cy A nL cells slots Q σ L pc (.int y :: .int x :: .ref (ad 10 i) :: st) := z_iast C 10 i (IX_mem (by decide) hi) (fun _ => rfl) (by decide) hx hj hdg kk
theorem a_12 {i : Nat} (hi : i < 8) (C : Cx p l s m args meth c cc own nL ret D ad cy A sa) {x : Int32} {j : Nat} (hx : x = nI j) (hj : j < 16) (hdg : decode cc pc = .ok (.iaload, 1)) (kk : Z p l e R s m args below meth c D ad cy A nL cells slots Q σ L (pc + 1) (.int (σ 12 i j) :: st)) : Z p l e R s m args below meth c D ad cy A nL cells slots Q σ L pc (.int x :: .ref (ad 12 i) :: st) := z_iald C 12 i (IX_mem (by decide) hi) rfl (by decide) hx hj hdg kk
theorem s_12 {i : Nat} (hi : i < 8) (C : Cx p l s m args meth c cc own nL ret D ad cy A sa) {x y : Int32} {j : Nat} (hx : x = nI j) (hj : j < 16) (hdg : decode cc pc = .ok (.iastore, 1)) (kk : Z p l e R s m args below meth c D ad cy A nL cells slots Q (up σ 12 i j y) L (pc + 1) st) : Z p l e R s m args below meth c D ad cy A nL cells slots Q σ L pc (.int y :: .int x :: .ref (ad 12 i) :: st) := z_iast C 12 i (IX_mem (by decide) hi) (fun _ => rfl) (by decide) hx hj hdg kk
theorem a_14 {i : Nat} (hi : i < 8) (C : Cx p l s m args meth c cc own nL ret D ad cy A sa) {x : Int32} {j : Nat} (hx : x = nI j) (hj : j < 4) (hdg : decode cc pc = .ok (.iaload, 1)) (kk : Z p l e R s m args below meth c D ad cy A nL cells slots Q σ L (pc + 1) (.int (σ 14 i j) :: st)) : Z p l e R s m args below meth c D ad cy A nL cells slots Q σ L pc (.int x :: .ref (ad 14 i) :: st) := z_iald C 14 i (IX_mem (by decide) hi) rfl (by decide) hx hj hdg kk
theorem s_14 {i : Nat} (hi : i < 8) (C : Cx p l s m args meth c cc own nL ret D ad cy A sa) {x y : Int32} {j : Nat} (hx : x = nI j) (hj : j < 4) (hdg : decode cc pc = .ok (.iastore, 1)) (kk : Z p l e R s m args below meth c D ad cy A nL cells slots Q (up σ 14 i j y) L (pc + 1) st) : Z p l e R s m args below meth c D ad cy A nL cells slots Q σ L pc (.int y :: .int x :: .ref (ad 14 i) :: st) := z_iast C 14 i (IX_mem (by decide) hi) (fun _ => rfl) (by decide) hx hj hdg kk
theorem a_17 (C : Cx p l s m args meth c cc own nL ret D ad cy A sa) {x : Int32} {j : Nat} (hx : x = nI j) (hj : j < 8) (hdg : decode cc pc = .ok (.iaload, 1)) (kk : Z p l e R s m args below meth c D ad cy A nL cells slots Q σ L (pc + 1) (.int (σ 17 0 j) :: st)) : Z p l e R s m args below meth c D ad cy A nL cells slots Q σ L pc (.int x :: .ref (ad 17 0) :: st) := z_iald C 17 0 (IX_mem (by decide) (by decide)) rfl (by decide) hx hj hdg kk
theorem s_17 (C : Cx p l s m args meth c cc own nL ret D ad cy A sa) {x y : Int32} {j : Nat} (hx : x = nI j) (hj : j < 8) (hdg : decode cc pc = .ok (.iastore, 1)) (kk : Z p l e R s m args below meth c D ad cy A nL cells slots Q (up σ 17 0 j y) L (pc + 1) st) : Z p l e R s m args below meth c D ad cy A nL cells slots Q σ L pc (.int y :: .int x :: .ref (ad 17 0) :: st) := z_iast C 17 0 (IX_mem (by decide) (by decide)) (fun _ => rfl) (by decide) hx hj hdg kk
theorem a_18 (C : Cx p l s m args meth c cc own nL ret D ad cy A sa) {x : Int32} {j : Nat} (hx : x = nI j) (hj : j < 32) (hdg : decode cc pc = .ok (.iaload, 1)) (kk : Z p l e R s m args below meth c D ad cy A nL cells slots Q σ L (pc + 1) (.int (σ 18 0 j) :: st)) : Z p l e R s m args below meth c D ad cy A nL cells slots Q σ L pc (.int x :: .ref (ad 18 0) :: st) := z_iald C 18 0 (IX_mem (by decide) (by decide)) rfl (by decide) hx hj hdg kk
theorem s_18 (C : Cx p l s m args meth c cc own nL ret D ad cy A sa) {x y : Int32} {j : Nat} (hx : x = nI j) (hj : j < 32) (hdg : decode cc pc = .ok (.iastore, 1)) (kk : Z p l e R s m args below meth c D ad cy A nL cells slots Q (up σ 18 0 j y) L (pc + 1) st) : Z p l e R s m args below meth c D ad cy A nL cells slots Q σ L pc (.int y :: .int x :: .ref (ad 18 0) :: st) := z_iast C 18 0 (IX_mem (by decide) (by decide)) (fun _ => rfl) (by decide) hx hj hdg kk
theorem a_19 (C : Cx p l s m args meth c cc own nL ret D ad cy A sa) {x : Int32} {j : Nat} (hx : x = nI j) (hj : j < 8) (hdg : decode cc pc = .ok (.iaload, 1)) (kk : Z p l e R s m args below meth c D ad cy A nL cells slots Q σ L (pc + 1) (.int (σ 19 0 j) :: st)) : Z p l e R s m args below meth c D ad cy A nL cells slots Q σ L pc (.int x :: .ref (ad 19 0) :: st) := z_iald C 19 0 (IX_mem (by decide) (by decide)) rfl (by decide) hx hj hdg kk
theorem s_19 (C : Cx p l s m args meth c cc own nL ret D ad cy A sa) {x y : Int32} {j : Nat} (hx : x = nI j) (hj : j < 8) (hdg : decode cc pc = .ok (.iastore, 1)) (kk : Z p l e R s m args below meth c D ad cy A nL cells slots Q (up σ 19 0 j y) L (pc + 1) st) : Z p l e R s m args below meth c D ad cy A nL cells slots Q σ L pc (.int y :: .int x :: .ref (ad 19 0) :: st) := z_iast C 19 0 (IX_mem (by decide) (by decide)) (fun _ => rfl) (by decide) hx hj hdg kk
theorem a_20 (C : Cx p l s m args meth c cc own nL ret D ad cy A sa) {x : Int32} {j : Nat} (hx : x = nI j) (hj : j < 20) (hdg : decode cc pc = .ok (.iaload, 1)) (kk : Z p l e R s m args below meth c D ad cy A nL cells slots Q σ L (pc + 1) (.int (σ 20 0 j) :: st)) : Z p l e R s m args below meth c D ad cy A nL cells slots Q σ L pc (.int x :: .ref (ad 20 0) :: st) := z_iald C 20 0 (IX_mem (by decide) (by decide)) rfl (by decide) hx hj hdg kk
theorem s_20 (C : Cx p l s m args meth c cc own nL ret D ad cy A sa) {x y : Int32} {j : Nat} (hx : x = nI j) (hj : j < 20) (hdg : decode cc pc = .ok (.iastore, 1)) (kk : Z p l e R s m args below meth c D ad cy A nL cells slots Q (up σ 20 0 j y) L (pc + 1) st) : Z p l e R s m args below meth c D ad cy A nL cells slots Q σ L pc (.int y :: .int x :: .ref (ad 20 0) :: st) := z_iast C 20 0 (IX_mem (by decide) (by decide)) (fun _ => rfl) (by decide) hx hj hdg kk
theorem a_21 (C : Cx p l s m args meth c cc own nL ret D ad cy A sa) {x : Int32} {j : Nat} (hx : x = nI j) (hj : j < 4) (hdg : decode cc pc = .ok (.iaload, 1)) (kk : Z p l e R s m args below meth c D ad cy A nL cells slots Q σ L (pc + 1) (.int (σ 21 0 j) :: st)) : Z p l e R s m args below meth c D ad cy A nL cells slots Q σ L pc (.int x :: .ref (ad 21 0) :: st) := z_iald C 21 0 (IX_mem (by decide) (by decide)) rfl (by decide) hx hj hdg kk
theorem s_21 (C : Cx p l s m args meth c cc own nL ret D ad cy A sa) {x y : Int32} {j : Nat} (hx : x = nI j) (hj : j < 4) (hdg : decode cc pc = .ok (.iastore, 1)) (kk : Z p l e R s m args below meth c D ad cy A nL cells slots Q (up σ 21 0 j y) L (pc + 1) st) : Z p l e R s m args below meth c D ad cy A nL cells slots Q σ L pc (.int y :: .int x :: .ref (ad 21 0) :: st) := z_iast C 21 0 (IX_mem (by decide) (by decide)) (fun _ => rfl) (by decide) hx hj hdg kk
theorem a_22 (C : Cx p l s m args meth c cc own nL ret D ad cy A sa) {x : Int32} {j : Nat} (hx : x = nI j) (hj : j < 4) (hdg : decode cc pc = .ok (.iaload, 1)) (kk : Z p l e R s m args below meth c D ad cy A nL cells slots Q σ L (pc + 1) (.int (σ 22 0 j) :: st)) : Z p l e R s m args below meth c D ad cy A nL cells slots Q σ L pc (.int x :: .ref (ad 22 0) :: st) := z_iald C 22 0 (IX_mem (by decide) (by decide)) rfl (by decide) hx hj hdg kk
theorem s_22 (C : Cx p l s m args meth c cc own nL ret D ad cy A sa) {x y : Int32} {j : Nat} (hx : x = nI j) (hj : j < 4) (hdg : decode cc pc = .ok (.iastore, 1)) (kk : Z p l e R s m args below meth c D ad cy A nL cells slots Q (up σ 22 0 j y) L (pc + 1) st) : Z p l e R s m args below meth c D ad cy A nL cells slots Q σ L pc (.int y :: .int x :: .ref (ad 22 0) :: st) := z_iast C 22 0 (IX_mem (by decide) (by decide)) (fun _ => rfl) (by decide) hx hj hdg kk
theorem a_23 (hm : (23, 0) ∈ IX ad) (C : Cx p l s m args meth c cc own nL ret D ad cy A sa) {x : Int32} {j : Nat} (hx : x = nI j) (hj : j < 14) (hdg : decode cc pc = .ok (.iaload, 1)) (kk : Z p l e R s m args below meth c D ad cy A nL cells slots Q σ L (pc + 1) (.int (σ 23 0 j) :: st)) : Z p l e R s m args below meth c D ad cy A nL cells slots Q σ L pc (.int x :: .ref (ad 23 0) :: st) := z_iald C 23 0 hm rfl (by decide) hx hj hdg kk
theorem s_23 (hm : (23, 0) ∈ IX ad) (C : Cx p l s m args meth c cc own nL ret D ad cy A sa) {x y : Int32} {j : Nat} (hx : x = nI j) (hj : j < 14) (hdg : decode cc pc = .ok (.iastore, 1)) (kk : Z p l e R s m args below meth c D ad cy A nL cells slots Q (up σ 23 0 j y) L (pc + 1) st) : Z p l e R s m args below meth c D ad cy A nL cells slots Q σ L pc (.int y :: .int x :: .ref (ad 23 0) :: st) := z_iast C 23 0 hm (fun _ => rfl) (by decide) hx hj hdg kk
theorem a_24 (hm : (24, 0) ∈ IX ad) (C : Cx p l s m args meth c cc own nL ret D ad cy A sa) {x : Int32} {j : Nat} (hx : x = nI j) (hj : j < 14) (hdg : decode cc pc = .ok (.iaload, 1)) (kk : Z p l e R s m args below meth c D ad cy A nL cells slots Q σ L (pc + 1) (.int (σ 24 0 j) :: st)) : Z p l e R s m args below meth c D ad cy A nL cells slots Q σ L pc (.int x :: .ref (ad 24 0) :: st) := z_iald C 24 0 hm rfl (by decide) hx hj hdg kk
theorem s_24 (hm : (24, 0) ∈ IX ad) (C : Cx p l s m args meth c cc own nL ret D ad cy A sa) {x y : Int32} {j : Nat} (hx : x = nI j) (hj : j < 14) (hdg : decode cc pc = .ok (.iastore, 1)) (kk : Z p l e R s m args below meth c D ad cy A nL cells slots Q (up σ 24 0 j y) L (pc + 1) st) : Z p l e R s m args below meth c D ad cy A nL cells slots Q σ L pc (.int y :: .int x :: .ref (ad 24 0) :: st) := z_iast C 24 0 hm (fun _ => rfl) (by decide) hx hj hdg kk
theorem a_1 (C : Cx p l s m args meth c cc own nL ret D ad cy A sa) {x : Int32} {j : Nat} (hx : x = nI j) (hj : j < 8) (hdg : decode cc pc = .ok (.aaload, 1)) (kk : Z p l e R s m args below meth c D ad cy A nL cells slots Q σ L (pc + 1) (.ref (ad 11 j) :: st)) : Z p l e R s m args below meth c D ad cy A nL cells slots Q σ L pc (.int x :: .ref (ad 1 0) :: st) := z_aald C 1 0 (IX_mem (by decide) (by decide)) 1 rfl rfl rfl (by decide) hx hj rfl hdg kk
theorem a_2 (C : Cx p l s m args meth c cc own nL ret D ad cy A sa) {x : Int32} {j : Nat} (hx : x = nI j) (hj : j < 8) (hdg : decode cc pc = .ok (.aaload, 1)) (kk : Z p l e R s m args below meth c D ad cy A nL cells slots Q σ L (pc + 1) (.ref (ad 13 j) :: st)) : Z p l e R s m args below meth c D ad cy A nL cells slots Q σ L pc (.int x :: .ref (ad 2 0) :: st) := z_aald C 2 0 (IX_mem (by decide) (by decide)) 2 rfl rfl rfl (by decide) hx hj rfl hdg kk
theorem a_3 (C : Cx p l s m args meth c cc own nL ret D ad cy A sa) {x : Int32} {j : Nat} (hx : x = nI j) (hj : j < 5) (hdg : decode cc pc = .ok (.aaload, 1)) (kk : Z p l e R s m args below meth c D ad cy A nL cells slots Q σ L (pc + 1) (.ref (ad 15 j) :: st)) : Z p l e R s m args below meth c D ad cy A nL cells slots Q σ L pc (.int x :: .ref (ad 3 0) :: st) := z_aald C 3 0 (IX_mem (by decide) (by decide)) 3 rfl rfl rfl (by decide) hx hj rfl hdg kk
theorem a_4 (C : Cx p l s m args meth c cc own nL ret D ad cy A sa) {x : Int32} {j : Nat} (hx : x = nI j) (hj : j < 20) (hdg : decode cc pc = .ok (.aaload, 1)) (kk : Z p l e R s m args below meth c D ad cy A nL cells slots Q σ L (pc + 1) (.ref (ad 16 j) :: st)) : Z p l e R s m args below meth c D ad cy A nL cells slots Q σ L pc (.int x :: .ref (ad 4 0) :: st) := z_aald C 4 0 (IX_mem (by decide) (by decide)) 4 rfl rfl rfl (by decide) hx hj rfl hdg kk
theorem a_8 (C : Cx p l s m args meth c cc own nL ret D ad cy A sa) {x : Int32} {j : Nat} (hx : x = nI j) (hj : j < 16) (hdg : decode cc pc = .ok (.aaload, 1)) (kk : Z p l e R s m args below meth c D ad cy A nL cells slots Q σ L (pc + 1) (.ref (ad 10 j) :: st)) : Z p l e R s m args below meth c D ad cy A nL cells slots Q σ L pc (.int x :: .ref (ad 8 0) :: st) := z_aald C 8 0 (IX_mem (by decide) (by decide)) 5 rfl rfl rfl (by decide) hx hj rfl hdg kk
end ZH
end
section
/-! ===== contracts, calls, returns, throws ===== -/
def Bw (D : va_G) (ad : Nat → Nat → Nat) (cy : Nat → ClassId) : St → State → Prop := fun u t => va_P D vwCl (WL ad cy u) t.heap
def PcW (l : Launch) (D : va_G) (ad : Nat → Nat → Nat) (cy : Nat → ClassId) (A : Nat → Prop) (sa : Nat → Nat) (σ : St) (av : List Value) : Array Value → State → Prop := va_Pc av (fun U => Fx l D ad cy A sa U ∧ va_P D vwCl (WL ad cy σ) U.heap)
theorem PcW.blind {l : Launch} {D : va_G} {ad : Nat → Nat → Nat} {cy : Nat → ClassId} {A : Nat → Prop} {sa : Nat → Nat} {σ : St} {av : List Value} : FrameBlind (PcW l D ad cy A sa σ av) := fun _ _ _ _ q => ⟨q.1, q.2.1.blind, q.2.2⟩
/-- a method that answers an int and throws nothing -/
def MI (l : Launch) (D : va_G) (ad : Nat → Nat → Nat) (cy : Nat → ClassId) (A : Nat → Prop) (sa : Nat → Nat) (y : MethodName) (bytes : ByteArray) (maxL : Nat) (ret : Option FieldType) (d : Nat) (σ : St) (av : List Value) (post : Int32 → St → Prop) : Prop :=
  Met l y (Cond.code y bytes maxL ret :: BIG) (rmD d 0) (PcW l D ad cy A sa σ av) (va_Qi post (Bw D ad cy) A) 0 0 A
def MV (l : Launch) (D : va_G) (ad : Nat → Nat → Nat) (cy : Nat → ClassId) (A : Nat → Prop) (sa : Nat → Nat) (y : MethodName) (bytes : ByteArray) (maxL : Nat) (ret : Option FieldType) (d : Nat) (σ : St) (av : List Value) (post : St → Prop) : Prop :=
  Met l y (Cond.code y bytes maxL ret :: BIG) (rmD d 0) (PcW l D ad cy A sa σ av) (va_Qv post (Bw D ad cy) A) 0 0 A
def XW (D : va_G) (ad : Nat → Nat → Nat) (cy : Nat → ClassId) (A : Nat → Prop) (px : String → St → Prop) : String → State → State → Prop := vx_X (S := St) (fun _ => True) (fun E u t => px E u ∧ Bw D ad cy u t) A
def XI (l : Launch) (D : va_G) (ad : Nat → Nat → Nat) (cy : Nat → ClassId) (A : Nat → Prop) (sa : Nat → Nat) (y : MethodName) (bytes : ByteArray) (maxL : Nat) (ret : Option FieldType) (d mc : Nat) (σ : St) (av : List Value) (post : Int32 → St → Prop) (px : String → St → Prop) : Prop :=
  vx_Met l y (Cond.code y bytes maxL ret :: BIG) (rmD d mc) (PcW l D ad cy A sa σ av) (va_Qi post (Bw D ad cy) A) (XW D ad cy A px) mc (6 * mc) A
def XV (l : Launch) (D : va_G) (ad : Nat → Nat → Nat) (cy : Nat → ClassId) (A : Nat → Prop) (sa : Nat → Nat) (y : MethodName) (bytes : ByteArray) (maxL : Nat) (ret : Option FieldType) (d mc : Nat) (σ : St) (av : List Value) (post : St → Prop) (px : String → St → Prop) : Prop :=
  vx_Met l y (Cond.code y bytes maxL ret :: BIG) (rmD d mc) (PcW l D ad cy A sa σ av) (va_Qv post (Bw D ad cy) A) (XW D ad cy A px) mc (6 * mc) A
def L0 (av : List Value) (n : Nat) : List (Option Value) := av.map some ++ List.replicate (n - av.length) none
theorem lv_args_mem : ∀ (av : List Value) (k j : Nat) (v : Value), (∀ w ∈ av, w.category = 1) → av[j]? = some v → (k + j, v) ∈ lv_args k av
  | [], k, j, v, _, h => by simp at h
  | a :: r, k, 0, v, hc, h => by
    have e : a = v := by simpa using h
    subst e
    exact List.mem_cons_self
  | a :: r, k, j + 1, v, hc, h => by
    have h1 : ¬ a.category = 2 := by rw [hc a List.mem_cons_self]; decide
    have ih := lv_args_mem r (k + 1) j v (fun w hw => hc w (List.mem_cons_of_mem _ hw)) (by simpa using h)
    show (k + (j + 1), v) ∈ (k, a) :: lv_args (if a.category = 2 then k + 2 else k + 1) r
    rw [if_neg h1, show k + (j + 1) = k + 1 + j by omega]
    exact List.mem_cons_of_mem _ ih
theorem lh_entry {av : List Value} {n : Nat} {ls : Array Slot} (hc : av.all (fun v => v.category == 1) = true) (h : lv_has ls n (lv_args 0 av)) : lh ls n (L0 av n) := by
  have hc' : ∀ w ∈ av, w.category = 1 := fun w hw => by simpa using List.all_eq_true.mp hc w hw
  refine ⟨h.1, h.2.1, fun i v hi => ?_⟩
  have hav : av[i]? = some v := by
    unfold L0 at hi
    by_cases hl : i < (av.map some).length
    · rw [List.getElem?_append_left hl, List.getElem?_map] at hi
      cases hq : av[i]? with
      | none => rw [hq] at hi; cases hi
      | some w => rw [hq] at hi; cases hi; rfl
    · rw [List.getElem?_append_right (by omega), List.getElem?_replicate] at hi
      split at hi <;> cases hi
  have hm := lv_args_mem av 0 i v hc' hav
  rw [Nat.zero_add] at hm
  exact ⟨hc' v (List.mem_of_getElem? hav), h.2.2 _ hm⟩
theorem Cx.of {p : Program} {l : Launch} {e : Env} {s s₁ : State} {m : MethodId} {args : Array Value} {below : List Frame} {meth : Method} {c : Code} {y : MethodName} {bytes : ByteArray} {maxL : Nat} {ret : Option FieldType} {w0 : Cond} {rm : Room} {own : String} {D : va_G} {ad : Nat → Nat → Nat} {cy : Nat → ClassId} {A : Nat → Prop} {sa : Nat → Nat} (B : BodyLoose p l y (headSpec (w0 :: BIG) rm) bytes maxL ret e s m args below meth c s₁) (hml : c.maxLocals = maxL) (ho : y.cls = own) (hF : Fx l D ad cy A sa s) : Cx p l s m args meth c bytes own maxL ret D ad cy A sa := by
  have hts := atoms_spec (ws := w0 :: BIG) B.pre
  exact ⟨B.exec, B.bytes, hml, by rw [← ho]; exact findClass_of_methodNamed B.named, fun w hw => hts w (List.mem_cons_of_mem _ hw), B.returns, B.notSynchronized, hF⟩

theorem MI.mk {l : Launch} {D : va_G} {ad : Nat → Nat → Nat} {cy : Nat → ClassId} {A : Nat → Prop} {sa : Nat → Nat} {y : MethodName} {bytes : ByteArray} {maxL : Nat} {ret : Option FieldType} {d : Nat} {σ : St} {av : List Value} {post : Int32 → St → Prop} (own : String) (hy : plainName y.cls = true) (ho : y.cls = own) (hlen : (lg_sl av).length ≤ maxL) (hc : av.all (fun v => v.category == 1) = true)
    (body : ∀ (p : Program) (e : Env) (s : State) (m : MethodId) (args : Array Value) (below : List Frame) (meth : Method) (c : Code), Cx p l s m args meth c bytes own maxL ret D ad cy A sa → Z p l e (rmD d 0) s m args below meth c D ad cy A maxL 0 0 (MQ below (va_Qi post (Bw D ad cy) A) args s 0 0 A) σ (L0 av maxL) 0 []) : MI l D ad cy A sa y bytes maxL ret d σ av post := by
  refine Met.ofW (cc := bytes) (maxL := maxL) (ret := ret) hy rfl ?_
  intro p e s m args below meth c s₁ B hml hv
  obtain ⟨rfl, hF, hP⟩ := hv
  have C := Cx.of (own := own) B hml ho hF
  have hl := lv_entry av (n := maxL) hlen
  rw [lg_entry_eq]
  exact body p e s m _ below meth c C s.heap [] _ hP va_S.rf (lh_entry hc hl)
theorem MV.mk {l : Launch} {D : va_G} {ad : Nat → Nat → Nat} {cy : Nat → ClassId} {A : Nat → Prop} {sa : Nat → Nat} {y : MethodName} {bytes : ByteArray} {maxL : Nat} {ret : Option FieldType} {d : Nat} {σ : St} {av : List Value} {post : St → Prop} (own : String) (hy : plainName y.cls = true) (ho : y.cls = own) (hlen : (lg_sl av).length ≤ maxL) (hc : av.all (fun v => v.category == 1) = true)
    (body : ∀ (p : Program) (e : Env) (s : State) (m : MethodId) (args : Array Value) (below : List Frame) (meth : Method) (c : Code), Cx p l s m args meth c bytes own maxL ret D ad cy A sa → Z p l e (rmD d 0) s m args below meth c D ad cy A maxL 0 0 (MQ below (va_Qv post (Bw D ad cy) A) args s 0 0 A) σ (L0 av maxL) 0 []) : MV l D ad cy A sa y bytes maxL ret d σ av post := by
  refine Met.ofW (cc := bytes) (maxL := maxL) (ret := ret) hy rfl ?_
  intro p e s m args below meth c s₁ B hml hv
  obtain ⟨rfl, hF, hP⟩ := hv
  have C := Cx.of (own := own) B hml ho hF
  have hl := lv_entry av (n := maxL) hlen
  rw [lg_entry_eq]
  exact body p e s m _ below meth c C s.heap [] _ hP va_S.rf (lh_entry hc hl)
theorem XI.mk {l : Launch} {D : va_G} {ad : Nat → Nat → Nat} {cy : Nat → ClassId} {A : Nat → Prop} {sa : Nat → Nat} {y : MethodName} {bytes : ByteArray} {maxL : Nat} {ret : Option FieldType} {d : Nat} {σ : St} {av : List Value} {mc : Nat} {post : Int32 → St → Prop} {px : String → St → Prop} (own : String) (hy : plainName y.cls = true) (ho : y.cls = own) (hlen : (lg_sl av).length ≤ maxL) (hc : av.all (fun v => v.category == 1) = true)
    (body : ∀ (p : Program) (e : Env) (s : State) (m : MethodId) (args : Array Value) (below : List Frame) (meth : Method) (c : Code), Cx p l s m args meth c bytes own maxL ret D ad cy A sa → (∀ x ∈ c.exceptionTable.toList, False) → Z p l e (rmD d mc) s m args below meth c D ad cy A maxL 0 0 (vx_MQ below (va_Qi post (Bw D ad cy) A) (XW D ad cy A px) args s mc (6 * mc) A) σ (L0 av maxL) 0 []) : XI l D ad cy A sa y bytes maxL ret d mc σ av post px := by
  refine vx_ofW (cc := bytes) (maxL := maxL) (ret := ret) hy rfl ?_
  intro p e s m args below meth c s₁ B hml hex hv
  obtain ⟨rfl, hF, hP⟩ := hv
  have C := Cx.of (own := own) B hml ho hF
  have hl := lv_entry av (n := maxL) hlen
  rw [lg_entry_eq]
  exact body p e s m _ below meth c C hex s.heap [] _ hP va_S.rf (lh_entry hc hl)
theorem XV.mk {l : Launch} {D : va_G} {ad : Nat → Nat → Nat} {cy : Nat → ClassId} {A : Nat → Prop} {sa : Nat → Nat} {y : MethodName} {bytes : ByteArray} {maxL : Nat} {ret : Option FieldType} {d : Nat} {σ : St} {av : List Value} {mc : Nat} {post : St → Prop} {px : String → St → Prop} (own : String) (hy : plainName y.cls = true) (ho : y.cls = own) (hlen : (lg_sl av).length ≤ maxL) (hc : av.all (fun v => v.category == 1) = true)
    (body : ∀ (p : Program) (e : Env) (s : State) (m : MethodId) (args : Array Value) (below : List Frame) (meth : Method) (c : Code), Cx p l s m args meth c bytes own maxL ret D ad cy A sa → (∀ x ∈ c.exceptionTable.toList, False) → Z p l e (rmD d mc) s m args below meth c D ad cy A maxL 0 0 (vx_MQ below (va_Qv post (Bw D ad cy) A) (XW D ad cy A px) args s mc (6 * mc) A) σ (L0 av maxL) 0 []) : XV l D ad cy A sa y bytes maxL ret d mc σ av post px := by
  refine vx_ofW (cc := bytes) (maxL := maxL) (ret := ret) hy rfl ?_
  intro p e s m args below meth c s₁ B hml hex hv
  obtain ⟨rfl, hF, hP⟩ := hv
  have C := Cx.of (own := own) B hml ho hF
  have hl := lv_entry av (n := maxL) hlen
  rw [lg_entry_eq]
  exact body p e s m _ below meth c C hex s.heap [] _ hP va_S.rf (lh_entry hc hl)
section ZC
variable {p : Program} {l : Launch} {e : Env} {R : Room} {s : State} {m : MethodId} {args : Array Value} {below : List Frame} {meth : Method} {c : Code} {D : va_G} {ad : Nat → Nat → Nat} {cy : Nat → ClassId} {A : Nat → Prop} {sa : Nat → Nat} {nL cells slots : Nat} {Q : State → Prop} {σ : St} {L : List (Option Value)} {pc : Nat} {st stk : List Value} {cc : ByteArray} {own : String} {ret : Option FieldType}
/-- returns -/
theorem z_iret (C : Cx p l s m args meth c cc own nL (some .int) D ad cy A sa) {post : Int32 → St → Prop} {v : Int32} (hdg : decode cc pc = .ok (.ireturn, 1)) (h : post v σ) : Z p l e R s m args below meth c D ad cy A nL cells slots (MQ below (va_Qi post (Bw D ad cy) A) args s cells slots A) σ L pc [.int v] :=
  fun H locs ls hP hS hl => W.iret C.1 C.2.1 C.2.2.2.2.2.1 (fun t ht hW => ⟨⟨v, σ, rfl, h, by show va_P D vwCl (WL ad cy σ) t.heap; rw [ht]; exact hP⟩, hS.F ht⟩) hS.2.2 hdg C.2.2.2.2.2.2.1
theorem z_zret (C : Cx p l s m args meth c cc own nL (some .boolean) D ad cy A sa) {post : Int32 → St → Prop} {v : Int32} (hdg : decode cc pc = .ok (.ireturn, 1)) (hz : v = 0 ∨ v = 1) (h : post v σ) : Z p l e R s m args below meth c D ad cy A nL cells slots (MQ below (va_Qi post (Bw D ad cy) A) args s cells slots A) σ L pc [.int v] :=
  fun H locs ls hP hS hl => W.zret C.1 C.2.1 C.2.2.2.2.2.1 (by rcases hz with rfl | rfl <;> decide +kernel) (fun t ht hW => ⟨⟨v, σ, rfl, h, by show va_P D vwCl (WL ad cy σ) t.heap; rw [ht]; exact hP⟩, hS.F ht⟩) hS.2.2 hdg C.2.2.2.2.2.2.1
theorem z_vret (C : Cx p l s m args meth c cc own nL none D ad cy A sa) {post : St → Prop} (hdg : decode cc pc = .ok (.return_, 1)) (h : post σ) : Z p l e R s m args below meth c D ad cy A nL cells slots (MQ below (va_Qv post (Bw D ad cy) A) args s cells slots A) σ L pc [] :=
  fun H locs ls hP hS hl => W.vret C.1 C.2.1 C.2.2.2.2.2.1 (fun t ht hW => ⟨⟨σ, rfl, h, by show va_P D vwCl (WL ad cy σ) t.heap; rw [ht]; exact hP⟩, hS.F ht⟩) hS.2.2 hdg C.2.2.2.2.2.2.1
/-- the end of a method that may throw -/
theorem y_ret {Qc : Array Value → State → Outcome → State → Prop} {XC : String → State → State → Prop} {mc ms : Nat} (h1 : cells ≤ mc) (h2 : slots ≤ ms) (k : Z p l e R s m args below meth c D ad cy A nL mc ms (MQ below Qc args s mc ms A) σ L pc st) : Z p l e R s m args below meth c D ad cy A nL cells slots (vx_MQ below Qc XC args s mc ms A) σ L pc st :=
  fun H locs ls hP hS hl => W.widen h1 h2 (vx_ret (k H locs ls hP hS hl))
theorem z_widen {mc ms : Nat} (h1 : cells ≤ mc) (h2 : slots ≤ ms) (k : Z p l e R s m args below meth c D ad cy A nL mc ms Q σ L pc st) : Z p l e R s m args below meth c D ad cy A nL cells slots Q σ L pc st :=
  fun H locs ls hP hS hl => W.widen h1 h2 (k H locs ls hP hS hl)
theorem z_loc {L' : List (Option Value)} (hs : ∀ (i : Nat) (v : Value), L'[i]? = some (some v) → L[i]? = some (some v)) (k : Z p l e R s m args below meth c D ad cy A nL cells slots Q σ L' pc st) : Z p l e R s m args below meth c D ad cy A nL cells slots Q σ L pc st :=
  fun H locs ls hP hS hl => k H locs ls hP hS (hl.sub hs)
/-- the words of a callee -/
def OkV (y : MethodName) (bytes : ByteArray) (maxL : Nat) (ret : Option FieldType) (n : Nat) (Cn : String) : Prop := Cond.instanceMethod y ∈ BIG ∧ Cond.selects Cn y y ∈ BIG ∧ Cond.initialized Cn ∈ BIG ∧ Cond.code y bytes maxL ret ∈ BIG ∧ (y.cls = Cn ∧ y.cls ≠ "java/lang/invoke/MethodHandle" ∧ y.cls ≠ "java/lang/invoke/VarHandle" ∧ (parseMethodDescriptor y.desc).map (fun d => d.parameters.length) = some n)
def OkS (y : MethodName) (bytes : ByteArray) (maxL : Nat) (ret : Option FieldType) (n : Nat) : Prop := Cond.static y ∈ BIG ∧ Cond.initialized y.cls ∈ BIG ∧ Cond.code y bytes maxL ret ∈ BIG ∧ (y.cls ≠ "java/lang/invoke/MethodHandle" ∧ y.cls ≠ "java/lang/invoke/VarHandle" ∧ (parseMethodDescriptor y.desc).map (fun d => d.parameters.length) = some n)
def Rcv (ad : Nat → Nat → Nat) (cy : Nat → ClassId) (σ : St) (k i : Nat) (Cn : String) : Prop := (k, i) ∈ IX ad ∧ ∃ (ci : Nat) (fs : List Value) (T : u_T) (N : Nat), cf ad cy k i (σ k i) = .inr (ci, fs) ∧ vwCl[ci]? = some (Cn, T, N)
def Rok (R : Room) (d maxL : Nat) : Prop := d + 6 + 1 ≤ R.frames ∧ 8 + (maxL + 11) + (40 * d + 100) ≤ R.locals
theorem rok {d d' mc maxL : Nat} (h : d < d') (hm : maxL ≤ 20) : Rok (rmD d' mc) d maxL := ⟨by show d + 6 + 1 ≤ d' + 6; omega, by show 8 + (maxL + 11) + (40 * d + 100) ≤ 40 * d' + 100; omega⟩
theorem big_good {w : Cond} (h : w ∈ BIG) : w ∈ BIG ∧ ((w.onTables && w.keeps) = true ∨ ∃ ty, w = .arrayClass ty) := ⟨h, good_of_word (List.mem_filter.mp h).2⟩
theorem okV_in {y : MethodName} {bytes : ByteArray} {maxL : Nat} {ret : Option FieldType} {n idx : Nat} {Cn : String} (h : OkV y bytes maxL ret n Cn) (hw : Cond.methodLink own idx y ∈ BIG) : GoodIn BIG (wsV own idx Cn y (Cond.code y bytes maxL ret :: BIG)) := by
  obtain ⟨h1, h2, h3, h4, -⟩ := h
  intro w hm
  rcases List.mem_append.mp hm with hm | hm
  · rcases List.mem_cons.mp hm with rfl | hm
    · exact big_good hw
    · rcases List.mem_cons.mp hm with rfl | hm
      · exact big_good h1
      · rcases List.mem_cons.mp hm with rfl | hm
        · exact big_good h2
        · rcases List.mem_cons.mp hm with rfl | hm
          · exact big_good h3
          · exact absurd hm List.not_mem_nil
  · rcases List.mem_cons.mp hm with rfl | hm
    · exact big_good h4
    · exact big_good hm
theorem okS_in {y : MethodName} {w0 : Cond} {idx : Nat} (h1 : Cond.static y ∈ BIG) (h2 : Cond.initialized y.cls ∈ BIG) (h4 : w0 ∈ BIG) (hw : Cond.methodLink own idx y ∈ BIG) : GoodIn BIG (va_wsS own idx y (w0 :: BIG)) := by
  intro w hm
  rcases List.mem_append.mp hm with hm | hm
  · rcases List.mem_cons.mp hm with rfl | hm
    · exact big_good hw
    · rcases List.mem_cons.mp hm with rfl | hm
      · exact big_good h1
      · rcases List.mem_cons.mp hm with rfl | hm
        · exact big_good h2
        · exact absurd hm List.not_mem_nil
  · rcases List.mem_cons.mp hm with rfl | hm
    · exact big_good h4
    · exact big_good hm
theorem Rcv.cell {H : Heap} {k i : Nat} {Cn : String} (h : Rcv ad cy σ k i Cn) (hK : va_K D vwCl (tysL cy) s) (hP : va_P D vwCl (WL ad cy σ) H) : ∃ cell : Cell, H[ad k i]? = some cell ∧ cell.vm.isStatics = false ∧ s.vm.findClass Cn = some cell.cls := by
  obtain ⟨hm, ci, fs, T, N, hcf, hcl⟩ := h
  obtain ⟨j, hj⟩ := IX_at hm
  have he := WL_at (ad := ad) (cy := cy) (σ := σ) hj
  rw [hcf] at he
  exact va_recv hK hP (q := (Cn, T, N)) hcl he

theorem z_cvi (C : Cx p l s m args meth c cc own nL ret D ad cy A sa) {y : MethodName} {bytes : ByteArray} {maxL : Nat} {ret' : Option FieldType} {d : Nat} {post : Int32 → St → Prop} {k i : Nat} {Cn : String} {As : List Value} {idx : Nat} (M : MI l D ad cy A sa y bytes maxL ret' d σ (.ref (ad k i) :: As) post) (ok : OkV y bytes maxL ret' As.length Cn) (hw : Cond.methodLink own idx y ∈ BIG) (hr : Rcv ad cy σ k i Cn) (hR : Rok R d maxL) (hc : cells ≤ R.cells ∧ slots ≤ R.slots) (hst : stk = As.reverse ++ .ref (ad k i) :: st) (hcat : (st.map fun v => v.category).sum ≤ 8) (hdg : decode cc pc = .ok (.invokevirtual idx, 3)) (kk : ∀ (r : Int32) (σ' : St), post r σ' → Z p l e R s m args below meth c D ad cy A nL cells slots Q σ' L (pc + 3) (.int r :: st)) : Z p l e R s m args below meth c D ad cy A nL cells slots Q σ L pc stk := by
  intro H locs ls hP hS hl
  obtain ⟨hx, hb, hml, hown, hts, hr0, hlk, hF⟩ := C
  subst hst
  refine va_calli (va_runV (g := F0 m pc ls (As.reverse ++ .ref (ad k i) :: st)) (As := As) (rest := st) ⟨hx, hb, hml, hown, hts⟩ M (cwV As.length hts (okV_in ok hw) rfl rfl rfl ok.2.2.2.2 hR) ⟨PcW.blind, hr.cell hF.2.1 hP, fun U hU hW => ⟨rfl, hF.call hS hU hW, by rw [hU]; exact hP⟩⟩ rfl rfl hl.1 rfl (lv_room hcat) hdg hc) hS (fun q _ h => h) (fun q h => h) (fun r u t H1 locs1 ht hvm hw1 hB hz1 hk1 hS1 => ?_)
  exact kk r u hw1 H1 locs1 ls (by rw [← ht]; exact hB) hS1 hl
theorem z_csi (C : Cx p l s m args meth c cc own nL ret D ad cy A sa) {y : MethodName} {bytes : ByteArray} {maxL : Nat} {ret' : Option FieldType} {d : Nat} {post : Int32 → St → Prop} {As : List Value} {idx : Nat} (M : MI l D ad cy A sa y bytes maxL ret' d σ As post) (ok : OkS y bytes maxL ret' As.length) (hw : Cond.methodLink own idx y ∈ BIG) (hR : Rok R d maxL) (hc : cells ≤ R.cells ∧ slots ≤ R.slots) (hst : stk = As.reverse ++ st) (hcat : (st.map fun v => v.category).sum ≤ 8) (hdg : decode cc pc = .ok (.invokestatic idx, 3)) (kk : ∀ (r : Int32) (σ' : St), post r σ' → Z p l e R s m args below meth c D ad cy A nL cells slots Q σ' L (pc + 3) (.int r :: st)) : Z p l e R s m args below meth c D ad cy A nL cells slots Q σ L pc stk := by
  intro H locs ls hP hS hl
  obtain ⟨hx, hb, hml, hown, hts, hr0, hlk, hF⟩ := C
  subst hst
  refine va_calli (va_runS (g := F0 m pc ls (As.reverse ++ st)) (As := As) (rest := st) ⟨hx, hb, hml, hown, hts⟩ M (va_cwS As.length hts (okS_in ok.1 ok.2.1 ok.2.2.1 hw) rfl rfl rfl ok.2.2.2 hR) ⟨PcW.blind, fun U hU hW => ⟨rfl, hF.call hS hU hW, by rw [hU]; exact hP⟩⟩ rfl rfl hl.1 rfl (lv_room hcat) hdg hc) hS (fun q _ h => h) (fun q h => h) (fun r u t H1 locs1 ht hvm hw1 hB hz1 hk1 hS1 => ?_)
  exact kk r u hw1 H1 locs1 ls (by rw [← ht]; exact hB) hS1 hl
theorem z_cvv (C : Cx p l s m args meth c cc own nL ret D ad cy A sa) {y : MethodName} {bytes : ByteArray} {maxL : Nat} {ret' : Option FieldType} {d : Nat} {post : St → Prop} {k i : Nat} {Cn : String} {As : List Value} {idx : Nat} (M : MV l D ad cy A sa y bytes maxL ret' d σ (.ref (ad k i) :: As) post) (ok : OkV y bytes maxL ret' As.length Cn) (hw : Cond.methodLink own idx y ∈ BIG) (hr : Rcv ad cy σ k i Cn) (hR : Rok R d maxL) (hc : cells ≤ R.cells ∧ slots ≤ R.slots) (hst : stk = As.reverse ++ .ref (ad k i) :: st) (hcat : (st.map fun v => v.category).sum ≤ 8) (hdg : decode cc pc = .ok (.invokevirtual idx, 3)) (kk : ∀ (σ' : St), post σ' → Z p l e R s m args below meth c D ad cy A nL cells slots Q σ' L (pc + 3) st) : Z p l e R s m args below meth c D ad cy A nL cells slots Q σ L pc stk := by
  intro H locs ls hP hS hl
  obtain ⟨hx, hb, hml, hown, hts, hr0, hlk, hF⟩ := C
  subst hst
  refine va_callv (va_runV (g := F0 m pc ls (As.reverse ++ .ref (ad k i) :: st)) (As := As) (rest := st) ⟨hx, hb, hml, hown, hts⟩ M (cwV As.length hts (okV_in ok hw) rfl rfl rfl ok.2.2.2.2 hR) ⟨PcW.blind, hr.cell hF.2.1 hP, fun U hU hW => ⟨rfl, hF.call hS hU hW, by rw [hU]; exact hP⟩⟩ rfl rfl hl.1 rfl (lv_room hcat) hdg hc) hS (fun q _ h => h) (fun q h => h) (fun u t H1 locs1 ht hvm hw1 hB hz1 hk1 hS1 => ?_)
  exact kk u hw1 H1 locs1 ls (by rw [← ht]; exact hB) hS1 hl
theorem z_csv (C : Cx p l s m args meth c cc own nL ret D ad cy A sa) {y : MethodName} {bytes : ByteArray} {maxL : Nat} {ret' : Option FieldType} {d : Nat} {post : St → Prop} {As : List Value} {idx : Nat} (M : MV l D ad cy A sa y bytes maxL ret' d σ As post) (ok : OkS y bytes maxL ret' As.length) (hw : Cond.methodLink own idx y ∈ BIG) (hR : Rok R d maxL) (hc : cells ≤ R.cells ∧ slots ≤ R.slots) (hst : stk = As.reverse ++ st) (hcat : (st.map fun v => v.category).sum ≤ 8) (hdg : decode cc pc = .ok (.invokestatic idx, 3)) (kk : ∀ (σ' : St), post σ' → Z p l e R s m args below meth c D ad cy A nL cells slots Q σ' L (pc + 3) st) : Z p l e R s m args below meth c D ad cy A nL cells slots Q σ L pc stk := by
  intro H locs ls hP hS hl
  obtain ⟨hx, hb, hml, hown, hts, hr0, hlk, hF⟩ := C
  subst hst
  refine va_callv (va_runS (g := F0 m pc ls (As.reverse ++ st)) (As := As) (rest := st) ⟨hx, hb, hml, hown, hts⟩ M (va_cwS As.length hts (okS_in ok.1 ok.2.1 ok.2.2.1 hw) rfl rfl rfl ok.2.2.2 hR) ⟨PcW.blind, fun U hU hW => ⟨rfl, hF.call hS hU hW, by rw [hU]; exact hP⟩⟩ rfl rfl hl.1 rfl (lv_room hcat) hdg hc) hS (fun q _ h => h) (fun q h => h) (fun u t H1 locs1 ht hvm hw1 hB hz1 hk1 hS1 => ?_)
  exact kk u hw1 H1 locs1 ls (by rw [← ht]; exact hB) hS1 hl
theorem y_cvi (C : Cx p l s m args meth c cc own nL ret D ad cy A sa) {y : MethodName} {bytes : ByteArray} {maxL : Nat} {ret' : Option FieldType} {d : Nat} {mc : Nat} {post : Int32 → St → Prop} {px : String → St → Prop} {k i : Nat} {Cn : String} {As : List Value} {idx : Nat} (M : XI l D ad cy A sa y bytes maxL ret' d mc σ (.ref (ad k i) :: As) post px) (ok : OkV y bytes maxL ret' As.length Cn) (hw : Cond.methodLink own idx y ∈ BIG) (hr : Rcv ad cy σ k i Cn) (hR : Rok R d maxL) (hc : cells + mc ≤ R.cells ∧ slots + 6 * mc ≤ R.slots) (hst : stk = As.reverse ++ .ref (ad k i) :: st) (hcat : (st.map fun v => v.category).sum ≤ 8) (hdg : decode cc pc = .ok (.invokevirtual idx, 3)) (kx : ∀ (E : String) (ce : Cell) (q9 : Addr) (u : St) (H1 : Heap) (locs1 : List Loc) (ls : Array Slot), px E u → va_P D vwCl (WL ad cy u) H1 → va_S A s.heap H1 locs1 → lh ls nL L → H1[q9]? = some ce → ce.vm = .none → s.vm.findClass E = some ce.cls → vx_W p l e R s m args below meth c H1 locs1 (cells + mc) (slots + 6 * mc) Q (F0 m pc ls st) q9) (kk : ∀ (r : Int32) (σ' : St), post r σ' → Z p l e R s m args below meth c D ad cy A nL (cells + mc) (slots + 6 * mc) Q σ' L (pc + 3) (.int r :: st)) : Z p l e R s m args below meth c D ad cy A nL cells slots Q σ L pc stk := by
  intro H locs ls hP hS hl
  obtain ⟨hx, hb, hml, hown, hts, hr0, hlk, hF⟩ := C
  subst hst
  refine vx_calli (vx_runV (g := F0 m pc ls (As.reverse ++ .ref (ad k i) :: st)) (As := As) (rest := st) ⟨hx, hb, hml, hown, hts⟩ M (cwV As.length hts (okV_in ok hw) rfl rfl rfl ok.2.2.2.2 hR) ⟨PcW.blind, hr.cell hF.2.1 hP, fun U hU hW => ⟨rfl, hF.call hS hU hW, by rw [hU]; exact hP⟩⟩ rfl rfl hl.1 rfl (lv_room hcat) hdg hc) hS (fun q _ h => h) (fun q h => h) (fun q _ h => h) (fun E ce q9 u t H1 locs1 ht hvm _ hB hz1 hk1 hS1 h1 h2 h3 => ?_) (fun r u t H1 locs1 ht hvm hw1 hB hz1 hk1 hS1 => ?_)
  · exact kx E ce q9 u H1 locs1 ls hB.1 (by rw [← ht]; exact hB.2) hS1 hl h1 h2 h3
  · exact kk r u hw1 H1 locs1 ls (by rw [← ht]; exact hB) hS1 hl
theorem y_csi (C : Cx p l s m args meth c cc own nL ret D ad cy A sa) {y : MethodName} {bytes : ByteArray} {maxL : Nat} {ret' : Option FieldType} {d : Nat} {mc : Nat} {post : Int32 → St → Prop} {px : String → St → Prop} {As : List Value} {idx : Nat} (M : XI l D ad cy A sa y bytes maxL ret' d mc σ As post px) (ok : OkS y bytes maxL ret' As.length) (hw : Cond.methodLink own idx y ∈ BIG) (hR : Rok R d maxL) (hc : cells + mc ≤ R.cells ∧ slots + 6 * mc ≤ R.slots) (hst : stk = As.reverse ++ st) (hcat : (st.map fun v => v.category).sum ≤ 8) (hdg : decode cc pc = .ok (.invokestatic idx, 3)) (kx : ∀ (E : String) (ce : Cell) (q9 : Addr) (u : St) (H1 : Heap) (locs1 : List Loc) (ls : Array Slot), px E u → va_P D vwCl (WL ad cy u) H1 → va_S A s.heap H1 locs1 → lh ls nL L → H1[q9]? = some ce → ce.vm = .none → s.vm.findClass E = some ce.cls → vx_W p l e R s m args below meth c H1 locs1 (cells + mc) (slots + 6 * mc) Q (F0 m pc ls st) q9) (kk : ∀ (r : Int32) (σ' : St), post r σ' → Z p l e R s m args below meth c D ad cy A nL (cells + mc) (slots + 6 * mc) Q σ' L (pc + 3) (.int r :: st)) : Z p l e R s m args below meth c D ad cy A nL cells slots Q σ L pc stk := by
  intro H locs ls hP hS hl
  obtain ⟨hx, hb, hml, hown, hts, hr0, hlk, hF⟩ := C
  subst hst
  refine vx_calli (vx_runS (g := F0 m pc ls (As.reverse ++ st)) (As := As) (rest := st) ⟨hx, hb, hml, hown, hts⟩ M (va_cwS As.length hts (okS_in ok.1 ok.2.1 ok.2.2.1 hw) rfl rfl rfl ok.2.2.2 hR) ⟨PcW.blind, fun U hU hW => ⟨rfl, hF.call hS hU hW, by rw [hU]; exact hP⟩⟩ rfl rfl hl.1 rfl (lv_room hcat) hdg hc) hS (fun q _ h => h) (fun q h => h) (fun q _ h => h) (fun E ce q9 u t H1 locs1 ht hvm _ hB hz1 hk1 hS1 h1 h2 h3 => ?_) (fun r u t H1 locs1 ht hvm hw1 hB hz1 hk1 hS1 => ?_)
  · exact kx E ce q9 u H1 locs1 ls hB.1 (by rw [← ht]; exact hB.2) hS1 hl h1 h2 h3
  · exact kk r u hw1 H1 locs1 ls (by rw [← ht]; exact hB) hS1 hl
theorem y_cvv (C : Cx p l s m args meth c cc own nL ret D ad cy A sa) {y : MethodName} {bytes : ByteArray} {maxL : Nat} {ret' : Option FieldType} {d : Nat} {mc : Nat} {post : St → Prop} {px : String → St → Prop} {k i : Nat} {Cn : String} {As : List Value} {idx : Nat} (M : XV l D ad cy A sa y bytes maxL ret' d mc σ (.ref (ad k i) :: As) post px) (ok : OkV y bytes maxL ret' As.length Cn) (hw : Cond.methodLink own idx y ∈ BIG) (hr : Rcv ad cy σ k i Cn) (hR : Rok R d maxL) (hc : cells + mc ≤ R.cells ∧ slots + 6 * mc ≤ R.slots) (hst : stk = As.reverse ++ .ref (ad k i) :: st) (hcat : (st.map fun v => v.category).sum ≤ 8) (hdg : decode cc pc = .ok (.invokevirtual idx, 3)) (kx : ∀ (E : String) (ce : Cell) (q9 : Addr) (u : St) (H1 : Heap) (locs1 : List Loc) (ls : Array Slot), px E u → va_P D vwCl (WL ad cy u) H1 → va_S A s.heap H1 locs1 → lh ls nL L → H1[q9]? = some ce → ce.vm = .none → s.vm.findClass E = some ce.cls → vx_W p l e R s m args below meth c H1 locs1 (cells + mc) (slots + 6 * mc) Q (F0 m pc ls st) q9) (kk : ∀ (σ' : St), post σ' → Z p l e R s m args below meth c D ad cy A nL (cells + mc) (slots + 6 * mc) Q σ' L (pc + 3) st) : Z p l e R s m args below meth c D ad cy A nL cells slots Q σ L pc stk := by
  intro H locs ls hP hS hl
  obtain ⟨hx, hb, hml, hown, hts, hr0, hlk, hF⟩ := C
  subst hst
  refine vx_callv (vx_runV (g := F0 m pc ls (As.reverse ++ .ref (ad k i) :: st)) (As := As) (rest := st) ⟨hx, hb, hml, hown, hts⟩ M (cwV As.length hts (okV_in ok hw) rfl rfl rfl ok.2.2.2.2 hR) ⟨PcW.blind, hr.cell hF.2.1 hP, fun U hU hW => ⟨rfl, hF.call hS hU hW, by rw [hU]; exact hP⟩⟩ rfl rfl hl.1 rfl (lv_room hcat) hdg hc) hS (fun q _ h => h) (fun q h => h) (fun q _ h => h) (fun E ce q9 u t H1 locs1 ht hvm _ hB hz1 hk1 hS1 h1 h2 h3 => ?_) (fun u t H1 locs1 ht hvm hw1 hB hz1 hk1 hS1 => ?_)
  · exact kx E ce q9 u H1 locs1 ls hB.1 (by rw [← ht]; exact hB.2) hS1 hl h1 h2 h3
  · exact kk u hw1 H1 locs1 ls (by rw [← ht]; exact hB) hS1 hl
theorem y_csv (C : Cx p l s m args meth c cc own nL ret D ad cy A sa) {y : MethodName} {bytes : ByteArray} {maxL : Nat} {ret' : Option FieldType} {d : Nat} {mc : Nat} {post : St → Prop} {px : String → St → Prop} {As : List Value} {idx : Nat} (M : XV l D ad cy A sa y bytes maxL ret' d mc σ As post px) (ok : OkS y bytes maxL ret' As.length) (hw : Cond.methodLink own idx y ∈ BIG) (hR : Rok R d maxL) (hc : cells + mc ≤ R.cells ∧ slots + 6 * mc ≤ R.slots) (hst : stk = As.reverse ++ st) (hcat : (st.map fun v => v.category).sum ≤ 8) (hdg : decode cc pc = .ok (.invokestatic idx, 3)) (kx : ∀ (E : String) (ce : Cell) (q9 : Addr) (u : St) (H1 : Heap) (locs1 : List Loc) (ls : Array Slot), px E u → va_P D vwCl (WL ad cy u) H1 → va_S A s.heap H1 locs1 → lh ls nL L → H1[q9]? = some ce → ce.vm = .none → s.vm.findClass E = some ce.cls → vx_W p l e R s m args below meth c H1 locs1 (cells + mc) (slots + 6 * mc) Q (F0 m pc ls st) q9) (kk : ∀ (σ' : St), post σ' → Z p l e R s m args below meth c D ad cy A nL (cells + mc) (slots + 6 * mc) Q σ' L (pc + 3) st) : Z p l e R s m args below meth c D ad cy A nL cells slots Q σ L pc stk := by
  intro H locs ls hP hS hl
  obtain ⟨hx, hb, hml, hown, hts, hr0, hlk, hF⟩ := C
  subst hst
  refine vx_callv (vx_runS (g := F0 m pc ls (As.reverse ++ st)) (As := As) (rest := st) ⟨hx, hb, hml, hown, hts⟩ M (va_cwS As.length hts (okS_in ok.1 ok.2.1 ok.2.2.1 hw) rfl rfl rfl ok.2.2.2 hR) ⟨PcW.blind, fun U hU hW => ⟨rfl, hF.call hS hU hW, by rw [hU]; exact hP⟩⟩ rfl rfl hl.1 rfl (lv_room hcat) hdg hc) hS (fun q _ h => h) (fun q h => h) (fun q _ h => h) (fun E ce q9 u t H1 locs1 ht hvm _ hB hz1 hk1 hS1 h1 h2 h3 => ?_) (fun u t H1 locs1 ht hvm hw1 hB hz1 hk1 hS1 => ?_)
  · exact kx E ce q9 u H1 locs1 ls hB.1 (by rw [← ht]; exact hB.2) hS1 hl h1 h2 h3
  · exact kk u hw1 H1 locs1 ls (by rw [← ht]; exact hB) hS1 hl
theorem x_on (C : Cx p l s m args meth c cc own nL ret D ad cy A sa) (hex : ∀ x ∈ c.exceptionTable.toList, False) {Qc : Array Value → State → Outcome → State → Prop} {px px' : String → St → Prop} {mc' c1 s1 : Nat} (h1 : c1 ≤ mc') (h2 : s1 ≤ 6 * mc') (hpx : ∀ E u, px E u → px' E u) (E : String) (ce : Cell) (q9 : Addr) (u : St) (H1 : Heap) (locs1 : List Loc) (ls : Array Slot) (hp : px E u) (hP : va_P D vwCl (WL ad cy u) H1) (hS : va_S A s.heap H1 locs1) (_ : lh ls nL L) (g1 : H1[q9]? = some ce) (g2 : ce.vm = .none) (g3 : s.vm.findClass E = some ce.cls) : vx_W p l e R s m args below meth c H1 locs1 c1 s1 (vx_MQ below Qc (XW D ad cy A px') args s mc' (6 * mc') A) (F0 m pc ls st) q9 :=
  vx_out (fun x hx => absurd (hex x hx) id) C.2.2.2.2.2.2.1 g1 g2 g3 (fun t ht hvm => ⟨u, trivial, ⟨hpx E u hp, by show va_P D vwCl (WL ad cy u) t.heap; rw [ht]; exact hP⟩, hS.F ht⟩) hS.2.2 h1 h2
end ZC
theorem rc_0 {ad : Nat → Nat → Nat} {cy : Nat → ClassId} {σ : St} : Rcv ad cy σ 0 0 "FretSchool" := ⟨IX_mem (by decide) (by decide), 5, _, _, _, rfl, rfl⟩
theorem rc_6 {ad : Nat → Nat → Nat} {cy : Nat → ClassId} {σ : St} : Rcv ad cy σ 6 0 "FretSchool$Hand" := ⟨IX_mem (by decide) (by decide), 0, _, _, _, rfl, rfl⟩
theorem rc_11 {ad : Nat → Nat → Nat} {cy : Nat → ClassId} {σ : St} {i : Nat} (hi : i < 8) : Rcv ad cy σ 11 i "FretSchool$Piece" := ⟨IX_mem (by decide) hi, 3, _, _, _, rfl, rfl⟩
theorem rc_13 {ad : Nat → Nat → Nat} {cy : Nat → ClassId} {σ : St} {i : Nat} (hi : i < 8) : Rcv ad cy σ 13 i "FretSchool$Instrument" := ⟨IX_mem (by decide) hi, 1, _, _, _, rfl, rfl⟩
theorem rc_15 {ad : Nat → Nat → Nat} {cy : Nat → ClassId} {σ : St} {i : Nat} (hi : i < 5) : Rcv ad cy σ 15 i "FretSchool$Pupil" := ⟨IX_mem (by decide) hi, 4, _, _, _, rfl, rfl⟩
theorem rc_16 {ad : Nat → Nat → Nat} {cy : Nat → ClassId} {σ : St} {i : Nat} (hi : i < 20) : Rcv ad cy σ 16 i "FretSchool$Order" := ⟨IX_mem (by decide) hi, 2, _, _, _, rfl, rfl⟩
theorem okX5_instruments : OkV yX5_instruments cX5_instruments 1 (some .int) 0 "FretSchool" := ⟨wd172, wd173, wd14, wd174, by decide +kernel⟩
theorem okX5_today : OkV yX5_today cX5_today 1 (some .int) 0 "FretSchool" := ⟨wd176, wd177, wd14, wd178, by decide +kernel⟩
theorem okX5_level : OkV yX5_level cX5_level 2 (some .int) 1 "FretSchool" := ⟨wd189, wd190, wd14, wd191, by decide +kernel⟩
theorem okX5_needPupil : OkS yX5_needPupil cX5_needPupil 1 (none : Option Jvm.ClassFile.FieldType) 1 := ⟨wd193, wd14, wd194, by decide +kernel⟩
theorem okX5_needRange : OkS yX5_needRange cX5_needRange 3 (none : Option Jvm.ClassFile.FieldType) 3 := ⟨wd196, wd14, wd197, by decide +kernel⟩
theorem okX5_known : OkV yX5_known cX5_known 2 (some .int) 1 "FretSchool" := ⟨wd271, wd272, wd14, wd273, by decide +kernel⟩
theorem okX5_next : OkV yX5_next cX5_next 6 (some .int) 1 "FretSchool" := ⟨wd278, wd279, wd14, wd280, by decide +kernel⟩
theorem okX4_knows : OkV yX4_knows cX4_knows 2 (some .boolean) 1 "FretSchool$Pupil" := ⟨wd282, wd283, wd17, wd284, by decide +kernel⟩
theorem okX5_easiestShift : OkV yX5_easiestShift cX5_easiestShift 6 (some .int) 2 "FretSchool" := ⟨wd287, wd1, wd14, wd288, by decide +kernel⟩
theorem okX5_learnableShift : OkV yX5_learnableShift cX5_learnableShift 5 (some .int) 3 "FretSchool" := ⟨wd291, wd2, wd14, wd292, by decide +kernel⟩
theorem okX0_placeBest : OkV yX0_placeBest cX0_placeBest 4 (some .boolean) 2 "FretSchool$Hand" := ⟨wd294, wd295, wd19, wd296, by decide +kernel⟩
theorem okX0_feelReach : OkV yX0_feelReach cX0_feelReach 6 (none : Option Jvm.ClassFile.FieldType) 2 "FretSchool$Hand" := ⟨wd299, wd3, wd19, wd300, by decide +kernel⟩
theorem okX1_highestPosition : OkV yX1_highestPosition cX1_highestPosition 1 (some .int) 0 "FretSchool$Instrument" := ⟨wd302, wd303, wd16, wd304, by decide +kernel⟩
theorem okX1_lowestString : OkV yX1_lowestString cX1_lowestString 5 (some .int) 2 "FretSchool$Instrument" := ⟨wd306, wd307, wd16, wd308, by decide +kernel⟩
theorem okX0_measureRest : OkV yX0_measureRest cX0_measureRest 5 (none : Option Jvm.ClassFile.FieldType) 2 "FretSchool$Hand" := ⟨wd311, wd4, wd19, wd312, by decide +kernel⟩
theorem okX0_nearest : OkV yX0_nearest cX0_nearest 7 (some .int) 2 "FretSchool$Hand" := ⟨wd315, wd5, wd19, wd316, by decide +kernel⟩
theorem okX0_shift : OkS yX0_shift cX0_shift 2 (some .int) 2 := ⟨wd319, wd19, wd320, by decide +kernel⟩
theorem okX0_canReach : OkS yX0_canReach cX0_canReach 2 (some .boolean) 2 := ⟨wd325, wd19, wd326, by decide +kernel⟩
theorem okX0_chooseRow : OkV yX0_chooseRow cX0_chooseRow 6 (some .boolean) 1 "FretSchool$Hand" := ⟨wd329, wd6, wd19, wd330, by decide +kernel⟩
theorem okX5_pitch : OkV yX5_pitch cX5_pitch 3 (some .int) 2 "FretSchool" := ⟨wd339, wd340, wd14, wd341, by decide +kernel⟩
theorem okX5_needNote : OkV yX5_needNote cX5_needNote 3 (none : Option Jvm.ClassFile.FieldType) 2 "FretSchool" := ⟨wd344, wd7, wd14, wd345, by decide +kernel⟩
theorem okX5_needPiece : OkV yX5_needPiece cX5_needPiece 2 (none : Option Jvm.ClassFile.FieldType) 1 "FretSchool" := ⟨wd348, wd8, wd14, wd349, by decide +kernel⟩
theorem okX5_shifts : OkV yX5_shifts cX5_shifts 3 (some .int) 2 "FretSchool" := ⟨wd378, wd379, wd14, wd380, by decide +kernel⟩
theorem okX5_findBest : OkV yX5_findBest cX5_findBest 3 (some .boolean) 2 "FretSchool" := ⟨wd383, wd9, wd14, wd384, by decide +kernel⟩
theorem okX5_needInstrument : OkV yX5_needInstrument cX5_needInstrument 2 (none : Option Jvm.ClassFile.FieldType) 1 "FretSchool" := ⟨wd387, wd10, wd14, wd388, by decide +kernel⟩
theorem okX5_hardest : OkV yX5_hardest cX5_hardest 3 (some .int) 2 "FretSchool" := ⟨wd394, wd395, wd14, wd396, by decide +kernel⟩
theorem okX5_position : OkV yX5_position cX5_position 4 (some .int) 3 "FretSchool" := ⟨wd401, wd402, wd14, wd403, by decide +kernel⟩
theorem okX5_string : OkV yX5_string cX5_string 4 (some .int) 3 "FretSchool" := ⟨wd408, wd409, wd14, wd410, by decide +kernel⟩
theorem okX5_shiftsByAll : OkV yX5_shiftsByAll cX5_shiftsByAll 3 (some .int) 2 "FretSchool" := ⟨wd417, wd418, wd14, wd419, by decide +kernel⟩
theorem okX0_leastByAll : OkV yX0_leastByAll cX0_leastByAll 4 (some .int) 2 "FretSchool$Hand" := ⟨wd437, wd438, wd19, wd439, by decide +kernel⟩
theorem okX0_leastFrom : OkS yX0_leastFrom cX0_leastFrom 7 (some .int) 4 := ⟨wd441, wd19, wd442, by decide +kernel⟩
theorem okX5_begin : OkV yX5_begin cX5_begin 2 (some .int) 0 "FretSchool" := ⟨wd458, wd459, wd14, wd460, by decide +kernel⟩
theorem okX5_addNote : OkV yX5_addNote cX5_addNote 4 (some .int) 2 "FretSchool" := ⟨wd466, wd467, wd14, wd468, by decide +kernel⟩
theorem okX3_isFull : OkV yX3_isFull cX3_isFull 1 (some .boolean) 0 "FretSchool$Piece" := ⟨wd470, wd471, wd15, wd472, by decide +kernel⟩
theorem okX3_append : OkV yX3_append cX3_append 2 (none : Option Jvm.ClassFile.FieldType) 1 "FretSchool$Piece" := ⟨wd475, wd476, wd15, wd477, by decide +kernel⟩
theorem okX5_transpose : OkV yX5_transpose cX5_transpose 4 (none : Option Jvm.ClassFile.FieldType) 2 "FretSchool" := ⟨wd483, wd484, wd14, wd485, by decide +kernel⟩
theorem okX3_canMove : OkV yX3_canMove cX3_canMove 4 (some .boolean) 1 "FretSchool$Piece" := ⟨wd487, wd488, wd15, wd489, by decide +kernel⟩
theorem okX3_move : OkV yX3_move cX3_move 3 (none : Option Jvm.ClassFile.FieldType) 1 "FretSchool$Piece" := ⟨wd492, wd493, wd15, wd494, by decide +kernel⟩
theorem okX5_addWood : OkV yX5_addWood cX5_addWood 3 (some .int) 2 "FretSchool" := ⟨wd499, wd500, wd14, wd501, by decide +kernel⟩
theorem okX5_ready : OkV yX5_ready cX5_ready 2 (some .int) 1 "FretSchool" := ⟨wd509, wd510, wd14, wd511, by decide +kernel⟩
theorem okX5_needOrder : OkV yX5_needOrder cX5_needOrder 2 (none : Option Jvm.ClassFile.FieldType) 1 "FretSchool" := ⟨wd514, wd11, wd14, wd515, by decide +kernel⟩
theorem okX5_order : OkV yX5_order cX5_order 5 (some .int) 3 "FretSchool" := ⟨wd521, wd522, wd14, wd523, by decide +kernel⟩
theorem okX5_ordersAtWork : OkV yX5_ordersAtWork cX5_ordersAtWork 3 (some .int) 0 "FretSchool" := ⟨wd527, wd12, wd14, wd528, by decide +kernel⟩
theorem okX2_isReady : OkV yX2_isReady cX2_isReady 2 (some .boolean) 1 "FretSchool$Order" := ⟨wd530, wd531, wd18, wd532, by decide +kernel⟩
theorem okX2_place : OkV yX2_place cX2_place 4 (none : Option Jvm.ClassFile.FieldType) 3 "FretSchool$Order" := ⟨wd536, wd537, wd18, wd538, by decide +kernel⟩
theorem okX5_pass : OkV yX5_pass cX5_pass 2 (some .int) 1 "FretSchool" := ⟨wd543, wd544, wd14, wd545, by decide +kernel⟩
theorem okX5_fetch : OkV yX5_fetch cX5_fetch 8 (some .int) 5 "FretSchool" := ⟨wd554, wd555, wd14, wd556, by decide +kernel⟩
theorem okX1_build : OkV yX1_build cX1_build 3 (none : Option Jvm.ClassFile.FieldType) 2 "FretSchool$Instrument" := ⟨wd561, wd562, wd16, wd563, by decide +kernel⟩
theorem okX1_tuneAll : OkV yX1_tuneAll cX1_tuneAll 5 (none : Option Jvm.ClassFile.FieldType) 4 "FretSchool$Instrument" := ⟨wd565, wd566, wd16, wd567, by decide +kernel⟩
theorem okX5_owner : OkV yX5_owner cX5_owner 2 (some .int) 1 "FretSchool" := ⟨wd572, wd573, wd14, wd574, by decide +kernel⟩
theorem okX5_tune : OkV yX5_tune cX5_tune 6 (some .int) 3 "FretSchool" := ⟨wd579, wd580, wd14, wd581, by decide +kernel⟩
theorem okX5_learn : OkV yX5_learn cX5_learn 6 (some .int) 3 "FretSchool" := ⟨wd586, wd587, wd14, wd588, by decide +kernel⟩
theorem okX4_takeIn : OkV yX4_takeIn cX4_takeIn 3 (none : Option Jvm.ClassFile.FieldType) 2 "FretSchool$Pupil" := ⟨wd592, wd593, wd17, wd594, by decide +kernel⟩
end
section
/-! ===== throw new E("text") in FretSchool ===== -/
def nmsX : List String := ["java/lang/RuntimeException", "java/lang/Exception"]
theorem hatI : ∀ w ∈ (vx_atS "FretSchool" 65 "java/lang/IllegalStateException" nmsX).filter goodWord, w ∈ lw_tbl := by decide +kernel
theorem hatB : ∀ w ∈ (vx_atS "FretSchool" 213 "java/lang/IndexOutOfBoundsException" nmsX).filter goodWord, w ∈ lw_tbl := by decide +kernel
theorem hatA : ∀ w ∈ (vx_atS "FretSchool" 224 "java/lang/IllegalArgumentException" nmsX).filter goodWord, w ∈ lw_tbl := by decide +kernel
theorem hatI2 : ∀ w ∈ (vx_atS "FretSchool" 65 "java/lang/IllegalStateException" nmsX).filter (fun w => !goodWord w), w ∈ Cond.castable "java/lang/IllegalStateException" "java/lang/IllegalStateException" :: decs.map Cond.declares := by decide +kernel
theorem hatB2 : ∀ w ∈ (vx_atS "FretSchool" 213 "java/lang/IndexOutOfBoundsException" nmsX).filter (fun w => !goodWord w), w ∈ Cond.castable "java/lang/IndexOutOfBoundsException" "java/lang/IndexOutOfBoundsException" :: decs.map Cond.declares := by decide +kernel
theorem hatA2 : ∀ w ∈ (vx_atS "FretSchool" 224 "java/lang/IllegalArgumentException" nmsX).filter (fun w => !goodWord w), w ∈ Cond.castable "java/lang/IllegalArgumentException" "java/lang/IllegalArgumentException" :: decs.map Cond.declares := by decide +kernel
theorem hotI : ∀ w ∈ Cond.classLink "FretSchool" 61 "java/lang/IllegalStateException" :: Cond.initialized "java/lang/IllegalStateException" :: vx_atS "FretSchool" 65 "java/lang/IllegalStateException" nmsX, vx_ot w = true := List.all_eq_true.mp (by decide +kernel)
theorem hotB : ∀ w ∈ Cond.classLink "FretSchool" 209 "java/lang/IndexOutOfBoundsException" :: Cond.initialized "java/lang/IndexOutOfBoundsException" :: vx_atS "FretSchool" 213 "java/lang/IndexOutOfBoundsException" nmsX, vx_ot w = true := List.all_eq_true.mp (by decide +kernel)
theorem hotA : ∀ w ∈ Cond.classLink "FretSchool" 220 "java/lang/IllegalArgumentException" :: Cond.initialized "java/lang/IllegalArgumentException" :: vx_atS "FretSchool" 224 "java/lang/IllegalArgumentException" nmsX, vx_ot w = true := List.all_eq_true.mp (by decide +kernel)
section ZT
variable {p : Program} {l : Launch} {e : Env} {R : Room} {s : State} {m : MethodId} {args : Array Value} {below : List Frame} {meth : Method} {c : Code} {D : va_G} {ad : Nat → Nat → Nat} {cy : Nat → ClassId} {A : Nat → Prop} {sa : Nat → Nat} {nL cells slots : Nat} {σ : St} {L : List (Option Value)} {pc : Nat} {st : List Value} {cc : ByteArray} {ret : Option FieldType}
theorem y_throw (C : Cx p l s m args meth c cc "FretSchool" nL ret D ad cy A sa) (hex : ∀ x ∈ c.exceptionTable.toList, False) {Qc : Array Value → State → Outcome → State → Prop} {px : String → St → Prop} {mc ik is ic : Nat} {E tx : String} (hEx : E ∈ exs) (hfit : Bundle.fit E = true) (hk : Cond.classLink "FretSchool" ik E ∈ BIG) (hini : Cond.initialized E ∈ BIG)
    (h1 : ∀ w ∈ (vx_atS "FretSchool" ic E nmsX).filter goodWord, w ∈ lw_tbl) (h2 : ∀ w ∈ (vx_atS "FretSchool" ic E nmsX).filter (fun w => !goodWord w), w ∈ Cond.castable E E :: decs.map Cond.declares) (h3 : ∀ w ∈ Cond.classLink "FretSchool" ik E :: Cond.initialized E :: vx_atS "FretSchool" ic E nmsX, vx_ot w = true)
    (htx : (is, tx) ∈ strs) (d0 : decode cc pc = .ok (.new ik, 3)) (d3 : decode cc (pc + 3) = .ok (.dup, 1)) (d4 : decode cc (pc + 4) = .ok (.ldc is, 2)) (d6 : decode cc (pc + 6) = .ok (.invokespecial ic, 3)) (d9 : decode cc (pc + 9) = .ok (.athrow, 1))
    (hR : 6 ≤ R.frames ∧ (st.map fun v => v.category).sum + 82 ≤ R.locals) (hc : cells + 1 ≤ R.cells ∧ slots + 6 ≤ R.slots) (hm : cells + 1 ≤ mc ∧ slots + 6 ≤ 6 * mc) (h : px E σ) : Z p l e R s m args below meth c D ad cy A nL cells slots (vx_MQ below Qc (XW D ad cy A px) args s mc (6 * mc) A) σ L pc st := by
  intro H locs ls hP hS hl
  obtain ⟨hx, hb, hml, hown, hts, hr, hlk, hF⟩ := C
  have hcast : ∀ w ∈ Cond.castable E E :: decs.map Cond.declares, w.before args s = true := fun w hw => by
    rcases List.mem_cons.mp hw with rfl | hw
    · exact va_tabs rfl rfl (hF.2.2.2.2.2.2.2.1.1 E hEx)
    · obtain ⟨x, hx, rfl⟩ := List.mem_map.mp hw
      exact va_tabs rfl rfl (hF.2.2.2.2.2.2.2.1.2 x hx)
  refine vx_throwS hx hb hF.1 (names := nmsX) (ik := ik) (is := is) (ic := ic) (text := tx) hown hfit (List.all_eq_true.mp (by decide +kernel)) (hts _ hk) (hts _ hini) (hF.2.2.2.2.2.2.1 (is, tx) htx) (vx_hat (fun w hw => hts w (List.mem_filter.mpr ⟨h1 w hw, (List.mem_filter.mp hw).2⟩)) h2 hcast) h3 hF.2.2.2.2.1 hF.2.2.2.2.2.1 hS (hl.1.trans hml.symm) d0 d3 d4 d6 d9 (fun x hx => absurd (hex x hx) id) hR.1 hR.2 hc.1 hc.2 hlk (fun t hvm hz hk => ?_) hS.2.2 hm.1 hm.2
  refine ⟨σ, trivial, ⟨h, ?_⟩, Nat.le_trans hS.1 hz, fun q g1 g2 => (hk q (Nat.lt_of_lt_of_le g1 hS.1)).trans (hS.2.1 q g1 g2)⟩
  exact va_P.kept hP (fun k q hq => hk q.1 ((hP k q hq).lt))
theorem y_ise (C : Cx p l s m args meth c cc "FretSchool" nL ret D ad cy A sa) (hex : ∀ x ∈ c.exceptionTable.toList, False) {Qc : Array Value → State → Outcome → State → Prop} {px : String → St → Prop} {mc is : Nat} {tx : String}
    (htx : (is, tx) ∈ strs) (d0 : decode cc pc = .ok (.new 61, 3)) (d3 : decode cc (pc + 3) = .ok (.dup, 1)) (d4 : decode cc (pc + 4) = .ok (.ldc is, 2)) (d6 : decode cc (pc + 6) = .ok (.invokespecial 65, 3)) (d9 : decode cc (pc + 9) = .ok (.athrow, 1))
    (hR : 6 ≤ R.frames ∧ (st.map fun v => v.category).sum + 82 ≤ R.locals) (hc : cells + 1 ≤ R.cells ∧ slots + 6 ≤ R.slots) (hm : cells + 1 ≤ mc ∧ slots + 6 ≤ 6 * mc) (h : px ISE σ) : Z p l e R s m args below meth c D ad cy A nL cells slots (vx_MQ below Qc (XW D ad cy A px) args s mc (6 * mc) A) σ L pc st :=
  y_throw C hex (E := ISE) (by decide +kernel) (by decide +kernel) wd420 wd25 hatI hatI2 hotI htx d0 d3 d4 d6 d9 hR hc hm h
theorem y_ioobe (C : Cx p l s m args meth c cc "FretSchool" nL ret D ad cy A sa) (hex : ∀ x ∈ c.exceptionTable.toList, False) {Qc : Array Value → State → Outcome → State → Prop} {px : String → St → Prop} {mc is : Nat} {tx : String}
    (htx : (is, tx) ∈ strs) (d0 : decode cc pc = .ok (.new 209, 3)) (d3 : decode cc (pc + 3) = .ok (.dup, 1)) (d4 : decode cc (pc + 4) = .ok (.ldc is, 2)) (d6 : decode cc (pc + 6) = .ok (.invokespecial 213, 3)) (d9 : decode cc (pc + 9) = .ok (.athrow, 1))
    (hR : 6 ≤ R.frames ∧ (st.map fun v => v.category).sum + 82 ≤ R.locals) (hc : cells + 1 ≤ R.cells ∧ slots + 6 ≤ R.slots) (hm : cells + 1 ≤ mc ∧ slots + 6 ≤ 6 * mc) (h : px IOOBE σ) : Z p l e R s m args below meth c D ad cy A nL cells slots (vx_MQ below Qc (XW D ad cy A px) args s mc (6 * mc) A) σ L pc st :=
  y_throw C hex (E := IOOBE) (by decide +kernel) (by decide +kernel) wd350 wd26 hatB hatB2 hotB htx d0 d3 d4 d6 d9 hR hc hm h
theorem y_iae (C : Cx p l s m args meth c cc "FretSchool" nL ret D ad cy A sa) (hex : ∀ x ∈ c.exceptionTable.toList, False) {Qc : Array Value → State → Outcome → State → Prop} {px : String → St → Prop} {mc is : Nat} {tx : String}
    (htx : (is, tx) ∈ strs) (d0 : decode cc pc = .ok (.new 220, 3)) (d3 : decode cc (pc + 3) = .ok (.dup, 1)) (d4 : decode cc (pc + 4) = .ok (.ldc is, 2)) (d6 : decode cc (pc + 6) = .ok (.invokespecial 224, 3)) (d9 : decode cc (pc + 9) = .ok (.athrow, 1))
    (hR : 6 ≤ R.frames ∧ (st.map fun v => v.category).sum + 82 ≤ R.locals) (hc : cells + 1 ≤ R.cells ∧ slots + 6 ≤ R.slots) (hm : cells + 1 ≤ mc ∧ slots + 6 ≤ 6 * mc) (h : px IAE σ) : Z p l e R s m args below meth c D ad cy A nL cells slots (vx_MQ below Qc (XW D ad cy A px) args s mc (6 * mc) A) σ L pc st :=
  y_throw C hex (E := IAE) (by decide +kernel) (by decide +kernel) wd198 wd23 hatA hatA2 hotA htx d0 d3 d4 d6 d9 hR hc hm h
end ZT
end
section
/-! ===== plain facts ===== -/
theorem up_id {σ : St} {k i j : Nat} {x : Int32} (h : σ k i j = x) : σ = up σ k i j x := by
  funext k' i' j'
  rw [up_app]
  by_cases q : k' = k ∧ i' = i ∧ j' = j
  · obtain ⟨rfl, rfl, rfl⟩ := q
    rw [if_pos ⟨rfl, rfl, rfl⟩, h]
  · rw [if_neg q]
def okP (x : Int32) : Prop := ¬ x < 0 ∧ x ≤ 80
theorem nI_lit (n : Nat) : (OfNat.ofNat n : Int32) = nI n := rfl
/-- the fret of a pitch lies under the hand -/
def lies (f h : Int32) : Prop := f = 0 ∨ (¬ f < h ∧ ¬ h + 3 < f)
theorem lies_dec (f h : Int32) : lies f h ∨ ¬ lies f h := Classical.em _
/-- the first string of four -/
noncomputable def lowS (p : Int32) (O : Nat → Int32) (h : Int32) : Int32 := by
  classical exact if lies (p - O 0) h then 0 else if lies (p - O 1) h then 1 else if lies (p - O 2) h then 2 else if lies (p - O 3) h then 3 else -1
def FARn : Nat := 1000000
/-- a shift from b, where 0 is nowhere -/
def sh (b h : Nat) : Nat := if b = 0 then 0 else if b ≤ h then h - b else b - h
/-- the least over 1..n, at most FARn; the lowest place of it -/
def mn (f : Nat → Nat) : Nat → Nat
  | 0 => FARn
  | n + 1 => if f (n + 1) < mn f n then f (n + 1) else mn f n
def am (f : Nat → Nat) : Nat → Nat
  | 0 => 0
  | n + 1 => if f (n + 1) < mn f n then n + 1 else am f n
theorem mn_le (f : Nat → Nat) : ∀ n, mn f n ≤ FARn
  | 0 => Nat.le_refl _
  | n + 1 => by
    have ih := mn_le f n
    unfold mn
    split <;> omega
theorem am_spec (f : Nat → Nat) : ∀ n, (am f n = 0 ∧ mn f n = FARn ∧ ∀ g, 1 ≤ g → g ≤ n → FARn ≤ f g) ∨ (1 ≤ am f n ∧ am f n ≤ n ∧ f (am f n) = mn f n ∧ mn f n < FARn ∧ (∀ g, 1 ≤ g → g ≤ n → mn f n ≤ f g) ∧ ∀ g, 1 ≤ g → g < am f n → mn f n < f g)
  | 0 => Or.inl ⟨rfl, rfl, fun g h1 h2 => by omega⟩
  | n + 1 => by
    have hle := mn_le f n
    rcases am_spec f n with ⟨h1, h2, h3⟩ | ⟨h1, h2, h3, h4, h5, h6⟩
    · by_cases h : f (n + 1) < mn f n
      · right
        have e1 : am f (n + 1) = n + 1 := by unfold am; rw [if_pos h]
        have e2 : mn f (n + 1) = f (n + 1) := by unfold mn; rw [if_pos h]
        rw [e1, e2]
        refine ⟨by omega, by omega, rfl, by omega, fun g g1 g2 => ?_, fun g g1 g2 => ?_⟩
        · rcases Nat.lt_or_ge g (n + 1) with q | q
          · have := h3 g g1 (by omega); omega
          · rw [show g = n + 1 by omega]; exact Nat.le_refl _
        · have := h3 g g1 (by omega); omega
      · left
        have e1 : am f (n + 1) = am f n := by
          show (if f (n + 1) < mn f n then n + 1 else am f n) = am f n
          rw [if_neg h]
        have e2 : mn f (n + 1) = mn f n := by
          show (if f (n + 1) < mn f n then f (n + 1) else mn f n) = mn f n
          rw [if_neg h]
        rw [e1, e2]
        refine ⟨h1, h2, fun g g1 g2 => ?_⟩
        rcases Nat.lt_or_ge g (n + 1) with q | q
        · exact h3 g g1 (by omega)
        · rw [show g = n + 1 by omega]; omega
    · by_cases h : f (n + 1) < mn f n
      · right
        have e1 : am f (n + 1) = n + 1 := by unfold am; rw [if_pos h]
        have e2 : mn f (n + 1) = f (n + 1) := by unfold mn; rw [if_pos h]
        rw [e1, e2]
        refine ⟨by omega, by omega, rfl, by omega, fun g g1 g2 => ?_, fun g g1 g2 => ?_⟩
        · rcases Nat.lt_or_ge g (n + 1) with q | q
          · have := h5 g g1 (by omega); omega
          · rw [show g = n + 1 by omega]; exact Nat.le_refl _
        · have := h5 g g1 (by omega); omega
      · right
        have e1 : am f (n + 1) = am f n := by
          show (if f (n + 1) < mn f n then n + 1 else am f n) = am f n
          rw [if_neg h]
        have e2 : mn f (n + 1) = mn f n := by
          show (if f (n + 1) < mn f n then f (n + 1) else mn f n) = mn f n
          rw [if_neg h]
        rw [e1, e2]
        refine ⟨h1, by omega, h3, h4, fun g g1 g2 => ?_, h6⟩
        rcases Nat.lt_or_ge g (n + 1) with q | q
        · exact h5 g g1 (by omega)
        · rw [show g = n + 1 by omega]; omega
theorem mn_congr {f g : Nat → Nat} : ∀ {n : Nat}, (∀ k, 1 ≤ k → k ≤ n → f k = g k ∨ (FARn ≤ f k ∧ FARn ≤ g k)) → mn f n = mn g n ∧ am f n = am g n
  | 0, _ => ⟨rfl, rfl⟩
  | n + 1, h => by
    obtain ⟨h1, h2⟩ := mn_congr (n := n) (fun k a b => h k a (by omega))
    have hl := mn_le g n
    show (if f (n + 1) < mn f n then f (n + 1) else mn f n) = (if g (n + 1) < mn g n then g (n + 1) else mn g n) ∧ (if f (n + 1) < mn f n then n + 1 else am f n) = (if g (n + 1) < mn g n then n + 1 else am g n)
    rw [h1, h2]
    rcases h (n + 1) (by omega) (Nat.le_refl _) with q | ⟨q1, q2⟩
    · rw [q]; exact ⟨rfl, rfl⟩
    · rw [if_neg (by omega), if_neg (by omega), if_neg (by omega), if_neg (by omega)]; exact ⟨rfl, rfl⟩
/-- positions beyond hi are out of reach: the least over fewer is the same -/
theorem mn_cut {f : Nat → Nat} {a : Nat} : ∀ {n : Nat}, (∀ k, a < k → k ≤ a + n → FARn ≤ f k) → mn f (a + n) = mn f a ∧ am f (a + n) = am f a
  | 0, _ => ⟨rfl, rfl⟩
  | n + 1, h => by
    obtain ⟨h1, h2⟩ := mn_cut (a := a) (n := n) (fun k x y => h k x (by omega))
    have hl := mn_le f a
    have hk := h (a + (n + 1)) (by omega) (Nat.le_refl _)
    show (if f (a + n + 1) < mn f (a + n) then f (a + n + 1) else mn f (a + n)) = mn f a ∧ (if f (a + n + 1) < mn f (a + n) then a + n + 1 else am f (a + n)) = am f a
    rw [show a + n + 1 = a + (n + 1) by omega, h1, h2, if_neg (by omega), if_neg (by omega)]
    exact ⟨rfl, rfl⟩
/-- the least sum of shifts from a position of note i on, k notes being left behind it -/
def VR (P : Nat → Nat → Bool) : Nat → Nat → Nat → Nat
  | 0, i, h => if P i h = true then 0 else FARn
  | k + 1, i, h => if P i h = true then mn (fun g => sh h g + VR P k (i + 1) g) 13 else FARn
theorem VR_le (P : Nat → Nat → Bool) (k i h : Nat) : VR P k i h ≤ FARn := by
  cases k with
  | zero => unfold VR; split <;> (unfold FARn; omega)
  | succ k => unfold VR; split; exact mn_le _ _; exact Nat.le_refl _
theorem VR_no {P : Nat → Nat → Bool} {k i h : Nat} (hp : ¬ P i h = true) : VR P k i h = FARn := by
  cases k with
  | zero => unfold VR; rw [if_neg hp]
  | succ k => unfold VR; rw [if_neg hp]
/-- the row of the best fingering, the least sum, the greatest shift -/
def rowf (P : Nat → Nat → Bool) (n : Nat) : Nat → Nat
  | 0 => am (fun g => sh 0 g + VR P (n - 1) 0 g) 13
  | i + 1 => am (fun g => sh (rowf P n i) g + VR P (n - 1 - (i + 1)) (i + 1) g) 13
def tot (P : Nat → Nat → Bool) (n : Nat) : Nat := mn (fun g => sh 0 g + VR P (n - 1) 0 g) 13
def bef (P : Nat → Nat → Bool) (n : Nat) : Nat → Nat
  | 0 => 0
  | i + 1 => rowf P n i
def grt (P : Nat → Nat → Bool) (n : Nat) : Nat → Nat
  | 0 => 0
  | i + 1 => if grt P n i < sh (bef P n i) (rowf P n i) then sh (bef P n i) (rowf P n i) else grt P n i
def sumf (P : Nat → Nat → Bool) (n : Nat) : Nat → Nat
  | 0 => 0
  | i + 1 => sumf P n i + sh (bef P n i) (rowf P n i)
theorem rowf_am (P : Nat → Nat → Bool) (n i : Nat) : rowf P n i = am (fun g => sh (bef P n i) g + VR P (n - 1 - i) i g) 13 := by
  cases i with
  | zero => rfl
  | succ i => rfl
/-- where the piece can be played, each note of the row is in reach, and its rest is the sum that is left -/
theorem row_spec {P : Nat → Nat → Bool} {n : Nat} (h0 : 0 < n) (ht : tot P n < FARn) : ∀ i, i < n → (1 ≤ rowf P n i ∧ rowf P n i ≤ 13 ∧ P i (rowf P n i) = true ∧ VR P (n - 1 - i) i (rowf P n i) < FARn ∧ sumf P n (i + 1) + VR P (n - 1 - i) i (rowf P n i) = tot P n ∧ mn (fun g => sh (bef P n i) g + VR P (n - 1 - i) i g) 13 < FARn) := by
  intro i
  induction i with
  | zero =>
    intro _
    have e := rowf_am P n 0
    have ht' : mn (fun g => sh (bef P n 0) g + VR P (n - 1 - 0) 0 g) 13 < FARn := ht
    rcases am_spec (fun g => sh (bef P n 0) g + VR P (n - 1 - 0) 0 g) 13 with ⟨_, h2, _⟩ | ⟨h1, h2, h3, h4, h5, h6⟩
    · omega
    · rw [← e] at h1 h2 h3
      have hs : sh (bef P n 0) (rowf P n 0) = 0 := rfl
      have hv : VR P (n - 1 - 0) 0 (rowf P n 0) < FARn := by
        have : sh (bef P n 0) (rowf P n 0) + VR P (n - 1 - 0) 0 (rowf P n 0) = mn (fun g => sh (bef P n 0) g + VR P (n - 1 - 0) 0 g) 13 := h3
        omega
      refine ⟨h1, h2, ?_, hv, ?_, ht'⟩
      · cases hp : P 0 (rowf P n 0) with
        | true => rfl
        | false => rw [VR_no (by rw [hp]; decide)] at hv; omega
      · have : sh (bef P n 0) (rowf P n 0) + VR P (n - 1 - 0) 0 (rowf P n 0) = tot P n := h3
        show 0 + sh (bef P n 0) (rowf P n 0) + VR P (n - 1 - 0) 0 (rowf P n 0) = tot P n
        omega
  | succ i ih =>
    intro hi
    obtain ⟨a1, a2, a3, a4, a5, _⟩ := ih (by omega)
    have hk : n - 1 - i = (n - 1 - (i + 1)) + 1 := by omega
    rw [hk] at a4 a5
    have hv : VR P (n - 1 - (i + 1) + 1) i (rowf P n i) = mn (fun g => sh (rowf P n i) g + VR P (n - 1 - (i + 1)) (i + 1) g) 13 := by
      show (if P i (rowf P n i) = true then _ else _) = _
      rw [if_pos a3]
    rw [hv] at a4 a5
    have e := rowf_am P n (i + 1)
    rcases am_spec (fun g => sh (bef P n (i + 1)) g + VR P (n - 1 - (i + 1)) (i + 1) g) 13 with ⟨_, h2, _⟩ | ⟨h1, h2, h3, h4, h5, h6⟩
    · have : mn (fun g => sh (rowf P n i) g + VR P (n - 1 - (i + 1)) (i + 1) g) 13 = FARn := h2
      omega
    · rw [← e] at h1 h2 h3
      have h3' : sh (bef P n (i + 1)) (rowf P n (i + 1)) + VR P (n - 1 - (i + 1)) (i + 1) (rowf P n (i + 1)) = mn (fun g => sh (rowf P n i) g + VR P (n - 1 - (i + 1)) (i + 1) g) 13 := h3
      have hv2 : VR P (n - 1 - (i + 1)) (i + 1) (rowf P n (i + 1)) < FARn := by omega
      refine ⟨h1, h2, ?_, hv2, ?_, h4⟩
      · cases hp : P (i + 1) (rowf P n (i + 1)) with
        | true => rfl
        | false => rw [VR_no (by rw [hp]; decide)] at hv2; omega
      · show sumf P n (i + 1) + sh (bef P n (i + 1)) (rowf P n (i + 1)) + VR P (n - 1 - (i + 1)) (i + 1) (rowf P n (i + 1)) = tot P n
        omega
theorem sh_le {b h : Nat} (hb : b ≤ 13) (hh : h ≤ 13) : sh b h ≤ 13 := by
  unfold sh
  split
  · omega
  · split <;> omega
theorem sh_lt {b h : Nat} (hb : b ≤ 13) (h1 : 1 ≤ h) (hh : h ≤ 13) : sh b h < 13 := by
  unfold sh
  split
  · omega
  · split <;> omega
theorem grt_le {P : Nat → Nat → Bool} {n : Nat} (h0 : 0 < n) (ht : tot P n < FARn) : ∀ i, i ≤ n → grt P n i < 13
  | 0, _ => by show 0 < 13; omega
  | i + 1, hi => by
    have ih := grt_le h0 ht i (by omega)
    obtain ⟨a1, a2, _⟩ := row_spec h0 ht i (by omega)
    have hb : bef P n i ≤ 13 := by
      cases i with
      | zero => show 0 ≤ 13; omega
      | succ i => exact (row_spec h0 ht i (by omega)).2.1
    have := sh_lt hb a1 a2
    show (if grt P n i < sh (bef P n i) (rowf P n i) then sh (bef P n i) (rowf P n i) else grt P n i) < 13
    split <;> omega
/-- all fingerings, one after the other -/
def LF (P : Nat → Nat → Bool) : Nat → Nat → Nat → Nat
  | 0, _, _ => 0
  | k + 1, i, b => mn (fun g => if P i g = true then sh b g + LF P k (i + 1) g else FARn) 13
theorem LF_VR (P : Nat → Nat → Bool) : ∀ (k i b : Nat), LF P (k + 1) i b = mn (fun g => sh b g + VR P k i g) 13
  | 0, i, b => by
    show mn (fun g => if P i g = true then sh b g + LF P 0 (i + 1) g else FARn) 13 = _
    refine (mn_congr fun g _ _ => ?_).1
    by_cases h : P i g = true
    · left
      show (if P i g = true then sh b g + 0 else FARn) = sh b g + (if P i g = true then 0 else FARn)
      rw [if_pos h, if_pos h]
    · right
      show FARn ≤ (if P i g = true then sh b g + 0 else FARn) ∧ FARn ≤ sh b g + (if P i g = true then 0 else FARn)
      rw [if_neg h, if_neg h]
      omega
  | k + 1, i, b => by
    show mn (fun g => if P i g = true then sh b g + LF P (k + 1) (i + 1) g else FARn) 13 = _
    refine (mn_congr fun g _ _ => ?_).1
    by_cases h : P i g = true
    · left
      show (if P i g = true then sh b g + LF P (k + 1) (i + 1) g else FARn) = sh b g + VR P (k + 1) i g
      rw [if_pos h, LF_VR P k (i + 1) g]
      show _ = sh b g + (if P i g = true then mn (fun g' => sh g g' + VR P k (i + 1) g') 13 else FARn)
      rw [if_pos h]
    · right
      show FARn ≤ (if P i g = true then sh b g + LF P (k + 1) (i + 1) g else FARn) ∧ FARn ≤ sh b g + VR P (k + 1) i g
      rw [if_neg h, VR_no h]
      omega
end
section
/-! ===== leaves ===== -/
set_option maxRecDepth 100000 in
set_option maxHeartbeats 4000000 in
theorem c_X3_isFull {l : Launch} {D : va_G} {ad : Nat → Nat → Nat} {cy : Nat → ClassId} {A : Nat → Prop} {sa : Nat → Nat} {σ : St} {i : Nat} (hi : i < 8) : MI l D ad cy A sa yX3_isFull cX3_isFull 1 (some .boolean) 0 σ [.ref (ad 11 i)] (fun r σ' => r = (if σ 11 i 1 < 16 then 0 else 1) ∧ σ = σ') := by
  refine MI.mk "FretSchool$Piece" (by decide) rfl (Nat.le_of_ble_eq_true rfl) rfl ?_
  intro p e s m args below meth c C
  change Z _ _ _ _ _ _ _ _ _ _ _ _ _ _ _ _ _ _ _ [some (.ref (ad 11 i))] 0 []
  refine z_aload_n C dX3_isFull_0 rfl ?_
  refine g_11_1 (by first | assumption | omega) C wd45 dX3_isFull_1 ?_
  refine z_bipush C (v := 16) dX3_isFull_4 (by decide) ?_
  refine z_icmp_lt C 13 dX3_isFull_6 (by decide) (fun c_6 => ?_) (fun c_6 => ?_)
  · refine z_iconst C (v := 0) dX3_isFull_13 (by decide) ?_
    refine z_zret C dX3_isFull_14 (by first | exact Or.inl rfl | exact Or.inr rfl | assumption) ?_
    exact ⟨by simp [*], rfl⟩
  · refine z_iconst C (v := 1) dX3_isFull_9 (by decide) ?_
    refine z_goto C 14 dX3_isFull_10 (by decide) ?_
    refine z_zret C dX3_isFull_14 (by first | exact Or.inl rfl | exact Or.inr rfl | assumption) ?_
    exact ⟨by simp [*], rfl⟩
set_option maxRecDepth 100000 in
set_option maxHeartbeats 4000000 in
theorem c_X3_append {l : Launch} {D : va_G} {ad : Nat → Nat → Nat} {cy : Nat → ClassId} {A : Nat → Prop} {sa : Nat → Nat} {σ : St} {i : Nat} (hi : i < 8) {x : Int32} {n : Nat} (hn : σ 11 i 1 = nI n) (h16 : n < 16) : MV l D ad cy A sa yX3_append cX3_append 2 (none : Option Jvm.ClassFile.FieldType) 1 σ [.ref (ad 11 i), .int x] (fun σ' => up (up σ 12 i n x) 11 i 1 (nI (n + 1)) = σ') := by
  refine MV.mk "FretSchool$Piece" (by decide) rfl (Nat.le_of_ble_eq_true rfl) rfl ?_
  intro p e s m args below meth c C
  change Z _ _ _ _ _ _ _ _ _ _ _ _ _ _ _ _ _ _ _ [some (.ref (ad 11 i)), some (.int x)] 0 []
  refine z_aload_n C dX3_append_0 rfl ?_
  refine z_cvi C (As := []) (c_X3_isFull (by assumption)) okX3_isFull wd478 (rc_11 (by first | assumption | omega)) (rok (by decide) (by decide)) ⟨Nat.le_of_ble_eq_true rfl, Nat.le_of_ble_eq_true rfl⟩ rfl (Nat.le_of_ble_eq_true rfl) dX3_append_1 ?_
  rintro _ _ ⟨rfl, rfl⟩
  refine z_if_eq C 8 dX3_append_4 (by decide) (fun c_4 => ?_) (fun c_4 => ?_)
  rotate_left
  · exact absurd (if_pos (by rw [hn]; exact nI_lt (b := 16) h16 (by decide))) c_4
  refine z_aload_n C dX3_append_8 rfl ?_
  refine g_11_0 (by first | assumption | omega) C wd42 dX3_append_9 ?_
  refine z_aload_n C dX3_append_12 rfl ?_
  refine g_11_1 (by first | assumption | omega) C wd45 dX3_append_13 ?_
  refine z_iload_n C dX3_append_16 rfl ?_
  refine s_12 (by first | assumption | omega) C hn h16 dX3_append_17 ?_
  refine z_aload_n C dX3_append_18 rfl ?_
  refine z_dup C dX3_append_19 rfl ?_
  refine g_11_1 (by first | assumption | omega) C wd45 dX3_append_20 ?_
  refine z_iconst C (v := 1) dX3_append_23 (by decide) ?_
  refine z_iadd C dX3_append_24 ?_
  refine p_11_1 (by first | assumption | omega) C wd45 dX3_append_25 ?_
  refine z_vret C dX3_append_28 ?_
  rw [show up σ 12 i n x 11 i 1 = nI n by rw [up_app, if_neg (by omega), hn], nI_1]
set_option maxRecDepth 100000 in
set_option maxHeartbeats 4000000 in
theorem c_X1_build {l : Launch} {D : va_G} {ad : Nat → Nat → Nat} {cy : Nat → ClassId} {A : Nat → Prop} {sa : Nat → Nat} {σ : St} {i : Nat} (hi : i < 8) {x y : Int32} : MV l D ad cy A sa yX1_build cX1_build 3 (none : Option Jvm.ClassFile.FieldType) 0 σ [.ref (ad 13 i), .int x, .int y] (fun σ' => up (up σ 13 i 1 x) 13 i 2 y = σ') := by
  refine MV.mk "FretSchool$Instrument" (by decide) rfl (Nat.le_of_ble_eq_true rfl) rfl ?_
  intro p e s m args below meth c C
  change Z _ _ _ _ _ _ _ _ _ _ _ _ _ _ _ _ _ _ _ [some (.ref (ad 13 i)), some (.int x), some (.int y)] 0 []
  refine z_aload_n C dX1_build_0 rfl ?_
  refine z_iload_n C dX1_build_1 rfl ?_
  refine p_13_1 (by first | assumption | omega) C wd63 dX1_build_2 ?_
  refine z_aload_n C dX1_build_5 rfl ?_
  refine z_iload_n C dX1_build_6 rfl ?_
  refine p_13_2 (by first | assumption | omega) C wd65 dX1_build_7 ?_
  refine z_vret C dX1_build_10 ?_
  rfl
set_option maxRecDepth 100000 in
set_option maxHeartbeats 4000000 in
theorem c_X1_tuneAll {l : Launch} {D : va_G} {ad : Nat → Nat → Nat} {cy : Nat → ClassId} {A : Nat → Prop} {sa : Nat → Nat} {σ : St} {i : Nat} (hi : i < 8) {a b c0 d0 : Int32} : MV l D ad cy A sa yX1_tuneAll cX1_tuneAll 5 (none : Option Jvm.ClassFile.FieldType) 0 σ [.ref (ad 13 i), .int a, .int b, .int c0, .int d0] (fun σ' => up (up (up (up σ 14 i 0 a) 14 i 1 b) 14 i 2 c0) 14 i 3 d0 = σ') := by
  refine MV.mk "FretSchool$Instrument" (by decide) rfl (Nat.le_of_ble_eq_true rfl) rfl ?_
  intro p e s m args below meth c C
  change Z _ _ _ _ _ _ _ _ _ _ _ _ _ _ _ _ _ _ _ [some (.ref (ad 13 i)), some (.int a), some (.int b), some (.int c0), some (.int d0)] 0 []
  refine z_aload_n C dX1_tuneAll_0 rfl ?_
  refine g_13_0 (by first | assumption | omega) C wd61 dX1_tuneAll_1 ?_
  refine z_iconst C (v := 0) dX1_tuneAll_4 (by decide) ?_
  refine z_iload_n C dX1_tuneAll_5 rfl ?_
  refine s_14 (by first | assumption | omega) C (j := 0) (by decide) (by decide) dX1_tuneAll_6 ?_
  refine z_aload_n C dX1_tuneAll_7 rfl ?_
  refine g_13_0 (by first | assumption | omega) C wd61 dX1_tuneAll_8 ?_
  refine z_iconst C (v := 1) dX1_tuneAll_11 (by decide) ?_
  refine z_iload_n C dX1_tuneAll_12 rfl ?_
  refine s_14 (by first | assumption | omega) C (j := 1) (by decide) (by decide) dX1_tuneAll_13 ?_
  refine z_aload_n C dX1_tuneAll_14 rfl ?_
  refine g_13_0 (by first | assumption | omega) C wd61 dX1_tuneAll_15 ?_
  refine z_iconst C (v := 2) dX1_tuneAll_18 (by decide) ?_
  refine z_iload_n C dX1_tuneAll_19 rfl ?_
  refine s_14 (by first | assumption | omega) C (j := 2) (by decide) (by decide) dX1_tuneAll_20 ?_
  refine z_aload_n C dX1_tuneAll_21 rfl ?_
  refine g_13_0 (by first | assumption | omega) C wd61 dX1_tuneAll_22 ?_
  refine z_iconst C (v := 3) dX1_tuneAll_25 (by decide) ?_
  refine z_iload C dX1_tuneAll_26 rfl ?_
  refine s_14 (by first | assumption | omega) C (j := 3) (by decide) (by decide) dX1_tuneAll_28 ?_
  refine z_vret C dX1_tuneAll_29 ?_
  rfl
set_option maxRecDepth 100000 in
set_option maxHeartbeats 4000000 in
theorem c_X1_highestPosition {l : Launch} {D : va_G} {ad : Nat → Nat → Nat} {cy : Nat → ClassId} {A : Nat → Prop} {sa : Nat → Nat} {σ : St} {i : Nat} (hi : i < 8) : MI l D ad cy A sa yX1_highestPosition cX1_highestPosition 1 (some .int) 0 σ [.ref (ad 13 i)] (fun r σ' => r = σ 13 i 2 - 3 ∧ σ = σ') := by
  refine MI.mk "FretSchool$Instrument" (by decide) rfl (Nat.le_of_ble_eq_true rfl) rfl ?_
  intro p e s m args below meth c C
  change Z _ _ _ _ _ _ _ _ _ _ _ _ _ _ _ _ _ _ _ [some (.ref (ad 13 i))] 0 []
  refine z_aload_n C dX1_highestPosition_0 rfl ?_
  refine g_13_2 (by first | assumption | omega) C wd65 dX1_highestPosition_1 ?_
  refine z_iconst C (v := 3) dX1_highestPosition_4 (by decide) ?_
  refine z_isub C dX1_highestPosition_5 ?_
  refine z_iret C dX1_highestPosition_6 ?_
  exact ⟨rfl, rfl⟩
set_option maxRecDepth 100000 in
set_option maxHeartbeats 4000000 in
theorem c_X2_place {l : Launch} {D : va_G} {ad : Nat → Nat → Nat} {cy : Nat → ClassId} {A : Nat → Prop} {sa : Nat → Nat} {σ : St} {i : Nat} (hi : i < 20) {x y z : Int32} : MV l D ad cy A sa yX2_place cX2_place 4 (none : Option Jvm.ClassFile.FieldType) 0 σ [.ref (ad 16 i), .int x, .int y, .int z] (fun σ' => up (up (up σ 16 i 0 x) 16 i 1 y) 16 i 2 z = σ') := by
  refine MV.mk "FretSchool$Order" (by decide) rfl (Nat.le_of_ble_eq_true rfl) rfl ?_
  intro p e s m args below meth c C
  change Z _ _ _ _ _ _ _ _ _ _ _ _ _ _ _ _ _ _ _ [some (.ref (ad 16 i)), some (.int x), some (.int y), some (.int z)] 0 []
  refine z_aload_n C dX2_place_0 rfl ?_
  refine z_iload_n C dX2_place_1 rfl ?_
  refine p_16_0 (by first | assumption | omega) C wd96 dX2_place_2 ?_
  refine z_aload_n C dX2_place_5 rfl ?_
  refine z_iload_n C dX2_place_6 rfl ?_
  refine p_16_1 (by first | assumption | omega) C wd98 dX2_place_7 ?_
  refine z_aload_n C dX2_place_10 rfl ?_
  refine z_iload_n C dX2_place_11 rfl ?_
  refine p_16_2 (by first | assumption | omega) C wd100 dX2_place_12 ?_
  refine z_vret C dX2_place_15 ?_
  rfl
set_option maxRecDepth 100000 in
set_option maxHeartbeats 4000000 in
theorem c_X2_isReady {l : Launch} {D : va_G} {ad : Nat → Nat → Nat} {cy : Nat → ClassId} {A : Nat → Prop} {sa : Nat → Nat} {σ : St} {i : Nat} (hi : i < 20) {x : Int32} : MI l D ad cy A sa yX2_isReady cX2_isReady 2 (some .boolean) 0 σ [.ref (ad 16 i), .int x] (fun r σ' => r = (if x < σ 16 i 2 then 0 else 1) ∧ σ = σ') := by
  refine MI.mk "FretSchool$Order" (by decide) rfl (Nat.le_of_ble_eq_true rfl) rfl ?_
  intro p e s m args below meth c C
  change Z _ _ _ _ _ _ _ _ _ _ _ _ _ _ _ _ _ _ _ [some (.ref (ad 16 i)), some (.int x)] 0 []
  refine z_iload_n C dX2_isReady_0 rfl ?_
  refine z_aload_n C dX2_isReady_1 rfl ?_
  refine g_16_2 (by first | assumption | omega) C wd100 dX2_isReady_2 ?_
  refine z_icmp_lt C 12 dX2_isReady_5 (by decide) (fun c_5 => ?_) (fun c_5 => ?_)
  · refine z_iconst C (v := 0) dX2_isReady_12 (by decide) ?_
    refine z_zret C dX2_isReady_13 (by first | exact Or.inl rfl | exact Or.inr rfl | assumption) ?_
    exact ⟨by simp [*], rfl⟩
  · refine z_iconst C (v := 1) dX2_isReady_8 (by decide) ?_
    refine z_goto C 13 dX2_isReady_9 (by decide) ?_
    refine z_zret C dX2_isReady_13 (by first | exact Or.inl rfl | exact Or.inr rfl | assumption) ?_
    exact ⟨by simp [*], rfl⟩
set_option maxRecDepth 100000 in
set_option maxHeartbeats 4000000 in
theorem c_X4_knows {l : Launch} {D : va_G} {ad : Nat → Nat → Nat} {cy : Nat → ClassId} {A : Nat → Prop} {sa : Nat → Nat} {σ : St} {i : Nat} (hi : i < 5) {x : Int32} : MI l D ad cy A sa yX4_knows cX4_knows 2 (some .boolean) 0 σ [.ref (ad 15 i), .int x] (fun r σ' => r = (if σ 15 i 1 &&& (1 <<< (x &&& 31)) = 0 then 0 else 1) ∧ σ = σ') := by
  refine MI.mk "FretSchool$Pupil" (by decide) rfl (Nat.le_of_ble_eq_true rfl) rfl ?_
  intro p e s m args below meth c C
  change Z _ _ _ _ _ _ _ _ _ _ _ _ _ _ _ _ _ _ _ [some (.ref (ad 15 i)), some (.int x)] 0 []
  refine z_aload_n C dX4_knows_0 rfl ?_
  refine g_15_1 (by first | assumption | omega) C wd82 dX4_knows_1 ?_
  refine z_iconst C (v := 1) dX4_knows_4 (by decide) ?_
  refine z_iload_n C dX4_knows_5 rfl ?_
  refine z_ishl C dX4_knows_6 ?_
  refine z_iand C dX4_knows_7 ?_
  refine z_if_eq C 15 dX4_knows_8 (by decide) (fun c_8 => ?_) (fun c_8 => ?_)
  · refine z_iconst C (v := 0) dX4_knows_15 (by decide) ?_
    refine z_zret C dX4_knows_16 (by first | exact Or.inl rfl | exact Or.inr rfl | assumption) ?_
    exact ⟨by simp [*], rfl⟩
  · refine z_iconst C (v := 1) dX4_knows_11 (by decide) ?_
    refine z_goto C 16 dX4_knows_12 (by decide) ?_
    refine z_zret C dX4_knows_16 (by first | exact Or.inl rfl | exact Or.inr rfl | assumption) ?_
    exact ⟨by simp [*], rfl⟩
set_option maxRecDepth 100000 in
set_option maxHeartbeats 4000000 in
theorem c_X4_takeIn {l : Launch} {D : va_G} {ad : Nat → Nat → Nat} {cy : Nat → ClassId} {A : Nat → Prop} {sa : Nat → Nat} {σ : St} {i : Nat} (hi : i < 5) {x g : Int32} : MV l D ad cy A sa yX4_takeIn cX4_takeIn 3 (none : Option Jvm.ClassFile.FieldType) 0 σ [.ref (ad 15 i), .int x, .int g] (fun σ' => up (up σ 15 i 1 (σ 15 i 1 ||| (1 <<< (x &&& 31)))) 15 i 0 (if g = σ 15 i 0 then σ 15 i 0 + 1 else σ 15 i 0) = σ') := by
  refine MV.mk "FretSchool$Pupil" (by decide) rfl (Nat.le_of_ble_eq_true rfl) rfl ?_
  intro p e s m args below meth c C
  change Z _ _ _ _ _ _ _ _ _ _ _ _ _ _ _ _ _ _ _ [some (.ref (ad 15 i)), some (.int x), some (.int g)] 0 []
  refine z_aload_n C dX4_takeIn_0 rfl ?_
  refine z_dup C dX4_takeIn_1 rfl ?_
  refine g_15_1 (by first | assumption | omega) C wd82 dX4_takeIn_2 ?_
  refine z_iconst C (v := 1) dX4_takeIn_5 (by decide) ?_
  refine z_iload_n C dX4_takeIn_6 rfl ?_
  refine z_ishl C dX4_takeIn_7 ?_
  refine z_ior C dX4_takeIn_8 ?_
  refine p_15_1 (by first | assumption | omega) C wd82 dX4_takeIn_9 ?_
  refine z_iload_n C dX4_takeIn_12 rfl ?_
  refine z_aload_n C dX4_takeIn_13 rfl ?_
  refine g_15_0 (by first | assumption | omega) C wd80 dX4_takeIn_14 ?_
  refine z_icmp_ne C 30 dX4_takeIn_17 (by decide) (fun c_17 => ?_) (fun c_17 => ?_)
  · refine z_vret C dX4_takeIn_30 ?_
    have e0 : up σ 15 i 1 (σ 15 i 1 ||| (1 <<< (x &&& 31))) 15 i 0 = σ 15 i 0 := by rw [up_app, if_neg (by omega)]
    first
      | (rw [e0] at c_17; rw [if_neg c_17]; exact (up_id e0).symm)
      | (rw [e0] at c_17; rw [if_pos c_17, e0])
  · refine z_aload_n C dX4_takeIn_20 rfl ?_
    refine z_dup C dX4_takeIn_21 rfl ?_
    refine g_15_0 (by first | assumption | omega) C wd80 dX4_takeIn_22 ?_
    refine z_iconst C (v := 1) dX4_takeIn_25 (by decide) ?_
    refine z_iadd C dX4_takeIn_26 ?_
    refine p_15_0 (by first | assumption | omega) C wd80 dX4_takeIn_27 ?_
    refine z_vret C dX4_takeIn_30 ?_
    have e0 : up σ 15 i 1 (σ 15 i 1 ||| (1 <<< (x &&& 31))) 15 i 0 = σ 15 i 0 := by rw [up_app, if_neg (by omega)]
    first
      | (rw [e0] at c_17; rw [if_neg c_17]; exact (up_id e0).symm)
      | (rw [e0] at c_17; rw [if_pos c_17, e0])
set_option maxRecDepth 100000 in
set_option maxHeartbeats 4000000 in
theorem c_X0_canReach {l : Launch} {D : va_G} {ad : Nat → Nat → Nat} {cy : Nat → ClassId} {A : Nat → Prop} {sa : Nat → Nat} {σ : St} {x h : Int32} : MI l D ad cy A sa yX0_canReach cX0_canReach 2 (some .boolean) 0 σ [.int x, .int h] (fun r σ' => r = (if x &&& (1 <<< (h &&& 31)) = 0 then 0 else 1) ∧ σ = σ') := by
  refine MI.mk "FretSchool$Hand" (by decide) rfl (Nat.le_of_ble_eq_true rfl) rfl ?_
  intro p e s m args below meth c C
  change Z _ _ _ _ _ _ _ _ _ _ _ _ _ _ _ _ _ _ _ [some (.int x), some (.int h)] 0 []
  refine z_iload_n C dX0_canReach_0 rfl ?_
  refine z_iconst C (v := 1) dX0_canReach_1 (by decide) ?_
  refine z_iload_n C dX0_canReach_2 rfl ?_
  refine z_ishl C dX0_canReach_3 ?_
  refine z_iand C dX0_canReach_4 ?_
  refine z_if_eq C 12 dX0_canReach_5 (by decide) (fun c_5 => ?_) (fun c_5 => ?_)
  · refine z_iconst C (v := 0) dX0_canReach_12 (by decide) ?_
    refine z_zret C dX0_canReach_13 (by first | exact Or.inl rfl | exact Or.inr rfl | assumption) ?_
    exact ⟨by simp [*], rfl⟩
  · refine z_iconst C (v := 1) dX0_canReach_8 (by decide) ?_
    refine z_goto C 13 dX0_canReach_9 (by decide) ?_
    refine z_zret C dX0_canReach_13 (by first | exact Or.inl rfl | exact Or.inr rfl | assumption) ?_
    exact ⟨by simp [*], rfl⟩
section
variable {p : Program} {l : Launch} {e : Env} {R : Room} {s : State} {m : MethodId} {args : Array Value} {below : List Frame} {meth : Method} {c : Code} {D : va_G} {ad : Nat → Nat → Nat} {cy : Nat → ClassId} {A : Nat → Prop} {sa : Nat → Nat} {cells slots : Nat} {σ : St}
set_option maxRecDepth 100000 in
set_option maxHeartbeats 4000000 in
theorem lp_X3_canMove (C : Cx p l s m args meth c cX3_canMove "FretSchool$Piece" 4 (some .boolean) D ad cy A sa) {i : Nat} (hi : i < 8) {by0 : Int32} {n : Nat} (hn : σ 11 i 1 = nI n) (h16 : n ≤ 16) : ∀ (f j : Nat) (x : Int32) (o3 : Option Value), x = nI j → j ≤ n → n < j + f → (∀ k, k < j → okP (σ 12 i k + by0)) → Z p l e R s m args below meth c D ad cy A 4 cells slots (MQ below (va_Qi (fun r σ' => σ = σ' ∧ ((r = 1 ∧ ∀ k, k < n → okP (σ 12 i k + by0)) ∨ (r = 0 ∧ ∃ k, k < n ∧ ¬ okP (σ 12 i k + by0)))) (Bw D ad cy) A) args s cells slots A) σ [some (.ref (ad 11 i)), some (.int by0), some (.int x), o3] 2 [] := by
  intro f
  induction f with
  | zero => intro j x o3 _ _ h _; exact absurd h (by omega)
  | succ f ih =>
    intro j x o3 ex hj hf hok
    refine z_iload_n C dX3_canMove_2 rfl ?_
    refine z_aload_n C dX3_canMove_3 rfl ?_
    refine g_11_1 (by first | assumption | omega) C wd45 dX3_canMove_4 ?_
    refine z_icmp_ge C 37 dX3_canMove_7 (by decide) (fun c_7 => ?_) (fun c_7 => ?_)
    · have hjn : n ≤ j := by rw [hn, ex, nI_leI (by omega) (by omega)] at c_7; exact c_7
      refine z_iconst C (v := 1) dX3_canMove_37 (by decide) ?_
      refine z_zret C dX3_canMove_38 (by first | exact Or.inl rfl | exact Or.inr rfl | assumption) ?_
      exact ⟨rfl, Or.inl ⟨rfl, fun k hk => hok k (by omega)⟩⟩
    · have hjn : j < n := by rw [hn, ex, nI_leI (by omega) (by omega)] at c_7; omega
      refine z_aload_n C dX3_canMove_10 rfl ?_
      refine g_11_0 (by first | assumption | omega) C wd42 dX3_canMove_11 ?_
      refine z_iload_n C dX3_canMove_14 rfl ?_
      refine a_12 (by first | assumption | omega) C (by assumption) (by first | assumption | omega) dX3_canMove_15 ?_
      refine z_iload_n C dX3_canMove_16 rfl ?_
      refine z_iadd C dX3_canMove_17 ?_
      refine z_istore_n C dX3_canMove_18 (by decide) ?_
      dsimp only [List.set]
      refine z_iload_n C dX3_canMove_19 rfl ?_
      refine z_if_lt C 29 dX3_canMove_20 (by decide) (fun c_20 => ?_) (fun c_20 => ?_)
      · refine z_iconst C (v := 0) dX3_canMove_29 (by decide) ?_
        refine z_zret C dX3_canMove_30 (by first | exact Or.inl rfl | exact Or.inr rfl | assumption) ?_
        exact ⟨rfl, Or.inr ⟨rfl, j, hjn, fun h => by first | exact h.1 c_20 | exact c_26 h.2⟩⟩
      · refine z_iload_n C dX3_canMove_23 rfl ?_
        refine z_bipush C (v := 80) dX3_canMove_24 (by decide) ?_
        refine z_icmp_le C 31 dX3_canMove_26 (by decide) (fun c_26 => ?_) (fun c_26 => ?_)
        · refine z_iinc C (v := 1) dX3_canMove_31 rfl (by decide) (by decide) ?_
          dsimp only [List.set]
          refine z_goto C 2 dX3_canMove_34 (by decide) ?_
          exact ih (j + 1) _ _ (by rw [ex]; exact nI_1 j) (by omega) (by omega) (fun k hk => (Nat.lt_or_ge k j).elim (fun q => hok k q) (fun q => by rw [show k = j by omega]; exact ⟨c_20, c_26⟩))
        · refine z_iconst C (v := 0) dX3_canMove_29 (by decide) ?_
          refine z_zret C dX3_canMove_30 (by first | exact Or.inl rfl | exact Or.inr rfl | assumption) ?_
          exact ⟨rfl, Or.inr ⟨rfl, j, hjn, fun h => by first | exact h.1 c_20 | exact c_26 h.2⟩⟩
end
set_option maxRecDepth 100000 in
set_option maxHeartbeats 4000000 in
theorem c_X3_canMove {l : Launch} {D : va_G} {ad : Nat → Nat → Nat} {cy : Nat → ClassId} {A : Nat → Prop} {sa : Nat → Nat} {σ : St} {i : Nat} (hi : i < 8) {by0 : Int32} {n : Nat} (hn : σ 11 i 1 = nI n) (h16 : n ≤ 16) : MI l D ad cy A sa yX3_canMove cX3_canMove 4 (some .boolean) 0 σ [.ref (ad 11 i), .int by0] (fun r σ' => σ = σ' ∧ ((r = 1 ∧ ∀ k, k < n → okP (σ 12 i k + by0)) ∨ (r = 0 ∧ ∃ k, k < n ∧ ¬ okP (σ 12 i k + by0)))) := by
  refine MI.mk "FretSchool$Piece" (by decide) rfl (Nat.le_of_ble_eq_true rfl) rfl ?_
  intro p e s m args below meth c C
  change Z _ _ _ _ _ _ _ _ _ _ _ _ _ _ _ _ _ _ _ [some (.ref (ad 11 i)), some (.int by0), none, none] 0 []
  refine z_iconst C (v := 0) dX3_canMove_0 (by decide) ?_
  refine z_istore_n C dX3_canMove_1 (by decide) ?_
  dsimp only [List.set]
  exact lp_X3_canMove C hi hn h16 (n + 1) 0 _ _ nI_0.symm (by omega) (by omega) (fun k hk => absurd hk (Nat.not_lt_zero k))
/-- the first j notes of piece i moved -/
def mvd (σ : St) (i : Nat) (x : Int32) : Nat → St
  | 0 => σ
  | j + 1 => up (mvd σ i x j) 12 i j (mvd σ i x j 12 i j + x)
theorem mvd_app (σ : St) (i : Nat) (x : Int32) : ∀ (n k' i' j' : Nat), mvd σ i x n k' i' j' = if k' = 12 ∧ i' = i ∧ j' < n then σ 12 i j' + x else σ k' i' j'
  | 0, k', i', j' => by rw [if_neg (by omega)]; rfl
  | n + 1, k', i', j' => by
    show up (mvd σ i x n) 12 i n (mvd σ i x n 12 i n + x) k' i' j' = _
    rw [up_app]
    by_cases h : k' = 12 ∧ i' = i ∧ j' = n
    · obtain ⟨rfl, rfl, rfl⟩ := h
      rw [if_pos ⟨rfl, rfl, rfl⟩, if_pos (by omega), mvd_app σ i' x j', if_neg (by omega)]
    · rw [if_neg h, mvd_app σ i x n]
      by_cases h2 : k' = 12 ∧ i' = i ∧ j' < n
      · rw [if_pos h2, if_pos (by omega)]
      · rw [if_neg h2, if_neg (by omega)]
section
variable {p : Program} {l : Launch} {e : Env} {R : Room} {s : State} {m : MethodId} {args : Array Value} {below : List Frame} {meth : Method} {c : Code} {D : va_G} {ad : Nat → Nat → Nat} {cy : Nat → ClassId} {A : Nat → Prop} {sa : Nat → Nat} {cells slots : Nat} {σ : St}
set_option maxRecDepth 100000 in
set_option maxHeartbeats 4000000 in
theorem lp_X3_move (C : Cx p l s m args meth c cX3_move "FretSchool$Piece" 3 (none : Option Jvm.ClassFile.FieldType) D ad cy A sa) {i : Nat} (hi : i < 8) {by0 : Int32} {n : Nat} (hn : σ 11 i 1 = nI n) (h16 : n ≤ 16) : ∀ (f j : Nat) (x : Int32), x = nI j → j ≤ n → n < j + f → Z p l e R s m args below meth c D ad cy A 3 cells slots (MQ below (va_Qv (fun σ' => mvd σ i by0 n = σ') (Bw D ad cy) A) args s cells slots A) (mvd σ i by0 j) [some (.ref (ad 11 i)), some (.int by0), some (.int x)] 2 [] := by
  intro f
  induction f with
  | zero => intro j x _ _ h; exact absurd h (by omega)
  | succ f ih =>
    intro j x ex hj hf
    have hn : mvd σ i by0 j 11 i 1 = nI n := by rw [mvd_app, if_neg (by omega), hn]
    refine z_iload_n C dX3_move_2 rfl ?_
    refine z_aload_n C dX3_move_3 rfl ?_
    refine g_11_1 (by first | assumption | omega) C wd45 dX3_move_4 ?_
    refine z_icmp_ge C 26 dX3_move_7 (by decide) (fun c_7 => ?_) (fun c_7 => ?_)
    · have hjn : n ≤ j := by rw [hn, ex, nI_leI (by omega) (by omega)] at c_7; exact c_7
      refine z_vret C dX3_move_26 ?_
      rw [show j = n by omega]
    · have hjn : j < n := by rw [hn, ex, nI_leI (by omega) (by omega)] at c_7; omega
      refine z_aload_n C dX3_move_10 rfl ?_
      refine g_11_0 (by first | assumption | omega) C wd42 dX3_move_11 ?_
      refine z_iload_n C dX3_move_14 rfl ?_
      refine z_dup2 C dX3_move_15 rfl rfl ?_
      refine a_12 (by first | assumption | omega) C (by assumption) (by first | assumption | omega) dX3_move_16 ?_
      refine z_iload_n C dX3_move_17 rfl ?_
      refine z_iadd C dX3_move_18 ?_
      refine s_12 (by first | assumption | omega) C (by assumption) (by first | assumption | omega) dX3_move_19 ?_
      refine z_iinc C (v := 1) dX3_move_20 rfl (by decide) (by decide) ?_
      dsimp only [List.set]
      refine z_goto C 2 dX3_move_23 (by decide) ?_
      exact ih (j + 1) _ (by rw [ex]; exact nI_1 j) (by omega) (by omega)
end
set_option maxRecDepth 100000 in
set_option maxHeartbeats 4000000 in
theorem c_X3_move {l : Launch} {D : va_G} {ad : Nat → Nat → Nat} {cy : Nat → ClassId} {A : Nat → Prop} {sa : Nat → Nat} {σ : St} {i : Nat} (hi : i < 8) {by0 : Int32} {n : Nat} (hn : σ 11 i 1 = nI n) (h16 : n ≤ 16) : MV l D ad cy A sa yX3_move cX3_move 3 (none : Option Jvm.ClassFile.FieldType) 0 σ [.ref (ad 11 i), .int by0] (fun σ' => mvd σ i by0 n = σ') := by
  refine MV.mk "FretSchool$Piece" (by decide) rfl (Nat.le_of_ble_eq_true rfl) rfl ?_
  intro p e s m args below meth c C
  change Z _ _ _ _ _ _ _ _ _ _ _ _ _ _ _ _ _ _ _ [some (.ref (ad 11 i)), some (.int by0), none] 0 []
  refine z_iconst C (v := 0) dX3_move_0 (by decide) ?_
  refine z_istore_n C dX3_move_1 (by decide) ?_
  dsimp only [List.set]
  exact lp_X3_move C hi hn h16 (n + 1) 0 _ nI_0.symm (by omega) (by omega)
theorem lowS_at {p h : Int32} {O : Nat → Int32} {j : Nat} (hj : j < 4) (hno : ∀ k, k < j → ¬ lies (p - O k) h) (hyes : lies (p - O j) h) : nI j = lowS p O h := by
  unfold lowS
  match j, hj with
  | 0, _ => rw [if_pos hyes]; rfl
  | 1, _ => rw [if_neg (hno 0 (by omega)), if_pos hyes]; rfl
  | 2, _ => rw [if_neg (hno 0 (by omega)), if_neg (hno 1 (by omega)), if_pos hyes]; rfl
  | 3, _ => rw [if_neg (hno 0 (by omega)), if_neg (hno 1 (by omega)), if_neg (hno 2 (by omega)), if_pos hyes]; rfl
theorem lowS_none {p h : Int32} {O : Nat → Int32} (hno : ∀ k, k < 4 → ¬ lies (p - O k) h) : -1 = lowS p O h := by
  unfold lowS
  rw [if_neg (hno 0 (by omega)), if_neg (hno 1 (by omega)), if_neg (hno 2 (by omega)), if_neg (hno 3 (by omega))]
theorem lowS_iff {p h : Int32} {O : Nat → Int32} : lowS p O h ≠ -1 ↔ ∃ k, k < 4 ∧ lies (p - O k) h := by
  constructor
  · intro hne
    apply Classical.byContradiction
    intro hno
    exact hne (lowS_none (fun k hk hl => hno ⟨k, hk, hl⟩)).symm
  · rintro ⟨k, hk, hl⟩ e
    unfold lowS at e
    split at e
    · exact absurd e (by decide)
    · split at e
      · exact absurd e (by decide)
      · split at e
        · exact absurd e (by decide)
        · split at e
          · exact absurd e (by decide)
          · match k, hk with
            | 0, _ => contradiction
            | 1, _ => contradiction
            | 2, _ => contradiction
            | 3, _ => contradiction
section
variable {p : Program} {l : Launch} {e : Env} {R : Room} {s : State} {m : MethodId} {args : Array Value} {below : List Frame} {meth : Method} {c : Code} {D : va_G} {ad : Nat → Nat → Nat} {cy : Nat → ClassId} {A : Nat → Prop} {sa : Nat → Nat} {cells slots : Nat} {σ : St}
set_option maxRecDepth 100000 in
set_option maxHeartbeats 4000000 in
theorem lp_X1_lowestString (C : Cx p l s m args meth c cX1_lowestString "FretSchool$Instrument" 5 (some .int) D ad cy A sa) {i : Nat} (hi : i < 8) {p0 h0 : Int32} : ∀ (f j : Nat) (x : Int32) (o4 : Option Value), x = nI j → j ≤ 4 → 4 < j + f → (∀ k, k < j → ¬ lies (p0 - σ 14 i k) h0) → Z p l e R s m args below meth c D ad cy A 5 cells slots (MQ below (va_Qi (fun r σ' => σ = σ' ∧ r = lowS p0 (σ 14 i) h0) (Bw D ad cy) A) args s cells slots A) σ [some (.ref (ad 13 i)), some (.int p0), some (.int h0), some (.int x), o4] 2 [] := by
  intro f
  induction f with
  | zero => intro j x o4 _ _ h _; exact absurd h (by omega)
  | succ f ih =>
    intro j x o4 ex hj hf hno
    refine z_iload_n C dX1_lowestString_2 rfl ?_
    refine z_iconst C (v := 4) dX1_lowestString_3 (by decide) ?_
    refine z_icmp_ge C 44 dX1_lowestString_4 (by decide) (fun c_4 => ?_) (fun c_4 => ?_)
    · have hjn : 4 ≤ j := by rw [ex, show (4 : Int32) = nI 4 from rfl, nI_leI (by omega) (by omega)] at c_4; exact c_4
      refine z_iconst C (v := (-1)) dX1_lowestString_44 (by decide) ?_
      refine z_iret C dX1_lowestString_45 ?_
      exact ⟨rfl, lowS_none (fun k hk => hno k (by omega))⟩
    · have hjn : j < 4 := by rw [ex, show (4 : Int32) = nI 4 from rfl, nI_leI (by omega) (by omega)] at c_4; omega
      refine z_iload_n C dX1_lowestString_7 rfl ?_
      refine z_aload_n C dX1_lowestString_8 rfl ?_
      refine g_13_0 (by first | assumption | omega) C wd61 dX1_lowestString_9 ?_
      refine z_iload_n C dX1_lowestString_12 rfl ?_
      refine a_14 (by first | assumption | omega) C (by assumption) (by first | assumption | omega) dX1_lowestString_13 ?_
      refine z_isub C dX1_lowestString_14 ?_
      refine z_istore C dX1_lowestString_15 (by decide) ?_
      dsimp only [List.set]
      refine z_iload C dX1_lowestString_17 rfl ?_
      refine z_if_eq C 36 dX1_lowestString_19 (by decide) (fun c_19 => ?_) (fun c_19 => ?_)
      · refine z_iload_n C dX1_lowestString_36 rfl ?_
        refine z_iret C dX1_lowestString_37 ?_
        refine ⟨rfl, ?_⟩
        rw [ex]
        exact lowS_at hjn hno (by first | exact Or.inl c_19 | exact Or.inr ⟨c_25, c_33⟩)
      · refine z_iload C dX1_lowestString_22 rfl ?_
        refine z_iload_n C dX1_lowestString_24 rfl ?_
        refine z_icmp_lt C 38 dX1_lowestString_25 (by decide) (fun c_25 => ?_) (fun c_25 => ?_)
        · refine z_iinc C (v := 1) dX1_lowestString_38 rfl (by decide) (by decide) ?_
          dsimp only [List.set]
          refine z_goto C 2 dX1_lowestString_41 (by decide) ?_
          exact ih (j + 1) _ _ (by rw [ex]; exact nI_1 j) (by omega) (by omega) (fun k hk => (Nat.lt_or_ge k j).elim (fun q => hno k q) (fun q => by rw [show k = j by omega]; exact fun hl => hl.elim c_19 (fun h => by first | exact h.1 c_25 | exact h.2 c_33)))
        · refine z_iload C dX1_lowestString_28 rfl ?_
          refine z_iload_n C dX1_lowestString_30 rfl ?_
          refine z_iconst C (v := 3) dX1_lowestString_31 (by decide) ?_
          refine z_iadd C dX1_lowestString_32 ?_
          refine z_icmp_gt C 38 dX1_lowestString_33 (by decide) (fun c_33 => ?_) (fun c_33 => ?_)
          · refine z_iinc C (v := 1) dX1_lowestString_38 rfl (by decide) (by decide) ?_
            dsimp only [List.set]
            refine z_goto C 2 dX1_lowestString_41 (by decide) ?_
            exact ih (j + 1) _ _ (by rw [ex]; exact nI_1 j) (by omega) (by omega) (fun k hk => (Nat.lt_or_ge k j).elim (fun q => hno k q) (fun q => by rw [show k = j by omega]; exact fun hl => hl.elim c_19 (fun h => by first | exact h.1 c_25 | exact h.2 c_33)))
          · refine z_iload_n C dX1_lowestString_36 rfl ?_
            refine z_iret C dX1_lowestString_37 ?_
            refine ⟨rfl, ?_⟩
            rw [ex]
            exact lowS_at hjn hno (by first | exact Or.inl c_19 | exact Or.inr ⟨c_25, c_33⟩)
end
set_option maxRecDepth 100000 in
set_option maxHeartbeats 4000000 in
theorem c_X1_lowestString {l : Launch} {D : va_G} {ad : Nat → Nat → Nat} {cy : Nat → ClassId} {A : Nat → Prop} {sa : Nat → Nat} {σ : St} {i : Nat} (hi : i < 8) {p0 h0 : Int32} : MI l D ad cy A sa yX1_lowestString cX1_lowestString 5 (some .int) 0 σ [.ref (ad 13 i), .int p0, .int h0] (fun r σ' => σ = σ' ∧ r = lowS p0 (σ 14 i) h0) := by
  refine MI.mk "FretSchool$Instrument" (by decide) rfl (Nat.le_of_ble_eq_true rfl) rfl ?_
  intro p e s m args below meth c C
  change Z _ _ _ _ _ _ _ _ _ _ _ _ _ _ _ _ _ _ _ [some (.ref (ad 13 i)), some (.int p0), some (.int h0), none, none] 0 []
  refine z_iconst C (v := 0) dX1_lowestString_0 (by decide) ?_
  refine z_istore_n C dX1_lowestString_1 (by decide) ?_
  dsimp only [List.set]
  exact lp_X1_lowestString C hi 5 0 _ _ nI_0.symm (by omega) (by omega) (fun k hk => absurd hk (Nat.not_lt_zero k))
end
section
/-! ===== the hand ===== -/
section
variable {p : Program} {l : Launch} {e : Env} {R : Room} {s : State} {m : MethodId} {args : Array Value} {below : List Frame} {meth : Method} {c : Code} {D : va_G} {ad : Nat → Nat → Nat} {cy : Nat → ClassId} {A : Nat → Prop} {sa : Nat → Nat} {nL cells slots pc : Nat} {cc : ByteArray} {own : String} {ret : Option FieldType} {L : List (Option Value)} {st : List Value} {Q : State → Prop} {σ : St}
theorem z_mabs (C : Cx p l s m args meth c cc own nL ret D ad cy A sa) {index : Nat} {x : Int32} (hw : Cond.methodLink own index yJ9_abs_0f7a4 ∈ BIG) (hR : 1 ≤ R.frames ∧ (st.map fun v => v.category).sum + 13 ≤ R.locals) (hc : cells ≤ R.cells ∧ slots ≤ R.slots) (hdg : decode cc pc = .ok (.invokestatic index, 3)) (k : Z p l e R s m args below meth c D ad cy A nL cells slots Q σ L (pc + 3) (.int (if 0 ≤ x then x else 0 - x) :: st)) : Z p l e R s m args below meth c D ad cy A nL cells slots Q σ L pc (.int x :: st) := by
  intro H locs ls hP hS hl
  obtain ⟨hx, hb, hml, hown, hts, hr, hlk, hF⟩ := C
  exact va_mabs hx hb (hml.trans hl.1.symm) hown (hts _ hw) (hts (Cond.static yJ9_abs_0f7a4) wd322) (hts (Cond.initialized "java/lang/Math") wd24) (hts (Cond.code yJ9_abs_0f7a4 cJ9_abs_0f7a4 1 (some .int)) wd323) hR.1 hR.2 hc.1 hc.2 hdg (k H locs ls hP hS hl)
end
theorem abs_sh : ∀ b, b < 14 → ∀ h, h < 14 → (if 0 ≤ nI h - nI b then nI h - nI b else 0 - (nI h - nI b)) = nI (if b ≤ h then h - b else b - h) := by decide +kernel
theorem nI_ne0' {b : Nat} (hb : b < 2 ^ 31) : nI b = 0 ↔ b = 0 := by rw [show (0 : Int32) = nI 0 from rfl]; exact nI_eq hb (by decide)
theorem am_yes {F : Nat → Nat} {n : Nat} (h : F (n + 1) < mn F n) : am F (n + 1) = n + 1 ∧ mn F (n + 1) = F (n + 1) := ⟨by show (if _ then _ else _) = _; rw [if_pos h], by show (if _ then _ else _) = _; rw [if_pos h]⟩
theorem am_no {F : Nat → Nat} {n : Nat} (h : mn F n ≤ F (n + 1)) : am F (n + 1) = am F n ∧ mn F (n + 1) = mn F n := ⟨by show (if F (n + 1) < mn F n then n + 1 else am F n) = _; rw [if_neg (by omega)], by show (if F (n + 1) < mn F n then F (n + 1) else mn F n) = _; rw [if_neg (by omega)]⟩
set_option maxRecDepth 100000 in
set_option maxHeartbeats 4000000 in
theorem c_X0_shift {l : Launch} {D : va_G} {ad : Nat → Nat → Nat} {cy : Nat → ClassId} {A : Nat → Prop} {sa : Nat → Nat} {σ : St} {x y : Int32} {b h : Nat} (ex : x = nI b) (ey : y = nI h) (hb : b < 14) (hh : h < 14) : MI l D ad cy A sa yX0_shift cX0_shift 2 (some .int) 1 σ [.int x, .int y] (fun r σ' => r = nI (sh b h) ∧ σ = σ') := by
  refine MI.mk "FretSchool$Hand" (by decide) rfl (Nat.le_of_ble_eq_true rfl) rfl ?_
  intro p e s m args below meth c C
  change Z _ _ _ _ _ _ _ _ _ _ _ _ _ _ _ _ _ _ _ [some (.int x), some (.int y)] 0 []
  refine z_iload_n C dX0_shift_0 rfl ?_
  refine z_if_ne C 8 dX0_shift_1 (by decide) (fun c_1 => ?_) (fun c_1 => ?_)
  · refine z_iload_n C dX0_shift_8 rfl ?_
    refine z_iload_n C dX0_shift_9 rfl ?_
    refine z_isub C dX0_shift_10 ?_
    refine z_mabs C wd321 ⟨Nat.le_of_ble_eq_true rfl, Nat.le_of_ble_eq_true rfl⟩ ⟨Nat.le_of_ble_eq_true rfl, Nat.le_of_ble_eq_true rfl⟩ dX0_shift_11 ?_
    refine z_iret C dX0_shift_14 ?_
    refine ⟨?_, rfl⟩
    unfold sh
    rw [ex, nI_ne0' (by omega)] at c_1
    rw [ex, ey, if_neg c_1]
    exact abs_sh b hb h hh
  · refine z_iconst C (v := 0) dX0_shift_4 (by decide) ?_
    refine z_goto C 14 dX0_shift_5 (by decide) ?_
    refine z_iret C dX0_shift_14 ?_
    refine ⟨?_, rfl⟩
    unfold sh
    rw [ex, nI_ne0' (by omega)] at c_1
    rw [if_pos c_1]
    rfl
section
variable {p : Program} {l : Launch} {e : Env} {R : Room} {s : State} {m : MethodId} {args : Array Value} {below : List Frame} {meth : Method} {c : Code} {D : va_G} {ad : Nat → Nat → Nat} {cy : Nat → ClassId} {A : Nat → Prop} {sa : Nat → Nat} {cells slots : Nat} {σ : St}
set_option maxRecDepth 100000 in
set_option maxHeartbeats 4000000 in
theorem lp_X0_nearest (C : Cx p l s m args meth c cX0_nearest "FretSchool$Hand" 7 (some .int) D ad cy A sa) {i b : Nat} {x1 x2 : Int32} {v : Nat → Nat} (e1 : x1 = nI i) (hi : i < 16) (e2 : x2 = nI b) (hb : b < 14) (hv : ∀ g, 1 ≤ g → g ≤ 13 → σ 10 i g = nI (v g) ∧ v g ≤ FARn) (hR : Rok R 1 2) (hcs : cells ≤ R.cells ∧ slots ≤ R.slots) : ∀ (f j : Nat) (x3 x4 x5 : Int32) (o6 : Option Value), x5 = nI (j + 1) → x3 = nI (am (fun g => sh b g + v g) j) → x4 = nI (mn (fun g => sh b g + v g) j) → j ≤ 13 → 13 < j + f → Z p l e R s m args below meth c D ad cy A 7 cells slots (MQ below (va_Qi (fun r σ' => r = nI (am (fun g => sh b g + v g) 13) ∧ σ = σ') (Bw D ad cy) A) args s cells slots A) σ [some (.ref (ad 6 0)), some (.int x1), some (.int x2), some (.int x3), some (.int x4), some (.int x5), o6] 9 [] := by
  intro f
  induction f with
  | zero => intro j x3 x4 x5 o6 _ _ _ _ h; exact absurd h (by omega)
  | succ f ih =>
    intro j x3 x4 x5 o6 e5 e3 e4 hj hf
    refine z_iload C dX0_nearest_9 rfl ?_
    refine z_bipush C (v := 13) dX0_nearest_11 (by decide) ?_
    refine z_icmp_gt C 54 dX0_nearest_13 (by decide) (fun c_13 => ?_) (fun c_13 => ?_)
    · have hj13 : j = 13 := by rw [e5, show (13 : Int32) = nI 13 from rfl, nI_ltI (by omega) (by omega)] at c_13; omega
      refine z_iload_n C dX0_nearest_54 rfl ?_
      refine z_iret C dX0_nearest_55 ?_
      refine ⟨?_, rfl⟩
      rw [e3, hj13]
    · have hj13 : j < 13 := by rw [e5, show (13 : Int32) = nI 13 from rfl, nI_ltI (by omega) (by omega)] at c_13; omega
      refine z_iload_n C dX0_nearest_16 rfl ?_
      refine z_iload C dX0_nearest_17 rfl ?_
      refine z_csi C (As := [_, _]) (c_X0_shift e2 e5 (by omega) (by omega)) okX0_shift wd318 hR hcs rfl (Nat.le_of_ble_eq_true rfl) dX0_nearest_19 ?_
      rintro _ _ ⟨rfl, rfl⟩
      refine z_aload_n C dX0_nearest_22 rfl ?_
      refine g_6_1 C wd122 dX0_nearest_23 ?_
      refine z_iload_n C dX0_nearest_26 rfl ?_
      refine a_8 C (by assumption) (by first | assumption | omega) dX0_nearest_27 ?_
      refine z_iload C dX0_nearest_28 rfl ?_
      refine a_10 (by first | assumption | omega) C (by assumption) (by first | assumption | omega) dX0_nearest_30 ?_
      refine z_iadd C dX0_nearest_31 ?_
      refine z_istore C dX0_nearest_32 (by decide) ?_
      dsimp only [List.set]
      refine z_iload C dX0_nearest_34 rfl ?_
      refine z_iload C dX0_nearest_36 rfl ?_
      refine z_icmp_ge C 48 dX0_nearest_38 (by decide) (fun c_38 => ?_) (fun c_38 => ?_)
      · have hv1 := hv (j + 1) (by omega) (by omega)
        have hs := sh_le (b := b) (h := j + 1) (by omega) (by omega)
        have hm := mn_le (fun g => sh b g + v g) j
        have hF : FARn = 1000000 := rfl
        have e6 : nI (sh b (j + 1)) + σ 10 i (j + 1) = nI ((fun g => sh b g + v g) (j + 1)) := by rw [hv1.1, nI_add]
        have hlt : mn (fun g => sh b g + v g) j ≤ (fun g => sh b g + v g) (j + 1) := by rw [e6, e4, nI_leI (by omega) (by show sh b (j + 1) + v (j + 1) < _; omega)] at c_38; exact c_38
        refine z_iinc C (v := 1) dX0_nearest_48 rfl (by decide) (by decide) ?_
        dsimp only [List.set]
        refine z_goto C 9 dX0_nearest_51 (by decide) ?_
        exact ih (j + 1) _ _ _ _ (by rw [e5]; exact nI_1 (j + 1)) (by rw [e3, (am_no hlt).1]) (by rw [e4, (am_no hlt).2]) (by omega) (by omega)
      · have hv1 := hv (j + 1) (by omega) (by omega)
        have hs := sh_le (b := b) (h := j + 1) (by omega) (by omega)
        have hm := mn_le (fun g => sh b g + v g) j
        have hF : FARn = 1000000 := rfl
        have e6 : nI (sh b (j + 1)) + σ 10 i (j + 1) = nI ((fun g => sh b g + v g) (j + 1)) := by rw [hv1.1, nI_add]
        have hlt : (fun g => sh b g + v g) (j + 1) < mn (fun g => sh b g + v g) j := by rw [e6, e4, nI_leI (by omega) (by show sh b (j + 1) + v (j + 1) < _; omega)] at c_38; omega
        refine z_iload C dX0_nearest_41 rfl ?_
        refine z_istore_n C dX0_nearest_43 (by decide) ?_
        dsimp only [List.set]
        refine z_iload C dX0_nearest_44 rfl ?_
        refine z_istore C dX0_nearest_46 (by decide) ?_
        dsimp only [List.set]
        refine z_iinc C (v := 1) dX0_nearest_48 rfl (by decide) (by decide) ?_
        dsimp only [List.set]
        refine z_goto C 9 dX0_nearest_51 (by decide) ?_
        exact ih (j + 1) _ _ _ _ (by rw [e5]; exact nI_1 (j + 1)) (by rw [e5, (am_yes hlt).1]) (by rw [e6, (am_yes hlt).2]) (by omega) (by omega)
end
set_option maxRecDepth 100000 in
set_option maxHeartbeats 4000000 in
theorem c_X0_nearest {l : Launch} {D : va_G} {ad : Nat → Nat → Nat} {cy : Nat → ClassId} {A : Nat → Prop} {sa : Nat → Nat} {σ : St} {i b : Nat} {x1 x2 : Int32} {v : Nat → Nat} (e1 : x1 = nI i) (hi : i < 16) (e2 : x2 = nI b) (hb : b < 14) (hv : ∀ g, 1 ≤ g → g ≤ 13 → σ 10 i g = nI (v g) ∧ v g ≤ FARn) : MI l D ad cy A sa yX0_nearest cX0_nearest 7 (some .int) 2 σ [.ref (ad 6 0), .int x1, .int x2] (fun r σ' => r = nI (am (fun g => sh b g + v g) 13) ∧ σ = σ') := by
  refine MI.mk "FretSchool$Hand" (by decide) rfl (Nat.le_of_ble_eq_true rfl) rfl ?_
  intro p e s m args below meth c C
  change Z _ _ _ _ _ _ _ _ _ _ _ _ _ _ _ _ _ _ _ [some (.ref (ad 6 0)), some (.int x1), some (.int x2), none, none, none, none] 0 []
  refine z_iconst C (v := 0) dX0_nearest_0 (by decide) ?_
  refine z_istore_n C dX0_nearest_1 (by decide) ?_
  dsimp only [List.set]
  refine z_ldc C (v := 1000000) wd317 dX0_nearest_2 ?_
  refine z_istore C dX0_nearest_4 (by decide) ?_
  dsimp only [List.set]
  refine z_iconst C (v := 1) dX0_nearest_6 (by decide) ?_
  refine z_istore C dX0_nearest_7 (by decide) ?_
  dsimp only [List.set]
  exact lp_X0_nearest C e1 hi e2 hb hv (rok (by decide) (by decide)) ⟨Nat.zero_le _, Nat.zero_le _⟩ 14 0 _ _ _ _ rfl rfl rfl (by omega) (by omega)
theorem VR_last {P : Nat → Nat → Bool} {i h : Nat} (hp : P i h = true) : VR P 0 i h = 0 := by
  show (if P i h = true then 0 else FARn) = 0
  rw [if_pos hp]
theorem VR_more {P : Nat → Nat → Bool} {k i h : Nat} (hp : P i h = true) : VR P (k + 1) i h = mn (fun g => sh h g + VR P k (i + 1) g) 13 := by
  show (if P i h = true then mn (fun g => sh h g + VR P k (i + 1) g) 13 else FARn) = _
  rw [if_pos hp]
theorem row_up {σ : St} {P : Nat → Nat → Bool} {k i j : Nat} {y : Int32} (hrow : ∀ g, 1 ≤ g → g ≤ j → σ 10 i g = nI (VR P k i g)) (hy : y = nI (VR P k i (j + 1))) : ∀ g, 1 ≤ g → g ≤ j + 1 → up σ 10 i (j + 1) y 10 i g = nI (VR P k i g) := by
  intro g h1 h2
  rw [up_app]
  by_cases q : g = j + 1
  · rw [if_pos ⟨rfl, rfl, q⟩, hy, q]
  · rw [if_neg (fun h => q h.2.2)]
    exact hrow g h1 (by omega)
theorem frame_up {σ σ0 : St} {i j : Nat} {y : Int32} (hfr : ∀ a b c0, ¬ (a = 10 ∧ b = i) → σ a b c0 = σ0 a b c0) : ∀ a b c0, ¬ (a = 10 ∧ b = i) → up σ 10 i j y a b c0 = σ0 a b c0 := by
  intro a b c0 h
  rw [up_app, if_neg (fun q => h ⟨q.1, q.2.1⟩)]
  exact hfr a b c0 h
theorem nI_FAR : (1000000 : Int32) = nI FARn := rfl
section
variable {p : Program} {l : Launch} {e : Env} {R : Room} {s : State} {m : MethodId} {args : Array Value} {below : List Frame} {meth : Method} {c : Code} {D : va_G} {ad : Nat → Nat → Nat} {cy : Nat → ClassId} {A : Nat → Prop} {sa : Nat → Nat} {cells slots : Nat} {σ : St}
set_option maxRecDepth 100000 in
set_option maxHeartbeats 4000000 in
theorem lp_X0_measureRest (C : Cx p l s m args meth c cX0_measureRest "FretSchool$Hand" 5 (none : Option Jvm.ClassFile.FieldType) D ad cy A sa) {i k : Nat} {x1 x2 : Int32} {P : Nat → Nat → Bool} (e1 : x1 = nI i) (hi : i < 16) (hR : ∀ h, 1 ≤ h → h ≤ 13 → (σ 7 0 i &&& (1 <<< (nI h &&& 31)) = 0 ↔ ¬ P i h = true)) (hl : (k = 0 ∧ x2 = 1) ∨ (x2 = 0 ∧ i + 1 < 16 ∧ ∃ k', k = k' + 1 ∧ ∀ g, 1 ≤ g → g ≤ 13 → σ 10 (i + 1) g = nI (VR P k' (i + 1) g))) : ∀ (f j : Nat) (σ' : St) (x3 : Int32) (o4 : Option Value), x3 = nI (j + 1) → j ≤ 13 → 13 < j + f → (∀ g, 1 ≤ g → g ≤ j → σ' 10 i g = nI (VR P k i g)) → (∀ a b c0, ¬ (a = 10 ∧ b = i) → σ' a b c0 = σ a b c0) → Z p l e (rmD 3 0) s m args below meth c D ad cy A 5 0 0 (MQ below (va_Qv (fun σ' => (∀ g, 1 ≤ g → g ≤ 13 → σ' 10 i g = nI (VR P k i g)) ∧ ∀ a b c0, ¬ (a = 10 ∧ b = i) → σ' a b c0 = σ a b c0) (Bw D ad cy) A) args s 0 0 A) σ' [some (.ref (ad 6 0)), some (.int x1), some (.int x2), some (.int x3), o4] 2 [] := by
  intro f
  induction f with
  | zero => intro j σ' x3 o4 _ _ h; exact absurd h (by omega)
  | succ f ih =>
    intro j σ' x3 o4 e3 hj hf hrow hfr
    refine z_iload_n C dX0_measureRest_2 rfl ?_
    refine z_bipush C (v := 13) dX0_measureRest_3 (by decide) ?_
    refine z_icmp_gt C 100 dX0_measureRest_5 (by decide) (fun c_5 => ?_) (fun c_5 => ?_)
    · have hj13 : j = 13 := by rw [e3, show (13 : Int32) = nI 13 from rfl, nI_ltI (by omega) (by omega)] at c_5; omega
      refine z_vret C dX0_measureRest_100 ?_
      exact ⟨fun g h1 h2 => hrow g h1 (by omega), hfr⟩
    · have hj13 : j < 13 := by rw [e3, show (13 : Int32) = nI 13 from rfl, nI_ltI (by omega) (by omega)] at c_5; omega
      have hRj : (σ' 7 0 i &&& (1 <<< (x3 &&& 31)) = 0 ↔ ¬ P i (j + 1) = true) := by rw [hfr 7 0 i (by omega), e3]; exact hR (j + 1) (by omega) (by omega)
      refine z_iconst C (v := 0) dX0_measureRest_8 (by decide) ?_
      refine z_istore C dX0_measureRest_9 (by decide) ?_
      dsimp only [List.set]
      refine z_iload_n C dX0_measureRest_11 rfl ?_
      refine z_if_ne C 25 dX0_measureRest_12 (by decide) (fun c_12 => ?_) (fun c_12 => ?_)
      · have hk : k = 0 := hl.elim (fun h => h.1) (fun h => absurd h.1 c_12)
        refine z_aload_n C dX0_measureRest_25 rfl ?_
        refine g_6_0 C wd121 dX0_measureRest_26 ?_
        refine z_iload_n C dX0_measureRest_29 rfl ?_
        refine a_7 C (by assumption) (by first | assumption | omega) dX0_measureRest_30 ?_
        refine z_iload_n C dX0_measureRest_31 rfl ?_
        refine z_csi C (As := [_, _]) (c_X0_canReach) okX0_canReach wd324 (rok (by decide) (by decide)) ⟨Nat.le_of_ble_eq_true rfl, Nat.le_of_ble_eq_true rfl⟩ rfl (Nat.le_of_ble_eq_true rfl) dX0_measureRest_32 ?_
        rintro r32 _ ⟨e32, rfl⟩
        refine z_if_eq C 47 dX0_measureRest_35 (by decide) (fun c_35 => ?_) (fun c_35 => ?_)
        · have hp : ¬ P i (j + 1) = true := by
            apply hRj.mp
            apply Classical.byContradiction
            intro q
            rw [e32, if_neg q] at c_35
            exact absurd c_35 (by decide)
          refine z_aload_n C dX0_measureRest_47 rfl ?_
          refine g_6_1 C wd122 dX0_measureRest_48 ?_
          refine z_iload_n C dX0_measureRest_51 rfl ?_
          refine a_8 C (by assumption) (by first | assumption | omega) dX0_measureRest_52 ?_
          refine z_iload_n C dX0_measureRest_53 rfl ?_
          refine z_ldc C (v := 1000000) wd317 dX0_measureRest_54 ?_
          refine s_10 hi C e3 (by omega) dX0_measureRest_56 ?_
          refine z_goto C 94 dX0_measureRest_57 (by decide) ?_
          refine z_iinc C (v := 1) dX0_measureRest_94 rfl (by decide) (by decide) ?_
          dsimp only [List.set]
          refine z_goto C 2 dX0_measureRest_97 (by decide) ?_
          exact ih (j + 1) _ _ _ (by rw [e3]; exact nI_1 (j + 1)) (by omega) (by omega) (row_up hrow (by rw [VR_no hp]; rfl)) (frame_up hfr)
        · have hp : P i (j + 1) = true := by
            apply Classical.byContradiction
            intro q
            rw [e32, if_pos (hRj.mpr q)] at c_35
            exact c_35 rfl
          refine z_iload_n C dX0_measureRest_38 rfl ?_
          refine z_if_ne C 60 dX0_measureRest_39 (by decide) (fun c_39 => ?_) (fun c_39 => ?_)
          · refine z_aload_n C dX0_measureRest_60 rfl ?_
            refine g_6_1 C wd122 dX0_measureRest_61 ?_
            refine z_iload_n C dX0_measureRest_64 rfl ?_
            refine a_8 C e1 hi dX0_measureRest_65 ?_
            refine z_iload_n C dX0_measureRest_66 rfl ?_
            refine z_iload_n C dX0_measureRest_67 rfl ?_
            refine z_if_eq C 75 dX0_measureRest_68 (by decide) (fun c_68 => ?_) (fun c_68 => ?_)
            · exact absurd c_68 c_12
            · refine z_iconst C (v := 0) dX0_measureRest_71 (by decide) ?_
              refine z_goto C 93 dX0_measureRest_72 (by decide) ?_
              refine s_10 hi C e3 (by omega) dX0_measureRest_93 ?_
              refine z_iinc C (v := 1) dX0_measureRest_94 rfl (by decide) (by decide) ?_
              dsimp only [List.set]
              refine z_goto C 2 dX0_measureRest_97 (by decide) ?_
              exact ih (j + 1) _ _ _ (by rw [e3]; exact nI_1 (j + 1)) (by omega) (by omega) (row_up hrow (by rw [hk, VR_last hp]; rfl)) (frame_up hfr)
          · exact absurd c_39 c_12
      · obtain ⟨hi1, k', hk, hnx⟩ : i + 1 < 16 ∧ ∃ k', k = k' + 1 ∧ ∀ g, 1 ≤ g → g ≤ 13 → σ 10 (i + 1) g = nI (VR P k' (i + 1) g) := hl.elim (fun h => absurd (h.2.symm.trans c_12) (by decide)) (fun h => h.2)
        have hnx' : ∀ g, 1 ≤ g → g ≤ 13 → σ' 10 (i + 1) g = nI (VR P k' (i + 1) g) := fun g h1 h2 => by rw [hfr 10 (i + 1) g (by omega)]; exact hnx g h1 h2
        refine z_aload_n C dX0_measureRest_15 rfl ?_
        refine z_iload_n C dX0_measureRest_16 rfl ?_
        refine z_iconst C (v := 1) dX0_measureRest_17 (by decide) ?_
        refine z_iadd C dX0_measureRest_18 ?_
        refine z_iload_n C dX0_measureRest_19 rfl ?_
        refine z_cvi C (As := [_, _]) (c_X0_nearest (i := i + 1) (b := j + 1) (v := fun g => VR P k' (i + 1) g) (by rw [e1]; exact nI_1 i) hi1 e3 (by omega) (fun g h1 h2 => ⟨hnx' g h1 h2, VR_le _ _ _ _⟩)) okX0_nearest wd313 rc_6 (rok (by decide) (by decide)) ⟨Nat.le_of_ble_eq_true rfl, Nat.le_of_ble_eq_true rfl⟩ rfl (Nat.le_of_ble_eq_true rfl) dX0_measureRest_20 ?_
        rintro r20 _ ⟨e20, rfl⟩
        refine z_istore C dX0_measureRest_23 (by decide) ?_
        dsimp only [List.set]
        refine z_aload_n C dX0_measureRest_25 rfl ?_
        refine g_6_0 C wd121 dX0_measureRest_26 ?_
        refine z_iload_n C dX0_measureRest_29 rfl ?_
        refine a_7 C (by assumption) (by first | assumption | omega) dX0_measureRest_30 ?_
        refine z_iload_n C dX0_measureRest_31 rfl ?_
        refine z_csi C (As := [_, _]) (c_X0_canReach) okX0_canReach wd324 (rok (by decide) (by decide)) ⟨Nat.le_of_ble_eq_true rfl, Nat.le_of_ble_eq_true rfl⟩ rfl (Nat.le_of_ble_eq_true rfl) dX0_measureRest_32 ?_
        rintro r32 _ ⟨e32, rfl⟩
        refine z_if_eq C 47 dX0_measureRest_35 (by decide) (fun c_35 => ?_) (fun c_35 => ?_)
        · have hp : ¬ P i (j + 1) = true := by
            apply hRj.mp
            apply Classical.byContradiction
            intro q
            rw [e32, if_neg q] at c_35
            exact absurd c_35 (by decide)
          refine z_aload_n C dX0_measureRest_47 rfl ?_
          refine g_6_1 C wd122 dX0_measureRest_48 ?_
          refine z_iload_n C dX0_measureRest_51 rfl ?_
          refine a_8 C (by assumption) (by first | assumption | omega) dX0_measureRest_52 ?_
          refine z_iload_n C dX0_measureRest_53 rfl ?_
          refine z_ldc C (v := 1000000) wd317 dX0_measureRest_54 ?_
          refine s_10 hi C e3 (by omega) dX0_measureRest_56 ?_
          refine z_goto C 94 dX0_measureRest_57 (by decide) ?_
          refine z_iinc C (v := 1) dX0_measureRest_94 rfl (by decide) (by decide) ?_
          dsimp only [List.set]
          refine z_goto C 2 dX0_measureRest_97 (by decide) ?_
          exact ih (j + 1) _ _ _ (by rw [e3]; exact nI_1 (j + 1)) (by omega) (by omega) (row_up hrow (by rw [VR_no hp]; rfl)) (frame_up hfr)
        · have hp : P i (j + 1) = true := by
            apply Classical.byContradiction
            intro q
            rw [e32, if_pos (hRj.mpr q)] at c_35
            exact c_35 rfl
          refine z_iload_n C dX0_measureRest_38 rfl ?_
          refine z_if_ne C 60 dX0_measureRest_39 (by decide) (fun c_39 => ?_) (fun c_39 => ?_)
          · exact absurd c_12 c_39
          · refine z_iload C dX0_measureRest_42 rfl ?_
            refine z_if_ne C 60 dX0_measureRest_44 (by decide) (fun c_44 => ?_) (fun c_44 => ?_)
            · obtain ⟨ha1, ha2, ha3, ha4⟩ : 1 ≤ am (fun g => sh (j + 1) g + VR P k' (i + 1) g) 13 ∧ am (fun g => sh (j + 1) g + VR P k' (i + 1) g) 13 ≤ 13 ∧ (fun g => sh (j + 1) g + VR P k' (i + 1) g) (am (fun g => sh (j + 1) g + VR P k' (i + 1) g) 13) = mn (fun g => sh (j + 1) g + VR P k' (i + 1) g) 13 ∧ mn (fun g => sh (j + 1) g + VR P k' (i + 1) g) 13 < FARn := by
                rcases am_spec (fun g => sh (j + 1) g + VR P k' (i + 1) g) 13 with ⟨h1, _, _⟩ | ⟨h1, h2, h3, h4, _, _⟩
                · rw [e20, h1] at c_44; exact absurd rfl c_44
                · exact ⟨h1, h2, h3, h4⟩
              refine z_aload_n C dX0_measureRest_60 rfl ?_
              refine g_6_1 C wd122 dX0_measureRest_61 ?_
              refine z_iload_n C dX0_measureRest_64 rfl ?_
              refine a_8 C e1 hi dX0_measureRest_65 ?_
              refine z_iload_n C dX0_measureRest_66 rfl ?_
              refine z_iload_n C dX0_measureRest_67 rfl ?_
              refine z_if_eq C 75 dX0_measureRest_68 (by decide) (fun c_68 => ?_) (fun c_68 => ?_)
              · refine z_iload_n C dX0_measureRest_75 rfl ?_
                refine z_iload C dX0_measureRest_76 rfl ?_
                refine z_csi C (As := [_, _]) (c_X0_shift e3 e20 (by omega) (by omega)) okX0_shift wd318 (rok (by decide) (by decide)) ⟨Nat.le_of_ble_eq_true rfl, Nat.le_of_ble_eq_true rfl⟩ rfl (Nat.le_of_ble_eq_true rfl) dX0_measureRest_78 ?_
                rintro _ _ ⟨rfl, rfl⟩
                refine z_aload_n C dX0_measureRest_81 rfl ?_
                refine g_6_1 C wd122 dX0_measureRest_82 ?_
                refine z_iload_n C dX0_measureRest_85 rfl ?_
                refine z_iconst C (v := 1) dX0_measureRest_86 (by decide) ?_
                refine z_iadd C dX0_measureRest_87 ?_
                refine a_8 C (j := i + 1) (by rw [e1]; exact nI_1 i) hi1 dX0_measureRest_88 ?_
                refine z_iload C dX0_measureRest_89 rfl ?_
                refine a_10 hi1 C e20 (by omega) dX0_measureRest_91 ?_
                refine z_iadd C dX0_measureRest_92 ?_
                refine s_10 hi C e3 (by omega) dX0_measureRest_93 ?_
                refine z_iinc C (v := 1) dX0_measureRest_94 rfl (by decide) (by decide) ?_
                dsimp only [List.set]
                refine z_goto C 2 dX0_measureRest_97 (by decide) ?_
                exact ih (j + 1) _ _ _ (by rw [e3]; exact nI_1 (j + 1)) (by omega) (by omega) (row_up hrow (by rw [hk, VR_more hp, ← ha3, hnx' _ ha1 ha2, nI_add])) (frame_up hfr)
              · exact absurd c_12 c_68
            · have hz : am (fun g => sh (j + 1) g + VR P k' (i + 1) g) 13 = 0 ∧ mn (fun g => sh (j + 1) g + VR P k' (i + 1) g) 13 = FARn := by
                rcases am_spec (fun g => sh (j + 1) g + VR P k' (i + 1) g) 13 with ⟨h1, h2, _⟩ | ⟨h1, h2, h3, h4, _, _⟩
                · exact ⟨h1, h2⟩
                · rw [e20, nI_ne0' (by omega)] at c_44; omega
              refine z_aload_n C dX0_measureRest_47 rfl ?_
              refine g_6_1 C wd122 dX0_measureRest_48 ?_
              refine z_iload_n C dX0_measureRest_51 rfl ?_
              refine a_8 C (by assumption) (by first | assumption | omega) dX0_measureRest_52 ?_
              refine z_iload_n C dX0_measureRest_53 rfl ?_
              refine z_ldc C (v := 1000000) wd317 dX0_measureRest_54 ?_
              refine s_10 hi C e3 (by omega) dX0_measureRest_56 ?_
              refine z_goto C 94 dX0_measureRest_57 (by decide) ?_
              refine z_iinc C (v := 1) dX0_measureRest_94 rfl (by decide) (by decide) ?_
              dsimp only [List.set]
              refine z_goto C 2 dX0_measureRest_97 (by decide) ?_
              exact ih (j + 1) _ _ _ (by rw [e3]; exact nI_1 (j + 1)) (by omega) (by omega) (row_up hrow (by rw [hk, VR_more hp, hz.2]; rfl)) (frame_up hfr)
end
set_option maxRecDepth 100000 in
set_option maxHeartbeats 4000000 in
theorem c_X0_measureRest {l : Launch} {D : va_G} {ad : Nat → Nat → Nat} {cy : Nat → ClassId} {A : Nat → Prop} {sa : Nat → Nat} {σ : St} {i k : Nat} {x1 x2 : Int32} {P : Nat → Nat → Bool} (e1 : x1 = nI i) (hi : i < 16) (hR : ∀ h, 1 ≤ h → h ≤ 13 → (σ 7 0 i &&& (1 <<< (nI h &&& 31)) = 0 ↔ ¬ P i h = true)) (hl : (k = 0 ∧ x2 = 1) ∨ (x2 = 0 ∧ i + 1 < 16 ∧ ∃ k', k = k' + 1 ∧ ∀ g, 1 ≤ g → g ≤ 13 → σ 10 (i + 1) g = nI (VR P k' (i + 1) g))) : MV l D ad cy A sa yX0_measureRest cX0_measureRest 5 (none : Option Jvm.ClassFile.FieldType) 3 σ [.ref (ad 6 0), .int x1, .int x2] (fun σ' => (∀ g, 1 ≤ g → g ≤ 13 → σ' 10 i g = nI (VR P k i g)) ∧ ∀ a b c0, ¬ (a = 10 ∧ b = i) → σ' a b c0 = σ a b c0) := by
  refine MV.mk "FretSchool$Hand" (by decide) rfl (Nat.le_of_ble_eq_true rfl) rfl ?_
  intro p e s m args below meth c C
  change Z _ _ _ _ _ _ _ _ _ _ _ _ _ _ _ _ _ _ _ [some (.ref (ad 6 0)), some (.int x1), some (.int x2), none, none] 0 []
  refine z_iconst C (v := 1) dX0_measureRest_0 (by decide) ?_
  refine z_istore_n C dX0_measureRest_1 (by decide) ?_
  dsimp only [List.set]
  exact lp_X0_measureRest C e1 hi hR hl 14 0 _ _ _ rfl (by omega) (by omega) (fun g h1 h2 => absurd h1 (by omega)) (fun _ _ _ _ => rfl)
end
section
/-! ===== the reach of a hand ===== -/
theorem bit_tp : ∀ h, h < 32 → ((1 : Int32) <<< (nI h &&& 31)).toBitVec = BitVec.twoPow 32 h := by decide +kernel
theorem bit_zero {x : Int32} {h : Nat} (hh : h < 32) : x &&& (1 <<< (nI h &&& 31)) = 0 ↔ x.toBitVec.getLsbD h = false := by
  rw [← Int32.toBitVec_inj, Int32.toBitVec_and, bit_tp h hh, BitVec.and_twoPow]
  constructor
  · intro q
    cases hx : x.toBitVec.getLsbD h with
    | false => rfl
    | true =>
      rw [hx, if_pos rfl] at q
      have q2 := congrArg (fun b : BitVec 32 => b.getLsbD h) q
      simp [hh] at q2
  · intro q
    rw [q]
    rfl
theorem bit_or {x : Int32} {g h : Nat} (hg : g < 32) (hh : h < 32) : (x ||| (1 <<< (nI g &&& 31))) &&& (1 <<< (nI h &&& 31)) = 0 ↔ (x &&& (1 <<< (nI h &&& 31)) = 0 ∧ g ≠ h) := by
  rw [bit_zero hh, bit_zero hh, Int32.toBitVec_or, bit_tp g hg, BitVec.getLsbD_or, BitVec.getLsbD_twoPow]
  by_cases q : g = h
  · subst q; simp [hg]
  · simp [q]
theorem bit_0 {h : Nat} (hh : h < 32) : (0 : Int32) &&& (1 <<< (nI h &&& 31)) = 0 := by
  rw [bit_zero hh]
  simp
/-- whether note i can be played in the position h -/
noncomputable def Pf (σ : St) (p0 q0 f0 : Nat) (i h : Nat) : Bool := by classical exact decide (1 ≤ h ∧ h + 3 ≤ f0 ∧ lowS (σ 12 p0 i) (σ 14 q0) (nI h) ≠ -1)
theorem Pf_iff {σ : St} {p0 q0 f0 i h : Nat} : Pf σ p0 q0 f0 i h = true ↔ (1 ≤ h ∧ h + 3 ≤ f0 ∧ lowS (σ 12 p0 i) (σ 14 q0) (nI h) ≠ -1) := by
  unfold Pf
  simp
theorem Pf_cong {σ σ' : St} {p0 q0 f0 : Nat} (h1 : ∀ j, σ' 12 p0 j = σ 12 p0 j) (h2 : ∀ j, σ' 14 q0 j = σ 14 q0 j) : Pf σ' p0 q0 f0 = Pf σ p0 q0 f0 := by
  funext i h
  have e : σ' 14 q0 = σ 14 q0 := funext h2
  unfold Pf
  rw [h1, e]
section
variable {p : Program} {l : Launch} {e : Env} {R : Room} {s : State} {m : MethodId} {args : Array Value} {below : List Frame} {meth : Method} {c : Code} {D : va_G} {ad : Nat → Nat → Nat} {cy : Nat → ClassId} {A : Nat → Prop} {sa : Nat → Nat} {cells slots : Nat} {σ : St}
set_option maxRecDepth 100000 in
set_option maxHeartbeats 4000000 in
theorem lp_X0_feelReach_in (C : Cx p l s m args meth c cX0_feelReach "FretSchool$Hand" 6 (none : Option Jvm.ClassFile.FieldType) D ad cy A sa) {p0 q0 n f0 : Nat} (hp0 : p0 < 8) (hq0 : q0 < 8) (hn : σ 11 p0 1 = nI n) (hn16 : n ≤ 16) (hf0 : σ 13 q0 2 = nI f0) (hf4 : 4 ≤ f0) (hf16 : f0 ≤ 16) {x4 : Int32} {j : Nat} (e4 : x4 = nI j) (hj : j < n) {post : St → Prop} (kx : ∀ (σ' : St) (o5 : Option Value), (∀ a b c0, a ≠ 7 → σ' a b c0 = σ a b c0) → (∀ i, i < j + 1 → ∀ h, 1 ≤ h → h ≤ 13 → (σ' 7 0 i &&& (1 <<< (nI h &&& 31)) = 0 ↔ ¬ Pf σ p0 q0 f0 i h = true)) → Z p l e (rmD 1 0) s m args below meth c D ad cy A 6 0 0 (MQ below (va_Qv (post) (Bw D ad cy) A) args s 0 0 A) σ' [some (.ref (ad 6 0)), some (.ref (ad 11 p0)), some (.ref (ad 13 q0)), some (.int (nI (f0 - 3))), some (.int x4), o5] 71 []) : ∀ (f g : Nat) (σ' : St) (x5 : Int32), x5 = nI (g + 1) → g + 3 ≤ f0 → f0 < g + 3 + f → (∀ a b c0, a ≠ 7 → σ' a b c0 = σ a b c0) → (∀ i, i < j → ∀ h, 1 ≤ h → h ≤ 13 → (σ' 7 0 i &&& (1 <<< (nI h &&& 31)) = 0 ↔ ¬ Pf σ p0 q0 f0 i h = true)) → (∀ h, 1 ≤ h → h ≤ 13 → (σ' 7 0 j &&& (1 <<< (nI h &&& 31)) = 0 ↔ ¬ (h ≤ g ∧ Pf σ p0 q0 f0 j h = true))) → Z p l e (rmD 1 0) s m args below meth c D ad cy A 6 0 0 (MQ below (va_Qv (post) (Bw D ad cy) A) args s 0 0 A) σ' [some (.ref (ad 6 0)), some (.ref (ad 11 p0)), some (.ref (ad 13 q0)), some (.int (nI (f0 - 3))), some (.int x4), some (.int x5)] 28 [] := by
  intro f
  induction f with
  | zero => intro g σ' x5 _ _ h; exact absurd h (by omega)
  | succ f ih =>
    intro g σ' x5 e5 hg hf hfr hbits hbj
    refine z_iload C dX0_feelReach_28 rfl ?_
    refine z_iload_n C dX0_feelReach_30 rfl ?_
    refine z_icmp_gt C 71 dX0_feelReach_31 (by decide) (fun c_31 => ?_) (fun c_31 => ?_)
    · have hgf : f0 - 3 < g + 1 := by rw [e5, nI_ltI (by omega) (by omega)] at c_31; exact c_31
      exact kx _ _ hfr (fun i hi h h1 h2 => (Nat.lt_or_ge i j).elim (fun q => hbits i q h h1 h2) (fun q => by
                          rw [show i = j by omega, hbj h h1 h2]
                          constructor
                          · intro a b
                            exact a ⟨by have := (Pf_iff.mp b).2.1; omega, b⟩
                          · intro a b
                            exact a b.2))
    · have hgf : ¬ f0 - 3 < g + 1 := by rw [e5, nI_ltI (by omega) (by omega)] at c_31; exact c_31
      refine z_aload_n C dX0_feelReach_34 rfl ?_
      refine z_aload_n C dX0_feelReach_35 rfl ?_
      refine g_11_0 hp0 C wd43 dX0_feelReach_36 ?_
      refine z_iload C dX0_feelReach_39 rfl ?_
      refine a_12 hp0 C e4 (by omega) dX0_feelReach_41 ?_
      refine z_iload C dX0_feelReach_42 rfl ?_
      refine z_cvi C (As := [_, _]) (c_X1_lowestString hq0) okX1_lowestString wd305 (rc_13 hq0) (rok (by decide) (by decide)) ⟨Nat.le_of_ble_eq_true rfl, Nat.le_of_ble_eq_true rfl⟩ rfl (Nat.le_of_ble_eq_true rfl) dX0_feelReach_44 ?_
      rintro r44 _ ⟨rfl, e44⟩
      refine z_iconst C (v := (-1)) dX0_feelReach_47 (by decide) ?_
      refine z_icmp_eq C 65 dX0_feelReach_48 (by decide) (fun c_48 => ?_) (fun c_48 => ?_)
      · have hno : ¬ Pf σ p0 q0 f0 j (g + 1) = true := by
          intro q
          have h3 := (Pf_iff.mp q).2.2
          rw [← hfr 12 p0 j (by omega), ← (show σ' 14 q0 = σ 14 q0 from funext fun a => hfr 14 q0 a (by omega)), ← e5] at h3
          exact h3 (e44.symm.trans c_48)
        refine z_iinc C (v := 1) dX0_feelReach_65 rfl (by decide) (by decide) ?_
        dsimp only [List.set]
        refine z_goto C 28 dX0_feelReach_68 (by decide) ?_
        refine ih (g + 1) _ _ (by rw [e5]; exact nI_1 (g + 1)) (by omega) (by omega) hfr hbits (fun h h1 h2 => ?_)
        rw [hbj h h1 h2]
        constructor
        · intro a d
          rcases Nat.lt_or_ge g h with q | q
          · exact hno (by rw [← show h = g + 1 by omega]; exact d.2)
          · exact a ⟨q, d.2⟩
        · intro a d
          exact a ⟨by omega, d.2⟩
      · have hyes : Pf σ p0 q0 f0 j (g + 1) = true := by
          refine Pf_iff.mpr ⟨by omega, by omega, ?_⟩
          rw [← hfr 12 p0 j (by omega), ← (show σ' 14 q0 = σ 14 q0 from funext fun a => hfr 14 q0 a (by omega)), ← e5]
          intro q
          exact c_48 (e44.trans q)
        refine z_aload_n C dX0_feelReach_51 rfl ?_
        refine g_6_0 C wd121 dX0_feelReach_52 ?_
        refine z_iload C dX0_feelReach_55 rfl ?_
        refine z_dup2 C dX0_feelReach_57 rfl rfl ?_
        refine a_7 C e4 (by omega) dX0_feelReach_58 ?_
        refine z_iconst C (v := 1) dX0_feelReach_59 (by decide) ?_
        refine z_iload C dX0_feelReach_60 rfl ?_
        refine z_ishl C dX0_feelReach_62 ?_
        refine z_ior C dX0_feelReach_63 ?_
        refine s_7 C e4 (by omega) dX0_feelReach_64 ?_
        refine z_iinc C (v := 1) dX0_feelReach_65 rfl (by decide) (by decide) ?_
        dsimp only [List.set]
        refine z_goto C 28 dX0_feelReach_68 (by decide) ?_
        refine ih (g + 1) _ _ (by rw [e5]; exact nI_1 (g + 1)) (by omega) (by omega) (fun a b c0 ha => by rw [up_app, if_neg (fun q => ha q.1)]; exact hfr a b c0 ha) (fun i hi h h1 h2 => by rw [up_app, if_neg (by omega)]; exact hbits i hi h h1 h2) (fun h h1 h2 => ?_)
        rw [up_app, if_pos ⟨rfl, rfl, rfl⟩, e5, bit_or (by omega) (by omega), hbj h h1 h2]
        constructor
        · rintro ⟨a, b⟩ ⟨d1, d2⟩
          exact a ⟨by omega, d2⟩
        · intro a
          refine ⟨fun d => a ⟨by omega, d.2⟩, fun d => a ⟨by omega, ?_⟩⟩
          rw [← d]
          exact hyes
end
section
variable {p : Program} {l : Launch} {e : Env} {R : Room} {s : State} {m : MethodId} {args : Array Value} {below : List Frame} {meth : Method} {c : Code} {D : va_G} {ad : Nat → Nat → Nat} {cy : Nat → ClassId} {A : Nat → Prop} {sa : Nat → Nat} {cells slots : Nat} {σ : St}
set_option maxRecDepth 100000 in
set_option maxHeartbeats 4000000 in
theorem lp_X0_feelReach (C : Cx p l s m args meth c cX0_feelReach "FretSchool$Hand" 6 (none : Option Jvm.ClassFile.FieldType) D ad cy A sa) {p0 q0 n f0 : Nat} (hp0 : p0 < 8) (hq0 : q0 < 8) (hn : σ 11 p0 1 = nI n) (hn16 : n ≤ 16) (hf0 : σ 13 q0 2 = nI f0) (hf4 : 4 ≤ f0) (hf16 : f0 ≤ 16) : ∀ (f j : Nat) (σ' : St) (x4 : Int32) (o5 : Option Value), x4 = nI j → j ≤ n → n < j + f → (∀ a b c0, a ≠ 7 → σ' a b c0 = σ a b c0) → (∀ i, i < j → ∀ h, 1 ≤ h → h ≤ 13 → (σ' 7 0 i &&& (1 <<< (nI h &&& 31)) = 0 ↔ ¬ Pf σ p0 q0 f0 i h = true)) → Z p l e (rmD 1 0) s m args below meth c D ad cy A 6 0 0 (MQ below (va_Qv (fun σ' => (∀ a b c0, a ≠ 7 → σ' a b c0 = σ a b c0) ∧ ∀ i, i < n → ∀ h, 1 ≤ h → h ≤ 13 → (σ' 7 0 i &&& (1 <<< (nI h &&& 31)) = 0 ↔ ¬ Pf σ p0 q0 f0 i h = true)) (Bw D ad cy) A) args s 0 0 A) σ' [some (.ref (ad 6 0)), some (.ref (ad 11 p0)), some (.ref (ad 13 q0)), some (.int (nI (f0 - 3))), some (.int x4), o5] 8 [] := by
  intro f
  induction f with
  | zero => intro j σ' x4 o5 _ _ h; exact absurd h (by omega)
  | succ f ih =>
    intro j σ' x4 o5 e4 hj hf hfr hbits
    have hn' : σ' 11 p0 1 = nI n := by rw [hfr 11 p0 1 (by omega)]; exact hn
    refine z_iload C dX0_feelReach_8 rfl ?_
    refine z_aload_n C dX0_feelReach_10 rfl ?_
    refine g_11_1 hp0 C wd46 dX0_feelReach_11 ?_
    refine z_icmp_ge C 77 dX0_feelReach_14 (by decide) (fun c_14 => ?_) (fun c_14 => ?_)
    · have hjn : n ≤ j := by rw [hn', e4, nI_leI (by omega) (by omega)] at c_14; exact c_14
      refine z_vret C dX0_feelReach_77 ?_
      exact ⟨hfr, fun i hi => hbits i (by omega)⟩
    · have hjn : j < n := by rw [hn', e4, nI_leI (by omega) (by omega)] at c_14; omega
      refine z_aload_n C dX0_feelReach_17 rfl ?_
      refine g_6_0 C wd121 dX0_feelReach_18 ?_
      refine z_iload C dX0_feelReach_21 rfl ?_
      refine z_iconst C (v := 0) dX0_feelReach_23 (by decide) ?_
      refine s_7 C e4 (by omega) dX0_feelReach_24 ?_
      refine z_iconst C (v := 1) dX0_feelReach_25 (by decide) ?_
      refine z_istore C dX0_feelReach_26 (by decide) ?_
      dsimp only [List.set]
      refine lp_X0_feelReach_in C hp0 hq0 hn hn16 hf0 hf4 hf16 e4 hjn (fun σ2 o5 hfr2 hbits2 => ?_) 20 0 _ _ rfl (by omega) (by omega) (fun a b c0 ha => by rw [up_app, if_neg (fun q => ha q.1)]; exact hfr a b c0 ha) (fun i hi h h1 h2 => by rw [up_app, if_neg (by omega)]; exact hbits i hi h h1 h2) (fun h h1 h2 => ?_)
      · refine z_iinc C (v := 1) dX0_feelReach_71 rfl (by decide) (by decide) ?_
        dsimp only [List.set]
        refine z_goto C 8 dX0_feelReach_74 (by decide) ?_
        exact ih (j + 1) _ _ _ (by rw [e4]; exact nI_1 j) (by omega) (by omega) hfr2 hbits2
      · rw [up_app, if_pos ⟨rfl, rfl, rfl⟩]
        exact ⟨fun _ d => by omega, fun _ => bit_0 (by omega)⟩
end
set_option maxRecDepth 100000 in
set_option maxHeartbeats 4000000 in
theorem c_X0_feelReach {l : Launch} {D : va_G} {ad : Nat → Nat → Nat} {cy : Nat → ClassId} {A : Nat → Prop} {sa : Nat → Nat} {σ : St} {p0 q0 n f0 : Nat} (hp0 : p0 < 8) (hq0 : q0 < 8) (hn : σ 11 p0 1 = nI n) (hn16 : n ≤ 16) (hf0 : σ 13 q0 2 = nI f0) (hf4 : 4 ≤ f0) (hf16 : f0 ≤ 16) : MV l D ad cy A sa yX0_feelReach cX0_feelReach 6 (none : Option Jvm.ClassFile.FieldType) 1 σ [.ref (ad 6 0), .ref (ad 11 p0), .ref (ad 13 q0)] (fun σ' => (∀ a b c0, a ≠ 7 → σ' a b c0 = σ a b c0) ∧ ∀ i, i < n → ∀ h, 1 ≤ h → h ≤ 13 → (σ' 7 0 i &&& (1 <<< (nI h &&& 31)) = 0 ↔ ¬ Pf σ p0 q0 f0 i h = true)) := by
  refine MV.mk "FretSchool$Hand" (by decide) rfl (Nat.le_of_ble_eq_true rfl) rfl ?_
  intro p e s m args below meth c C
  change Z _ _ _ _ _ _ _ _ _ _ _ _ _ _ _ _ _ _ _ [some (.ref (ad 6 0)), some (.ref (ad 11 p0)), some (.ref (ad 13 q0)), none, none, none] 0 []
  refine z_aload_n C dX0_feelReach_0 rfl ?_
  refine z_cvi C (As := []) (c_X1_highestPosition hq0) okX1_highestPosition wd301 (rc_13 hq0) (rok (by decide) (by decide)) ⟨Nat.le_of_ble_eq_true rfl, Nat.le_of_ble_eq_true rfl⟩ rfl (Nat.le_of_ble_eq_true rfl) dX0_feelReach_1 ?_
  rintro r1 _ ⟨e1, rfl⟩
  obtain rfl : r1 = nI (f0 - 3) := by rw [e1, hf0, show (3 : Int32) = nI 3 from rfl, pk_sub (by omega)]
  refine z_istore_n C dX0_feelReach_4 (by decide) ?_
  dsimp only [List.set]
  refine z_iconst C (v := 0) dX0_feelReach_5 (by decide) ?_
  refine z_istore C dX0_feelReach_6 (by decide) ?_
  dsimp only [List.set]
  exact lp_X0_feelReach C hp0 hq0 hn hn16 hf0 hf4 hf16 (n + 1) 0 _ _ _ nI_0.symm (by omega) (by omega) (fun _ _ _ _ => rfl) (fun i hi => absurd hi (by omega))
end
section
/-! ===== the best row ===== -/
section
variable {p : Program} {l : Launch} {e : Env} {R : Room} {s : State} {m : MethodId} {args : Array Value} {below : List Frame} {meth : Method} {c : Code} {D : va_G} {ad : Nat → Nat → Nat} {cy : Nat → ClassId} {A : Nat → Prop} {sa : Nat → Nat} {cells slots : Nat} {σ : St}
set_option maxRecDepth 100000 in
set_option maxHeartbeats 4000000 in
theorem lp_X0_chooseRow (C : Cx p l s m args meth c cX0_chooseRow "FretSchool$Hand" 6 (some .boolean) D ad cy A sa) {n : Nat} {x1 : Int32} {P : Nat → Nat → Bool} (e1 : x1 = nI n) (hn : n ≤ 16) (hrows : ∀ i, i < n → ∀ g, 1 ≤ g → g ≤ 13 → σ 10 i g = nI (VR P (n - 1 - i) i g)) : ∀ (f j : Nat) (σ' : St) (x2 x3 : Int32) (o4 o5 : Option Value), x2 = nI (bef P n j) → x3 = nI j → j ≤ n → n < j + f → (0 < j → tot P n < FARn) → (∀ a b c0, a ≠ 6 → a ≠ 9 → σ' a b c0 = σ a b c0) → σ' 6 0 3 = nI (sumf P n j) → σ' 6 0 4 = nI (grt P n j) → (∀ i, i < j → σ' 9 0 i = nI (rowf P n i)) → Z p l e (rmD 3 0) s m args below meth c D ad cy A 6 0 0 (MQ below (va_Qi (fun r σ' => (∀ a b c0, a ≠ 6 → a ≠ 9 → σ' a b c0 = σ a b c0) ∧ ((r = 1 ∧ (0 < n → tot P n < FARn) ∧ σ' 6 0 3 = nI (sumf P n n) ∧ σ' 6 0 4 = nI (grt P n n) ∧ ∀ i, i < n → σ' 9 0 i = nI (rowf P n i)) ∨ (r = 0 ∧ 0 < n ∧ tot P n = FARn))) (Bw D ad cy) A) args s 0 0 A) σ' [some (.ref (ad 6 0)), some (.int x1), some (.int x2), some (.int x3), o4, o5] 14 [] := by
  intro f
  induction f with
  | zero => intro j σ' x2 x3 o4 o5 _ _ _ h; exact absurd h (by omega)
  | succ f ih =>
    intro j σ' x2 x3 o4 o5 e2 e3 hj hf ht hfr hsum hgrt hrow
    refine z_iload_n C dX0_chooseRow_14 rfl ?_
    refine z_iload_n C dX0_chooseRow_15 rfl ?_
    refine z_icmp_ge C 92 dX0_chooseRow_16 (by decide) (fun c_16 => ?_) (fun c_16 => ?_)
    · have hjn : j = n := by rw [e1, e3, nI_leI (by omega) (by omega)] at c_16; omega
      refine z_iconst C (v := 1) dX0_chooseRow_92 (by decide) ?_
      refine z_zret C dX0_chooseRow_93 (by first | exact Or.inl rfl | exact Or.inr rfl | assumption) ?_
      subst hjn
      exact ⟨hfr, Or.inl ⟨rfl, ht, hsum, hgrt, hrow⟩⟩
    · have hjn : j < n := by rw [e1, e3, nI_leI (by omega) (by omega)] at c_16; omega
      have hbef : bef P n j < 14 := by
        cases j with
        | zero => show 0 < 14; omega
        | succ j => have := (row_spec (P := P) (n := n) (by omega) (ht (by omega)) j (by omega)).2.1; show rowf P n j < 14; omega
      refine z_aload_n C dX0_chooseRow_19 rfl ?_
      refine z_iload_n C dX0_chooseRow_20 rfl ?_
      refine z_iload_n C dX0_chooseRow_21 rfl ?_
      refine z_cvi C (As := [_, _]) (c_X0_nearest (i := j) (b := bef P n j) (v := fun g => VR P (n - 1 - j) j g) e3 (by omega) e2 hbef (fun g h1 h2 => ⟨by rw [hfr 10 j g (by omega) (by omega)]; exact hrows j hjn g h1 h2, VR_le _ _ _ _⟩)) okX0_nearest wd313 rc_6 (rok (by decide) (by decide)) ⟨Nat.le_of_ble_eq_true rfl, Nat.le_of_ble_eq_true rfl⟩ rfl (Nat.le_of_ble_eq_true rfl) dX0_chooseRow_22 ?_
      rintro r22 _ ⟨e22, rfl⟩
      rw [← rowf_am] at e22
      refine z_istore C dX0_chooseRow_25 (by decide) ?_
      dsimp only [List.set]
      refine z_iload C dX0_chooseRow_27 rfl ?_
      refine z_if_ne C 34 dX0_chooseRow_29 (by decide) (fun c_29 => ?_) (fun c_29 => ?_)
      · have ham := am_spec (fun g => sh (bef P n j) g + VR P (n - 1 - j) j g) 13
        rw [← rowf_am] at ham
        obtain ⟨ha1, ha2, ha3, ha4⟩ : 1 ≤ rowf P n j ∧ rowf P n j ≤ 13 ∧ (fun g => sh (bef P n j) g + VR P (n - 1 - j) j g) (rowf P n j) = mn (fun g => sh (bef P n j) g + VR P (n - 1 - j) j g) 13 ∧ mn (fun g => sh (bef P n j) g + VR P (n - 1 - j) j g) 13 < FARn := by
          rcases ham with ⟨h1, _, _⟩ | ⟨h1, h2, h3, h4, _, _⟩
          · rw [e22, h1] at c_29; exact absurd rfl c_29
          · exact ⟨h1, h2, h3, h4⟩
        have htot : tot P n < FARn := by
          cases j with
          | zero => exact ha4
          | succ j => exact ht (by omega)
        have hsl := sh_le (b := bef P n j) (h := rowf P n j) (by omega) (by omega)
        have hgl := grt_le (P := P) (n := n) (by omega) htot j (by omega)
        refine z_iload_n C dX0_chooseRow_34 rfl ?_
        refine z_iload C dX0_chooseRow_35 rfl ?_
        refine z_csi C (As := [_, _]) (c_X0_shift e2 e22 (by omega) (by omega)) okX0_shift wd318 (rok (by decide) (by decide)) ⟨Nat.le_of_ble_eq_true rfl, Nat.le_of_ble_eq_true rfl⟩ rfl (Nat.le_of_ble_eq_true rfl) dX0_chooseRow_37 ?_
        rintro r37 _ ⟨e37, rfl⟩
        refine z_istore C dX0_chooseRow_40 (by decide) ?_
        dsimp only [List.set]
        refine z_aload_n C dX0_chooseRow_42 rfl ?_
        refine z_dup C dX0_chooseRow_43 rfl ?_
        refine g_6_3 C wd125 dX0_chooseRow_44 ?_
        refine z_iload C dX0_chooseRow_47 rfl ?_
        refine z_iadd C dX0_chooseRow_49 ?_
        refine p_6_3 C wd125 dX0_chooseRow_50 ?_
        refine z_aload_n C dX0_chooseRow_53 rfl ?_
        refine z_iload C dX0_chooseRow_54 rfl ?_
        refine z_aload_n C dX0_chooseRow_56 rfl ?_
        refine g_6_4 C wd127 dX0_chooseRow_57 ?_
        refine z_icmp_le C 68 dX0_chooseRow_60 (by decide) (fun c_60 => ?_) (fun c_60 => ?_)
        · refine z_aload_n C dX0_chooseRow_68 rfl ?_
          refine g_6_4 C wd127 dX0_chooseRow_69 ?_
          refine p_6_4 C wd127 dX0_chooseRow_72 ?_
          refine z_aload_n C dX0_chooseRow_75 rfl ?_
          refine g_6_2 C wd123 dX0_chooseRow_76 ?_
          refine z_iload_n C dX0_chooseRow_79 rfl ?_
          refine z_iload C dX0_chooseRow_80 rfl ?_
          refine s_9 C e3 (by omega) dX0_chooseRow_82 ?_
          refine z_iload C dX0_chooseRow_83 rfl ?_
          refine z_istore_n C dX0_chooseRow_85 (by decide) ?_
          dsimp only [List.set]
          refine z_iinc C (v := 1) dX0_chooseRow_86 rfl (by decide) (by decide) ?_
          dsimp only [List.set]
          refine z_goto C 14 dX0_chooseRow_89 (by decide) ?_
          refine ih (j + 1) _ _ _ _ _ e22 (by rw [e3]; exact nI_1 j) (by omega) (by omega) (fun _ => htot) (fun a b c0 h6 h9 => ?_) ?_ ?_ (fun i hi => ?_)
          · simp only [up_app, h6, h9, false_and, if_false]
            exact hfr a b c0 h6 h9
          · simp only [up_app]
            simp only [Nat.reduceEqDiff, false_and, and_false, and_true, if_false, if_true, hsum, e37, nI_add]
            rfl
          · simp only [up_app] at c_60 ⊢
            simp only [Nat.reduceEqDiff, false_and, and_false, and_true, if_false, if_true, hgrt, e37] at c_60 ⊢
            rw [nI_leI (by omega) (by omega)] at c_60
            show _ = nI (if grt P n j < sh (bef P n j) (rowf P n j) then sh (bef P n j) (rowf P n j) else grt P n j)
            rw [if_neg (by omega)]
          · simp only [up_app]
            simp only [Nat.reduceEqDiff, false_and, and_false, and_true, true_and, if_false, if_true]
            rcases Nat.lt_or_ge i j with q | q
            · rw [if_neg (by omega)]
              exact hrow i q
            · rw [if_pos (by omega), show i = j by omega]
              exact e22
        · refine z_iload C dX0_chooseRow_63 rfl ?_
          refine z_goto C 72 dX0_chooseRow_65 (by decide) ?_
          refine p_6_4 C wd127 dX0_chooseRow_72 ?_
          refine z_aload_n C dX0_chooseRow_75 rfl ?_
          refine g_6_2 C wd123 dX0_chooseRow_76 ?_
          refine z_iload_n C dX0_chooseRow_79 rfl ?_
          refine z_iload C dX0_chooseRow_80 rfl ?_
          refine s_9 C e3 (by omega) dX0_chooseRow_82 ?_
          refine z_iload C dX0_chooseRow_83 rfl ?_
          refine z_istore_n C dX0_chooseRow_85 (by decide) ?_
          dsimp only [List.set]
          refine z_iinc C (v := 1) dX0_chooseRow_86 rfl (by decide) (by decide) ?_
          dsimp only [List.set]
          refine z_goto C 14 dX0_chooseRow_89 (by decide) ?_
          refine ih (j + 1) _ _ _ _ _ e22 (by rw [e3]; exact nI_1 j) (by omega) (by omega) (fun _ => htot) (fun a b c0 h6 h9 => ?_) ?_ ?_ (fun i hi => ?_)
          · simp only [up_app, h6, h9, false_and, if_false]
            exact hfr a b c0 h6 h9
          · simp only [up_app]
            simp only [Nat.reduceEqDiff, false_and, and_false, and_true, if_false, if_true, hsum, e37, nI_add]
            rfl
          · simp only [up_app] at c_60 ⊢
            simp only [Nat.reduceEqDiff, false_and, and_false, and_true, if_false, if_true, hgrt, e37] at c_60 ⊢
            rw [nI_leI (by omega) (by omega)] at c_60
            show _ = nI (if grt P n j < sh (bef P n j) (rowf P n j) then sh (bef P n j) (rowf P n j) else grt P n j)
            rw [if_pos (by omega)]
          · simp only [up_app]
            simp only [Nat.reduceEqDiff, false_and, and_false, and_true, true_and, if_false, if_true]
            rcases Nat.lt_or_ge i j with q | q
            · rw [if_neg (by omega)]
              exact hrow i q
            · rw [if_pos (by omega), show i = j by omega]
              exact e22
      · have ham := am_spec (fun g => sh (bef P n j) g + VR P (n - 1 - j) j g) 13
        rw [← rowf_am] at ham
        obtain ⟨hz1, hz2⟩ : rowf P n j = 0 ∧ mn (fun g => sh (bef P n j) g + VR P (n - 1 - j) j g) 13 = FARn := by
          rcases ham with ⟨h1, h2, _⟩ | ⟨h1, h2, h3, h4, _, _⟩
          · exact ⟨h1, h2⟩
          · rw [e22, nI_ne0' (by omega)] at c_29; omega
        have hj0 : j = 0 := by
          cases j with
          | zero => rfl
          | succ j => have := (row_spec (P := P) (n := n) (by omega) (ht (by omega)) (j + 1) (by omega)).1; omega
        refine z_iconst C (v := 0) dX0_chooseRow_32 (by decide) ?_
        refine z_zret C dX0_chooseRow_33 (by first | exact Or.inl rfl | exact Or.inr rfl | assumption) ?_
        refine ⟨hfr, Or.inr ⟨rfl, by omega, ?_⟩⟩
        subst hj0
        exact hz2
end
set_option maxRecDepth 100000 in
set_option maxHeartbeats 4000000 in
theorem c_X0_chooseRow {l : Launch} {D : va_G} {ad : Nat → Nat → Nat} {cy : Nat → ClassId} {A : Nat → Prop} {sa : Nat → Nat} {σ : St} {n : Nat} {x1 : Int32} {P : Nat → Nat → Bool} (e1 : x1 = nI n) (hn : n ≤ 16) (hrows : ∀ i, i < n → ∀ g, 1 ≤ g → g ≤ 13 → σ 10 i g = nI (VR P (n - 1 - i) i g)) : MI l D ad cy A sa yX0_chooseRow cX0_chooseRow 6 (some .boolean) 3 σ [.ref (ad 6 0), .int x1] (fun r σ' => (∀ a b c0, a ≠ 6 → a ≠ 9 → σ' a b c0 = σ a b c0) ∧ ((r = 1 ∧ (0 < n → tot P n < FARn) ∧ σ' 6 0 3 = nI (sumf P n n) ∧ σ' 6 0 4 = nI (grt P n n) ∧ ∀ i, i < n → σ' 9 0 i = nI (rowf P n i)) ∨ (r = 0 ∧ 0 < n ∧ tot P n = FARn))) := by
  refine MI.mk "FretSchool$Hand" (by decide) rfl (Nat.le_of_ble_eq_true rfl) rfl ?_
  intro p e s m args below meth c C
  change Z _ _ _ _ _ _ _ _ _ _ _ _ _ _ _ _ _ _ _ [some (.ref (ad 6 0)), some (.int x1), none, none, none, none] 0 []
  refine z_aload_n C dX0_chooseRow_0 rfl ?_
  refine z_iconst C (v := 0) dX0_chooseRow_1 (by decide) ?_
  refine p_6_3 C wd125 dX0_chooseRow_2 ?_
  refine z_aload_n C dX0_chooseRow_5 rfl ?_
  refine z_iconst C (v := 0) dX0_chooseRow_6 (by decide) ?_
  refine p_6_4 C wd127 dX0_chooseRow_7 ?_
  refine z_iconst C (v := 0) dX0_chooseRow_10 (by decide) ?_
  refine z_istore_n C dX0_chooseRow_11 (by decide) ?_
  dsimp only [List.set]
  refine z_iconst C (v := 0) dX0_chooseRow_12 (by decide) ?_
  refine z_istore_n C dX0_chooseRow_13 (by decide) ?_
  dsimp only [List.set]
  exact lp_X0_chooseRow C e1 hn hrows (n + 1) 0 _ _ _ _ _ rfl nI_0.symm (by omega) (by omega) (fun h => absurd h (by omega)) (fun a b c0 h6 h9 => by simp only [up_app, h6, false_and, if_false]) (by simp only [up_app]; rfl) (by simp only [up_app]; rfl) (fun i hi => absurd hi (by omega))
theorem sumf_tot {P : Nat → Nat → Bool} {n : Nat} (h0 : 0 < n) (ht : tot P n < FARn) : sumf P n n = tot P n := by
  obtain ⟨_, _, h3, _, h5, _⟩ := row_spec h0 ht (n - 1) (by omega)
  rw [show n - 1 - (n - 1) = 0 by omega, VR_last h3, show n - 1 + 1 = n by omega] at h5
  exact h5
section
variable {p : Program} {l : Launch} {e : Env} {R : Room} {s : State} {m : MethodId} {args : Array Value} {below : List Frame} {meth : Method} {c : Code} {D : va_G} {ad : Nat → Nat → Nat} {cy : Nat → ClassId} {A : Nat → Prop} {sa : Nat → Nat} {cells slots : Nat} {σ : St}
set_option maxRecDepth 100000 in
set_option maxHeartbeats 4000000 in
theorem lp_X0_placeBest (C : Cx p l s m args meth c cX0_placeBest "FretSchool$Hand" 4 (some .boolean) D ad cy A sa) {p0 q0 n f0 : Nat} (hp0 : p0 < 8) (hq0 : q0 < 8) (hn : σ 11 p0 1 = nI n) (hn16 : n ≤ 16) (hf0 : σ 13 q0 2 = nI f0) (hf4 : 4 ≤ f0) (hf16 : f0 ≤ 16) : ∀ (j : Nat) (σ' : St) (x3 : Int32), x3 + 1 = nI j → j ≤ n → (∀ a b c0, a ≠ 7 → a ≠ 10 → σ' a b c0 = σ a b c0) → (∀ i, i < n → ∀ h, 1 ≤ h → h ≤ 13 → (σ' 7 0 i &&& (1 <<< (nI h &&& 31)) = 0 ↔ ¬ Pf σ p0 q0 f0 i h = true)) → (∀ i, j ≤ i → i < n → ∀ g, 1 ≤ g → g ≤ 13 → σ' 10 i g = nI (VR (Pf σ p0 q0 f0) (n - 1 - i) i g)) → Z p l e (rmD 4 0) s m args below meth c D ad cy A 4 0 0 (MQ below (va_Qi (fun r σ' => (∀ a b c0, a ≠ 6 → a ≠ 7 → a ≠ 9 → a ≠ 10 → σ' a b c0 = σ a b c0) ∧ ((r = 1 ∧ 0 < n ∧ tot (Pf σ p0 q0 f0) n < FARn ∧ σ' 6 0 3 = nI (tot (Pf σ p0 q0 f0) n) ∧ σ' 6 0 4 = nI (grt (Pf σ p0 q0 f0) n n) ∧ ∀ i, i < n → σ' 9 0 i = nI (rowf (Pf σ p0 q0 f0) n i)) ∨ (r = 0 ∧ (n = 0 ∨ tot (Pf σ p0 q0 f0) n = FARn)))) (Bw D ad cy) A) args s 0 0 A) σ' [some (.ref (ad 6 0)), some (.ref (ad 11 p0)), some (.ref (ad 13 q0)), some (.int x3)] 13 [] := by
  intro j
  induction j with
  | zero =>
    intro σ' x3 e3 hj hfr hbits hrows
    have hn' : σ' 11 p0 1 = nI n := by rw [hfr 11 p0 1 (by omega) (by omega)]; exact hn
    have hx : x3 < 0 := by
      have h1 : x3 = -1 := by
        have h2 : x3 + 1 - 1 = nI 0 - 1 := by rw [e3]
        rw [Int32.add_sub_cancel] at h2
        rw [h2]
        decide
      rw [h1]
      decide
    refine z_iload_n C dX0_placeBest_13 rfl ?_
    refine z_if_lt C 43 dX0_placeBest_14 (by decide) (fun c_14 => ?_) (fun c_14 => ?_)
    rotate_left
    · exact absurd hx c_14
    refine z_aload_n C dX0_placeBest_43 rfl ?_
    refine g_11_1 hp0 C wd46 dX0_placeBest_44 ?_
    refine z_if_le C 65 dX0_placeBest_47 (by decide) (fun c_47 => ?_) (fun c_47 => ?_)
    · have hn0 : n = 0 := by rw [hn', show (0 : Int32) = nI 0 from rfl, nI_leI (by omega) (by omega)] at c_47; omega
      refine z_iconst C (v := 0) dX0_placeBest_65 (by decide) ?_
      refine z_zret C dX0_placeBest_66 (by first | exact Or.inl rfl | exact Or.inr rfl | assumption) ?_
      exact ⟨fun a b c0 _ h7 _ h10 => hfr a b c0 h7 h10, Or.inr ⟨rfl, Or.inl hn0⟩⟩
    · have hn0 : 0 < n := by rw [hn', show (0 : Int32) = nI 0 from rfl, nI_leI (by omega) (by omega)] at c_47; omega
      refine z_aload_n C dX0_placeBest_50 rfl ?_
      refine z_aload_n C dX0_placeBest_51 rfl ?_
      refine g_11_1 hp0 C wd46 dX0_placeBest_52 ?_
      refine z_cvi C (As := [_]) (c_X0_chooseRow (n := n) (P := (Pf σ p0 q0 f0)) hn' hn16 (fun i hi g h1 h2 => hrows i (by omega) hi g h1 h2)) okX0_chooseRow wd327 rc_6 (rok (by decide) (by decide)) ⟨Nat.le_of_ble_eq_true rfl, Nat.le_of_ble_eq_true rfl⟩ rfl (Nat.le_of_ble_eq_true rfl) dX0_placeBest_55 ?_
      rintro r55 σ2 ⟨hf2, hp55⟩
      refine z_if_eq C 65 dX0_placeBest_58 (by decide) (fun c_58 => ?_) (fun c_58 => ?_)
      · obtain ⟨ht, hz⟩ : tot (Pf σ p0 q0 f0) n = FARn ∧ True := by
          rcases hp55 with ⟨h1, _⟩ | ⟨_, _, h3⟩
          · rw [h1] at c_58; exact absurd c_58 (by decide)
          · exact ⟨h3, trivial⟩
        refine z_iconst C (v := 0) dX0_placeBest_65 (by decide) ?_
        refine z_zret C dX0_placeBest_66 (by first | exact Or.inl rfl | exact Or.inr rfl | assumption) ?_
        exact ⟨fun a b c0 h6 h7 h9 h10 => by rw [hf2 a b c0 h6 h9]; exact hfr a b c0 h7 h10, Or.inr ⟨rfl, Or.inr ht⟩⟩
      · obtain ⟨ht, hs3, hs4, hs9⟩ : tot (Pf σ p0 q0 f0) n < FARn ∧ σ2 6 0 3 = nI (sumf (Pf σ p0 q0 f0) n n) ∧ σ2 6 0 4 = nI (grt (Pf σ p0 q0 f0) n n) ∧ ∀ i, i < n → σ2 9 0 i = nI (rowf (Pf σ p0 q0 f0) n i) := by
          rcases hp55 with ⟨_, h2, h3, h4, h5⟩ | ⟨h1, _, _⟩
          · exact ⟨h2 hn0, h3, h4, h5⟩
          · exact absurd h1 c_58
        refine z_iconst C (v := 1) dX0_placeBest_61 (by decide) ?_
        refine z_goto C 66 dX0_placeBest_62 (by decide) ?_
        refine z_zret C dX0_placeBest_66 (by first | exact Or.inl rfl | exact Or.inr rfl | assumption) ?_
        exact ⟨fun a b c0 h6 h7 h9 h10 => by rw [hf2 a b c0 h6 h9]; exact hfr a b c0 h7 h10, Or.inl ⟨rfl, hn0, ht, by rw [hs3, sumf_tot hn0 ht], hs4, hs9⟩⟩
  | succ j ih =>
    intro σ' x3 e3 hj hfr hbits hrows
    have hn' : σ' 11 p0 1 = nI n := by rw [hfr 11 p0 1 (by omega) (by omega)]; exact hn
    have e3 : x3 = nI j := by
      have h2 : x3 + 1 - 1 = nI (j + 1) - 1 := by rw [e3]
      rw [Int32.add_sub_cancel, nI_pred] at h2
      exact h2
    refine z_iload_n C dX0_placeBest_13 rfl ?_
    refine z_if_lt C 43 dX0_placeBest_14 (by decide) (fun c_14 => ?_) (fun c_14 => ?_)
    · exact absurd c_14 (by rw [e3]; exact nI_pos (by omega))
    refine z_aload_n C dX0_placeBest_17 rfl ?_
    refine z_iload_n C dX0_placeBest_18 rfl ?_
    refine z_iload_n C dX0_placeBest_19 rfl ?_
    refine z_aload_n C dX0_placeBest_20 rfl ?_
    refine g_11_1 hp0 C wd46 dX0_placeBest_21 ?_
    refine z_iconst C (v := 1) dX0_placeBest_24 (by decide) ?_
    refine z_isub C dX0_placeBest_25 ?_
    refine z_icmp_ne C 33 dX0_placeBest_26 (by decide) (fun c_26 => ?_) (fun c_26 => ?_)
    · have hjn : ¬ j = n - 1 := by rw [e3, hn', show nI n - 1 = nI (n - 1) by rw [show (1 : Int32) = nI 1 from rfl, pk_sub (by omega)], nI_eq (by omega) (by omega)] at c_26; exact c_26
      refine z_iconst C (v := 0) dX0_placeBest_33 (by decide) ?_
      refine z_cvv C (As := [_, _]) (c_X0_measureRest (i := j) (k := n - 1 - j) (P := (Pf σ p0 q0 f0)) e3 (by omega) (fun h h1 h2 => hbits j (by omega) h h1 h2) (Or.inr ⟨rfl, by omega, n - 1 - (j + 1), by omega, fun g h1 h2 => hrows (j + 1) (by omega) (by omega) g h1 h2⟩)) okX0_measureRest wd309 rc_6 (rok (by decide) (by decide)) ⟨Nat.le_of_ble_eq_true rfl, Nat.le_of_ble_eq_true rfl⟩ rfl (Nat.le_of_ble_eq_true rfl) dX0_placeBest_34 ?_
      rintro σ2 ⟨hr2, hf2⟩
      refine z_iinc C (v := (-1)) dX0_placeBest_37 rfl (by decide) (by decide) ?_
      dsimp only [List.set]
      refine z_goto C 13 dX0_placeBest_40 (by decide) ?_
      exact ih _ _ (by rw [e3, show nI j + (-1) + 1 = nI j by rw [Int32.add_assoc]; exact Int32.add_zero _]) (by omega) (fun a b c0 h7 h10 => by rw [hf2 a b c0 (fun q => h10 q.1)]; exact hfr a b c0 h7 h10) (fun i hi h h1 h2 => by rw [hf2 7 0 i (by omega)]; exact hbits i hi h h1 h2) (fun i h1 h2 g g1 g2 => (Nat.eq_or_lt_of_le h1).elim (fun q => by subst q; exact hr2 g g1 g2) (fun q => by rw [hf2 10 i g (by omega)]; exact hrows i q h2 g g1 g2))
    · have hjn : j = n - 1 := by rw [e3, hn', show nI n - 1 = nI (n - 1) by rw [show (1 : Int32) = nI 1 from rfl, pk_sub (by omega)], nI_eq (by omega) (by omega)] at c_26; exact c_26
      refine z_iconst C (v := 1) dX0_placeBest_29 (by decide) ?_
      refine z_goto C 34 dX0_placeBest_30 (by decide) ?_
      refine z_cvv C (As := [_, _]) (c_X0_measureRest (i := j) (k := n - 1 - j) (P := (Pf σ p0 q0 f0)) e3 (by omega) (fun h h1 h2 => hbits j (by omega) h h1 h2) (Or.inl ⟨by omega, rfl⟩)) okX0_measureRest wd309 rc_6 (rok (by decide) (by decide)) ⟨Nat.le_of_ble_eq_true rfl, Nat.le_of_ble_eq_true rfl⟩ rfl (Nat.le_of_ble_eq_true rfl) dX0_placeBest_34 ?_
      rintro σ2 ⟨hr2, hf2⟩
      refine z_iinc C (v := (-1)) dX0_placeBest_37 rfl (by decide) (by decide) ?_
      dsimp only [List.set]
      refine z_goto C 13 dX0_placeBest_40 (by decide) ?_
      exact ih _ _ (by rw [e3, show nI j + (-1) + 1 = nI j by rw [Int32.add_assoc]; exact Int32.add_zero _]) (by omega) (fun a b c0 h7 h10 => by rw [hf2 a b c0 (fun q => h10 q.1)]; exact hfr a b c0 h7 h10) (fun i hi h h1 h2 => by rw [hf2 7 0 i (by omega)]; exact hbits i hi h h1 h2) (fun i h1 h2 g g1 g2 => (Nat.eq_or_lt_of_le h1).elim (fun q => by subst q; exact hr2 g g1 g2) (fun q => by rw [hf2 10 i g (by omega)]; exact hrows i q h2 g g1 g2))
end
set_option maxRecDepth 100000 in
set_option maxHeartbeats 4000000 in
theorem c_X0_placeBest {l : Launch} {D : va_G} {ad : Nat → Nat → Nat} {cy : Nat → ClassId} {A : Nat → Prop} {sa : Nat → Nat} {σ : St} {p0 q0 n f0 : Nat} (hp0 : p0 < 8) (hq0 : q0 < 8) (hn : σ 11 p0 1 = nI n) (hn16 : n ≤ 16) (hf0 : σ 13 q0 2 = nI f0) (hf4 : 4 ≤ f0) (hf16 : f0 ≤ 16) : MI l D ad cy A sa yX0_placeBest cX0_placeBest 4 (some .boolean) 4 σ [.ref (ad 6 0), .ref (ad 11 p0), .ref (ad 13 q0)] (fun r σ' => (∀ a b c0, a ≠ 6 → a ≠ 7 → a ≠ 9 → a ≠ 10 → σ' a b c0 = σ a b c0) ∧ ((r = 1 ∧ 0 < n ∧ tot (Pf σ p0 q0 f0) n < FARn ∧ σ' 6 0 3 = nI (tot (Pf σ p0 q0 f0) n) ∧ σ' 6 0 4 = nI (grt (Pf σ p0 q0 f0) n n) ∧ ∀ i, i < n → σ' 9 0 i = nI (rowf (Pf σ p0 q0 f0) n i)) ∨ (r = 0 ∧ (n = 0 ∨ tot (Pf σ p0 q0 f0) n = FARn)))) := by
  refine MI.mk "FretSchool$Hand" (by decide) rfl (Nat.le_of_ble_eq_true rfl) rfl ?_
  intro p e s m args below meth c C
  change Z _ _ _ _ _ _ _ _ _ _ _ _ _ _ _ _ _ _ _ [some (.ref (ad 6 0)), some (.ref (ad 11 p0)), some (.ref (ad 13 q0)), none] 0 []
  refine z_aload_n C dX0_placeBest_0 rfl ?_
  refine z_aload_n C dX0_placeBest_1 rfl ?_
  refine z_aload_n C dX0_placeBest_2 rfl ?_
  refine z_cvv C (As := [_, _]) (c_X0_feelReach hp0 hq0 hn hn16 hf0 hf4 hf16) okX0_feelReach wd297 rc_6 (rok (by decide) (by decide)) ⟨Nat.le_of_ble_eq_true rfl, Nat.le_of_ble_eq_true rfl⟩ rfl (Nat.le_of_ble_eq_true rfl) dX0_placeBest_3 ?_
  rintro σ1 ⟨hf1, hb1⟩
  have hn1 : σ1 11 p0 1 = nI n := by rw [hf1 11 p0 1 (by omega)]; exact hn
  refine z_aload_n C dX0_placeBest_6 rfl ?_
  refine g_11_1 hp0 C wd46 dX0_placeBest_7 ?_
  refine z_iconst C (v := 1) dX0_placeBest_10 (by decide) ?_
  refine z_isub C dX0_placeBest_11 ?_
  refine z_istore_n C dX0_placeBest_12 (by decide) ?_
  dsimp only [List.set]
  exact lp_X0_placeBest C hp0 hq0 hn hn16 hf0 hf4 hf16 n σ1 _ (by rw [hn1, Int32.sub_add_cancel]) (by omega) (fun a b c0 h7 _ => hf1 a b c0 h7) hb1 (fun i h1 h2 => absurd h2 (by omega))
end
section
/-! ===== all fingerings ===== -/
theorem LF_succ {P : Nat → Nat → Bool} {k i b : Nat} : LF P (k + 1) i b = mn (fun g => if P i g = true then sh b g + LF P k (i + 1) g else FARn) 13 := rfl
theorem LF_le (P : Nat → Nat → Bool) (k i b : Nat) : LF P k i b ≤ FARn := by
  cases k with
  | zero => show 0 ≤ FARn; exact Nat.zero_le _
  | succ k => exact mn_le _ _
section
variable {p : Program} {l : Launch} {e : Env} {R : Room} {s : State} {m : MethodId} {args : Array Value} {below : List Frame} {meth : Method} {c : Code} {D : va_G} {ad : Nat → Nat → Nat} {cy : Nat → ClassId} {A : Nat → Prop} {sa : Nat → Nat} {cells slots : Nat} {σ : St}
set_option maxRecDepth 100000 in
set_option maxHeartbeats 4000000 in
theorem lp_X0_leastFrom (C : Cx p l s m args meth c cX0_leastFrom "FretSchool$Hand" 7 (some .int) D ad cy A sa) {n i b k : Nat} {x1 x2 x3 : Int32} {P : Nat → Nat → Bool} (e1 : x1 = nI n) (e2 : x2 = nI i) (e3 : x3 = nI b) (hn : n ≤ 4) (hb : b < 14) (hk : n = i + (k + 1)) (hR : ∀ i, i < n → ∀ h, 1 ≤ h → h ≤ 13 → (σ 7 0 i &&& (1 <<< (nI h &&& 31)) = 0 ↔ ¬ P i h = true)) {F : Nat → Nat} {M : Nat} (hF0 : ∀ g, F g = if P i g = true then sh b g + LF P k (i + 1) g else FARn) (hM : M = mn F 13) (rec : ∀ (g : Nat) (y : Int32), y = nI g → g < 14 → MI l D ad cy A sa yX0_leastFrom cX0_leastFrom 7 (some .int) (2 + k) σ [.ref (ad 7 0), .int x1, .int (x2 + 1), .int y] (fun r σ' => r = nI (LF P k (i + 1) g) ∧ σ = σ')) : ∀ (f j : Nat) (x4 x5 : Int32) (o6 : Option Value), x5 = nI (j + 1) → x4 = nI (mn F j) → j ≤ 13 → 13 < j + f → Z p l e (rmD (2 + (k + 1)) 0) s m args below meth c D ad cy A 7 0 0 (MQ below (va_Qi (fun r σ' => r = nI M ∧ σ = σ') (Bw D ad cy) A) args s 0 0 A) σ [some (.ref (ad 7 0)), some (.int x1), some (.int x2), some (.int x3), some (.int x4), some (.int x5), o6] 19 [] := by
  intro f
  induction f with
  | zero => intro j x4 x5 o6 _ _ _ h; exact absurd h (by omega)
  | succ f ih =>
    intro j x4 x5 o6 e5 e4 hj hf
    refine z_iload C dX0_leastFrom_19 rfl ?_
    refine z_bipush C (v := 13) dX0_leastFrom_21 (by decide) ?_
    refine z_icmp_gt C 78 dX0_leastFrom_23 (by decide) (fun c_23 => ?_) (fun c_23 => ?_)
    · have hj13 : j = 13 := by rw [e5, show (13 : Int32) = nI 13 from rfl, nI_ltI (by omega) (by omega)] at c_23; omega
      refine z_iload C dX0_leastFrom_78 rfl ?_
      refine z_iret C dX0_leastFrom_80 ?_
      refine ⟨?_, rfl⟩
      rw [e4, hj13, ← hM]
    · have hj13 : j < 13 := by rw [e5, show (13 : Int32) = nI 13 from rfl, nI_ltI (by omega) (by omega)] at c_23; omega
      have hRj : (σ 7 0 i &&& (1 <<< (x5 &&& 31)) = 0 ↔ ¬ P i (j + 1) = true) := by rw [e5]; exact hR i (by omega) (j + 1) (by omega) (by omega)
      have hm := mn_le F j
      have hFAR : FARn = 1000000 := rfl
      refine z_aload_n C dX0_leastFrom_26 rfl ?_
      refine z_iload_n C dX0_leastFrom_27 rfl ?_
      refine a_7 C e2 (by omega) dX0_leastFrom_28 ?_
      refine z_iload C dX0_leastFrom_29 rfl ?_
      refine z_csi C (As := [_, _]) (c_X0_canReach) okX0_canReach wd324 (rok (by omega) (by decide)) ⟨Nat.le_of_ble_eq_true rfl, Nat.le_of_ble_eq_true rfl⟩ rfl (Nat.le_of_ble_eq_true rfl) dX0_leastFrom_31 ?_
      rintro r31 _ ⟨e31, rfl⟩
      refine z_if_eq C 72 dX0_leastFrom_34 (by decide) (fun c_34 => ?_) (fun c_34 => ?_)
      · have hp : ¬ P i (j + 1) = true := by
          apply hRj.mp
          apply Classical.byContradiction
          intro q
          rw [e31, if_neg q] at c_34
          exact absurd c_34 (by decide)
        have hF : F (j + 1) = FARn := by rw [hF0, if_neg hp]
        refine z_iinc C (v := 1) dX0_leastFrom_72 rfl (by decide) (by decide) ?_
        dsimp only [List.set]
        refine z_goto C 19 dX0_leastFrom_75 (by decide) ?_
        exact ih (j + 1) _ _ _ (by rw [e5]; exact nI_1 (j + 1)) (by rw [e4, (am_no (F := F) (n := j) (by rw [hF]; exact hm)).2]) (by omega) (by omega)
      · have hp : P i (j + 1) = true := by
          apply Classical.byContradiction
          intro q
          rw [e31, if_pos (hRj.mpr q)] at c_34
          exact c_34 rfl
        have hF : F (j + 1) = sh b (j + 1) + LF P k (i + 1) (j + 1) := by rw [hF0, if_pos hp]
        refine z_iload_n C dX0_leastFrom_37 rfl ?_
        refine z_iload C dX0_leastFrom_38 rfl ?_
        refine z_csi C (As := [_, _]) (c_X0_shift e3 e5 (by omega) (by omega)) okX0_shift wd318 (rok (by omega) (by decide)) ⟨Nat.le_of_ble_eq_true rfl, Nat.le_of_ble_eq_true rfl⟩ rfl (Nat.le_of_ble_eq_true rfl) dX0_leastFrom_40 ?_
        rintro r40 _ ⟨e40, rfl⟩
        refine z_aload_n C dX0_leastFrom_43 rfl ?_
        refine z_iload_n C dX0_leastFrom_44 rfl ?_
        refine z_iload_n C dX0_leastFrom_45 rfl ?_
        refine z_iconst C (v := 1) dX0_leastFrom_46 (by decide) ?_
        refine z_iadd C dX0_leastFrom_47 ?_
        refine z_iload C dX0_leastFrom_48 rfl ?_
        refine z_csi C (As := [_, _, _, _]) (rec (j + 1) _ e5 (by omega)) okX0_leastFrom wd440 (rok (by omega) (by decide)) ⟨Nat.le_of_ble_eq_true rfl, Nat.le_of_ble_eq_true rfl⟩ rfl (Nat.le_of_ble_eq_true rfl) dX0_leastFrom_50 ?_
        rintro r50 _ ⟨e50, rfl⟩
        refine z_iadd C dX0_leastFrom_53 ?_
        refine z_istore C dX0_leastFrom_54 (by decide) ?_
        dsimp only [List.set]
        refine z_iload C dX0_leastFrom_56 rfl ?_
        refine z_iload C dX0_leastFrom_58 rfl ?_
        refine z_icmp_ge C 68 dX0_leastFrom_60 (by decide) (fun c_60 => ?_) (fun c_60 => ?_)
        · have hlt : mn F j ≤ F (j + 1) := by
            rw [hF]
            have hs := sh_le (b := b) (h := j + 1) (by omega) (by omega)
            have hl := LF_le P k (i + 1) (j + 1)
            rw [e40, e50, nI_add, e4, nI_leI (by omega) (by omega)] at c_60
            exact c_60
          refine z_iload C dX0_leastFrom_68 rfl ?_
          refine z_istore C dX0_leastFrom_70 (by decide) ?_
          dsimp only [List.set]
          refine z_iinc C (v := 1) dX0_leastFrom_72 rfl (by decide) (by decide) ?_
          dsimp only [List.set]
          refine z_goto C 19 dX0_leastFrom_75 (by decide) ?_
          exact ih (j + 1) _ _ _ (by rw [e5]; exact nI_1 (j + 1)) (by rw [e4, (am_no hlt).2]) (by omega) (by omega)
        · have hlt : F (j + 1) < mn F j := by
            rw [hF]
            have hs := sh_le (b := b) (h := j + 1) (by omega) (by omega)
            have hl := LF_le P k (i + 1) (j + 1)
            rw [e40, e50, nI_add, e4, nI_leI (by omega) (by omega)] at c_60
            omega
          refine z_iload C dX0_leastFrom_63 rfl ?_
          refine z_goto C 70 dX0_leastFrom_65 (by decide) ?_
          refine z_istore C dX0_leastFrom_70 (by decide) ?_
          dsimp only [List.set]
          refine z_iinc C (v := 1) dX0_leastFrom_72 rfl (by decide) (by decide) ?_
          dsimp only [List.set]
          refine z_goto C 19 dX0_leastFrom_75 (by decide) ?_
          exact ih (j + 1) _ _ _ (by rw [e5]; exact nI_1 (j + 1)) (by rw [(am_yes hlt).2, hF, e40, e50, nI_add]) (by omega) (by omega)
end
set_option maxRecDepth 100000 in
set_option maxHeartbeats 4000000 in
theorem c_X0_leastFrom {l : Launch} {D : va_G} {ad : Nat → Nat → Nat} {cy : Nat → ClassId} {A : Nat → Prop} {sa : Nat → Nat} {σ : St} {n : Nat} {P : Nat → Nat → Bool} (hn : n ≤ 4) (hR : ∀ i, i < n → ∀ h, 1 ≤ h → h ≤ 13 → (σ 7 0 i &&& (1 <<< (nI h &&& 31)) = 0 ↔ ¬ P i h = true)) {x1 : Int32} (e1 : x1 = nI n) : ∀ (k : Nat) {i b : Nat} {x2 x3 : Int32}, x1 = x1 → x2 = nI i → x3 = nI b → b < 14 → n = i + k → MI l D ad cy A sa yX0_leastFrom cX0_leastFrom 7 (some .int) (2 + k) σ [.ref (ad 7 0), .int x1, .int x2, .int x3] (fun r σ' => r = nI (LF P k i b) ∧ σ = σ') := by
  intro k
  induction k with
  | zero =>
    intro i b x2 x3 _ e2 e3 hb hk
    refine MI.mk "FretSchool$Hand" (by decide) rfl (Nat.le_of_ble_eq_true rfl) rfl ?_
    intro p e s m args below meth c C
    change Z _ _ _ _ _ _ _ _ _ _ _ _ _ _ _ _ _ _ _ [some (.ref (ad 7 0)), some (.int x1), some (.int x2), some (.int x3), none, none, none] 0 []
    refine z_iload_n C dX0_leastFrom_0 rfl ?_
    refine z_iload_n C dX0_leastFrom_1 rfl ?_
    refine z_icmp_ge C 10 dX0_leastFrom_2 (by decide) (fun c_2 => ?_) (fun c_2 => ?_)
    rotate_left
    · exact absurd (by rw [e1, e2, nI_leI (by omega) (by omega)]; omega) c_2
    refine z_iconst C (v := 0) dX0_leastFrom_10 (by decide) ?_
    refine z_iret C dX0_leastFrom_11 ?_
    exact ⟨rfl, rfl⟩
  | succ k ih =>
    intro i b x2 x3 _ e2 e3 hb hk
    refine MI.mk "FretSchool$Hand" (by decide) rfl (Nat.le_of_ble_eq_true rfl) rfl ?_
    intro p e s m args below meth c C
    change Z _ _ _ _ _ _ _ _ _ _ _ _ _ _ _ _ _ _ _ [some (.ref (ad 7 0)), some (.int x1), some (.int x2), some (.int x3), none, none, none] 0 []
    refine z_iload_n C dX0_leastFrom_0 rfl ?_
    refine z_iload_n C dX0_leastFrom_1 rfl ?_
    refine z_icmp_ge C 10 dX0_leastFrom_2 (by decide) (fun c_2 => ?_) (fun c_2 => ?_)
    · rw [e1, e2, nI_leI (by omega) (by omega)] at c_2; omega
    refine z_iload_n C dX0_leastFrom_5 rfl ?_
    refine z_iconst C (v := 4) dX0_leastFrom_6 (by decide) ?_
    refine z_icmp_lt C 12 dX0_leastFrom_7 (by decide) (fun c_7 => ?_) (fun c_7 => ?_)
    rotate_left
    · exact absurd (by rw [e2]; exact nI_lt (b := 4) (by omega) (by decide)) c_7
    refine z_ldc C (v := 1000000) wd317 dX0_leastFrom_12 ?_
    refine z_istore C dX0_leastFrom_14 (by decide) ?_
    dsimp only [List.set]
    refine z_iconst C (v := 1) dX0_leastFrom_16 (by decide) ?_
    refine z_istore C dX0_leastFrom_17 (by decide) ?_
    dsimp only [List.set]
    exact lp_X0_leastFrom C e1 e2 e3 hn hb hk hR (F := fun g => if P i g = true then sh b g + LF P k (i + 1) g else FARn) (M := LF P (k + 1) i b) (fun g => rfl) LF_succ (fun g y ey hg => ih rfl (by rw [e2]; exact nI_1 i) ey hg (by omega)) 14 0 _ _ _ rfl rfl (by omega) (by omega)
theorem tot_le (P : Nat → Nat → Bool) (n : Nat) : tot P n ≤ FARn := mn_le _ _
theorem LF_tot {P : Nat → Nat → Bool} {n : Nat} (h : 0 < n) : LF P n 0 0 = tot P n := by
  cases n with
  | zero => omega
  | succ n => exact LF_VR P n 0 0
set_option maxRecDepth 100000 in
set_option maxHeartbeats 4000000 in
theorem c_X0_leastByAll {l : Launch} {D : va_G} {ad : Nat → Nat → Nat} {cy : Nat → ClassId} {A : Nat → Prop} {sa : Nat → Nat} {σ : St} {p0 q0 n f0 : Nat} (hp0 : p0 < 8) (hq0 : q0 < 8) (hn : σ 11 p0 1 = nI n) (hn16 : n ≤ 16) (hf0 : σ 13 q0 2 = nI f0) (hf4 : 4 ≤ f0) (hf16 : f0 ≤ 16) (hn4 : n ≤ 4) : MI l D ad cy A sa yX0_leastByAll cX0_leastByAll 4 (some .int) 7 σ [.ref (ad 6 0), .ref (ad 11 p0), .ref (ad 13 q0)] (fun r σ' => (∀ a b c0, a ≠ 7 → σ' a b c0 = σ a b c0) ∧ r = (if n = 0 ∨ tot (Pf σ p0 q0 f0) n = FARn then -1 else nI (tot (Pf σ p0 q0 f0) n))) := by
  refine MI.mk "FretSchool$Hand" (by decide) rfl (Nat.le_of_ble_eq_true rfl) rfl ?_
  intro p e s m args below meth c C
  change Z _ _ _ _ _ _ _ _ _ _ _ _ _ _ _ _ _ _ _ [some (.ref (ad 6 0)), some (.ref (ad 11 p0)), some (.ref (ad 13 q0)), none] 0 []
  have hTl : tot (Pf σ p0 q0 f0) n ≤ FARn := tot_le _ _
  obtain ⟨T, hT0⟩ : ∃ T, T = tot (Pf σ p0 q0 f0) n := ⟨_, rfl⟩
  rw [← hT0] at hTl ⊢
  have hFAR : FARn = 1000000 := rfl
  refine z_aload_n C dX0_leastByAll_0 rfl ?_
  refine g_11_1 hp0 C wd46 dX0_leastByAll_1 ?_
  refine z_if_ne C 9 dX0_leastByAll_4 (by decide) (fun c_4 => ?_) (fun c_4 => ?_)
  · have hn0 : n ≠ 0 := by rw [hn, nI_ne0' (by omega)] at c_4; exact c_4
    refine z_aload_n C dX0_leastByAll_9 rfl ?_
    refine z_aload_n C dX0_leastByAll_10 rfl ?_
    refine z_aload_n C dX0_leastByAll_11 rfl ?_
    refine z_cvv C (As := [_, _]) (c_X0_feelReach hp0 hq0 hn hn16 hf0 hf4 hf16) okX0_feelReach wd297 rc_6 (rok (by omega) (by decide)) ⟨Nat.le_of_ble_eq_true rfl, Nat.le_of_ble_eq_true rfl⟩ rfl (Nat.le_of_ble_eq_true rfl) dX0_leastByAll_12 ?_
    rintro σ1 ⟨hf1, hb1⟩
    have hn1 : σ1 11 p0 1 = nI n := by rw [hf1 11 p0 1 (by omega)]; exact hn
    refine z_aload_n C dX0_leastByAll_15 rfl ?_
    refine g_6_0 C wd121 dX0_leastByAll_16 ?_
    refine z_aload_n C dX0_leastByAll_19 rfl ?_
    refine g_11_1 hp0 C wd46 dX0_leastByAll_20 ?_
    refine z_iconst C (v := 0) dX0_leastByAll_23 (by decide) ?_
    refine z_iconst C (v := 0) dX0_leastByAll_24 (by decide) ?_
    refine z_csi C (As := [_, _, _, _]) (c_X0_leastFrom (n := n) (P := (Pf σ p0 q0 f0)) hn4 hb1 hn1 n rfl nI_0.symm nI_0.symm (by omega) (by omega)) okX0_leastFrom wd440 (rok (by omega) (by decide)) ⟨Nat.le_of_ble_eq_true rfl, Nat.le_of_ble_eq_true rfl⟩ rfl (Nat.le_of_ble_eq_true rfl) dX0_leastByAll_25 ?_
    rintro r25 _ ⟨e25, rfl⟩
    rw [LF_tot (by omega), ← hT0] at e25
    refine z_istore_n C dX0_leastByAll_28 (by decide) ?_
    dsimp only [List.set]
    refine z_iload_n C dX0_leastByAll_29 rfl ?_
    refine z_ldc C (v := 1000000) wd317 dX0_leastByAll_30 ?_
    refine z_icmp_ge C 39 dX0_leastByAll_32 (by decide) (fun c_32 => ?_) (fun c_32 => ?_)
    · have hT : ¬ T < FARn := by rw [e25, nI_FAR, nI_leI (by omega) (by omega)] at c_32; omega
      refine z_iconst C (v := (-1)) dX0_leastByAll_39 (by decide) ?_
      refine z_iret C dX0_leastByAll_40 ?_
      exact ⟨hf1, by rw [if_pos (Or.inr (by omega))]⟩
    · have hT : T < FARn := by rw [e25, nI_FAR, nI_leI (by omega) (by omega)] at c_32; omega
      refine z_iload_n C dX0_leastByAll_35 rfl ?_
      refine z_goto C 40 dX0_leastByAll_36 (by decide) ?_
      refine z_iret C dX0_leastByAll_40 ?_
      exact ⟨hf1, by rw [if_neg (by omega), e25]⟩
  · have hn0 : n = 0 := by rw [hn, nI_ne0' (by omega)] at c_4; exact c_4
    refine z_iconst C (v := (-1)) dX0_leastByAll_7 (by decide) ?_
    refine z_iret C dX0_leastByAll_8 ?_
    exact ⟨fun _ _ _ _ => rfl, by rw [if_pos (Or.inl hn0)]⟩
end
section
/-! ===== the class FretSchool ===== -/
def bad (p n : Int32) : Prop := p < 0 ∨ ¬ p < n
def outR (x lo hi : Int32) : Prop := x < lo ∨ ¬ x ≤ hi
def ix (p : Int32) : Nat := p.toNatClampNeg
/-- the exception of a code -/
def pxK (L : List String) (K : Nat) (E : String) : Prop := K ≠ 0 ∧ L[K - 1]? = some E
abbrev cN (σ : St) (i : Nat) : Nat := (σ 11 i 1).toNatClampNeg
abbrev fN (σ : St) (q : Nat) : Nat := (σ 13 q 2).toNatClampNeg
/-- what stands of the class's numbers -/
def Inv (σ : St) : Prop := (∃ n, n ≤ 8 ∧ σ 0 0 6 = nI n) ∧ (∃ n, n ≤ 8 ∧ σ 0 0 7 = nI n) ∧ (∃ n, n ≤ 20 ∧ σ 0 0 8 = nI n) ∧ (∀ i, i < 8 → σ 11 i 1 = nI (cN σ i) ∧ cN σ i ≤ 16) ∧ (∀ i, i < 8 → nI i < σ 0 0 7 → σ 13 i 2 = nI (fN σ i) ∧ 4 ≤ fN σ i ∧ fN σ i ≤ 16) ∧ (∀ i, i < 20 → nI i < σ 0 0 8 → ∃ f, σ 16 i 1 = nI f ∧ 4 ≤ f ∧ f ≤ 16) ∧ ∀ i, i < 20 → σ 16 i 3 = 0 ∨ σ 16 i 3 = 1
theorem nbad {p : Int32} {n N : Nat} (hn : n ≤ N) (hN : N < 2 ^ 31) (h : ¬ bad p (nI n)) : p = nI (ix p) ∧ ix p < n ∧ ix p < N := by
  unfold bad at h
  have h1 : ¬ p < 0 := fun q => h (Or.inl q)
  have h2 : p < nI n := Classical.byContradiction fun q => h (Or.inr q)
  obtain ⟨j, hj, rfl⟩ := nI_of h1
  have hj2 : j < n := by rwa [nI_ltI hj (by omega)] at h2
  have e : ix (nI j) = j := nI_clamp hj
  rw [e]
  exact ⟨rfl, hj2, by omega⟩
theorem nout {x : Int32} {n : Nat} (hn : n < 2 ^ 31) (h : ¬ outR x 0 (nI n)) : x = nI (ix x) ∧ ix x ≤ n := by
  unfold outR at h
  have h1 : ¬ x < 0 := fun q => h (Or.inl q)
  have h2 : x ≤ nI n := Classical.byContradiction fun q => h (Or.inr q)
  obtain ⟨j, hj, rfl⟩ := nI_of h1
  have hj2 : j ≤ n := by rwa [nI_leI hj hn] at h2
  have e : ix (nI j) = j := nI_clamp hj
  rw [e]
  exact ⟨rfl, hj2⟩
/-- the best fingering of piece j on instrument q -/
noncomputable abbrev PFs (σ : St) (j q : Nat) : Nat → Nat → Bool := Pf σ j q (fN σ q)
noncomputable abbrev BT (σ : St) (j q : Nat) : Nat := tot (PFs σ j q) (cN σ j)
abbrev PL (σ : St) (j q : Nat) : Prop := 0 < cN σ j ∧ BT σ j q < FARn
noncomputable abbrev HG (σ : St) (j q : Nat) : Nat := grt (PFs σ j q) (cN σ j) (cN σ j)
noncomputable abbrev RW (σ : St) (j q i : Nat) : Nat := rowf (PFs σ j q) (cN σ j) i
def SameC (σ σ' : St) : Prop := ∀ a b c0, a ≠ 6 → a ≠ 7 → a ≠ 9 → a ≠ 10 → σ' a b c0 = σ a b c0
theorem SameC.rf {σ : St} : SameC σ σ := fun _ _ _ _ _ _ _ => rfl
theorem SameC.trans {σ σ1 σ2 : St} (h1 : SameC σ σ1) (h2 : SameC σ1 σ2) : SameC σ σ2 := fun a b c0 x1 x2 x3 x4 => (h2 a b c0 x1 x2 x3 x4).trans (h1 a b c0 x1 x2 x3 x4)
theorem SameC.ecN {σ σ' : St} (h : SameC σ σ') (i : Nat) : cN σ' i = cN σ i := by show (σ' 11 i 1).toNatClampNeg = _; rw [h 11 i 1 (by decide) (by decide) (by decide) (by decide)]
theorem SameC.efN {σ σ' : St} (h : SameC σ σ') (i : Nat) : fN σ' i = fN σ i := by show (σ' 13 i 2).toNatClampNeg = _; rw [h 13 i 2 (by decide) (by decide) (by decide) (by decide)]
theorem SameC.PF {σ σ' : St} (h : SameC σ σ') (j q : Nat) : PFs σ' j q = PFs σ j q := by
  unfold PFs
  rw [h.efN]
  exact Pf_cong (fun i => h 12 j i (by decide) (by decide) (by decide) (by decide)) (fun i => h 14 q i (by decide) (by decide) (by decide) (by decide))
theorem SameC.inv {σ σ' : St} (h : SameC σ σ') (hI : Inv σ) : Inv σ' := by
  obtain ⟨h1, h2, h3, h4, h5, h6, h7⟩ := hI
  unfold Inv
  simp only [h.ecN, h.efN]
  have e : ∀ a b c0, a ≠ 6 → a ≠ 7 → a ≠ 9 → a ≠ 10 → σ' a b c0 = σ a b c0 := h
  rw [e 0 0 6 (by decide) (by decide) (by decide) (by decide), e 0 0 7 (by decide) (by decide) (by decide) (by decide), e 0 0 8 (by decide) (by decide) (by decide) (by decide)]
  refine ⟨h1, h2, h3, fun i hi => ?_, fun i hi hl => ?_, fun i hi hl => ?_, fun i hi => ?_⟩
  · rw [e 11 i 1 (by decide) (by decide) (by decide) (by decide)]; exact h4 i hi
  · rw [e 13 i 2 (by decide) (by decide) (by decide) (by decide)]; exact h5 i hi hl
  · rw [e 16 i 1 (by decide) (by decide) (by decide) (by decide)]; exact h6 i hi hl
  · rw [e 16 i 3 (by decide) (by decide) (by decide) (by decide)]; exact h7 i hi
theorem Inv.fr {σ : St} (hI : Inv σ) {q : Nat} (hq : q < 8) (hl : nI q < σ 0 0 7) : σ 13 q 2 = nI (fN σ q) ∧ 4 ≤ fN σ q ∧ fN σ q ≤ 16 := hI.2.2.2.2.1 q hq hl

set_option maxRecDepth 100000 in
set_option maxHeartbeats 4000000 in
theorem c_X5_needRange {l : Launch} {D : va_G} {ad : Nat → Nat → Nat} {cy : Nat → ClassId} {A : Nat → Prop} {sa : Nat → Nat} {σ : St} {v lo hi : Int32} : XV l D ad cy A sa yX5_needRange cX5_needRange 3 (none : Option Jvm.ClassFile.FieldType) 0 1 σ [.int v, .int lo, .int hi] (fun σ' => σ = σ' ∧ ¬ outR v lo hi) (fun E u => σ = u ∧ E = IAE ∧ outR v lo hi) := by
  refine XV.mk "FretSchool" (by decide) rfl (Nat.le_of_ble_eq_true rfl) rfl ?_
  intro p e s m args below meth c C hex
  change Z _ _ _ _ _ _ _ _ _ _ _ _ _ _ _ _ _ _ _ [some (.int v), some (.int lo), some (.int hi)] 0 []
  refine z_iload_n C dX5_needRange_0 rfl ?_
  refine z_iload_n C dX5_needRange_1 rfl ?_
  refine z_icmp_lt C 10 dX5_needRange_2 (by decide) (fun c_2 => ?_) (fun c_2 => ?_)
  · refine y_iae C hex (tx := "an argument is out of range") (List.mem_of_getElem? (i := 2) rfl) dX5_needRange_10 dX5_needRange_13 dX5_needRange_14 dX5_needRange_16 dX5_needRange_19 ⟨Nat.le_of_ble_eq_true rfl, Nat.le_of_ble_eq_true rfl⟩ (by decide) (by decide) ?_
    exact ⟨rfl, rfl, by first | exact Or.inl c_2 | exact Or.inr c_7⟩
  · refine z_iload_n C dX5_needRange_5 rfl ?_
    refine z_iload_n C dX5_needRange_6 rfl ?_
    refine z_icmp_le C 20 dX5_needRange_7 (by decide) (fun c_7 => ?_) (fun c_7 => ?_)
    · refine y_ret (by decide) (by decide) ?_
      refine z_vret C dX5_needRange_20 ?_
      exact ⟨rfl, fun h => h.elim c_2 (fun q => q c_7)⟩
    · refine y_iae C hex (tx := "an argument is out of range") (List.mem_of_getElem? (i := 2) rfl) dX5_needRange_10 dX5_needRange_13 dX5_needRange_14 dX5_needRange_16 dX5_needRange_19 ⟨Nat.le_of_ble_eq_true rfl, Nat.le_of_ble_eq_true rfl⟩ (by decide) (by decide) ?_
      exact ⟨rfl, rfl, by first | exact Or.inl c_2 | exact Or.inr c_7⟩
set_option maxRecDepth 100000 in
set_option maxHeartbeats 4000000 in
theorem c_X5_needPiece {l : Launch} {D : va_G} {ad : Nat → Nat → Nat} {cy : Nat → ClassId} {A : Nat → Prop} {sa : Nat → Nat} {σ : St} {v : Int32} : XV l D ad cy A sa yX5_needPiece cX5_needPiece 2 (none : Option Jvm.ClassFile.FieldType) 0 1 σ [.ref (ad 0 0), .int v] (fun σ' => σ = σ' ∧ ¬ bad v (σ 0 0 6)) (fun E u => σ = u ∧ E = IOOBE ∧ bad v (σ 0 0 6)) := by
  refine XV.mk "FretSchool" (by decide) rfl (Nat.le_of_ble_eq_true rfl) rfl ?_
  intro p e s m args below meth c C hex
  change Z _ _ _ _ _ _ _ _ _ _ _ _ _ _ _ _ _ _ _ [some (.ref (ad 0 0)), some (.int v)] 0 []
  refine z_iload_n C dX5_needPiece_0 rfl ?_
  refine z_if_lt C 12 dX5_needPiece_1 (by decide) (fun c_1 => ?_) (fun c_1 => ?_)
  · refine y_ioobe C hex (tx := "there is no such piece") (List.mem_of_getElem? (i := 1) rfl) dX5_needPiece_12 dX5_needPiece_15 dX5_needPiece_16 dX5_needPiece_18 dX5_needPiece_21 ⟨Nat.le_of_ble_eq_true rfl, Nat.le_of_ble_eq_true rfl⟩ (by decide) (by decide) ?_
    exact ⟨rfl, rfl, by first | exact Or.inl c_1 | exact Or.inr c_9⟩
  · refine z_iload_n C dX5_needPiece_4 rfl ?_
    refine z_aload_n C dX5_needPiece_5 rfl ?_
    refine g_0_6 C wd146 dX5_needPiece_6 ?_
    refine z_icmp_lt C 22 dX5_needPiece_9 (by decide) (fun c_9 => ?_) (fun c_9 => ?_)
    · refine y_ret (by decide) (by decide) ?_
      refine z_vret C dX5_needPiece_22 ?_
      exact ⟨rfl, fun h => h.elim c_1 (fun q => q c_9)⟩
    · refine y_ioobe C hex (tx := "there is no such piece") (List.mem_of_getElem? (i := 1) rfl) dX5_needPiece_12 dX5_needPiece_15 dX5_needPiece_16 dX5_needPiece_18 dX5_needPiece_21 ⟨Nat.le_of_ble_eq_true rfl, Nat.le_of_ble_eq_true rfl⟩ (by decide) (by decide) ?_
      exact ⟨rfl, rfl, by first | exact Or.inl c_1 | exact Or.inr c_9⟩
set_option maxRecDepth 100000 in
set_option maxHeartbeats 4000000 in
theorem k_X5_needPiece {l : Launch} {D : va_G} {ad : Nat → Nat → Nat} {cy : Nat → ClassId} {A : Nat → Prop} {sa : Nat → Nat} {σ : St} {v : Int32} (hv : ¬ bad v (σ 0 0 6)) : MV l D ad cy A sa yX5_needPiece cX5_needPiece 2 (none : Option Jvm.ClassFile.FieldType) 0 σ [.ref (ad 0 0), .int v] (fun σ' => σ = σ') := by
  refine MV.mk "FretSchool" (by decide) rfl (Nat.le_of_ble_eq_true rfl) rfl ?_
  intro p e s m args below meth c C
  change Z _ _ _ _ _ _ _ _ _ _ _ _ _ _ _ _ _ _ _ [some (.ref (ad 0 0)), some (.int v)] 0 []
  refine z_iload_n C dX5_needPiece_0 rfl ?_
  refine z_if_lt C 12 dX5_needPiece_1 (by decide) (fun c_1 => ?_) (fun c_1 => ?_)
  · exact absurd (Or.inl c_1) hv
  refine z_iload_n C dX5_needPiece_4 rfl ?_
  refine z_aload_n C dX5_needPiece_5 rfl ?_
  refine g_0_6 C wd146 dX5_needPiece_6 ?_
  refine z_icmp_lt C 22 dX5_needPiece_9 (by decide) (fun c_9 => ?_) (fun c_9 => ?_)
  rotate_left
  · exact absurd (Or.inr c_9) hv
  refine z_vret C dX5_needPiece_22 ?_
  rfl
set_option maxRecDepth 100000 in
set_option maxHeartbeats 4000000 in
theorem c_X5_needInstrument {l : Launch} {D : va_G} {ad : Nat → Nat → Nat} {cy : Nat → ClassId} {A : Nat → Prop} {sa : Nat → Nat} {σ : St} {v : Int32} : XV l D ad cy A sa yX5_needInstrument cX5_needInstrument 2 (none : Option Jvm.ClassFile.FieldType) 0 1 σ [.ref (ad 0 0), .int v] (fun σ' => σ = σ' ∧ ¬ bad v (σ 0 0 7)) (fun E u => σ = u ∧ E = IOOBE ∧ bad v (σ 0 0 7)) := by
  refine XV.mk "FretSchool" (by decide) rfl (Nat.le_of_ble_eq_true rfl) rfl ?_
  intro p e s m args below meth c C hex
  change Z _ _ _ _ _ _ _ _ _ _ _ _ _ _ _ _ _ _ _ [some (.ref (ad 0 0)), some (.int v)] 0 []
  refine z_iload_n C dX5_needInstrument_0 rfl ?_
  refine z_if_lt C 12 dX5_needInstrument_1 (by decide) (fun c_1 => ?_) (fun c_1 => ?_)
  · refine y_ioobe C hex (tx := "there is no such instrument") (List.mem_of_getElem? (i := 6) rfl) dX5_needInstrument_12 dX5_needInstrument_15 dX5_needInstrument_16 dX5_needInstrument_18 dX5_needInstrument_21 ⟨Nat.le_of_ble_eq_true rfl, Nat.le_of_ble_eq_true rfl⟩ (by decide) (by decide) ?_
    exact ⟨rfl, rfl, by first | exact Or.inl c_1 | exact Or.inr c_9⟩
  · refine z_iload_n C dX5_needInstrument_4 rfl ?_
    refine z_aload_n C dX5_needInstrument_5 rfl ?_
    refine g_0_7 C wd147 dX5_needInstrument_6 ?_
    refine z_icmp_lt C 22 dX5_needInstrument_9 (by decide) (fun c_9 => ?_) (fun c_9 => ?_)
    · refine y_ret (by decide) (by decide) ?_
      refine z_vret C dX5_needInstrument_22 ?_
      exact ⟨rfl, fun h => h.elim c_1 (fun q => q c_9)⟩
    · refine y_ioobe C hex (tx := "there is no such instrument") (List.mem_of_getElem? (i := 6) rfl) dX5_needInstrument_12 dX5_needInstrument_15 dX5_needInstrument_16 dX5_needInstrument_18 dX5_needInstrument_21 ⟨Nat.le_of_ble_eq_true rfl, Nat.le_of_ble_eq_true rfl⟩ (by decide) (by decide) ?_
      exact ⟨rfl, rfl, by first | exact Or.inl c_1 | exact Or.inr c_9⟩
set_option maxRecDepth 100000 in
set_option maxHeartbeats 4000000 in
theorem k_X5_needInstrument {l : Launch} {D : va_G} {ad : Nat → Nat → Nat} {cy : Nat → ClassId} {A : Nat → Prop} {sa : Nat → Nat} {σ : St} {v : Int32} (hv : ¬ bad v (σ 0 0 7)) : MV l D ad cy A sa yX5_needInstrument cX5_needInstrument 2 (none : Option Jvm.ClassFile.FieldType) 0 σ [.ref (ad 0 0), .int v] (fun σ' => σ = σ') := by
  refine MV.mk "FretSchool" (by decide) rfl (Nat.le_of_ble_eq_true rfl) rfl ?_
  intro p e s m args below meth c C
  change Z _ _ _ _ _ _ _ _ _ _ _ _ _ _ _ _ _ _ _ [some (.ref (ad 0 0)), some (.int v)] 0 []
  refine z_iload_n C dX5_needInstrument_0 rfl ?_
  refine z_if_lt C 12 dX5_needInstrument_1 (by decide) (fun c_1 => ?_) (fun c_1 => ?_)
  · exact absurd (Or.inl c_1) hv
  refine z_iload_n C dX5_needInstrument_4 rfl ?_
  refine z_aload_n C dX5_needInstrument_5 rfl ?_
  refine g_0_7 C wd147 dX5_needInstrument_6 ?_
  refine z_icmp_lt C 22 dX5_needInstrument_9 (by decide) (fun c_9 => ?_) (fun c_9 => ?_)
  rotate_left
  · exact absurd (Or.inr c_9) hv
  refine z_vret C dX5_needInstrument_22 ?_
  rfl
set_option maxRecDepth 100000 in
set_option maxHeartbeats 4000000 in
theorem c_X5_needOrder {l : Launch} {D : va_G} {ad : Nat → Nat → Nat} {cy : Nat → ClassId} {A : Nat → Prop} {sa : Nat → Nat} {σ : St} {v : Int32} : XV l D ad cy A sa yX5_needOrder cX5_needOrder 2 (none : Option Jvm.ClassFile.FieldType) 0 1 σ [.ref (ad 0 0), .int v] (fun σ' => σ = σ' ∧ ¬ bad v (σ 0 0 8)) (fun E u => σ = u ∧ E = IOOBE ∧ bad v (σ 0 0 8)) := by
  refine XV.mk "FretSchool" (by decide) rfl (Nat.le_of_ble_eq_true rfl) rfl ?_
  intro p e s m args below meth c C hex
  change Z _ _ _ _ _ _ _ _ _ _ _ _ _ _ _ _ _ _ _ [some (.ref (ad 0 0)), some (.int v)] 0 []
  refine z_iload_n C dX5_needOrder_0 rfl ?_
  refine z_if_lt C 12 dX5_needOrder_1 (by decide) (fun c_1 => ?_) (fun c_1 => ?_)
  · refine y_ioobe C hex (tx := "there is no such order") (List.mem_of_getElem? (i := 13) rfl) dX5_needOrder_12 dX5_needOrder_15 dX5_needOrder_16 dX5_needOrder_18 dX5_needOrder_21 ⟨Nat.le_of_ble_eq_true rfl, Nat.le_of_ble_eq_true rfl⟩ (by decide) (by decide) ?_
    exact ⟨rfl, rfl, by first | exact Or.inl c_1 | exact Or.inr c_9⟩
  · refine z_iload_n C dX5_needOrder_4 rfl ?_
    refine z_aload_n C dX5_needOrder_5 rfl ?_
    refine g_0_8 C wd148 dX5_needOrder_6 ?_
    refine z_icmp_lt C 22 dX5_needOrder_9 (by decide) (fun c_9 => ?_) (fun c_9 => ?_)
    · refine y_ret (by decide) (by decide) ?_
      refine z_vret C dX5_needOrder_22 ?_
      exact ⟨rfl, fun h => h.elim c_1 (fun q => q c_9)⟩
    · refine y_ioobe C hex (tx := "there is no such order") (List.mem_of_getElem? (i := 13) rfl) dX5_needOrder_12 dX5_needOrder_15 dX5_needOrder_16 dX5_needOrder_18 dX5_needOrder_21 ⟨Nat.le_of_ble_eq_true rfl, Nat.le_of_ble_eq_true rfl⟩ (by decide) (by decide) ?_
      exact ⟨rfl, rfl, by first | exact Or.inl c_1 | exact Or.inr c_9⟩
set_option maxRecDepth 100000 in
set_option maxHeartbeats 4000000 in
theorem c_X5_needPupil {l : Launch} {D : va_G} {ad : Nat → Nat → Nat} {cy : Nat → ClassId} {A : Nat → Prop} {sa : Nat → Nat} {σ : St} {v : Int32} : XV l D ad cy A sa yX5_needPupil cX5_needPupil 1 (none : Option Jvm.ClassFile.FieldType) 1 1 σ [.int v] (fun σ' => σ = σ' ∧ ¬ outR v 0 4) (fun E u => σ = u ∧ E = IAE ∧ outR v 0 4) := by
  refine XV.mk "FretSchool" (by decide) rfl (Nat.le_of_ble_eq_true rfl) rfl ?_
  intro p e s m args below meth c C hex
  change Z _ _ _ _ _ _ _ _ _ _ _ _ _ _ _ _ _ _ _ [some (.int v)] 0 []
  refine z_iload_n C dX5_needPupil_0 rfl ?_
  refine z_iconst C (v := 0) dX5_needPupil_1 (by decide) ?_
  refine z_iconst C (v := 4) dX5_needPupil_2 (by decide) ?_
  refine y_csv C (As := [_, _, _]) (c_X5_needRange) okX5_needRange wd195 (rok (by decide) (by decide)) ⟨Nat.le_of_ble_eq_true rfl, Nat.le_of_ble_eq_true rfl⟩ rfl (Nat.le_of_ble_eq_true rfl) dX5_needPupil_3 (x_on C hex (by decide) (by decide) (fun _ _ h => h)) ?_
  rintro _ ⟨rfl, hr3⟩
  refine y_ret (by decide) (by decide) ?_
  refine z_vret C dX5_needPupil_6 ?_
  exact ⟨rfl, hr3⟩
set_option maxRecDepth 100000 in
set_option maxHeartbeats 4000000 in
theorem c_X5_needNote {l : Launch} {D : va_G} {ad : Nat → Nat → Nat} {cy : Nat → ClassId} {A : Nat → Prop} {sa : Nat → Nat} {σ : St} {v w : Int32} (hI : Inv σ) : XV l D ad cy A sa yX5_needNote cX5_needNote 3 (none : Option Jvm.ClassFile.FieldType) 1 2 σ [.ref (ad 0 0), .int v, .int w] (fun σ' => σ = σ' ∧ ¬ bad v (σ 0 0 6) ∧ ¬ bad w (σ 11 (ix v) 1)) (fun E u => σ = u ∧ E = IOOBE ∧ (bad v (σ 0 0 6) ∨ bad w (σ 11 (ix v) 1))) := by
  refine XV.mk "FretSchool" (by decide) rfl (Nat.le_of_ble_eq_true rfl) rfl ?_
  intro p e s m args below meth c C hex
  change Z _ _ _ _ _ _ _ _ _ _ _ _ _ _ _ _ _ _ _ [some (.ref (ad 0 0)), some (.int v), some (.int w)] 0 []
  refine z_aload_n C dX5_needNote_0 rfl ?_
  refine z_iload_n C dX5_needNote_1 rfl ?_
  refine y_cvv C (As := [_]) (c_X5_needPiece) okX5_needPiece wd346 rc_0 (rok (by decide) (by decide)) ⟨Nat.le_of_ble_eq_true rfl, Nat.le_of_ble_eq_true rfl⟩ rfl (Nat.le_of_ble_eq_true rfl) dX5_needNote_2 (x_on C hex (by decide) (by decide) (fun _ _ h => ⟨h.1, h.2.1, Or.inl h.2.2⟩)) ?_
  rintro _ ⟨rfl, hr2⟩
  obtain ⟨np, hnp, enp⟩ := hI.1
  rw [enp] at hr2
  obtain ⟨ev, hv1, hv2⟩ := nbad hnp (by decide) hr2
  rw [← enp] at hr2
  refine z_iload_n C dX5_needNote_5 rfl ?_
  refine z_if_lt C 22 dX5_needNote_6 (by decide) (fun c_6 => ?_) (fun c_6 => ?_)
  · refine y_ioobe C hex (tx := "there is no such note") (List.mem_of_getElem? (i := 5) rfl) dX5_needNote_22 dX5_needNote_25 dX5_needNote_26 dX5_needNote_28 dX5_needNote_31 ⟨Nat.le_of_ble_eq_true rfl, Nat.le_of_ble_eq_true rfl⟩ (by decide) (by decide) ?_
    exact ⟨rfl, rfl, Or.inr (by first | exact Or.inl c_6 | exact Or.inr c_19)⟩
  · refine z_iload_n C dX5_needNote_9 rfl ?_
    refine z_aload_n C dX5_needNote_10 rfl ?_
    refine g_0_0 C wd140 dX5_needNote_11 ?_
    refine z_iload_n C dX5_needNote_14 rfl ?_
    refine a_1 C ev hv2 dX5_needNote_15 ?_
    refine g_11_1 hv2 C wd47 dX5_needNote_16 ?_
    refine z_icmp_lt C 32 dX5_needNote_19 (by decide) (fun c_19 => ?_) (fun c_19 => ?_)
    · refine y_ret (by decide) (by decide) ?_
      refine z_vret C dX5_needNote_32 ?_
      exact ⟨rfl, hr2, fun h => h.elim c_6 (fun q => q c_19)⟩
    · refine y_ioobe C hex (tx := "there is no such note") (List.mem_of_getElem? (i := 5) rfl) dX5_needNote_22 dX5_needNote_25 dX5_needNote_26 dX5_needNote_28 dX5_needNote_31 ⟨Nat.le_of_ble_eq_true rfl, Nat.le_of_ble_eq_true rfl⟩ (by decide) (by decide) ?_
      exact ⟨rfl, rfl, Or.inr (by first | exact Or.inl c_6 | exact Or.inr c_19)⟩
def K_begin (σ : St) : Nat := if ¬ σ 0 0 6 < 8 then 1 else 0
set_option maxRecDepth 100000 in
set_option maxHeartbeats 4000000 in
theorem c_X5_begin {l : Launch} {D : va_G} {ad : Nat → Nat → Nat} {cy : Nat → ClassId} {A : Nat → Prop} {sa : Nat → Nat} {σ : St} : XI l D ad cy A sa yX5_begin cX5_begin 2 (some .int) 0 1 σ [.ref (ad 0 0)] (fun r σ' => K_begin σ = 0 ∧ r = σ 0 0 6 ∧ up σ 0 0 6 (σ 0 0 6 + 1) = σ') (fun E u => σ = u ∧ pxK [ISE] (K_begin σ) E) := by
  refine XI.mk "FretSchool" (by decide) rfl (Nat.le_of_ble_eq_true rfl) rfl ?_
  intro p e s m args below meth c C hex
  change Z _ _ _ _ _ _ _ _ _ _ _ _ _ _ _ _ _ _ _ [some (.ref (ad 0 0)), none] 0 []
  refine z_aload_n C dX5_begin_0 rfl ?_
  refine g_0_6 C wd146 dX5_begin_1 ?_
  refine z_bipush C (v := 8) dX5_begin_4 (by decide) ?_
  refine z_icmp_lt C 19 dX5_begin_6 (by decide) (fun c_6 => ?_) (fun c_6 => ?_)
  · refine z_aload_n C dX5_begin_19 rfl ?_
    refine g_0_6 C wd146 dX5_begin_20 ?_
    refine z_istore_n C dX5_begin_23 (by decide) ?_
    dsimp only [List.set]
    refine z_aload_n C dX5_begin_24 rfl ?_
    refine z_dup C dX5_begin_25 rfl ?_
    refine g_0_6 C wd146 dX5_begin_26 ?_
    refine z_iconst C (v := 1) dX5_begin_29 (by decide) ?_
    refine z_iadd C dX5_begin_30 ?_
    refine p_0_6 C wd146 dX5_begin_31 ?_
    refine z_iload_n C dX5_begin_34 rfl ?_
    refine y_ret (by decide) (by decide) ?_
    refine z_iret C dX5_begin_35 ?_
    exact ⟨if_neg (fun q => q c_6), rfl, rfl⟩
  · refine y_ise C hex (tx := "there are 8 pieces") (List.mem_of_getElem? (i := 0) rfl) dX5_begin_9 dX5_begin_12 dX5_begin_13 dX5_begin_15 dX5_begin_18 ⟨Nat.le_of_ble_eq_true rfl, Nat.le_of_ble_eq_true rfl⟩ (by decide) (by decide) ?_
    exact ⟨rfl, by unfold K_begin; rw [if_pos c_6]; exact ⟨by decide, rfl⟩⟩
noncomputable def K_addNote (σ : St) (p x : Int32) : Nat := by
  classical exact if bad p (σ 0 0 6) then 1 else if outR x 0 80 then 2 else if ¬ σ 11 (ix p) 1 < 16 then 3 else 0
set_option maxRecDepth 100000 in
set_option maxHeartbeats 4000000 in
theorem c_X5_addNote {l : Launch} {D : va_G} {ad : Nat → Nat → Nat} {cy : Nat → ClassId} {A : Nat → Prop} {sa : Nat → Nat} {σ : St} {x y : Int32} (hI : Inv σ) : XI l D ad cy A sa yX5_addNote cX5_addNote 4 (some .int) 3 3 σ [.ref (ad 0 0), .int x, .int y] (fun r σ' => K_addNote σ x y = 0 ∧ r = nI (cN σ (ix x) + 1) ∧ up (up σ 12 (ix x) (cN σ (ix x)) y) 11 (ix x) 1 (nI (cN σ (ix x) + 1)) = σ') (fun E u => σ = u ∧ pxK [IOOBE, IAE, ISE] (K_addNote σ x y) E) := by
  refine XI.mk "FretSchool" (by decide) rfl (Nat.le_of_ble_eq_true rfl) rfl ?_
  intro p e s m args below meth c C hex
  change Z _ _ _ _ _ _ _ _ _ _ _ _ _ _ _ _ _ _ _ [some (.ref (ad 0 0)), some (.int x), some (.int y), none] 0 []
  refine z_aload_n C dX5_addNote_0 rfl ?_
  refine z_iload_n C dX5_addNote_1 rfl ?_
  refine y_cvv C (As := [_]) (c_X5_needPiece) okX5_needPiece wd346 rc_0 (rok (by decide) (by decide)) ⟨Nat.le_of_ble_eq_true rfl, Nat.le_of_ble_eq_true rfl⟩ rfl (Nat.le_of_ble_eq_true rfl) dX5_addNote_2 (x_on C hex (by decide) (by decide) (fun E u h => ⟨h.1, by unfold K_addNote; rw [if_pos h.2.2]; exact ⟨by decide, congrArg some h.2.1.symm⟩⟩)) ?_
  rintro _ ⟨rfl, hr2⟩
  obtain ⟨np, hnp, enp⟩ := hI.1
  rw [enp] at hr2
  obtain ⟨ev, hv1, hv2⟩ := nbad hnp (by decide) hr2
  rw [← enp] at hr2
  obtain ⟨ec, hc16⟩ := hI.2.2.2.1 (ix x) hv2
  refine z_iload_n C dX5_addNote_5 rfl ?_
  refine z_iconst C (v := 0) dX5_addNote_6 (by decide) ?_
  refine z_bipush C (v := 80) dX5_addNote_7 (by decide) ?_
  refine y_csv C (As := [_, _, _]) (c_X5_needRange) okX5_needRange wd195 (rok (by decide) (by decide)) ⟨Nat.le_of_ble_eq_true rfl, Nat.le_of_ble_eq_true rfl⟩ rfl (Nat.le_of_ble_eq_true rfl) dX5_addNote_9 (x_on C hex (by decide) (by decide) (fun E u h => ⟨h.1, by unfold K_addNote; rw [if_neg hr2, if_pos h.2.2]; exact ⟨by decide, congrArg some h.2.1.symm⟩⟩)) ?_
  rintro _ ⟨rfl, hr9⟩
  refine z_aload_n C dX5_addNote_12 rfl ?_
  refine g_0_0 C wd140 dX5_addNote_13 ?_
  refine z_iload_n C dX5_addNote_16 rfl ?_
  refine a_1 C ev hv2 dX5_addNote_17 ?_
  refine z_astore_n C dX5_addNote_18 (by decide) ?_
  dsimp only [List.set]
  refine z_aload_n C dX5_addNote_19 rfl ?_
  refine z_cvi C (As := []) (c_X3_isFull hv2) okX3_isFull wd469 (rc_11 hv2) (rok (by decide) (by decide)) ⟨Nat.le_of_ble_eq_true rfl, Nat.le_of_ble_eq_true rfl⟩ rfl (Nat.le_of_ble_eq_true rfl) dX5_addNote_20 ?_
  rintro r20 _ ⟨e20, rfl⟩
  refine z_if_eq C 36 dX5_addNote_23 (by decide) (fun c_23 => ?_) (fun c_23 => ?_)
  · have hlt : cN σ (ix x) < 16 := by
      apply Classical.byContradiction
      intro q
      rw [e20, if_neg (by rw [ec, show (16 : Int32) = nI 16 from rfl, nI_ltI (by omega) (by decide)]; exact q)] at c_23
      exact absurd c_23 (by decide)
    have hlt2 : σ 11 (ix x) 1 < 16 := by rw [ec]; exact nI_lt (b := 16) hlt (by decide)
    refine z_aload_n C dX5_addNote_36 rfl ?_
    refine z_iload_n C dX5_addNote_37 rfl ?_
    refine z_cvv C (As := [_]) (c_X3_append hv2 ec hlt) okX3_append wd474 (rc_11 hv2) (rok (by decide) (by decide)) ⟨Nat.le_of_ble_eq_true rfl, Nat.le_of_ble_eq_true rfl⟩ rfl (Nat.le_of_ble_eq_true rfl) dX5_addNote_38 ?_
    rintro _ rfl
    refine z_aload_n C dX5_addNote_41 rfl ?_
    refine g_11_1 hv2 C wd47 dX5_addNote_42 ?_
    refine y_ret (by decide) (by decide) ?_
    refine z_iret C dX5_addNote_45 ?_
    refine ⟨by unfold K_addNote; rw [if_neg hr2, if_neg hr9, if_neg (fun q => q hlt2)], ?_, rfl⟩
    rw [up_app, if_pos ⟨rfl, rfl, rfl⟩]
  · have hge : ¬ σ 11 (ix x) 1 < 16 := by
      intro q
      rw [e20, if_pos q] at c_23
      exact c_23 rfl
    refine y_ise C hex (tx := "the piece has 16 notes") (List.mem_of_getElem? (i := 3) rfl) dX5_addNote_26 dX5_addNote_29 dX5_addNote_30 dX5_addNote_32 dX5_addNote_35 ⟨Nat.le_of_ble_eq_true rfl, Nat.le_of_ble_eq_true rfl⟩ (by decide) (by decide) ?_
    exact ⟨rfl, by unfold K_addNote; rw [if_neg hr2, if_neg hr9, if_pos hge]; exact ⟨by decide, rfl⟩⟩
end
section
/-! ===== the class FretSchool: positions, lessons ===== -/
def BestQ (σ σ' : St) (j q : Nat) (r : Int32) : Prop := (r = 1 ∧ PL σ j q ∧ σ' 6 0 3 = nI (BT σ j q) ∧ σ' 6 0 4 = nI (HG σ j q) ∧ ∀ i, i < cN σ j → σ' 9 0 i = nI (RW σ j q i)) ∨ (r = 0 ∧ ¬ PL σ j q)
set_option maxRecDepth 100000 in
set_option maxHeartbeats 4000000 in
theorem c_X5_findBest {l : Launch} {D : va_G} {ad : Nat → Nat → Nat} {cy : Nat → ClassId} {A : Nat → Prop} {sa : Nat → Nat} {σ : St} {v w : Int32} (hI : Inv σ) : XI l D ad cy A sa yX5_findBest cX5_findBest 3 (some .boolean) 5 2 σ [.ref (ad 0 0), .int v, .int w] (fun r σ' => ¬ bad v (σ 0 0 6) ∧ ¬ bad w (σ 0 0 7) ∧ SameC σ σ' ∧ BestQ σ σ' (ix v) (ix w) r) (fun E u => σ = u ∧ E = IOOBE ∧ (bad v (σ 0 0 6) ∨ bad w (σ 0 0 7))) := by
  refine XI.mk "FretSchool" (by decide) rfl (Nat.le_of_ble_eq_true rfl) rfl ?_
  intro p e s m args below meth c C hex
  change Z _ _ _ _ _ _ _ _ _ _ _ _ _ _ _ _ _ _ _ [some (.ref (ad 0 0)), some (.int v), some (.int w)] 0 []
  refine z_aload_n C dX5_findBest_0 rfl ?_
  refine z_iload_n C dX5_findBest_1 rfl ?_
  refine y_cvv C (As := [_]) (c_X5_needPiece) okX5_needPiece wd346 rc_0 (rok (by decide) (by decide)) ⟨Nat.le_of_ble_eq_true rfl, Nat.le_of_ble_eq_true rfl⟩ rfl (Nat.le_of_ble_eq_true rfl) dX5_findBest_2 (x_on C hex (by decide) (by decide) (fun _ _ h => ⟨h.1, h.2.1, Or.inl h.2.2⟩)) ?_
  rintro _ ⟨rfl, hr2⟩
  obtain ⟨np, hnp, enp⟩ := hI.1
  rw [enp] at hr2
  obtain ⟨ep, hp1, hp2⟩ := nbad hnp (by decide) hr2
  rw [← enp] at hr2
  obtain ⟨ecp, hcp⟩ := hI.2.2.2.1 (ix v) hp2
  refine z_aload_n C dX5_findBest_5 rfl ?_
  refine z_iload_n C dX5_findBest_6 rfl ?_
  refine y_cvv C (As := [_]) (c_X5_needInstrument) okX5_needInstrument wd385 rc_0 (rok (by decide) (by decide)) ⟨Nat.le_of_ble_eq_true rfl, Nat.le_of_ble_eq_true rfl⟩ rfl (Nat.le_of_ble_eq_true rfl) dX5_findBest_7 (x_on C hex (by decide) (by decide) (fun _ _ h => ⟨h.1, h.2.1, Or.inr h.2.2⟩)) ?_
  rintro _ ⟨rfl, hr7⟩
  obtain ⟨nq, hnq, enq⟩ := hI.2.1
  rw [enq] at hr7
  obtain ⟨eq, hq1, hq2⟩ := nbad hnq (by decide) hr7
  rw [← enq] at hr7
  obtain ⟨efq, hfq4, hfq16⟩ := hI.fr hq2 (by rw [enq]; exact nI_lt hq1 (by omega))
  refine z_aload_n C dX5_findBest_10 rfl ?_
  refine g_0_5 C wd145 dX5_findBest_11 ?_
  refine z_aload_n C dX5_findBest_14 rfl ?_
  refine g_0_0 C wd140 dX5_findBest_15 ?_
  refine z_iload_n C dX5_findBest_18 rfl ?_
  refine a_1 C ep hp2 dX5_findBest_19 ?_
  refine z_aload_n C dX5_findBest_20 rfl ?_
  refine g_0_1 C wd141 dX5_findBest_21 ?_
  refine z_iload_n C dX5_findBest_24 rfl ?_
  refine a_2 C eq hq2 dX5_findBest_25 ?_
  refine z_cvi C (As := [_, _]) (c_X0_placeBest hp2 hq2 ecp hcp efq hfq4 hfq16) okX0_placeBest wd293 rc_6 (rok (by decide) (by decide)) ⟨Nat.le_of_ble_eq_true rfl, Nat.le_of_ble_eq_true rfl⟩ rfl (Nat.le_of_ble_eq_true rfl) dX5_findBest_26 ?_
  rintro r26 σ2 ⟨hfr, hq26⟩
  have hz26 : r26 = 0 ∨ r26 = 1 := hq26.elim (fun h => Or.inr h.1) (fun h => Or.inl h.1)
  refine y_ret (by decide) (by decide) ?_
  refine z_zret C dX5_findBest_29 (by first | exact Or.inl rfl | exact Or.inr rfl | assumption) ?_
  refine ⟨hr2, hr7, fun a b c0 h6 h7 h9 h10 => hfr a b c0 h6 h7 h9 h10, ?_⟩
  rcases hq26 with ⟨h1, h2, h3, h4, h5, h6⟩ | ⟨h1, h2⟩
  · exact Or.inl ⟨h1, ⟨h2, h3⟩, h4, h5, h6⟩
  · exact Or.inr ⟨h1, fun h => h2.elim (fun q => absurd h.1 (Nat.not_lt.mpr (Nat.le_of_eq q))) (fun q => absurd h.2 (Nat.not_lt.mpr (Nat.le_of_eq q.symm)))⟩
set_option maxRecDepth 100000 in
set_option maxHeartbeats 4000000 in
theorem k_X5_findBest {l : Launch} {D : va_G} {ad : Nat → Nat → Nat} {cy : Nat → ClassId} {A : Nat → Prop} {sa : Nat → Nat} {σ : St} {v w : Int32} (hI : Inv σ) (hr2 : ¬ bad v (σ 0 0 6)) (hr7 : ¬ bad w (σ 0 0 7)) : MI l D ad cy A sa yX5_findBest cX5_findBest 3 (some .boolean) 5 σ [.ref (ad 0 0), .int v, .int w] (fun r σ' => SameC σ σ' ∧ BestQ σ σ' (ix v) (ix w) r) := by
  refine MI.mk "FretSchool" (by decide) rfl (Nat.le_of_ble_eq_true rfl) rfl ?_
  intro p e s m args below meth c C
  change Z _ _ _ _ _ _ _ _ _ _ _ _ _ _ _ _ _ _ _ [some (.ref (ad 0 0)), some (.int v), some (.int w)] 0 []
  obtain ⟨np, hnp, enp⟩ := hI.1
  rw [enp] at hr2
  obtain ⟨ep, hp1, hp2⟩ := nbad hnp (by decide) hr2
  rw [← enp] at hr2
  obtain ⟨ecp, hcp⟩ := hI.2.2.2.1 (ix v) hp2
  obtain ⟨nq, hnq, enq⟩ := hI.2.1
  rw [enq] at hr7
  obtain ⟨eq, hq1, hq2⟩ := nbad hnq (by decide) hr7
  rw [← enq] at hr7
  obtain ⟨efq, hfq4, hfq16⟩ := hI.fr hq2 (by rw [enq]; exact nI_lt hq1 (by omega))
  refine z_aload_n C dX5_findBest_0 rfl ?_
  refine z_iload_n C dX5_findBest_1 rfl ?_
  refine z_cvv C (As := [_]) (k_X5_needPiece hr2) okX5_needPiece wd346 rc_0 (rok (by decide) (by decide)) ⟨Nat.le_of_ble_eq_true rfl, Nat.le_of_ble_eq_true rfl⟩ rfl (Nat.le_of_ble_eq_true rfl) dX5_findBest_2 ?_
  rintro _ rfl
  refine z_aload_n C dX5_findBest_5 rfl ?_
  refine z_iload_n C dX5_findBest_6 rfl ?_
  refine z_cvv C (As := [_]) (k_X5_needInstrument hr7) okX5_needInstrument wd385 rc_0 (rok (by decide) (by decide)) ⟨Nat.le_of_ble_eq_true rfl, Nat.le_of_ble_eq_true rfl⟩ rfl (Nat.le_of_ble_eq_true rfl) dX5_findBest_7 ?_
  rintro _ rfl
  refine z_aload_n C dX5_findBest_10 rfl ?_
  refine g_0_5 C wd145 dX5_findBest_11 ?_
  refine z_aload_n C dX5_findBest_14 rfl ?_
  refine g_0_0 C wd140 dX5_findBest_15 ?_
  refine z_iload_n C dX5_findBest_18 rfl ?_
  refine a_1 C ep hp2 dX5_findBest_19 ?_
  refine z_aload_n C dX5_findBest_20 rfl ?_
  refine g_0_1 C wd141 dX5_findBest_21 ?_
  refine z_iload_n C dX5_findBest_24 rfl ?_
  refine a_2 C eq hq2 dX5_findBest_25 ?_
  refine z_cvi C (As := [_, _]) (c_X0_placeBest hp2 hq2 ecp hcp efq hfq4 hfq16) okX0_placeBest wd293 rc_6 (rok (by decide) (by decide)) ⟨Nat.le_of_ble_eq_true rfl, Nat.le_of_ble_eq_true rfl⟩ rfl (Nat.le_of_ble_eq_true rfl) dX5_findBest_26 ?_
  rintro r26 σ2 ⟨hfr, hq26⟩
  have hz26 : r26 = 0 ∨ r26 = 1 := hq26.elim (fun h => Or.inr h.1) (fun h => Or.inl h.1)
  refine z_zret C dX5_findBest_29 (by first | exact Or.inl rfl | exact Or.inr rfl | assumption) ?_
  refine ⟨fun a b c0 h6 h7 h9 h10 => hfr a b c0 h6 h7 h9 h10, ?_⟩
  rcases hq26 with ⟨h1, h2, h3, h4, h5, h6⟩ | ⟨h1, h2⟩
  · exact Or.inl ⟨h1, ⟨h2, h3⟩, h4, h5, h6⟩
  · exact Or.inr ⟨h1, fun h => h2.elim (fun q => absurd h.1 (Nat.not_lt.mpr (Nat.le_of_eq q))) (fun q => absurd h.2 (Nat.not_lt.mpr (Nat.le_of_eq q.symm)))⟩
noncomputable def K_pq (σ : St) (p q : Int32) : Nat := by classical exact if bad p (σ 0 0 6) ∨ bad q (σ 0 0 7) then 1 else 0
noncomputable def valS (σ : St) (j q : Nat) : Int32 := if PL σ j q then nI (BT σ j q) else -1
noncomputable def valH (σ : St) (j q : Nat) : Int32 := if PL σ j q then nI (HG σ j q) else -1
theorem K_pq_0 {σ : St} {p q : Int32} (h1 : ¬ bad p (σ 0 0 6)) (h2 : ¬ bad q (σ 0 0 7)) : K_pq σ p q = 0 := by unfold K_pq; rw [if_neg (fun h => h.elim h1 h2)]
set_option maxRecDepth 100000 in
set_option maxHeartbeats 4000000 in
theorem c_X5_shifts {l : Launch} {D : va_G} {ad : Nat → Nat → Nat} {cy : Nat → ClassId} {A : Nat → Prop} {sa : Nat → Nat} {σ : St} {x y : Int32} (hI : Inv σ) : XI l D ad cy A sa yX5_shifts cX5_shifts 3 (some .int) 6 2 σ [.ref (ad 0 0), .int x, .int y] (fun r σ' => K_pq σ x y = 0 ∧ r = valS σ (ix x) (ix y) ∧ SameC σ σ') (fun E u => σ = u ∧ pxK [IOOBE] (K_pq σ x y) E) := by
  refine XI.mk "FretSchool" (by decide) rfl (Nat.le_of_ble_eq_true rfl) rfl ?_
  intro p e s m args below meth c C hex
  change Z _ _ _ _ _ _ _ _ _ _ _ _ _ _ _ _ _ _ _ [some (.ref (ad 0 0)), some (.int x), some (.int y)] 0 []
  refine z_aload_n C dX5_shifts_0 rfl ?_
  refine z_iload_n C dX5_shifts_1 rfl ?_
  refine z_iload_n C dX5_shifts_2 rfl ?_
  refine y_cvi C (As := [_, _]) (c_X5_findBest hI) okX5_findBest wd381 rc_0 (rok (by decide) (by decide)) ⟨Nat.le_of_ble_eq_true rfl, Nat.le_of_ble_eq_true rfl⟩ rfl (Nat.le_of_ble_eq_true rfl) dX5_shifts_3 (x_on C hex (by decide) (by decide) (fun E u h => ⟨h.1, by unfold K_pq; rw [if_pos h.2.2]; exact ⟨by decide, congrArg some h.2.1.symm⟩⟩)) ?_
  rintro r3 σ2 ⟨hvp, hvq, hsm, hbq⟩
  refine z_if_eq C 19 dX5_shifts_6 (by decide) (fun c_6 => ?_) (fun c_6 => ?_)
  · refine z_iconst C (v := (-1)) dX5_shifts_19 (by decide) ?_
    refine y_ret (by decide) (by decide) ?_
    refine z_iret C dX5_shifts_20 ?_
    refine ⟨K_pq_0 hvp hvq, ?_, hsm⟩
    rcases hbq with ⟨h1, h2, h3, h4, h5⟩ | ⟨h1, h2⟩
    · rw [h1] at c_6; exact absurd c_6 (by decide)
    · unfold valS; rw [if_neg h2]
  · refine z_aload_n C dX5_shifts_9 rfl ?_
    refine g_0_5 C wd145 dX5_shifts_10 ?_
    refine g_6_3 C wd126 dX5_shifts_13 ?_
    refine z_goto C 20 dX5_shifts_16 (by decide) ?_
    refine y_ret (by decide) (by decide) ?_
    refine z_iret C dX5_shifts_20 ?_
    refine ⟨K_pq_0 hvp hvq, ?_, hsm⟩
    rcases hbq with ⟨h1, h2, h3, h4, h5⟩ | ⟨h1, h2⟩
    · unfold valS; rw [if_pos h2, h3]
    · exact absurd h1 c_6
set_option maxRecDepth 100000 in
set_option maxHeartbeats 4000000 in
theorem c_X5_hardest {l : Launch} {D : va_G} {ad : Nat → Nat → Nat} {cy : Nat → ClassId} {A : Nat → Prop} {sa : Nat → Nat} {σ : St} {x y : Int32} (hI : Inv σ) : XI l D ad cy A sa yX5_hardest cX5_hardest 3 (some .int) 6 2 σ [.ref (ad 0 0), .int x, .int y] (fun r σ' => K_pq σ x y = 0 ∧ r = valH σ (ix x) (ix y) ∧ SameC σ σ') (fun E u => σ = u ∧ pxK [IOOBE] (K_pq σ x y) E) := by
  refine XI.mk "FretSchool" (by decide) rfl (Nat.le_of_ble_eq_true rfl) rfl ?_
  intro p e s m args below meth c C hex
  change Z _ _ _ _ _ _ _ _ _ _ _ _ _ _ _ _ _ _ _ [some (.ref (ad 0 0)), some (.int x), some (.int y)] 0 []
  refine z_aload_n C dX5_hardest_0 rfl ?_
  refine z_iload_n C dX5_hardest_1 rfl ?_
  refine z_iload_n C dX5_hardest_2 rfl ?_
  refine y_cvi C (As := [_, _]) (c_X5_findBest hI) okX5_findBest wd381 rc_0 (rok (by decide) (by decide)) ⟨Nat.le_of_ble_eq_true rfl, Nat.le_of_ble_eq_true rfl⟩ rfl (Nat.le_of_ble_eq_true rfl) dX5_hardest_3 (x_on C hex (by decide) (by decide) (fun E u h => ⟨h.1, by unfold K_pq; rw [if_pos h.2.2]; exact ⟨by decide, congrArg some h.2.1.symm⟩⟩)) ?_
  rintro r3 σ2 ⟨hvp, hvq, hsm, hbq⟩
  refine z_if_eq C 19 dX5_hardest_6 (by decide) (fun c_6 => ?_) (fun c_6 => ?_)
  · refine z_iconst C (v := (-1)) dX5_hardest_19 (by decide) ?_
    refine y_ret (by decide) (by decide) ?_
    refine z_iret C dX5_hardest_20 ?_
    refine ⟨K_pq_0 hvp hvq, ?_, hsm⟩
    rcases hbq with ⟨h1, h2, h3, h4, h5⟩ | ⟨h1, h2⟩
    · rw [h1] at c_6; exact absurd c_6 (by decide)
    · unfold valH; rw [if_neg h2]
  · refine z_aload_n C dX5_hardest_9 rfl ?_
    refine g_0_5 C wd145 dX5_hardest_10 ?_
    refine g_6_4 C wd128 dX5_hardest_13 ?_
    refine z_goto C 20 dX5_hardest_16 (by decide) ?_
    refine y_ret (by decide) (by decide) ?_
    refine z_iret C dX5_hardest_20 ?_
    refine ⟨K_pq_0 hvp hvq, ?_, hsm⟩
    rcases hbq with ⟨h1, h2, h3, h4, h5⟩ | ⟨h1, h2⟩
    · unfold valH; rw [if_pos h2, h4]
    · exact absurd h1 c_6
noncomputable def K_byAll (σ : St) (p q : Int32) : Nat := by classical exact if bad p (σ 0 0 6) ∨ bad q (σ 0 0 7) then 1 else if ¬ σ 11 (ix p) 1 ≤ 4 then 2 else 0
set_option maxRecDepth 100000 in
set_option maxHeartbeats 4000000 in
theorem c_X5_shiftsByAll {l : Launch} {D : va_G} {ad : Nat → Nat → Nat} {cy : Nat → ClassId} {A : Nat → Prop} {sa : Nat → Nat} {σ : St} {x y : Int32} (hI : Inv σ) : XI l D ad cy A sa yX5_shiftsByAll cX5_shiftsByAll 3 (some .int) 8 3 σ [.ref (ad 0 0), .int x, .int y] (fun r σ' => K_byAll σ x y = 0 ∧ r = valS σ (ix x) (ix y) ∧ SameC σ σ') (fun E u => σ = u ∧ pxK [IOOBE, ISE] (K_byAll σ x y) E) := by
  refine XI.mk "FretSchool" (by decide) rfl (Nat.le_of_ble_eq_true rfl) rfl ?_
  intro p e s m args below meth c C hex
  change Z _ _ _ _ _ _ _ _ _ _ _ _ _ _ _ _ _ _ _ [some (.ref (ad 0 0)), some (.int x), some (.int y)] 0 []
  refine z_aload_n C dX5_shiftsByAll_0 rfl ?_
  refine z_iload_n C dX5_shiftsByAll_1 rfl ?_
  refine y_cvv C (As := [_]) (c_X5_needPiece) okX5_needPiece wd346 rc_0 (rok (by decide) (by decide)) ⟨Nat.le_of_ble_eq_true rfl, Nat.le_of_ble_eq_true rfl⟩ rfl (Nat.le_of_ble_eq_true rfl) dX5_shiftsByAll_2 (x_on C hex (by decide) (by decide) (fun E u h => ⟨h.1, by unfold K_byAll; rw [if_pos (Or.inl h.2.2)]; exact ⟨by decide, congrArg some h.2.1.symm⟩⟩)) ?_
  rintro _ ⟨rfl, hr2⟩
  obtain ⟨np, hnp, enp⟩ := hI.1
  rw [enp] at hr2
  obtain ⟨ep, hp1, hp2⟩ := nbad hnp (by decide) hr2
  rw [← enp] at hr2
  obtain ⟨ecp, hcp⟩ := hI.2.2.2.1 (ix x) hp2
  refine z_aload_n C dX5_shiftsByAll_5 rfl ?_
  refine z_iload_n C dX5_shiftsByAll_6 rfl ?_
  refine y_cvv C (As := [_]) (c_X5_needInstrument) okX5_needInstrument wd385 rc_0 (rok (by decide) (by decide)) ⟨Nat.le_of_ble_eq_true rfl, Nat.le_of_ble_eq_true rfl⟩ rfl (Nat.le_of_ble_eq_true rfl) dX5_shiftsByAll_7 (x_on C hex (by decide) (by decide) (fun E u h => ⟨h.1, by unfold K_byAll; rw [if_pos (Or.inr h.2.2)]; exact ⟨by decide, congrArg some h.2.1.symm⟩⟩)) ?_
  rintro _ ⟨rfl, hr7⟩
  obtain ⟨nq, hnq, enq⟩ := hI.2.1
  rw [enq] at hr7
  obtain ⟨eq, hq1, hq2⟩ := nbad hnq (by decide) hr7
  rw [← enq] at hr7
  obtain ⟨efq, hfq4, hfq16⟩ := hI.fr hq2 (by rw [enq]; exact nI_lt hq1 (by omega))
  refine z_aload_n C dX5_shiftsByAll_10 rfl ?_
  refine g_0_0 C wd140 dX5_shiftsByAll_11 ?_
  refine z_iload_n C dX5_shiftsByAll_14 rfl ?_
  refine a_1 C (by assumption) (by first | assumption | omega) dX5_shiftsByAll_15 ?_
  refine g_11_1 hp2 C wd47 dX5_shiftsByAll_16 ?_
  refine z_iconst C (v := 4) dX5_shiftsByAll_19 (by decide) ?_
  refine z_icmp_le C 33 dX5_shiftsByAll_20 (by decide) (fun c_20 => ?_) (fun c_20 => ?_)
  · refine z_aload_n C dX5_shiftsByAll_33 rfl ?_
    refine g_0_5 C wd145 dX5_shiftsByAll_34 ?_
    refine z_aload_n C dX5_shiftsByAll_37 rfl ?_
    refine g_0_0 C wd140 dX5_shiftsByAll_38 ?_
    refine z_iload_n C dX5_shiftsByAll_41 rfl ?_
    refine a_1 C ep hp2 dX5_shiftsByAll_42 ?_
    refine z_aload_n C dX5_shiftsByAll_43 rfl ?_
    refine g_0_1 C wd141 dX5_shiftsByAll_44 ?_
    refine z_iload_n C dX5_shiftsByAll_47 rfl ?_
    refine a_2 C eq hq2 dX5_shiftsByAll_48 ?_
    refine z_cvi C (As := [_, _]) (c_X0_leastByAll hp2 hq2 ecp hcp efq hfq4 hfq16 (by rw [ecp, show (4 : Int32) = nI 4 from rfl, nI_leI (by omega) (by omega)] at c_20; exact c_20)) okX0_leastByAll wd436 rc_6 (rok (by decide) (by decide)) ⟨Nat.le_of_ble_eq_true rfl, Nat.le_of_ble_eq_true rfl⟩ rfl (Nat.le_of_ble_eq_true rfl) dX5_shiftsByAll_49 ?_
    rintro r49 σ2 ⟨hfr, e49⟩
    refine y_ret (by decide) (by decide) ?_
    refine z_iret C dX5_shiftsByAll_52 ?_
    refine ⟨by unfold K_byAll; rw [if_neg (fun h => h.elim hr2 hr7), if_neg (fun h => h c_20)], ?_, fun a b c0 _ h7 _ _ => hfr a b c0 h7⟩
    rw [e49]
    have hTl := tot_le (PFs σ (ix x) (ix y)) (cN σ (ix x))
    unfold valS
    by_cases hp : PL σ (ix x) (ix y)
    · rw [if_pos hp, if_neg (fun h => h.elim (fun q => absurd hp.1 (Nat.not_lt.mpr (Nat.le_of_eq q))) (fun q => absurd hp.2 (Nat.not_lt.mpr (Nat.le_of_eq q.symm))))]
    · rw [if_neg hp, if_pos (by
        rcases Nat.eq_zero_or_pos (cN σ (ix x)) with q | q
        · exact Or.inl q
        · right
          rcases Nat.lt_or_ge (BT σ (ix x) (ix y)) FARn with q2 | q2
          · exact absurd ⟨q, q2⟩ hp
          · exact Nat.le_antisymm hTl q2)]
  · refine y_ise C hex (tx := "the piece has more than 4 notes") (List.mem_of_getElem? (i := 7) rfl) dX5_shiftsByAll_23 dX5_shiftsByAll_26 dX5_shiftsByAll_27 dX5_shiftsByAll_29 dX5_shiftsByAll_32 ⟨Nat.le_of_ble_eq_true rfl, Nat.le_of_ble_eq_true rfl⟩ (by decide) (by decide) ?_
    exact ⟨rfl, by unfold K_byAll; rw [if_neg (fun h => h.elim hr2 hr7), if_pos c_20]; exact ⟨by decide, rfl⟩⟩
noncomputable def K_note (σ : St) (p k q : Int32) : Nat := by classical exact if bad p (σ 0 0 6) ∨ bad k (σ 11 (ix p) 1) ∨ bad q (σ 0 0 7) then 1 else 0
noncomputable def valP (σ : St) (j i q : Nat) : Int32 := if PL σ j q then nI (RW σ j q i) else -1
noncomputable def valT (σ : St) (j i q : Nat) : Int32 := if PL σ j q then lowS (σ 12 j i) (σ 14 q) (nI (RW σ j q i)) else -1
theorem K_note_0 {σ : St} {p k q : Int32} (h1 : ¬ bad p (σ 0 0 6)) (h3 : ¬ bad k (σ 11 (ix p) 1)) (h2 : ¬ bad q (σ 0 0 7)) : K_note σ p k q = 0 := by unfold K_note; rw [if_neg (fun h => h.elim h1 (fun h => h.elim h3 h2))]
set_option maxRecDepth 100000 in
set_option maxHeartbeats 4000000 in
theorem c_X5_position {l : Launch} {D : va_G} {ad : Nat → Nat → Nat} {cy : Nat → ClassId} {A : Nat → Prop} {sa : Nat → Nat} {σ : St} {x y z : Int32} (hI : Inv σ) : XI l D ad cy A sa yX5_position cX5_position 4 (some .int) 6 4 σ [.ref (ad 0 0), .int x, .int y, .int z] (fun r σ' => K_note σ x y z = 0 ∧ r = valP σ (ix x) (ix y) (ix z) ∧ SameC σ σ') (fun E u => σ = u ∧ pxK [IOOBE] (K_note σ x y z) E) := by
  refine XI.mk "FretSchool" (by decide) rfl (Nat.le_of_ble_eq_true rfl) rfl ?_
  intro p e s m args below meth c C hex
  change Z _ _ _ _ _ _ _ _ _ _ _ _ _ _ _ _ _ _ _ [some (.ref (ad 0 0)), some (.int x), some (.int y), some (.int z)] 0 []
  refine z_aload_n C dX5_position_0 rfl ?_
  refine z_iload_n C dX5_position_1 rfl ?_
  refine z_iload_n C dX5_position_2 rfl ?_
  refine y_cvv C (As := [_, _]) (c_X5_needNote hI) okX5_needNote wd342 rc_0 (rok (by decide) (by decide)) ⟨Nat.le_of_ble_eq_true rfl, Nat.le_of_ble_eq_true rfl⟩ rfl (Nat.le_of_ble_eq_true rfl) dX5_position_3 (x_on C hex (by decide) (by decide) (fun E u h => ⟨h.1, by unfold K_note; rw [if_pos (h.2.2.elim Or.inl (fun q => Or.inr (Or.inl q)))]; exact ⟨by decide, congrArg some h.2.1.symm⟩⟩)) ?_
  rintro _ ⟨rfl, hrp, hrk⟩
  obtain ⟨np, hnp, enp⟩ := hI.1
  rw [enp] at hrp
  obtain ⟨ep, hp1, hp2⟩ := nbad hnp (by decide) hrp
  rw [← enp] at hrp
  obtain ⟨ecp, hcp⟩ := hI.2.2.2.1 (ix x) hp2
  rw [ecp] at hrk
  obtain ⟨ek, hk1, hk2⟩ := nbad hcp (by decide) hrk
  rw [← ecp] at hrk
  refine z_aload_n C dX5_position_6 rfl ?_
  refine z_iload_n C dX5_position_7 rfl ?_
  refine z_iload_n C dX5_position_8 rfl ?_
  refine y_cvi C (As := [_, _]) (c_X5_findBest hI) okX5_findBest wd381 rc_0 (rok (by decide) (by decide)) ⟨Nat.le_of_ble_eq_true rfl, Nat.le_of_ble_eq_true rfl⟩ rfl (Nat.le_of_ble_eq_true rfl) dX5_position_9 (x_on C hex (by decide) (by decide) (fun E u h => ⟨h.1, by unfold K_note; rw [if_pos (h.2.2.elim Or.inl (fun q => Or.inr (Or.inr q)))]; exact ⟨by decide, congrArg some h.2.1.symm⟩⟩)) ?_
  rintro r9 σ2 ⟨hvp, hvq, hsm, hbq⟩
  refine z_if_eq C 27 dX5_position_12 (by decide) (fun c_12 => ?_) (fun c_12 => ?_)
  · refine z_iconst C (v := (-1)) dX5_position_27 (by decide) ?_
    refine y_ret (by decide) (by decide) ?_
    refine z_iret C dX5_position_28 ?_
    refine ⟨K_note_0 hrp hrk hvq, ?_, hsm⟩
    rcases hbq with ⟨h1, h2, h3, h4, h5⟩ | ⟨h1, h2⟩
    · rw [h1] at c_12; exact absurd c_12 (by decide)
    · unfold valP; rw [if_neg h2]
  · refine z_aload_n C dX5_position_15 rfl ?_
    refine g_0_5 C wd145 dX5_position_16 ?_
    refine g_6_2 C wd124 dX5_position_19 ?_
    refine z_iload_n C dX5_position_22 rfl ?_
    refine a_9 C ek (by omega) dX5_position_23 ?_
    refine z_goto C 28 dX5_position_24 (by decide) ?_
    refine y_ret (by decide) (by decide) ?_
    refine z_iret C dX5_position_28 ?_
    refine ⟨K_note_0 hrp hrk hvq, ?_, hsm⟩
    rcases hbq with ⟨h1, h2, h3, h4, h5⟩ | ⟨h1, h2⟩
    · unfold valP; rw [if_pos h2, h5 _ hk1]
    · exact absurd h1 c_12
set_option maxRecDepth 100000 in
set_option maxHeartbeats 4000000 in
theorem c_X5_string {l : Launch} {D : va_G} {ad : Nat → Nat → Nat} {cy : Nat → ClassId} {A : Nat → Prop} {sa : Nat → Nat} {σ : St} {x y z : Int32} (hI : Inv σ) : XI l D ad cy A sa yX5_string cX5_string 4 (some .int) 6 4 σ [.ref (ad 0 0), .int x, .int y, .int z] (fun r σ' => K_note σ x y z = 0 ∧ r = valT σ (ix x) (ix y) (ix z) ∧ SameC σ σ') (fun E u => σ = u ∧ pxK [IOOBE] (K_note σ x y z) E) := by
  refine XI.mk "FretSchool" (by decide) rfl (Nat.le_of_ble_eq_true rfl) rfl ?_
  intro p e s m args below meth c C hex
  change Z _ _ _ _ _ _ _ _ _ _ _ _ _ _ _ _ _ _ _ [some (.ref (ad 0 0)), some (.int x), some (.int y), some (.int z)] 0 []
  refine z_aload_n C dX5_string_0 rfl ?_
  refine z_iload_n C dX5_string_1 rfl ?_
  refine z_iload_n C dX5_string_2 rfl ?_
  refine y_cvv C (As := [_, _]) (c_X5_needNote hI) okX5_needNote wd342 rc_0 (rok (by decide) (by decide)) ⟨Nat.le_of_ble_eq_true rfl, Nat.le_of_ble_eq_true rfl⟩ rfl (Nat.le_of_ble_eq_true rfl) dX5_string_3 (x_on C hex (by decide) (by decide) (fun E u h => ⟨h.1, by unfold K_note; rw [if_pos (h.2.2.elim Or.inl (fun q => Or.inr (Or.inl q)))]; exact ⟨by decide, congrArg some h.2.1.symm⟩⟩)) ?_
  rintro _ ⟨rfl, hrp, hrk⟩
  obtain ⟨np, hnp, enp⟩ := hI.1
  rw [enp] at hrp
  obtain ⟨ep, hp1, hp2⟩ := nbad hnp (by decide) hrp
  rw [← enp] at hrp
  obtain ⟨ecp, hcp⟩ := hI.2.2.2.1 (ix x) hp2
  rw [ecp] at hrk
  obtain ⟨ek, hk1, hk2⟩ := nbad hcp (by decide) hrk
  rw [← ecp] at hrk
  refine z_aload_n C dX5_string_6 rfl ?_
  refine z_iload_n C dX5_string_7 rfl ?_
  refine z_iload_n C dX5_string_8 rfl ?_
  refine y_cvi C (As := [_, _]) (c_X5_findBest hI) okX5_findBest wd381 rc_0 (rok (by decide) (by decide)) ⟨Nat.le_of_ble_eq_true rfl, Nat.le_of_ble_eq_true rfl⟩ rfl (Nat.le_of_ble_eq_true rfl) dX5_string_9 (x_on C hex (by decide) (by decide) (fun E u h => ⟨h.1, by unfold K_note; rw [if_pos (h.2.2.elim Or.inl (fun q => Or.inr (Or.inr q)))]; exact ⟨by decide, congrArg some h.2.1.symm⟩⟩)) ?_
  rintro r9 σ2 ⟨hvp, hvq, hsm, hbq⟩
  obtain ⟨nq, hnq, enq⟩ := hI.2.1
  rw [enq] at hvq
  obtain ⟨eq, hq1, hq2⟩ := nbad hnq (by decide) hvq
  rw [← enq] at hvq
  obtain ⟨efq, hfq4, hfq16⟩ := hI.fr hq2 (by rw [enq]; exact nI_lt hq1 (by omega))
  refine z_if_ne C 17 dX5_string_12 (by decide) (fun c_12 => ?_) (fun c_12 => ?_)
  · refine z_aload_n C dX5_string_17 rfl ?_
    refine g_0_1 C wd141 dX5_string_18 ?_
    refine z_iload_n C dX5_string_21 rfl ?_
    refine a_2 C eq hq2 dX5_string_22 ?_
    refine z_aload_n C dX5_string_23 rfl ?_
    refine g_0_0 C wd140 dX5_string_24 ?_
    refine z_iload_n C dX5_string_27 rfl ?_
    refine a_1 C ep hp2 dX5_string_28 ?_
    refine g_11_0 hp2 C wd44 dX5_string_29 ?_
    refine z_iload_n C dX5_string_32 rfl ?_
    refine a_12 hp2 C ek (by omega) dX5_string_33 ?_
    refine z_aload_n C dX5_string_34 rfl ?_
    refine g_0_5 C wd145 dX5_string_35 ?_
    refine g_6_2 C wd124 dX5_string_38 ?_
    refine z_iload_n C dX5_string_41 rfl ?_
    refine a_9 C ek (by omega) dX5_string_42 ?_
    refine z_cvi C (As := [_, _]) (c_X1_lowestString hq2) okX1_lowestString wd411 (rc_13 hq2) (rok (by decide) (by decide)) ⟨Nat.le_of_ble_eq_true rfl, Nat.le_of_ble_eq_true rfl⟩ rfl (Nat.le_of_ble_eq_true rfl) dX5_string_43 ?_
    rintro r43 _ ⟨rfl, e43⟩
    refine y_ret (by decide) (by decide) ?_
    refine z_iret C dX5_string_46 ?_
    refine ⟨K_note_0 hrp hrk hvq, ?_, hsm⟩
    rcases hbq with ⟨h1, h2, h3, h4, h5⟩ | ⟨h1, h2⟩
    · unfold valT; rw [if_pos h2, e43, h5 _ hk1, hsm 12 (ix x) (ix y) (by decide) (by decide) (by decide) (by decide), show σ2 14 (ix z) = σ 14 (ix z) from funext fun a => hsm 14 (ix z) a (by decide) (by decide) (by decide) (by decide)]
    · exact absurd h1 c_12
  · refine z_iconst C (v := (-1)) dX5_string_15 (by decide) ?_
    refine y_ret (by decide) (by decide) ?_
    refine z_iret C dX5_string_16 ?_
    refine ⟨K_note_0 hrp hrk hvq, ?_, hsm⟩
    rcases hbq with ⟨h1, h2, h3, h4, h5⟩ | ⟨h1, h2⟩
    · rw [h1] at c_12; exact absurd c_12 (by decide)
    · unfold valT; rw [if_neg h2]
noncomputable def lsV (σ : St) (w : Int32) (j q : Nat) : Int32 := if σ 13 q 1 = w ∧ PL σ j q ∧ ¬ σ 15 (ix w) 0 < nI (HG σ j q) then nI (HG σ j q) else -1
theorem SameC.ePL {σ σ' : St} (h : SameC σ σ') (j q : Nat) : PL σ' j q = PL σ j q := by unfold PL BT; rw [h.PF, h.ecN]
theorem SameC.eHG {σ σ' : St} (h : SameC σ σ') (j q : Nat) : HG σ' j q = HG σ j q := by unfold HG; rw [h.PF, h.ecN]
theorem SameC.els {σ σ' : St} (h : SameC σ σ') (w : Int32) (j q : Nat) : lsV σ' w j q = lsV σ w j q := by
  unfold lsV
  have e1 := h.ePL j q
  have e2 := h.eHG j q
  have e3 := h 13 q 1 (by decide) (by decide) (by decide) (by decide)
  have e4 := h 15 (ix w) 0 (by decide) (by decide) (by decide) (by decide)
  by_cases c : σ 13 q 1 = w ∧ PL σ j q ∧ ¬ σ 15 (ix w) 0 < nI (HG σ j q)
  · rw [if_pos c, if_pos (by rw [e1, e2, e3, e4]; exact c), e2]
  · rw [if_neg c, if_neg (by rw [e1, e2, e3, e4]; exact c)]
set_option maxRecDepth 100000 in
set_option maxHeartbeats 4000000 in
theorem c_X5_learnableShift {l : Launch} {D : va_G} {ad : Nat → Nat → Nat} {cy : Nat → ClassId} {A : Nat → Prop} {sa : Nat → Nat} {σ : St} {w x y : Int32} (hI : Inv σ) (hw : w = nI (ix w)) (hw5 : ix w < 5) (hr2 : ¬ bad x (σ 0 0 6)) (hr7 : ¬ bad y (σ 0 0 7)) : MI l D ad cy A sa yX5_learnableShift cX5_learnableShift 5 (some .int) 6 σ [.ref (ad 0 0), .int w, .int x, .int y] (fun r σ' => SameC σ σ' ∧ r = lsV σ w (ix x) (ix y)) := by
  refine MI.mk "FretSchool" (by decide) rfl (Nat.le_of_ble_eq_true rfl) rfl ?_
  intro p e s m args below meth c C
  change Z _ _ _ _ _ _ _ _ _ _ _ _ _ _ _ _ _ _ _ [some (.ref (ad 0 0)), some (.int w), some (.int x), some (.int y), none] 0 []
  obtain ⟨np, hnp, enp⟩ := hI.1
  rw [enp] at hr2
  obtain ⟨ep, hp1, hp2⟩ := nbad hnp (by decide) hr2
  rw [← enp] at hr2
  obtain ⟨ecp, hcp⟩ := hI.2.2.2.1 (ix x) hp2
  obtain ⟨nq, hnq, enq⟩ := hI.2.1
  rw [enq] at hr7
  obtain ⟨eq, hq1, hq2⟩ := nbad hnq (by decide) hr7
  rw [← enq] at hr7
  obtain ⟨efq, hfq4, hfq16⟩ := hI.fr hq2 (by rw [enq]; exact nI_lt hq1 (by omega))
  refine z_aload_n C dX5_learnableShift_0 rfl ?_
  refine g_0_1 C wd141 dX5_learnableShift_1 ?_
  refine z_iload_n C dX5_learnableShift_4 rfl ?_
  refine a_2 C eq hq2 dX5_learnableShift_5 ?_
  refine z_astore C dX5_learnableShift_6 (by decide) ?_
  dsimp only [List.set]
  refine z_aload C dX5_learnableShift_8 rfl ?_
  refine g_13_1 hq2 C wd64 dX5_learnableShift_10 ?_
  refine z_iload_n C dX5_learnableShift_13 rfl ?_
  refine z_icmp_ne C 35 dX5_learnableShift_14 (by decide) (fun c_14 => ?_) (fun c_14 => ?_)
  · refine z_iconst C (v := (-1)) dX5_learnableShift_35 (by decide) ?_
    refine z_iret C dX5_learnableShift_36 ?_
    exact ⟨SameC.rf, by unfold lsV; rw [if_neg (fun q => c_14 q.1)]⟩
  · refine z_aload_n C dX5_learnableShift_17 rfl ?_
    refine g_0_5 C wd145 dX5_learnableShift_18 ?_
    refine z_aload_n C dX5_learnableShift_21 rfl ?_
    refine g_0_0 C wd140 dX5_learnableShift_22 ?_
    refine z_iload_n C dX5_learnableShift_25 rfl ?_
    refine a_1 C ep hp2 dX5_learnableShift_26 ?_
    refine z_aload C dX5_learnableShift_27 rfl ?_
    refine z_cvi C (As := [_, _]) (c_X0_placeBest hp2 hq2 ecp hcp efq hfq4 hfq16) okX0_placeBest wd293 rc_6 (rok (by decide) (by decide)) ⟨Nat.le_of_ble_eq_true rfl, Nat.le_of_ble_eq_true rfl⟩ rfl (Nat.le_of_ble_eq_true rfl) dX5_learnableShift_29 ?_
    rintro r29 σ2 ⟨hfr, hq29⟩
    have hsm : SameC σ σ2 := fun a b c0 h6 h7 h9 h10 => hfr a b c0 h6 h7 h9 h10
    have hbq : BestQ σ σ2 (ix x) (ix y) r29 := by
      rcases hq29 with ⟨h1, h2, h3, h4, h5, h6⟩ | ⟨h1, h2⟩
      · exact Or.inl ⟨h1, ⟨h2, h3⟩, h4, h5, h6⟩
      · exact Or.inr ⟨h1, fun h => h2.elim (fun q => absurd h.1 (Nat.not_lt.mpr (Nat.le_of_eq q))) (fun q => absurd h.2 (Nat.not_lt.mpr (Nat.le_of_eq q.symm)))⟩
    refine z_if_ne C 37 dX5_learnableShift_32 (by decide) (fun c_32 => ?_) (fun c_32 => ?_)
    · refine z_aload_n C dX5_learnableShift_37 rfl ?_
      refine g_0_5 C wd145 dX5_learnableShift_38 ?_
      refine g_6_4 C wd128 dX5_learnableShift_41 ?_
      refine z_aload_n C dX5_learnableShift_44 rfl ?_
      refine g_0_2 C wd142 dX5_learnableShift_45 ?_
      refine z_iload_n C dX5_learnableShift_48 rfl ?_
      refine a_3 C hw hw5 dX5_learnableShift_49 ?_
      refine g_15_0 hw5 C wd81 dX5_learnableShift_50 ?_
      refine z_icmp_gt C 66 dX5_learnableShift_53 (by decide) (fun c_53 => ?_) (fun c_53 => ?_)
      · refine z_iconst C (v := (-1)) dX5_learnableShift_66 (by decide) ?_
        refine z_iret C dX5_learnableShift_67 ?_
        refine ⟨hsm, ?_⟩
        rcases hbq with ⟨h1, h2, h3, h4, h5⟩ | ⟨h1, h2⟩
        · rw [h4, hsm 15 (ix w) 0 (by decide) (by decide) (by decide) (by decide)] at c_53
          unfold lsV
          rw [if_neg (fun q => q.2.2 c_53)]
        · exact absurd h1 c_32
      · refine z_aload_n C dX5_learnableShift_56 rfl ?_
        refine g_0_5 C wd145 dX5_learnableShift_57 ?_
        refine g_6_4 C wd128 dX5_learnableShift_60 ?_
        refine z_goto C 67 dX5_learnableShift_63 (by decide) ?_
        refine z_iret C dX5_learnableShift_67 ?_
        refine ⟨hsm, ?_⟩
        rcases hbq with ⟨h1, h2, h3, h4, h5⟩ | ⟨h1, h2⟩
        · rw [h4, hsm 15 (ix w) 0 (by decide) (by decide) (by decide) (by decide)] at c_53
          unfold lsV
          rw [if_pos ⟨c_14, h2, c_53⟩, h4]
        · exact absurd h1 c_32
    · refine z_iconst C (v := (-1)) dX5_learnableShift_35 (by decide) ?_
      refine z_iret C dX5_learnableShift_36 ?_
      refine ⟨hsm, ?_⟩
      rcases hbq with ⟨h1, h2, h3, h4, h5⟩ | ⟨h1, h2⟩
      · rw [h1] at c_32; exact absurd c_32 (by decide)
      · unfold lsV; rw [if_neg (fun q => h2 q.2.1)]
end
section
/-! ===== the class FretSchool: the rest ===== -/
noncomputable def K_pitch (σ : St) (p k : Int32) : Nat := by classical exact if bad p (σ 0 0 6) ∨ bad k (σ 11 (ix p) 1) then 1 else 0
noncomputable def K_inst (σ : St) (q : Int32) : Nat := by classical exact if bad q (σ 0 0 7) then 1 else 0
noncomputable def K_tune (σ : St) (q t x : Int32) : Nat := by classical exact if bad q (σ 0 0 7) then 1 else if outR t 0 3 ∨ outR x 0 60 then 2 else 0
noncomputable def K_pupil (w : Int32) : Nat := by classical exact if outR w 0 4 then 1 else 0
def canMv (σ : St) (j : Nat) (x : Int32) : Prop := ∀ k, k < cN σ j → okP (σ 12 j k + x)
noncomputable def K_trans (σ : St) (p x : Int32) : Nat := by classical exact if bad p (σ 0 0 6) then 1 else if outR x (-40) 40 then 2 else if ¬ canMv σ (ix p) x then 3 else 0
noncomputable def K_wood (w x : Int32) : Nat := by classical exact if outR w 0 3 ∨ outR x 1 20 then 1 else 0
noncomputable def K_ready (σ : St) (r : Int32) : Nat := by classical exact if bad r (σ 0 0 8) then 1 else 0
noncomputable def K_pass (σ : St) (x : Int32) : Nat := by classical exact if outR x 1 100 then 1 else if ¬ σ 0 0 9 + x ≤ 5000 then 2 else 0
set_option maxRecDepth 100000 in
set_option maxHeartbeats 4000000 in
theorem c_X5_pitch {l : Launch} {D : va_G} {ad : Nat → Nat → Nat} {cy : Nat → ClassId} {A : Nat → Prop} {sa : Nat → Nat} {σ : St} {x y : Int32} (hI : Inv σ) : XI l D ad cy A sa yX5_pitch cX5_pitch 3 (some .int) 2 2 σ [.ref (ad 0 0), .int x, .int y] (fun r σ' => K_pitch σ x y = 0 ∧ r = σ 12 (ix x) (ix y) ∧ σ = σ') (fun E u => σ = u ∧ pxK [IOOBE] (K_pitch σ x y) E) := by
  refine XI.mk "FretSchool" (by decide) rfl (Nat.le_of_ble_eq_true rfl) rfl ?_
  intro p e s m args below meth c C hex
  change Z _ _ _ _ _ _ _ _ _ _ _ _ _ _ _ _ _ _ _ [some (.ref (ad 0 0)), some (.int x), some (.int y)] 0 []
  refine z_aload_n C dX5_pitch_0 rfl ?_
  refine z_iload_n C dX5_pitch_1 rfl ?_
  refine z_iload_n C dX5_pitch_2 rfl ?_
  refine y_cvv C (As := [_, _]) (c_X5_needNote hI) okX5_needNote wd342 rc_0 (rok (by decide) (by decide)) ⟨Nat.le_of_ble_eq_true rfl, Nat.le_of_ble_eq_true rfl⟩ rfl (Nat.le_of_ble_eq_true rfl) dX5_pitch_3 (x_on C hex (by decide) (by decide) (fun E u h => ⟨h.1, by unfold K_pitch; rw [if_pos h.2.2]; exact ⟨by decide, congrArg some h.2.1.symm⟩⟩)) ?_
  rintro _ ⟨rfl, hrp, hrk⟩
  obtain ⟨np, hnp, enp⟩ := hI.1
  rw [enp] at hrp
  obtain ⟨ep, hp1, hp2⟩ := nbad hnp (by decide) hrp
  rw [← enp] at hrp
  obtain ⟨ecp, hcp⟩ := hI.2.2.2.1 (ix x) hp2
  rw [ecp] at hrk
  obtain ⟨ek, hk1, hk2⟩ := nbad hcp (by decide) hrk
  rw [← ecp] at hrk
  refine z_aload_n C dX5_pitch_6 rfl ?_
  refine g_0_0 C wd140 dX5_pitch_7 ?_
  refine z_iload_n C dX5_pitch_10 rfl ?_
  refine a_1 C ep hp2 dX5_pitch_11 ?_
  refine g_11_0 hp2 C wd44 dX5_pitch_12 ?_
  refine z_iload_n C dX5_pitch_15 rfl ?_
  refine a_12 hp2 C ek (by omega) dX5_pitch_16 ?_
  refine y_ret (by decide) (by decide) ?_
  refine z_iret C dX5_pitch_17 ?_
  exact ⟨by unfold K_pitch; rw [if_neg (fun h => h.elim hrp hrk)], rfl, rfl⟩
set_option maxRecDepth 100000 in
set_option maxHeartbeats 4000000 in
theorem c_X5_owner {l : Launch} {D : va_G} {ad : Nat → Nat → Nat} {cy : Nat → ClassId} {A : Nat → Prop} {sa : Nat → Nat} {σ : St} {x : Int32} (hI : Inv σ) : XI l D ad cy A sa yX5_owner cX5_owner 2 (some .int) 1 1 σ [.ref (ad 0 0), .int x] (fun r σ' => K_inst σ x = 0 ∧ r = σ 13 (ix x) 1 ∧ σ = σ') (fun E u => σ = u ∧ pxK [IOOBE] (K_inst σ x) E) := by
  refine XI.mk "FretSchool" (by decide) rfl (Nat.le_of_ble_eq_true rfl) rfl ?_
  intro p e s m args below meth c C hex
  change Z _ _ _ _ _ _ _ _ _ _ _ _ _ _ _ _ _ _ _ [some (.ref (ad 0 0)), some (.int x)] 0 []
  refine z_aload_n C dX5_owner_0 rfl ?_
  refine z_iload_n C dX5_owner_1 rfl ?_
  refine y_cvv C (As := [_]) (c_X5_needInstrument) okX5_needInstrument wd385 rc_0 (rok (by decide) (by decide)) ⟨Nat.le_of_ble_eq_true rfl, Nat.le_of_ble_eq_true rfl⟩ rfl (Nat.le_of_ble_eq_true rfl) dX5_owner_2 (x_on C hex (by decide) (by decide) (fun E u h => ⟨h.1, by unfold K_inst; rw [if_pos h.2.2]; exact ⟨by decide, congrArg some h.2.1.symm⟩⟩)) ?_
  rintro _ ⟨rfl, hr2⟩
  obtain ⟨nq, hnq, enq⟩ := hI.2.1
  rw [enq] at hr2
  obtain ⟨eq, hq1, hq2⟩ := nbad hnq (by decide) hr2
  rw [← enq] at hr2
  obtain ⟨efq, hfq4, hfq16⟩ := hI.fr hq2 (by rw [enq]; exact nI_lt hq1 (by omega))
  refine z_aload_n C dX5_owner_5 rfl ?_
  refine g_0_1 C wd141 dX5_owner_6 ?_
  refine z_iload_n C dX5_owner_9 rfl ?_
  refine a_2 C eq hq2 dX5_owner_10 ?_
  refine g_13_1 hq2 C wd64 dX5_owner_11 ?_
  refine y_ret (by decide) (by decide) ?_
  refine z_iret C dX5_owner_14 ?_
  exact ⟨by unfold K_inst; rw [if_neg hr2], rfl, rfl⟩
set_option maxRecDepth 100000 in
set_option maxHeartbeats 4000000 in
theorem c_X5_instruments {l : Launch} {D : va_G} {ad : Nat → Nat → Nat} {cy : Nat → ClassId} {A : Nat → Prop} {sa : Nat → Nat} {σ : St} : MI l D ad cy A sa yX5_instruments cX5_instruments 1 (some .int) 0 σ [.ref (ad 0 0)] (fun r σ' => r = σ 0 0 7 ∧ σ = σ') := by
  refine MI.mk "FretSchool" (by decide) rfl (Nat.le_of_ble_eq_true rfl) rfl ?_
  intro p e s m args below meth c C
  change Z _ _ _ _ _ _ _ _ _ _ _ _ _ _ _ _ _ _ _ [some (.ref (ad 0 0))] 0 []
  refine z_aload_n C dX5_instruments_0 rfl ?_
  refine g_0_7 C wd147 dX5_instruments_1 ?_
  refine z_iret C dX5_instruments_4 ?_
  exact ⟨rfl, rfl⟩
set_option maxRecDepth 100000 in
set_option maxHeartbeats 4000000 in
theorem c_X5_today {l : Launch} {D : va_G} {ad : Nat → Nat → Nat} {cy : Nat → ClassId} {A : Nat → Prop} {sa : Nat → Nat} {σ : St} : MI l D ad cy A sa yX5_today cX5_today 1 (some .int) 0 σ [.ref (ad 0 0)] (fun r σ' => r = σ 0 0 9 ∧ σ = σ') := by
  refine MI.mk "FretSchool" (by decide) rfl (Nat.le_of_ble_eq_true rfl) rfl ?_
  intro p e s m args below meth c C
  change Z _ _ _ _ _ _ _ _ _ _ _ _ _ _ _ _ _ _ _ [some (.ref (ad 0 0))] 0 []
  refine z_aload_n C dX5_today_0 rfl ?_
  refine g_0_9 C wd149 dX5_today_1 ?_
  refine z_iret C dX5_today_4 ?_
  exact ⟨rfl, rfl⟩
set_option maxRecDepth 100000 in
set_option maxHeartbeats 4000000 in
theorem c_X5_tune {l : Launch} {D : va_G} {ad : Nat → Nat → Nat} {cy : Nat → ClassId} {A : Nat → Prop} {sa : Nat → Nat} {σ : St} {x y z : Int32} (hI : Inv σ) : XI l D ad cy A sa yX5_tune cX5_tune 6 (some .int) 1 3 σ [.ref (ad 0 0), .int x, .int y, .int z] (fun r σ' => K_tune σ x y z = 0 ∧ r = σ 14 (ix x) (ix y) ∧ up σ 14 (ix x) (ix y) z = σ') (fun E u => σ = u ∧ pxK [IOOBE, IAE] (K_tune σ x y z) E) := by
  refine XI.mk "FretSchool" (by decide) rfl (Nat.le_of_ble_eq_true rfl) rfl ?_
  intro p e s m args below meth c C hex
  change Z _ _ _ _ _ _ _ _ _ _ _ _ _ _ _ _ _ _ _ [some (.ref (ad 0 0)), some (.int x), some (.int y), some (.int z), none, none] 0 []
  refine z_aload_n C dX5_tune_0 rfl ?_
  refine z_iload_n C dX5_tune_1 rfl ?_
  refine y_cvv C (As := [_]) (c_X5_needInstrument) okX5_needInstrument wd385 rc_0 (rok (by decide) (by decide)) ⟨Nat.le_of_ble_eq_true rfl, Nat.le_of_ble_eq_true rfl⟩ rfl (Nat.le_of_ble_eq_true rfl) dX5_tune_2 (x_on C hex (by decide) (by decide) (fun E u h => ⟨h.1, by unfold K_tune; rw [if_pos h.2.2]; exact ⟨by decide, congrArg some h.2.1.symm⟩⟩)) ?_
  rintro _ ⟨rfl, hr2⟩
  obtain ⟨nq, hnq, enq⟩ := hI.2.1
  rw [enq] at hr2
  obtain ⟨eq, hq1, hq2⟩ := nbad hnq (by decide) hr2
  rw [← enq] at hr2
  obtain ⟨efq, hfq4, hfq16⟩ := hI.fr hq2 (by rw [enq]; exact nI_lt hq1 (by omega))
  refine z_iload_n C dX5_tune_5 rfl ?_
  refine z_iconst C (v := 0) dX5_tune_6 (by decide) ?_
  refine z_iconst C (v := 3) dX5_tune_7 (by decide) ?_
  refine y_csv C (As := [_, _, _]) (c_X5_needRange) okX5_needRange wd195 (rok (by decide) (by decide)) ⟨Nat.le_of_ble_eq_true rfl, Nat.le_of_ble_eq_true rfl⟩ rfl (Nat.le_of_ble_eq_true rfl) dX5_tune_8 (x_on C hex (by decide) (by decide) (fun E u h => ⟨h.1, by unfold K_tune; rw [if_neg hr2, if_pos (Or.inl h.2.2)]; exact ⟨by decide, congrArg some h.2.1.symm⟩⟩)) ?_
  rintro _ ⟨rfl, hr8⟩
  obtain ⟨et, ht3⟩ := nout (n := 3) (by decide) hr8
  refine z_iload_n C dX5_tune_11 rfl ?_
  refine z_iconst C (v := 0) dX5_tune_12 (by decide) ?_
  refine z_bipush C (v := 60) dX5_tune_13 (by decide) ?_
  refine y_csv C (As := [_, _, _]) (c_X5_needRange) okX5_needRange wd195 (rok (by decide) (by decide)) ⟨Nat.le_of_ble_eq_true rfl, Nat.le_of_ble_eq_true rfl⟩ rfl (Nat.le_of_ble_eq_true rfl) dX5_tune_15 (x_on C hex (by decide) (by decide) (fun E u h => ⟨h.1, by unfold K_tune; rw [if_neg hr2, if_pos (Or.inr h.2.2)]; exact ⟨by decide, congrArg some h.2.1.symm⟩⟩)) ?_
  rintro _ ⟨rfl, hr15⟩
  refine z_aload_n C dX5_tune_18 rfl ?_
  refine g_0_1 C wd141 dX5_tune_19 ?_
  refine z_iload_n C dX5_tune_22 rfl ?_
  refine a_2 C eq hq2 dX5_tune_23 ?_
  refine g_13_0 hq2 C wd62 dX5_tune_24 ?_
  refine z_astore C dX5_tune_27 (by decide) ?_
  dsimp only [List.set]
  refine z_aload C dX5_tune_29 rfl ?_
  refine z_iload_n C dX5_tune_31 rfl ?_
  refine a_14 hq2 C et (by omega) dX5_tune_32 ?_
  refine z_istore C dX5_tune_33 (by decide) ?_
  dsimp only [List.set]
  refine z_aload C dX5_tune_35 rfl ?_
  refine z_iload_n C dX5_tune_37 rfl ?_
  refine z_iload_n C dX5_tune_38 rfl ?_
  refine s_14 hq2 C et (by omega) dX5_tune_39 ?_
  refine z_iload C dX5_tune_40 rfl ?_
  refine y_ret (by decide) (by decide) ?_
  refine z_iret C dX5_tune_42 ?_
  exact ⟨by unfold K_tune; rw [if_neg hr2, if_neg (fun h => h.elim hr8 hr15)], rfl, rfl⟩
set_option maxRecDepth 100000 in
set_option maxHeartbeats 4000000 in
theorem c_X5_level {l : Launch} {D : va_G} {ad : Nat → Nat → Nat} {cy : Nat → ClassId} {A : Nat → Prop} {sa : Nat → Nat} {σ : St} {x : Int32} : XI l D ad cy A sa yX5_level cX5_level 2 (some .int) 2 1 σ [.ref (ad 0 0), .int x] (fun r σ' => K_pupil x = 0 ∧ r = σ 15 (ix x) 0 ∧ σ = σ') (fun E u => σ = u ∧ pxK [IAE] (K_pupil x) E) := by
  refine XI.mk "FretSchool" (by decide) rfl (Nat.le_of_ble_eq_true rfl) rfl ?_
  intro p e s m args below meth c C hex
  change Z _ _ _ _ _ _ _ _ _ _ _ _ _ _ _ _ _ _ _ [some (.ref (ad 0 0)), some (.int x)] 0 []
  refine z_iload_n C dX5_level_0 rfl ?_
  refine y_csv C (As := [_]) (c_X5_needPupil) okX5_needPupil wd192 (rok (by decide) (by decide)) ⟨Nat.le_of_ble_eq_true rfl, Nat.le_of_ble_eq_true rfl⟩ rfl (Nat.le_of_ble_eq_true rfl) dX5_level_1 (x_on C hex (by decide) (by decide) (fun E u h => ⟨h.1, by unfold K_pupil; rw [if_pos h.2.2]; exact ⟨by decide, congrArg some h.2.1.symm⟩⟩)) ?_
  rintro _ ⟨rfl, hr1⟩
  obtain ⟨ew, hw4⟩ := nout (n := 4) (by decide) hr1
  have hw5 : ix x < 5 := by omega
  refine z_aload_n C dX5_level_4 rfl ?_
  refine g_0_2 C wd142 dX5_level_5 ?_
  refine z_iload_n C dX5_level_8 rfl ?_
  refine a_3 C ew hw5 dX5_level_9 ?_
  refine g_15_0 hw5 C wd81 dX5_level_10 ?_
  refine y_ret (by decide) (by decide) ?_
  refine z_iret C dX5_level_13 ?_
  exact ⟨by unfold K_pupil; rw [if_neg hr1], rfl, rfl⟩
set_option maxRecDepth 100000 in
set_option maxHeartbeats 4000000 in
theorem c_X5_known {l : Launch} {D : va_G} {ad : Nat → Nat → Nat} {cy : Nat → ClassId} {A : Nat → Prop} {sa : Nat → Nat} {σ : St} {x : Int32} : XI l D ad cy A sa yX5_known cX5_known 2 (some .int) 2 1 σ [.ref (ad 0 0), .int x] (fun r σ' => K_pupil x = 0 ∧ r = σ 15 (ix x) 1 ∧ σ = σ') (fun E u => σ = u ∧ pxK [IAE] (K_pupil x) E) := by
  refine XI.mk "FretSchool" (by decide) rfl (Nat.le_of_ble_eq_true rfl) rfl ?_
  intro p e s m args below meth c C hex
  change Z _ _ _ _ _ _ _ _ _ _ _ _ _ _ _ _ _ _ _ [some (.ref (ad 0 0)), some (.int x)] 0 []
  refine z_iload_n C dX5_known_0 rfl ?_
  refine y_csv C (As := [_]) (c_X5_needPupil) okX5_needPupil wd192 (rok (by decide) (by decide)) ⟨Nat.le_of_ble_eq_true rfl, Nat.le_of_ble_eq_true rfl⟩ rfl (Nat.le_of_ble_eq_true rfl) dX5_known_1 (x_on C hex (by decide) (by decide) (fun E u h => ⟨h.1, by unfold K_pupil; rw [if_pos h.2.2]; exact ⟨by decide, congrArg some h.2.1.symm⟩⟩)) ?_
  rintro _ ⟨rfl, hr1⟩
  obtain ⟨ew, hw4⟩ := nout (n := 4) (by decide) hr1
  have hw5 : ix x < 5 := by omega
  refine z_aload_n C dX5_known_4 rfl ?_
  refine g_0_2 C wd142 dX5_known_5 ?_
  refine z_iload_n C dX5_known_8 rfl ?_
  refine a_3 C ew hw5 dX5_known_9 ?_
  refine g_15_1 hw5 C wd83 dX5_known_10 ?_
  refine y_ret (by decide) (by decide) ?_
  refine z_iret C dX5_known_13 ?_
  exact ⟨by unfold K_pupil; rw [if_neg hr1], rfl, rfl⟩
set_option maxRecDepth 100000 in
set_option maxHeartbeats 4000000 in
theorem c_X5_transpose {l : Launch} {D : va_G} {ad : Nat → Nat → Nat} {cy : Nat → ClassId} {A : Nat → Prop} {sa : Nat → Nat} {σ : St} {x y : Int32} (hI : Inv σ) : XV l D ad cy A sa yX5_transpose cX5_transpose 4 (none : Option Jvm.ClassFile.FieldType) 1 3 σ [.ref (ad 0 0), .int x, .int y] (fun σ' => K_trans σ x y = 0 ∧ mvd σ (ix x) y (cN σ (ix x)) = σ') (fun E u => σ = u ∧ pxK [IOOBE, IAE, ISE] (K_trans σ x y) E) := by
  refine XV.mk "FretSchool" (by decide) rfl (Nat.le_of_ble_eq_true rfl) rfl ?_
  intro p e s m args below meth c C hex
  change Z _ _ _ _ _ _ _ _ _ _ _ _ _ _ _ _ _ _ _ [some (.ref (ad 0 0)), some (.int x), some (.int y), none] 0 []
  refine z_aload_n C dX5_transpose_0 rfl ?_
  refine z_iload_n C dX5_transpose_1 rfl ?_
  refine y_cvv C (As := [_]) (c_X5_needPiece) okX5_needPiece wd346 rc_0 (rok (by decide) (by decide)) ⟨Nat.le_of_ble_eq_true rfl, Nat.le_of_ble_eq_true rfl⟩ rfl (Nat.le_of_ble_eq_true rfl) dX5_transpose_2 (x_on C hex (by decide) (by decide) (fun E u h => ⟨h.1, by unfold K_trans; rw [if_pos h.2.2]; exact ⟨by decide, congrArg some h.2.1.symm⟩⟩)) ?_
  rintro _ ⟨rfl, hr2⟩
  obtain ⟨np, hnp, enp⟩ := hI.1
  rw [enp] at hr2
  obtain ⟨ep, hp1, hp2⟩ := nbad hnp (by decide) hr2
  rw [← enp] at hr2
  obtain ⟨ecp, hcp⟩ := hI.2.2.2.1 (ix x) hp2
  refine z_iload_n C dX5_transpose_5 rfl ?_
  refine z_bipush C (v := (-40)) dX5_transpose_6 (by decide) ?_
  refine z_bipush C (v := 40) dX5_transpose_8 (by decide) ?_
  refine y_csv C (As := [_, _, _]) (c_X5_needRange) okX5_needRange wd195 (rok (by decide) (by decide)) ⟨Nat.le_of_ble_eq_true rfl, Nat.le_of_ble_eq_true rfl⟩ rfl (Nat.le_of_ble_eq_true rfl) dX5_transpose_10 (x_on C hex (by decide) (by decide) (fun E u h => ⟨h.1, by unfold K_trans; rw [if_neg hr2, if_pos h.2.2]; exact ⟨by decide, congrArg some h.2.1.symm⟩⟩)) ?_
  rintro _ ⟨rfl, hr10⟩
  refine z_aload_n C dX5_transpose_13 rfl ?_
  refine g_0_0 C wd140 dX5_transpose_14 ?_
  refine z_iload_n C dX5_transpose_17 rfl ?_
  refine a_1 C ep hp2 dX5_transpose_18 ?_
  refine z_astore_n C dX5_transpose_19 (by decide) ?_
  dsimp only [List.set]
  refine z_aload_n C dX5_transpose_20 rfl ?_
  refine z_iload_n C dX5_transpose_21 rfl ?_
  refine z_cvi C (As := [_]) (c_X3_canMove hp2 ecp hcp) okX3_canMove wd486 (rc_11 hp2) (rok (by decide) (by decide)) ⟨Nat.le_of_ble_eq_true rfl, Nat.le_of_ble_eq_true rfl⟩ rfl (Nat.le_of_ble_eq_true rfl) dX5_transpose_22 ?_
  rintro r22 _ ⟨rfl, hc22⟩
  refine z_if_ne C 38 dX5_transpose_25 (by decide) (fun c_25 => ?_) (fun c_25 => ?_)
  · have hcan : canMv σ (ix x) y := hc22.elim (fun h => h.2) (fun h => absurd h.1 c_25)
    refine z_aload_n C dX5_transpose_38 rfl ?_
    refine z_iload_n C dX5_transpose_39 rfl ?_
    refine z_cvv C (As := [_]) (c_X3_move hp2 ecp hcp) okX3_move wd491 (rc_11 hp2) (rok (by decide) (by decide)) ⟨Nat.le_of_ble_eq_true rfl, Nat.le_of_ble_eq_true rfl⟩ rfl (Nat.le_of_ble_eq_true rfl) dX5_transpose_40 ?_
    rintro _ rfl
    refine y_ret (by decide) (by decide) ?_
    refine z_vret C dX5_transpose_43 ?_
    exact ⟨by unfold K_trans; rw [if_neg hr2, if_neg hr10, if_neg (fun h => h hcan)], rfl⟩
  · have hcan : ¬ canMv σ (ix x) y := hc22.elim (fun h => absurd (h.1.symm.trans c_25) (by decide)) (fun h q => by obtain ⟨k, hk, hn⟩ := h.2; exact hn (q k hk))
    refine y_ise C hex (tx := "some pitch would not be from 0 to 80") (List.mem_of_getElem? (i := 4) rfl) dX5_transpose_28 dX5_transpose_31 dX5_transpose_32 dX5_transpose_34 dX5_transpose_37 ⟨Nat.le_of_ble_eq_true rfl, Nat.le_of_ble_eq_true rfl⟩ (by decide) (by decide) ?_
    exact ⟨rfl, by unfold K_trans; rw [if_neg hr2, if_neg hr10, if_pos hcan]; exact ⟨by decide, rfl⟩⟩
set_option maxRecDepth 100000 in
set_option maxHeartbeats 4000000 in
theorem c_X5_addWood {l : Launch} {D : va_G} {ad : Nat → Nat → Nat} {cy : Nat → ClassId} {A : Nat → Prop} {sa : Nat → Nat} {σ : St} {x y : Int32} : XI l D ad cy A sa yX5_addWood cX5_addWood 3 (some .int) 1 2 σ [.ref (ad 0 0), .int x, .int y] (fun r σ' => K_wood x y = 0 ∧ r = σ 5 0 (ix x) + y ∧ up σ 5 0 (ix x) (σ 5 0 (ix x) + y) = σ') (fun E u => σ = u ∧ pxK [IAE] (K_wood x y) E) := by
  refine XI.mk "FretSchool" (by decide) rfl (Nat.le_of_ble_eq_true rfl) rfl ?_
  intro p e s m args below meth c C hex
  change Z _ _ _ _ _ _ _ _ _ _ _ _ _ _ _ _ _ _ _ [some (.ref (ad 0 0)), some (.int x), some (.int y)] 0 []
  refine z_iload_n C dX5_addWood_0 rfl ?_
  refine z_iconst C (v := 0) dX5_addWood_1 (by decide) ?_
  refine z_iconst C (v := 3) dX5_addWood_2 (by decide) ?_
  refine y_csv C (As := [_, _, _]) (c_X5_needRange) okX5_needRange wd195 (rok (by decide) (by decide)) ⟨Nat.le_of_ble_eq_true rfl, Nat.le_of_ble_eq_true rfl⟩ rfl (Nat.le_of_ble_eq_true rfl) dX5_addWood_3 (x_on C hex (by decide) (by decide) (fun E u h => ⟨h.1, by unfold K_wood; rw [if_pos (Or.inl h.2.2)]; exact ⟨by decide, congrArg some h.2.1.symm⟩⟩)) ?_
  rintro _ ⟨rfl, hr3⟩
  obtain ⟨et, ht3⟩ := nout (n := 3) (by decide) hr3
  refine z_iload_n C dX5_addWood_6 rfl ?_
  refine z_iconst C (v := 1) dX5_addWood_7 (by decide) ?_
  refine z_bipush C (v := 20) dX5_addWood_8 (by decide) ?_
  refine y_csv C (As := [_, _, _]) (c_X5_needRange) okX5_needRange wd195 (rok (by decide) (by decide)) ⟨Nat.le_of_ble_eq_true rfl, Nat.le_of_ble_eq_true rfl⟩ rfl (Nat.le_of_ble_eq_true rfl) dX5_addWood_10 (x_on C hex (by decide) (by decide) (fun E u h => ⟨h.1, by unfold K_wood; rw [if_pos (Or.inr h.2.2)]; exact ⟨by decide, congrArg some h.2.1.symm⟩⟩)) ?_
  rintro _ ⟨rfl, hr10⟩
  refine z_aload_n C dX5_addWood_13 rfl ?_
  refine g_0_4 C wd144 dX5_addWood_14 ?_
  refine z_iload_n C dX5_addWood_17 rfl ?_
  refine z_dup2 C dX5_addWood_18 rfl rfl ?_
  refine a_5 C et (by omega) dX5_addWood_19 ?_
  refine z_iload_n C dX5_addWood_20 rfl ?_
  refine z_iadd C dX5_addWood_21 ?_
  refine s_5 C et (by omega) dX5_addWood_22 ?_
  refine z_aload_n C dX5_addWood_23 rfl ?_
  refine g_0_4 C wd144 dX5_addWood_24 ?_
  refine z_iload_n C dX5_addWood_27 rfl ?_
  refine a_5 C et (by omega) dX5_addWood_28 ?_
  refine y_ret (by decide) (by decide) ?_
  refine z_iret C dX5_addWood_29 ?_
  exact ⟨by unfold K_wood; rw [if_neg (fun h => h.elim hr3 hr10)], by rw [up_app, if_pos ⟨rfl, rfl, rfl⟩], rfl⟩
set_option maxRecDepth 100000 in
set_option maxHeartbeats 4000000 in
theorem c_X5_ready {l : Launch} {D : va_G} {ad : Nat → Nat → Nat} {cy : Nat → ClassId} {A : Nat → Prop} {sa : Nat → Nat} {σ : St} {x : Int32} (hI : Inv σ) : XI l D ad cy A sa yX5_ready cX5_ready 2 (some .int) 1 1 σ [.ref (ad 0 0), .int x] (fun r σ' => K_ready σ x = 0 ∧ r = σ 16 (ix x) 2 ∧ σ = σ') (fun E u => σ = u ∧ pxK [IOOBE] (K_ready σ x) E) := by
  refine XI.mk "FretSchool" (by decide) rfl (Nat.le_of_ble_eq_true rfl) rfl ?_
  intro p e s m args below meth c C hex
  change Z _ _ _ _ _ _ _ _ _ _ _ _ _ _ _ _ _ _ _ [some (.ref (ad 0 0)), some (.int x)] 0 []
  refine z_aload_n C dX5_ready_0 rfl ?_
  refine z_iload_n C dX5_ready_1 rfl ?_
  refine y_cvv C (As := [_]) (c_X5_needOrder) okX5_needOrder wd512 rc_0 (rok (by decide) (by decide)) ⟨Nat.le_of_ble_eq_true rfl, Nat.le_of_ble_eq_true rfl⟩ rfl (Nat.le_of_ble_eq_true rfl) dX5_ready_2 (x_on C hex (by decide) (by decide) (fun E u h => ⟨h.1, by unfold K_ready; rw [if_pos h.2.2]; exact ⟨by decide, congrArg some h.2.1.symm⟩⟩)) ?_
  rintro _ ⟨rfl, hr2⟩
  obtain ⟨no, hno, eno⟩ := hI.2.2.1
  rw [eno] at hr2
  obtain ⟨eo, ho1, ho2⟩ := nbad hno (by decide) hr2
  rw [← eno] at hr2
  refine z_aload_n C dX5_ready_5 rfl ?_
  refine g_0_3 C wd143 dX5_ready_6 ?_
  refine z_iload_n C dX5_ready_9 rfl ?_
  refine a_4 C eo ho2 dX5_ready_10 ?_
  refine g_16_2 ho2 C wd101 dX5_ready_11 ?_
  refine y_ret (by decide) (by decide) ?_
  refine z_iret C dX5_ready_14 ?_
  exact ⟨by unfold K_ready; rw [if_neg hr2], rfl, rfl⟩
set_option maxRecDepth 100000 in
set_option maxHeartbeats 4000000 in
theorem c_X5_pass {l : Launch} {D : va_G} {ad : Nat → Nat → Nat} {cy : Nat → ClassId} {A : Nat → Prop} {sa : Nat → Nat} {σ : St} {x : Int32} : XI l D ad cy A sa yX5_pass cX5_pass 2 (some .int) 1 2 σ [.ref (ad 0 0), .int x] (fun r σ' => K_pass σ x = 0 ∧ r = σ 0 0 9 + x ∧ up σ 0 0 9 (σ 0 0 9 + x) = σ') (fun E u => σ = u ∧ pxK [IAE, ISE] (K_pass σ x) E) := by
  refine XI.mk "FretSchool" (by decide) rfl (Nat.le_of_ble_eq_true rfl) rfl ?_
  intro p e s m args below meth c C hex
  change Z _ _ _ _ _ _ _ _ _ _ _ _ _ _ _ _ _ _ _ [some (.ref (ad 0 0)), some (.int x)] 0 []
  refine z_iload_n C dX5_pass_0 rfl ?_
  refine z_iconst C (v := 1) dX5_pass_1 (by decide) ?_
  refine z_bipush C (v := 100) dX5_pass_2 (by decide) ?_
  refine y_csv C (As := [_, _, _]) (c_X5_needRange) okX5_needRange wd195 (rok (by decide) (by decide)) ⟨Nat.le_of_ble_eq_true rfl, Nat.le_of_ble_eq_true rfl⟩ rfl (Nat.le_of_ble_eq_true rfl) dX5_pass_4 (x_on C hex (by decide) (by decide) (fun E u h => ⟨h.1, by unfold K_pass; rw [if_pos h.2.2]; exact ⟨by decide, congrArg some h.2.1.symm⟩⟩)) ?_
  rintro _ ⟨rfl, hr4⟩
  refine z_aload_n C dX5_pass_7 rfl ?_
  refine g_0_9 C wd149 dX5_pass_8 ?_
  refine z_iload_n C dX5_pass_11 rfl ?_
  refine z_iadd C dX5_pass_12 ?_
  refine z_sipush C (v := 5000) dX5_pass_13 (by decide) ?_
  refine z_icmp_le C 29 dX5_pass_16 (by decide) (fun c_16 => ?_) (fun c_16 => ?_)
  · refine z_aload_n C dX5_pass_29 rfl ?_
    refine z_dup C dX5_pass_30 rfl ?_
    refine g_0_9 C wd149 dX5_pass_31 ?_
    refine z_iload_n C dX5_pass_34 rfl ?_
    refine z_iadd C dX5_pass_35 ?_
    refine p_0_9 C wd149 dX5_pass_36 ?_
    refine z_aload_n C dX5_pass_39 rfl ?_
    refine g_0_9 C wd149 dX5_pass_40 ?_
    refine y_ret (by decide) (by decide) ?_
    refine z_iret C dX5_pass_43 ?_
    exact ⟨by unfold K_pass; rw [if_neg hr4, if_neg (fun h => h c_16)], by rw [up_app, if_pos ⟨rfl, rfl, rfl⟩], rfl⟩
  · refine y_ise C hex (tx := "today would be above 5000") (List.mem_of_getElem? (i := 17) rfl) dX5_pass_19 dX5_pass_22 dX5_pass_23 dX5_pass_25 dX5_pass_28 ⟨Nat.le_of_ble_eq_true rfl, Nat.le_of_ble_eq_true rfl⟩ (by decide) (by decide) ?_
    exact ⟨rfl, by unfold K_pass; rw [if_neg hr4, if_pos c_16]; exact ⟨by decide, rfl⟩⟩
def awV (σ : St) : Nat → Int32
  | 0 => 0
  | k + 1 => if σ 16 k 3 = 0 ∧ σ 0 0 9 < σ 16 k 2 then awV σ k + 1 else awV σ k
section
variable {p : Program} {l : Launch} {e : Env} {R : Room} {s : State} {m : MethodId} {args : Array Value} {below : List Frame} {meth : Method} {c : Code} {D : va_G} {ad : Nat → Nat → Nat} {cy : Nat → ClassId} {A : Nat → Prop} {sa : Nat → Nat} {cells slots : Nat} {σ : St}
set_option maxRecDepth 100000 in
set_option maxHeartbeats 4000000 in
theorem lp_X5_ordersAtWork (C : Cx p l s m args meth c cX5_ordersAtWork "FretSchool" 3 (some .int) D ad cy A sa) {n : Nat} (hn : σ 0 0 8 = nI n) (hn20 : n ≤ 20) : ∀ (f j : Nat) (x1 x2 : Int32), x2 = nI j → x1 = awV σ j → j ≤ n → n < j + f → Z p l e (rmD 1 0) s m args below meth c D ad cy A 3 0 0 (MQ below (va_Qi (fun r σ' => r = awV σ n ∧ σ = σ') (Bw D ad cy) A) args s 0 0 A) σ [some (.ref (ad 0 0)), some (.int x1), some (.int x2)] 4 [] := by
  intro f
  induction f with
  | zero => intro j x1 x2 _ _ _ h; exact absurd h (by omega)
  | succ f ih =>
    intro j x1 x2 e2 e1 hj hf
    refine z_iload_n C dX5_ordersAtWork_4 rfl ?_
    refine z_aload_n C dX5_ordersAtWork_5 rfl ?_
    refine g_0_8 C wd148 dX5_ordersAtWork_6 ?_
    refine z_icmp_ge C 49 dX5_ordersAtWork_9 (by decide) (fun c_9 => ?_) (fun c_9 => ?_)
    · have hjn : n ≤ j := by rw [hn, e2, nI_leI (by omega) (by omega)] at c_9; exact c_9
      refine z_iload_n C dX5_ordersAtWork_49 rfl ?_
      refine z_iret C dX5_ordersAtWork_50 ?_
      exact ⟨by rw [e1, show j = n by omega], rfl⟩
    · have hjn : j < n := by rw [hn, e2, nI_leI (by omega) (by omega)] at c_9; omega
      refine z_aload_n C dX5_ordersAtWork_12 rfl ?_
      refine g_0_3 C wd143 dX5_ordersAtWork_13 ?_
      refine z_iload_n C dX5_ordersAtWork_16 rfl ?_
      refine a_4 C e2 (by omega) dX5_ordersAtWork_17 ?_
      refine g_16_3 (by first | assumption | omega) C wd103 dX5_ordersAtWork_18 ?_
      refine z_if_ne C 43 dX5_ordersAtWork_21 (by decide) (fun c_21 => ?_) (fun c_21 => ?_)
      · refine z_iinc C (v := 1) dX5_ordersAtWork_43 rfl (by decide) (by decide) ?_
        dsimp only [List.set]
        refine z_goto C 4 dX5_ordersAtWork_46 (by decide) ?_
        exact ih (j + 1) _ _ (by rw [e2]; exact nI_1 j) (by show _ = if _ then _ else _; rw [if_neg (fun q => c_21 q.1)]; exact e1) (by omega) (by omega)
      · refine z_aload_n C dX5_ordersAtWork_24 rfl ?_
        refine g_0_3 C wd143 dX5_ordersAtWork_25 ?_
        refine z_iload_n C dX5_ordersAtWork_28 rfl ?_
        refine a_4 C e2 (by omega) dX5_ordersAtWork_29 ?_
        refine z_aload_n C dX5_ordersAtWork_30 rfl ?_
        refine g_0_9 C wd149 dX5_ordersAtWork_31 ?_
        refine z_cvi C (As := [_]) (c_X2_isReady (by omega)) okX2_isReady wd529 (rc_16 (by first | assumption | omega)) (rok (by decide) (by decide)) ⟨Nat.le_of_ble_eq_true rfl, Nat.le_of_ble_eq_true rfl⟩ rfl (Nat.le_of_ble_eq_true rfl) dX5_ordersAtWork_34 ?_
        rintro r34 _ ⟨e34, rfl⟩
        refine z_if_ne C 43 dX5_ordersAtWork_37 (by decide) (fun c_37 => ?_) (fun c_37 => ?_)
        · refine z_iinc C (v := 1) dX5_ordersAtWork_43 rfl (by decide) (by decide) ?_
          dsimp only [List.set]
          refine z_goto C 4 dX5_ordersAtWork_46 (by decide) ?_
          exact ih (j + 1) _ _ (by rw [e2]; exact nI_1 j) (by show _ = if _ then _ else _; rw [if_neg (fun q => c_37 (by rw [e34, if_pos q.2]))]; exact e1) (by omega) (by omega)
        · refine z_iinc C (v := 1) dX5_ordersAtWork_40 rfl (by decide) (by decide) ?_
          dsimp only [List.set]
          refine z_iinc C (v := 1) dX5_ordersAtWork_43 rfl (by decide) (by decide) ?_
          dsimp only [List.set]
          refine z_goto C 4 dX5_ordersAtWork_46 (by decide) ?_
          exact ih (j + 1) _ _ (by rw [e2]; exact nI_1 j) (by show _ = if _ then _ else _; rw [if_pos ⟨c_21, Classical.byContradiction fun q => absurd (by rw [e34, if_neg q] at c_37; exact c_37) (by decide)⟩, e1]) (by omega) (by omega)
end
set_option maxRecDepth 100000 in
set_option maxHeartbeats 4000000 in
theorem c_X5_ordersAtWork {l : Launch} {D : va_G} {ad : Nat → Nat → Nat} {cy : Nat → ClassId} {A : Nat → Prop} {sa : Nat → Nat} {σ : St} {n : Nat} (hn : σ 0 0 8 = nI n) (hn20 : n ≤ 20) : MI l D ad cy A sa yX5_ordersAtWork cX5_ordersAtWork 3 (some .int) 1 σ [.ref (ad 0 0)] (fun r σ' => r = awV σ n ∧ σ = σ') := by
  refine MI.mk "FretSchool" (by decide) rfl (Nat.le_of_ble_eq_true rfl) rfl ?_
  intro p e s m args below meth c C
  change Z _ _ _ _ _ _ _ _ _ _ _ _ _ _ _ _ _ _ _ [some (.ref (ad 0 0)), none, none] 0 []
  refine z_iconst C (v := 0) dX5_ordersAtWork_0 (by decide) ?_
  refine z_istore_n C dX5_ordersAtWork_1 (by decide) ?_
  dsimp only [List.set]
  refine z_iconst C (v := 0) dX5_ordersAtWork_2 (by decide) ?_
  refine z_istore_n C dX5_ordersAtWork_3 (by decide) ?_
  dsimp only [List.set]
  exact lp_X5_ordersAtWork C hn hn20 (n + 1) 0 _ _ nI_0.symm rfl (by omega) (by omega)
noncomputable def K_order (σ : St) (w t x : Int32) : Nat := by classical exact if outR w 0 4 ∨ outR t 0 3 ∨ outR x 4 16 then 1 else if ¬ 3 ≤ σ 5 0 (ix t) ∨ ¬ awV σ (ix (σ 0 0 8)) < 2 ∨ ¬ σ 0 0 8 < 20 then 2 else 0
def orderS (σ : St) (n : Nat) (w t x : Int32) : St := up (up (up (up (up σ 5 0 (ix t) (σ 5 0 (ix t) - 3)) 16 n 0 w) 16 n 1 x) 16 n 2 (σ 0 0 9 + 2 * x)) 0 0 8 (nI (n + 1))
theorem K_order_0 {σ : St} {w t x : Int32} (h1 : ¬ outR w 0 4) (h2 : ¬ outR t 0 3) (h3 : ¬ outR x 4 16) (h4 : 3 ≤ σ 5 0 (ix t)) (h5 : awV σ (ix (σ 0 0 8)) < 2) (h6 : σ 0 0 8 < 20) : K_order σ w t x = 0 := by
  unfold K_order
  rw [if_neg (fun h => h.elim h1 (fun h => h.elim h2 h3)), if_neg (fun h => h.elim (fun q => q h4) (fun h => h.elim (fun q => q h5) (fun q => q h6)))]
set_option maxRecDepth 100000 in
set_option maxHeartbeats 4000000 in
theorem c_X5_order {l : Launch} {D : va_G} {ad : Nat → Nat → Nat} {cy : Nat → ClassId} {A : Nat → Prop} {sa : Nat → Nat} {σ : St} {x y z : Int32} (hI : Inv σ) : XI l D ad cy A sa yX5_order cX5_order 5 (some .int) 2 4 σ [.ref (ad 0 0), .int x, .int y, .int z] (fun r σ' => K_order σ x y z = 0 ∧ r = σ 0 0 8 ∧ orderS σ (ix (σ 0 0 8)) x y z = σ') (fun E u => σ = u ∧ pxK [IAE, ISE] (K_order σ x y z) E) := by
  refine XI.mk "FretSchool" (by decide) rfl (Nat.le_of_ble_eq_true rfl) rfl ?_
  intro p e s m args below meth c C hex
  change Z _ _ _ _ _ _ _ _ _ _ _ _ _ _ _ _ _ _ _ [some (.ref (ad 0 0)), some (.int x), some (.int y), some (.int z), none] 0 []
  obtain ⟨no, hno, eno⟩ := hI.2.2.1
  have eix : ix (σ 0 0 8) = no := by rw [eno]; exact nI_clamp (by omega)
  refine z_iload_n C dX5_order_0 rfl ?_
  refine y_csv C (As := [_]) (c_X5_needPupil) okX5_needPupil wd192 (rok (by decide) (by decide)) ⟨Nat.le_of_ble_eq_true rfl, Nat.le_of_ble_eq_true rfl⟩ rfl (Nat.le_of_ble_eq_true rfl) dX5_order_1 (x_on C hex (by decide) (by decide) (fun E u h => ⟨h.1, by unfold K_order; rw [if_pos (Or.inl h.2.2)]; exact ⟨by decide, congrArg some h.2.1.symm⟩⟩)) ?_
  rintro _ ⟨rfl, hr1⟩
  refine z_iload_n C dX5_order_4 rfl ?_
  refine z_iconst C (v := 0) dX5_order_5 (by decide) ?_
  refine z_iconst C (v := 3) dX5_order_6 (by decide) ?_
  refine y_csv C (As := [_, _, _]) (c_X5_needRange) okX5_needRange wd195 (rok (by decide) (by decide)) ⟨Nat.le_of_ble_eq_true rfl, Nat.le_of_ble_eq_true rfl⟩ rfl (Nat.le_of_ble_eq_true rfl) dX5_order_7 (x_on C hex (by decide) (by decide) (fun E u h => ⟨h.1, by unfold K_order; rw [if_pos (Or.inr (Or.inl h.2.2))]; exact ⟨by decide, congrArg some h.2.1.symm⟩⟩)) ?_
  rintro _ ⟨rfl, hr7⟩
  obtain ⟨et, ht3⟩ := nout (n := 3) (by decide) hr7
  refine z_iload_n C dX5_order_10 rfl ?_
  refine z_iconst C (v := 4) dX5_order_11 (by decide) ?_
  refine z_bipush C (v := 16) dX5_order_12 (by decide) ?_
  refine y_csv C (As := [_, _, _]) (c_X5_needRange) okX5_needRange wd195 (rok (by decide) (by decide)) ⟨Nat.le_of_ble_eq_true rfl, Nat.le_of_ble_eq_true rfl⟩ rfl (Nat.le_of_ble_eq_true rfl) dX5_order_14 (x_on C hex (by decide) (by decide) (fun E u h => ⟨h.1, by unfold K_order; rw [if_pos (Or.inr (Or.inr h.2.2))]; exact ⟨by decide, congrArg some h.2.1.symm⟩⟩)) ?_
  rintro _ ⟨rfl, hr14⟩
  refine z_aload_n C dX5_order_17 rfl ?_
  refine g_0_4 C wd144 dX5_order_18 ?_
  refine z_iload_n C dX5_order_21 rfl ?_
  refine a_5 C et (by omega) dX5_order_22 ?_
  refine z_iconst C (v := 3) dX5_order_23 (by decide) ?_
  refine z_icmp_ge C 37 dX5_order_24 (by decide) (fun c_24 => ?_) (fun c_24 => ?_)
  · refine z_aload_n C dX5_order_37 rfl ?_
    refine z_cvi C (As := []) (c_X5_ordersAtWork eno hno) okX5_ordersAtWork wd525 rc_0 (rok (by decide) (by decide)) ⟨Nat.le_of_ble_eq_true rfl, Nat.le_of_ble_eq_true rfl⟩ rfl (Nat.le_of_ble_eq_true rfl) dX5_order_38 ?_
    rintro r38 _ ⟨e38, rfl⟩
    rw [← eix] at e38
    refine z_iconst C (v := 2) dX5_order_41 (by decide) ?_
    refine z_icmp_lt C 55 dX5_order_42 (by decide) (fun c_42 => ?_) (fun c_42 => ?_)
    · refine z_aload_n C dX5_order_55 rfl ?_
      refine g_0_8 C wd148 dX5_order_56 ?_
      refine z_bipush C (v := 20) dX5_order_59 (by decide) ?_
      refine z_icmp_lt C 74 dX5_order_61 (by decide) (fun c_61 => ?_) (fun c_61 => ?_)
      · have hn20 : no < 20 := by rw [eno, show (20 : Int32) = nI 20 from rfl, nI_ltI (by omega) (by omega)] at c_61; exact c_61
        refine z_aload_n C dX5_order_74 rfl ?_
        refine g_0_4 C wd144 dX5_order_75 ?_
        refine z_iload_n C dX5_order_78 rfl ?_
        refine z_dup2 C dX5_order_79 rfl rfl ?_
        refine a_5 C et (by omega) dX5_order_80 ?_
        refine z_iconst C (v := 3) dX5_order_81 (by decide) ?_
        refine z_isub C dX5_order_82 ?_
        refine s_5 C et (by omega) dX5_order_83 ?_
        refine z_aload_n C dX5_order_84 rfl ?_
        refine g_0_8 C wd148 dX5_order_85 ?_
        refine z_istore C dX5_order_88 (by decide) ?_
        dsimp only [List.set]
        refine z_aload_n C dX5_order_90 rfl ?_
        refine g_0_3 C wd143 dX5_order_91 ?_
        refine z_iload C dX5_order_94 rfl ?_
        refine a_4 C (j := no) (by rw [up_app, if_neg (by omega)]; exact eno) hn20 dX5_order_96 ?_
        refine z_iload_n C dX5_order_97 rfl ?_
        refine z_iload_n C dX5_order_98 rfl ?_
        refine z_aload_n C dX5_order_99 rfl ?_
        refine g_0_9 C wd149 dX5_order_100 ?_
        refine z_iconst C (v := 2) dX5_order_103 (by decide) ?_
        refine z_iload_n C dX5_order_104 rfl ?_
        refine z_imul C dX5_order_105 ?_
        refine z_iadd C dX5_order_106 ?_
        refine z_cvv C (As := [_, _, _]) (c_X2_place hn20) okX2_place wd535 (rc_16 hn20) (rok (by decide) (by decide)) ⟨Nat.le_of_ble_eq_true rfl, Nat.le_of_ble_eq_true rfl⟩ rfl (Nat.le_of_ble_eq_true rfl) dX5_order_107 ?_
        rintro _ rfl
        refine z_aload_n C dX5_order_110 rfl ?_
        refine z_dup C dX5_order_111 rfl ?_
        refine g_0_8 C wd148 dX5_order_112 ?_
        refine z_iconst C (v := 1) dX5_order_115 (by decide) ?_
        refine z_iadd C dX5_order_116 ?_
        refine p_0_8 C wd148 dX5_order_117 ?_
        refine z_iload C dX5_order_120 rfl ?_
        refine y_ret (by decide) (by decide) ?_
        refine z_iret C dX5_order_122 ?_
        refine ⟨K_order_0 hr1 hr7 hr14 c_24 (by rw [← e38]; exact c_42) c_61, ?_, ?_⟩
        · rw [up_app, if_neg (by omega)]
        · unfold orderS
          rw [eix]
          simp only [up_app]
          simp only [Nat.reduceEqDiff, false_and, and_false, and_true, true_and, if_false, if_true, eno, nI_1]
      · refine y_ise C hex (tx := "there are 20 orders") (List.mem_of_getElem? (i := 12) rfl) dX5_order_64 dX5_order_67 dX5_order_68 dX5_order_70 dX5_order_73 ⟨Nat.le_of_ble_eq_true rfl, Nat.le_of_ble_eq_true rfl⟩ (by decide) (by decide) ?_
        exact ⟨rfl, by unfold K_order; rw [if_neg (fun h => h.elim hr1 (fun h => h.elim hr7 hr14)), if_pos (Or.inr (Or.inr c_61))]; exact ⟨by decide, rfl⟩⟩
    · refine y_ise C hex (tx := "two orders are at work") (List.mem_of_getElem? (i := 11) rfl) dX5_order_45 dX5_order_48 dX5_order_49 dX5_order_51 dX5_order_54 ⟨Nat.le_of_ble_eq_true rfl, Nat.le_of_ble_eq_true rfl⟩ (by decide) (by decide) ?_
      exact ⟨rfl, by unfold K_order; rw [if_neg (fun h => h.elim hr1 (fun h => h.elim hr7 hr14)), if_pos (Or.inr (Or.inl (by rw [← e38]; exact c_42)))]; exact ⟨by decide, rfl⟩⟩
  · refine y_ise C hex (tx := "there is too little of the wood") (List.mem_of_getElem? (i := 10) rfl) dX5_order_27 dX5_order_30 dX5_order_31 dX5_order_33 dX5_order_36 ⟨Nat.le_of_ble_eq_true rfl, Nat.le_of_ble_eq_true rfl⟩ (by decide) (by decide) ?_
    exact ⟨rfl, by unfold K_order; rw [if_neg (fun h => h.elim hr1 (fun h => h.elim hr7 hr14)), if_pos (Or.inl c_24)]; exact ⟨by decide, rfl⟩⟩
noncomputable def K_fetch (σ : St) (r a b c0 d0 : Int32) : Nat := by classical exact if bad r (σ 0 0 8) then 1 else if outR a 0 60 ∨ outR b 0 60 ∨ outR c0 0 60 ∨ outR d0 0 60 then 2 else if σ 0 0 9 < σ 16 (ix r) 2 ∨ ¬ σ 16 (ix r) 3 = 0 ∨ ¬ σ 0 0 7 < 8 then 3 else 0
def fetchS (σ : St) (r n : Nat) (a b c0 d0 : Int32) : St := up (up (up (up (up (up (up (up σ 16 r 3 1) 13 n 1 (σ 16 r 0)) 13 n 2 (σ 16 r 1)) 14 n 0 a) 14 n 1 b) 14 n 2 c0) 14 n 3 d0) 0 0 7 (nI (n + 1))
set_option maxRecDepth 100000 in
set_option maxHeartbeats 4000000 in
theorem c_X5_fetch {l : Launch} {D : va_G} {ad : Nat → Nat → Nat} {cy : Nat → ClassId} {A : Nat → Prop} {sa : Nat → Nat} {σ : St} {x a b c0 d0 : Int32} (hI : Inv σ) : XI l D ad cy A sa yX5_fetch cX5_fetch 8 (some .int) 1 6 σ [.ref (ad 0 0), .int x, .int a, .int b, .int c0, .int d0] (fun r σ' => K_fetch σ x a b c0 d0 = 0 ∧ r = σ 0 0 7 ∧ fetchS σ (ix x) (ix (σ 0 0 7)) a b c0 d0 = σ') (fun E u => σ = u ∧ pxK [IOOBE, IAE, ISE] (K_fetch σ x a b c0 d0) E) := by
  refine XI.mk "FretSchool" (by decide) rfl (Nat.le_of_ble_eq_true rfl) rfl ?_
  intro p e s m args below meth c C hex
  change Z _ _ _ _ _ _ _ _ _ _ _ _ _ _ _ _ _ _ _ [some (.ref (ad 0 0)), some (.int x), some (.int a), some (.int b), some (.int c0), some (.int d0), none, none] 0 []
  obtain ⟨ni, hni, eni⟩ := hI.2.1
  have eix : ix (σ 0 0 7) = ni := by rw [eni]; exact nI_clamp (by omega)
  refine z_aload_n C dX5_fetch_0 rfl ?_
  refine z_iload_n C dX5_fetch_1 rfl ?_
  refine y_cvv C (As := [_]) (c_X5_needOrder) okX5_needOrder wd512 rc_0 (rok (by decide) (by decide)) ⟨Nat.le_of_ble_eq_true rfl, Nat.le_of_ble_eq_true rfl⟩ rfl (Nat.le_of_ble_eq_true rfl) dX5_fetch_2 (x_on C hex (by decide) (by decide) (fun E u h => ⟨h.1, by unfold K_fetch; rw [if_pos h.2.2]; exact ⟨by decide, congrArg some h.2.1.symm⟩⟩)) ?_
  rintro _ ⟨rfl, hr2⟩
  obtain ⟨no, hno, eno⟩ := hI.2.2.1
  rw [eno] at hr2
  obtain ⟨eo, ho1, ho2⟩ := nbad hno (by decide) hr2
  rw [← eno] at hr2
  refine z_iload_n C dX5_fetch_5 rfl ?_
  refine z_iconst C (v := 0) dX5_fetch_6 (by decide) ?_
  refine z_bipush C (v := 60) dX5_fetch_7 (by decide) ?_
  refine y_csv C (As := [_, _, _]) (c_X5_needRange) okX5_needRange wd195 (rok (by decide) (by decide)) ⟨Nat.le_of_ble_eq_true rfl, Nat.le_of_ble_eq_true rfl⟩ rfl (Nat.le_of_ble_eq_true rfl) dX5_fetch_9 (x_on C hex (by decide) (by decide) (fun E u h => ⟨h.1, by unfold K_fetch; rw [if_neg hr2, if_pos (Or.inl h.2.2)]; exact ⟨by decide, congrArg some h.2.1.symm⟩⟩)) ?_
  rintro _ ⟨rfl, hr9⟩
  refine z_iload_n C dX5_fetch_12 rfl ?_
  refine z_iconst C (v := 0) dX5_fetch_13 (by decide) ?_
  refine z_bipush C (v := 60) dX5_fetch_14 (by decide) ?_
  refine y_csv C (As := [_, _, _]) (c_X5_needRange) okX5_needRange wd195 (rok (by decide) (by decide)) ⟨Nat.le_of_ble_eq_true rfl, Nat.le_of_ble_eq_true rfl⟩ rfl (Nat.le_of_ble_eq_true rfl) dX5_fetch_16 (x_on C hex (by decide) (by decide) (fun E u h => ⟨h.1, by unfold K_fetch; rw [if_neg hr2, if_pos (Or.inr (Or.inl h.2.2))]; exact ⟨by decide, congrArg some h.2.1.symm⟩⟩)) ?_
  rintro _ ⟨rfl, hr16⟩
  refine z_iload C dX5_fetch_19 rfl ?_
  refine z_iconst C (v := 0) dX5_fetch_21 (by decide) ?_
  refine z_bipush C (v := 60) dX5_fetch_22 (by decide) ?_
  refine y_csv C (As := [_, _, _]) (c_X5_needRange) okX5_needRange wd195 (rok (by decide) (by decide)) ⟨Nat.le_of_ble_eq_true rfl, Nat.le_of_ble_eq_true rfl⟩ rfl (Nat.le_of_ble_eq_true rfl) dX5_fetch_24 (x_on C hex (by decide) (by decide) (fun E u h => ⟨h.1, by unfold K_fetch; rw [if_neg hr2, if_pos (Or.inr (Or.inr (Or.inl h.2.2)))]; exact ⟨by decide, congrArg some h.2.1.symm⟩⟩)) ?_
  rintro _ ⟨rfl, hr24⟩
  refine z_iload C dX5_fetch_27 rfl ?_
  refine z_iconst C (v := 0) dX5_fetch_29 (by decide) ?_
  refine z_bipush C (v := 60) dX5_fetch_30 (by decide) ?_
  refine y_csv C (As := [_, _, _]) (c_X5_needRange) okX5_needRange wd195 (rok (by decide) (by decide)) ⟨Nat.le_of_ble_eq_true rfl, Nat.le_of_ble_eq_true rfl⟩ rfl (Nat.le_of_ble_eq_true rfl) dX5_fetch_32 (x_on C hex (by decide) (by decide) (fun E u h => ⟨h.1, by unfold K_fetch; rw [if_neg hr2, if_pos (Or.inr (Or.inr (Or.inr h.2.2)))]; exact ⟨by decide, congrArg some h.2.1.symm⟩⟩)) ?_
  rintro _ ⟨rfl, hr32⟩
  refine z_aload_n C dX5_fetch_35 rfl ?_
  refine g_0_3 C wd143 dX5_fetch_36 ?_
  refine z_iload_n C dX5_fetch_39 rfl ?_
  refine a_4 C eo ho2 dX5_fetch_40 ?_
  refine z_astore C dX5_fetch_41 (by decide) ?_
  dsimp only [List.set]
  refine z_aload C dX5_fetch_43 rfl ?_
  refine z_aload_n C dX5_fetch_45 rfl ?_
  refine g_0_9 C wd149 dX5_fetch_46 ?_
  refine z_cvi C (As := [_]) (c_X2_isReady ho2) okX2_isReady wd529 (rc_16 ho2) (rok (by decide) (by decide)) ⟨Nat.le_of_ble_eq_true rfl, Nat.le_of_ble_eq_true rfl⟩ rfl (Nat.le_of_ble_eq_true rfl) dX5_fetch_49 ?_
  rintro r49 _ ⟨e49, rfl⟩
  refine z_if_ne C 65 dX5_fetch_52 (by decide) (fun c_52 => ?_) (fun c_52 => ?_)
  · have hrd : ¬ σ 0 0 9 < σ 16 (ix x) 2 := fun q => c_52 (by rw [e49, if_pos q])
    refine z_aload C dX5_fetch_65 rfl ?_
    refine g_16_3 ho2 C wd103 dX5_fetch_67 ?_
    refine z_if_eq C 83 dX5_fetch_70 (by decide) (fun c_70 => ?_) (fun c_70 => ?_)
    · refine z_aload_n C dX5_fetch_83 rfl ?_
      refine g_0_7 C wd147 dX5_fetch_84 ?_
      refine z_bipush C (v := 8) dX5_fetch_87 (by decide) ?_
      refine z_icmp_lt C 102 dX5_fetch_89 (by decide) (fun c_89 => ?_) (fun c_89 => ?_)
      · have hn8 : ni < 8 := by rw [eni, show (8 : Int32) = nI 8 from rfl, nI_ltI (by omega) (by omega)] at c_89; exact c_89
        refine z_aload C dX5_fetch_102 rfl ?_
        refine z_iconst C (v := 1) dX5_fetch_104 (by decide) ?_
        refine p_16_3 ho2 C (by first | exact Or.inl rfl | exact Or.inr rfl | assumption) wd103 dX5_fetch_105 ?_
        refine z_aload_n C dX5_fetch_108 rfl ?_
        refine g_0_7 C wd147 dX5_fetch_109 ?_
        refine z_istore C dX5_fetch_112 (by decide) ?_
        dsimp only [List.set]
        refine z_aload_n C dX5_fetch_114 rfl ?_
        refine g_0_1 C wd141 dX5_fetch_115 ?_
        refine z_iload C dX5_fetch_118 rfl ?_
        refine a_2 C (j := ni) (by rw [up_app, if_neg (by omega)]; exact eni) hn8 dX5_fetch_120 ?_
        refine z_aload C dX5_fetch_121 rfl ?_
        refine g_16_0 ho2 C wd97 dX5_fetch_123 ?_
        refine z_aload C dX5_fetch_126 rfl ?_
        refine g_16_1 ho2 C wd99 dX5_fetch_128 ?_
        refine z_cvv C (As := [_, _]) (c_X1_build hn8) okX1_build wd560 (rc_13 hn8) (rok (by decide) (by decide)) ⟨Nat.le_of_ble_eq_true rfl, Nat.le_of_ble_eq_true rfl⟩ rfl (Nat.le_of_ble_eq_true rfl) dX5_fetch_131 ?_
        rintro _ rfl
        refine z_aload_n C dX5_fetch_134 rfl ?_
        refine g_0_1 C wd141 dX5_fetch_135 ?_
        refine z_iload C dX5_fetch_138 rfl ?_
        refine a_2 C (j := ni) (by rw [up_app, if_neg (by omega)]; exact eni) hn8 dX5_fetch_140 ?_
        refine z_iload_n C dX5_fetch_141 rfl ?_
        refine z_iload_n C dX5_fetch_142 rfl ?_
        refine z_iload C dX5_fetch_143 rfl ?_
        refine z_iload C dX5_fetch_145 rfl ?_
        refine z_cvv C (As := [_, _, _, _]) (c_X1_tuneAll hn8) okX1_tuneAll wd564 (rc_13 hn8) (rok (by decide) (by decide)) ⟨Nat.le_of_ble_eq_true rfl, Nat.le_of_ble_eq_true rfl⟩ rfl (Nat.le_of_ble_eq_true rfl) dX5_fetch_147 ?_
        rintro _ rfl
        refine z_aload_n C dX5_fetch_150 rfl ?_
        refine z_dup C dX5_fetch_151 rfl ?_
        refine g_0_7 C wd147 dX5_fetch_152 ?_
        refine z_iconst C (v := 1) dX5_fetch_155 (by decide) ?_
        refine z_iadd C dX5_fetch_156 ?_
        refine p_0_7 C wd147 dX5_fetch_157 ?_
        refine z_iload C dX5_fetch_160 rfl ?_
        refine y_ret (by decide) (by decide) ?_
        refine z_iret C dX5_fetch_162 ?_
        refine ⟨by unfold K_fetch; rw [if_neg hr2, if_neg (fun h => h.elim hr9 (fun h => h.elim hr16 (fun h => h.elim hr24 hr32))), if_neg (fun h => h.elim hrd (fun h => h.elim (fun q => q c_70) (fun q => q c_89)))], ?_, ?_⟩
        · rw [up_app, if_neg (by omega)]
        · unfold fetchS
          rw [eix]
          simp only [up_app]
          simp only [Nat.reduceEqDiff, false_and, and_false, and_true, true_and, if_false, if_true, eni, nI_1]
      · refine y_ise C hex (tx := "there are 8 instruments") (List.mem_of_getElem? (i := 16) rfl) dX5_fetch_92 dX5_fetch_95 dX5_fetch_96 dX5_fetch_98 dX5_fetch_101 ⟨Nat.le_of_ble_eq_true rfl, Nat.le_of_ble_eq_true rfl⟩ (by decide) (by decide) ?_
        exact ⟨rfl, by unfold K_fetch; rw [if_neg hr2, if_neg (fun h => h.elim hr9 (fun h => h.elim hr16 (fun h => h.elim hr24 hr32))), if_pos (Or.inr (Or.inr c_89))]; exact ⟨by decide, rfl⟩⟩
    · refine y_ise C hex (tx := "the order was fetched") (List.mem_of_getElem? (i := 15) rfl) dX5_fetch_73 dX5_fetch_76 dX5_fetch_77 dX5_fetch_79 dX5_fetch_82 ⟨Nat.le_of_ble_eq_true rfl, Nat.le_of_ble_eq_true rfl⟩ (by decide) (by decide) ?_
      exact ⟨rfl, by unfold K_fetch; rw [if_neg hr2, if_neg (fun h => h.elim hr9 (fun h => h.elim hr16 (fun h => h.elim hr24 hr32))), if_pos (Or.inr (Or.inl c_70))]; exact ⟨by decide, rfl⟩⟩
  · have hrd : σ 0 0 9 < σ 16 (ix x) 2 := Classical.byContradiction fun q => absurd (by rw [e49, if_neg q] at c_52; exact c_52) (by decide)
    refine y_ise C hex (tx := "the order is not ready") (List.mem_of_getElem? (i := 14) rfl) dX5_fetch_55 dX5_fetch_58 dX5_fetch_59 dX5_fetch_61 dX5_fetch_64 ⟨Nat.le_of_ble_eq_true rfl, Nat.le_of_ble_eq_true rfl⟩ (by decide) (by decide) ?_
    exact ⟨rfl, by unfold K_fetch; rw [if_neg hr2, if_neg (fun h => h.elim hr9 (fun h => h.elim hr16 (fun h => h.elim hr24 hr32))), if_pos (Or.inl hrd)]; exact ⟨by decide, rfl⟩⟩
end
section
/-! ===== the class FretSchool: learn, next ===== -/
noncomputable def esV (σ : St) (w : Int32) (jx : Nat) : Nat → Int32
  | 0 => -1
  | q + 1 => if lsV σ w jx q = -1 then esV σ w jx q else if esV σ w jx q = -1 then lsV σ w jx q else if esV σ w jx q ≤ lsV σ w jx q then esV σ w jx q else lsV σ w jx q
theorem esV_s {σ : St} {w : Int32} {jx q : Nat} : esV σ w jx (q + 1) = if lsV σ w jx q = -1 then esV σ w jx q else if esV σ w jx q = -1 then lsV σ w jx q else if esV σ w jx q ≤ lsV σ w jx q then esV σ w jx q else lsV σ w jx q := rfl
theorem SameC.ees {σ σ' : St} (h : SameC σ σ') (w : Int32) (j : Nat) : ∀ q, esV σ' w j q = esV σ w j q
  | 0 => rfl
  | q + 1 => by rw [esV_s, esV_s, h.ees w j q, h.els]
theorem ok_inst {j n : Nat} (h : j < n) (hn : n ≤ 8) : ¬ bad (nI j) (nI n) := fun q => q.elim (nI_pos (by omega)) (fun q => q (nI_lt h (by omega)))
theorem ix_nI {j : Nat} (h : j < 2 ^ 31) : ix (nI j) = j := nI_clamp h
section
variable {p : Program} {l : Launch} {e : Env} {R : Room} {s : State} {m : MethodId} {args : Array Value} {below : List Frame} {meth : Method} {c : Code} {D : va_G} {ad : Nat → Nat → Nat} {cy : Nat → ClassId} {A : Nat → Prop} {sa : Nat → Nat} {cells slots : Nat} {σ : St}
set_option maxRecDepth 100000 in
set_option maxHeartbeats 4000000 in
theorem lp_X5_easiestShift (C : Cx p l s m args meth c cX5_easiestShift "FretSchool" 6 (some .int) D ad cy A sa) {w x : Int32} {ni : Nat} (hI : Inv σ) (hw : w = nI (ix w)) (hw5 : ix w < 5) (hr2 : ¬ bad x (σ 0 0 6)) (eni : σ 0 0 7 = nI ni) (hni : ni ≤ 8) : ∀ (f j : Nat) (σ' : St) (x3 x4 : Int32) (o5 : Option Value), x4 = nI j → x3 = esV σ w (ix x) j → j ≤ ni → ni < j + f → SameC σ σ' → Z p l e (rmD 7 0) s m args below meth c D ad cy A 6 0 0 (MQ below (va_Qi (fun r σ' => SameC σ σ' ∧ r = esV σ w (ix x) ni) (Bw D ad cy) A) args s 0 0 A) σ' [some (.ref (ad 0 0)), some (.int w), some (.int x), some (.int x3), some (.int x4), o5] 5 [] := by
  intro f
  induction f with
  | zero => intro j σ' x3 x4 o5 _ _ _ h; exact absurd h (by omega)
  | succ f ih =>
    intro j σ' x3 x4 o5 e4 e3 hj hf hsm
    have eni' : σ' 0 0 7 = nI ni := by rw [hsm 0 0 7 (by decide) (by decide) (by decide) (by decide)]; exact eni
    refine z_iload C dX5_easiestShift_5 rfl ?_
    refine z_aload_n C dX5_easiestShift_7 rfl ?_
    refine g_0_7 C wd147 dX5_easiestShift_8 ?_
    refine z_icmp_ge C 50 dX5_easiestShift_11 (by decide) (fun c_11 => ?_) (fun c_11 => ?_)
    · have hjn : ni ≤ j := by rw [eni', e4, nI_leI (by omega) (by omega)] at c_11; exact c_11
      refine z_iload_n C dX5_easiestShift_50 rfl ?_
      refine z_iret C dX5_easiestShift_51 ?_
      exact ⟨hsm, by rw [e3, show j = ni by omega]⟩
    · have hjn : j < ni := by rw [eni', e4, nI_leI (by omega) (by omega)] at c_11; omega
      refine z_aload_n C dX5_easiestShift_14 rfl ?_
      refine z_iload_n C dX5_easiestShift_15 rfl ?_
      refine z_iload_n C dX5_easiestShift_16 rfl ?_
      refine z_iload C dX5_easiestShift_17 rfl ?_
      refine z_cvi C (As := [_, _, _]) (c_X5_learnableShift (hsm.inv hI) hw hw5 (by rw [hsm 0 0 6 (by decide) (by decide) (by decide) (by decide)]; exact hr2) (by rw [eni', e4]; exact ok_inst hjn hni)) okX5_learnableShift wd289 rc_0 (rok (by decide) (by decide)) ⟨Nat.le_of_ble_eq_true rfl, Nat.le_of_ble_eq_true rfl⟩ rfl (Nat.le_of_ble_eq_true rfl) dX5_easiestShift_19 ?_
      rintro r19 σ2 ⟨hsm2, e19⟩
      rw [hsm.els, e4, ix_nI (by omega)] at e19
      refine z_istore C dX5_easiestShift_22 (by decide) ?_
      dsimp only [List.set]
      refine z_iload C dX5_easiestShift_24 rfl ?_
      refine z_iconst C (v := (-1)) dX5_easiestShift_26 (by decide) ?_
      refine z_icmp_eq C 44 dX5_easiestShift_27 (by decide) (fun c_27 => ?_) (fun c_27 => ?_)
      · refine z_iinc C (v := 1) dX5_easiestShift_44 rfl (by decide) (by decide) ?_
        dsimp only [List.set]
        refine z_goto C 5 dX5_easiestShift_47 (by decide) ?_
        exact ih (j + 1) _ _ _ _ (by rw [e4]; exact nI_1 j) (by rw [esV_s, ← e19, if_pos c_27]; exact e3) (by omega) (by omega) (hsm.trans hsm2)
      · refine z_iload_n C dX5_easiestShift_30 rfl ?_
        refine z_iconst C (v := (-1)) dX5_easiestShift_31 (by decide) ?_
        refine z_icmp_eq C 41 dX5_easiestShift_32 (by decide) (fun c_32 => ?_) (fun c_32 => ?_)
        · refine z_iload C dX5_easiestShift_41 rfl ?_
          refine z_istore_n C dX5_easiestShift_43 (by decide) ?_
          dsimp only [List.set]
          refine z_iinc C (v := 1) dX5_easiestShift_44 rfl (by decide) (by decide) ?_
          dsimp only [List.set]
          refine z_goto C 5 dX5_easiestShift_47 (by decide) ?_
          exact ih (j + 1) _ _ _ _ (by rw [e4]; exact nI_1 j) (by rw [esV_s, ← e19, if_neg c_27, ← e3, if_pos c_32]) (by omega) (by omega) (hsm.trans hsm2)
        · refine z_iload C dX5_easiestShift_35 rfl ?_
          refine z_iload_n C dX5_easiestShift_37 rfl ?_
          refine z_icmp_ge C 44 dX5_easiestShift_38 (by decide) (fun c_38 => ?_) (fun c_38 => ?_)
          · refine z_iinc C (v := 1) dX5_easiestShift_44 rfl (by decide) (by decide) ?_
            dsimp only [List.set]
            refine z_goto C 5 dX5_easiestShift_47 (by decide) ?_
            exact ih (j + 1) _ _ _ _ (by rw [e4]; exact nI_1 j) (by rw [esV_s, ← e19, if_neg c_27, ← e3, if_neg c_32, if_pos c_38]) (by omega) (by omega) (hsm.trans hsm2)
          · refine z_iload C dX5_easiestShift_41 rfl ?_
            refine z_istore_n C dX5_easiestShift_43 (by decide) ?_
            dsimp only [List.set]
            refine z_iinc C (v := 1) dX5_easiestShift_44 rfl (by decide) (by decide) ?_
            dsimp only [List.set]
            refine z_goto C 5 dX5_easiestShift_47 (by decide) ?_
            exact ih (j + 1) _ _ _ _ (by rw [e4]; exact nI_1 j) (by rw [esV_s, ← e19, if_neg c_27, ← e3, if_neg c_32, if_neg c_38]) (by omega) (by omega) (hsm.trans hsm2)
end
set_option maxRecDepth 100000 in
set_option maxHeartbeats 4000000 in
theorem c_X5_easiestShift {l : Launch} {D : va_G} {ad : Nat → Nat → Nat} {cy : Nat → ClassId} {A : Nat → Prop} {sa : Nat → Nat} {σ : St} {w x : Int32} {ni : Nat} (hI : Inv σ) (hw : w = nI (ix w)) (hw5 : ix w < 5) (hr2 : ¬ bad x (σ 0 0 6)) (eni : σ 0 0 7 = nI ni) (hni : ni ≤ 8) : MI l D ad cy A sa yX5_easiestShift cX5_easiestShift 6 (some .int) 7 σ [.ref (ad 0 0), .int w, .int x] (fun r σ' => SameC σ σ' ∧ r = esV σ w (ix x) ni) := by
  refine MI.mk "FretSchool" (by decide) rfl (Nat.le_of_ble_eq_true rfl) rfl ?_
  intro p e s m args below meth c C
  change Z _ _ _ _ _ _ _ _ _ _ _ _ _ _ _ _ _ _ _ [some (.ref (ad 0 0)), some (.int w), some (.int x), none, none, none] 0 []
  refine z_iconst C (v := (-1)) dX5_easiestShift_0 (by decide) ?_
  refine z_istore_n C dX5_easiestShift_1 (by decide) ?_
  dsimp only [List.set]
  refine z_iconst C (v := 0) dX5_easiestShift_2 (by decide) ?_
  refine z_istore C dX5_easiestShift_3 (by decide) ?_
  dsimp only [List.set]
  exact lp_X5_easiestShift C hI hw hw5 hr2 eni hni (ni + 1) 0 _ _ _ _ nI_0.symm rfl (by omega) (by omega) SameC.rf
noncomputable def nsV (σ : St) (w : Int32) (ni j : Nat) : Int32 := if σ 15 (ix w) 1 &&& (1 <<< (nI j &&& 31)) = 0 then esV σ w j ni else -1
noncomputable def nxV (σ : St) (w : Int32) (ni : Nat) : Nat → Int32 × Int32
  | 0 => (-1, 0)
  | j + 1 => if nsV σ w ni j = -1 then nxV σ w ni j else if (nxV σ w ni j).1 = -1 then (nI j, nsV σ w ni j) else if (nxV σ w ni j).2 ≤ nsV σ w ni j then nxV σ w ni j else (nI j, nsV σ w ni j)
theorem nxV_s {σ : St} {w : Int32} {ni j : Nat} : nxV σ w ni (j + 1) = if nsV σ w ni j = -1 then nxV σ w ni j else if (nxV σ w ni j).1 = -1 then (nI j, nsV σ w ni j) else if (nxV σ w ni j).2 ≤ nsV σ w ni j then nxV σ w ni j else (nI j, nsV σ w ni j) := rfl
section
variable {p : Program} {l : Launch} {e : Env} {R : Room} {s : State} {m : MethodId} {args : Array Value} {below : List Frame} {meth : Method} {c : Code} {D : va_G} {ad : Nat → Nat → Nat} {cy : Nat → ClassId} {A : Nat → Prop} {sa : Nat → Nat} {cells slots : Nat} {σ : St}
set_option maxRecDepth 100000 in
set_option maxHeartbeats 4000000 in
theorem lp_X5_next (C : Cx p l s m args meth c cX5_next "FretSchool" 6 (some .int) D ad cy A sa) {w : Int32} {ni np : Nat} (hI : Inv σ) (hr1 : ¬ outR w 0 4) (eni : σ 0 0 7 = nI ni) (hni : ni ≤ 8) (enp : σ 0 0 6 = nI np) (hnp : np ≤ 8) (hex : ∀ x ∈ c.exceptionTable.toList, False) : ∀ (f j : Nat) (σ' : St) (x2 x3 x4 : Int32) (o5 : Option Value), x4 = nI j → x2 = (nxV σ w ni j).1 → x3 = (nxV σ w ni j).2 → j ≤ np → np < j + f → SameC σ σ' → Z p l e (rmD 8 1) s m args below meth c D ad cy A 6 (0 + 1) (0 + 6 * 1) (vx_MQ below (va_Qi (fun r σ' => K_pupil w = 0 ∧ SameC σ σ' ∧ r = (nxV σ w (ix (σ 0 0 7)) (ix (σ 0 0 6))).1) (Bw D ad cy) A) (XW D ad cy A (fun E u => σ = u ∧ pxK [IAE] (K_pupil w) E)) args s 1 (6 * 1) A) σ' [some (.ref (ad 0 0)), some (.int w), some (.int x2), some (.int x3), some (.int x4), o5] 11 [] := by
  obtain ⟨ew, hw4⟩ := nout (n := 4) (by decide) hr1
  have hw5 : ix w < 5 := by omega
  intro f
  induction f with
  | zero => intro j σ' x2 x3 x4 o5 _ _ _ _ h; exact absurd h (by omega)
  | succ f ih =>
    intro j σ' x2 x3 x4 o5 e4 e2 e3 hj hf hsm
    have enp' : σ' 0 0 6 = nI np := by rw [hsm 0 0 6 (by decide) (by decide) (by decide) (by decide)]; exact enp
    have eni' : σ' 0 0 7 = nI ni := by rw [hsm 0 0 7 (by decide) (by decide) (by decide) (by decide)]; exact eni
    refine z_iload C dX5_next_11 rfl ?_
    refine z_aload_n C dX5_next_13 rfl ?_
    refine g_0_6 C wd146 dX5_next_14 ?_
    refine z_icmp_ge C 76 dX5_next_17 (by decide) (fun c_17 => ?_) (fun c_17 => ?_)
    · have hjn : np ≤ j := by rw [enp', e4, nI_leI (by omega) (by omega)] at c_17; exact c_17
      refine z_iload_n C dX5_next_76 rfl ?_
      refine y_ret (by decide) (by decide) ?_
      refine z_iret C dX5_next_77 ?_
      refine ⟨by unfold K_pupil; rw [if_neg hr1], hsm, ?_⟩
      rw [e2, eni, enp, ix_nI (by omega), ix_nI (by omega), show j = np by omega]
    · have hjn : j < np := by rw [enp', e4, nI_leI (by omega) (by omega)] at c_17; omega
      refine z_aload_n C dX5_next_20 rfl ?_
      refine g_0_2 C wd142 dX5_next_21 ?_
      refine z_iload_n C dX5_next_24 rfl ?_
      refine a_3 C ew hw5 dX5_next_25 ?_
      refine z_iload C dX5_next_26 rfl ?_
      refine z_cvi C (As := [_]) (c_X4_knows hw5) okX4_knows wd281 (rc_15 hw5) (rok (by decide) (by decide)) ⟨Nat.le_of_ble_eq_true rfl, Nat.le_of_ble_eq_true rfl⟩ rfl (Nat.le_of_ble_eq_true rfl) dX5_next_28 ?_
      rintro r28 _ ⟨e28, rfl⟩
      refine z_if_eq C 38 dX5_next_31 (by decide) (fun c_31 => ?_) (fun c_31 => ?_)
      · have hk : σ 15 (ix w) 1 &&& (1 <<< (nI j &&& 31)) = 0 := Classical.byContradiction fun q => by
          rw [hsm 15 (ix w) 1 (by decide) (by decide) (by decide) (by decide), e4] at e28
          rw [e28, if_neg q] at c_31
          exact absurd c_31 (by decide)
        refine z_aload_n C dX5_next_38 rfl ?_
        refine z_iload_n C dX5_next_39 rfl ?_
        refine z_iload C dX5_next_40 rfl ?_
        refine z_cvi C (As := [_, _]) (c_X5_easiestShift (hsm.inv hI) ew hw5 (by rw [enp', e4]; exact ok_inst hjn hnp) eni' hni) okX5_easiestShift wd285 rc_0 (rok (by decide) (by decide)) ⟨Nat.le_of_ble_eq_true rfl, Nat.le_of_ble_eq_true rfl⟩ rfl (Nat.le_of_ble_eq_true rfl) dX5_next_42 ?_
        rintro r42 σ2 ⟨hsm2, e42⟩
        have e45 : r42 = nsV σ w ni j := by
          rw [e42, hsm.ees, e4, ix_nI (by omega)]
          exact (if_pos hk).symm
        refine z_istore C dX5_next_45 (by decide) ?_
        dsimp only [List.set]
        refine z_iload C dX5_next_47 rfl ?_
        refine z_iconst C (v := (-1)) dX5_next_49 (by decide) ?_
        refine z_icmp_eq C 70 dX5_next_50 (by decide) (fun c_50 => ?_) (fun c_50 => ?_)
        · refine z_iinc C (v := 1) dX5_next_70 rfl (by decide) (by decide) ?_
          dsimp only [List.set]
          refine z_goto C 11 dX5_next_73 (by decide) ?_
          exact ih (j + 1) _ _ _ _ _ (by rw [e4]; exact nI_1 j) (by rw [nxV_s, ← e45, if_pos c_50]; exact e2) (by rw [nxV_s, ← e45, if_pos c_50]; exact e3) (by omega) (by omega) (hsm.trans hsm2)
        · refine z_iload_n C dX5_next_53 rfl ?_
          refine z_iconst C (v := (-1)) dX5_next_54 (by decide) ?_
          refine z_icmp_eq C 64 dX5_next_55 (by decide) (fun c_55 => ?_) (fun c_55 => ?_)
          · refine z_iload C dX5_next_64 rfl ?_
            refine z_istore_n C dX5_next_66 (by decide) ?_
            dsimp only [List.set]
            refine z_iload C dX5_next_67 rfl ?_
            refine z_istore_n C dX5_next_69 (by decide) ?_
            dsimp only [List.set]
            refine z_iinc C (v := 1) dX5_next_70 rfl (by decide) (by decide) ?_
            dsimp only [List.set]
            refine z_goto C 11 dX5_next_73 (by decide) ?_
            exact ih (j + 1) _ _ _ _ _ (by rw [e4]; exact nI_1 j) (by rw [nxV_s, ← e45, if_neg c_50, ← e2, if_pos c_55]; exact e4) (by rw [nxV_s, ← e45, if_neg c_50, ← e2, if_pos c_55]) (by omega) (by omega) (hsm.trans hsm2)
          · refine z_iload C dX5_next_58 rfl ?_
            refine z_iload_n C dX5_next_60 rfl ?_
            refine z_icmp_ge C 70 dX5_next_61 (by decide) (fun c_61 => ?_) (fun c_61 => ?_)
            · refine z_iinc C (v := 1) dX5_next_70 rfl (by decide) (by decide) ?_
              dsimp only [List.set]
              refine z_goto C 11 dX5_next_73 (by decide) ?_
              exact ih (j + 1) _ _ _ _ _ (by rw [e4]; exact nI_1 j) (by rw [nxV_s, ← e45, if_neg c_50, ← e2, if_neg c_55, ← e3, if_pos c_61]; exact e2) (by rw [nxV_s, ← e45, if_neg c_50, ← e2, if_neg c_55, ← e3, if_pos c_61]; exact e3) (by omega) (by omega) (hsm.trans hsm2)
            · refine z_iload C dX5_next_64 rfl ?_
              refine z_istore_n C dX5_next_66 (by decide) ?_
              dsimp only [List.set]
              refine z_iload C dX5_next_67 rfl ?_
              refine z_istore_n C dX5_next_69 (by decide) ?_
              dsimp only [List.set]
              refine z_iinc C (v := 1) dX5_next_70 rfl (by decide) (by decide) ?_
              dsimp only [List.set]
              refine z_goto C 11 dX5_next_73 (by decide) ?_
              exact ih (j + 1) _ _ _ _ _ (by rw [e4]; exact nI_1 j) (by rw [nxV_s, ← e45, if_neg c_50, ← e2, if_neg c_55, ← e3, if_neg c_61]; exact e4) (by rw [nxV_s, ← e45, if_neg c_50, ← e2, if_neg c_55, ← e3, if_neg c_61]) (by omega) (by omega) (hsm.trans hsm2)
      · have hk : ¬ σ 15 (ix w) 1 &&& (1 <<< (nI j &&& 31)) = 0 := fun q => by
          rw [hsm 15 (ix w) 1 (by decide) (by decide) (by decide) (by decide), e4] at e28
          rw [e28, if_pos q] at c_31
          exact c_31 rfl
        refine z_iconst C (v := (-1)) dX5_next_34 (by decide) ?_
        refine z_goto C 45 dX5_next_35 (by decide) ?_
        refine z_istore C dX5_next_45 (by decide) ?_
        dsimp only [List.set]
        refine z_iload C dX5_next_47 rfl ?_
        refine z_iconst C (v := (-1)) dX5_next_49 (by decide) ?_
        refine z_icmp_eq C 70 dX5_next_50 (by decide) (fun c_50 => ?_) (fun c_50 => ?_)
        · refine z_iinc C (v := 1) dX5_next_70 rfl (by decide) (by decide) ?_
          dsimp only [List.set]
          refine z_goto C 11 dX5_next_73 (by decide) ?_
          exact ih (j + 1) _ _ _ _ _ (by rw [e4]; exact nI_1 j) (by rw [nxV_s, if_pos (show nsV σ w ni j = -1 from if_neg hk)]; exact e2) (by rw [nxV_s, if_pos (show nsV σ w ni j = -1 from if_neg hk)]; exact e3) (by omega) (by omega) (hsm)
        · exact absurd rfl c_50
end
set_option maxRecDepth 100000 in
set_option maxHeartbeats 4000000 in
theorem c_X5_next {l : Launch} {D : va_G} {ad : Nat → Nat → Nat} {cy : Nat → ClassId} {A : Nat → Prop} {sa : Nat → Nat} {σ : St} {w : Int32} (hI : Inv σ) : XI l D ad cy A sa yX5_next cX5_next 6 (some .int) 8 1 σ [.ref (ad 0 0), .int w] (fun r σ' => K_pupil w = 0 ∧ SameC σ σ' ∧ r = (nxV σ w (ix (σ 0 0 7)) (ix (σ 0 0 6))).1) (fun E u => σ = u ∧ pxK [IAE] (K_pupil w) E) := by
  refine XI.mk "FretSchool" (by decide) rfl (Nat.le_of_ble_eq_true rfl) rfl ?_
  intro p e s m args below meth c C hex
  change Z _ _ _ _ _ _ _ _ _ _ _ _ _ _ _ _ _ _ _ [some (.ref (ad 0 0)), some (.int w), none, none, none, none] 0 []
  obtain ⟨np, hnp, enp⟩ := hI.1
  obtain ⟨ni, hni, eni⟩ := hI.2.1
  refine z_iload_n C dX5_next_0 rfl ?_
  refine y_csv C (As := [_]) (c_X5_needPupil) okX5_needPupil wd192 (rok (by decide) (by decide)) ⟨Nat.le_of_ble_eq_true rfl, Nat.le_of_ble_eq_true rfl⟩ rfl (Nat.le_of_ble_eq_true rfl) dX5_next_1 (x_on C hex (by decide) (by decide) (fun E u h => ⟨h.1, by unfold K_pupil; rw [if_pos h.2.2]; exact ⟨by decide, congrArg some h.2.1.symm⟩⟩)) ?_
  rintro _ ⟨rfl, hr1⟩
  refine z_iconst C (v := (-1)) dX5_next_4 (by decide) ?_
  refine z_istore_n C dX5_next_5 (by decide) ?_
  dsimp only [List.set]
  refine z_iconst C (v := 0) dX5_next_6 (by decide) ?_
  refine z_istore_n C dX5_next_7 (by decide) ?_
  dsimp only [List.set]
  refine z_iconst C (v := 0) dX5_next_8 (by decide) ?_
  refine z_istore C dX5_next_9 (by decide) ?_
  dsimp only [List.set]
  exact lp_X5_next C hI hr1 eni hni enp hnp hex (np + 1) 0 _ _ _ _ _ nI_0.symm rfl rfl (by omega) (by omega) SameC.rf
def knowsP (σ : St) (w p : Int32) : Prop := ¬ σ 15 (ix w) 1 &&& (1 <<< (p &&& 31)) = 0
noncomputable def K_learn (σ : St) (w p q : Int32) : Nat := by classical exact if bad p (σ 0 0 6) ∨ bad q (σ 0 0 7) then 1 else if outR w 0 4 then 2 else if knowsP σ w p ∨ lsV σ w (ix p) (ix q) = -1 then 3 else 0
noncomputable def lvL (σ : St) (w p q : Int32) : Int32 := if lsV σ w (ix p) (ix q) = σ 15 (ix w) 0 then σ 15 (ix w) 0 + 1 else σ 15 (ix w) 0
noncomputable def learnS (σ σ2 : St) (w p q : Int32) : St := up (up σ2 15 (ix w) 1 (σ 15 (ix w) 1 ||| (1 <<< (p &&& 31)))) 15 (ix w) 0 (lvL σ w p q)
set_option maxRecDepth 100000 in
set_option maxHeartbeats 4000000 in
theorem c_X5_learn {l : Launch} {D : va_G} {ad : Nat → Nat → Nat} {cy : Nat → ClassId} {A : Nat → Prop} {sa : Nat → Nat} {σ : St} {x y z : Int32} (hI : Inv σ) : XI l D ad cy A sa yX5_learn cX5_learn 6 (some .int) 7 4 σ [.ref (ad 0 0), .int x, .int y, .int z] (fun r σ' => K_learn σ x y z = 0 ∧ r = lvL σ x y z ∧ ∃ σ2, SameC σ σ2 ∧ learnS σ σ2 x y z = σ') (fun E u => SameC σ u ∧ pxK [IOOBE, IAE, ISE] (K_learn σ x y z) E) := by
  refine XI.mk "FretSchool" (by decide) rfl (Nat.le_of_ble_eq_true rfl) rfl ?_
  intro p e s m args below meth c C hex
  change Z _ _ _ _ _ _ _ _ _ _ _ _ _ _ _ _ _ _ _ [some (.ref (ad 0 0)), some (.int x), some (.int y), some (.int z), none, none] 0 []
  refine z_aload_n C dX5_learn_0 rfl ?_
  refine z_iload_n C dX5_learn_1 rfl ?_
  refine y_cvv C (As := [_]) (c_X5_needPiece) okX5_needPiece wd346 rc_0 (rok (by decide) (by decide)) ⟨Nat.le_of_ble_eq_true rfl, Nat.le_of_ble_eq_true rfl⟩ rfl (Nat.le_of_ble_eq_true rfl) dX5_learn_2 (x_on C hex (by decide) (by decide) (fun E u h => ⟨by rw [← h.1]; exact SameC.rf, by unfold K_learn; rw [if_pos (Or.inl h.2.2)]; exact ⟨by decide, congrArg some h.2.1.symm⟩⟩)) ?_
  rintro _ ⟨rfl, hr2⟩
  refine z_aload_n C dX5_learn_5 rfl ?_
  refine z_iload_n C dX5_learn_6 rfl ?_
  refine y_cvv C (As := [_]) (c_X5_needInstrument) okX5_needInstrument wd385 rc_0 (rok (by decide) (by decide)) ⟨Nat.le_of_ble_eq_true rfl, Nat.le_of_ble_eq_true rfl⟩ rfl (Nat.le_of_ble_eq_true rfl) dX5_learn_7 (x_on C hex (by decide) (by decide) (fun E u h => ⟨by rw [← h.1]; exact SameC.rf, by unfold K_learn; rw [if_pos (Or.inr h.2.2)]; exact ⟨by decide, congrArg some h.2.1.symm⟩⟩)) ?_
  rintro _ ⟨rfl, hr7⟩
  refine z_iload_n C dX5_learn_10 rfl ?_
  refine y_csv C (As := [_]) (c_X5_needPupil) okX5_needPupil wd192 (rok (by decide) (by decide)) ⟨Nat.le_of_ble_eq_true rfl, Nat.le_of_ble_eq_true rfl⟩ rfl (Nat.le_of_ble_eq_true rfl) dX5_learn_11 (x_on C hex (by decide) (by decide) (fun E u h => ⟨by rw [← h.1]; exact SameC.rf, by unfold K_learn; rw [if_neg (fun q => q.elim hr2 hr7), if_pos h.2.2]; exact ⟨by decide, congrArg some h.2.1.symm⟩⟩)) ?_
  rintro _ ⟨rfl, hr11⟩
  obtain ⟨ew, hw4⟩ := nout (n := 4) (by decide) hr11
  have hw5 : ix x < 5 := by omega
  refine z_aload_n C dX5_learn_14 rfl ?_
  refine g_0_2 C wd142 dX5_learn_15 ?_
  refine z_iload_n C dX5_learn_18 rfl ?_
  refine a_3 C ew hw5 dX5_learn_19 ?_
  refine z_astore C dX5_learn_20 (by decide) ?_
  dsimp only [List.set]
  refine z_aload C dX5_learn_22 rfl ?_
  refine z_iload_n C dX5_learn_24 rfl ?_
  refine z_cvi C (As := [_]) (c_X4_knows hw5) okX4_knows wd281 (rc_15 hw5) (rok (by decide) (by decide)) ⟨Nat.le_of_ble_eq_true rfl, Nat.le_of_ble_eq_true rfl⟩ rfl (Nat.le_of_ble_eq_true rfl) dX5_learn_25 ?_
  rintro r25 _ ⟨e25, rfl⟩
  refine z_if_eq C 41 dX5_learn_28 (by decide) (fun c_28 => ?_) (fun c_28 => ?_)
  · have hk : ¬ knowsP σ x y := fun q => by
      rw [e25, if_neg q] at c_28
      exact absurd c_28 (by decide)
    refine z_aload_n C dX5_learn_41 rfl ?_
    refine z_iload_n C dX5_learn_42 rfl ?_
    refine z_iload_n C dX5_learn_43 rfl ?_
    refine z_iload_n C dX5_learn_44 rfl ?_
    refine z_cvi C (As := [_, _, _]) (c_X5_learnableShift hI ew hw5 hr2 hr7) okX5_learnableShift wd289 rc_0 (rok (by decide) (by decide)) ⟨Nat.le_of_ble_eq_true rfl, Nat.le_of_ble_eq_true rfl⟩ rfl (Nat.le_of_ble_eq_true rfl) dX5_learn_45 ?_
    rintro r45 σ2 ⟨hsm, e45⟩
    refine z_istore C dX5_learn_48 (by decide) ?_
    dsimp only [List.set]
    refine z_iload C dX5_learn_50 rfl ?_
    refine z_iconst C (v := (-1)) dX5_learn_52 (by decide) ?_
    refine z_icmp_ne C 66 dX5_learn_53 (by decide) (fun c_53 => ?_) (fun c_53 => ?_)
    · refine z_aload C dX5_learn_66 rfl ?_
      refine z_iload_n C dX5_learn_68 rfl ?_
      refine z_iload C dX5_learn_69 rfl ?_
      refine z_cvv C (As := [_, _]) (c_X4_takeIn hw5) okX4_takeIn wd591 (rc_15 hw5) (rok (by decide) (by decide)) ⟨Nat.le_of_ble_eq_true rfl, Nat.le_of_ble_eq_true rfl⟩ rfl (Nat.le_of_ble_eq_true rfl) dX5_learn_71 ?_
      rintro _ rfl
      refine z_aload C dX5_learn_74 rfl ?_
      refine g_15_0 hw5 C wd81 dX5_learn_76 ?_
      refine y_ret (by decide) (by decide) ?_
      refine z_iret C dX5_learn_79 ?_
      have e1 := hsm 15 (ix x) 1 (by decide) (by decide) (by decide) (by decide)
      have e0 := hsm 15 (ix x) 0 (by decide) (by decide) (by decide) (by decide)
      refine ⟨by unfold K_learn; rw [if_neg (fun q => q.elim hr2 hr7), if_neg hr11, if_neg (fun q => q.elim hk (fun q => c_53 (e45.trans q)))], ?_, σ2, hsm, ?_⟩
      · rw [up_app, if_pos ⟨rfl, rfl, rfl⟩, e0, e45]
        rfl
      · unfold learnS lvL
        rw [e1, e0, e45]
    · refine y_ise C hex (tx := "the pupil cannot learn the piece there") (List.mem_of_getElem? (i := 9) rfl) dX5_learn_56 dX5_learn_59 dX5_learn_60 dX5_learn_62 dX5_learn_65 ⟨Nat.le_of_ble_eq_true rfl, Nat.le_of_ble_eq_true rfl⟩ (by decide) (by decide) ?_
      exact ⟨hsm, by unfold K_learn; rw [if_neg (fun q => q.elim hr2 hr7), if_neg hr11, if_pos (Or.inr (e45.symm.trans c_53))]; exact ⟨by decide, rfl⟩⟩
  · have hk : knowsP σ x y := fun q => by
      rw [e25, if_pos q] at c_28
      exact c_28 rfl
    refine y_ise C hex (tx := "the pupil knows the piece") (List.mem_of_getElem? (i := 8) rfl) dX5_learn_31 dX5_learn_34 dX5_learn_35 dX5_learn_37 dX5_learn_40 ⟨Nat.le_of_ble_eq_true rfl, Nat.le_of_ble_eq_true rfl⟩ (by decide) (by decide) ?_
    exact ⟨SameC.rf, by unfold K_learn; rw [if_neg (fun q => q.elim hr2 hr7), if_neg hr11, if_pos (Or.inl hk)]; exact ⟨by decide, rfl⟩⟩
end
section
/-! ===== the law's own methods: a call with its catches ===== -/
def MW (l : Launch) (D : va_G) (ad : Nat → Nat → Nat) (cy : Nat → ClassId) (A : Nat → Prop) (sa : Nat → Nat) (y : MethodName) (bytes : ByteArray) (maxL : Nat) (hh : List (Nat × Nat × Nat × Nat)) (d mc : Nat) (σ : St) (av : List Value) (post : Int32 → St → Prop) : Prop :=
  Met l y (Cond.codeWith y bytes maxL (some .int) hh :: BIG) (rmD d mc) (PcW l D ad cy A sa σ av) (va_Qi post (Bw D ad cy) A) mc (6 * mc) A
theorem Met_ofWH {l : Launch} {y : MethodName} {ws ws' : List Cond} {rm : Room} {Pc : Array Value → State → Prop} {Qc : Array Value → State → Outcome → State → Prop} {mc ms : Nat} {free : Addr → Prop} {cc : ByteArray} {maxL : Nat} {ret : Option FieldType} {hh : List (Nat × Nat × Nat × Nat)}
    (hy : plainName y.cls = true) (hw : ws = Cond.codeWith y cc maxL ret hh :: ws')
    (body : ∀ p e s m args below meth c s₁, BodyLoose p l y (headSpec ws rm) cc maxL ret e s m args below meth c s₁ → c.maxLocals = maxL → Pc args s →
      W p l e (headSpec ws rm).room s m args below meth c s.heap [] 0 0 (MQ below Qc args s mc ms free) (entryFrame m args maxL)) : Met l y ws rm Pc Qc mc ms free := by
  refine MetFree.of_bodyS (code := cc) (maxLocals := maxL) (ret := ret) hy ?_ ?_
  · intro args s m h hn
    obtain ⟨m9, meth, c, hn9, h1, h2, h3, h4, -, h5, h6, -⟩ := Cond.codeWith_spec (atoms_spec (ws := ws) h _ (by rw [hw]; exact List.mem_cons_self))
    cases hn.symm.trans hn9
    exact ⟨meth, c, h1, h2, h3, h4, h5, h6⟩
  · intro p e s m args below meth c s₁ B hml hP _
    have hh0 : s₁.heap = s.heap := by rw [B.state]; rfl
    obtain ⟨t, a1, o, b1, b2, b3⟩ := body p e s m args below meth c s₁ B hml hP s₁ hh0 (Stand.of_body B)
    exact ⟨t, o, a1, b1, b2, ⟨b3.1, b3.2⟩⟩
theorem MW.mk {l : Launch} {D : va_G} {ad : Nat → Nat → Nat} {cy : Nat → ClassId} {A : Nat → Prop} {sa : Nat → Nat} {y : MethodName} {bytes : ByteArray} {maxL : Nat} {hh : List (Nat × Nat × Nat × Nat)} {d mc : Nat} {σ : St} {av : List Value} {post : Int32 → St → Prop} (own : String) (hy : plainName y.cls = true) (ho : y.cls = own) (hlen : (lg_sl av).length ≤ maxL) (hc : av.all (fun v => v.category == 1) = true)
    (body : ∀ (p : Program) (e : Env) (s : State) (m : MethodId) (args : Array Value) (below : List Frame) (meth : Method) (c : Code), Cx p l s m args meth c bytes own maxL (some .int) D ad cy A sa → c.exceptionTable.toList = tableOf hh → Z p l e (rmD d mc) s m args below meth c D ad cy A maxL 0 0 (MQ below (va_Qi post (Bw D ad cy) A) args s mc (6 * mc) A) σ (L0 av maxL) 0 []) : MW l D ad cy A sa y bytes maxL hh d mc σ av post := by
  refine Met_ofWH (cc := bytes) (maxL := maxL) (ret := some .int) (hh := hh) hy rfl ?_
  intro p e s m args below meth c s₁ B hml hv
  obtain ⟨rfl, hF, hP⟩ := hv
  have C := Cx.of (own := own) B hml ho hF
  have hl := lv_entry av (n := maxL) hlen
  rw [lg_entry_eq]
  have hts := atoms_spec (ws := Cond.codeWith y bytes maxL (some .int) hh :: BIG) B.pre
  exact body p e s m _ below meth c C (vx_table (x := y) B (hts _ List.mem_cons_self)) s.heap [] _ hP va_S.rf (lh_entry hc hl)
section ZX
variable {p : Program} {l : Launch} {e : Env} {R : Room} {s : State} {m : MethodId} {args : Array Value} {below : List Frame} {meth : Method} {c : Code} {D : va_G} {ad : Nat → Nat → Nat} {cy : Nat → ClassId} {A : Nat → Prop} {sa : Nat → Nat} {nL cells slots : Nat} {Q : State → Prop} {L : List (Option Value)} {pc : Nat} {st : List Value} {cc : ByteArray} {own : String} {ret : Option FieldType}
theorem x_catch {q9 : Addr} (C : Cx p l s m args meth c cc own nL ret D ad cy A sa) {E : String} {pre suf : List ExceptionTableEntry} {x : ExceptionTableEntry} (tbl : c.exceptionTable.toList = pre ++ x :: suf) (hE : E ∈ exs) (hpre : ∀ z ∈ pre, z.catchType ≠ 0 ∧ ∃ E1 : String, E1 ∈ exs ∧ E ≠ E1 ∧ Cond.classLink own z.catchType E1 ∈ BIG) (hx : covers x pc = true) (h0 : x.catchType ≠ 0) (hw : Cond.classLink own x.catchType E ∈ BIG) {σ : St} (kk : Z p l e R s m args below meth c D ad cy A nL cells slots Q σ L x.handlerPc [.ref q9])
    {ce : Cell} {H1 : Heap} {locs1 : List Loc} {ls : Array Slot} (hP : va_P D vwCl (WL ad cy σ) H1) (hS : va_S A s.heap H1 locs1) (hl : lh ls nL L) (g1 : H1[q9]? = some ce) (g2 : ce.vm = .none) (g3 : s.vm.findClass E = some ce.cls) : vx_W p l e R s m args below meth c H1 locs1 cells slots Q (F0 m pc ls st) q9 := by
  obtain ⟨hx0, hb, hml, hown, hts, hr, hlk, hF⟩ := C
  refine vx_catch (own := own) (name := E) hown pre x suf tbl (fun z hz => ?_) hx h0 (hts _ hw) (va_tabs rfl rfl (hF.2.2.2.2.2.2.2.1.1 E hE)) g1 g2 g3 (kk H1 locs1 ls hP hS hl)
  obtain ⟨z0, E1, hE1, hne, hw1⟩ := hpre z hz
  exact Or.inr ⟨z0, E1, hts _ hw1, hF.2.2.2.2.2.2.2.2 E hE E1 hE1 hne⟩
end ZX
/-- what a wrapper answers: the class's answer, or the number of what it threw; a throw changes nothing -/
def WP (g' σ σ' : St) (K : Nat) (cs : List Int32) (res r : Int32) : Prop := (K = 0 → r = res ∧ g' = σ') ∧ ∀ j c, K = j + 1 → cs[j]? = some c → r = c ∧ σ = σ'
def WS (σ σ' : St) (K : Nat) (cs : List Int32) (res r : Int32) : Prop := SameC σ σ' ∧ (K = 0 → r = res) ∧ ∀ j c, K = j + 1 → cs[j]? = some c → r = c
def WN (σ σ' : St) (K : Nat) (cs : List Int32) (res r : Int32) (p q t : Int32) : Prop := (K = 0 → r = res ∧ ∃ σ2, SameC σ σ2 ∧ learnS σ σ2 p q t = σ') ∧ ∀ j c, K = j + 1 → cs[j]? = some c → r = c ∧ SameC σ σ'
theorem WP.ok {g' σ : St} {K : Nat} {cs : List Int32} {res : Int32} (hK : K = 0) : WP g' σ g' K cs res res := ⟨fun _ => ⟨rfl, rfl⟩, fun j c h => absurd (hK.symm.trans h) (by omega)⟩
theorem WP.no {g' σ : St} {K n : Nat} {cs : List Int32} {res r : Int32} (hK : K = n + 1) (hc : cs[n]? = some r) : WP g' σ σ K cs res r := ⟨fun h => absurd (hK.symm.trans h) (by omega), fun j c h hj => by
  have e : j = n := by omega
  subst e
  exact ⟨Option.some.inj (hc.symm.trans hj), rfl⟩⟩
theorem WS.ok {σ σ' : St} {K : Nat} {cs : List Int32} {res : Int32} (hK : K = 0) (hs : SameC σ σ') : WS σ σ' K cs res res := ⟨hs, fun _ => rfl, fun j c h => absurd (hK.symm.trans h) (by omega)⟩
theorem WS.no {σ σ' : St} {K n : Nat} {cs : List Int32} {res r : Int32} (hK : K = n + 1) (hc : cs[n]? = some r) (hs : SameC σ σ') : WS σ σ' K cs res r := ⟨hs, fun h => absurd (hK.symm.trans h) (by omega), fun j c h hj => by
  have e : j = n := by omega
  subst e
  exact Option.some.inj (hc.symm.trans hj)⟩
theorem WN.ok {σ σ2 : St} {K : Nat} {cs : List Int32} {res p q t : Int32} (hK : K = 0) (hs : SameC σ σ2) : WN σ (learnS σ σ2 p q t) K cs res res p q t := ⟨fun _ => ⟨rfl, σ2, hs, rfl⟩, fun j c h => absurd (hK.symm.trans h) (by omega)⟩
theorem WN.no {σ σ' : St} {K n : Nat} {cs : List Int32} {res r p q t : Int32} (hK : K = n + 1) (hc : cs[n]? = some r) (hs : SameC σ σ') : WN σ σ' K cs res r p q t := ⟨fun h => absurd (hK.symm.trans h) (by omega), fun j c h hj => by
  have e : j = n := by omega
  subst e
  exact ⟨Option.some.inj (hc.symm.trans hj), hs⟩⟩
set_option maxRecDepth 100000 in
set_option maxHeartbeats 4000000 in
theorem c_L_begin {l : Launch} {D : va_G} {ad : Nat → Nat → Nat} {cy : Nat → ClassId} {A : Nat → Prop} {sa : Nat → Nat} {σ : St}  : MW l D ad cy A sa yL_begin cL_begin 2 [(0, 4, 5, 16)] 1 1 σ [.ref (ad 0 0)] (fun r σ' => WP (up σ 0 0 6 (σ 0 0 6 + 1)) σ σ' (K_begin σ) [-1000003] (σ 0 0 6) r) := by
  refine MW.mk "FretSchoolLaw" (by decide) rfl (Nat.le_of_ble_eq_true rfl) rfl ?_
  intro p e s m args below meth c C tbl
  change Z _ _ _ _ _ _ _ _ _ _ _ _ _ _ _ _ _ _ _ [some (.ref (ad 0 0)), none] 0 []
  refine z_aload_n C dL_begin_0 rfl ?_
  refine y_cvi C (As := []) (c_X5_begin) okX5_begin wd457 rc_0 (rok (by decide) (by decide)) ⟨Nat.le_of_ble_eq_true rfl, Nat.le_of_ble_eq_true rfl⟩ rfl (Nat.le_of_ble_eq_true rfl) dL_begin_1 (fun E ce q9 u H1 locs1 ls hp hP hS hl g1 g2 g3 => by
    obtain ⟨hsm, hK0, hE⟩ := hp
    subst hsm
    obtain ⟨k, hk⟩ : ∃ k, K_begin σ = k := ⟨_, rfl⟩
    rw [hk] at hK0 hE
    match k, hk, hK0, hE with
    | 0, _, hK0, _ => exact absurd rfl hK0
    | 1, hk, _, hE =>
      obtain rfl : ISE = E := Option.some.inj hE
      refine x_catch C (pre := []) (x := ⟨0, 4, 5, 16⟩) (suf := []) tbl (by decide +kernel) (fun z hz => absurd hz List.not_mem_nil) (by decide) (by decide) wd415 ?_ hP hS hl g1 g2 g3
      refine z_astore_n C dL_begin_5 (by decide) ?_
      dsimp only [List.set]
      refine z_ldc C (v := (-1000003)) wd443 dL_begin_6 ?_
      refine z_widen (mc := 1) (ms := 6) (by decide) (by decide) ?_
      refine z_iret C dL_begin_8 ?_
      exact WP.no hk rfl
    ) ?_
  rintro _ _ ⟨hK0, rfl, rfl⟩
  refine z_widen (mc := 1) (ms := 6) (by decide) (by decide) ?_
  refine z_iret C dL_begin_4 ?_
  exact WP.ok hK0
set_option maxRecDepth 100000 in
set_option maxHeartbeats 4000000 in
theorem c_L_addNote {l : Launch} {D : va_G} {ad : Nat → Nat → Nat} {cy : Nat → ClassId} {A : Nat → Prop} {sa : Nat → Nat} {σ : St} {x y : Int32} (hI : Inv σ) : MW l D ad cy A sa yL_addNote cL_addNote 4 [(0, 6, 7, 23), (0, 6, 11, 26), (0, 6, 15, 16)] 4 3 σ [.ref (ad 0 0), .int x, .int y] (fun r σ' => WP (up (up σ 12 (ix x) (cN σ (ix x)) y) 11 (ix x) 1 (nI (cN σ (ix x) + 1))) σ σ' (K_addNote σ x y) [-1000001, -1000002, -1000003] (nI (cN σ (ix x) + 1)) r) := by
  refine MW.mk "FretSchoolLaw" (by decide) rfl (Nat.le_of_ble_eq_true rfl) rfl ?_
  intro p e s m args below meth c C tbl
  change Z _ _ _ _ _ _ _ _ _ _ _ _ _ _ _ _ _ _ _ [some (.ref (ad 0 0)), some (.int x), some (.int y), none] 0 []
  refine z_aload_n C dL_addNote_0 rfl ?_
  refine z_iload_n C dL_addNote_1 rfl ?_
  refine z_iload_n C dL_addNote_2 rfl ?_
  refine y_cvi C (As := [_, _]) (c_X5_addNote hI) okX5_addNote wd465 rc_0 (rok (by decide) (by decide)) ⟨Nat.le_of_ble_eq_true rfl, Nat.le_of_ble_eq_true rfl⟩ rfl (Nat.le_of_ble_eq_true rfl) dL_addNote_3 (fun E ce q9 u H1 locs1 ls hp hP hS hl g1 g2 g3 => by
    obtain ⟨hsm, hK0, hE⟩ := hp
    subst hsm
    obtain ⟨k, hk⟩ : ∃ k, K_addNote σ x y = k := ⟨_, rfl⟩
    rw [hk] at hK0 hE
    match k, hk, hK0, hE with
    | 0, _, hK0, _ => exact absurd rfl hK0
    | 1, hk, _, hE =>
      obtain rfl : IOOBE = E := Option.some.inj hE
      refine x_catch C (pre := []) (x := ⟨0, 6, 7, 23⟩) (suf := [⟨0, 6, 11, 26⟩, ⟨0, 6, 15, 16⟩]) tbl (by decide +kernel) (fun z hz => absurd hz List.not_mem_nil) (by decide) (by decide) wd337 ?_ hP hS hl g1 g2 g3
      refine z_astore_n C dL_addNote_7 (by decide) ?_
      dsimp only [List.set]
      refine z_ldc C (v := (-1000001)) wd367 dL_addNote_8 ?_
      refine z_widen (mc := 3) (ms := 18) (by decide) (by decide) ?_
      refine z_iret C dL_addNote_10 ?_
      exact WP.no hk rfl
    | 2, hk, _, hE =>
      obtain rfl : IAE = E := Option.some.inj hE
      refine x_catch C (pre := [⟨0, 6, 7, 23⟩]) (x := ⟨0, 6, 11, 26⟩) (suf := [⟨0, 6, 15, 16⟩]) tbl (by decide +kernel) (List.forall_mem_cons.mpr ⟨⟨(by decide), IOOBE, by decide +kernel, by decide +kernel, wd337⟩, fun _ h => absurd h List.not_mem_nil⟩) (by decide) (by decide) wd187 ?_ hP hS hl g1 g2 g3
      refine z_astore_n C dL_addNote_11 (by decide) ?_
      dsimp only [List.set]
      refine z_ldc C (v := (-1000002)) wd266 dL_addNote_12 ?_
      refine z_widen (mc := 3) (ms := 18) (by decide) (by decide) ?_
      refine z_iret C dL_addNote_14 ?_
      exact WP.no hk rfl
    | 3, hk, _, hE =>
      obtain rfl : ISE = E := Option.some.inj hE
      refine x_catch C (pre := [⟨0, 6, 7, 23⟩, ⟨0, 6, 11, 26⟩]) (x := ⟨0, 6, 15, 16⟩) (suf := []) tbl (by decide +kernel) (List.forall_mem_cons.mpr ⟨⟨(by decide), IOOBE, by decide +kernel, by decide +kernel, wd337⟩, List.forall_mem_cons.mpr ⟨⟨(by decide), IAE, by decide +kernel, by decide +kernel, wd187⟩, fun _ h => absurd h List.not_mem_nil⟩⟩) (by decide) (by decide) wd415 ?_ hP hS hl g1 g2 g3
      refine z_astore_n C dL_addNote_15 (by decide) ?_
      dsimp only [List.set]
      refine z_ldc C (v := (-1000003)) wd443 dL_addNote_16 ?_
      refine z_widen (mc := 3) (ms := 18) (by decide) (by decide) ?_
      refine z_iret C dL_addNote_18 ?_
      exact WP.no hk rfl
    ) ?_
  rintro _ _ ⟨hK0, rfl, rfl⟩
  refine z_widen (mc := 3) (ms := 18) (by decide) (by decide) ?_
  refine z_iret C dL_addNote_6 ?_
  exact WP.ok hK0
set_option maxRecDepth 100000 in
set_option maxHeartbeats 4000000 in
theorem c_L_transpose {l : Launch} {D : va_G} {ad : Nat → Nat → Nat} {cy : Nat → ClassId} {A : Nat → Prop} {sa : Nat → Nat} {σ : St} {x y : Int32} (hI : Inv σ) : MW l D ad cy A sa yL_transpose cL_transpose 4 [(0, 7, 8, 23), (0, 7, 12, 26), (0, 7, 16, 16)] 2 3 σ [.ref (ad 0 0), .int x, .int y] (fun r σ' => WP (mvd σ (ix x) y (cN σ (ix x))) σ σ' (K_trans σ x y) [-1000001, -1000002, -1000003] (0) r) := by
  refine MW.mk "FretSchoolLaw" (by decide) rfl (Nat.le_of_ble_eq_true rfl) rfl ?_
  intro p e s m args below meth c C tbl
  change Z _ _ _ _ _ _ _ _ _ _ _ _ _ _ _ _ _ _ _ [some (.ref (ad 0 0)), some (.int x), some (.int y), none] 0 []
  refine z_aload_n C dL_transpose_0 rfl ?_
  refine z_iload_n C dL_transpose_1 rfl ?_
  refine z_iload_n C dL_transpose_2 rfl ?_
  refine y_cvv C (As := [_, _]) (c_X5_transpose hI) okX5_transpose wd482 rc_0 (rok (by decide) (by decide)) ⟨Nat.le_of_ble_eq_true rfl, Nat.le_of_ble_eq_true rfl⟩ rfl (Nat.le_of_ble_eq_true rfl) dL_transpose_3 (fun E ce q9 u H1 locs1 ls hp hP hS hl g1 g2 g3 => by
    obtain ⟨hsm, hK0, hE⟩ := hp
    subst hsm
    obtain ⟨k, hk⟩ : ∃ k, K_trans σ x y = k := ⟨_, rfl⟩
    rw [hk] at hK0 hE
    match k, hk, hK0, hE with
    | 0, _, hK0, _ => exact absurd rfl hK0
    | 1, hk, _, hE =>
      obtain rfl : IOOBE = E := Option.some.inj hE
      refine x_catch C (pre := []) (x := ⟨0, 7, 8, 23⟩) (suf := [⟨0, 7, 12, 26⟩, ⟨0, 7, 16, 16⟩]) tbl (by decide +kernel) (fun z hz => absurd hz List.not_mem_nil) (by decide) (by decide) wd337 ?_ hP hS hl g1 g2 g3
      refine z_astore_n C dL_transpose_8 (by decide) ?_
      dsimp only [List.set]
      refine z_ldc C (v := (-1000001)) wd367 dL_transpose_9 ?_
      refine z_widen (mc := 3) (ms := 18) (by decide) (by decide) ?_
      refine z_iret C dL_transpose_11 ?_
      exact WP.no hk rfl
    | 2, hk, _, hE =>
      obtain rfl : IAE = E := Option.some.inj hE
      refine x_catch C (pre := [⟨0, 7, 8, 23⟩]) (x := ⟨0, 7, 12, 26⟩) (suf := [⟨0, 7, 16, 16⟩]) tbl (by decide +kernel) (List.forall_mem_cons.mpr ⟨⟨(by decide), IOOBE, by decide +kernel, by decide +kernel, wd337⟩, fun _ h => absurd h List.not_mem_nil⟩) (by decide) (by decide) wd187 ?_ hP hS hl g1 g2 g3
      refine z_astore_n C dL_transpose_12 (by decide) ?_
      dsimp only [List.set]
      refine z_ldc C (v := (-1000002)) wd266 dL_transpose_13 ?_
      refine z_widen (mc := 3) (ms := 18) (by decide) (by decide) ?_
      refine z_iret C dL_transpose_15 ?_
      exact WP.no hk rfl
    | 3, hk, _, hE =>
      obtain rfl : ISE = E := Option.some.inj hE
      refine x_catch C (pre := [⟨0, 7, 8, 23⟩, ⟨0, 7, 12, 26⟩]) (x := ⟨0, 7, 16, 16⟩) (suf := []) tbl (by decide +kernel) (List.forall_mem_cons.mpr ⟨⟨(by decide), IOOBE, by decide +kernel, by decide +kernel, wd337⟩, List.forall_mem_cons.mpr ⟨⟨(by decide), IAE, by decide +kernel, by decide +kernel, wd187⟩, fun _ h => absurd h List.not_mem_nil⟩⟩) (by decide) (by decide) wd415 ?_ hP hS hl g1 g2 g3
      refine z_astore_n C dL_transpose_16 (by decide) ?_
      dsimp only [List.set]
      refine z_ldc C (v := (-1000003)) wd443 dL_transpose_17 ?_
      refine z_widen (mc := 3) (ms := 18) (by decide) (by decide) ?_
      refine z_iret C dL_transpose_19 ?_
      exact WP.no hk rfl
    ) ?_
  rintro _ ⟨hK0, rfl⟩
  refine z_iconst C (v := 0) dL_transpose_6 (by decide) ?_
  refine z_widen (mc := 3) (ms := 18) (by decide) (by decide) ?_
  refine z_iret C dL_transpose_7 ?_
  exact WP.ok hK0
set_option maxRecDepth 100000 in
set_option maxHeartbeats 4000000 in
theorem c_L_pitch {l : Launch} {D : va_G} {ad : Nat → Nat → Nat} {cy : Nat → ClassId} {A : Nat → Prop} {sa : Nat → Nat} {σ : St} {x y : Int32} (hI : Inv σ) : MW l D ad cy A sa yL_pitch cL_pitch 4 [(0, 6, 7, 23)] 3 2 σ [.ref (ad 0 0), .int x, .int y] (fun r σ' => WP (σ) σ σ' (K_pitch σ x y) [-1000001] (σ 12 (ix x) (ix y)) r) := by
  refine MW.mk "FretSchoolLaw" (by decide) rfl (Nat.le_of_ble_eq_true rfl) rfl ?_
  intro p e s m args below meth c C tbl
  change Z _ _ _ _ _ _ _ _ _ _ _ _ _ _ _ _ _ _ _ [some (.ref (ad 0 0)), some (.int x), some (.int y), none] 0 []
  refine z_aload_n C dL_pitch_0 rfl ?_
  refine z_iload_n C dL_pitch_1 rfl ?_
  refine z_iload_n C dL_pitch_2 rfl ?_
  refine y_cvi C (As := [_, _]) (c_X5_pitch hI) okX5_pitch wd338 rc_0 (rok (by decide) (by decide)) ⟨Nat.le_of_ble_eq_true rfl, Nat.le_of_ble_eq_true rfl⟩ rfl (Nat.le_of_ble_eq_true rfl) dL_pitch_3 (fun E ce q9 u H1 locs1 ls hp hP hS hl g1 g2 g3 => by
    obtain ⟨hsm, hK0, hE⟩ := hp
    subst hsm
    obtain ⟨k, hk⟩ : ∃ k, K_pitch σ x y = k := ⟨_, rfl⟩
    rw [hk] at hK0 hE
    match k, hk, hK0, hE with
    | 0, _, hK0, _ => exact absurd rfl hK0
    | 1, hk, _, hE =>
      obtain rfl : IOOBE = E := Option.some.inj hE
      refine x_catch C (pre := []) (x := ⟨0, 6, 7, 23⟩) (suf := []) tbl (by decide +kernel) (fun z hz => absurd hz List.not_mem_nil) (by decide) (by decide) wd337 ?_ hP hS hl g1 g2 g3
      refine z_astore_n C dL_pitch_7 (by decide) ?_
      dsimp only [List.set]
      refine z_ldc C (v := (-1000001)) wd367 dL_pitch_8 ?_
      refine z_widen (mc := 2) (ms := 12) (by decide) (by decide) ?_
      refine z_iret C dL_pitch_10 ?_
      exact WP.no hk rfl
    ) ?_
  rintro _ _ ⟨hK0, rfl, rfl⟩
  refine z_widen (mc := 2) (ms := 12) (by decide) (by decide) ?_
  refine z_iret C dL_pitch_6 ?_
  exact WP.ok hK0
set_option maxRecDepth 100000 in
set_option maxHeartbeats 4000000 in
theorem c_L_tune {l : Launch} {D : va_G} {ad : Nat → Nat → Nat} {cy : Nat → ClassId} {A : Nat → Prop} {sa : Nat → Nat} {σ : St} {x y z : Int32} (hI : Inv σ) : MW l D ad cy A sa yL_tune cL_tune 5 [(0, 7, 8, 23), (0, 7, 13, 26)] 2 3 σ [.ref (ad 0 0), .int x, .int y, .int z] (fun r σ' => WP (up σ 14 (ix x) (ix y) z) σ σ' (K_tune σ x y z) [-1000001, -1000002] (σ 14 (ix x) (ix y)) r) := by
  refine MW.mk "FretSchoolLaw" (by decide) rfl (Nat.le_of_ble_eq_true rfl) rfl ?_
  intro p e s m args below meth c C tbl
  change Z _ _ _ _ _ _ _ _ _ _ _ _ _ _ _ _ _ _ _ [some (.ref (ad 0 0)), some (.int x), some (.int y), some (.int z), none] 0 []
  refine z_aload_n C dL_tune_0 rfl ?_
  refine z_iload_n C dL_tune_1 rfl ?_
  refine z_iload_n C dL_tune_2 rfl ?_
  refine z_iload_n C dL_tune_3 rfl ?_
  refine y_cvi C (As := [_, _, _]) (c_X5_tune hI) okX5_tune wd578 rc_0 (rok (by decide) (by decide)) ⟨Nat.le_of_ble_eq_true rfl, Nat.le_of_ble_eq_true rfl⟩ rfl (Nat.le_of_ble_eq_true rfl) dL_tune_4 (fun E ce q9 u H1 locs1 ls hp hP hS hl g1 g2 g3 => by
    obtain ⟨hsm, hK0, hE⟩ := hp
    subst hsm
    obtain ⟨k, hk⟩ : ∃ k, K_tune σ x y z = k := ⟨_, rfl⟩
    rw [hk] at hK0 hE
    match k, hk, hK0, hE with
    | 0, _, hK0, _ => exact absurd rfl hK0
    | 1, hk, _, hE =>
      obtain rfl : IOOBE = E := Option.some.inj hE
      refine x_catch C (pre := []) (x := ⟨0, 7, 8, 23⟩) (suf := [⟨0, 7, 13, 26⟩]) tbl (by decide +kernel) (fun z hz => absurd hz List.not_mem_nil) (by decide) (by decide) wd337 ?_ hP hS hl g1 g2 g3
      refine z_astore C dL_tune_8 (by decide) ?_
      dsimp only [List.set]
      refine z_ldc C (v := (-1000001)) wd367 dL_tune_10 ?_
      refine z_widen (mc := 3) (ms := 18) (by decide) (by decide) ?_
      refine z_iret C dL_tune_12 ?_
      exact WP.no hk rfl
    | 2, hk, _, hE =>
      obtain rfl : IAE = E := Option.some.inj hE
      refine x_catch C (pre := [⟨0, 7, 8, 23⟩]) (x := ⟨0, 7, 13, 26⟩) (suf := []) tbl (by decide +kernel) (List.forall_mem_cons.mpr ⟨⟨(by decide), IOOBE, by decide +kernel, by decide +kernel, wd337⟩, fun _ h => absurd h List.not_mem_nil⟩) (by decide) (by decide) wd187 ?_ hP hS hl g1 g2 g3
      refine z_astore C dL_tune_13 (by decide) ?_
      dsimp only [List.set]
      refine z_ldc C (v := (-1000002)) wd266 dL_tune_15 ?_
      refine z_widen (mc := 3) (ms := 18) (by decide) (by decide) ?_
      refine z_iret C dL_tune_17 ?_
      exact WP.no hk rfl
    ) ?_
  rintro _ _ ⟨hK0, rfl, rfl⟩
  refine z_widen (mc := 3) (ms := 18) (by decide) (by decide) ?_
  refine z_iret C dL_tune_7 ?_
  exact WP.ok hK0
set_option maxRecDepth 100000 in
set_option maxHeartbeats 4000000 in
theorem c_L_owner {l : Launch} {D : va_G} {ad : Nat → Nat → Nat} {cy : Nat → ClassId} {A : Nat → Prop} {sa : Nat → Nat} {σ : St} {x : Int32} (hI : Inv σ) : MW l D ad cy A sa yL_owner cL_owner 3 [(0, 5, 6, 23)] 2 1 σ [.ref (ad 0 0), .int x] (fun r σ' => WP (σ) σ σ' (K_inst σ x) [-1000001] (σ 13 (ix x) 1) r) := by
  refine MW.mk "FretSchoolLaw" (by decide) rfl (Nat.le_of_ble_eq_true rfl) rfl ?_
  intro p e s m args below meth c C tbl
  change Z _ _ _ _ _ _ _ _ _ _ _ _ _ _ _ _ _ _ _ [some (.ref (ad 0 0)), some (.int x), none] 0 []
  refine z_aload_n C dL_owner_0 rfl ?_
  refine z_iload_n C dL_owner_1 rfl ?_
  refine y_cvi C (As := [_]) (c_X5_owner hI) okX5_owner wd571 rc_0 (rok (by decide) (by decide)) ⟨Nat.le_of_ble_eq_true rfl, Nat.le_of_ble_eq_true rfl⟩ rfl (Nat.le_of_ble_eq_true rfl) dL_owner_2 (fun E ce q9 u H1 locs1 ls hp hP hS hl g1 g2 g3 => by
    obtain ⟨hsm, hK0, hE⟩ := hp
    subst hsm
    obtain ⟨k, hk⟩ : ∃ k, K_inst σ x = k := ⟨_, rfl⟩
    rw [hk] at hK0 hE
    match k, hk, hK0, hE with
    | 0, _, hK0, _ => exact absurd rfl hK0
    | 1, hk, _, hE =>
      obtain rfl : IOOBE = E := Option.some.inj hE
      refine x_catch C (pre := []) (x := ⟨0, 5, 6, 23⟩) (suf := []) tbl (by decide +kernel) (fun z hz => absurd hz List.not_mem_nil) (by decide) (by decide) wd337 ?_ hP hS hl g1 g2 g3
      refine z_astore_n C dL_owner_6 (by decide) ?_
      dsimp only [List.set]
      refine z_ldc C (v := (-1000001)) wd367 dL_owner_7 ?_
      refine z_widen (mc := 1) (ms := 6) (by decide) (by decide) ?_
      refine z_iret C dL_owner_9 ?_
      exact WP.no hk rfl
    ) ?_
  rintro _ _ ⟨hK0, rfl, rfl⟩
  refine z_widen (mc := 1) (ms := 6) (by decide) (by decide) ?_
  refine z_iret C dL_owner_5 ?_
  exact WP.ok hK0
set_option maxRecDepth 100000 in
set_option maxHeartbeats 4000000 in
theorem c_L_shifts {l : Launch} {D : va_G} {ad : Nat → Nat → Nat} {cy : Nat → ClassId} {A : Nat → Prop} {sa : Nat → Nat} {σ : St} {x y : Int32} (hI : Inv σ) : MW l D ad cy A sa yL_shifts cL_shifts 4 [(0, 6, 7, 23)] 7 2 σ [.ref (ad 0 0), .int x, .int y] (fun r σ' => WS σ σ' (K_pq σ x y) [-1000001] (valS σ (ix x) (ix y)) r) := by
  refine MW.mk "FretSchoolLaw" (by decide) rfl (Nat.le_of_ble_eq_true rfl) rfl ?_
  intro p e s m args below meth c C tbl
  change Z _ _ _ _ _ _ _ _ _ _ _ _ _ _ _ _ _ _ _ [some (.ref (ad 0 0)), some (.int x), some (.int y), none] 0 []
  refine z_aload_n C dL_shifts_0 rfl ?_
  refine z_iload_n C dL_shifts_1 rfl ?_
  refine z_iload_n C dL_shifts_2 rfl ?_
  refine y_cvi C (As := [_, _]) (c_X5_shifts hI) okX5_shifts wd377 rc_0 (rok (by decide) (by decide)) ⟨Nat.le_of_ble_eq_true rfl, Nat.le_of_ble_eq_true rfl⟩ rfl (Nat.le_of_ble_eq_true rfl) dL_shifts_3 (fun E ce q9 u H1 locs1 ls hp hP hS hl g1 g2 g3 => by
    obtain ⟨hsm, hK0, hE⟩ := hp
    subst hsm
    obtain ⟨k, hk⟩ : ∃ k, K_pq σ x y = k := ⟨_, rfl⟩
    rw [hk] at hK0 hE
    match k, hk, hK0, hE with
    | 0, _, hK0, _ => exact absurd rfl hK0
    | 1, hk, _, hE =>
      obtain rfl : IOOBE = E := Option.some.inj hE
      refine x_catch C (pre := []) (x := ⟨0, 6, 7, 23⟩) (suf := []) tbl (by decide +kernel) (fun z hz => absurd hz List.not_mem_nil) (by decide) (by decide) wd337 ?_ hP hS hl g1 g2 g3
      refine z_astore_n C dL_shifts_7 (by decide) ?_
      dsimp only [List.set]
      refine z_ldc C (v := (-1000001)) wd367 dL_shifts_8 ?_
      refine z_widen (mc := 2) (ms := 12) (by decide) (by decide) ?_
      refine z_iret C dL_shifts_10 ?_
      exact WS.no hk rfl SameC.rf
    ) ?_
  rintro _ σ1 ⟨hK0, rfl, hsm⟩
  refine z_widen (mc := 2) (ms := 12) (by decide) (by decide) ?_
  refine z_iret C dL_shifts_6 ?_
  exact WS.ok hK0 hsm
set_option maxRecDepth 100000 in
set_option maxHeartbeats 4000000 in
theorem c_L_shiftsByAll {l : Launch} {D : va_G} {ad : Nat → Nat → Nat} {cy : Nat → ClassId} {A : Nat → Prop} {sa : Nat → Nat} {σ : St} {x y : Int32} (hI : Inv σ) : MW l D ad cy A sa yL_shiftsByAll cL_shiftsByAll 4 [(0, 6, 7, 23), (0, 6, 11, 16)] 9 3 σ [.ref (ad 0 0), .int x, .int y] (fun r σ' => WS σ σ' (K_byAll σ x y) [-1000001, -1000003] (valS σ (ix x) (ix y)) r) := by
  refine MW.mk "FretSchoolLaw" (by decide) rfl (Nat.le_of_ble_eq_true rfl) rfl ?_
  intro p e s m args below meth c C tbl
  change Z _ _ _ _ _ _ _ _ _ _ _ _ _ _ _ _ _ _ _ [some (.ref (ad 0 0)), some (.int x), some (.int y), none] 0 []
  refine z_aload_n C dL_shiftsByAll_0 rfl ?_
  refine z_iload_n C dL_shiftsByAll_1 rfl ?_
  refine z_iload_n C dL_shiftsByAll_2 rfl ?_
  refine y_cvi C (As := [_, _]) (c_X5_shiftsByAll hI) okX5_shiftsByAll wd416 rc_0 (rok (by decide) (by decide)) ⟨Nat.le_of_ble_eq_true rfl, Nat.le_of_ble_eq_true rfl⟩ rfl (Nat.le_of_ble_eq_true rfl) dL_shiftsByAll_3 (fun E ce q9 u H1 locs1 ls hp hP hS hl g1 g2 g3 => by
    obtain ⟨hsm, hK0, hE⟩ := hp
    subst hsm
    obtain ⟨k, hk⟩ : ∃ k, K_byAll σ x y = k := ⟨_, rfl⟩
    rw [hk] at hK0 hE
    match k, hk, hK0, hE with
    | 0, _, hK0, _ => exact absurd rfl hK0
    | 1, hk, _, hE =>
      obtain rfl : IOOBE = E := Option.some.inj hE
      refine x_catch C (pre := []) (x := ⟨0, 6, 7, 23⟩) (suf := [⟨0, 6, 11, 16⟩]) tbl (by decide +kernel) (fun z hz => absurd hz List.not_mem_nil) (by decide) (by decide) wd337 ?_ hP hS hl g1 g2 g3
      refine z_astore_n C dL_shiftsByAll_7 (by decide) ?_
      dsimp only [List.set]
      refine z_ldc C (v := (-1000001)) wd367 dL_shiftsByAll_8 ?_
      refine z_widen (mc := 3) (ms := 18) (by decide) (by decide) ?_
      refine z_iret C dL_shiftsByAll_10 ?_
      exact WS.no hk rfl SameC.rf
    | 2, hk, _, hE =>
      obtain rfl : ISE = E := Option.some.inj hE
      refine x_catch C (pre := [⟨0, 6, 7, 23⟩]) (x := ⟨0, 6, 11, 16⟩) (suf := []) tbl (by decide +kernel) (List.forall_mem_cons.mpr ⟨⟨(by decide), IOOBE, by decide +kernel, by decide +kernel, wd337⟩, fun _ h => absurd h List.not_mem_nil⟩) (by decide) (by decide) wd415 ?_ hP hS hl g1 g2 g3
      refine z_astore_n C dL_shiftsByAll_11 (by decide) ?_
      dsimp only [List.set]
      refine z_ldc C (v := (-1000003)) wd443 dL_shiftsByAll_12 ?_
      refine z_widen (mc := 3) (ms := 18) (by decide) (by decide) ?_
      refine z_iret C dL_shiftsByAll_14 ?_
      exact WS.no hk rfl SameC.rf
    ) ?_
  rintro _ σ1 ⟨hK0, rfl, hsm⟩
  refine z_widen (mc := 3) (ms := 18) (by decide) (by decide) ?_
  refine z_iret C dL_shiftsByAll_6 ?_
  exact WS.ok hK0 hsm
set_option maxRecDepth 100000 in
set_option maxHeartbeats 4000000 in
theorem c_L_hardest {l : Launch} {D : va_G} {ad : Nat → Nat → Nat} {cy : Nat → ClassId} {A : Nat → Prop} {sa : Nat → Nat} {σ : St} {x y : Int32} (hI : Inv σ) : MW l D ad cy A sa yL_hardest cL_hardest 4 [(0, 6, 7, 23)] 7 2 σ [.ref (ad 0 0), .int x, .int y] (fun r σ' => WS σ σ' (K_pq σ x y) [-1000001] (valH σ (ix x) (ix y)) r) := by
  refine MW.mk "FretSchoolLaw" (by decide) rfl (Nat.le_of_ble_eq_true rfl) rfl ?_
  intro p e s m args below meth c C tbl
  change Z _ _ _ _ _ _ _ _ _ _ _ _ _ _ _ _ _ _ _ [some (.ref (ad 0 0)), some (.int x), some (.int y), none] 0 []
  refine z_aload_n C dL_hardest_0 rfl ?_
  refine z_iload_n C dL_hardest_1 rfl ?_
  refine z_iload_n C dL_hardest_2 rfl ?_
  refine y_cvi C (As := [_, _]) (c_X5_hardest hI) okX5_hardest wd393 rc_0 (rok (by decide) (by decide)) ⟨Nat.le_of_ble_eq_true rfl, Nat.le_of_ble_eq_true rfl⟩ rfl (Nat.le_of_ble_eq_true rfl) dL_hardest_3 (fun E ce q9 u H1 locs1 ls hp hP hS hl g1 g2 g3 => by
    obtain ⟨hsm, hK0, hE⟩ := hp
    subst hsm
    obtain ⟨k, hk⟩ : ∃ k, K_pq σ x y = k := ⟨_, rfl⟩
    rw [hk] at hK0 hE
    match k, hk, hK0, hE with
    | 0, _, hK0, _ => exact absurd rfl hK0
    | 1, hk, _, hE =>
      obtain rfl : IOOBE = E := Option.some.inj hE
      refine x_catch C (pre := []) (x := ⟨0, 6, 7, 23⟩) (suf := []) tbl (by decide +kernel) (fun z hz => absurd hz List.not_mem_nil) (by decide) (by decide) wd337 ?_ hP hS hl g1 g2 g3
      refine z_astore_n C dL_hardest_7 (by decide) ?_
      dsimp only [List.set]
      refine z_ldc C (v := (-1000001)) wd367 dL_hardest_8 ?_
      refine z_widen (mc := 2) (ms := 12) (by decide) (by decide) ?_
      refine z_iret C dL_hardest_10 ?_
      exact WS.no hk rfl SameC.rf
    ) ?_
  rintro _ σ1 ⟨hK0, rfl, hsm⟩
  refine z_widen (mc := 2) (ms := 12) (by decide) (by decide) ?_
  refine z_iret C dL_hardest_6 ?_
  exact WS.ok hK0 hsm
set_option maxRecDepth 100000 in
set_option maxHeartbeats 4000000 in
theorem c_L_position {l : Launch} {D : va_G} {ad : Nat → Nat → Nat} {cy : Nat → ClassId} {A : Nat → Prop} {sa : Nat → Nat} {σ : St} {x y z : Int32} (hI : Inv σ) : MW l D ad cy A sa yL_position cL_position 5 [(0, 7, 8, 23)] 7 4 σ [.ref (ad 0 0), .int x, .int y, .int z] (fun r σ' => WS σ σ' (K_note σ x y z) [-1000001] (valP σ (ix x) (ix y) (ix z)) r) := by
  refine MW.mk "FretSchoolLaw" (by decide) rfl (Nat.le_of_ble_eq_true rfl) rfl ?_
  intro p e s m args below meth c C tbl
  change Z _ _ _ _ _ _ _ _ _ _ _ _ _ _ _ _ _ _ _ [some (.ref (ad 0 0)), some (.int x), some (.int y), some (.int z), none] 0 []
  refine z_aload_n C dL_position_0 rfl ?_
  refine z_iload_n C dL_position_1 rfl ?_
  refine z_iload_n C dL_position_2 rfl ?_
  refine z_iload_n C dL_position_3 rfl ?_
  refine y_cvi C (As := [_, _, _]) (c_X5_position hI) okX5_position wd400 rc_0 (rok (by decide) (by decide)) ⟨Nat.le_of_ble_eq_true rfl, Nat.le_of_ble_eq_true rfl⟩ rfl (Nat.le_of_ble_eq_true rfl) dL_position_4 (fun E ce q9 u H1 locs1 ls hp hP hS hl g1 g2 g3 => by
    obtain ⟨hsm, hK0, hE⟩ := hp
    subst hsm
    obtain ⟨k, hk⟩ : ∃ k, K_note σ x y z = k := ⟨_, rfl⟩
    rw [hk] at hK0 hE
    match k, hk, hK0, hE with
    | 0, _, hK0, _ => exact absurd rfl hK0
    | 1, hk, _, hE =>
      obtain rfl : IOOBE = E := Option.some.inj hE
      refine x_catch C (pre := []) (x := ⟨0, 7, 8, 23⟩) (suf := []) tbl (by decide +kernel) (fun z hz => absurd hz List.not_mem_nil) (by decide) (by decide) wd337 ?_ hP hS hl g1 g2 g3
      refine z_astore C dL_position_8 (by decide) ?_
      dsimp only [List.set]
      refine z_ldc C (v := (-1000001)) wd367 dL_position_10 ?_
      refine z_widen (mc := 4) (ms := 24) (by decide) (by decide) ?_
      refine z_iret C dL_position_12 ?_
      exact WS.no hk rfl SameC.rf
    ) ?_
  rintro _ σ1 ⟨hK0, rfl, hsm⟩
  refine z_widen (mc := 4) (ms := 24) (by decide) (by decide) ?_
  refine z_iret C dL_position_7 ?_
  exact WS.ok hK0 hsm
set_option maxRecDepth 100000 in
set_option maxHeartbeats 4000000 in
theorem c_L_string {l : Launch} {D : va_G} {ad : Nat → Nat → Nat} {cy : Nat → ClassId} {A : Nat → Prop} {sa : Nat → Nat} {σ : St} {x y z : Int32} (hI : Inv σ) : MW l D ad cy A sa yL_string cL_string 5 [(0, 7, 8, 23)] 7 4 σ [.ref (ad 0 0), .int x, .int y, .int z] (fun r σ' => WS σ σ' (K_note σ x y z) [-1000001] (valT σ (ix x) (ix y) (ix z)) r) := by
  refine MW.mk "FretSchoolLaw" (by decide) rfl (Nat.le_of_ble_eq_true rfl) rfl ?_
  intro p e s m args below meth c C tbl
  change Z _ _ _ _ _ _ _ _ _ _ _ _ _ _ _ _ _ _ _ [some (.ref (ad 0 0)), some (.int x), some (.int y), some (.int z), none] 0 []
  refine z_aload_n C dL_string_0 rfl ?_
  refine z_iload_n C dL_string_1 rfl ?_
  refine z_iload_n C dL_string_2 rfl ?_
  refine z_iload_n C dL_string_3 rfl ?_
  refine y_cvi C (As := [_, _, _]) (c_X5_string hI) okX5_string wd407 rc_0 (rok (by decide) (by decide)) ⟨Nat.le_of_ble_eq_true rfl, Nat.le_of_ble_eq_true rfl⟩ rfl (Nat.le_of_ble_eq_true rfl) dL_string_4 (fun E ce q9 u H1 locs1 ls hp hP hS hl g1 g2 g3 => by
    obtain ⟨hsm, hK0, hE⟩ := hp
    subst hsm
    obtain ⟨k, hk⟩ : ∃ k, K_note σ x y z = k := ⟨_, rfl⟩
    rw [hk] at hK0 hE
    match k, hk, hK0, hE with
    | 0, _, hK0, _ => exact absurd rfl hK0
    | 1, hk, _, hE =>
      obtain rfl : IOOBE = E := Option.some.inj hE
      refine x_catch C (pre := []) (x := ⟨0, 7, 8, 23⟩) (suf := []) tbl (by decide +kernel) (fun z hz => absurd hz List.not_mem_nil) (by decide) (by decide) wd337 ?_ hP hS hl g1 g2 g3
      refine z_astore C dL_string_8 (by decide) ?_
      dsimp only [List.set]
      refine z_ldc C (v := (-1000001)) wd367 dL_string_10 ?_
      refine z_widen (mc := 4) (ms := 24) (by decide) (by decide) ?_
      refine z_iret C dL_string_12 ?_
      exact WS.no hk rfl SameC.rf
    ) ?_
  rintro _ σ1 ⟨hK0, rfl, hsm⟩
  refine z_widen (mc := 4) (ms := 24) (by decide) (by decide) ?_
  refine z_iret C dL_string_7 ?_
  exact WS.ok hK0 hsm
set_option maxRecDepth 100000 in
set_option maxHeartbeats 4000000 in
theorem c_L_learn {l : Launch} {D : va_G} {ad : Nat → Nat → Nat} {cy : Nat → ClassId} {A : Nat → Prop} {sa : Nat → Nat} {σ : St} {x y z : Int32} (hI : Inv σ) : MW l D ad cy A sa yL_learn cL_learn 5 [(0, 7, 8, 23), (0, 7, 13, 26), (0, 7, 18, 16)] 8 4 σ [.ref (ad 0 0), .int x, .int y, .int z] (fun r σ' => WN σ σ' (K_learn σ x y z) [-1000001, -1000002, -1000003] (lvL σ x y z) r x y z) := by
  refine MW.mk "FretSchoolLaw" (by decide) rfl (Nat.le_of_ble_eq_true rfl) rfl ?_
  intro p e s m args below meth c C tbl
  change Z _ _ _ _ _ _ _ _ _ _ _ _ _ _ _ _ _ _ _ [some (.ref (ad 0 0)), some (.int x), some (.int y), some (.int z), none] 0 []
  refine z_aload_n C dL_learn_0 rfl ?_
  refine z_iload_n C dL_learn_1 rfl ?_
  refine z_iload_n C dL_learn_2 rfl ?_
  refine z_iload_n C dL_learn_3 rfl ?_
  refine y_cvi C (As := [_, _, _]) (c_X5_learn hI) okX5_learn wd585 rc_0 (rok (by decide) (by decide)) ⟨Nat.le_of_ble_eq_true rfl, Nat.le_of_ble_eq_true rfl⟩ rfl (Nat.le_of_ble_eq_true rfl) dL_learn_4 (fun E ce q9 u H1 locs1 ls hp hP hS hl g1 g2 g3 => by
    obtain ⟨hsm, hK0, hE⟩ := hp
    obtain ⟨k, hk⟩ : ∃ k, K_learn σ x y z = k := ⟨_, rfl⟩
    rw [hk] at hK0 hE
    match k, hk, hK0, hE with
    | 0, _, hK0, _ => exact absurd rfl hK0
    | 1, hk, _, hE =>
      obtain rfl : IOOBE = E := Option.some.inj hE
      refine x_catch C (pre := []) (x := ⟨0, 7, 8, 23⟩) (suf := [⟨0, 7, 13, 26⟩, ⟨0, 7, 18, 16⟩]) tbl (by decide +kernel) (fun z hz => absurd hz List.not_mem_nil) (by decide) (by decide) wd337 ?_ hP hS hl g1 g2 g3
      refine z_astore C dL_learn_8 (by decide) ?_
      dsimp only [List.set]
      refine z_ldc C (v := (-1000001)) wd367 dL_learn_10 ?_
      refine z_widen (mc := 4) (ms := 24) (by decide) (by decide) ?_
      refine z_iret C dL_learn_12 ?_
      exact WN.no hk rfl hsm
    | 2, hk, _, hE =>
      obtain rfl : IAE = E := Option.some.inj hE
      refine x_catch C (pre := [⟨0, 7, 8, 23⟩]) (x := ⟨0, 7, 13, 26⟩) (suf := [⟨0, 7, 18, 16⟩]) tbl (by decide +kernel) (List.forall_mem_cons.mpr ⟨⟨(by decide), IOOBE, by decide +kernel, by decide +kernel, wd337⟩, fun _ h => absurd h List.not_mem_nil⟩) (by decide) (by decide) wd187 ?_ hP hS hl g1 g2 g3
      refine z_astore C dL_learn_13 (by decide) ?_
      dsimp only [List.set]
      refine z_ldc C (v := (-1000002)) wd266 dL_learn_15 ?_
      refine z_widen (mc := 4) (ms := 24) (by decide) (by decide) ?_
      refine z_iret C dL_learn_17 ?_
      exact WN.no hk rfl hsm
    | 3, hk, _, hE =>
      obtain rfl : ISE = E := Option.some.inj hE
      refine x_catch C (pre := [⟨0, 7, 8, 23⟩, ⟨0, 7, 13, 26⟩]) (x := ⟨0, 7, 18, 16⟩) (suf := []) tbl (by decide +kernel) (List.forall_mem_cons.mpr ⟨⟨(by decide), IOOBE, by decide +kernel, by decide +kernel, wd337⟩, List.forall_mem_cons.mpr ⟨⟨(by decide), IAE, by decide +kernel, by decide +kernel, wd187⟩, fun _ h => absurd h List.not_mem_nil⟩⟩) (by decide) (by decide) wd415 ?_ hP hS hl g1 g2 g3
      refine z_astore C dL_learn_18 (by decide) ?_
      dsimp only [List.set]
      refine z_ldc C (v := (-1000003)) wd443 dL_learn_20 ?_
      refine z_widen (mc := 4) (ms := 24) (by decide) (by decide) ?_
      refine z_iret C dL_learn_22 ?_
      exact WN.no hk rfl hsm
    ) ?_
  rintro _ _ ⟨hK0, rfl, σ1, hsm, rfl⟩
  refine z_widen (mc := 4) (ms := 24) (by decide) (by decide) ?_
  refine z_iret C dL_learn_7 ?_
  exact WN.ok hK0 hsm
set_option maxRecDepth 100000 in
set_option maxHeartbeats 4000000 in
theorem c_L_level {l : Launch} {D : va_G} {ad : Nat → Nat → Nat} {cy : Nat → ClassId} {A : Nat → Prop} {sa : Nat → Nat} {σ : St} {x : Int32} : MW l D ad cy A sa yL_level cL_level 3 [(0, 5, 6, 26)] 3 1 σ [.ref (ad 0 0), .int x] (fun r σ' => WP (σ) σ σ' (K_pupil x) [-1000002] (σ 15 (ix x) 0) r) := by
  refine MW.mk "FretSchoolLaw" (by decide) rfl (Nat.le_of_ble_eq_true rfl) rfl ?_
  intro p e s m args below meth c C tbl
  change Z _ _ _ _ _ _ _ _ _ _ _ _ _ _ _ _ _ _ _ [some (.ref (ad 0 0)), some (.int x), none] 0 []
  refine z_aload_n C dL_level_0 rfl ?_
  refine z_iload_n C dL_level_1 rfl ?_
  refine y_cvi C (As := [_]) (c_X5_level) okX5_level wd188 rc_0 (rok (by decide) (by decide)) ⟨Nat.le_of_ble_eq_true rfl, Nat.le_of_ble_eq_true rfl⟩ rfl (Nat.le_of_ble_eq_true rfl) dL_level_2 (fun E ce q9 u H1 locs1 ls hp hP hS hl g1 g2 g3 => by
    obtain ⟨hsm, hK0, hE⟩ := hp
    subst hsm
    obtain ⟨k, hk⟩ : ∃ k, K_pupil x = k := ⟨_, rfl⟩
    rw [hk] at hK0 hE
    match k, hk, hK0, hE with
    | 0, _, hK0, _ => exact absurd rfl hK0
    | 1, hk, _, hE =>
      obtain rfl : IAE = E := Option.some.inj hE
      refine x_catch C (pre := []) (x := ⟨0, 5, 6, 26⟩) (suf := []) tbl (by decide +kernel) (fun z hz => absurd hz List.not_mem_nil) (by decide) (by decide) wd187 ?_ hP hS hl g1 g2 g3
      refine z_astore_n C dL_level_6 (by decide) ?_
      dsimp only [List.set]
      refine z_ldc C (v := (-1000002)) wd266 dL_level_7 ?_
      refine z_widen (mc := 1) (ms := 6) (by decide) (by decide) ?_
      refine z_iret C dL_level_9 ?_
      exact WP.no hk rfl
    ) ?_
  rintro _ _ ⟨hK0, rfl, rfl⟩
  refine z_widen (mc := 1) (ms := 6) (by decide) (by decide) ?_
  refine z_iret C dL_level_5 ?_
  exact WP.ok hK0
set_option maxRecDepth 100000 in
set_option maxHeartbeats 4000000 in
theorem c_L_known {l : Launch} {D : va_G} {ad : Nat → Nat → Nat} {cy : Nat → ClassId} {A : Nat → Prop} {sa : Nat → Nat} {σ : St} {x : Int32} : MW l D ad cy A sa yL_known cL_known 3 [(0, 5, 6, 26)] 3 1 σ [.ref (ad 0 0), .int x] (fun r σ' => WP (σ) σ σ' (K_pupil x) [-1000002] (σ 15 (ix x) 1) r) := by
  refine MW.mk "FretSchoolLaw" (by decide) rfl (Nat.le_of_ble_eq_true rfl) rfl ?_
  intro p e s m args below meth c C tbl
  change Z _ _ _ _ _ _ _ _ _ _ _ _ _ _ _ _ _ _ _ [some (.ref (ad 0 0)), some (.int x), none] 0 []
  refine z_aload_n C dL_known_0 rfl ?_
  refine z_iload_n C dL_known_1 rfl ?_
  refine y_cvi C (As := [_]) (c_X5_known) okX5_known wd270 rc_0 (rok (by decide) (by decide)) ⟨Nat.le_of_ble_eq_true rfl, Nat.le_of_ble_eq_true rfl⟩ rfl (Nat.le_of_ble_eq_true rfl) dL_known_2 (fun E ce q9 u H1 locs1 ls hp hP hS hl g1 g2 g3 => by
    obtain ⟨hsm, hK0, hE⟩ := hp
    subst hsm
    obtain ⟨k, hk⟩ : ∃ k, K_pupil x = k := ⟨_, rfl⟩
    rw [hk] at hK0 hE
    match k, hk, hK0, hE with
    | 0, _, hK0, _ => exact absurd rfl hK0
    | 1, hk, _, hE =>
      obtain rfl : IAE = E := Option.some.inj hE
      refine x_catch C (pre := []) (x := ⟨0, 5, 6, 26⟩) (suf := []) tbl (by decide +kernel) (fun z hz => absurd hz List.not_mem_nil) (by decide) (by decide) wd187 ?_ hP hS hl g1 g2 g3
      refine z_astore_n C dL_known_6 (by decide) ?_
      dsimp only [List.set]
      refine z_ldc C (v := (-1000002)) wd266 dL_known_7 ?_
      refine z_widen (mc := 1) (ms := 6) (by decide) (by decide) ?_
      refine z_iret C dL_known_9 ?_
      exact WP.no hk rfl
    ) ?_
  rintro _ _ ⟨hK0, rfl, rfl⟩
  refine z_widen (mc := 1) (ms := 6) (by decide) (by decide) ?_
  refine z_iret C dL_known_5 ?_
  exact WP.ok hK0
set_option maxRecDepth 100000 in
set_option maxHeartbeats 4000000 in
theorem c_L_next {l : Launch} {D : va_G} {ad : Nat → Nat → Nat} {cy : Nat → ClassId} {A : Nat → Prop} {sa : Nat → Nat} {σ : St} {x : Int32} (hI : Inv σ) : MW l D ad cy A sa yL_next cL_next 3 [(0, 5, 6, 26)] 9 1 σ [.ref (ad 0 0), .int x] (fun r σ' => WS σ σ' (K_pupil x) [-1000002] ((nxV σ x (ix (σ 0 0 7)) (ix (σ 0 0 6))).1) r) := by
  refine MW.mk "FretSchoolLaw" (by decide) rfl (Nat.le_of_ble_eq_true rfl) rfl ?_
  intro p e s m args below meth c C tbl
  change Z _ _ _ _ _ _ _ _ _ _ _ _ _ _ _ _ _ _ _ [some (.ref (ad 0 0)), some (.int x), none] 0 []
  refine z_aload_n C dL_next_0 rfl ?_
  refine z_iload_n C dL_next_1 rfl ?_
  refine y_cvi C (As := [_]) (c_X5_next hI) okX5_next wd277 rc_0 (rok (by decide) (by decide)) ⟨Nat.le_of_ble_eq_true rfl, Nat.le_of_ble_eq_true rfl⟩ rfl (Nat.le_of_ble_eq_true rfl) dL_next_2 (fun E ce q9 u H1 locs1 ls hp hP hS hl g1 g2 g3 => by
    obtain ⟨hsm, hK0, hE⟩ := hp
    subst hsm
    obtain ⟨k, hk⟩ : ∃ k, K_pupil x = k := ⟨_, rfl⟩
    rw [hk] at hK0 hE
    match k, hk, hK0, hE with
    | 0, _, hK0, _ => exact absurd rfl hK0
    | 1, hk, _, hE =>
      obtain rfl : IAE = E := Option.some.inj hE
      refine x_catch C (pre := []) (x := ⟨0, 5, 6, 26⟩) (suf := []) tbl (by decide +kernel) (fun z hz => absurd hz List.not_mem_nil) (by decide) (by decide) wd187 ?_ hP hS hl g1 g2 g3
      refine z_astore_n C dL_next_6 (by decide) ?_
      dsimp only [List.set]
      refine z_ldc C (v := (-1000002)) wd266 dL_next_7 ?_
      refine z_widen (mc := 1) (ms := 6) (by decide) (by decide) ?_
      refine z_iret C dL_next_9 ?_
      exact WS.no hk rfl SameC.rf
    ) ?_
  rintro _ σ1 ⟨hK0, hsm, rfl⟩
  refine z_widen (mc := 1) (ms := 6) (by decide) (by decide) ?_
  refine z_iret C dL_next_5 ?_
  exact WS.ok hK0 hsm
set_option maxRecDepth 100000 in
set_option maxHeartbeats 4000000 in
theorem c_L_addWood {l : Launch} {D : va_G} {ad : Nat → Nat → Nat} {cy : Nat → ClassId} {A : Nat → Prop} {sa : Nat → Nat} {σ : St} {x y : Int32} : MW l D ad cy A sa yL_addWood cL_addWood 4 [(0, 6, 7, 26)] 2 2 σ [.ref (ad 0 0), .int x, .int y] (fun r σ' => WP (up σ 5 0 (ix x) (σ 5 0 (ix x) + y)) σ σ' (K_wood x y) [-1000002] (σ 5 0 (ix x) + y) r) := by
  refine MW.mk "FretSchoolLaw" (by decide) rfl (Nat.le_of_ble_eq_true rfl) rfl ?_
  intro p e s m args below meth c C tbl
  change Z _ _ _ _ _ _ _ _ _ _ _ _ _ _ _ _ _ _ _ [some (.ref (ad 0 0)), some (.int x), some (.int y), none] 0 []
  refine z_aload_n C dL_addWood_0 rfl ?_
  refine z_iload_n C dL_addWood_1 rfl ?_
  refine z_iload_n C dL_addWood_2 rfl ?_
  refine y_cvi C (As := [_, _]) (c_X5_addWood) okX5_addWood wd498 rc_0 (rok (by decide) (by decide)) ⟨Nat.le_of_ble_eq_true rfl, Nat.le_of_ble_eq_true rfl⟩ rfl (Nat.le_of_ble_eq_true rfl) dL_addWood_3 (fun E ce q9 u H1 locs1 ls hp hP hS hl g1 g2 g3 => by
    obtain ⟨hsm, hK0, hE⟩ := hp
    subst hsm
    obtain ⟨k, hk⟩ : ∃ k, K_wood x y = k := ⟨_, rfl⟩
    rw [hk] at hK0 hE
    match k, hk, hK0, hE with
    | 0, _, hK0, _ => exact absurd rfl hK0
    | 1, hk, _, hE =>
      obtain rfl : IAE = E := Option.some.inj hE
      refine x_catch C (pre := []) (x := ⟨0, 6, 7, 26⟩) (suf := []) tbl (by decide +kernel) (fun z hz => absurd hz List.not_mem_nil) (by decide) (by decide) wd187 ?_ hP hS hl g1 g2 g3
      refine z_astore_n C dL_addWood_7 (by decide) ?_
      dsimp only [List.set]
      refine z_ldc C (v := (-1000002)) wd266 dL_addWood_8 ?_
      refine z_widen (mc := 2) (ms := 12) (by decide) (by decide) ?_
      refine z_iret C dL_addWood_10 ?_
      exact WP.no hk rfl
    ) ?_
  rintro _ _ ⟨hK0, rfl, rfl⟩
  refine z_widen (mc := 2) (ms := 12) (by decide) (by decide) ?_
  refine z_iret C dL_addWood_6 ?_
  exact WP.ok hK0
set_option maxRecDepth 100000 in
set_option maxHeartbeats 4000000 in
theorem c_L_order {l : Launch} {D : va_G} {ad : Nat → Nat → Nat} {cy : Nat → ClassId} {A : Nat → Prop} {sa : Nat → Nat} {σ : St} {x y z : Int32} (hI : Inv σ) : MW l D ad cy A sa yL_order cL_order 5 [(0, 7, 8, 26), (0, 7, 13, 16)] 3 4 σ [.ref (ad 0 0), .int x, .int y, .int z] (fun r σ' => WP (orderS σ (ix (σ 0 0 8)) x y z) σ σ' (K_order σ x y z) [-1000002, -1000003] (σ 0 0 8) r) := by
  refine MW.mk "FretSchoolLaw" (by decide) rfl (Nat.le_of_ble_eq_true rfl) rfl ?_
  intro p e s m args below meth c C tbl
  change Z _ _ _ _ _ _ _ _ _ _ _ _ _ _ _ _ _ _ _ [some (.ref (ad 0 0)), some (.int x), some (.int y), some (.int z), none] 0 []
  refine z_aload_n C dL_order_0 rfl ?_
  refine z_iload_n C dL_order_1 rfl ?_
  refine z_iload_n C dL_order_2 rfl ?_
  refine z_iload_n C dL_order_3 rfl ?_
  refine y_cvi C (As := [_, _, _]) (c_X5_order hI) okX5_order wd520 rc_0 (rok (by decide) (by decide)) ⟨Nat.le_of_ble_eq_true rfl, Nat.le_of_ble_eq_true rfl⟩ rfl (Nat.le_of_ble_eq_true rfl) dL_order_4 (fun E ce q9 u H1 locs1 ls hp hP hS hl g1 g2 g3 => by
    obtain ⟨hsm, hK0, hE⟩ := hp
    subst hsm
    obtain ⟨k, hk⟩ : ∃ k, K_order σ x y z = k := ⟨_, rfl⟩
    rw [hk] at hK0 hE
    match k, hk, hK0, hE with
    | 0, _, hK0, _ => exact absurd rfl hK0
    | 1, hk, _, hE =>
      obtain rfl : IAE = E := Option.some.inj hE
      refine x_catch C (pre := []) (x := ⟨0, 7, 8, 26⟩) (suf := [⟨0, 7, 13, 16⟩]) tbl (by decide +kernel) (fun z hz => absurd hz List.not_mem_nil) (by decide) (by decide) wd187 ?_ hP hS hl g1 g2 g3
      refine z_astore C dL_order_8 (by decide) ?_
      dsimp only [List.set]
      refine z_ldc C (v := (-1000002)) wd266 dL_order_10 ?_
      refine z_widen (mc := 4) (ms := 24) (by decide) (by decide) ?_
      refine z_iret C dL_order_12 ?_
      exact WP.no hk rfl
    | 2, hk, _, hE =>
      obtain rfl : ISE = E := Option.some.inj hE
      refine x_catch C (pre := [⟨0, 7, 8, 26⟩]) (x := ⟨0, 7, 13, 16⟩) (suf := []) tbl (by decide +kernel) (List.forall_mem_cons.mpr ⟨⟨(by decide), IAE, by decide +kernel, by decide +kernel, wd187⟩, fun _ h => absurd h List.not_mem_nil⟩) (by decide) (by decide) wd415 ?_ hP hS hl g1 g2 g3
      refine z_astore C dL_order_13 (by decide) ?_
      dsimp only [List.set]
      refine z_ldc C (v := (-1000003)) wd443 dL_order_15 ?_
      refine z_widen (mc := 4) (ms := 24) (by decide) (by decide) ?_
      refine z_iret C dL_order_17 ?_
      exact WP.no hk rfl
    ) ?_
  rintro _ _ ⟨hK0, rfl, rfl⟩
  refine z_widen (mc := 4) (ms := 24) (by decide) (by decide) ?_
  refine z_iret C dL_order_7 ?_
  exact WP.ok hK0
set_option maxRecDepth 100000 in
set_option maxHeartbeats 4000000 in
theorem c_L_ready {l : Launch} {D : va_G} {ad : Nat → Nat → Nat} {cy : Nat → ClassId} {A : Nat → Prop} {sa : Nat → Nat} {σ : St} {x : Int32} (hI : Inv σ) : MW l D ad cy A sa yL_ready cL_ready 3 [(0, 5, 6, 23)] 2 1 σ [.ref (ad 0 0), .int x] (fun r σ' => WP (σ) σ σ' (K_ready σ x) [-1000001] (σ 16 (ix x) 2) r) := by
  refine MW.mk "FretSchoolLaw" (by decide) rfl (Nat.le_of_ble_eq_true rfl) rfl ?_
  intro p e s m args below meth c C tbl
  change Z _ _ _ _ _ _ _ _ _ _ _ _ _ _ _ _ _ _ _ [some (.ref (ad 0 0)), some (.int x), none] 0 []
  refine z_aload_n C dL_ready_0 rfl ?_
  refine z_iload_n C dL_ready_1 rfl ?_
  refine y_cvi C (As := [_]) (c_X5_ready hI) okX5_ready wd508 rc_0 (rok (by decide) (by decide)) ⟨Nat.le_of_ble_eq_true rfl, Nat.le_of_ble_eq_true rfl⟩ rfl (Nat.le_of_ble_eq_true rfl) dL_ready_2 (fun E ce q9 u H1 locs1 ls hp hP hS hl g1 g2 g3 => by
    obtain ⟨hsm, hK0, hE⟩ := hp
    subst hsm
    obtain ⟨k, hk⟩ : ∃ k, K_ready σ x = k := ⟨_, rfl⟩
    rw [hk] at hK0 hE
    match k, hk, hK0, hE with
    | 0, _, hK0, _ => exact absurd rfl hK0
    | 1, hk, _, hE =>
      obtain rfl : IOOBE = E := Option.some.inj hE
      refine x_catch C (pre := []) (x := ⟨0, 5, 6, 23⟩) (suf := []) tbl (by decide +kernel) (fun z hz => absurd hz List.not_mem_nil) (by decide) (by decide) wd337 ?_ hP hS hl g1 g2 g3
      refine z_astore_n C dL_ready_6 (by decide) ?_
      dsimp only [List.set]
      refine z_ldc C (v := (-1000001)) wd367 dL_ready_7 ?_
      refine z_widen (mc := 1) (ms := 6) (by decide) (by decide) ?_
      refine z_iret C dL_ready_9 ?_
      exact WP.no hk rfl
    ) ?_
  rintro _ _ ⟨hK0, rfl, rfl⟩
  refine z_widen (mc := 1) (ms := 6) (by decide) (by decide) ?_
  refine z_iret C dL_ready_5 ?_
  exact WP.ok hK0
set_option maxRecDepth 100000 in
set_option maxHeartbeats 4000000 in
theorem c_L_fetch {l : Launch} {D : va_G} {ad : Nat → Nat → Nat} {cy : Nat → ClassId} {A : Nat → Prop} {sa : Nat → Nat} {σ : St} {x a b c0 d0 : Int32} (hI : Inv σ) : MW l D ad cy A sa yL_fetch cL_fetch 7 [(0, 11, 12, 23), (0, 11, 17, 26), (0, 11, 22, 16)] 2 6 σ [.ref (ad 0 0), .int x, .int a, .int b, .int c0, .int d0] (fun r σ' => WP (fetchS σ (ix x) (ix (σ 0 0 7)) a b c0 d0) σ σ' (K_fetch σ x a b c0 d0) [-1000001, -1000002, -1000003] (σ 0 0 7) r) := by
  refine MW.mk "FretSchoolLaw" (by decide) rfl (Nat.le_of_ble_eq_true rfl) rfl ?_
  intro p e s m args below meth c C tbl
  change Z _ _ _ _ _ _ _ _ _ _ _ _ _ _ _ _ _ _ _ [some (.ref (ad 0 0)), some (.int x), some (.int a), some (.int b), some (.int c0), some (.int d0), none] 0 []
  refine z_aload_n C dL_fetch_0 rfl ?_
  refine z_iload_n C dL_fetch_1 rfl ?_
  refine z_iload_n C dL_fetch_2 rfl ?_
  refine z_iload_n C dL_fetch_3 rfl ?_
  refine z_iload C dL_fetch_4 rfl ?_
  refine z_iload C dL_fetch_6 rfl ?_
  refine y_cvi C (As := [_, _, _, _, _]) (c_X5_fetch hI) okX5_fetch wd553 rc_0 (rok (by decide) (by decide)) ⟨Nat.le_of_ble_eq_true rfl, Nat.le_of_ble_eq_true rfl⟩ rfl (Nat.le_of_ble_eq_true rfl) dL_fetch_8 (fun E ce q9 u H1 locs1 ls hp hP hS hl g1 g2 g3 => by
    obtain ⟨hsm, hK0, hE⟩ := hp
    subst hsm
    obtain ⟨k, hk⟩ : ∃ k, K_fetch σ x a b c0 d0 = k := ⟨_, rfl⟩
    rw [hk] at hK0 hE
    match k, hk, hK0, hE with
    | 0, _, hK0, _ => exact absurd rfl hK0
    | 1, hk, _, hE =>
      obtain rfl : IOOBE = E := Option.some.inj hE
      refine x_catch C (pre := []) (x := ⟨0, 11, 12, 23⟩) (suf := [⟨0, 11, 17, 26⟩, ⟨0, 11, 22, 16⟩]) tbl (by decide +kernel) (fun z hz => absurd hz List.not_mem_nil) (by decide) (by decide) wd337 ?_ hP hS hl g1 g2 g3
      refine z_astore C dL_fetch_12 (by decide) ?_
      dsimp only [List.set]
      refine z_ldc C (v := (-1000001)) wd367 dL_fetch_14 ?_
      refine z_widen (mc := 6) (ms := 36) (by decide) (by decide) ?_
      refine z_iret C dL_fetch_16 ?_
      exact WP.no hk rfl
    | 2, hk, _, hE =>
      obtain rfl : IAE = E := Option.some.inj hE
      refine x_catch C (pre := [⟨0, 11, 12, 23⟩]) (x := ⟨0, 11, 17, 26⟩) (suf := [⟨0, 11, 22, 16⟩]) tbl (by decide +kernel) (List.forall_mem_cons.mpr ⟨⟨(by decide), IOOBE, by decide +kernel, by decide +kernel, wd337⟩, fun _ h => absurd h List.not_mem_nil⟩) (by decide) (by decide) wd187 ?_ hP hS hl g1 g2 g3
      refine z_astore C dL_fetch_17 (by decide) ?_
      dsimp only [List.set]
      refine z_ldc C (v := (-1000002)) wd266 dL_fetch_19 ?_
      refine z_widen (mc := 6) (ms := 36) (by decide) (by decide) ?_
      refine z_iret C dL_fetch_21 ?_
      exact WP.no hk rfl
    | 3, hk, _, hE =>
      obtain rfl : ISE = E := Option.some.inj hE
      refine x_catch C (pre := [⟨0, 11, 12, 23⟩, ⟨0, 11, 17, 26⟩]) (x := ⟨0, 11, 22, 16⟩) (suf := []) tbl (by decide +kernel) (List.forall_mem_cons.mpr ⟨⟨(by decide), IOOBE, by decide +kernel, by decide +kernel, wd337⟩, List.forall_mem_cons.mpr ⟨⟨(by decide), IAE, by decide +kernel, by decide +kernel, wd187⟩, fun _ h => absurd h List.not_mem_nil⟩⟩) (by decide) (by decide) wd415 ?_ hP hS hl g1 g2 g3
      refine z_astore C dL_fetch_22 (by decide) ?_
      dsimp only [List.set]
      refine z_ldc C (v := (-1000003)) wd443 dL_fetch_24 ?_
      refine z_widen (mc := 6) (ms := 36) (by decide) (by decide) ?_
      refine z_iret C dL_fetch_26 ?_
      exact WP.no hk rfl
    ) ?_
  rintro _ _ ⟨hK0, rfl, rfl⟩
  refine z_widen (mc := 6) (ms := 36) (by decide) (by decide) ?_
  refine z_iret C dL_fetch_11 ?_
  exact WP.ok hK0
set_option maxRecDepth 100000 in
set_option maxHeartbeats 4000000 in
theorem c_L_pass {l : Launch} {D : va_G} {ad : Nat → Nat → Nat} {cy : Nat → ClassId} {A : Nat → Prop} {sa : Nat → Nat} {σ : St} {x : Int32} : MW l D ad cy A sa yL_pass cL_pass 3 [(0, 5, 6, 26), (0, 5, 10, 16)] 2 2 σ [.ref (ad 0 0), .int x] (fun r σ' => WP (up σ 0 0 9 (σ 0 0 9 + x)) σ σ' (K_pass σ x) [-1000002, -1000003] (σ 0 0 9 + x) r) := by
  refine MW.mk "FretSchoolLaw" (by decide) rfl (Nat.le_of_ble_eq_true rfl) rfl ?_
  intro p e s m args below meth c C tbl
  change Z _ _ _ _ _ _ _ _ _ _ _ _ _ _ _ _ _ _ _ [some (.ref (ad 0 0)), some (.int x), none] 0 []
  refine z_aload_n C dL_pass_0 rfl ?_
  refine z_iload_n C dL_pass_1 rfl ?_
  refine y_cvi C (As := [_]) (c_X5_pass) okX5_pass wd542 rc_0 (rok (by decide) (by decide)) ⟨Nat.le_of_ble_eq_true rfl, Nat.le_of_ble_eq_true rfl⟩ rfl (Nat.le_of_ble_eq_true rfl) dL_pass_2 (fun E ce q9 u H1 locs1 ls hp hP hS hl g1 g2 g3 => by
    obtain ⟨hsm, hK0, hE⟩ := hp
    subst hsm
    obtain ⟨k, hk⟩ : ∃ k, K_pass σ x = k := ⟨_, rfl⟩
    rw [hk] at hK0 hE
    match k, hk, hK0, hE with
    | 0, _, hK0, _ => exact absurd rfl hK0
    | 1, hk, _, hE =>
      obtain rfl : IAE = E := Option.some.inj hE
      refine x_catch C (pre := []) (x := ⟨0, 5, 6, 26⟩) (suf := [⟨0, 5, 10, 16⟩]) tbl (by decide +kernel) (fun z hz => absurd hz List.not_mem_nil) (by decide) (by decide) wd187 ?_ hP hS hl g1 g2 g3
      refine z_astore_n C dL_pass_6 (by decide) ?_
      dsimp only [List.set]
      refine z_ldc C (v := (-1000002)) wd266 dL_pass_7 ?_
      refine z_widen (mc := 2) (ms := 12) (by decide) (by decide) ?_
      refine z_iret C dL_pass_9 ?_
      exact WP.no hk rfl
    | 2, hk, _, hE =>
      obtain rfl : ISE = E := Option.some.inj hE
      refine x_catch C (pre := [⟨0, 5, 6, 26⟩]) (x := ⟨0, 5, 10, 16⟩) (suf := []) tbl (by decide +kernel) (List.forall_mem_cons.mpr ⟨⟨(by decide), IAE, by decide +kernel, by decide +kernel, wd187⟩, fun _ h => absurd h List.not_mem_nil⟩) (by decide) (by decide) wd415 ?_ hP hS hl g1 g2 g3
      refine z_astore_n C dL_pass_10 (by decide) ?_
      dsimp only [List.set]
      refine z_ldc C (v := (-1000003)) wd443 dL_pass_11 ?_
      refine z_widen (mc := 2) (ms := 12) (by decide) (by decide) ?_
      refine z_iret C dL_pass_13 ?_
      exact WP.no hk rfl
    ) ?_
  rintro _ _ ⟨hK0, rfl, rfl⟩
  refine z_widen (mc := 2) (ms := 12) (by decide) (by decide) ?_
  refine z_iret C dL_pass_5 ?_
  exact WP.ok hK0
section ZL
variable {p : Program} {l : Launch} {e : Env} {R : Room} {s : State} {m : MethodId} {args : Array Value} {below : List Frame} {meth : Method} {c : Code} {D : va_G} {ad : Nat → Nat → Nat} {cy : Nat → ClassId} {A : Nat → Prop} {sa : Nat → Nat} {nL cells slots : Nat} {Q : State → Prop} {σ : St} {L : List (Option Value)} {pc : Nat} {st stk : List Value} {cc : ByteArray} {own : String} {ret : Option FieldType}
theorem z_csw (C : Cx p l s m args meth c cc own nL ret D ad cy A sa) {y : MethodName} {bytes : ByteArray} {maxL : Nat} {hh : List (Nat × Nat × Nat × Nat)} {d mc : Nat} {post : Int32 → St → Prop} {As : List Value} {idx : Nat} (M : MW l D ad cy A sa y bytes maxL hh d mc σ As post) (h1 : Cond.static y ∈ BIG) (h2 : Cond.initialized y.cls ∈ BIG) (h3 : Cond.codeWith y bytes maxL (some .int) hh ∈ BIG) (hd : y.cls ≠ "java/lang/invoke/MethodHandle" ∧ y.cls ≠ "java/lang/invoke/VarHandle" ∧ (parseMethodDescriptor y.desc).map (fun d => d.parameters.length) = some As.length) (hw : Cond.methodLink own idx y ∈ BIG) (hR : Rok R d maxL) (hc : cells + mc ≤ R.cells ∧ slots + 6 * mc ≤ R.slots) (hst : stk = As.reverse ++ st) (hcat : (st.map fun v => v.category).sum ≤ 8) (hdg : decode cc pc = .ok (.invokestatic idx, 3)) (kk : ∀ (r : Int32) (σ' : St), post r σ' → Z p l e R s m args below meth c D ad cy A nL (cells + mc) (slots + 6 * mc) Q σ' L (pc + 3) (.int r :: st)) : Z p l e R s m args below meth c D ad cy A nL cells slots Q σ L pc stk := by
  intro H locs ls hP hS hl
  obtain ⟨hx, hb, hml, hown, hts, hr0, hlk, hF⟩ := C
  subst hst
  refine va_calli (vx_runSW (g := F0 m pc ls (As.reverse ++ st)) (As := As) (rest := st) ⟨hx, hb, hml, hown, hts⟩ M (vx_cwSW As.length hts (okS_in h1 h2 h3 hw) rfl rfl rfl hd hR) ⟨PcW.blind, fun U hU hW => ⟨rfl, hF.call hS hU hW, by rw [hU]; exact hP⟩⟩ rfl rfl hl.1 rfl (lv_room hcat) hdg hc) hS (fun q _ h => h) (fun q h => h) (fun r u t H1 locs1 ht hvm hw1 hB hz1 hk1 hS1 => ?_)
  exact kk r u hw1 H1 locs1 ls (by rw [← ht]; exact hB) hS1 hl
theorem z_sld (C : Cx p l s m args meth c cc own nL ret D ad cy A sa) {b L0 : Nat} {xs : Nat → Int32} (hX : va_X b L0 xs s s.heap) (hbl : b < s.heap.size) (hbA : ¬ A b) {i : Int32} (hin : vp_in i L0) (hdg : decode cc pc = .ok (.iaload, 1)) (k : Z p l e R s m args below meth c D ad cy A nL cells slots Q σ L (pc + 1) (.int (xs i.toNatClampNeg) :: st)) : Z p l e R s m args below meth c D ad cy A nL cells slots Q σ L pc (.int i :: .ref b :: st) :=
  fun H locs ls hP hS hl => va_sld C.1 C.2.1 hX hbl hbA hS hin hdg (k H locs ls hP hS hl)
theorem z_slen (C : Cx p l s m args meth c cc own nL ret D ad cy A sa) {b L0 : Nat} {xs : Nat → Int32} (hX : va_X b L0 xs s s.heap) (hbl : b < s.heap.size) (hbA : ¬ A b) (hdg : decode cc pc = .ok (.arraylength, 1)) (k : Z p l e R s m args below meth c D ad cy A nL cells slots Q σ L (pc + 1) (.int (Int32.ofNat L0) :: st)) : Z p l e R s m args below meth c D ad cy A nL cells slots Q σ L pc (.ref b :: st) :=
  fun H locs ls hP hS hl => va_slen C.1 C.2.1 hX hbl hbA hS hdg (k H locs ls hP hS hl)
/-- a method of the law that may make cells -/
def MK (l : Launch) (D : va_G) (ad : Nat → Nat → Nat) (cy : Nat → ClassId) (A : Nat → Prop) (sa : Nat → Nat) (y : MethodName) (bytes : ByteArray) (maxL : Nat) (ret : Option FieldType) (d mc : Nat) (σ : St) (av : List Value) (post : Int32 → St → Prop) : Prop :=
  Met l y (Cond.code y bytes maxL ret :: BIG) (rmD d mc) (PcW l D ad cy A sa σ av) (va_Qi post (Bw D ad cy) A) mc (6 * mc) A
theorem MK.mk {y : MethodName} {bytes : ByteArray} {maxL : Nat} {d mc : Nat} {av : List Value} {post : Int32 → St → Prop} (own : String) (hy : plainName y.cls = true) (ho : y.cls = own) (hlen : (lg_sl av).length ≤ maxL) (hc : av.all (fun v => v.category == 1) = true)
    (body : ∀ (p : Program) (e : Env) (s : State) (m : MethodId) (args : Array Value) (below : List Frame) (meth : Method) (c : Code), Cx p l s m args meth c bytes own maxL ret D ad cy A sa → Z p l e (rmD d mc) s m args below meth c D ad cy A maxL 0 0 (MQ below (va_Qi post (Bw D ad cy) A) args s mc (6 * mc) A) σ (L0 av maxL) 0 []) : MK l D ad cy A sa y bytes maxL ret d mc σ av post := by
  refine Met.ofW (cc := bytes) (maxL := maxL) (ret := ret) hy rfl ?_
  intro p e s m args below meth c s₁ B hml hv
  obtain ⟨rfl, hF, hP⟩ := hv
  have C := Cx.of (own := own) B hml ho hF
  have hl := lv_entry av (n := maxL) hlen
  rw [lg_entry_eq]
  exact body p e s m _ below meth c C s.heap [] _ hP va_S.rf (lh_entry hc hl)
theorem z_csk (C : Cx p l s m args meth c cc own nL ret D ad cy A sa) {y : MethodName} {bytes : ByteArray} {maxL : Nat} {ret' : Option FieldType} {d mc : Nat} {post : Int32 → St → Prop} {As : List Value} {idx : Nat} (M : MK l D ad cy A sa y bytes maxL ret' d mc σ As post) (ok : OkS y bytes maxL ret' As.length) (hw : Cond.methodLink own idx y ∈ BIG) (hR : Rok R d maxL) (hc : cells + mc ≤ R.cells ∧ slots + 6 * mc ≤ R.slots) (hst : stk = As.reverse ++ st) (hcat : (st.map fun v => v.category).sum ≤ 8) (hdg : decode cc pc = .ok (.invokestatic idx, 3)) (kk : ∀ (r : Int32) (σ' : St), post r σ' → Z p l e R s m args below meth c D ad cy A nL (cells + mc) (slots + 6 * mc) Q σ' L (pc + 3) (.int r :: st)) : Z p l e R s m args below meth c D ad cy A nL cells slots Q σ L pc stk := by
  intro H locs ls hP hS hl
  obtain ⟨hx, hb, hml, hown, hts, hr0, hlk, hF⟩ := C
  subst hst
  refine va_calli (va_runS (g := F0 m pc ls (As.reverse ++ st)) (As := As) (rest := st) ⟨hx, hb, hml, hown, hts⟩ M (va_cwS As.length hts (okS_in ok.1 ok.2.1 ok.2.2.1 hw) rfl rfl rfl ok.2.2.2 hR) ⟨PcW.blind, fun U hU hW => ⟨rfl, hF.call hS hU hW, by rw [hU]; exact hP⟩⟩ rfl rfl hl.1 rfl (lv_room hcat) hdg hc) hS (fun q _ h => h) (fun q h => h) (fun r u t H1 locs1 ht hvm hw1 hB hz1 hk1 hS1 => ?_)
  exact kk r u hw1 H1 locs1 ls (by rw [← ht]; exact hB) hS1 hl
theorem z_irem (C : Cx p l s m args meth c cc own nL ret D ad cy A sa) {x y : Int32} (hy : ¬ y = 0) (hdg : decode cc pc = .ok (.irem, 1)) (k : Z p l e R s m args below meth c D ad cy A nL cells slots Q σ L (pc + 1) (.int (x - x / y * y) :: st)) : Z p l e R s m args below meth c D ad cy A nL cells slots Q σ L pc (.int y :: .int x :: st) :=
  fun H locs ls hP hS hl => lv_irem C.1 C.2.1 hdg hy (k H locs ls hP hS hl)
theorem z_idiv (C : Cx p l s m args meth c cc own nL ret D ad cy A sa) {x y : Int32} (hy : ¬ y = 0) (hdg : decode cc pc = .ok (.idiv, 1)) (k : Z p l e R s m args below meth c D ad cy A nL cells slots Q σ L (pc + 1) (.int (x / y) :: st)) : Z p l e R s m args below meth c D ad cy A nL cells slots Q σ L pc (.int y :: .int x :: st) :=
  fun H locs ls hP hS hl => lv_idiv C.1 C.2.1 hdg hy (k H locs ls hP hS hl)
end ZL
theorem okL_at : OkS yL_at cL_at 2 (some .int) 2 := ⟨wd180, wd13, wd181, by decide +kernel⟩
theorem okL_fingers : OkS yL_fingers cL_fingers 18 (some .boolean) 6 := ⟨wd332, wd13, wd333, by decide +kernel⟩
theorem okL_apart : OkS yL_apart cL_apart 2 (some .int) 2 := ⟨wd369, wd13, wd370, by decide +kernel⟩
theorem okL_stringOf : OkS yL_stringOf cL_stringOf 7 (some .int) 5 := ⟨wd372, wd13, wd373, by decide +kernel⟩
theorem okL_acts : OkS yL_acts cL_acts 15 (some .boolean) 9 := ⟨wd445, wd13, wd446, by decide +kernel⟩
theorem okL_low : OkS yL_low cL_low 2 (some .int) 2 := ⟨wd448, wd13, wd449, by decide +kernel⟩
theorem okL_pieces : OkS yL_pieces cL_pieces 10 (some .boolean) 5 := ⟨wd452, wd13, wd453, by decide +kernel⟩
theorem okL_orders : OkS yL_orders cL_orders 12 (some .boolean) 6 := ⟨wd503, wd13, wd504, by decide +kernel⟩
theorem okL_fetches : OkS yL_fetches cL_fetches 13 (some .boolean) 7 := ⟨wd548, wd13, wd549, by decide +kernel⟩
theorem okL_nexts : OkS yL_nexts cL_nexts 9 (some .boolean) 4 := ⟨wd596, wd13, wd597, by decide +kernel⟩
theorem okL_learns : OkS yL_learns cL_learns 12 (some .boolean) 6 := ⟨wd599, wd13, wd600, by decide +kernel⟩
end
section
/-! ===== the law's small methods ===== -/
def lowN (v : Int32) (k : Nat) : Nat := (v &&& 2147483647).toNatClampNeg % k
theorem lowN_lt {v : Int32} {k : Nat} (h : 0 < k) : lowN v k < k := Nat.mod_lt _ h
theorem low_val {v n : Int32} {k : Nat} (hn : n = nI k) (h0 : 0 < k) (hk : k < 2 ^ 31) : (v &&& 2147483647) - (v &&& 2147483647) / n * n = nI (lowN v k) := by
  obtain ⟨j, hj, e⟩ := pk_andE v 31 (m := 2147483647) (by decide)
  unfold lowN
  rw [e, nI_clamp (by omega), hn]
  exact pk_rem (by omega) h0 hk
def apN (a b : Nat) : Nat := if a < b then b - a else a - b
theorem apN_sh {a b : Nat} (h : 1 ≤ a) : apN a b = sh a b := by
  unfold apN sh
  rw [if_neg (show ¬ a = 0 by omega)]
  by_cases q : a < b
  · rw [if_pos q, if_pos (by omega)]
  · by_cases q2 : a ≤ b
    · rw [if_neg q, if_pos q2]; omega
    · rw [if_neg q, if_neg q2]
theorem div32 {f w : Nat} (hf : f < 32) (hw : w < 1000) : nI (f + 32 * w) / 32 = nI w := by
  rw [show (32 : Int32) = nI 32 from rfl, pk_div (by omega) (by omega) (by omega), show (f + 32 * w) / 32 = w by omega]
theorem rem32 {f w : Nat} (hf : f < 32) (hw : w < 1000) : nI (f + 32 * w) - nI (f + 32 * w) / 32 * 32 = nI f := by
  rw [show (32 : Int32) = nI 32 from rfl, pk_rem (by omega) (by omega) (by omega), show (f + 32 * w) % 32 = f by omega]
theorem shr_bit {x : Int32} {j : Nat} (hj : j < 32) : (x >>> (nI j &&& 31)) &&& 1 = 0 ↔ x &&& (1 <<< (nI j &&& 31)) = 0 := by
  have h0 := bit_zero (x := x >>> (nI j &&& 31)) (h := 0) (by decide)
  rw [show ((1 : Int32) <<< (nI 0 &&& 31)) = 1 by decide] at h0
  rw [bit_zero hj, h0]
  have e : ((nI j &&& 31).toBitVec.smod 32).toNat = j := by
    have : ∀ j, j < 32 → ((nI j &&& 31).toBitVec.smod 32).toNat = j := by decide +kernel
    exact this j hj
  rw [Int32.toBitVec_shiftRight]
  show (x.toBitVec.sshiftRight ((nI j &&& 31).toBitVec.smod 32).toNat).getLsbD 0 = false ↔ _
  rw [e, BitVec.getLsbD_sshiftRight]
  simp [hj]
  try omega
set_option maxRecDepth 100000 in
set_option maxHeartbeats 4000000 in
theorem c_L_low {l : Launch} {D : va_G} {ad : Nat → Nat → Nat} {cy : Nat → ClassId} {A : Nat → Prop} {sa : Nat → Nat} {σ : St} {v n : Int32} {k : Nat} (hn : n = nI k) (h0 : 0 < k) (hk : k < 2 ^ 31) : MI l D ad cy A sa yL_low cL_low 2 (some .int) 0 σ [.int v, .int n] (fun r σ' => r = nI (lowN v k) ∧ σ = σ') := by
  refine MI.mk "FretSchoolLaw" (by decide) rfl (Nat.le_of_ble_eq_true rfl) rfl ?_
  intro p e s m args below meth c C
  change Z _ _ _ _ _ _ _ _ _ _ _ _ _ _ _ _ _ _ _ [some (.int v), some (.int n)] 0 []
  refine z_iload_n C dL_low_0 rfl ?_
  refine z_ldc C (v := 2147483647) wd450 dL_low_1 ?_
  refine z_iand C dL_low_3 ?_
  refine z_iload_n C dL_low_4 rfl ?_
  refine z_irem C (by rw [hn]; exact nI_ne0 h0 hk) dL_low_5 ?_
  refine z_iret C dL_low_6 ?_
  exact ⟨low_val hn h0 hk, rfl⟩
set_option maxRecDepth 100000 in
set_option maxHeartbeats 4000000 in
theorem c_L_apart {l : Launch} {D : va_G} {ad : Nat → Nat → Nat} {cy : Nat → ClassId} {A : Nat → Prop} {sa : Nat → Nat} {σ : St} {x y : Int32} {a b : Nat} (ex : x = nI a) (ey : y = nI b) (ha : a < 2 ^ 31) (hb : b < 2 ^ 31) : MI l D ad cy A sa yL_apart cL_apart 2 (some .int) 0 σ [.int x, .int y] (fun r σ' => r = nI (apN a b) ∧ σ = σ') := by
  refine MI.mk "FretSchoolLaw" (by decide) rfl (Nat.le_of_ble_eq_true rfl) rfl ?_
  intro p e s m args below meth c C
  change Z _ _ _ _ _ _ _ _ _ _ _ _ _ _ _ _ _ _ _ [some (.int x), some (.int y)] 0 []
  refine z_iload_n C dL_apart_0 rfl ?_
  refine z_iload_n C dL_apart_1 rfl ?_
  refine z_icmp_ge C 11 dL_apart_2 (by decide) (fun c_2 => ?_) (fun c_2 => ?_)
  · have q : b ≤ a := by rw [ex, ey, nI_leI hb ha] at c_2; exact c_2
    refine z_iload_n C dL_apart_11 rfl ?_
    refine z_iload_n C dL_apart_12 rfl ?_
    refine z_isub C dL_apart_13 ?_
    refine z_iret C dL_apart_14 ?_
    refine ⟨?_, rfl⟩
    unfold apN
    first
      | rw [if_pos q, ex, ey, pk_sub (by omega)]
      | rw [if_neg (by omega), ex, ey, pk_sub q]
  · have q : a < b := by rw [ex, ey, nI_leI hb ha] at c_2; omega
    refine z_iload_n C dL_apart_5 rfl ?_
    refine z_iload_n C dL_apart_6 rfl ?_
    refine z_isub C dL_apart_7 ?_
    refine z_goto C 14 dL_apart_8 (by decide) ?_
    refine z_iret C dL_apart_14 ?_
    refine ⟨?_, rfl⟩
    unfold apN
    first
      | rw [if_pos q, ex, ey, pk_sub (by omega)]
      | rw [if_neg (by omega), ex, ey, pk_sub q]
/-- the law's at: whatever it answers -/
def PcA (l : Launch) (D : va_G) (ad : Nat → Nat → Nat) (cy : Nat → ClassId) (A : Nat → Prop) (sa : Nat → Nat) (b L : Nat) (xs : Nat → Int32) (σ : St) (av : List Value) : Array Value → State → Prop := va_Pc av (fun U => Fx l D ad cy A sa U ∧ va_P D vwCl (WL ad cy σ) U.heap ∧ va_X b L xs U U.heap ∧ b < U.heap.size)
theorem PcA.blind {l : Launch} {D : va_G} {ad : Nat → Nat → Nat} {cy : Nat → ClassId} {A : Nat → Prop} {sa : Nat → Nat} {b L : Nat} {xs : Nat → Int32} {σ : St} {av : List Value} : FrameBlind (PcA l D ad cy A sa b L xs σ av) := fun g mk a U q => ⟨q.1, q.2.1.blind, q.2.2.1, va_X.moved (u := _) (U := _) (Vm.Alike.refl _) q.2.2.2.1, q.2.2.2.2⟩
def MA (l : Launch) (D : va_G) (ad : Nat → Nat → Nat) (cy : Nat → ClassId) (A : Nat → Prop) (sa : Nat → Nat) (b L : Nat) (xs : Nat → Int32) (σ : St) (k : Int32) : Prop :=
  Met l yL_at (Cond.code yL_at cL_at 2 (some .int) :: BIG) (rmD 0 0) (PcA l D ad cy A sa b L xs σ [.ref b, .int k]) (va_Qi (fun _ σ' => σ = σ') (Bw D ad cy) A) 0 0 A
set_option maxRecDepth 100000 in
set_option maxHeartbeats 4000000 in
theorem c_L_at {l : Launch} {D : va_G} {ad : Nat → Nat → Nat} {cy : Nat → ClassId} {A : Nat → Prop} {sa : Nat → Nat} {b L : Nat} {xs : Nat → Int32} {σ : St} (hbA : ¬ A b) (hL : L ≤ 260) {t : Nat} (ht : t < 100000) : MA l D ad cy A sa b L xs σ (nI t) := by
  refine Met.ofW (cc := cL_at) (maxL := 2) (ret := some .int) (by decide) rfl ?_
  intro p e s m args below meth c s₁ B hml hv
  obtain ⟨rfl, hF, hP, hX, hbl⟩ := hv
  have C := Cx.of (own := "FretSchoolLaw") B hml rfl hF
  have hl := lv_entry [.ref b, .int (nI t)] (n := 2) (Nat.le_of_ble_eq_true rfl)
  rw [lg_entry_eq]
  have Z0 : Z p l e (rmD 0 0) s m #[.ref b, .int (nI t)] below meth c D ad cy A 2 0 0 (MQ below (va_Qi (fun _ σ' => σ = σ') (Bw D ad cy) A) #[.ref b, .int (nI t)] s 0 0 A) σ [some (.ref b), some (.int (nI t))] 0 [] := by
    refine z_iload_n C dL_at_0 rfl ?_
    refine z_aload_n C dL_at_1 rfl ?_
    refine z_slen C hX hbl hbA dL_at_2 ?_
    refine z_icmp_ge C 12 dL_at_3 (by decide) (fun _ => ?_) (fun cg => ?_)
    · refine z_ldc C (v := 937025989) wd182 dL_at_12 ?_
      refine z_iload_n C dL_at_14 rfl ?_
      refine z_iconst C (v := 1) dL_at_15 (by decide) ?_
      refine z_iadd C dL_at_16 ?_
      refine z_imul C dL_at_17 ?_
      refine z_ldc C (v := 1550557855) wd183 dL_at_18 ?_
      refine z_iadd C dL_at_20 ?_
      refine z_iret C dL_at_21 ?_
      rfl
    · have hq : t < L := by
        rw [show Int32.ofNat L = nI L from rfl, nI_leI (by omega) (by omega)] at cg
        omega
      refine z_aload_n C dL_at_6 rfl ?_
      refine z_iload_n C dL_at_7 rfl ?_
      refine z_sld C hX hbl hbA (nI_in hq (by omega)) dL_at_8 ?_
      refine z_goto C 21 dL_at_9 (by decide) ?_
      refine z_iret C dL_at_21 ?_
      rfl
  exact Z0 s.heap [] _ hP va_S.rf (lh_entry rfl hl)

section ZL
variable {p : Program} {l : Launch} {e : Env} {R : Room} {s : State} {m : MethodId} {args : Array Value} {below : List Frame} {meth : Method} {c : Code} {D : va_G} {ad : Nat → Nat → Nat} {cy : Nat → ClassId} {A : Nat → Prop} {sa : Nat → Nat} {nL cells slots : Nat} {Q : State → Prop} {σ : St} {L : List (Option Value)} {pc : Nat} {st stk : List Value} {cc : ByteArray} {own : String} {ret : Option FieldType}
theorem z_csa (C : Cx p l s m args meth c cc own nL ret D ad cy A sa) {b L0 : Nat} {xs : Nat → Int32} (hX : va_X b L0 xs s s.heap) (hbl : b < s.heap.size) (hbA : ¬ A b) {k : Int32} {idx : Nat} (M : MA l D ad cy A sa b L0 xs σ k) (hw : Cond.methodLink own idx yL_at ∈ BIG) (hR : Rok R 0 2) (hc : cells ≤ R.cells ∧ slots ≤ R.slots) (hcat : (st.map fun v => v.category).sum ≤ 8) (hdg : decode cc pc = .ok (.invokestatic idx, 3)) (kk : ∀ r : Int32, Z p l e R s m args below meth c D ad cy A nL cells slots Q σ L (pc + 3) (.int r :: st)) : Z p l e R s m args below meth c D ad cy A nL cells slots Q σ L pc (.int k :: .ref b :: st) := by
  intro H locs ls hP hS hl
  obtain ⟨hx, hb, hml, hown, hts, hr0, hlk, hF⟩ := C
  refine va_calli (va_runS (g := F0 m pc ls ([Value.ref b, .int k].reverse ++ st)) (As := [.ref b, .int k]) (rest := st) ⟨hx, hb, hml, hown, hts⟩ M (va_cwS 2 hts (okS_in okL_at.1 okL_at.2.1 okL_at.2.2.1 hw) rfl rfl rfl okL_at.2.2.2 hR) ⟨PcA.blind, fun U hU hW => ⟨rfl, hF.call hS hU hW, by rw [hU]; exact hP, by rw [hU]; exact (hX.kept (hS.2.1 b hbl hbA)).moved hW.alike, by rw [hU]; exact Nat.lt_of_lt_of_le hbl hS.1⟩⟩ rfl rfl hl.1 rfl (lv_room hcat) hdg hc) hS (fun q _ h => h) (fun q h => h) (fun r u t H1 locs1 ht hvm hw1 hB hz1 hk1 hS1 => ?_)
  have e : σ = u := hw1
  subst e
  exact kk r H1 locs1 ls (by rw [← ht]; exact hB) hS1 hl
end ZL
section
variable {p : Program} {l : Launch} {e : Env} {R : Room} {s : State} {m : MethodId} {args : Array Value} {below : List Frame} {meth : Method} {c : Code} {D : va_G} {ad : Nat → Nat → Nat} {cy : Nat → ClassId} {A : Nat → Prop} {sa : Nat → Nat} {cells slots : Nat} {σ : St}
set_option maxRecDepth 100000 in
set_option maxHeartbeats 4000000 in
theorem lp_L_stringOf (C : Cx p l s m args meth c cL_stringOf "FretSchoolLaw" 7 (some .int) D ad cy A sa) {q h f0 w : Nat} {p0 : Int32} (hq : q < 8) (hf : f0 ≤ 16) (hw : w < 5) (hh : h + 3 ≤ f0) (ef : σ 19 0 q = nI (f0 + 32 * w)) : ∀ (f j : Nat) (x : Int32) (o6 : Option Value), x = nI j → j ≤ 4 → 4 < j + f → (∀ k, k < j → ¬ lies (p0 - (fun k => σ 18 0 (4 * q + k)) k) (nI h)) → Z p l e R s m args below meth c D ad cy A 7 cells slots (MQ below (va_Qi (fun r σ' => σ = σ' ∧ r = lowS p0 (fun k => σ 18 0 (4 * q + k)) (nI h)) (Bw D ad cy) A) args s cells slots A) σ [some (.ref (ad 18 0)), some (.ref (ad 19 0)), some (.int (nI q)), some (.int p0), some (.int (nI h)), some (.int x), o6] 3 [] := by
  intro f
  induction f with
  | zero => intro j x o6 _ _ h _; exact absurd h (by omega)
  | succ f ih =>
    intro j x o6 ex hj hf9 hno
    subst ex
    refine z_iload C dL_stringOf_3 rfl ?_
    refine z_iconst C (v := 4) dL_stringOf_5 (by decide) ?_
    refine z_icmp_ge C 62 dL_stringOf_6 (by decide) (fun c_6 => ?_) (fun c_6 => ?_)
    · have hjn : 4 ≤ j := by rw [show (4 : Int32) = nI 4 from rfl, nI_leI (by omega) (by omega)] at c_6; exact c_6
      refine z_iconst C (v := (-1)) dL_stringOf_62 (by decide) ?_
      refine z_iret C dL_stringOf_63 ?_
      exact ⟨rfl, lowS_none (fun k hk => hno k (by omega))⟩
    · have hjn : j < 4 := by rw [show (4 : Int32) = nI 4 from rfl, nI_leI (by omega) (by omega)] at c_6; omega
      refine z_iload_n C dL_stringOf_9 rfl ?_
      refine z_aload_n C dL_stringOf_10 rfl ?_
      refine z_iconst C (v := 4) dL_stringOf_11 (by decide) ?_
      refine z_iload_n C dL_stringOf_12 rfl ?_
      refine z_imul C dL_stringOf_13 ?_
      refine z_iload C dL_stringOf_14 rfl ?_
      refine z_iadd C dL_stringOf_16 ?_
      rw [show (4 : Int32) = nI 4 from rfl, pk_mul, nI_add]
      refine a_18 C (j := 4 * q + j) rfl (by omega) dL_stringOf_17 ?_
      refine z_isub C dL_stringOf_18 ?_
      refine z_istore C dL_stringOf_19 (by decide) ?_
      dsimp only [List.set]
      refine z_iload C dL_stringOf_21 rfl ?_
      refine z_if_eq C 53 dL_stringOf_23 (by decide) (fun c_23 => ?_) (fun c_23 => ?_)
      · refine z_iload C dL_stringOf_53 rfl ?_
        refine z_iret C dL_stringOf_55 ?_
        refine ⟨rfl, ?_⟩
        exact lowS_at hjn hno (by first | exact Or.inl c_23 | exact Or.inr ⟨c_30, c_39⟩)
      · refine z_iload C dL_stringOf_26 rfl ?_
        refine z_iload C dL_stringOf_28 rfl ?_
        refine z_icmp_lt C 56 dL_stringOf_30 (by decide) (fun c_30 => ?_) (fun c_30 => ?_)
        · refine z_iinc C (v := 1) dL_stringOf_56 rfl (by decide) (by decide) ?_
          dsimp only [List.set]
          refine z_goto C 3 dL_stringOf_59 (by decide) ?_
          exact ih (j + 1) _ _ (by exact nI_1 j) (by omega) (by omega) (fun k hk => (Nat.lt_or_ge k j).elim (fun q => hno k q) (fun q => by rw [show k = j by omega]; exact fun hl => hl.elim c_23 (fun h => by first | exact h.1 c_30 | exact h.2 c_39)))
        · refine z_iload C dL_stringOf_33 rfl ?_
          refine z_iload C dL_stringOf_35 rfl ?_
          refine z_iconst C (v := 3) dL_stringOf_37 (by decide) ?_
          refine z_iadd C dL_stringOf_38 ?_
          refine z_icmp_gt C 56 dL_stringOf_39 (by decide) (fun c_39 => ?_) (fun c_39 => ?_)
          · refine z_iinc C (v := 1) dL_stringOf_56 rfl (by decide) (by decide) ?_
            dsimp only [List.set]
            refine z_goto C 3 dL_stringOf_59 (by decide) ?_
            exact ih (j + 1) _ _ (by exact nI_1 j) (by omega) (by omega) (fun k hk => (Nat.lt_or_ge k j).elim (fun q => hno k q) (fun q => by rw [show k = j by omega]; exact fun hl => hl.elim c_23 (fun h => by first | exact h.1 c_30 | exact h.2 c_39)))
          · refine z_iload C dL_stringOf_42 rfl ?_
            refine z_aload_n C dL_stringOf_44 rfl ?_
            refine z_iload_n C dL_stringOf_45 rfl ?_
            refine a_19 C (j := q) rfl hq dL_stringOf_46 ?_
            refine z_bipush C (v := 32) dL_stringOf_47 (by decide) ?_
            refine z_irem C (by decide) dL_stringOf_49 ?_
            rw [ef, rem32 (by omega) (by omega)]
            refine z_icmp_gt C 56 dL_stringOf_50 (by decide) (fun c_50 => ?_) (fun c_50 => ?_)
            · exfalso
              obtain ⟨v, hv⟩ : ∃ v, p0 - σ 18 0 (4 * q + j) = v := ⟨_, rfl⟩
              rw [hv] at c_39 c_50
              rw [show (3 : Int32) = nI 3 from rfl, nI_add] at c_39
              have a1 := Int32.lt_iff_toInt_lt.mp c_50
              have a2 : ¬ (nI (h + 3)).toInt < v.toInt := fun z => c_39 (Int32.lt_iff_toInt_lt.mpr z)
              rw [nI_toInt (by omega)] at a1 a2
              omega
            refine z_iload C dL_stringOf_53 rfl ?_
            refine z_iret C dL_stringOf_55 ?_
            refine ⟨rfl, ?_⟩
            exact lowS_at hjn hno (by first | exact Or.inl c_23 | exact Or.inr ⟨c_30, c_39⟩)
end
set_option maxRecDepth 100000 in
set_option maxHeartbeats 4000000 in
theorem c_L_stringOf {l : Launch} {D : va_G} {ad : Nat → Nat → Nat} {cy : Nat → ClassId} {A : Nat → Prop} {sa : Nat → Nat} {σ : St} {q h f0 w : Nat} {p0 : Int32} (hq : q < 8) (hf : f0 ≤ 16) (hw : w < 5) (hh : h + 3 ≤ f0) (ef : σ 19 0 q = nI (f0 + 32 * w)) : MI l D ad cy A sa yL_stringOf cL_stringOf 7 (some .int) 0 σ [.ref (ad 18 0), .ref (ad 19 0), .int (nI q), .int p0, .int (nI h)] (fun r σ' => σ = σ' ∧ r = lowS p0 (fun k => σ 18 0 (4 * q + k)) (nI h)) := by
  refine MI.mk "FretSchoolLaw" (by decide) rfl (Nat.le_of_ble_eq_true rfl) rfl ?_
  intro p e s m args below meth c C
  change Z _ _ _ _ _ _ _ _ _ _ _ _ _ _ _ _ _ _ _ [some (.ref (ad 18 0)), some (.ref (ad 19 0)), some (.int (nI q)), some (.int p0), some (.int (nI h)), none, none] 0 []
  refine z_iconst C (v := 0) dL_stringOf_0 (by decide) ?_
  refine z_istore C dL_stringOf_1 (by decide) ?_
  dsimp only [List.set]
  exact lp_L_stringOf C hq hf hw hh ef 5 0 _ _ nI_0.symm (by omega) (by omega) (fun k hk => absurd hk (Nat.not_lt_zero k))
end
section
/-! ===== the law's invariant ===== -/
def LInv (T : Nat) (σ : St) : Prop := Inv σ ∧ (σ 22 0 0 = σ 0 0 6 ∧ σ 22 0 1 = σ 0 0 7 ∧ σ 22 0 2 = σ 0 0 8 ∧ σ 22 0 3 = σ 0 0 9) ∧ (∃ d, d ≤ T ∧ σ 0 0 9 = nI d) ∧ (∀ i, i < 8 → σ 17 0 i = σ 11 i 1) ∧ (∀ i, i < 8 → ¬ nI i < σ 0 0 6 → σ 11 i 1 = 0) ∧ (∀ i j, i < 8 → j < 4 → σ 18 0 (4 * i + j) = σ 14 i j) ∧ (∀ i, i < 8 → nI i < σ 0 0 7 → ∃ w, w < 5 ∧ σ 13 i 1 = nI w ∧ σ 19 0 i = nI (fN σ i + 32 * w)) ∧ (∀ i, i < 20 → nI i < σ 0 0 8 → ∃ w f d, w < 5 ∧ 4 ≤ f ∧ f ≤ 16 ∧ d < 2 ∧ σ 16 i 0 = nI w ∧ σ 16 i 1 = nI f ∧ σ 16 i 3 = nI d ∧ σ 20 0 i = nI (w + 8 * f + 256 * d)) ∧ (∀ j, j < 4 → σ 21 0 j = σ 5 0 j) ∧ (∀ i, i < 5 → ∃ v, 2 ≤ v ∧ v ≤ 13 ∧ σ 15 i 0 = nI v) ∧ ∀ i, i < 20 → ¬ nI i < σ 0 0 8 → σ 16 i 3 = 0
theorem SameC.k {σ τ : St} (h : SameC σ τ) (a b c0 : Nat) (ha : a ≠ 6 ∧ a ≠ 7 ∧ a ≠ 9 ∧ a ≠ 10) : τ a b c0 = σ a b c0 := h a b c0 ha.1 ha.2.1 ha.2.2.1 ha.2.2.2
theorem LInv.same {T : Nat} {σ τ : St} (h : SameC σ τ) (hL : LInv T σ) : LInv T τ := by
  obtain ⟨h1, ⟨h2a, h2b, h2c, h2d⟩, h3, h4, h5, h6, h7, h8, h9, h10, h11⟩ := hL
  refine ⟨h.inv h1, ⟨?_, ?_, ?_, ?_⟩, ?_, fun i hi => ?_, fun i hi hl => ?_, fun i j hi hj => ?_, fun i hi hl => ?_, fun i hi hl => ?_, fun j hj => ?_, fun i hi => ?_, fun i hi hl => ?_⟩
  · rw [h.k 22 0 0 (by decide), h.k 0 0 6 (by decide)]; exact h2a
  · rw [h.k 22 0 1 (by decide), h.k 0 0 7 (by decide)]; exact h2b
  · rw [h.k 22 0 2 (by decide), h.k 0 0 8 (by decide)]; exact h2c
  · rw [h.k 22 0 3 (by decide), h.k 0 0 9 (by decide)]; exact h2d
  · rw [h.k 0 0 9 (by decide)]; exact h3
  · rw [h.k 17 0 i (by decide), h.k 11 i 1 (by decide)]; exact h4 i hi
  · rw [h.k 0 0 6 (by decide)] at hl
    rw [h.k 11 i 1 (by decide)]; exact h5 i hi hl
  · rw [h.k 18 0 (4 * i + j) (by decide), h.k 14 i j (by decide)]; exact h6 i j hi hj
  · rw [h.k 0 0 7 (by decide)] at hl
    rw [h.k 13 i 1 (by decide), h.k 19 0 i (by decide), h.efN]; exact h7 i hi hl
  · rw [h.k 0 0 8 (by decide)] at hl
    rw [h.k 16 i 0 (by decide), h.k 16 i 1 (by decide), h.k 16 i 3 (by decide), h.k 20 0 i (by decide)]; exact h8 i hi hl
  · rw [h.k 21 0 j (by decide), h.k 5 0 j (by decide)]; exact h9 j hj
  · rw [h.k 15 i 0 (by decide)]; exact h10 i hi
  · rw [h.k 0 0 8 (by decide)] at hl
    rw [h.k 16 i 3 (by decide)]; exact h11 i hi hl
theorem ok_nI {j n : Nat} (h : j < n) (hn : n < 2 ^ 31) : ¬ bad (nI j) (nI n) := fun q => q.elim (nI_pos (by omega)) (fun q => q (nI_lt h hn))
theorem no_nI {j n : Nat} (h : n ≤ j) (hj : j < 2 ^ 31) : bad (nI j) (nI n) := Or.inr (nI_nlt h hj)
theorem no_m1 {n : Int32} : bad (-1) n := Or.inl (by decide)
/-! ===== what a call answers, where only the hand's scratch has changed ===== -/
theorem K_pq_1 {σ : St} {p q : Int32} (h : bad p (σ 0 0 6) ∨ bad q (σ 0 0 7)) : K_pq σ p q = 1 := by unfold K_pq; rw [if_pos h]
theorem K_byAll_1 {σ : St} {p q : Int32} (h : bad p (σ 0 0 6) ∨ bad q (σ 0 0 7)) : K_byAll σ p q = 1 := by unfold K_byAll; rw [if_pos h]
theorem K_byAll_2 {σ : St} {p q : Int32} (h1 : ¬ bad p (σ 0 0 6)) (h2 : ¬ bad q (σ 0 0 7)) (h : ¬ σ 11 (ix p) 1 ≤ 4) : K_byAll σ p q = 2 := by unfold K_byAll; rw [if_neg (fun q => q.elim h1 h2), if_pos h]
theorem K_byAll_z {σ : St} {p q : Int32} (h1 : ¬ bad p (σ 0 0 6)) (h2 : ¬ bad q (σ 0 0 7)) (h : σ 11 (ix p) 1 ≤ 4) : K_byAll σ p q = 0 := by unfold K_byAll; rw [if_neg (fun q => q.elim h1 h2), if_neg (fun q => q h)]
theorem K_note_1 {σ : St} {p k q : Int32} (h : bad p (σ 0 0 6) ∨ bad k (σ 11 (ix p) 1) ∨ bad q (σ 0 0 7)) : K_note σ p k q = 1 := by unfold K_note; rw [if_pos h]
theorem K_pitch_1 {σ : St} {p k : Int32} (h : bad p (σ 0 0 6) ∨ bad k (σ 11 (ix p) 1)) : K_pitch σ p k = 1 := by unfold K_pitch; rw [if_pos h]
theorem K_pitch_z {σ : St} {p k : Int32} (h1 : ¬ bad p (σ 0 0 6)) (h2 : ¬ bad k (σ 11 (ix p) 1)) : K_pitch σ p k = 0 := by unfold K_pitch; rw [if_neg (fun q => q.elim h1 h2)]
theorem K_inst_1 {σ : St} {q : Int32} (h : bad q (σ 0 0 7)) : K_inst σ q = 1 := by unfold K_inst; rw [if_pos h]
theorem K_inst_z {σ : St} {q : Int32} (h : ¬ bad q (σ 0 0 7)) : K_inst σ q = 0 := by unfold K_inst; rw [if_neg h]
theorem K_ready_1 {σ : St} {q : Int32} (h : bad q (σ 0 0 8)) : K_ready σ q = 1 := by unfold K_ready; rw [if_pos h]
theorem K_ready_z {σ : St} {q : Int32} (h : ¬ bad q (σ 0 0 8)) : K_ready σ q = 0 := by unfold K_ready; rw [if_neg h]
theorem nout_lo {x lo hi : Int32} (h : x < lo) : outR x lo hi := Or.inl h
theorem nout_hi {x lo hi : Int32} (h : ¬ x ≤ hi) : outR x lo hi := Or.inr h
theorem in_nI {j a b : Nat} (h1 : a ≤ j) (h2 : j ≤ b) (hb : b < 2 ^ 31) : ¬ outR (nI j) (nI a) (nI b) := fun q => q.elim (nI_nlt h1 (by omega)) (fun q => q (nI_le h2 hb))
theorem K_pupil_z {w : Nat} (h : w < 5) : K_pupil (nI w) = 0 := by 
  have h1 : ¬ outR (nI w) 0 4 := in_nI (a := 0) (b := 4) (by omega) (by omega) (by omega)
  unfold K_pupil
  rw [if_neg h1]
theorem K_pupil_1 {w : Int32} (h : outR w 0 4) : K_pupil w = 1 := by unfold K_pupil; rw [if_pos h]
theorem out5 : outR 5 0 4 := Or.inr (by decide)
theorem outm1 : outR (-1) 0 4 := Or.inl (by decide)
theorem bad_of {σ τ : St} {x : Int32} {f : Nat} (h : SameC σ τ) : bad x (τ 0 0 f) = bad x (σ 0 0 f) := by rw [h.k 0 0 f (by decide)]
theorem bad_c {σ τ : St} {x : Int32} {j : Nat} (h : SameC σ τ) : bad x (τ 11 j 1) = bad x (σ 11 j 1) := by rw [h.k 11 j 1 (by decide)]
section
variable {σ τ τ' : St} {x y z r res : Int32} {cs : List Int32} {K : Nat}
theorem WS.at0 (h : WS τ τ' K cs res r) (hτ : SameC σ τ) (hK : K = 0) : SameC σ τ' ∧ r = res := ⟨hτ.trans h.1, h.2.1 hK⟩
theorem WS.at1 (h : WS τ τ' K cs res r) (hτ : SameC σ τ) {j : Nat} {c0 : Int32} (hK : K = j + 1) (hc : cs[j]? = some c0) : SameC σ τ' ∧ r = c0 := ⟨hτ.trans h.1, h.2.2 j c0 hK hc⟩
theorem WP.at0 (h : WP τ τ τ' K cs res r) (hτ : SameC σ τ) (hK : K = 0) : SameC σ τ' ∧ r = res := ⟨by rw [← (h.1 hK).2]; exact hτ, (h.1 hK).1⟩
theorem WP.at1 {g : St} (h : WP g τ τ' K cs res r) (hτ : SameC σ τ) {j : Nat} {c0 : Int32} (hK : K = j + 1) (hc : cs[j]? = some c0) : SameC σ τ' ∧ r = c0 := ⟨by rw [← (h.2 j c0 hK hc).2]; exact hτ, (h.2 j c0 hK hc).1⟩
theorem SameC.evS (h : SameC σ τ) (j q : Nat) : valS τ j q = valS σ j q := by
  unfold valS
  by_cases p : PL σ j q
  · rw [if_pos p, if_pos (by rw [h.ePL]; exact p)]
    show nI (tot (PFs τ j q) (cN τ j)) = nI (tot (PFs σ j q) (cN σ j))
    rw [h.PF, h.ecN]
  · rw [if_neg p, if_neg (by rw [h.ePL]; exact p)]
theorem SameC.evH (h : SameC σ τ) (j q : Nat) : valH τ j q = valH σ j q := by
  unfold valH
  by_cases p : PL σ j q
  · rw [if_pos p, if_pos (by rw [h.ePL]; exact p), h.eHG]
  · rw [if_neg p, if_neg (by rw [h.ePL]; exact p)]
theorem SameC.eRW (h : SameC σ τ) (j q i : Nat) : RW τ j q i = RW σ j q i := by unfold RW; rw [h.PF, h.ecN]
theorem SameC.evP (h : SameC σ τ) (j i q : Nat) : valP τ j i q = valP σ j i q := by
  unfold valP
  by_cases p : PL σ j q
  · rw [if_pos p, if_pos (by rw [h.ePL]; exact p), h.eRW]
  · rw [if_neg p, if_neg (by rw [h.ePL]; exact p)]
theorem SameC.evT (h : SameC σ τ) (j i q : Nat) : valT τ j i q = valT σ j i q := by
  unfold valT
  by_cases p : PL σ j q
  · rw [if_pos p, if_pos (by rw [h.ePL]; exact p), h.eRW, h.k 12 j i (by decide), show τ 14 q = σ 14 q from funext fun c0 => h.k 14 q c0 (by decide)]
  · rw [if_neg p, if_neg (by rw [h.ePL]; exact p)]
theorem SameC.ens (h : SameC σ τ) (w : Int32) (ni j : Nat) : nsV τ w ni j = nsV σ w ni j := by
  unfold nsV
  rw [h.k 15 (ix w) 1 (by decide), h.ees]
theorem SameC.enx (h : SameC σ τ) (w : Int32) (ni : Nat) : ∀ j, nxV τ w ni j = nxV σ w ni j
  | 0 => rfl
  | j + 1 => by rw [nxV_s, nxV_s, h.ens, h.enx w ni j]
theorem S_hard (hτ : SameC σ τ) (h : WS τ τ' (K_pq τ x y) cs (valH τ (ix x) (ix y)) r) (h1 : ¬ bad x (σ 0 0 6)) (h2 : ¬ bad y (σ 0 0 7)) : SameC σ τ' ∧ r = valH σ (ix x) (ix y) := by
  rw [← hτ.evH]
  exact h.at0 hτ (K_pq_0 (by rw [bad_of hτ]; exact h1) (by rw [bad_of hτ]; exact h2))
theorem S_shifts (hτ : SameC σ τ) (h : WS τ τ' (K_pq τ x y) cs (valS τ (ix x) (ix y)) r) (h1 : ¬ bad x (σ 0 0 6)) (h2 : ¬ bad y (σ 0 0 7)) : SameC σ τ' ∧ r = valS σ (ix x) (ix y) := by
  rw [← hτ.evS]
  exact h.at0 hτ (K_pq_0 (by rw [bad_of hτ]; exact h1) (by rw [bad_of hτ]; exact h2))
theorem S_pq_no (hτ : SameC σ τ) (h : WS τ τ' (K_pq τ x y) [-1000001] res r) (h1 : bad x (σ 0 0 6) ∨ bad y (σ 0 0 7)) : SameC σ τ' ∧ r = -1000001 :=
  h.at1 hτ (j := 0) (K_pq_1 (by rw [bad_of hτ, bad_of hτ]; exact h1)) rfl
theorem S_byAll_no (hτ : SameC σ τ) (h : WS τ τ' (K_byAll τ x y) [-1000001, -1000003] res r) (h1 : bad x (σ 0 0 6) ∨ bad y (σ 0 0 7)) : SameC σ τ' ∧ r = -1000001 :=
  h.at1 hτ (j := 0) (K_byAll_1 (by rw [bad_of hτ, bad_of hτ]; exact h1)) rfl
theorem S_byAll (hτ : SameC σ τ) (h : WS τ τ' (K_byAll τ x y) [-1000001, -1000003] (valS τ (ix x) (ix y)) r) (h1 : ¬ bad x (σ 0 0 6)) (h2 : ¬ bad y (σ 0 0 7)) : SameC σ τ' ∧ (σ 11 (ix x) 1 ≤ 4 → r = valS σ (ix x) (ix y)) ∧ (¬ σ 11 (ix x) 1 ≤ 4 → r = -1000003) := by
  have h1' : ¬ bad x (τ 0 0 6) := by rw [bad_of hτ]; exact h1
  have h2' : ¬ bad y (τ 0 0 7) := by rw [bad_of hτ]; exact h2
  refine ⟨hτ.trans h.1, fun hc => ?_, fun hc => ?_⟩
  · rw [← hτ.evS]
    exact h.2.1 (K_byAll_z h1' h2' (by rw [hτ.k 11 (ix x) 1 (by decide)]; exact hc))
  · exact h.2.2 1 _ (K_byAll_2 h1' h2' (by rw [hτ.k 11 (ix x) 1 (by decide)]; exact hc)) rfl
theorem S_pos (hτ : SameC σ τ) (h : WS τ τ' (K_note τ x y z) cs (valP τ (ix x) (ix y) (ix z)) r) (h1 : ¬ bad x (σ 0 0 6)) (h3 : ¬ bad y (σ 11 (ix x) 1)) (h2 : ¬ bad z (σ 0 0 7)) : SameC σ τ' ∧ r = valP σ (ix x) (ix y) (ix z) := by
  rw [← hτ.evP]
  exact h.at0 hτ (K_note_0 (by rw [bad_of hτ]; exact h1) (by rw [bad_c hτ]; exact h3) (by rw [bad_of hτ]; exact h2))
theorem S_str (hτ : SameC σ τ) (h : WS τ τ' (K_note τ x y z) cs (valT τ (ix x) (ix y) (ix z)) r) (h1 : ¬ bad x (σ 0 0 6)) (h3 : ¬ bad y (σ 11 (ix x) 1)) (h2 : ¬ bad z (σ 0 0 7)) : SameC σ τ' ∧ r = valT σ (ix x) (ix y) (ix z) := by
  rw [← hτ.evT]
  exact h.at0 hτ (K_note_0 (by rw [bad_of hτ]; exact h1) (by rw [bad_c hτ]; exact h3) (by rw [bad_of hτ]; exact h2))
theorem S_note_no (hτ : SameC σ τ) (h : WS τ τ' (K_note τ x y z) [-1000001] res r) (h1 : bad x (σ 0 0 6) ∨ bad y (σ 11 (ix x) 1) ∨ bad z (σ 0 0 7)) : SameC σ τ' ∧ r = -1000001 :=
  h.at1 hτ (j := 0) (K_note_1 (by rw [bad_of hτ, bad_of hτ, bad_c hτ]; exact h1)) rfl
theorem S_pitch (hτ : SameC σ τ) (h : WP τ τ τ' (K_pitch τ x y) cs (τ 12 (ix x) (ix y)) r) (h1 : ¬ bad x (σ 0 0 6)) (h2 : ¬ bad y (σ 11 (ix x) 1)) : SameC σ τ' ∧ r = σ 12 (ix x) (ix y) := by
  rw [← hτ.k 12 (ix x) (ix y) (by decide)]
  exact h.at0 hτ (K_pitch_z (by rw [bad_of hτ]; exact h1) (by rw [bad_c hτ]; exact h2))
theorem S_pitch_no (hτ : SameC σ τ) (h : WP τ τ τ' (K_pitch τ x y) [-1000001] res r) (h1 : bad x (σ 0 0 6) ∨ bad y (σ 11 (ix x) 1)) : SameC σ τ' ∧ r = -1000001 :=
  h.at1 hτ (j := 0) (K_pitch_1 (by rw [bad_of hτ, bad_c hτ]; exact h1)) rfl
theorem S_owner (hτ : SameC σ τ) (h : WP τ τ τ' (K_inst τ x) cs (τ 13 (ix x) 1) r) (h1 : ¬ bad x (σ 0 0 7)) : SameC σ τ' ∧ r = σ 13 (ix x) 1 := by
  rw [← hτ.k 13 (ix x) 1 (by decide)]
  exact h.at0 hτ (K_inst_z (by rw [bad_of hτ]; exact h1))
theorem S_owner_no (hτ : SameC σ τ) (h : WP τ τ τ' (K_inst τ x) [-1000001] res r) (h1 : bad x (σ 0 0 7)) : SameC σ τ' ∧ r = -1000001 :=
  h.at1 hτ (j := 0) (K_inst_1 (by rw [bad_of hτ]; exact h1)) rfl
theorem S_ready (hτ : SameC σ τ) (h : WP τ τ τ' (K_ready τ x) cs (τ 16 (ix x) 2) r) (h1 : ¬ bad x (σ 0 0 8)) : SameC σ τ' ∧ r = σ 16 (ix x) 2 := by
  rw [← hτ.k 16 (ix x) 2 (by decide)]
  exact h.at0 hτ (K_ready_z (by rw [bad_of hτ]; exact h1))
theorem S_ready_no (hτ : SameC σ τ) (h : WP τ τ τ' (K_ready τ x) [-1000001] res r) (h1 : bad x (σ 0 0 8)) : SameC σ τ' ∧ r = -1000001 :=
  h.at1 hτ (j := 0) (K_ready_1 (by rw [bad_of hτ]; exact h1)) rfl
theorem S_pup (f : Nat) {w : Nat} (hτ : SameC σ τ) (h : WP τ τ τ' (K_pupil (nI w)) cs (τ 15 (ix (nI w)) f) r) (hw : w < 5) : SameC σ τ' ∧ r = σ 15 w f := by
  have e := h.at0 hτ (K_pupil_z hw)
  rw [ix_nI (by omega), hτ.k 15 w f (by decide)] at e
  exact e
theorem S_pup_no (hτ : SameC σ τ) (h : WP τ τ τ' (K_pupil x) [-1000002] res r) (h1 : outR x 0 4) : SameC σ τ' ∧ r = -1000002 :=
  h.at1 hτ (j := 0) (K_pupil_1 h1) rfl
theorem S_next {w ni np : Nat} (hτ : SameC σ τ) (h : WS τ τ' (K_pupil (nI w)) cs ((nxV τ (nI w) (ix (τ 0 0 7)) (ix (τ 0 0 6))).1) r) (hw : w < 5) (e7 : σ 0 0 7 = nI ni) (e6 : σ 0 0 6 = nI np) (h7 : ni < 2 ^ 31) (h6 : np < 2 ^ 31) : SameC σ τ' ∧ r = (nxV σ (nI w) ni np).1 := by
  have e := h.at0 hτ (K_pupil_z hw)
  rw [hτ.k 0 0 7 (by decide), hτ.k 0 0 6 (by decide), e7, e6, ix_nI h7, ix_nI h6, hτ.enx] at e
  exact e
theorem S_next_no (hτ : SameC σ τ) (h : WS τ τ' (K_pupil x) [-1000002] res r) (h1 : outR x 0 4) : SameC σ τ' ∧ r = -1000002 :=
  h.at1 hτ (j := 0) (K_pupil_1 h1) rfl
end
theorem WP.yes {g τ τ' : St} {K : Nat} {cs : List Int32} {res r : Int32} (h : WP g τ τ' K cs res r) (hK : K = 0) : r = res ∧ g = τ' := h.1 hK
theorem WP.not {g τ τ' : St} {K : Nat} {cs : List Int32} {res r c0 : Int32} (h : WP g τ τ' K cs res r) {j : Nat} (hK : K = j + 1) (hc : cs[j]? = some c0) : r = c0 ∧ τ = τ' := h.2 j c0 hK hc
/-! ===== the next piece, in plain numbers: 100 is none ===== -/
theorem HG_lt {σ : St} {j q : Nat} (h : PL σ j q) : HG σ j q < 13 := grt_le h.1 h.2 _ (Nat.le_refl _)
noncomputable def lsN (σ : St) (w j q : Nat) : Nat := by classical exact if σ 13 q 1 = nI w ∧ PL σ j q ∧ ¬ σ 15 w 0 < nI (HG σ j q) then HG σ j q else 100
noncomputable def esN (σ : St) (w j : Nat) : Nat → Nat
  | 0 => 100
  | q + 1 => if lsN σ w j q < esN σ w j q then lsN σ w j q else esN σ w j q
def frN (σ : St) (w j : Nat) : Prop := σ 15 w 1 &&& (1 <<< (nI j &&& 31)) = 0
noncomputable def nsN (σ : St) (w ni j : Nat) : Nat := by classical exact if frN σ w j then esN σ w j ni else 100
noncomputable def ezN (σ : St) (w ni : Nat) : Nat → Nat
  | 0 => 100
  | j + 1 => if nsN σ w ni j < ezN σ w ni j then nsN σ w ni j else ezN σ w ni j
noncomputable def bsN (σ : St) (w ni : Nat) : Nat → Nat
  | 0 => 0
  | j + 1 => if nsN σ w ni j < ezN σ w ni j then j else bsN σ w ni j
theorem lsN_or (σ : St) (w j q : Nat) : lsN σ w j q = 100 ∨ lsN σ w j q < 13 := by
  unfold lsN
  split
  · rename_i h; exact Or.inr (HG_lt h.2.1)
  · exact Or.inl rfl
theorem esN_or (σ : St) (w j : Nat) : ∀ q, esN σ w j q = 100 ∨ esN σ w j q < 13
  | 0 => Or.inl rfl
  | q + 1 => by
    have h1 := lsN_or σ w j q
    have h2 := esN_or σ w j q
    unfold esN
    split <;> omega
theorem nsN_or (σ : St) (w ni j : Nat) : nsN σ w ni j = 100 ∨ nsN σ w ni j < 13 := by
  unfold nsN
  split
  · exact esN_or σ w j ni
  · exact Or.inl rfl
theorem ezN_or (σ : St) (w ni : Nat) : ∀ j, ezN σ w ni j = 100 ∨ ezN σ w ni j < 13
  | 0 => Or.inl rfl
  | j + 1 => by
    have h1 := nsN_or σ w ni j
    have h2 := ezN_or σ w ni j
    unfold ezN
    split <;> omega
theorem bsN_lt (σ : St) (w ni : Nat) : ∀ j, bsN σ w ni j ≤ j
  | 0 => Nat.le_refl _
  | j + 1 => by
    have h2 := bsN_lt σ w ni j
    unfold bsN
    split <;> omega
/-- an int for a number below 13, -1 for 100 -/
def oN (n : Nat) : Int32 := if n = 100 then -1 else nI n
theorem oN_m1 {n : Nat} (h : n = 100 ∨ n < 13) : oN n = -1 ↔ n = 100 := by
  unfold oN
  constructor
  · intro e
    split at e
    · assumption
    · have : n < 13 := by omega
      have h3 : ∀ k, k < 13 → ¬ nI k = -1 := by decide +kernel
      exact absurd e (h3 n this)
  · intro e; rw [if_pos e]
theorem oN_v {n : Nat} (h : n ≠ 100) : oN n = nI n := if_neg h
theorem lsV_N {σ : St} {w j q : Nat} (hw : w < 5) : lsV σ (nI w) j q = oN (lsN σ w j q) := by
  unfold lsV lsN oN
  rw [ix_nI (by omega)]
  by_cases h : σ 13 q 1 = nI w ∧ PL σ j q ∧ ¬ σ 15 w 0 < nI (HG σ j q)
  · have := HG_lt h.2.1
    rw [if_pos h, if_pos h, if_neg (by omega)]
  · rw [if_neg h, if_neg h, if_pos rfl]
theorem esV_N {σ : St} {w j : Nat} (hw : w < 5) : ∀ q, esV σ (nI w) j q = oN (esN σ w j q)
  | 0 => rfl
  | q + 1 => by
    have h1 := lsN_or σ w j q
    have h2 := esN_or σ w j q
    rw [esV_s, esV_N hw q, lsV_N hw]
    show _ = oN (if lsN σ w j q < esN σ w j q then lsN σ w j q else esN σ w j q)
    generalize lsN σ w j q = a at h1 ⊢
    generalize esN σ w j q = b at h2 ⊢
    by_cases ha : a = 100
    · rw [if_pos ((oN_m1 h1).mpr ha), if_neg (by omega)]
    · rw [if_neg (fun h => ha ((oN_m1 h1).mp h))]
      by_cases hb : b = 100
      · rw [if_pos ((oN_m1 h2).mpr hb), if_pos (by omega)]
      · rw [if_neg (fun h => hb ((oN_m1 h2).mp h)), oN_v ha, oN_v hb]
        by_cases hab : a < b
        · rw [if_neg (fun h => by rw [nI_leI (by omega) (by omega)] at h; omega), if_pos hab, oN_v ha]
        · rw [if_pos (by rw [nI_leI (by omega) (by omega)]; omega), if_neg hab, oN_v hb]
theorem nsV_N {σ : St} {w ni j : Nat} (hw : w < 5) : nsV σ (nI w) ni j = oN (nsN σ w ni j) := by
  unfold nsV nsN
  rw [ix_nI (by omega)]
  by_cases h : frN σ w j
  · rw [if_pos h]
    rw [if_pos (show σ 15 w 1 &&& (1 <<< (nI j &&& 31)) = 0 from h)]
    exact esV_N hw ni
  · rw [if_neg h]
    rw [if_neg (show ¬ σ 15 w 1 &&& (1 <<< (nI j &&& 31)) = 0 from h)]
    rfl
/-- the chosen piece: -1 for none -/
def bvN (e b : Nat) : Int32 := if e = 100 then -1 else nI b
theorem nxV_N {σ : St} {w ni : Nat} (hw : w < 5) : ∀ j, j ≤ 8 → (nxV σ (nI w) ni j).1 = bvN (ezN σ w ni j) (bsN σ w ni j) ∧ (ezN σ w ni j ≠ 100 → (nxV σ (nI w) ni j).2 = nI (ezN σ w ni j))
  | 0, _ => ⟨rfl, fun h => absurd rfl h⟩
  | j + 1, hj => by
    obtain ⟨i1, i2⟩ := nxV_N (σ := σ) (ni := ni) hw j (by omega)
    have h1 := nsN_or σ w ni j
    have h2 := ezN_or σ w ni j
    have h3 := bsN_lt σ w ni j
    rw [nxV_s, nsV_N hw]
    have e1 : ezN σ w ni (j + 1) = if nsN σ w ni j < ezN σ w ni j then nsN σ w ni j else ezN σ w ni j := rfl
    have e2 : bsN σ w ni (j + 1) = if nsN σ w ni j < ezN σ w ni j then j else bsN σ w ni j := rfl
    rw [e1, e2]
    generalize nxV σ (nI w) ni j = s at i1 i2 ⊢
    generalize nsN σ w ni j = a at h1 ⊢
    generalize ezN σ w ni j = b at h2 i1 i2 ⊢
    generalize bsN σ w ni j = k at h3 i1 ⊢
    have hm : ∀ k, k < 9 → ¬ nI k = -1 := by decide +kernel
    by_cases ha : a = 100
    · rw [if_pos ((oN_m1 h1).mpr ha), if_neg (by omega), if_neg (by omega)]
      exact ⟨i1, i2⟩
    · rw [if_neg (fun h => ha ((oN_m1 h1).mp h))]
      by_cases hb : b = 100
      · rw [if_pos (by rw [i1]; unfold bvN; rw [if_pos hb]), if_pos (by omega), if_pos (by omega)]
        refine ⟨?_, fun _ => oN_v ha⟩
        unfold bvN
        rw [if_neg ha]
      · rw [if_neg (by rw [i1]; unfold bvN; rw [if_neg hb]; exact hm k (by omega)), i2 hb, oN_v ha]
        by_cases hab : a < b
        · rw [if_neg (fun h => by rw [nI_leI (by omega) (by omega)] at h; omega), if_pos hab, if_pos hab]
          refine ⟨?_, fun _ => rfl⟩
          unfold bvN
          rw [if_neg ha]
        · rw [if_pos (by rw [nI_leI (by omega) (by omega)]; omega), if_neg hab, if_neg hab]
          exact ⟨i1, i2⟩
end
section
/-! ===== nexts ===== -/
theorem hd_level : yL_level.cls ≠ "java/lang/invoke/MethodHandle" ∧ yL_level.cls ≠ "java/lang/invoke/VarHandle" ∧ (parseMethodDescriptor yL_level.desc).map (fun d => d.parameters.length) = some 2 := by decide +kernel
theorem hd_known : yL_known.cls ≠ "java/lang/invoke/MethodHandle" ∧ yL_known.cls ≠ "java/lang/invoke/VarHandle" ∧ (parseMethodDescriptor yL_known.desc).map (fun d => d.parameters.length) = some 2 := by decide +kernel
theorem hd_next : yL_next.cls ≠ "java/lang/invoke/MethodHandle" ∧ yL_next.cls ≠ "java/lang/invoke/VarHandle" ∧ (parseMethodDescriptor yL_next.desc).map (fun d => d.parameters.length) = some 2 := by decide +kernel
theorem hd_pitch : yL_pitch.cls ≠ "java/lang/invoke/MethodHandle" ∧ yL_pitch.cls ≠ "java/lang/invoke/VarHandle" ∧ (parseMethodDescriptor yL_pitch.desc).map (fun d => d.parameters.length) = some 3 := by decide +kernel
theorem hd_shifts : yL_shifts.cls ≠ "java/lang/invoke/MethodHandle" ∧ yL_shifts.cls ≠ "java/lang/invoke/VarHandle" ∧ (parseMethodDescriptor yL_shifts.desc).map (fun d => d.parameters.length) = some 3 := by decide +kernel
theorem hd_hardest : yL_hardest.cls ≠ "java/lang/invoke/MethodHandle" ∧ yL_hardest.cls ≠ "java/lang/invoke/VarHandle" ∧ (parseMethodDescriptor yL_hardest.desc).map (fun d => d.parameters.length) = some 3 := by decide +kernel
theorem hd_position : yL_position.cls ≠ "java/lang/invoke/MethodHandle" ∧ yL_position.cls ≠ "java/lang/invoke/VarHandle" ∧ (parseMethodDescriptor yL_position.desc).map (fun d => d.parameters.length) = some 4 := by decide +kernel
theorem hd_string : yL_string.cls ≠ "java/lang/invoke/MethodHandle" ∧ yL_string.cls ≠ "java/lang/invoke/VarHandle" ∧ (parseMethodDescriptor yL_string.desc).map (fun d => d.parameters.length) = some 4 := by decide +kernel
theorem hd_shiftsByAll : yL_shiftsByAll.cls ≠ "java/lang/invoke/MethodHandle" ∧ yL_shiftsByAll.cls ≠ "java/lang/invoke/VarHandle" ∧ (parseMethodDescriptor yL_shiftsByAll.desc).map (fun d => d.parameters.length) = some 3 := by decide +kernel
theorem hd_begin : yL_begin.cls ≠ "java/lang/invoke/MethodHandle" ∧ yL_begin.cls ≠ "java/lang/invoke/VarHandle" ∧ (parseMethodDescriptor yL_begin.desc).map (fun d => d.parameters.length) = some 1 := by decide +kernel
theorem hd_addNote : yL_addNote.cls ≠ "java/lang/invoke/MethodHandle" ∧ yL_addNote.cls ≠ "java/lang/invoke/VarHandle" ∧ (parseMethodDescriptor yL_addNote.desc).map (fun d => d.parameters.length) = some 3 := by decide +kernel
theorem hd_transpose : yL_transpose.cls ≠ "java/lang/invoke/MethodHandle" ∧ yL_transpose.cls ≠ "java/lang/invoke/VarHandle" ∧ (parseMethodDescriptor yL_transpose.desc).map (fun d => d.parameters.length) = some 3 := by decide +kernel
theorem hd_addWood : yL_addWood.cls ≠ "java/lang/invoke/MethodHandle" ∧ yL_addWood.cls ≠ "java/lang/invoke/VarHandle" ∧ (parseMethodDescriptor yL_addWood.desc).map (fun d => d.parameters.length) = some 3 := by decide +kernel
theorem hd_ready : yL_ready.cls ≠ "java/lang/invoke/MethodHandle" ∧ yL_ready.cls ≠ "java/lang/invoke/VarHandle" ∧ (parseMethodDescriptor yL_ready.desc).map (fun d => d.parameters.length) = some 2 := by decide +kernel
theorem hd_order : yL_order.cls ≠ "java/lang/invoke/MethodHandle" ∧ yL_order.cls ≠ "java/lang/invoke/VarHandle" ∧ (parseMethodDescriptor yL_order.desc).map (fun d => d.parameters.length) = some 4 := by decide +kernel
theorem hd_pass : yL_pass.cls ≠ "java/lang/invoke/MethodHandle" ∧ yL_pass.cls ≠ "java/lang/invoke/VarHandle" ∧ (parseMethodDescriptor yL_pass.desc).map (fun d => d.parameters.length) = some 2 := by decide +kernel
theorem hd_fetch : yL_fetch.cls ≠ "java/lang/invoke/MethodHandle" ∧ yL_fetch.cls ≠ "java/lang/invoke/VarHandle" ∧ (parseMethodDescriptor yL_fetch.desc).map (fun d => d.parameters.length) = some 6 := by decide +kernel
theorem hd_owner : yL_owner.cls ≠ "java/lang/invoke/MethodHandle" ∧ yL_owner.cls ≠ "java/lang/invoke/VarHandle" ∧ (parseMethodDescriptor yL_owner.desc).map (fun d => d.parameters.length) = some 2 := by decide +kernel
theorem hd_tune : yL_tune.cls ≠ "java/lang/invoke/MethodHandle" ∧ yL_tune.cls ≠ "java/lang/invoke/VarHandle" ∧ (parseMethodDescriptor yL_tune.desc).map (fun d => d.parameters.length) = some 4 := by decide +kernel
theorem hd_learn : yL_learn.cls ≠ "java/lang/invoke/MethodHandle" ∧ yL_learn.cls ≠ "java/lang/invoke/VarHandle" ∧ (parseMethodDescriptor yL_learn.desc).map (fun d => d.parameters.length) = some 4 := by decide +kernel
theorem lsN_no {σ : St} {w j q : Nat} (h : ¬ (σ 13 q 1 = nI w ∧ PL σ j q ∧ ¬ σ 15 w 0 < nI (HG σ j q))) : lsN σ w j q = 100 := if_neg h
theorem lsN_yes {σ : St} {w j q : Nat} (h1 : σ 13 q 1 = nI w) (h2 : PL σ j q) (h3 : ¬ σ 15 w 0 < nI (HG σ j q)) : lsN σ w j q = HG σ j q := if_pos ⟨h1, h2, h3⟩
noncomputable def mI (σ : St) (w ni j q : Nat) : Nat := by classical exact if frN σ w j ∧ esN σ w j q < ezN σ w ni j then esN σ w j q else ezN σ w ni j
noncomputable def kI (σ : St) (w ni j q : Nat) : Nat := by classical exact if frN σ w j ∧ esN σ w j q < ezN σ w ni j then j else bsN σ w ni j
theorem mI_le (σ : St) (w ni j q : Nat) : mI σ w ni j q = 100 ∨ mI σ w ni j q < 13 := by
  have h1 := esN_or σ w j q
  have h2 := ezN_or σ w ni j
  unfold mI
  split <;> omega
theorem mI_0 (σ : St) (w ni j : Nat) : mI σ w ni j 0 = ezN σ w ni j ∧ kI σ w ni j 0 = bsN σ w ni j := by
  have h2 := ezN_or σ w ni j
  have h : ¬ (frN σ w j ∧ esN σ w j 0 < ezN σ w ni j) := fun h => by
    have : esN σ w j 0 = 100 := rfl
    omega
  exact ⟨if_neg h, if_neg h⟩
theorem mI_yes {σ : St} {w ni j q : Nat} (hf : frN σ w j) (h : lsN σ w j q < mI σ w ni j q) : mI σ w ni j (q + 1) = lsN σ w j q ∧ kI σ w ni j (q + 1) = j := by
  have e1 : esN σ w j (q + 1) = if lsN σ w j q < esN σ w j q then lsN σ w j q else esN σ w j q := rfl
  unfold mI at h
  unfold mI kI
  by_cases hc : frN σ w j ∧ esN σ w j q < ezN σ w ni j
  · rw [if_pos hc] at h
    have hc2 : frN σ w j ∧ lsN σ w j q < ezN σ w ni j := ⟨hf, by omega⟩
    rw [e1, if_pos h, if_pos hc2, if_pos hc2]
    exact ⟨rfl, rfl⟩
  · rw [if_neg hc] at h
    have : ¬ esN σ w j q < ezN σ w ni j := fun q => hc ⟨hf, q⟩
    have hc2 : frN σ w j ∧ lsN σ w j q < ezN σ w ni j := ⟨hf, h⟩
    have hc3 : lsN σ w j q < esN σ w j q := by omega
    rw [e1, if_pos hc3, if_pos hc2, if_pos hc2]
    exact ⟨rfl, rfl⟩
theorem mI_no {σ : St} {w ni j q : Nat} (h : ¬ (frN σ w j ∧ lsN σ w j q < mI σ w ni j q)) : mI σ w ni j (q + 1) = mI σ w ni j q ∧ kI σ w ni j (q + 1) = kI σ w ni j q := by
  have e1 : esN σ w j (q + 1) = if lsN σ w j q < esN σ w j q then lsN σ w j q else esN σ w j q := rfl
  by_cases hf : frN σ w j
  · have h' : ¬ lsN σ w j q < mI σ w ni j q := fun q => h ⟨hf, q⟩
    unfold mI at h'
    unfold mI kI
    by_cases hc : frN σ w j ∧ esN σ w j q < ezN σ w ni j
    · rw [if_pos hc] at h'
      rw [e1, if_neg h', if_pos hc, if_pos hc]
      exact ⟨rfl, rfl⟩
    · rw [if_neg hc] at h'
      have h2 : ¬ esN σ w j q < ezN σ w ni j := fun q => hc ⟨hf, q⟩
      have h3 : ¬ (frN σ w j ∧ esN σ w j (q + 1) < ezN σ w ni j) := fun h => by
        have := h.2
        rw [e1] at this
        split at this <;> omega
      rw [if_neg hc, if_neg hc, if_neg h3, if_neg h3]
      exact ⟨rfl, rfl⟩
  · unfold mI kI
    have hc : ∀ X : Prop, ¬ (frN σ w j ∧ X) := fun X h => hf h.1
    rw [if_neg (hc _), if_neg (hc _), if_neg (hc _), if_neg (hc _)]
    exact ⟨rfl, rfl⟩
theorem mI_end (σ : St) (w ni j : Nat) : mI σ w ni j ni = ezN σ w ni (j + 1) ∧ kI σ w ni j ni = bsN σ w ni (j + 1) := by
  have e1 : ezN σ w ni (j + 1) = if nsN σ w ni j < ezN σ w ni j then nsN σ w ni j else ezN σ w ni j := rfl
  have e2 : bsN σ w ni (j + 1) = if nsN σ w ni j < ezN σ w ni j then j else bsN σ w ni j := rfl
  have h2 := ezN_or σ w ni j
  rw [e1, e2]
  unfold mI kI nsN
  by_cases hf : frN σ w j
  · rw [if_pos hf]
    by_cases h : esN σ w j ni < ezN σ w ni j
    · have hc : frN σ w j ∧ esN σ w j ni < ezN σ w ni j := ⟨hf, h⟩
      rw [if_pos hc, if_pos hc, if_pos h, if_pos h]; exact ⟨rfl, rfl⟩
    · have hc : ¬ (frN σ w j ∧ esN σ w j ni < ezN σ w ni j) := fun q => h q.2
      rw [if_neg hc, if_neg hc, if_neg h, if_neg h]; exact ⟨rfl, rfl⟩
  · have hc : ¬ (frN σ w j ∧ esN σ w j ni < ezN σ w ni j) := fun q => hf q.1
    have h100 : ¬ 100 < ezN σ w ni j := by omega
    rw [if_neg hf, if_neg hc, if_neg hc, if_neg h100, if_neg h100]; exact ⟨rfl, rfl⟩
section
variable {p : Program} {l : Launch} {e : Env} {R : Room} {s : State} {m : MethodId} {args : Array Value} {below : List Frame} {meth : Method} {c : Code} {D : va_G} {ad : Nat → Nat → Nat} {cy : Nat → ClassId} {A : Nat → Prop} {sa : Nat → Nat} {cells slots : Nat} {σ : St}
set_option maxRecDepth 100000 in
set_option maxHeartbeats 4000000 in
theorem lp_nexts_in (C : Cx p l s m args meth c cL_nexts "FretSchoolLaw" 9 (some .boolean) D ad cy A sa) {T : Nat} {σ : St} (hI : LInv T σ) {w np ni : Nat} (hw : w < 5) (enp : σ 0 0 6 = nI np) (hnp : np ≤ 8) (eni : σ 0 0 7 = nI ni) (hni : ni ≤ 8) {M : Nat} {Q : State → Prop} {B : Nat} (hBM : B ≤ M) {j : Nat} (hj : j < np) (kx : ∀ (τ : St) (x4 x5 : Int32) (o7 o8 : Option Value) (cells slots : Nat), SameC σ τ → x4 = bvN (ezN σ w ni (j + 1)) (bsN σ w ni (j + 1)) → x5 = nI (ezN σ w ni (j + 1)) → cells ≤ B → slots ≤ 6 * B → Z p l e (rmD 10 M) s m args below meth c D ad cy A 9 (cells) (slots) (Q) τ [some (.ref (ad 0 0)), some (.ref (ad 19 0)), some (.ref (ad 22 0)), some (.int (nI w)), some (.int x4), some (.int x5), some (.int (nI j)), o7, o8] 99 []) : ∀ (f q : Nat) (τ : St) (x4 x5 : Int32) (o8 : Option Value) {cells slots : Nat}, q ≤ ni → ni < q + f → SameC σ τ → x4 = bvN (mI σ w ni j q) (kI σ w ni j q) → x5 = nI (mI σ w ni j q) → cells + 4 * f ≤ B → slots + 24 * f ≤ 6 * B → Z p l e (rmD 10 M) s m args below meth c D ad cy A 9 (cells) (slots) (Q) τ [some (.ref (ad 0 0)), some (.ref (ad 19 0)), some (.ref (ad 22 0)), some (.int (nI w)), some (.int x4), some (.int x5), some (.int (nI j)), some (.int (nI q)), o8] 21 [] := by
  intro f
  induction f with
  | zero => intro q τ x4 x5 o8 cells slots _ h; exact absurd h (by omega)
  | succ f ih =>
    intro q τ x4 x5 o8 cells slots hq hf hτ e4 e5 hc1 hc2
    refine z_iload C dL_nexts_21 rfl ?_
    refine z_aload_n C dL_nexts_23 rfl ?_
    refine z_iconst C (v := 1) dL_nexts_24 (by decide) ?_
    refine a_22 C (j := 1) (by decide) (by decide) dL_nexts_25 ?_
    rw [hτ.k 22 0 1 (by decide), hI.2.1.2.1, eni]
    refine z_icmp_ge C 99 dL_nexts_26 (by decide) (fun c_26 => ?_) (fun c_26 => ?_)
    · have hqn : q = ni := by rw [nI_leI (by omega) (by omega)] at c_26; omega
      subst hqn
      obtain ⟨m1, m2⟩ := mI_end σ w q j
      exact kx τ x4 x5 _ _ _ _ hτ (by rw [← m1, ← m2]; exact e4) (by rw [← m1]; exact e5) (by omega) (by omega)
    · have hqn : q < ni := by rw [nI_leI (by omega) (by omega)] at c_26; omega
      obtain ⟨wq, hwq, e13, ef⟩ := hI.2.2.2.2.2.2.1 q (by omega) (by rw [eni]; exact nI_lt hqn (by omega))
      obtain ⟨_, hf4, hf16⟩ := hI.1.fr (q := q) (by omega) (by rw [eni]; exact nI_lt hqn (by omega))
      refine z_aload_n C dL_nexts_29 rfl ?_
      refine z_iload C dL_nexts_30 rfl ?_
      refine a_19 C (j := q) rfl (by omega) dL_nexts_32 ?_
      rw [hτ.k 19 0 q (by decide), ef]
      refine z_bipush C (v := 32) dL_nexts_33 (by decide) ?_
      refine z_idiv C (by decide) dL_nexts_35 ?_
      rw [div32 (by omega) (by omega)]
      refine z_iload_n C dL_nexts_36 rfl ?_
      refine z_icmp_ne C 93 dL_nexts_37 (by decide) (fun c_37 => ?_) (fun c_37 => ?_)
      · have hown : ¬ σ 13 q 1 = nI w := by rw [e13]; exact c_37
        refine z_iinc C (v := 1) dL_nexts_93 rfl (by decide) (by decide) ?_
        dsimp only [List.set]
        refine z_goto C 21 dL_nexts_96 (by decide) ?_
        have mle := mI_le σ w ni j q
        rw [nI_1 q]
        obtain ⟨m1, m2⟩ := mI_no (σ := σ) (w := w) (ni := ni) (j := j) (q := q) (fun h => by have := h.2; rw [lsN_no (fun z => hown z.1)] at this; omega)
        exact ih (q + 1) _ _ _ _ (by omega) (by omega) hτ (by rw [m1, m2]; exact e4) (by rw [m1]; exact e5) (by omega) (by omega)
      · have hown : σ 13 q 1 = nI w := by rw [e13]; exact c_37
        refine z_aload_n C dL_nexts_40 rfl ?_
        refine z_iload_n C dL_nexts_41 rfl ?_
        refine z_csw C (As := [_, _]) (c_L_known) wd268 wd13 wd269 hd_known wd267 (rok (by decide) (by decide)) ⟨by show _ ≤ M; omega, by show _ ≤ 6 * (M); omega⟩ rfl (Nat.le_of_ble_eq_true rfl) dL_nexts_42 ?_
        intro r42 τ h42
        obtain ⟨hτ, rfl⟩ := S_pup 1 hτ h42 hw
        refine z_iload C dL_nexts_45 rfl ?_
        refine z_ishr C dL_nexts_47 ?_
        refine z_iconst C (v := 1) dL_nexts_48 (by decide) ?_
        refine z_iand C dL_nexts_49 ?_
        refine z_if_ne C 93 dL_nexts_50 (by decide) (fun c_50 => ?_) (fun c_50 => ?_)
        · have hfr : ¬ frN σ w j := fun h => c_50 ((shr_bit (by omega)).mpr h)
          refine z_iinc C (v := 1) dL_nexts_93 rfl (by decide) (by decide) ?_
          dsimp only [List.set]
          refine z_goto C 21 dL_nexts_96 (by decide) ?_
          have mle := mI_le σ w ni j q
          rw [nI_1 q]
          obtain ⟨m1, m2⟩ := mI_no (σ := σ) (w := w) (ni := ni) (j := j) (q := q) (fun h => hfr h.1)
          exact ih (q + 1) _ _ _ _ (by omega) (by omega) hτ (by rw [m1, m2]; exact e4) (by rw [m1]; exact e5) (by omega) (by omega)
        · have hfr : frN σ w j := (shr_bit (by omega)).mp c_50
          refine z_aload_n C dL_nexts_53 rfl ?_
          refine z_iload C dL_nexts_54 rfl ?_
          refine z_iload C dL_nexts_56 rfl ?_
          refine z_csw C (As := [_, _, _]) (c_L_hardest (hτ.inv hI.1)) wd391 wd13 wd392 hd_hardest wd390 (rok (by decide) (by decide)) ⟨by show _ ≤ M; omega, by show _ ≤ 6 * (M); omega⟩ rfl (Nat.le_of_ble_eq_true rfl) dL_nexts_58 ?_
          intro r58 τ h58
          obtain ⟨hτ, e58⟩ := S_hard hτ h58 (by rw [enp]; exact ok_nI hj (by omega)) (by rw [eni]; exact ok_nI hqn (by omega))
          rw [ix_nI (by omega), ix_nI (by omega)] at e58
          subst e58
          refine z_istore C dL_nexts_61 (by decide) ?_
          dsimp only [List.set]
          refine z_iload C dL_nexts_63 rfl ?_
          refine z_if_lt C 93 dL_nexts_65 (by decide) (fun c_65 => ?_) (fun c_65 => ?_)
          · have hpl : ¬ PL σ j q := fun h => by
              have e : valH σ j q = nI (HG σ j q) := if_pos h
              have := HG_lt h
              rw [e] at c_65
              exact nI_pos (by omega) c_65
            refine z_iinc C (v := 1) dL_nexts_93 rfl (by decide) (by decide) ?_
            dsimp only [List.set]
            refine z_goto C 21 dL_nexts_96 (by decide) ?_
            have mle := mI_le σ w ni j q
            rw [nI_1 q]
            obtain ⟨m1, m2⟩ := mI_no (σ := σ) (w := w) (ni := ni) (j := j) (q := q) (fun h => by have := h.2; rw [lsN_no (fun z => hpl z.2.1)] at this; omega)
            exact ih (q + 1) _ _ _ _ (by omega) (by omega) hτ (by rw [m1, m2]; exact e4) (by rw [m1]; exact e5) (by omega) (by omega)
          · have hpl : PL σ j q := Classical.byContradiction fun h => by
              have e : valH σ j q = -1 := if_neg h
              rw [e] at c_65
              exact c_65 (by decide)
            have evh : valH σ j q = nI (HG σ j q) := if_pos hpl
            have hh := HG_lt hpl
            refine z_iload C dL_nexts_68 rfl ?_
            refine z_aload_n C dL_nexts_70 rfl ?_
            refine z_iload_n C dL_nexts_71 rfl ?_
            refine z_csw C (As := [_, _]) (c_L_level) wd185 wd13 wd186 hd_level wd184 (rok (by decide) (by decide)) ⟨by show _ ≤ M; omega, by show _ ≤ 6 * (M); omega⟩ rfl (Nat.le_of_ble_eq_true rfl) dL_nexts_72 ?_
            intro r72 τ h72
            obtain ⟨hτ, rfl⟩ := S_pup 0 hτ h72 hw
            refine z_icmp_gt C 93 dL_nexts_75 (by decide) (fun c_75 => ?_) (fun c_75 => ?_)
            · rw [evh] at c_75
              have hlv : σ 15 w 0 < nI (HG σ j q) := c_75
              refine z_iinc C (v := 1) dL_nexts_93 rfl (by decide) (by decide) ?_
              dsimp only [List.set]
              refine z_goto C 21 dL_nexts_96 (by decide) ?_
              have mle := mI_le σ w ni j q
              rw [nI_1 q]
              obtain ⟨m1, m2⟩ := mI_no (σ := σ) (w := w) (ni := ni) (j := j) (q := q) (fun h => by have := h.2; rw [lsN_no (fun z => z.2.2 hlv)] at this; omega)
              exact ih (q + 1) _ _ _ _ (by omega) (by omega) hτ (by rw [m1, m2]; exact e4) (by rw [m1]; exact e5) (by omega) (by omega)
            · rw [evh] at c_75
              have hlv : ¬ σ 15 w 0 < nI (HG σ j q) := c_75
              refine z_iload C dL_nexts_78 rfl ?_
              refine z_iload C dL_nexts_80 rfl ?_
              refine z_icmp_ge C 93 dL_nexts_82 (by decide) (fun c_82 => ?_) (fun c_82 => ?_)
              · have mle0 := mI_le σ w ni j q
                have hlt : mI σ w ni j q ≤ HG σ j q := by rw [evh, e5, nI_leI (by omega) (by omega)] at c_82; exact c_82
                refine z_iinc C (v := 1) dL_nexts_93 rfl (by decide) (by decide) ?_
                dsimp only [List.set]
                refine z_goto C 21 dL_nexts_96 (by decide) ?_
                have mle := mI_le σ w ni j q
                rw [nI_1 q]
                obtain ⟨m1, m2⟩ := mI_no (σ := σ) (w := w) (ni := ni) (j := j) (q := q) (fun h => by have := h.2; rw [lsN_yes hown hpl hlv] at this; omega)
                exact ih (q + 1) _ _ _ _ (by omega) (by omega) hτ (by rw [m1, m2]; exact e4) (by rw [m1]; exact e5) (by omega) (by omega)
              · have mle0 := mI_le σ w ni j q
                have hlt : HG σ j q < mI σ w ni j q := by rw [evh, e5, nI_leI (by omega) (by omega)] at c_82; omega
                refine z_iload C dL_nexts_85 rfl ?_
                refine z_istore C dL_nexts_87 (by decide) ?_
                dsimp only [List.set]
                refine z_iload C dL_nexts_89 rfl ?_
                refine z_istore C dL_nexts_91 (by decide) ?_
                dsimp only [List.set]
                refine z_iinc C (v := 1) dL_nexts_93 rfl (by decide) (by decide) ?_
                dsimp only [List.set]
                refine z_goto C 21 dL_nexts_96 (by decide) ?_
                have mle := mI_le σ w ni j q
                rw [nI_1 q]
                obtain ⟨m1, m2⟩ := mI_yes hfr (show lsN σ w j q < mI σ w ni j q by rw [lsN_yes hown hpl hlv]; exact hlt)
                exact ih (q + 1) _ _ _ _ (by omega) (by omega) hτ (by rw [m1, m2, lsN_yes hown hpl hlv]; unfold bvN; rw [if_neg (by omega)]) (by rw [m1, lsN_yes hown hpl hlv, evh]) (by omega) (by omega)
end
section
variable {p : Program} {l : Launch} {e : Env} {R : Room} {s : State} {m : MethodId} {args : Array Value} {below : List Frame} {meth : Method} {c : Code} {D : va_G} {ad : Nat → Nat → Nat} {cy : Nat → ClassId} {A : Nat → Prop} {sa : Nat → Nat} {cells slots : Nat} {σ : St}
set_option maxRecDepth 100000 in
set_option maxHeartbeats 4000000 in
theorem lp_nexts_out (C : Cx p l s m args meth c cL_nexts "FretSchoolLaw" 9 (some .boolean) D ad cy A sa) {T : Nat} {σ : St} (hI : LInv T σ) {w np ni : Nat} (hw : w < 5) (enp : σ 0 0 6 = nI np) (hnp : np ≤ 8) (eni : σ 0 0 7 = nI ni) (hni : ni ≤ 8) {M : Nat} {Q : State → Prop} {B : Nat} (hBM : B ≤ M) (kx : ∀ (τ : St) (x4 x5 : Int32) (j : Nat) (o7 o8 : Option Value) (cells slots : Nat), SameC σ τ → x4 = bvN (ezN σ w ni np) (bsN σ w ni np) → cells ≤ B → slots ≤ 6 * B → Z p l e (rmD 10 M) s m args below meth c D ad cy A 9 (cells) (slots) (Q) τ [some (.ref (ad 0 0)), some (.ref (ad 19 0)), some (.ref (ad 22 0)), some (.int (nI w)), some (.int x4), some (.int x5), some (.int (nI j)), o7, o8] 105 []) : ∀ (f j : Nat) (τ : St) (x4 x5 : Int32) (o7 o8 : Option Value) {cells slots : Nat}, j ≤ np → np < j + f → SameC σ τ → x4 = bvN (ezN σ w ni j) (bsN σ w ni j) → x5 = nI (ezN σ w ni j) → cells + 40 * f ≤ B → slots + 240 * f ≤ 6 * B → Z p l e (rmD 10 M) s m args below meth c D ad cy A 9 (cells) (slots) (Q) τ [some (.ref (ad 0 0)), some (.ref (ad 19 0)), some (.ref (ad 22 0)), some (.int (nI w)), some (.int x4), some (.int x5), some (.int (nI j)), o7, o8] 10 [] := by
  intro f
  induction f with
  | zero => intro j τ x4 x5 o7 o8 cells slots _ h; exact absurd h (by omega)
  | succ f ih =>
    intro j τ x4 x5 o7 o8 cells slots hq hf hτ e4 e5 hc1 hc2
    refine z_iload C dL_nexts_10 rfl ?_
    refine z_aload_n C dL_nexts_12 rfl ?_
    refine z_iconst C (v := 0) dL_nexts_13 (by decide) ?_
    refine a_22 C (j := 0) (by decide) (by decide) dL_nexts_14 ?_
    rw [hτ.k 22 0 0 (by decide), hI.2.1.1, enp]
    refine z_icmp_ge C 105 dL_nexts_15 (by decide) (fun c_15 => ?_) (fun c_15 => ?_)
    · have hqn : j = np := by rw [nI_leI (by omega) (by omega)] at c_15; omega
      subst hqn
      exact kx τ x4 x5 _ _ _ _ _ hτ e4 (by omega) (by omega)
    · have hqn : j < np := by rw [nI_leI (by omega) (by omega)] at c_15; omega
      refine z_iconst C (v := 0) dL_nexts_18 (by decide) ?_
      refine z_istore C dL_nexts_19 (by decide) ?_
      dsimp only [List.set]
      obtain ⟨m1, m2⟩ := mI_0 σ w ni j
      refine lp_nexts_in C hI hw enp hnp eni hni (B := B - 40 * f) (by omega) hqn (fun τ x4 x5 o7 o8 cells slots hτ e4 e5 hc1 hc2 => ?_) (ni + 1) 0 τ x4 x5 o8 (by omega) (by omega) hτ (by rw [m1, m2]; exact e4) (by rw [m1]; exact e5) (by omega) (by omega)
      refine z_iinc C (v := 1) dL_nexts_99 rfl (by decide) (by decide) ?_
      dsimp only [List.set]
      refine z_goto C 10 dL_nexts_102 (by decide) ?_
      rw [nI_1 j]
      exact ih (j + 1) τ x4 x5 _ _ (by omega) (by omega) hτ e4 e5 (by omega) (by omega)
end
set_option maxRecDepth 100000 in
set_option maxHeartbeats 4000000 in
theorem c_L_nexts {l : Launch} {D : va_G} {ad : Nat → Nat → Nat} {cy : Nat → ClassId} {A : Nat → Prop} {sa : Nat → Nat} {σ : St} {T : Nat} (hI : LInv T σ) {w : Nat} (hw : w < 5) : MK l D ad cy A sa yL_nexts cL_nexts 9 (some .boolean) 10 400 σ [.ref (ad 0 0), .ref (ad 19 0), .ref (ad 22 0), .int (nI w)] (fun r σ' => r = 1 ∧ SameC σ σ') := by
  refine MK.mk "FretSchoolLaw" (by decide) rfl (Nat.le_of_ble_eq_true rfl) rfl ?_
  intro p e s m args below meth c C
  change Z _ _ _ _ _ _ _ _ _ _ _ _ _ _ _ _ _ _ _ [some (.ref (ad 0 0)), some (.ref (ad 19 0)), some (.ref (ad 22 0)), some (.int (nI w)), none, none, none, none, none] 0 []
  obtain ⟨np, hnp, enp⟩ := hI.1.1
  obtain ⟨ni, hni, eni⟩ := hI.1.2.1
  refine z_iconst C (v := (-1)) dL_nexts_0 (by decide) ?_
  refine z_istore C dL_nexts_1 (by decide) ?_
  dsimp only [List.set]
  refine z_bipush C (v := 100) dL_nexts_3 (by decide) ?_
  refine z_istore C dL_nexts_5 (by decide) ?_
  dsimp only [List.set]
  refine z_iconst C (v := 0) dL_nexts_7 (by decide) ?_
  refine z_istore C dL_nexts_8 (by decide) ?_
  dsimp only [List.set]
  refine lp_nexts_out C hI hw enp hnp eni hni (B := 360) (by omega) (fun τ x4 x5 j o7 o8 cells slots hτ e4 hc1 hc2 => ?_) (np + 1) 0 σ _ _ _ _ (by omega) (by omega) SameC.rf rfl rfl (by omega) (by omega)
  refine z_aload_n C dL_nexts_105 rfl ?_
  refine z_iload_n C dL_nexts_106 rfl ?_
  refine z_csw C (As := [_, _]) (c_L_next (hτ.inv hI.1)) wd275 wd13 wd276 hd_next wd274 (rok (by decide) (by decide)) ⟨by show _ ≤ 400; omega, by show _ ≤ 6 * (400); omega⟩ rfl (Nat.le_of_ble_eq_true rfl) dL_nexts_107 ?_
  intro r107 τ h107
  obtain ⟨hτ, rfl⟩ := S_next hτ h107 hw eni enp (by omega) (by omega)
  refine z_iload C dL_nexts_110 rfl ?_
  refine z_icmp_ne C 211 dL_nexts_112 (by decide) (fun c_112 => ?_) (fun c_112 => ?_)
  · exact absurd (((nxV_N hw np hnp).1).trans e4.symm) c_112
  refine z_aload_n C dL_nexts_115 rfl ?_
  refine z_iconst C (v := 5) dL_nexts_116 (by decide) ?_
  refine z_csw C (As := [_, _]) (c_L_next (hτ.inv hI.1)) wd275 wd13 wd276 hd_next wd274 (rok (by decide) (by decide)) ⟨by show _ ≤ 400; omega, by show _ ≤ 6 * (400); omega⟩ rfl (Nat.le_of_ble_eq_true rfl) dL_nexts_117 ?_
  intro r117 τ h117
  obtain ⟨hτ, rfl⟩ := S_next_no hτ h117 out5
  refine z_ldc C (v := (-1000002)) wd266 dL_nexts_120 ?_
  refine z_icmp_ne C 211 dL_nexts_122 (by decide) (fun c_122 => ?_) (fun c_122 => ?_)
  · exact absurd rfl c_122
  refine z_aload_n C dL_nexts_125 rfl ?_
  refine z_iconst C (v := (-1)) dL_nexts_126 (by decide) ?_
  refine z_csw C (As := [_, _]) (c_L_level) wd185 wd13 wd186 hd_level wd184 (rok (by decide) (by decide)) ⟨by show _ ≤ 400; omega, by show _ ≤ 6 * (400); omega⟩ rfl (Nat.le_of_ble_eq_true rfl) dL_nexts_127 ?_
  intro r127 τ h127
  obtain ⟨hτ, rfl⟩ := S_pup_no hτ h127 outm1
  refine z_ldc C (v := (-1000002)) wd266 dL_nexts_130 ?_
  refine z_icmp_ne C 211 dL_nexts_132 (by decide) (fun c_132 => ?_) (fun c_132 => ?_)
  · exact absurd rfl c_132
  refine z_aload_n C dL_nexts_135 rfl ?_
  refine z_iconst C (v := 5) dL_nexts_136 (by decide) ?_
  refine z_csw C (As := [_, _]) (c_L_known) wd268 wd13 wd269 hd_known wd267 (rok (by decide) (by decide)) ⟨by show _ ≤ 400; omega, by show _ ≤ 6 * (400); omega⟩ rfl (Nat.le_of_ble_eq_true rfl) dL_nexts_137 ?_
  intro r137 τ h137
  obtain ⟨hτ, rfl⟩ := S_pup_no hτ h137 out5
  refine z_ldc C (v := (-1000002)) wd266 dL_nexts_140 ?_
  refine z_icmp_ne C 211 dL_nexts_142 (by decide) (fun c_142 => ?_) (fun c_142 => ?_)
  · exact absurd rfl c_142
  refine z_aload_n C dL_nexts_145 rfl ?_
  refine z_iload_n C dL_nexts_146 rfl ?_
  refine z_csw C (As := [_, _]) (c_L_level) wd185 wd13 wd186 hd_level wd184 (rok (by decide) (by decide)) ⟨by show _ ≤ 400; omega, by show _ ≤ 6 * (400); omega⟩ rfl (Nat.le_of_ble_eq_true rfl) dL_nexts_147 ?_
  intro r147 τ h147
  obtain ⟨hτ, rfl⟩ := S_pup 0 hτ h147 hw
  refine z_iconst C (v := 2) dL_nexts_150 (by decide) ?_
  refine z_icmp_lt C 211 dL_nexts_151 (by decide) (fun c_151 => ?_) (fun c_151 => ?_)
  · obtain ⟨v, hv1, hv2, ev⟩ := hI.2.2.2.2.2.2.2.2.2.1 w hw
    rw [ev] at c_151
    exact absurd c_151 (nI_nlt (a := v) (b := 2) hv1 (by omega))
  refine z_aload_n C dL_nexts_154 rfl ?_
  refine z_aload_n C dL_nexts_155 rfl ?_
  refine z_iconst C (v := 0) dL_nexts_156 (by decide) ?_
  refine a_22 C (j := 0) (by decide) (by decide) dL_nexts_157 ?_
  rw [hτ.k 22 0 0 (by decide), hI.2.1.1, enp]
  refine z_iconst C (v := 0) dL_nexts_158 (by decide) ?_
  refine z_csw C (As := [_, _, _]) (c_L_shifts (hτ.inv hI.1)) wd375 wd13 wd376 hd_shifts wd374 (rok (by decide) (by decide)) ⟨by show _ ≤ 400; omega, by show _ ≤ 6 * (400); omega⟩ rfl (Nat.le_of_ble_eq_true rfl) dL_nexts_159 ?_
  intro r159 τ h159
  obtain ⟨hτ, rfl⟩ := S_pq_no hτ h159 (Or.inl (by rw [enp]; exact no_nI (Nat.le_refl _) (by omega)))
  refine z_ldc C (v := (-1000001)) wd367 dL_nexts_162 ?_
  refine z_icmp_ne C 211 dL_nexts_164 (by decide) (fun c_164 => ?_) (fun c_164 => ?_)
  · exact absurd rfl c_164
  refine z_aload_n C dL_nexts_167 rfl ?_
  refine z_iconst C (v := 0) dL_nexts_168 (by decide) ?_
  refine z_aload_n C dL_nexts_169 rfl ?_
  refine z_iconst C (v := 1) dL_nexts_170 (by decide) ?_
  refine a_22 C (j := 1) (by decide) (by decide) dL_nexts_171 ?_
  rw [hτ.k 22 0 1 (by decide), hI.2.1.2.1, eni]
  refine z_csw C (As := [_, _, _]) (c_L_hardest (hτ.inv hI.1)) wd391 wd13 wd392 hd_hardest wd390 (rok (by decide) (by decide)) ⟨by show _ ≤ 400; omega, by show _ ≤ 6 * (400); omega⟩ rfl (Nat.le_of_ble_eq_true rfl) dL_nexts_172 ?_
  intro r172 τ h172
  obtain ⟨hτ, rfl⟩ := S_pq_no hτ h172 (Or.inr (by rw [eni]; exact no_nI (Nat.le_refl _) (by omega)))
  refine z_ldc C (v := (-1000001)) wd367 dL_nexts_175 ?_
  refine z_icmp_ne C 211 dL_nexts_177 (by decide) (fun c_177 => ?_) (fun c_177 => ?_)
  · exact absurd rfl c_177
  refine z_aload_n C dL_nexts_180 rfl ?_
  refine z_aload_n C dL_nexts_181 rfl ?_
  refine z_iconst C (v := 0) dL_nexts_182 (by decide) ?_
  refine a_22 C (j := 0) (by decide) (by decide) dL_nexts_183 ?_
  rw [hτ.k 22 0 0 (by decide), hI.2.1.1, enp]
  refine z_aload_n C dL_nexts_184 rfl ?_
  refine z_iconst C (v := 1) dL_nexts_185 (by decide) ?_
  refine a_22 C (j := 1) (by decide) (by decide) dL_nexts_186 ?_
  rw [hτ.k 22 0 1 (by decide), hI.2.1.2.1, eni]
  refine z_csw C (As := [_, _, _]) (c_L_shiftsByAll (hτ.inv hI.1)) wd413 wd13 wd414 hd_shiftsByAll wd412 (rok (by decide) (by decide)) ⟨by show _ ≤ 400; omega, by show _ ≤ 6 * (400); omega⟩ rfl (Nat.le_of_ble_eq_true rfl) dL_nexts_187 ?_
  intro r187 τ h187
  obtain ⟨hτ, rfl⟩ := S_byAll_no hτ h187 (Or.inl (by rw [enp]; exact no_nI (Nat.le_refl _) (by omega)))
  refine z_ldc C (v := (-1000001)) wd367 dL_nexts_190 ?_
  refine z_icmp_ne C 211 dL_nexts_192 (by decide) (fun c_192 => ?_) (fun c_192 => ?_)
  · exact absurd rfl c_192
  refine z_aload_n C dL_nexts_195 rfl ?_
  refine z_aload_n C dL_nexts_196 rfl ?_
  refine z_iconst C (v := 1) dL_nexts_197 (by decide) ?_
  refine a_22 C (j := 1) (by decide) (by decide) dL_nexts_198 ?_
  rw [hτ.k 22 0 1 (by decide), hI.2.1.2.1, eni]
  refine z_csw C (As := [_, _]) (c_L_owner (hτ.inv hI.1)) wd569 wd13 wd570 hd_owner wd568 (rok (by decide) (by decide)) ⟨by show _ ≤ 400; omega, by show _ ≤ 6 * (400); omega⟩ rfl (Nat.le_of_ble_eq_true rfl) dL_nexts_199 ?_
  intro r199 τ h199
  obtain ⟨hτ, rfl⟩ := S_owner_no hτ h199 (by rw [eni]; exact no_nI (Nat.le_refl _) (by omega))
  refine z_ldc C (v := (-1000001)) wd367 dL_nexts_202 ?_
  refine z_icmp_ne C 211 dL_nexts_204 (by decide) (fun c_204 => ?_) (fun c_204 => ?_)
  · exact absurd rfl c_204
  refine z_iconst C (v := 1) dL_nexts_207 (by decide) ?_
  refine z_goto C 212 dL_nexts_208 (by decide) ?_
  refine z_widen (mc := 400) (ms := 6 * 400) (by first | decide | omega) (by first | decide | omega) ?_
  refine z_zret C dL_nexts_212 (by first | exact Or.inl rfl | exact Or.inr rfl | assumption) ?_
  exact ⟨rfl, hτ⟩
end
