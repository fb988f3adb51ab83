section
-- ===== PART A: goes FIRST, ahead of the names: the tables' words, and 'selects' of the private methods out of them =====
/-- a private method of a class that the tables say can be made, by its rows of tables_1 -/
def lw_okq (q : MethodName × Nat) : Prop := (q.1.cls ≠ "java/lang/invoke/MethodHandle" ∧ q.1.cls ≠ "java/lang/invoke/VarHandle") ∧ Cond.instantiable q.1.cls q.2 ∈ tables_1 ∧ Cond.privateMethod q.1 ∈ tables_1 ∧ Cond.instanceMethod q.1 ∈ tables_1
theorem lw_p0 : lw_okq (⟨"java/lang/Throwable", "fillInStackTrace", "(I)Ljava/lang/Throwable;"⟩, 6) := ⟨⟨by decide +kernel, by decide +kernel⟩, List.mem_of_getElem? (i := 214) (by decide +kernel), List.mem_of_getElem? (i := 212) (by decide +kernel), List.mem_of_getElem? (i := 213) (by decide +kernel)⟩
theorem lw_p1 : lw_okq (⟨"FretSchool", "needPiece", "(I)V"⟩, 10) := ⟨⟨by decide +kernel, by decide +kernel⟩, List.mem_of_getElem? (i := 16) (by decide +kernel), List.mem_of_getElem? (i := 253) (by decide +kernel), List.mem_of_getElem? (i := 254) (by decide +kernel)⟩
theorem lw_p2 : lw_okq (⟨"FretSchool", "needNote", "(II)V"⟩, 10) := ⟨⟨by decide +kernel, by decide +kernel⟩, List.mem_of_getElem? (i := 16) (by decide +kernel), List.mem_of_getElem? (i := 325) (by decide +kernel), List.mem_of_getElem? (i := 326) (by decide +kernel)⟩
theorem lw_p3 : lw_okq (⟨"FretSchool", "needInstrument", "(I)V"⟩, 10) := ⟨⟨by decide +kernel, by decide +kernel⟩, List.mem_of_getElem? (i := 16) (by decide +kernel), List.mem_of_getElem? (i := 337) (by decide +kernel), List.mem_of_getElem? (i := 338) (by decide +kernel)⟩
theorem lw_p4 : lw_okq (⟨"FretSchool", "findBest", "(II)Z"⟩, 10) := ⟨⟨by decide +kernel, by decide +kernel⟩, List.mem_of_getElem? (i := 16) (by decide +kernel), List.mem_of_getElem? (i := 356) (by decide +kernel), List.mem_of_getElem? (i := 357) (by decide +kernel)⟩
theorem lw_p5 : lw_okq (⟨"FretSchool$Hand", "feelReach", "(LFretSchool$Piece;LFretSchool$Instrument;)V"⟩, 5) := ⟨⟨by decide +kernel, by decide +kernel⟩, List.mem_of_getElem? (i := 102) (by decide +kernel), List.mem_of_getElem? (i := 364) (by decide +kernel), List.mem_of_getElem? (i := 365) (by decide +kernel)⟩
theorem lw_p6 : lw_okq (⟨"FretSchool$Hand", "measureRest", "(IZ)V"⟩, 5) := ⟨⟨by decide +kernel, by decide +kernel⟩, List.mem_of_getElem? (i := 102) (by decide +kernel), List.mem_of_getElem? (i := 376) (by decide +kernel), List.mem_of_getElem? (i := 377) (by decide +kernel)⟩
theorem lw_p7 : lw_okq (⟨"FretSchool$Hand", "nearest", "(II)I"⟩, 5) := ⟨⟨by decide +kernel, by decide +kernel⟩, List.mem_of_getElem? (i := 102) (by decide +kernel), List.mem_of_getElem? (i := 380) (by decide +kernel), List.mem_of_getElem? (i := 381) (by decide +kernel)⟩
theorem lw_p8 : lw_okq (⟨"FretSchool$Hand", "chooseRow", "(I)Z"⟩, 5) := ⟨⟨by decide +kernel, by decide +kernel⟩, List.mem_of_getElem? (i := 102) (by decide +kernel), List.mem_of_getElem? (i := 394) (by decide +kernel), List.mem_of_getElem? (i := 395) (by decide +kernel)⟩
theorem lw_p9 : lw_okq (⟨"FretSchool", "learnableShift", "(III)I"⟩, 10) := ⟨⟨by decide +kernel, by decide +kernel⟩, List.mem_of_getElem? (i := 16) (by decide +kernel), List.mem_of_getElem? (i := 450) (by decide +kernel), List.mem_of_getElem? (i := 451) (by decide +kernel)⟩
theorem lw_p10 : lw_okq (⟨"FretSchool", "easiestShift", "(II)I"⟩, 10) := ⟨⟨by decide +kernel, by decide +kernel⟩, List.mem_of_getElem? (i := 16) (by decide +kernel), List.mem_of_getElem? (i := 480) (by decide +kernel), List.mem_of_getElem? (i := 481) (by decide +kernel)⟩
theorem lw_p11 : lw_okq (⟨"FretSchool", "ordersAtWork", "()I"⟩, 10) := ⟨⟨by decide +kernel, by decide +kernel⟩, List.mem_of_getElem? (i := 16) (by decide +kernel), List.mem_of_getElem? (i := 499) (by decide +kernel), List.mem_of_getElem? (i := 500) (by decide +kernel)⟩
theorem lw_p12 : lw_okq (⟨"FretSchool", "needOrder", "(I)V"⟩, 10) := ⟨⟨by decide +kernel, by decide +kernel⟩, List.mem_of_getElem? (i := 16) (by decide +kernel), List.mem_of_getElem? (i := 520) (by decide +kernel), List.mem_of_getElem? (i := 521) (by decide +kernel)⟩
theorem lw_p13 : lw_okq (⟨"FretSchoolModel", "goes", "(ZZZ)Z"⟩, 19) := ⟨⟨by decide +kernel, by decide +kernel⟩, List.mem_of_getElem? (i := 551) (by decide +kernel), List.mem_of_getElem? (i := 624) (by decide +kernel), List.mem_of_getElem? (i := 625) (by decide +kernel)⟩
theorem lw_p14 : lw_okq (⟨"FretSchoolModel", "isPiece", "(I)Z"⟩, 19) := ⟨⟨by decide +kernel, by decide +kernel⟩, List.mem_of_getElem? (i := 551) (by decide +kernel), List.mem_of_getElem? (i := 632) (by decide +kernel), List.mem_of_getElem? (i := 633) (by decide +kernel)⟩
theorem lw_p15 : lw_okq (⟨"FretSchoolModel", "isNote", "(II)Z"⟩, 19) := ⟨⟨by decide +kernel, by decide +kernel⟩, List.mem_of_getElem? (i := 551) (by decide +kernel), List.mem_of_getElem? (i := 647) (by decide +kernel), List.mem_of_getElem? (i := 648) (by decide +kernel)⟩
def lw_privs_1 : List (MethodName × Nat) := [(⟨"java/lang/Throwable", "fillInStackTrace", "(I)Ljava/lang/Throwable;"⟩, 6), (⟨"FretSchool", "needPiece", "(I)V"⟩, 10), (⟨"FretSchool", "needNote", "(II)V"⟩, 10), (⟨"FretSchool", "needInstrument", "(I)V"⟩, 10), (⟨"FretSchool", "findBest", "(II)Z"⟩, 10), (⟨"FretSchool$Hand", "feelReach", "(LFretSchool$Piece;LFretSchool$Instrument;)V"⟩, 5), (⟨"FretSchool$Hand", "measureRest", "(IZ)V"⟩, 5), (⟨"FretSchool$Hand", "nearest", "(II)I"⟩, 5), (⟨"FretSchool$Hand", "chooseRow", "(I)Z"⟩, 5), (⟨"FretSchool", "learnableShift", "(III)I"⟩, 10), (⟨"FretSchool", "easiestShift", "(II)I"⟩, 10), (⟨"FretSchool", "ordersAtWork", "()I"⟩, 10), (⟨"FretSchool", "needOrder", "(I)V"⟩, 10), (⟨"FretSchoolModel", "goes", "(ZZZ)Z"⟩, 19), (⟨"FretSchoolModel", "isPiece", "(I)Z"⟩, 19), (⟨"FretSchoolModel", "isNote", "(II)Z"⟩, 19)]
theorem lw_r1 : ∀ q ∈ lw_privs_1, lw_okq q := List.forall_mem_cons.mpr ⟨lw_p0, List.forall_mem_cons.mpr ⟨lw_p1, List.forall_mem_cons.mpr ⟨lw_p2, List.forall_mem_cons.mpr ⟨lw_p3, List.forall_mem_cons.mpr ⟨lw_p4, List.forall_mem_cons.mpr ⟨lw_p5, List.forall_mem_cons.mpr ⟨lw_p6, List.forall_mem_cons.mpr ⟨lw_p7, List.forall_mem_cons.mpr ⟨lw_p8, List.forall_mem_cons.mpr ⟨lw_p9, List.forall_mem_cons.mpr ⟨lw_p10, List.forall_mem_cons.mpr ⟨lw_p11, List.forall_mem_cons.mpr ⟨lw_p12, List.forall_mem_cons.mpr ⟨lw_p13, List.forall_mem_cons.mpr ⟨lw_p14, List.forall_mem_cons.mpr ⟨lw_p15, fun _ h => absurd h List.not_mem_nil⟩⟩⟩⟩⟩⟩⟩⟩⟩⟩⟩⟩⟩⟩⟩⟩
theorem lw_p16 : lw_okq (⟨"FretSchoolModel", "isInstrument", "(I)Z"⟩, 19) := ⟨⟨by decide +kernel, by decide +kernel⟩, List.mem_of_getElem? (i := 551) (by decide +kernel), List.mem_of_getElem? (i := 655) (by decide +kernel), List.mem_of_getElem? (i := 656) (by decide +kernel)⟩
theorem lw_p17 : lw_okq (⟨"FretSchoolModel", "told", "(I)I"⟩, 19) := ⟨⟨by decide +kernel, by decide +kernel⟩, List.mem_of_getElem? (i := 551) (by decide +kernel), List.mem_of_getElem? (i := 667) (by decide +kernel), List.mem_of_getElem? (i := 668) (by decide +kernel)⟩
theorem lw_p18 : lw_okq (⟨"FretSchoolModel", "asks", "(II)Z"⟩, 19) := ⟨⟨by decide +kernel, by decide +kernel⟩, List.mem_of_getElem? (i := 551) (by decide +kernel), List.mem_of_getElem? (i := 675) (by decide +kernel), List.mem_of_getElem? (i := 676) (by decide +kernel)⟩
theorem lw_p19 : lw_okq (⟨"FretSchoolModel", "finds", "(II)I"⟩, 19) := ⟨⟨by decide +kernel, by decide +kernel⟩, List.mem_of_getElem? (i := 551) (by decide +kernel), List.mem_of_getElem? (i := 679) (by decide +kernel), List.mem_of_getElem? (i := 680) (by decide +kernel)⟩
theorem lw_p20 : lw_okq (⟨"FretSchoolModel", "from", "(IIII)I"⟩, 19) := ⟨⟨by decide +kernel, by decide +kernel⟩, List.mem_of_getElem? (i := 551) (by decide +kernel), List.mem_of_getElem? (i := 683) (by decide +kernel), List.mem_of_getElem? (i := 684) (by decide +kernel)⟩
theorem lw_p21 : lw_okq (⟨"FretSchoolModel", "plays", "(IIII)Z"⟩, 19) := ⟨⟨by decide +kernel, by decide +kernel⟩, List.mem_of_getElem? (i := 551) (by decide +kernel), List.mem_of_getElem? (i := 687) (by decide +kernel), List.mem_of_getElem? (i := 688) (by decide +kernel)⟩
theorem lw_p22 : lw_okq (⟨"FretSchoolModel", "lies", "(IIIII)Z"⟩, 19) := ⟨⟨by decide +kernel, by decide +kernel⟩, List.mem_of_getElem? (i := 551) (by decide +kernel), List.mem_of_getElem? (i := 691) (by decide +kernel), List.mem_of_getElem? (i := 692) (by decide +kernel)⟩
theorem lw_p23 : lw_okq (⟨"FretSchoolModel", "hardestOf", "(II)I"⟩, 19) := ⟨⟨by decide +kernel, by decide +kernel⟩, List.mem_of_getElem? (i := 551) (by decide +kernel), List.mem_of_getElem? (i := 707) (by decide +kernel), List.mem_of_getElem? (i := 708) (by decide +kernel)⟩
theorem lw_p24 : lw_okq (⟨"FretSchoolModel", "asksNote", "(III)Z"⟩, 19) := ⟨⟨by decide +kernel, by decide +kernel⟩, List.mem_of_getElem? (i := 551) (by decide +kernel), List.mem_of_getElem? (i := 715) (by decide +kernel), List.mem_of_getElem? (i := 716) (by decide +kernel)⟩
theorem lw_p25 : lw_okq (⟨"FretSchoolModel", "canLearn", "(III)Z"⟩, 19) := ⟨⟨by decide +kernel, by decide +kernel⟩, List.mem_of_getElem? (i := 551) (by decide +kernel), List.mem_of_getElem? (i := 730) (by decide +kernel), List.mem_of_getElem? (i := 731) (by decide +kernel)⟩
theorem lw_p26 : lw_okq (⟨"FretSchoolModel", "isKnown", "(II)Z"⟩, 19) := ⟨⟨by decide +kernel, by decide +kernel⟩, List.mem_of_getElem? (i := 551) (by decide +kernel), List.mem_of_getElem? (i := 734) (by decide +kernel), List.mem_of_getElem? (i := 735) (by decide +kernel)⟩
theorem lw_p27 : lw_okq (⟨"FretSchoolModel", "atWork", "()I"⟩, 19) := ⟨⟨by decide +kernel, by decide +kernel⟩, List.mem_of_getElem? (i := 551) (by decide +kernel), List.mem_of_getElem? (i := 758) (by decide +kernel), List.mem_of_getElem? (i := 759) (by decide +kernel)⟩
theorem lw_p28 : lw_okq (⟨"FretSchoolModel", "isOrder", "(I)Z"⟩, 19) := ⟨⟨by decide +kernel, by decide +kernel⟩, List.mem_of_getElem? (i := 551) (by decide +kernel), List.mem_of_getElem? (i := 766) (by decide +kernel), List.mem_of_getElem? (i := 767) (by decide +kernel)⟩
def lw_privs_2 : List (MethodName × Nat) := [(⟨"FretSchoolModel", "isInstrument", "(I)Z"⟩, 19), (⟨"FretSchoolModel", "told", "(I)I"⟩, 19), (⟨"FretSchoolModel", "asks", "(II)Z"⟩, 19), (⟨"FretSchoolModel", "finds", "(II)I"⟩, 19), (⟨"FretSchoolModel", "from", "(IIII)I"⟩, 19), (⟨"FretSchoolModel", "plays", "(IIII)Z"⟩, 19), (⟨"FretSchoolModel", "lies", "(IIIII)Z"⟩, 19), (⟨"FretSchoolModel", "hardestOf", "(II)I"⟩, 19), (⟨"FretSchoolModel", "asksNote", "(III)Z"⟩, 19), (⟨"FretSchoolModel", "canLearn", "(III)Z"⟩, 19), (⟨"FretSchoolModel", "isKnown", "(II)Z"⟩, 19), (⟨"FretSchoolModel", "atWork", "()I"⟩, 19), (⟨"FretSchoolModel", "isOrder", "(I)Z"⟩, 19)]
theorem lw_r2 : ∀ q ∈ lw_privs_2, lw_okq q := List.forall_mem_cons.mpr ⟨lw_p16, List.forall_mem_cons.mpr ⟨lw_p17, List.forall_mem_cons.mpr ⟨lw_p18, List.forall_mem_cons.mpr ⟨lw_p19, List.forall_mem_cons.mpr ⟨lw_p20, List.forall_mem_cons.mpr ⟨lw_p21, List.forall_mem_cons.mpr ⟨lw_p22, List.forall_mem_cons.mpr ⟨lw_p23, List.forall_mem_cons.mpr ⟨lw_p24, List.forall_mem_cons.mpr ⟨lw_p25, List.forall_mem_cons.mpr ⟨lw_p26, List.forall_mem_cons.mpr ⟨lw_p27, List.forall_mem_cons.mpr ⟨lw_p28, fun _ h => absurd h List.not_mem_nil⟩⟩⟩⟩⟩⟩⟩⟩⟩⟩⟩⟩⟩
def lw_privs : List (MethodName × Nat) := lw_privs_1 ++ (lw_privs_2)
def lw_tbl : List Cond := k2_sels lw_privs ++ tables_1
theorem lw_privs_ok : ∀ q ∈ lw_privs, lw_okq q := by
  show ∀ q ∈ lw_privs_1 ++ (lw_privs_2), lw_okq q
  exact List.forall_mem_append.mpr ⟨lw_r1, lw_r2⟩
-- ===== end of PART A; then your names; then what follows =====
/-- what the printed names ask of an array of arrays (their own word for it isn't in this claim's kit) -/
def va_AOA (ty : FieldType) (U : State) : Prop := (Cond.arrayOver (.array ty)).before #[] U = true
theorem va_AOA.of {ty : FieldType} {A : Array Value} {U : State} (h : (Cond.arrayOver (.array ty)).before A U = true) : va_AOA ty U := h
theorem va_AOA.use {ty : FieldType} {A : Array Value} {U : State} (h : va_AOA ty U) : (Cond.arrayOver (.array ty)).before A U = true := h
end
section
/-! ===== BEGIN words of one list among another's, by their places ===== -/
theorem goodIn_r {big : List Cond} (ws : List Cond) (ps : List Nat) (hp : ws = ps.filterMap (fun i => big[i]?)) (h : ws.all goodWord = true) : GoodIn big ws := by
  intro w hw
  have h1 := List.all_eq_true.mp h w hw
  rw [hp] at hw
  obtain ⟨i, -, hi⟩ := List.mem_filterMap.mp hw
  have hm : w ∈ big := by first | exact List.mem_of_getElem? hi | exact List.getElem?_mem hi
  exact ⟨hm, good_of_word h1⟩
theorem goodIn_app {big a b : List Cond} (ha : GoodIn big a) (hb : GoodIn big b) : GoodIn big (a ++ b) := fun w h => (List.mem_append.mp h).elim (ha w) (hb w)
theorem goodIn_ca {big a b : List Cond} {c : Cond} (ha : GoodIn big (c :: a)) (hb : GoodIn big b) : GoodIn big (c :: (a ++ b)) := fun w h => (List.mem_cons.mp h).elim (fun e => ha w (List.mem_cons.mpr (Or.inl e))) (fun h => (List.mem_append.mp h).elim (fun h => ha w (List.mem_cons.mpr (Or.inr h))) (hb w))
theorem goodIn_sub {big ws : List Cond} (hm : ∀ w ∈ ws, w ∈ big) (h : ws.all goodWord = true) : GoodIn big ws := fun w hw => ⟨hm w hw, good_of_word (List.all_eq_true.mp h w hw)⟩
/-! ===== END ===== -/

/-! ===== BEGIN new T[n][m]: the outer array a place, the inner ones among the pooled ===== -/
/-- f, but v at every address of l -/
def vr_up {α : Type} (f : Nat → α) (l : List Nat) (v : α) : Nat → α := fun a => if a ∈ l then v else f a
theorem vr_up_in {α : Type} {f : Nat → α} {l : List Nat} {v : α} {a : Nat} (h : a ∈ l) : vr_up f l v a = v := if_pos h
theorem vr_up_ne {α : Type} {f : Nat → α} {l : List Nat} {v : α} {a : Nat} (h : a ∉ l) : vr_up f l v a = f a := if_neg h
theorem vr_rows {L l : List Nat} {f : Nat → va_E} {e : va_E} (h : ∀ a, a ∈ l → a ∉ L) : va_pl L f ++ l.map (fun a => (a, e)) = va_pl (L ++ l) (vr_up f l e) := by
  unfold va_pl
  rw [List.map_append]
  congr 1
  · apply List.map_congr_left
    intro a ha
    rw [vr_up_ne (fun q => h a q ha)]
  · apply List.map_congr_left
    intro a ha
    rw [vr_up_in ha]
theorem vr_lay {X rows : va_W} {x : Nat × va_E} {pl : va_W} {D : va_G} {cl : List vw_C} {H : Heap} (hP : va_P D cl (((X ++ pl) ++ [x]) ++ rows) H) : va_P D cl ((X ++ [x]) ++ (pl ++ rows)) H := by
  rw [List.append_assoc (X ++ pl)] at hP
  have h := va_P.swap hP
  rw [← List.append_assoc X] at h
  have h2 := va_P.swap h
  rw [List.append_assoc (X ++ [x])] at h2
  exact h2
theorem vr_layD {X rows : va_W} {x : Nat × va_E} {pl : va_W} {A : Nat → Prop} (hD : va_D A (((X ++ pl) ++ [x]) ++ rows)) : va_D A ((X ++ [x]) ++ (pl ++ rows)) := by
  rw [List.append_assoc (X ++ pl)] at hD
  have h := va_D.swap hD
  rw [← List.append_assoc X] at h
  have h2 := va_D.swap h
  rw [List.append_assoc (X ++ [x])] at h2
  exact h2
theorem vr_outer (c : ClassId) (N h0 : Nat) : ∀ i : Nat, Jvm.Free.Multi.outerC c N h0 i = arrV c N (fun j => va_rf (if j < i then some (h0 + 1 + j) else none))
  | 0 => by
    show ({ cls := c, slots := Array.replicate N .null, vm := .none } : Cell) = _
    rw [arrV_new]
    refine congrArg (arrV c N) (funext fun j => ?_)
    simp [va_rf]
  | i + 1 => by
    show (Jvm.Free.Multi.outerC c N h0 i).setSlot i (.ref (h0 + 1 + i)) = _
    rw [vr_outer c N h0 i, arrV_store]
    refine congrArg (arrV c N) (funext fun j => ?_)
    by_cases e : j = i
    · subst e
      simp [updV, va_rf]
    · by_cases h : j < i
      · simp [updV, e, h, Nat.lt_succ_of_lt h]
      · simp [updV, e, h, show ¬ j < i + 1 by omega]
section VGM
variable {p : Program} {l : Launch} {e : Env} {R : Room} {s : State} {m : MethodId} {args : Array Value} {below : List Frame} {meth : Method} {c : Code} {H : Heap} {locs : List Loc} {cells slots : Nat} {Q : State → Prop}
variable {cc : ByteArray} {pc : Nat} {ls : Array Slot} {rest : List Value} {D : va_G} {cl : List vw_C} {A : Nat → Prop} {a : Nat} {tys : List (ClassId × FieldType)} {ws : va_W} {H0 : Heap}
theorem va_mna {X : va_W} {L : List Nat} {f : Nat → va_E} {cc : ByteArray} (hexec : p.tables.exec = Jvm.exec) (hb : c.code = cc) {own : String} {index : Nat} {ty : FieldType} {cy : ClassId} (hown : s.vm.findClass own = some m.cls) (hclink : (Cond.classLink own index ("[" ++ (FieldType.array ty).toString)).before args s = true) (hover : va_AOA ty s) (harr : (Cond.arrayClass ty).before args s = true) (hcy : s.vm.findClass (FieldType.array ty).toString = some cy)
    (hK : va_K D cl tys s) (hP : va_P D cl (X ++ va_pl L f) H) (hD : va_D A (X ++ va_pl L f)) (hS : va_S A H0 H locs) (hA : ∀ q, H0.size ≤ q → A q) {n k : Int32} {N' K' : Nat} {z : vp_A} (hn : ¬ n < 0) (hk : ¬ k < 0) (hN : n.toNatClampNeg = N') (hM : k.toNatClampNeg = K')
    (hb1 : N' * 4 ≤ 536870912) (hb2 : K' * componentBytes ty ≤ 536870912) (hb3 : K' ≤ 536870912) (hdf : fits ty (defaultValue ty) = true) (hdd : (defaultValue ty).isDefault = true) (hcells : cells + (1 + N') ≤ R.cells) (hslots : slots + (N' + N' * K') ≤ R.slots) (hz : ∀ c : ClassId, Jvm.Free.Multi.innerC c K' (defaultValue ty) = vp_cell c z) (hdg : decode cc pc = .ok (.multianewarray index 2, 4))
    (kk : ∀ (q : Nat) (r : Nat → Nat) (cA : ClassId) (H1 : Heap), (∀ i j : Nat, i < N' → j < N' → r i = r j → i = j) → (∀ i : Nat, i < N' → r i ∉ L) → va_K D cl (tys ++ [(cA, .array ty)]) s →
      va_P D cl ((X ++ [(q, .inl (cA, N', .inr (.inr (.inr (.inr (fun i => if i < N' then some (r i) else none))))))]) ++ va_pl (L ++ (List.range N').map r) (vr_up f ((List.range N').map r) (.inl (cy, z)))) H1 → va_D A ((X ++ [(q, .inl (cA, N', .inr (.inr (.inr (.inr (fun i => if i < N' then some (r i) else none))))))]) ++ va_pl (L ++ (List.range N').map r) (vr_up f ((List.range N').map r) (.inl (cy, z)))) → va_S A H0 H1 locs →
      W p l e R s m args below meth c H1 locs (cells + 1 + N') (slots + N' + N' * K') Q (F0 m (pc + 4) ls (.ref q :: rest))) : W p l e R s m args below meth c H locs cells slots Q (F0 m pc ls (.int k :: .int n :: rest)) := by
  subst hN
  subst hM
  intro T hT Xs
  obtain ⟨vm₁, cA, comp, -, fA, fC, hO, -, X', step⟩ := Xs.multianewarray2F hexec hown hclink (va_AOA.use hover) harr (g := F0 m pc ls (.int k :: .int n :: rest)) rfl (by rw [hb]; exact hdg) rfl hn hk hb1 hb2 hb3 hdf hdd hcells hslots
  have ec : some cy = some comp := hcy.symm.trans fC
  cases ec
  generalize hF : Jvm.Free.Multi.fill (T.setVm vm₁) cA cy n.toNatClampNeg k.toNatClampNeg (defaultValue ty) n.toNatClampNeg = F at X' step
  have hTh : (T.setVm vm₁).heap = H := hT
  obtain ⟨f1, f2, -, -⟩ := Jvm.Free.Multi.fill_facts (T.setVm vm₁) cA cy n.toNatClampNeg k.toNatClampNeg (defaultValue ty) n.toNatClampNeg
  rw [hF, hTh] at f1 f2
  have hold : ∀ x : Nat, x < H.size → F.heap[x]? = H[x]? := fun x hx => by
    have := Jvm.Free.Multi.fill_old (T.setVm vm₁) cA cy n.toNatClampNeg k.toNatClampNeg (defaultValue ty) (a := x) (by rw [hTh]; exact hx) n.toNatClampNeg
    rw [hF, hTh] at this
    exact this
  have hrow : ∀ j : Nat, j < n.toNatClampNeg → F.heap[H.size + 1 + j]? = some (vp_cell cy z) := fun j hj => by
    have := Jvm.Free.Multi.fill_inner (T.setVm vm₁) cA cy n.toNatClampNeg k.toNatClampNeg (defaultValue ty) n.toNatClampNeg j hj
    rw [hF, hTh, hz] at this
    exact this
  have hout : Jvm.Free.Multi.outerC cA n.toNatClampNeg H.size n.toNatClampNeg = vp_cell cA (n.toNatClampNeg, .inr (.inr (.inr (.inr (fun i => if i < n.toNatClampNeg then some (H.size + 1 + i) else none))))) := by
    rw [vp_cell_q]
    exact vr_outer cA n.toNatClampNeg H.size n.toNatClampNeg
  rw [hout] at f2
  have hlt : ∀ a, a ∈ L → a < H.size := fun a ha => by
    obtain ⟨k9, hk9⟩ := va_pl_get (X := X) (f := f) ha
    exact (hP k9 _ hk9).lt
  have hnl : ∀ i : Nat, i < n.toNatClampNeg → H.size + 1 + i ∉ L := fun i _ h => by
    have := hlt _ h
    omega
  have hnm : ∀ a, a ∈ (List.range n.toNatClampNeg).map (fun i => H.size + 1 + i) → a ∉ L := fun a ha h => by
    obtain ⟨i, -, rfl⟩ := List.mem_map.mp ha
    have := hlt _ h
    omega
  have hP0 : va_P D cl (X ++ va_pl L f) F.heap := hP.kept (fun k9 x hx => hold x.1 ((hP k9 x hx).lt))
  have hP1 : va_P D cl ((X ++ va_pl L f) ++ [(H.size, .inl (cA, n.toNatClampNeg, .inr (.inr (.inr (.inr (fun i => if i < n.toNatClampNeg then some (H.size + 1 + i) else none))))))]) F.heap := hP0.app (fun k9 x hx => by
    have h0 : k9 < 1 := (List.getElem?_eq_some_iff.mp hx).1
    rw [show k9 = 0 by omega] at hx
    cases hx
    exact f2)
  have hP2 : va_P D cl (((X ++ va_pl L f) ++ [(H.size, .inl (cA, n.toNatClampNeg, .inr (.inr (.inr (.inr (fun i => if i < n.toNatClampNeg then some (H.size + 1 + i) else none))))))]) ++ ((List.range n.toNatClampNeg).map (fun i => H.size + 1 + i)).map (fun a => (a, .inl (cy, z)))) F.heap := hP1.app (fun k9 x hx => by
    obtain ⟨a, ha, rfl⟩ := List.mem_map.mp (List.mem_of_getElem? hx)
    obtain ⟨i, hi, rfl⟩ := List.mem_map.mp ha
    exact hrow i (List.mem_range.mp hi))
  have hD2 : va_D A (((X ++ va_pl L f) ++ [(H.size, .inl (cA, n.toNatClampNeg, .inr (.inr (.inr (.inr (fun i => if i < n.toNatClampNeg then some (H.size + 1 + i) else none))))))]) ++ ((List.range n.toNatClampNeg).map (fun i => H.size + 1 + i)).map (fun a => (a, .inl (cy, z)))) := by
    have hD1 := hD.push (e := .inl (cA, n.toNatClampNeg, .inr (.inr (.inr (.inr (fun i => if i < n.toNatClampNeg then some (H.size + 1 + i) else none)))))) hP rfl (hA _ hS.1)
    generalize hW1 : (X ++ va_pl L f) ++ [(H.size, .inl (cA, n.toNatClampNeg, .inr (.inr (.inr (.inr (fun i => if i < n.toNatClampNeg then some (H.size + 1 + i) else none))))))] = W1 at hD1 hP1 ⊢
    have hle : ∀ (k9 : Nat) (x : Nat × va_E), W1[k9]? = some x → x.1 ≤ H.size := fun k9 x hx => by
      rw [← hW1] at hx
      by_cases hl : k9 < (X ++ va_pl L f).length
      · rw [List.getElem?_append_left hl] at hx
        exact Nat.le_of_lt ((hP k9 x hx).lt)
      · rw [List.getElem?_append_right (by omega)] at hx
        have h0 : k9 - (X ++ va_pl L f).length < 1 := (List.getElem?_eq_some_iff.mp hx).1
        rw [show k9 - (X ++ va_pl L f).length = 0 by omega] at hx
        cases hx
        exact Nat.le_refl _
    have hr : ∀ (k9 : Nat) (x : Nat × va_E), (((List.range n.toNatClampNeg).map (fun i => H.size + 1 + i)).map (fun a => ((a, .inl (cy, z)) : Nat × va_E)))[k9]? = some x → x.1 = H.size + 1 + k9 := fun k9 x hx => by
      rw [List.getElem?_map, List.getElem?_map] at hx
      by_cases h9 : k9 < n.toNatClampNeg
      · rw [List.getElem?_range h9] at hx
        cases hx
        rfl
      · have hn0 : (List.range n.toNatClampNeg)[k9]? = none := List.getElem?_eq_none (by rw [List.length_range]; omega)
        rw [hn0] at hx
        cases hx
    refine ⟨fun i j x y hi hj hxy => ?_, fun k9 x hx => ?_⟩
    · by_cases h1 : i < W1.length <;> by_cases h2 : j < W1.length
      · rw [List.getElem?_append_left h1] at hi
        rw [List.getElem?_append_left h2] at hj
        exact hD1.1 i j x y hi hj hxy
      · rw [List.getElem?_append_left h1] at hi
        rw [List.getElem?_append_right (by omega)] at hj
        have := hle _ _ hi
        have := hr _ _ hj
        omega
      · rw [List.getElem?_append_right (by omega)] at hi
        rw [List.getElem?_append_left h2] at hj
        have := hle _ _ hj
        have := hr _ _ hi
        omega
      · rw [List.getElem?_append_right (by omega)] at hi hj
        have := hr _ _ hi
        have := hr _ _ hj
        omega
    · by_cases h1 : k9 < W1.length
      · rw [List.getElem?_append_left h1] at hx
        exact hD1.2 k9 x hx
      · rw [List.getElem?_append_right (by omega)] at hx
        have := hr _ _ hx
        exact hA _ (by have := hS.1; omega)
  have hAr : ArrOfT s cA (.array ty) := fun N9 z9 => by
    obtain ⟨-, k9, hk9, cm9, hkk9⟩ := (hO 0 0 0).1
    exact ⟨(fun q hq => by cases hq), k9, hk9, cm9, hkk9⟩
  have hK2 : va_K D cl (tys ++ [(cA, .array ty)]) s := ⟨hK.1, fun k9 x hx => by
    by_cases hl : k9 < tys.length
    · rw [List.getElem?_append_left hl] at hx
      exact hK.2 k9 x hx
    · rw [List.getElem?_append_right (by omega)] at hx
      have h0 : k9 - tys.length < 1 := (List.getElem?_eq_some_iff.mp hx).1
      rw [show k9 - tys.length = 0 by omega] at hx
      cases hx
      exact ⟨hAr, fA⟩⟩
  obtain ⟨t, a1, b1⟩ := kk H.size (fun i => H.size + 1 + i) cA F.heap (fun i j _ _ h => by have h9 : H.size + 1 + i = H.size + 1 + j := h; omega) hnl hK2 (by rw [← vr_rows hnm]; exact vr_lay hP2) (by rw [← vr_rows hnm]; exact vr_layD hD2) ⟨by rw [f1]; have := hS.1; omega, fun x h1 h2 => (hold x (Nat.lt_of_lt_of_le h1 hS.1)).trans (hS.2.1 x h1 h2), hS.2.2⟩ F rfl X'
  refine ⟨t, step t ?_, b1⟩
  have e : T.heap.size = H.size := by rw [hT]
  rw [e]
  exact a1
end VGM
/-! ===== END ===== -/

/-! ===== BEGIN exceptions that leave a method, and their catching by the caller (launches without stack traces) ===== -/
section VXA
/-! The laws vx_back, vx_callV, vx_callS, vx_callSW, vx_throw0, vx_throwS follow proofs of the library, with one case more: JvmDerived/Free/Laws.lean (Back.of_free), Shelf42/LK1.lean (callV, callS), Shelf/KitTraced.lean (throwNew0V, throwNewS). -/
/-- where a method has thrown q: the class by its name, the cell, what was written, the world -/
def vx_T (XC : String → State → State → Prop) (st : State) (q : Addr) (t : State) (mc ms : Nat) (free : Addr → Prop) : Prop :=
  ∃ (E : String) (ce : Cell) (L : List Loc), XC E st t ∧ t.heap[q]? = some ce ∧ ce.vm = .none ∧ st.vm.findClass E = some ce.cls ∧ st.WarmedH t.vm ∧ st.sameButNew ({ t with vm := st.vm } : State) L mc ms ∧ ∀ z ∈ L, free z.base
def vx_Q (Qc : Array Value → State → Outcome → State → Prop) (XC : String → State → State → Prop) (mc ms : Nat) (free : Addr → Prop) : Array Value → State → Outcome → State → Prop := fun a st o t =>
  (Qc a st o t ∧ ∃ L, FrameEnd st o t L mc ms ∧ ∀ q ∈ L, free q.base) ∨ ∃ q, o = .threw q ∧ vx_T XC st q t mc ms free
/-- a callee that returns or throws -/
def vx_Met (l : Launch) (y : MethodName) (ws : List Cond) (rm : Room) (Pc : Array Value → State → Prop) (Qc : Array Value → State → Outcome → State → Prop) (XC : String → State → State → Prop) (mc ms : Nat) (free : Addr → Prop) : Prop :=
  MetFree l y (headSpec ws rm) Pc (fun _ _ _ _ _ => True) (vx_Q Qc XC mc ms free)
def vx_Post (XC : String → State → State → Prop) (mc ms : Nat) (free : Addr → Prop) : Pt → Array Value → Addr → Pt → Prop := fun A a q B =>
  ∃ (g : JFrame) (mk : MethodId) (t : State) (L : List Loc) (E : String) (ce : Cell), B.U.heap = t.heap ∧ B.U.vm = t.vm ∧ XC E (A.U.calling g mk a) t ∧ t.heap[q]? = some ce ∧ ce.vm = .none ∧ A.U.vm.findClass E = some ce.cls ∧ B.locs = A.locs ++ L ∧ (∀ z ∈ L, free z.base) ∧ B.cells = A.cells + mc ∧ B.slots = A.slots + ms
def vx_Back (l : Launch) (R : Room) (p : Program) (e : Env) (below : List Frame) (s : State) (sargs : Array Value) (y : MethodName) (len W9 : Nat)
    (Pre : Pt → Array Value → Prop) (Post : Pt → Array Value → Option Value → Pt → Prop) (PostX : Pt → Array Value → Addr → Pt → Prop) : Prop :=
  ∀ (m : MethodId) (meth : Method) (c : Code) (A : Pt) (g : JFrame) (ig : Instr) (mk : MethodId) (a : Array Value),
    Stand p l e R s m sargs below meth c A.U A.locs A.cells A.slots → g.method = m → g.locals.size = c.maxLocals → decode c.code g.pc = .ok (ig, len) →
    2 * g.monitorRoom + (g.stack.map fun v => v.category).sum ≤ W9 → A.U.methodNamed? y = some mk → Pre A a →
    (∃ (v : Option Value) (B : Pt), Stand p l e R s m sargs below meth c B.U B.locs B.cells B.slots ∧ Post A a v B ∧
      Steps p.tables e below (doInvoke e (A.U.setTop g) [] mk a).1 (B.U.setTop { g with pc := g.pc + len, stack := v.toList ++ g.stack })) ∨
    (∃ (q : Addr) (B : Pt), Stand p l e R s m sargs below meth c B.U B.locs B.cells B.slots ∧ PostX A a q B ∧
      Steps p.tables e below (doInvoke e (A.U.setTop g) [] mk a).1 ((B.U.setTop g).pushFrame (.throwing q)))
section Payer
variable {l : Launch} {R : Room} {p : Program} {e : Env} {below : List Frame} {s : State} {sargs : Array Value} {y : MethodName} {len W9 : Nat}
theorem vx_back {ws : List Cond} {rm : Room} {Pc : Array Value → State → Prop} {Qc : Array Value → State → Outcome → State → Prop} {XC : String → State → State → Prop} {mc ms : Nat} {free : Addr → Prop} {bytes : ByteArray} {maxL : Nat} {ret : Option FieldType}
    (hM : vx_Met l y ws rm Pc Qc XC mc ms free) (hblind : FrameBlind Pc) (hrc : rm.cells = mc) (hrs : rm.slots = ms)
    (hframes : rm.frames + 1 ≤ R.frames) (hlocals : W9 + (maxL + 11) + rm.locals ≤ R.locals)
    (hws : ∀ w ∈ ws, ∀ a' U, s.WarmedH U.vm → w.before a' U = true) (hcode : Cond.code y bytes maxL ret ∈ ws) (hinit : ∀ a' U, s.WarmedH U.vm → (Cond.initialized y.cls).before a' U = true) :
    vx_Back l R p e below s sargs y len W9 (PreOf R mc ms Pc) (PostOf Qc mc ms free) (vx_Post XC mc ms free) := by
  intro m meth c A g ig mk a X hg hsize hdg hW hn hp
  have h1 : (headSpec ws rm).pre.before a A.U = true := atoms_intro fun w hw => hws w hw _ _ X.warmed
  have h2 : (Cond.code y bytes maxL ret).before a A.U = true := hws _ hcode _ _ X.warmed
  have h3 : (Cond.initialized y.cls).before a A.U = true := hinit _ _ X.warmed
  have h4 : A.cells + (headSpec ws rm).room.cells ≤ R.cells := by rw [show (headSpec ws rm).room.cells = mc from hrc]; exact hp.1
  have h5 : A.slots + (headSpec ws rm).room.slots ≤ R.slots := by rw [show (headSpec ws rm).room.slots = ms from hrs]; exact hp.2.1
  have hPc : Pc a (A.U.calling g mk a) := hblind _ _ _ _ hp.2.2
  obtain ⟨U, Ls, c0, s0⟩ := A
  dsimp only [Pt.U, Pt.locs, Pt.cells, Pt.slots] at h1 h2 h3 h4 h5 X hn hPc ⊢
  obtain ⟨methY, cY, hmY, hcY, -, hlY, -, -, -, -⟩ := Cond.code_spec hn h2
  obtain ⟨kY, hkY, -⟩ := className_of_methodNamed hn
  have hinitY : kY.init = .initialized := Cond.initialized_spec (findClass_of_methodNamed hn) hkY h3
  have h : At U g.method c below := by rw [hg]; exact X.here
  have hlocals9 : W9 + (maxL + 11) + (headSpec ws rm).room.locals ≤ R.locals := hlocals
  have happ : (headSpec ws rm).appliesLoose y e.platform (U.calling g mk a) = true :=
    Spec.appliesLoose_calling (g := g) h hdg hn hkY hinitY
      (X.room_calling (g := g) (R' := (headSpec ws rm).room) hsize hmY hcY hframes (by rw [hlY]; omega) h4 h5) h1
  obtain ⟨mid, hmid⟩ := h.above
  have hfr : (U.setTop g).frames = (.java g :: mid) ++ below := by rw [State.frames_setTop' g h.top, hmid]; rfl
  obtain ⟨o, s₂, hsteps, -, hend, hq⟩ := Steps.callFree hM p X.admits X.cas X.clock (acts := []) hfr happ hPc trivial
  have hq' : vx_Q Qc XC mc ms free a (U.calling g mk a) o s₂ := hq
  rw [State.frames_setTop' g h.top] at hend
  obtain ⟨g₀, hg0⟩ := Option.isSome_iff_exists.mp h.top
  obtain ⟨r, hr⟩ := State.topJava?_eq_some.mp hg0
  have hr' : (({ U with heap := s₂.heap, slotsUsed := s₂.slotsUsed } : State).setVm s₂.vm).frames = .java g₀ :: r := hr
  rcases hq' with ⟨hqc, L, hfe, hL⟩ | ⟨q, rfl, E, ce, L, hx, hce, hcv, hcl, hW₂, hsm, hL⟩
  · obtain ⟨⟨v, rfl⟩, hW₂, e2, q2, q3, q4, q5, q6⟩ := id hfe
    have e3 : s₂ = ({ (U.calling g mk a).setFrames s₂.frames with heap := s₂.heap, slotsUsed := s₂.slotsUsed } : State).setVm s₂.vm := by
      have : s₂ = ({ s₂ with vm := (U.calling g mk a).vm } : State).setVm s₂.vm := rfl
      rw [e2] at this
      exact this
    obtain ⟨c₂, i₂, len₂, hc₂, hd₂, hf₂⟩ := hend
    have hW' : U.WarmedH s₂.vm := hW₂
    have hcc : c₂ = c := by
      have h1 : s₂.code? g.method = U.code? g.method := by
        rw [State.code?_eq, State.code?_eq, hW'.alike.method?]
      exact Option.some.inj (hc₂.symm.trans (h1.trans h.code))
    subst hcc
    have hlen : len₂ = len := by rw [hdg] at hd₂; cases hd₂; rfl
    subst hlen
    have hs₂ : s₂ = (({ U with heap := s₂.heap, slotsUsed := s₂.slotsUsed } : State).setVm s₂.vm).setTop { g with pc := g.pc + len₂, stack := v.toList ++ g.stack } := by
      refine e3.trans ?_
      rw [hf₂, State.calling_eq h.top, State.setFrames_setFrames, State.setTop_of_frames _ hr', hr]
      rfl
    have hsame : U.sameButNew ({ U with heap := s₂.heap, slotsUsed := s₂.slotsUsed } : State) L mc ms := by
      refine ⟨?_, q2, q3, q4, q5, q6⟩
      obtain ⟨t, ht, -⟩ := State.frames_cons hr
      show ({ U with heap := s₂.heap, slotsUsed := s₂.slotsUsed } : State) = { U.setFrames U.frames with heap := s₂.heap, slotsUsed := s₂.slotsUsed }
      rw [State.setFrames_self ht]
    subst hg
    refine Or.inl ⟨v, ⟨(({ U with heap := s₂.heap, slotsUsed := s₂.slotsUsed } : State).setVm s₂.vm), Ls ++ L, c0 + mc, s0 + ms⟩,
      ⟨X.admits, X.cas, X.clock, X.frames, X.room, X.hears, X.method, X.code, (X.here.setHeapUsed s₂.heap s₂.slotsUsed).setVm hW'.alike, X.tail, State.WarmedH.trans X.warmed hW', X.limits, X.bytes, X.same.trans (hsame.setVm s.vm)⟩,
      ⟨g, mk, s₂, L, rfl, rfl, hqc, rfl, hL, rfl, rfl⟩, ?_⟩
    show Steps p.tables e below _ ((({ U with heap := s₂.heap, slotsUsed := s₂.slotsUsed } : State).setVm s₂.vm).setTop { g with pc := g.pc + len₂, stack := v.toList ++ g.stack })
    rw [← hs₂]
    exact hsteps
  · obtain ⟨e2, q2, q3, q4, q5, q6⟩ := id hsm
    have e3 : s₂ = ({ (U.calling g mk a).setFrames s₂.frames with heap := s₂.heap, slotsUsed := s₂.slotsUsed } : State).setVm s₂.vm := by
      have : s₂ = ({ s₂ with vm := (U.calling g mk a).vm } : State).setVm s₂.vm := rfl
      rw [e2] at this
      exact this
    have hf₂ : s₂.frames = .throwing q :: .java g :: U.frames.tail := hend
    have hW' : U.WarmedH s₂.vm := hW₂
    have hs₂ : s₂ = ((({ U with heap := s₂.heap, slotsUsed := s₂.slotsUsed } : State).setVm s₂.vm).setTop g).pushFrame (.throwing q) := by
      refine e3.trans ?_
      rw [hf₂, State.calling_eq h.top, State.setFrames_setFrames, State.pushFrame, State.frames_setTop _ hr', State.setTop_of_frames _ hr', State.setFrames_setFrames, hr]
      rfl
    have hsame : U.sameButNew ({ U with heap := s₂.heap, slotsUsed := s₂.slotsUsed } : State) L mc ms := by
      refine ⟨?_, q2, q3, q4, q5, q6⟩
      obtain ⟨t, ht, -⟩ := State.frames_cons hr
      show ({ U with heap := s₂.heap, slotsUsed := s₂.slotsUsed } : State) = { U.setFrames U.frames with heap := s₂.heap, slotsUsed := s₂.slotsUsed }
      rw [State.setFrames_self ht]
    subst hg
    refine Or.inr ⟨q, ⟨(({ U with heap := s₂.heap, slotsUsed := s₂.slotsUsed } : State).setVm s₂.vm), Ls ++ L, c0 + mc, s0 + ms⟩,
      ⟨X.admits, X.cas, X.clock, X.frames, X.room, X.hears, X.method, X.code, (X.here.setHeapUsed s₂.heap s₂.slotsUsed).setVm hW'.alike, X.tail, State.WarmedH.trans X.warmed hW', X.limits, X.bytes, X.same.trans (hsame.setVm s.vm)⟩,
      ⟨g, mk, s₂, L, E, ce, rfl, rfl, hx, hce, hcv, hcl, rfl, hL, rfl, rfl⟩, ?_⟩
    show Steps p.tables e below _ (((({ U with heap := s₂.heap, slotsUsed := s₂.slotsUsed } : State).setVm s₂.vm).setTop g).pushFrame (.throwing q))
    rw [← hs₂]
    exact hsteps
end Payer
section Calls
variable {p : Program} {l : Launch} {e : Env} {R : Room} {s : State} {m : MethodId} {args : Array Value} {below : List Frame} {meth : Method} {c : Code} {T : State} {locs : List Loc} {cells slots : Nat}
theorem vx_callV (X : Stand p l e R s m args below meth c T locs cells slots) (hexec : p.tables.exec = Jvm.exec) {own C : String} {index : Nat} {y : MethodName} {bytes : ByteArray} {maxL : Nat} {ret : Option FieldType}
    (hown : s.vm.findClass own = some m.cls) (hlink : (Cond.methodLink own index y).before args s = true) (hinst : (Cond.instanceMethod y).before args s = true) (hsel : (Cond.selects C y y).before args s = true)
    (hcode : (Cond.code y bytes maxL ret).before args s = true) (hy : y.cls ≠ "java/lang/invoke/MethodHandle" ∧ y.cls ≠ "java/lang/invoke/VarHandle")
    {W9 : Nat} {Pre : Pt → Array Value → Prop} {Post : Pt → Array Value → Option Value → Pt → Prop} {PostX : Pt → Array Value → Addr → Pt → Prop} (hK : vx_Back l R p e below s args y 3 W9 Pre Post PostX)
    {b : Addr} {cellB : Cell} (hcell : T.heap[b]? = some cellB) (hobj : cellB.vm.isStatics = false) (hcls : s.vm.findClass C = some cellB.cls)
    {g : JFrame} (hg : g.method = m) (hsize : g.locals.size = c.maxLocals) {argsL rest : List Value} (hlen : ∀ sig, parseMethodDescriptor y.desc = some sig → argsL.length = sig.parameters.length)
    (hstack : g.stack = argsL.reverse ++ .ref b :: rest) (hW : 2 * g.monitorRoom + (rest.map fun v => v.category).sum ≤ W9) (hdg : decode c.code g.pc = .ok (.invokevirtual index, 3))
    (hpre : ∀ vm₁, s.WarmedH vm₁ → Pre ⟨T.setVm vm₁, locs, cells, slots⟩ (Value.ref b :: argsL).toArray) :
    (∃ (v : Option Value) (vm₁ : Vm) (B : Pt), s.WarmedH vm₁ ∧ Stand p l e R s m args below meth c B.U B.locs B.cells B.slots ∧ Post ⟨T.setVm vm₁, locs, cells, slots⟩ (Value.ref b :: argsL).toArray v B ∧
      ∀ target, Steps p.tables e below (B.U.setTop { g with pc := g.pc + 3, stack := v.toList ++ rest }) target → Steps p.tables e below (T.setTop g) target) ∨
    (∃ (q : Addr) (vm₁ : Vm) (B : Pt), s.WarmedH vm₁ ∧ Stand p l e R s m args below meth c B.U B.locs B.cells B.slots ∧ PostX ⟨T.setVm vm₁, locs, cells, slots⟩ (Value.ref b :: argsL).toArray q B ∧
      Steps p.tables e below (T.setTop g) ((B.U.setTop { g with stack := rest }).pushFrame (.throwing q))) := by
  obtain ⟨mk, methM, hnamed, hmethM, hstM, habM⟩ := Cond.instanceMethod_spec hinst
  obtain ⟨methM', cM, hmethM', -, -, -, -, -, -, hsigM⟩ := Cond.code_spec hnamed hcode
  cases hmethM.symm.trans hmethM'
  obtain ⟨c2, r2, m2, q1, q2, q3, q4, kP, hkP, hkPi⟩ := Cond.selects_spec hsel
  cases hcls.symm.trans q1
  cases (State.methodFound?_of_named hnamed hy).symm.trans q2
  cases hnamed.symm.trans q3
  have hselP : selectMethod e.platform s.vm cellB.cls mk = .method mk := by rw [Launch.admits_selectMethod X.admits]; exact q4
  obtain ⟨vm₁, X₁, hstep₁⟩ := X.invokevirtual hexec hown hlink hnamed hmethM hstM hkP hkPi hy (a := b) (cell := cellB) hcell
    (fun z h => by rw [h] at hobj; cases hobj) hselP hmethM habM hkP hkPi (g := g) hg (argsL := argsL) (rest := rest) (hlen _ hsigM) hstack hdg
  rcases hK m meth c ⟨T.setVm vm₁, locs, cells, slots⟩ { g with stack := rest } (.invokevirtual index) mk (Value.ref b :: argsL).toArray X₁ hg hsize hdg hW (X₁.named hnamed) (hpre vm₁ X₁.warmed) with ⟨v, B, X', hpost, hsteps⟩ | ⟨q, B, X', hpost, hsteps⟩
  · exact Or.inl ⟨v, vm₁, B, X₁.warmed, X', hpost, fun target h => hstep₁ _ fun acts => by rw [doInvoke_state]; exact hsteps.trans h⟩
  · exact Or.inr ⟨q, vm₁, B, X₁.warmed, X', hpost, hstep₁ _ fun acts => by rw [doInvoke_state]; exact hsteps⟩
theorem vx_callS (X : Stand p l e R s m args below meth c T locs cells slots) (hexec : p.tables.exec = Jvm.exec) {own : String} {index : Nat} {y : MethodName} {bytes : ByteArray} {maxL : Nat} {ret : Option FieldType}
    (hown : s.vm.findClass own = some m.cls) (hlink : (Cond.methodLink own index y).before args s = true) (hstat : (Cond.static y).before args s = true) (hinit : (Cond.initialized y.cls).before args s = true)
    (hcode : (Cond.code y bytes maxL ret).before args s = true) (hy : y.cls ≠ "java/lang/invoke/MethodHandle" ∧ y.cls ≠ "java/lang/invoke/VarHandle")
    {W9 : Nat} {Pre : Pt → Array Value → Prop} {Post : Pt → Array Value → Option Value → Pt → Prop} {PostX : Pt → Array Value → Addr → Pt → Prop} (hK : vx_Back l R p e below s args y 3 W9 Pre Post PostX)
    {g : JFrame} (hg : g.method = m) (hsize : g.locals.size = c.maxLocals) {argsL rest : List Value} (hlen : ∀ sig, parseMethodDescriptor y.desc = some sig → argsL.length = sig.parameters.length)
    (hstack : g.stack = argsL.reverse ++ rest) (hW : 2 * g.monitorRoom + (rest.map fun v => v.category).sum ≤ W9) (hdg : decode c.code g.pc = .ok (.invokestatic index, 3))
    (hpre : ∀ vm₁, s.WarmedH vm₁ → Pre ⟨T.setVm vm₁, locs, cells, slots⟩ argsL.toArray) :
    (∃ (v : Option Value) (vm₁ : Vm) (B : Pt), s.WarmedH vm₁ ∧ Stand p l e R s m args below meth c B.U B.locs B.cells B.slots ∧ Post ⟨T.setVm vm₁, locs, cells, slots⟩ argsL.toArray v B ∧
      ∀ target, Steps p.tables e below (B.U.setTop { g with pc := g.pc + 3, stack := v.toList ++ rest }) target → Steps p.tables e below (T.setTop g) target) ∨
    (∃ (q : Addr) (vm₁ : Vm) (B : Pt), s.WarmedH vm₁ ∧ Stand p l e R s m args below meth c B.U B.locs B.cells B.slots ∧ PostX ⟨T.setVm vm₁, locs, cells, slots⟩ argsL.toArray q B ∧
      Steps p.tables e below (T.setTop g) ((B.U.setTop { g with stack := rest }).pushFrame (.throwing q))) := by
  obtain ⟨mk, hnamed⟩ := Cond.code_named hcode
  obtain ⟨methM, cM, hmethM, -, -, -, -, -, -, hsigM⟩ := Cond.code_spec hnamed hcode
  have hstatic : methM.isStatic = true := Cond.static_spec hnamed hmethM hstat
  obtain ⟨kP, hkP, -⟩ := className_of_methodNamed hnamed
  have hinitP : kP.init = .initialized := Cond.initialized_spec (findClass_of_methodNamed hnamed) hkP hinit
  obtain ⟨vm₁, X₁, hstep₁⟩ := X.invokestatic hexec hown hlink hnamed hmethM hstatic hkP hinitP hy (g := g) hg (argsL := argsL) (rest := rest) (hlen _ hsigM) hstack hdg
  rcases hK m meth c ⟨T.setVm vm₁, locs, cells, slots⟩ { g with stack := rest } (.invokestatic index) mk argsL.toArray X₁ hg hsize hdg hW (X₁.named hnamed) (hpre vm₁ X₁.warmed) with ⟨v, B, X', hpost, hsteps⟩ | ⟨q, B, X', hpost, hsteps⟩
  · exact Or.inl ⟨v, vm₁, B, X₁.warmed, X', hpost, fun target h => hstep₁ _ fun acts => by rw [doInvoke_state]; exact hsteps.trans h⟩
  · exact Or.inr ⟨q, vm₁, B, X₁.warmed, X', hpost, hstep₁ _ fun acts => by rw [doInvoke_state]; exact hsteps⟩
end Calls
theorem vx_cls {s : State} {T : State} {vm₁ : Vm} {E : String} {k : ClassId} (hW : s.WarmedH vm₁) (h : (T.setVm vm₁).vm.findClass E = some k) : s.vm.findClass E = some k := by
  have h1 : vm₁.findClass E = some k := h
  rw [hW.alike.findClass] at h1
  exact h1
/-- the method's frame g, with q thrown over it -/
def vx_W (p : Program) (l : Launch) (e : Env) (R : Room) (s : State) (m : MethodId) (args : Array Value) (below : List Frame) (meth : Method) (c : Code) (H : Heap) (locs : List Loc) (cells slots : Nat) (Q : State → Prop) (g : JFrame) (q : Addr) : Prop :=
  ∀ T : State, T.heap = H → Stand p l e R s m args below meth c T locs cells slots → ∃ t, Steps p.tables e below ((T.setTop g).pushFrame (.throwing q)) t ∧ Q t
def vx_Run (p : Program) (l : Launch) (e : Env) (R : Room) (s : State) (m : MethodId) (args : Array Value) (below : List Frame) (meth : Method) (c : Code) (H : Heap) (locs : List Loc) (cells slots mc ms : Nat) (g : JFrame) (rest : List Value) (Qa : State → Outcome → State → Prop) (XC : String → State → State → Prop) (free : Addr → Prop) : Prop :=
  ∀ T : State, T.heap = H → Stand p l e R s m args below meth c T locs cells slots →
    (∃ (v : Option Value) (st₀ t T' : State) (L : List Loc), st₀.heap = H ∧ Stand p l e R s m args below meth c T' (locs ++ L) (cells + mc) (slots + ms) ∧ (∀ q ∈ L, free q.base) ∧ T'.heap = t.heap ∧ T'.vm = t.vm ∧ Qa st₀ (.returned v) t ∧
      Goes p e below T g T' { g with pc := g.pc + 3, stack := v.toList ++ rest }) ∨
    (∃ (q : Addr) (st₀ t T' : State) (L : List Loc) (E : String) (ce : Cell), st₀.heap = H ∧ Stand p l e R s m args below meth c T' (locs ++ L) (cells + mc) (slots + ms) ∧ (∀ z ∈ L, free z.base) ∧ T'.heap = t.heap ∧ T'.vm = t.vm ∧ XC E st₀ t ∧ t.heap[q]? = some ce ∧ ce.vm = .none ∧ s.vm.findClass E = some ce.cls ∧
      Steps p.tables e below (T.setTop g) ((T'.setTop { g with stack := rest }).pushFrame (.throwing q)))
def vx_X {S : Type} (px : S → Prop) (B : String → S → State → Prop) (A : Nat → Prop) : String → State → State → Prop := fun E st t => ∃ u : S, px u ∧ B E u t ∧ va_F A st t
section Runs
variable {p : Program} {l : Launch} {e : Env} {R : Room} {s : State} {m : MethodId} {args : Array Value} {below : List Frame} {meth : Method} {c : Code} {H : Heap} {locs : List Loc} {cells slots : Nat}
variable {y : MethodName} {bytes cc : ByteArray} {maxL nL mc ms n index : Nat} {ret : Option FieldType} {ws : List Cond} {rm : Room} {Pc : Array Value → State → Prop} {Qc : Array Value → State → Outcome → State → Prop} {XC : String → State → State → Prop} {free : Addr → Prop} {Ts : List Cond} {own C : String} {b : Addr} {As rest : List Value} {g : JFrame}
theorem vx_callBack (cb : CallB R s args own index y bytes maxL ret ws rm mc ms n) (hM : vx_Met l y ws rm Pc Qc XC mc ms free) (hbl : FrameBlind Pc) : vx_Back l R p e below s args y 3 8 (PreOf R mc ms Pc) (PostOf Qc mc ms free) (vx_Post XC mc ms free) := by
  obtain ⟨hrc, hrs, hfr, hlo, hws, hcw, -, hini, -⟩ := cb
  exact vx_back (bytes := bytes) (maxL := maxL) (ret := ret) hM hbl hrc hrs hfr hlo hws hcw (fun a' U hW => word_at hW (Or.inl (by first | rfl | simp [Cond.onTables, Cond.keeps, Cond.steady])) hini)
theorem vx_runV (S : CallFix p m c cc nL s args Ts own) (hM : vx_Met l y ws rm Pc Qc XC mc ms free) (cw : CallW R s args own C index y bytes maxL ret ws rm mc ms n) (hp : PreV s H C b Pc As)
    (hg : g.method = m) (hn : As.length = n) (hsize : g.locals.size = nL) (hstack : g.stack = As.reverse ++ .ref b :: rest) (hW : 2 * g.monitorRoom + (rest.map fun v => v.category).sum ≤ 8) (hdg : decode cc g.pc = .ok (.invokevirtual index, 3)) (hf : cells + mc ≤ R.cells ∧ slots + ms ≤ R.slots) :
    vx_Run p l e R s m args below meth c H locs cells slots mc ms g rest (Qc (Value.ref b :: As).toArray) XC free := by
  have hK : vx_Back l R p e below s args y 3 8 (PreOf R mc ms Pc) (PostOf Qc mc ms free) (vx_Post XC mc ms free) := vx_callBack cw.1 hM hp.1
  obtain ⟨⟨-, -, -, -, -, -, hcode, -, hy, hlen, hl⟩, hin, hse⟩ := cw
  obtain ⟨hx, hb, hml, ho, -⟩ := S
  obtain ⟨-, ⟨cellB, hcB, hoB, hclB⟩, hPc⟩ := hp
  intro T hT X
  rcases vx_callV X hx (C := C) (bytes := bytes) (maxL := maxL) (ret := ret) ho hl hin hse hcode hy hK (by rw [hT]; exact hcB) hoB hclB hg (hsize.trans hml.symm) (argsL := As) (rest := rest) (fun sig h => hn.trans (hlen sig h)) hstack hW (by rw [hb]; exact hdg)
    (fun vm₁ hW₁ => ⟨hf.1, hf.2, hPc (T.setVm vm₁) hT hW₁⟩) with ⟨v, vm₁, ⟨U', l2, c2, s2⟩, hW₁, X', ⟨g', mk, t, L, e1, e2, hq, h1, hL, h2, h3⟩, st⟩ | ⟨q, vm₁, ⟨U', l2, c2, s2⟩, hW₁, X', ⟨g', mk, t, L, E, ce, e1, e2, hq, hce, hcv, hcl, h1, hL, h2, h3⟩, st⟩
  · dsimp only [Pt.U, Pt.locs, Pt.cells, Pt.slots] at X' e1 e2 h1 h2 h3 st
    subst h1; subst h2; subst h3
    exact Or.inl ⟨v, (T.setVm vm₁).calling g' mk (Value.ref b :: As).toArray, t, U', L, hT, X', hL, e1, e2, hq, st⟩
  · dsimp only [Pt.U, Pt.locs, Pt.cells, Pt.slots] at X' e1 e2 h1 h2 h3 st hcl
    subst h1; subst h2; subst h3
    exact Or.inr ⟨q, (T.setVm vm₁).calling g' mk (Value.ref b :: As).toArray, t, U', L, E, ce, hT, X', hL, e1, e2, hq, hce, hcv, vx_cls hW₁ hcl, st⟩
theorem vx_runS (S : CallFix p m c cc nL s args Ts own) (hM : vx_Met l y ws rm Pc Qc XC mc ms free) (cw : CallB R s args own index y bytes maxL ret ws rm mc ms n ∧ (Cond.static y).before args s = true) (hp : PreS s H Pc As)
    (hg : g.method = m) (hn : As.length = n) (hsize : g.locals.size = nL) (hstack : g.stack = As.reverse ++ rest) (hW : 2 * g.monitorRoom + (rest.map fun v => v.category).sum ≤ 8) (hdg : decode cc g.pc = .ok (.invokestatic index, 3)) (hf : cells + mc ≤ R.cells ∧ slots + ms ≤ R.slots) :
    vx_Run p l e R s m args below meth c H locs cells slots mc ms g rest (Qc As.toArray) XC free := by
  have hK : vx_Back l R p e below s args y 3 8 (PreOf R mc ms Pc) (PostOf Qc mc ms free) (vx_Post XC mc ms free) := vx_callBack cw.1 hM hp.1
  obtain ⟨⟨-, -, -, -, -, -, hcode, hini, hy, hlen, hl⟩, hstt⟩ := cw
  obtain ⟨hx, hb, hml, ho, -⟩ := S
  intro T hT X
  rcases vx_callS X hx (bytes := bytes) (maxL := maxL) (ret := ret) ho hl hstt hini hcode hy hK hg (hsize.trans hml.symm) (argsL := As) (rest := rest) (fun sig h => hn.trans (hlen sig h)) hstack hW (by rw [hb]; exact hdg)
    (fun vm₁ hW₁ => ⟨hf.1, hf.2, hp.2 (T.setVm vm₁) hT hW₁⟩) with ⟨v, vm₁, ⟨U', l2, c2, s2⟩, hW₁, X', ⟨g', mk, t, L, e1, e2, hq, h1, hL, h2, h3⟩, st⟩ | ⟨q, vm₁, ⟨U', l2, c2, s2⟩, hW₁, X', ⟨g', mk, t, L, E, ce, e1, e2, hq, hce, hcv, hcl, h1, hL, h2, h3⟩, st⟩
  · dsimp only [Pt.U, Pt.locs, Pt.cells, Pt.slots] at X' e1 e2 h1 h2 h3 st
    subst h1; subst h2; subst h3
    exact Or.inl ⟨v, (T.setVm vm₁).calling g' mk As.toArray, t, U', L, hT, X', hL, e1, e2, hq, st⟩
  · dsimp only [Pt.U, Pt.locs, Pt.cells, Pt.slots] at X' e1 e2 h1 h2 h3 st hcl
    subst h1; subst h2; subst h3
    exact Or.inr ⟨q, (T.setVm vm₁).calling g' mk As.toArray, t, U', L, E, ce, hT, X', hL, e1, e2, hq, hce, hcv, vx_cls hW₁ hcl, st⟩
end Runs
section Rows
variable {p : Program} {l : Launch} {e : Env} {R : Room} {s : State} {m : MethodId} {args : Array Value} {below : List Frame} {meth : Method} {c : Code} {H : Heap} {locs : List Loc} {cells slots : Nat} {Q : State → Prop}
variable {mc ms : Nat} {free : Addr → Prop} {A0 A1 : Nat → Prop} {H0 : Heap} {a : Array Value} {pc : Nat} {ls : Array Slot} {st0 rest : List Value}
theorem vx_keep {st₀ t T' : State} {L : List Loc} (h0 : st₀.heap = H) (e1 : T'.heap = t.heap) (hS : va_S A0 H0 H locs) (hA : ∀ q, q < H.size → A1 q → A0 q) (hf : ∀ q, free q → A0 q) (hL : ∀ q ∈ L, free q.base) (hF : va_F A1 st₀ t) :
    H.size ≤ T'.heap.size ∧ (∀ q : Nat, q < H.size → ¬ A1 q → T'.heap[q]? = H[q]?) ∧ va_S A0 H0 T'.heap (locs ++ L) := by
  obtain ⟨hz, hk⟩ := hF
  rw [h0] at hz hk
  exact ⟨by rw [e1]; exact hz, fun q h1 h2 => by rw [e1]; exact hk q h1 h2,
    ⟨Nat.le_trans hS.1 (by rw [e1]; exact hz), fun q h1 h2 => by rw [e1, hk q (Nat.lt_of_lt_of_le h1 hS.1) (fun z => h2 (hA q (Nat.lt_of_lt_of_le h1 hS.1) z))]; exact hS.2.1 q h1 h2, fun q hq => by
      rcases List.mem_append.mp hq with h | h
      · exact hS.2.2 q h
      · exact hf _ (hL q h)⟩⟩
theorem vx_calli {S SX : Type} {post : Int32 → S → Prop} {px : SX → Prop} {B : S → State → Prop} {BX : String → SX → State → Prop} {AX : Nat → Prop} (hr : vx_Run p l e R s m args below meth c H locs cells slots mc ms (F0 m pc ls st0) rest (va_Qi post B A1 a) (vx_X px BX AX) free) (hS : va_S A0 H0 H locs) (hA : ∀ q, q < H.size → A1 q → A0 q) (hf : ∀ q, free q → A0 q) (hAX : ∀ q, q < H.size → AX q → A0 q)
    (kx : ∀ (E : String) (ce : Cell) (q9 : Addr) (u : SX) (t : State) (H1 : Heap) (locs1 : List Loc), t.heap = H1 → s.vm.Alike t.vm → px u → BX E u t → H.size ≤ H1.size → (∀ q : Nat, q < H.size → ¬ AX q → H1[q]? = H[q]?) → va_S A0 H0 H1 locs1 → H1[q9]? = some ce → ce.vm = .none → s.vm.findClass E = some ce.cls → vx_W p l e R s m args below meth c H1 locs1 (cells + mc) (slots + ms) Q (F0 m pc ls rest) q9)
    (kk : ∀ (r : Int32) (u : S) (t : State) (H1 : Heap) (locs1 : List Loc), t.heap = H1 → s.vm.Alike t.vm → post r u → B u t → H.size ≤ H1.size → (∀ q : Nat, q < H.size → ¬ A1 q → H1[q]? = H[q]?) → va_S A0 H0 H1 locs1 → W p l e R s m args below meth c H1 locs1 (cells + mc) (slots + ms) Q (F0 m (pc + 3) ls (.int r :: rest))) : W p l e R s m args below meth c H locs cells slots Q (F0 m pc ls st0) := by
  intro T hT X
  rcases hr T hT X with ⟨v, st₀, t, T', L, h0, X', hL, e1, e2, ⟨⟨r, u, hv, hp, hb⟩, hF⟩, st⟩ | ⟨q, st₀, t, T', L, E, ce, h0, X', hL, e1, e2, ⟨u, hp, hb, hF⟩, hce, hcv, hcl, st⟩
  · cases hv
    obtain ⟨k1, k2, k3⟩ := vx_keep h0 e1 hS hA hf hL hF
    obtain ⟨t2, a1, b1⟩ := kk r u t T'.heap (locs ++ L) e1.symm (by rw [← e2]; exact X'.warmed.alike) hp hb k1 k2 k3 T' rfl X'
    exact ⟨t2, st t2 a1, b1⟩
  · obtain ⟨k1, k2, k3⟩ := vx_keep h0 e1 hS hAX hf hL hF
    obtain ⟨t2, a1, b1⟩ := kx E ce q u t T'.heap (locs ++ L) e1.symm (by rw [← e2]; exact X'.warmed.alike) hp hb k1 k2 k3 (by rw [e1]; exact hce) hcv hcl T' rfl X'
    exact ⟨t2, st.trans a1, b1⟩
theorem vx_calll {S SX : Type} {post : Int64 → S → Prop} {px : SX → Prop} {B : S → State → Prop} {BX : String → SX → State → Prop} {AX : Nat → Prop} (hr : vx_Run p l e R s m args below meth c H locs cells slots mc ms (F0 m pc ls st0) rest (va_Ql post B A1 a) (vx_X px BX AX) free) (hS : va_S A0 H0 H locs) (hA : ∀ q, q < H.size → A1 q → A0 q) (hf : ∀ q, free q → A0 q) (hAX : ∀ q, q < H.size → AX q → A0 q)
    (kx : ∀ (E : String) (ce : Cell) (q9 : Addr) (u : SX) (t : State) (H1 : Heap) (locs1 : List Loc), t.heap = H1 → s.vm.Alike t.vm → px u → BX E u t → H.size ≤ H1.size → (∀ q : Nat, q < H.size → ¬ AX q → H1[q]? = H[q]?) → va_S A0 H0 H1 locs1 → H1[q9]? = some ce → ce.vm = .none → s.vm.findClass E = some ce.cls → vx_W p l e R s m args below meth c H1 locs1 (cells + mc) (slots + ms) Q (F0 m pc ls rest) q9)
    (kk : ∀ (r : Int64) (u : S) (t : State) (H1 : Heap) (locs1 : List Loc), t.heap = H1 → s.vm.Alike t.vm → post r u → B u t → H.size ≤ H1.size → (∀ q : Nat, q < H.size → ¬ A1 q → H1[q]? = H[q]?) → va_S A0 H0 H1 locs1 → W p l e R s m args below meth c H1 locs1 (cells + mc) (slots + ms) Q (F0 m (pc + 3) ls (.long r :: rest))) : W p l e R s m args below meth c H locs cells slots Q (F0 m pc ls st0) := by
  intro T hT X
  rcases hr T hT X with ⟨v, st₀, t, T', L, h0, X', hL, e1, e2, ⟨⟨r, u, hv, hp, hb⟩, hF⟩, st⟩ | ⟨q, st₀, t, T', L, E, ce, h0, X', hL, e1, e2, ⟨u, hp, hb, hF⟩, hce, hcv, hcl, st⟩
  · cases hv
    obtain ⟨k1, k2, k3⟩ := vx_keep h0 e1 hS hA hf hL hF
    obtain ⟨t2, a1, b1⟩ := kk r u t T'.heap (locs ++ L) e1.symm (by rw [← e2]; exact X'.warmed.alike) hp hb k1 k2 k3 T' rfl X'
    exact ⟨t2, st t2 a1, b1⟩
  · obtain ⟨k1, k2, k3⟩ := vx_keep h0 e1 hS hAX hf hL hF
    obtain ⟨t2, a1, b1⟩ := kx E ce q u t T'.heap (locs ++ L) e1.symm (by rw [← e2]; exact X'.warmed.alike) hp hb k1 k2 k3 (by rw [e1]; exact hce) hcv hcl T' rfl X'
    exact ⟨t2, st.trans a1, b1⟩
theorem vx_callf {S SX : Type} {post : UInt32 → S → Prop} {px : SX → Prop} {B : S → State → Prop} {BX : String → SX → State → Prop} {AX : Nat → Prop} (hr : vx_Run p l e R s m args below meth c H locs cells slots mc ms (F0 m pc ls st0) rest (va_Qf post B A1 a) (vx_X px BX AX) free) (hS : va_S A0 H0 H locs) (hA : ∀ q, q < H.size → A1 q → A0 q) (hf : ∀ q, free q → A0 q) (hAX : ∀ q, q < H.size → AX q → A0 q)
    (kx : ∀ (E : String) (ce : Cell) (q9 : Addr) (u : SX) (t : State) (H1 : Heap) (locs1 : List Loc), t.heap = H1 → s.vm.Alike t.vm → px u → BX E u t → H.size ≤ H1.size → (∀ q : Nat, q < H.size → ¬ AX q → H1[q]? = H[q]?) → va_S A0 H0 H1 locs1 → H1[q9]? = some ce → ce.vm = .none → s.vm.findClass E = some ce.cls → vx_W p l e R s m args below meth c H1 locs1 (cells + mc) (slots + ms) Q (F0 m pc ls rest) q9)
    (kk : ∀ (r : UInt32) (u : S) (t : State) (H1 : Heap) (locs1 : List Loc), t.heap = H1 → s.vm.Alike t.vm → post r u → B u t → H.size ≤ H1.size → (∀ q : Nat, q < H.size → ¬ A1 q → H1[q]? = H[q]?) → va_S A0 H0 H1 locs1 → W p l e R s m args below meth c H1 locs1 (cells + mc) (slots + ms) Q (F0 m (pc + 3) ls (.float r :: rest))) : W p l e R s m args below meth c H locs cells slots Q (F0 m pc ls st0) := by
  intro T hT X
  rcases hr T hT X with ⟨v, st₀, t, T', L, h0, X', hL, e1, e2, ⟨⟨r, u, hv, hp, hb⟩, hF⟩, st⟩ | ⟨q, st₀, t, T', L, E, ce, h0, X', hL, e1, e2, ⟨u, hp, hb, hF⟩, hce, hcv, hcl, st⟩
  · cases hv
    obtain ⟨k1, k2, k3⟩ := vx_keep h0 e1 hS hA hf hL hF
    obtain ⟨t2, a1, b1⟩ := kk r u t T'.heap (locs ++ L) e1.symm (by rw [← e2]; exact X'.warmed.alike) hp hb k1 k2 k3 T' rfl X'
    exact ⟨t2, st t2 a1, b1⟩
  · obtain ⟨k1, k2, k3⟩ := vx_keep h0 e1 hS hAX hf hL hF
    obtain ⟨t2, a1, b1⟩ := kx E ce q u t T'.heap (locs ++ L) e1.symm (by rw [← e2]; exact X'.warmed.alike) hp hb k1 k2 k3 (by rw [e1]; exact hce) hcv hcl T' rfl X'
    exact ⟨t2, st.trans a1, b1⟩
theorem vx_calld {S SX : Type} {post : UInt64 → S → Prop} {px : SX → Prop} {B : S → State → Prop} {BX : String → SX → State → Prop} {AX : Nat → Prop} (hr : vx_Run p l e R s m args below meth c H locs cells slots mc ms (F0 m pc ls st0) rest (va_Qd post B A1 a) (vx_X px BX AX) free) (hS : va_S A0 H0 H locs) (hA : ∀ q, q < H.size → A1 q → A0 q) (hf : ∀ q, free q → A0 q) (hAX : ∀ q, q < H.size → AX q → A0 q)
    (kx : ∀ (E : String) (ce : Cell) (q9 : Addr) (u : SX) (t : State) (H1 : Heap) (locs1 : List Loc), t.heap = H1 → s.vm.Alike t.vm → px u → BX E u t → H.size ≤ H1.size → (∀ q : Nat, q < H.size → ¬ AX q → H1[q]? = H[q]?) → va_S A0 H0 H1 locs1 → H1[q9]? = some ce → ce.vm = .none → s.vm.findClass E = some ce.cls → vx_W p l e R s m args below meth c H1 locs1 (cells + mc) (slots + ms) Q (F0 m pc ls rest) q9)
    (kk : ∀ (r : UInt64) (u : S) (t : State) (H1 : Heap) (locs1 : List Loc), t.heap = H1 → s.vm.Alike t.vm → post r u → B u t → H.size ≤ H1.size → (∀ q : Nat, q < H.size → ¬ A1 q → H1[q]? = H[q]?) → va_S A0 H0 H1 locs1 → W p l e R s m args below meth c H1 locs1 (cells + mc) (slots + ms) Q (F0 m (pc + 3) ls (.double r :: rest))) : W p l e R s m args below meth c H locs cells slots Q (F0 m pc ls st0) := by
  intro T hT X
  rcases hr T hT X with ⟨v, st₀, t, T', L, h0, X', hL, e1, e2, ⟨⟨r, u, hv, hp, hb⟩, hF⟩, st⟩ | ⟨q, st₀, t, T', L, E, ce, h0, X', hL, e1, e2, ⟨u, hp, hb, hF⟩, hce, hcv, hcl, st⟩
  · cases hv
    obtain ⟨k1, k2, k3⟩ := vx_keep h0 e1 hS hA hf hL hF
    obtain ⟨t2, a1, b1⟩ := kk r u t T'.heap (locs ++ L) e1.symm (by rw [← e2]; exact X'.warmed.alike) hp hb k1 k2 k3 T' rfl X'
    exact ⟨t2, st t2 a1, b1⟩
  · obtain ⟨k1, k2, k3⟩ := vx_keep h0 e1 hS hAX hf hL hF
    obtain ⟨t2, a1, b1⟩ := kx E ce q u t T'.heap (locs ++ L) e1.symm (by rw [← e2]; exact X'.warmed.alike) hp hb k1 k2 k3 (by rw [e1]; exact hce) hcv hcl T' rfl X'
    exact ⟨t2, st.trans a1, b1⟩
theorem vx_callv {S SX : Type} {post : S → Prop} {px : SX → Prop} {B : S → State → Prop} {BX : String → SX → State → Prop} {AX : Nat → Prop} (hr : vx_Run p l e R s m args below meth c H locs cells slots mc ms (F0 m pc ls st0) rest (va_Qv post B A1 a) (vx_X px BX AX) free) (hS : va_S A0 H0 H locs) (hA : ∀ q, q < H.size → A1 q → A0 q) (hf : ∀ q, free q → A0 q) (hAX : ∀ q, q < H.size → AX q → A0 q)
    (kx : ∀ (E : String) (ce : Cell) (q9 : Addr) (u : SX) (t : State) (H1 : Heap) (locs1 : List Loc), t.heap = H1 → s.vm.Alike t.vm → px u → BX E u t → H.size ≤ H1.size → (∀ q : Nat, q < H.size → ¬ AX q → H1[q]? = H[q]?) → va_S A0 H0 H1 locs1 → H1[q9]? = some ce → ce.vm = .none → s.vm.findClass E = some ce.cls → vx_W p l e R s m args below meth c H1 locs1 (cells + mc) (slots + ms) Q (F0 m pc ls rest) q9)
    (kk : ∀ (u : S) (t : State) (H1 : Heap) (locs1 : List Loc), t.heap = H1 → s.vm.Alike t.vm → post u → B u t → H.size ≤ H1.size → (∀ q : Nat, q < H.size → ¬ A1 q → H1[q]? = H[q]?) → va_S A0 H0 H1 locs1 → W p l e R s m args below meth c H1 locs1 (cells + mc) (slots + ms) Q (F0 m (pc + 3) ls (rest))) : W p l e R s m args below meth c H locs cells slots Q (F0 m pc ls st0) := by
  intro T hT X
  rcases hr T hT X with ⟨v, st₀, t, T', L, h0, X', hL, e1, e2, ⟨⟨u, hv, hp, hb⟩, hF⟩, st⟩ | ⟨q, st₀, t, T', L, E, ce, h0, X', hL, e1, e2, ⟨u, hp, hb, hF⟩, hce, hcv, hcl, st⟩
  · cases hv
    obtain ⟨k1, k2, k3⟩ := vx_keep h0 e1 hS hA hf hL hF
    obtain ⟨t2, a1, b1⟩ := kk u t T'.heap (locs ++ L) e1.symm (by rw [← e2]; exact X'.warmed.alike) hp hb k1 k2 k3 T' rfl X'
    exact ⟨t2, st t2 a1, b1⟩
  · obtain ⟨k1, k2, k3⟩ := vx_keep h0 e1 hS hAX hf hL hF
    obtain ⟨t2, a1, b1⟩ := kx E ce q u t T'.heap (locs ++ L) e1.symm (by rw [← e2]; exact X'.warmed.alike) hp hb k1 k2 k3 (by rw [e1]; exact hce) hcv hcl T' rfl X'
    exact ⟨t2, st.trans a1, b1⟩
/-- caught by the row x of this method's table; the rows ahead don't take it -/
theorem vx_catch {own name : String} {E : String} {ce : Cell} {q : Addr} (hown : s.vm.findClass own = some m.cls) (pre : List ExceptionTableEntry) (x : ExceptionTableEntry) (suf : List ExceptionTableEntry) (hsplit : c.exceptionTable.toList = pre ++ x :: suf)
    (hpass : ∀ z ∈ pre, covers z pc = false ∨ (z.catchType ≠ 0 ∧ ∃ nm : String, (Cond.classLink own z.catchType nm).before args s = true ∧ va_Nc E nm s)) (hx : covers x pc = true) (h0 : x.catchType ≠ 0)
    (hlink : (Cond.classLink own x.catchType name).before args s = true) (hcast : (Cond.castable E name).before args s = true) (hcell : H[q]? = some ce) (hv : ce.vm = .none) (hcl : s.vm.findClass E = some ce.cls)
    (kk : W p l e R s m args below meth c H locs cells slots Q (F0 m x.handlerPc ls [.ref q])) : vx_W p l e R s m args below meth c H locs cells slots Q (F0 m pc ls rest) q := by
  intro T hT X
  have hpl : e.platform.magicAccessors = ({} : Platform).magicAccessors := by rw [X.admits.platform]
  obtain ⟨c3, c4, hc3, hc4, hasg⟩ := Cond.castable_spec hcast
  cases Option.some.inj (hc3.symm.trans hcl)
  obtain ⟨c5, hc5, hcl5⟩ := Cond.classLink_spec hown hlink e.platform hpl
  cases Option.some.inj (hc4.symm.trans hc5)
  obtain ⟨vm', X', st⟩ := X.thenCaughtThrough q (g := F0 m pc ls rest) rfl (Steps.refl _) (by rw [hT]; exact hcell) (by rw [hv]; rfl) (by obtain ⟨k9, h9, -⟩ := Vm.findClass_spec hcl; exact ⟨k9, h9⟩) pre x suf hsplit
    (fun z hz => by
      rcases hpass z hz with h | ⟨hz0, nm, hl1, hn1⟩
      · exact Or.inl h
      · obtain ⟨c6, hc6, hcl6⟩ := Cond.classLink_spec hown hl1 e.platform hpl
        obtain ⟨a8, b8, h1, h2, h3⟩ := hn1
        cases Option.some.inj (h1.symm.trans hcl)
        cases Option.some.inj (h2.symm.trans hc6)
        exact Or.inr ⟨hz0, _, hcl6, h3⟩) hx (Or.inr ⟨h0, c4, hcl5, hasg⟩)
  obtain ⟨t, a1, b1⟩ := kk (T.setVm vm') hT X'
  exact ⟨t, st.trans a1, b1⟩
end Rows
section Ends
variable {p : Program} {l : Launch} {e : Env} {R : Room} {s : State} {m : MethodId} {args : Array Value} {below : List Frame} {meth : Method} {c : Code} {H : Heap} {locs : List Loc} {cells slots : Nat} {Q : State → Prop}
variable {mc ms : Nat} {free : Addr → Prop} {A0 A1 : Nat → Prop} {H0 : Heap} {a : Array Value} {ls : Array Slot} {st0 rest : List Value}
variable {Qc : Array Value → State → Outcome → State → Prop} {XC : String → State → State → Prop}
/-- what a body that may throw owes at its end -/
def vx_MQ (below : List Frame) (Qc : Array Value → State → Outcome → State → Prop) (XC : String → State → State → Prop) (a : Array Value) (s : State) (mc ms : Nat) (free : Addr → Prop) : State → Prop := fun t =>
  ∃ o, t.status = .running ∧ Ended t below o ∧ vx_Q Qc XC mc ms free a s o t
theorem vx_ret {g : JFrame} {mc ms : Nat} (k : W p l e R s m args below meth c H locs cells slots (MQ below Qc args s mc ms free) g) : W p l e R s m args below meth c H locs cells slots (vx_MQ below Qc XC args s mc ms free) g := by
  intro T hT X
  obtain ⟨t, a1, o, b1, b2, b3, b4⟩ := k T hT X
  exact ⟨t, a1, o, b1, b2, Or.inl ⟨b3, b4⟩⟩
/-- not caught here: it goes on to the caller -/
theorem vx_widen {g : JFrame} {q : Addr} {k n : Nat} (h1 : cells ≤ k) (h2 : slots ≤ n) (kk : vx_W p l e R s m args below meth c H locs k n Q g q) : vx_W p l e R s m args below meth c H locs cells slots Q g q := fun T hT X => kk T hT (stand_widen X h1 h2)
theorem vx_out {pc : Nat} {E : String} {ce : Cell} {q : Addr} {mc ms : Nat} (hout : ∀ x ∈ c.exceptionTable.toList, covers x pc = false) (hlocks : meth.locks = false) (hcell : H[q]? = some ce) (hv : ce.vm = .none) (hcl : s.vm.findClass E = some ce.cls)
    (hx : ∀ t : State, t.heap = H → s.vm.Alike t.vm → XC E s t) (hf : ∀ z ∈ locs, free z.base) (hc : cells ≤ mc) (hs : slots ≤ ms) :
    vx_W p l e R s m args below meth c H locs cells slots (vx_MQ below Qc XC args s mc ms free) (F0 m pc ls rest) q := by
  intro T hT X
  obtain ⟨st1, hrun, hend, hW, hsm⟩ := X.leaveThrown q (g := F0 m pc ls rest) rfl rfl rfl hout hlocks
  have hcell9 : (T.setFrames (.throwing q :: below)).heap[q]? = some ce := by
    show T.heap[q]? = some ce
    rw [hT]; exact hcell
  exact ⟨_, st1, .threw q, hrun, hend, Or.inr ⟨q, rfl, E, ce, locs, hx _ hT hW.alike, hcell9, hv, hcl, hW, hsm.mono hc hs, hf⟩⟩
theorem vx_frame {U : State} {k n : Nat} (h : s.sameButNew ({ U with vm := s.vm } : State) locs k n) : s.heap.size ≤ U.heap.size ∧ ∀ q : Nat, q < s.heap.size → (∀ z ∈ locs, z.base ≠ q) → U.heap[q]? = s.heap[q]? := by
  obtain ⟨-, h2, -, -, -, h6⟩ := h
  refine ⟨h2, fun q hq hz => ?_⟩
  obtain ⟨c9, e1, e2, e3, e4⟩ := h6 q _ (Array.getElem?_eq_getElem hq)
  have hs : c9.slots = (s.heap[q]).slots := Array.ext_getElem? fun i => e4 i fun hm => hz _ hm rfl
  have h9 : c9 = s.heap[q] := by
    rw [hs] at e2
    exact e2
  have e5 : U.heap[q]? = some c9 := e1
  rw [e5, h9, Array.getElem?_eq_getElem hq]
/-- the words of a throw but the four that speak of the heap -/
def vx_no (w : Cond) : Bool := decide (w ≠ .isRef (.static Bundle.tN "UNASSIGNED_STACK" Bundle.steD)) && decide (w ≠ .isRef (.static Bundle.tN "SUPPRESSED_SENTINEL" Bundle.listD)) && decide (w ≠ .laysStatic Bundle.tN "UNASSIGNED_STACK" Bundle.steD) && decide (w ≠ .laysStatic Bundle.tN "SUPPRESSED_SENTINEL" Bundle.listD)
def vx_at0 (own : String) (ic : Nat) (X : String) (names : List String) : List Cond := (Bundle.ownAtoms0 own ic X names).filter vx_no
def vx_atS (own : String) (ic : Nat) (X : String) (names : List String) : List Cond := (Bundle.ownAtoms own ic X names).filter vx_no
/-- a word that the tables alone decide, or a good one -/
def vx_ot (w : Cond) : Bool := w.onTables || goodWord w
theorem vx_ot_at {args a' : Array Value} {s U : State} {w : Cond} (hW : s.WarmedH U.vm) (hvm : s.vm = U.vm) (hg : vx_ot w = true) (h : w.before args s = true) : w.before a' U = true := by
  simp only [vx_ot, Bool.or_eq_true] at hg
  rcases hg with hg | hg
  · exact va_tabs hg hvm h
  · exact word_at hW (good_of_word hg) h
/-- a list's words: the good ones out of the method's own list, the others by premises of their own -/
theorem vx_hat {args : Array Value} {s : State} {L B : List Cond} (h1 : ∀ w ∈ L.filter goodWord, w.before args s = true) (h2 : ∀ w ∈ L.filter (fun w => !goodWord w), w ∈ B) (h3 : ∀ w ∈ B, w.before args s = true) : ∀ w ∈ L, w.before args s = true := by
  intro w hw
  by_cases g : goodWord w = true
  · exact h1 w (List.mem_filter.mpr ⟨hw, g⟩)
  · refine h3 w (h2 w (List.mem_filter.mpr ⟨hw, ?_⟩))
    show (!goodWord w) = true
    cases hgw : goodWord w
    · rfl
    · exact absurd hgw g
theorem vx_c {args : Array Value} {s : State} {w : Cond} {B : List Cond} (h : w.before args s = true) (t : ∀ w ∈ B, w.before args s = true) : ∀ w' ∈ w :: B, w'.before args s = true := fun w' h' => (List.mem_cons.mp h').elim (fun e => by rw [e]; exact h) (t w')
theorem vx_n {args : Array Value} {s : State} : ∀ w ∈ ([] : List Cond), w.before args s = true := fun _ h => nomatch h
theorem vx_own {args : Array Value} {s : State} {L : List Cond} (h1 : ∀ w ∈ L.filter vx_no, w.before args s = true)
    (hU : (Cond.isRef (.static Bundle.tN "UNASSIGNED_STACK" Bundle.steD)).before args s = true) (hN : (Cond.isRef (.static Bundle.tN "SUPPRESSED_SENTINEL" Bundle.listD)).before args s = true)
    (lU : (Cond.laysStatic Bundle.tN "UNASSIGNED_STACK" Bundle.steD).before args s = true) (lN : (Cond.laysStatic Bundle.tN "SUPPRESSED_SENTINEL" Bundle.listD).before args s = true) : ∀ w ∈ L, w.before args s = true := by
  intro w hw
  by_cases e1 : w = .isRef (.static Bundle.tN "UNASSIGNED_STACK" Bundle.steD)
  · rw [e1]; exact hU
  · by_cases e2 : w = .isRef (.static Bundle.tN "SUPPRESSED_SENTINEL" Bundle.listD)
    · rw [e2]; exact hN
    · by_cases e3 : w = .laysStatic Bundle.tN "UNASSIGNED_STACK" Bundle.steD
      · rw [e3]; exact lU
      · by_cases e4 : w = .laysStatic Bundle.tN "SUPPRESSED_SENTINEL" Bundle.listD
        · rw [e4]; exact lN
        · exact h1 w (List.mem_filter.mpr ⟨hw, by unfold vx_no; rw [decide_eq_true e1, decide_eq_true e2, decide_eq_true e3, decide_eq_true e4]; rfl⟩)
/-- where a static field lies, its class's statics cell in H -/
def vx_L (C n d : String) (A : Nat → Prop) (U : State) (H : Heap) : Prop := ∃ (c : ClassId) (k : Class) (i : Nat) (f : Field) (a : Nat) (cell : Cell), U.vm.findClass C = some c ∧ U.fieldFound? C n d = some (c, k, i, f) ∧ f.isStatic = true ∧ k.statics = some a ∧ H[a]? = some cell ∧ cell.vm.isStatics = true ∧ cell.cls = c ∧ f.slot < cell.slots.size ∧ k.staticTypes[f.slot]? = some f.type ∧ ¬ A a
theorem vx_L.moved {C n d : String} {A : Nat → Prop} {u U : State} {H : Heap} (hvm : u.vm.Alike U.vm) (h : vx_L C n d A u H) : vx_L C n d A U H := by
  obtain ⟨c, k, i, f, a, cell, h1, h2, h3, h4, h5, h6, h7, h8, h9, h10⟩ := h
  obtain ⟨k', hi', he⟩ := State.fieldFound?_setVm hvm h2
  exact ⟨c, k', i, f, a, cell, by rw [hvm.findClass]; exact h1, hi', h3, by rw [he]; exact h4, h5, h6, h7, h8, by rw [he]; exact h9, h10⟩
theorem vx_L.kept {C n d : String} {A : Nat → Prop} {U : State} {H H1 : Heap} (h : vx_L C n d A U H) (hq : ∀ a : Nat, a < H.size → ¬ A a → H1[a]? = H[a]?) : vx_L C n d A U H1 := by
  obtain ⟨c, k, i, f, a, cell, h1, h2, h3, h4, h5, h6, h7, h8, h9, h10⟩ := h
  exact ⟨c, k, i, f, a, cell, h1, h2, h3, h4, by rw [hq a (Array.getElem?_eq_some_iff.mp h5).1 h10]; exact h5, h6, h7, h8, h9, h10⟩
theorem vx_L.narrow {C n d : String} {A B : Nat → Prop} {U : State} {H : Heap} (h : vx_L C n d A U H) (hAB : ∀ q, B q → A q) : vx_L C n d B U H := by
  obtain ⟨c, k, i, f, a, cell, h1, h2, h3, h4, h5, h6, h7, h8, h9, h10⟩ := h
  exact ⟨c, k, i, f, a, cell, h1, h2, h3, h4, h5, h6, h7, h8, h9, fun z => h10 (hAB _ z)⟩
theorem vx_L.word {C n d : String} {A : Nat → Prop} {s : State} {args : Array Value} (h : vx_L C n d A s s.heap) : (Cond.laysStatic C n d).before args s = true := by
  obtain ⟨c, k, i, f, a, cell, h1, h2, h3, h4, h5, h6, h7, h8, h9, -⟩ := h
  show (Cond.laysStatic C n d).holds args s none s [] = true
  exact Cond.laysStatic_of h1 h2 h3 h4 h5 h6 h7 h8 h9
/-- .. and what it holds: null or some reference -/
def vx_Zq (C n d : String) (A : Nat → Prop) (U : State) (H : Heap) : Prop := va_Zq C n d A U H ∧ vx_L C n d A U H
theorem vx_Zq.moved {C n d : String} {A : Nat → Prop} {u U : State} {H : Heap} (hvm : u.vm.Alike U.vm) (h : vx_Zq C n d A u H) : vx_Zq C n d A U H := ⟨va_Zq.moved hvm h.1, vx_L.moved hvm h.2⟩
theorem vx_Zq.kept {C n d : String} {A : Nat → Prop} {U : State} {H H1 : Heap} (h : vx_Zq C n d A U H) (hq : ∀ a : Nat, a < H.size → ¬ A a → H1[a]? = H[a]?) : vx_Zq C n d A U H1 := ⟨va_Zq.kept h.1 hq, vx_L.kept h.2 hq⟩
theorem vx_Zq.narrow {C n d : String} {A B : Nat → Prop} {U : State} {H : Heap} (h : vx_Zq C n d A U H) (hAB : ∀ q, B q → A q) : vx_Zq C n d B U H := ⟨va_Zq.narrow h.1 hAB, vx_L.narrow h.2 hAB⟩
theorem vx_Zqof {args : Array Value} {s : State} {C n d : String} {A : Nat → Prop} (hl : (Cond.laysStatic C n d).before args s = true) (hini : (Cond.initialized C).before args s = true) (h : (Cond.isRef (.static C n d)).before args s = true) (hA : ∀ a : Nat, a < s.heap.size → ¬ A a) : vx_Zq C n d A s s.heap := by
  refine ⟨va_Zqof hl hini h hA, ?_⟩
  obtain ⟨c, k, i, f, a, cell, h1, h2, h3, h4, h5, h6, h7, h8, h9⟩ := Cond.laysStatic_spec hl
  exact ⟨c, k, i, f, a, cell, h1, h2, h3, h4, h5, h6, h7, h8, h9, hA a (Array.getElem?_eq_some_iff.mp h5).1⟩
theorem vx_isRef {C n d : String} {v : Value} {A : Nat → Prop} {s : State} {args : Array Value} (h : va_Z C n d v A s s.heap) (hv : v.isRef = true) : (Cond.isRef (.static C n d)).before args s = true := by
  obtain ⟨cf, kf, fi, f, a, cell, h1, h2, h3, h4, h5, h6, h7, -⟩ := h
  have he : (Term.static C n d).eval args s none [] s = some v := by
    simp [Term.eval, State.fieldNamed?, h1, h2, h4, h5, h6, h7]
  simp only [Cond.before, Cond.holds, Cond.value, he]
  cases v <;> simp_all [Value.isRef]
theorem vx_isRefq {C n d : String} {A : Nat → Prop} {s : State} {args : Array Value} (h : va_Zq C n d A s s.heap) : (Cond.isRef (.static C n d)).before args s = true := by
  rcases h with h | ⟨t, h⟩
  · exact vx_isRef h rfl
  · exact vx_isRef h rfl
/-- the same frame, seen from here: as if the method were called anew in this heap -/
theorem vx_rebase {T : State} (X : Stand p l e R s m args below meth c T locs cells slots) {R' : Room} (hf : R'.frames ≤ R.frames) (hl : R'.locals ≤ R.locals) (hc : cells + R'.cells ≤ R.cells) (hs : slots + R'.slots ≤ R.slots) :
    Stand p l e R' ((T.setVm s.vm).setFrames (.invoking m args :: below)) m args below meth c T [] 0 0 := by
  have htop : (T.setVm s.vm).topJava?.isSome := X.here.top
  have hF : ((T.setVm s.vm).setFrames (.invoking m args :: below)).frames = .invoking m args :: below := State.frames_setFrames _ (State.cur_lt_of_top htop)
  obtain ⟨g₀, hg0⟩ := Option.isSome_iff_exists.mp htop
  obtain ⟨r, hr⟩ := State.topJava?_eq_some.mp hg0
  have hl9 : e.platform.stackLimits (T.setVm s.vm).me = e.platform.stackLimits s.me := X.limits
  have hb9 : (T.setVm s.vm).me.stackBytes = s.me.stackBytes := X.bytes
  refine ⟨X.admits, X.cas, X.clock, hF, ?_, X.hears, X.method, X.code, X.here, X.tail, X.warmed, ?_, ?_, ?_⟩
  · have h := X.room
    have hU : ((T.setVm s.vm).setFrames (.invoking m args :: below)).localsInUse = s.localsInUse := by
      rw [State.localsInUse_invoking hF (meth := meth) (c := c) X.method X.code, State.localsInUse_invoking X.frames X.method X.code]
    simp only [State.hasRoom, Bool.and_eq_true, decide_eq_true_eq] at h ⊢
    obtain ⟨⟨⟨⟨h1, h2, h3, h4, h5, h6⟩, h7⟩, h8⟩, h9⟩ := h
    rw [X.frames, List.length_cons] at h2 h3
    have q1 := X.heapSize
    have q2 := X.used
    simp only [hF, hU, List.length_cons, State.stackLimits_setFrames, State.stackBytes_setFrames, hl9, hb9]
    refine ⟨⟨⟨⟨by omega, by omega, by omega, by omega, by omega, h6⟩, ?_⟩, ?_⟩, X.book⟩
    · show T.heap.size + R'.cells ≤ e.platform.maxCells
      omega
    · show T.slotsUsed + R'.slots ≤ e.platform.maxSlots
      omega
  · rw [State.stackLimits_setFrames]; rfl
  · rw [State.stackBytes_setFrames]; rfl
  · refine ⟨?_, Nat.le_refl _, Nat.le_refl _, ?_, ?_, fun a c9 h9 => ⟨c9, h9, rfl, rfl, fun _ _ => rfl⟩⟩
    · obtain ⟨t, ht, -⟩ := State.frames_cons hr
      show T.setVm s.vm = { ((T.setVm s.vm).setFrames (.invoking m args :: below)).setFrames (T.setVm s.vm).frames with heap := T.heap, slotsUsed := T.slotsUsed }
      rw [State.setFrames_setFrames, State.setFrames_self ht]
      rfl
    · show T.slotsUsed = T.slotsUsed + ((T.heap.toList.drop T.heap.size).map (·.slots.size)).sum
      rw [List.drop_eq_nil_of_le (Nat.le_of_eq Array.length_toList)]
      rfl
    · show ((T.heap.toList.drop T.heap.size).map (·.slots.size)).sum ≤ 0
      rw [List.drop_eq_nil_of_le (Nat.le_of_eq Array.length_toList)]
      exact Nat.le_refl _
/-- 'throw new E()': new; dup; invokespecial; athrow -/
theorem vx_throw0 {cc : ByteArray} {pc : Nat} (hexec : p.tables.exec = Jvm.exec) (hb : c.code = cc) (hl : l.stackTraces = false) {own cls : String} {names : List String} {ik ic mc ms : Nat} {A : Nat → Prop}
    (hown : s.vm.findClass own = some m.cls) (hcls : Bundle.fit cls = true) (hnames : ∀ n ∈ names, Bundle.fit n = true)
    (hk : (Cond.classLink own ik cls).before args s = true) (hini : (Cond.initialized cls).before args s = true) (hat : ∀ w ∈ vx_at0 own ic cls names, w.before args s = true)
    (hgood : ∀ w ∈ Cond.classLink own ik cls :: Cond.initialized cls :: vx_at0 own ic cls names, vx_ot w = true)
    (hU : vx_Zq Bundle.tN "UNASSIGNED_STACK" Bundle.steD A s s.heap) (hN : vx_Zq Bundle.tN "SUPPRESSED_SENTINEL" Bundle.listD A s s.heap) (hS : va_S A s.heap H locs) (hsize : ls.size = c.maxLocals)
    (d0 : decode cc pc = .ok (.new ik, 3)) (d3 : decode cc (pc + 3) = .ok (.dup, 1)) (d4 : decode cc (pc + 4) = .ok (.invokespecial ic, 3)) (d7 : decode cc (pc + 7) = .ok (.athrow, 1))
    (hout : ∀ x ∈ c.exceptionTable.toList, covers x (pc + 7) = false)
    (hRframes : names.length + 3 < R.frames) (hRlocals : (rest.map fun v => v.category).sum + (13 * (names.length + 1) + 42) ≤ R.locals) (hRcells : cells + 1 ≤ R.cells) (hRslots : slots + 6 ≤ R.slots) (hlocks : meth.locks = false)
    (hx : ∀ t : State, s.vm.Alike t.vm → H.size ≤ t.heap.size → (∀ q : Nat, q < H.size → t.heap[q]? = H[q]?) → XC cls s t)
    (hf : ∀ z ∈ locs, free z.base) (hc : cells + 1 ≤ mc) (hs : slots + 6 ≤ ms) :
    W p l e R s m args below meth c H locs cells slots (vx_MQ below Qc XC args s mc ms free) (F0 m pc ls rest) := by
  intro T hT X
  have htr : e.platform.stackTraces = false := (show e.platform.stackTraces = l.stackTraces by rw [X.admits.platform]).trans hl
  have Y := vx_rebase X (R' := { frames := R.frames, locals := R.locals, cells := 1, slots := 6 }) (Nat.le_refl _) (Nat.le_refl _) hRcells hRslots
  obtain ⟨s', hA⟩ : ∃ z, z = (T.setVm s.vm).setFrames (.invoking m args :: below) := ⟨_, rfl⟩
  rw [← hA] at Y
  have hvm : s'.vm = s.vm := by rw [hA]; rfl
  have hhp : s'.heap = H := by rw [hA]; exact hT
  have hW0 : s.WarmedH s'.vm := by rw [hvm]; exact State.WarmedH.refl s
  have hat' : ∀ w ∈ vx_at0 own ic cls names, w.before args s' = true := fun w hw => vx_ot_at hW0 hvm.symm (hgood w (List.mem_cons_of_mem _ (List.mem_cons_of_mem _ hw))) (hat w hw)
  have hk' : (Cond.classLink own ik cls).before args s' = true := vx_ot_at hW0 hvm.symm (hgood _ List.mem_cons_self) hk
  have hini' : (Cond.initialized cls).before args s' = true := vx_ot_at hW0 hvm.symm (hgood _ (List.mem_cons_of_mem _ List.mem_cons_self)) hini
  have hU' : vx_Zq Bundle.tN "UNASSIGNED_STACK" Bundle.steD A s' s'.heap := by rw [hhp]; exact vx_Zq.moved hW0.alike (hU.kept hS.2.1)
  have hN' : vx_Zq Bundle.tN "SUPPRESSED_SENTINEL" Bundle.listD A s' s'.heap := by rw [hhp]; exact vx_Zq.moved hW0.alike (hN.kept hS.2.1)
  have h : ∀ w ∈ Bundle.ownAtoms0 own ic cls names, w.before args s' = true := vx_own hat' (vx_isRefq hU'.1) (vx_isRefq hN'.1) hU'.2.word hN'.2.word
  have hown' : s'.vm.findClass own = some m.cls := by rw [hvm]; exact hown
  have hins : (Cond.instantiable cls 6).before args s' = true := h _ (by simp [Bundle.ownAtoms0])
  obtain ⟨vm₁, cX, kX, hfX, hkX, -, -, X₁, st1⟩ := Y.newCold hexec (own := own) (C := cls) (index := ik) (n := 6) hown' hk' hins hini'
    (g := F0 m pc ls rest) rfl (by rw [hb]; exact d0) (Nat.le_refl _) (Nat.le_refl _)
  generalize hT1 : (T.setVm vm₁).pushCell { cls := cX, slots := kX.instanceTypes.map defaultValue, vm := .none } = T1 at X₁ st1
  have hcat : (Value.ref T.heap.size).category = 1 := rfl
  have hcellA : T1.heap[T.heap.size]? = some (freshCell cX kX) := by rw [← hT1]; exact State.heap_pushCell_size _ _
  have d3' : decode c.code (pc + 3) = .ok (.dup, 1) := by rw [hb]; exact d3
  obtain ⟨U, hsteps, hrun, hend, hW, hsame, ce, hce, hO⟩ := X₁.ctorThrow0 hexec htr (own := own) (cls := cls) (names := names) (ic := ic) hown' hcls hnames h (fun x hx => nomatch hx) hfX hkX hcellA (by rw [hhp, hT]; exact Nat.le_refl _)
    (g := { method := m, pc := pc + 4, locals := ls, stack := .ref T.heap.size :: .ref T.heap.size :: rest, locked := none }) rfl hsize rfl rfl (rest := rest) rfl
    (by rw [hb]; exact d4) (by rw [hb]; exact d7) hout hRframes (by simp only [List.map_cons, List.sum_cons, hcat]; omega) hlocks
  obtain ⟨f1, f2⟩ := vx_frame hsame
  rw [hhp] at f1 f2
  have hWs : s.WarmedH U.vm := State.WarmedH.trans hW0 hW
  have hcl : s.vm.findClass cls = some ce.cls := by
    have h9 := hO.cls
    rw [hvm] at h9
    exact h9
  have hall : s.sameButNew ({ U with vm := s.vm } : State) locs mc ms := by
    subst hA
    obtain ⟨e1, e2⟩ := hsame
    rw [State.setFrames_setFrames] at e1
    have h2 : (T.setVm s.vm).sameButNew ({ U with vm := s.vm } : State) [] (0 + 1) (0 + 6) := ⟨e1, e2⟩
    have h3 := X.same.trans h2
    rw [List.append_nil] at h3
    exact h3.mono hc hs
  refine ⟨U, ?_, .threw T.heap.size, hrun, hend, Or.inr ⟨T.heap.size, rfl, cls, ce, locs, hx U hWs.alike f1 (fun q hq => f2 q hq (fun z hz => nomatch hz)), hce, hO.vm, hcl, hWs, hall, hf⟩⟩
  refine st1 _ ?_
  show Steps p.tables e below (T1.setTop { method := m, pc := pc + 3, locals := ls, stack := .ref T.heap.size :: rest, locked := none }) _
  jvm_step X₁.here [X₁.here.top, hexec, d3', Value.category]
  exact hsteps
/-- 'throw new E("text")': new; dup; ldc; invokespecial; athrow -/
theorem vx_throwS {cc : ByteArray} {pc : Nat} (hexec : p.tables.exec = Jvm.exec) (hb : c.code = cc) (hl : l.stackTraces = false) {own cls text : String} {names : List String} {ik is ic mc ms sa : Nat} {A : Nat → Prop}
    (hown : s.vm.findClass own = some m.cls) (hcls : Bundle.fit cls = true) (hnames : ∀ n ∈ names, Bundle.fit n = true)
    (hk : (Cond.classLink own ik cls).before args s = true) (hini : (Cond.initialized cls).before args s = true) (hstr : vk_R own is text sa s) (hat : ∀ w ∈ vx_atS own ic cls names, w.before args s = true)
    (hgood : ∀ w ∈ Cond.classLink own ik cls :: Cond.initialized cls :: vx_atS own ic cls names, vx_ot w = true)
    (hU : vx_Zq Bundle.tN "UNASSIGNED_STACK" Bundle.steD A s s.heap) (hN : vx_Zq Bundle.tN "SUPPRESSED_SENTINEL" Bundle.listD A s s.heap) (hS : va_S A s.heap H locs) (hsize : ls.size = c.maxLocals)
    (d0 : decode cc pc = .ok (.new ik, 3)) (d3 : decode cc (pc + 3) = .ok (.dup, 1)) (d4 : decode cc (pc + 4) = .ok (.ldc is, 2)) (d6 : decode cc (pc + 6) = .ok (.invokespecial ic, 3)) (d9 : decode cc (pc + 9) = .ok (.athrow, 1))
    (hout : ∀ x ∈ c.exceptionTable.toList, covers x (pc + 9) = false)
    (hRframes : names.length + 3 < R.frames) (hRlocals : (rest.map fun v => v.category).sum + (13 * (names.length + 1) + 43) ≤ R.locals) (hRcells : cells + 1 ≤ R.cells) (hRslots : slots + 6 ≤ R.slots) (hlocks : meth.locks = false)
    (hx : ∀ t : State, s.vm.Alike t.vm → H.size ≤ t.heap.size → (∀ q : Nat, q < H.size → t.heap[q]? = H[q]?) → XC cls s t)
    (hf : ∀ z ∈ locs, free z.base) (hc : cells + 1 ≤ mc) (hs : slots + 6 ≤ ms) :
    W p l e R s m args below meth c H locs cells slots (vx_MQ below Qc XC args s mc ms free) (F0 m pc ls rest) := by
  intro T hT X
  have htr : e.platform.stackTraces = false := (show e.platform.stackTraces = l.stackTraces by rw [X.admits.platform]).trans hl
  have Y := vx_rebase X (R' := { frames := R.frames, locals := R.locals, cells := 1, slots := 6 }) (Nat.le_refl _) (Nat.le_refl _) hRcells hRslots
  obtain ⟨s', hA⟩ : ∃ z, z = (T.setVm s.vm).setFrames (.invoking m args :: below) := ⟨_, rfl⟩
  rw [← hA] at Y
  have hvm : s'.vm = s.vm := by rw [hA]; rfl
  have hhp : s'.heap = H := by rw [hA]; exact hT
  have hW0 : s.WarmedH s'.vm := by rw [hvm]; exact State.WarmedH.refl s
  have hat' : ∀ w ∈ vx_atS own ic cls names, w.before args s' = true := fun w hw => vx_ot_at hW0 hvm.symm (hgood w (List.mem_cons_of_mem _ (List.mem_cons_of_mem _ hw))) (hat w hw)
  have hk' : (Cond.classLink own ik cls).before args s' = true := vx_ot_at hW0 hvm.symm (hgood _ List.mem_cons_self) hk
  have hini' : (Cond.initialized cls).before args s' = true := vx_ot_at hW0 hvm.symm (hgood _ (List.mem_cons_of_mem _ List.mem_cons_self)) hini
  have hU' : vx_Zq Bundle.tN "UNASSIGNED_STACK" Bundle.steD A s' s'.heap := by rw [hhp]; exact vx_Zq.moved hW0.alike (hU.kept hS.2.1)
  have hN' : vx_Zq Bundle.tN "SUPPRESSED_SENTINEL" Bundle.listD A s' s'.heap := by rw [hhp]; exact vx_Zq.moved hW0.alike (hN.kept hS.2.1)
  have h : ∀ w ∈ Bundle.ownAtoms own ic cls names, w.before args s' = true := vx_own hat' (vx_isRefq hU'.1) (vx_isRefq hN'.1) hU'.2.word hN'.2.word
  have hown' : s'.vm.findClass own = some m.cls := by rw [hvm]; exact hown
  have hins : (Cond.instantiable cls 6).before args s' = true := h _ (by simp [Bundle.ownAtoms])
  obtain ⟨vm₁, cX, kX, hfX, hkX, -, -, X₁, st1⟩ := Y.newCold hexec (own := own) (C := cls) (index := ik) (n := 6) hown' hk' hins hini'
    (g := F0 m pc ls rest) rfl (by rw [hb]; exact d0) (Nat.le_refl _) (Nat.le_refl _)
  generalize hT1 : (T.setVm vm₁).pushCell { cls := cX, slots := kX.instanceTypes.map defaultValue, vm := .none } = T1 at X₁ st1
  have hcat : (Value.ref T.heap.size).category = 1 := rfl
  have hcellA : T1.heap[T.heap.size]? = some (freshCell cX kX) := by rw [← hT1]; exact State.heap_pushCell_size _ _
  have d3' : decode c.code (pc + 3) = .ok (.dup, 1) := by rw [hb]; exact d3
  have d4' : decode c.code (pc + 4) = .ok (.ldc is, 2) := by rw [hb]; exact d4
  have hstr' : vk_R own is text sa s' := vk_R.warm hW0 hstr
  obtain ⟨U, hsteps, hrun, hend, hW, hsame, ce, hce, hO⟩ := X₁.ctorThrowS hexec htr (own := own) (cls := cls) (names := names) (ic := ic) hown' hcls hnames h (fun x hx => nomatch hx) hfX hkX hcellA (by rw [hhp, hT]; exact Nat.le_refl _) (msg := .ref sa) rfl
    (g := { method := m, pc := pc + 6, locals := ls, stack := .ref sa :: .ref T.heap.size :: .ref T.heap.size :: rest, locked := none }) rfl hsize rfl rfl (rest := rest) rfl
    (by rw [hb]; exact d6) (by rw [hb]; exact d9) hout hRframes (by simp only [List.map_cons, List.sum_cons, hcat]; omega) hlocks
  obtain ⟨f1, f2⟩ := vx_frame hsame
  rw [hhp] at f1 f2
  have hWs : s.WarmedH U.vm := State.WarmedH.trans hW0 hW
  have hcl : s.vm.findClass cls = some ce.cls := by
    have h9 := hO.cls
    rw [hvm] at h9
    exact h9
  have hall : s.sameButNew ({ U with vm := s.vm } : State) locs mc ms := by
    subst hA
    obtain ⟨e1, e2⟩ := hsame
    rw [State.setFrames_setFrames] at e1
    have h2 : (T.setVm s.vm).sameButNew ({ U with vm := s.vm } : State) [] (0 + 1) (0 + 6) := ⟨e1, e2⟩
    have h3 := X.same.trans h2
    rw [List.append_nil] at h3
    exact h3.mono hc hs
  refine ⟨U, ?_, .threw T.heap.size, hrun, hend, Or.inr ⟨T.heap.size, rfl, cls, ce, locs, hx U hWs.alike f1 (fun q hq => f2 q hq (fun z hz => nomatch hz)), hce, hO.vm, hcl, hWs, hall, hf⟩⟩
  refine st1 _ ?_
  show Steps p.tables e below (T1.setTop { method := m, pc := pc + 3, locals := ls, stack := .ref T.heap.size :: rest, locked := none }) _
  jvm_step X₁.here [X₁.here.top, hexec, d3', Value.category]
  exact X₁.ldcString hexec (own := own) (text := text) (index := is) (a := sa) hown' hstr'.1 hstr'.2
    (g := { method := m, pc := pc + 4, locals := ls, stack := .ref T.heap.size :: .ref T.heap.size :: rest, locked := none }) rfl d4' _ hsteps
/-- 'throw new E("text")', the text by a wide index -/
theorem vx_throwSW {cc : ByteArray} {pc : Nat} (hexec : p.tables.exec = Jvm.exec) (hb : c.code = cc) (hl : l.stackTraces = false) {own cls text : String} {names : List String} {ik is ic mc ms sa : Nat} {A : Nat → Prop}
    (hown : s.vm.findClass own = some m.cls) (hcls : Bundle.fit cls = true) (hnames : ∀ n ∈ names, Bundle.fit n = true)
    (hk : (Cond.classLink own ik cls).before args s = true) (hini : (Cond.initialized cls).before args s = true) (hstr : vk_R own is text sa s) (hat : ∀ w ∈ vx_atS own ic cls names, w.before args s = true)
    (hgood : ∀ w ∈ Cond.classLink own ik cls :: Cond.initialized cls :: vx_atS own ic cls names, vx_ot w = true)
    (hU : vx_Zq Bundle.tN "UNASSIGNED_STACK" Bundle.steD A s s.heap) (hN : vx_Zq Bundle.tN "SUPPRESSED_SENTINEL" Bundle.listD A s s.heap) (hS : va_S A s.heap H locs) (hsize : ls.size = c.maxLocals)
    (d0 : decode cc pc = .ok (.new ik, 3)) (d3 : decode cc (pc + 3) = .ok (.dup, 1)) (d4 : decode cc (pc + 4) = .ok (.ldc_w is, 3)) (d7 : decode cc (pc + 7) = .ok (.invokespecial ic, 3)) (d10 : decode cc (pc + 10) = .ok (.athrow, 1))
    (hout : ∀ x ∈ c.exceptionTable.toList, covers x (pc + 10) = false)
    (hRframes : names.length + 3 < R.frames) (hRlocals : (rest.map fun v => v.category).sum + (13 * (names.length + 1) + 43) ≤ R.locals) (hRcells : cells + 1 ≤ R.cells) (hRslots : slots + 6 ≤ R.slots) (hlocks : meth.locks = false)
    (hx : ∀ t : State, s.vm.Alike t.vm → H.size ≤ t.heap.size → (∀ q : Nat, q < H.size → t.heap[q]? = H[q]?) → XC cls s t)
    (hf : ∀ z ∈ locs, free z.base) (hc : cells + 1 ≤ mc) (hs : slots + 6 ≤ ms) :
    W p l e R s m args below meth c H locs cells slots (vx_MQ below Qc XC args s mc ms free) (F0 m pc ls rest) := by
  intro T hT X
  have htr : e.platform.stackTraces = false := (show e.platform.stackTraces = l.stackTraces by rw [X.admits.platform]).trans hl
  have Y := vx_rebase X (R' := { frames := R.frames, locals := R.locals, cells := 1, slots := 6 }) (Nat.le_refl _) (Nat.le_refl _) hRcells hRslots
  obtain ⟨s', hA⟩ : ∃ z, z = (T.setVm s.vm).setFrames (.invoking m args :: below) := ⟨_, rfl⟩
  rw [← hA] at Y
  have hvm : s'.vm = s.vm := by rw [hA]; rfl
  have hhp : s'.heap = H := by rw [hA]; exact hT
  have hW0 : s.WarmedH s'.vm := by rw [hvm]; exact State.WarmedH.refl s
  have hat' : ∀ w ∈ vx_atS own ic cls names, w.before args s' = true := fun w hw => vx_ot_at hW0 hvm.symm (hgood w (List.mem_cons_of_mem _ (List.mem_cons_of_mem _ hw))) (hat w hw)
  have hk' : (Cond.classLink own ik cls).before args s' = true := vx_ot_at hW0 hvm.symm (hgood _ List.mem_cons_self) hk
  have hini' : (Cond.initialized cls).before args s' = true := vx_ot_at hW0 hvm.symm (hgood _ (List.mem_cons_of_mem _ List.mem_cons_self)) hini
  have hU' : vx_Zq Bundle.tN "UNASSIGNED_STACK" Bundle.steD A s' s'.heap := by rw [hhp]; exact vx_Zq.moved hW0.alike (hU.kept hS.2.1)
  have hN' : vx_Zq Bundle.tN "SUPPRESSED_SENTINEL" Bundle.listD A s' s'.heap := by rw [hhp]; exact vx_Zq.moved hW0.alike (hN.kept hS.2.1)
  have h : ∀ w ∈ Bundle.ownAtoms own ic cls names, w.before args s' = true := vx_own hat' (vx_isRefq hU'.1) (vx_isRefq hN'.1) hU'.2.word hN'.2.word
  have hown' : s'.vm.findClass own = some m.cls := by rw [hvm]; exact hown
  have hins : (Cond.instantiable cls 6).before args s' = true := h _ (by simp [Bundle.ownAtoms])
  obtain ⟨vm₁, cX, kX, hfX, hkX, -, -, X₁, st1⟩ := Y.newCold hexec (own := own) (C := cls) (index := ik) (n := 6) hown' hk' hins hini'
    (g := F0 m pc ls rest) rfl (by rw [hb]; exact d0) (Nat.le_refl _) (Nat.le_refl _)
  generalize hT1 : (T.setVm vm₁).pushCell { cls := cX, slots := kX.instanceTypes.map defaultValue, vm := .none } = T1 at X₁ st1
  have hcat : (Value.ref T.heap.size).category = 1 := rfl
  have hcellA : T1.heap[T.heap.size]? = some (freshCell cX kX) := by rw [← hT1]; exact State.heap_pushCell_size _ _
  have d3' : decode c.code (pc + 3) = .ok (.dup, 1) := by rw [hb]; exact d3
  have d4' : decode c.code (pc + 4) = .ok (.ldc_w is, 3) := by rw [hb]; exact d4
  have hstr' : vk_R own is text sa s' := vk_R.warm hW0 hstr
  obtain ⟨U, hsteps, hrun, hend, hW, hsame, ce, hce, hO⟩ := X₁.ctorThrowS hexec htr (own := own) (cls := cls) (names := names) (ic := ic) hown' hcls hnames h (fun x hx => nomatch hx) hfX hkX hcellA (by rw [hhp, hT]; exact Nat.le_refl _) (msg := .ref sa) rfl
    (g := { method := m, pc := pc + 7, locals := ls, stack := .ref sa :: .ref T.heap.size :: .ref T.heap.size :: rest, locked := none }) rfl hsize rfl rfl (rest := rest) rfl
    (by rw [hb]; exact d7) (by rw [hb]; exact d10) hout hRframes (by simp only [List.map_cons, List.sum_cons, hcat]; omega) hlocks
  obtain ⟨f1, f2⟩ := vx_frame hsame
  rw [hhp] at f1 f2
  have hWs : s.WarmedH U.vm := State.WarmedH.trans hW0 hW
  have hcl : s.vm.findClass cls = some ce.cls := by
    have h9 := hO.cls
    rw [hvm] at h9
    exact h9
  have hall : s.sameButNew ({ U with vm := s.vm } : State) locs mc ms := by
    subst hA
    obtain ⟨e1, e2⟩ := hsame
    rw [State.setFrames_setFrames] at e1
    have h2 : (T.setVm s.vm).sameButNew ({ U with vm := s.vm } : State) [] (0 + 1) (0 + 6) := ⟨e1, e2⟩
    have h3 := X.same.trans h2
    rw [List.append_nil] at h3
    exact h3.mono hc hs
  refine ⟨U, ?_, .threw T.heap.size, hrun, hend, Or.inr ⟨T.heap.size, rfl, cls, ce, locs, hx U hWs.alike f1 (fun q hq => f2 q hq (fun z hz => nomatch hz)), hce, hO.vm, hcl, hWs, hall, hf⟩⟩
  refine st1 _ ?_
  show Steps p.tables e below (T1.setTop { method := m, pc := pc + 3, locals := ls, stack := .ref T.heap.size :: rest, locked := none }) _
  jvm_step X₁.here [X₁.here.top, hexec, d3', Value.category]
  exact X₁.ldcStringW hexec (own := own) (text := text) (index := is) (a := sa) hown' hstr'.1 hstr'.2
    (g := { method := m, pc := pc + 4, locals := ls, stack := .ref T.heap.size :: .ref T.heap.size :: rest, locked := none }) rfl d4' _ hsteps
end Ends
section Bodies
variable {l : Launch}
theorem vx_ofW {y : MethodName} {ws ws' : List Cond} {rm : Room} {Pc : Array Value → State → Prop} {Qc : Array Value → State → Outcome → State → Prop} {XC : String → State → State → Prop} {mc ms : Nat} {free : Addr → Prop} {cc : ByteArray} {maxL : Nat} {ret : Option FieldType}
    (hy : plainName y.cls = true) (hw : ws = Cond.code y cc maxL ret :: ws')
    (body : ∀ p e s m args below meth c s₁, BodyLoose p l y (headSpec ws rm) cc maxL ret e s m args below meth c s₁ → c.maxLocals = maxL → (∀ x ∈ c.exceptionTable.toList, False) → Pc args s →
      W p l e (headSpec ws rm).room s m args below meth c s.heap [] 0 0 (vx_MQ below Qc XC args s mc ms free) (entryFrame m args maxL)) : vx_Met l y ws rm Pc Qc XC mc ms free := by
  refine MetFree.of_bodyS (code := cc) (maxLocals := maxL) (ret := ret) hy ?_ ?_
  · intro args s m h hn
    obtain ⟨meth, c, h1, h2, h3, h4, h5, h6, -, -⟩ := Cond.code_spec hn (atoms_spec (ws := ws) h _ (by rw [hw]; exact List.mem_cons_self))
    exact ⟨meth, c, h1, h2, h3, h4, h5, h6⟩
  · intro p e s m args below meth c s₁ B hml hP _
    have hh0 : s₁.heap = s.heap := by rw [B.state]; rfl
    have ht : ∀ x ∈ c.exceptionTable.toList, False := by
      obtain ⟨meth9, c9, h1, h2, -, -, -, -, h7, -⟩ := Cond.code_spec B.named (atoms_spec (ws := ws) B.pre _ (by rw [hw]; exact List.mem_cons_self))
      cases Option.some.inj (h1.symm.trans B.method)
      cases Option.some.inj (h2.symm.trans (Stand.of_body B).code)
      intro x hx
      rw [Array.isEmpty_iff.mp h7] at hx
      cases hx
    obtain ⟨t, a1, o, b1, b2, b3⟩ := body p e s m args below meth c s₁ B hml ht hP s₁ hh0 (Stand.of_body B)
    exact ⟨t, o, a1, b1, b2, b3⟩
/-- the table of a body with handlers -/
theorem vx_table {p : Program} {x y : MethodName} {S : Spec} {cc bytes : ByteArray} {maxL maxL' : Nat} {ret ret' : Option FieldType} {e : Env} {s s₁ : State} {m : MethodId} {args : Array Value} {below : List Frame} {meth : Method} {c : Code} {hh : List (Nat × Nat × Nat × Nat)}
    (B : BodyLoose p l y S cc maxL ret e s m args below meth c s₁) (h : (Cond.codeWith y bytes maxL' ret' hh).before args s = true) : c.exceptionTable.toList = tableOf hh := by
  obtain ⟨m9, meth9, c9, hn9, h1, h2, -, -, h6, -⟩ := Cond.codeWith_spec h
  cases Option.some.inj (hn9.symm.trans B.named)
  cases Option.some.inj (h1.symm.trans B.method)
  cases Option.some.inj (h2.symm.trans (Stand.of_body B).code)
  rw [← h6, table_eq]
end Bodies
end VXA
/-! ===== END ===== -/
/-! ===== BEGIN a static call of a method with an exception table ===== -/
section VXS
variable {p : Program} {l : Launch} {e : Env} {R : Room} {s : State} {m : MethodId} {args : Array Value} {below : List Frame} {meth : Method} {c : Code} {T : State} {H : Heap} {locs : List Loc} {cells slots : Nat}
abbrev vx_CSW (R : Room) (s : State) (args : Array Value) (own : String) (index : Nat) (y : MethodName) (bytes : ByteArray) (maxL : Nat) (ret : Option FieldType) (hh : List (Nat × Nat × Nat × Nat)) (ws : List Cond) (rm : Room) (mc ms n : Nat) : Prop :=
  (rm.cells = mc ∧ rm.slots = ms ∧ rm.frames + 1 ≤ R.frames ∧ 8 + (maxL + 11) + rm.locals ≤ R.locals ∧ (∀ w ∈ ws, ∀ (a' : Array Value) (U : State), s.WarmedH U.vm → w.before a' U = true) ∧ Cond.codeWith y bytes maxL ret hh ∈ ws) ∧
  (Cond.codeWith y bytes maxL ret hh).before args s = true ∧ (Cond.initialized y.cls).before args s = true ∧ (y.cls ≠ "java/lang/invoke/MethodHandle" ∧ y.cls ≠ "java/lang/invoke/VarHandle") ∧
  (∀ sig, parseMethodDescriptor y.desc = some sig → n = sig.parameters.length) ∧ (Cond.methodLink own index y).before args s = true ∧ (Cond.static y).before args s = true
theorem vx_cwSW {own : String} {index maxL mc ms : Nat} {y : MethodName} {bytes : ByteArray} {ret : Option FieldType} {hh : List (Nat × Nat × Nat × Nat)} {Ts ws ws' : List Cond} {rm : Room} (n : Nat) (ht : ∀ w ∈ Ts, w.before args s = true) (hT : GoodIn Ts (va_wsS own index y ws)) (hw : ws = Cond.codeWith y bytes maxL ret hh :: ws') (hrc : rm.cells = mc) (hrs : rm.slots = ms)
    (hd : y.cls ≠ "java/lang/invoke/MethodHandle" ∧ y.cls ≠ "java/lang/invoke/VarHandle" ∧ (parseMethodDescriptor y.desc).map (fun d => d.parameters.length) = some n) (hR : rm.frames + 1 ≤ R.frames ∧ 8 + (maxL + 11) + rm.locals ≤ R.locals) :
    vx_CSW R s args own index y bytes maxL ret hh ws rm mc ms n := by
  have ok : ∀ w ∈ va_wsS own index y ws, w.before args s = true := fun w h => ht w (hT w h).1
  have hG : GoodIn Ts ws := fun w h => hT w (by unfold va_wsS; exact List.mem_append_right _ h)
  have hc : Cond.codeWith y bytes maxL ret hh ∈ ws := by rw [hw]; exact List.mem_cons_self
  refine ⟨⟨hrc, hrs, hR.1, hR.2, pay_in ht hG, hc⟩, ht _ (hG _ hc).1, ok _ (by simp [va_wsS]), ⟨hd.1, hd.2.1⟩, fun sig h => ?_, ok _ (by simp [va_wsS]), ok _ (by simp [va_wsS])⟩
  have h2 := hd.2.2
  rw [h] at h2
  exact (Option.some.inj h2).symm
theorem vx_callSW (X : Stand p l e R s m args below meth c T locs cells slots) (hexec : p.tables.exec = Jvm.exec) {own : String} {index : Nat} {y : MethodName} {bytes : ByteArray} {maxL : Nat} {ret : Option FieldType} {hh : List (Nat × Nat × Nat × Nat)}
    (hown : s.vm.findClass own = some m.cls) (hlink : (Cond.methodLink own index y).before args s = true) (hstat : (Cond.static y).before args s = true) (hinit : (Cond.initialized y.cls).before args s = true)
    (hcode : (Cond.codeWith y bytes maxL ret hh).before args s = true) (hy : y.cls ≠ "java/lang/invoke/MethodHandle" ∧ y.cls ≠ "java/lang/invoke/VarHandle")
    {W9 : Nat} {Pre : Pt → Array Value → Prop} {Post : Pt → Array Value → Option Value → Pt → Prop} (hK : Back l R p e below s args y 3 W9 Pre Post)
    {g : JFrame} (hg : g.method = m) (hsize : g.locals.size = c.maxLocals) {argsL rest : List Value} (hlen : ∀ sig, parseMethodDescriptor y.desc = some sig → argsL.length = sig.parameters.length)
    (hstack : g.stack = argsL.reverse ++ rest) (hW : 2 * g.monitorRoom + (rest.map fun v => v.category).sum ≤ W9) (hdg : decode c.code g.pc = .ok (.invokestatic index, 3))
    (hpre : ∀ vm₁, s.WarmedH vm₁ → Pre ⟨T.setVm vm₁, locs, cells, slots⟩ argsL.toArray) :
    ∃ (v : Option Value) (vm₁ : Vm) (B : Pt), s.WarmedH vm₁ ∧ Stand p l e R s m args below meth c B.U B.locs B.cells B.slots ∧ Post ⟨T.setVm vm₁, locs, cells, slots⟩ argsL.toArray v B ∧
      ∀ target, Steps p.tables e below (B.U.setTop { g with pc := g.pc + 3, stack := v.toList ++ rest }) target → Steps p.tables e below (T.setTop g) target := by
  obtain ⟨mk, methM, cM, hnamed, hmethM, -, -, -, -, -, -, hsigM⟩ := Cond.codeWith_spec hcode
  have hstatic : methM.isStatic = true := Cond.static_spec hnamed hmethM hstat
  obtain ⟨kP, hkP, -⟩ := className_of_methodNamed hnamed
  have hinitP : kP.init = .initialized := Cond.initialized_spec (findClass_of_methodNamed hnamed) hkP hinit
  obtain ⟨vm₁, X₁, hstep₁⟩ := X.invokestatic hexec hown hlink hnamed hmethM hstatic hkP hinitP hy (g := g) hg (argsL := argsL) (rest := rest) (hlen _ hsigM) hstack hdg
  obtain ⟨v, B, X', hpost, hsteps⟩ := hK m meth c ⟨T.setVm vm₁, locs, cells, slots⟩ { g with stack := rest } (.invokestatic index) mk argsL.toArray X₁ hg hsize hdg hW (X₁.named hnamed) (hpre vm₁ X₁.warmed)
  exact ⟨v, vm₁, B, X₁.warmed, X', hpost, fun target h => hstep₁ _ fun acts => by rw [doInvoke_state]; exact hsteps.trans h⟩
theorem vx_runSW {y : MethodName} {bytes cc : ByteArray} {maxL nL mc ms n index : Nat} {ret : Option FieldType} {hh : List (Nat × Nat × Nat × Nat)} {ws : List Cond} {rm : Room} {Pc : Array Value → State → Prop} {Qc : Array Value → State → Outcome → State → Prop} {free : Addr → Prop} {Ts : List Cond} {own : String} {As rest : List Value} {g : JFrame}
    (S : CallFix p m c cc nL s args Ts own) (hM : Met l y ws rm Pc Qc mc ms free) (cw : vx_CSW R s args own index y bytes maxL ret hh ws rm mc ms n) (hp : PreS s H Pc As)
    (hg : g.method = m) (hn : As.length = n) (hsize : g.locals.size = nL) (hstack : g.stack = As.reverse ++ rest) (hW : 2 * g.monitorRoom + (rest.map fun v => v.category).sum ≤ 8) (hdg : decode cc g.pc = .ok (.invokestatic index, 3)) (hf : cells + mc ≤ R.cells ∧ slots + ms ≤ R.slots) :
    va_Run p l e R s m args below meth c H locs cells slots mc ms g rest (Qc As.toArray) (free) := by
  obtain ⟨⟨hrc, hrs, hfr, hlo, hws, hcw⟩, hcode, hini, hy, hlen, hl, hstt⟩ := cw
  have hK : Back l R p e below s args y 3 8 (PreOf R mc ms Pc) (PostOf Qc mc ms free) := va_backW (hh := hh) (bytes := bytes) (maxL := maxL) (ret := ret) hM hp.1 hrc hrs hfr hlo hws hcw (fun a' U hW => word_at hW (Or.inl (by first | rfl | simp [Cond.onTables, Cond.keeps, Cond.steady])) hini)
  obtain ⟨hx, hb, hml, ho, -⟩ := S
  intro T hT X
  obtain ⟨v, vm₁, ⟨U', l2, c2, s2⟩, hW₁, X', ⟨g', mk, t, L, e1, e2, hq, h1, hL, h2, h3⟩, st⟩ := vx_callSW X hx (hh := hh) (bytes := bytes) (maxL := maxL) (ret := ret) ho hl hstt hini hcode hy hK hg (hsize.trans hml.symm) (argsL := As) (rest := rest) (fun sig h => hn.trans (hlen sig h)) hstack hW (by rw [hb]; exact hdg)
    (fun vm₁ hW₁ => ⟨hf.1, hf.2, hp.2 (T.setVm vm₁) hT hW₁⟩)
  dsimp only [Pt.U, Pt.locs, Pt.cells, Pt.slots] at X' e1 e2 h1 h2 h3 st
  subst h1; subst h2; subst h3
  exact ⟨v, (T.setVm vm₁).calling g' mk As.toArray, t, U', L, hT, X', hL, e1, e2, hq, st⟩
/-- not caught here, past rows that name other classes: it goes on to the caller -/
theorem vx_outP {p : Program} {l : Launch} {e : Env} {R : Room} {s : State} {m : MethodId} {args : Array Value} {below : List Frame} {meth : Method} {c : Code} {H : Heap} {locs : List Loc} {cells slots : Nat} {free : Addr → Prop} {ls : Array Slot} {rest : List Value} {Qc : Array Value → State → Outcome → State → Prop} {XC : String → State → State → Prop}
    {pc : Nat} {own E : String} {ce : Cell} {q : Addr} {mc ms : Nat} (hown : s.vm.findClass own = some m.cls) (hlocks : meth.locks = false)
    (hpass : ∀ z ∈ c.exceptionTable.toList, covers z pc = false ∨ (z.catchType ≠ 0 ∧ ∃ nm : String, (Cond.classLink own z.catchType nm).before args s = true ∧ va_Nc E nm s)) (hcell : H[q]? = some ce) (hv : ce.vm = .none) (hcl : s.vm.findClass E = some ce.cls)
    (hx : ∀ t : State, t.heap = H → s.vm.Alike t.vm → XC E s t) (hf : ∀ z ∈ locs, free z.base) (hc : cells ≤ mc) (hs : slots ≤ ms) :
    vx_W p l e R s m args below meth c H locs cells slots (vx_MQ below Qc XC args s mc ms free) (F0 m pc ls rest) q := by
  intro T hT X
  have hpl : e.platform.magicAccessors = ({} : Platform).magicAccessors := by rw [X.admits.platform]
  obtain ⟨vm', hW', X', st⟩ := X.outThrough hlocks q (g := F0 m pc ls rest) rfl rfl rfl (cell := ce) (by rw [hT]; exact hcell) (by rw [hv]; rfl)
    (by obtain ⟨k9, h9, -⟩ := Vm.findClass_spec hcl; exact ⟨k9, h9⟩) (fun z hz => by
      rcases hpass z hz with h | ⟨hz0, nm, hl1, hn1⟩
      · exact Or.inl h
      · obtain ⟨c6, hc6, hcl6⟩ := Cond.classLink_spec hown hl1 e.platform hpl
        obtain ⟨a8, b8, h1, h2, h3⟩ := hn1
        cases Option.some.inj (h1.symm.trans hcl)
        cases Option.some.inj (h2.symm.trans hc6)
        exact Or.inr ⟨hz0, _, hcl6, h3⟩)
  obtain ⟨g₀, hfr⟩ := X'.frames_eq
  have hcell9 : ((T.setVm vm').setFrames (.throwing q :: below)).heap[q]? = some ce := by
    show T.heap[q]? = some ce
    rw [hT]; exact hcell
  have hend : Ended ((T.setVm vm').setFrames (.throwing q :: below)) below (.threw q) := State.frames_setFrames _ (State.cur_lt_of_frames hfr)
  refine ⟨(T.setVm vm').setFrames (.throwing q :: below), ?_, .threw q, X'.here.running, hend, Or.inr ⟨q, rfl, E, ce, locs, hx _ hT (X'.ends _).1.alike, hcell9, hv, hcl, (X'.ends _).1, (X'.ends _).2.mono hc hs, hf⟩⟩
  rw [X.pushThrowing_eq]
  exact st
/-- a thing of a world lies in the heap -/
theorem vx_lt {D : va_G} {cl : List vw_C} {ws : va_W} {H1 : Heap} (h : va_P D cl ws H1) {k : Nat} {q : Nat × va_E} (hk : ws[k]? = some q) : q.1 < H1.size := (h k q hk).lt
end VXS
/-! ===== END ===== -/
/-! ===== BEGIN methods with a table of their own: called by a name, returning or throwing ===== -/
section VXH
/-! vx_backW, vx_callVX, vx_callSX, vx_callVW, vx_runVW, vx_runVX, vx_runSX, vx_ofWH follow the same proofs as their sisters above (Free/Laws.lean, Shelf42/LK1.lean); vx_outP calls Shelf42/NT130.lean (outThrough). -/
section
variable {l : Launch} {R : Room} {p : Program} {e : Env} {below : List Frame} {s : State} {sargs : Array Value} {y : MethodName} {len W9 : Nat}
theorem vx_backW {ws : List Cond} {rm : Room} {Pc : Array Value → State → Prop} {Qc : Array Value → State → Outcome → State → Prop} {XC : String → State → State → Prop} {mc ms : Nat} {free : Addr → Prop} {bytes : ByteArray} {maxL : Nat} {ret : Option FieldType} {hh : List (Nat × Nat × Nat × Nat)}
    (hM : vx_Met l y ws rm Pc Qc XC mc ms free) (hblind : FrameBlind Pc) (hrc : rm.cells = mc) (hrs : rm.slots = ms)
    (hframes : rm.frames + 1 ≤ R.frames) (hlocals : W9 + (maxL + 11) + rm.locals ≤ R.locals)
    (hws : ∀ w ∈ ws, ∀ a' U, s.WarmedH U.vm → w.before a' U = true) (hcode : Cond.codeWith y bytes maxL ret hh ∈ ws) (hinit : ∀ a' U, s.WarmedH U.vm → (Cond.initialized y.cls).before a' U = true) :
    vx_Back l R p e below s sargs y len W9 (PreOf R mc ms Pc) (PostOf Qc mc ms free) (vx_Post XC mc ms free) := by
  intro m meth c A g ig mk a X hg hsize hdg hW hn hp
  have h1 : (headSpec ws rm).pre.before a A.U = true := atoms_intro fun w hw => hws w hw _ _ X.warmed
  have h2 : (Cond.codeWith y bytes maxL ret hh).before a A.U = true := hws _ hcode _ _ X.warmed
  have h3 : (Cond.initialized y.cls).before a A.U = true := hinit _ _ X.warmed
  have h4 : A.cells + (headSpec ws rm).room.cells ≤ R.cells := by rw [show (headSpec ws rm).room.cells = mc from hrc]; exact hp.1
  have h5 : A.slots + (headSpec ws rm).room.slots ≤ R.slots := by rw [show (headSpec ws rm).room.slots = ms from hrs]; exact hp.2.1
  have hPc : Pc a (A.U.calling g mk a) := hblind _ _ _ _ hp.2.2
  obtain ⟨U, Ls, c0, s0⟩ := A
  dsimp only [Pt.U, Pt.locs, Pt.cells, Pt.slots] at h1 h2 h3 h4 h5 X hn hPc ⊢
  obtain ⟨m9, methY, cY, hn9, hmY, hcY, -, hlY, -⟩ := Cond.codeWith_spec h2
  cases Option.some.inj (hn9.symm.trans hn)
  obtain ⟨kY, hkY, -⟩ := className_of_methodNamed hn
  have hinitY : kY.init = .initialized := Cond.initialized_spec (findClass_of_methodNamed hn) hkY h3
  have h : At U g.method c below := by rw [hg]; exact X.here
  have hlocals9 : W9 + (maxL + 11) + (headSpec ws rm).room.locals ≤ R.locals := hlocals
  have happ : (headSpec ws rm).appliesLoose y e.platform (U.calling g mk a) = true :=
    Spec.appliesLoose_calling (g := g) h hdg hn hkY hinitY
      (X.room_calling (g := g) (R' := (headSpec ws rm).room) hsize hmY hcY hframes (by rw [hlY]; omega) h4 h5) h1
  obtain ⟨mid, hmid⟩ := h.above
  have hfr : (U.setTop g).frames = (.java g :: mid) ++ below := by rw [State.frames_setTop' g h.top, hmid]; rfl
  obtain ⟨o, s₂, hsteps, -, hend, hq⟩ := Steps.callFree hM p X.admits X.cas X.clock (acts := []) hfr happ hPc trivial
  have hq' : vx_Q Qc XC mc ms free a (U.calling g mk a) o s₂ := hq
  rw [State.frames_setTop' g h.top] at hend
  obtain ⟨g₀, hg0⟩ := Option.isSome_iff_exists.mp h.top
  obtain ⟨r, hr⟩ := State.topJava?_eq_some.mp hg0
  have hr' : (({ U with heap := s₂.heap, slotsUsed := s₂.slotsUsed } : State).setVm s₂.vm).frames = .java g₀ :: r := hr
  rcases hq' with ⟨hqc, L, hfe, hL⟩ | ⟨q, rfl, E, ce, L, hx, hce, hcv, hcl, hW₂, hsm, hL⟩
  · obtain ⟨⟨v, rfl⟩, hW₂, e2, q2, q3, q4, q5, q6⟩ := id hfe
    have e3 : s₂ = ({ (U.calling g mk a).setFrames s₂.frames with heap := s₂.heap, slotsUsed := s₂.slotsUsed } : State).setVm s₂.vm := by
      have : s₂ = ({ s₂ with vm := (U.calling g mk a).vm } : State).setVm s₂.vm := rfl
      rw [e2] at this
      exact this
    obtain ⟨c₂, i₂, len₂, hc₂, hd₂, hf₂⟩ := hend
    have hW' : U.WarmedH s₂.vm := hW₂
    have hcc : c₂ = c := by
      have h1 : s₂.code? g.method = U.code? g.method := by
        rw [State.code?_eq, State.code?_eq, hW'.alike.method?]
      exact Option.some.inj (hc₂.symm.trans (h1.trans h.code))
    subst hcc
    have hlen : len₂ = len := by rw [hdg] at hd₂; cases hd₂; rfl
    subst hlen
    have hs₂ : s₂ = (({ U with heap := s₂.heap, slotsUsed := s₂.slotsUsed } : State).setVm s₂.vm).setTop { g with pc := g.pc + len₂, stack := v.toList ++ g.stack } := by
      refine e3.trans ?_
      rw [hf₂, State.calling_eq h.top, State.setFrames_setFrames, State.setTop_of_frames _ hr', hr]
      rfl
    have hsame : U.sameButNew ({ U with heap := s₂.heap, slotsUsed := s₂.slotsUsed } : State) L mc ms := by
      refine ⟨?_, q2, q3, q4, q5, q6⟩
      obtain ⟨t, ht, -⟩ := State.frames_cons hr
      show ({ U with heap := s₂.heap, slotsUsed := s₂.slotsUsed } : State) = { U.setFrames U.frames with heap := s₂.heap, slotsUsed := s₂.slotsUsed }
      rw [State.setFrames_self ht]
    subst hg
    refine Or.inl ⟨v, ⟨(({ U with heap := s₂.heap, slotsUsed := s₂.slotsUsed } : State).setVm s₂.vm), Ls ++ L, c0 + mc, s0 + ms⟩,
      ⟨X.admits, X.cas, X.clock, X.frames, X.room, X.hears, X.method, X.code, (X.here.setHeapUsed s₂.heap s₂.slotsUsed).setVm hW'.alike, X.tail, State.WarmedH.trans X.warmed hW', X.limits, X.bytes, X.same.trans (hsame.setVm s.vm)⟩,
      ⟨g, mk, s₂, L, rfl, rfl, hqc, rfl, hL, rfl, rfl⟩, ?_⟩
    show Steps p.tables e below _ ((({ U with heap := s₂.heap, slotsUsed := s₂.slotsUsed } : State).setVm s₂.vm).setTop { g with pc := g.pc + len₂, stack := v.toList ++ g.stack })
    rw [← hs₂]
    exact hsteps
  · obtain ⟨e2, q2, q3, q4, q5, q6⟩ := id hsm
    have e3 : s₂ = ({ (U.calling g mk a).setFrames s₂.frames with heap := s₂.heap, slotsUsed := s₂.slotsUsed } : State).setVm s₂.vm := by
      have : s₂ = ({ s₂ with vm := (U.calling g mk a).vm } : State).setVm s₂.vm := rfl
      rw [e2] at this
      exact this
    have hf₂ : s₂.frames = .throwing q :: .java g :: U.frames.tail := hend
    have hW' : U.WarmedH s₂.vm := hW₂
    have hs₂ : s₂ = ((({ U with heap := s₂.heap, slotsUsed := s₂.slotsUsed } : State).setVm s₂.vm).setTop g).pushFrame (.throwing q) := by
      refine e3.trans ?_
      rw [hf₂, State.calling_eq h.top, State.setFrames_setFrames, State.pushFrame, State.frames_setTop _ hr', State.setTop_of_frames _ hr', State.setFrames_setFrames, hr]
      rfl
    have hsame : U.sameButNew ({ U with heap := s₂.heap, slotsUsed := s₂.slotsUsed } : State) L mc ms := by
      refine ⟨?_, q2, q3, q4, q5, q6⟩
      obtain ⟨t, ht, -⟩ := State.frames_cons hr
      show ({ U with heap := s₂.heap, slotsUsed := s₂.slotsUsed } : State) = { U.setFrames U.frames with heap := s₂.heap, slotsUsed := s₂.slotsUsed }
      rw [State.setFrames_self ht]
    subst hg
    refine Or.inr ⟨q, ⟨(({ U with heap := s₂.heap, slotsUsed := s₂.slotsUsed } : State).setVm s₂.vm), Ls ++ L, c0 + mc, s0 + ms⟩,
      ⟨X.admits, X.cas, X.clock, X.frames, X.room, X.hears, X.method, X.code, (X.here.setHeapUsed s₂.heap s₂.slotsUsed).setVm hW'.alike, X.tail, State.WarmedH.trans X.warmed hW', X.limits, X.bytes, X.same.trans (hsame.setVm s.vm)⟩,
      ⟨g, mk, s₂, L, E, ce, rfl, rfl, hx, hce, hcv, hcl, rfl, hL, rfl, rfl⟩, ?_⟩
    show Steps p.tables e below _ (((({ U with heap := s₂.heap, slotsUsed := s₂.slotsUsed } : State).setVm s₂.vm).setTop g).pushFrame (.throwing q))
    rw [← hs₂]
    exact hsteps
end
variable {p : Program} {l : Launch} {e : Env} {R : Room} {s : State} {m : MethodId} {args : Array Value} {below : List Frame} {meth : Method} {c : Code} {T : State} {H : Heap} {locs : List Loc} {cells slots : Nat}
theorem vx_callVX (X : Stand p l e R s m args below meth c T locs cells slots) (hexec : p.tables.exec = Jvm.exec) {own C : String} {index : Nat} {y : MethodName} {bytes : ByteArray} {maxL : Nat} {ret : Option FieldType} {hh : List (Nat × Nat × Nat × Nat)}
    (hown : s.vm.findClass own = some m.cls) (hlink : (Cond.methodLink own index y).before args s = true) (hinst : (Cond.instanceMethod y).before args s = true) (hsel : (Cond.selects C y y).before args s = true)
    (hcode : (Cond.codeWith y bytes maxL ret hh).before args s = true) (hy : y.cls ≠ "java/lang/invoke/MethodHandle" ∧ y.cls ≠ "java/lang/invoke/VarHandle")
    {W9 : Nat} {Pre : Pt → Array Value → Prop} {Post : Pt → Array Value → Option Value → Pt → Prop} {PostX : Pt → Array Value → Addr → Pt → Prop} (hK : vx_Back l R p e below s args y 3 W9 Pre Post PostX)
    {b : Addr} {cellB : Cell} (hcell : T.heap[b]? = some cellB) (hobj : cellB.vm.isStatics = false) (hcls : s.vm.findClass C = some cellB.cls)
    {g : JFrame} (hg : g.method = m) (hsize : g.locals.size = c.maxLocals) {argsL rest : List Value} (hlen : ∀ sig, parseMethodDescriptor y.desc = some sig → argsL.length = sig.parameters.length)
    (hstack : g.stack = argsL.reverse ++ .ref b :: rest) (hW : 2 * g.monitorRoom + (rest.map fun v => v.category).sum ≤ W9) (hdg : decode c.code g.pc = .ok (.invokevirtual index, 3))
    (hpre : ∀ vm₁, s.WarmedH vm₁ → Pre ⟨T.setVm vm₁, locs, cells, slots⟩ (Value.ref b :: argsL).toArray) :
    (∃ (v : Option Value) (vm₁ : Vm) (B : Pt), s.WarmedH vm₁ ∧ Stand p l e R s m args below meth c B.U B.locs B.cells B.slots ∧ Post ⟨T.setVm vm₁, locs, cells, slots⟩ (Value.ref b :: argsL).toArray v B ∧
      ∀ target, Steps p.tables e below (B.U.setTop { g with pc := g.pc + 3, stack := v.toList ++ rest }) target → Steps p.tables e below (T.setTop g) target) ∨
    (∃ (q : Addr) (vm₁ : Vm) (B : Pt), s.WarmedH vm₁ ∧ Stand p l e R s m args below meth c B.U B.locs B.cells B.slots ∧ PostX ⟨T.setVm vm₁, locs, cells, slots⟩ (Value.ref b :: argsL).toArray q B ∧
      Steps p.tables e below (T.setTop g) ((B.U.setTop { g with stack := rest }).pushFrame (.throwing q))) := by
  obtain ⟨mk, methM, hnamed, hmethM, hstM, habM⟩ := Cond.instanceMethod_spec hinst
  obtain ⟨m8, methM', cM, hn8, hmethM', -, -, -, -, -, -, hsigM⟩ := Cond.codeWith_spec hcode
  cases Option.some.inj (hn8.symm.trans hnamed)
  cases hmethM.symm.trans hmethM'
  obtain ⟨c2, r2, m2, q1, q2, q3, q4, kP, hkP, hkPi⟩ := Cond.selects_spec hsel
  cases hcls.symm.trans q1
  cases (State.methodFound?_of_named hnamed hy).symm.trans q2
  cases hnamed.symm.trans q3
  have hselP : selectMethod e.platform s.vm cellB.cls mk = .method mk := by rw [Launch.admits_selectMethod X.admits]; exact q4
  obtain ⟨vm₁, X₁, hstep₁⟩ := X.invokevirtual hexec hown hlink hnamed hmethM hstM hkP hkPi hy (a := b) (cell := cellB) hcell
    (fun z h => by rw [h] at hobj; cases hobj) hselP hmethM habM hkP hkPi (g := g) hg (argsL := argsL) (rest := rest) (hlen _ hsigM) hstack hdg
  rcases hK m meth c ⟨T.setVm vm₁, locs, cells, slots⟩ { g with stack := rest } (.invokevirtual index) mk (Value.ref b :: argsL).toArray X₁ hg hsize hdg hW (X₁.named hnamed) (hpre vm₁ X₁.warmed) with ⟨v, B, X', hpost, hsteps⟩ | ⟨q, B, X', hpost, hsteps⟩
  · exact Or.inl ⟨v, vm₁, B, X₁.warmed, X', hpost, fun target h => hstep₁ _ fun acts => by rw [doInvoke_state]; exact hsteps.trans h⟩
  · exact Or.inr ⟨q, vm₁, B, X₁.warmed, X', hpost, hstep₁ _ fun acts => by rw [doInvoke_state]; exact hsteps⟩
theorem vx_callSX (X : Stand p l e R s m args below meth c T locs cells slots) (hexec : p.tables.exec = Jvm.exec) {own : String} {index : Nat} {y : MethodName} {bytes : ByteArray} {maxL : Nat} {ret : Option FieldType} {hh : List (Nat × Nat × Nat × Nat)}
    (hown : s.vm.findClass own = some m.cls) (hlink : (Cond.methodLink own index y).before args s = true) (hstat : (Cond.static y).before args s = true) (hinit : (Cond.initialized y.cls).before args s = true)
    (hcode : (Cond.codeWith y bytes maxL ret hh).before args s = true) (hy : y.cls ≠ "java/lang/invoke/MethodHandle" ∧ y.cls ≠ "java/lang/invoke/VarHandle")
    {W9 : Nat} {Pre : Pt → Array Value → Prop} {Post : Pt → Array Value → Option Value → Pt → Prop} {PostX : Pt → Array Value → Addr → Pt → Prop} (hK : vx_Back l R p e below s args y 3 W9 Pre Post PostX)
    {g : JFrame} (hg : g.method = m) (hsize : g.locals.size = c.maxLocals) {argsL rest : List Value} (hlen : ∀ sig, parseMethodDescriptor y.desc = some sig → argsL.length = sig.parameters.length)
    (hstack : g.stack = argsL.reverse ++ rest) (hW : 2 * g.monitorRoom + (rest.map fun v => v.category).sum ≤ W9) (hdg : decode c.code g.pc = .ok (.invokestatic index, 3))
    (hpre : ∀ vm₁, s.WarmedH vm₁ → Pre ⟨T.setVm vm₁, locs, cells, slots⟩ argsL.toArray) :
    (∃ (v : Option Value) (vm₁ : Vm) (B : Pt), s.WarmedH vm₁ ∧ Stand p l e R s m args below meth c B.U B.locs B.cells B.slots ∧ Post ⟨T.setVm vm₁, locs, cells, slots⟩ argsL.toArray v B ∧
      ∀ target, Steps p.tables e below (B.U.setTop { g with pc := g.pc + 3, stack := v.toList ++ rest }) target → Steps p.tables e below (T.setTop g) target) ∨
    (∃ (q : Addr) (vm₁ : Vm) (B : Pt), s.WarmedH vm₁ ∧ Stand p l e R s m args below meth c B.U B.locs B.cells B.slots ∧ PostX ⟨T.setVm vm₁, locs, cells, slots⟩ argsL.toArray q B ∧
      Steps p.tables e below (T.setTop g) ((B.U.setTop { g with stack := rest }).pushFrame (.throwing q))) := by
  obtain ⟨mk, methM, cM, hnamed, hmethM, -, -, -, -, -, -, hsigM⟩ := Cond.codeWith_spec hcode
  have hstatic : methM.isStatic = true := Cond.static_spec hnamed hmethM hstat
  obtain ⟨kP, hkP, -⟩ := className_of_methodNamed hnamed
  have hinitP : kP.init = .initialized := Cond.initialized_spec (findClass_of_methodNamed hnamed) hkP hinit
  obtain ⟨vm₁, X₁, hstep₁⟩ := X.invokestatic hexec hown hlink hnamed hmethM hstatic hkP hinitP hy (g := g) hg (argsL := argsL) (rest := rest) (hlen _ hsigM) hstack hdg
  rcases hK m meth c ⟨T.setVm vm₁, locs, cells, slots⟩ { g with stack := rest } (.invokestatic index) mk argsL.toArray X₁ hg hsize hdg hW (X₁.named hnamed) (hpre vm₁ X₁.warmed) with ⟨v, B, X', hpost, hsteps⟩ | ⟨q, B, X', hpost, hsteps⟩
  · exact Or.inl ⟨v, vm₁, B, X₁.warmed, X', hpost, fun target h => hstep₁ _ fun acts => by rw [doInvoke_state]; exact hsteps.trans h⟩
  · exact Or.inr ⟨q, vm₁, B, X₁.warmed, X', hpost, hstep₁ _ fun acts => by rw [doInvoke_state]; exact hsteps⟩
theorem vx_callVW (X : Stand p l e R s m args below meth c T locs cells slots) (hexec : p.tables.exec = Jvm.exec) {own C : String} {index : Nat} {y : MethodName} {bytes : ByteArray} {maxL : Nat} {ret : Option FieldType} {hh : List (Nat × Nat × Nat × Nat)}
    (hown : s.vm.findClass own = some m.cls) (hlink : (Cond.methodLink own index y).before args s = true) (hinst : (Cond.instanceMethod y).before args s = true) (hsel : (Cond.selects C y y).before args s = true)
    (hcode : (Cond.codeWith y bytes maxL ret hh).before args s = true) (hy : y.cls ≠ "java/lang/invoke/MethodHandle" ∧ y.cls ≠ "java/lang/invoke/VarHandle")
    {W9 : Nat} {Pre : Pt → Array Value → Prop} {Post : Pt → Array Value → Option Value → Pt → Prop} (hK : Back l R p e below s args y 3 W9 Pre Post)
    {b : Addr} {cellB : Cell} (hcell : T.heap[b]? = some cellB) (hobj : cellB.vm.isStatics = false) (hcls : s.vm.findClass C = some cellB.cls)
    {g : JFrame} (hg : g.method = m) (hsize : g.locals.size = c.maxLocals) {argsL rest : List Value} (hlen : ∀ sig, parseMethodDescriptor y.desc = some sig → argsL.length = sig.parameters.length)
    (hstack : g.stack = argsL.reverse ++ .ref b :: rest) (hW : 2 * g.monitorRoom + (rest.map fun v => v.category).sum ≤ W9) (hdg : decode c.code g.pc = .ok (.invokevirtual index, 3))
    (hpre : ∀ vm₁, s.WarmedH vm₁ → Pre ⟨T.setVm vm₁, locs, cells, slots⟩ (Value.ref b :: argsL).toArray) :
    ∃ (v : Option Value) (vm₁ : Vm) (B : Pt), s.WarmedH vm₁ ∧ Stand p l e R s m args below meth c B.U B.locs B.cells B.slots ∧ Post ⟨T.setVm vm₁, locs, cells, slots⟩ (Value.ref b :: argsL).toArray v B ∧
      ∀ target, Steps p.tables e below (B.U.setTop { g with pc := g.pc + 3, stack := v.toList ++ rest }) target → Steps p.tables e below (T.setTop g) target := by
  obtain ⟨mk, methM, hnamed, hmethM, hstM, habM⟩ := Cond.instanceMethod_spec hinst
  obtain ⟨m8, methM', cM, hn8, hmethM', -, -, -, -, -, -, hsigM⟩ := Cond.codeWith_spec hcode
  cases Option.some.inj (hn8.symm.trans hnamed)
  cases hmethM.symm.trans hmethM'
  obtain ⟨c2, r2, m2, q1, q2, q3, q4, kP, hkP, hkPi⟩ := Cond.selects_spec hsel
  cases hcls.symm.trans q1
  cases (State.methodFound?_of_named hnamed hy).symm.trans q2
  cases hnamed.symm.trans q3
  have hselP : selectMethod e.platform s.vm cellB.cls mk = .method mk := by rw [Launch.admits_selectMethod X.admits]; exact q4
  obtain ⟨vm₁, X₁, hstep₁⟩ := X.invokevirtual hexec hown hlink hnamed hmethM hstM hkP hkPi hy (a := b) (cell := cellB) hcell
    (fun z h => by rw [h] at hobj; cases hobj) hselP hmethM habM hkP hkPi (g := g) hg (argsL := argsL) (rest := rest) (hlen _ hsigM) hstack hdg
  obtain ⟨v, B, X', hpost, hsteps⟩ := hK m meth c ⟨T.setVm vm₁, locs, cells, slots⟩ { g with stack := rest } (.invokevirtual index) mk (Value.ref b :: argsL).toArray X₁ hg hsize hdg hW (X₁.named hnamed) (hpre vm₁ X₁.warmed)
  exact ⟨v, vm₁, B, X₁.warmed, X', hpost, fun target h => hstep₁ _ fun acts => by rw [doInvoke_state]; exact hsteps.trans h⟩
abbrev vx_CVW (R : Room) (s : State) (args : Array Value) (own C : String) (index : Nat) (y : MethodName) (bytes : ByteArray) (maxL : Nat) (ret : Option FieldType) (hh : List (Nat × Nat × Nat × Nat)) (ws : List Cond) (rm : Room) (mc ms n : Nat) : Prop :=
  (rm.cells = mc ∧ rm.slots = ms ∧ rm.frames + 1 ≤ R.frames ∧ 8 + (maxL + 11) + rm.locals ≤ R.locals ∧ (∀ w ∈ ws, ∀ (a' : Array Value) (U : State), s.WarmedH U.vm → w.before a' U = true) ∧ Cond.codeWith y bytes maxL ret hh ∈ ws) ∧
  (Cond.codeWith y bytes maxL ret hh).before args s = true ∧ (Cond.initialized y.cls).before args s = true ∧ (y.cls ≠ "java/lang/invoke/MethodHandle" ∧ y.cls ≠ "java/lang/invoke/VarHandle") ∧
  (∀ sig, parseMethodDescriptor y.desc = some sig → n = sig.parameters.length) ∧ (Cond.methodLink own index y).before args s = true ∧ (Cond.instanceMethod y).before args s = true ∧ (Cond.selects C y y).before args s = true
theorem vx_cwVW {own C : String} {index maxL mc ms : Nat} {y : MethodName} {bytes : ByteArray} {ret : Option FieldType} {hh : List (Nat × Nat × Nat × Nat)} {Ts ws ws' : List Cond} {rm : Room} (n : Nat) (ht : ∀ w ∈ Ts, w.before args s = true) (hT : GoodIn Ts (wsV own index C y ws)) (hw : ws = Cond.codeWith y bytes maxL ret hh :: ws') (hrc : rm.cells = mc) (hrs : rm.slots = ms)
    (hd : y.cls = C ∧ y.cls ≠ "java/lang/invoke/MethodHandle" ∧ y.cls ≠ "java/lang/invoke/VarHandle" ∧ (parseMethodDescriptor y.desc).map (fun d => d.parameters.length) = some n) (hR : rm.frames + 1 ≤ R.frames ∧ 8 + (maxL + 11) + rm.locals ≤ R.locals) :
    vx_CVW R s args own C index y bytes maxL ret hh ws rm mc ms n := by
  obtain ⟨hC, hd⟩ := hd
  subst hC
  have ok : ∀ w ∈ wsV own index y.cls y ws, w.before args s = true := fun w h => ht w (hT w h).1
  have hG : GoodIn Ts ws := fun w h => hT w (by unfold wsV; exact List.mem_append_right _ h)
  have hc : Cond.codeWith y bytes maxL ret hh ∈ ws := by rw [hw]; exact List.mem_cons_self
  refine ⟨⟨hrc, hrs, hR.1, hR.2, pay_in ht hG, hc⟩, ht _ (hG _ hc).1, ok _ (by simp [wsV]), ⟨hd.1, hd.2.1⟩, fun sig h => ?_, ok _ (by simp [wsV]), ok _ (by simp [wsV]), ok _ (by simp [wsV])⟩
  have h2 := hd.2.2
  rw [h] at h2
  exact (Option.some.inj h2).symm
theorem vx_runVW {y : MethodName} {bytes cc : ByteArray} {maxL nL mc ms n index : Nat} {ret : Option FieldType} {hh : List (Nat × Nat × Nat × Nat)} {ws : List Cond} {rm : Room} {Pc : Array Value → State → Prop} {Qc : Array Value → State → Outcome → State → Prop} {free : Addr → Prop} {Ts : List Cond} {own C : String} {b : Addr} {As rest : List Value} {g : JFrame}
    (S : CallFix p m c cc nL s args Ts own) (hM : Met l y ws rm Pc Qc mc ms free) (cw : vx_CVW R s args own C index y bytes maxL ret hh ws rm mc ms n) (hp : PreV s H C b Pc As)
    (hg : g.method = m) (hn : As.length = n) (hsize : g.locals.size = nL) (hstack : g.stack = As.reverse ++ .ref b :: rest) (hW : 2 * g.monitorRoom + (rest.map fun v => v.category).sum ≤ 8) (hdg : decode cc g.pc = .ok (.invokevirtual index, 3)) (hf : cells + mc ≤ R.cells ∧ slots + ms ≤ R.slots) :
    va_Run p l e R s m args below meth c H locs cells slots mc ms g rest (Qc (Value.ref b :: As).toArray) free := by
  obtain ⟨⟨hrc, hrs, hfr, hlo, hws, hcw⟩, hcode, hini, hy, hlen, hl, hin, hse⟩ := cw
  have hK : Back l R p e below s args y 3 8 (PreOf R mc ms Pc) (PostOf Qc mc ms free) := va_backW (hh := hh) (bytes := bytes) (maxL := maxL) (ret := ret) hM hp.1 hrc hrs hfr hlo hws hcw (fun a' U hW => word_at hW (Or.inl (by first | rfl | simp [Cond.onTables, Cond.keeps, Cond.steady])) hini)
  obtain ⟨hx, hb, hml, ho, -⟩ := S
  obtain ⟨-, ⟨cellB, hcB, hoB, hclB⟩, hPc⟩ := hp
  intro T hT X
  obtain ⟨v, vm₁, ⟨U', l2, c2, s2⟩, hW₁, X', ⟨g', mk, t, L, e1, e2, hq, h1, hL, h2, h3⟩, st⟩ := vx_callVW X hx (C := C) (hh := hh) (bytes := bytes) (maxL := maxL) (ret := ret) ho hl hin hse hcode hy hK (by rw [hT]; exact hcB) hoB hclB hg (hsize.trans hml.symm) (argsL := As) (rest := rest) (fun sig h => hn.trans (hlen sig h)) hstack hW (by rw [hb]; exact hdg)
    (fun vm₁ hW₁ => ⟨hf.1, hf.2, hPc (T.setVm vm₁) hT hW₁⟩)
  dsimp only [Pt.U, Pt.locs, Pt.cells, Pt.slots] at X' e1 e2 h1 h2 h3 st
  subst h1; subst h2; subst h3
  exact ⟨v, (T.setVm vm₁).calling g' mk (Value.ref b :: As).toArray, t, U', L, hT, X', hL, e1, e2, hq, st⟩
section
variable {y : MethodName} {bytes cc : ByteArray} {maxL nL mc ms n index : Nat} {ret : Option FieldType} {ws : List Cond} {rm : Room} {Pc : Array Value → State → Prop} {Qc : Array Value → State → Outcome → State → Prop} {XC : String → State → State → Prop} {free : Addr → Prop} {Ts : List Cond} {own C : String} {b : Addr} {As rest : List Value} {g : JFrame}
theorem vx_runVX {hh : List (Nat × Nat × Nat × Nat)} (S : CallFix p m c cc nL s args Ts own) (hM : vx_Met l y ws rm Pc Qc XC mc ms free) (cw : vx_CVW R s args own C index y bytes maxL ret hh ws rm mc ms n) (hp : PreV s H C b Pc As)
    (hg : g.method = m) (hn : As.length = n) (hsize : g.locals.size = nL) (hstack : g.stack = As.reverse ++ .ref b :: rest) (hW : 2 * g.monitorRoom + (rest.map fun v => v.category).sum ≤ 8) (hdg : decode cc g.pc = .ok (.invokevirtual index, 3)) (hf : cells + mc ≤ R.cells ∧ slots + ms ≤ R.slots) :
    vx_Run p l e R s m args below meth c H locs cells slots mc ms g rest (Qc (Value.ref b :: As).toArray) XC free := by
  obtain ⟨⟨hrc, hrs, hfr, hlo, hws, hcw⟩, hcode, hini, hy, hlen, hl, hin, hse⟩ := cw
  have hK : vx_Back l R p e below s args y 3 8 (PreOf R mc ms Pc) (PostOf Qc mc ms free) (vx_Post XC mc ms free) := vx_backW (hh := hh) (bytes := bytes) (maxL := maxL) (ret := ret) hM hp.1 hrc hrs hfr hlo hws hcw (fun a' U hW => word_at hW (Or.inl (by first | rfl | simp [Cond.onTables, Cond.keeps, Cond.steady])) hini)
  obtain ⟨hx, hb, hml, ho, -⟩ := S
  obtain ⟨-, ⟨cellB, hcB, hoB, hclB⟩, hPc⟩ := hp
  intro T hT X
  rcases vx_callVX X hx (C := C) (hh := hh) (bytes := bytes) (maxL := maxL) (ret := ret) ho hl hin hse hcode hy hK (by rw [hT]; exact hcB) hoB hclB hg (hsize.trans hml.symm) (argsL := As) (rest := rest) (fun sig h => hn.trans (hlen sig h)) hstack hW (by rw [hb]; exact hdg)
    (fun vm₁ hW₁ => ⟨hf.1, hf.2, hPc (T.setVm vm₁) hT hW₁⟩) with ⟨v, vm₁, ⟨U', l2, c2, s2⟩, hW₁, X', ⟨g', mk, t, L, e1, e2, hq, h1, hL, h2, h3⟩, st⟩ | ⟨q, vm₁, ⟨U', l2, c2, s2⟩, hW₁, X', ⟨g', mk, t, L, E, ce, e1, e2, hq, hce, hcv, hcl, h1, hL, h2, h3⟩, st⟩
  · dsimp only [Pt.U, Pt.locs, Pt.cells, Pt.slots] at X' e1 e2 h1 h2 h3 st
    subst h1; subst h2; subst h3
    exact Or.inl ⟨v, (T.setVm vm₁).calling g' mk (Value.ref b :: As).toArray, t, U', L, hT, X', hL, e1, e2, hq, st⟩
  · dsimp only [Pt.U, Pt.locs, Pt.cells, Pt.slots] at X' e1 e2 h1 h2 h3 st hcl
    subst h1; subst h2; subst h3
    exact Or.inr ⟨q, (T.setVm vm₁).calling g' mk (Value.ref b :: As).toArray, t, U', L, E, ce, hT, X', hL, e1, e2, hq, hce, hcv, vx_cls hW₁ hcl, st⟩
theorem vx_runSX {hh : List (Nat × Nat × Nat × Nat)} (S : CallFix p m c cc nL s args Ts own) (hM : vx_Met l y ws rm Pc Qc XC mc ms free) (cw : vx_CSW R s args own index y bytes maxL ret hh ws rm mc ms n) (hp : PreS s H Pc As)
    (hg : g.method = m) (hn : As.length = n) (hsize : g.locals.size = nL) (hstack : g.stack = As.reverse ++ rest) (hW : 2 * g.monitorRoom + (rest.map fun v => v.category).sum ≤ 8) (hdg : decode cc g.pc = .ok (.invokestatic index, 3)) (hf : cells + mc ≤ R.cells ∧ slots + ms ≤ R.slots) :
    vx_Run p l e R s m args below meth c H locs cells slots mc ms g rest (Qc As.toArray) XC free := by
  obtain ⟨⟨hrc, hrs, hfr, hlo, hws, hcw⟩, hcode, hini, hy, hlen, hl, hstt⟩ := cw
  have hK : vx_Back l R p e below s args y 3 8 (PreOf R mc ms Pc) (PostOf Qc mc ms free) (vx_Post XC mc ms free) := vx_backW (hh := hh) (bytes := bytes) (maxL := maxL) (ret := ret) hM hp.1 hrc hrs hfr hlo hws hcw (fun a' U hW => word_at hW (Or.inl (by first | rfl | simp [Cond.onTables, Cond.keeps, Cond.steady])) hini)
  obtain ⟨hx, hb, hml, ho, -⟩ := S
  intro T hT X
  rcases vx_callSX X hx (hh := hh) (bytes := bytes) (maxL := maxL) (ret := ret) ho hl hstt hini hcode hy hK hg (hsize.trans hml.symm) (argsL := As) (rest := rest) (fun sig h => hn.trans (hlen sig h)) hstack hW (by rw [hb]; exact hdg)
    (fun vm₁ hW₁ => ⟨hf.1, hf.2, hp.2 (T.setVm vm₁) hT hW₁⟩) with ⟨v, vm₁, ⟨U', l2, c2, s2⟩, hW₁, X', ⟨g', mk, t, L, e1, e2, hq, h1, hL, h2, h3⟩, st⟩ | ⟨q, vm₁, ⟨U', l2, c2, s2⟩, hW₁, X', ⟨g', mk, t, L, E, ce, e1, e2, hq, hce, hcv, hcl, h1, hL, h2, h3⟩, st⟩
  · dsimp only [Pt.U, Pt.locs, Pt.cells, Pt.slots] at X' e1 e2 h1 h2 h3 st
    subst h1; subst h2; subst h3
    exact Or.inl ⟨v, (T.setVm vm₁).calling g' mk As.toArray, t, U', L, hT, X', hL, e1, e2, hq, st⟩
  · dsimp only [Pt.U, Pt.locs, Pt.cells, Pt.slots] at X' e1 e2 h1 h2 h3 st hcl
    subst h1; subst h2; subst h3
    exact Or.inr ⟨q, (T.setVm vm₁).calling g' mk As.toArray, t, U', L, E, ce, hT, X', hL, e1, e2, hq, hce, hcv, vx_cls hW₁ hcl, st⟩
end
end VXH
theorem vx_ofWH {l : Launch} {y : MethodName} {ws ws' : List Cond} {rm : Room} {Pc : Array Value → State → Prop} {Qc : Array Value → State → Outcome → State → Prop} {XC : String → State → State → Prop} {mc ms : Nat} {free : Addr → Prop} {cc : ByteArray} {maxL : Nat} {ret : Option FieldType} {hh : List (Nat × Nat × Nat × Nat)}
    (hy : plainName y.cls = true) (hw : ws = Cond.codeWith y cc maxL ret hh :: ws')
    (body : ∀ p e s m args below meth c s₁, BodyLoose p l y (headSpec ws rm) cc maxL ret e s m args below meth c s₁ → c.maxLocals = maxL → Pc args s →
      W p l e (headSpec ws rm).room s m args below meth c s.heap [] 0 0 (vx_MQ below Qc XC args s mc ms free) (entryFrame m args maxL)) : vx_Met l y ws rm Pc Qc XC mc ms free := by
  refine MetFree.of_bodyS (code := cc) (maxLocals := maxL) (ret := ret) hy ?_ ?_
  · intro args s m h hn
    obtain ⟨m9, meth, c, hn9, h1, h2, h3, h4, -, h5, h6, -⟩ := Cond.codeWith_spec (atoms_spec (ws := ws) h _ (by rw [hw]; exact List.mem_cons_self))
    cases hn.symm.trans hn9
    exact ⟨meth, c, h1, h2, h3, h4, h5, h6⟩
  · intro p e s m args below meth c s₁ B hml hP _
    have hh0 : s₁.heap = s.heap := by rw [B.state]; rfl
    obtain ⟨t, a1, o, b1, b2, b3⟩ := body p e s m args below meth c s₁ B hml hP s₁ hh0 (Stand.of_body B)
    exact ⟨t, o, a1, b1, b2, b3⟩
/-! ===== END ===== -/
end
section
def RX0 : String := "FretSchool$Hand"
def TX0 : u_T := fun k => match k with
  | 0 => ("FretSchool$Hand", "reach", "[I", true)
  | 1 => ("FretSchool$Hand", "rest", "[[I", true)
  | 2 => ("FretSchool$Hand", "row", "[I", true)
  | 3 => ("FretSchool$Hand", "sum", "I", false)
  | _ => ("FretSchool$Hand", "greatest", "I", false)
def tyX0 : Nat → FieldType := fun k => match k with
  | 0 => .array .int
  | 1 => .array (.array .int)
  | 2 => .array .int
  | 3 => .int
  | _ => .int
abbrev wsX00 : List Cond := u_ws RX0 TX0 5
theorem nmX0 : ∀ a, a < 5 → ∀ b, b < 5 → a ≠ b → (TX0 a).2.1 ≠ (TX0 b).2.1 := by decide +kernel
theorem tyX0_ok : ∀ k, k < 5 → parseFieldDescriptor (TX0 k).2.2.1 = some (tyX0 k) := by decide +kernel
abbrev cX0_init : ByteArray := prog_2_method_1_code
def yX0_init : MethodName := ⟨RX0, "<init>", "()V"⟩
abbrev cX0_placeBest : ByteArray := prog_2_method_2_code
def yX0_placeBest : MethodName := ⟨RX0, "placeBest", "(LFretSchool$Piece;LFretSchool$Instrument;)Z"⟩
abbrev cX0_leastByAll : ByteArray := prog_2_method_3_code
def yX0_leastByAll : MethodName := ⟨RX0, "leastByAll", "(LFretSchool$Piece;LFretSchool$Instrument;)I"⟩
abbrev cX0_feelReach : ByteArray := prog_2_method_4_code
def yX0_feelReach : MethodName := ⟨RX0, "feelReach", "(LFretSchool$Piece;LFretSchool$Instrument;)V"⟩
abbrev cX0_measureRest : ByteArray := prog_2_method_5_code
def yX0_measureRest : MethodName := ⟨RX0, "measureRest", "(IZ)V"⟩
abbrev cX0_chooseRow : ByteArray := prog_2_method_6_code
def yX0_chooseRow : MethodName := ⟨RX0, "chooseRow", "(I)Z"⟩
abbrev cX0_nearest : ByteArray := prog_2_method_7_code
def yX0_nearest : MethodName := ⟨RX0, "nearest", "(II)I"⟩
abbrev cX0_leastFrom : ByteArray := prog_2_method_8_code
def yX0_leastFrom : MethodName := ⟨RX0, "leastFrom", "([IIII)I"⟩
abbrev cX0_canReach : ByteArray := prog_2_method_9_code
def yX0_canReach : MethodName := ⟨RX0, "canReach", "(II)Z"⟩
abbrev cX0_shift : ByteArray := prog_2_method_10_code
def yX0_shift : MethodName := ⟨RX0, "shift", "(II)I"⟩
def RX1 : String := "FretSchool$Instrument"
def TX1 : u_T := fun k => match k with
  | 0 => ("FretSchool$Instrument", "open", "[I", true)
  | 1 => ("FretSchool$Instrument", "keeper", "I", false)
  | _ => ("FretSchool$Instrument", "fretCount", "I", false)
def tyX1 : Nat → FieldType := fun k => match k with
  | 0 => .array .int
  | 1 => .int
  | _ => .int
abbrev wsX10 : List Cond := u_ws RX1 TX1 3
theorem nmX1 : ∀ a, a < 3 → ∀ b, b < 3 → a ≠ b → (TX1 a).2.1 ≠ (TX1 b).2.1 := by decide +kernel
theorem tyX1_ok : ∀ k, k < 3 → parseFieldDescriptor (TX1 k).2.2.1 = some (tyX1 k) := by decide +kernel
abbrev cX1_init : ByteArray := prog_3_method_1_code
def yX1_init : MethodName := ⟨RX1, "<init>", "()V"⟩
abbrev cX1_build : ByteArray := prog_3_method_2_code
def yX1_build : MethodName := ⟨RX1, "build", "(II)V"⟩
abbrev cX1_tuneAll : ByteArray := prog_3_method_3_code
def yX1_tuneAll : MethodName := ⟨RX1, "tuneAll", "(IIII)V"⟩
abbrev cX1_highestPosition : ByteArray := prog_3_method_4_code
def yX1_highestPosition : MethodName := ⟨RX1, "highestPosition", "()I"⟩
abbrev cX1_lowestString : ByteArray := prog_3_method_5_code
def yX1_lowestString : MethodName := ⟨RX1, "lowestString", "(II)I"⟩
def RX2 : String := "FretSchool$Order"
def TX2 : u_T := fun k => match k with
  | 0 => ("FretSchool$Order", "buyer", "I", false)
  | 1 => ("FretSchool$Order", "fretCount", "I", false)
  | 2 => ("FretSchool$Order", "readyDay", "I", false)
  | _ => ("FretSchool$Order", "isFetched", "Z", false)
def tyX2 : Nat → FieldType := fun k => match k with
  | 0 => .int
  | 1 => .int
  | 2 => .int
  | _ => .boolean
abbrev wsX20 : List Cond := u_ws RX2 TX2 4
theorem nmX2 : ∀ a, a < 4 → ∀ b, b < 4 → a ≠ b → (TX2 a).2.1 ≠ (TX2 b).2.1 := by decide +kernel
theorem tyX2_ok : ∀ k, k < 4 → parseFieldDescriptor (TX2 k).2.2.1 = some (tyX2 k) := by decide +kernel
abbrev cX2_init : ByteArray := prog_4_method_1_code
def yX2_init : MethodName := ⟨RX2, "<init>", "()V"⟩
abbrev cX2_place : ByteArray := prog_4_method_2_code
def yX2_place : MethodName := ⟨RX2, "place", "(III)V"⟩
abbrev cX2_isReady : ByteArray := prog_4_method_3_code
def yX2_isReady : MethodName := ⟨RX2, "isReady", "(I)Z"⟩
def RX3 : String := "FretSchool$Piece"
def TX3 : u_T := fun k => match k with
  | 0 => ("FretSchool$Piece", "pitches", "[I", true)
  | _ => ("FretSchool$Piece", "count", "I", false)
def tyX3 : Nat → FieldType := fun k => match k with
  | 0 => .array .int
  | _ => .int
abbrev wsX30 : List Cond := u_ws RX3 TX3 2
theorem nmX3 : ∀ a, a < 2 → ∀ b, b < 2 → a ≠ b → (TX3 a).2.1 ≠ (TX3 b).2.1 := by decide +kernel
theorem tyX3_ok : ∀ k, k < 2 → parseFieldDescriptor (TX3 k).2.2.1 = some (tyX3 k) := by decide +kernel
abbrev cX3_init : ByteArray := prog_5_method_1_code
def yX3_init : MethodName := ⟨RX3, "<init>", "()V"⟩
abbrev cX3_isFull : ByteArray := prog_5_method_2_code
def yX3_isFull : MethodName := ⟨RX3, "isFull", "()Z"⟩
abbrev cX3_append : ByteArray := prog_5_method_3_code
def yX3_append : MethodName := ⟨RX3, "append", "(I)V"⟩
abbrev cX3_canMove : ByteArray := prog_5_method_4_code
def yX3_canMove : MethodName := ⟨RX3, "canMove", "(I)Z"⟩
abbrev cX3_move : ByteArray := prog_5_method_5_code
def yX3_move : MethodName := ⟨RX3, "move", "(I)V"⟩
def RX4 : String := "FretSchool$Pupil"
def TX4 : u_T := fun k => match k with
  | 0 => ("FretSchool$Pupil", "grade", "I", false)
  | _ => ("FretSchool$Pupil", "repertoire", "I", false)
def tyX4 : Nat → FieldType := fun k => match k with
  | 0 => .int
  | _ => .int
abbrev wsX40 : List Cond := u_ws RX4 TX4 2
theorem nmX4 : ∀ a, a < 2 → ∀ b, b < 2 → a ≠ b → (TX4 a).2.1 ≠ (TX4 b).2.1 := by decide +kernel
theorem tyX4_ok : ∀ k, k < 2 → parseFieldDescriptor (TX4 k).2.2.1 = some (tyX4 k) := by decide +kernel
abbrev cX4_init : ByteArray := prog_6_method_1_code
def yX4_init : MethodName := ⟨RX4, "<init>", "()V"⟩
abbrev cX4_knows : ByteArray := prog_6_method_2_code
def yX4_knows : MethodName := ⟨RX4, "knows", "(I)Z"⟩
abbrev cX4_takeIn : ByteArray := prog_6_method_3_code
def yX4_takeIn : MethodName := ⟨RX4, "takeIn", "(II)V"⟩
def RX5 : String := "FretSchool"
def TX5 : u_T := fun k => match k with
  | 0 => ("FretSchool", "pieces", "[LFretSchool$Piece;", true)
  | 1 => ("FretSchool", "builds", "[LFretSchool$Instrument;", true)
  | 2 => ("FretSchool", "pupils", "[LFretSchool$Pupil;", true)
  | 3 => ("FretSchool", "orders", "[LFretSchool$Order;", true)
  | 4 => ("FretSchool", "stock", "[I", true)
  | 5 => ("FretSchool", "hand", "LFretSchool$Hand;", true)
  | 6 => ("FretSchool", "pieceCount", "I", false)
  | 7 => ("FretSchool", "buildCount", "I", false)
  | 8 => ("FretSchool", "orderCount", "I", false)
  | _ => ("FretSchool", "day", "I", false)
def tyX5 : Nat → FieldType := fun k => match k with
  | 0 => .array (.object "FretSchool$Piece")
  | 1 => .array (.object "FretSchool$Instrument")
  | 2 => .array (.object "FretSchool$Pupil")
  | 3 => .array (.object "FretSchool$Order")
  | 4 => .array .int
  | 5 => .object "FretSchool$Hand"
  | 6 => .int
  | 7 => .int
  | 8 => .int
  | _ => .int
abbrev wsX50 : List Cond := u_ws RX5 TX5 10
theorem nmX5 : ∀ a, a < 10 → ∀ b, b < 10 → a ≠ b → (TX5 a).2.1 ≠ (TX5 b).2.1 := by decide +kernel
theorem tyX5_ok : ∀ k, k < 10 → parseFieldDescriptor (TX5 k).2.2.1 = some (tyX5 k) := by decide +kernel
abbrev cX5_init : ByteArray := prog_1_method_1_code
def yX5_init : MethodName := ⟨RX5, "<init>", "()V"⟩
abbrev cX5_begin : ByteArray := prog_1_method_2_code
def yX5_begin : MethodName := ⟨RX5, "begin", "()I"⟩
abbrev cX5_addNote : ByteArray := prog_1_method_3_code
def yX5_addNote : MethodName := ⟨RX5, "addNote", "(II)I"⟩
abbrev cX5_transpose : ByteArray := prog_1_method_4_code
def yX5_transpose : MethodName := ⟨RX5, "transpose", "(II)V"⟩
abbrev cX5_pitch : ByteArray := prog_1_method_5_code
def yX5_pitch : MethodName := ⟨RX5, "pitch", "(II)I"⟩
abbrev cX5_tune : ByteArray := prog_1_method_6_code
def yX5_tune : MethodName := ⟨RX5, "tune", "(III)I"⟩
abbrev cX5_owner : ByteArray := prog_1_method_7_code
def yX5_owner : MethodName := ⟨RX5, "owner", "(I)I"⟩
abbrev cX5_instruments : ByteArray := prog_1_method_8_code
def yX5_instruments : MethodName := ⟨RX5, "instruments", "()I"⟩
abbrev cX5_shifts : ByteArray := prog_1_method_9_code
def yX5_shifts : MethodName := ⟨RX5, "shifts", "(II)I"⟩
abbrev cX5_shiftsByAll : ByteArray := prog_1_method_10_code
def yX5_shiftsByAll : MethodName := ⟨RX5, "shiftsByAll", "(II)I"⟩
abbrev cX5_hardest : ByteArray := prog_1_method_11_code
def yX5_hardest : MethodName := ⟨RX5, "hardest", "(II)I"⟩
abbrev cX5_position : ByteArray := prog_1_method_12_code
def yX5_position : MethodName := ⟨RX5, "position", "(III)I"⟩
abbrev cX5_string : ByteArray := prog_1_method_13_code
def yX5_string : MethodName := ⟨RX5, "string", "(III)I"⟩
abbrev cX5_learn : ByteArray := prog_1_method_14_code
def yX5_learn : MethodName := ⟨RX5, "learn", "(III)I"⟩
abbrev cX5_level : ByteArray := prog_1_method_15_code
def yX5_level : MethodName := ⟨RX5, "level", "(I)I"⟩
abbrev cX5_known : ByteArray := prog_1_method_16_code
def yX5_known : MethodName := ⟨RX5, "known", "(I)I"⟩
abbrev cX5_next : ByteArray := prog_1_method_17_code
def yX5_next : MethodName := ⟨RX5, "next", "(I)I"⟩
abbrev cX5_addWood : ByteArray := prog_1_method_18_code
def yX5_addWood : MethodName := ⟨RX5, "addWood", "(II)I"⟩
abbrev cX5_order : ByteArray := prog_1_method_19_code
def yX5_order : MethodName := ⟨RX5, "order", "(III)I"⟩
abbrev cX5_ready : ByteArray := prog_1_method_20_code
def yX5_ready : MethodName := ⟨RX5, "ready", "(I)I"⟩
abbrev cX5_fetch : ByteArray := prog_1_method_21_code
def yX5_fetch : MethodName := ⟨RX5, "fetch", "(IIIII)I"⟩
abbrev cX5_pass : ByteArray := prog_1_method_22_code
def yX5_pass : MethodName := ⟨RX5, "pass", "(I)I"⟩
abbrev cX5_today : ByteArray := prog_1_method_23_code
def yX5_today : MethodName := ⟨RX5, "today", "()I"⟩
abbrev cX5_needPiece : ByteArray := prog_1_method_24_code
def yX5_needPiece : MethodName := ⟨RX5, "needPiece", "(I)V"⟩
abbrev cX5_needNote : ByteArray := prog_1_method_25_code
def yX5_needNote : MethodName := ⟨RX5, "needNote", "(II)V"⟩
abbrev cX5_needInstrument : ByteArray := prog_1_method_26_code
def yX5_needInstrument : MethodName := ⟨RX5, "needInstrument", "(I)V"⟩
abbrev cX5_needOrder : ByteArray := prog_1_method_27_code
def yX5_needOrder : MethodName := ⟨RX5, "needOrder", "(I)V"⟩
abbrev cX5_needPupil : ByteArray := prog_1_method_28_code
def yX5_needPupil : MethodName := ⟨RX5, "needPupil", "(I)V"⟩
abbrev cX5_needRange : ByteArray := prog_1_method_29_code
def yX5_needRange : MethodName := ⟨RX5, "needRange", "(III)V"⟩
abbrev cX5_findBest : ByteArray := prog_1_method_30_code
def yX5_findBest : MethodName := ⟨RX5, "findBest", "(II)Z"⟩
abbrev cX5_learnableShift : ByteArray := prog_1_method_31_code
def yX5_learnableShift : MethodName := ⟨RX5, "learnableShift", "(III)I"⟩
abbrev cX5_easiestShift : ByteArray := prog_1_method_32_code
def yX5_easiestShift : MethodName := ⟨RX5, "easiestShift", "(II)I"⟩
abbrev cX5_ordersAtWork : ByteArray := prog_1_method_33_code
def yX5_ordersAtWork : MethodName := ⟨RX5, "ordersAtWork", "()I"⟩
def RX6 : String := "FretSchoolModel"
def TX6 : u_T := fun k => match k with
  | 0 => ("FretSchoolModel", "today", "I", false)
  | 1 => ("FretSchoolModel", "pieces", "I", false)
  | 2 => ("FretSchoolModel", "many", "[I", true)
  | 3 => ("FretSchoolModel", "pitch", "[I", true)
  | 4 => ("FretSchoolModel", "instruments", "I", false)
  | 5 => ("FretSchoolModel", "owner", "[I", true)
  | 6 => ("FretSchoolModel", "frets", "[I", true)
  | 7 => ("FretSchoolModel", "open", "[I", true)
  | 8 => ("FretSchoolModel", "level", "[I", true)
  | 9 => ("FretSchoolModel", "known", "[I", true)
  | 10 => ("FretSchoolModel", "stock", "[I", true)
  | 11 => ("FretSchoolModel", "orders", "I", false)
  | 12 => ("FretSchoolModel", "buyer", "[I", true)
  | 13 => ("FretSchoolModel", "ordered", "[I", true)
  | 14 => ("FretSchoolModel", "readyOn", "[I", true)
  | 15 => ("FretSchoolModel", "fetched", "[Z", true)
  | 16 => ("FretSchoolModel", "least", "[I", true)
  | 17 => ("FretSchoolModel", "best", "[I", true)
  | _ => ("FretSchoolModel", "thrown", "I", false)
def tyX6 : Nat → FieldType := fun k => match k with
  | 0 => .int
  | 1 => .int
  | 2 => .array .int
  | 3 => .array .int
  | 4 => .int
  | 5 => .array .int
  | 6 => .array .int
  | 7 => .array .int
  | 8 => .array .int
  | 9 => .array .int
  | 10 => .array .int
  | 11 => .int
  | 12 => .array .int
  | 13 => .array .int
  | 14 => .array .int
  | 15 => .array .boolean
  | 16 => .array .int
  | 17 => .array .int
  | _ => .int
abbrev wsX60 : List Cond := u_ws RX6 TX6 19
theorem nmX6 : ∀ a, a < 19 → ∀ b, b < 19 → a ≠ b → (TX6 a).2.1 ≠ (TX6 b).2.1 := by decide +kernel
theorem tyX6_ok : ∀ k, k < 19 → parseFieldDescriptor (TX6 k).2.2.1 = some (tyX6 k) := by decide +kernel
abbrev cX6_init : ByteArray := prog_8_method_1_code
def yX6_init : MethodName := ⟨RX6, "<init>", "()V"⟩
abbrev cX6_thrown : ByteArray := prog_8_method_2_code
def yX6_thrown : MethodName := ⟨RX6, "thrown", "()I"⟩
abbrev cX6_in : ByteArray := prog_8_method_3_code
def yX6_in : MethodName := ⟨RX6, "in", "(III)Z"⟩
abbrev cX6_goes : ByteArray := prog_8_method_4_code
def yX6_goes : MethodName := ⟨RX6, "goes", "(ZZZ)Z"⟩
abbrev cX6_told : ByteArray := prog_8_method_5_code
def yX6_told : MethodName := ⟨RX6, "told", "(I)I"⟩
abbrev cX6_isPiece : ByteArray := prog_8_method_6_code
def yX6_isPiece : MethodName := ⟨RX6, "isPiece", "(I)Z"⟩
abbrev cX6_isNote : ByteArray := prog_8_method_7_code
def yX6_isNote : MethodName := ⟨RX6, "isNote", "(II)Z"⟩
abbrev cX6_isInstrument : ByteArray := prog_8_method_8_code
def yX6_isInstrument : MethodName := ⟨RX6, "isInstrument", "(I)Z"⟩
abbrev cX6_isOrder : ByteArray := prog_8_method_9_code
def yX6_isOrder : MethodName := ⟨RX6, "isOrder", "(I)Z"⟩
abbrev cX6_isPupil : ByteArray := prog_8_method_10_code
def yX6_isPupil : MethodName := ⟨RX6, "isPupil", "(I)Z"⟩
abbrev cX6_begin : ByteArray := prog_8_method_11_code
def yX6_begin : MethodName := ⟨RX6, "begin", "()I"⟩
abbrev cX6_addNote : ByteArray := prog_8_method_12_code
def yX6_addNote : MethodName := ⟨RX6, "addNote", "(II)I"⟩
abbrev cX6_transpose : ByteArray := prog_8_method_13_code
def yX6_transpose : MethodName := ⟨RX6, "transpose", "(II)V"⟩
abbrev cX6_pitch : ByteArray := prog_8_method_14_code
def yX6_pitch : MethodName := ⟨RX6, "pitch", "(II)I"⟩
abbrev cX6_tune : ByteArray := prog_8_method_15_code
def yX6_tune : MethodName := ⟨RX6, "tune", "(III)I"⟩
abbrev cX6_owner : ByteArray := prog_8_method_16_code
def yX6_owner : MethodName := ⟨RX6, "owner", "(I)I"⟩
abbrev cX6_instruments : ByteArray := prog_8_method_17_code
def yX6_instruments : MethodName := ⟨RX6, "instruments", "()I"⟩
abbrev cX6_lies : ByteArray := prog_8_method_18_code
def yX6_lies : MethodName := ⟨RX6, "lies", "(IIIII)Z"⟩
abbrev cX6_plays : ByteArray := prog_8_method_19_code
def yX6_plays : MethodName := ⟨RX6, "plays", "(IIII)Z"⟩
abbrev cX6_apart : ByteArray := prog_8_method_20_code
def yX6_apart : MethodName := ⟨RX6, "apart", "(II)I"⟩
abbrev cX6_from : ByteArray := prog_8_method_21_code
def yX6_from : MethodName := ⟨RX6, "from", "(IIII)I"⟩
abbrev cX6_finds : ByteArray := prog_8_method_22_code
def yX6_finds : MethodName := ⟨RX6, "finds", "(II)I"⟩
abbrev cX6_asks : ByteArray := prog_8_method_23_code
def yX6_asks : MethodName := ⟨RX6, "asks", "(II)Z"⟩
abbrev cX6_shifts : ByteArray := prog_8_method_24_code
def yX6_shifts : MethodName := ⟨RX6, "shifts", "(II)I"⟩
abbrev cX6_shiftsByAll : ByteArray := prog_8_method_25_code
def yX6_shiftsByAll : MethodName := ⟨RX6, "shiftsByAll", "(II)I"⟩
abbrev cX6_hardestOf : ByteArray := prog_8_method_26_code
def yX6_hardestOf : MethodName := ⟨RX6, "hardestOf", "(II)I"⟩
abbrev cX6_hardest : ByteArray := prog_8_method_27_code
def yX6_hardest : MethodName := ⟨RX6, "hardest", "(II)I"⟩
abbrev cX6_asksNote : ByteArray := prog_8_method_28_code
def yX6_asksNote : MethodName := ⟨RX6, "asksNote", "(III)Z"⟩
abbrev cX6_position : ByteArray := prog_8_method_29_code
def yX6_position : MethodName := ⟨RX6, "position", "(III)I"⟩
abbrev cX6_string : ByteArray := prog_8_method_30_code
def yX6_string : MethodName := ⟨RX6, "string", "(III)I"⟩
abbrev cX6_isKnown : ByteArray := prog_8_method_31_code
def yX6_isKnown : MethodName := ⟨RX6, "isKnown", "(II)Z"⟩
abbrev cX6_canLearn : ByteArray := prog_8_method_32_code
def yX6_canLearn : MethodName := ⟨RX6, "canLearn", "(III)Z"⟩
abbrev cX6_learn : ByteArray := prog_8_method_33_code
def yX6_learn : MethodName := ⟨RX6, "learn", "(III)I"⟩
abbrev cX6_level : ByteArray := prog_8_method_34_code
def yX6_level : MethodName := ⟨RX6, "level", "(I)I"⟩
abbrev cX6_known : ByteArray := prog_8_method_35_code
def yX6_known : MethodName := ⟨RX6, "known", "(I)I"⟩
abbrev cX6_next : ByteArray := prog_8_method_36_code
def yX6_next : MethodName := ⟨RX6, "next", "(I)I"⟩
abbrev cX6_addWood : ByteArray := prog_8_method_37_code
def yX6_addWood : MethodName := ⟨RX6, "addWood", "(II)I"⟩
abbrev cX6_atWork : ByteArray := prog_8_method_38_code
def yX6_atWork : MethodName := ⟨RX6, "atWork", "()I"⟩
abbrev cX6_order : ByteArray := prog_8_method_39_code
def yX6_order : MethodName := ⟨RX6, "order", "(III)I"⟩
abbrev cX6_ready : ByteArray := prog_8_method_40_code
def yX6_ready : MethodName := ⟨RX6, "ready", "(I)I"⟩
abbrev cX6_isOpen : ByteArray := prog_8_method_41_code
def yX6_isOpen : MethodName := ⟨RX6, "isOpen", "(I)Z"⟩
abbrev cX6_fetch : ByteArray := prog_8_method_42_code
def yX6_fetch : MethodName := ⟨RX6, "fetch", "(IIIII)I"⟩
abbrev cX6_pass : ByteArray := prog_8_method_43_code
def yX6_pass : MethodName := ⟨RX6, "pass", "(I)I"⟩
abbrev cX6_today : ByteArray := prog_8_method_44_code
def yX6_today : MethodName := ⟨RX6, "today", "()I"⟩
def RJ9 : String := "java/lang/Math"
def TJ9 : u_T := fun k => match k with
  | _ => ("", "", "", false)
def tyJ9 : Nat → FieldType := fun k => match k with
  | _ => .int
abbrev wsJ90 : List Cond := u_ws RJ9 TJ9 0
theorem nmJ9 : ∀ a, a < 0 → ∀ b, b < 0 → a ≠ b → (TJ9 a).2.1 ≠ (TJ9 b).2.1 := by decide +kernel
theorem tyJ9_ok : ∀ k, k < 0 → parseFieldDescriptor (TJ9 k).2.2.1 = some (tyJ9 k) := by decide +kernel
abbrev cJ9_abs_0f7a4 : ByteArray := prog_13_method_59_code
def yJ9_abs_0f7a4 : MethodName := ⟨RJ9, "abs", "(I)I"⟩
def RJ0 : String := "java/lang/String"
def TJ0 : u_T := fun k => match k with
  | _ => ("", "", "", false)
def tyJ0 : Nat → FieldType := fun k => match k with
  | _ => .int
abbrev wsJ00 : List Cond := u_ws RJ0 TJ0 0
theorem nmJ0 : ∀ a, a < 0 → ∀ b, b < 0 → a ≠ b → (TJ0 a).2.1 ≠ (TJ0 b).2.1 := by decide +kernel
theorem tyJ0_ok : ∀ k, k < 0 → parseFieldDescriptor (TJ0 k).2.2.1 = some (tyJ0 k) := by decide +kernel
def RL : String := "FretSchoolLaw"
abbrev cL_begin : ByteArray := method_3_code
def yL_begin : MethodName := ⟨RL, "begin", "(LFretSchool;[J)I"⟩
abbrev cL_addNote : ByteArray := method_4_code
def yL_addNote : MethodName := ⟨RL, "addNote", "(LFretSchool;II[J)I"⟩
abbrev cL_transpose : ByteArray := method_5_code
def yL_transpose : MethodName := ⟨RL, "transpose", "(LFretSchool;II)I"⟩
abbrev cL_pitch : ByteArray := method_6_code
def yL_pitch : MethodName := ⟨RL, "pitch", "(LFretSchool;II[J)I"⟩
abbrev cL_tune : ByteArray := method_7_code
def yL_tune : MethodName := ⟨RL, "tune", "(LFretSchool;III[J)I"⟩
abbrev cL_owner : ByteArray := method_8_code
def yL_owner : MethodName := ⟨RL, "owner", "(LFretSchool;I[J)I"⟩
abbrev cL_shifts : ByteArray := method_9_code
def yL_shifts : MethodName := ⟨RL, "shifts", "(LFretSchool;II[J)I"⟩
abbrev cL_shiftsByAll : ByteArray := method_10_code
def yL_shiftsByAll : MethodName := ⟨RL, "shiftsByAll", "(LFretSchool;II[J)I"⟩
abbrev cL_hardest : ByteArray := method_11_code
def yL_hardest : MethodName := ⟨RL, "hardest", "(LFretSchool;II[J)I"⟩
abbrev cL_position : ByteArray := method_12_code
def yL_position : MethodName := ⟨RL, "position", "(LFretSchool;III[J)I"⟩
abbrev cL_string : ByteArray := method_13_code
def yL_string : MethodName := ⟨RL, "string", "(LFretSchool;III[J)I"⟩
abbrev cL_learn : ByteArray := method_14_code
def yL_learn : MethodName := ⟨RL, "learn", "(LFretSchool;III[J)I"⟩
abbrev cL_level : ByteArray := method_15_code
def yL_level : MethodName := ⟨RL, "level", "(LFretSchool;I[J)I"⟩
abbrev cL_known : ByteArray := method_16_code
def yL_known : MethodName := ⟨RL, "known", "(LFretSchool;I[J)I"⟩
abbrev cL_next : ByteArray := method_17_code
def yL_next : MethodName := ⟨RL, "next", "(LFretSchool;I[J)I"⟩
abbrev cL_addWood : ByteArray := method_18_code
def yL_addWood : MethodName := ⟨RL, "addWood", "(LFretSchool;II[J)I"⟩
abbrev cL_order : ByteArray := method_19_code
def yL_order : MethodName := ⟨RL, "order", "(LFretSchool;III[J)I"⟩
abbrev cL_ready : ByteArray := method_20_code
def yL_ready : MethodName := ⟨RL, "ready", "(LFretSchool;I[J)I"⟩
abbrev cL_fetch : ByteArray := method_21_code
def yL_fetch : MethodName := ⟨RL, "fetch", "(LFretSchool;IIIII[J)I"⟩
abbrev cL_pass : ByteArray := method_22_code
def yL_pass : MethodName := ⟨RL, "pass", "(LFretSchool;I[J)I"⟩
abbrev cL_law : ByteArray := code
def yL_law : MethodName := ⟨RL, "law", "([I)Z"⟩
abbrev vwCl : List vw_C := [(RX0, TX0, 5), (RX1, TX1, 3), (RX2, TX2, 4), (RX3, TX3, 2), (RX4, TX4, 2), (RX5, TX5, 10), (RX6, TX6, 19)]
end
section
/-- the good words of the tables -/
def BIG : List Cond := lw_tbl.filter goodWord
theorem bigAll : BIG.all goodWord = true := List.all_eq_true.mpr (fun w h => (List.mem_filter.mp h).2)
theorem bigIn {w : Cond} (i : Nat) (h : lw_tbl[i]? = some w) (hg : goodWord w = true) : w ∈ BIG := List.mem_filter.mpr ⟨List.mem_of_getElem? h, hg⟩
theorem bigT {w : Cond} (h : w ∈ BIG) : w ∈ lw_tbl := (List.mem_filter.mp h).1
theorem wd0 : Cond.selects "java/lang/Throwable" (⟨"java/lang/Throwable", "fillInStackTrace", "(I)Ljava/lang/Throwable;"⟩ : MethodName) (⟨"java/lang/Throwable", "fillInStackTrace", "(I)Ljava/lang/Throwable;"⟩ : MethodName) ∈ BIG := bigIn 0 (by rfl) (by rfl)
theorem wd1 : Cond.selects "FretSchool" yX5_needPiece yX5_needPiece ∈ BIG := bigIn 1 (by rfl) (by rfl)
theorem wd2 : Cond.selects "FretSchool" yX5_needNote yX5_needNote ∈ BIG := bigIn 2 (by rfl) (by rfl)
theorem wd3 : Cond.selects "FretSchool" yX5_needInstrument yX5_needInstrument ∈ BIG := bigIn 3 (by rfl) (by rfl)
theorem wd4 : Cond.selects "FretSchool" yX5_findBest yX5_findBest ∈ BIG := bigIn 4 (by rfl) (by rfl)
theorem wd5 : Cond.selects "FretSchool$Hand" yX0_feelReach yX0_feelReach ∈ BIG := bigIn 5 (by rfl) (by rfl)
theorem wd6 : Cond.selects "FretSchool$Hand" yX0_measureRest yX0_measureRest ∈ BIG := bigIn 6 (by rfl) (by rfl)
theorem wd7 : Cond.selects "FretSchool$Hand" yX0_nearest yX0_nearest ∈ BIG := bigIn 7 (by rfl) (by rfl)
theorem wd8 : Cond.selects "FretSchool$Hand" yX0_chooseRow yX0_chooseRow ∈ BIG := bigIn 8 (by rfl) (by rfl)
theorem wd9 : Cond.selects "FretSchool" yX5_learnableShift yX5_learnableShift ∈ BIG := bigIn 9 (by rfl) (by rfl)
theorem wd10 : Cond.selects "FretSchool" yX5_easiestShift yX5_easiestShift ∈ BIG := bigIn 10 (by rfl) (by rfl)
theorem wd11 : Cond.selects "FretSchool" yX5_ordersAtWork yX5_ordersAtWork ∈ BIG := bigIn 11 (by rfl) (by rfl)
theorem wd12 : Cond.selects "FretSchool" yX5_needOrder yX5_needOrder ∈ BIG := bigIn 12 (by rfl) (by rfl)
theorem wd13 : Cond.selects "FretSchoolModel" yX6_goes yX6_goes ∈ BIG := bigIn 13 (by rfl) (by rfl)
theorem wd14 : Cond.selects "FretSchoolModel" yX6_isPiece yX6_isPiece ∈ BIG := bigIn 14 (by rfl) (by rfl)
theorem wd15 : Cond.selects "FretSchoolModel" yX6_isNote yX6_isNote ∈ BIG := bigIn 15 (by rfl) (by rfl)
theorem wd16 : Cond.selects "FretSchoolModel" yX6_isInstrument yX6_isInstrument ∈ BIG := bigIn 16 (by rfl) (by rfl)
theorem wd17 : Cond.selects "FretSchoolModel" yX6_told yX6_told ∈ BIG := bigIn 17 (by rfl) (by rfl)
theorem wd18 : Cond.selects "FretSchoolModel" yX6_asks yX6_asks ∈ BIG := bigIn 18 (by rfl) (by rfl)
theorem wd19 : Cond.selects "FretSchoolModel" yX6_finds yX6_finds ∈ BIG := bigIn 19 (by rfl) (by rfl)
theorem wd20 : Cond.selects "FretSchoolModel" yX6_from yX6_from ∈ BIG := bigIn 20 (by rfl) (by rfl)
theorem wd21 : Cond.selects "FretSchoolModel" yX6_plays yX6_plays ∈ BIG := bigIn 21 (by rfl) (by rfl)
theorem wd22 : Cond.selects "FretSchoolModel" yX6_lies yX6_lies ∈ BIG := bigIn 22 (by rfl) (by rfl)
theorem wd23 : Cond.selects "FretSchoolModel" yX6_hardestOf yX6_hardestOf ∈ BIG := bigIn 23 (by rfl) (by rfl)
theorem wd24 : Cond.selects "FretSchoolModel" yX6_asksNote yX6_asksNote ∈ BIG := bigIn 24 (by rfl) (by rfl)
theorem wd25 : Cond.selects "FretSchoolModel" yX6_canLearn yX6_canLearn ∈ BIG := bigIn 25 (by rfl) (by rfl)
theorem wd26 : Cond.selects "FretSchoolModel" yX6_isKnown yX6_isKnown ∈ BIG := bigIn 26 (by rfl) (by rfl)
theorem wd27 : Cond.selects "FretSchoolModel" yX6_atWork yX6_atWork ∈ BIG := bigIn 27 (by rfl) (by rfl)
theorem wd28 : Cond.selects "FretSchoolModel" yX6_isOrder yX6_isOrder ∈ BIG := bigIn 28 (by rfl) (by rfl)
theorem wd29 : Cond.initialized "FretSchoolLaw" ∈ BIG := bigIn 29 (by rfl) (by rfl)
theorem wd30 : Cond.initialized "FretSchool" ∈ BIG := bigIn 30 (by rfl) (by rfl)
theorem wd31 : Cond.initialized "FretSchool$Piece" ∈ BIG := bigIn 31 (by rfl) (by rfl)
theorem wd32 : Cond.initialized "FretSchool$Instrument" ∈ BIG := bigIn 32 (by rfl) (by rfl)
theorem wd33 : Cond.initialized "FretSchool$Pupil" ∈ BIG := bigIn 33 (by rfl) (by rfl)
theorem wd34 : Cond.initialized "FretSchool$Order" ∈ BIG := bigIn 34 (by rfl) (by rfl)
theorem wd35 : Cond.initialized "FretSchool$Hand" ∈ BIG := bigIn 35 (by rfl) (by rfl)
theorem wd36 : Cond.initialized "FretSchoolModel" ∈ BIG := bigIn 36 (by rfl) (by rfl)
theorem wd37 : Cond.initialized "java/lang/Throwable" ∈ BIG := bigIn 37 (by rfl) (by rfl)
theorem wd38 : Cond.initialized "java/lang/Exception" ∈ BIG := bigIn 38 (by rfl) (by rfl)
theorem wd39 : Cond.initialized "java/lang/RuntimeException" ∈ BIG := bigIn 39 (by rfl) (by rfl)
theorem wd40 : Cond.initialized "java/lang/IllegalStateException" ∈ BIG := bigIn 40 (by rfl) (by rfl)
theorem wd41 : Cond.initialized "java/lang/IndexOutOfBoundsException" ∈ BIG := bigIn 41 (by rfl) (by rfl)
theorem wd42 : Cond.initialized "java/lang/IllegalArgumentException" ∈ BIG := bigIn 42 (by rfl) (by rfl)
theorem wd43 : Cond.initialized "java/lang/Math" ∈ BIG := bigIn 43 (by rfl) (by rfl)
theorem wd44 : Cond.classLink "FretSchoolLaw" 8 "FretSchool" ∈ BIG := bigIn 44 (by rfl) (by rfl)
theorem wd45 : Cond.instantiable "FretSchool" 10 ∈ BIG := bigIn 45 (by rfl) (by rfl)
theorem wd46 : Cond.methodLink "FretSchoolLaw" 81 yX5_init ∈ BIG := bigIn 46 (by rfl) (by rfl)
theorem wd47 : Cond.instanceMethod yX5_init ∈ BIG := bigIn 47 (by rfl) (by rfl)
theorem wd48 : Cond.code yX5_init cX5_init 2 (none : Option Jvm.ClassFile.FieldType) ∈ BIG := bigIn 48 (by rfl) (by rfl)
theorem wd49 : Cond.methodLink "FretSchool" 3 (⟨"java/lang/Object", "<init>", "()V"⟩ : MethodName) ∈ BIG := bigIn 49 (by rfl) (by rfl)
theorem wd50 : Cond.instanceMethod (⟨"java/lang/Object", "<init>", "()V"⟩ : MethodName) ∈ BIG := bigIn 50 (by rfl) (by rfl)
theorem wd51 : Cond.code (⟨"java/lang/Object", "<init>", "()V"⟩ : MethodName) object_method_1_code 1 (none : Option Jvm.ClassFile.FieldType) ∈ BIG := bigIn 51 (by rfl) (by rfl)
theorem wd52 : Cond.classLink "FretSchool" 9 "FretSchool$Piece" ∈ BIG := bigIn 52 (by rfl) (by rfl)
theorem wt53 : Cond.arrayOver (.object "FretSchool$Piece") ∈ lw_tbl := List.mem_of_getElem? (i := 53) (by rfl)
theorem wd54 : Cond.instantiable "FretSchool$Piece" 2 ∈ BIG := bigIn 54 (by rfl) (by rfl)
theorem wt55 : Cond.methodLinkNest "FretSchool" 15 yX3_init "FretSchool" ∈ lw_tbl := List.mem_of_getElem? (i := 55) (by rfl)
theorem wd56 : Cond.instanceMethod yX3_init ∈ BIG := bigIn 56 (by rfl) (by rfl)
theorem wd57 : Cond.code yX3_init cX3_init 1 (none : Option Jvm.ClassFile.FieldType) ∈ BIG := bigIn 57 (by rfl) (by rfl)
theorem wd58 : Cond.methodLink "FretSchool$Piece" 3 (⟨"java/lang/Object", "<init>", "()V"⟩ : MethodName) ∈ BIG := bigIn 58 (by rfl) (by rfl)
theorem wd59 : Cond.fieldLink "FretSchool$Piece" 9 "FretSchool$Piece" "pitches" "[I" ∈ BIG := bigIn 59 (by rfl) (by rfl)
theorem wd60 : Cond.fieldLink "FretSchool$Hand" 58 "FretSchool$Piece" "pitches" "[I" ∈ BIG := bigIn 60 (by rfl) (by rfl)
theorem wd61 : Cond.fieldLink "FretSchool" 101 "FretSchool$Piece" "pitches" "[I" ∈ BIG := bigIn 61 (by rfl) (by rfl)
theorem wd62 : Cond.fieldLink "FretSchool$Piece" 15 "FretSchool$Piece" "count" "I" ∈ BIG := bigIn 62 (by rfl) (by rfl)
theorem wd63 : Cond.fieldLink "FretSchool$Hand" 34 "FretSchool$Piece" "count" "I" ∈ BIG := bigIn 63 (by rfl) (by rfl)
theorem wd64 : Cond.fieldLink "FretSchool" 85 "FretSchool$Piece" "count" "I" ∈ BIG := bigIn 64 (by rfl) (by rfl)
theorem wd65 : Cond.laysFinal "FretSchool$Piece" "FretSchool$Piece" "pitches" "[I" ∈ BIG := bigIn 65 (by rfl) (by rfl)
theorem wd67 : Cond.lays "FretSchool$Piece" "FretSchool$Piece" "count" "I" ∈ BIG := bigIn 67 (by rfl) (by rfl)
theorem wd70 : Cond.arrayClass .int ∈ BIG := bigIn 70 (by rfl) (by rfl)
theorem wd71 : Cond.classLink "FretSchool" 16 "FretSchool$Instrument" ∈ BIG := bigIn 71 (by rfl) (by rfl)
theorem wt72 : Cond.arrayOver (.object "FretSchool$Instrument") ∈ lw_tbl := List.mem_of_getElem? (i := 72) (by rfl)
theorem wd73 : Cond.instantiable "FretSchool$Instrument" 3 ∈ BIG := bigIn 73 (by rfl) (by rfl)
theorem wt74 : Cond.methodLinkNest "FretSchool" 22 yX1_init "FretSchool" ∈ lw_tbl := List.mem_of_getElem? (i := 74) (by rfl)
theorem wd75 : Cond.instanceMethod yX1_init ∈ BIG := bigIn 75 (by rfl) (by rfl)
theorem wd76 : Cond.code yX1_init cX1_init 1 (none : Option Jvm.ClassFile.FieldType) ∈ BIG := bigIn 76 (by rfl) (by rfl)
theorem wd77 : Cond.methodLink "FretSchool$Instrument" 3 (⟨"java/lang/Object", "<init>", "()V"⟩ : MethodName) ∈ BIG := bigIn 77 (by rfl) (by rfl)
theorem wd78 : Cond.fieldLink "FretSchool$Instrument" 9 "FretSchool$Instrument" "open" "[I" ∈ BIG := bigIn 78 (by rfl) (by rfl)
theorem wd79 : Cond.fieldLink "FretSchool" 107 "FretSchool$Instrument" "open" "[I" ∈ BIG := bigIn 79 (by rfl) (by rfl)
theorem wd80 : Cond.fieldLink "FretSchool$Instrument" 15 "FretSchool$Instrument" "keeper" "I" ∈ BIG := bigIn 80 (by rfl) (by rfl)
theorem wd81 : Cond.fieldLink "FretSchool" 110 "FretSchool$Instrument" "keeper" "I" ∈ BIG := bigIn 81 (by rfl) (by rfl)
theorem wd82 : Cond.fieldLink "FretSchool$Instrument" 19 "FretSchool$Instrument" "fretCount" "I" ∈ BIG := bigIn 82 (by rfl) (by rfl)
theorem wd83 : Cond.laysFinal "FretSchool$Instrument" "FretSchool$Instrument" "open" "[I" ∈ BIG := bigIn 83 (by rfl) (by rfl)
theorem wd85 : Cond.lays "FretSchool$Instrument" "FretSchool$Instrument" "keeper" "I" ∈ BIG := bigIn 85 (by rfl) (by rfl)
theorem wd87 : Cond.lays "FretSchool$Instrument" "FretSchool$Instrument" "fretCount" "I" ∈ BIG := bigIn 87 (by rfl) (by rfl)
theorem wd90 : Cond.classLink "FretSchool" 23 "FretSchool$Pupil" ∈ BIG := bigIn 90 (by rfl) (by rfl)
theorem wt91 : Cond.arrayOver (.object "FretSchool$Pupil") ∈ lw_tbl := List.mem_of_getElem? (i := 91) (by rfl)
theorem wd92 : Cond.instantiable "FretSchool$Pupil" 2 ∈ BIG := bigIn 92 (by rfl) (by rfl)
theorem wt93 : Cond.methodLinkNest "FretSchool" 29 yX4_init "FretSchool" ∈ lw_tbl := List.mem_of_getElem? (i := 93) (by rfl)
theorem wd94 : Cond.instanceMethod yX4_init ∈ BIG := bigIn 94 (by rfl) (by rfl)
theorem wd95 : Cond.code yX4_init cX4_init 1 (none : Option Jvm.ClassFile.FieldType) ∈ BIG := bigIn 95 (by rfl) (by rfl)
theorem wd96 : Cond.methodLink "FretSchool$Pupil" 3 (⟨"java/lang/Object", "<init>", "()V"⟩ : MethodName) ∈ BIG := bigIn 96 (by rfl) (by rfl)
theorem wd97 : Cond.fieldLink "FretSchool$Pupil" 9 "FretSchool$Pupil" "grade" "I" ∈ BIG := bigIn 97 (by rfl) (by rfl)
theorem wd98 : Cond.fieldLink "FretSchool" 153 "FretSchool$Pupil" "grade" "I" ∈ BIG := bigIn 98 (by rfl) (by rfl)
theorem wd99 : Cond.fieldLink "FretSchool$Pupil" 15 "FretSchool$Pupil" "repertoire" "I" ∈ BIG := bigIn 99 (by rfl) (by rfl)
theorem wd100 : Cond.fieldLink "FretSchool" 156 "FretSchool$Pupil" "repertoire" "I" ∈ BIG := bigIn 100 (by rfl) (by rfl)
theorem wd101 : Cond.lays "FretSchool$Pupil" "FretSchool$Pupil" "grade" "I" ∈ BIG := bigIn 101 (by rfl) (by rfl)
theorem wd103 : Cond.lays "FretSchool$Pupil" "FretSchool$Pupil" "repertoire" "I" ∈ BIG := bigIn 103 (by rfl) (by rfl)
theorem wd106 : Cond.classLink "FretSchool" 30 "FretSchool$Order" ∈ BIG := bigIn 106 (by rfl) (by rfl)
theorem wt107 : Cond.arrayOver (.object "FretSchool$Order") ∈ lw_tbl := List.mem_of_getElem? (i := 107) (by rfl)
theorem wd108 : Cond.instantiable "FretSchool$Order" 4 ∈ BIG := bigIn 108 (by rfl) (by rfl)
theorem wt109 : Cond.methodLinkNest "FretSchool" 36 yX2_init "FretSchool" ∈ lw_tbl := List.mem_of_getElem? (i := 109) (by rfl)
theorem wd110 : Cond.instanceMethod yX2_init ∈ BIG := bigIn 110 (by rfl) (by rfl)
theorem wd111 : Cond.code yX2_init cX2_init 1 (none : Option Jvm.ClassFile.FieldType) ∈ BIG := bigIn 111 (by rfl) (by rfl)
theorem wd112 : Cond.methodLink "FretSchool$Order" 3 (⟨"java/lang/Object", "<init>", "()V"⟩ : MethodName) ∈ BIG := bigIn 112 (by rfl) (by rfl)
theorem wd113 : Cond.fieldLink "FretSchool$Order" 9 "FretSchool$Order" "buyer" "I" ∈ BIG := bigIn 113 (by rfl) (by rfl)
theorem wd114 : Cond.fieldLink "FretSchool" 194 "FretSchool$Order" "buyer" "I" ∈ BIG := bigIn 114 (by rfl) (by rfl)
theorem wd115 : Cond.fieldLink "FretSchool$Order" 15 "FretSchool$Order" "fretCount" "I" ∈ BIG := bigIn 115 (by rfl) (by rfl)
theorem wd116 : Cond.fieldLink "FretSchool" 197 "FretSchool$Order" "fretCount" "I" ∈ BIG := bigIn 116 (by rfl) (by rfl)
theorem wd117 : Cond.fieldLink "FretSchool$Order" 18 "FretSchool$Order" "readyDay" "I" ∈ BIG := bigIn 117 (by rfl) (by rfl)
theorem wd118 : Cond.fieldLink "FretSchool" 178 "FretSchool$Order" "readyDay" "I" ∈ BIG := bigIn 118 (by rfl) (by rfl)
theorem wd119 : Cond.fieldLink "FretSchool$Order" 21 "FretSchool$Order" "isFetched" "Z" ∈ BIG := bigIn 119 (by rfl) (by rfl)
theorem wd120 : Cond.fieldLink "FretSchool" 186 "FretSchool$Order" "isFetched" "Z" ∈ BIG := bigIn 120 (by rfl) (by rfl)
theorem wd121 : Cond.lays "FretSchool$Order" "FretSchool$Order" "buyer" "I" ∈ BIG := bigIn 121 (by rfl) (by rfl)
theorem wd123 : Cond.lays "FretSchool$Order" "FretSchool$Order" "fretCount" "I" ∈ BIG := bigIn 123 (by rfl) (by rfl)
theorem wd125 : Cond.lays "FretSchool$Order" "FretSchool$Order" "readyDay" "I" ∈ BIG := bigIn 125 (by rfl) (by rfl)
theorem wd127 : Cond.lays "FretSchool$Order" "FretSchool$Order" "isFetched" "Z" ∈ BIG := bigIn 127 (by rfl) (by rfl)
theorem wd130 : Cond.classLink "FretSchool" 41 "FretSchool$Hand" ∈ BIG := bigIn 130 (by rfl) (by rfl)
theorem wd131 : Cond.instantiable "FretSchool$Hand" 5 ∈ BIG := bigIn 131 (by rfl) (by rfl)
theorem wt132 : Cond.methodLinkNest "FretSchool" 43 yX0_init "FretSchool" ∈ lw_tbl := List.mem_of_getElem? (i := 132) (by rfl)
theorem wd133 : Cond.instanceMethod yX0_init ∈ BIG := bigIn 133 (by rfl) (by rfl)
theorem wd134 : Cond.code yX0_init cX0_init 1 (none : Option Jvm.ClassFile.FieldType) ∈ BIG := bigIn 134 (by rfl) (by rfl)
theorem wd135 : Cond.methodLink "FretSchool$Hand" 3 (⟨"java/lang/Object", "<init>", "()V"⟩ : MethodName) ∈ BIG := bigIn 135 (by rfl) (by rfl)
theorem wd136 : Cond.classLink "FretSchool$Hand" 15 "[[I" ∈ BIG := bigIn 136 (by rfl) (by rfl)
theorem wt137 : Cond.arrayOver (.array .int) ∈ lw_tbl := List.mem_of_getElem? (i := 137) (by rfl)
theorem wd138 : Cond.fieldLink "FretSchool$Hand" 9 "FretSchool$Hand" "reach" "[I" ∈ BIG := bigIn 138 (by rfl) (by rfl)
theorem wd139 : Cond.fieldLink "FretSchool$Hand" 17 "FretSchool$Hand" "rest" "[[I" ∈ BIG := bigIn 139 (by rfl) (by rfl)
theorem wd140 : Cond.fieldLink "FretSchool$Hand" 20 "FretSchool$Hand" "row" "[I" ∈ BIG := bigIn 140 (by rfl) (by rfl)
theorem wd141 : Cond.fieldLink "FretSchool" 129 "FretSchool$Hand" "row" "[I" ∈ BIG := bigIn 141 (by rfl) (by rfl)
theorem wd142 : Cond.fieldLink "FretSchool$Hand" 23 "FretSchool$Hand" "sum" "I" ∈ BIG := bigIn 142 (by rfl) (by rfl)
theorem wd143 : Cond.fieldLink "FretSchool" 117 "FretSchool$Hand" "sum" "I" ∈ BIG := bigIn 143 (by rfl) (by rfl)
theorem wd144 : Cond.fieldLink "FretSchool$Hand" 27 "FretSchool$Hand" "greatest" "I" ∈ BIG := bigIn 144 (by rfl) (by rfl)
theorem wd145 : Cond.fieldLink "FretSchool" 126 "FretSchool$Hand" "greatest" "I" ∈ BIG := bigIn 145 (by rfl) (by rfl)
theorem wd146 : Cond.laysFinal "FretSchool$Hand" "FretSchool$Hand" "reach" "[I" ∈ BIG := bigIn 146 (by rfl) (by rfl)
theorem wd148 : Cond.laysFinal "FretSchool$Hand" "FretSchool$Hand" "rest" "[[I" ∈ BIG := bigIn 148 (by rfl) (by rfl)
theorem wd150 : Cond.laysFinal "FretSchool$Hand" "FretSchool$Hand" "row" "[I" ∈ BIG := bigIn 150 (by rfl) (by rfl)
theorem wd152 : Cond.lays "FretSchool$Hand" "FretSchool$Hand" "sum" "I" ∈ BIG := bigIn 152 (by rfl) (by rfl)
theorem wd154 : Cond.lays "FretSchool$Hand" "FretSchool$Hand" "greatest" "I" ∈ BIG := bigIn 154 (by rfl) (by rfl)
theorem wd157 : Cond.fieldLink "FretSchool" 11 "FretSchool" "pieces" "[LFretSchool$Piece;" ∈ BIG := bigIn 157 (by rfl) (by rfl)
theorem wd158 : Cond.fieldLink "FretSchool" 18 "FretSchool" "builds" "[LFretSchool$Instrument;" ∈ BIG := bigIn 158 (by rfl) (by rfl)
theorem wd159 : Cond.fieldLink "FretSchool" 25 "FretSchool" "pupils" "[LFretSchool$Pupil;" ∈ BIG := bigIn 159 (by rfl) (by rfl)
theorem wd160 : Cond.fieldLink "FretSchool" 32 "FretSchool" "orders" "[LFretSchool$Order;" ∈ BIG := bigIn 160 (by rfl) (by rfl)
theorem wd161 : Cond.fieldLink "FretSchool" 37 "FretSchool" "stock" "[I" ∈ BIG := bigIn 161 (by rfl) (by rfl)
theorem wd162 : Cond.fieldLink "FretSchool" 44 "FretSchool" "hand" "LFretSchool$Hand;" ∈ BIG := bigIn 162 (by rfl) (by rfl)
theorem wd163 : Cond.fieldLink "FretSchool" 48 "FretSchool" "pieceCount" "I" ∈ BIG := bigIn 163 (by rfl) (by rfl)
theorem wd164 : Cond.fieldLink "FretSchool" 52 "FretSchool" "buildCount" "I" ∈ BIG := bigIn 164 (by rfl) (by rfl)
theorem wd165 : Cond.fieldLink "FretSchool" 55 "FretSchool" "orderCount" "I" ∈ BIG := bigIn 165 (by rfl) (by rfl)
theorem wd166 : Cond.fieldLink "FretSchool" 58 "FretSchool" "day" "I" ∈ BIG := bigIn 166 (by rfl) (by rfl)
theorem wd167 : Cond.laysFinal "FretSchool" "FretSchool" "pieces" "[LFretSchool$Piece;" ∈ BIG := bigIn 167 (by rfl) (by rfl)
theorem wd169 : Cond.laysFinal "FretSchool" "FretSchool" "builds" "[LFretSchool$Instrument;" ∈ BIG := bigIn 169 (by rfl) (by rfl)
theorem wd171 : Cond.laysFinal "FretSchool" "FretSchool" "pupils" "[LFretSchool$Pupil;" ∈ BIG := bigIn 171 (by rfl) (by rfl)
theorem wd173 : Cond.laysFinal "FretSchool" "FretSchool" "orders" "[LFretSchool$Order;" ∈ BIG := bigIn 173 (by rfl) (by rfl)
theorem wd175 : Cond.laysFinal "FretSchool" "FretSchool" "stock" "[I" ∈ BIG := bigIn 175 (by rfl) (by rfl)
theorem wd177 : Cond.laysFinal "FretSchool" "FretSchool" "hand" "LFretSchool$Hand;" ∈ BIG := bigIn 177 (by rfl) (by rfl)
theorem wd179 : Cond.lays "FretSchool" "FretSchool" "pieceCount" "I" ∈ BIG := bigIn 179 (by rfl) (by rfl)
theorem wd181 : Cond.lays "FretSchool" "FretSchool" "buildCount" "I" ∈ BIG := bigIn 181 (by rfl) (by rfl)
theorem wd183 : Cond.lays "FretSchool" "FretSchool" "orderCount" "I" ∈ BIG := bigIn 183 (by rfl) (by rfl)
theorem wd185 : Cond.lays "FretSchool" "FretSchool" "day" "I" ∈ BIG := bigIn 185 (by rfl) (by rfl)
theorem wd188 : Cond.methodLink "FretSchoolLaw" 113 yX5_instruments ∈ BIG := bigIn 188 (by rfl) (by rfl)
theorem wd189 : Cond.instanceMethod yX5_instruments ∈ BIG := bigIn 189 (by rfl) (by rfl)
theorem wd190 : Cond.selects "FretSchool" yX5_instruments yX5_instruments ∈ BIG := bigIn 190 (by rfl) (by rfl)
theorem wd191 : Cond.code yX5_instruments cX5_instruments 1 (some .int) ∈ BIG := bigIn 191 (by rfl) (by rfl)
theorem wd192 : Cond.methodLink "FretSchoolLaw" 160 yX5_today ∈ BIG := bigIn 192 (by rfl) (by rfl)
theorem wd193 : Cond.instanceMethod yX5_today ∈ BIG := bigIn 193 (by rfl) (by rfl)
theorem wd194 : Cond.selects "FretSchool" yX5_today yX5_today ∈ BIG := bigIn 194 (by rfl) (by rfl)
theorem wd195 : Cond.code yX5_today cX5_today 1 (some .int) ∈ BIG := bigIn 195 (by rfl) (by rfl)
theorem wd196 : Cond.methodLink "FretSchoolLaw" 85 yL_begin ∈ BIG := bigIn 196 (by rfl) (by rfl)
theorem wd197 : Cond.static yL_begin ∈ BIG := bigIn 197 (by rfl) (by rfl)
theorem wd198 : Cond.codeWith yL_begin cL_begin 3 (some .int) [(0, 8, 11, 13)] ∈ BIG := bigIn 198 (by rfl) (by rfl)
theorem wd199 : Cond.classLink "FretSchoolLaw" 13 "java/lang/IllegalStateException" ∈ BIG := bigIn 199 (by rfl) (by rfl)
theorem wd200 : Cond.methodLink "FretSchoolLaw" 7 yX5_begin ∈ BIG := bigIn 200 (by rfl) (by rfl)
theorem wd201 : Cond.instanceMethod yX5_begin ∈ BIG := bigIn 201 (by rfl) (by rfl)
theorem wd202 : Cond.selects "FretSchool" yX5_begin yX5_begin ∈ BIG := bigIn 202 (by rfl) (by rfl)
theorem wd203 : Cond.code yX5_begin cX5_begin 2 (some .int) ∈ BIG := bigIn 203 (by rfl) (by rfl)
theorem wd204 : Cond.classLink "FretSchool" 61 "java/lang/IllegalStateException" ∈ BIG := bigIn 204 (by rfl) (by rfl)
theorem wd205 : Cond.instantiable "java/lang/IllegalStateException" 6 ∈ BIG := bigIn 205 (by rfl) (by rfl)
theorem wt206 : Cond.castable "java/lang/IllegalStateException" "java/lang/IllegalStateException" ∈ lw_tbl := List.mem_of_getElem? (i := 206) (by rfl)
theorem wd213 : Cond.selects "java/lang/IllegalStateException" (⟨"java/lang/Throwable", "fillInStackTrace", "(I)Ljava/lang/Throwable;"⟩ : MethodName) (⟨"java/lang/Throwable", "fillInStackTrace", "(I)Ljava/lang/Throwable;"⟩ : MethodName) ∈ BIG := bigIn 213 (by rfl) (by rfl)
theorem wd214 : Cond.selects "java/lang/IllegalStateException" (⟨"java/lang/Throwable", "fillInStackTrace", "()Ljava/lang/Throwable;"⟩ : MethodName) (⟨"java/lang/Throwable", "fillInStackTrace", "()Ljava/lang/Throwable;"⟩ : MethodName) ∈ BIG := bigIn 214 (by rfl) (by rfl)
theorem wd215 : Cond.lays "java/lang/IllegalStateException" "java/lang/Throwable" "cause" "Ljava/lang/Throwable;" ∈ BIG := bigIn 215 (by rfl) (by rfl)
theorem wd216 : Cond.lays "java/lang/Throwable" "java/lang/Throwable" "cause" "Ljava/lang/Throwable;" ∈ BIG := bigIn 216 (by rfl) (by rfl)
theorem wd217 : Cond.lays "java/lang/IllegalStateException" "java/lang/Throwable" "stackTrace" "[Ljava/lang/StackTraceElement;" ∈ BIG := bigIn 217 (by rfl) (by rfl)
theorem wd218 : Cond.lays "java/lang/Throwable" "java/lang/Throwable" "stackTrace" "[Ljava/lang/StackTraceElement;" ∈ BIG := bigIn 218 (by rfl) (by rfl)
theorem wd219 : Cond.lays "java/lang/IllegalStateException" "java/lang/Throwable" "suppressedExceptions" "Ljava/util/List;" ∈ BIG := bigIn 219 (by rfl) (by rfl)
theorem wd220 : Cond.lays "java/lang/Throwable" "java/lang/Throwable" "suppressedExceptions" "Ljava/util/List;" ∈ BIG := bigIn 220 (by rfl) (by rfl)
theorem wd221 : Cond.lays "java/lang/IllegalStateException" "java/lang/Throwable" "detailMessage" "Ljava/lang/String;" ∈ BIG := bigIn 221 (by rfl) (by rfl)
theorem wd222 : Cond.lays "java/lang/Throwable" "java/lang/Throwable" "detailMessage" "Ljava/lang/String;" ∈ BIG := bigIn 222 (by rfl) (by rfl)
theorem wd223 : Cond.lays "java/lang/IllegalStateException" "java/lang/Throwable" "backtrace" "Ljava/lang/Object;" ∈ BIG := bigIn 223 (by rfl) (by rfl)
theorem wd224 : Cond.lays "java/lang/Throwable" "java/lang/Throwable" "backtrace" "Ljava/lang/Object;" ∈ BIG := bigIn 224 (by rfl) (by rfl)
theorem wd225 : Cond.fieldLink "java/lang/Throwable" 198 "java/lang/Throwable" "backtrace" "Ljava/lang/Object;" ∈ BIG := bigIn 225 (by rfl) (by rfl)
theorem wd227 : Cond.instanceMethod (⟨"java/lang/Throwable", "<init>", "()V"⟩ : MethodName) ∈ BIG := bigIn 227 (by rfl) (by rfl)
theorem wd228 : Cond.code (⟨"java/lang/Throwable", "<init>", "()V"⟩ : MethodName) prog_16_method_1_code 1 (none : Option Jvm.ClassFile.FieldType) ∈ BIG := bigIn 228 (by rfl) (by rfl)
theorem wd229 : Cond.methodLink "java/lang/Throwable" 1 (⟨"java/lang/Object", "<init>", "()V"⟩ : MethodName) ∈ BIG := bigIn 229 (by rfl) (by rfl)
theorem wd230 : Cond.fieldLink "java/lang/Throwable" 13 "java/lang/Throwable" "UNASSIGNED_STACK" "[Ljava/lang/StackTraceElement;" ∈ BIG := bigIn 230 (by rfl) (by rfl)
theorem wt231 : Cond.laysStatic "java/lang/Throwable" "UNASSIGNED_STACK" "[Ljava/lang/StackTraceElement;" ∈ lw_tbl := List.mem_of_getElem? (i := 231) (by rfl)
theorem wd232 : Cond.fieldLink "java/lang/Throwable" 20 "java/lang/Throwable" "SUPPRESSED_SENTINEL" "Ljava/util/List;" ∈ BIG := bigIn 232 (by rfl) (by rfl)
theorem wt233 : Cond.laysStatic "java/lang/Throwable" "SUPPRESSED_SENTINEL" "Ljava/util/List;" ∈ lw_tbl := List.mem_of_getElem? (i := 233) (by rfl)
theorem wd234 : Cond.methodLink "java/lang/Throwable" 27 (⟨"java/lang/Throwable", "fillInStackTrace", "()Ljava/lang/Throwable;"⟩ : MethodName) ∈ BIG := bigIn 234 (by rfl) (by rfl)
theorem wd235 : Cond.instanceMethod (⟨"java/lang/Throwable", "fillInStackTrace", "()Ljava/lang/Throwable;"⟩ : MethodName) ∈ BIG := bigIn 235 (by rfl) (by rfl)
theorem wd236 : Cond.sameMethod "java/lang/Throwable" "java/lang/Throwable" "fillInStackTrace" "()Ljava/lang/Throwable;" ∈ BIG := bigIn 236 (by rfl) (by rfl)
theorem wd237 : Cond.selects "java/lang/IllegalArgumentException" (⟨"java/lang/Throwable", "fillInStackTrace", "()Ljava/lang/Throwable;"⟩ : MethodName) (⟨"java/lang/Throwable", "fillInStackTrace", "()Ljava/lang/Throwable;"⟩ : MethodName) ∈ BIG := bigIn 237 (by rfl) (by rfl)
theorem wd238 : Cond.selects "java/lang/IndexOutOfBoundsException" (⟨"java/lang/Throwable", "fillInStackTrace", "()Ljava/lang/Throwable;"⟩ : MethodName) (⟨"java/lang/Throwable", "fillInStackTrace", "()Ljava/lang/Throwable;"⟩ : MethodName) ∈ BIG := bigIn 238 (by rfl) (by rfl)
theorem wd240 : Cond.methodLink "java/lang/Throwable" 202 (⟨"java/lang/Throwable", "fillInStackTrace", "(I)Ljava/lang/Throwable;"⟩ : MethodName) ∈ BIG := bigIn 240 (by rfl) (by rfl)
theorem wd242 : Cond.instanceMethod (⟨"java/lang/Throwable", "fillInStackTrace", "(I)Ljava/lang/Throwable;"⟩ : MethodName) ∈ BIG := bigIn 242 (by rfl) (by rfl)
theorem wd243 : Cond.instantiable "java/lang/Throwable" 6 ∈ BIG := bigIn 243 (by rfl) (by rfl)
theorem wt245 : Cond.stringRef "FretSchool" 63 "there are 8 pieces" ∈ lw_tbl := List.mem_of_getElem? (i := 245) (by rfl)
theorem wd246 : Cond.methodLink "FretSchool" 65 (⟨"java/lang/IllegalStateException", "<init>", "(Ljava/lang/String;)V"⟩ : MethodName) ∈ BIG := bigIn 246 (by rfl) (by rfl)
theorem wd247 : Cond.instanceMethod (⟨"java/lang/IllegalStateException", "<init>", "(Ljava/lang/String;)V"⟩ : MethodName) ∈ BIG := bigIn 247 (by rfl) (by rfl)
theorem wd248 : Cond.code (⟨"java/lang/IllegalStateException", "<init>", "(Ljava/lang/String;)V"⟩ : MethodName) prog_11_method_2_code 2 (none : Option Jvm.ClassFile.FieldType) ∈ BIG := bigIn 248 (by rfl) (by rfl)
theorem wd249 : Cond.methodLink "java/lang/IllegalStateException" 7 (⟨"java/lang/RuntimeException", "<init>", "(Ljava/lang/String;)V"⟩ : MethodName) ∈ BIG := bigIn 249 (by rfl) (by rfl)
theorem wd250 : Cond.instanceMethod (⟨"java/lang/RuntimeException", "<init>", "(Ljava/lang/String;)V"⟩ : MethodName) ∈ BIG := bigIn 250 (by rfl) (by rfl)
theorem wd251 : Cond.code (⟨"java/lang/RuntimeException", "<init>", "(Ljava/lang/String;)V"⟩ : MethodName) prog_14_method_2_code 2 (none : Option Jvm.ClassFile.FieldType) ∈ BIG := bigIn 251 (by rfl) (by rfl)
theorem wd252 : Cond.methodLink "java/lang/RuntimeException" 7 (⟨"java/lang/Exception", "<init>", "(Ljava/lang/String;)V"⟩ : MethodName) ∈ BIG := bigIn 252 (by rfl) (by rfl)
theorem wd253 : Cond.instanceMethod (⟨"java/lang/Exception", "<init>", "(Ljava/lang/String;)V"⟩ : MethodName) ∈ BIG := bigIn 253 (by rfl) (by rfl)
theorem wd254 : Cond.code (⟨"java/lang/Exception", "<init>", "(Ljava/lang/String;)V"⟩ : MethodName) prog_9_method_2_code 2 (none : Option Jvm.ClassFile.FieldType) ∈ BIG := bigIn 254 (by rfl) (by rfl)
theorem wd255 : Cond.methodLink "java/lang/Exception" 7 (⟨"java/lang/Throwable", "<init>", "(Ljava/lang/String;)V"⟩ : MethodName) ∈ BIG := bigIn 255 (by rfl) (by rfl)
theorem wd256 : Cond.instanceMethod (⟨"java/lang/Throwable", "<init>", "(Ljava/lang/String;)V"⟩ : MethodName) ∈ BIG := bigIn 256 (by rfl) (by rfl)
theorem wd257 : Cond.code (⟨"java/lang/Throwable", "<init>", "(Ljava/lang/String;)V"⟩ : MethodName) prog_16_method_2_code 2 (none : Option Jvm.ClassFile.FieldType) ∈ BIG := bigIn 257 (by rfl) (by rfl)
theorem wd258 : Cond.fieldLink "java/lang/Throwable" 198 "java/lang/Throwable" "backtrace" "Ljava/lang/Object;" ∈ BIG := bigIn 258 (by rfl) (by rfl)
theorem wd259 : Cond.fieldLink "java/lang/Throwable" 31 "java/lang/Throwable" "detailMessage" "Ljava/lang/String;" ∈ BIG := bigIn 259 (by rfl) (by rfl)
theorem wd260 : Cond.fieldLink "java/lang/Throwable" 7 "java/lang/Throwable" "cause" "Ljava/lang/Throwable;" ∈ BIG := bigIn 260 (by rfl) (by rfl)
theorem wd261 : Cond.fieldLink "java/lang/Throwable" 17 "java/lang/Throwable" "stackTrace" "[Ljava/lang/StackTraceElement;" ∈ BIG := bigIn 261 (by rfl) (by rfl)
theorem wd262 : Cond.fieldLink "java/lang/Throwable" 24 "java/lang/Throwable" "suppressedExceptions" "Ljava/util/List;" ∈ BIG := bigIn 262 (by rfl) (by rfl)
theorem wd267 : Cond.lays "java/lang/IllegalStateException" "java/lang/Throwable" "depth" "I" ∈ BIG := bigIn 267 (by rfl) (by rfl)
theorem wd271 : Cond.arrayClass .byte ∈ BIG := bigIn 271 (by rfl) (by rfl)
theorem wd272 : Cond.methodLink "FretSchoolLaw" 94 yL_addNote ∈ BIG := bigIn 272 (by rfl) (by rfl)
theorem wd273 : Cond.static yL_addNote ∈ BIG := bigIn 273 (by rfl) (by rfl)
theorem wd274 : Cond.codeWith yL_addNote cL_addNote 5 (some .int) [(0, 10, 13, 19), (0, 10, 17, 21), (0, 10, 21, 13)] ∈ BIG := bigIn 274 (by rfl) (by rfl)
theorem wd275 : Cond.classLink "FretSchoolLaw" 19 "java/lang/IndexOutOfBoundsException" ∈ BIG := bigIn 275 (by rfl) (by rfl)
theorem wd276 : Cond.classLink "FretSchoolLaw" 21 "java/lang/IllegalArgumentException" ∈ BIG := bigIn 276 (by rfl) (by rfl)
theorem wd277 : Cond.methodLink "FretSchoolLaw" 15 yX5_addNote ∈ BIG := bigIn 277 (by rfl) (by rfl)
theorem wd278 : Cond.instanceMethod yX5_addNote ∈ BIG := bigIn 278 (by rfl) (by rfl)
theorem wd279 : Cond.selects "FretSchool" yX5_addNote yX5_addNote ∈ BIG := bigIn 279 (by rfl) (by rfl)
theorem wd280 : Cond.code yX5_addNote cX5_addNote 4 (some .int) ∈ BIG := bigIn 280 (by rfl) (by rfl)
theorem wd281 : Cond.methodLink "FretSchool" 68 yX5_needPiece ∈ BIG := bigIn 281 (by rfl) (by rfl)
theorem wd283 : Cond.instanceMethod yX5_needPiece ∈ BIG := bigIn 283 (by rfl) (by rfl)
theorem wd284 : Cond.code yX5_needPiece cX5_needPiece 2 (none : Option Jvm.ClassFile.FieldType) ∈ BIG := bigIn 284 (by rfl) (by rfl)
theorem wd285 : Cond.classLink "FretSchool" 209 "java/lang/IndexOutOfBoundsException" ∈ BIG := bigIn 285 (by rfl) (by rfl)
theorem wd286 : Cond.instantiable "java/lang/IndexOutOfBoundsException" 6 ∈ BIG := bigIn 286 (by rfl) (by rfl)
theorem wt287 : Cond.castable "java/lang/IndexOutOfBoundsException" "java/lang/IndexOutOfBoundsException" ∈ lw_tbl := List.mem_of_getElem? (i := 287) (by rfl)
theorem wd288 : Cond.selects "java/lang/IndexOutOfBoundsException" (⟨"java/lang/Throwable", "fillInStackTrace", "(I)Ljava/lang/Throwable;"⟩ : MethodName) (⟨"java/lang/Throwable", "fillInStackTrace", "(I)Ljava/lang/Throwable;"⟩ : MethodName) ∈ BIG := bigIn 288 (by rfl) (by rfl)
theorem wd289 : Cond.lays "java/lang/IndexOutOfBoundsException" "java/lang/Throwable" "cause" "Ljava/lang/Throwable;" ∈ BIG := bigIn 289 (by rfl) (by rfl)
theorem wd290 : Cond.lays "java/lang/IndexOutOfBoundsException" "java/lang/Throwable" "stackTrace" "[Ljava/lang/StackTraceElement;" ∈ BIG := bigIn 290 (by rfl) (by rfl)
theorem wd291 : Cond.lays "java/lang/IndexOutOfBoundsException" "java/lang/Throwable" "suppressedExceptions" "Ljava/util/List;" ∈ BIG := bigIn 291 (by rfl) (by rfl)
theorem wd292 : Cond.lays "java/lang/IndexOutOfBoundsException" "java/lang/Throwable" "detailMessage" "Ljava/lang/String;" ∈ BIG := bigIn 292 (by rfl) (by rfl)
theorem wd293 : Cond.lays "java/lang/IndexOutOfBoundsException" "java/lang/Throwable" "backtrace" "Ljava/lang/Object;" ∈ BIG := bigIn 293 (by rfl) (by rfl)
theorem wt294 : Cond.stringRef "FretSchool" 211 "there is no such piece" ∈ lw_tbl := List.mem_of_getElem? (i := 294) (by rfl)
theorem wd295 : Cond.methodLink "FretSchool" 213 (⟨"java/lang/IndexOutOfBoundsException", "<init>", "(Ljava/lang/String;)V"⟩ : MethodName) ∈ BIG := bigIn 295 (by rfl) (by rfl)
theorem wd296 : Cond.instanceMethod (⟨"java/lang/IndexOutOfBoundsException", "<init>", "(Ljava/lang/String;)V"⟩ : MethodName) ∈ BIG := bigIn 296 (by rfl) (by rfl)
theorem wd297 : Cond.code (⟨"java/lang/IndexOutOfBoundsException", "<init>", "(Ljava/lang/String;)V"⟩ : MethodName) prog_12_method_2_code 2 (none : Option Jvm.ClassFile.FieldType) ∈ BIG := bigIn 297 (by rfl) (by rfl)
theorem wd298 : Cond.methodLink "java/lang/IndexOutOfBoundsException" 7 (⟨"java/lang/RuntimeException", "<init>", "(Ljava/lang/String;)V"⟩ : MethodName) ∈ BIG := bigIn 298 (by rfl) (by rfl)
theorem wd299 : Cond.lays "java/lang/IndexOutOfBoundsException" "java/lang/Throwable" "depth" "I" ∈ BIG := bigIn 299 (by rfl) (by rfl)
theorem wd301 : Cond.methodLink "FretSchool" 72 yX5_needRange ∈ BIG := bigIn 301 (by rfl) (by rfl)
theorem wd302 : Cond.static yX5_needRange ∈ BIG := bigIn 302 (by rfl) (by rfl)
theorem wd303 : Cond.code yX5_needRange cX5_needRange 3 (none : Option Jvm.ClassFile.FieldType) ∈ BIG := bigIn 303 (by rfl) (by rfl)
theorem wd304 : Cond.classLink "FretSchool" 220 "java/lang/IllegalArgumentException" ∈ BIG := bigIn 304 (by rfl) (by rfl)
theorem wd305 : Cond.instantiable "java/lang/IllegalArgumentException" 6 ∈ BIG := bigIn 305 (by rfl) (by rfl)
theorem wt306 : Cond.castable "java/lang/IllegalArgumentException" "java/lang/IllegalArgumentException" ∈ lw_tbl := List.mem_of_getElem? (i := 306) (by rfl)
theorem wd307 : Cond.selects "java/lang/IllegalArgumentException" (⟨"java/lang/Throwable", "fillInStackTrace", "(I)Ljava/lang/Throwable;"⟩ : MethodName) (⟨"java/lang/Throwable", "fillInStackTrace", "(I)Ljava/lang/Throwable;"⟩ : MethodName) ∈ BIG := bigIn 307 (by rfl) (by rfl)
theorem wd308 : Cond.lays "java/lang/IllegalArgumentException" "java/lang/Throwable" "cause" "Ljava/lang/Throwable;" ∈ BIG := bigIn 308 (by rfl) (by rfl)
theorem wd309 : Cond.lays "java/lang/IllegalArgumentException" "java/lang/Throwable" "stackTrace" "[Ljava/lang/StackTraceElement;" ∈ BIG := bigIn 309 (by rfl) (by rfl)
theorem wd310 : Cond.lays "java/lang/IllegalArgumentException" "java/lang/Throwable" "suppressedExceptions" "Ljava/util/List;" ∈ BIG := bigIn 310 (by rfl) (by rfl)
theorem wd311 : Cond.lays "java/lang/IllegalArgumentException" "java/lang/Throwable" "detailMessage" "Ljava/lang/String;" ∈ BIG := bigIn 311 (by rfl) (by rfl)
theorem wd312 : Cond.lays "java/lang/IllegalArgumentException" "java/lang/Throwable" "backtrace" "Ljava/lang/Object;" ∈ BIG := bigIn 312 (by rfl) (by rfl)
theorem wt313 : Cond.stringRef "FretSchool" 222 "an argument is out of range" ∈ lw_tbl := List.mem_of_getElem? (i := 313) (by rfl)
theorem wd314 : Cond.methodLink "FretSchool" 224 (⟨"java/lang/IllegalArgumentException", "<init>", "(Ljava/lang/String;)V"⟩ : MethodName) ∈ BIG := bigIn 314 (by rfl) (by rfl)
theorem wd315 : Cond.instanceMethod (⟨"java/lang/IllegalArgumentException", "<init>", "(Ljava/lang/String;)V"⟩ : MethodName) ∈ BIG := bigIn 315 (by rfl) (by rfl)
theorem wd316 : Cond.code (⟨"java/lang/IllegalArgumentException", "<init>", "(Ljava/lang/String;)V"⟩ : MethodName) prog_10_method_2_code 2 (none : Option Jvm.ClassFile.FieldType) ∈ BIG := bigIn 316 (by rfl) (by rfl)
theorem wd317 : Cond.methodLink "java/lang/IllegalArgumentException" 7 (⟨"java/lang/RuntimeException", "<init>", "(Ljava/lang/String;)V"⟩ : MethodName) ∈ BIG := bigIn 317 (by rfl) (by rfl)
theorem wd318 : Cond.lays "java/lang/IllegalArgumentException" "java/lang/Throwable" "depth" "I" ∈ BIG := bigIn 318 (by rfl) (by rfl)
theorem wd320 : Cond.methodLink "FretSchool" 76 yX3_isFull ∈ BIG := bigIn 320 (by rfl) (by rfl)
theorem wd321 : Cond.instanceMethod yX3_isFull ∈ BIG := bigIn 321 (by rfl) (by rfl)
theorem wd322 : Cond.selects "FretSchool$Piece" yX3_isFull yX3_isFull ∈ BIG := bigIn 322 (by rfl) (by rfl)
theorem wd323 : Cond.code yX3_isFull cX3_isFull 1 (some .boolean) ∈ BIG := bigIn 323 (by rfl) (by rfl)
theorem wt324 : Cond.stringRef "FretSchool" 80 "the piece has 16 notes" ∈ lw_tbl := List.mem_of_getElem? (i := 324) (by rfl)
theorem wd325 : Cond.methodLink "FretSchool" 82 yX3_append ∈ BIG := bigIn 325 (by rfl) (by rfl)
theorem wd326 : Cond.instanceMethod yX3_append ∈ BIG := bigIn 326 (by rfl) (by rfl)
theorem wd327 : Cond.selects "FretSchool$Piece" yX3_append yX3_append ∈ BIG := bigIn 327 (by rfl) (by rfl)
theorem wd328 : Cond.code yX3_append cX3_append 2 (none : Option Jvm.ClassFile.FieldType) ∈ BIG := bigIn 328 (by rfl) (by rfl)
theorem wd329 : Cond.methodLink "FretSchool$Piece" 19 yX3_isFull ∈ BIG := bigIn 329 (by rfl) (by rfl)
theorem wd330 : Cond.methodLink "FretSchoolLaw" 98 yL_transpose ∈ BIG := bigIn 330 (by rfl) (by rfl)
theorem wd331 : Cond.static yL_transpose ∈ BIG := bigIn 331 (by rfl) (by rfl)
theorem wd332 : Cond.codeWith yL_transpose cL_transpose 4 (some .int) [(0, 6, 9, 19), (0, 6, 12, 21), (0, 6, 15, 13)] ∈ BIG := bigIn 332 (by rfl) (by rfl)
theorem wd333 : Cond.methodLink "FretSchoolLaw" 23 yX5_transpose ∈ BIG := bigIn 333 (by rfl) (by rfl)
theorem wd334 : Cond.instanceMethod yX5_transpose ∈ BIG := bigIn 334 (by rfl) (by rfl)
theorem wd335 : Cond.selects "FretSchool" yX5_transpose yX5_transpose ∈ BIG := bigIn 335 (by rfl) (by rfl)
theorem wd336 : Cond.code yX5_transpose cX5_transpose 4 (none : Option Jvm.ClassFile.FieldType) ∈ BIG := bigIn 336 (by rfl) (by rfl)
theorem wd337 : Cond.methodLink "FretSchool" 88 yX3_canMove ∈ BIG := bigIn 337 (by rfl) (by rfl)
theorem wd338 : Cond.instanceMethod yX3_canMove ∈ BIG := bigIn 338 (by rfl) (by rfl)
theorem wd339 : Cond.selects "FretSchool$Piece" yX3_canMove yX3_canMove ∈ BIG := bigIn 339 (by rfl) (by rfl)
theorem wd340 : Cond.code yX3_canMove cX3_canMove 4 (some .boolean) ∈ BIG := bigIn 340 (by rfl) (by rfl)
theorem wt341 : Cond.stringRef "FretSchool" 92 "some pitch would not be from 0 to 80" ∈ lw_tbl := List.mem_of_getElem? (i := 341) (by rfl)
theorem wd342 : Cond.methodLink "FretSchool" 94 yX3_move ∈ BIG := bigIn 342 (by rfl) (by rfl)
theorem wd343 : Cond.instanceMethod yX3_move ∈ BIG := bigIn 343 (by rfl) (by rfl)
theorem wd344 : Cond.selects "FretSchool$Piece" yX3_move yX3_move ∈ BIG := bigIn 344 (by rfl) (by rfl)
theorem wd345 : Cond.code yX3_move cX3_move 3 (none : Option Jvm.ClassFile.FieldType) ∈ BIG := bigIn 345 (by rfl) (by rfl)
theorem wd346 : Cond.methodLink "FretSchoolLaw" 102 yL_pitch ∈ BIG := bigIn 346 (by rfl) (by rfl)
theorem wd347 : Cond.static yL_pitch ∈ BIG := bigIn 347 (by rfl) (by rfl)
theorem wd348 : Cond.codeWith yL_pitch cL_pitch 5 (some .int) [(0, 10, 13, 19)] ∈ BIG := bigIn 348 (by rfl) (by rfl)
theorem wd349 : Cond.methodLink "FretSchoolLaw" 27 yX5_pitch ∈ BIG := bigIn 349 (by rfl) (by rfl)
theorem wd350 : Cond.instanceMethod yX5_pitch ∈ BIG := bigIn 350 (by rfl) (by rfl)
theorem wd351 : Cond.selects "FretSchool" yX5_pitch yX5_pitch ∈ BIG := bigIn 351 (by rfl) (by rfl)
theorem wd352 : Cond.code yX5_pitch cX5_pitch 3 (some .int) ∈ BIG := bigIn 352 (by rfl) (by rfl)
theorem wd353 : Cond.methodLink "FretSchool" 97 yX5_needNote ∈ BIG := bigIn 353 (by rfl) (by rfl)
theorem wd355 : Cond.instanceMethod yX5_needNote ∈ BIG := bigIn 355 (by rfl) (by rfl)
theorem wd356 : Cond.code yX5_needNote cX5_needNote 3 (none : Option Jvm.ClassFile.FieldType) ∈ BIG := bigIn 356 (by rfl) (by rfl)
theorem wt357 : Cond.stringRef "FretSchool" 214 "there is no such note" ∈ lw_tbl := List.mem_of_getElem? (i := 357) (by rfl)
theorem wd358 : Cond.methodLink "FretSchoolLaw" 105 yL_tune ∈ BIG := bigIn 358 (by rfl) (by rfl)
theorem wd359 : Cond.static yL_tune ∈ BIG := bigIn 359 (by rfl) (by rfl)
theorem wd360 : Cond.codeWith yL_tune cL_tune 6 (some .int) [(0, 12, 15, 19), (0, 12, 19, 21)] ∈ BIG := bigIn 360 (by rfl) (by rfl)
theorem wd361 : Cond.methodLink "FretSchoolLaw" 30 yX5_tune ∈ BIG := bigIn 361 (by rfl) (by rfl)
theorem wd362 : Cond.instanceMethod yX5_tune ∈ BIG := bigIn 362 (by rfl) (by rfl)
theorem wd363 : Cond.selects "FretSchool" yX5_tune yX5_tune ∈ BIG := bigIn 363 (by rfl) (by rfl)
theorem wd364 : Cond.code yX5_tune cX5_tune 6 (some .int) ∈ BIG := bigIn 364 (by rfl) (by rfl)
theorem wd365 : Cond.methodLink "FretSchool" 104 yX5_needInstrument ∈ BIG := bigIn 365 (by rfl) (by rfl)
theorem wd367 : Cond.instanceMethod yX5_needInstrument ∈ BIG := bigIn 367 (by rfl) (by rfl)
theorem wd368 : Cond.code yX5_needInstrument cX5_needInstrument 2 (none : Option Jvm.ClassFile.FieldType) ∈ BIG := bigIn 368 (by rfl) (by rfl)
theorem wt369 : Cond.stringRef "FretSchool" 216 "there is no such instrument" ∈ lw_tbl := List.mem_of_getElem? (i := 369) (by rfl)
theorem wd370 : Cond.methodLink "FretSchoolLaw" 109 yL_owner ∈ BIG := bigIn 370 (by rfl) (by rfl)
theorem wd371 : Cond.static yL_owner ∈ BIG := bigIn 371 (by rfl) (by rfl)
theorem wd372 : Cond.codeWith yL_owner cL_owner 4 (some .int) [(0, 9, 12, 19)] ∈ BIG := bigIn 372 (by rfl) (by rfl)
theorem wd373 : Cond.methodLink "FretSchoolLaw" 34 yX5_owner ∈ BIG := bigIn 373 (by rfl) (by rfl)
theorem wd374 : Cond.instanceMethod yX5_owner ∈ BIG := bigIn 374 (by rfl) (by rfl)
theorem wd375 : Cond.selects "FretSchool" yX5_owner yX5_owner ∈ BIG := bigIn 375 (by rfl) (by rfl)
theorem wd376 : Cond.code yX5_owner cX5_owner 2 (some .int) ∈ BIG := bigIn 376 (by rfl) (by rfl)
theorem wd377 : Cond.methodLink "FretSchoolLaw" 117 yL_shifts ∈ BIG := bigIn 377 (by rfl) (by rfl)
theorem wd378 : Cond.static yL_shifts ∈ BIG := bigIn 378 (by rfl) (by rfl)
theorem wd379 : Cond.codeWith yL_shifts cL_shifts 5 (some .int) [(0, 10, 13, 19)] ∈ BIG := bigIn 379 (by rfl) (by rfl)
theorem wd380 : Cond.methodLink "FretSchoolLaw" 38 yX5_shifts ∈ BIG := bigIn 380 (by rfl) (by rfl)
theorem wd381 : Cond.instanceMethod yX5_shifts ∈ BIG := bigIn 381 (by rfl) (by rfl)
theorem wd382 : Cond.selects "FretSchool" yX5_shifts yX5_shifts ∈ BIG := bigIn 382 (by rfl) (by rfl)
theorem wd383 : Cond.code yX5_shifts cX5_shifts 3 (some .int) ∈ BIG := bigIn 383 (by rfl) (by rfl)
theorem wd384 : Cond.methodLink "FretSchool" 113 yX5_findBest ∈ BIG := bigIn 384 (by rfl) (by rfl)
theorem wd386 : Cond.instanceMethod yX5_findBest ∈ BIG := bigIn 386 (by rfl) (by rfl)
theorem wd387 : Cond.code yX5_findBest cX5_findBest 3 (some .boolean) ∈ BIG := bigIn 387 (by rfl) (by rfl)
theorem wd388 : Cond.methodLink "FretSchool" 225 yX0_placeBest ∈ BIG := bigIn 388 (by rfl) (by rfl)
theorem wd389 : Cond.instanceMethod yX0_placeBest ∈ BIG := bigIn 389 (by rfl) (by rfl)
theorem wd390 : Cond.selects "FretSchool$Hand" yX0_placeBest yX0_placeBest ∈ BIG := bigIn 390 (by rfl) (by rfl)
theorem wd391 : Cond.code yX0_placeBest cX0_placeBest 4 (some .boolean) ∈ BIG := bigIn 391 (by rfl) (by rfl)
theorem wd392 : Cond.methodLink "FretSchool$Hand" 30 yX0_feelReach ∈ BIG := bigIn 392 (by rfl) (by rfl)
theorem wd394 : Cond.instanceMethod yX0_feelReach ∈ BIG := bigIn 394 (by rfl) (by rfl)
theorem wd395 : Cond.code yX0_feelReach cX0_feelReach 6 (none : Option Jvm.ClassFile.FieldType) ∈ BIG := bigIn 395 (by rfl) (by rfl)
theorem wd396 : Cond.methodLink "FretSchool$Hand" 52 yX1_highestPosition ∈ BIG := bigIn 396 (by rfl) (by rfl)
theorem wd397 : Cond.instanceMethod yX1_highestPosition ∈ BIG := bigIn 397 (by rfl) (by rfl)
theorem wd398 : Cond.selects "FretSchool$Instrument" yX1_highestPosition yX1_highestPosition ∈ BIG := bigIn 398 (by rfl) (by rfl)
theorem wd399 : Cond.code yX1_highestPosition cX1_highestPosition 1 (some .int) ∈ BIG := bigIn 399 (by rfl) (by rfl)
theorem wd400 : Cond.methodLink "FretSchool$Hand" 61 yX1_lowestString ∈ BIG := bigIn 400 (by rfl) (by rfl)
theorem wd401 : Cond.instanceMethod yX1_lowestString ∈ BIG := bigIn 401 (by rfl) (by rfl)
theorem wd402 : Cond.selects "FretSchool$Instrument" yX1_lowestString yX1_lowestString ∈ BIG := bigIn 402 (by rfl) (by rfl)
theorem wd403 : Cond.code yX1_lowestString cX1_lowestString 5 (some .int) ∈ BIG := bigIn 403 (by rfl) (by rfl)
theorem wd404 : Cond.methodLink "FretSchool$Hand" 39 yX0_measureRest ∈ BIG := bigIn 404 (by rfl) (by rfl)
theorem wd406 : Cond.instanceMethod yX0_measureRest ∈ BIG := bigIn 406 (by rfl) (by rfl)
theorem wd407 : Cond.code yX0_measureRest cX0_measureRest 5 (none : Option Jvm.ClassFile.FieldType) ∈ BIG := bigIn 407 (by rfl) (by rfl)
theorem wd408 : Cond.methodLink "FretSchool$Hand" 65 yX0_nearest ∈ BIG := bigIn 408 (by rfl) (by rfl)
theorem wd410 : Cond.instanceMethod yX0_nearest ∈ BIG := bigIn 410 (by rfl) (by rfl)
theorem wd411 : Cond.code yX0_nearest cX0_nearest 7 (some .int) ∈ BIG := bigIn 411 (by rfl) (by rfl)
theorem wd412 : Cond.constant "FretSchool$Hand" 51 (1000000 : Int32) ∈ BIG := bigIn 412 (by rfl) (by rfl)
theorem wd413 : Cond.methodLink "FretSchool$Hand" 72 yX0_shift ∈ BIG := bigIn 413 (by rfl) (by rfl)
theorem wd414 : Cond.static yX0_shift ∈ BIG := bigIn 414 (by rfl) (by rfl)
theorem wd415 : Cond.code yX0_shift cX0_shift 2 (some .int) ∈ BIG := bigIn 415 (by rfl) (by rfl)
theorem wd416 : Cond.methodLink "FretSchool$Hand" 75 yJ9_abs_0f7a4 ∈ BIG := bigIn 416 (by rfl) (by rfl)
theorem wd417 : Cond.static yJ9_abs_0f7a4 ∈ BIG := bigIn 417 (by rfl) (by rfl)
theorem wd418 : Cond.code yJ9_abs_0f7a4 cJ9_abs_0f7a4 1 (some .int) ∈ BIG := bigIn 418 (by rfl) (by rfl)
theorem wd419 : Cond.methodLink "FretSchool$Hand" 68 yX0_canReach ∈ BIG := bigIn 419 (by rfl) (by rfl)
theorem wd420 : Cond.static yX0_canReach ∈ BIG := bigIn 420 (by rfl) (by rfl)
theorem wd421 : Cond.code yX0_canReach cX0_canReach 2 (some .boolean) ∈ BIG := bigIn 421 (by rfl) (by rfl)
theorem wd422 : Cond.methodLink "FretSchool$Hand" 43 yX0_chooseRow ∈ BIG := bigIn 422 (by rfl) (by rfl)
theorem wd424 : Cond.instanceMethod yX0_chooseRow ∈ BIG := bigIn 424 (by rfl) (by rfl)
theorem wd425 : Cond.code yX0_chooseRow cX0_chooseRow 6 (some .boolean) ∈ BIG := bigIn 425 (by rfl) (by rfl)
theorem wd426 : Cond.methodLink "FretSchoolLaw" 120 yL_shiftsByAll ∈ BIG := bigIn 426 (by rfl) (by rfl)
theorem wd427 : Cond.static yL_shiftsByAll ∈ BIG := bigIn 427 (by rfl) (by rfl)
theorem wd428 : Cond.codeWith yL_shiftsByAll cL_shiftsByAll 5 (some .int) [(0, 10, 13, 19), (0, 10, 17, 13)] ∈ BIG := bigIn 428 (by rfl) (by rfl)
theorem wd429 : Cond.methodLink "FretSchoolLaw" 41 yX5_shiftsByAll ∈ BIG := bigIn 429 (by rfl) (by rfl)
theorem wd430 : Cond.instanceMethod yX5_shiftsByAll ∈ BIG := bigIn 430 (by rfl) (by rfl)
theorem wd431 : Cond.selects "FretSchool" yX5_shiftsByAll yX5_shiftsByAll ∈ BIG := bigIn 431 (by rfl) (by rfl)
theorem wd432 : Cond.code yX5_shiftsByAll cX5_shiftsByAll 3 (some .int) ∈ BIG := bigIn 432 (by rfl) (by rfl)
theorem wt433 : Cond.stringRef "FretSchool" 120 "the piece has more than 4 notes" ∈ lw_tbl := List.mem_of_getElem? (i := 433) (by rfl)
theorem wd434 : Cond.methodLink "FretSchool" 122 yX0_leastByAll ∈ BIG := bigIn 434 (by rfl) (by rfl)
theorem wd435 : Cond.instanceMethod yX0_leastByAll ∈ BIG := bigIn 435 (by rfl) (by rfl)
theorem wd436 : Cond.selects "FretSchool$Hand" yX0_leastByAll yX0_leastByAll ∈ BIG := bigIn 436 (by rfl) (by rfl)
theorem wd437 : Cond.code yX0_leastByAll cX0_leastByAll 4 (some .int) ∈ BIG := bigIn 437 (by rfl) (by rfl)
theorem wd438 : Cond.methodLink "FretSchool$Hand" 47 yX0_leastFrom ∈ BIG := bigIn 438 (by rfl) (by rfl)
theorem wd439 : Cond.static yX0_leastFrom ∈ BIG := bigIn 439 (by rfl) (by rfl)
set_option maxRecDepth 20000 in
theorem wd440 : Cond.code yX0_leastFrom cX0_leastFrom 7 (some .int) ∈ BIG := bigIn 440 (by rfl) (by rfl)
set_option maxRecDepth 20000 in
theorem wd441 : Cond.methodLink "FretSchoolLaw" 123 yL_hardest ∈ BIG := bigIn 441 (by rfl) (by rfl)
set_option maxRecDepth 20000 in
theorem wd442 : Cond.static yL_hardest ∈ BIG := bigIn 442 (by rfl) (by rfl)
set_option maxRecDepth 20000 in
theorem wd443 : Cond.codeWith yL_hardest cL_hardest 5 (some .int) [(0, 10, 13, 19)] ∈ BIG := bigIn 443 (by rfl) (by rfl)
set_option maxRecDepth 20000 in
theorem wd444 : Cond.methodLink "FretSchoolLaw" 44 yX5_hardest ∈ BIG := bigIn 444 (by rfl) (by rfl)
set_option maxRecDepth 20000 in
theorem wd445 : Cond.instanceMethod yX5_hardest ∈ BIG := bigIn 445 (by rfl) (by rfl)
set_option maxRecDepth 20000 in
theorem wd446 : Cond.selects "FretSchool" yX5_hardest yX5_hardest ∈ BIG := bigIn 446 (by rfl) (by rfl)
set_option maxRecDepth 20000 in
theorem wd447 : Cond.code yX5_hardest cX5_hardest 3 (some .int) ∈ BIG := bigIn 447 (by rfl) (by rfl)
set_option maxRecDepth 20000 in
theorem wd448 : Cond.methodLink "FretSchoolLaw" 126 yL_position ∈ BIG := bigIn 448 (by rfl) (by rfl)
set_option maxRecDepth 20000 in
theorem wd449 : Cond.static yL_position ∈ BIG := bigIn 449 (by rfl) (by rfl)
set_option maxRecDepth 20000 in
theorem wd450 : Cond.codeWith yL_position cL_position 6 (some .int) [(0, 12, 15, 19)] ∈ BIG := bigIn 450 (by rfl) (by rfl)
set_option maxRecDepth 20000 in
theorem wd451 : Cond.methodLink "FretSchoolLaw" 47 yX5_position ∈ BIG := bigIn 451 (by rfl) (by rfl)
set_option maxRecDepth 20000 in
theorem wd452 : Cond.instanceMethod yX5_position ∈ BIG := bigIn 452 (by rfl) (by rfl)
set_option maxRecDepth 20000 in
theorem wd453 : Cond.selects "FretSchool" yX5_position yX5_position ∈ BIG := bigIn 453 (by rfl) (by rfl)
set_option maxRecDepth 20000 in
theorem wd454 : Cond.code yX5_position cX5_position 4 (some .int) ∈ BIG := bigIn 454 (by rfl) (by rfl)
set_option maxRecDepth 20000 in
theorem wd455 : Cond.methodLink "FretSchoolLaw" 129 yL_string ∈ BIG := bigIn 455 (by rfl) (by rfl)
set_option maxRecDepth 20000 in
theorem wd456 : Cond.static yL_string ∈ BIG := bigIn 456 (by rfl) (by rfl)
set_option maxRecDepth 20000 in
theorem wd457 : Cond.codeWith yL_string cL_string 6 (some .int) [(0, 12, 15, 19)] ∈ BIG := bigIn 457 (by rfl) (by rfl)
set_option maxRecDepth 20000 in
theorem wd458 : Cond.methodLink "FretSchoolLaw" 50 yX5_string ∈ BIG := bigIn 458 (by rfl) (by rfl)
set_option maxRecDepth 20000 in
theorem wd459 : Cond.instanceMethod yX5_string ∈ BIG := bigIn 459 (by rfl) (by rfl)
set_option maxRecDepth 20000 in
theorem wd460 : Cond.selects "FretSchool" yX5_string yX5_string ∈ BIG := bigIn 460 (by rfl) (by rfl)
set_option maxRecDepth 20000 in
theorem wd461 : Cond.code yX5_string cX5_string 4 (some .int) ∈ BIG := bigIn 461 (by rfl) (by rfl)
set_option maxRecDepth 20000 in
theorem wd462 : Cond.methodLink "FretSchool" 132 yX1_lowestString ∈ BIG := bigIn 462 (by rfl) (by rfl)
set_option maxRecDepth 20000 in
theorem wd463 : Cond.methodLink "FretSchoolLaw" 132 yL_learn ∈ BIG := bigIn 463 (by rfl) (by rfl)
set_option maxRecDepth 20000 in
theorem wd464 : Cond.static yL_learn ∈ BIG := bigIn 464 (by rfl) (by rfl)
set_option maxRecDepth 20000 in
theorem wd465 : Cond.codeWith yL_learn cL_learn 6 (some .int) [(0, 12, 15, 19), (0, 12, 19, 21), (0, 12, 23, 13)] ∈ BIG := bigIn 465 (by rfl) (by rfl)
set_option maxRecDepth 20000 in
theorem wd466 : Cond.methodLink "FretSchoolLaw" 53 yX5_learn ∈ BIG := bigIn 466 (by rfl) (by rfl)
set_option maxRecDepth 20000 in
theorem wd467 : Cond.instanceMethod yX5_learn ∈ BIG := bigIn 467 (by rfl) (by rfl)
set_option maxRecDepth 20000 in
theorem wd468 : Cond.selects "FretSchool" yX5_learn yX5_learn ∈ BIG := bigIn 468 (by rfl) (by rfl)
set_option maxRecDepth 20000 in
theorem wd469 : Cond.code yX5_learn cX5_learn 6 (some .int) ∈ BIG := bigIn 469 (by rfl) (by rfl)
set_option maxRecDepth 20000 in
theorem wd470 : Cond.methodLink "FretSchool" 136 yX5_needPupil ∈ BIG := bigIn 470 (by rfl) (by rfl)
set_option maxRecDepth 20000 in
theorem wd471 : Cond.static yX5_needPupil ∈ BIG := bigIn 471 (by rfl) (by rfl)
set_option maxRecDepth 20000 in
theorem wd472 : Cond.code yX5_needPupil cX5_needPupil 1 (none : Option Jvm.ClassFile.FieldType) ∈ BIG := bigIn 472 (by rfl) (by rfl)
set_option maxRecDepth 20000 in
theorem wd473 : Cond.methodLink "FretSchool" 139 yX4_knows ∈ BIG := bigIn 473 (by rfl) (by rfl)
set_option maxRecDepth 20000 in
theorem wd474 : Cond.instanceMethod yX4_knows ∈ BIG := bigIn 474 (by rfl) (by rfl)
set_option maxRecDepth 20000 in
theorem wd475 : Cond.selects "FretSchool$Pupil" yX4_knows yX4_knows ∈ BIG := bigIn 475 (by rfl) (by rfl)
set_option maxRecDepth 20000 in
theorem wd476 : Cond.code yX4_knows cX4_knows 2 (some .boolean) ∈ BIG := bigIn 476 (by rfl) (by rfl)
set_option maxRecDepth 20000 in
theorem wt477 : Cond.stringRef "FretSchool" 142 "the pupil knows the piece" ∈ lw_tbl := List.mem_of_getElem? (i := 477) (by rfl)
set_option maxRecDepth 20000 in
theorem wd478 : Cond.methodLink "FretSchool" 144 yX5_learnableShift ∈ BIG := bigIn 478 (by rfl) (by rfl)
set_option maxRecDepth 20000 in
theorem wd480 : Cond.instanceMethod yX5_learnableShift ∈ BIG := bigIn 480 (by rfl) (by rfl)
set_option maxRecDepth 20000 in
theorem wd481 : Cond.code yX5_learnableShift cX5_learnableShift 4 (some .int) ∈ BIG := bigIn 481 (by rfl) (by rfl)
set_option maxRecDepth 20000 in
theorem wt482 : Cond.stringRef "FretSchool" 148 "the pupil cannot learn the piece there" ∈ lw_tbl := List.mem_of_getElem? (i := 482) (by rfl)
set_option maxRecDepth 20000 in
theorem wd483 : Cond.methodLink "FretSchool" 150 yX4_takeIn ∈ BIG := bigIn 483 (by rfl) (by rfl)
set_option maxRecDepth 20000 in
theorem wd484 : Cond.instanceMethod yX4_takeIn ∈ BIG := bigIn 484 (by rfl) (by rfl)
set_option maxRecDepth 20000 in
theorem wd485 : Cond.selects "FretSchool$Pupil" yX4_takeIn yX4_takeIn ∈ BIG := bigIn 485 (by rfl) (by rfl)
set_option maxRecDepth 20000 in
theorem wd486 : Cond.code yX4_takeIn cX4_takeIn 3 (none : Option Jvm.ClassFile.FieldType) ∈ BIG := bigIn 486 (by rfl) (by rfl)
set_option maxRecDepth 20000 in
theorem wd487 : Cond.methodLink "FretSchoolLaw" 135 yL_level ∈ BIG := bigIn 487 (by rfl) (by rfl)
set_option maxRecDepth 20000 in
theorem wd488 : Cond.static yL_level ∈ BIG := bigIn 488 (by rfl) (by rfl)
set_option maxRecDepth 20000 in
theorem wd489 : Cond.codeWith yL_level cL_level 4 (some .int) [(0, 9, 12, 21)] ∈ BIG := bigIn 489 (by rfl) (by rfl)
set_option maxRecDepth 20000 in
theorem wd490 : Cond.methodLink "FretSchoolLaw" 56 yX5_level ∈ BIG := bigIn 490 (by rfl) (by rfl)
set_option maxRecDepth 20000 in
theorem wd491 : Cond.instanceMethod yX5_level ∈ BIG := bigIn 491 (by rfl) (by rfl)
set_option maxRecDepth 20000 in
theorem wd492 : Cond.selects "FretSchool" yX5_level yX5_level ∈ BIG := bigIn 492 (by rfl) (by rfl)
set_option maxRecDepth 20000 in
theorem wd493 : Cond.code yX5_level cX5_level 2 (some .int) ∈ BIG := bigIn 493 (by rfl) (by rfl)
set_option maxRecDepth 20000 in
theorem wd494 : Cond.methodLink "FretSchoolLaw" 138 yL_known ∈ BIG := bigIn 494 (by rfl) (by rfl)
set_option maxRecDepth 20000 in
theorem wd495 : Cond.static yL_known ∈ BIG := bigIn 495 (by rfl) (by rfl)
set_option maxRecDepth 20000 in
theorem wd496 : Cond.codeWith yL_known cL_known 4 (some .int) [(0, 9, 12, 21)] ∈ BIG := bigIn 496 (by rfl) (by rfl)
set_option maxRecDepth 20000 in
theorem wd497 : Cond.methodLink "FretSchoolLaw" 59 yX5_known ∈ BIG := bigIn 497 (by rfl) (by rfl)
set_option maxRecDepth 20000 in
theorem wd498 : Cond.instanceMethod yX5_known ∈ BIG := bigIn 498 (by rfl) (by rfl)
set_option maxRecDepth 20000 in
theorem wd499 : Cond.selects "FretSchool" yX5_known yX5_known ∈ BIG := bigIn 499 (by rfl) (by rfl)
set_option maxRecDepth 20000 in
theorem wd500 : Cond.code yX5_known cX5_known 2 (some .int) ∈ BIG := bigIn 500 (by rfl) (by rfl)
set_option maxRecDepth 20000 in
theorem wd501 : Cond.methodLink "FretSchoolLaw" 141 yL_next ∈ BIG := bigIn 501 (by rfl) (by rfl)
set_option maxRecDepth 20000 in
theorem wd502 : Cond.static yL_next ∈ BIG := bigIn 502 (by rfl) (by rfl)
set_option maxRecDepth 20000 in
theorem wd503 : Cond.codeWith yL_next cL_next 4 (some .int) [(0, 9, 12, 21)] ∈ BIG := bigIn 503 (by rfl) (by rfl)
set_option maxRecDepth 20000 in
theorem wd504 : Cond.methodLink "FretSchoolLaw" 62 yX5_next ∈ BIG := bigIn 504 (by rfl) (by rfl)
set_option maxRecDepth 20000 in
theorem wd505 : Cond.instanceMethod yX5_next ∈ BIG := bigIn 505 (by rfl) (by rfl)
set_option maxRecDepth 20000 in
theorem wd506 : Cond.selects "FretSchool" yX5_next yX5_next ∈ BIG := bigIn 506 (by rfl) (by rfl)
set_option maxRecDepth 20000 in
theorem wd507 : Cond.code yX5_next cX5_next 6 (some .int) ∈ BIG := bigIn 507 (by rfl) (by rfl)
set_option maxRecDepth 20000 in
theorem wd508 : Cond.methodLink "FretSchool" 159 yX5_easiestShift ∈ BIG := bigIn 508 (by rfl) (by rfl)
set_option maxRecDepth 20000 in
theorem wd510 : Cond.instanceMethod yX5_easiestShift ∈ BIG := bigIn 510 (by rfl) (by rfl)
set_option maxRecDepth 20000 in
theorem wd511 : Cond.code yX5_easiestShift cX5_easiestShift 6 (some .int) ∈ BIG := bigIn 511 (by rfl) (by rfl)
set_option maxRecDepth 20000 in
theorem wd512 : Cond.methodLink "FretSchoolLaw" 144 yL_addWood ∈ BIG := bigIn 512 (by rfl) (by rfl)
set_option maxRecDepth 20000 in
theorem wd513 : Cond.static yL_addWood ∈ BIG := bigIn 513 (by rfl) (by rfl)
set_option maxRecDepth 20000 in
theorem wd514 : Cond.codeWith yL_addWood cL_addWood 5 (some .int) [(0, 10, 13, 21)] ∈ BIG := bigIn 514 (by rfl) (by rfl)
set_option maxRecDepth 20000 in
theorem wd515 : Cond.methodLink "FretSchoolLaw" 65 yX5_addWood ∈ BIG := bigIn 515 (by rfl) (by rfl)
set_option maxRecDepth 20000 in
theorem wd516 : Cond.instanceMethod yX5_addWood ∈ BIG := bigIn 516 (by rfl) (by rfl)
set_option maxRecDepth 20000 in
theorem wd517 : Cond.selects "FretSchool" yX5_addWood yX5_addWood ∈ BIG := bigIn 517 (by rfl) (by rfl)
set_option maxRecDepth 20000 in
theorem wd518 : Cond.code yX5_addWood cX5_addWood 3 (some .int) ∈ BIG := bigIn 518 (by rfl) (by rfl)
set_option maxRecDepth 20000 in
theorem wd519 : Cond.methodLink "FretSchoolLaw" 147 yL_order ∈ BIG := bigIn 519 (by rfl) (by rfl)
set_option maxRecDepth 20000 in
theorem wd520 : Cond.static yL_order ∈ BIG := bigIn 520 (by rfl) (by rfl)
set_option maxRecDepth 20000 in
theorem wd521 : Cond.codeWith yL_order cL_order 6 (some .int) [(0, 12, 15, 21), (0, 12, 19, 13)] ∈ BIG := bigIn 521 (by rfl) (by rfl)
set_option maxRecDepth 20000 in
theorem wd522 : Cond.methodLink "FretSchoolLaw" 68 yX5_order ∈ BIG := bigIn 522 (by rfl) (by rfl)
set_option maxRecDepth 20000 in
theorem wd523 : Cond.instanceMethod yX5_order ∈ BIG := bigIn 523 (by rfl) (by rfl)
set_option maxRecDepth 20000 in
theorem wd524 : Cond.selects "FretSchool" yX5_order yX5_order ∈ BIG := bigIn 524 (by rfl) (by rfl)
set_option maxRecDepth 20000 in
theorem wd525 : Cond.code yX5_order cX5_order 5 (some .int) ∈ BIG := bigIn 525 (by rfl) (by rfl)
set_option maxRecDepth 20000 in
theorem wt526 : Cond.stringRef "FretSchool" 162 "there is too little of the wood" ∈ lw_tbl := List.mem_of_getElem? (i := 526) (by rfl)
set_option maxRecDepth 20000 in
theorem wd527 : Cond.methodLink "FretSchool" 164 yX5_ordersAtWork ∈ BIG := bigIn 527 (by rfl) (by rfl)
set_option maxRecDepth 20000 in
theorem wd529 : Cond.instanceMethod yX5_ordersAtWork ∈ BIG := bigIn 529 (by rfl) (by rfl)
set_option maxRecDepth 20000 in
theorem wd530 : Cond.code yX5_ordersAtWork cX5_ordersAtWork 3 (some .int) ∈ BIG := bigIn 530 (by rfl) (by rfl)
set_option maxRecDepth 20000 in
theorem wd531 : Cond.methodLink "FretSchool" 181 yX2_isReady ∈ BIG := bigIn 531 (by rfl) (by rfl)
set_option maxRecDepth 20000 in
theorem wd532 : Cond.instanceMethod yX2_isReady ∈ BIG := bigIn 532 (by rfl) (by rfl)
set_option maxRecDepth 20000 in
theorem wd533 : Cond.selects "FretSchool$Order" yX2_isReady yX2_isReady ∈ BIG := bigIn 533 (by rfl) (by rfl)
set_option maxRecDepth 20000 in
theorem wd534 : Cond.code yX2_isReady cX2_isReady 2 (some .boolean) ∈ BIG := bigIn 534 (by rfl) (by rfl)
set_option maxRecDepth 20000 in
theorem wt535 : Cond.stringRef "FretSchool" 168 "two orders are at work" ∈ lw_tbl := List.mem_of_getElem? (i := 535) (by rfl)
set_option maxRecDepth 20000 in
theorem wt536 : Cond.stringRef "FretSchool" 170 "there are 20 orders" ∈ lw_tbl := List.mem_of_getElem? (i := 536) (by rfl)
set_option maxRecDepth 20000 in
theorem wd537 : Cond.methodLink "FretSchool" 172 yX2_place ∈ BIG := bigIn 537 (by rfl) (by rfl)
set_option maxRecDepth 20000 in
theorem wd538 : Cond.instanceMethod yX2_place ∈ BIG := bigIn 538 (by rfl) (by rfl)
set_option maxRecDepth 20000 in
theorem wd539 : Cond.selects "FretSchool$Order" yX2_place yX2_place ∈ BIG := bigIn 539 (by rfl) (by rfl)
set_option maxRecDepth 20000 in
theorem wd540 : Cond.code yX2_place cX2_place 4 (none : Option Jvm.ClassFile.FieldType) ∈ BIG := bigIn 540 (by rfl) (by rfl)
set_option maxRecDepth 20000 in
theorem wd541 : Cond.methodLink "FretSchoolLaw" 150 yL_ready ∈ BIG := bigIn 541 (by rfl) (by rfl)
set_option maxRecDepth 20000 in
theorem wd542 : Cond.static yL_ready ∈ BIG := bigIn 542 (by rfl) (by rfl)
set_option maxRecDepth 20000 in
theorem wd543 : Cond.codeWith yL_ready cL_ready 4 (some .int) [(0, 9, 12, 19)] ∈ BIG := bigIn 543 (by rfl) (by rfl)
set_option maxRecDepth 20000 in
theorem wd544 : Cond.methodLink "FretSchoolLaw" 71 yX5_ready ∈ BIG := bigIn 544 (by rfl) (by rfl)
set_option maxRecDepth 20000 in
theorem wd545 : Cond.instanceMethod yX5_ready ∈ BIG := bigIn 545 (by rfl) (by rfl)
set_option maxRecDepth 20000 in
theorem wd546 : Cond.selects "FretSchool" yX5_ready yX5_ready ∈ BIG := bigIn 546 (by rfl) (by rfl)
set_option maxRecDepth 20000 in
theorem wd547 : Cond.code yX5_ready cX5_ready 2 (some .int) ∈ BIG := bigIn 547 (by rfl) (by rfl)
set_option maxRecDepth 20000 in
theorem wd548 : Cond.methodLink "FretSchool" 175 yX5_needOrder ∈ BIG := bigIn 548 (by rfl) (by rfl)
set_option maxRecDepth 20000 in
theorem wd550 : Cond.instanceMethod yX5_needOrder ∈ BIG := bigIn 550 (by rfl) (by rfl)
set_option maxRecDepth 20000 in
theorem wd551 : Cond.code yX5_needOrder cX5_needOrder 2 (none : Option Jvm.ClassFile.FieldType) ∈ BIG := bigIn 551 (by rfl) (by rfl)
set_option maxRecDepth 20000 in
theorem wt552 : Cond.stringRef "FretSchool" 218 "there is no such order" ∈ lw_tbl := List.mem_of_getElem? (i := 552) (by rfl)
set_option maxRecDepth 20000 in
theorem wd553 : Cond.methodLink "FretSchoolLaw" 153 yL_fetch ∈ BIG := bigIn 553 (by rfl) (by rfl)
set_option maxRecDepth 20000 in
theorem wd554 : Cond.static yL_fetch ∈ BIG := bigIn 554 (by rfl) (by rfl)
set_option maxRecDepth 20000 in
theorem wd555 : Cond.codeWith yL_fetch cL_fetch 8 (some .int) [(0, 16, 19, 19), (0, 16, 23, 21), (0, 16, 27, 13)] ∈ BIG := bigIn 555 (by rfl) (by rfl)
set_option maxRecDepth 20000 in
theorem wd556 : Cond.methodLink "FretSchoolLaw" 74 yX5_fetch ∈ BIG := bigIn 556 (by rfl) (by rfl)
set_option maxRecDepth 20000 in
theorem wd557 : Cond.instanceMethod yX5_fetch ∈ BIG := bigIn 557 (by rfl) (by rfl)
set_option maxRecDepth 20000 in
theorem wd558 : Cond.selects "FretSchool" yX5_fetch yX5_fetch ∈ BIG := bigIn 558 (by rfl) (by rfl)
set_option maxRecDepth 20000 in
theorem wd559 : Cond.code yX5_fetch cX5_fetch 8 (some .int) ∈ BIG := bigIn 559 (by rfl) (by rfl)
set_option maxRecDepth 20000 in
theorem wt560 : Cond.stringRef "FretSchool" 184 "the order is not ready" ∈ lw_tbl := List.mem_of_getElem? (i := 560) (by rfl)
set_option maxRecDepth 20000 in
theorem wt561 : Cond.stringRef "FretSchool" 190 "the order was fetched" ∈ lw_tbl := List.mem_of_getElem? (i := 561) (by rfl)
set_option maxRecDepth 20000 in
theorem wt562 : Cond.stringRef "FretSchool" 192 "there are 8 instruments" ∈ lw_tbl := List.mem_of_getElem? (i := 562) (by rfl)
set_option maxRecDepth 20000 in
theorem wd563 : Cond.methodLink "FretSchool" 200 yX1_build ∈ BIG := bigIn 563 (by rfl) (by rfl)
set_option maxRecDepth 20000 in
theorem wd564 : Cond.instanceMethod yX1_build ∈ BIG := bigIn 564 (by rfl) (by rfl)
set_option maxRecDepth 20000 in
theorem wd565 : Cond.selects "FretSchool$Instrument" yX1_build yX1_build ∈ BIG := bigIn 565 (by rfl) (by rfl)
set_option maxRecDepth 20000 in
theorem wd566 : Cond.code yX1_build cX1_build 3 (none : Option Jvm.ClassFile.FieldType) ∈ BIG := bigIn 566 (by rfl) (by rfl)
set_option maxRecDepth 20000 in
theorem wd567 : Cond.methodLink "FretSchool" 203 yX1_tuneAll ∈ BIG := bigIn 567 (by rfl) (by rfl)
set_option maxRecDepth 20000 in
theorem wd568 : Cond.instanceMethod yX1_tuneAll ∈ BIG := bigIn 568 (by rfl) (by rfl)
set_option maxRecDepth 20000 in
theorem wd569 : Cond.selects "FretSchool$Instrument" yX1_tuneAll yX1_tuneAll ∈ BIG := bigIn 569 (by rfl) (by rfl)
set_option maxRecDepth 20000 in
theorem wd570 : Cond.code yX1_tuneAll cX1_tuneAll 5 (none : Option Jvm.ClassFile.FieldType) ∈ BIG := bigIn 570 (by rfl) (by rfl)
set_option maxRecDepth 20000 in
theorem wd571 : Cond.methodLink "FretSchoolLaw" 157 yL_pass ∈ BIG := bigIn 571 (by rfl) (by rfl)
set_option maxRecDepth 20000 in
theorem wd572 : Cond.static yL_pass ∈ BIG := bigIn 572 (by rfl) (by rfl)
set_option maxRecDepth 20000 in
theorem wd573 : Cond.codeWith yL_pass cL_pass 4 (some .int) [(0, 9, 12, 21), (0, 9, 15, 13)] ∈ BIG := bigIn 573 (by rfl) (by rfl)
set_option maxRecDepth 20000 in
theorem wd574 : Cond.methodLink "FretSchoolLaw" 78 yX5_pass ∈ BIG := bigIn 574 (by rfl) (by rfl)
set_option maxRecDepth 20000 in
theorem wd575 : Cond.instanceMethod yX5_pass ∈ BIG := bigIn 575 (by rfl) (by rfl)
set_option maxRecDepth 20000 in
theorem wd576 : Cond.selects "FretSchool" yX5_pass yX5_pass ∈ BIG := bigIn 576 (by rfl) (by rfl)
set_option maxRecDepth 20000 in
theorem wd577 : Cond.code yX5_pass cX5_pass 2 (some .int) ∈ BIG := bigIn 577 (by rfl) (by rfl)
set_option maxRecDepth 20000 in
theorem wt578 : Cond.stringRef "FretSchool" 207 "today would be above 5000" ∈ lw_tbl := List.mem_of_getElem? (i := 578) (by rfl)
set_option maxRecDepth 20000 in
theorem wd579 : Cond.classLink "FretSchoolLaw" 82 "FretSchoolModel" ∈ BIG := bigIn 579 (by rfl) (by rfl)
set_option maxRecDepth 20000 in
theorem wd580 : Cond.instantiable "FretSchoolModel" 19 ∈ BIG := bigIn 580 (by rfl) (by rfl)
set_option maxRecDepth 20000 in
theorem wd581 : Cond.methodLink "FretSchoolLaw" 84 yX6_init ∈ BIG := bigIn 581 (by rfl) (by rfl)
set_option maxRecDepth 20000 in
theorem wd582 : Cond.instanceMethod yX6_init ∈ BIG := bigIn 582 (by rfl) (by rfl)
set_option maxRecDepth 20000 in
theorem wd583 : Cond.code yX6_init cX6_init 2 (none : Option Jvm.ClassFile.FieldType) ∈ BIG := bigIn 583 (by rfl) (by rfl)
set_option maxRecDepth 20000 in
theorem wd584 : Cond.methodLink "FretSchoolModel" 1 (⟨"java/lang/Object", "<init>", "()V"⟩ : MethodName) ∈ BIG := bigIn 584 (by rfl) (by rfl)
set_option maxRecDepth 20000 in
theorem wd585 : Cond.fieldLink "FretSchoolModel" 127 "FretSchoolModel" "today" "I" ∈ BIG := bigIn 585 (by rfl) (by rfl)
set_option maxRecDepth 20000 in
theorem wd586 : Cond.fieldLink "FretSchoolModel" 57 "FretSchoolModel" "pieces" "I" ∈ BIG := bigIn 586 (by rfl) (by rfl)
set_option maxRecDepth 20000 in
theorem wd587 : Cond.fieldLink "FretSchoolModel" 7 "FretSchoolModel" "many" "[I" ∈ BIG := bigIn 587 (by rfl) (by rfl)
set_option maxRecDepth 20000 in
theorem wd588 : Cond.fieldLink "FretSchoolModel" 13 "FretSchoolModel" "pitch" "[I" ∈ BIG := bigIn 588 (by rfl) (by rfl)
set_option maxRecDepth 20000 in
theorem wd589 : Cond.fieldLink "FretSchoolModel" 68 "FretSchoolModel" "instruments" "I" ∈ BIG := bigIn 589 (by rfl) (by rfl)
set_option maxRecDepth 20000 in
theorem wd590 : Cond.fieldLink "FretSchoolModel" 16 "FretSchoolModel" "owner" "[I" ∈ BIG := bigIn 590 (by rfl) (by rfl)
set_option maxRecDepth 20000 in
theorem wd591 : Cond.fieldLink "FretSchoolModel" 19 "FretSchoolModel" "frets" "[I" ∈ BIG := bigIn 591 (by rfl) (by rfl)
set_option maxRecDepth 20000 in
theorem wd592 : Cond.fieldLink "FretSchoolModel" 22 "FretSchoolModel" "open" "[I" ∈ BIG := bigIn 592 (by rfl) (by rfl)
set_option maxRecDepth 20000 in
theorem wd593 : Cond.fieldLink "FretSchoolModel" 25 "FretSchoolModel" "level" "[I" ∈ BIG := bigIn 593 (by rfl) (by rfl)
set_option maxRecDepth 20000 in
theorem wd594 : Cond.fieldLink "FretSchoolModel" 28 "FretSchoolModel" "known" "[I" ∈ BIG := bigIn 594 (by rfl) (by rfl)
set_option maxRecDepth 20000 in
theorem wd595 : Cond.fieldLink "FretSchoolModel" 31 "FretSchoolModel" "stock" "[I" ∈ BIG := bigIn 595 (by rfl) (by rfl)
set_option maxRecDepth 20000 in
theorem wd596 : Cond.fieldLink "FretSchoolModel" 71 "FretSchoolModel" "orders" "I" ∈ BIG := bigIn 596 (by rfl) (by rfl)
set_option maxRecDepth 20000 in
theorem wd597 : Cond.fieldLink "FretSchoolModel" 34 "FretSchoolModel" "buyer" "[I" ∈ BIG := bigIn 597 (by rfl) (by rfl)
set_option maxRecDepth 20000 in
theorem wd598 : Cond.fieldLink "FretSchoolModel" 37 "FretSchoolModel" "ordered" "[I" ∈ BIG := bigIn 598 (by rfl) (by rfl)
set_option maxRecDepth 20000 in
theorem wd599 : Cond.fieldLink "FretSchoolModel" 40 "FretSchoolModel" "readyOn" "[I" ∈ BIG := bigIn 599 (by rfl) (by rfl)
set_option maxRecDepth 20000 in
theorem wd600 : Cond.fieldLink "FretSchoolModel" 43 "FretSchoolModel" "fetched" "[Z" ∈ BIG := bigIn 600 (by rfl) (by rfl)
set_option maxRecDepth 20000 in
theorem wd601 : Cond.fieldLink "FretSchoolModel" 47 "FretSchoolModel" "least" "[I" ∈ BIG := bigIn 601 (by rfl) (by rfl)
set_option maxRecDepth 20000 in
theorem wd602 : Cond.fieldLink "FretSchoolModel" 50 "FretSchoolModel" "best" "[I" ∈ BIG := bigIn 602 (by rfl) (by rfl)
set_option maxRecDepth 20000 in
theorem wd603 : Cond.fieldLink "FretSchoolModel" 53 "FretSchoolModel" "thrown" "I" ∈ BIG := bigIn 603 (by rfl) (by rfl)
set_option maxRecDepth 20000 in
theorem wd604 : Cond.lays "FretSchoolModel" "FretSchoolModel" "today" "I" ∈ BIG := bigIn 604 (by rfl) (by rfl)
set_option maxRecDepth 20000 in
theorem wd606 : Cond.lays "FretSchoolModel" "FretSchoolModel" "pieces" "I" ∈ BIG := bigIn 606 (by rfl) (by rfl)
set_option maxRecDepth 20000 in
theorem wd608 : Cond.laysFinal "FretSchoolModel" "FretSchoolModel" "many" "[I" ∈ BIG := bigIn 608 (by rfl) (by rfl)
set_option maxRecDepth 20000 in
theorem wd610 : Cond.laysFinal "FretSchoolModel" "FretSchoolModel" "pitch" "[I" ∈ BIG := bigIn 610 (by rfl) (by rfl)
set_option maxRecDepth 20000 in
theorem wd612 : Cond.lays "FretSchoolModel" "FretSchoolModel" "instruments" "I" ∈ BIG := bigIn 612 (by rfl) (by rfl)
set_option maxRecDepth 20000 in
theorem wd614 : Cond.laysFinal "FretSchoolModel" "FretSchoolModel" "owner" "[I" ∈ BIG := bigIn 614 (by rfl) (by rfl)
set_option maxRecDepth 20000 in
theorem wd616 : Cond.laysFinal "FretSchoolModel" "FretSchoolModel" "frets" "[I" ∈ BIG := bigIn 616 (by rfl) (by rfl)
set_option maxRecDepth 20000 in
theorem wd618 : Cond.laysFinal "FretSchoolModel" "FretSchoolModel" "open" "[I" ∈ BIG := bigIn 618 (by rfl) (by rfl)
set_option maxRecDepth 20000 in
theorem wd620 : Cond.laysFinal "FretSchoolModel" "FretSchoolModel" "level" "[I" ∈ BIG := bigIn 620 (by rfl) (by rfl)
set_option maxRecDepth 20000 in
theorem wd622 : Cond.laysFinal "FretSchoolModel" "FretSchoolModel" "known" "[I" ∈ BIG := bigIn 622 (by rfl) (by rfl)
set_option maxRecDepth 20000 in
theorem wd624 : Cond.laysFinal "FretSchoolModel" "FretSchoolModel" "stock" "[I" ∈ BIG := bigIn 624 (by rfl) (by rfl)
set_option maxRecDepth 20000 in
theorem wd626 : Cond.lays "FretSchoolModel" "FretSchoolModel" "orders" "I" ∈ BIG := bigIn 626 (by rfl) (by rfl)
set_option maxRecDepth 20000 in
theorem wd628 : Cond.laysFinal "FretSchoolModel" "FretSchoolModel" "buyer" "[I" ∈ BIG := bigIn 628 (by rfl) (by rfl)
set_option maxRecDepth 20000 in
theorem wd630 : Cond.laysFinal "FretSchoolModel" "FretSchoolModel" "ordered" "[I" ∈ BIG := bigIn 630 (by rfl) (by rfl)
set_option maxRecDepth 20000 in
theorem wd632 : Cond.laysFinal "FretSchoolModel" "FretSchoolModel" "readyOn" "[I" ∈ BIG := bigIn 632 (by rfl) (by rfl)
set_option maxRecDepth 20000 in
theorem wd634 : Cond.laysFinal "FretSchoolModel" "FretSchoolModel" "fetched" "[Z" ∈ BIG := bigIn 634 (by rfl) (by rfl)
set_option maxRecDepth 20000 in
theorem wd636 : Cond.laysFinal "FretSchoolModel" "FretSchoolModel" "least" "[I" ∈ BIG := bigIn 636 (by rfl) (by rfl)
set_option maxRecDepth 20000 in
theorem wd638 : Cond.laysFinal "FretSchoolModel" "FretSchoolModel" "best" "[I" ∈ BIG := bigIn 638 (by rfl) (by rfl)
set_option maxRecDepth 20000 in
theorem wd640 : Cond.lays "FretSchoolModel" "FretSchoolModel" "thrown" "I" ∈ BIG := bigIn 640 (by rfl) (by rfl)
set_option maxRecDepth 20000 in
theorem wd643 : Cond.arrayClass .boolean ∈ BIG := bigIn 643 (by rfl) (by rfl)
set_option maxRecDepth 20000 in
theorem wd644 : Cond.methodLink "FretSchoolLaw" 91 yX6_thrown ∈ BIG := bigIn 644 (by rfl) (by rfl)
set_option maxRecDepth 20000 in
theorem wd645 : Cond.instanceMethod yX6_thrown ∈ BIG := bigIn 645 (by rfl) (by rfl)
set_option maxRecDepth 20000 in
theorem wd646 : Cond.selects "FretSchoolModel" yX6_thrown yX6_thrown ∈ BIG := bigIn 646 (by rfl) (by rfl)
set_option maxRecDepth 20000 in
theorem wd647 : Cond.code yX6_thrown cX6_thrown 1 (some .int) ∈ BIG := bigIn 647 (by rfl) (by rfl)
set_option maxRecDepth 20000 in
theorem wd648 : Cond.methodLink "FretSchoolLaw" 90 yX6_begin ∈ BIG := bigIn 648 (by rfl) (by rfl)
set_option maxRecDepth 20000 in
theorem wd649 : Cond.instanceMethod yX6_begin ∈ BIG := bigIn 649 (by rfl) (by rfl)
set_option maxRecDepth 20000 in
theorem wd650 : Cond.selects "FretSchoolModel" yX6_begin yX6_begin ∈ BIG := bigIn 650 (by rfl) (by rfl)
set_option maxRecDepth 20000 in
theorem wd651 : Cond.code yX6_begin cX6_begin 1 (some .int) ∈ BIG := bigIn 651 (by rfl) (by rfl)
set_option maxRecDepth 20000 in
theorem wd652 : Cond.methodLink "FretSchoolModel" 74 yX6_goes ∈ BIG := bigIn 652 (by rfl) (by rfl)
set_option maxRecDepth 20000 in
theorem wd654 : Cond.instanceMethod yX6_goes ∈ BIG := bigIn 654 (by rfl) (by rfl)
set_option maxRecDepth 20000 in
theorem wd655 : Cond.code yX6_goes cX6_goes 4 (some .boolean) ∈ BIG := bigIn 655 (by rfl) (by rfl)
set_option maxRecDepth 20000 in
theorem wd656 : Cond.methodLink "FretSchoolLaw" 97 yX6_addNote ∈ BIG := bigIn 656 (by rfl) (by rfl)
set_option maxRecDepth 20000 in
theorem wd657 : Cond.instanceMethod yX6_addNote ∈ BIG := bigIn 657 (by rfl) (by rfl)
set_option maxRecDepth 20000 in
theorem wd658 : Cond.selects "FretSchoolModel" yX6_addNote yX6_addNote ∈ BIG := bigIn 658 (by rfl) (by rfl)
set_option maxRecDepth 20000 in
theorem wd659 : Cond.code yX6_addNote cX6_addNote 4 (some .int) ∈ BIG := bigIn 659 (by rfl) (by rfl)
set_option maxRecDepth 20000 in
theorem wd660 : Cond.methodLink "FretSchoolModel" 64 yX6_isPiece ∈ BIG := bigIn 660 (by rfl) (by rfl)
set_option maxRecDepth 20000 in
theorem wd662 : Cond.instanceMethod yX6_isPiece ∈ BIG := bigIn 662 (by rfl) (by rfl)
set_option maxRecDepth 20000 in
theorem wd663 : Cond.code yX6_isPiece cX6_isPiece 2 (some .boolean) ∈ BIG := bigIn 663 (by rfl) (by rfl)
set_option maxRecDepth 20000 in
theorem wd664 : Cond.methodLink "FretSchoolModel" 60 yX6_in ∈ BIG := bigIn 664 (by rfl) (by rfl)
set_option maxRecDepth 20000 in
theorem wd665 : Cond.static yX6_in ∈ BIG := bigIn 665 (by rfl) (by rfl)
set_option maxRecDepth 20000 in
theorem wd666 : Cond.code yX6_in cX6_in 3 (some .boolean) ∈ BIG := bigIn 666 (by rfl) (by rfl)
set_option maxRecDepth 20000 in
theorem wd667 : Cond.methodLink "FretSchoolLaw" 101 yX6_transpose ∈ BIG := bigIn 667 (by rfl) (by rfl)
set_option maxRecDepth 20000 in
theorem wd668 : Cond.instanceMethod yX6_transpose ∈ BIG := bigIn 668 (by rfl) (by rfl)
set_option maxRecDepth 20000 in
theorem wd669 : Cond.selects "FretSchoolModel" yX6_transpose yX6_transpose ∈ BIG := bigIn 669 (by rfl) (by rfl)
set_option maxRecDepth 20000 in
theorem wd670 : Cond.code yX6_transpose cX6_transpose 7 (none : Option Jvm.ClassFile.FieldType) ∈ BIG := bigIn 670 (by rfl) (by rfl)
set_option maxRecDepth 20000 in
theorem wd671 : Cond.methodLink "FretSchoolLaw" 104 yX6_pitch ∈ BIG := bigIn 671 (by rfl) (by rfl)
set_option maxRecDepth 20000 in
theorem wd672 : Cond.instanceMethod yX6_pitch ∈ BIG := bigIn 672 (by rfl) (by rfl)
set_option maxRecDepth 20000 in
theorem wd673 : Cond.selects "FretSchoolModel" yX6_pitch yX6_pitch ∈ BIG := bigIn 673 (by rfl) (by rfl)
set_option maxRecDepth 20000 in
theorem wd674 : Cond.code yX6_pitch cX6_pitch 3 (some .int) ∈ BIG := bigIn 674 (by rfl) (by rfl)
set_option maxRecDepth 20000 in
theorem wd675 : Cond.methodLink "FretSchoolModel" 78 yX6_isNote ∈ BIG := bigIn 675 (by rfl) (by rfl)
set_option maxRecDepth 20000 in
theorem wd677 : Cond.instanceMethod yX6_isNote ∈ BIG := bigIn 677 (by rfl) (by rfl)
set_option maxRecDepth 20000 in
theorem wd678 : Cond.code yX6_isNote cX6_isNote 3 (some .boolean) ∈ BIG := bigIn 678 (by rfl) (by rfl)
set_option maxRecDepth 20000 in
theorem wd679 : Cond.methodLink "FretSchoolLaw" 108 yX6_tune ∈ BIG := bigIn 679 (by rfl) (by rfl)
set_option maxRecDepth 20000 in
theorem wd680 : Cond.instanceMethod yX6_tune ∈ BIG := bigIn 680 (by rfl) (by rfl)
set_option maxRecDepth 20000 in
theorem wd681 : Cond.selects "FretSchoolModel" yX6_tune yX6_tune ∈ BIG := bigIn 681 (by rfl) (by rfl)
set_option maxRecDepth 20000 in
theorem wd682 : Cond.code yX6_tune cX6_tune 6 (some .int) ∈ BIG := bigIn 682 (by rfl) (by rfl)
set_option maxRecDepth 20000 in
theorem wd683 : Cond.methodLink "FretSchoolModel" 82 yX6_isInstrument ∈ BIG := bigIn 683 (by rfl) (by rfl)
set_option maxRecDepth 20000 in
theorem wd685 : Cond.instanceMethod yX6_isInstrument ∈ BIG := bigIn 685 (by rfl) (by rfl)
set_option maxRecDepth 20000 in
theorem wd686 : Cond.code yX6_isInstrument cX6_isInstrument 2 (some .boolean) ∈ BIG := bigIn 686 (by rfl) (by rfl)
set_option maxRecDepth 20000 in
theorem wd687 : Cond.methodLink "FretSchoolLaw" 112 yX6_owner ∈ BIG := bigIn 687 (by rfl) (by rfl)
set_option maxRecDepth 20000 in
theorem wd688 : Cond.instanceMethod yX6_owner ∈ BIG := bigIn 688 (by rfl) (by rfl)
set_option maxRecDepth 20000 in
theorem wd689 : Cond.selects "FretSchoolModel" yX6_owner yX6_owner ∈ BIG := bigIn 689 (by rfl) (by rfl)
set_option maxRecDepth 20000 in
theorem wd690 : Cond.code yX6_owner cX6_owner 2 (some .int) ∈ BIG := bigIn 690 (by rfl) (by rfl)
set_option maxRecDepth 20000 in
theorem wd691 : Cond.methodLink "FretSchoolLaw" 116 yX6_instruments ∈ BIG := bigIn 691 (by rfl) (by rfl)
set_option maxRecDepth 20000 in
theorem wd692 : Cond.instanceMethod yX6_instruments ∈ BIG := bigIn 692 (by rfl) (by rfl)
set_option maxRecDepth 20000 in
theorem wd693 : Cond.selects "FretSchoolModel" yX6_instruments yX6_instruments ∈ BIG := bigIn 693 (by rfl) (by rfl)
set_option maxRecDepth 20000 in
theorem wd694 : Cond.code yX6_instruments cX6_instruments 1 (some .int) ∈ BIG := bigIn 694 (by rfl) (by rfl)
set_option maxRecDepth 20000 in
theorem wd695 : Cond.methodLink "FretSchoolModel" 85 yX6_told ∈ BIG := bigIn 695 (by rfl) (by rfl)
set_option maxRecDepth 20000 in
theorem wd697 : Cond.instanceMethod yX6_told ∈ BIG := bigIn 697 (by rfl) (by rfl)
set_option maxRecDepth 20000 in
theorem wd698 : Cond.code yX6_told cX6_told 2 (some .int) ∈ BIG := bigIn 698 (by rfl) (by rfl)
set_option maxRecDepth 20000 in
theorem wd699 : Cond.methodLink "FretSchoolLaw" 119 yX6_shifts ∈ BIG := bigIn 699 (by rfl) (by rfl)
set_option maxRecDepth 20000 in
theorem wd700 : Cond.instanceMethod yX6_shifts ∈ BIG := bigIn 700 (by rfl) (by rfl)
set_option maxRecDepth 20000 in
theorem wd701 : Cond.selects "FretSchoolModel" yX6_shifts yX6_shifts ∈ BIG := bigIn 701 (by rfl) (by rfl)
set_option maxRecDepth 20000 in
theorem wd702 : Cond.code yX6_shifts cX6_shifts 3 (some .int) ∈ BIG := bigIn 702 (by rfl) (by rfl)
set_option maxRecDepth 20000 in
theorem wd703 : Cond.methodLink "FretSchoolModel" 106 yX6_asks ∈ BIG := bigIn 703 (by rfl) (by rfl)
set_option maxRecDepth 20000 in
theorem wd705 : Cond.instanceMethod yX6_asks ∈ BIG := bigIn 705 (by rfl) (by rfl)
set_option maxRecDepth 20000 in
theorem wd706 : Cond.code yX6_asks cX6_asks 3 (some .boolean) ∈ BIG := bigIn 706 (by rfl) (by rfl)
set_option maxRecDepth 20000 in
theorem wd707 : Cond.methodLink "FretSchoolModel" 109 yX6_finds ∈ BIG := bigIn 707 (by rfl) (by rfl)
set_option maxRecDepth 20000 in
theorem wd709 : Cond.instanceMethod yX6_finds ∈ BIG := bigIn 709 (by rfl) (by rfl)
set_option maxRecDepth 20000 in
theorem wd710 : Cond.code yX6_finds cX6_finds 7 (some .int) ∈ BIG := bigIn 710 (by rfl) (by rfl)
set_option maxRecDepth 20000 in
theorem wd711 : Cond.methodLink "FretSchoolModel" 102 yX6_from ∈ BIG := bigIn 711 (by rfl) (by rfl)
set_option maxRecDepth 20000 in
theorem wd713 : Cond.instanceMethod yX6_from ∈ BIG := bigIn 713 (by rfl) (by rfl)
set_option maxRecDepth 20000 in
theorem wd714 : Cond.code yX6_from cX6_from 8 (some .int) ∈ BIG := bigIn 714 (by rfl) (by rfl)
set_option maxRecDepth 20000 in
theorem wd715 : Cond.methodLink "FretSchoolModel" 93 yX6_plays ∈ BIG := bigIn 715 (by rfl) (by rfl)
set_option maxRecDepth 20000 in
theorem wd717 : Cond.instanceMethod yX6_plays ∈ BIG := bigIn 717 (by rfl) (by rfl)
set_option maxRecDepth 20000 in
theorem wd718 : Cond.code yX6_plays cX6_plays 7 (some .boolean) ∈ BIG := bigIn 718 (by rfl) (by rfl)
set_option maxRecDepth 20000 in
theorem wd719 : Cond.methodLink "FretSchoolModel" 89 yX6_lies ∈ BIG := bigIn 719 (by rfl) (by rfl)
set_option maxRecDepth 20000 in
theorem wd721 : Cond.instanceMethod yX6_lies ∈ BIG := bigIn 721 (by rfl) (by rfl)
set_option maxRecDepth 20000 in
theorem wd722 : Cond.code yX6_lies cX6_lies 7 (some .boolean) ∈ BIG := bigIn 722 (by rfl) (by rfl)
set_option maxRecDepth 20000 in
theorem wd723 : Cond.constant "FretSchoolModel" 97 (1000000 : Int32) ∈ BIG := bigIn 723 (by rfl) (by rfl)
set_option maxRecDepth 20000 in
theorem wd724 : Cond.methodLink "FretSchoolModel" 98 yX6_apart ∈ BIG := bigIn 724 (by rfl) (by rfl)
set_option maxRecDepth 20000 in
theorem wd725 : Cond.static yX6_apart ∈ BIG := bigIn 725 (by rfl) (by rfl)
set_option maxRecDepth 20000 in
theorem wd726 : Cond.code yX6_apart cX6_apart 2 (some .int) ∈ BIG := bigIn 726 (by rfl) (by rfl)
set_option maxRecDepth 20000 in
theorem wd727 : Cond.methodLink "FretSchoolLaw" 122 yX6_shiftsByAll ∈ BIG := bigIn 727 (by rfl) (by rfl)
set_option maxRecDepth 20000 in
theorem wd728 : Cond.instanceMethod yX6_shiftsByAll ∈ BIG := bigIn 728 (by rfl) (by rfl)
set_option maxRecDepth 20000 in
theorem wd729 : Cond.selects "FretSchoolModel" yX6_shiftsByAll yX6_shiftsByAll ∈ BIG := bigIn 729 (by rfl) (by rfl)
set_option maxRecDepth 20000 in
theorem wd730 : Cond.code yX6_shiftsByAll cX6_shiftsByAll 4 (some .int) ∈ BIG := bigIn 730 (by rfl) (by rfl)
set_option maxRecDepth 20000 in
theorem wd731 : Cond.methodLink "FretSchoolLaw" 125 yX6_hardest ∈ BIG := bigIn 731 (by rfl) (by rfl)
set_option maxRecDepth 20000 in
theorem wd732 : Cond.instanceMethod yX6_hardest ∈ BIG := bigIn 732 (by rfl) (by rfl)
set_option maxRecDepth 20000 in
theorem wd733 : Cond.selects "FretSchoolModel" yX6_hardest yX6_hardest ∈ BIG := bigIn 733 (by rfl) (by rfl)
set_option maxRecDepth 20000 in
theorem wd734 : Cond.code yX6_hardest cX6_hardest 3 (some .int) ∈ BIG := bigIn 734 (by rfl) (by rfl)
set_option maxRecDepth 20000 in
theorem wd735 : Cond.methodLink "FretSchoolModel" 112 yX6_hardestOf ∈ BIG := bigIn 735 (by rfl) (by rfl)
set_option maxRecDepth 20000 in
theorem wd737 : Cond.instanceMethod yX6_hardestOf ∈ BIG := bigIn 737 (by rfl) (by rfl)
set_option maxRecDepth 20000 in
theorem wd738 : Cond.code yX6_hardestOf cX6_hardestOf 6 (some .int) ∈ BIG := bigIn 738 (by rfl) (by rfl)
set_option maxRecDepth 20000 in
theorem wd739 : Cond.methodLink "FretSchoolLaw" 128 yX6_position ∈ BIG := bigIn 739 (by rfl) (by rfl)
set_option maxRecDepth 20000 in
theorem wd740 : Cond.instanceMethod yX6_position ∈ BIG := bigIn 740 (by rfl) (by rfl)
set_option maxRecDepth 20000 in
theorem wd741 : Cond.selects "FretSchoolModel" yX6_position yX6_position ∈ BIG := bigIn 741 (by rfl) (by rfl)
set_option maxRecDepth 20000 in
theorem wd742 : Cond.code yX6_position cX6_position 4 (some .int) ∈ BIG := bigIn 742 (by rfl) (by rfl)
set_option maxRecDepth 20000 in
theorem wd743 : Cond.methodLink "FretSchoolModel" 115 yX6_asksNote ∈ BIG := bigIn 743 (by rfl) (by rfl)
set_option maxRecDepth 20000 in
theorem wd745 : Cond.instanceMethod yX6_asksNote ∈ BIG := bigIn 745 (by rfl) (by rfl)
set_option maxRecDepth 20000 in
theorem wd746 : Cond.code yX6_asksNote cX6_asksNote 4 (some .boolean) ∈ BIG := bigIn 746 (by rfl) (by rfl)
set_option maxRecDepth 20000 in
theorem wd747 : Cond.methodLink "FretSchoolLaw" 131 yX6_string ∈ BIG := bigIn 747 (by rfl) (by rfl)
set_option maxRecDepth 20000 in
theorem wd748 : Cond.instanceMethod yX6_string ∈ BIG := bigIn 748 (by rfl) (by rfl)
set_option maxRecDepth 20000 in
theorem wd749 : Cond.selects "FretSchoolModel" yX6_string yX6_string ∈ BIG := bigIn 749 (by rfl) (by rfl)
set_option maxRecDepth 20000 in
theorem wd750 : Cond.code yX6_string cX6_string 6 (some .int) ∈ BIG := bigIn 750 (by rfl) (by rfl)
set_option maxRecDepth 20000 in
theorem wd751 : Cond.methodLink "FretSchoolLaw" 134 yX6_learn ∈ BIG := bigIn 751 (by rfl) (by rfl)
set_option maxRecDepth 20000 in
theorem wd752 : Cond.instanceMethod yX6_learn ∈ BIG := bigIn 752 (by rfl) (by rfl)
set_option maxRecDepth 20000 in
theorem wd753 : Cond.selects "FretSchoolModel" yX6_learn yX6_learn ∈ BIG := bigIn 753 (by rfl) (by rfl)
set_option maxRecDepth 20000 in
theorem wd754 : Cond.code yX6_learn cX6_learn 6 (some .int) ∈ BIG := bigIn 754 (by rfl) (by rfl)
set_option maxRecDepth 20000 in
theorem wd755 : Cond.methodLink "FretSchoolModel" 121 yX6_isPupil ∈ BIG := bigIn 755 (by rfl) (by rfl)
set_option maxRecDepth 20000 in
theorem wd756 : Cond.static yX6_isPupil ∈ BIG := bigIn 756 (by rfl) (by rfl)
set_option maxRecDepth 20000 in
theorem wd757 : Cond.code yX6_isPupil cX6_isPupil 1 (some .boolean) ∈ BIG := bigIn 757 (by rfl) (by rfl)
set_option maxRecDepth 20000 in
theorem wd758 : Cond.methodLink "FretSchoolModel" 124 yX6_canLearn ∈ BIG := bigIn 758 (by rfl) (by rfl)
set_option maxRecDepth 20000 in
theorem wd760 : Cond.instanceMethod yX6_canLearn ∈ BIG := bigIn 760 (by rfl) (by rfl)
set_option maxRecDepth 20000 in
theorem wd761 : Cond.code yX6_canLearn cX6_canLearn 5 (some .boolean) ∈ BIG := bigIn 761 (by rfl) (by rfl)
set_option maxRecDepth 20000 in
theorem wd762 : Cond.methodLink "FretSchoolModel" 118 yX6_isKnown ∈ BIG := bigIn 762 (by rfl) (by rfl)
set_option maxRecDepth 20000 in
theorem wd764 : Cond.instanceMethod yX6_isKnown ∈ BIG := bigIn 764 (by rfl) (by rfl)
set_option maxRecDepth 20000 in
theorem wd765 : Cond.code yX6_isKnown cX6_isKnown 3 (some .boolean) ∈ BIG := bigIn 765 (by rfl) (by rfl)
set_option maxRecDepth 20000 in
theorem wd766 : Cond.methodLink "FretSchoolLaw" 137 yX6_level ∈ BIG := bigIn 766 (by rfl) (by rfl)
set_option maxRecDepth 20000 in
theorem wd767 : Cond.instanceMethod yX6_level ∈ BIG := bigIn 767 (by rfl) (by rfl)
set_option maxRecDepth 20000 in
theorem wd768 : Cond.selects "FretSchoolModel" yX6_level yX6_level ∈ BIG := bigIn 768 (by rfl) (by rfl)
set_option maxRecDepth 20000 in
theorem wd769 : Cond.code yX6_level cX6_level 2 (some .int) ∈ BIG := bigIn 769 (by rfl) (by rfl)
set_option maxRecDepth 20000 in
theorem wd770 : Cond.methodLink "FretSchoolLaw" 140 yX6_known ∈ BIG := bigIn 770 (by rfl) (by rfl)
set_option maxRecDepth 20000 in
theorem wd771 : Cond.instanceMethod yX6_known ∈ BIG := bigIn 771 (by rfl) (by rfl)
set_option maxRecDepth 20000 in
theorem wd772 : Cond.selects "FretSchoolModel" yX6_known yX6_known ∈ BIG := bigIn 772 (by rfl) (by rfl)
set_option maxRecDepth 20000 in
theorem wd773 : Cond.code yX6_known cX6_known 2 (some .int) ∈ BIG := bigIn 773 (by rfl) (by rfl)
set_option maxRecDepth 20000 in
theorem wd774 : Cond.methodLink "FretSchoolLaw" 143 yX6_next ∈ BIG := bigIn 774 (by rfl) (by rfl)
set_option maxRecDepth 20000 in
theorem wd775 : Cond.instanceMethod yX6_next ∈ BIG := bigIn 775 (by rfl) (by rfl)
set_option maxRecDepth 20000 in
theorem wd776 : Cond.selects "FretSchoolModel" yX6_next yX6_next ∈ BIG := bigIn 776 (by rfl) (by rfl)
set_option maxRecDepth 20000 in
theorem wd777 : Cond.code yX6_next cX6_next 6 (some .int) ∈ BIG := bigIn 777 (by rfl) (by rfl)
set_option maxRecDepth 20000 in
theorem wd778 : Cond.methodLink "FretSchoolLaw" 146 yX6_addWood ∈ BIG := bigIn 778 (by rfl) (by rfl)
set_option maxRecDepth 20000 in
theorem wd779 : Cond.instanceMethod yX6_addWood ∈ BIG := bigIn 779 (by rfl) (by rfl)
set_option maxRecDepth 20000 in
theorem wd780 : Cond.selects "FretSchoolModel" yX6_addWood yX6_addWood ∈ BIG := bigIn 780 (by rfl) (by rfl)
set_option maxRecDepth 20000 in
theorem wd781 : Cond.code yX6_addWood cX6_addWood 3 (some .int) ∈ BIG := bigIn 781 (by rfl) (by rfl)
set_option maxRecDepth 20000 in
theorem wd782 : Cond.methodLink "FretSchoolLaw" 149 yX6_order ∈ BIG := bigIn 782 (by rfl) (by rfl)
set_option maxRecDepth 20000 in
theorem wd783 : Cond.instanceMethod yX6_order ∈ BIG := bigIn 783 (by rfl) (by rfl)
set_option maxRecDepth 20000 in
theorem wd784 : Cond.selects "FretSchoolModel" yX6_order yX6_order ∈ BIG := bigIn 784 (by rfl) (by rfl)
set_option maxRecDepth 20000 in
theorem wd785 : Cond.code yX6_order cX6_order 5 (some .int) ∈ BIG := bigIn 785 (by rfl) (by rfl)
set_option maxRecDepth 20000 in
theorem wd786 : Cond.methodLink "FretSchoolModel" 130 yX6_atWork ∈ BIG := bigIn 786 (by rfl) (by rfl)
set_option maxRecDepth 20000 in
theorem wd788 : Cond.instanceMethod yX6_atWork ∈ BIG := bigIn 788 (by rfl) (by rfl)
set_option maxRecDepth 20000 in
theorem wd789 : Cond.code yX6_atWork cX6_atWork 3 (some .int) ∈ BIG := bigIn 789 (by rfl) (by rfl)
set_option maxRecDepth 20000 in
theorem wd790 : Cond.methodLink "FretSchoolLaw" 152 yX6_ready ∈ BIG := bigIn 790 (by rfl) (by rfl)
set_option maxRecDepth 20000 in
theorem wd791 : Cond.instanceMethod yX6_ready ∈ BIG := bigIn 791 (by rfl) (by rfl)
set_option maxRecDepth 20000 in
theorem wd792 : Cond.selects "FretSchoolModel" yX6_ready yX6_ready ∈ BIG := bigIn 792 (by rfl) (by rfl)
set_option maxRecDepth 20000 in
theorem wd793 : Cond.code yX6_ready cX6_ready 2 (some .int) ∈ BIG := bigIn 793 (by rfl) (by rfl)
set_option maxRecDepth 20000 in
theorem wd794 : Cond.methodLink "FretSchoolModel" 134 yX6_isOrder ∈ BIG := bigIn 794 (by rfl) (by rfl)
set_option maxRecDepth 20000 in
theorem wd796 : Cond.instanceMethod yX6_isOrder ∈ BIG := bigIn 796 (by rfl) (by rfl)
set_option maxRecDepth 20000 in
theorem wd797 : Cond.code yX6_isOrder cX6_isOrder 2 (some .boolean) ∈ BIG := bigIn 797 (by rfl) (by rfl)
set_option maxRecDepth 20000 in
theorem wd798 : Cond.methodLink "FretSchoolLaw" 156 yX6_fetch ∈ BIG := bigIn 798 (by rfl) (by rfl)
set_option maxRecDepth 20000 in
theorem wd799 : Cond.instanceMethod yX6_fetch ∈ BIG := bigIn 799 (by rfl) (by rfl)
set_option maxRecDepth 20000 in
theorem wd800 : Cond.selects "FretSchoolModel" yX6_fetch yX6_fetch ∈ BIG := bigIn 800 (by rfl) (by rfl)
set_option maxRecDepth 20000 in
theorem wd801 : Cond.code yX6_fetch cX6_fetch 8 (some .int) ∈ BIG := bigIn 801 (by rfl) (by rfl)
set_option maxRecDepth 20000 in
theorem wd802 : Cond.methodLink "FretSchoolModel" 137 yX6_isOpen ∈ BIG := bigIn 802 (by rfl) (by rfl)
set_option maxRecDepth 20000 in
theorem wd803 : Cond.static yX6_isOpen ∈ BIG := bigIn 803 (by rfl) (by rfl)
set_option maxRecDepth 20000 in
theorem wd804 : Cond.code yX6_isOpen cX6_isOpen 1 (some .boolean) ∈ BIG := bigIn 804 (by rfl) (by rfl)
set_option maxRecDepth 20000 in
theorem wd805 : Cond.methodLink "FretSchoolLaw" 159 yX6_pass ∈ BIG := bigIn 805 (by rfl) (by rfl)
set_option maxRecDepth 20000 in
theorem wd806 : Cond.instanceMethod yX6_pass ∈ BIG := bigIn 806 (by rfl) (by rfl)
set_option maxRecDepth 20000 in
theorem wd807 : Cond.selects "FretSchoolModel" yX6_pass yX6_pass ∈ BIG := bigIn 807 (by rfl) (by rfl)
set_option maxRecDepth 20000 in
theorem wd808 : Cond.code yX6_pass cX6_pass 3 (some .int) ∈ BIG := bigIn 808 (by rfl) (by rfl)
set_option maxRecDepth 20000 in
theorem wd809 : Cond.methodLink "FretSchoolLaw" 163 yX6_today ∈ BIG := bigIn 809 (by rfl) (by rfl)
set_option maxRecDepth 20000 in
theorem wd810 : Cond.instanceMethod yX6_today ∈ BIG := bigIn 810 (by rfl) (by rfl)
set_option maxRecDepth 20000 in
theorem wd811 : Cond.selects "FretSchoolModel" yX6_today yX6_today ∈ BIG := bigIn 811 (by rfl) (by rfl)
set_option maxRecDepth 20000 in
theorem wd812 : Cond.code yX6_today cX6_today 1 (some .int) ∈ BIG := bigIn 812 (by rfl) (by rfl)
set_option maxRecDepth 20000 in
theorem wd813 : Cond.arrayClass .long ∈ BIG := bigIn 813 (by rfl) (by rfl)
set_option maxRecDepth 20000 in
theorem wd814 : Cond.sameMethod "java/lang/Throwable" "java/lang/Throwable" "fillInStackTrace" "(I)Ljava/lang/Throwable;" ∈ BIG := bigIn 814 (by rfl) (by rfl)
end
section
theorem dX1_init_0 : decode cX1_init 0 = .ok (.aload_n 0, 1) := by decide +kernel
theorem dX1_init_1 : decode cX1_init 1 = .ok (.invokespecial 3, 3) := by decide +kernel
theorem dX1_init_4 : decode cX1_init 4 = .ok (.aload_n 0, 1) := by decide +kernel
theorem dX1_init_5 : decode cX1_init 5 = .ok (.iconst 4, 1) := by decide +kernel
theorem dX1_init_6 : decode cX1_init 6 = .ok (.newarray .int, 2) := by decide +kernel
theorem dX1_init_8 : decode cX1_init 8 = .ok (.putfield 9, 3) := by decide +kernel
theorem dX1_init_11 : decode cX1_init 11 = .ok (.aload_n 0, 1) := by decide +kernel
theorem dX1_init_12 : decode cX1_init 12 = .ok (.iconst 0, 1) := by decide +kernel
theorem dX1_init_13 : decode cX1_init 13 = .ok (.putfield 15, 3) := by decide +kernel
theorem dX1_init_16 : decode cX1_init 16 = .ok (.aload_n 0, 1) := by decide +kernel
theorem dX1_init_17 : decode cX1_init 17 = .ok (.iconst 4, 1) := by decide +kernel
theorem dX1_init_18 : decode cX1_init 18 = .ok (.putfield 19, 3) := by decide +kernel
theorem dX1_init_21 : decode cX1_init 21 = .ok (.return_, 1) := by decide +kernel
theorem dX1_build_0 : decode cX1_build 0 = .ok (.aload_n 0, 1) := by decide +kernel
theorem dX1_build_1 : decode cX1_build 1 = .ok (.iload_n 1, 1) := by decide +kernel
theorem dX1_build_2 : decode cX1_build 2 = .ok (.putfield 15, 3) := by decide +kernel
theorem dX1_build_5 : decode cX1_build 5 = .ok (.aload_n 0, 1) := by decide +kernel
theorem dX1_build_6 : decode cX1_build 6 = .ok (.iload_n 2, 1) := by decide +kernel
theorem dX1_build_7 : decode cX1_build 7 = .ok (.putfield 19, 3) := by decide +kernel
theorem dX1_build_10 : decode cX1_build 10 = .ok (.return_, 1) := by decide +kernel
theorem dX1_tuneAll_0 : decode cX1_tuneAll 0 = .ok (.aload_n 0, 1) := by decide +kernel
theorem dX1_tuneAll_1 : decode cX1_tuneAll 1 = .ok (.getfield 9, 3) := by decide +kernel
theorem dX1_tuneAll_4 : decode cX1_tuneAll 4 = .ok (.iconst 0, 1) := by decide +kernel
theorem dX1_tuneAll_5 : decode cX1_tuneAll 5 = .ok (.iload_n 1, 1) := by decide +kernel
theorem dX1_tuneAll_6 : decode cX1_tuneAll 6 = .ok (.iastore, 1) := by decide +kernel
theorem dX1_tuneAll_7 : decode cX1_tuneAll 7 = .ok (.aload_n 0, 1) := by decide +kernel
theorem dX1_tuneAll_8 : decode cX1_tuneAll 8 = .ok (.getfield 9, 3) := by decide +kernel
theorem dX1_tuneAll_11 : decode cX1_tuneAll 11 = .ok (.iconst 1, 1) := by decide +kernel
theorem dX1_tuneAll_12 : decode cX1_tuneAll 12 = .ok (.iload_n 2, 1) := by decide +kernel
theorem dX1_tuneAll_13 : decode cX1_tuneAll 13 = .ok (.iastore, 1) := by decide +kernel
theorem dX1_tuneAll_14 : decode cX1_tuneAll 14 = .ok (.aload_n 0, 1) := by decide +kernel
theorem dX1_tuneAll_15 : decode cX1_tuneAll 15 = .ok (.getfield 9, 3) := by decide +kernel
theorem dX1_tuneAll_18 : decode cX1_tuneAll 18 = .ok (.iconst 2, 1) := by decide +kernel
theorem dX1_tuneAll_19 : decode cX1_tuneAll 19 = .ok (.iload_n 3, 1) := by decide +kernel
theorem dX1_tuneAll_20 : decode cX1_tuneAll 20 = .ok (.iastore, 1) := by decide +kernel
theorem dX1_tuneAll_21 : decode cX1_tuneAll 21 = .ok (.aload_n 0, 1) := by decide +kernel
theorem dX1_tuneAll_22 : decode cX1_tuneAll 22 = .ok (.getfield 9, 3) := by decide +kernel
theorem dX1_tuneAll_25 : decode cX1_tuneAll 25 = .ok (.iconst 3, 1) := by decide +kernel
theorem dX1_tuneAll_26 : decode cX1_tuneAll 26 = .ok (.iload 4, 2) := by decide +kernel
theorem dX1_tuneAll_28 : decode cX1_tuneAll 28 = .ok (.iastore, 1) := by decide +kernel
theorem dX1_tuneAll_29 : decode cX1_tuneAll 29 = .ok (.return_, 1) := by decide +kernel
theorem dX1_highestPosition_0 : decode cX1_highestPosition 0 = .ok (.aload_n 0, 1) := by decide +kernel
theorem dX1_highestPosition_1 : decode cX1_highestPosition 1 = .ok (.getfield 19, 3) := by decide +kernel
theorem dX1_highestPosition_4 : decode cX1_highestPosition 4 = .ok (.iconst 3, 1) := by decide +kernel
theorem dX1_highestPosition_5 : decode cX1_highestPosition 5 = .ok (.isub, 1) := by decide +kernel
theorem dX1_highestPosition_6 : decode cX1_highestPosition 6 = .ok (.ireturn, 1) := by decide +kernel
theorem dX1_lowestString_0 : decode cX1_lowestString 0 = .ok (.iconst 0, 1) := by decide +kernel
theorem dX1_lowestString_1 : decode cX1_lowestString 1 = .ok (.istore_n 3, 1) := by decide +kernel
theorem dX1_lowestString_2 : decode cX1_lowestString 2 = .ok (.iload_n 3, 1) := by decide +kernel
theorem dX1_lowestString_3 : decode cX1_lowestString 3 = .ok (.iconst 4, 1) := by decide +kernel
theorem dX1_lowestString_4 : decode cX1_lowestString 4 = .ok (.if_icmp .ge 40, 3) := by decide +kernel
theorem dX1_lowestString_7 : decode cX1_lowestString 7 = .ok (.iload_n 1, 1) := by decide +kernel
theorem dX1_lowestString_8 : decode cX1_lowestString 8 = .ok (.aload_n 0, 1) := by decide +kernel
theorem dX1_lowestString_9 : decode cX1_lowestString 9 = .ok (.getfield 9, 3) := by decide +kernel
theorem dX1_lowestString_12 : decode cX1_lowestString 12 = .ok (.iload_n 3, 1) := by decide +kernel
theorem dX1_lowestString_13 : decode cX1_lowestString 13 = .ok (.iaload, 1) := by decide +kernel
theorem dX1_lowestString_14 : decode cX1_lowestString 14 = .ok (.isub, 1) := by decide +kernel
theorem dX1_lowestString_15 : decode cX1_lowestString 15 = .ok (.istore 4, 2) := by decide +kernel
theorem dX1_lowestString_17 : decode cX1_lowestString 17 = .ok (.iload 4, 2) := by decide +kernel
theorem dX1_lowestString_19 : decode cX1_lowestString 19 = .ok (.ifCond .eq 17, 3) := by decide +kernel
theorem dX1_lowestString_22 : decode cX1_lowestString 22 = .ok (.iload 4, 2) := by decide +kernel
theorem dX1_lowestString_24 : decode cX1_lowestString 24 = .ok (.iload_n 2, 1) := by decide +kernel
theorem dX1_lowestString_25 : decode cX1_lowestString 25 = .ok (.if_icmp .lt 13, 3) := by decide +kernel
theorem dX1_lowestString_28 : decode cX1_lowestString 28 = .ok (.iload 4, 2) := by decide +kernel
theorem dX1_lowestString_30 : decode cX1_lowestString 30 = .ok (.iload_n 2, 1) := by decide +kernel
theorem dX1_lowestString_31 : decode cX1_lowestString 31 = .ok (.iconst 3, 1) := by decide +kernel
theorem dX1_lowestString_32 : decode cX1_lowestString 32 = .ok (.iadd, 1) := by decide +kernel
theorem dX1_lowestString_33 : decode cX1_lowestString 33 = .ok (.if_icmp .gt 5, 3) := by decide +kernel
theorem dX1_lowestString_36 : decode cX1_lowestString 36 = .ok (.iload_n 3, 1) := by decide +kernel
theorem dX1_lowestString_37 : decode cX1_lowestString 37 = .ok (.ireturn, 1) := by decide +kernel
theorem dX1_lowestString_38 : decode cX1_lowestString 38 = .ok (.iinc 3 1, 3) := by decide +kernel
theorem dX1_lowestString_41 : decode cX1_lowestString 41 = .ok (.goto (-39), 3) := by decide +kernel
theorem dX1_lowestString_44 : decode cX1_lowestString 44 = .ok (.iconst (-1), 1) := by decide +kernel
theorem dX1_lowestString_45 : decode cX1_lowestString 45 = .ok (.ireturn, 1) := by decide +kernel
theorem dX2_init_0 : decode cX2_init 0 = .ok (.aload_n 0, 1) := by decide +kernel
theorem dX2_init_1 : decode cX2_init 1 = .ok (.invokespecial 3, 3) := by decide +kernel
theorem dX2_init_4 : decode cX2_init 4 = .ok (.aload_n 0, 1) := by decide +kernel
theorem dX2_init_5 : decode cX2_init 5 = .ok (.iconst 0, 1) := by decide +kernel
theorem dX2_init_6 : decode cX2_init 6 = .ok (.putfield 9, 3) := by decide +kernel
theorem dX2_init_9 : decode cX2_init 9 = .ok (.aload_n 0, 1) := by decide +kernel
theorem dX2_init_10 : decode cX2_init 10 = .ok (.iconst 4, 1) := by decide +kernel
theorem dX2_init_11 : decode cX2_init 11 = .ok (.putfield 15, 3) := by decide +kernel
theorem dX2_init_14 : decode cX2_init 14 = .ok (.aload_n 0, 1) := by decide +kernel
theorem dX2_init_15 : decode cX2_init 15 = .ok (.iconst 0, 1) := by decide +kernel
theorem dX2_init_16 : decode cX2_init 16 = .ok (.putfield 18, 3) := by decide +kernel
theorem dX2_init_19 : decode cX2_init 19 = .ok (.aload_n 0, 1) := by decide +kernel
theorem dX2_init_20 : decode cX2_init 20 = .ok (.iconst 0, 1) := by decide +kernel
theorem dX2_init_21 : decode cX2_init 21 = .ok (.putfield 21, 3) := by decide +kernel
theorem dX2_init_24 : decode cX2_init 24 = .ok (.return_, 1) := by decide +kernel
theorem dX2_place_0 : decode cX2_place 0 = .ok (.aload_n 0, 1) := by decide +kernel
theorem dX2_place_1 : decode cX2_place 1 = .ok (.iload_n 1, 1) := by decide +kernel
theorem dX2_place_2 : decode cX2_place 2 = .ok (.putfield 9, 3) := by decide +kernel
theorem dX2_place_5 : decode cX2_place 5 = .ok (.aload_n 0, 1) := by decide +kernel
theorem dX2_place_6 : decode cX2_place 6 = .ok (.iload_n 2, 1) := by decide +kernel
theorem dX2_place_7 : decode cX2_place 7 = .ok (.putfield 15, 3) := by decide +kernel
theorem dX2_place_10 : decode cX2_place 10 = .ok (.aload_n 0, 1) := by decide +kernel
theorem dX2_place_11 : decode cX2_place 11 = .ok (.iload_n 3, 1) := by decide +kernel
theorem dX2_place_12 : decode cX2_place 12 = .ok (.putfield 18, 3) := by decide +kernel
theorem dX2_place_15 : decode cX2_place 15 = .ok (.return_, 1) := by decide +kernel
theorem dX2_isReady_0 : decode cX2_isReady 0 = .ok (.iload_n 1, 1) := by decide +kernel
theorem dX2_isReady_1 : decode cX2_isReady 1 = .ok (.aload_n 0, 1) := by decide +kernel
theorem dX2_isReady_2 : decode cX2_isReady 2 = .ok (.getfield 18, 3) := by decide +kernel
theorem dX2_isReady_5 : decode cX2_isReady 5 = .ok (.if_icmp .lt 7, 3) := by decide +kernel
theorem dX2_isReady_8 : decode cX2_isReady 8 = .ok (.iconst 1, 1) := by decide +kernel
theorem dX2_isReady_9 : decode cX2_isReady 9 = .ok (.goto 4, 3) := by decide +kernel
theorem dX2_isReady_12 : decode cX2_isReady 12 = .ok (.iconst 0, 1) := by decide +kernel
theorem dX2_isReady_13 : decode cX2_isReady 13 = .ok (.ireturn, 1) := by decide +kernel
theorem dX3_init_0 : decode cX3_init 0 = .ok (.aload_n 0, 1) := by decide +kernel
theorem dX3_init_1 : decode cX3_init 1 = .ok (.invokespecial 3, 3) := by decide +kernel
theorem dX3_init_4 : decode cX3_init 4 = .ok (.aload_n 0, 1) := by decide +kernel
theorem dX3_init_5 : decode cX3_init 5 = .ok (.bipush 16, 2) := by decide +kernel
theorem dX3_init_7 : decode cX3_init 7 = .ok (.newarray .int, 2) := by decide +kernel
theorem dX3_init_9 : decode cX3_init 9 = .ok (.putfield 9, 3) := by decide +kernel
theorem dX3_init_12 : decode cX3_init 12 = .ok (.aload_n 0, 1) := by decide +kernel
theorem dX3_init_13 : decode cX3_init 13 = .ok (.iconst 0, 1) := by decide +kernel
theorem dX3_init_14 : decode cX3_init 14 = .ok (.putfield 15, 3) := by decide +kernel
theorem dX3_init_17 : decode cX3_init 17 = .ok (.return_, 1) := by decide +kernel
theorem dX3_isFull_0 : decode cX3_isFull 0 = .ok (.aload_n 0, 1) := by decide +kernel
theorem dX3_isFull_1 : decode cX3_isFull 1 = .ok (.getfield 15, 3) := by decide +kernel
theorem dX3_isFull_4 : decode cX3_isFull 4 = .ok (.bipush 16, 2) := by decide +kernel
theorem dX3_isFull_6 : decode cX3_isFull 6 = .ok (.if_icmp .lt 7, 3) := by decide +kernel
theorem dX3_isFull_9 : decode cX3_isFull 9 = .ok (.iconst 1, 1) := by decide +kernel
theorem dX3_isFull_10 : decode cX3_isFull 10 = .ok (.goto 4, 3) := by decide +kernel
theorem dX3_isFull_13 : decode cX3_isFull 13 = .ok (.iconst 0, 1) := by decide +kernel
theorem dX3_isFull_14 : decode cX3_isFull 14 = .ok (.ireturn, 1) := by decide +kernel
theorem dX3_append_0 : decode cX3_append 0 = .ok (.aload_n 0, 1) := by decide +kernel
theorem dX3_append_1 : decode cX3_append 1 = .ok (.invokevirtual 19, 3) := by decide +kernel
theorem dX3_append_4 : decode cX3_append 4 = .ok (.ifCond .eq 4, 3) := by decide +kernel
theorem dX3_append_7 : decode cX3_append 7 = .ok (.return_, 1) := by decide +kernel
theorem dX3_append_8 : decode cX3_append 8 = .ok (.aload_n 0, 1) := by decide +kernel
theorem dX3_append_9 : decode cX3_append 9 = .ok (.getfield 9, 3) := by decide +kernel
theorem dX3_append_12 : decode cX3_append 12 = .ok (.aload_n 0, 1) := by decide +kernel
theorem dX3_append_13 : decode cX3_append 13 = .ok (.getfield 15, 3) := by decide +kernel
theorem dX3_append_16 : decode cX3_append 16 = .ok (.iload_n 1, 1) := by decide +kernel
theorem dX3_append_17 : decode cX3_append 17 = .ok (.iastore, 1) := by decide +kernel
theorem dX3_append_18 : decode cX3_append 18 = .ok (.aload_n 0, 1) := by decide +kernel
theorem dX3_append_19 : decode cX3_append 19 = .ok (.dup, 1) := by decide +kernel
theorem dX3_append_20 : decode cX3_append 20 = .ok (.getfield 15, 3) := by decide +kernel
theorem dX3_append_23 : decode cX3_append 23 = .ok (.iconst 1, 1) := by decide +kernel
theorem dX3_append_24 : decode cX3_append 24 = .ok (.iadd, 1) := by decide +kernel
theorem dX3_append_25 : decode cX3_append 25 = .ok (.putfield 15, 3) := by decide +kernel
theorem dX3_append_28 : decode cX3_append 28 = .ok (.return_, 1) := by decide +kernel
theorem dX3_canMove_0 : decode cX3_canMove 0 = .ok (.iconst 0, 1) := by decide +kernel
theorem dX3_canMove_1 : decode cX3_canMove 1 = .ok (.istore_n 2, 1) := by decide +kernel
theorem dX3_canMove_2 : decode cX3_canMove 2 = .ok (.iload_n 2, 1) := by decide +kernel
theorem dX3_canMove_3 : decode cX3_canMove 3 = .ok (.aload_n 0, 1) := by decide +kernel
theorem dX3_canMove_4 : decode cX3_canMove 4 = .ok (.getfield 15, 3) := by decide +kernel
theorem dX3_canMove_7 : decode cX3_canMove 7 = .ok (.if_icmp .ge 30, 3) := by decide +kernel
theorem dX3_canMove_10 : decode cX3_canMove 10 = .ok (.aload_n 0, 1) := by decide +kernel
theorem dX3_canMove_11 : decode cX3_canMove 11 = .ok (.getfield 9, 3) := by decide +kernel
theorem dX3_canMove_14 : decode cX3_canMove 14 = .ok (.iload_n 2, 1) := by decide +kernel
theorem dX3_canMove_15 : decode cX3_canMove 15 = .ok (.iaload, 1) := by decide +kernel
theorem dX3_canMove_16 : decode cX3_canMove 16 = .ok (.iload_n 1, 1) := by decide +kernel
theorem dX3_canMove_17 : decode cX3_canMove 17 = .ok (.iadd, 1) := by decide +kernel
theorem dX3_canMove_18 : decode cX3_canMove 18 = .ok (.istore_n 3, 1) := by decide +kernel
theorem dX3_canMove_19 : decode cX3_canMove 19 = .ok (.iload_n 3, 1) := by decide +kernel
theorem dX3_canMove_20 : decode cX3_canMove 20 = .ok (.ifCond .lt 9, 3) := by decide +kernel
theorem dX3_canMove_23 : decode cX3_canMove 23 = .ok (.iload_n 3, 1) := by decide +kernel
theorem dX3_canMove_24 : decode cX3_canMove 24 = .ok (.bipush 80, 2) := by decide +kernel
theorem dX3_canMove_26 : decode cX3_canMove 26 = .ok (.if_icmp .le 5, 3) := by decide +kernel
theorem dX3_canMove_29 : decode cX3_canMove 29 = .ok (.iconst 0, 1) := by decide +kernel
theorem dX3_canMove_30 : decode cX3_canMove 30 = .ok (.ireturn, 1) := by decide +kernel
theorem dX3_canMove_31 : decode cX3_canMove 31 = .ok (.iinc 2 1, 3) := by decide +kernel
theorem dX3_canMove_34 : decode cX3_canMove 34 = .ok (.goto (-32), 3) := by decide +kernel
theorem dX3_canMove_37 : decode cX3_canMove 37 = .ok (.iconst 1, 1) := by decide +kernel
theorem dX3_canMove_38 : decode cX3_canMove 38 = .ok (.ireturn, 1) := by decide +kernel
theorem dX3_move_0 : decode cX3_move 0 = .ok (.iconst 0, 1) := by decide +kernel
theorem dX3_move_1 : decode cX3_move 1 = .ok (.istore_n 2, 1) := by decide +kernel
theorem dX3_move_2 : decode cX3_move 2 = .ok (.iload_n 2, 1) := by decide +kernel
theorem dX3_move_3 : decode cX3_move 3 = .ok (.aload_n 0, 1) := by decide +kernel
theorem dX3_move_4 : decode cX3_move 4 = .ok (.getfield 15, 3) := by decide +kernel
theorem dX3_move_7 : decode cX3_move 7 = .ok (.if_icmp .ge 19, 3) := by decide +kernel
theorem dX3_move_10 : decode cX3_move 10 = .ok (.aload_n 0, 1) := by decide +kernel
theorem dX3_move_11 : decode cX3_move 11 = .ok (.getfield 9, 3) := by decide +kernel
theorem dX3_move_14 : decode cX3_move 14 = .ok (.iload_n 2, 1) := by decide +kernel
theorem dX3_move_15 : decode cX3_move 15 = .ok (.dup2, 1) := by decide +kernel
theorem dX3_move_16 : decode cX3_move 16 = .ok (.iaload, 1) := by decide +kernel
theorem dX3_move_17 : decode cX3_move 17 = .ok (.iload_n 1, 1) := by decide +kernel
theorem dX3_move_18 : decode cX3_move 18 = .ok (.iadd, 1) := by decide +kernel
theorem dX3_move_19 : decode cX3_move 19 = .ok (.iastore, 1) := by decide +kernel
theorem dX3_move_20 : decode cX3_move 20 = .ok (.iinc 2 1, 3) := by decide +kernel
theorem dX3_move_23 : decode cX3_move 23 = .ok (.goto (-21), 3) := by decide +kernel
theorem dX3_move_26 : decode cX3_move 26 = .ok (.return_, 1) := by decide +kernel
theorem dX4_init_0 : decode cX4_init 0 = .ok (.aload_n 0, 1) := by decide +kernel
theorem dX4_init_1 : decode cX4_init 1 = .ok (.invokespecial 3, 3) := by decide +kernel
theorem dX4_init_4 : decode cX4_init 4 = .ok (.aload_n 0, 1) := by decide +kernel
theorem dX4_init_5 : decode cX4_init 5 = .ok (.iconst 2, 1) := by decide +kernel
theorem dX4_init_6 : decode cX4_init 6 = .ok (.putfield 9, 3) := by decide +kernel
theorem dX4_init_9 : decode cX4_init 9 = .ok (.aload_n 0, 1) := by decide +kernel
theorem dX4_init_10 : decode cX4_init 10 = .ok (.iconst 0, 1) := by decide +kernel
theorem dX4_init_11 : decode cX4_init 11 = .ok (.putfield 15, 3) := by decide +kernel
theorem dX4_init_14 : decode cX4_init 14 = .ok (.return_, 1) := by decide +kernel
theorem dX4_knows_0 : decode cX4_knows 0 = .ok (.aload_n 0, 1) := by decide +kernel
theorem dX4_knows_1 : decode cX4_knows 1 = .ok (.getfield 15, 3) := by decide +kernel
theorem dX4_knows_4 : decode cX4_knows 4 = .ok (.iconst 1, 1) := by decide +kernel
theorem dX4_knows_5 : decode cX4_knows 5 = .ok (.iload_n 1, 1) := by decide +kernel
theorem dX4_knows_6 : decode cX4_knows 6 = .ok (.ishl, 1) := by decide +kernel
theorem dX4_knows_7 : decode cX4_knows 7 = .ok (.iand, 1) := by decide +kernel
theorem dX4_knows_8 : decode cX4_knows 8 = .ok (.ifCond .eq 7, 3) := by decide +kernel
theorem dX4_knows_11 : decode cX4_knows 11 = .ok (.iconst 1, 1) := by decide +kernel
theorem dX4_knows_12 : decode cX4_knows 12 = .ok (.goto 4, 3) := by decide +kernel
theorem dX4_knows_15 : decode cX4_knows 15 = .ok (.iconst 0, 1) := by decide +kernel
theorem dX4_knows_16 : decode cX4_knows 16 = .ok (.ireturn, 1) := by decide +kernel
theorem dX4_takeIn_0 : decode cX4_takeIn 0 = .ok (.aload_n 0, 1) := by decide +kernel
theorem dX4_takeIn_1 : decode cX4_takeIn 1 = .ok (.dup, 1) := by decide +kernel
theorem dX4_takeIn_2 : decode cX4_takeIn 2 = .ok (.getfield 15, 3) := by decide +kernel
theorem dX4_takeIn_5 : decode cX4_takeIn 5 = .ok (.iconst 1, 1) := by decide +kernel
theorem dX4_takeIn_6 : decode cX4_takeIn 6 = .ok (.iload_n 1, 1) := by decide +kernel
theorem dX4_takeIn_7 : decode cX4_takeIn 7 = .ok (.ishl, 1) := by decide +kernel
theorem dX4_takeIn_8 : decode cX4_takeIn 8 = .ok (.ior, 1) := by decide +kernel
theorem dX4_takeIn_9 : decode cX4_takeIn 9 = .ok (.putfield 15, 3) := by decide +kernel
theorem dX4_takeIn_12 : decode cX4_takeIn 12 = .ok (.iload_n 2, 1) := by decide +kernel
theorem dX4_takeIn_13 : decode cX4_takeIn 13 = .ok (.aload_n 0, 1) := by decide +kernel
theorem dX4_takeIn_14 : decode cX4_takeIn 14 = .ok (.getfield 9, 3) := by decide +kernel
theorem dX4_takeIn_17 : decode cX4_takeIn 17 = .ok (.if_icmp .ne 13, 3) := by decide +kernel
theorem dX4_takeIn_20 : decode cX4_takeIn 20 = .ok (.aload_n 0, 1) := by decide +kernel
theorem dX4_takeIn_21 : decode cX4_takeIn 21 = .ok (.dup, 1) := by decide +kernel
theorem dX4_takeIn_22 : decode cX4_takeIn 22 = .ok (.getfield 9, 3) := by decide +kernel
theorem dX4_takeIn_25 : decode cX4_takeIn 25 = .ok (.iconst 1, 1) := by decide +kernel
theorem dX4_takeIn_26 : decode cX4_takeIn 26 = .ok (.iadd, 1) := by decide +kernel
theorem dX4_takeIn_27 : decode cX4_takeIn 27 = .ok (.putfield 9, 3) := by decide +kernel
theorem dX4_takeIn_30 : decode cX4_takeIn 30 = .ok (.return_, 1) := by decide +kernel
theorem dJ9_abs_0f7a4_0 : decode cJ9_abs_0f7a4 0 = .ok (.iload_n 0, 1) := by decide +kernel
theorem dJ9_abs_0f7a4_1 : decode cJ9_abs_0f7a4 1 = .ok (.ifCond .ge 8, 3) := by decide +kernel
theorem dJ9_abs_0f7a4_4 : decode cJ9_abs_0f7a4 4 = .ok (.iload_n 0, 1) := by decide +kernel
theorem dJ9_abs_0f7a4_5 : decode cJ9_abs_0f7a4 5 = .ok (.ineg, 1) := by decide +kernel
theorem dJ9_abs_0f7a4_6 : decode cJ9_abs_0f7a4 6 = .ok (.goto 4, 3) := by decide +kernel
theorem dJ9_abs_0f7a4_9 : decode cJ9_abs_0f7a4 9 = .ok (.iload_n 0, 1) := by decide +kernel
theorem dJ9_abs_0f7a4_10 : decode cJ9_abs_0f7a4 10 = .ok (.ireturn, 1) := by decide +kernel
end
