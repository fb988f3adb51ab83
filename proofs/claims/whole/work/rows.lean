section
-- ===== PART A: goes FIRST, ahead of the names: the tables' words, and 'selects' of the private methods out of them =====
/-- a private method of a class that the tables say can be made, by its rows of tables_1 -/
def lw_okq (q : MethodName × Nat) : Prop := (q.1.cls ≠ "java/lang/invoke/MethodHandle" ∧ q.1.cls ≠ "java/lang/invoke/VarHandle") ∧ Cond.instantiable q.1.cls q.2 ∈ tables_1 ∧ Cond.privateMethod q.1 ∈ tables_1 ∧ Cond.instanceMethod q.1 ∈ tables_1
theorem lw_p0 : lw_okq (⟨"java/lang/Throwable", "fillInStackTrace", "(I)Ljava/lang/Throwable;"⟩, 6) := ⟨⟨by decide +kernel, by decide +kernel⟩, List.mem_of_getElem? (i := 214) (by decide +kernel), List.mem_of_getElem? (i := 212) (by decide +kernel), List.mem_of_getElem? (i := 213) (by decide +kernel)⟩
theorem lw_p1 : lw_okq (⟨"FretSchool", "needPiece", "(I)V"⟩, 10) := ⟨⟨by decide +kernel, by decide +kernel⟩, List.mem_of_getElem? (i := 16) (by decide +kernel), List.mem_of_getElem? (i := 253) (by decide +kernel), List.mem_of_getElem? (i := 254) (by decide +kernel)⟩
theorem lw_p2 : lw_okq (⟨"FretSchool", "needNote", "(II)V"⟩, 10) := ⟨⟨by decide +kernel, by decide +kernel⟩, List.mem_of_getElem? (i := 16) (by decide +kernel), List.mem_of_getElem? (i := 325) (by decide +kernel), List.mem_of_getElem? (i := 326) (by decide +kernel)⟩
theorem lw_p3 : lw_okq (⟨"FretSchool", "needInstrument", "(I)V"⟩, 10) := ⟨⟨by decide +kernel, by decide +kernel⟩, List.mem_of_getElem? (i := 16) (by decide +kernel), List.mem_of_getElem? (i := 337) (by decide +kernel), List.mem_of_getElem? (i := 338) (by decide +kernel)⟩
theorem lw_p4 : lw_okq (⟨"FretSchool", "findBest", "(II)Z"⟩, 10) := ⟨⟨by decide +kernel, by decide +kernel⟩, List.mem_of_getElem? (i := 16) (by decide +kernel), List.mem_of_getElem? (i := 356) (by decide +kernel), List.mem_of_getElem? (i := 357) (by decide +kernel)⟩
theorem lw_p5 : lw_okq (⟨"FretSchool$Hand", "feelReach", "(LFretSchool$Piece;LFretSchool$Instrument;)V"⟩, 5) := ⟨⟨by decide +kernel, by decide +kernel⟩, List.mem_of_getElem? (i := 102) (by decide +kernel), List.mem_of_getElem? (i := 364) (by decide +kernel), List.mem_of_getElem? (i := 365) (by decide +kernel)⟩
theorem lw_p6 : lw_okq (⟨"FretSchool$Hand", "measureRest", "(IZ)V"⟩, 5) := ⟨⟨by decide +kernel, by decide +kernel⟩, List.mem_of_getElem? (i := 102) (by decide +kernel), List.mem_of_getElem? (i := 376) (by decide +kernel), List.mem_of_getElem? (i := 377) (by decide +kernel)⟩
theorem lw_p7 : lw_okq (⟨"FretSchool$Hand", "nearest", "(II)I"⟩, 5) := ⟨⟨by decide +kernel, by decide +kernel⟩, List.mem_of_getElem? (i := 102) (by decide +kernel), List.mem_of_getElem? (i := 380) (by decide +kernel), List.mem_of_getElem? (i := 381) (by decide +kernel)⟩
theorem lw_p8 : lw_okq (⟨"FretSchool$Hand", "chooseRow", "(I)Z"⟩, 5) := ⟨⟨by decide +kernel, by decide +kernel⟩, List.mem_of_getElem? (i := 102) (by decide +kernel), List.mem_of_getElem? (i := 394) (by decide +kernel), List.mem_of_getElem? (i := 395) (by decide +kernel)⟩
theorem lw_p9 : lw_okq (⟨"FretSchool", "learnableShift", "(III)I"⟩, 10) := ⟨⟨by decide +kernel, by decide +kernel⟩, List.mem_of_getElem? (i := 16) (by decide +kernel), List.mem_of_getElem? (i := 450) (by decide +kernel), List.mem_of_getElem? (i := 451) (by decide +kernel)⟩
theorem lw_p10 : lw_okq (⟨"FretSchool", "easiestShift", "(II)I"⟩, 10) := ⟨⟨by decide +kernel, by decide +kernel⟩, List.mem_of_getElem? (i := 16) (by decide +kernel), List.mem_of_getElem? (i := 480) (by decide +kernel), List.mem_of_getElem? (i := 481) (by decide +kernel)⟩
theorem lw_p11 : lw_okq (⟨"FretSchool", "ordersAtWork", "()I"⟩, 10) := ⟨⟨by decide +kernel, by decide +kernel⟩, List.mem_of_getElem? (i := 16) (by decide +kernel), List.mem_of_getElem? (i := 499) (by decide +kernel), List.mem_of_getElem? (i := 500) (by decide +kernel)⟩
theorem lw_p12 : lw_okq (⟨"FretSchool", "needOrder", "(I)V"⟩, 10) := ⟨⟨by decide +kernel, by decide +kernel⟩, List.mem_of_getElem? (i := 16) (by decide +kernel), List.mem_of_getElem? (i := 520) (by decide +kernel), List.mem_of_getElem? (i := 521) (by decide +kernel)⟩
theorem lw_p13 : lw_okq (⟨"FretSchoolModel", "goes", "(ZZZ)Z"⟩, 19) := ⟨⟨by decide +kernel, by decide +kernel⟩, List.mem_of_getElem? (i := 551) (by decide +kernel), List.mem_of_getElem? (i := 624) (by decide +kernel), List.mem_of_getElem? (i := 625) (by decide +kernel)⟩
theorem lw_p14 : lw_okq (⟨"FretSchoolModel", "isPiece", "(I)Z"⟩, 19) := ⟨⟨by decide +kernel, by decide +kernel⟩, List.mem_of_getElem? (i := 551) (by decide +kernel), List.mem_of_getElem? (i := 632) (by decide +kernel), List.mem_of_getElem? (i := 633) (by decide +kernel)⟩
theorem lw_p15 : lw_okq (⟨"FretSchoolModel", "isNote", "(II)Z"⟩, 19) := ⟨⟨by decide +kernel, by decide +kernel⟩, List.mem_of_getElem? (i := 551) (by decide +kernel), List.mem_of_getElem? (i := 647) (by decide +kernel), List.mem_of_getElem? (i := 648) (by decide +kernel)⟩
def lw_privs_1 : List (MethodName × Nat) := [(⟨"java/lang/Throwable", "fillInStackTrace", "(I)Ljava/lang/Throwable;"⟩, 6), (⟨"FretSchool", "needPiece", "(I)V"⟩, 10), (⟨"FretSchool", "needNote", "(II)V"⟩, 10), (⟨"FretSchool", "needInstrument", "(I)V"⟩, 10), (⟨"FretSchool", "findBest", "(II)Z"⟩, 10), (⟨"FretSchool$Hand", "feelReach", "(LFretSchool$Piece;LFretSchool$Instrument;)V"⟩, 5), (⟨"FretSchool$Hand", "measureRest", "(IZ)V"⟩, 5), (⟨"FretSchool$Hand", "nearest", "(II)I"⟩, 5), (⟨"FretSchool$Hand", "chooseRow", "(I)Z"⟩, 5), (⟨"FretSchool", "learnableShift", "(III)I"⟩, 10), (⟨"FretSchool", "easiestShift", "(II)I"⟩, 10), (⟨"FretSchool", "ordersAtWork", "()I"⟩, 10), (⟨"FretSchool", "needOrder", "(I)V"⟩, 10), (⟨"FretSchoolModel", "goes", "(ZZZ)Z"⟩, 19), (⟨"FretSchoolModel", "isPiece", "(I)Z"⟩, 19), (⟨"FretSchoolModel", "isNote", "(II)Z"⟩, 19)]
theorem lw_r1 : ∀ q ∈ lw_privs_1, lw_okq q := List.forall_mem_cons.mpr ⟨lw_p0, List.forall_mem_cons.mpr ⟨lw_p1, List.forall_mem_cons.mpr ⟨lw_p2, List.forall_mem_cons.mpr ⟨lw_p3, List.forall_mem_cons.mpr ⟨lw_p4, List.forall_mem_cons.mpr ⟨lw_p5, List.forall_mem_cons.mpr ⟨lw_p6, List.forall_mem_cons.mpr ⟨lw_p7, List.forall_mem_cons.mpr ⟨lw_p8, List.forall_mem_cons.mpr ⟨lw_p9, List.forall_mem_cons.mpr ⟨lw_p10, List.forall_mem_cons.mpr ⟨lw_p11, List.forall_mem_cons.mpr ⟨lw_p12, List.forall_mem_cons.mpr ⟨lw_p13, List.forall_mem_cons.mpr ⟨lw_p14, List.forall_mem_cons.mpr ⟨lw_p15, fun _ h => absurd h List.not_mem_nil⟩⟩⟩⟩⟩⟩⟩⟩⟩⟩⟩⟩⟩⟩⟩⟩
theorem lw_p16 : lw_okq (⟨"FretSchoolModel", "isInstrument", "(I)Z"⟩, 19) := ⟨⟨by decide +kernel, by decide +kernel⟩, List.mem_of_getElem? (i := 551) (by decide +kernel), List.mem_of_getElem? (i := 655) (by decide +kernel), List.mem_of_getElem? (i := 656) (by decide +kernel)⟩
theorem lw_p17 : lw_okq (⟨"FretSchoolModel", "told", "(I)I"⟩, 19) := ⟨⟨by decide +kernel, by decide +kernel⟩, List.mem_of_getElem? (i := 551) (by decide +kernel), List.mem_of_getElem? (i := 667) (by decide +kernel), List.mem_of_getElem? (i := 668) (by decide +kernel)⟩
theorem lw_p18 : lw_okq (⟨"FretSchoolModel", "asks", "(II)Z"⟩, 19) := ⟨⟨by decide +kernel, by decide +kernel⟩, List.mem_of_getElem? (i := 551) (by decide +kernel), List.mem_of_getElem? (i := 675) (by decide +kernel), List.mem_of_getElem? (i := 676) (by decide +kernel)⟩
theorem lw_p19 : lw_okq (⟨"FretSchoolModel", "finds", "(II)I"⟩, 19) := ⟨⟨by decide +kernel, by decide +kernel⟩, List.mem_of_getElem? (i := 551) (by decide +kernel), List.mem_of_getElem? (i := 679) (by decide +kernel), List.mem_of_getElem? (i := 680) (by decide +kernel)⟩
theorem lw_p20 : lw_okq (⟨"FretSchoolModel", "from", "(IIII)I"⟩, 19) := ⟨⟨by decide +kernel, by decide +kernel⟩, List.mem_of_getElem? (i := 551) (by decide +kernel), List.mem_of_getElem? (i := 683) (by decide +kernel), List.mem_of_getElem? (i := 684) (by decide +kernel)⟩
theorem lw_p21 : lw_okq (⟨"FretSchoolModel", "plays", "(IIII)Z"⟩, 19) := ⟨⟨by decide +kernel, by decide +kernel⟩, List.mem_of_getElem? (i := 551) (by decide +kernel), List.mem_of_getElem? (i := 687) (by decide +kernel), List.mem_of_getElem? (i := 688) (by decide +kernel)⟩
theorem lw_p22 : lw_okq (⟨"FretSchoolModel", "lies", "(IIIII)Z"⟩, 19) := ⟨⟨by decide +kernel, by decide +kernel⟩, List.mem_of_getElem? (i := 551) (by decide +kernel), List.mem_of_getElem? (i := 691) (by decide +kernel), List.mem_of_getElem? (i := 692) (by decide +kernel)⟩
theorem lw_p23 : lw_okq (⟨"FretSchoolModel", "hardestOf", "(II)I"⟩, 19) := ⟨⟨by decide +kernel, by decide +kernel⟩, List.mem_of_getElem? (i := 551) (by decide +kernel), List.mem_of_getElem? (i := 707) (by decide +kernel), List.mem_of_getElem? (i := 708) (by decide +kernel)⟩
theorem lw_p24 : lw_okq (⟨"FretSchoolModel", "asksNote", "(III)Z"⟩, 19) := ⟨⟨by decide +kernel, by decide +kernel⟩, List.mem_of_getElem? (i := 551) (by decide +kernel), List.mem_of_getElem? (i := 715) (by decide +kernel), List.mem_of_getElem? (i := 716) (by decide +kernel)⟩
theorem lw_p25 : lw_okq (⟨"FretSchoolModel", "canLearn", "(III)Z"⟩, 19) := ⟨⟨by decide +kernel, by decide +kernel⟩, List.mem_of_getElem? (i := 551) (by decide +kernel), List.mem_of_getElem? (i := 730) (by decide +kernel), List.mem_of_getElem? (i := 731) (by decide +kernel)⟩
theorem lw_p26 : lw_okq (⟨"FretSchoolModel", "isKnown", "(II)Z"⟩, 19) := ⟨⟨by decide +kernel, by decide +kernel⟩, List.mem_of_getElem? (i := 551) (by decide +kernel), List.mem_of_getElem? (i := 734) (by decide +kernel), List.mem_of_getElem? (i := 735) (by decide +kernel)⟩
theorem lw_p27 : lw_okq (⟨"FretSchoolModel", "atWork", "()I"⟩, 19) := ⟨⟨by decide +kernel, by decide +kernel⟩, List.mem_of_getElem? (i := 551) (by decide +kernel), List.mem_of_getElem? (i := 758) (by decide +kernel), List.mem_of_getElem? (i := 759) (by decide +kernel)⟩
theorem lw_p28 : lw_okq (⟨"FretSchoolModel", "isOrder", "(I)Z"⟩, 19) := ⟨⟨by decide +kernel, by decide +kernel⟩, List.mem_of_getElem? (i := 551) (by decide +kernel), List.mem_of_getElem? (i := 766) (by decide +kernel), List.mem_of_getElem? (i := 767) (by decide +kernel)⟩
def lw_privs_2 : List (MethodName × Nat) := [(⟨"FretSchoolModel", "isInstrument", "(I)Z"⟩, 19), (⟨"FretSchoolModel", "told", "(I)I"⟩, 19), (⟨"FretSchoolModel", "asks", "(II)Z"⟩, 19), (⟨"FretSchoolModel", "finds", "(II)I"⟩, 19), (⟨"FretSchoolModel", "from", "(IIII)I"⟩, 19), (⟨"FretSchoolModel", "plays", "(IIII)Z"⟩, 19), (⟨"FretSchoolModel", "lies", "(IIIII)Z"⟩, 19), (⟨"FretSchoolModel", "hardestOf", "(II)I"⟩, 19), (⟨"FretSchoolModel", "asksNote", "(III)Z"⟩, 19), (⟨"FretSchoolModel", "canLearn", "(III)Z"⟩, 19), (⟨"FretSchoolModel", "isKnown", "(II)Z"⟩, 19), (⟨"FretSchoolModel", "atWork", "()I"⟩, 19), (⟨"FretSchoolModel", "isOrder", "(I)Z"⟩, 19)]
theorem lw_r2 : ∀ q ∈ lw_privs_2, lw_okq q := List.forall_mem_cons.mpr ⟨lw_p16, List.forall_mem_cons.mpr ⟨lw_p17, List.forall_mem_cons.mpr ⟨lw_p18, List.forall_mem_cons.mpr ⟨lw_p19, List.forall_mem_cons.mpr ⟨lw_p20, List.forall_mem_cons.mpr ⟨lw_p21, List.forall_mem_cons.mpr ⟨lw_p22, List.forall_mem_cons.mpr ⟨lw_p23, List.forall_mem_cons.mpr ⟨lw_p24, List.forall_mem_cons.mpr ⟨lw_p25, List.forall_mem_cons.mpr ⟨lw_p26, List.forall_mem_cons.mpr ⟨lw_p27, List.forall_mem_cons.mpr ⟨lw_p28, fun _ h => absurd h List.not_mem_nil⟩⟩⟩⟩⟩⟩⟩⟩⟩⟩⟩⟩⟩
def lw_privs : List (MethodName × Nat) := lw_privs_1 ++ (lw_privs_2)
def lw_tbl : List Cond := k2_sels lw_privs ++ tables_1
theorem lw_privs_ok : ∀ q ∈ lw_privs, lw_okq q := by
  show ∀ q ∈ lw_privs_1 ++ (lw_privs_2), lw_okq q
  exact List.forall_mem_append.mpr ⟨lw_r1, lw_r2⟩
-- ===== end of PART A; then your names; then what follows =====
/-- what the printed names ask of an array of arrays (their own word for it isn't in this claim's kit) -/
def va_AOA (ty : FieldType) (U : State) : Prop := (Cond.arrayOver (.array ty)).before #[] U = true
theorem va_AOA.of {ty : FieldType} {A : Array Value} {U : State} (h : (Cond.arrayOver (.array ty)).before A U = true) : va_AOA ty U := h
theorem va_AOA.use {ty : FieldType} {A : Array Value} {U : State} (h : va_AOA ty U) : (Cond.arrayOver (.array ty)).before A U = true := h
end
section
/-! ===== BEGIN words of one list among another's, by their places ===== -/
theorem goodIn_r {big : List Cond} (ws : List Cond) (ps : List Nat) (hp : ws = ps.filterMap (fun i => big[i]?)) (h : ws.all goodWord = true) : GoodIn big ws := by
  intro w hw
  have h1 := List.all_eq_true.mp h w hw
  rw [hp] at hw
  obtain ⟨i, -, hi⟩ := List.mem_filterMap.mp hw
  have hm : w ∈ big := by first | exact List.mem_of_getElem? hi | exact List.getElem?_mem hi
  exact ⟨hm, good_of_word h1⟩
theorem goodIn_app {big a b : List Cond} (ha : GoodIn big a) (hb : GoodIn big b) : GoodIn big (a ++ b) := fun w h => (List.mem_append.mp h).elim (ha w) (hb w)
theorem goodIn_ca {big a b : List Cond} {c : Cond} (ha : GoodIn big (c :: a)) (hb : GoodIn big b) : GoodIn big (c :: (a ++ b)) := fun w h => (List.mem_cons.mp h).elim (fun e => ha w (List.mem_cons.mpr (Or.inl e))) (fun h => (List.mem_append.mp h).elim (fun h => ha w (List.mem_cons.mpr (Or.inr h))) (hb w))
theorem goodIn_sub {big ws : List Cond} (hm : ∀ w ∈ ws, w ∈ big) (h : ws.all goodWord = true) : GoodIn big ws := fun w hw => ⟨hm w hw, good_of_word (List.all_eq_true.mp h w hw)⟩
/-! ===== END ===== -/

/-! ===== BEGIN new T[n][m]: the outer array a place, the inner ones among the pooled ===== -/
/-- f, but v at every address of l -/
def vr_up {α : Type} (f : Nat → α) (l : List Nat) (v : α) : Nat → α := fun a => if a ∈ l then v else f a
theorem vr_up_in {α : Type} {f : Nat → α} {l : List Nat} {v : α} {a : Nat} (h : a ∈ l) : vr_up f l v a = v := if_pos h
theorem vr_up_ne {α : Type} {f : Nat → α} {l : List Nat} {v : α} {a : Nat} (h : a ∉ l) : vr_up f l v a = f a := if_neg h
theorem vr_rows {L l : List Nat} {f : Nat → va_E} {e : va_E} (h : ∀ a, a ∈ l → a ∉ L) : va_pl L f ++ l.map (fun a => (a, e)) = va_pl (L ++ l) (vr_up f l e) := by
  unfold va_pl
  rw [List.map_append]
  congr 1
  · apply List.map_congr_left
    intro a ha
    rw [vr_up_ne (fun q => h a q ha)]
  · apply List.map_congr_left
    intro a ha
    rw [vr_up_in ha]
theorem vr_lay {X rows : va_W} {x : Nat × va_E} {pl : va_W} {D : va_G} {cl : List vw_C} {H : Heap} (hP : va_P D cl (((X ++ pl) ++ [x]) ++ rows) H) : va_P D cl ((X ++ [x]) ++ (pl ++ rows)) H := by
  rw [List.append_assoc (X ++ pl)] at hP
  have h := va_P.swap hP
  rw [← List.append_assoc X] at h
  have h2 := va_P.swap h
  rw [List.append_assoc (X ++ [x])] at h2
  exact h2
theorem vr_layD {X rows : va_W} {x : Nat × va_E} {pl : va_W} {A : Nat → Prop} (hD : va_D A (((X ++ pl) ++ [x]) ++ rows)) : va_D A ((X ++ [x]) ++ (pl ++ rows)) := by
  rw [List.append_assoc (X ++ pl)] at hD
  have h := va_D.swap hD
  rw [← List.append_assoc X] at h
  have h2 := va_D.swap h
  rw [List.append_assoc (X ++ [x])] at h2
  exact h2
theorem vr_outer (c : ClassId) (N h0 : Nat) : ∀ i : Nat, Jvm.Free.Multi.outerC c N h0 i = arrV c N (fun j => va_rf (if j < i then some (h0 + 1 + j) else none))
  | 0 => by
    show ({ cls := c, slots := Array.replicate N .null, vm := .none } : Cell) = _
    rw [arrV_new]
    refine congrArg (arrV c N) (funext fun j => ?_)
    simp [va_rf]
  | i + 1 => by
    show (Jvm.Free.Multi.outerC c N h0 i).setSlot i (.ref (h0 + 1 + i)) = _
    rw [vr_outer c N h0 i, arrV_store]
    refine congrArg (arrV c N) (funext fun j => ?_)
    by_cases e : j = i
    · subst e
      simp [updV, va_rf]
    · by_cases h : j < i
      · simp [updV, e, h, Nat.lt_succ_of_lt h]
      · simp [updV, e, h, show ¬ j < i + 1 by omega]
section VGM
variable {p : Program} {l : Launch} {e : Env} {R : Room} {s : State} {m : MethodId} {args : Array Value} {below : List Frame} {meth : Method} {c : Code} {H : Heap} {locs : List Loc} {cells slots : Nat} {Q : State → Prop}
variable {cc : ByteArray} {pc : Nat} {ls : Array Slot} {rest : List Value} {D : va_G} {cl : List vw_C} {A : Nat → Prop} {a : Nat} {tys : List (ClassId × FieldType)} {ws : va_W} {H0 : Heap}
theorem va_mna {X : va_W} {L : List Nat} {f : Nat → va_E} {cc : ByteArray} (hexec : p.tables.exec = Jvm.exec) (hb : c.code = cc) {own : String} {index : Nat} {ty : FieldType} {cy : ClassId} (hown : s.vm.findClass own = some m.cls) (hclink : (Cond.classLink own index ("[" ++ (FieldType.array ty).toString)).before args s = true) (hover : va_AOA ty s) (harr : (Cond.arrayClass ty).before args s = true) (hcy : s.vm.findClass (FieldType.array ty).toString = some cy)
    (hK : va_K D cl tys s) (hP : va_P D cl (X ++ va_pl L f) H) (hD : va_D A (X ++ va_pl L f)) (hS : va_S A H0 H locs) (hA : ∀ q, H0.size ≤ q → A q) {n k : Int32} {N' K' : Nat} {z : vp_A} (hn : ¬ n < 0) (hk : ¬ k < 0) (hN : n.toNatClampNeg = N') (hM : k.toNatClampNeg = K')
    (hb1 : N' * 4 ≤ 536870912) (hb2 : K' * componentBytes ty ≤ 536870912) (hb3 : K' ≤ 536870912) (hdf : fits ty (defaultValue ty) = true) (hdd : (defaultValue ty).isDefault = true) (hcells : cells + (1 + N') ≤ R.cells) (hslots : slots + (N' + N' * K') ≤ R.slots) (hz : ∀ c : ClassId, Jvm.Free.Multi.innerC c K' (defaultValue ty) = vp_cell c z) (hdg : decode cc pc = .ok (.multianewarray index 2, 4))
    (kk : ∀ (q : Nat) (r : Nat → Nat) (cA : ClassId) (H1 : Heap), (∀ i j : Nat, i < N' → j < N' → r i = r j → i = j) → (∀ i : Nat, i < N' → r i ∉ L) → va_K D cl (tys ++ [(cA, .array ty)]) s →
      va_P D cl ((X ++ [(q, .inl (cA, N', .inr (.inr (.inr (.inr (fun i => if i < N' then some (r i) else none))))))]) ++ va_pl (L ++ (List.range N').map r) (vr_up f ((List.range N').map r) (.inl (cy, z)))) H1 → va_D A ((X ++ [(q, .inl (cA, N', .inr (.inr (.inr (.inr (fun i => if i < N' then some (r i) else none))))))]) ++ va_pl (L ++ (List.range N').map r) (vr_up f ((List.range N').map r) (.inl (cy, z)))) → va_S A H0 H1 locs →
      W p l e R s m args below meth c H1 locs (cells + 1 + N') (slots + N' + N' * K') Q (F0 m (pc + 4) ls (.ref q :: rest))) : W p l e R s m args below meth c H locs cells slots Q (F0 m pc ls (.int k :: .int n :: rest)) := by
  subst hN
  subst hM
  intro T hT Xs
  obtain ⟨vm₁, cA, comp, -, fA, fC, hO, -, X', step⟩ := Xs.multianewarray2F hexec hown hclink (va_AOA.use hover) harr (g := F0 m pc ls (.int k :: .int n :: rest)) rfl (by rw [hb]; exact hdg) rfl hn hk hb1 hb2 hb3 hdf hdd hcells hslots
  have ec : some cy = some comp := hcy.symm.trans fC
  cases ec
  generalize hF : Jvm.Free.Multi.fill (T.setVm vm₁) cA cy n.toNatClampNeg k.toNatClampNeg (defaultValue ty) n.toNatClampNeg = F at X' step
  have hTh : (T.setVm vm₁).heap = H := hT
  obtain ⟨f1, f2, -, -⟩ := Jvm.Free.Multi.fill_facts (T.setVm vm₁) cA cy n.toNatClampNeg k.toNatClampNeg (defaultValue ty) n.toNatClampNeg
  rw [hF, hTh] at f1 f2
  have hold : ∀ x : Nat, x < H.size → F.heap[x]? = H[x]? := fun x hx => by
    have := Jvm.Free.Multi.fill_old (T.setVm vm₁) cA cy n.toNatClampNeg k.toNatClampNeg (defaultValue ty) (a := x) (by rw [hTh]; exact hx) n.toNatClampNeg
    rw [hF, hTh] at this
    exact this
  have hrow : ∀ j : Nat, j < n.toNatClampNeg → F.heap[H.size + 1 + j]? = some (vp_cell cy z) := fun j hj => by
    have := Jvm.Free.Multi.fill_inner (T.setVm vm₁) cA cy n.toNatClampNeg k.toNatClampNeg (defaultValue ty) n.toNatClampNeg j hj
    rw [hF, hTh, hz] at this
    exact this
  have hout : Jvm.Free.Multi.outerC cA n.toNatClampNeg H.size n.toNatClampNeg = vp_cell cA (n.toNatClampNeg, .inr (.inr (.inr (.inr (fun i => if i < n.toNatClampNeg then some (H.size + 1 + i) else none))))) := by
    rw [vp_cell_q]
    exact vr_outer cA n.toNatClampNeg H.size n.toNatClampNeg
  rw [hout] at f2
  have hlt : ∀ a, a ∈ L → a < H.size := fun a ha => by
    obtain ⟨k9, hk9⟩ := va_pl_get (X := X) (f := f) ha
    exact (hP k9 _ hk9).lt
  have hnl : ∀ i : Nat, i < n.toNatClampNeg → H.size + 1 + i ∉ L := fun i _ h => by
    have := hlt _ h
    omega
  have hnm : ∀ a, a ∈ (List.range n.toNatClampNeg).map (fun i => H.size + 1 + i) → a ∉ L := fun a ha h => by
    obtain ⟨i, -, rfl⟩ := List.mem_map.mp ha
    have := hlt _ h
    omega
  have hP0 : va_P D cl (X ++ va_pl L f) F.heap := hP.kept (fun k9 x hx => hold x.1 ((hP k9 x hx).lt))
  have hP1 : va_P D cl ((X ++ va_pl L f) ++ [(H.size, .inl (cA, n.toNatClampNeg, .inr (.inr (.inr (.inr (fun i => if i < n.toNatClampNeg then some (H.size + 1 + i) else none))))))]) F.heap := hP0.app (fun k9 x hx => by
    have h0 : k9 < 1 := (List.getElem?_eq_some_iff.mp hx).1
    rw [show k9 = 0 by omega] at hx
    cases hx
    exact f2)
  have hP2 : va_P D cl (((X ++ va_pl L f) ++ [(H.size, .inl (cA, n.toNatClampNeg, .inr (.inr (.inr (.inr (fun i => if i < n.toNatClampNeg then some (H.size + 1 + i) else none))))))]) ++ ((List.range n.toNatClampNeg).map (fun i => H.size + 1 + i)).map (fun a => (a, .inl (cy, z)))) F.heap := hP1.app (fun k9 x hx => by
    obtain ⟨a, ha, rfl⟩ := List.mem_map.mp (List.mem_of_getElem? hx)
    obtain ⟨i, hi, rfl⟩ := List.mem_map.mp ha
    exact hrow i (List.mem_range.mp hi))
  have hD2 : va_D A (((X ++ va_pl L f) ++ [(H.size, .inl (cA, n.toNatClampNeg, .inr (.inr (.inr (.inr (fun i => if i < n.toNatClampNeg then some (H.size + 1 + i) else none))))))]) ++ ((List.range n.toNatClampNeg).map (fun i => H.size + 1 + i)).map (fun a => (a, .inl (cy, z)))) := by
    have hD1 := hD.push (e := .inl (cA, n.toNatClampNeg, .inr (.inr (.inr (.inr (fun i => if i < n.toNatClampNeg then some (H.size + 1 + i) else none)))))) hP rfl (hA _ hS.1)
    generalize hW1 : (X ++ va_pl L f) ++ [(H.size, .inl (cA, n.toNatClampNeg, .inr (.inr (.inr (.inr (fun i => if i < n.toNatClampNeg then some (H.size + 1 + i) else none))))))] = W1 at hD1 hP1 ⊢
    have hle : ∀ (k9 : Nat) (x : Nat × va_E), W1[k9]? = some x → x.1 ≤ H.size := fun k9 x hx => by
      rw [← hW1] at hx
      by_cases hl : k9 < (X ++ va_pl L f).length
      · rw [List.getElem?_append_left hl] at hx
        exact Nat.le_of_lt ((hP k9 x hx).lt)
      · rw [List.getElem?_append_right (by omega)] at hx
        have h0 : k9 - (X ++ va_pl L f).length < 1 := (List.getElem?_eq_some_iff.mp hx).1
        rw [show k9 - (X ++ va_pl L f).length = 0 by omega] at hx
        cases hx
        exact Nat.le_refl _
    have hr : ∀ (k9 : Nat) (x : Nat × va_E), (((List.range n.toNatClampNeg).map (fun i => H.size + 1 + i)).map (fun a => ((a, .inl (cy, z)) : Nat × va_E)))[k9]? = some x → x.1 = H.size + 1 + k9 := fun k9 x hx => by
      rw [List.getElem?_map, List.getElem?_map] at hx
      by_cases h9 : k9 < n.toNatClampNeg
      · rw [List.getElem?_range h9] at hx
        cases hx
        rfl
      · have hn0 : (List.range n.toNatClampNeg)[k9]? = none := List.getElem?_eq_none (by rw [List.length_range]; omega)
        rw [hn0] at hx
        cases hx
    refine ⟨fun i j x y hi hj hxy => ?_, fun k9 x hx => ?_⟩
    · by_cases h1 : i < W1.length <;> by_cases h2 : j < W1.length
      · rw [List.getElem?_append_left h1] at hi
        rw [List.getElem?_append_left h2] at hj
        exact hD1.1 i j x y hi hj hxy
      · rw [List.getElem?_append_left h1] at hi
        rw [List.getElem?_append_right (by omega)] at hj
        have := hle _ _ hi
        have := hr _ _ hj
        omega
      · rw [List.getElem?_append_right (by omega)] at hi
        rw [List.getElem?_append_left h2] at hj
        have := hle _ _ hj
        have := hr _ _ hi
        omega
      · rw [List.getElem?_append_right (by omega)] at hi hj
        have := hr _ _ hi
        have := hr _ _ hj
        omega
    · by_cases h1 : k9 < W1.length
      · rw [List.getElem?_append_left h1] at hx
        exact hD1.2 k9 x hx
      · rw [List.getElem?_append_right (by omega)] at hx
        have := hr _ _ hx
        exact hA _ (by have := hS.1; omega)
  have hAr : ArrOfT s cA (.array ty) := fun N9 z9 => by
    obtain ⟨-, k9, hk9, cm9, hkk9⟩ := (hO 0 0 0).1
    exact ⟨(fun q hq => by cases hq), k9, hk9, cm9, hkk9⟩
  have hK2 : va_K D cl (tys ++ [(cA, .array ty)]) s := ⟨hK.1, fun k9 x hx => by
    by_cases hl : k9 < tys.length
    · rw [List.getElem?_append_left hl] at hx
      exact hK.2 k9 x hx
    · rw [List.getElem?_append_right (by omega)] at hx
      have h0 : k9 - tys.length < 1 := (List.getElem?_eq_some_iff.mp hx).1
      rw [show k9 - tys.length = 0 by omega] at hx
      cases hx
      exact ⟨hAr, fA⟩⟩
  obtain ⟨t, a1, b1⟩ := kk H.size (fun i => H.size + 1 + i) cA F.heap (fun i j _ _ h => by have h9 : H.size + 1 + i = H.size + 1 + j := h; omega) hnl hK2 (by rw [← vr_rows hnm]; exact vr_lay hP2) (by rw [← vr_rows hnm]; exact vr_layD hD2) ⟨by rw [f1]; have := hS.1; omega, fun x h1 h2 => (hold x (Nat.lt_of_lt_of_le h1 hS.1)).trans (hS.2.1 x h1 h2), hS.2.2⟩ F rfl X'
  refine ⟨t, step t ?_, b1⟩
  have e : T.heap.size = H.size := by rw [hT]
  rw [e]
  exact a1
end VGM
/-! ===== END ===== -/

/-! ===== BEGIN exceptions that leave a method, and their catching by the caller (launches without stack traces) ===== -/
section VXA
/-! The laws vx_back, vx_callV, vx_callS, vx_callSW, vx_throw0, vx_throwS follow proofs of the library, with one case more: JvmDerived/Free/Laws.lean (Back.of_free), Shelf42/LK1.lean (callV, callS), Shelf/KitTraced.lean (throwNew0V, throwNewS). -/
/-- where a method has thrown q: the class by its name, the cell, what was written, the world -/
def vx_T (XC : String → State → State → Prop) (st : State) (q : Addr) (t : State) (mc ms : Nat) (free : Addr → Prop) : Prop :=
  ∃ (E : String) (ce : Cell) (L : List Loc), XC E st t ∧ t.heap[q]? = some ce ∧ ce.vm = .none ∧ st.vm.findClass E = some ce.cls ∧ st.WarmedH t.vm ∧ st.sameButNew ({ t with vm := st.vm } : State) L mc ms ∧ ∀ z ∈ L, free z.base
def vx_Q (Qc : Array Value → State → Outcome → State → Prop) (XC : String → State → State → Prop) (mc ms : Nat) (free : Addr → Prop) : Array Value → State → Outcome → State → Prop := fun a st o t =>
  (Qc a st o t ∧ ∃ L, FrameEnd st o t L mc ms ∧ ∀ q ∈ L, free q.base) ∨ ∃ q, o = .threw q ∧ vx_T XC st q t mc ms free
/-- a callee that returns or throws -/
def vx_Met (l : Launch) (y : MethodName) (ws : List Cond) (rm : Room) (Pc : Array Value → State → Prop) (Qc : Array Value → State → Outcome → State → Prop) (XC : String → State → State → Prop) (mc ms : Nat) (free : Addr → Prop) : Prop :=
  MetFree l y (headSpec ws rm) Pc (fun _ _ _ _ _ => True) (vx_Q Qc XC mc ms free)
def vx_Post (XC : String → State → State → Prop) (mc ms : Nat) (free : Addr → Prop) : Pt → Array Value → Addr → Pt → Prop := fun A a q B =>
  ∃ (g : JFrame) (mk : MethodId) (t : State) (L : List Loc) (E : String) (ce : Cell), B.U.heap = t.heap ∧ B.U.vm = t.vm ∧ XC E (A.U.calling g mk a) t ∧ t.heap[q]? = some ce ∧ ce.vm = .none ∧ A.U.vm.findClass E = some ce.cls ∧ B.locs = A.locs ++ L ∧ (∀ z ∈ L, free z.base) ∧ B.cells = A.cells + mc ∧ B.slots = A.slots + ms
def vx_Back (l : Launch) (R : Room) (p : Program) (e : Env) (below : List Frame) (s : State) (sargs : Array Value) (y : MethodName) (len W9 : Nat)
    (Pre : Pt → Array Value → Prop) (Post : Pt → Array Value → Option Value → Pt → Prop) (PostX : Pt → Array Value → Addr → Pt → Prop) : Prop :=
  ∀ (m : MethodId) (meth : Method) (c : Code) (A : Pt) (g : JFrame) (ig : Instr) (mk : MethodId) (a : Array Value),
    Stand p l e R s m sargs below meth c A.U A.locs A.cells A.slots → g.method = m → g.locals.size = c.maxLocals → decode c.code g.pc = .ok (ig, len) →
    2 * g.monitorRoom + (g.stack.map fun v => v.category).sum ≤ W9 → A.U.methodNamed? y = some mk → Pre A a →
    (∃ (v : Option Value) (B : Pt), Stand p l e R s m sargs below meth c B.U B.locs B.cells B.slots ∧ Post A a v B ∧
      Steps p.tables e below (doInvoke e (A.U.setTop g) [] mk a).1 (B.U.setTop { g with pc := g.pc + len, stack := v.toList ++ g.stack })) ∨
    (∃ (q : Addr) (B : Pt), Stand p l e R s m sargs below meth c B.U B.locs B.cells B.slots ∧ PostX A a q B ∧
      Steps p.tables e below (doInvoke e (A.U.setTop g) [] mk a).1 ((B.U.setTop g).pushFrame (.throwing q)))
section Payer
variable {l : Launch} {R : Room} {p : Program} {e : Env} {below : List Frame} {s : State} {sargs : Array Value} {y : MethodName} {len W9 : Nat}
theorem vx_back {ws : List Cond} {rm : Room} {Pc : Array Value → State → Prop} {Qc : Array Value → State → Outcome → State → Prop} {XC : String → State → State → Prop} {mc ms : Nat} {free : Addr → Prop} {bytes : ByteArray} {maxL : Nat} {ret : Option FieldType}
    (hM : vx_Met l y ws rm Pc Qc XC mc ms free) (hblind : FrameBlind Pc) (hrc : rm.cells = mc) (hrs : rm.slots = ms)
    (hframes : rm.frames + 1 ≤ R.frames) (hlocals : W9 + (maxL + 11) + rm.locals ≤ R.locals)
    (hws : ∀ w ∈ ws, ∀ a' U, s.WarmedH U.vm → w.before a' U = true) (hcode : Cond.code y bytes maxL ret ∈ ws) (hinit : ∀ a' U, s.WarmedH U.vm → (Cond.initialized y.cls).before a' U = true) :
    vx_Back l R p e below s sargs y len W9 (PreOf R mc ms Pc) (PostOf Qc mc ms free) (vx_Post XC mc ms free) := by
  intro m meth c A g ig mk a X hg hsize hdg hW hn hp
  have h1 : (headSpec ws rm).pre.before a A.U = true := atoms_intro fun w hw => hws w hw _ _ X.warmed
  have h2 : (Cond.code y bytes maxL ret).before a A.U = true := hws _ hcode _ _ X.warmed
  have h3 : (Cond.initialized y.cls).before a A.U = true := hinit _ _ X.warmed
  have h4 : A.cells + (headSpec ws rm).room.cells ≤ R.cells := by rw [show (headSpec ws rm).room.cells = mc from hrc]; exact hp.1
  have h5 : A.slots + (headSpec ws rm).room.slots ≤ R.slots := by rw [show (headSpec ws rm).room.slots = ms from hrs]; exact hp.2.1
  have hPc : Pc a (A.U.calling g mk a) := hblind _ _ _ _ hp.2.2
  obtain ⟨U, Ls, c0, s0⟩ := A
  dsimp only [Pt.U, Pt.locs, Pt.cells, Pt.slots] at h1 h2 h3 h4 h5 X hn hPc ⊢
  obtain ⟨methY, cY, hmY, hcY, -, hlY, -, -, -, -⟩ := Cond.code_spec hn h2
  obtain ⟨kY, hkY, -⟩ := className_of_methodNamed hn
  have hinitY : kY.init = .initialized := Cond.initialized_spec (findClass_of_methodNamed hn) hkY h3
  have h : At U g.method c below := by rw [hg]; exact X.here
  have hlocals9 : W9 + (maxL + 11) + (headSpec ws rm).room.locals ≤ R.locals := hlocals
  have happ : (headSpec ws rm).appliesLoose y e.platform (U.calling g mk a) = true :=
    Spec.appliesLoose_calling (g := g) h hdg hn hkY hinitY
      (X.room_calling (g := g) (R' := (headSpec ws rm).room) hsize hmY hcY hframes (by rw [hlY]; omega) h4 h5) h1
  obtain ⟨mid, hmid⟩ := h.above
  have hfr : (U.setTop g).frames = (.java g :: mid) ++ below := by rw [State.frames_setTop' g h.top, hmid]; rfl
  obtain ⟨o, s₂, hsteps, -, hend, hq⟩ := Steps.callFree hM p X.admits X.cas X.clock (acts := []) hfr happ hPc trivial
  have hq' : vx_Q Qc XC mc ms free a (U.calling g mk a) o s₂ := hq
  rw [State.frames_setTop' g h.top] at hend
  obtain ⟨g₀, hg0⟩ := Option.isSome_iff_exists.mp h.top
  obtain ⟨r, hr⟩ := State.topJava?_eq_some.mp hg0
  have hr' : (({ U with heap := s₂.heap, slotsUsed := s₂.slotsUsed } : State).setVm s₂.vm).frames = .java g₀ :: r := hr
  rcases hq' with ⟨hqc, L, hfe, hL⟩ | ⟨q, rfl, E, ce, L, hx, hce, hcv, hcl, hW₂, hsm, hL⟩
  · obtain ⟨⟨v, rfl⟩, hW₂, e2, q2, q3, q4, q5, q6⟩ := id hfe
    have e3 : s₂ = ({ (U.calling g mk a).setFrames s₂.frames with heap := s₂.heap, slotsUsed := s₂.slotsUsed } : State).setVm s₂.vm := by
      have : s₂ = ({ s₂ with vm := (U.calling g mk a).vm } : State).setVm s₂.vm := rfl
      rw [e2] at this
      exact this
    obtain ⟨c₂, i₂, len₂, hc₂, hd₂, hf₂⟩ := hend
    have hW' : U.WarmedH s₂.vm := hW₂
    have hcc : c₂ = c := by
      have h1 : s₂.code? g.method = U.code? g.method := by
        rw [State.code?_eq, State.code?_eq, hW'.alike.method?]
      exact Option.some.inj (hc₂.symm.trans (h1.trans h.code))
    subst hcc
    have hlen : len₂ = len := by rw [hdg] at hd₂; cases hd₂; rfl
    subst hlen
    have hs₂ : s₂ = (({ U with heap := s₂.heap, slotsUsed := s₂.slotsUsed } : State).setVm s₂.vm).setTop { g with pc := g.pc + len₂, stack := v.toList ++ g.stack } := by
      refine e3.trans ?_
      rw [hf₂, State.calling_eq h.top, State.setFrames_setFrames, State.setTop_of_frames _ hr', hr]
      rfl
    have hsame : U.sameButNew ({ U with heap := s₂.heap, slotsUsed := s₂.slotsUsed } : State) L mc ms := by
      refine ⟨?_, q2, q3, q4, q5, q6⟩
      obtain ⟨t, ht, -⟩ := State.frames_cons hr
      show ({ U with heap := s₂.heap, slotsUsed := s₂.slotsUsed } : State) = { U.setFrames U.frames with heap := s₂.heap, slotsUsed := s₂.slotsUsed }
      rw [State.setFrames_self ht]
    subst hg
    refine Or.inl ⟨v, ⟨(({ U with heap := s₂.heap, slotsUsed := s₂.slotsUsed } : State).setVm s₂.vm), Ls ++ L, c0 + mc, s0 + ms⟩,
      ⟨X.admits, X.cas, X.clock, X.frames, X.room, X.hears, X.method, X.code, (X.here.setHeapUsed s₂.heap s₂.slotsUsed).setVm hW'.alike, X.tail, State.WarmedH.trans X.warmed hW', X.limits, X.bytes, X.same.trans (hsame.setVm s.vm)⟩,
      ⟨g, mk, s₂, L, rfl, rfl, hqc, rfl, hL, rfl, rfl⟩, ?_⟩
    show Steps p.tables e below _ ((({ U with heap := s₂.heap, slotsUsed := s₂.slotsUsed } : State).setVm s₂.vm).setTop { g with pc := g.pc + len₂, stack := v.toList ++ g.stack })
    rw [← hs₂]
    exact hsteps
  · obtain ⟨e2, q2, q3, q4, q5, q6⟩ := id hsm
    have e3 : s₂ = ({ (U.calling g mk a).setFrames s₂.frames with heap := s₂.heap, slotsUsed := s₂.slotsUsed } : State).setVm s₂.vm := by
      have : s₂ = ({ s₂ with vm := (U.calling g mk a).vm } : State).setVm s₂.vm := rfl
      rw [e2] at this
      exact this
    have hf₂ : s₂.frames = .throwing q :: .java g :: U.frames.tail := hend
    have hW' : U.WarmedH s₂.vm := hW₂
    have hs₂ : s₂ = ((({ U with heap := s₂.heap, slotsUsed := s₂.slotsUsed } : State).setVm s₂.vm).setTop g).pushFrame (.throwing q) := by
      refine e3.trans ?_
      rw [hf₂, State.calling_eq h.top, State.setFrames_setFrames, State.pushFrame, State.frames_setTop _ hr', State.setTop_of_frames _ hr', State.setFrames_setFrames, hr]
      rfl
    have hsame : U.sameButNew ({ U with heap := s₂.heap, slotsUsed := s₂.slotsUsed } : State) L mc ms := by
      refine ⟨?_, q2, q3, q4, q5, q6⟩
      obtain ⟨t, ht, -⟩ := State.frames_cons hr
      show ({ U with heap := s₂.heap, slotsUsed := s₂.slotsUsed } : State) = { U.setFrames U.frames with heap := s₂.heap, slotsUsed := s₂.slotsUsed }
      rw [State.setFrames_self ht]
    subst hg
    refine Or.inr ⟨q, ⟨(({ U with heap := s₂.heap, slotsUsed := s₂.slotsUsed } : State).setVm s₂.vm), Ls ++ L, c0 + mc, s0 + ms⟩,
      ⟨X.admits, X.cas, X.clock, X.frames, X.room, X.hears, X.method, X.code, (X.here.setHeapUsed s₂.heap s₂.slotsUsed).setVm hW'.alike, X.tail, State.WarmedH.trans X.warmed hW', X.limits, X.bytes, X.same.trans (hsame.setVm s.vm)⟩,
      ⟨g, mk, s₂, L, E, ce, rfl, rfl, hx, hce, hcv, hcl, rfl, hL, rfl, rfl⟩, ?_⟩
    show Steps p.tables e below _ (((({ U with heap := s₂.heap, slotsUsed := s₂.slotsUsed } : State).setVm s₂.vm).setTop g).pushFrame (.throwing q))
    rw [← hs₂]
    exact hsteps
end Payer
section Calls
variable {p : Program} {l : Launch} {e : Env} {R : Room} {s : State} {m : MethodId} {args : Array Value} {below : List Frame} {meth : Method} {c : Code} {T : State} {locs : List Loc} {cells slots : Nat}
theorem vx_callV (X : Stand p l e R s m args below meth c T locs cells slots) (hexec : p.tables.exec = Jvm.exec) {own C : String} {index : Nat} {y : MethodName} {bytes : ByteArray} {maxL : Nat} {ret : Option FieldType}
    (hown : s.vm.findClass own = some m.cls) (hlink : (Cond.methodLink own index y).before args s = true) (hinst : (Cond.instanceMethod y).before args s = true) (hsel : (Cond.selects C y y).before args s = true)
    (hcode : (Cond.code y bytes maxL ret).before args s = true) (hy : y.cls ≠ "java/lang/invoke/MethodHandle" ∧ y.cls ≠ "java/lang/invoke/VarHandle")
    {W9 : Nat} {Pre : Pt → Array Value → Prop} {Post : Pt → Array Value → Option Value → Pt → Prop} {PostX : Pt → Array Value → Addr → Pt → Prop} (hK : vx_Back l R p e below s args y 3 W9 Pre Post PostX)
    {b : Addr} {cellB : Cell} (hcell : T.heap[b]? = some cellB) (hobj : cellB.vm.isStatics = false) (hcls : s.vm.findClass C = some cellB.cls)
    {g : JFrame} (hg : g.method = m) (hsize : g.locals.size = c.maxLocals) {argsL rest : List Value} (hlen : ∀ sig, parseMethodDescriptor y.desc = some sig → argsL.length = sig.parameters.length)
    (hstack : g.stack = argsL.reverse ++ .ref b :: rest) (hW : 2 * g.monitorRoom + (rest.map fun v => v.category).sum ≤ W9) (hdg : decode c.code g.pc = .ok (.invokevirtual index, 3))
    (hpre : ∀ vm₁, s.WarmedH vm₁ → Pre ⟨T.setVm vm₁, locs, cells, slots⟩ (Value.ref b :: argsL).toArray) :
    (∃ (v : Option Value) (vm₁ : Vm) (B : Pt), s.WarmedH vm₁ ∧ Stand p l e R s m args below meth c B.U B.locs B.cells B.slots ∧ Post ⟨T.setVm vm₁, locs, cells, slots⟩ (Value.ref b :: argsL).toArray v B ∧
      ∀ target, Steps p.tables e below (B.U.setTop { g with pc := g.pc + 3, stack := v.toList ++ rest }) target → Steps p.tables e below (T.setTop g) target) ∨
    (∃ (q : Addr) (vm₁ : Vm) (B : Pt), s.WarmedH vm₁ ∧ Stand p l e R s m args below meth c B.U B.locs B.cells B.slots ∧ PostX ⟨T.setVm vm₁, locs, cells, slots⟩ (Value.ref b :: argsL).toArray q B ∧
      Steps p.tables e below (T.setTop g) ((B.U.setTop { g with stack := rest }).pushFrame (.throwing q))) := by
  obtain ⟨mk, methM, hnamed, hmethM, hstM, habM⟩ := Cond.instanceMethod_spec hinst
  obtain ⟨methM', cM, hmethM', -, -, -, -, -, -, hsigM⟩ := Cond.code_spec hnamed hcode
  cases hmethM.symm.trans hmethM'
  obtain ⟨c2, r2, m2, q1, q2, q3, q4, kP, hkP, hkPi⟩ := Cond.selects_spec hsel
  cases hcls.symm.trans q1
  cases (State.methodFound?_of_named hnamed hy).symm.trans q2
  cases hnamed.symm.trans q3
  have hselP : selectMethod e.platform s.vm cellB.cls mk = .method mk := by rw [Launch.admits_selectMethod X.admits]; exact q4
  obtain ⟨vm₁, X₁, hstep₁⟩ := X.invokevirtual hexec hown hlink hnamed hmethM hstM hkP hkPi hy (a := b) (cell := cellB) hcell
    (fun z h => by rw [h] at hobj; cases hobj) hselP hmethM habM hkP hkPi (g := g) hg (argsL := argsL) (rest := rest) (hlen _ hsigM) hstack hdg
  rcases hK m meth c ⟨T.setVm vm₁, locs, cells, slots⟩ { g with stack := rest } (.invokevirtual index) mk (Value.ref b :: argsL).toArray X₁ hg hsize hdg hW (X₁.named hnamed) (hpre vm₁ X₁.warmed) with ⟨v, B, X', hpost, hsteps⟩ | ⟨q, B, X', hpost, hsteps⟩
  · exact Or.inl ⟨v, vm₁, B, X₁.warmed, X', hpost, fun target h => hstep₁ _ fun acts => by rw [doInvoke_state]; exact hsteps.trans h⟩
  · exact Or.inr ⟨q, vm₁, B, X₁.warmed, X', hpost, hstep₁ _ fun acts => by rw [doInvoke_state]; exact hsteps⟩
theorem vx_callS (X : Stand p l e R s m args below meth c T locs cells slots) (hexec : p.tables.exec = Jvm.exec) {own : String} {index : Nat} {y : MethodName} {bytes : ByteArray} {maxL : Nat} {ret : Option FieldType}
    (hown : s.vm.findClass own = some m.cls) (hlink : (Cond.methodLink own index y).before args s = true) (hstat : (Cond.static y).before args s = true) (hinit : (Cond.initialized y.cls).before args s = true)
    (hcode : (Cond.code y bytes maxL ret).before args s = true) (hy : y.cls ≠ "java/lang/invoke/MethodHandle" ∧ y.cls ≠ "java/lang/invoke/VarHandle")
    {W9 : Nat} {Pre : Pt → Array Value → Prop} {Post : Pt → Array Value → Option Value → Pt → Prop} {PostX : Pt → Array Value → Addr → Pt → Prop} (hK : vx_Back l R p e below s args y 3 W9 Pre Post PostX)
    {g : JFrame} (hg : g.method = m) (hsize : g.locals.size = c.maxLocals) {argsL rest : List Value} (hlen : ∀ sig, parseMethodDescriptor y.desc = some sig → argsL.length = sig.parameters.length)
    (hstack : g.stack = argsL.reverse ++ rest) (hW : 2 * g.monitorRoom + (rest.map fun v => v.category).sum ≤ W9) (hdg : decode c.code g.pc = .ok (.invokestatic index, 3))
    (hpre : ∀ vm₁, s.WarmedH vm₁ → Pre ⟨T.setVm vm₁, locs, cells, slots⟩ argsL.toArray) :
    (∃ (v : Option Value) (vm₁ : Vm) (B : Pt), s.WarmedH vm₁ ∧ Stand p l e R s m args below meth c B.U B.locs B.cells B.slots ∧ Post ⟨T.setVm vm₁, locs, cells, slots⟩ argsL.toArray v B ∧
      ∀ target, Steps p.tables e below (B.U.setTop { g with pc := g.pc + 3, stack := v.toList ++ rest }) target → Steps p.tables e below (T.setTop g) target) ∨
    (∃ (q : Addr) (vm₁ : Vm) (B : Pt), s.WarmedH vm₁ ∧ Stand p l e R s m args below meth c B.U B.locs B.cells B.slots ∧ PostX ⟨T.setVm vm₁, locs, cells, slots⟩ argsL.toArray q B ∧
      Steps p.tables e below (T.setTop g) ((B.U.setTop { g with stack := rest }).pushFrame (.throwing q))) := by
  obtain ⟨mk, hnamed⟩ := Cond.code_named hcode
  obtain ⟨methM, cM, hmethM, -, -, -, -, -, -, hsigM⟩ := Cond.code_spec hnamed hcode
  have hstatic : methM.isStatic = true := Cond.static_spec hnamed hmethM hstat
  obtain ⟨kP, hkP, -⟩ := className_of_methodNamed hnamed
  have hinitP : kP.init = .initialized := Cond.initialized_spec (findClass_of_methodNamed hnamed) hkP hinit
  obtain ⟨vm₁, X₁, hstep₁⟩ := X.invokestatic hexec hown hlink hnamed hmethM hstatic hkP hinitP hy (g := g) hg (argsL := argsL) (rest := rest) (hlen _ hsigM) hstack hdg
  rcases hK m meth c ⟨T.setVm vm₁, locs, cells, slots⟩ { g with stack := rest } (.invokestatic index) mk argsL.toArray X₁ hg hsize hdg hW (X₁.named hnamed) (hpre vm₁ X₁.warmed) with ⟨v, B, X', hpost, hsteps⟩ | ⟨q, B, X', hpost, hsteps⟩
  · exact Or.inl ⟨v, vm₁, B, X₁.warmed, X', hpost, fun target h => hstep₁ _ fun acts => by rw [doInvoke_state]; exact hsteps.trans h⟩
  · exact Or.inr ⟨q, vm₁, B, X₁.warmed, X', hpost, hstep₁ _ fun acts => by rw [doInvoke_state]; exact hsteps⟩
end Calls
theorem vx_cls {s : State} {T : State} {vm₁ : Vm} {E : String} {k : ClassId} (hW : s.WarmedH vm₁) (h : (T.setVm vm₁).vm.findClass E = some k) : s.vm.findClass E = some k := by
  have h1 : vm₁.findClass E = some k := h
  rw [hW.alike.findClass] at h1
  exact h1
/-- the method's frame g, with q thrown over it -/
def vx_W (p : Program) (l : Launch) (e : Env) (R : Room) (s : State) (m : MethodId) (args : Array Value) (below : List Frame) (meth : Method) (c : Code) (H : Heap) (locs : List Loc) (cells slots : Nat) (Q : State → Prop) (g : JFrame) (q : Addr) : Prop :=
  ∀ T : State, T.heap = H → Stand p l e R s m args below meth c T locs cells slots → ∃ t, Steps p.tables e below ((T.setTop g).pushFrame (.throwing q)) t ∧ Q t
def vx_Run (p : Program) (l : Launch) (e : Env) (R : Room) (s : State) (m : MethodId) (args : Array Value) (below : List Frame) (meth : Method) (c : Code) (H : Heap) (locs : List Loc) (cells slots mc ms : Nat) (g : JFrame) (rest : List Value) (Qa : State → Outcome → State → Prop) (XC : String → State → State → Prop) (free : Addr → Prop) : Prop :=
  ∀ T : State, T.heap = H → Stand p l e R s m args below meth c T locs cells slots →
    (∃ (v : Option Value) (st₀ t T' : State) (L : List Loc), st₀.heap = H ∧ Stand p l e R s m args below meth c T' (locs ++ L) (cells + mc) (slots + ms) ∧ (∀ q ∈ L, free q.base) ∧ T'.heap = t.heap ∧ T'.vm = t.vm ∧ Qa st₀ (.returned v) t ∧
      Goes p e below T g T' { g with pc := g.pc + 3, stack := v.toList ++ rest }) ∨
    (∃ (q : Addr) (st₀ t T' : State) (L : List Loc) (E : String) (ce : Cell), st₀.heap = H ∧ Stand p l e R s m args below meth c T' (locs ++ L) (cells + mc) (slots + ms) ∧ (∀ z ∈ L, free z.base) ∧ T'.heap = t.heap ∧ T'.vm = t.vm ∧ XC E st₀ t ∧ t.heap[q]? = some ce ∧ ce.vm = .none ∧ s.vm.findClass E = some ce.cls ∧
      Steps p.tables e below (T.setTop g) ((T'.setTop { g with stack := rest }).pushFrame (.throwing q)))
def vx_X {S : Type} (px : S → Prop) (B : String → S → State → Prop) (A : Nat → Prop) : String → State → State → Prop := fun E st t => ∃ u : S, px u ∧ B E u t ∧ va_F A st t
section Runs
variable {p : Program} {l : Launch} {e : Env} {R : Room} {s : State} {m : MethodId} {args : Array Value} {below : List Frame} {meth : Method} {c : Code} {H : Heap} {locs : List Loc} {cells slots : Nat}
variable {y : MethodName} {bytes cc : ByteArray} {maxL nL mc ms n index : Nat} {ret : Option FieldType} {ws : List Cond} {rm : Room} {Pc : Array Value → State → Prop} {Qc : Array Value → State → Outcome → State → Prop} {XC : String → State → State → Prop} {free : Addr → Prop} {Ts : List Cond} {own C : String} {b : Addr} {As rest : List Value} {g : JFrame}
theorem vx_callBack (cb : CallB R s args own index y bytes maxL ret ws rm mc ms n) (hM : vx_Met l y ws rm Pc Qc XC mc ms free) (hbl : FrameBlind Pc) : vx_Back l R p e below s args y 3 8 (PreOf R mc ms Pc) (PostOf Qc mc ms free) (vx_Post XC mc ms free) := by
  obtain ⟨hrc, hrs, hfr, hlo, hws, hcw, -, hini, -⟩ := cb
  exact vx_back (bytes := bytes) (maxL := maxL) (ret := ret) hM hbl hrc hrs hfr hlo hws hcw (fun a' U hW => word_at hW (Or.inl (by first | rfl | simp [Cond.onTables, Cond.keeps, Cond.steady])) hini)
theorem vx_runV (S : CallFix p m c cc nL s args Ts own) (hM : vx_Met l y ws rm Pc Qc XC mc ms free) (cw : CallW R s args own C index y bytes maxL ret ws rm mc ms n) (hp : PreV s H C b Pc As)
    (hg : g.method = m) (hn : As.length = n) (hsize : g.locals.size = nL) (hstack : g.stack = As.reverse ++ .ref b :: rest) (hW : 2 * g.monitorRoom + (rest.map fun v => v.category).sum ≤ 8) (hdg : decode cc g.pc = .ok (.invokevirtual index, 3)) (hf : cells + mc ≤ R.cells ∧ slots + ms ≤ R.slots) :
    vx_Run p l e R s m args below meth c H locs cells slots mc ms g rest (Qc (Value.ref b :: As).toArray) XC free := by
  have hK : vx_Back l R p e below s args y 3 8 (PreOf R mc ms Pc) (PostOf Qc mc ms free) (vx_Post XC mc ms free) := vx_callBack cw.1 hM hp.1
  obtain ⟨⟨-, -, -, -, -, -, hcode, -, hy, hlen, hl⟩, hin, hse⟩ := cw
  obtain ⟨hx, hb, hml, ho, -⟩ := S
  obtain ⟨-, ⟨cellB, hcB, hoB, hclB⟩, hPc⟩ := hp
  intro T hT X
  rcases vx_callV X hx (C := C) (bytes := bytes) (maxL := maxL) (ret := ret) ho hl hin hse hcode hy hK (by rw [hT]; exact hcB) hoB hclB hg (hsize.trans hml.symm) (argsL := As) (rest := rest) (fun sig h => hn.trans (hlen sig h)) hstack hW (by rw [hb]; exact hdg)
    (fun vm₁ hW₁ => ⟨hf.1, hf.2, hPc (T.setVm vm₁) hT hW₁⟩) with ⟨v, vm₁, ⟨U', l2, c2, s2⟩, hW₁, X', ⟨g', mk, t, L, e1, e2, hq, h1, hL, h2, h3⟩, st⟩ | ⟨q, vm₁, ⟨U', l2, c2, s2⟩, hW₁, X', ⟨g', mk, t, L, E, ce, e1, e2, hq, hce, hcv, hcl, h1, hL, h2, h3⟩, st⟩
  · dsimp only [Pt.U, Pt.locs, Pt.cells, Pt.slots] at X' e1 e2 h1 h2 h3 st
    subst h1; subst h2; subst h3
    exact Or.inl ⟨v, (T.setVm vm₁).calling g' mk (Value.ref b :: As).toArray, t, U', L, hT, X', hL, e1, e2, hq, st⟩
  · dsimp only [Pt.U, Pt.locs, Pt.cells, Pt.slots] at X' e1 e2 h1 h2 h3 st hcl
    subst h1; subst h2; subst h3
    exact Or.inr ⟨q, (T.setVm vm₁).calling g' mk (Value.ref b :: As).toArray, t, U', L, E, ce, hT, X', hL, e1, e2, hq, hce, hcv, vx_cls hW₁ hcl, st⟩
theorem vx_runS (S : CallFix p m c cc nL s args Ts own) (hM : vx_Met l y ws rm Pc Qc XC mc ms free) (cw : CallB R s args own index y bytes maxL ret ws rm mc ms n ∧ (Cond.static y).before args s = true) (hp : PreS s H Pc As)
    (hg : g.method = m) (hn : As.length = n) (hsize : g.locals.size = nL) (hstack : g.stack = As.reverse ++ rest) (hW : 2 * g.monitorRoom + (rest.map fun v => v.category).sum ≤ 8) (hdg : decode cc g.pc = .ok (.invokestatic index, 3)) (hf : cells + mc ≤ R.cells ∧ slots + ms ≤ R.slots) :
    vx_Run p l e R s m args below meth c H locs cells slots mc ms g rest (Qc As.toArray) XC free := by
  have hK : vx_Back l R p e below s args y 3 8 (PreOf R mc ms Pc) (PostOf Qc mc ms free) (vx_Post XC mc ms free) := vx_callBack cw.1 hM hp.1
  obtain ⟨⟨-, -, -, -, -, -, hcode, hini, hy, hlen, hl⟩, hstt⟩ := cw
  obtain ⟨hx, hb, hml, ho, -⟩ := S
  intro T hT X
  rcases vx_callS X hx (bytes := bytes) (maxL := maxL) (ret := ret) ho hl hstt hini hcode hy hK hg (hsize.trans hml.symm) (argsL := As) (rest := rest) (fun sig h => hn.trans (hlen sig h)) hstack hW (by rw [hb]; exact hdg)
    (fun vm₁ hW₁ => ⟨hf.1, hf.2, hp.2 (T.setVm vm₁) hT hW₁⟩) with ⟨v, vm₁, ⟨U', l2, c2, s2⟩, hW₁, X', ⟨g', mk, t, L, e1, e2, hq, h1, hL, h2, h3⟩, st⟩ | ⟨q, vm₁, ⟨U', l2, c2, s2⟩, hW₁, X', ⟨g', mk, t, L, E, ce, e1, e2, hq, hce, hcv, hcl, h1, hL, h2, h3⟩, st⟩
  · dsimp only [Pt.U, Pt.locs, Pt.cells, Pt.slots] at X' e1 e2 h1 h2 h3 st
    subst h1; subst h2; subst h3
    exact Or.inl ⟨v, (T.setVm vm₁).calling g' mk As.toArray, t, U', L, hT, X', hL, e1, e2, hq, st⟩
  · dsimp only [Pt.U, Pt.locs, Pt.cells, Pt.slots] at X' e1 e2 h1 h2 h3 st hcl
    subst h1; subst h2; subst h3
    exact Or.inr ⟨q, (T.setVm vm₁).calling g' mk As.toArray, t, U', L, E, ce, hT, X', hL, e1, e2, hq, hce, hcv, vx_cls hW₁ hcl, st⟩
end Runs
section Rows
variable {p : Program} {l : Launch} {e : Env} {R : Room} {s : State} {m : MethodId} {args : Array Value} {below : List Frame} {meth : Method} {c : Code} {H : Heap} {locs : List Loc} {cells slots : Nat} {Q : State → Prop}
variable {mc ms : Nat} {free : Addr → Prop} {A0 A1 : Nat → Prop} {H0 : Heap} {a : Array Value} {pc : Nat} {ls : Array Slot} {st0 rest : List Value}
theorem vx_keep {st₀ t T' : State} {L : List Loc} (h0 : st₀.heap = H) (e1 : T'.heap = t.heap) (hS : va_S A0 H0 H locs) (hA : ∀ q, q < H.size → A1 q → A0 q) (hf : ∀ q, free q → A0 q) (hL : ∀ q ∈ L, free q.base) (hF : va_F A1 st₀ t) :
    H.size ≤ T'.heap.size ∧ (∀ q : Nat, q < H.size → ¬ A1 q → T'.heap[q]? = H[q]?) ∧ va_S A0 H0 T'.heap (locs ++ L) := by
  obtain ⟨hz, hk⟩ := hF
  rw [h0] at hz hk
  exact ⟨by rw [e1]; exact hz, fun q h1 h2 => by rw [e1]; exact hk q h1 h2,
    ⟨Nat.le_trans hS.1 (by rw [e1]; exact hz), fun q h1 h2 => by rw [e1, hk q (Nat.lt_of_lt_of_le h1 hS.1) (fun z => h2 (hA q (Nat.lt_of_lt_of_le h1 hS.1) z))]; exact hS.2.1 q h1 h2, fun q hq => by
      rcases List.mem_append.mp hq with h | h
      · exact hS.2.2 q h
      · exact hf _ (hL q h)⟩⟩
theorem vx_calli {S SX : Type} {post : Int32 → S → Prop} {px : SX → Prop} {B : S → State → Prop} {BX : String → SX → State → Prop} {AX : Nat → Prop} (hr : vx_Run p l e R s m args below meth c H locs cells slots mc ms (F0 m pc ls st0) rest (va_Qi post B A1 a) (vx_X px BX AX) free) (hS : va_S A0 H0 H locs) (hA : ∀ q, q < H.size → A1 q → A0 q) (hf : ∀ q, free q → A0 q) (hAX : ∀ q, q < H.size → AX q → A0 q)
    (kx : ∀ (E : String) (ce : Cell) (q9 : Addr) (u : SX) (t : State) (H1 : Heap) (locs1 : List Loc), t.heap = H1 → s.vm.Alike t.vm → px u → BX E u t → H.size ≤ H1.size → (∀ q : Nat, q < H.size → ¬ AX q → H1[q]? = H[q]?) → va_S A0 H0 H1 locs1 → H1[q9]? = some ce → ce.vm = .none → s.vm.findClass E = some ce.cls → vx_W p l e R s m args below meth c H1 locs1 (cells + mc) (slots + ms) Q (F0 m pc ls rest) q9)
    (kk : ∀ (r : Int32) (u : S) (t : State) (H1 : Heap) (locs1 : List Loc), t.heap = H1 → s.vm.Alike t.vm → post r u → B u t → H.size ≤ H1.size → (∀ q : Nat, q < H.size → ¬ A1 q → H1[q]? = H[q]?) → va_S A0 H0 H1 locs1 → W p l e R s m args below meth c H1 locs1 (cells + mc) (slots + ms) Q (F0 m (pc + 3) ls (.int r :: rest))) : W p l e R s m args below meth c H locs cells slots Q (F0 m pc ls st0) := by
  intro T hT X
  rcases hr T hT X with ⟨v, st₀, t, T', L, h0, X', hL, e1, e2, ⟨⟨r, u, hv, hp, hb⟩, hF⟩, st⟩ | ⟨q, st₀, t, T', L, E, ce, h0, X', hL, e1, e2, ⟨u, hp, hb, hF⟩, hce, hcv, hcl, st⟩
  · cases hv
    obtain ⟨k1, k2, k3⟩ := vx_keep h0 e1 hS hA hf hL hF
    obtain ⟨t2, a1, b1⟩ := kk r u t T'.heap (locs ++ L) e1.symm (by rw [← e2]; exact X'.warmed.alike) hp hb k1 k2 k3 T' rfl X'
    exact ⟨t2, st t2 a1, b1⟩
  · obtain ⟨k1, k2, k3⟩ := vx_keep h0 e1 hS hAX hf hL hF
    obtain ⟨t2, a1, b1⟩ := kx E ce q u t T'.heap (locs ++ L) e1.symm (by rw [← e2]; exact X'.warmed.alike) hp hb k1 k2 k3 (by rw [e1]; exact hce) hcv hcl T' rfl X'
    exact ⟨t2, st.trans a1, b1⟩
theorem vx_calll {S SX : Type} {post : Int64 → S → Prop} {px : SX → Prop} {B : S → State → Prop} {BX : String → SX → State → Prop} {AX : Nat → Prop} (hr : vx_Run p l e R s m args below meth c H locs cells slots mc ms (F0 m pc ls st0) rest (va_Ql post B A1 a) (vx_X px BX AX) free) (hS : va_S A0 H0 H locs) (hA : ∀ q, q < H.size → A1 q → A0 q) (hf : ∀ q, free q → A0 q) (hAX : ∀ q, q < H.size → AX q → A0 q)
    (kx : ∀ (E : String) (ce : Cell) (q9 : Addr) (u : SX) (t : State) (H1 : Heap) (locs1 : List Loc), t.heap = H1 → s.vm.Alike t.vm → px u → BX E u t → H.size ≤ H1.size → (∀ q : Nat, q < H.size → ¬ AX q → H1[q]? = H[q]?) → va_S A0 H0 H1 locs1 → H1[q9]? = some ce → ce.vm = .none → s.vm.findClass E = some ce.cls → vx_W p l e R s m args below meth c H1 locs1 (cells + mc) (slots + ms) Q (F0 m pc ls rest) q9)
    (kk : ∀ (r : Int64) (u : S) (t : State) (H1 : Heap) (locs1 : List Loc), t.heap = H1 → s.vm.Alike t.vm → post r u → B u t → H.size ≤ H1.size → (∀ q : Nat, q < H.size → ¬ A1 q → H1[q]? = H[q]?) → va_S A0 H0 H1 locs1 → W p l e R s m args below meth c H1 locs1 (cells + mc) (slots + ms) Q (F0 m (pc + 3) ls (.long r :: rest))) : W p l e R s m args below meth c H locs cells slots Q (F0 m pc ls st0) := by
  intro T hT X
  rcases hr T hT X with ⟨v, st₀, t, T', L, h0, X', hL, e1, e2, ⟨⟨r, u, hv, hp, hb⟩, hF⟩, st⟩ | ⟨q, st₀, t, T', L, E, ce, h0, X', hL, e1, e2, ⟨u, hp, hb, hF⟩, hce, hcv, hcl, st⟩
  · cases hv
    obtain ⟨k1, k2, k3⟩ := vx_keep h0 e1 hS hA hf hL hF
    obtain ⟨t2, a1, b1⟩ := kk r u t T'.heap (locs ++ L) e1.symm (by rw [← e2]; exact X'.warmed.alike) hp hb k1 k2 k3 T' rfl X'
    exact ⟨t2, st t2 a1, b1⟩
  · obtain ⟨k1, k2, k3⟩ := vx_keep h0 e1 hS hAX hf hL hF
    obtain ⟨t2, a1, b1⟩ := kx E ce q u t T'.heap (locs ++ L) e1.symm (by rw [← e2]; exact X'.warmed.alike) hp hb k1 k2 k3 (by rw [e1]; exact hce) hcv hcl T' rfl X'
    exact ⟨t2, st.trans a1, b1⟩
theorem vx_callf {S SX : Type} {post : UInt32 → S → Prop} {px : SX → Prop} {B : S → State → Prop} {BX : String → SX → State → Prop} {AX : Nat → Prop} (hr : vx_Run p l e R s m args below meth c H locs cells slots mc ms (F0 m pc ls st0) rest (va_Qf post B A1 a) (vx_X px BX AX) free) (hS : va_S A0 H0 H locs) (hA : ∀ q, q < H.size → A1 q → A0 q) (hf : ∀ q, free q → A0 q) (hAX : ∀ q, q < H.size → AX q → A0 q)
    (kx : ∀ (E : String) (ce : Cell) (q9 : Addr) (u : SX) (t : State) (H1 : Heap) (locs1 : List Loc), t.heap = H1 → s.vm.Alike t.vm → px u → BX E u t → H.size ≤ H1.size → (∀ q : Nat, q < H.size → ¬ AX q → H1[q]? = H[q]?) → va_S A0 H0 H1 locs1 → H1[q9]? = some ce → ce.vm = .none → s.vm.findClass E = some ce.cls → vx_W p l e R s m args below meth c H1 locs1 (cells + mc) (slots + ms) Q (F0 m pc ls rest) q9)
    (kk : ∀ (r : UInt32) (u : S) (t : State) (H1 : Heap) (locs1 : List Loc), t.heap = H1 → s.vm.Alike t.vm → post r u → B u t → H.size ≤ H1.size → (∀ q : Nat, q < H.size → ¬ A1 q → H1[q]? = H[q]?) → va_S A0 H0 H1 locs1 → W p l e R s m args below meth c H1 locs1 (cells + mc) (slots + ms) Q (F0 m (pc + 3) ls (.float r :: rest))) : W p l e R s m args below meth c H locs cells slots Q (F0 m pc ls st0) := by
  intro T hT X
  rcases hr T hT X with ⟨v, st₀, t, T', L, h0, X', hL, e1, e2, ⟨⟨r, u, hv, hp, hb⟩, hF⟩, st⟩ | ⟨q, st₀, t, T', L, E, ce, h0, X', hL, e1, e2, ⟨u, hp, hb, hF⟩, hce, hcv, hcl, st⟩
  · cases hv
    obtain ⟨k1, k2, k3⟩ := vx_keep h0 e1 hS hA hf hL hF
    obtain ⟨t2, a1, b1⟩ := kk r u t T'.heap (locs ++ L) e1.symm (by rw [← e2]; exact X'.warmed.alike) hp hb k1 k2 k3 T' rfl X'
    exact ⟨t2, st t2 a1, b1⟩
  · obtain ⟨k1, k2, k3⟩ := vx_keep h0 e1 hS hAX hf hL hF
    obtain ⟨t2, a1, b1⟩ := kx E ce q u t T'.heap (locs ++ L) e1.symm (by rw [← e2]; exact X'.warmed.alike) hp hb k1 k2 k3 (by rw [e1]; exact hce) hcv hcl T' rfl X'
    exact ⟨t2, st.trans a1, b1⟩
theorem vx_calld {S SX : Type} {post : UInt64 → S → Prop} {px : SX → Prop} {B : S → State → Prop} {BX : String → SX → State → Prop} {AX : Nat → Prop} (hr : vx_Run p l e R s m args below meth c H locs cells slots mc ms (F0 m pc ls st0) rest (va_Qd post B A1 a) (vx_X px BX AX) free) (hS : va_S A0 H0 H locs) (hA : ∀ q, q < H.size → A1 q → A0 q) (hf : ∀ q, free q → A0 q) (hAX : ∀ q, q < H.size → AX q → A0 q)
    (kx : ∀ (E : String) (ce : Cell) (q9 : Addr) (u : SX) (t : State) (H1 : Heap) (locs1 : List Loc), t.heap = H1 → s.vm.Alike t.vm → px u → BX E u t → H.size ≤ H1.size → (∀ q : Nat, q < H.size → ¬ AX q → H1[q]? = H[q]?) → va_S A0 H0 H1 locs1 → H1[q9]? = some ce → ce.vm = .none → s.vm.findClass E = some ce.cls → vx_W p l e R s m args below meth c H1 locs1 (cells + mc) (slots + ms) Q (F0 m pc ls rest) q9)
    (kk : ∀ (r : UInt64) (u : S) (t : State) (H1 : Heap) (locs1 : List Loc), t.heap = H1 → s.vm.Alike t.vm → post r u → B u t → H.size ≤ H1.size → (∀ q : Nat, q < H.size → ¬ A1 q → H1[q]? = H[q]?) → va_S A0 H0 H1 locs1 → W p l e R s m args below meth c H1 locs1 (cells + mc) (slots + ms) Q (F0 m (pc + 3) ls (.double r :: rest))) : W p l e R s m args below meth c H locs cells slots Q (F0 m pc ls st0) := by
  intro T hT X
  rcases hr T hT X with ⟨v, st₀, t, T', L, h0, X', hL, e1, e2, ⟨⟨r, u, hv, hp, hb⟩, hF⟩, st⟩ | ⟨q, st₀, t, T', L, E, ce, h0, X', hL, e1, e2, ⟨u, hp, hb, hF⟩, hce, hcv, hcl, st⟩
  · cases hv
    obtain ⟨k1, k2, k3⟩ := vx_keep h0 e1 hS hA hf hL hF
    obtain ⟨t2, a1, b1⟩ := kk r u t T'.heap (locs ++ L) e1.symm (by rw [← e2]; exact X'.warmed.alike) hp hb k1 k2 k3 T' rfl X'
    exact ⟨t2, st t2 a1, b1⟩
  · obtain ⟨k1, k2, k3⟩ := vx_keep h0 e1 hS hAX hf hL hF
    obtain ⟨t2, a1, b1⟩ := kx E ce q u t T'.heap (locs ++ L) e1.symm (by rw [← e2]; exact X'.warmed.alike) hp hb k1 k2 k3 (by rw [e1]; exact hce) hcv hcl T' rfl X'
    exact ⟨t2, st.trans a1, b1⟩
theorem vx_callv {S SX : Type} {post : S → Prop} {px : SX → Prop} {B : S → State → Prop} {BX : String → SX → State → Prop} {AX : Nat → Prop} (hr : vx_Run p l e R s m args below meth c H locs cells slots mc ms (F0 m pc ls st0) rest (va_Qv post B A1 a) (vx_X px BX AX) free) (hS : va_S A0 H0 H locs) (hA : ∀ q, q < H.size → A1 q → A0 q) (hf : ∀ q, free q → A0 q) (hAX : ∀ q, q < H.size → AX q → A0 q)
    (kx : ∀ (E : String) (ce : Cell) (q9 : Addr) (u : SX) (t : State) (H1 : Heap) (locs1 : List Loc), t.heap = H1 → s.vm.Alike t.vm → px u → BX E u t → H.size ≤ H1.size → (∀ q : Nat, q < H.size → ¬ AX q → H1[q]? = H[q]?) → va_S A0 H0 H1 locs1 → H1[q9]? = some ce → ce.vm = .none → s.vm.findClass E = some ce.cls → vx_W p l e R s m args below meth c H1 locs1 (cells + mc) (slots + ms) Q (F0 m pc ls rest) q9)
    (kk : ∀ (u : S) (t : State) (H1 : Heap) (locs1 : List Loc), t.heap = H1 → s.vm.Alike t.vm → post u → B u t → H.size ≤ H1.size → (∀ q : Nat, q < H.size → ¬ A1 q → H1[q]? = H[q]?) → va_S A0 H0 H1 locs1 → W p l e R s m args below meth c H1 locs1 (cells + mc) (slots + ms) Q (F0 m (pc + 3) ls (rest))) : W p l e R s m args below meth c H locs cells slots Q (F0 m pc ls st0) := by
  intro T hT X
  rcases hr T hT X with ⟨v, st₀, t, T', L, h0, X', hL, e1, e2, ⟨⟨u, hv, hp, hb⟩, hF⟩, st⟩ | ⟨q, st₀, t, T', L, E, ce, h0, X', hL, e1, e2, ⟨u, hp, hb, hF⟩, hce, hcv, hcl, st⟩
  · cases hv
    obtain ⟨k1, k2, k3⟩ := vx_keep h0 e1 hS hA hf hL hF
    obtain ⟨t2, a1, b1⟩ := kk u t T'.heap (locs ++ L) e1.symm (by rw [← e2]; exact X'.warmed.alike) hp hb k1 k2 k3 T' rfl X'
    exact ⟨t2, st t2 a1, b1⟩
  · obtain ⟨k1, k2, k3⟩ := vx_keep h0 e1 hS hAX hf hL hF
    obtain ⟨t2, a1, b1⟩ := kx E ce q u t T'.heap (locs ++ L) e1.symm (by rw [← e2]; exact X'.warmed.alike) hp hb k1 k2 k3 (by rw [e1]; exact hce) hcv hcl T' rfl X'
    exact ⟨t2, st.trans a1, b1⟩
/-- caught by the row x of this method's table; the rows ahead don't take it -/
theorem vx_catch {own name : String} {E : String} {ce : Cell} {q : Addr} (hown : s.vm.findClass own = some m.cls) (pre : List ExceptionTableEntry) (x : ExceptionTableEntry) (suf : List ExceptionTableEntry) (hsplit : c.exceptionTable.toList = pre ++ x :: suf)
    (hpass : ∀ z ∈ pre, covers z pc = false ∨ (z.catchType ≠ 0 ∧ ∃ nm : String, (Cond.classLink own z.catchType nm).before args s = true ∧ va_Nc E nm s)) (hx : covers x pc = true) (h0 : x.catchType ≠ 0)
    (hlink : (Cond.classLink own x.catchType name).before args s = true) (hcast : (Cond.castable E name).before args s = true) (hcell : H[q]? = some ce) (hv : ce.vm = .none) (hcl : s.vm.findClass E = some ce.cls)
    (kk : W p l e R s m args below meth c H locs cells slots Q (F0 m x.handlerPc ls [.ref q])) : vx_W p l e R s m args below meth c H locs cells slots Q (F0 m pc ls rest) q := by
  intro T hT X
  have hpl : e.platform.magicAccessors = ({} : Platform).magicAccessors := by rw [X.admits.platform]
  obtain ⟨c3, c4, hc3, hc4, hasg⟩ := Cond.castable_spec hcast
  cases Option.some.inj (hc3.symm.trans hcl)
  obtain ⟨c5, hc5, hcl5⟩ := Cond.classLink_spec hown hlink e.platform hpl
  cases Option.some.inj (hc4.symm.trans hc5)
  obtain ⟨vm', X', st⟩ := X.thenCaughtThrough q (g := F0 m pc ls rest) rfl (Steps.refl _) (by rw [hT]; exact hcell) (by rw [hv]; rfl) (by obtain ⟨k9, h9, -⟩ := Vm.findClass_spec hcl; exact ⟨k9, h9⟩) pre x suf hsplit
    (fun z hz => by
      rcases hpass z hz with h | ⟨hz0, nm, hl1, hn1⟩
      · exact Or.inl h
      · obtain ⟨c6, hc6, hcl6⟩ := Cond.classLink_spec hown hl1 e.platform hpl
        obtain ⟨a8, b8, h1, h2, h3⟩ := hn1
        cases Option.some.inj (h1.symm.trans hcl)
        cases Option.some.inj (h2.symm.trans hc6)
        exact Or.inr ⟨hz0, _, hcl6, h3⟩) hx (Or.inr ⟨h0, c4, hcl5, hasg⟩)
  obtain ⟨t, a1, b1⟩ := kk (T.setVm vm') hT X'
  exact ⟨t, st.trans a1, b1⟩
end Rows
section Ends
variable {p : Program} {l : Launch} {e : Env} {R : Room} {s : State} {m : MethodId} {args : Array Value} {below : List Frame} {meth : Method} {c : Code} {H : Heap} {locs : List Loc} {cells slots : Nat} {Q : State → Prop}
variable {mc ms : Nat} {free : Addr → Prop} {A0 A1 : Nat → Prop} {H0 : Heap} {a : Array Value} {ls : Array Slot} {st0 rest : List Value}
variable {Qc : Array Value → State → Outcome → State → Prop} {XC : String → State → State → Prop}
/-- what a body that may throw owes at its end -/
def vx_MQ (below : List Frame) (Qc : Array Value → State → Outcome → State → Prop) (XC : String → State → State → Prop) (a : Array Value) (s : State) (mc ms : Nat) (free : Addr → Prop) : State → Prop := fun t =>
  ∃ o, t.status = .running ∧ Ended t below o ∧ vx_Q Qc XC mc ms free a s o t
theorem vx_ret {g : JFrame} {mc ms : Nat} (k : W p l e R s m args below meth c H locs cells slots (MQ below Qc args s mc ms free) g) : W p l e R s m args below meth c H locs cells slots (vx_MQ below Qc XC args s mc ms free) g := by
  intro T hT X
  obtain ⟨t, a1, o, b1, b2, b3, b4⟩ := k T hT X
  exact ⟨t, a1, o, b1, b2, Or.inl ⟨b3, b4⟩⟩
/-- not caught here: it goes on to the caller -/
theorem vx_widen {g : JFrame} {q : Addr} {k n : Nat} (h1 : cells ≤ k) (h2 : slots ≤ n) (kk : vx_W p l e R s m args below meth c H locs k n Q g q) : vx_W p l e R s m args below meth c H locs cells slots Q g q := fun T hT X => kk T hT (stand_widen X h1 h2)
theorem vx_out {pc : Nat} {E : String} {ce : Cell} {q : Addr} {mc ms : Nat} (hout : ∀ x ∈ c.exceptionTable.toList, covers x pc = false) (hlocks : meth.locks = false) (hcell : H[q]? = some ce) (hv : ce.vm = .none) (hcl : s.vm.findClass E = some ce.cls)
    (hx : ∀ t : State, t.heap = H → s.vm.Alike t.vm → XC E s t) (hf : ∀ z ∈ locs, free z.base) (hc : cells ≤ mc) (hs : slots ≤ ms) :
    vx_W p l e R s m args below meth c H locs cells slots (vx_MQ below Qc XC args s mc ms free) (F0 m pc ls rest) q := by
  intro T hT X
  obtain ⟨st1, hrun, hend, hW, hsm⟩ := X.leaveThrown q (g := F0 m pc ls rest) rfl rfl rfl hout hlocks
  have hcell9 : (T.setFrames (.throwing q :: below)).heap[q]? = some ce := by
    show T.heap[q]? = some ce
    rw [hT]; exact hcell
  exact ⟨_, st1, .threw q, hrun, hend, Or.inr ⟨q, rfl, E, ce, locs, hx _ hT hW.alike, hcell9, hv, hcl, hW, hsm.mono hc hs, hf⟩⟩
theorem vx_frame {U : State} {k n : Nat} (h : s.sameButNew ({ U with vm := s.vm } : State) locs k n) : s.heap.size ≤ U.heap.size ∧ ∀ q : Nat, q < s.heap.size → (∀ z ∈ locs, z.base ≠ q) → U.heap[q]? = s.heap[q]? := by
  obtain ⟨-, h2, -, -, -, h6⟩ := h
  refine ⟨h2, fun q hq hz => ?_⟩
  obtain ⟨c9, e1, e2, e3, e4⟩ := h6 q _ (Array.getElem?_eq_getElem hq)
  have hs : c9.slots = (s.heap[q]).slots := Array.ext_getElem? fun i => e4 i fun hm => hz _ hm rfl
  have h9 : c9 = s.heap[q] := by
    rw [hs] at e2
    exact e2
  have e5 : U.heap[q]? = some c9 := e1
  rw [e5, h9, Array.getElem?_eq_getElem hq]
/-- the words of a throw but the four that speak of the heap -/
def vx_no (w : Cond) : Bool := decide (w ≠ .isRef (.static Bundle.tN "UNASSIGNED_STACK" Bundle.steD)) && decide (w ≠ .isRef (.static Bundle.tN "SUPPRESSED_SENTINEL" Bundle.listD)) && decide (w ≠ .laysStatic Bundle.tN "UNASSIGNED_STACK" Bundle.steD) && decide (w ≠ .laysStatic Bundle.tN "SUPPRESSED_SENTINEL" Bundle.listD)
def vx_at0 (own : String) (ic : Nat) (X : String) (names : List String) : List Cond := (Bundle.ownAtoms0 own ic X names).filter vx_no
def vx_atS (own : String) (ic : Nat) (X : String) (names : List String) : List Cond := (Bundle.ownAtoms own ic X names).filter vx_no
/-- a word that the tables alone decide, or a good one -/
def vx_ot (w : Cond) : Bool := w.onTables || goodWord w
theorem vx_ot_at {args a' : Array Value} {s U : State} {w : Cond} (hW : s.WarmedH U.vm) (hvm : s.vm = U.vm) (hg : vx_ot w = true) (h : w.before args s = true) : w.before a' U = true := by
  simp only [vx_ot, Bool.or_eq_true] at hg
  rcases hg with hg | hg
  · exact va_tabs hg hvm h
  · exact word_at hW (good_of_word hg) h
/-- a list's words: the good ones out of the method's own list, the others by premises of their own -/
theorem vx_hat {args : Array Value} {s : State} {L B : List Cond} (h1 : ∀ w ∈ L.filter goodWord, w.before args s = true) (h2 : ∀ w ∈ L.filter (fun w => !goodWord w), w ∈ B) (h3 : ∀ w ∈ B, w.before args s = true) : ∀ w ∈ L, w.before args s = true := by
  intro w hw
  by_cases g : goodWord w = true
  · exact h1 w (List.mem_filter.mpr ⟨hw, g⟩)
  · refine h3 w (h2 w (List.mem_filter.mpr ⟨hw, ?_⟩))
    show (!goodWord w) = true
    cases hgw : goodWord w
    · rfl
    · exact absurd hgw g
theorem vx_c {args : Array Value} {s : State} {w : Cond} {B : List Cond} (h : w.before args s = true) (t : ∀ w ∈ B, w.before args s = true) : ∀ w' ∈ w :: B, w'.before args s = true := fun w' h' => (List.mem_cons.mp h').elim (fun e => by rw [e]; exact h) (t w')
theorem vx_n {args : Array Value} {s : State} : ∀ w ∈ ([] : List Cond), w.before args s = true := fun _ h => nomatch h
theorem vx_own {args : Array Value} {s : State} {L : List Cond} (h1 : ∀ w ∈ L.filter vx_no, w.before args s = true)
    (hU : (Cond.isRef (.static Bundle.tN "UNASSIGNED_STACK" Bundle.steD)).before args s = true) (hN : (Cond.isRef (.static Bundle.tN "SUPPRESSED_SENTINEL" Bundle.listD)).before args s = true)
    (lU : (Cond.laysStatic Bundle.tN "UNASSIGNED_STACK" Bundle.steD).before args s = true) (lN : (Cond.laysStatic Bundle.tN "SUPPRESSED_SENTINEL" Bundle.listD).before args s = true) : ∀ w ∈ L, w.before args s = true := by
  intro w hw
  by_cases e1 : w = .isRef (.static Bundle.tN "UNASSIGNED_STACK" Bundle.steD)
  · rw [e1]; exact hU
  · by_cases e2 : w = .isRef (.static Bundle.tN "SUPPRESSED_SENTINEL" Bundle.listD)
    · rw [e2]; exact hN
    · by_cases e3 : w = .laysStatic Bundle.tN "UNASSIGNED_STACK" Bundle.steD
      · rw [e3]; exact lU
      · by_cases e4 : w = .laysStatic Bundle.tN "SUPPRESSED_SENTINEL" Bundle.listD
        · rw [e4]; exact lN
        · exact h1 w (List.mem_filter.mpr ⟨hw, by unfold vx_no; rw [decide_eq_true e1, decide_eq_true e2, decide_eq_true e3, decide_eq_true e4]; rfl⟩)
/-- where a static field lies, its class's statics cell in H -/
def vx_L (C n d : String) (A : Nat → Prop) (U : State) (H : Heap) : Prop := ∃ (c : ClassId) (k : Class) (i : Nat) (f : Field) (a : Nat) (cell : Cell), U.vm.findClass C = some c ∧ U.fieldFound? C n d = some (c, k, i, f) ∧ f.isStatic = true ∧ k.statics = some a ∧ H[a]? = some cell ∧ cell.vm.isStatics = true ∧ cell.cls = c ∧ f.slot < cell.slots.size ∧ k.staticTypes[f.slot]? = some f.type ∧ ¬ A a
theorem vx_L.moved {C n d : String} {A : Nat → Prop} {u U : State} {H : Heap} (hvm : u.vm.Alike U.vm) (h : vx_L C n d A u H) : vx_L C n d A U H := by
  obtain ⟨c, k, i, f, a, cell, h1, h2, h3, h4, h5, h6, h7, h8, h9, h10⟩ := h
  obtain ⟨k', hi', he⟩ := State.fieldFound?_setVm hvm h2
  exact ⟨c, k', i, f, a, cell, by rw [hvm.findClass]; exact h1, hi', h3, by rw [he]; exact h4, h5, h6, h7, h8, by rw [he]; exact h9, h10⟩
theorem vx_L.kept {C n d : String} {A : Nat → Prop} {U : State} {H H1 : Heap} (h : vx_L C n d A U H) (hq : ∀ a : Nat, a < H.size → ¬ A a → H1[a]? = H[a]?) : vx_L C n d A U H1 := by
  obtain ⟨c, k, i, f, a, cell, h1, h2, h3, h4, h5, h6, h7, h8, h9, h10⟩ := h
  exact ⟨c, k, i, f, a, cell, h1, h2, h3, h4, by rw [hq a (Array.getElem?_eq_some_iff.mp h5).1 h10]; exact h5, h6, h7, h8, h9, h10⟩
theorem vx_L.narrow {C n d : String} {A B : Nat → Prop} {U : State} {H : Heap} (h : vx_L C n d A U H) (hAB : ∀ q, B q → A q) : vx_L C n d B U H := by
  obtain ⟨c, k, i, f, a, cell, h1, h2, h3, h4, h5, h6, h7, h8, h9, h10⟩ := h
  exact ⟨c, k, i, f, a, cell, h1, h2, h3, h4, h5, h6, h7, h8, h9, fun z => h10 (hAB _ z)⟩
theorem vx_L.word {C n d : String} {A : Nat → Prop} {s : State} {args : Array Value} (h : vx_L C n d A s s.heap) : (Cond.laysStatic C n d).before args s = true := by
  obtain ⟨c, k, i, f, a, cell, h1, h2, h3, h4, h5, h6, h7, h8, h9, -⟩ := h
  show (Cond.laysStatic C n d).holds args s none s [] = true
  exact Cond.laysStatic_of h1 h2 h3 h4 h5 h6 h7 h8 h9
/-- .. and what it holds: null or some reference -/
def vx_Zq (C n d : String) (A : Nat → Prop) (U : State) (H : Heap) : Prop := va_Zq C n d A U H ∧ vx_L C n d A U H
theorem vx_Zq.moved {C n d : String} {A : Nat → Prop} {u U : State} {H : Heap} (hvm : u.vm.Alike U.vm) (h : vx_Zq C n d A u H) : vx_Zq C n d A U H := ⟨va_Zq.moved hvm h.1, vx_L.moved hvm h.2⟩
theorem vx_Zq.kept {C n d : String} {A : Nat → Prop} {U : State} {H H1 : Heap} (h : vx_Zq C n d A U H) (hq : ∀ a : Nat, a < H.size → ¬ A a → H1[a]? = H[a]?) : vx_Zq C n d A U H1 := ⟨va_Zq.kept h.1 hq, vx_L.kept h.2 hq⟩
theorem vx_Zq.narrow {C n d : String} {A B : Nat → Prop} {U : State} {H : Heap} (h : vx_Zq C n d A U H) (hAB : ∀ q, B q → A q) : vx_Zq C n d B U H := ⟨va_Zq.narrow h.1 hAB, vx_L.narrow h.2 hAB⟩
theorem vx_Zqof {args : Array Value} {s : State} {C n d : String} {A : Nat → Prop} (hl : (Cond.laysStatic C n d).before args s = true) (hini : (Cond.initialized C).before args s = true) (h : (Cond.isRef (.static C n d)).before args s = true) (hA : ∀ a : Nat, a < s.heap.size → ¬ A a) : vx_Zq C n d A s s.heap := by
  refine ⟨va_Zqof hl hini h hA, ?_⟩
  obtain ⟨c, k, i, f, a, cell, h1, h2, h3, h4, h5, h6, h7, h8, h9⟩ := Cond.laysStatic_spec hl
  exact ⟨c, k, i, f, a, cell, h1, h2, h3, h4, h5, h6, h7, h8, h9, hA a (Array.getElem?_eq_some_iff.mp h5).1⟩
theorem vx_isRef {C n d : String} {v : Value} {A : Nat → Prop} {s : State} {args : Array Value} (h : va_Z C n d v A s s.heap) (hv : v.isRef = true) : (Cond.isRef (.static C n d)).before args s = true := by
  obtain ⟨cf, kf, fi, f, a, cell, h1, h2, h3, h4, h5, h6, h7, -⟩ := h
  have he : (Term.static C n d).eval args s none [] s = some v := by
    simp [Term.eval, State.fieldNamed?, h1, h2, h4, h5, h6, h7]
  simp only [Cond.before, Cond.holds, Cond.value, he]
  cases v <;> simp_all [Value.isRef]
theorem vx_isRefq {C n d : String} {A : Nat → Prop} {s : State} {args : Array Value} (h : va_Zq C n d A s s.heap) : (Cond.isRef (.static C n d)).before args s = true := by
  rcases h with h | ⟨t, h⟩
  · exact vx_isRef h rfl
  · exact vx_isRef h rfl
/-- the same frame, seen from here: as if the method were called anew in this heap -/
theorem vx_rebase {T : State} (X : Stand p l e R s m args below meth c T locs cells slots) {R' : Room} (hf : R'.frames ≤ R.frames) (hl : R'.locals ≤ R.locals) (hc : cells + R'.cells ≤ R.cells) (hs : slots + R'.slots ≤ R.slots) :
    Stand p l e R' ((T.setVm s.vm).setFrames (.invoking m args :: below)) m args below meth c T [] 0 0 := by
  have htop : (T.setVm s.vm).topJava?.isSome := X.here.top
  have hF : ((T.setVm s.vm).setFrames (.invoking m args :: below)).frames = .invoking m args :: below := State.frames_setFrames _ (State.cur_lt_of_top htop)
  obtain ⟨g₀, hg0⟩ := Option.isSome_iff_exists.mp htop
  obtain ⟨r, hr⟩ := State.topJava?_eq_some.mp hg0
  have hl9 : e.platform.stackLimits (T.setVm s.vm).me = e.platform.stackLimits s.me := X.limits
  have hb9 : (T.setVm s.vm).me.stackBytes = s.me.stackBytes := X.bytes
  refine ⟨X.admits, X.cas, X.clock, hF, ?_, X.hears, X.method, X.code, X.here, X.tail, X.warmed, ?_, ?_, ?_⟩
  · have h := X.room
    have hU : ((T.setVm s.vm).setFrames (.invoking m args :: below)).localsInUse = s.localsInUse := by
      rw [State.localsInUse_invoking hF (meth := meth) (c := c) X.method X.code, State.localsInUse_invoking X.frames X.method X.code]
    simp only [State.hasRoom, Bool.and_eq_true, decide_eq_true_eq] at h ⊢
    obtain ⟨⟨⟨⟨h1, h2, h3, h4, h5, h6⟩, h7⟩, h8⟩, h9⟩ := h
    rw [X.frames, List.length_cons] at h2 h3
    have q1 := X.heapSize
    have q2 := X.used
    simp only [hF, hU, List.length_cons, State.stackLimits_setFrames, State.stackBytes_setFrames, hl9, hb9]
    refine ⟨⟨⟨⟨by omega, by omega, by omega, by omega, by omega, h6⟩, ?_⟩, ?_⟩, X.book⟩
    · show T.heap.size + R'.cells ≤ e.platform.maxCells
      omega
    · show T.slotsUsed + R'.slots ≤ e.platform.maxSlots
      omega
  · rw [State.stackLimits_setFrames]; rfl
  · rw [State.stackBytes_setFrames]; rfl
  · refine ⟨?_, Nat.le_refl _, Nat.le_refl _, ?_, ?_, fun a c9 h9 => ⟨c9, h9, rfl, rfl, fun _ _ => rfl⟩⟩
    · obtain ⟨t, ht, -⟩ := State.frames_cons hr
      show T.setVm s.vm = { ((T.setVm s.vm).setFrames (.invoking m args :: below)).setFrames (T.setVm s.vm).frames with heap := T.heap, slotsUsed := T.slotsUsed }
      rw [State.setFrames_setFrames, State.setFrames_self ht]
      rfl
    · show T.slotsUsed = T.slotsUsed + ((T.heap.toList.drop T.heap.size).map (·.slots.size)).sum
      rw [List.drop_eq_nil_of_le (Nat.le_of_eq Array.length_toList)]
      rfl
    · show ((T.heap.toList.drop T.heap.size).map (·.slots.size)).sum ≤ 0
      rw [List.drop_eq_nil_of_le (Nat.le_of_eq Array.length_toList)]
      exact Nat.le_refl _
/-- 'throw new E()': new; dup; invokespecial; athrow -/
theorem vx_throw0 {cc : ByteArray} {pc : Nat} (hexec : p.tables.exec = Jvm.exec) (hb : c.code = cc) (hl : l.stackTraces = false) {own cls : String} {names : List String} {ik ic mc ms : Nat} {A : Nat → Prop}
    (hown : s.vm.findClass own = some m.cls) (hcls : Bundle.fit cls = true) (hnames : ∀ n ∈ names, Bundle.fit n = true)
    (hk : (Cond.classLink own ik cls).before args s = true) (hini : (Cond.initialized cls).before args s = true) (hat : ∀ w ∈ vx_at0 own ic cls names, w.before args s = true)
    (hgood : ∀ w ∈ Cond.classLink own ik cls :: Cond.initialized cls :: vx_at0 own ic cls names, vx_ot w = true)
    (hU : vx_Zq Bundle.tN "UNASSIGNED_STACK" Bundle.steD A s s.heap) (hN : vx_Zq Bundle.tN "SUPPRESSED_SENTINEL" Bundle.listD A s s.heap) (hS : va_S A s.heap H locs) (hsize : ls.size = c.maxLocals)
    (d0 : decode cc pc = .ok (.new ik, 3)) (d3 : decode cc (pc + 3) = .ok (.dup, 1)) (d4 : decode cc (pc + 4) = .ok (.invokespecial ic, 3)) (d7 : decode cc (pc + 7) = .ok (.athrow, 1))
    (hout : ∀ x ∈ c.exceptionTable.toList, covers x (pc + 7) = false)
    (hRframes : names.length + 3 < R.frames) (hRlocals : (rest.map fun v => v.category).sum + (13 * (names.length + 1) + 42) ≤ R.locals) (hRcells : cells + 1 ≤ R.cells) (hRslots : slots + 6 ≤ R.slots) (hlocks : meth.locks = false)
    (hx : ∀ t : State, s.vm.Alike t.vm → H.size ≤ t.heap.size → (∀ q : Nat, q < H.size → t.heap[q]? = H[q]?) → XC cls s t)
    (hf : ∀ z ∈ locs, free z.base) (hc : cells + 1 ≤ mc) (hs : slots + 6 ≤ ms) :
    W p l e R s m args below meth c H locs cells slots (vx_MQ below Qc XC args s mc ms free) (F0 m pc ls rest) := by
  intro T hT X
  have htr : e.platform.stackTraces = false := (show e.platform.stackTraces = l.stackTraces by rw [X.admits.platform]).trans hl
  have Y := vx_rebase X (R' := { frames := R.frames, locals := R.locals, cells := 1, slots := 6 }) (Nat.le_refl _) (Nat.le_refl _) hRcells hRslots
  obtain ⟨s', hA⟩ : ∃ z, z = (T.setVm s.vm).setFrames (.invoking m args :: below) := ⟨_, rfl⟩
  rw [← hA] at Y
  have hvm : s'.vm = s.vm := by rw [hA]; rfl
  have hhp : s'.heap = H := by rw [hA]; exact hT
  have hW0 : s.WarmedH s'.vm := by rw [hvm]; exact State.WarmedH.refl s
  have hat' : ∀ w ∈ vx_at0 own ic cls names, w.before args s' = true := fun w hw => vx_ot_at hW0 hvm.symm (hgood w (List.mem_cons_of_mem _ (List.mem_cons_of_mem _ hw))) (hat w hw)
  have hk' : (Cond.classLink own ik cls).before args s' = true := vx_ot_at hW0 hvm.symm (hgood _ List.mem_cons_self) hk
  have hini' : (Cond.initialized cls).before args s' = true := vx_ot_at hW0 hvm.symm (hgood _ (List.mem_cons_of_mem _ List.mem_cons_self)) hini
  have hU' : vx_Zq Bundle.tN "UNASSIGNED_STACK" Bundle.steD A s' s'.heap := by rw [hhp]; exact vx_Zq.moved hW0.alike (hU.kept hS.2.1)
  have hN' : vx_Zq Bundle.tN "SUPPRESSED_SENTINEL" Bundle.listD A s' s'.heap := by rw [hhp]; exact vx_Zq.moved hW0.alike (hN.kept hS.2.1)
  have h : ∀ w ∈ Bundle.ownAtoms0 own ic cls names, w.before args s' = true := vx_own hat' (vx_isRefq hU'.1) (vx_isRefq hN'.1) hU'.2.word hN'.2.word
  have hown' : s'.vm.findClass own = some m.cls := by rw [hvm]; exact hown
  have hins : (Cond.instantiable cls 6).before args s' = true := h _ (by simp [Bundle.ownAtoms0])
  obtain ⟨vm₁, cX, kX, hfX, hkX, -, -, X₁, st1⟩ := Y.newCold hexec (own := own) (C := cls) (index := ik) (n := 6) hown' hk' hins hini'
    (g := F0 m pc ls rest) rfl (by rw [hb]; exact d0) (Nat.le_refl _) (Nat.le_refl _)
  generalize hT1 : (T.setVm vm₁).pushCell { cls := cX, slots := kX.instanceTypes.map defaultValue, vm := .none } = T1 at X₁ st1
  have hcat : (Value.ref T.heap.size).category = 1 := rfl
  have hcellA : T1.heap[T.heap.size]? = some (freshCell cX kX) := by rw [← hT1]; exact State.heap_pushCell_size _ _
  have d3' : decode c.code (pc + 3) = .ok (.dup, 1) := by rw [hb]; exact d3
  obtain ⟨U, hsteps, hrun, hend, hW, hsame, ce, hce, hO⟩ := X₁.ctorThrow0 hexec htr (own := own) (cls := cls) (names := names) (ic := ic) hown' hcls hnames h (fun x hx => nomatch hx) hfX hkX hcellA (by rw [hhp, hT]; exact Nat.le_refl _)
    (g := { method := m, pc := pc + 4, locals := ls, stack := .ref T.heap.size :: .ref T.heap.size :: rest, locked := none }) rfl hsize rfl rfl (rest := rest) rfl
    (by rw [hb]; exact d4) (by rw [hb]; exact d7) hout hRframes (by simp only [List.map_cons, List.sum_cons, hcat]; omega) hlocks
  obtain ⟨f1, f2⟩ := vx_frame hsame
  rw [hhp] at f1 f2
  have hWs : s.WarmedH U.vm := State.WarmedH.trans hW0 hW
  have hcl : s.vm.findClass cls = some ce.cls := by
    have h9 := hO.cls
    rw [hvm] at h9
    exact h9
  have hall : s.sameButNew ({ U with vm := s.vm } : State) locs mc ms := by
    subst hA
    obtain ⟨e1, e2⟩ := hsame
    rw [State.setFrames_setFrames] at e1
    have h2 : (T.setVm s.vm).sameButNew ({ U with vm := s.vm } : State) [] (0 + 1) (0 + 6) := ⟨e1, e2⟩
    have h3 := X.same.trans h2
    rw [List.append_nil] at h3
    exact h3.mono hc hs
  refine ⟨U, ?_, .threw T.heap.size, hrun, hend, Or.inr ⟨T.heap.size, rfl, cls, ce, locs, hx U hWs.alike f1 (fun q hq => f2 q hq (fun z hz => nomatch hz)), hce, hO.vm, hcl, hWs, hall, hf⟩⟩
  refine st1 _ ?_
  show Steps p.tables e below (T1.setTop { method := m, pc := pc + 3, locals := ls, stack := .ref T.heap.size :: rest, locked := none }) _
  jvm_step X₁.here [X₁.here.top, hexec, d3', Value.category]
  exact hsteps
/-- 'throw new E("text")': new; dup; ldc; invokespecial; athrow -/
theorem vx_throwS {cc : ByteArray} {pc : Nat} (hexec : p.tables.exec = Jvm.exec) (hb : c.code = cc) (hl : l.stackTraces = false) {own cls text : String} {names : List String} {ik is ic mc ms sa : Nat} {A : Nat → Prop}
    (hown : s.vm.findClass own = some m.cls) (hcls : Bundle.fit cls = true) (hnames : ∀ n ∈ names, Bundle.fit n = true)
    (hk : (Cond.classLink own ik cls).before args s = true) (hini : (Cond.initialized cls).before args s = true) (hstr : vk_R own is text sa s) (hat : ∀ w ∈ vx_atS own ic cls names, w.before args s = true)
    (hgood : ∀ w ∈ Cond.classLink own ik cls :: Cond.initialized cls :: vx_atS own ic cls names, vx_ot w = true)
    (hU : vx_Zq Bundle.tN "UNASSIGNED_STACK" Bundle.steD A s s.heap) (hN : vx_Zq Bundle.tN "SUPPRESSED_SENTINEL" Bundle.listD A s s.heap) (hS : va_S A s.heap H locs) (hsize : ls.size = c.maxLocals)
    (d0 : decode cc pc = .ok (.new ik, 3)) (d3 : decode cc (pc + 3) = .ok (.dup, 1)) (d4 : decode cc (pc + 4) = .ok (.ldc is, 2)) (d6 : decode cc (pc + 6) = .ok (.invokespecial ic, 3)) (d9 : decode cc (pc + 9) = .ok (.athrow, 1))
    (hout : ∀ x ∈ c.exceptionTable.toList, covers x (pc + 9) = false)
    (hRframes : names.length + 3 < R.frames) (hRlocals : (rest.map fun v => v.category).sum + (13 * (names.length + 1) + 43) ≤ R.locals) (hRcells : cells + 1 ≤ R.cells) (hRslots : slots + 6 ≤ R.slots) (hlocks : meth.locks = false)
    (hx : ∀ t : State, s.vm.Alike t.vm → H.size ≤ t.heap.size → (∀ q : Nat, q < H.size → t.heap[q]? = H[q]?) → XC cls s t)
    (hf : ∀ z ∈ locs, free z.base) (hc : cells + 1 ≤ mc) (hs : slots + 6 ≤ ms) :
    W p l e R s m args below meth c H locs cells slots (vx_MQ below Qc XC args s mc ms free) (F0 m pc ls rest) := by
  intro T hT X
  have htr : e.platform.stackTraces = false := (show e.platform.stackTraces = l.stackTraces by rw [X.admits.platform]).trans hl
  have Y := vx_rebase X (R' := { frames := R.frames, locals := R.locals, cells := 1, slots := 6 }) (Nat.le_refl _) (Nat.le_refl _) hRcells hRslots
  obtain ⟨s', hA⟩ : ∃ z, z = (T.setVm s.vm).setFrames (.invoking m args :: below) := ⟨_, rfl⟩
  rw [← hA] at Y
  have hvm : s'.vm = s.vm := by rw [hA]; rfl
  have hhp : s'.heap = H := by rw [hA]; exact hT
  have hW0 : s.WarmedH s'.vm := by rw [hvm]; exact State.WarmedH.refl s
  have hat' : ∀ w ∈ vx_atS own ic cls names, w.before args s' = true := fun w hw => vx_ot_at hW0 hvm.symm (hgood w (List.mem_cons_of_mem _ (List.mem_cons_of_mem _ hw))) (hat w hw)
  have hk' : (Cond.classLink own ik cls).before args s' = true := vx_ot_at hW0 hvm.symm (hgood _ List.mem_cons_self) hk
  have hini' : (Cond.initialized cls).before args s' = true := vx_ot_at hW0 hvm.symm (hgood _ (List.mem_cons_of_mem _ List.mem_cons_self)) hini
  have hU' : vx_Zq Bundle.tN "UNASSIGNED_STACK" Bundle.steD A s' s'.heap := by rw [hhp]; exact vx_Zq.moved hW0.alike (hU.kept hS.2.1)
  have hN' : vx_Zq Bundle.tN "SUPPRESSED_SENTINEL" Bundle.listD A s' s'.heap := by rw [hhp]; exact vx_Zq.moved hW0.alike (hN.kept hS.2.1)
  have h : ∀ w ∈ Bundle.ownAtoms own ic cls names, w.before args s' = true := vx_own hat' (vx_isRefq hU'.1) (vx_isRefq hN'.1) hU'.2.word hN'.2.word
  have hown' : s'.vm.findClass own = some m.cls := by rw [hvm]; exact hown
  have hins : (Cond.instantiable cls 6).before args s' = true := h _ (by simp [Bundle.ownAtoms])
  obtain ⟨vm₁, cX, kX, hfX, hkX, -, -, X₁, st1⟩ := Y.newCold hexec (own := own) (C := cls) (index := ik) (n := 6) hown' hk' hins hini'
    (g := F0 m pc ls rest) rfl (by rw [hb]; exact d0) (Nat.le_refl _) (Nat.le_refl _)
  generalize hT1 : (T.setVm vm₁).pushCell { cls := cX, slots := kX.instanceTypes.map defaultValue, vm := .none } = T1 at X₁ st1
  have hcat : (Value.ref T.heap.size).category = 1 := rfl
  have hcellA : T1.heap[T.heap.size]? = some (freshCell cX kX) := by rw [← hT1]; exact State.heap_pushCell_size _ _
  have d3' : decode c.code (pc + 3) = .ok (.dup, 1) := by rw [hb]; exact d3
  have d4' : decode c.code (pc + 4) = .ok (.ldc is, 2) := by rw [hb]; exact d4
  have hstr' : vk_R own is text sa s' := vk_R.warm hW0 hstr
  obtain ⟨U, hsteps, hrun, hend, hW, hsame, ce, hce, hO⟩ := X₁.ctorThrowS hexec htr (own := own) (cls := cls) (names := names) (ic := ic) hown' hcls hnames h (fun x hx => nomatch hx) hfX hkX hcellA (by rw [hhp, hT]; exact Nat.le_refl _) (msg := .ref sa) rfl
    (g := { method := m, pc := pc + 6, locals := ls, stack := .ref sa :: .ref T.heap.size :: .ref T.heap.size :: rest, locked := none }) rfl hsize rfl rfl (rest := rest) rfl
    (by rw [hb]; exact d6) (by rw [hb]; exact d9) hout hRframes (by simp only [List.map_cons, List.sum_cons, hcat]; omega) hlocks
  obtain ⟨f1, f2⟩ := vx_frame hsame
  rw [hhp] at f1 f2
  have hWs : s.WarmedH U.vm := State.WarmedH.trans hW0 hW
  have hcl : s.vm.findClass cls = some ce.cls := by
    have h9 := hO.cls
    rw [hvm] at h9
    exact h9
  have hall : s.sameButNew ({ U with vm := s.vm } : State) locs mc ms := by
    subst hA
    obtain ⟨e1, e2⟩ := hsame
    rw [State.setFrames_setFrames] at e1
    have h2 : (T.setVm s.vm).sameButNew ({ U with vm := s.vm } : State) [] (0 + 1) (0 + 6) := ⟨e1, e2⟩
    have h3 := X.same.trans h2
    rw [List.append_nil] at h3
    exact h3.mono hc hs
  refine ⟨U, ?_, .threw T.heap.size, hrun, hend, Or.inr ⟨T.heap.size, rfl, cls, ce, locs, hx U hWs.alike f1 (fun q hq => f2 q hq (fun z hz => nomatch hz)), hce, hO.vm, hcl, hWs, hall, hf⟩⟩
  refine st1 _ ?_
  show Steps p.tables e below (T1.setTop { method := m, pc := pc + 3, locals := ls, stack := .ref T.heap.size :: rest, locked := none }) _
  jvm_step X₁.here [X₁.here.top, hexec, d3', Value.category]
  exact X₁.ldcString hexec (own := own) (text := text) (index := is) (a := sa) hown' hstr'.1 hstr'.2
    (g := { method := m, pc := pc + 4, locals := ls, stack := .ref T.heap.size :: .ref T.heap.size :: rest, locked := none }) rfl d4' _ hsteps
/-- 'throw new E("text")', the text by a wide index -/
theorem vx_throwSW {cc : ByteArray} {pc : Nat} (hexec : p.tables.exec = Jvm.exec) (hb : c.code = cc) (hl : l.stackTraces = false) {own cls text : String} {names : List String} {ik is ic mc ms sa : Nat} {A : Nat → Prop}
    (hown : s.vm.findClass own = some m.cls) (hcls : Bundle.fit cls = true) (hnames : ∀ n ∈ names, Bundle.fit n = true)
    (hk : (Cond.classLink own ik cls).before args s = true) (hini : (Cond.initialized cls).before args s = true) (hstr : vk_R own is text sa s) (hat : ∀ w ∈ vx_atS own ic cls names, w.before args s = true)
    (hgood : ∀ w ∈ Cond.classLink own ik cls :: Cond.initialized cls :: vx_atS own ic cls names, vx_ot w = true)
    (hU : vx_Zq Bundle.tN "UNASSIGNED_STACK" Bundle.steD A s s.heap) (hN : vx_Zq Bundle.tN "SUPPRESSED_SENTINEL" Bundle.listD A s s.heap) (hS : va_S A s.heap H locs) (hsize : ls.size = c.maxLocals)
    (d0 : decode cc pc = .ok (.new ik, 3)) (d3 : decode cc (pc + 3) = .ok (.dup, 1)) (d4 : decode cc (pc + 4) = .ok (.ldc_w is, 3)) (d7 : decode cc (pc + 7) = .ok (.invokespecial ic, 3)) (d10 : decode cc (pc + 10) = .ok (.athrow, 1))
    (hout : ∀ x ∈ c.exceptionTable.toList, covers x (pc + 10) = false)
    (hRframes : names.length + 3 < R.frames) (hRlocals : (rest.map fun v => v.category).sum + (13 * (names.length + 1) + 43) ≤ R.locals) (hRcells : cells + 1 ≤ R.cells) (hRslots : slots + 6 ≤ R.slots) (hlocks : meth.locks = false)
    (hx : ∀ t : State, s.vm.Alike t.vm → H.size ≤ t.heap.size → (∀ q : Nat, q < H.size → t.heap[q]? = H[q]?) → XC cls s t)
    (hf : ∀ z ∈ locs, free z.base) (hc : cells + 1 ≤ mc) (hs : slots + 6 ≤ ms) :
    W p l e R s m args below meth c H locs cells slots (vx_MQ below Qc XC args s mc ms free) (F0 m pc ls rest) := by
  intro T hT X
  have htr : e.platform.stackTraces = false := (show e.platform.stackTraces = l.stackTraces by rw [X.admits.platform]).trans hl
  have Y := vx_rebase X (R' := { frames := R.frames, locals := R.locals, cells := 1, slots := 6 }) (Nat.le_refl _) (Nat.le_refl _) hRcells hRslots
  obtain ⟨s', hA⟩ : ∃ z, z = (T.setVm s.vm).setFrames (.invoking m args :: below) := ⟨_, rfl⟩
  rw [← hA] at Y
  have hvm : s'.vm = s.vm := by rw [hA]; rfl
  have hhp : s'.heap = H := by rw [hA]; exact hT
  have hW0 : s.WarmedH s'.vm := by rw [hvm]; exact State.WarmedH.refl s
  have hat' : ∀ w ∈ vx_atS own ic cls names, w.before args s' = true := fun w hw => vx_ot_at hW0 hvm.symm (hgood w (List.mem_cons_of_mem _ (List.mem_cons_of_mem _ hw))) (hat w hw)
  have hk' : (Cond.classLink own ik cls).before args s' = true := vx_ot_at hW0 hvm.symm (hgood _ List.mem_cons_self) hk
  have hini' : (Cond.initialized cls).before args s' = true := vx_ot_at hW0 hvm.symm (hgood _ (List.mem_cons_of_mem _ List.mem_cons_self)) hini
  have hU' : vx_Zq Bundle.tN "UNASSIGNED_STACK" Bundle.steD A s' s'.heap := by rw [hhp]; exact vx_Zq.moved hW0.alike (hU.kept hS.2.1)
  have hN' : vx_Zq Bundle.tN "SUPPRESSED_SENTINEL" Bundle.listD A s' s'.heap := by rw [hhp]; exact vx_Zq.moved hW0.alike (hN.kept hS.2.1)
  have h : ∀ w ∈ Bundle.ownAtoms own ic cls names, w.before args s' = true := vx_own hat' (vx_isRefq hU'.1) (vx_isRefq hN'.1) hU'.2.word hN'.2.word
  have hown' : s'.vm.findClass own = some m.cls := by rw [hvm]; exact hown
  have hins : (Cond.instantiable cls 6).before args s' = true := h _ (by simp [Bundle.ownAtoms])
  obtain ⟨vm₁, cX, kX, hfX, hkX, -, -, X₁, st1⟩ := Y.newCold hexec (own := own) (C := cls) (index := ik) (n := 6) hown' hk' hins hini'
    (g := F0 m pc ls rest) rfl (by rw [hb]; exact d0) (Nat.le_refl _) (Nat.le_refl _)
  generalize hT1 : (T.setVm vm₁).pushCell { cls := cX, slots := kX.instanceTypes.map defaultValue, vm := .none } = T1 at X₁ st1
  have hcat : (Value.ref T.heap.size).category = 1 := rfl
  have hcellA : T1.heap[T.heap.size]? = some (freshCell cX kX) := by rw [← hT1]; exact State.heap_pushCell_size _ _
  have d3' : decode c.code (pc + 3) = .ok (.dup, 1) := by rw [hb]; exact d3
  have d4' : decode c.code (pc + 4) = .ok (.ldc_w is, 3) := by rw [hb]; exact d4
  have hstr' : vk_R own is text sa s' := vk_R.warm hW0 hstr
  obtain ⟨U, hsteps, hrun, hend, hW, hsame, ce, hce, hO⟩ := X₁.ctorThrowS hexec htr (own := own) (cls := cls) (names := names) (ic := ic) hown' hcls hnames h (fun x hx => nomatch hx) hfX hkX hcellA (by rw [hhp, hT]; exact Nat.le_refl _) (msg := .ref sa) rfl
    (g := { method := m, pc := pc + 7, locals := ls, stack := .ref sa :: .ref T.heap.size :: .ref T.heap.size :: rest, locked := none }) rfl hsize rfl rfl (rest := rest) rfl
    (by rw [hb]; exact d7) (by rw [hb]; exact d10) hout hRframes (by simp only [List.map_cons, List.sum_cons, hcat]; omega) hlocks
  obtain ⟨f1, f2⟩ := vx_frame hsame
  rw [hhp] at f1 f2
  have hWs : s.WarmedH U.vm := State.WarmedH.trans hW0 hW
  have hcl : s.vm.findClass cls = some ce.cls := by
    have h9 := hO.cls
    rw [hvm] at h9
    exact h9
  have hall : s.sameButNew ({ U with vm := s.vm } : State) locs mc ms := by
    subst hA
    obtain ⟨e1, e2⟩ := hsame
    rw [State.setFrames_setFrames] at e1
    have h2 : (T.setVm s.vm).sameButNew ({ U with vm := s.vm } : State) [] (0 + 1) (0 + 6) := ⟨e1, e2⟩
    have h3 := X.same.trans h2
    rw [List.append_nil] at h3
    exact h3.mono hc hs
  refine ⟨U, ?_, .threw T.heap.size, hrun, hend, Or.inr ⟨T.heap.size, rfl, cls, ce, locs, hx U hWs.alike f1 (fun q hq => f2 q hq (fun z hz => nomatch hz)), hce, hO.vm, hcl, hWs, hall, hf⟩⟩
  refine st1 _ ?_
  show Steps p.tables e below (T1.setTop { method := m, pc := pc + 3, locals := ls, stack := .ref T.heap.size :: rest, locked := none }) _
  jvm_step X₁.here [X₁.here.top, hexec, d3', Value.category]
  exact X₁.ldcStringW hexec (own := own) (text := text) (index := is) (a := sa) hown' hstr'.1 hstr'.2
    (g := { method := m, pc := pc + 4, locals := ls, stack := .ref T.heap.size :: .ref T.heap.size :: rest, locked := none }) rfl d4' _ hsteps
end Ends
section Bodies
variable {l : Launch}
theorem vx_ofW {y : MethodName} {ws ws' : List Cond} {rm : Room} {Pc : Array Value → State → Prop} {Qc : Array Value → State → Outcome → State → Prop} {XC : String → State → State → Prop} {mc ms : Nat} {free : Addr → Prop} {cc : ByteArray} {maxL : Nat} {ret : Option FieldType}
    (hy : plainName y.cls = true) (hw : ws = Cond.code y cc maxL ret :: ws')
    (body : ∀ p e s m args below meth c s₁, BodyLoose p l y (headSpec ws rm) cc maxL ret e s m args below meth c s₁ → c.maxLocals = maxL → (∀ x ∈ c.exceptionTable.toList, False) → Pc args s →
      W p l e (headSpec ws rm).room s m args below meth c s.heap [] 0 0 (vx_MQ below Qc XC args s mc ms free) (entryFrame m args maxL)) : vx_Met l y ws rm Pc Qc XC mc ms free := by
  refine MetFree.of_bodyS (code := cc) (maxLocals := maxL) (ret := ret) hy ?_ ?_
  · intro args s m h hn
    obtain ⟨meth, c, h1, h2, h3, h4, h5, h6, -, -⟩ := Cond.code_spec hn (atoms_spec (ws := ws) h _ (by rw [hw]; exact List.mem_cons_self))
    exact ⟨meth, c, h1, h2, h3, h4, h5, h6⟩
  · intro p e s m args below meth c s₁ B hml hP _
    have hh0 : s₁.heap = s.heap := by rw [B.state]; rfl
    have ht : ∀ x ∈ c.exceptionTable.toList, False := by
      obtain ⟨meth9, c9, h1, h2, -, -, -, -, h7, -⟩ := Cond.code_spec B.named (atoms_spec (ws := ws) B.pre _ (by rw [hw]; exact List.mem_cons_self))
      cases Option.some.inj (h1.symm.trans B.method)
      cases Option.some.inj (h2.symm.trans (Stand.of_body B).code)
      intro x hx
      rw [Array.isEmpty_iff.mp h7] at hx
      cases hx
    obtain ⟨t, a1, o, b1, b2, b3⟩ := body p e s m args below meth c s₁ B hml ht hP s₁ hh0 (Stand.of_body B)
    exact ⟨t, o, a1, b1, b2, b3⟩
/-- the table of a body with handlers -/
theorem vx_table {p : Program} {x y : MethodName} {S : Spec} {cc bytes : ByteArray} {maxL maxL' : Nat} {ret ret' : Option FieldType} {e : Env} {s s₁ : State} {m : MethodId} {args : Array Value} {below : List Frame} {meth : Method} {c : Code} {hh : List (Nat × Nat × Nat × Nat)}
    (B : BodyLoose p l y S cc maxL ret e s m args below meth c s₁) (h : (Cond.codeWith y bytes maxL' ret' hh).before args s = true) : c.exceptionTable.toList = tableOf hh := by
  obtain ⟨m9, meth9, c9, hn9, h1, h2, -, -, h6, -⟩ := Cond.codeWith_spec h
  cases Option.some.inj (hn9.symm.trans B.named)
  cases Option.some.inj (h1.symm.trans B.method)
  cases Option.some.inj (h2.symm.trans (Stand.of_body B).code)
  rw [← h6, table_eq]
end Bodies
end VXA
/-! ===== END ===== -/
/-! ===== BEGIN a static call of a method with an exception table ===== -/
section VXS
variable {p : Program} {l : Launch} {e : Env} {R : Room} {s : State} {m : MethodId} {args : Array Value} {below : List Frame} {meth : Method} {c : Code} {T : State} {H : Heap} {locs : List Loc} {cells slots : Nat}
abbrev vx_CSW (R : Room) (s : State) (args : Array Value) (own : String) (index : Nat) (y : MethodName) (bytes : ByteArray) (maxL : Nat) (ret : Option FieldType) (hh : List (Nat × Nat × Nat × Nat)) (ws : List Cond) (rm : Room) (mc ms n : Nat) : Prop :=
  (rm.cells = mc ∧ rm.slots = ms ∧ rm.frames + 1 ≤ R.frames ∧ 8 + (maxL + 11) + rm.locals ≤ R.locals ∧ (∀ w ∈ ws, ∀ (a' : Array Value) (U : State), s.WarmedH U.vm → w.before a' U = true) ∧ Cond.codeWith y bytes maxL ret hh ∈ ws) ∧
  (Cond.codeWith y bytes maxL ret hh).before args s = true ∧ (Cond.initialized y.cls).before args s = true ∧ (y.cls ≠ "java/lang/invoke/MethodHandle" ∧ y.cls ≠ "java/lang/invoke/VarHandle") ∧
  (∀ sig, parseMethodDescriptor y.desc = some sig → n = sig.parameters.length) ∧ (Cond.methodLink own index y).before args s = true ∧ (Cond.static y).before args s = true
theorem vx_cwSW {own : String} {index maxL mc ms : Nat} {y : MethodName} {bytes : ByteArray} {ret : Option FieldType} {hh : List (Nat × Nat × Nat × Nat)} {Ts ws ws' : List Cond} {rm : Room} (n : Nat) (ht : ∀ w ∈ Ts, w.before args s = true) (hT : GoodIn Ts (va_wsS own index y ws)) (hw : ws = Cond.codeWith y bytes maxL ret hh :: ws') (hrc : rm.cells = mc) (hrs : rm.slots = ms)
    (hd : y.cls ≠ "java/lang/invoke/MethodHandle" ∧ y.cls ≠ "java/lang/invoke/VarHandle" ∧ (parseMethodDescriptor y.desc).map (fun d => d.parameters.length) = some n) (hR : rm.frames + 1 ≤ R.frames ∧ 8 + (maxL + 11) + rm.locals ≤ R.locals) :
    vx_CSW R s args own index y bytes maxL ret hh ws rm mc ms n := by
  have ok : ∀ w ∈ va_wsS own index y ws, w.before args s = true := fun w h => ht w (hT w h).1
  have hG : GoodIn Ts ws := fun w h => hT w (by unfold va_wsS; exact List.mem_append_right _ h)
  have hc : Cond.codeWith y bytes maxL ret hh ∈ ws := by rw [hw]; exact List.mem_cons_self
  refine ⟨⟨hrc, hrs, hR.1, hR.2, pay_in ht hG, hc⟩, ht _ (hG _ hc).1, ok _ (by simp [va_wsS]), ⟨hd.1, hd.2.1⟩, fun sig h => ?_, ok _ (by simp [va_wsS]), ok _ (by simp [va_wsS])⟩
  have h2 := hd.2.2
  rw [h] at h2
  exact (Option.some.inj h2).symm
theorem vx_callSW (X : Stand p l e R s m args below meth c T locs cells slots) (hexec : p.tables.exec = Jvm.exec) {own : String} {index : Nat} {y : MethodName} {bytes : ByteArray} {maxL : Nat} {ret : Option FieldType} {hh : List (Nat × Nat × Nat × Nat)}
    (hown : s.vm.findClass own = some m.cls) (hlink : (Cond.methodLink own index y).before args s = true) (hstat : (Cond.static y).before args s = true) (hinit : (Cond.initialized y.cls).before args s = true)
    (hcode : (Cond.codeWith y bytes maxL ret hh).before args s = true) (hy : y.cls ≠ "java/lang/invoke/MethodHandle" ∧ y.cls ≠ "java/lang/invoke/VarHandle")
    {W9 : Nat} {Pre : Pt → Array Value → Prop} {Post : Pt → Array Value → Option Value → Pt → Prop} (hK : Back l R p e below s args y 3 W9 Pre Post)
    {g : JFrame} (hg : g.method = m) (hsize : g.locals.size = c.maxLocals) {argsL rest : List Value} (hlen : ∀ sig, parseMethodDescriptor y.desc = some sig → argsL.length = sig.parameters.length)
    (hstack : g.stack = argsL.reverse ++ rest) (hW : 2 * g.monitorRoom + (rest.map fun v => v.category).sum ≤ W9) (hdg : decode c.code g.pc = .ok (.invokestatic index, 3))
    (hpre : ∀ vm₁, s.WarmedH vm₁ → Pre ⟨T.setVm vm₁, locs, cells, slots⟩ argsL.toArray) :
    ∃ (v : Option Value) (vm₁ : Vm) (B : Pt), s.WarmedH vm₁ ∧ Stand p l e R s m args below meth c B.U B.locs B.cells B.slots ∧ Post ⟨T.setVm vm₁, locs, cells, slots⟩ argsL.toArray v B ∧
      ∀ target, Steps p.tables e below (B.U.setTop { g with pc := g.pc + 3, stack := v.toList ++ rest }) target → Steps p.tables e below (T.setTop g) target := by
  obtain ⟨mk, methM, cM, hnamed, hmethM, -, -, -, -, -, -, hsigM⟩ := Cond.codeWith_spec hcode
  have hstatic : methM.isStatic = true := Cond.static_spec hnamed hmethM hstat
  obtain ⟨kP, hkP, -⟩ := className_of_methodNamed hnamed
  have hinitP : kP.init = .initialized := Cond.initialized_spec (findClass_of_methodNamed hnamed) hkP hinit
  obtain ⟨vm₁, X₁, hstep₁⟩ := X.invokestatic hexec hown hlink hnamed hmethM hstatic hkP hinitP hy (g := g) hg (argsL := argsL) (rest := rest) (hlen _ hsigM) hstack hdg
  obtain ⟨v, B, X', hpost, hsteps⟩ := hK m meth c ⟨T.setVm vm₁, locs, cells, slots⟩ { g with stack := rest } (.invokestatic index) mk argsL.toArray X₁ hg hsize hdg hW (X₁.named hnamed) (hpre vm₁ X₁.warmed)
  exact ⟨v, vm₁, B, X₁.warmed, X', hpost, fun target h => hstep₁ _ fun acts => by rw [doInvoke_state]; exact hsteps.trans h⟩
theorem vx_runSW {y : MethodName} {bytes cc : ByteArray} {maxL nL mc ms n index : Nat} {ret : Option FieldType} {hh : List (Nat × Nat × Nat × Nat)} {ws : List Cond} {rm : Room} {Pc : Array Value → State → Prop} {Qc : Array Value → State → Outcome → State → Prop} {free : Addr → Prop} {Ts : List Cond} {own : String} {As rest : List Value} {g : JFrame}
    (S : CallFix p m c cc nL s args Ts own) (hM : Met l y ws rm Pc Qc mc ms free) (cw : vx_CSW R s args own index y bytes maxL ret hh ws rm mc ms n) (hp : PreS s H Pc As)
    (hg : g.method = m) (hn : As.length = n) (hsize : g.locals.size = nL) (hstack : g.stack = As.reverse ++ rest) (hW : 2 * g.monitorRoom + (rest.map fun v => v.category).sum ≤ 8) (hdg : decode cc g.pc = .ok (.invokestatic index, 3)) (hf : cells + mc ≤ R.cells ∧ slots + ms ≤ R.slots) :
    va_Run p l e R s m args below meth c H locs cells slots mc ms g rest (Qc As.toArray) (free) := by
  obtain ⟨⟨hrc, hrs, hfr, hlo, hws, hcw⟩, hcode, hini, hy, hlen, hl, hstt⟩ := cw
  have hK : Back l R p e below s args y 3 8 (PreOf R mc ms Pc) (PostOf Qc mc ms free) := va_backW (hh := hh) (bytes := bytes) (maxL := maxL) (ret := ret) hM hp.1 hrc hrs hfr hlo hws hcw (fun a' U hW => word_at hW (Or.inl (by first | rfl | simp [Cond.onTables, Cond.keeps, Cond.steady])) hini)
  obtain ⟨hx, hb, hml, ho, -⟩ := S
  intro T hT X
  obtain ⟨v, vm₁, ⟨U', l2, c2, s2⟩, hW₁, X', ⟨g', mk, t, L, e1, e2, hq, h1, hL, h2, h3⟩, st⟩ := vx_callSW X hx (hh := hh) (bytes := bytes) (maxL := maxL) (ret := ret) ho hl hstt hini hcode hy hK hg (hsize.trans hml.symm) (argsL := As) (rest := rest) (fun sig h => hn.trans (hlen sig h)) hstack hW (by rw [hb]; exact hdg)
    (fun vm₁ hW₁ => ⟨hf.1, hf.2, hp.2 (T.setVm vm₁) hT hW₁⟩)
  dsimp only [Pt.U, Pt.locs, Pt.cells, Pt.slots] at X' e1 e2 h1 h2 h3 st
  subst h1; subst h2; subst h3
  exact ⟨v, (T.setVm vm₁).calling g' mk As.toArray, t, U', L, hT, X', hL, e1, e2, hq, st⟩
/-- not caught here, past rows that name other classes: it goes on to the caller -/
theorem vx_outP {p : Program} {l : Launch} {e : Env} {R : Room} {s : State} {m : MethodId} {args : Array Value} {below : List Frame} {meth : Method} {c : Code} {H : Heap} {locs : List Loc} {cells slots : Nat} {free : Addr → Prop} {ls : Array Slot} {rest : List Value} {Qc : Array Value → State → Outcome → State → Prop} {XC : String → State → State → Prop}
    {pc : Nat} {own E : String} {ce : Cell} {q : Addr} {mc ms : Nat} (hown : s.vm.findClass own = some m.cls) (hlocks : meth.locks = false)
    (hpass : ∀ z ∈ c.exceptionTable.toList, covers z pc = false ∨ (z.catchType ≠ 0 ∧ ∃ nm : String, (Cond.classLink own z.catchType nm).before args s = true ∧ va_Nc E nm s)) (hcell : H[q]? = some ce) (hv : ce.vm = .none) (hcl : s.vm.findClass E = some ce.cls)
    (hx : ∀ t : State, t.heap = H → s.vm.Alike t.vm → XC E s t) (hf : ∀ z ∈ locs, free z.base) (hc : cells ≤ mc) (hs : slots ≤ ms) :
    vx_W p l e R s m args below meth c H locs cells slots (vx_MQ below Qc XC args s mc ms free) (F0 m pc ls rest) q := by
  intro T hT X
  have hpl : e.platform.magicAccessors = ({} : Platform).magicAccessors := by rw [X.admits.platform]
  obtain ⟨vm', hW', X', st⟩ := X.outThrough hlocks q (g := F0 m pc ls rest) rfl rfl rfl (cell := ce) (by rw [hT]; exact hcell) (by rw [hv]; rfl)
    (by obtain ⟨k9, h9, -⟩ := Vm.findClass_spec hcl; exact ⟨k9, h9⟩) (fun z hz => by
      rcases hpass z hz with h | ⟨hz0, nm, hl1, hn1⟩
      · exact Or.inl h
      · obtain ⟨c6, hc6, hcl6⟩ := Cond.classLink_spec hown hl1 e.platform hpl
        obtain ⟨a8, b8, h1, h2, h3⟩ := hn1
        cases Option.some.inj (h1.symm.trans hcl)
        cases Option.some.inj (h2.symm.trans hc6)
        exact Or.inr ⟨hz0, _, hcl6, h3⟩)
  obtain ⟨g₀, hfr⟩ := X'.frames_eq
  have hcell9 : ((T.setVm vm').setFrames (.throwing q :: below)).heap[q]? = some ce := by
    show T.heap[q]? = some ce
    rw [hT]; exact hcell
  have hend : Ended ((T.setVm vm').setFrames (.throwing q :: below)) below (.threw q) := State.frames_setFrames _ (State.cur_lt_of_frames hfr)
  refine ⟨(T.setVm vm').setFrames (.throwing q :: below), ?_, .threw q, X'.here.running, hend, Or.inr ⟨q, rfl, E, ce, locs, hx _ hT (X'.ends _).1.alike, hcell9, hv, hcl, (X'.ends _).1, (X'.ends _).2.mono hc hs, hf⟩⟩
  rw [X.pushThrowing_eq]
  exact st
/-- a thing of a world lies in the heap -/
theorem vx_lt {D : va_G} {cl : List vw_C} {ws : va_W} {H1 : Heap} (h : va_P D cl ws H1) {k : Nat} {q : Nat × va_E} (hk : ws[k]? = some q) : q.1 < H1.size := (h k q hk).lt
end VXS
/-! ===== END ===== -/
/-! ===== BEGIN methods with a table of their own: called by a name, returning or throwing ===== -/
section VXH
/-! vx_backW, vx_callVX, vx_callSX, vx_callVW, vx_runVW, vx_runVX, vx_runSX, vx_ofWH follow the same proofs as their sisters above (Free/Laws.lean, Shelf42/LK1.lean); vx_outP calls Shelf42/NT130.lean (outThrough). -/
section
variable {l : Launch} {R : Room} {p : Program} {e : Env} {below : List Frame} {s : State} {sargs : Array Value} {y : MethodName} {len W9 : Nat}
theorem vx_backW {ws : List Cond} {rm : Room} {Pc : Array Value → State → Prop} {Qc : Array Value → State → Outcome → State → Prop} {XC : String → State → State → Prop} {mc ms : Nat} {free : Addr → Prop} {bytes : ByteArray} {maxL : Nat} {ret : Option FieldType} {hh : List (Nat × Nat × Nat × Nat)}
    (hM : vx_Met l y ws rm Pc Qc XC mc ms free) (hblind : FrameBlind Pc) (hrc : rm.cells = mc) (hrs : rm.slots = ms)
    (hframes : rm.frames + 1 ≤ R.frames) (hlocals : W9 + (maxL + 11) + rm.locals ≤ R.locals)
    (hws : ∀ w ∈ ws, ∀ a' U, s.WarmedH U.vm → w.before a' U = true) (hcode : Cond.codeWith y bytes maxL ret hh ∈ ws) (hinit : ∀ a' U, s.WarmedH U.vm → (Cond.initialized y.cls).before a' U = true) :
    vx_Back l R p e below s sargs y len W9 (PreOf R mc ms Pc) (PostOf Qc mc ms free) (vx_Post XC mc ms free) := by
  intro m meth c A g ig mk a X hg hsize hdg hW hn hp
  have h1 : (headSpec ws rm).pre.before a A.U = true := atoms_intro fun w hw => hws w hw _ _ X.warmed
  have h2 : (Cond.codeWith y bytes maxL ret hh).before a A.U = true := hws _ hcode _ _ X.warmed
  have h3 : (Cond.initialized y.cls).before a A.U = true := hinit _ _ X.warmed
  have h4 : A.cells + (headSpec ws rm).room.cells ≤ R.cells := by rw [show (headSpec ws rm).room.cells = mc from hrc]; exact hp.1
  have h5 : A.slots + (headSpec ws rm).room.slots ≤ R.slots := by rw [show (headSpec ws rm).room.slots = ms from hrs]; exact hp.2.1
  have hPc : Pc a (A.U.calling g mk a) := hblind _ _ _ _ hp.2.2
  obtain ⟨U, Ls, c0, s0⟩ := A
  dsimp only [Pt.U, Pt.locs, Pt.cells, Pt.slots] at h1 h2 h3 h4 h5 X hn hPc ⊢
  obtain ⟨m9, methY, cY, hn9, hmY, hcY, -, hlY, -⟩ := Cond.codeWith_spec h2
  cases Option.some.inj (hn9.symm.trans hn)
  obtain ⟨kY, hkY, -⟩ := className_of_methodNamed hn
  have hinitY : kY.init = .initialized := Cond.initialized_spec (findClass_of_methodNamed hn) hkY h3
  have h : At U g.method c below := by rw [hg]; exact X.here
  have hlocals9 : W9 + (maxL + 11) + (headSpec ws rm).room.locals ≤ R.locals := hlocals
  have happ : (headSpec ws rm).appliesLoose y e.platform (U.calling g mk a) = true :=
    Spec.appliesLoose_calling (g := g) h hdg hn hkY hinitY
      (X.room_calling (g := g) (R' := (headSpec ws rm).room) hsize hmY hcY hframes (by rw [hlY]; omega) h4 h5) h1
  obtain ⟨mid, hmid⟩ := h.above
  have hfr : (U.setTop g).frames = (.java g :: mid) ++ below := by rw [State.frames_setTop' g h.top, hmid]; rfl
  obtain ⟨o, s₂, hsteps, -, hend, hq⟩ := Steps.callFree hM p X.admits X.cas X.clock (acts := []) hfr happ hPc trivial
  have hq' : vx_Q Qc XC mc ms free a (U.calling g mk a) o s₂ := hq
  rw [State.frames_setTop' g h.top] at hend
  obtain ⟨g₀, hg0⟩ := Option.isSome_iff_exists.mp h.top
  obtain ⟨r, hr⟩ := State.topJava?_eq_some.mp hg0
  have hr' : (({ U with heap := s₂.heap, slotsUsed := s₂.slotsUsed } : State).setVm s₂.vm).frames = .java g₀ :: r := hr
  rcases hq' with ⟨hqc, L, hfe, hL⟩ | ⟨q, rfl, E, ce, L, hx, hce, hcv, hcl, hW₂, hsm, hL⟩
  · obtain ⟨⟨v, rfl⟩, hW₂, e2, q2, q3, q4, q5, q6⟩ := id hfe
    have e3 : s₂ = ({ (U.calling g mk a).setFrames s₂.frames with heap := s₂.heap, slotsUsed := s₂.slotsUsed } : State).setVm s₂.vm := by
      have : s₂ = ({ s₂ with vm := (U.calling g mk a).vm } : State).setVm s₂.vm := rfl
      rw [e2] at this
      exact this
    obtain ⟨c₂, i₂, len₂, hc₂, hd₂, hf₂⟩ := hend
    have hW' : U.WarmedH s₂.vm := hW₂
    have hcc : c₂ = c := by
      have h1 : s₂.code? g.method = U.code? g.method := by
        rw [State.code?_eq, State.code?_eq, hW'.alike.method?]
      exact Option.some.inj (hc₂.symm.trans (h1.trans h.code))
    subst hcc
    have hlen : len₂ = len := by rw [hdg] at hd₂; cases hd₂; rfl
    subst hlen
    have hs₂ : s₂ = (({ U with heap := s₂.heap, slotsUsed := s₂.slotsUsed } : State).setVm s₂.vm).setTop { g with pc := g.pc + len₂, stack := v.toList ++ g.stack } := by
      refine e3.trans ?_
      rw [hf₂, State.calling_eq h.top, State.setFrames_setFrames, State.setTop_of_frames _ hr', hr]
      rfl
    have hsame : U.sameButNew ({ U with heap := s₂.heap, slotsUsed := s₂.slotsUsed } : State) L mc ms := by
      refine ⟨?_, q2, q3, q4, q5, q6⟩
      obtain ⟨t, ht, -⟩ := State.frames_cons hr
      show ({ U with heap := s₂.heap, slotsUsed := s₂.slotsUsed } : State) = { U.setFrames U.frames with heap := s₂.heap, slotsUsed := s₂.slotsUsed }
      rw [State.setFrames_self ht]
    subst hg
    refine Or.inl ⟨v, ⟨(({ U with heap := s₂.heap, slotsUsed := s₂.slotsUsed } : State).setVm s₂.vm), Ls ++ L, c0 + mc, s0 + ms⟩,
      ⟨X.admits, X.cas, X.clock, X.frames, X.room, X.hears, X.method, X.code, (X.here.setHeapUsed s₂.heap s₂.slotsUsed).setVm hW'.alike, X.tail, State.WarmedH.trans X.warmed hW', X.limits, X.bytes, X.same.trans (hsame.setVm s.vm)⟩,
      ⟨g, mk, s₂, L, rfl, rfl, hqc, rfl, hL, rfl, rfl⟩, ?_⟩
    show Steps p.tables e below _ ((({ U with heap := s₂.heap, slotsUsed := s₂.slotsUsed } : State).setVm s₂.vm).setTop { g with pc := g.pc + len₂, stack := v.toList ++ g.stack })
    rw [← hs₂]
    exact hsteps
  · obtain ⟨e2, q2, q3, q4, q5, q6⟩ := id hsm
    have e3 : s₂ = ({ (U.calling g mk a).setFrames s₂.frames with heap := s₂.heap, slotsUsed := s₂.slotsUsed } : State).setVm s₂.vm := by
      have : s₂ = ({ s₂ with vm := (U.calling g mk a).vm } : State).setVm s₂.vm := rfl
      rw [e2] at this
      exact this
    have hf₂ : s₂.frames = .throwing q :: .java g :: U.frames.tail := hend
    have hW' : U.WarmedH s₂.vm := hW₂
    have hs₂ : s₂ = ((({ U with heap := s₂.heap, slotsUsed := s₂.slotsUsed } : State).setVm s₂.vm).setTop g).pushFrame (.throwing q) := by
      refine e3.trans ?_
      rw [hf₂, State.calling_eq h.top, State.setFrames_setFrames, State.pushFrame, State.frames_setTop _ hr', State.setTop_of_frames _ hr', State.setFrames_setFrames, hr]
      rfl
    have hsame : U.sameButNew ({ U with heap := s₂.heap, slotsUsed := s₂.slotsUsed } : State) L mc ms := by
      refine ⟨?_, q2, q3, q4, q5, q6⟩
      obtain ⟨t, ht, -⟩ := State.frames_cons hr
      show ({ U with heap := s₂.heap, slotsUsed := s₂.slotsUsed } : State) = { U.setFrames U.frames with heap := s₂.heap, slotsUsed := s₂.slotsUsed }
      rw [State.setFrames_self ht]
    subst hg
    refine Or.inr ⟨q, ⟨(({ U with heap := s₂.heap, slotsUsed := s₂.slotsUsed } : State).setVm s₂.vm), Ls ++ L, c0 + mc, s0 + ms⟩,
      ⟨X.admits, X.cas, X.clock, X.frames, X.room, X.hears, X.method, X.code, (X.here.setHeapUsed s₂.heap s₂.slotsUsed).setVm hW'.alike, X.tail, State.WarmedH.trans X.warmed hW', X.limits, X.bytes, X.same.trans (hsame.setVm s.vm)⟩,
      ⟨g, mk, s₂, L, E, ce, rfl, rfl, hx, hce, hcv, hcl, rfl, hL, rfl, rfl⟩, ?_⟩
    show Steps p.tables e below _ (((({ U with heap := s₂.heap, slotsUsed := s₂.slotsUsed } : State).setVm s₂.vm).setTop g).pushFrame (.throwing q))
    rw [← hs₂]
    exact hsteps
end
variable {p : Program} {l : Launch} {e : Env} {R : Room} {s : State} {m : MethodId} {args : Array Value} {below : List Frame} {meth : Method} {c : Code} {T : State} {H : Heap} {locs : List Loc} {cells slots : Nat}
theorem vx_callVX (X : Stand p l e R s m args below meth c T locs cells slots) (hexec : p.tables.exec = Jvm.exec) {own C : String} {index : Nat} {y : MethodName} {bytes : ByteArray} {maxL : Nat} {ret : Option FieldType} {hh : List (Nat × Nat × Nat × Nat)}
    (hown : s.vm.findClass own = some m.cls) (hlink : (Cond.methodLink own index y).before args s = true) (hinst : (Cond.instanceMethod y).before args s = true) (hsel : (Cond.selects C y y).before args s = true)
    (hcode : (Cond.codeWith y bytes maxL ret hh).before args s = true) (hy : y.cls ≠ "java/lang/invoke/MethodHandle" ∧ y.cls ≠ "java/lang/invoke/VarHandle")
    {W9 : Nat} {Pre : Pt → Array Value → Prop} {Post : Pt → Array Value → Option Value → Pt → Prop} {PostX : Pt → Array Value → Addr → Pt → Prop} (hK : vx_Back l R p e below s args y 3 W9 Pre Post PostX)
    {b : Addr} {cellB : Cell} (hcell : T.heap[b]? = some cellB) (hobj : cellB.vm.isStatics = false) (hcls : s.vm.findClass C = some cellB.cls)
    {g : JFrame} (hg : g.method = m) (hsize : g.locals.size = c.maxLocals) {argsL rest : List Value} (hlen : ∀ sig, parseMethodDescriptor y.desc = some sig → argsL.length = sig.parameters.length)
    (hstack : g.stack = argsL.reverse ++ .ref b :: rest) (hW : 2 * g.monitorRoom + (rest.map fun v => v.category).sum ≤ W9) (hdg : decode c.code g.pc = .ok (.invokevirtual index, 3))
    (hpre : ∀ vm₁, s.WarmedH vm₁ → Pre ⟨T.setVm vm₁, locs, cells, slots⟩ (Value.ref b :: argsL).toArray) :
    (∃ (v : Option Value) (vm₁ : Vm) (B : Pt), s.WarmedH vm₁ ∧ Stand p l e R s m args below meth c B.U B.locs B.cells B.slots ∧ Post ⟨T.setVm vm₁, locs, cells, slots⟩ (Value.ref b :: argsL).toArray v B ∧
      ∀ target, Steps p.tables e below (B.U.setTop { g with pc := g.pc + 3, stack := v.toList ++ rest }) target → Steps p.tables e below (T.setTop g) target) ∨
    (∃ (q : Addr) (vm₁ : Vm) (B : Pt), s.WarmedH vm₁ ∧ Stand p l e R s m args below meth c B.U B.locs B.cells B.slots ∧ PostX ⟨T.setVm vm₁, locs, cells, slots⟩ (Value.ref b :: argsL).toArray q B ∧
      Steps p.tables e below (T.setTop g) ((B.U.setTop { g with stack := rest }).pushFrame (.throwing q))) := by
  obtain ⟨mk, methM, hnamed, hmethM, hstM, habM⟩ := Cond.instanceMethod_spec hinst
  obtain ⟨m8, methM', cM, hn8, hmethM', -, -, -, -, -, -, hsigM⟩ := Cond.codeWith_spec hcode
  cases Option.some.inj (hn8.symm.trans hnamed)
  cases hmethM.symm.trans hmethM'
  obtain ⟨c2, r2, m2, q1, q2, q3, q4, kP, hkP, hkPi⟩ := Cond.selects_spec hsel
  cases hcls.symm.trans q1
  cases (State.methodFound?_of_named hnamed hy).symm.trans q2
  cases hnamed.symm.trans q3
  have hselP : selectMethod e.platform s.vm cellB.cls mk = .method mk := by rw [Launch.admits_selectMethod X.admits]; exact q4
  obtain ⟨vm₁, X₁, hstep₁⟩ := X.invokevirtual hexec hown hlink hnamed hmethM hstM hkP hkPi hy (a := b) (cell := cellB) hcell
    (fun z h => by rw [h] at hobj; cases hobj) hselP hmethM habM hkP hkPi (g := g) hg (argsL := argsL) (rest := rest) (hlen _ hsigM) hstack hdg
  rcases hK m meth c ⟨T.setVm vm₁, locs, cells, slots⟩ { g with stack := rest } (.invokevirtual index) mk (Value.ref b :: argsL).toArray X₁ hg hsize hdg hW (X₁.named hnamed) (hpre vm₁ X₁.warmed) with ⟨v, B, X', hpost, hsteps⟩ | ⟨q, B, X', hpost, hsteps⟩
  · exact Or.inl ⟨v, vm₁, B, X₁.warmed, X', hpost, fun target h => hstep₁ _ fun acts => by rw [doInvoke_state]; exact hsteps.trans h⟩
  · exact Or.inr ⟨q, vm₁, B, X₁.warmed, X', hpost, hstep₁ _ fun acts => by rw [doInvoke_state]; exact hsteps⟩
theorem vx_callSX (X : Stand p l e R s m args below meth c T locs cells slots) (hexec : p.tables.exec = Jvm.exec) {own : String} {index : Nat} {y : MethodName} {bytes : ByteArray} {maxL : Nat} {ret : Option FieldType} {hh : List (Nat × Nat × Nat × Nat)}
    (hown : s.vm.findClass own = some m.cls) (hlink : (Cond.methodLink own index y).before args s = true) (hstat : (Cond.static y).before args s = true) (hinit : (Cond.initialized y.cls).before args s = true)
    (hcode : (Cond.codeWith y bytes maxL ret hh).before args s = true) (hy : y.cls ≠ "java/lang/invoke/MethodHandle" ∧ y.cls ≠ "java/lang/invoke/VarHandle")
    {W9 : Nat} {Pre : Pt → Array Value → Prop} {Post : Pt → Array Value → Option Value → Pt → Prop} {PostX : Pt → Array Value → Addr → Pt → Prop} (hK : vx_Back l R p e below s args y 3 W9 Pre Post PostX)
    {g : JFrame} (hg : g.method = m) (hsize : g.locals.size = c.maxLocals) {argsL rest : List Value} (hlen : ∀ sig, parseMethodDescriptor y.desc = some sig → argsL.length = sig.parameters.length)
    (hstack : g.stack = argsL.reverse ++ rest) (hW : 2 * g.monitorRoom + (rest.map fun v => v.category).sum ≤ W9) (hdg : decode c.code g.pc = .ok (.invokestatic index, 3))
    (hpre : ∀ vm₁, s.WarmedH vm₁ → Pre ⟨T.setVm vm₁, locs, cells, slots⟩ argsL.toArray) :
    (∃ (v : Option Value) (vm₁ : Vm) (B : Pt), s.WarmedH vm₁ ∧ Stand p l e R s m args below meth c B.U B.locs B.cells B.slots ∧ Post ⟨T.setVm vm₁, locs, cells, slots⟩ argsL.toArray v B ∧
      ∀ target, Steps p.tables e below (B.U.setTop { g with pc := g.pc + 3, stack := v.toList ++ rest }) target → Steps p.tables e below (T.setTop g) target) ∨
    (∃ (q : Addr) (vm₁ : Vm) (B : Pt), s.WarmedH vm₁ ∧ Stand p l e R s m args below meth c B.U B.locs B.cells B.slots ∧ PostX ⟨T.setVm vm₁, locs, cells, slots⟩ argsL.toArray q B ∧
      Steps p.tables e below (T.setTop g) ((B.U.setTop { g with stack := rest }).pushFrame (.throwing q))) := by
  obtain ⟨mk, methM, cM, hnamed, hmethM, -, -, -, -, -, -, hsigM⟩ := Cond.codeWith_spec hcode
  have hstatic : methM.isStatic = true := Cond.static_spec hnamed hmethM hstat
  obtain ⟨kP, hkP, -⟩ := className_of_methodNamed hnamed
  have hinitP : kP.init = .initialized := Cond.initialized_spec (findClass_of_methodNamed hnamed) hkP hinit
  obtain ⟨vm₁, X₁, hstep₁⟩ := X.invokestatic hexec hown hlink hnamed hmethM hstatic hkP hinitP hy (g := g) hg (argsL := argsL) (rest := rest) (hlen _ hsigM) hstack hdg
  rcases hK m meth c ⟨T.setVm vm₁, locs, cells, slots⟩ { g with stack := rest } (.invokestatic index) mk argsL.toArray X₁ hg hsize hdg hW (X₁.named hnamed) (hpre vm₁ X₁.warmed) with ⟨v, B, X', hpost, hsteps⟩ | ⟨q, B, X', hpost, hsteps⟩
  · exact Or.inl ⟨v, vm₁, B, X₁.warmed, X', hpost, fun target h => hstep₁ _ fun acts => by rw [doInvoke_state]; exact hsteps.trans h⟩
  · exact Or.inr ⟨q, vm₁, B, X₁.warmed, X', hpost, hstep₁ _ fun acts => by rw [doInvoke_state]; exact hsteps⟩
theorem vx_callVW (X : Stand p l e R s m args below meth c T locs cells slots) (hexec : p.tables.exec = Jvm.exec) {own C : String} {index : Nat} {y : MethodName} {bytes : ByteArray} {maxL : Nat} {ret : Option FieldType} {hh : List (Nat × Nat × Nat × Nat)}
    (hown : s.vm.findClass own = some m.cls) (hlink : (Cond.methodLink own index y).before args s = true) (hinst : (Cond.instanceMethod y).before args s = true) (hsel : (Cond.selects C y y).before args s = true)
    (hcode : (Cond.codeWith y bytes maxL ret hh).before args s = true) (hy : y.cls ≠ "java/lang/invoke/MethodHandle" ∧ y.cls ≠ "java/lang/invoke/VarHandle")
    {W9 : Nat} {Pre : Pt → Array Value → Prop} {Post : Pt → Array Value → Option Value → Pt → Prop} (hK : Back l R p e below s args y 3 W9 Pre Post)
    {b : Addr} {cellB : Cell} (hcell : T.heap[b]? = some cellB) (hobj : cellB.vm.isStatics = false) (hcls : s.vm.findClass C = some cellB.cls)
    {g : JFrame} (hg : g.method = m) (hsize : g.locals.size = c.maxLocals) {argsL rest : List Value} (hlen : ∀ sig, parseMethodDescriptor y.desc = some sig → argsL.length = sig.parameters.length)
    (hstack : g.stack = argsL.reverse ++ .ref b :: rest) (hW : 2 * g.monitorRoom + (rest.map fun v => v.category).sum ≤ W9) (hdg : decode c.code g.pc = .ok (.invokevirtual index, 3))
    (hpre : ∀ vm₁, s.WarmedH vm₁ → Pre ⟨T.setVm vm₁, locs, cells, slots⟩ (Value.ref b :: argsL).toArray) :
    ∃ (v : Option Value) (vm₁ : Vm) (B : Pt), s.WarmedH vm₁ ∧ Stand p l e R s m args below meth c B.U B.locs B.cells B.slots ∧ Post ⟨T.setVm vm₁, locs, cells, slots⟩ (Value.ref b :: argsL).toArray v B ∧
      ∀ target, Steps p.tables e below (B.U.setTop { g with pc := g.pc + 3, stack := v.toList ++ rest }) target → Steps p.tables e below (T.setTop g) target := by
  obtain ⟨mk, methM, hnamed, hmethM, hstM, habM⟩ := Cond.instanceMethod_spec hinst
  obtain ⟨m8, methM', cM, hn8, hmethM', -, -, -, -, -, -, hsigM⟩ := Cond.codeWith_spec hcode
  cases Option.some.inj (hn8.symm.trans hnamed)
  cases hmethM.symm.trans hmethM'
  obtain ⟨c2, r2, m2, q1, q2, q3, q4, kP, hkP, hkPi⟩ := Cond.selects_spec hsel
  cases hcls.symm.trans q1
  cases (State.methodFound?_of_named hnamed hy).symm.trans q2
  cases hnamed.symm.trans q3
  have hselP : selectMethod e.platform s.vm cellB.cls mk = .method mk := by rw [Launch.admits_selectMethod X.admits]; exact q4
  obtain ⟨vm₁, X₁, hstep₁⟩ := X.invokevirtual hexec hown hlink hnamed hmethM hstM hkP hkPi hy (a := b) (cell := cellB) hcell
    (fun z h => by rw [h] at hobj; cases hobj) hselP hmethM habM hkP hkPi (g := g) hg (argsL := argsL) (rest := rest) (hlen _ hsigM) hstack hdg
  obtain ⟨v, B, X', hpost, hsteps⟩ := hK m meth c ⟨T.setVm vm₁, locs, cells, slots⟩ { g with stack := rest } (.invokevirtual index) mk (Value.ref b :: argsL).toArray X₁ hg hsize hdg hW (X₁.named hnamed) (hpre vm₁ X₁.warmed)
  exact ⟨v, vm₁, B, X₁.warmed, X', hpost, fun target h => hstep₁ _ fun acts => by rw [doInvoke_state]; exact hsteps.trans h⟩
abbrev vx_CVW (R : Room) (s : State) (args : Array Value) (own C : String) (index : Nat) (y : MethodName) (bytes : ByteArray) (maxL : Nat) (ret : Option FieldType) (hh : List (Nat × Nat × Nat × Nat)) (ws : List Cond) (rm : Room) (mc ms n : Nat) : Prop :=
  (rm.cells = mc ∧ rm.slots = ms ∧ rm.frames + 1 ≤ R.frames ∧ 8 + (maxL + 11) + rm.locals ≤ R.locals ∧ (∀ w ∈ ws, ∀ (a' : Array Value) (U : State), s.WarmedH U.vm → w.before a' U = true) ∧ Cond.codeWith y bytes maxL ret hh ∈ ws) ∧
  (Cond.codeWith y bytes maxL ret hh).before args s = true ∧ (Cond.initialized y.cls).before args s = true ∧ (y.cls ≠ "java/lang/invoke/MethodHandle" ∧ y.cls ≠ "java/lang/invoke/VarHandle") ∧
  (∀ sig, parseMethodDescriptor y.desc = some sig → n = sig.parameters.length) ∧ (Cond.methodLink own index y).before args s = true ∧ (Cond.instanceMethod y).before args s = true ∧ (Cond.selects C y y).before args s = true
theorem vx_cwVW {own C : String} {index maxL mc ms : Nat} {y : MethodName} {bytes : ByteArray} {ret : Option FieldType} {hh : List (Nat × Nat × Nat × Nat)} {Ts ws ws' : List Cond} {rm : Room} (n : Nat) (ht : ∀ w ∈ Ts, w.before args s = true) (hT : GoodIn Ts (wsV own index C y ws)) (hw : ws = Cond.codeWith y bytes maxL ret hh :: ws') (hrc : rm.cells = mc) (hrs : rm.slots = ms)
    (hd : y.cls = C ∧ y.cls ≠ "java/lang/invoke/MethodHandle" ∧ y.cls ≠ "java/lang/invoke/VarHandle" ∧ (parseMethodDescriptor y.desc).map (fun d => d.parameters.length) = some n) (hR : rm.frames + 1 ≤ R.frames ∧ 8 + (maxL + 11) + rm.locals ≤ R.locals) :
    vx_CVW R s args own C index y bytes maxL ret hh ws rm mc ms n := by
  obtain ⟨hC, hd⟩ := hd
  subst hC
  have ok : ∀ w ∈ wsV own index y.cls y ws, w.before args s = true := fun w h => ht w (hT w h).1
  have hG : GoodIn Ts ws := fun w h => hT w (by unfold wsV; exact List.mem_append_right _ h)
  have hc : Cond.codeWith y bytes maxL ret hh ∈ ws := by rw [hw]; exact List.mem_cons_self
  refine ⟨⟨hrc, hrs, hR.1, hR.2, pay_in ht hG, hc⟩, ht _ (hG _ hc).1, ok _ (by simp [wsV]), ⟨hd.1, hd.2.1⟩, fun sig h => ?_, ok _ (by simp [wsV]), ok _ (by simp [wsV]), ok _ (by simp [wsV])⟩
  have h2 := hd.2.2
  rw [h] at h2
  exact (Option.some.inj h2).symm
theorem vx_runVW {y : MethodName} {bytes cc : ByteArray} {maxL nL mc ms n index : Nat} {ret : Option FieldType} {hh : List (Nat × Nat × Nat × Nat)} {ws : List Cond} {rm : Room} {Pc : Array Value → State → Prop} {Qc : Array Value → State → Outcome → State → Prop} {free : Addr → Prop} {Ts : List Cond} {own C : String} {b : Addr} {As rest : List Value} {g : JFrame}
    (S : CallFix p m c cc nL s args Ts own) (hM : Met l y ws rm Pc Qc mc ms free) (cw : vx_CVW R s args own C index y bytes maxL ret hh ws rm mc ms n) (hp : PreV s H C b Pc As)
    (hg : g.method = m) (hn : As.length = n) (hsize : g.locals.size = nL) (hstack : g.stack = As.reverse ++ .ref b :: rest) (hW : 2 * g.monitorRoom + (rest.map fun v => v.category).sum ≤ 8) (hdg : decode cc g.pc = .ok (.invokevirtual index, 3)) (hf : cells + mc ≤ R.cells ∧ slots + ms ≤ R.slots) :
    va_Run p l e R s m args below meth c H locs cells slots mc ms g rest (Qc (Value.ref b :: As).toArray) free := by
  obtain ⟨⟨hrc, hrs, hfr, hlo, hws, hcw⟩, hcode, hini, hy, hlen, hl, hin, hse⟩ := cw
  have hK : Back l R p e below s args y 3 8 (PreOf R mc ms Pc) (PostOf Qc mc ms free) := va_backW (hh := hh) (bytes := bytes) (maxL := maxL) (ret := ret) hM hp.1 hrc hrs hfr hlo hws hcw (fun a' U hW => word_at hW (Or.inl (by first | rfl | simp [Cond.onTables, Cond.keeps, Cond.steady])) hini)
  obtain ⟨hx, hb, hml, ho, -⟩ := S
  obtain ⟨-, ⟨cellB, hcB, hoB, hclB⟩, hPc⟩ := hp
  intro T hT X
  obtain ⟨v, vm₁, ⟨U', l2, c2, s2⟩, hW₁, X', ⟨g', mk, t, L, e1, e2, hq, h1, hL, h2, h3⟩, st⟩ := vx_callVW X hx (C := C) (hh := hh) (bytes := bytes) (maxL := maxL) (ret := ret) ho hl hin hse hcode hy hK (by rw [hT]; exact hcB) hoB hclB hg (hsize.trans hml.symm) (argsL := As) (rest := rest) (fun sig h => hn.trans (hlen sig h)) hstack hW (by rw [hb]; exact hdg)
    (fun vm₁ hW₁ => ⟨hf.1, hf.2, hPc (T.setVm vm₁) hT hW₁⟩)
  dsimp only [Pt.U, Pt.locs, Pt.cells, Pt.slots] at X' e1 e2 h1 h2 h3 st
  subst h1; subst h2; subst h3
  exact ⟨v, (T.setVm vm₁).calling g' mk (Value.ref b :: As).toArray, t, U', L, hT, X', hL, e1, e2, hq, st⟩
section
variable {y : MethodName} {bytes cc : ByteArray} {maxL nL mc ms n index : Nat} {ret : Option FieldType} {ws : List Cond} {rm : Room} {Pc : Array Value → State → Prop} {Qc : Array Value → State → Outcome → State → Prop} {XC : String → State → State → Prop} {free : Addr → Prop} {Ts : List Cond} {own C : String} {b : Addr} {As rest : List Value} {g : JFrame}
theorem vx_runVX {hh : List (Nat × Nat × Nat × Nat)} (S : CallFix p m c cc nL s args Ts own) (hM : vx_Met l y ws rm Pc Qc XC mc ms free) (cw : vx_CVW R s args own C index y bytes maxL ret hh ws rm mc ms n) (hp : PreV s H C b Pc As)
    (hg : g.method = m) (hn : As.length = n) (hsize : g.locals.size = nL) (hstack : g.stack = As.reverse ++ .ref b :: rest) (hW : 2 * g.monitorRoom + (rest.map fun v => v.category).sum ≤ 8) (hdg : decode cc g.pc = .ok (.invokevirtual index, 3)) (hf : cells + mc ≤ R.cells ∧ slots + ms ≤ R.slots) :
    vx_Run p l e R s m args below meth c H locs cells slots mc ms g rest (Qc (Value.ref b :: As).toArray) XC free := by
  obtain ⟨⟨hrc, hrs, hfr, hlo, hws, hcw⟩, hcode, hini, hy, hlen, hl, hin, hse⟩ := cw
  have hK : vx_Back l R p e below s args y 3 8 (PreOf R mc ms Pc) (PostOf Qc mc ms free) (vx_Post XC mc ms free) := vx_backW (hh := hh) (bytes := bytes) (maxL := maxL) (ret := ret) hM hp.1 hrc hrs hfr hlo hws hcw (fun a' U hW => word_at hW (Or.inl (by first | rfl | simp [Cond.onTables, Cond.keeps, Cond.steady])) hini)
  obtain ⟨hx, hb, hml, ho, -⟩ := S
  obtain ⟨-, ⟨cellB, hcB, hoB, hclB⟩, hPc⟩ := hp
  intro T hT X
  rcases vx_callVX X hx (C := C) (hh := hh) (bytes := bytes) (maxL := maxL) (ret := ret) ho hl hin hse hcode hy hK (by rw [hT]; exact hcB) hoB hclB hg (hsize.trans hml.symm) (argsL := As) (rest := rest) (fun sig h => hn.trans (hlen sig h)) hstack hW (by rw [hb]; exact hdg)
    (fun vm₁ hW₁ => ⟨hf.1, hf.2, hPc (T.setVm vm₁) hT hW₁⟩) with ⟨v, vm₁, ⟨U', l2, c2, s2⟩, hW₁, X', ⟨g', mk, t, L, e1, e2, hq, h1, hL, h2, h3⟩, st⟩ | ⟨q, vm₁, ⟨U', l2, c2, s2⟩, hW₁, X', ⟨g', mk, t, L, E, ce, e1, e2, hq, hce, hcv, hcl, h1, hL, h2, h3⟩, st⟩
  · dsimp only [Pt.U, Pt.locs, Pt.cells, Pt.slots] at X' e1 e2 h1 h2 h3 st
    subst h1; subst h2; subst h3
    exact Or.inl ⟨v, (T.setVm vm₁).calling g' mk (Value.ref b :: As).toArray, t, U', L, hT, X', hL, e1, e2, hq, st⟩
  · dsimp only [Pt.U, Pt.locs, Pt.cells, Pt.slots] at X' e1 e2 h1 h2 h3 st hcl
    subst h1; subst h2; subst h3
    exact Or.inr ⟨q, (T.setVm vm₁).calling g' mk (Value.ref b :: As).toArray, t, U', L, E, ce, hT, X', hL, e1, e2, hq, hce, hcv, vx_cls hW₁ hcl, st⟩
theorem vx_runSX {hh : List (Nat × Nat × Nat × Nat)} (S : CallFix p m c cc nL s args Ts own) (hM : vx_Met l y ws rm Pc Qc XC mc ms free) (cw : vx_CSW R s args own index y bytes maxL ret hh ws rm mc ms n) (hp : PreS s H Pc As)
    (hg : g.method = m) (hn : As.length = n) (hsize : g.locals.size = nL) (hstack : g.stack = As.reverse ++ rest) (hW : 2 * g.monitorRoom + (rest.map fun v => v.category).sum ≤ 8) (hdg : decode cc g.pc = .ok (.invokestatic index, 3)) (hf : cells + mc ≤ R.cells ∧ slots + ms ≤ R.slots) :
    vx_Run p l e R s m args below meth c H locs cells slots mc ms g rest (Qc As.toArray) XC free := by
  obtain ⟨⟨hrc, hrs, hfr, hlo, hws, hcw⟩, hcode, hini, hy, hlen, hl, hstt⟩ := cw
  have hK : vx_Back l R p e below s args y 3 8 (PreOf R mc ms Pc) (PostOf Qc mc ms free) (vx_Post XC mc ms free) := vx_backW (hh := hh) (bytes := bytes) (maxL := maxL) (ret := ret) hM hp.1 hrc hrs hfr hlo hws hcw (fun a' U hW => word_at hW (Or.inl (by first | rfl | simp [Cond.onTables, Cond.keeps, Cond.steady])) hini)
  obtain ⟨hx, hb, hml, ho, -⟩ := S
  intro T hT X
  rcases vx_callSX X hx (hh := hh) (bytes := bytes) (maxL := maxL) (ret := ret) ho hl hstt hini hcode hy hK hg (hsize.trans hml.symm) (argsL := As) (rest := rest) (fun sig h => hn.trans (hlen sig h)) hstack hW (by rw [hb]; exact hdg)
    (fun vm₁ hW₁ => ⟨hf.1, hf.2, hp.2 (T.setVm vm₁) hT hW₁⟩) with ⟨v, vm₁, ⟨U', l2, c2, s2⟩, hW₁, X', ⟨g', mk, t, L, e1, e2, hq, h1, hL, h2, h3⟩, st⟩ | ⟨q, vm₁, ⟨U', l2, c2, s2⟩, hW₁, X', ⟨g', mk, t, L, E, ce, e1, e2, hq, hce, hcv, hcl, h1, hL, h2, h3⟩, st⟩
  · dsimp only [Pt.U, Pt.locs, Pt.cells, Pt.slots] at X' e1 e2 h1 h2 h3 st
    subst h1; subst h2; subst h3
    exact Or.inl ⟨v, (T.setVm vm₁).calling g' mk As.toArray, t, U', L, hT, X', hL, e1, e2, hq, st⟩
  · dsimp only [Pt.U, Pt.locs, Pt.cells, Pt.slots] at X' e1 e2 h1 h2 h3 st hcl
    subst h1; subst h2; subst h3
    exact Or.inr ⟨q, (T.setVm vm₁).calling g' mk As.toArray, t, U', L, E, ce, hT, X', hL, e1, e2, hq, hce, hcv, vx_cls hW₁ hcl, st⟩
end
end VXH
theorem vx_ofWH {l : Launch} {y : MethodName} {ws ws' : List Cond} {rm : Room} {Pc : Array Value → State → Prop} {Qc : Array Value → State → Outcome → State → Prop} {XC : String → State → State → Prop} {mc ms : Nat} {free : Addr → Prop} {cc : ByteArray} {maxL : Nat} {ret : Option FieldType} {hh : List (Nat × Nat × Nat × Nat)}
    (hy : plainName y.cls = true) (hw : ws = Cond.codeWith y cc maxL ret hh :: ws')
    (body : ∀ p e s m args below meth c s₁, BodyLoose p l y (headSpec ws rm) cc maxL ret e s m args below meth c s₁ → c.maxLocals = maxL → Pc args s →
      W p l e (headSpec ws rm).room s m args below meth c s.heap [] 0 0 (vx_MQ below Qc XC args s mc ms free) (entryFrame m args maxL)) : vx_Met l y ws rm Pc Qc XC mc ms free := by
  refine MetFree.of_bodyS (code := cc) (maxLocals := maxL) (ret := ret) hy ?_ ?_
  · intro args s m h hn
    obtain ⟨m9, meth, c, hn9, h1, h2, h3, h4, -, h5, h6, -⟩ := Cond.codeWith_spec (atoms_spec (ws := ws) h _ (by rw [hw]; exact List.mem_cons_self))
    cases hn.symm.trans hn9
    exact ⟨meth, c, h1, h2, h3, h4, h5, h6⟩
  · intro p e s m args below meth c s₁ B hml hP _
    have hh0 : s₁.heap = s.heap := by rw [B.state]; rfl
    obtain ⟨t, a1, o, b1, b2, b3⟩ := body p e s m args below meth c s₁ B hml hP s₁ hh0 (Stand.of_body B)
    exact ⟨t, o, a1, b1, b2, b3⟩
/-! ===== END ===== -/
end
section
def RX0 : String := "FretSchool$Hand"
def TX0 : u_T := fun k => match k with
  | 0 => ("FretSchool$Hand", "reach", "[I", true)
  | 1 => ("FretSchool$Hand", "rest", "[[I", true)
  | 2 => ("FretSchool$Hand", "row", "[I", true)
  | 3 => ("FretSchool$Hand", "sum", "I", false)
  | _ => ("FretSchool$Hand", "greatest", "I", false)
def tyX0 : Nat → FieldType := fun k => match k with
  | 0 => .array .int
  | 1 => .array (.array .int)
  | 2 => .array .int
  | 3 => .int
  | _ => .int
abbrev wsX00 : List Cond := u_ws RX0 TX0 5
theorem nmX0 : ∀ a, a < 5 → ∀ b, b < 5 → a ≠ b → (TX0 a).2.1 ≠ (TX0 b).2.1 := by decide +kernel
theorem tyX0_ok : ∀ k, k < 5 → parseFieldDescriptor (TX0 k).2.2.1 = some (tyX0 k) := by decide +kernel
abbrev cX0_init : ByteArray := prog_2_method_1_code
def yX0_init : MethodName := ⟨RX0, "<init>", "()V"⟩
abbrev cX0_placeBest : ByteArray := prog_2_method_2_code
def yX0_placeBest : MethodName := ⟨RX0, "placeBest", "(LFretSchool$Piece;LFretSchool$Instrument;)Z"⟩
abbrev cX0_leastByAll : ByteArray := prog_2_method_3_code
def yX0_leastByAll : MethodName := ⟨RX0, "leastByAll", "(LFretSchool$Piece;LFretSchool$Instrument;)I"⟩
abbrev cX0_feelReach : ByteArray := prog_2_method_4_code
def yX0_feelReach : MethodName := ⟨RX0, "feelReach", "(LFretSchool$Piece;LFretSchool$Instrument;)V"⟩
abbrev cX0_measureRest : ByteArray := prog_2_method_5_code
def yX0_measureRest : MethodName := ⟨RX0, "measureRest", "(IZ)V"⟩
abbrev cX0_chooseRow : ByteArray := prog_2_method_6_code
def yX0_chooseRow : MethodName := ⟨RX0, "chooseRow", "(I)Z"⟩
abbrev cX0_nearest : ByteArray := prog_2_method_7_code
def yX0_nearest : MethodName := ⟨RX0, "nearest", "(II)I"⟩
abbrev cX0_leastFrom : ByteArray := prog_2_method_8_code
def yX0_leastFrom : MethodName := ⟨RX0, "leastFrom", "([IIII)I"⟩
abbrev cX0_canReach : ByteArray := prog_2_method_9_code
def yX0_canReach : MethodName := ⟨RX0, "canReach", "(II)Z"⟩
abbrev cX0_shift : ByteArray := prog_2_method_10_code
def yX0_shift : MethodName := ⟨RX0, "shift", "(II)I"⟩
def RX1 : String := "FretSchool$Instrument"
def TX1 : u_T := fun k => match k with
  | 0 => ("FretSchool$Instrument", "open", "[I", true)
  | 1 => ("FretSchool$Instrument", "keeper", "I", false)
  | _ => ("FretSchool$Instrument", "fretCount", "I", false)
def tyX1 : Nat → FieldType := fun k => match k with
  | 0 => .array .int
  | 1 => .int
  | _ => .int
abbrev wsX10 : List Cond := u_ws RX1 TX1 3
theorem nmX1 : ∀ a, a < 3 → ∀ b, b < 3 → a ≠ b → (TX1 a).2.1 ≠ (TX1 b).2.1 := by decide +kernel
theorem tyX1_ok : ∀ k, k < 3 → parseFieldDescriptor (TX1 k).2.2.1 = some (tyX1 k) := by decide +kernel
abbrev cX1_init : ByteArray := prog_3_method_1_code
def yX1_init : MethodName := ⟨RX1, "<init>", "()V"⟩
abbrev cX1_build : ByteArray := prog_3_method_2_code
def yX1_build : MethodName := ⟨RX1, "build", "(II)V"⟩
abbrev cX1_tuneAll : ByteArray := prog_3_method_3_code
def yX1_tuneAll : MethodName := ⟨RX1, "tuneAll", "(IIII)V"⟩
abbrev cX1_highestPosition : ByteArray := prog_3_method_4_code
def yX1_highestPosition : MethodName := ⟨RX1, "highestPosition", "()I"⟩
abbrev cX1_lowestString : ByteArray := prog_3_method_5_code
def yX1_lowestString : MethodName := ⟨RX1, "lowestString", "(II)I"⟩
def RX2 : String := "FretSchool$Order"
def TX2 : u_T := fun k => match k with
  | 0 => ("FretSchool$Order", "buyer", "I", false)
  | 1 => ("FretSchool$Order", "fretCount", "I", false)
  | 2 => ("FretSchool$Order", "readyDay", "I", false)
  | _ => ("FretSchool$Order", "isFetched", "Z", false)
def tyX2 : Nat → FieldType := fun k => match k with
  | 0 => .int
  | 1 => .int
  | 2 => .int
  | _ => .boolean
abbrev wsX20 : List Cond := u_ws RX2 TX2 4
theorem nmX2 : ∀ a, a < 4 → ∀ b, b < 4 → a ≠ b → (TX2 a).2.1 ≠ (TX2 b).2.1 := by decide +kernel
theorem tyX2_ok : ∀ k, k < 4 → parseFieldDescriptor (TX2 k).2.2.1 = some (tyX2 k) := by decide +kernel
abbrev cX2_init : ByteArray := prog_4_method_1_code
def yX2_init : MethodName := ⟨RX2, "<init>", "()V"⟩
abbrev cX2_place : ByteArray := prog_4_method_2_code
def yX2_place : MethodName := ⟨RX2, "place", "(III)V"⟩
abbrev cX2_isReady : ByteArray := prog_4_method_3_code
def yX2_isReady : MethodName := ⟨RX2, "isReady", "(I)Z"⟩
def RX3 : String := "FretSchool$Piece"
def TX3 : u_T := fun k => match k with
  | 0 => ("FretSchool$Piece", "pitches", "[I", true)
  | _ => ("FretSchool$Piece", "count", "I", false)
def tyX3 : Nat → FieldType := fun k => match k with
  | 0 => .array .int
  | _ => .int
abbrev wsX30 : List Cond := u_ws RX3 TX3 2
theorem nmX3 : ∀ a, a < 2 → ∀ b, b < 2 → a ≠ b → (TX3 a).2.1 ≠ (TX3 b).2.1 := by decide +kernel
theorem tyX3_ok : ∀ k, k < 2 → parseFieldDescriptor (TX3 k).2.2.1 = some (tyX3 k) := by decide +kernel
abbrev cX3_init : ByteArray := prog_5_method_1_code
def yX3_init : MethodName := ⟨RX3, "<init>", "()V"⟩
abbrev cX3_isFull : ByteArray := prog_5_method_2_code
def yX3_isFull : MethodName := ⟨RX3, "isFull", "()Z"⟩
abbrev cX3_append : ByteArray := prog_5_method_3_code
def yX3_append : MethodName := ⟨RX3, "append", "(I)V"⟩
abbrev cX3_canMove : ByteArray := prog_5_method_4_code
def yX3_canMove : MethodName := ⟨RX3, "canMove", "(I)Z"⟩
abbrev cX3_move : ByteArray := prog_5_method_5_code
def yX3_move : MethodName := ⟨RX3, "move", "(I)V"⟩
def RX4 : String := "FretSchool$Pupil"
def TX4 : u_T := fun k => match k with
  | 0 => ("FretSchool$Pupil", "grade", "I", false)
  | _ => ("FretSchool$Pupil", "repertoire", "I", false)
def tyX4 : Nat → FieldType := fun k => match k with
  | 0 => .int
  | _ => .int
abbrev wsX40 : List Cond := u_ws RX4 TX4 2
theorem nmX4 : ∀ a, a < 2 → ∀ b, b < 2 → a ≠ b → (TX4 a).2.1 ≠ (TX4 b).2.1 := by decide +kernel
theorem tyX4_ok : ∀ k, k < 2 → parseFieldDescriptor (TX4 k).2.2.1 = some (tyX4 k) := by decide +kernel
abbrev cX4_init : ByteArray := prog_6_method_1_code
def yX4_init : MethodName := ⟨RX4, "<init>", "()V"⟩
abbrev cX4_knows : ByteArray := prog_6_method_2_code
def yX4_knows : MethodName := ⟨RX4, "knows", "(I)Z"⟩
abbrev cX4_takeIn : ByteArray := prog_6_method_3_code
def yX4_takeIn : MethodName := ⟨RX4, "takeIn", "(II)V"⟩
def RX5 : String := "FretSchool"
def TX5 : u_T := fun k => match k with
  | 0 => ("FretSchool", "pieces", "[LFretSchool$Piece;", true)
  | 1 => ("FretSchool", "builds", "[LFretSchool$Instrument;", true)
  | 2 => ("FretSchool", "pupils", "[LFretSchool$Pupil;", true)
  | 3 => ("FretSchool", "orders", "[LFretSchool$Order;", true)
  | 4 => ("FretSchool", "stock", "[I", true)
  | 5 => ("FretSchool", "hand", "LFretSchool$Hand;", true)
  | 6 => ("FretSchool", "pieceCount", "I", false)
  | 7 => ("FretSchool", "buildCount", "I", false)
  | 8 => ("FretSchool", "orderCount", "I", false)
  | _ => ("FretSchool", "day", "I", false)
def tyX5 : Nat → FieldType := fun k => match k with
  | 0 => .array (.object "FretSchool$Piece")
  | 1 => .array (.object "FretSchool$Instrument")
  | 2 => .array (.object "FretSchool$Pupil")
  | 3 => .array (.object "FretSchool$Order")
  | 4 => .array .int
  | 5 => .object "FretSchool$Hand"
  | 6 => .int
  | 7 => .int
  | 8 => .int
  | _ => .int
abbrev wsX50 : List Cond := u_ws RX5 TX5 10
theorem nmX5 : ∀ a, a < 10 → ∀ b, b < 10 → a ≠ b → (TX5 a).2.1 ≠ (TX5 b).2.1 := by decide +kernel
theorem tyX5_ok : ∀ k, k < 10 → parseFieldDescriptor (TX5 k).2.2.1 = some (tyX5 k) := by decide +kernel
abbrev cX5_init : ByteArray := prog_1_method_1_code
def yX5_init : MethodName := ⟨RX5, "<init>", "()V"⟩
abbrev cX5_begin : ByteArray := prog_1_method_2_code
def yX5_begin : MethodName := ⟨RX5, "begin", "()I"⟩
abbrev cX5_addNote : ByteArray := prog_1_method_3_code
def yX5_addNote : MethodName := ⟨RX5, "addNote", "(II)I"⟩
abbrev cX5_transpose : ByteArray := prog_1_method_4_code
def yX5_transpose : MethodName := ⟨RX5, "transpose", "(II)V"⟩
abbrev cX5_pitch : ByteArray := prog_1_method_5_code
def yX5_pitch : MethodName := ⟨RX5, "pitch", "(II)I"⟩
abbrev cX5_tune : ByteArray := prog_1_method_6_code
def yX5_tune : MethodName := ⟨RX5, "tune", "(III)I"⟩
abbrev cX5_owner : ByteArray := prog_1_method_7_code
def yX5_owner : MethodName := ⟨RX5, "owner", "(I)I"⟩
abbrev cX5_instruments : ByteArray := prog_1_method_8_code
def yX5_instruments : MethodName := ⟨RX5, "instruments", "()I"⟩
abbrev cX5_shifts : ByteArray := prog_1_method_9_code
def yX5_shifts : MethodName := ⟨RX5, "shifts", "(II)I"⟩
abbrev cX5_shiftsByAll : ByteArray := prog_1_method_10_code
def yX5_shiftsByAll : MethodName := ⟨RX5, "shiftsByAll", "(II)I"⟩
abbrev cX5_hardest : ByteArray := prog_1_method_11_code
def yX5_hardest : MethodName := ⟨RX5, "hardest", "(II)I"⟩
abbrev cX5_position : ByteArray := prog_1_method_12_code
def yX5_position : MethodName := ⟨RX5, "position", "(III)I"⟩
abbrev cX5_string : ByteArray := prog_1_method_13_code
def yX5_string : MethodName := ⟨RX5, "string", "(III)I"⟩
abbrev cX5_learn : ByteArray := prog_1_method_14_code
def yX5_learn : MethodName := ⟨RX5, "learn", "(III)I"⟩
abbrev cX5_level : ByteArray := prog_1_method_15_code
def yX5_level : MethodName := ⟨RX5, "level", "(I)I"⟩
abbrev cX5_known : ByteArray := prog_1_method_16_code
def yX5_known : MethodName := ⟨RX5, "known", "(I)I"⟩
abbrev cX5_next : ByteArray := prog_1_method_17_code
def yX5_next : MethodName := ⟨RX5, "next", "(I)I"⟩
abbrev cX5_addWood : ByteArray := prog_1_method_18_code
def yX5_addWood : MethodName := ⟨RX5, "addWood", "(II)I"⟩
abbrev cX5_order : ByteArray := prog_1_method_19_code
def yX5_order : MethodName := ⟨RX5, "order", "(III)I"⟩
abbrev cX5_ready : ByteArray := prog_1_method_20_code
def yX5_ready : MethodName := ⟨RX5, "ready", "(I)I"⟩
abbrev cX5_fetch : ByteArray := prog_1_method_21_code
def yX5_fetch : MethodName := ⟨RX5, "fetch", "(IIIII)I"⟩
abbrev cX5_pass : ByteArray := prog_1_method_22_code
def yX5_pass : MethodName := ⟨RX5, "pass", "(I)I"⟩
abbrev cX5_today : ByteArray := prog_1_method_23_code
def yX5_today : MethodName := ⟨RX5, "today", "()I"⟩
abbrev cX5_needPiece : ByteArray := prog_1_method_24_code
def yX5_needPiece : MethodName := ⟨RX5, "needPiece", "(I)V"⟩
abbrev cX5_needNote : ByteArray := prog_1_method_25_code
def yX5_needNote : MethodName := ⟨RX5, "needNote", "(II)V"⟩
abbrev cX5_needInstrument : ByteArray := prog_1_method_26_code
def yX5_needInstrument : MethodName := ⟨RX5, "needInstrument", "(I)V"⟩
abbrev cX5_needOrder : ByteArray := prog_1_method_27_code
def yX5_needOrder : MethodName := ⟨RX5, "needOrder", "(I)V"⟩
abbrev cX5_needPupil : ByteArray := prog_1_method_28_code
def yX5_needPupil : MethodName := ⟨RX5, "needPupil", "(I)V"⟩
abbrev cX5_needRange : ByteArray := prog_1_method_29_code
def yX5_needRange : MethodName := ⟨RX5, "needRange", "(III)V"⟩
abbrev cX5_findBest : ByteArray := prog_1_method_30_code
def yX5_findBest : MethodName := ⟨RX5, "findBest", "(II)Z"⟩
abbrev cX5_learnableShift : ByteArray := prog_1_method_31_code
def yX5_learnableShift : MethodName := ⟨RX5, "learnableShift", "(III)I"⟩
abbrev cX5_easiestShift : ByteArray := prog_1_method_32_code
def yX5_easiestShift : MethodName := ⟨RX5, "easiestShift", "(II)I"⟩
abbrev cX5_ordersAtWork : ByteArray := prog_1_method_33_code
def yX5_ordersAtWork : MethodName := ⟨RX5, "ordersAtWork", "()I"⟩
def RX6 : String := "FretSchoolModel"
def TX6 : u_T := fun k => match k with
  | 0 => ("FretSchoolModel", "today", "I", false)
  | 1 => ("FretSchoolModel", "pieces", "I", false)
  | 2 => ("FretSchoolModel", "many", "[I", true)
  | 3 => ("FretSchoolModel", "pitch", "[I", true)
  | 4 => ("FretSchoolModel", "instruments", "I", false)
  | 5 => ("FretSchoolModel", "owner", "[I", true)
  | 6 => ("FretSchoolModel", "frets", "[I", true)
  | 7 => ("FretSchoolModel", "open", "[I", true)
  | 8 => ("FretSchoolModel", "level", "[I", true)
  | 9 => ("FretSchoolModel", "known", "[I", true)
  | 10 => ("FretSchoolModel", "stock", "[I", true)
  | 11 => ("FretSchoolModel", "orders", "I", false)
  | 12 => ("FretSchoolModel", "buyer", "[I", true)
  | 13 => ("FretSchoolModel", "ordered", "[I", true)
  | 14 => ("FretSchoolModel", "readyOn", "[I", true)
  | 15 => ("FretSchoolModel", "fetched", "[Z", true)
  | 16 => ("FretSchoolModel", "least", "[I", true)
  | 17 => ("FretSchoolModel", "best", "[I", true)
  | _ => ("FretSchoolModel", "thrown", "I", false)
def tyX6 : Nat → FieldType := fun k => match k with
  | 0 => .int
  | 1 => .int
  | 2 => .array .int
  | 3 => .array .int
  | 4 => .int
  | 5 => .array .int
  | 6 => .array .int
  | 7 => .array .int
  | 8 => .array .int
  | 9 => .array .int
  | 10 => .array .int
  | 11 => .int
  | 12 => .array .int
  | 13 => .array .int
  | 14 => .array .int
  | 15 => .array .boolean
  | 16 => .array .int
  | 17 => .array .int
  | _ => .int
abbrev wsX60 : List Cond := u_ws RX6 TX6 19
theorem nmX6 : ∀ a, a < 19 → ∀ b, b < 19 → a ≠ b → (TX6 a).2.1 ≠ (TX6 b).2.1 := by decide +kernel
theorem tyX6_ok : ∀ k, k < 19 → parseFieldDescriptor (TX6 k).2.2.1 = some (tyX6 k) := by decide +kernel
abbrev cX6_init : ByteArray := prog_8_method_1_code
def yX6_init : MethodName := ⟨RX6, "<init>", "()V"⟩
abbrev cX6_thrown : ByteArray := prog_8_method_2_code
def yX6_thrown : MethodName := ⟨RX6, "thrown", "()I"⟩
abbrev cX6_in : ByteArray := prog_8_method_3_code
def yX6_in : MethodName := ⟨RX6, "in", "(III)Z"⟩
abbrev cX6_goes : ByteArray := prog_8_method_4_code
def yX6_goes : MethodName := ⟨RX6, "goes", "(ZZZ)Z"⟩
abbrev cX6_told : ByteArray := prog_8_method_5_code
def yX6_told : MethodName := ⟨RX6, "told", "(I)I"⟩
abbrev cX6_isPiece : ByteArray := prog_8_method_6_code
def yX6_isPiece : MethodName := ⟨RX6, "isPiece", "(I)Z"⟩
abbrev cX6_isNote : ByteArray := prog_8_method_7_code
def yX6_isNote : MethodName := ⟨RX6, "isNote", "(II)Z"⟩
abbrev cX6_isInstrument : ByteArray := prog_8_method_8_code
def yX6_isInstrument : MethodName := ⟨RX6, "isInstrument", "(I)Z"⟩
abbrev cX6_isOrder : ByteArray := prog_8_method_9_code
def yX6_isOrder : MethodName := ⟨RX6, "isOrder", "(I)Z"⟩
abbrev cX6_isPupil : ByteArray := prog_8_method_10_code
def yX6_isPupil : MethodName := ⟨RX6, "isPupil", "(I)Z"⟩
abbrev cX6_begin : ByteArray := prog_8_method_11_code
def yX6_begin : MethodName := ⟨RX6, "begin", "()I"⟩
abbrev cX6_addNote : ByteArray := prog_8_method_12_code
def yX6_addNote : MethodName := ⟨RX6, "addNote", "(II)I"⟩
abbrev cX6_transpose : ByteArray := prog_8_method_13_code
def yX6_transpose : MethodName := ⟨RX6, "transpose", "(II)V"⟩
abbrev cX6_pitch : ByteArray := prog_8_method_14_code
def yX6_pitch : MethodName := ⟨RX6, "pitch", "(II)I"⟩
abbrev cX6_tune : ByteArray := prog_8_method_15_code
def yX6_tune : MethodName := ⟨RX6, "tune", "(III)I"⟩
abbrev cX6_owner : ByteArray := prog_8_method_16_code
def yX6_owner : MethodName := ⟨RX6, "owner", "(I)I"⟩
abbrev cX6_instruments : ByteArray := prog_8_method_17_code
def yX6_instruments : MethodName := ⟨RX6, "instruments", "()I"⟩
abbrev cX6_lies : ByteArray := prog_8_method_18_code
def yX6_lies : MethodName := ⟨RX6, "lies", "(IIIII)Z"⟩
abbrev cX6_plays : ByteArray := prog_8_method_19_code
def yX6_plays : MethodName := ⟨RX6, "plays", "(IIII)Z"⟩
abbrev cX6_apart : ByteArray := prog_8_method_20_code
def yX6_apart : MethodName := ⟨RX6, "apart", "(II)I"⟩
abbrev cX6_from : ByteArray := prog_8_method_21_code
def yX6_from : MethodName := ⟨RX6, "from", "(IIII)I"⟩
abbrev cX6_finds : ByteArray := prog_8_method_22_code
def yX6_finds : MethodName := ⟨RX6, "finds", "(II)I"⟩
abbrev cX6_asks : ByteArray := prog_8_method_23_code
def yX6_asks : MethodName := ⟨RX6, "asks", "(II)Z"⟩
abbrev cX6_shifts : ByteArray := prog_8_method_24_code
def yX6_shifts : MethodName := ⟨RX6, "shifts", "(II)I"⟩
abbrev cX6_shiftsByAll : ByteArray := prog_8_method_25_code
def yX6_shiftsByAll : MethodName := ⟨RX6, "shiftsByAll", "(II)I"⟩
abbrev cX6_hardestOf : ByteArray := prog_8_method_26_code
def yX6_hardestOf : MethodName := ⟨RX6, "hardestOf", "(II)I"⟩
abbrev cX6_hardest : ByteArray := prog_8_method_27_code
def yX6_hardest : MethodName := ⟨RX6, "hardest", "(II)I"⟩
abbrev cX6_asksNote : ByteArray := prog_8_method_28_code
def yX6_asksNote : MethodName := ⟨RX6, "asksNote", "(III)Z"⟩
abbrev cX6_position : ByteArray := prog_8_method_29_code
def yX6_position : MethodName := ⟨RX6, "position", "(III)I"⟩
abbrev cX6_string : ByteArray := prog_8_method_30_code
def yX6_string : MethodName := ⟨RX6, "string", "(III)I"⟩
abbrev cX6_isKnown : ByteArray := prog_8_method_31_code
def yX6_isKnown : MethodName := ⟨RX6, "isKnown", "(II)Z"⟩
abbrev cX6_canLearn : ByteArray := prog_8_method_32_code
def yX6_canLearn : MethodName := ⟨RX6, "canLearn", "(III)Z"⟩
abbrev cX6_learn : ByteArray := prog_8_method_33_code
def yX6_learn : MethodName := ⟨RX6, "learn", "(III)I"⟩
abbrev cX6_level : ByteArray := prog_8_method_34_code
def yX6_level : MethodName := ⟨RX6, "level", "(I)I"⟩
abbrev cX6_known : ByteArray := prog_8_method_35_code
def yX6_known : MethodName := ⟨RX6, "known", "(I)I"⟩
abbrev cX6_next : ByteArray := prog_8_method_36_code
def yX6_next : MethodName := ⟨RX6, "next", "(I)I"⟩
abbrev cX6_addWood : ByteArray := prog_8_method_37_code
def yX6_addWood : MethodName := ⟨RX6, "addWood", "(II)I"⟩
abbrev cX6_atWork : ByteArray := prog_8_method_38_code
def yX6_atWork : MethodName := ⟨RX6, "atWork", "()I"⟩
abbrev cX6_order : ByteArray := prog_8_method_39_code
def yX6_order : MethodName := ⟨RX6, "order", "(III)I"⟩
abbrev cX6_ready : ByteArray := prog_8_method_40_code
def yX6_ready : MethodName := ⟨RX6, "ready", "(I)I"⟩
abbrev cX6_isOpen : ByteArray := prog_8_method_41_code
def yX6_isOpen : MethodName := ⟨RX6, "isOpen", "(I)Z"⟩
abbrev cX6_fetch : ByteArray := prog_8_method_42_code
def yX6_fetch : MethodName := ⟨RX6, "fetch", "(IIIII)I"⟩
abbrev cX6_pass : ByteArray := prog_8_method_43_code
def yX6_pass : MethodName := ⟨RX6, "pass", "(I)I"⟩
abbrev cX6_today : ByteArray := prog_8_method_44_code
def yX6_today : MethodName := ⟨RX6, "today", "()I"⟩
def RJ9 : String := "java/lang/Math"
def TJ9 : u_T := fun k => match k with
  | _ => ("", "", "", false)
def tyJ9 : Nat → FieldType := fun k => match k with
  | _ => .int
abbrev wsJ90 : List Cond := u_ws RJ9 TJ9 0
theorem nmJ9 : ∀ a, a < 0 → ∀ b, b < 0 → a ≠ b → (TJ9 a).2.1 ≠ (TJ9 b).2.1 := by decide +kernel
theorem tyJ9_ok : ∀ k, k < 0 → parseFieldDescriptor (TJ9 k).2.2.1 = some (tyJ9 k) := by decide +kernel
abbrev cJ9_abs_0f7a4 : ByteArray := prog_13_method_59_code
def yJ9_abs_0f7a4 : MethodName := ⟨RJ9, "abs", "(I)I"⟩
def RJ0 : String := "java/lang/String"
def TJ0 : u_T := fun k => match k with
  | _ => ("", "", "", false)
def tyJ0 : Nat → FieldType := fun k => match k with
  | _ => .int
abbrev wsJ00 : List Cond := u_ws RJ0 TJ0 0
theorem nmJ0 : ∀ a, a < 0 → ∀ b, b < 0 → a ≠ b → (TJ0 a).2.1 ≠ (TJ0 b).2.1 := by decide +kernel
theorem tyJ0_ok : ∀ k, k < 0 → parseFieldDescriptor (TJ0 k).2.2.1 = some (tyJ0 k) := by decide +kernel
def RL : String := "FretSchoolLaw"
abbrev cL_begin : ByteArray := method_3_code
def yL_begin : MethodName := ⟨RL, "begin", "(LFretSchool;[J)I"⟩
abbrev cL_addNote : ByteArray := method_4_code
def yL_addNote : MethodName := ⟨RL, "addNote", "(LFretSchool;II[J)I"⟩
abbrev cL_transpose : ByteArray := method_5_code
def yL_transpose : MethodName := ⟨RL, "transpose", "(LFretSchool;II)I"⟩
abbrev cL_pitch : ByteArray := method_6_code
def yL_pitch : MethodName := ⟨RL, "pitch", "(LFretSchool;II[J)I"⟩
abbrev cL_tune : ByteArray := method_7_code
def yL_tune : MethodName := ⟨RL, "tune", "(LFretSchool;III[J)I"⟩
abbrev cL_owner : ByteArray := method_8_code
def yL_owner : MethodName := ⟨RL, "owner", "(LFretSchool;I[J)I"⟩
abbrev cL_shifts : ByteArray := method_9_code
def yL_shifts : MethodName := ⟨RL, "shifts", "(LFretSchool;II[J)I"⟩
abbrev cL_shiftsByAll : ByteArray := method_10_code
def yL_shiftsByAll : MethodName := ⟨RL, "shiftsByAll", "(LFretSchool;II[J)I"⟩
abbrev cL_hardest : ByteArray := method_11_code
def yL_hardest : MethodName := ⟨RL, "hardest", "(LFretSchool;II[J)I"⟩
abbrev cL_position : ByteArray := method_12_code
def yL_position : MethodName := ⟨RL, "position", "(LFretSchool;III[J)I"⟩
abbrev cL_string : ByteArray := method_13_code
def yL_string : MethodName := ⟨RL, "string", "(LFretSchool;III[J)I"⟩
abbrev cL_learn : ByteArray := method_14_code
def yL_learn : MethodName := ⟨RL, "learn", "(LFretSchool;III[J)I"⟩
abbrev cL_level : ByteArray := method_15_code
def yL_level : MethodName := ⟨RL, "level", "(LFretSchool;I[J)I"⟩
abbrev cL_known : ByteArray := method_16_code
def yL_known : MethodName := ⟨RL, "known", "(LFretSchool;I[J)I"⟩
abbrev cL_next : ByteArray := method_17_code
def yL_next : MethodName := ⟨RL, "next", "(LFretSchool;I[J)I"⟩
abbrev cL_addWood : ByteArray := method_18_code
def yL_addWood : MethodName := ⟨RL, "addWood", "(LFretSchool;II[J)I"⟩
abbrev cL_order : ByteArray := method_19_code
def yL_order : MethodName := ⟨RL, "order", "(LFretSchool;III[J)I"⟩
abbrev cL_ready : ByteArray := method_20_code
def yL_ready : MethodName := ⟨RL, "ready", "(LFretSchool;I[J)I"⟩
abbrev cL_fetch : ByteArray := method_21_code
def yL_fetch : MethodName := ⟨RL, "fetch", "(LFretSchool;IIIII[J)I"⟩
abbrev cL_pass : ByteArray := method_22_code
def yL_pass : MethodName := ⟨RL, "pass", "(LFretSchool;I[J)I"⟩
abbrev cL_law : ByteArray := code
def yL_law : MethodName := ⟨RL, "law", "([I)Z"⟩
abbrev vwCl : List vw_C := [(RX0, TX0, 5), (RX1, TX1, 3), (RX2, TX2, 4), (RX3, TX3, 2), (RX4, TX4, 2), (RX5, TX5, 10), (RX6, TX6, 19)]
end
section
/-- the good words of the tables -/
def BIG : List Cond := lw_tbl.filter goodWord
theorem bigAll : BIG.all goodWord = true := List.all_eq_true.mpr (fun w h => (List.mem_filter.mp h).2)
theorem bigIn {w : Cond} (i : Nat) (h : lw_tbl[i]? = some w) (hg : goodWord w = true) : w ∈ BIG := List.mem_filter.mpr ⟨List.mem_of_getElem? h, hg⟩
theorem bigT {w : Cond} (h : w ∈ BIG) : w ∈ lw_tbl := (List.mem_filter.mp h).1
theorem wd0 : Cond.selects "java/lang/Throwable" (⟨"java/lang/Throwable", "fillInStackTrace", "(I)Ljava/lang/Throwable;"⟩ : MethodName) (⟨"java/lang/Throwable", "fillInStackTrace", "(I)Ljava/lang/Throwable;"⟩ : MethodName) ∈ BIG := bigIn 0 (by rfl) (by rfl)
theorem wd1 : Cond.selects "FretSchool" yX5_needPiece yX5_needPiece ∈ BIG := bigIn 1 (by rfl) (by rfl)
theorem wd2 : Cond.selects "FretSchool" yX5_needNote yX5_needNote ∈ BIG := bigIn 2 (by rfl) (by rfl)
theorem wd3 : Cond.selects "FretSchool" yX5_needInstrument yX5_needInstrument ∈ BIG := bigIn 3 (by rfl) (by rfl)
theorem wd4 : Cond.selects "FretSchool" yX5_findBest yX5_findBest ∈ BIG := bigIn 4 (by rfl) (by rfl)
theorem wd5 : Cond.selects "FretSchool$Hand" yX0_feelReach yX0_feelReach ∈ BIG := bigIn 5 (by rfl) (by rfl)
theorem wd6 : Cond.selects "FretSchool$Hand" yX0_measureRest yX0_measureRest ∈ BIG := bigIn 6 (by rfl) (by rfl)
theorem wd7 : Cond.selects "FretSchool$Hand" yX0_nearest yX0_nearest ∈ BIG := bigIn 7 (by rfl) (by rfl)
theorem wd8 : Cond.selects "FretSchool$Hand" yX0_chooseRow yX0_chooseRow ∈ BIG := bigIn 8 (by rfl) (by rfl)
theorem wd9 : Cond.selects "FretSchool" yX5_learnableShift yX5_learnableShift ∈ BIG := bigIn 9 (by rfl) (by rfl)
theorem wd10 : Cond.selects "FretSchool" yX5_easiestShift yX5_easiestShift ∈ BIG := bigIn 10 (by rfl) (by rfl)
theorem wd11 : Cond.selects "FretSchool" yX5_ordersAtWork yX5_ordersAtWork ∈ BIG := bigIn 11 (by rfl) (by rfl)
theorem wd12 : Cond.selects "FretSchool" yX5_needOrder yX5_needOrder ∈ BIG := bigIn 12 (by rfl) (by rfl)
theorem wd13 : Cond.selects "FretSchoolModel" yX6_goes yX6_goes ∈ BIG := bigIn 13 (by rfl) (by rfl)
theorem wd14 : Cond.selects "FretSchoolModel" yX6_isPiece yX6_isPiece ∈ BIG := bigIn 14 (by rfl) (by rfl)
theorem wd15 : Cond.selects "FretSchoolModel" yX6_isNote yX6_isNote ∈ BIG := bigIn 15 (by rfl) (by rfl)
theorem wd16 : Cond.selects "FretSchoolModel" yX6_isInstrument yX6_isInstrument ∈ BIG := bigIn 16 (by rfl) (by rfl)
theorem wd17 : Cond.selects "FretSchoolModel" yX6_told yX6_told ∈ BIG := bigIn 17 (by rfl) (by rfl)
theorem wd18 : Cond.selects "FretSchoolModel" yX6_asks yX6_asks ∈ BIG := bigIn 18 (by rfl) (by rfl)
theorem wd19 : Cond.selects "FretSchoolModel" yX6_finds yX6_finds ∈ BIG := bigIn 19 (by rfl) (by rfl)
theorem wd20 : Cond.selects "FretSchoolModel" yX6_from yX6_from ∈ BIG := bigIn 20 (by rfl) (by rfl)
theorem wd21 : Cond.selects "FretSchoolModel" yX6_plays yX6_plays ∈ BIG := bigIn 21 (by rfl) (by rfl)
theorem wd22 : Cond.selects "FretSchoolModel" yX6_lies yX6_lies ∈ BIG := bigIn 22 (by rfl) (by rfl)
theorem wd23 : Cond.selects "FretSchoolModel" yX6_hardestOf yX6_hardestOf ∈ BIG := bigIn 23 (by rfl) (by rfl)
theorem wd24 : Cond.selects "FretSchoolModel" yX6_asksNote yX6_asksNote ∈ BIG := bigIn 24 (by rfl) (by rfl)
theorem wd25 : Cond.selects "FretSchoolModel" yX6_canLearn yX6_canLearn ∈ BIG := bigIn 25 (by rfl) (by rfl)
theorem wd26 : Cond.selects "FretSchoolModel" yX6_isKnown yX6_isKnown ∈ BIG := bigIn 26 (by rfl) (by rfl)
theorem wd27 : Cond.selects "FretSchoolModel" yX6_atWork yX6_atWork ∈ BIG := bigIn 27 (by rfl) (by rfl)
theorem wd28 : Cond.selects "FretSchoolModel" yX6_isOrder yX6_isOrder ∈ BIG := bigIn 28 (by rfl) (by rfl)
theorem wd29 : Cond.initialized "FretSchoolLaw" ∈ BIG := bigIn 29 (by rfl) (by rfl)
theorem wd30 : Cond.initialized "FretSchool" ∈ BIG := bigIn 30 (by rfl) (by rfl)
theorem wd31 : Cond.initialized "FretSchool$Piece" ∈ BIG := bigIn 31 (by rfl) (by rfl)
theorem wd32 : Cond.initialized "FretSchool$Instrument" ∈ BIG := bigIn 32 (by rfl) (by rfl)
theorem wd33 : Cond.initialized "FretSchool$Pupil" ∈ BIG := bigIn 33 (by rfl) (by rfl)
theorem wd34 : Cond.initialized "FretSchool$Order" ∈ BIG := bigIn 34 (by rfl) (by rfl)
theorem wd35 : Cond.initialized "FretSchool$Hand" ∈ BIG := bigIn 35 (by rfl) (by rfl)
theorem wd36 : Cond.initialized "FretSchoolModel" ∈ BIG := bigIn 36 (by rfl) (by rfl)
theorem wd37 : Cond.initialized "java/lang/Throwable" ∈ BIG := bigIn 37 (by rfl) (by rfl)
theorem wd38 : Cond.initialized "java/lang/Exception" ∈ BIG := bigIn 38 (by rfl) (by rfl)
theorem wd39 : Cond.initialized "java/lang/RuntimeException" ∈ BIG := bigIn 39 (by rfl) (by rfl)
theorem wd40 : Cond.initialized "java/lang/IllegalStateException" ∈ BIG := bigIn 40 (by rfl) (by rfl)
theorem wd41 : Cond.initialized "java/lang/IndexOutOfBoundsException" ∈ BIG := bigIn 41 (by rfl) (by rfl)
theorem wd42 : Cond.initialized "java/lang/IllegalArgumentException" ∈ BIG := bigIn 42 (by rfl) (by rfl)
theorem wd43 : Cond.initialized "java/lang/Math" ∈ BIG := bigIn 43 (by rfl) (by rfl)
theorem wd44 : Cond.classLink "FretSchoolLaw" 8 "FretSchool" ∈ BIG := bigIn 44 (by rfl) (by rfl)
theorem wd45 : Cond.instantiable "FretSchool" 10 ∈ BIG := bigIn 45 (by rfl) (by rfl)
theorem wd46 : Cond.methodLink "FretSchoolLaw" 81 yX5_init ∈ BIG := bigIn 46 (by rfl) (by rfl)
theorem wd47 : Cond.instanceMethod yX5_init ∈ BIG := bigIn 47 (by rfl) (by rfl)
theorem wd48 : Cond.code yX5_init cX5_init 2 (none : Option Jvm.ClassFile.FieldType) ∈ BIG := bigIn 48 (by rfl) (by rfl)
theorem wd49 : Cond.methodLink "FretSchool" 3 (⟨"java/lang/Object", "<init>", "()V"⟩ : MethodName) ∈ BIG := bigIn 49 (by rfl) (by rfl)
theorem wd50 : Cond.instanceMethod (⟨"java/lang/Object", "<init>", "()V"⟩ : MethodName) ∈ BIG := bigIn 50 (by rfl) (by rfl)
theorem wd51 : Cond.code (⟨"java/lang/Object", "<init>", "()V"⟩ : MethodName) object_method_1_code 1 (none : Option Jvm.ClassFile.FieldType) ∈ BIG := bigIn 51 (by rfl) (by rfl)
theorem wd52 : Cond.classLink "FretSchool" 9 "FretSchool$Piece" ∈ BIG := bigIn 52 (by rfl) (by rfl)
theorem wt53 : Cond.arrayOver (.object "FretSchool$Piece") ∈ lw_tbl := List.mem_of_getElem? (i := 53) (by rfl)
theorem wd54 : Cond.instantiable "FretSchool$Piece" 2 ∈ BIG := bigIn 54 (by rfl) (by rfl)
theorem wt55 : Cond.methodLinkNest "FretSchool" 15 yX3_init "FretSchool" ∈ lw_tbl := List.mem_of_getElem? (i := 55) (by rfl)
theorem wd56 : Cond.instanceMethod yX3_init ∈ BIG := bigIn 56 (by rfl) (by rfl)
theorem wd57 : Cond.code yX3_init cX3_init 1 (none : Option Jvm.ClassFile.FieldType) ∈ BIG := bigIn 57 (by rfl) (by rfl)
theorem wd58 : Cond.methodLink "FretSchool$Piece" 3 (⟨"java/lang/Object", "<init>", "()V"⟩ : MethodName) ∈ BIG := bigIn 58 (by rfl) (by rfl)
theorem wd59 : Cond.fieldLink "FretSchool$Piece" 9 "FretSchool$Piece" "pitches" "[I" ∈ BIG := bigIn 59 (by rfl) (by rfl)
theorem wd60 : Cond.fieldLink "FretSchool$Hand" 58 "FretSchool$Piece" "pitches" "[I" ∈ BIG := bigIn 60 (by rfl) (by rfl)
theorem wd61 : Cond.fieldLink "FretSchool" 101 "FretSchool$Piece" "pitches" "[I" ∈ BIG := bigIn 61 (by rfl) (by rfl)
theorem wd62 : Cond.fieldLink "FretSchool$Piece" 15 "FretSchool$Piece" "count" "I" ∈ BIG := bigIn 62 (by rfl) (by rfl)
theorem wd63 : Cond.fieldLink "FretSchool$Hand" 34 "FretSchool$Piece" "count" "I" ∈ BIG := bigIn 63 (by rfl) (by rfl)
theorem wd64 : Cond.fieldLink "FretSchool" 85 "FretSchool$Piece" "count" "I" ∈ BIG := bigIn 64 (by rfl) (by rfl)
theorem wd65 : Cond.laysFinal "FretSchool$Piece" "FretSchool$Piece" "pitches" "[I" ∈ BIG := bigIn 65 (by rfl) (by rfl)
theorem wd67 : Cond.lays "FretSchool$Piece" "FretSchool$Piece" "count" "I" ∈ BIG := bigIn 67 (by rfl) (by rfl)
theorem wd70 : Cond.arrayClass .int ∈ BIG := bigIn 70 (by rfl) (by rfl)
theorem wd71 : Cond.classLink "FretSchool" 16 "FretSchool$Instrument" ∈ BIG := bigIn 71 (by rfl) (by rfl)
theorem wt72 : Cond.arrayOver (.object "FretSchool$Instrument") ∈ lw_tbl := List.mem_of_getElem? (i := 72) (by rfl)
theorem wd73 : Cond.instantiable "FretSchool$Instrument" 3 ∈ BIG := bigIn 73 (by rfl) (by rfl)
theorem wt74 : Cond.methodLinkNest "FretSchool" 22 yX1_init "FretSchool" ∈ lw_tbl := List.mem_of_getElem? (i := 74) (by rfl)
theorem wd75 : Cond.instanceMethod yX1_init ∈ BIG := bigIn 75 (by rfl) (by rfl)
theorem wd76 : Cond.code yX1_init cX1_init 1 (none : Option Jvm.ClassFile.FieldType) ∈ BIG := bigIn 76 (by rfl) (by rfl)
theorem wd77 : Cond.methodLink "FretSchool$Instrument" 3 (⟨"java/lang/Object", "<init>", "()V"⟩ : MethodName) ∈ BIG := bigIn 77 (by rfl) (by rfl)
theorem wd78 : Cond.fieldLink "FretSchool$Instrument" 9 "FretSchool$Instrument" "open" "[I" ∈ BIG := bigIn 78 (by rfl) (by rfl)
theorem wd79 : Cond.fieldLink "FretSchool" 107 "FretSchool$Instrument" "open" "[I" ∈ BIG := bigIn 79 (by rfl) (by rfl)
theorem wd80 : Cond.fieldLink "FretSchool$Instrument" 15 "FretSchool$Instrument" "keeper" "I" ∈ BIG := bigIn 80 (by rfl) (by rfl)
theorem wd81 : Cond.fieldLink "FretSchool" 110 "FretSchool$Instrument" "keeper" "I" ∈ BIG := bigIn 81 (by rfl) (by rfl)
theorem wd82 : Cond.fieldLink "FretSchool$Instrument" 19 "FretSchool$Instrument" "fretCount" "I" ∈ BIG := bigIn 82 (by rfl) (by rfl)
theorem wd83 : Cond.laysFinal "FretSchool$Instrument" "FretSchool$Instrument" "open" "[I" ∈ BIG := bigIn 83 (by rfl) (by rfl)
theorem wd85 : Cond.lays "FretSchool$Instrument" "FretSchool$Instrument" "keeper" "I" ∈ BIG := bigIn 85 (by rfl) (by rfl)
theorem wd87 : Cond.lays "FretSchool$Instrument" "FretSchool$Instrument" "fretCount" "I" ∈ BIG := bigIn 87 (by rfl) (by rfl)
theorem wd90 : Cond.classLink "FretSchool" 23 "FretSchool$Pupil" ∈ BIG := bigIn 90 (by rfl) (by rfl)
theorem wt91 : Cond.arrayOver (.object "FretSchool$Pupil") ∈ lw_tbl := List.mem_of_getElem? (i := 91) (by rfl)
theorem wd92 : Cond.instantiable "FretSchool$Pupil" 2 ∈ BIG := bigIn 92 (by rfl) (by rfl)
theorem wt93 : Cond.methodLinkNest "FretSchool" 29 yX4_init "FretSchool" ∈ lw_tbl := List.mem_of_getElem? (i := 93) (by rfl)
theorem wd94 : Cond.instanceMethod yX4_init ∈ BIG := bigIn 94 (by rfl) (by rfl)
theorem wd95 : Cond.code yX4_init cX4_init 1 (none : Option Jvm.ClassFile.FieldType) ∈ BIG := bigIn 95 (by rfl) (by rfl)
theorem wd96 : Cond.methodLink "FretSchool$Pupil" 3 (⟨"java/lang/Object", "<init>", "()V"⟩ : MethodName) ∈ BIG := bigIn 96 (by rfl) (by rfl)
theorem wd97 : Cond.fieldLink "FretSchool$Pupil" 9 "FretSchool$Pupil" "grade" "I" ∈ BIG := bigIn 97 (by rfl) (by rfl)
theorem wd98 : Cond.fieldLink "FretSchool" 153 "FretSchool$Pupil" "grade" "I" ∈ BIG := bigIn 98 (by rfl) (by rfl)
theorem wd99 : Cond.fieldLink "FretSchool$Pupil" 15 "FretSchool$Pupil" "repertoire" "I" ∈ BIG := bigIn 99 (by rfl) (by rfl)
theorem wd100 : Cond.fieldLink "FretSchool" 156 "FretSchool$Pupil" "repertoire" "I" ∈ BIG := bigIn 100 (by rfl) (by rfl)
theorem wd101 : Cond.lays "FretSchool$Pupil" "FretSchool$Pupil" "grade" "I" ∈ BIG := bigIn 101 (by rfl) (by rfl)
theorem wd103 : Cond.lays "FretSchool$Pupil" "FretSchool$Pupil" "repertoire" "I" ∈ BIG := bigIn 103 (by rfl) (by rfl)
theorem wd106 : Cond.classLink "FretSchool" 30 "FretSchool$Order" ∈ BIG := bigIn 106 (by rfl) (by rfl)
theorem wt107 : Cond.arrayOver (.object "FretSchool$Order") ∈ lw_tbl := List.mem_of_getElem? (i := 107) (by rfl)
theorem wd108 : Cond.instantiable "FretSchool$Order" 4 ∈ BIG := bigIn 108 (by rfl) (by rfl)
theorem wt109 : Cond.methodLinkNest "FretSchool" 36 yX2_init "FretSchool" ∈ lw_tbl := List.mem_of_getElem? (i := 109) (by rfl)
theorem wd110 : Cond.instanceMethod yX2_init ∈ BIG := bigIn 110 (by rfl) (by rfl)
theorem wd111 : Cond.code yX2_init cX2_init 1 (none : Option Jvm.ClassFile.FieldType) ∈ BIG := bigIn 111 (by rfl) (by rfl)
theorem wd112 : Cond.methodLink "FretSchool$Order" 3 (⟨"java/lang/Object", "<init>", "()V"⟩ : MethodName) ∈ BIG := bigIn 112 (by rfl) (by rfl)
theorem wd113 : Cond.fieldLink "FretSchool$Order" 9 "FretSchool$Order" "buyer" "I" ∈ BIG := bigIn 113 (by rfl) (by rfl)
theorem wd114 : Cond.fieldLink "FretSchool" 194 "FretSchool$Order" "buyer" "I" ∈ BIG := bigIn 114 (by rfl) (by rfl)
theorem wd115 : Cond.fieldLink "FretSchool$Order" 15 "FretSchool$Order" "fretCount" "I" ∈ BIG := bigIn 115 (by rfl) (by rfl)
theorem wd116 : Cond.fieldLink "FretSchool" 197 "FretSchool$Order" "fretCount" "I" ∈ BIG := bigIn 116 (by rfl) (by rfl)
theorem wd117 : Cond.fieldLink "FretSchool$Order" 18 "FretSchool$Order" "readyDay" "I" ∈ BIG := bigIn 117 (by rfl) (by rfl)
theorem wd118 : Cond.fieldLink "FretSchool" 178 "FretSchool$Order" "readyDay" "I" ∈ BIG := bigIn 118 (by rfl) (by rfl)
theorem wd119 : Cond.fieldLink "FretSchool$Order" 21 "FretSchool$Order" "isFetched" "Z" ∈ BIG := bigIn 119 (by rfl) (by rfl)
theorem wd120 : Cond.fieldLink "FretSchool" 186 "FretSchool$Order" "isFetched" "Z" ∈ BIG := bigIn 120 (by rfl) (by rfl)
theorem wd121 : Cond.lays "FretSchool$Order" "FretSchool$Order" "buyer" "I" ∈ BIG := bigIn 121 (by rfl) (by rfl)
theorem wd123 : Cond.lays "FretSchool$Order" "FretSchool$Order" "fretCount" "I" ∈ BIG := bigIn 123 (by rfl) (by rfl)
theorem wd125 : Cond.lays "FretSchool$Order" "FretSchool$Order" "readyDay" "I" ∈ BIG := bigIn 125 (by rfl) (by rfl)
theorem wd127 : Cond.lays "FretSchool$Order" "FretSchool$Order" "isFetched" "Z" ∈ BIG := bigIn 127 (by rfl) (by rfl)
theorem wd130 : Cond.classLink "FretSchool" 41 "FretSchool$Hand" ∈ BIG := bigIn 130 (by rfl) (by rfl)
theorem wd131 : Cond.instantiable "FretSchool$Hand" 5 ∈ BIG := bigIn 131 (by rfl) (by rfl)
theorem wt132 : Cond.methodLinkNest "FretSchool" 43 yX0_init "FretSchool" ∈ lw_tbl := List.mem_of_getElem? (i := 132) (by rfl)
theorem wd133 : Cond.instanceMethod yX0_init ∈ BIG := bigIn 133 (by rfl) (by rfl)
theorem wd134 : Cond.code yX0_init cX0_init 1 (none : Option Jvm.ClassFile.FieldType) ∈ BIG := bigIn 134 (by rfl) (by rfl)
theorem wd135 : Cond.methodLink "FretSchool$Hand" 3 (⟨"java/lang/Object", "<init>", "()V"⟩ : MethodName) ∈ BIG := bigIn 135 (by rfl) (by rfl)
theorem wd136 : Cond.classLink "FretSchool$Hand" 15 "[[I" ∈ BIG := bigIn 136 (by rfl) (by rfl)
theorem wt137 : Cond.arrayOver (.array .int) ∈ lw_tbl := List.mem_of_getElem? (i := 137) (by rfl)
theorem wd138 : Cond.fieldLink "FretSchool$Hand" 9 "FretSchool$Hand" "reach" "[I" ∈ BIG := bigIn 138 (by rfl) (by rfl)
theorem wd139 : Cond.fieldLink "FretSchool$Hand" 17 "FretSchool$Hand" "rest" "[[I" ∈ BIG := bigIn 139 (by rfl) (by rfl)
theorem wd140 : Cond.fieldLink "FretSchool$Hand" 20 "FretSchool$Hand" "row" "[I" ∈ BIG := bigIn 140 (by rfl) (by rfl)
theorem wd141 : Cond.fieldLink "FretSchool" 129 "FretSchool$Hand" "row" "[I" ∈ BIG := bigIn 141 (by rfl) (by rfl)
theorem wd142 : Cond.fieldLink "FretSchool$Hand" 23 "FretSchool$Hand" "sum" "I" ∈ BIG := bigIn 142 (by rfl) (by rfl)
theorem wd143 : Cond.fieldLink "FretSchool" 117 "FretSchool$Hand" "sum" "I" ∈ BIG := bigIn 143 (by rfl) (by rfl)
theorem wd144 : Cond.fieldLink "FretSchool$Hand" 27 "FretSchool$Hand" "greatest" "I" ∈ BIG := bigIn 144 (by rfl) (by rfl)
theorem wd145 : Cond.fieldLink "FretSchool" 126 "FretSchool$Hand" "greatest" "I" ∈ BIG := bigIn 145 (by rfl) (by rfl)
theorem wd146 : Cond.laysFinal "FretSchool$Hand" "FretSchool$Hand" "reach" "[I" ∈ BIG := bigIn 146 (by rfl) (by rfl)
theorem wd148 : Cond.laysFinal "FretSchool$Hand" "FretSchool$Hand" "rest" "[[I" ∈ BIG := bigIn 148 (by rfl) (by rfl)
theorem wd150 : Cond.laysFinal "FretSchool$Hand" "FretSchool$Hand" "row" "[I" ∈ BIG := bigIn 150 (by rfl) (by rfl)
theorem wd152 : Cond.lays "FretSchool$Hand" "FretSchool$Hand" "sum" "I" ∈ BIG := bigIn 152 (by rfl) (by rfl)
theorem wd154 : Cond.lays "FretSchool$Hand" "FretSchool$Hand" "greatest" "I" ∈ BIG := bigIn 154 (by rfl) (by rfl)
theorem wd157 : Cond.fieldLink "FretSchool" 11 "FretSchool" "pieces" "[LFretSchool$Piece;" ∈ BIG := bigIn 157 (by rfl) (by rfl)
theorem wd158 : Cond.fieldLink "FretSchool" 18 "FretSchool" "builds" "[LFretSchool$Instrument;" ∈ BIG := bigIn 158 (by rfl) (by rfl)
theorem wd159 : Cond.fieldLink "FretSchool" 25 "FretSchool" "pupils" "[LFretSchool$Pupil;" ∈ BIG := bigIn 159 (by rfl) (by rfl)
theorem wd160 : Cond.fieldLink "FretSchool" 32 "FretSchool" "orders" "[LFretSchool$Order;" ∈ BIG := bigIn 160 (by rfl) (by rfl)
theorem wd161 : Cond.fieldLink "FretSchool" 37 "FretSchool" "stock" "[I" ∈ BIG := bigIn 161 (by rfl) (by rfl)
theorem wd162 : Cond.fieldLink "FretSchool" 44 "FretSchool" "hand" "LFretSchool$Hand;" ∈ BIG := bigIn 162 (by rfl) (by rfl)
theorem wd163 : Cond.fieldLink "FretSchool" 48 "FretSchool" "pieceCount" "I" ∈ BIG := bigIn 163 (by rfl) (by rfl)
theorem wd164 : Cond.fieldLink "FretSchool" 52 "FretSchool" "buildCount" "I" ∈ BIG := bigIn 164 (by rfl) (by rfl)
theorem wd165 : Cond.fieldLink "FretSchool" 55 "FretSchool" "orderCount" "I" ∈ BIG := bigIn 165 (by rfl) (by rfl)
theorem wd166 : Cond.fieldLink "FretSchool" 58 "FretSchool" "day" "I" ∈ BIG := bigIn 166 (by rfl) (by rfl)
theorem wd167 : Cond.laysFinal "FretSchool" "FretSchool" "pieces" "[LFretSchool$Piece;" ∈ BIG := bigIn 167 (by rfl) (by rfl)
theorem wd169 : Cond.laysFinal "FretSchool" "FretSchool" "builds" "[LFretSchool$Instrument;" ∈ BIG := bigIn 169 (by rfl) (by rfl)
theorem wd171 : Cond.laysFinal "FretSchool" "FretSchool" "pupils" "[LFretSchool$Pupil;" ∈ BIG := bigIn 171 (by rfl) (by rfl)
theorem wd173 : Cond.laysFinal "FretSchool" "FretSchool" "orders" "[LFretSchool$Order;" ∈ BIG := bigIn 173 (by rfl) (by rfl)
theorem wd175 : Cond.laysFinal "FretSchool" "FretSchool" "stock" "[I" ∈ BIG := bigIn 175 (by rfl) (by rfl)
theorem wd177 : Cond.laysFinal "FretSchool" "FretSchool" "hand" "LFretSchool$Hand;" ∈ BIG := bigIn 177 (by rfl) (by rfl)
theorem wd179 : Cond.lays "FretSchool" "FretSchool" "pieceCount" "I" ∈ BIG := bigIn 179 (by rfl) (by rfl)
theorem wd181 : Cond.lays "FretSchool" "FretSchool" "buildCount" "I" ∈ BIG := bigIn 181 (by rfl) (by rfl)
theorem wd183 : Cond.lays "FretSchool" "FretSchool" "orderCount" "I" ∈ BIG := bigIn 183 (by rfl) (by rfl)
theorem wd185 : Cond.lays "FretSchool" "FretSchool" "day" "I" ∈ BIG := bigIn 185 (by rfl) (by rfl)
theorem wd188 : Cond.methodLink "FretSchoolLaw" 113 yX5_instruments ∈ BIG := bigIn 188 (by rfl) (by rfl)
theorem wd189 : Cond.instanceMethod yX5_instruments ∈ BIG := bigIn 189 (by rfl) (by rfl)
theorem wd190 : Cond.selects "FretSchool" yX5_instruments yX5_instruments ∈ BIG := bigIn 190 (by rfl) (by rfl)
theorem wd191 : Cond.code yX5_instruments cX5_instruments 1 (some .int) ∈ BIG := bigIn 191 (by rfl) (by rfl)
theorem wd192 : Cond.methodLink "FretSchoolLaw" 160 yX5_today ∈ BIG := bigIn 192 (by rfl) (by rfl)
theorem wd193 : Cond.instanceMethod yX5_today ∈ BIG := bigIn 193 (by rfl) (by rfl)
theorem wd194 : Cond.selects "FretSchool" yX5_today yX5_today ∈ BIG := bigIn 194 (by rfl) (by rfl)
theorem wd195 : Cond.code yX5_today cX5_today 1 (some .int) ∈ BIG := bigIn 195 (by rfl) (by rfl)
theorem wd196 : Cond.methodLink "FretSchoolLaw" 85 yL_begin ∈ BIG := bigIn 196 (by rfl) (by rfl)
theorem wd197 : Cond.static yL_begin ∈ BIG := bigIn 197 (by rfl) (by rfl)
theorem wd198 : Cond.codeWith yL_begin cL_begin 3 (some .int) [(0, 8, 11, 13)] ∈ BIG := bigIn 198 (by rfl) (by rfl)
theorem wd199 : Cond.classLink "FretSchoolLaw" 13 "java/lang/IllegalStateException" ∈ BIG := bigIn 199 (by rfl) (by rfl)
theorem wd200 : Cond.methodLink "FretSchoolLaw" 7 yX5_begin ∈ BIG := bigIn 200 (by rfl) (by rfl)
theorem wd201 : Cond.instanceMethod yX5_begin ∈ BIG := bigIn 201 (by rfl) (by rfl)
theorem wd202 : Cond.selects "FretSchool" yX5_begin yX5_begin ∈ BIG := bigIn 202 (by rfl) (by rfl)
theorem wd203 : Cond.code yX5_begin cX5_begin 2 (some .int) ∈ BIG := bigIn 203 (by rfl) (by rfl)
theorem wd204 : Cond.classLink "FretSchool" 61 "java/lang/IllegalStateException" ∈ BIG := bigIn 204 (by rfl) (by rfl)
theorem wd205 : Cond.instantiable "java/lang/IllegalStateException" 6 ∈ BIG := bigIn 205 (by rfl) (by rfl)
theorem wt206 : Cond.castable "java/lang/IllegalStateException" "java/lang/IllegalStateException" ∈ lw_tbl := List.mem_of_getElem? (i := 206) (by rfl)
theorem wd213 : Cond.selects "java/lang/IllegalStateException" (⟨"java/lang/Throwable", "fillInStackTrace", "(I)Ljava/lang/Throwable;"⟩ : MethodName) (⟨"java/lang/Throwable", "fillInStackTrace", "(I)Ljava/lang/Throwable;"⟩ : MethodName) ∈ BIG := bigIn 213 (by rfl) (by rfl)
theorem wd214 : Cond.selects "java/lang/IllegalStateException" (⟨"java/lang/Throwable", "fillInStackTrace", "()Ljava/lang/Throwable;"⟩ : MethodName) (⟨"java/lang/Throwable", "fillInStackTrace", "()Ljava/lang/Throwable;"⟩ : MethodName) ∈ BIG := bigIn 214 (by rfl) (by rfl)
theorem wd215 : Cond.lays "java/lang/IllegalStateException" "java/lang/Throwable" "cause" "Ljava/lang/Throwable;" ∈ BIG := bigIn 215 (by rfl) (by rfl)
theorem wd216 : Cond.lays "java/lang/Throwable" "java/lang/Throwable" "cause" "Ljava/lang/Throwable;" ∈ BIG := bigIn 216 (by rfl) (by rfl)
theorem wd217 : Cond.lays "java/lang/IllegalStateException" "java/lang/Throwable" "stackTrace" "[Ljava/lang/StackTraceElement;" ∈ BIG := bigIn 217 (by rfl) (by rfl)
theorem wd218 : Cond.lays "java/lang/Throwable" "java/lang/Throwable" "stackTrace" "[Ljava/lang/StackTraceElement;" ∈ BIG := bigIn 218 (by rfl) (by rfl)
theorem wd219 : Cond.lays "java/lang/IllegalStateException" "java/lang/Throwable" "suppressedExceptions" "Ljava/util/List;" ∈ BIG := bigIn 219 (by rfl) (by rfl)
theorem wd220 : Cond.lays "java/lang/Throwable" "java/lang/Throwable" "suppressedExceptions" "Ljava/util/List;" ∈ BIG := bigIn 220 (by rfl) (by rfl)
theorem wd221 : Cond.lays "java/lang/IllegalStateException" "java/lang/Throwable" "detailMessage" "Ljava/lang/String;" ∈ BIG := bigIn 221 (by rfl) (by rfl)
theorem wd222 : Cond.lays "java/lang/Throwable" "java/lang/Throwable" "detailMessage" "Ljava/lang/String;" ∈ BIG := bigIn 222 (by rfl) (by rfl)
theorem wd223 : Cond.lays "java/lang/IllegalStateException" "java/lang/Throwable" "backtrace" "Ljava/lang/Object;" ∈ BIG := bigIn 223 (by rfl) (by rfl)
theorem wd224 : Cond.lays "java/lang/Throwable" "java/lang/Throwable" "backtrace" "Ljava/lang/Object;" ∈ BIG := bigIn 224 (by rfl) (by rfl)
theorem wd225 : Cond.fieldLink "java/lang/Throwable" 198 "java/lang/Throwable" "backtrace" "Ljava/lang/Object;" ∈ BIG := bigIn 225 (by rfl) (by rfl)
theorem wd227 : Cond.instanceMethod (⟨"java/lang/Throwable", "<init>", "()V"⟩ : MethodName) ∈ BIG := bigIn 227 (by rfl) (by rfl)
theorem wd228 : Cond.code (⟨"java/lang/Throwable", "<init>", "()V"⟩ : MethodName) prog_16_method_1_code 1 (none : Option Jvm.ClassFile.FieldType) ∈ BIG := bigIn 228 (by rfl) (by rfl)
theorem wd229 : Cond.methodLink "java/lang/Throwable" 1 (⟨"java/lang/Object", "<init>", "()V"⟩ : MethodName) ∈ BIG := bigIn 229 (by rfl) (by rfl)
theorem wd230 : Cond.fieldLink "java/lang/Throwable" 13 "java/lang/Throwable" "UNASSIGNED_STACK" "[Ljava/lang/StackTraceElement;" ∈ BIG := bigIn 230 (by rfl) (by rfl)
theorem wt231 : Cond.laysStatic "java/lang/Throwable" "UNASSIGNED_STACK" "[Ljava/lang/StackTraceElement;" ∈ lw_tbl := List.mem_of_getElem? (i := 231) (by rfl)
theorem wd232 : Cond.fieldLink "java/lang/Throwable" 20 "java/lang/Throwable" "SUPPRESSED_SENTINEL" "Ljava/util/List;" ∈ BIG := bigIn 232 (by rfl) (by rfl)
theorem wt233 : Cond.laysStatic "java/lang/Throwable" "SUPPRESSED_SENTINEL" "Ljava/util/List;" ∈ lw_tbl := List.mem_of_getElem? (i := 233) (by rfl)
theorem wd234 : Cond.methodLink "java/lang/Throwable" 27 (⟨"java/lang/Throwable", "fillInStackTrace", "()Ljava/lang/Throwable;"⟩ : MethodName) ∈ BIG := bigIn 234 (by rfl) (by rfl)
theorem wd235 : Cond.instanceMethod (⟨"java/lang/Throwable", "fillInStackTrace", "()Ljava/lang/Throwable;"⟩ : MethodName) ∈ BIG := bigIn 235 (by rfl) (by rfl)
theorem wd236 : Cond.sameMethod "java/lang/Throwable" "java/lang/Throwable" "fillInStackTrace" "()Ljava/lang/Throwable;" ∈ BIG := bigIn 236 (by rfl) (by rfl)
theorem wd237 : Cond.selects "java/lang/IllegalArgumentException" (⟨"java/lang/Throwable", "fillInStackTrace", "()Ljava/lang/Throwable;"⟩ : MethodName) (⟨"java/lang/Throwable", "fillInStackTrace", "()Ljava/lang/Throwable;"⟩ : MethodName) ∈ BIG := bigIn 237 (by rfl) (by rfl)
theorem wd238 : Cond.selects "java/lang/IndexOutOfBoundsException" (⟨"java/lang/Throwable", "fillInStackTrace", "()Ljava/lang/Throwable;"⟩ : MethodName) (⟨"java/lang/Throwable", "fillInStackTrace", "()Ljava/lang/Throwable;"⟩ : MethodName) ∈ BIG := bigIn 238 (by rfl) (by rfl)
theorem wd240 : Cond.methodLink "java/lang/Throwable" 202 (⟨"java/lang/Throwable", "fillInStackTrace", "(I)Ljava/lang/Throwable;"⟩ : MethodName) ∈ BIG := bigIn 240 (by rfl) (by rfl)
theorem wd242 : Cond.instanceMethod (⟨"java/lang/Throwable", "fillInStackTrace", "(I)Ljava/lang/Throwable;"⟩ : MethodName) ∈ BIG := bigIn 242 (by rfl) (by rfl)
theorem wd243 : Cond.instantiable "java/lang/Throwable" 6 ∈ BIG := bigIn 243 (by rfl) (by rfl)
theorem wt245 : Cond.stringRef "FretSchool" 63 "there are 8 pieces" ∈ lw_tbl := List.mem_of_getElem? (i := 245) (by rfl)
theorem wd246 : Cond.methodLink "FretSchool" 65 (⟨"java/lang/IllegalStateException", "<init>", "(Ljava/lang/String;)V"⟩ : MethodName) ∈ BIG := bigIn 246 (by rfl) (by rfl)
theorem wd247 : Cond.instanceMethod (⟨"java/lang/IllegalStateException", "<init>", "(Ljava/lang/String;)V"⟩ : MethodName) ∈ BIG := bigIn 247 (by rfl) (by rfl)
theorem wd248 : Cond.code (⟨"java/lang/IllegalStateException", "<init>", "(Ljava/lang/String;)V"⟩ : MethodName) prog_11_method_2_code 2 (none : Option Jvm.ClassFile.FieldType) ∈ BIG := bigIn 248 (by rfl) (by rfl)
theorem wd249 : Cond.methodLink "java/lang/IllegalStateException" 7 (⟨"java/lang/RuntimeException", "<init>", "(Ljava/lang/String;)V"⟩ : MethodName) ∈ BIG := bigIn 249 (by rfl) (by rfl)
theorem wd250 : Cond.instanceMethod (⟨"java/lang/RuntimeException", "<init>", "(Ljava/lang/String;)V"⟩ : MethodName) ∈ BIG := bigIn 250 (by rfl) (by rfl)
theorem wd251 : Cond.code (⟨"java/lang/RuntimeException", "<init>", "(Ljava/lang/String;)V"⟩ : MethodName) prog_14_method_2_code 2 (none : Option Jvm.ClassFile.FieldType) ∈ BIG := bigIn 251 (by rfl) (by rfl)
theorem wd252 : Cond.methodLink "java/lang/RuntimeException" 7 (⟨"java/lang/Exception", "<init>", "(Ljava/lang/String;)V"⟩ : MethodName) ∈ BIG := bigIn 252 (by rfl) (by rfl)
theorem wd253 : Cond.instanceMethod (⟨"java/lang/Exception", "<init>", "(Ljava/lang/String;)V"⟩ : MethodName) ∈ BIG := bigIn 253 (by rfl) (by rfl)
theorem wd254 : Cond.code (⟨"java/lang/Exception", "<init>", "(Ljava/lang/String;)V"⟩ : MethodName) prog_9_method_2_code 2 (none : Option Jvm.ClassFile.FieldType) ∈ BIG := bigIn 254 (by rfl) (by rfl)
theorem wd255 : Cond.methodLink "java/lang/Exception" 7 (⟨"java/lang/Throwable", "<init>", "(Ljava/lang/String;)V"⟩ : MethodName) ∈ BIG := bigIn 255 (by rfl) (by rfl)
theorem wd256 : Cond.instanceMethod (⟨"java/lang/Throwable", "<init>", "(Ljava/lang/String;)V"⟩ : MethodName) ∈ BIG := bigIn 256 (by rfl) (by rfl)
theorem wd257 : Cond.code (⟨"java/lang/Throwable", "<init>", "(Ljava/lang/String;)V"⟩ : MethodName) prog_16_method_2_code 2 (none : Option Jvm.ClassFile.FieldType) ∈ BIG := bigIn 257 (by rfl) (by rfl)
theorem wd258 : Cond.fieldLink "java/lang/Throwable" 198 "java/lang/Throwable" "backtrace" "Ljava/lang/Object;" ∈ BIG := bigIn 258 (by rfl) (by rfl)
theorem wd259 : Cond.fieldLink "java/lang/Throwable" 31 "java/lang/Throwable" "detailMessage" "Ljava/lang/String;" ∈ BIG := bigIn 259 (by rfl) (by rfl)
theorem wd260 : Cond.fieldLink "java/lang/Throwable" 7 "java/lang/Throwable" "cause" "Ljava/lang/Throwable;" ∈ BIG := bigIn 260 (by rfl) (by rfl)
theorem wd261 : Cond.fieldLink "java/lang/Throwable" 17 "java/lang/Throwable" "stackTrace" "[Ljava/lang/StackTraceElement;" ∈ BIG := bigIn 261 (by rfl) (by rfl)
theorem wd262 : Cond.fieldLink "java/lang/Throwable" 24 "java/lang/Throwable" "suppressedExceptions" "Ljava/util/List;" ∈ BIG := bigIn 262 (by rfl) (by rfl)
theorem wd267 : Cond.lays "java/lang/IllegalStateException" "java/lang/Throwable" "depth" "I" ∈ BIG := bigIn 267 (by rfl) (by rfl)
theorem wd271 : Cond.arrayClass .byte ∈ BIG := bigIn 271 (by rfl) (by rfl)
theorem wd272 : Cond.methodLink "FretSchoolLaw" 94 yL_addNote ∈ BIG := bigIn 272 (by rfl) (by rfl)
theorem wd273 : Cond.static yL_addNote ∈ BIG := bigIn 273 (by rfl) (by rfl)
theorem wd274 : Cond.codeWith yL_addNote cL_addNote 5 (some .int) [(0, 10, 13, 19), (0, 10, 17, 21), (0, 10, 21, 13)] ∈ BIG := bigIn 274 (by rfl) (by rfl)
theorem wd275 : Cond.classLink "FretSchoolLaw" 19 "java/lang/IndexOutOfBoundsException" ∈ BIG := bigIn 275 (by rfl) (by rfl)
theorem wd276 : Cond.classLink "FretSchoolLaw" 21 "java/lang/IllegalArgumentException" ∈ BIG := bigIn 276 (by rfl) (by rfl)
theorem wd277 : Cond.methodLink "FretSchoolLaw" 15 yX5_addNote ∈ BIG := bigIn 277 (by rfl) (by rfl)
theorem wd278 : Cond.instanceMethod yX5_addNote ∈ BIG := bigIn 278 (by rfl) (by rfl)
theorem wd279 : Cond.selects "FretSchool" yX5_addNote yX5_addNote ∈ BIG := bigIn 279 (by rfl) (by rfl)
theorem wd280 : Cond.code yX5_addNote cX5_addNote 4 (some .int) ∈ BIG := bigIn 280 (by rfl) (by rfl)
theorem wd281 : Cond.methodLink "FretSchool" 68 yX5_needPiece ∈ BIG := bigIn 281 (by rfl) (by rfl)
theorem wd283 : Cond.instanceMethod yX5_needPiece ∈ BIG := bigIn 283 (by rfl) (by rfl)
theorem wd284 : Cond.code yX5_needPiece cX5_needPiece 2 (none : Option Jvm.ClassFile.FieldType) ∈ BIG := bigIn 284 (by rfl) (by rfl)
theorem wd285 : Cond.classLink "FretSchool" 209 "java/lang/IndexOutOfBoundsException" ∈ BIG := bigIn 285 (by rfl) (by rfl)
theorem wd286 : Cond.instantiable "java/lang/IndexOutOfBoundsException" 6 ∈ BIG := bigIn 286 (by rfl) (by rfl)
theorem wt287 : Cond.castable "java/lang/IndexOutOfBoundsException" "java/lang/IndexOutOfBoundsException" ∈ lw_tbl := List.mem_of_getElem? (i := 287) (by rfl)
theorem wd288 : Cond.selects "java/lang/IndexOutOfBoundsException" (⟨"java/lang/Throwable", "fillInStackTrace", "(I)Ljava/lang/Throwable;"⟩ : MethodName) (⟨"java/lang/Throwable", "fillInStackTrace", "(I)Ljava/lang/Throwable;"⟩ : MethodName) ∈ BIG := bigIn 288 (by rfl) (by rfl)
theorem wd289 : Cond.lays "java/lang/IndexOutOfBoundsException" "java/lang/Throwable" "cause" "Ljava/lang/Throwable;" ∈ BIG := bigIn 289 (by rfl) (by rfl)
theorem wd290 : Cond.lays "java/lang/IndexOutOfBoundsException" "java/lang/Throwable" "stackTrace" "[Ljava/lang/StackTraceElement;" ∈ BIG := bigIn 290 (by rfl) (by rfl)
theorem wd291 : Cond.lays "java/lang/IndexOutOfBoundsException" "java/lang/Throwable" "suppressedExceptions" "Ljava/util/List;" ∈ BIG := bigIn 291 (by rfl) (by rfl)
theorem wd292 : Cond.lays "java/lang/IndexOutOfBoundsException" "java/lang/Throwable" "detailMessage" "Ljava/lang/String;" ∈ BIG := bigIn 292 (by rfl) (by rfl)
theorem wd293 : Cond.lays "java/lang/IndexOutOfBoundsException" "java/lang/Throwable" "backtrace" "Ljava/lang/Object;" ∈ BIG := bigIn 293 (by rfl) (by rfl)
theorem wt294 : Cond.stringRef "FretSchool" 211 "there is no such piece" ∈ lw_tbl := List.mem_of_getElem? (i := 294) (by rfl)
theorem wd295 : Cond.methodLink "FretSchool" 213 (⟨"java/lang/IndexOutOfBoundsException", "<init>", "(Ljava/lang/String;)V"⟩ : MethodName) ∈ BIG := bigIn 295 (by rfl) (by rfl)
theorem wd296 : Cond.instanceMethod (⟨"java/lang/IndexOutOfBoundsException", "<init>", "(Ljava/lang/String;)V"⟩ : MethodName) ∈ BIG := bigIn 296 (by rfl) (by rfl)
theorem wd297 : Cond.code (⟨"java/lang/IndexOutOfBoundsException", "<init>", "(Ljava/lang/String;)V"⟩ : MethodName) prog_12_method_2_code 2 (none : Option Jvm.ClassFile.FieldType) ∈ BIG := bigIn 297 (by rfl) (by rfl)
theorem wd298 : Cond.methodLink "java/lang/IndexOutOfBoundsException" 7 (⟨"java/lang/RuntimeException", "<init>", "(Ljava/lang/String;)V"⟩ : MethodName) ∈ BIG := bigIn 298 (by rfl) (by rfl)
theorem wd299 : Cond.lays "java/lang/IndexOutOfBoundsException" "java/lang/Throwable" "depth" "I" ∈ BIG := bigIn 299 (by rfl) (by rfl)
theorem wd301 : Cond.methodLink "FretSchool" 72 yX5_needRange ∈ BIG := bigIn 301 (by rfl) (by rfl)
theorem wd302 : Cond.static yX5_needRange ∈ BIG := bigIn 302 (by rfl) (by rfl)
theorem wd303 : Cond.code yX5_needRange cX5_needRange 3 (none : Option Jvm.ClassFile.FieldType) ∈ BIG := bigIn 303 (by rfl) (by rfl)
theorem wd304 : Cond.classLink "FretSchool" 220 "java/lang/IllegalArgumentException" ∈ BIG := bigIn 304 (by rfl) (by rfl)
theorem wd305 : Cond.instantiable "java/lang/IllegalArgumentException" 6 ∈ BIG := bigIn 305 (by rfl) (by rfl)
theorem wt306 : Cond.castable "java/lang/IllegalArgumentException" "java/lang/IllegalArgumentException" ∈ lw_tbl := List.mem_of_getElem? (i := 306) (by rfl)
theorem wd307 : Cond.selects "java/lang/IllegalArgumentException" (⟨"java/lang/Throwable", "fillInStackTrace", "(I)Ljava/lang/Throwable;"⟩ : MethodName) (⟨"java/lang/Throwable", "fillInStackTrace", "(I)Ljava/lang/Throwable;"⟩ : MethodName) ∈ BIG := bigIn 307 (by rfl) (by rfl)
theorem wd308 : Cond.lays "java/lang/IllegalArgumentException" "java/lang/Throwable" "cause" "Ljava/lang/Throwable;" ∈ BIG := bigIn 308 (by rfl) (by rfl)
theorem wd309 : Cond.lays "java/lang/IllegalArgumentException" "java/lang/Throwable" "stackTrace" "[Ljava/lang/StackTraceElement;" ∈ BIG := bigIn 309 (by rfl) (by rfl)
theorem wd310 : Cond.lays "java/lang/IllegalArgumentException" "java/lang/Throwable" "suppressedExceptions" "Ljava/util/List;" ∈ BIG := bigIn 310 (by rfl) (by rfl)
theorem wd311 : Cond.lays "java/lang/IllegalArgumentException" "java/lang/Throwable" "detailMessage" "Ljava/lang/String;" ∈ BIG := bigIn 311 (by rfl) (by rfl)
theorem wd312 : Cond.lays "java/lang/IllegalArgumentException" "java/lang/Throwable" "backtrace" "Ljava/lang/Object;" ∈ BIG := bigIn 312 (by rfl) (by rfl)
theorem wt313 : Cond.stringRef "FretSchool" 222 "an argument is out of range" ∈ lw_tbl := List.mem_of_getElem? (i := 313) (by rfl)
theorem wd314 : Cond.methodLink "FretSchool" 224 (⟨"java/lang/IllegalArgumentException", "<init>", "(Ljava/lang/String;)V"⟩ : MethodName) ∈ BIG := bigIn 314 (by rfl) (by rfl)
theorem wd315 : Cond.instanceMethod (⟨"java/lang/IllegalArgumentException", "<init>", "(Ljava/lang/String;)V"⟩ : MethodName) ∈ BIG := bigIn 315 (by rfl) (by rfl)
theorem wd316 : Cond.code (⟨"java/lang/IllegalArgumentException", "<init>", "(Ljava/lang/String;)V"⟩ : MethodName) prog_10_method_2_code 2 (none : Option Jvm.ClassFile.FieldType) ∈ BIG := bigIn 316 (by rfl) (by rfl)
theorem wd317 : Cond.methodLink "java/lang/IllegalArgumentException" 7 (⟨"java/lang/RuntimeException", "<init>", "(Ljava/lang/String;)V"⟩ : MethodName) ∈ BIG := bigIn 317 (by rfl) (by rfl)
theorem wd318 : Cond.lays "java/lang/IllegalArgumentException" "java/lang/Throwable" "depth" "I" ∈ BIG := bigIn 318 (by rfl) (by rfl)
theorem wd320 : Cond.methodLink "FretSchool" 76 yX3_isFull ∈ BIG := bigIn 320 (by rfl) (by rfl)
theorem wd321 : Cond.instanceMethod yX3_isFull ∈ BIG := bigIn 321 (by rfl) (by rfl)
theorem wd322 : Cond.selects "FretSchool$Piece" yX3_isFull yX3_isFull ∈ BIG := bigIn 322 (by rfl) (by rfl)
theorem wd323 : Cond.code yX3_isFull cX3_isFull 1 (some .boolean) ∈ BIG := bigIn 323 (by rfl) (by rfl)
theorem wt324 : Cond.stringRef "FretSchool" 80 "the piece has 16 notes" ∈ lw_tbl := List.mem_of_getElem? (i := 324) (by rfl)
theorem wd325 : Cond.methodLink "FretSchool" 82 yX3_append ∈ BIG := bigIn 325 (by rfl) (by rfl)
theorem wd326 : Cond.instanceMethod yX3_append ∈ BIG := bigIn 326 (by rfl) (by rfl)
theorem wd327 : Cond.selects "FretSchool$Piece" yX3_append yX3_append ∈ BIG := bigIn 327 (by rfl) (by rfl)
theorem wd328 : Cond.code yX3_append cX3_append 2 (none : Option Jvm.ClassFile.FieldType) ∈ BIG := bigIn 328 (by rfl) (by rfl)
theorem wd329 : Cond.methodLink "FretSchool$Piece" 19 yX3_isFull ∈ BIG := bigIn 329 (by rfl) (by rfl)
theorem wd330 : Cond.methodLink "FretSchoolLaw" 98 yL_transpose ∈ BIG := bigIn 330 (by rfl) (by rfl)
theorem wd331 : Cond.static yL_transpose ∈ BIG := bigIn 331 (by rfl) (by rfl)
theorem wd332 : Cond.codeWith yL_transpose cL_transpose 4 (some .int) [(0, 6, 9, 19), (0, 6, 12, 21), (0, 6, 15, 13)] ∈ BIG := bigIn 332 (by rfl) (by rfl)
theorem wd333 : Cond.methodLink "FretSchoolLaw" 23 yX5_transpose ∈ BIG := bigIn 333 (by rfl) (by rfl)
theorem wd334 : Cond.instanceMethod yX5_transpose ∈ BIG := bigIn 334 (by rfl) (by rfl)
theorem wd335 : Cond.selects "FretSchool" yX5_transpose yX5_transpose ∈ BIG := bigIn 335 (by rfl) (by rfl)
theorem wd336 : Cond.code yX5_transpose cX5_transpose 4 (none : Option Jvm.ClassFile.FieldType) ∈ BIG := bigIn 336 (by rfl) (by rfl)
theorem wd337 : Cond.methodLink "FretSchool" 88 yX3_canMove ∈ BIG := bigIn 337 (by rfl) (by rfl)
theorem wd338 : Cond.instanceMethod yX3_canMove ∈ BIG := bigIn 338 (by rfl) (by rfl)
theorem wd339 : Cond.selects "FretSchool$Piece" yX3_canMove yX3_canMove ∈ BIG := bigIn 339 (by rfl) (by rfl)
theorem wd340 : Cond.code yX3_canMove cX3_canMove 4 (some .boolean) ∈ BIG := bigIn 340 (by rfl) (by rfl)
theorem wt341 : Cond.stringRef "FretSchool" 92 "some pitch would not be from 0 to 80" ∈ lw_tbl := List.mem_of_getElem? (i := 341) (by rfl)
theorem wd342 : Cond.methodLink "FretSchool" 94 yX3_move ∈ BIG := bigIn 342 (by rfl) (by rfl)
theorem wd343 : Cond.instanceMethod yX3_move ∈ BIG := bigIn 343 (by rfl) (by rfl)
theorem wd344 : Cond.selects "FretSchool$Piece" yX3_move yX3_move ∈ BIG := bigIn 344 (by rfl) (by rfl)
theorem wd345 : Cond.code yX3_move cX3_move 3 (none : Option Jvm.ClassFile.FieldType) ∈ BIG := bigIn 345 (by rfl) (by rfl)
theorem wd346 : Cond.methodLink "FretSchoolLaw" 102 yL_pitch ∈ BIG := bigIn 346 (by rfl) (by rfl)
theorem wd347 : Cond.static yL_pitch ∈ BIG := bigIn 347 (by rfl) (by rfl)
theorem wd348 : Cond.codeWith yL_pitch cL_pitch 5 (some .int) [(0, 10, 13, 19)] ∈ BIG := bigIn 348 (by rfl) (by rfl)
theorem wd349 : Cond.methodLink "FretSchoolLaw" 27 yX5_pitch ∈ BIG := bigIn 349 (by rfl) (by rfl)
theorem wd350 : Cond.instanceMethod yX5_pitch ∈ BIG := bigIn 350 (by rfl) (by rfl)
theorem wd351 : Cond.selects "FretSchool" yX5_pitch yX5_pitch ∈ BIG := bigIn 351 (by rfl) (by rfl)
theorem wd352 : Cond.code yX5_pitch cX5_pitch 3 (some .int) ∈ BIG := bigIn 352 (by rfl) (by rfl)
theorem wd353 : Cond.methodLink "FretSchool" 97 yX5_needNote ∈ BIG := bigIn 353 (by rfl) (by rfl)
theorem wd355 : Cond.instanceMethod yX5_needNote ∈ BIG := bigIn 355 (by rfl) (by rfl)
theorem wd356 : Cond.code yX5_needNote cX5_needNote 3 (none : Option Jvm.ClassFile.FieldType) ∈ BIG := bigIn 356 (by rfl) (by rfl)
theorem wt357 : Cond.stringRef "FretSchool" 214 "there is no such note" ∈ lw_tbl := List.mem_of_getElem? (i := 357) (by rfl)
theorem wd358 : Cond.methodLink "FretSchoolLaw" 105 yL_tune ∈ BIG := bigIn 358 (by rfl) (by rfl)
theorem wd359 : Cond.static yL_tune ∈ BIG := bigIn 359 (by rfl) (by rfl)
theorem wd360 : Cond.codeWith yL_tune cL_tune 6 (some .int) [(0, 12, 15, 19), (0, 12, 19, 21)] ∈ BIG := bigIn 360 (by rfl) (by rfl)
theorem wd361 : Cond.methodLink "FretSchoolLaw" 30 yX5_tune ∈ BIG := bigIn 361 (by rfl) (by rfl)
theorem wd362 : Cond.instanceMethod yX5_tune ∈ BIG := bigIn 362 (by rfl) (by rfl)
theorem wd363 : Cond.selects "FretSchool" yX5_tune yX5_tune ∈ BIG := bigIn 363 (by rfl) (by rfl)
theorem wd364 : Cond.code yX5_tune cX5_tune 6 (some .int) ∈ BIG := bigIn 364 (by rfl) (by rfl)
theorem wd365 : Cond.methodLink "FretSchool" 104 yX5_needInstrument ∈ BIG := bigIn 365 (by rfl) (by rfl)
theorem wd367 : Cond.instanceMethod yX5_needInstrument ∈ BIG := bigIn 367 (by rfl) (by rfl)
theorem wd368 : Cond.code yX5_needInstrument cX5_needInstrument 2 (none : Option Jvm.ClassFile.FieldType) ∈ BIG := bigIn 368 (by rfl) (by rfl)
theorem wt369 : Cond.stringRef "FretSchool" 216 "there is no such instrument" ∈ lw_tbl := List.mem_of_getElem? (i := 369) (by rfl)
theorem wd370 : Cond.methodLink "FretSchoolLaw" 109 yL_owner ∈ BIG := bigIn 370 (by rfl) (by rfl)
theorem wd371 : Cond.static yL_owner ∈ BIG := bigIn 371 (by rfl) (by rfl)
theorem wd372 : Cond.codeWith yL_owner cL_owner 4 (some .int) [(0, 9, 12, 19)] ∈ BIG := bigIn 372 (by rfl) (by rfl)
theorem wd373 : Cond.methodLink "FretSchoolLaw" 34 yX5_owner ∈ BIG := bigIn 373 (by rfl) (by rfl)
theorem wd374 : Cond.instanceMethod yX5_owner ∈ BIG := bigIn 374 (by rfl) (by rfl)
theorem wd375 : Cond.selects "FretSchool" yX5_owner yX5_owner ∈ BIG := bigIn 375 (by rfl) (by rfl)
theorem wd376 : Cond.code yX5_owner cX5_owner 2 (some .int) ∈ BIG := bigIn 376 (by rfl) (by rfl)
theorem wd377 : Cond.methodLink "FretSchoolLaw" 117 yL_shifts ∈ BIG := bigIn 377 (by rfl) (by rfl)
theorem wd378 : Cond.static yL_shifts ∈ BIG := bigIn 378 (by rfl) (by rfl)
theorem wd379 : Cond.codeWith yL_shifts cL_shifts 5 (some .int) [(0, 10, 13, 19)] ∈ BIG := bigIn 379 (by rfl) (by rfl)
theorem wd380 : Cond.methodLink "FretSchoolLaw" 38 yX5_shifts ∈ BIG := bigIn 380 (by rfl) (by rfl)
theorem wd381 : Cond.instanceMethod yX5_shifts ∈ BIG := bigIn 381 (by rfl) (by rfl)
theorem wd382 : Cond.selects "FretSchool" yX5_shifts yX5_shifts ∈ BIG := bigIn 382 (by rfl) (by rfl)
theorem wd383 : Cond.code yX5_shifts cX5_shifts 3 (some .int) ∈ BIG := bigIn 383 (by rfl) (by rfl)
theorem wd384 : Cond.methodLink "FretSchool" 113 yX5_findBest ∈ BIG := bigIn 384 (by rfl) (by rfl)
theorem wd386 : Cond.instanceMethod yX5_findBest ∈ BIG := bigIn 386 (by rfl) (by rfl)
theorem wd387 : Cond.code yX5_findBest cX5_findBest 3 (some .boolean) ∈ BIG := bigIn 387 (by rfl) (by rfl)
theorem wd388 : Cond.methodLink "FretSchool" 225 yX0_placeBest ∈ BIG := bigIn 388 (by rfl) (by rfl)
theorem wd389 : Cond.instanceMethod yX0_placeBest ∈ BIG := bigIn 389 (by rfl) (by rfl)
theorem wd390 : Cond.selects "FretSchool$Hand" yX0_placeBest yX0_placeBest ∈ BIG := bigIn 390 (by rfl) (by rfl)
theorem wd391 : Cond.code yX0_placeBest cX0_placeBest 4 (some .boolean) ∈ BIG := bigIn 391 (by rfl) (by rfl)
theorem wd392 : Cond.methodLink "FretSchool$Hand" 30 yX0_feelReach ∈ BIG := bigIn 392 (by rfl) (by rfl)
theorem wd394 : Cond.instanceMethod yX0_feelReach ∈ BIG := bigIn 394 (by rfl) (by rfl)
theorem wd395 : Cond.code yX0_feelReach cX0_feelReach 6 (none : Option Jvm.ClassFile.FieldType) ∈ BIG := bigIn 395 (by rfl) (by rfl)
theorem wd396 : Cond.methodLink "FretSchool$Hand" 52 yX1_highestPosition ∈ BIG := bigIn 396 (by rfl) (by rfl)
theorem wd397 : Cond.instanceMethod yX1_highestPosition ∈ BIG := bigIn 397 (by rfl) (by rfl)
theorem wd398 : Cond.selects "FretSchool$Instrument" yX1_highestPosition yX1_highestPosition ∈ BIG := bigIn 398 (by rfl) (by rfl)
theorem wd399 : Cond.code yX1_highestPosition cX1_highestPosition 1 (some .int) ∈ BIG := bigIn 399 (by rfl) (by rfl)
theorem wd400 : Cond.methodLink "FretSchool$Hand" 61 yX1_lowestString ∈ BIG := bigIn 400 (by rfl) (by rfl)
theorem wd401 : Cond.instanceMethod yX1_lowestString ∈ BIG := bigIn 401 (by rfl) (by rfl)
theorem wd402 : Cond.selects "FretSchool$Instrument" yX1_lowestString yX1_lowestString ∈ BIG := bigIn 402 (by rfl) (by rfl)
theorem wd403 : Cond.code yX1_lowestString cX1_lowestString 5 (some .int) ∈ BIG := bigIn 403 (by rfl) (by rfl)
theorem wd404 : Cond.methodLink "FretSchool$Hand" 39 yX0_measureRest ∈ BIG := bigIn 404 (by rfl) (by rfl)
theorem wd406 : Cond.instanceMethod yX0_measureRest ∈ BIG := bigIn 406 (by rfl) (by rfl)
theorem wd407 : Cond.code yX0_measureRest cX0_measureRest 5 (none : Option Jvm.ClassFile.FieldType) ∈ BIG := bigIn 407 (by rfl) (by rfl)
theorem wd408 : Cond.methodLink "FretSchool$Hand" 65 yX0_nearest ∈ BIG := bigIn 408 (by rfl) (by rfl)
theorem wd410 : Cond.instanceMethod yX0_nearest ∈ BIG := bigIn 410 (by rfl) (by rfl)
theorem wd411 : Cond.code yX0_nearest cX0_nearest 7 (some .int) ∈ BIG := bigIn 411 (by rfl) (by rfl)
theorem wd412 : Cond.constant "FretSchool$Hand" 51 (1000000 : Int32) ∈ BIG := bigIn 412 (by rfl) (by rfl)
theorem wd413 : Cond.methodLink "FretSchool$Hand" 72 yX0_shift ∈ BIG := bigIn 413 (by rfl) (by rfl)
theorem wd414 : Cond.static yX0_shift ∈ BIG := bigIn 414 (by rfl) (by rfl)
theorem wd415 : Cond.code yX0_shift cX0_shift 2 (some .int) ∈ BIG := bigIn 415 (by rfl) (by rfl)
theorem wd416 : Cond.methodLink "FretSchool$Hand" 75 yJ9_abs_0f7a4 ∈ BIG := bigIn 416 (by rfl) (by rfl)
theorem wd417 : Cond.static yJ9_abs_0f7a4 ∈ BIG := bigIn 417 (by rfl) (by rfl)
theorem wd418 : Cond.code yJ9_abs_0f7a4 cJ9_abs_0f7a4 1 (some .int) ∈ BIG := bigIn 418 (by rfl) (by rfl)
theorem wd419 : Cond.methodLink "FretSchool$Hand" 68 yX0_canReach ∈ BIG := bigIn 419 (by rfl) (by rfl)
theorem wd420 : Cond.static yX0_canReach ∈ BIG := bigIn 420 (by rfl) (by rfl)
theorem wd421 : Cond.code yX0_canReach cX0_canReach 2 (some .boolean) ∈ BIG := bigIn 421 (by rfl) (by rfl)
theorem wd422 : Cond.methodLink "FretSchool$Hand" 43 yX0_chooseRow ∈ BIG := bigIn 422 (by rfl) (by rfl)
theorem wd424 : Cond.instanceMethod yX0_chooseRow ∈ BIG := bigIn 424 (by rfl) (by rfl)
theorem wd425 : Cond.code yX0_chooseRow cX0_chooseRow 6 (some .boolean) ∈ BIG := bigIn 425 (by rfl) (by rfl)
theorem wd426 : Cond.methodLink "FretSchoolLaw" 120 yL_shiftsByAll ∈ BIG := bigIn 426 (by rfl) (by rfl)
theorem wd427 : Cond.static yL_shiftsByAll ∈ BIG := bigIn 427 (by rfl) (by rfl)
theorem wd428 : Cond.codeWith yL_shiftsByAll cL_shiftsByAll 5 (some .int) [(0, 10, 13, 19), (0, 10, 17, 13)] ∈ BIG := bigIn 428 (by rfl) (by rfl)
theorem wd429 : Cond.methodLink "FretSchoolLaw" 41 yX5_shiftsByAll ∈ BIG := bigIn 429 (by rfl) (by rfl)
theorem wd430 : Cond.instanceMethod yX5_shiftsByAll ∈ BIG := bigIn 430 (by rfl) (by rfl)
theorem wd431 : Cond.selects "FretSchool" yX5_shiftsByAll yX5_shiftsByAll ∈ BIG := bigIn 431 (by rfl) (by rfl)
theorem wd432 : Cond.code yX5_shiftsByAll cX5_shiftsByAll 3 (some .int) ∈ BIG := bigIn 432 (by rfl) (by rfl)
theorem wt433 : Cond.stringRef "FretSchool" 120 "the piece has more than 4 notes" ∈ lw_tbl := List.mem_of_getElem? (i := 433) (by rfl)
theorem wd434 : Cond.methodLink "FretSchool" 122 yX0_leastByAll ∈ BIG := bigIn 434 (by rfl) (by rfl)
theorem wd435 : Cond.instanceMethod yX0_leastByAll ∈ BIG := bigIn 435 (by rfl) (by rfl)
theorem wd436 : Cond.selects "FretSchool$Hand" yX0_leastByAll yX0_leastByAll ∈ BIG := bigIn 436 (by rfl) (by rfl)
theorem wd437 : Cond.code yX0_leastByAll cX0_leastByAll 4 (some .int) ∈ BIG := bigIn 437 (by rfl) (by rfl)
theorem wd438 : Cond.methodLink "FretSchool$Hand" 47 yX0_leastFrom ∈ BIG := bigIn 438 (by rfl) (by rfl)
theorem wd439 : Cond.static yX0_leastFrom ∈ BIG := bigIn 439 (by rfl) (by rfl)
set_option maxRecDepth 20000 in
theorem wd440 : Cond.code yX0_leastFrom cX0_leastFrom 7 (some .int) ∈ BIG := bigIn 440 (by rfl) (by rfl)
set_option maxRecDepth 20000 in
theorem wd441 : Cond.methodLink "FretSchoolLaw" 123 yL_hardest ∈ BIG := bigIn 441 (by rfl) (by rfl)
set_option maxRecDepth 20000 in
theorem wd442 : Cond.static yL_hardest ∈ BIG := bigIn 442 (by rfl) (by rfl)
set_option maxRecDepth 20000 in
theorem wd443 : Cond.codeWith yL_hardest cL_hardest 5 (some .int) [(0, 10, 13, 19)] ∈ BIG := bigIn 443 (by rfl) (by rfl)
set_option maxRecDepth 20000 in
theorem wd444 : Cond.methodLink "FretSchoolLaw" 44 yX5_hardest ∈ BIG := bigIn 444 (by rfl) (by rfl)
set_option maxRecDepth 20000 in
theorem wd445 : Cond.instanceMethod yX5_hardest ∈ BIG := bigIn 445 (by rfl) (by rfl)
set_option maxRecDepth 20000 in
theorem wd446 : Cond.selects "FretSchool" yX5_hardest yX5_hardest ∈ BIG := bigIn 446 (by rfl) (by rfl)
set_option maxRecDepth 20000 in
theorem wd447 : Cond.code yX5_hardest cX5_hardest 3 (some .int) ∈ BIG := bigIn 447 (by rfl) (by rfl)
set_option maxRecDepth 20000 in
theorem wd448 : Cond.methodLink "FretSchoolLaw" 126 yL_position ∈ BIG := bigIn 448 (by rfl) (by rfl)
set_option maxRecDepth 20000 in
theorem wd449 : Cond.static yL_position ∈ BIG := bigIn 449 (by rfl) (by rfl)
set_option maxRecDepth 20000 in
theorem wd450 : Cond.codeWith yL_position cL_position 6 (some .int) [(0, 12, 15, 19)] ∈ BIG := bigIn 450 (by rfl) (by rfl)
set_option maxRecDepth 20000 in
theorem wd451 : Cond.methodLink "FretSchoolLaw" 47 yX5_position ∈ BIG := bigIn 451 (by rfl) (by rfl)
set_option maxRecDepth 20000 in
theorem wd452 : Cond.instanceMethod yX5_position ∈ BIG := bigIn 452 (by rfl) (by rfl)
set_option maxRecDepth 20000 in
theorem wd453 : Cond.selects "FretSchool" yX5_position yX5_position ∈ BIG := bigIn 453 (by rfl) (by rfl)
set_option maxRecDepth 20000 in
theorem wd454 : Cond.code yX5_position cX5_position 4 (some .int) ∈ BIG := bigIn 454 (by rfl) (by rfl)
set_option maxRecDepth 20000 in
theorem wd455 : Cond.methodLink "FretSchoolLaw" 129 yL_string ∈ BIG := bigIn 455 (by rfl) (by rfl)
set_option maxRecDepth 20000 in
theorem wd456 : Cond.static yL_string ∈ BIG := bigIn 456 (by rfl) (by rfl)
set_option maxRecDepth 20000 in
theorem wd457 : Cond.codeWith yL_string cL_string 6 (some .int) [(0, 12, 15, 19)] ∈ BIG := bigIn 457 (by rfl) (by rfl)
set_option maxRecDepth 20000 in
theorem wd458 : Cond.methodLink "FretSchoolLaw" 50 yX5_string ∈ BIG := bigIn 458 (by rfl) (by rfl)
set_option maxRecDepth 20000 in
theorem wd459 : Cond.instanceMethod yX5_string ∈ BIG := bigIn 459 (by rfl) (by rfl)
set_option maxRecDepth 20000 in
theorem wd460 : Cond.selects "FretSchool" yX5_string yX5_string ∈ BIG := bigIn 460 (by rfl) (by rfl)
set_option maxRecDepth 20000 in
theorem wd461 : Cond.code yX5_string cX5_string 4 (some .int) ∈ BIG := bigIn 461 (by rfl) (by rfl)
set_option maxRecDepth 20000 in
theorem wd462 : Cond.methodLink "FretSchool" 132 yX1_lowestString ∈ BIG := bigIn 462 (by rfl) (by rfl)
set_option maxRecDepth 20000 in
theorem wd463 : Cond.methodLink "FretSchoolLaw" 132 yL_learn ∈ BIG := bigIn 463 (by rfl) (by rfl)
set_option maxRecDepth 20000 in
theorem wd464 : Cond.static yL_learn ∈ BIG := bigIn 464 (by rfl) (by rfl)
set_option maxRecDepth 20000 in
theorem wd465 : Cond.codeWith yL_learn cL_learn 6 (some .int) [(0, 12, 15, 19), (0, 12, 19, 21), (0, 12, 23, 13)] ∈ BIG := bigIn 465 (by rfl) (by rfl)
set_option maxRecDepth 20000 in
theorem wd466 : Cond.methodLink "FretSchoolLaw" 53 yX5_learn ∈ BIG := bigIn 466 (by rfl) (by rfl)
set_option maxRecDepth 20000 in
theorem wd467 : Cond.instanceMethod yX5_learn ∈ BIG := bigIn 467 (by rfl) (by rfl)
set_option maxRecDepth 20000 in
theorem wd468 : Cond.selects "FretSchool" yX5_learn yX5_learn ∈ BIG := bigIn 468 (by rfl) (by rfl)
set_option maxRecDepth 20000 in
theorem wd469 : Cond.code yX5_learn cX5_learn 6 (some .int) ∈ BIG := bigIn 469 (by rfl) (by rfl)
set_option maxRecDepth 20000 in
theorem wd470 : Cond.methodLink "FretSchool" 136 yX5_needPupil ∈ BIG := bigIn 470 (by rfl) (by rfl)
set_option maxRecDepth 20000 in
theorem wd471 : Cond.static yX5_needPupil ∈ BIG := bigIn 471 (by rfl) (by rfl)
set_option maxRecDepth 20000 in
theorem wd472 : Cond.code yX5_needPupil cX5_needPupil 1 (none : Option Jvm.ClassFile.FieldType) ∈ BIG := bigIn 472 (by rfl) (by rfl)
set_option maxRecDepth 20000 in
theorem wd473 : Cond.methodLink "FretSchool" 139 yX4_knows ∈ BIG := bigIn 473 (by rfl) (by rfl)
set_option maxRecDepth 20000 in
theorem wd474 : Cond.instanceMethod yX4_knows ∈ BIG := bigIn 474 (by rfl) (by rfl)
set_option maxRecDepth 20000 in
theorem wd475 : Cond.selects "FretSchool$Pupil" yX4_knows yX4_knows ∈ BIG := bigIn 475 (by rfl) (by rfl)
set_option maxRecDepth 20000 in
theorem wd476 : Cond.code yX4_knows cX4_knows 2 (some .boolean) ∈ BIG := bigIn 476 (by rfl) (by rfl)
set_option maxRecDepth 20000 in
theorem wt477 : Cond.stringRef "FretSchool" 142 "the pupil knows the piece" ∈ lw_tbl := List.mem_of_getElem? (i := 477) (by rfl)
set_option maxRecDepth 20000 in
theorem wd478 : Cond.methodLink "FretSchool" 144 yX5_learnableShift ∈ BIG := bigIn 478 (by rfl) (by rfl)
set_option maxRecDepth 20000 in
theorem wd480 : Cond.instanceMethod yX5_learnableShift ∈ BIG := bigIn 480 (by rfl) (by rfl)
set_option maxRecDepth 20000 in
theorem wd481 : Cond.code yX5_learnableShift cX5_learnableShift 4 (some .int) ∈ BIG := bigIn 481 (by rfl) (by rfl)
set_option maxRecDepth 20000 in
theorem wt482 : Cond.stringRef "FretSchool" 148 "the pupil cannot learn the piece there" ∈ lw_tbl := List.mem_of_getElem? (i := 482) (by rfl)
set_option maxRecDepth 20000 in
theorem wd483 : Cond.methodLink "FretSchool" 150 yX4_takeIn ∈ BIG := bigIn 483 (by rfl) (by rfl)
set_option maxRecDepth 20000 in
theorem wd484 : Cond.instanceMethod yX4_takeIn ∈ BIG := bigIn 484 (by rfl) (by rfl)
set_option maxRecDepth 20000 in
theorem wd485 : Cond.selects "FretSchool$Pupil" yX4_takeIn yX4_takeIn ∈ BIG := bigIn 485 (by rfl) (by rfl)
set_option maxRecDepth 20000 in
theorem wd486 : Cond.code yX4_takeIn cX4_takeIn 3 (none : Option Jvm.ClassFile.FieldType) ∈ BIG := bigIn 486 (by rfl) (by rfl)
set_option maxRecDepth 20000 in
theorem wd487 : Cond.methodLink "FretSchoolLaw" 135 yL_level ∈ BIG := bigIn 487 (by rfl) (by rfl)
set_option maxRecDepth 20000 in
theorem wd488 : Cond.static yL_level ∈ BIG := bigIn 488 (by rfl) (by rfl)
set_option maxRecDepth 20000 in
theorem wd489 : Cond.codeWith yL_level cL_level 4 (some .int) [(0, 9, 12, 21)] ∈ BIG := bigIn 489 (by rfl) (by rfl)
set_option maxRecDepth 20000 in
theorem wd490 : Cond.methodLink "FretSchoolLaw" 56 yX5_level ∈ BIG := bigIn 490 (by rfl) (by rfl)
set_option maxRecDepth 20000 in
theorem wd491 : Cond.instanceMethod yX5_level ∈ BIG := bigIn 491 (by rfl) (by rfl)
set_option maxRecDepth 20000 in
theorem wd492 : Cond.selects "FretSchool" yX5_level yX5_level ∈ BIG := bigIn 492 (by rfl) (by rfl)
set_option maxRecDepth 20000 in
theorem wd493 : Cond.code yX5_level cX5_level 2 (some .int) ∈ BIG := bigIn 493 (by rfl) (by rfl)
set_option maxRecDepth 20000 in
theorem wd494 : Cond.methodLink "FretSchoolLaw" 138 yL_known ∈ BIG := bigIn 494 (by rfl) (by rfl)
set_option maxRecDepth 20000 in
theorem wd495 : Cond.static yL_known ∈ BIG := bigIn 495 (by rfl) (by rfl)
set_option maxRecDepth 20000 in
theorem wd496 : Cond.codeWith yL_known cL_known 4 (some .int) [(0, 9, 12, 21)] ∈ BIG := bigIn 496 (by rfl) (by rfl)
set_option maxRecDepth 20000 in
theorem wd497 : Cond.methodLink "FretSchoolLaw" 59 yX5_known ∈ BIG := bigIn 497 (by rfl) (by rfl)
set_option maxRecDepth 20000 in
theorem wd498 : Cond.instanceMethod yX5_known ∈ BIG := bigIn 498 (by rfl) (by rfl)
set_option maxRecDepth 20000 in
theorem wd499 : Cond.selects "FretSchool" yX5_known yX5_known ∈ BIG := bigIn 499 (by rfl) (by rfl)
set_option maxRecDepth 20000 in
theorem wd500 : Cond.code yX5_known cX5_known 2 (some .int) ∈ BIG := bigIn 500 (by rfl) (by rfl)
set_option maxRecDepth 20000 in
theorem wd501 : Cond.methodLink "FretSchoolLaw" 141 yL_next ∈ BIG := bigIn 501 (by rfl) (by rfl)
set_option maxRecDepth 20000 in
theorem wd502 : Cond.static yL_next ∈ BIG := bigIn 502 (by rfl) (by rfl)
set_option maxRecDepth 20000 in
theorem wd503 : Cond.codeWith yL_next cL_next 4 (some .int) [(0, 9, 12, 21)] ∈ BIG := bigIn 503 (by rfl) (by rfl)
set_option maxRecDepth 20000 in
theorem wd504 : Cond.methodLink "FretSchoolLaw" 62 yX5_next ∈ BIG := bigIn 504 (by rfl) (by rfl)
set_option maxRecDepth 20000 in
theorem wd505 : Cond.instanceMethod yX5_next ∈ BIG := bigIn 505 (by rfl) (by rfl)
set_option maxRecDepth 20000 in
theorem wd506 : Cond.selects "FretSchool" yX5_next yX5_next ∈ BIG := bigIn 506 (by rfl) (by rfl)
set_option maxRecDepth 20000 in
theorem wd507 : Cond.code yX5_next cX5_next 6 (some .int) ∈ BIG := bigIn 507 (by rfl) (by rfl)
set_option maxRecDepth 20000 in
theorem wd508 : Cond.methodLink "FretSchool" 159 yX5_easiestShift ∈ BIG := bigIn 508 (by rfl) (by rfl)
set_option maxRecDepth 20000 in
theorem wd510 : Cond.instanceMethod yX5_easiestShift ∈ BIG := bigIn 510 (by rfl) (by rfl)
set_option maxRecDepth 20000 in
theorem wd511 : Cond.code yX5_easiestShift cX5_easiestShift 6 (some .int) ∈ BIG := bigIn 511 (by rfl) (by rfl)
set_option maxRecDepth 20000 in
theorem wd512 : Cond.methodLink "FretSchoolLaw" 144 yL_addWood ∈ BIG := bigIn 512 (by rfl) (by rfl)
set_option maxRecDepth 20000 in
theorem wd513 : Cond.static yL_addWood ∈ BIG := bigIn 513 (by rfl) (by rfl)
set_option maxRecDepth 20000 in
theorem wd514 : Cond.codeWith yL_addWood cL_addWood 5 (some .int) [(0, 10, 13, 21)] ∈ BIG := bigIn 514 (by rfl) (by rfl)
set_option maxRecDepth 20000 in
theorem wd515 : Cond.methodLink "FretSchoolLaw" 65 yX5_addWood ∈ BIG := bigIn 515 (by rfl) (by rfl)
set_option maxRecDepth 20000 in
theorem wd516 : Cond.instanceMethod yX5_addWood ∈ BIG := bigIn 516 (by rfl) (by rfl)
set_option maxRecDepth 20000 in
theorem wd517 : Cond.selects "FretSchool" yX5_addWood yX5_addWood ∈ BIG := bigIn 517 (by rfl) (by rfl)
set_option maxRecDepth 20000 in
theorem wd518 : Cond.code yX5_addWood cX5_addWood 3 (some .int) ∈ BIG := bigIn 518 (by rfl) (by rfl)
set_option maxRecDepth 20000 in
theorem wd519 : Cond.methodLink "FretSchoolLaw" 147 yL_order ∈ BIG := bigIn 519 (by rfl) (by rfl)
set_option maxRecDepth 20000 in
theorem wd520 : Cond.static yL_order ∈ BIG := bigIn 520 (by rfl) (by rfl)
set_option maxRecDepth 20000 in
theorem wd521 : Cond.codeWith yL_order cL_order 6 (some .int) [(0, 12, 15, 21), (0, 12, 19, 13)] ∈ BIG := bigIn 521 (by rfl) (by rfl)
set_option maxRecDepth 20000 in
theorem wd522 : Cond.methodLink "FretSchoolLaw" 68 yX5_order ∈ BIG := bigIn 522 (by rfl) (by rfl)
set_option maxRecDepth 20000 in
theorem wd523 : Cond.instanceMethod yX5_order ∈ BIG := bigIn 523 (by rfl) (by rfl)
set_option maxRecDepth 20000 in
theorem wd524 : Cond.selects "FretSchool" yX5_order yX5_order ∈ BIG := bigIn 524 (by rfl) (by rfl)
set_option maxRecDepth 20000 in
theorem wd525 : Cond.code yX5_order cX5_order 5 (some .int) ∈ BIG := bigIn 525 (by rfl) (by rfl)
set_option maxRecDepth 20000 in
theorem wt526 : Cond.stringRef "FretSchool" 162 "there is too little of the wood" ∈ lw_tbl := List.mem_of_getElem? (i := 526) (by rfl)
set_option maxRecDepth 20000 in
theorem wd527 : Cond.methodLink "FretSchool" 164 yX5_ordersAtWork ∈ BIG := bigIn 527 (by rfl) (by rfl)
set_option maxRecDepth 20000 in
theorem wd529 : Cond.instanceMethod yX5_ordersAtWork ∈ BIG := bigIn 529 (by rfl) (by rfl)
set_option maxRecDepth 20000 in
theorem wd530 : Cond.code yX5_ordersAtWork cX5_ordersAtWork 3 (some .int) ∈ BIG := bigIn 530 (by rfl) (by rfl)
set_option maxRecDepth 20000 in
theorem wd531 : Cond.methodLink "FretSchool" 181 yX2_isReady ∈ BIG := bigIn 531 (by rfl) (by rfl)
set_option maxRecDepth 20000 in
theorem wd532 : Cond.instanceMethod yX2_isReady ∈ BIG := bigIn 532 (by rfl) (by rfl)
set_option maxRecDepth 20000 in
theorem wd533 : Cond.selects "FretSchool$Order" yX2_isReady yX2_isReady ∈ BIG := bigIn 533 (by rfl) (by rfl)
set_option maxRecDepth 20000 in
theorem wd534 : Cond.code yX2_isReady cX2_isReady 2 (some .boolean) ∈ BIG := bigIn 534 (by rfl) (by rfl)
set_option maxRecDepth 20000 in
theorem wt535 : Cond.stringRef "FretSchool" 168 "two orders are at work" ∈ lw_tbl := List.mem_of_getElem? (i := 535) (by rfl)
set_option maxRecDepth 20000 in
theorem wt536 : Cond.stringRef "FretSchool" 170 "there are 20 orders" ∈ lw_tbl := List.mem_of_getElem? (i := 536) (by rfl)
set_option maxRecDepth 20000 in
theorem wd537 : Cond.methodLink "FretSchool" 172 yX2_place ∈ BIG := bigIn 537 (by rfl) (by rfl)
set_option maxRecDepth 20000 in
theorem wd538 : Cond.instanceMethod yX2_place ∈ BIG := bigIn 538 (by rfl) (by rfl)
set_option maxRecDepth 20000 in
theorem wd539 : Cond.selects "FretSchool$Order" yX2_place yX2_place ∈ BIG := bigIn 539 (by rfl) (by rfl)
set_option maxRecDepth 20000 in
theorem wd540 : Cond.code yX2_place cX2_place 4 (none : Option Jvm.ClassFile.FieldType) ∈ BIG := bigIn 540 (by rfl) (by rfl)
set_option maxRecDepth 20000 in
theorem wd541 : Cond.methodLink "FretSchoolLaw" 150 yL_ready ∈ BIG := bigIn 541 (by rfl) (by rfl)
set_option maxRecDepth 20000 in
theorem wd542 : Cond.static yL_ready ∈ BIG := bigIn 542 (by rfl) (by rfl)
set_option maxRecDepth 20000 in
theorem wd543 : Cond.codeWith yL_ready cL_ready 4 (some .int) [(0, 9, 12, 19)] ∈ BIG := bigIn 543 (by rfl) (by rfl)
set_option maxRecDepth 20000 in
theorem wd544 : Cond.methodLink "FretSchoolLaw" 71 yX5_ready ∈ BIG := bigIn 544 (by rfl) (by rfl)
set_option maxRecDepth 20000 in
theorem wd545 : Cond.instanceMethod yX5_ready ∈ BIG := bigIn 545 (by rfl) (by rfl)
set_option maxRecDepth 20000 in
theorem wd546 : Cond.selects "FretSchool" yX5_ready yX5_ready ∈ BIG := bigIn 546 (by rfl) (by rfl)
set_option maxRecDepth 20000 in
theorem wd547 : Cond.code yX5_ready cX5_ready 2 (some .int) ∈ BIG := bigIn 547 (by rfl) (by rfl)
set_option maxRecDepth 20000 in
theorem wd548 : Cond.methodLink "FretSchool" 175 yX5_needOrder ∈ BIG := bigIn 548 (by rfl) (by rfl)
set_option maxRecDepth 20000 in
theorem wd550 : Cond.instanceMethod yX5_needOrder ∈ BIG := bigIn 550 (by rfl) (by rfl)
set_option maxRecDepth 20000 in
theorem wd551 : Cond.code yX5_needOrder cX5_needOrder 2 (none : Option Jvm.ClassFile.FieldType) ∈ BIG := bigIn 551 (by rfl) (by rfl)
set_option maxRecDepth 20000 in
theorem wt552 : Cond.stringRef "FretSchool" 218 "there is no such order" ∈ lw_tbl := List.mem_of_getElem? (i := 552) (by rfl)
set_option maxRecDepth 20000 in
theorem wd553 : Cond.methodLink "FretSchoolLaw" 153 yL_fetch ∈ BIG := bigIn 553 (by rfl) (by rfl)
set_option maxRecDepth 20000 in
theorem wd554 : Cond.static yL_fetch ∈ BIG := bigIn 554 (by rfl) (by rfl)
set_option maxRecDepth 20000 in
theorem wd555 : Cond.codeWith yL_fetch cL_fetch 8 (some .int) [(0, 16, 19, 19), (0, 16, 23, 21), (0, 16, 27, 13)] ∈ BIG := bigIn 555 (by rfl) (by rfl)
set_option maxRecDepth 20000 in
theorem wd556 : Cond.methodLink "FretSchoolLaw" 74 yX5_fetch ∈ BIG := bigIn 556 (by rfl) (by rfl)
set_option maxRecDepth 20000 in
theorem wd557 : Cond.instanceMethod yX5_fetch ∈ BIG := bigIn 557 (by rfl) (by rfl)
set_option maxRecDepth 20000 in
theorem wd558 : Cond.selects "FretSchool" yX5_fetch yX5_fetch ∈ BIG := bigIn 558 (by rfl) (by rfl)
set_option maxRecDepth 20000 in
theorem wd559 : Cond.code yX5_fetch cX5_fetch 8 (some .int) ∈ BIG := bigIn 559 (by rfl) (by rfl)
set_option maxRecDepth 20000 in
theorem wt560 : Cond.stringRef "FretSchool" 184 "the order is not ready" ∈ lw_tbl := List.mem_of_getElem? (i := 560) (by rfl)
set_option maxRecDepth 20000 in
theorem wt561 : Cond.stringRef "FretSchool" 190 "the order was fetched" ∈ lw_tbl := List.mem_of_getElem? (i := 561) (by rfl)
set_option maxRecDepth 20000 in
theorem wt562 : Cond.stringRef "FretSchool" 192 "there are 8 instruments" ∈ lw_tbl := List.mem_of_getElem? (i := 562) (by rfl)
set_option maxRecDepth 20000 in
theorem wd563 : Cond.methodLink "FretSchool" 200 yX1_build ∈ BIG := bigIn 563 (by rfl) (by rfl)
set_option maxRecDepth 20000 in
theorem wd564 : Cond.instanceMethod yX1_build ∈ BIG := bigIn 564 (by rfl) (by rfl)
set_option maxRecDepth 20000 in
theorem wd565 : Cond.selects "FretSchool$Instrument" yX1_build yX1_build ∈ BIG := bigIn 565 (by rfl) (by rfl)
set_option maxRecDepth 20000 in
theorem wd566 : Cond.code yX1_build cX1_build 3 (none : Option Jvm.ClassFile.FieldType) ∈ BIG := bigIn 566 (by rfl) (by rfl)
set_option maxRecDepth 20000 in
theorem wd567 : Cond.methodLink "FretSchool" 203 yX1_tuneAll ∈ BIG := bigIn 567 (by rfl) (by rfl)
set_option maxRecDepth 20000 in
theorem wd568 : Cond.instanceMethod yX1_tuneAll ∈ BIG := bigIn 568 (by rfl) (by rfl)
set_option maxRecDepth 20000 in
theorem wd569 : Cond.selects "FretSchool$Instrument" yX1_tuneAll yX1_tuneAll ∈ BIG := bigIn 569 (by rfl) (by rfl)
set_option maxRecDepth 20000 in
theorem wd570 : Cond.code yX1_tuneAll cX1_tuneAll 5 (none : Option Jvm.ClassFile.FieldType) ∈ BIG := bigIn 570 (by rfl) (by rfl)
set_option maxRecDepth 20000 in
theorem wd571 : Cond.methodLink "FretSchoolLaw" 157 yL_pass ∈ BIG := bigIn 571 (by rfl) (by rfl)
set_option maxRecDepth 20000 in
theorem wd572 : Cond.static yL_pass ∈ BIG := bigIn 572 (by rfl) (by rfl)
set_option maxRecDepth 20000 in
theorem wd573 : Cond.codeWith yL_pass cL_pass 4 (some .int) [(0, 9, 12, 21), (0, 9, 15, 13)] ∈ BIG := bigIn 573 (by rfl) (by rfl)
set_option maxRecDepth 20000 in
theorem wd574 : Cond.methodLink "FretSchoolLaw" 78 yX5_pass ∈ BIG := bigIn 574 (by rfl) (by rfl)
set_option maxRecDepth 20000 in
theorem wd575 : Cond.instanceMethod yX5_pass ∈ BIG := bigIn 575 (by rfl) (by rfl)
set_option maxRecDepth 20000 in
theorem wd576 : Cond.selects "FretSchool" yX5_pass yX5_pass ∈ BIG := bigIn 576 (by rfl) (by rfl)
set_option maxRecDepth 20000 in
theorem wd577 : Cond.code yX5_pass cX5_pass 2 (some .int) ∈ BIG := bigIn 577 (by rfl) (by rfl)
set_option maxRecDepth 20000 in
theorem wt578 : Cond.stringRef "FretSchool" 207 "today would be above 5000" ∈ lw_tbl := List.mem_of_getElem? (i := 578) (by rfl)
set_option maxRecDepth 20000 in
theorem wd579 : Cond.classLink "FretSchoolLaw" 82 "FretSchoolModel" ∈ BIG := bigIn 579 (by rfl) (by rfl)
set_option maxRecDepth 20000 in
theorem wd580 : Cond.instantiable "FretSchoolModel" 19 ∈ BIG := bigIn 580 (by rfl) (by rfl)
set_option maxRecDepth 20000 in
theorem wd581 : Cond.methodLink "FretSchoolLaw" 84 yX6_init ∈ BIG := bigIn 581 (by rfl) (by rfl)
set_option maxRecDepth 20000 in
theorem wd582 : Cond.instanceMethod yX6_init ∈ BIG := bigIn 582 (by rfl) (by rfl)
set_option maxRecDepth 20000 in
theorem wd583 : Cond.code yX6_init cX6_init 2 (none : Option Jvm.ClassFile.FieldType) ∈ BIG := bigIn 583 (by rfl) (by rfl)
set_option maxRecDepth 20000 in
theorem wd584 : Cond.methodLink "FretSchoolModel" 1 (⟨"java/lang/Object", "<init>", "()V"⟩ : MethodName) ∈ BIG := bigIn 584 (by rfl) (by rfl)
set_option maxRecDepth 20000 in
theorem wd585 : Cond.fieldLink "FretSchoolModel" 127 "FretSchoolModel" "today" "I" ∈ BIG := bigIn 585 (by rfl) (by rfl)
set_option maxRecDepth 20000 in
theorem wd586 : Cond.fieldLink "FretSchoolModel" 57 "FretSchoolModel" "pieces" "I" ∈ BIG := bigIn 586 (by rfl) (by rfl)
set_option maxRecDepth 20000 in
theorem wd587 : Cond.fieldLink "FretSchoolModel" 7 "FretSchoolModel" "many" "[I" ∈ BIG := bigIn 587 (by rfl) (by rfl)
set_option maxRecDepth 20000 in
theorem wd588 : Cond.fieldLink "FretSchoolModel" 13 "FretSchoolModel" "pitch" "[I" ∈ BIG := bigIn 588 (by rfl) (by rfl)
set_option maxRecDepth 20000 in
theorem wd589 : Cond.fieldLink "FretSchoolModel" 68 "FretSchoolModel" "instruments" "I" ∈ BIG := bigIn 589 (by rfl) (by rfl)
set_option maxRecDepth 20000 in
theorem wd590 : Cond.fieldLink "FretSchoolModel" 16 "FretSchoolModel" "owner" "[I" ∈ BIG := bigIn 590 (by rfl) (by rfl)
set_option maxRecDepth 20000 in
theorem wd591 : Cond.fieldLink "FretSchoolModel" 19 "FretSchoolModel" "frets" "[I" ∈ BIG := bigIn 591 (by rfl) (by rfl)
set_option maxRecDepth 20000 in
theorem wd592 : Cond.fieldLink "FretSchoolModel" 22 "FretSchoolModel" "open" "[I" ∈ BIG := bigIn 592 (by rfl) (by rfl)
set_option maxRecDepth 20000 in
theorem wd593 : Cond.fieldLink "FretSchoolModel" 25 "FretSchoolModel" "level" "[I" ∈ BIG := bigIn 593 (by rfl) (by rfl)
set_option maxRecDepth 20000 in
theorem wd594 : Cond.fieldLink "FretSchoolModel" 28 "FretSchoolModel" "known" "[I" ∈ BIG := bigIn 594 (by rfl) (by rfl)
set_option maxRecDepth 20000 in
theorem wd595 : Cond.fieldLink "FretSchoolModel" 31 "FretSchoolModel" "stock" "[I" ∈ BIG := bigIn 595 (by rfl) (by rfl)
set_option maxRecDepth 20000 in
theorem wd596 : Cond.fieldLink "FretSchoolModel" 71 "FretSchoolModel" "orders" "I" ∈ BIG := bigIn 596 (by rfl) (by rfl)
set_option maxRecDepth 20000 in
theorem wd597 : Cond.fieldLink "FretSchoolModel" 34 "FretSchoolModel" "buyer" "[I" ∈ BIG := bigIn 597 (by rfl) (by rfl)
set_option maxRecDepth 20000 in
theorem wd598 : Cond.fieldLink "FretSchoolModel" 37 "FretSchoolModel" "ordered" "[I" ∈ BIG := bigIn 598 (by rfl) (by rfl)
set_option maxRecDepth 20000 in
theorem wd599 : Cond.fieldLink "FretSchoolModel" 40 "FretSchoolModel" "readyOn" "[I" ∈ BIG := bigIn 599 (by rfl) (by rfl)
set_option maxRecDepth 20000 in
theorem wd600 : Cond.fieldLink "FretSchoolModel" 43 "FretSchoolModel" "fetched" "[Z" ∈ BIG := bigIn 600 (by rfl) (by rfl)
set_option maxRecDepth 20000 in
theorem wd601 : Cond.fieldLink "FretSchoolModel" 47 "FretSchoolModel" "least" "[I" ∈ BIG := bigIn 601 (by rfl) (by rfl)
set_option maxRecDepth 20000 in
theorem wd602 : Cond.fieldLink "FretSchoolModel" 50 "FretSchoolModel" "best" "[I" ∈ BIG := bigIn 602 (by rfl) (by rfl)
set_option maxRecDepth 20000 in
theorem wd603 : Cond.fieldLink "FretSchoolModel" 53 "FretSchoolModel" "thrown" "I" ∈ BIG := bigIn 603 (by rfl) (by rfl)
set_option maxRecDepth 20000 in
theorem wd604 : Cond.lays "FretSchoolModel" "FretSchoolModel" "today" "I" ∈ BIG := bigIn 604 (by rfl) (by rfl)
set_option maxRecDepth 20000 in
theorem wd606 : Cond.lays "FretSchoolModel" "FretSchoolModel" "pieces" "I" ∈ BIG := bigIn 606 (by rfl) (by rfl)
set_option maxRecDepth 20000 in
theorem wd608 : Cond.laysFinal "FretSchoolModel" "FretSchoolModel" "many" "[I" ∈ BIG := bigIn 608 (by rfl) (by rfl)
set_option maxRecDepth 20000 in
theorem wd610 : Cond.laysFinal "FretSchoolModel" "FretSchoolModel" "pitch" "[I" ∈ BIG := bigIn 610 (by rfl) (by rfl)
set_option maxRecDepth 20000 in
theorem wd612 : Cond.lays "FretSchoolModel" "FretSchoolModel" "instruments" "I" ∈ BIG := bigIn 612 (by rfl) (by rfl)
set_option maxRecDepth 20000 in
theorem wd614 : Cond.laysFinal "FretSchoolModel" "FretSchoolModel" "owner" "[I" ∈ BIG := bigIn 614 (by rfl) (by rfl)
set_option maxRecDepth 20000 in
theorem wd616 : Cond.laysFinal "FretSchoolModel" "FretSchoolModel" "frets" "[I" ∈ BIG := bigIn 616 (by rfl) (by rfl)
set_option maxRecDepth 20000 in
theorem wd618 : Cond.laysFinal "FretSchoolModel" "FretSchoolModel" "open" "[I" ∈ BIG := bigIn 618 (by rfl) (by rfl)
set_option maxRecDepth 20000 in
theorem wd620 : Cond.laysFinal "FretSchoolModel" "FretSchoolModel" "level" "[I" ∈ BIG := bigIn 620 (by rfl) (by rfl)
set_option maxRecDepth 20000 in
theorem wd622 : Cond.laysFinal "FretSchoolModel" "FretSchoolModel" "known" "[I" ∈ BIG := bigIn 622 (by rfl) (by rfl)
set_option maxRecDepth 20000 in
theorem wd624 : Cond.laysFinal "FretSchoolModel" "FretSchoolModel" "stock" "[I" ∈ BIG := bigIn 624 (by rfl) (by rfl)
set_option maxRecDepth 20000 in
theorem wd626 : Cond.lays "FretSchoolModel" "FretSchoolModel" "orders" "I" ∈ BIG := bigIn 626 (by rfl) (by rfl)
set_option maxRecDepth 20000 in
theorem wd628 : Cond.laysFinal "FretSchoolModel" "FretSchoolModel" "buyer" "[I" ∈ BIG := bigIn 628 (by rfl) (by rfl)
set_option maxRecDepth 20000 in
theorem wd630 : Cond.laysFinal "FretSchoolModel" "FretSchoolModel" "ordered" "[I" ∈ BIG := bigIn 630 (by rfl) (by rfl)
set_option maxRecDepth 20000 in
theorem wd632 : Cond.laysFinal "FretSchoolModel" "FretSchoolModel" "readyOn" "[I" ∈ BIG := bigIn 632 (by rfl) (by rfl)
set_option maxRecDepth 20000 in
theorem wd634 : Cond.laysFinal "FretSchoolModel" "FretSchoolModel" "fetched" "[Z" ∈ BIG := bigIn 634 (by rfl) (by rfl)
set_option maxRecDepth 20000 in
theorem wd636 : Cond.laysFinal "FretSchoolModel" "FretSchoolModel" "least" "[I" ∈ BIG := bigIn 636 (by rfl) (by rfl)
set_option maxRecDepth 20000 in
theorem wd638 : Cond.laysFinal "FretSchoolModel" "FretSchoolModel" "best" "[I" ∈ BIG := bigIn 638 (by rfl) (by rfl)
set_option maxRecDepth 20000 in
theorem wd640 : Cond.lays "FretSchoolModel" "FretSchoolModel" "thrown" "I" ∈ BIG := bigIn 640 (by rfl) (by rfl)
set_option maxRecDepth 20000 in
theorem wd643 : Cond.arrayClass .boolean ∈ BIG := bigIn 643 (by rfl) (by rfl)
set_option maxRecDepth 20000 in
theorem wd644 : Cond.methodLink "FretSchoolLaw" 91 yX6_thrown ∈ BIG := bigIn 644 (by rfl) (by rfl)
set_option maxRecDepth 20000 in
theorem wd645 : Cond.instanceMethod yX6_thrown ∈ BIG := bigIn 645 (by rfl) (by rfl)
set_option maxRecDepth 20000 in
theorem wd646 : Cond.selects "FretSchoolModel" yX6_thrown yX6_thrown ∈ BIG := bigIn 646 (by rfl) (by rfl)
set_option maxRecDepth 20000 in
theorem wd647 : Cond.code yX6_thrown cX6_thrown 1 (some .int) ∈ BIG := bigIn 647 (by rfl) (by rfl)
set_option maxRecDepth 20000 in
theorem wd648 : Cond.methodLink "FretSchoolLaw" 90 yX6_begin ∈ BIG := bigIn 648 (by rfl) (by rfl)
set_option maxRecDepth 20000 in
theorem wd649 : Cond.instanceMethod yX6_begin ∈ BIG := bigIn 649 (by rfl) (by rfl)
set_option maxRecDepth 20000 in
theorem wd650 : Cond.selects "FretSchoolModel" yX6_begin yX6_begin ∈ BIG := bigIn 650 (by rfl) (by rfl)
set_option maxRecDepth 20000 in
theorem wd651 : Cond.code yX6_begin cX6_begin 1 (some .int) ∈ BIG := bigIn 651 (by rfl) (by rfl)
set_option maxRecDepth 20000 in
theorem wd652 : Cond.methodLink "FretSchoolModel" 74 yX6_goes ∈ BIG := bigIn 652 (by rfl) (by rfl)
set_option maxRecDepth 20000 in
theorem wd654 : Cond.instanceMethod yX6_goes ∈ BIG := bigIn 654 (by rfl) (by rfl)
set_option maxRecDepth 20000 in
theorem wd655 : Cond.code yX6_goes cX6_goes 4 (some .boolean) ∈ BIG := bigIn 655 (by rfl) (by rfl)
set_option maxRecDepth 20000 in
theorem wd656 : Cond.methodLink "FretSchoolLaw" 97 yX6_addNote ∈ BIG := bigIn 656 (by rfl) (by rfl)
set_option maxRecDepth 20000 in
theorem wd657 : Cond.instanceMethod yX6_addNote ∈ BIG := bigIn 657 (by rfl) (by rfl)
set_option maxRecDepth 20000 in
theorem wd658 : Cond.selects "FretSchoolModel" yX6_addNote yX6_addNote ∈ BIG := bigIn 658 (by rfl) (by rfl)
set_option maxRecDepth 20000 in
theorem wd659 : Cond.code yX6_addNote cX6_addNote 4 (some .int) ∈ BIG := bigIn 659 (by rfl) (by rfl)
set_option maxRecDepth 20000 in
theorem wd660 : Cond.methodLink "FretSchoolModel" 64 yX6_isPiece ∈ BIG := bigIn 660 (by rfl) (by rfl)
set_option maxRecDepth 20000 in
theorem wd662 : Cond.instanceMethod yX6_isPiece ∈ BIG := bigIn 662 (by rfl) (by rfl)
set_option maxRecDepth 20000 in
theorem wd663 : Cond.code yX6_isPiece cX6_isPiece 2 (some .boolean) ∈ BIG := bigIn 663 (by rfl) (by rfl)
set_option maxRecDepth 20000 in
theorem wd664 : Cond.methodLink "FretSchoolModel" 60 yX6_in ∈ BIG := bigIn 664 (by rfl) (by rfl)
set_option maxRecDepth 20000 in
theorem wd665 : Cond.static yX6_in ∈ BIG := bigIn 665 (by rfl) (by rfl)
set_option maxRecDepth 20000 in
theorem wd666 : Cond.code yX6_in cX6_in 3 (some .boolean) ∈ BIG := bigIn 666 (by rfl) (by rfl)
set_option maxRecDepth 20000 in
theorem wd667 : Cond.methodLink "FretSchoolLaw" 101 yX6_transpose ∈ BIG := bigIn 667 (by rfl) (by rfl)
set_option maxRecDepth 20000 in
theorem wd668 : Cond.instanceMethod yX6_transpose ∈ BIG := bigIn 668 (by rfl) (by rfl)
set_option maxRecDepth 20000 in
theorem wd669 : Cond.selects "FretSchoolModel" yX6_transpose yX6_transpose ∈ BIG := bigIn 669 (by rfl) (by rfl)
set_option maxRecDepth 20000 in
theorem wd670 : Cond.code yX6_transpose cX6_transpose 7 (none : Option Jvm.ClassFile.FieldType) ∈ BIG := bigIn 670 (by rfl) (by rfl)
set_option maxRecDepth 20000 in
theorem wd671 : Cond.methodLink "FretSchoolLaw" 104 yX6_pitch ∈ BIG := bigIn 671 (by rfl) (by rfl)
set_option maxRecDepth 20000 in
theorem wd672 : Cond.instanceMethod yX6_pitch ∈ BIG := bigIn 672 (by rfl) (by rfl)
set_option maxRecDepth 20000 in
theorem wd673 : Cond.selects "FretSchoolModel" yX6_pitch yX6_pitch ∈ BIG := bigIn 673 (by rfl) (by rfl)
set_option maxRecDepth 20000 in
theorem wd674 : Cond.code yX6_pitch cX6_pitch 3 (some .int) ∈ BIG := bigIn 674 (by rfl) (by rfl)
set_option maxRecDepth 20000 in
theorem wd675 : Cond.methodLink "FretSchoolModel" 78 yX6_isNote ∈ BIG := bigIn 675 (by rfl) (by rfl)
set_option maxRecDepth 20000 in
theorem wd677 : Cond.instanceMethod yX6_isNote ∈ BIG := bigIn 677 (by rfl) (by rfl)
set_option maxRecDepth 20000 in
theorem wd678 : Cond.code yX6_isNote cX6_isNote 3 (some .boolean) ∈ BIG := bigIn 678 (by rfl) (by rfl)
set_option maxRecDepth 20000 in
theorem wd679 : Cond.methodLink "FretSchoolLaw" 108 yX6_tune ∈ BIG := bigIn 679 (by rfl) (by rfl)
set_option maxRecDepth 20000 in
theorem wd680 : Cond.instanceMethod yX6_tune ∈ BIG := bigIn 680 (by rfl) (by rfl)
set_option maxRecDepth 20000 in
theorem wd681 : Cond.selects "FretSchoolModel" yX6_tune yX6_tune ∈ BIG := bigIn 681 (by rfl) (by rfl)
set_option maxRecDepth 20000 in
theorem wd682 : Cond.code yX6_tune cX6_tune 6 (some .int) ∈ BIG := bigIn 682 (by rfl) (by rfl)
set_option maxRecDepth 20000 in
theorem wd683 : Cond.methodLink "FretSchoolModel" 82 yX6_isInstrument ∈ BIG := bigIn 683 (by rfl) (by rfl)
set_option maxRecDepth 20000 in
theorem wd685 : Cond.instanceMethod yX6_isInstrument ∈ BIG := bigIn 685 (by rfl) (by rfl)
set_option maxRecDepth 20000 in
theorem wd686 : Cond.code yX6_isInstrument cX6_isInstrument 2 (some .boolean) ∈ BIG := bigIn 686 (by rfl) (by rfl)
set_option maxRecDepth 20000 in
theorem wd687 : Cond.methodLink "FretSchoolLaw" 112 yX6_owner ∈ BIG := bigIn 687 (by rfl) (by rfl)
set_option maxRecDepth 20000 in
theorem wd688 : Cond.instanceMethod yX6_owner ∈ BIG := bigIn 688 (by rfl) (by rfl)
set_option maxRecDepth 20000 in
theorem wd689 : Cond.selects "FretSchoolModel" yX6_owner yX6_owner ∈ BIG := bigIn 689 (by rfl) (by rfl)
set_option maxRecDepth 20000 in
theorem wd690 : Cond.code yX6_owner cX6_owner 2 (some .int) ∈ BIG := bigIn 690 (by rfl) (by rfl)
set_option maxRecDepth 20000 in
theorem wd691 : Cond.methodLink "FretSchoolLaw" 116 yX6_instruments ∈ BIG := bigIn 691 (by rfl) (by rfl)
set_option maxRecDepth 20000 in
theorem wd692 : Cond.instanceMethod yX6_instruments ∈ BIG := bigIn 692 (by rfl) (by rfl)
set_option maxRecDepth 20000 in
theorem wd693 : Cond.selects "FretSchoolModel" yX6_instruments yX6_instruments ∈ BIG := bigIn 693 (by rfl) (by rfl)
set_option maxRecDepth 20000 in
theorem wd694 : Cond.code yX6_instruments cX6_instruments 1 (some .int) ∈ BIG := bigIn 694 (by rfl) (by rfl)
set_option maxRecDepth 20000 in
theorem wd695 : Cond.methodLink "FretSchoolModel" 85 yX6_told ∈ BIG := bigIn 695 (by rfl) (by rfl)
set_option maxRecDepth 20000 in
theorem wd697 : Cond.instanceMethod yX6_told ∈ BIG := bigIn 697 (by rfl) (by rfl)
set_option maxRecDepth 20000 in
theorem wd698 : Cond.code yX6_told cX6_told 2 (some .int) ∈ BIG := bigIn 698 (by rfl) (by rfl)
set_option maxRecDepth 20000 in
theorem wd699 : Cond.methodLink "FretSchoolLaw" 119 yX6_shifts ∈ BIG := bigIn 699 (by rfl) (by rfl)
set_option maxRecDepth 20000 in
theorem wd700 : Cond.instanceMethod yX6_shifts ∈ BIG := bigIn 700 (by rfl) (by rfl)
set_option maxRecDepth 20000 in
theorem wd701 : Cond.selects "FretSchoolModel" yX6_shifts yX6_shifts ∈ BIG := bigIn 701 (by rfl) (by rfl)
set_option maxRecDepth 20000 in
theorem wd702 : Cond.code yX6_shifts cX6_shifts 3 (some .int) ∈ BIG := bigIn 702 (by rfl) (by rfl)
set_option maxRecDepth 20000 in
theorem wd703 : Cond.methodLink "FretSchoolModel" 106 yX6_asks ∈ BIG := bigIn 703 (by rfl) (by rfl)
set_option maxRecDepth 20000 in
theorem wd705 : Cond.instanceMethod yX6_asks ∈ BIG := bigIn 705 (by rfl) (by rfl)
set_option maxRecDepth 20000 in
theorem wd706 : Cond.code yX6_asks cX6_asks 3 (some .boolean) ∈ BIG := bigIn 706 (by rfl) (by rfl)
set_option maxRecDepth 20000 in
theorem wd707 : Cond.methodLink "FretSchoolModel" 109 yX6_finds ∈ BIG := bigIn 707 (by rfl) (by rfl)
set_option maxRecDepth 20000 in
theorem wd709 : Cond.instanceMethod yX6_finds ∈ BIG := bigIn 709 (by rfl) (by rfl)
set_option maxRecDepth 20000 in
theorem wd710 : Cond.code yX6_finds cX6_finds 7 (some .int) ∈ BIG := bigIn 710 (by rfl) (by rfl)
set_option maxRecDepth 20000 in
theorem wd711 : Cond.methodLink "FretSchoolModel" 102 yX6_from ∈ BIG := bigIn 711 (by rfl) (by rfl)
set_option maxRecDepth 20000 in
theorem wd713 : Cond.instanceMethod yX6_from ∈ BIG := bigIn 713 (by rfl) (by rfl)
set_option maxRecDepth 20000 in
theorem wd714 : Cond.code yX6_from cX6_from 8 (some .int) ∈ BIG := bigIn 714 (by rfl) (by rfl)
set_option maxRecDepth 20000 in
theorem wd715 : Cond.methodLink "FretSchoolModel" 93 yX6_plays ∈ BIG := bigIn 715 (by rfl) (by rfl)
set_option maxRecDepth 20000 in
theorem wd717 : Cond.instanceMethod yX6_plays ∈ BIG := bigIn 717 (by rfl) (by rfl)
set_option maxRecDepth 20000 in
theorem wd718 : Cond.code yX6_plays cX6_plays 7 (some .boolean) ∈ BIG := bigIn 718 (by rfl) (by rfl)
set_option maxRecDepth 20000 in
theorem wd719 : Cond.methodLink "FretSchoolModel" 89 yX6_lies ∈ BIG := bigIn 719 (by rfl) (by rfl)
set_option maxRecDepth 20000 in
theorem wd721 : Cond.instanceMethod yX6_lies ∈ BIG := bigIn 721 (by rfl) (by rfl)
set_option maxRecDepth 20000 in
theorem wd722 : Cond.code yX6_lies cX6_lies 7 (some .boolean) ∈ BIG := bigIn 722 (by rfl) (by rfl)
set_option maxRecDepth 20000 in
theorem wd723 : Cond.constant "FretSchoolModel" 97 (1000000 : Int32) ∈ BIG := bigIn 723 (by rfl) (by rfl)
set_option maxRecDepth 20000 in
theorem wd724 : Cond.methodLink "FretSchoolModel" 98 yX6_apart ∈ BIG := bigIn 724 (by rfl) (by rfl)
set_option maxRecDepth 20000 in
theorem wd725 : Cond.static yX6_apart ∈ BIG := bigIn 725 (by rfl) (by rfl)
set_option maxRecDepth 20000 in
theorem wd726 : Cond.code yX6_apart cX6_apart 2 (some .int) ∈ BIG := bigIn 726 (by rfl) (by rfl)
set_option maxRecDepth 20000 in
theorem wd727 : Cond.methodLink "FretSchoolLaw" 122 yX6_shiftsByAll ∈ BIG := bigIn 727 (by rfl) (by rfl)
set_option maxRecDepth 20000 in
theorem wd728 : Cond.instanceMethod yX6_shiftsByAll ∈ BIG := bigIn 728 (by rfl) (by rfl)
set_option maxRecDepth 20000 in
theorem wd729 : Cond.selects "FretSchoolModel" yX6_shiftsByAll yX6_shiftsByAll ∈ BIG := bigIn 729 (by rfl) (by rfl)
set_option maxRecDepth 20000 in
theorem wd730 : Cond.code yX6_shiftsByAll cX6_shiftsByAll 4 (some .int) ∈ BIG := bigIn 730 (by rfl) (by rfl)
set_option maxRecDepth 20000 in
theorem wd731 : Cond.methodLink "FretSchoolLaw" 125 yX6_hardest ∈ BIG := bigIn 731 (by rfl) (by rfl)
set_option maxRecDepth 20000 in
theorem wd732 : Cond.instanceMethod yX6_hardest ∈ BIG := bigIn 732 (by rfl) (by rfl)
set_option maxRecDepth 20000 in
theorem wd733 : Cond.selects "FretSchoolModel" yX6_hardest yX6_hardest ∈ BIG := bigIn 733 (by rfl) (by rfl)
set_option maxRecDepth 20000 in
theorem wd734 : Cond.code yX6_hardest cX6_hardest 3 (some .int) ∈ BIG := bigIn 734 (by rfl) (by rfl)
set_option maxRecDepth 20000 in
theorem wd735 : Cond.methodLink "FretSchoolModel" 112 yX6_hardestOf ∈ BIG := bigIn 735 (by rfl) (by rfl)
set_option maxRecDepth 20000 in
theorem wd737 : Cond.instanceMethod yX6_hardestOf ∈ BIG := bigIn 737 (by rfl) (by rfl)
set_option maxRecDepth 20000 in
theorem wd738 : Cond.code yX6_hardestOf cX6_hardestOf 6 (some .int) ∈ BIG := bigIn 738 (by rfl) (by rfl)
set_option maxRecDepth 20000 in
theorem wd739 : Cond.methodLink "FretSchoolLaw" 128 yX6_position ∈ BIG := bigIn 739 (by rfl) (by rfl)
set_option maxRecDepth 20000 in
theorem wd740 : Cond.instanceMethod yX6_position ∈ BIG := bigIn 740 (by rfl) (by rfl)
set_option maxRecDepth 20000 in
theorem wd741 : Cond.selects "FretSchoolModel" yX6_position yX6_position ∈ BIG := bigIn 741 (by rfl) (by rfl)
set_option maxRecDepth 20000 in
theorem wd742 : Cond.code yX6_position cX6_position 4 (some .int) ∈ BIG := bigIn 742 (by rfl) (by rfl)
set_option maxRecDepth 20000 in
theorem wd743 : Cond.methodLink "FretSchoolModel" 115 yX6_asksNote ∈ BIG := bigIn 743 (by rfl) (by rfl)
set_option maxRecDepth 20000 in
theorem wd745 : Cond.instanceMethod yX6_asksNote ∈ BIG := bigIn 745 (by rfl) (by rfl)
set_option maxRecDepth 20000 in
theorem wd746 : Cond.code yX6_asksNote cX6_asksNote 4 (some .boolean) ∈ BIG := bigIn 746 (by rfl) (by rfl)
set_option maxRecDepth 20000 in
theorem wd747 : Cond.methodLink "FretSchoolLaw" 131 yX6_string ∈ BIG := bigIn 747 (by rfl) (by rfl)
set_option maxRecDepth 20000 in
theorem wd748 : Cond.instanceMethod yX6_string ∈ BIG := bigIn 748 (by rfl) (by rfl)
set_option maxRecDepth 20000 in
theorem wd749 : Cond.selects "FretSchoolModel" yX6_string yX6_string ∈ BIG := bigIn 749 (by rfl) (by rfl)
set_option maxRecDepth 20000 in
theorem wd750 : Cond.code yX6_string cX6_string 6 (some .int) ∈ BIG := bigIn 750 (by rfl) (by rfl)
set_option maxRecDepth 20000 in
theorem wd751 : Cond.methodLink "FretSchoolLaw" 134 yX6_learn ∈ BIG := bigIn 751 (by rfl) (by rfl)
set_option maxRecDepth 20000 in
theorem wd752 : Cond.instanceMethod yX6_learn ∈ BIG := bigIn 752 (by rfl) (by rfl)
set_option maxRecDepth 20000 in
theorem wd753 : Cond.selects "FretSchoolModel" yX6_learn yX6_learn ∈ BIG := bigIn 753 (by rfl) (by rfl)
set_option maxRecDepth 20000 in
theorem wd754 : Cond.code yX6_learn cX6_learn 6 (some .int) ∈ BIG := bigIn 754 (by rfl) (by rfl)
set_option maxRecDepth 20000 in
theorem wd755 : Cond.methodLink "FretSchoolModel" 121 yX6_isPupil ∈ BIG := bigIn 755 (by rfl) (by rfl)
set_option maxRecDepth 20000 in
theorem wd756 : Cond.static yX6_isPupil ∈ BIG := bigIn 756 (by rfl) (by rfl)
set_option maxRecDepth 20000 in
theorem wd757 : Cond.code yX6_isPupil cX6_isPupil 1 (some .boolean) ∈ BIG := bigIn 757 (by rfl) (by rfl)
set_option maxRecDepth 20000 in
theorem wd758 : Cond.methodLink "FretSchoolModel" 124 yX6_canLearn ∈ BIG := bigIn 758 (by rfl) (by rfl)
set_option maxRecDepth 20000 in
theorem wd760 : Cond.instanceMethod yX6_canLearn ∈ BIG := bigIn 760 (by rfl) (by rfl)
set_option maxRecDepth 20000 in
theorem wd761 : Cond.code yX6_canLearn cX6_canLearn 5 (some .boolean) ∈ BIG := bigIn 761 (by rfl) (by rfl)
set_option maxRecDepth 20000 in
theorem wd762 : Cond.methodLink "FretSchoolModel" 118 yX6_isKnown ∈ BIG := bigIn 762 (by rfl) (by rfl)
set_option maxRecDepth 20000 in
theorem wd764 : Cond.instanceMethod yX6_isKnown ∈ BIG := bigIn 764 (by rfl) (by rfl)
set_option maxRecDepth 20000 in
theorem wd765 : Cond.code yX6_isKnown cX6_isKnown 3 (some .boolean) ∈ BIG := bigIn 765 (by rfl) (by rfl)
set_option maxRecDepth 20000 in
theorem wd766 : Cond.methodLink "FretSchoolLaw" 137 yX6_level ∈ BIG := bigIn 766 (by rfl) (by rfl)
set_option maxRecDepth 20000 in
theorem wd767 : Cond.instanceMethod yX6_level ∈ BIG := bigIn 767 (by rfl) (by rfl)
set_option maxRecDepth 20000 in
theorem wd768 : Cond.selects "FretSchoolModel" yX6_level yX6_level ∈ BIG := bigIn 768 (by rfl) (by rfl)
set_option maxRecDepth 20000 in
theorem wd769 : Cond.code yX6_level cX6_level 2 (some .int) ∈ BIG := bigIn 769 (by rfl) (by rfl)
set_option maxRecDepth 20000 in
theorem wd770 : Cond.methodLink "FretSchoolLaw" 140 yX6_known ∈ BIG := bigIn 770 (by rfl) (by rfl)
set_option maxRecDepth 20000 in
theorem wd771 : Cond.instanceMethod yX6_known ∈ BIG := bigIn 771 (by rfl) (by rfl)
set_option maxRecDepth 20000 in
theorem wd772 : Cond.selects "FretSchoolModel" yX6_known yX6_known ∈ BIG := bigIn 772 (by rfl) (by rfl)
set_option maxRecDepth 20000 in
theorem wd773 : Cond.code yX6_known cX6_known 2 (some .int) ∈ BIG := bigIn 773 (by rfl) (by rfl)
set_option maxRecDepth 20000 in
theorem wd774 : Cond.methodLink "FretSchoolLaw" 143 yX6_next ∈ BIG := bigIn 774 (by rfl) (by rfl)
set_option maxRecDepth 20000 in
theorem wd775 : Cond.instanceMethod yX6_next ∈ BIG := bigIn 775 (by rfl) (by rfl)
set_option maxRecDepth 20000 in
theorem wd776 : Cond.selects "FretSchoolModel" yX6_next yX6_next ∈ BIG := bigIn 776 (by rfl) (by rfl)
set_option maxRecDepth 20000 in
theorem wd777 : Cond.code yX6_next cX6_next 6 (some .int) ∈ BIG := bigIn 777 (by rfl) (by rfl)
set_option maxRecDepth 20000 in
theorem wd778 : Cond.methodLink "FretSchoolLaw" 146 yX6_addWood ∈ BIG := bigIn 778 (by rfl) (by rfl)
set_option maxRecDepth 20000 in
theorem wd779 : Cond.instanceMethod yX6_addWood ∈ BIG := bigIn 779 (by rfl) (by rfl)
set_option maxRecDepth 20000 in
theorem wd780 : Cond.selects "FretSchoolModel" yX6_addWood yX6_addWood ∈ BIG := bigIn 780 (by rfl) (by rfl)
set_option maxRecDepth 20000 in
theorem wd781 : Cond.code yX6_addWood cX6_addWood 3 (some .int) ∈ BIG := bigIn 781 (by rfl) (by rfl)
set_option maxRecDepth 20000 in
theorem wd782 : Cond.methodLink "FretSchoolLaw" 149 yX6_order ∈ BIG := bigIn 782 (by rfl) (by rfl)
set_option maxRecDepth 20000 in
theorem wd783 : Cond.instanceMethod yX6_order ∈ BIG := bigIn 783 (by rfl) (by rfl)
set_option maxRecDepth 20000 in
theorem wd784 : Cond.selects "FretSchoolModel" yX6_order yX6_order ∈ BIG := bigIn 784 (by rfl) (by rfl)
set_option maxRecDepth 20000 in
theorem wd785 : Cond.code yX6_order cX6_order 5 (some .int) ∈ BIG := bigIn 785 (by rfl) (by rfl)
set_option maxRecDepth 20000 in
theorem wd786 : Cond.methodLink "FretSchoolModel" 130 yX6_atWork ∈ BIG := bigIn 786 (by rfl) (by rfl)
set_option maxRecDepth 20000 in
theorem wd788 : Cond.instanceMethod yX6_atWork ∈ BIG := bigIn 788 (by rfl) (by rfl)
set_option maxRecDepth 20000 in
theorem wd789 : Cond.code yX6_atWork cX6_atWork 3 (some .int) ∈ BIG := bigIn 789 (by rfl) (by rfl)
set_option maxRecDepth 20000 in
theorem wd790 : Cond.methodLink "FretSchoolLaw" 152 yX6_ready ∈ BIG := bigIn 790 (by rfl) (by rfl)
set_option maxRecDepth 20000 in
theorem wd791 : Cond.instanceMethod yX6_ready ∈ BIG := bigIn 791 (by rfl) (by rfl)
set_option maxRecDepth 20000 in
theorem wd792 : Cond.selects "FretSchoolModel" yX6_ready yX6_ready ∈ BIG := bigIn 792 (by rfl) (by rfl)
set_option maxRecDepth 20000 in
theorem wd793 : Cond.code yX6_ready cX6_ready 2 (some .int) ∈ BIG := bigIn 793 (by rfl) (by rfl)
set_option maxRecDepth 20000 in
theorem wd794 : Cond.methodLink "FretSchoolModel" 134 yX6_isOrder ∈ BIG := bigIn 794 (by rfl) (by rfl)
set_option maxRecDepth 20000 in
theorem wd796 : Cond.instanceMethod yX6_isOrder ∈ BIG := bigIn 796 (by rfl) (by rfl)
set_option maxRecDepth 20000 in
theorem wd797 : Cond.code yX6_isOrder cX6_isOrder 2 (some .boolean) ∈ BIG := bigIn 797 (by rfl) (by rfl)
set_option maxRecDepth 20000 in
theorem wd798 : Cond.methodLink "FretSchoolLaw" 156 yX6_fetch ∈ BIG := bigIn 798 (by rfl) (by rfl)
set_option maxRecDepth 20000 in
theorem wd799 : Cond.instanceMethod yX6_fetch ∈ BIG := bigIn 799 (by rfl) (by rfl)
set_option maxRecDepth 20000 in
theorem wd800 : Cond.selects "FretSchoolModel" yX6_fetch yX6_fetch ∈ BIG := bigIn 800 (by rfl) (by rfl)
set_option maxRecDepth 20000 in
theorem wd801 : Cond.code yX6_fetch cX6_fetch 8 (some .int) ∈ BIG := bigIn 801 (by rfl) (by rfl)
set_option maxRecDepth 20000 in
theorem wd802 : Cond.methodLink "FretSchoolModel" 137 yX6_isOpen ∈ BIG := bigIn 802 (by rfl) (by rfl)
set_option maxRecDepth 20000 in
theorem wd803 : Cond.static yX6_isOpen ∈ BIG := bigIn 803 (by rfl) (by rfl)
set_option maxRecDepth 20000 in
theorem wd804 : Cond.code yX6_isOpen cX6_isOpen 1 (some .boolean) ∈ BIG := bigIn 804 (by rfl) (by rfl)
set_option maxRecDepth 20000 in
theorem wd805 : Cond.methodLink "FretSchoolLaw" 159 yX6_pass ∈ BIG := bigIn 805 (by rfl) (by rfl)
set_option maxRecDepth 20000 in
theorem wd806 : Cond.instanceMethod yX6_pass ∈ BIG := bigIn 806 (by rfl) (by rfl)
set_option maxRecDepth 20000 in
theorem wd807 : Cond.selects "FretSchoolModel" yX6_pass yX6_pass ∈ BIG := bigIn 807 (by rfl) (by rfl)
set_option maxRecDepth 20000 in
theorem wd808 : Cond.code yX6_pass cX6_pass 3 (some .int) ∈ BIG := bigIn 808 (by rfl) (by rfl)
set_option maxRecDepth 20000 in
theorem wd809 : Cond.methodLink "FretSchoolLaw" 163 yX6_today ∈ BIG := bigIn 809 (by rfl) (by rfl)
set_option maxRecDepth 20000 in
theorem wd810 : Cond.instanceMethod yX6_today ∈ BIG := bigIn 810 (by rfl) (by rfl)
set_option maxRecDepth 20000 in
theorem wd811 : Cond.selects "FretSchoolModel" yX6_today yX6_today ∈ BIG := bigIn 811 (by rfl) (by rfl)
set_option maxRecDepth 20000 in
theorem wd812 : Cond.code yX6_today cX6_today 1 (some .int) ∈ BIG := bigIn 812 (by rfl) (by rfl)
set_option maxRecDepth 20000 in
theorem wd813 : Cond.arrayClass .long ∈ BIG := bigIn 813 (by rfl) (by rfl)
set_option maxRecDepth 20000 in
theorem wd814 : Cond.sameMethod "java/lang/Throwable" "java/lang/Throwable" "fillInStackTrace" "(I)Ljava/lang/Throwable;" ∈ BIG := bigIn 814 (by rfl) (by rfl)
end
section
theorem dX0_init_0 : decode cX0_init 0 = .ok (.aload_n 0, 1) := by decide +kernel
theorem dX0_init_1 : decode cX0_init 1 = .ok (.invokespecial 3, 3) := by decide +kernel
theorem dX0_init_4 : decode cX0_init 4 = .ok (.aload_n 0, 1) := by decide +kernel
theorem dX0_init_5 : decode cX0_init 5 = .ok (.bipush 16, 2) := by decide +kernel
theorem dX0_init_7 : decode cX0_init 7 = .ok (.newarray .int, 2) := by decide +kernel
theorem dX0_init_9 : decode cX0_init 9 = .ok (.putfield 9, 3) := by decide +kernel
theorem dX0_init_12 : decode cX0_init 12 = .ok (.aload_n 0, 1) := by decide +kernel
theorem dX0_init_13 : decode cX0_init 13 = .ok (.bipush 16, 2) := by decide +kernel
theorem dX0_init_15 : decode cX0_init 15 = .ok (.bipush 14, 2) := by decide +kernel
theorem dX0_init_17 : decode cX0_init 17 = .ok (.multianewarray 15 2, 4) := by decide +kernel
theorem dX0_init_21 : decode cX0_init 21 = .ok (.putfield 17, 3) := by decide +kernel
theorem dX0_init_24 : decode cX0_init 24 = .ok (.aload_n 0, 1) := by decide +kernel
theorem dX0_init_25 : decode cX0_init 25 = .ok (.bipush 16, 2) := by decide +kernel
theorem dX0_init_27 : decode cX0_init 27 = .ok (.newarray .int, 2) := by decide +kernel
theorem dX0_init_29 : decode cX0_init 29 = .ok (.putfield 20, 3) := by decide +kernel
theorem dX0_init_32 : decode cX0_init 32 = .ok (.aload_n 0, 1) := by decide +kernel
theorem dX0_init_33 : decode cX0_init 33 = .ok (.iconst 0, 1) := by decide +kernel
theorem dX0_init_34 : decode cX0_init 34 = .ok (.putfield 23, 3) := by decide +kernel
theorem dX0_init_37 : decode cX0_init 37 = .ok (.aload_n 0, 1) := by decide +kernel
theorem dX0_init_38 : decode cX0_init 38 = .ok (.iconst 0, 1) := by decide +kernel
theorem dX0_init_39 : decode cX0_init 39 = .ok (.putfield 27, 3) := by decide +kernel
theorem dX0_init_42 : decode cX0_init 42 = .ok (.return_, 1) := by decide +kernel
theorem dX0_placeBest_0 : decode cX0_placeBest 0 = .ok (.aload_n 0, 1) := by decide +kernel
theorem dX0_placeBest_1 : decode cX0_placeBest 1 = .ok (.aload_n 1, 1) := by decide +kernel
theorem dX0_placeBest_2 : decode cX0_placeBest 2 = .ok (.aload_n 2, 1) := by decide +kernel
theorem dX0_placeBest_3 : decode cX0_placeBest 3 = .ok (.invokevirtual 30, 3) := by decide +kernel
theorem dX0_placeBest_6 : decode cX0_placeBest 6 = .ok (.aload_n 1, 1) := by decide +kernel
theorem dX0_placeBest_7 : decode cX0_placeBest 7 = .ok (.getfield 34, 3) := by decide +kernel
theorem dX0_placeBest_10 : decode cX0_placeBest 10 = .ok (.iconst 1, 1) := by decide +kernel
theorem dX0_placeBest_11 : decode cX0_placeBest 11 = .ok (.isub, 1) := by decide +kernel
theorem dX0_placeBest_12 : decode cX0_placeBest 12 = .ok (.istore_n 3, 1) := by decide +kernel
theorem dX0_placeBest_13 : decode cX0_placeBest 13 = .ok (.iload_n 3, 1) := by decide +kernel
theorem dX0_placeBest_14 : decode cX0_placeBest 14 = .ok (.ifCond .lt 29, 3) := by decide +kernel
theorem dX0_placeBest_17 : decode cX0_placeBest 17 = .ok (.aload_n 0, 1) := by decide +kernel
theorem dX0_placeBest_18 : decode cX0_placeBest 18 = .ok (.iload_n 3, 1) := by decide +kernel
theorem dX0_placeBest_19 : decode cX0_placeBest 19 = .ok (.iload_n 3, 1) := by decide +kernel
theorem dX0_placeBest_20 : decode cX0_placeBest 20 = .ok (.aload_n 1, 1) := by decide +kernel
theorem dX0_placeBest_21 : decode cX0_placeBest 21 = .ok (.getfield 34, 3) := by decide +kernel
theorem dX0_placeBest_24 : decode cX0_placeBest 24 = .ok (.iconst 1, 1) := by decide +kernel
theorem dX0_placeBest_25 : decode cX0_placeBest 25 = .ok (.isub, 1) := by decide +kernel
theorem dX0_placeBest_26 : decode cX0_placeBest 26 = .ok (.if_icmp .ne 7, 3) := by decide +kernel
theorem dX0_placeBest_29 : decode cX0_placeBest 29 = .ok (.iconst 1, 1) := by decide +kernel
theorem dX0_placeBest_30 : decode cX0_placeBest 30 = .ok (.goto 4, 3) := by decide +kernel
theorem dX0_placeBest_33 : decode cX0_placeBest 33 = .ok (.iconst 0, 1) := by decide +kernel
theorem dX0_placeBest_34 : decode cX0_placeBest 34 = .ok (.invokevirtual 39, 3) := by decide +kernel
theorem dX0_placeBest_37 : decode cX0_placeBest 37 = .ok (.iinc 3 (-1), 3) := by decide +kernel
theorem dX0_placeBest_40 : decode cX0_placeBest 40 = .ok (.goto (-27), 3) := by decide +kernel
theorem dX0_placeBest_43 : decode cX0_placeBest 43 = .ok (.aload_n 1, 1) := by decide +kernel
theorem dX0_placeBest_44 : decode cX0_placeBest 44 = .ok (.getfield 34, 3) := by decide +kernel
theorem dX0_placeBest_47 : decode cX0_placeBest 47 = .ok (.ifCond .le 18, 3) := by decide +kernel
theorem dX0_placeBest_50 : decode cX0_placeBest 50 = .ok (.aload_n 0, 1) := by decide +kernel
theorem dX0_placeBest_51 : decode cX0_placeBest 51 = .ok (.aload_n 1, 1) := by decide +kernel
theorem dX0_placeBest_52 : decode cX0_placeBest 52 = .ok (.getfield 34, 3) := by decide +kernel
theorem dX0_placeBest_55 : decode cX0_placeBest 55 = .ok (.invokevirtual 43, 3) := by decide +kernel
theorem dX0_placeBest_58 : decode cX0_placeBest 58 = .ok (.ifCond .eq 7, 3) := by decide +kernel
theorem dX0_placeBest_61 : decode cX0_placeBest 61 = .ok (.iconst 1, 1) := by decide +kernel
theorem dX0_placeBest_62 : decode cX0_placeBest 62 = .ok (.goto 4, 3) := by decide +kernel
theorem dX0_placeBest_65 : decode cX0_placeBest 65 = .ok (.iconst 0, 1) := by decide +kernel
theorem dX0_placeBest_66 : decode cX0_placeBest 66 = .ok (.ireturn, 1) := by decide +kernel
theorem dX0_leastByAll_0 : decode cX0_leastByAll 0 = .ok (.aload_n 1, 1) := by decide +kernel
theorem dX0_leastByAll_1 : decode cX0_leastByAll 1 = .ok (.getfield 34, 3) := by decide +kernel
theorem dX0_leastByAll_4 : decode cX0_leastByAll 4 = .ok (.ifCond .ne 5, 3) := by decide +kernel
theorem dX0_leastByAll_7 : decode cX0_leastByAll 7 = .ok (.iconst (-1), 1) := by decide +kernel
theorem dX0_leastByAll_8 : decode cX0_leastByAll 8 = .ok (.ireturn, 1) := by decide +kernel
theorem dX0_leastByAll_9 : decode cX0_leastByAll 9 = .ok (.aload_n 0, 1) := by decide +kernel
theorem dX0_leastByAll_10 : decode cX0_leastByAll 10 = .ok (.aload_n 1, 1) := by decide +kernel
theorem dX0_leastByAll_11 : decode cX0_leastByAll 11 = .ok (.aload_n 2, 1) := by decide +kernel
theorem dX0_leastByAll_12 : decode cX0_leastByAll 12 = .ok (.invokevirtual 30, 3) := by decide +kernel
theorem dX0_leastByAll_15 : decode cX0_leastByAll 15 = .ok (.aload_n 0, 1) := by decide +kernel
theorem dX0_leastByAll_16 : decode cX0_leastByAll 16 = .ok (.getfield 9, 3) := by decide +kernel
theorem dX0_leastByAll_19 : decode cX0_leastByAll 19 = .ok (.aload_n 1, 1) := by decide +kernel
theorem dX0_leastByAll_20 : decode cX0_leastByAll 20 = .ok (.getfield 34, 3) := by decide +kernel
theorem dX0_leastByAll_23 : decode cX0_leastByAll 23 = .ok (.iconst 0, 1) := by decide +kernel
theorem dX0_leastByAll_24 : decode cX0_leastByAll 24 = .ok (.iconst 0, 1) := by decide +kernel
theorem dX0_leastByAll_25 : decode cX0_leastByAll 25 = .ok (.invokestatic 47, 3) := by decide +kernel
theorem dX0_leastByAll_28 : decode cX0_leastByAll 28 = .ok (.istore_n 3, 1) := by decide +kernel
theorem dX0_leastByAll_29 : decode cX0_leastByAll 29 = .ok (.iload_n 3, 1) := by decide +kernel
theorem dX0_leastByAll_30 : decode cX0_leastByAll 30 = .ok (.ldc 51, 2) := by decide +kernel
theorem dX0_leastByAll_32 : decode cX0_leastByAll 32 = .ok (.if_icmp .ge 7, 3) := by decide +kernel
theorem dX0_leastByAll_35 : decode cX0_leastByAll 35 = .ok (.iload_n 3, 1) := by decide +kernel
theorem dX0_leastByAll_36 : decode cX0_leastByAll 36 = .ok (.goto 4, 3) := by decide +kernel
theorem dX0_leastByAll_39 : decode cX0_leastByAll 39 = .ok (.iconst (-1), 1) := by decide +kernel
theorem dX0_leastByAll_40 : decode cX0_leastByAll 40 = .ok (.ireturn, 1) := by decide +kernel
theorem dX0_feelReach_0 : decode cX0_feelReach 0 = .ok (.aload_n 2, 1) := by decide +kernel
theorem dX0_feelReach_1 : decode cX0_feelReach 1 = .ok (.invokevirtual 52, 3) := by decide +kernel
theorem dX0_feelReach_4 : decode cX0_feelReach 4 = .ok (.istore_n 3, 1) := by decide +kernel
theorem dX0_feelReach_5 : decode cX0_feelReach 5 = .ok (.iconst 0, 1) := by decide +kernel
theorem dX0_feelReach_6 : decode cX0_feelReach 6 = .ok (.istore 4, 2) := by decide +kernel
theorem dX0_feelReach_8 : decode cX0_feelReach 8 = .ok (.iload 4, 2) := by decide +kernel
theorem dX0_feelReach_10 : decode cX0_feelReach 10 = .ok (.aload_n 1, 1) := by decide +kernel
theorem dX0_feelReach_11 : decode cX0_feelReach 11 = .ok (.getfield 34, 3) := by decide +kernel
theorem dX0_feelReach_14 : decode cX0_feelReach 14 = .ok (.if_icmp .ge 63, 3) := by decide +kernel
theorem dX0_feelReach_17 : decode cX0_feelReach 17 = .ok (.aload_n 0, 1) := by decide +kernel
theorem dX0_feelReach_18 : decode cX0_feelReach 18 = .ok (.getfield 9, 3) := by decide +kernel
theorem dX0_feelReach_21 : decode cX0_feelReach 21 = .ok (.iload 4, 2) := by decide +kernel
theorem dX0_feelReach_23 : decode cX0_feelReach 23 = .ok (.iconst 0, 1) := by decide +kernel
theorem dX0_feelReach_24 : decode cX0_feelReach 24 = .ok (.iastore, 1) := by decide +kernel
theorem dX0_feelReach_25 : decode cX0_feelReach 25 = .ok (.iconst 1, 1) := by decide +kernel
theorem dX0_feelReach_26 : decode cX0_feelReach 26 = .ok (.istore 5, 2) := by decide +kernel
theorem dX0_feelReach_28 : decode cX0_feelReach 28 = .ok (.iload 5, 2) := by decide +kernel
theorem dX0_feelReach_30 : decode cX0_feelReach 30 = .ok (.iload_n 3, 1) := by decide +kernel
theorem dX0_feelReach_31 : decode cX0_feelReach 31 = .ok (.if_icmp .gt 40, 3) := by decide +kernel
theorem dX0_feelReach_34 : decode cX0_feelReach 34 = .ok (.aload_n 2, 1) := by decide +kernel
theorem dX0_feelReach_35 : decode cX0_feelReach 35 = .ok (.aload_n 1, 1) := by decide +kernel
theorem dX0_feelReach_36 : decode cX0_feelReach 36 = .ok (.getfield 58, 3) := by decide +kernel
theorem dX0_feelReach_39 : decode cX0_feelReach 39 = .ok (.iload 4, 2) := by decide +kernel
theorem dX0_feelReach_41 : decode cX0_feelReach 41 = .ok (.iaload, 1) := by decide +kernel
theorem dX0_feelReach_42 : decode cX0_feelReach 42 = .ok (.iload 5, 2) := by decide +kernel
theorem dX0_feelReach_44 : decode cX0_feelReach 44 = .ok (.invokevirtual 61, 3) := by decide +kernel
theorem dX0_feelReach_47 : decode cX0_feelReach 47 = .ok (.iconst (-1), 1) := by decide +kernel
theorem dX0_feelReach_48 : decode cX0_feelReach 48 = .ok (.if_icmp .eq 17, 3) := by decide +kernel
theorem dX0_feelReach_51 : decode cX0_feelReach 51 = .ok (.aload_n 0, 1) := by decide +kernel
theorem dX0_feelReach_52 : decode cX0_feelReach 52 = .ok (.getfield 9, 3) := by decide +kernel
theorem dX0_feelReach_55 : decode cX0_feelReach 55 = .ok (.iload 4, 2) := by decide +kernel
theorem dX0_feelReach_57 : decode cX0_feelReach 57 = .ok (.dup2, 1) := by decide +kernel
theorem dX0_feelReach_58 : decode cX0_feelReach 58 = .ok (.iaload, 1) := by decide +kernel
theorem dX0_feelReach_59 : decode cX0_feelReach 59 = .ok (.iconst 1, 1) := by decide +kernel
theorem dX0_feelReach_60 : decode cX0_feelReach 60 = .ok (.iload 5, 2) := by decide +kernel
theorem dX0_feelReach_62 : decode cX0_feelReach 62 = .ok (.ishl, 1) := by decide +kernel
theorem dX0_feelReach_63 : decode cX0_feelReach 63 = .ok (.ior, 1) := by decide +kernel
theorem dX0_feelReach_64 : decode cX0_feelReach 64 = .ok (.iastore, 1) := by decide +kernel
theorem dX0_feelReach_65 : decode cX0_feelReach 65 = .ok (.iinc 5 1, 3) := by decide +kernel
theorem dX0_feelReach_68 : decode cX0_feelReach 68 = .ok (.goto (-40), 3) := by decide +kernel
theorem dX0_feelReach_71 : decode cX0_feelReach 71 = .ok (.iinc 4 1, 3) := by decide +kernel
theorem dX0_feelReach_74 : decode cX0_feelReach 74 = .ok (.goto (-66), 3) := by decide +kernel
theorem dX0_feelReach_77 : decode cX0_feelReach 77 = .ok (.return_, 1) := by decide +kernel
theorem dX0_measureRest_0 : decode cX0_measureRest 0 = .ok (.iconst 1, 1) := by decide +kernel
theorem dX0_measureRest_1 : decode cX0_measureRest 1 = .ok (.istore_n 3, 1) := by decide +kernel
theorem dX0_measureRest_2 : decode cX0_measureRest 2 = .ok (.iload_n 3, 1) := by decide +kernel
theorem dX0_measureRest_3 : decode cX0_measureRest 3 = .ok (.bipush 13, 2) := by decide +kernel
theorem dX0_measureRest_5 : decode cX0_measureRest 5 = .ok (.if_icmp .gt 95, 3) := by decide +kernel
theorem dX0_measureRest_8 : decode cX0_measureRest 8 = .ok (.iconst 0, 1) := by decide +kernel
theorem dX0_measureRest_9 : decode cX0_measureRest 9 = .ok (.istore 4, 2) := by decide +kernel
theorem dX0_measureRest_11 : decode cX0_measureRest 11 = .ok (.iload_n 2, 1) := by decide +kernel
theorem dX0_measureRest_12 : decode cX0_measureRest 12 = .ok (.ifCond .ne 13, 3) := by decide +kernel
theorem dX0_measureRest_15 : decode cX0_measureRest 15 = .ok (.aload_n 0, 1) := by decide +kernel
theorem dX0_measureRest_16 : decode cX0_measureRest 16 = .ok (.iload_n 1, 1) := by decide +kernel
theorem dX0_measureRest_17 : decode cX0_measureRest 17 = .ok (.iconst 1, 1) := by decide +kernel
theorem dX0_measureRest_18 : decode cX0_measureRest 18 = .ok (.iadd, 1) := by decide +kernel
theorem dX0_measureRest_19 : decode cX0_measureRest 19 = .ok (.iload_n 3, 1) := by decide +kernel
theorem dX0_measureRest_20 : decode cX0_measureRest 20 = .ok (.invokevirtual 65, 3) := by decide +kernel
theorem dX0_measureRest_23 : decode cX0_measureRest 23 = .ok (.istore 4, 2) := by decide +kernel
theorem dX0_measureRest_25 : decode cX0_measureRest 25 = .ok (.aload_n 0, 1) := by decide +kernel
theorem dX0_measureRest_26 : decode cX0_measureRest 26 = .ok (.getfield 9, 3) := by decide +kernel
theorem dX0_measureRest_29 : decode cX0_measureRest 29 = .ok (.iload_n 1, 1) := by decide +kernel
theorem dX0_measureRest_30 : decode cX0_measureRest 30 = .ok (.iaload, 1) := by decide +kernel
theorem dX0_measureRest_31 : decode cX0_measureRest 31 = .ok (.iload_n 3, 1) := by decide +kernel
theorem dX0_measureRest_32 : decode cX0_measureRest 32 = .ok (.invokestatic 68, 3) := by decide +kernel
theorem dX0_measureRest_35 : decode cX0_measureRest 35 = .ok (.ifCond .eq 12, 3) := by decide +kernel
theorem dX0_measureRest_38 : decode cX0_measureRest 38 = .ok (.iload_n 2, 1) := by decide +kernel
theorem dX0_measureRest_39 : decode cX0_measureRest 39 = .ok (.ifCond .ne 21, 3) := by decide +kernel
theorem dX0_measureRest_42 : decode cX0_measureRest 42 = .ok (.iload 4, 2) := by decide +kernel
theorem dX0_measureRest_44 : decode cX0_measureRest 44 = .ok (.ifCond .ne 16, 3) := by decide +kernel
theorem dX0_measureRest_47 : decode cX0_measureRest 47 = .ok (.aload_n 0, 1) := by decide +kernel
theorem dX0_measureRest_48 : decode cX0_measureRest 48 = .ok (.getfield 17, 3) := by decide +kernel
theorem dX0_measureRest_51 : decode cX0_measureRest 51 = .ok (.iload_n 1, 1) := by decide +kernel
theorem dX0_measureRest_52 : decode cX0_measureRest 52 = .ok (.aaload, 1) := by decide +kernel
theorem dX0_measureRest_53 : decode cX0_measureRest 53 = .ok (.iload_n 3, 1) := by decide +kernel
theorem dX0_measureRest_54 : decode cX0_measureRest 54 = .ok (.ldc 51, 2) := by decide +kernel
theorem dX0_measureRest_56 : decode cX0_measureRest 56 = .ok (.iastore, 1) := by decide +kernel
theorem dX0_measureRest_57 : decode cX0_measureRest 57 = .ok (.goto 37, 3) := by decide +kernel
theorem dX0_measureRest_60 : decode cX0_measureRest 60 = .ok (.aload_n 0, 1) := by decide +kernel
theorem dX0_measureRest_61 : decode cX0_measureRest 61 = .ok (.getfield 17, 3) := by decide +kernel
theorem dX0_measureRest_64 : decode cX0_measureRest 64 = .ok (.iload_n 1, 1) := by decide +kernel
theorem dX0_measureRest_65 : decode cX0_measureRest 65 = .ok (.aaload, 1) := by decide +kernel
theorem dX0_measureRest_66 : decode cX0_measureRest 66 = .ok (.iload_n 3, 1) := by decide +kernel
theorem dX0_measureRest_67 : decode cX0_measureRest 67 = .ok (.iload_n 2, 1) := by decide +kernel
theorem dX0_measureRest_68 : decode cX0_measureRest 68 = .ok (.ifCond .eq 7, 3) := by decide +kernel
theorem dX0_measureRest_71 : decode cX0_measureRest 71 = .ok (.iconst 0, 1) := by decide +kernel
theorem dX0_measureRest_72 : decode cX0_measureRest 72 = .ok (.goto 21, 3) := by decide +kernel
theorem dX0_measureRest_75 : decode cX0_measureRest 75 = .ok (.iload_n 3, 1) := by decide +kernel
theorem dX0_measureRest_76 : decode cX0_measureRest 76 = .ok (.iload 4, 2) := by decide +kernel
theorem dX0_measureRest_78 : decode cX0_measureRest 78 = .ok (.invokestatic 72, 3) := by decide +kernel
theorem dX0_measureRest_81 : decode cX0_measureRest 81 = .ok (.aload_n 0, 1) := by decide +kernel
theorem dX0_measureRest_82 : decode cX0_measureRest 82 = .ok (.getfield 17, 3) := by decide +kernel
theorem dX0_measureRest_85 : decode cX0_measureRest 85 = .ok (.iload_n 1, 1) := by decide +kernel
theorem dX0_measureRest_86 : decode cX0_measureRest 86 = .ok (.iconst 1, 1) := by decide +kernel
theorem dX0_measureRest_87 : decode cX0_measureRest 87 = .ok (.iadd, 1) := by decide +kernel
theorem dX0_measureRest_88 : decode cX0_measureRest 88 = .ok (.aaload, 1) := by decide +kernel
theorem dX0_measureRest_89 : decode cX0_measureRest 89 = .ok (.iload 4, 2) := by decide +kernel
theorem dX0_measureRest_91 : decode cX0_measureRest 91 = .ok (.iaload, 1) := by decide +kernel
theorem dX0_measureRest_92 : decode cX0_measureRest 92 = .ok (.iadd, 1) := by decide +kernel
theorem dX0_measureRest_93 : decode cX0_measureRest 93 = .ok (.iastore, 1) := by decide +kernel
theorem dX0_measureRest_94 : decode cX0_measureRest 94 = .ok (.iinc 3 1, 3) := by decide +kernel
theorem dX0_measureRest_97 : decode cX0_measureRest 97 = .ok (.goto (-95), 3) := by decide +kernel
theorem dX0_measureRest_100 : decode cX0_measureRest 100 = .ok (.return_, 1) := by decide +kernel
theorem dX0_chooseRow_0 : decode cX0_chooseRow 0 = .ok (.aload_n 0, 1) := by decide +kernel
theorem dX0_chooseRow_1 : decode cX0_chooseRow 1 = .ok (.iconst 0, 1) := by decide +kernel
theorem dX0_chooseRow_2 : decode cX0_chooseRow 2 = .ok (.putfield 23, 3) := by decide +kernel
theorem dX0_chooseRow_5 : decode cX0_chooseRow 5 = .ok (.aload_n 0, 1) := by decide +kernel
theorem dX0_chooseRow_6 : decode cX0_chooseRow 6 = .ok (.iconst 0, 1) := by decide +kernel
theorem dX0_chooseRow_7 : decode cX0_chooseRow 7 = .ok (.putfield 27, 3) := by decide +kernel
theorem dX0_chooseRow_10 : decode cX0_chooseRow 10 = .ok (.iconst 0, 1) := by decide +kernel
theorem dX0_chooseRow_11 : decode cX0_chooseRow 11 = .ok (.istore_n 2, 1) := by decide +kernel
theorem dX0_chooseRow_12 : decode cX0_chooseRow 12 = .ok (.iconst 0, 1) := by decide +kernel
theorem dX0_chooseRow_13 : decode cX0_chooseRow 13 = .ok (.istore_n 3, 1) := by decide +kernel
theorem dX0_chooseRow_14 : decode cX0_chooseRow 14 = .ok (.iload_n 3, 1) := by decide +kernel
theorem dX0_chooseRow_15 : decode cX0_chooseRow 15 = .ok (.iload_n 1, 1) := by decide +kernel
theorem dX0_chooseRow_16 : decode cX0_chooseRow 16 = .ok (.if_icmp .ge 76, 3) := by decide +kernel
theorem dX0_chooseRow_19 : decode cX0_chooseRow 19 = .ok (.aload_n 0, 1) := by decide +kernel
theorem dX0_chooseRow_20 : decode cX0_chooseRow 20 = .ok (.iload_n 3, 1) := by decide +kernel
theorem dX0_chooseRow_21 : decode cX0_chooseRow 21 = .ok (.iload_n 2, 1) := by decide +kernel
theorem dX0_chooseRow_22 : decode cX0_chooseRow 22 = .ok (.invokevirtual 65, 3) := by decide +kernel
theorem dX0_chooseRow_25 : decode cX0_chooseRow 25 = .ok (.istore 4, 2) := by decide +kernel
theorem dX0_chooseRow_27 : decode cX0_chooseRow 27 = .ok (.iload 4, 2) := by decide +kernel
theorem dX0_chooseRow_29 : decode cX0_chooseRow 29 = .ok (.ifCond .ne 5, 3) := by decide +kernel
theorem dX0_chooseRow_32 : decode cX0_chooseRow 32 = .ok (.iconst 0, 1) := by decide +kernel
theorem dX0_chooseRow_33 : decode cX0_chooseRow 33 = .ok (.ireturn, 1) := by decide +kernel
theorem dX0_chooseRow_34 : decode cX0_chooseRow 34 = .ok (.iload_n 2, 1) := by decide +kernel
theorem dX0_chooseRow_35 : decode cX0_chooseRow 35 = .ok (.iload 4, 2) := by decide +kernel
theorem dX0_chooseRow_37 : decode cX0_chooseRow 37 = .ok (.invokestatic 72, 3) := by decide +kernel
theorem dX0_chooseRow_40 : decode cX0_chooseRow 40 = .ok (.istore 5, 2) := by decide +kernel
theorem dX0_chooseRow_42 : decode cX0_chooseRow 42 = .ok (.aload_n 0, 1) := by decide +kernel
theorem dX0_chooseRow_43 : decode cX0_chooseRow 43 = .ok (.dup, 1) := by decide +kernel
theorem dX0_chooseRow_44 : decode cX0_chooseRow 44 = .ok (.getfield 23, 3) := by decide +kernel
theorem dX0_chooseRow_47 : decode cX0_chooseRow 47 = .ok (.iload 5, 2) := by decide +kernel
theorem dX0_chooseRow_49 : decode cX0_chooseRow 49 = .ok (.iadd, 1) := by decide +kernel
theorem dX0_chooseRow_50 : decode cX0_chooseRow 50 = .ok (.putfield 23, 3) := by decide +kernel
theorem dX0_chooseRow_53 : decode cX0_chooseRow 53 = .ok (.aload_n 0, 1) := by decide +kernel
theorem dX0_chooseRow_54 : decode cX0_chooseRow 54 = .ok (.iload 5, 2) := by decide +kernel
theorem dX0_chooseRow_56 : decode cX0_chooseRow 56 = .ok (.aload_n 0, 1) := by decide +kernel
theorem dX0_chooseRow_57 : decode cX0_chooseRow 57 = .ok (.getfield 27, 3) := by decide +kernel
theorem dX0_chooseRow_60 : decode cX0_chooseRow 60 = .ok (.if_icmp .le 8, 3) := by decide +kernel
theorem dX0_chooseRow_63 : decode cX0_chooseRow 63 = .ok (.iload 5, 2) := by decide +kernel
theorem dX0_chooseRow_65 : decode cX0_chooseRow 65 = .ok (.goto 7, 3) := by decide +kernel
theorem dX0_chooseRow_68 : decode cX0_chooseRow 68 = .ok (.aload_n 0, 1) := by decide +kernel
theorem dX0_chooseRow_69 : decode cX0_chooseRow 69 = .ok (.getfield 27, 3) := by decide +kernel
theorem dX0_chooseRow_72 : decode cX0_chooseRow 72 = .ok (.putfield 27, 3) := by decide +kernel
theorem dX0_chooseRow_75 : decode cX0_chooseRow 75 = .ok (.aload_n 0, 1) := by decide +kernel
theorem dX0_chooseRow_76 : decode cX0_chooseRow 76 = .ok (.getfield 20, 3) := by decide +kernel
theorem dX0_chooseRow_79 : decode cX0_chooseRow 79 = .ok (.iload_n 3, 1) := by decide +kernel
theorem dX0_chooseRow_80 : decode cX0_chooseRow 80 = .ok (.iload 4, 2) := by decide +kernel
theorem dX0_chooseRow_82 : decode cX0_chooseRow 82 = .ok (.iastore, 1) := by decide +kernel
theorem dX0_chooseRow_83 : decode cX0_chooseRow 83 = .ok (.iload 4, 2) := by decide +kernel
theorem dX0_chooseRow_85 : decode cX0_chooseRow 85 = .ok (.istore_n 2, 1) := by decide +kernel
theorem dX0_chooseRow_86 : decode cX0_chooseRow 86 = .ok (.iinc 3 1, 3) := by decide +kernel
theorem dX0_chooseRow_89 : decode cX0_chooseRow 89 = .ok (.goto (-75), 3) := by decide +kernel
theorem dX0_chooseRow_92 : decode cX0_chooseRow 92 = .ok (.iconst 1, 1) := by decide +kernel
theorem dX0_chooseRow_93 : decode cX0_chooseRow 93 = .ok (.ireturn, 1) := by decide +kernel
theorem dX0_nearest_0 : decode cX0_nearest 0 = .ok (.iconst 0, 1) := by decide +kernel
theorem dX0_nearest_1 : decode cX0_nearest 1 = .ok (.istore_n 3, 1) := by decide +kernel
theorem dX0_nearest_2 : decode cX0_nearest 2 = .ok (.ldc 51, 2) := by decide +kernel
theorem dX0_nearest_4 : decode cX0_nearest 4 = .ok (.istore 4, 2) := by decide +kernel
theorem dX0_nearest_6 : decode cX0_nearest 6 = .ok (.iconst 1, 1) := by decide +kernel
theorem dX0_nearest_7 : decode cX0_nearest 7 = .ok (.istore 5, 2) := by decide +kernel
theorem dX0_nearest_9 : decode cX0_nearest 9 = .ok (.iload 5, 2) := by decide +kernel
theorem dX0_nearest_11 : decode cX0_nearest 11 = .ok (.bipush 13, 2) := by decide +kernel
theorem dX0_nearest_13 : decode cX0_nearest 13 = .ok (.if_icmp .gt 41, 3) := by decide +kernel
theorem dX0_nearest_16 : decode cX0_nearest 16 = .ok (.iload_n 2, 1) := by decide +kernel
theorem dX0_nearest_17 : decode cX0_nearest 17 = .ok (.iload 5, 2) := by decide +kernel
theorem dX0_nearest_19 : decode cX0_nearest 19 = .ok (.invokestatic 72, 3) := by decide +kernel
theorem dX0_nearest_22 : decode cX0_nearest 22 = .ok (.aload_n 0, 1) := by decide +kernel
theorem dX0_nearest_23 : decode cX0_nearest 23 = .ok (.getfield 17, 3) := by decide +kernel
theorem dX0_nearest_26 : decode cX0_nearest 26 = .ok (.iload_n 1, 1) := by decide +kernel
theorem dX0_nearest_27 : decode cX0_nearest 27 = .ok (.aaload, 1) := by decide +kernel
theorem dX0_nearest_28 : decode cX0_nearest 28 = .ok (.iload 5, 2) := by decide +kernel
theorem dX0_nearest_30 : decode cX0_nearest 30 = .ok (.iaload, 1) := by decide +kernel
theorem dX0_nearest_31 : decode cX0_nearest 31 = .ok (.iadd, 1) := by decide +kernel
theorem dX0_nearest_32 : decode cX0_nearest 32 = .ok (.istore 6, 2) := by decide +kernel
theorem dX0_nearest_34 : decode cX0_nearest 34 = .ok (.iload 6, 2) := by decide +kernel
theorem dX0_nearest_36 : decode cX0_nearest 36 = .ok (.iload 4, 2) := by decide +kernel
theorem dX0_nearest_38 : decode cX0_nearest 38 = .ok (.if_icmp .ge 10, 3) := by decide +kernel
theorem dX0_nearest_41 : decode cX0_nearest 41 = .ok (.iload 5, 2) := by decide +kernel
theorem dX0_nearest_43 : decode cX0_nearest 43 = .ok (.istore_n 3, 1) := by decide +kernel
theorem dX0_nearest_44 : decode cX0_nearest 44 = .ok (.iload 6, 2) := by decide +kernel
theorem dX0_nearest_46 : decode cX0_nearest 46 = .ok (.istore 4, 2) := by decide +kernel
theorem dX0_nearest_48 : decode cX0_nearest 48 = .ok (.iinc 5 1, 3) := by decide +kernel
theorem dX0_nearest_51 : decode cX0_nearest 51 = .ok (.goto (-42), 3) := by decide +kernel
theorem dX0_nearest_54 : decode cX0_nearest 54 = .ok (.iload_n 3, 1) := by decide +kernel
theorem dX0_nearest_55 : decode cX0_nearest 55 = .ok (.ireturn, 1) := by decide +kernel
theorem dX0_leastFrom_0 : decode cX0_leastFrom 0 = .ok (.iload_n 2, 1) := by decide +kernel
theorem dX0_leastFrom_1 : decode cX0_leastFrom 1 = .ok (.iload_n 1, 1) := by decide +kernel
theorem dX0_leastFrom_2 : decode cX0_leastFrom 2 = .ok (.if_icmp .ge 8, 3) := by decide +kernel
theorem dX0_leastFrom_5 : decode cX0_leastFrom 5 = .ok (.iload_n 2, 1) := by decide +kernel
theorem dX0_leastFrom_6 : decode cX0_leastFrom 6 = .ok (.iconst 4, 1) := by decide +kernel
theorem dX0_leastFrom_7 : decode cX0_leastFrom 7 = .ok (.if_icmp .lt 5, 3) := by decide +kernel
theorem dX0_leastFrom_10 : decode cX0_leastFrom 10 = .ok (.iconst 0, 1) := by decide +kernel
theorem dX0_leastFrom_11 : decode cX0_leastFrom 11 = .ok (.ireturn, 1) := by decide +kernel
theorem dX0_leastFrom_12 : decode cX0_leastFrom 12 = .ok (.ldc 51, 2) := by decide +kernel
theorem dX0_leastFrom_14 : decode cX0_leastFrom 14 = .ok (.istore 4, 2) := by decide +kernel
theorem dX0_leastFrom_16 : decode cX0_leastFrom 16 = .ok (.iconst 1, 1) := by decide +kernel
theorem dX0_leastFrom_17 : decode cX0_leastFrom 17 = .ok (.istore 5, 2) := by decide +kernel
theorem dX0_leastFrom_19 : decode cX0_leastFrom 19 = .ok (.iload 5, 2) := by decide +kernel
theorem dX0_leastFrom_21 : decode cX0_leastFrom 21 = .ok (.bipush 13, 2) := by decide +kernel
theorem dX0_leastFrom_23 : decode cX0_leastFrom 23 = .ok (.if_icmp .gt 55, 3) := by decide +kernel
theorem dX0_leastFrom_26 : decode cX0_leastFrom 26 = .ok (.aload_n 0, 1) := by decide +kernel
theorem dX0_leastFrom_27 : decode cX0_leastFrom 27 = .ok (.iload_n 2, 1) := by decide +kernel
theorem dX0_leastFrom_28 : decode cX0_leastFrom 28 = .ok (.iaload, 1) := by decide +kernel
theorem dX0_leastFrom_29 : decode cX0_leastFrom 29 = .ok (.iload 5, 2) := by decide +kernel
theorem dX0_leastFrom_31 : decode cX0_leastFrom 31 = .ok (.invokestatic 68, 3) := by decide +kernel
theorem dX0_leastFrom_34 : decode cX0_leastFrom 34 = .ok (.ifCond .eq 38, 3) := by decide +kernel
theorem dX0_leastFrom_37 : decode cX0_leastFrom 37 = .ok (.iload_n 3, 1) := by decide +kernel
theorem dX0_leastFrom_38 : decode cX0_leastFrom 38 = .ok (.iload 5, 2) := by decide +kernel
theorem dX0_leastFrom_40 : decode cX0_leastFrom 40 = .ok (.invokestatic 72, 3) := by decide +kernel
theorem dX0_leastFrom_43 : decode cX0_leastFrom 43 = .ok (.aload_n 0, 1) := by decide +kernel
theorem dX0_leastFrom_44 : decode cX0_leastFrom 44 = .ok (.iload_n 1, 1) := by decide +kernel
theorem dX0_leastFrom_45 : decode cX0_leastFrom 45 = .ok (.iload_n 2, 1) := by decide +kernel
theorem dX0_leastFrom_46 : decode cX0_leastFrom 46 = .ok (.iconst 1, 1) := by decide +kernel
theorem dX0_leastFrom_47 : decode cX0_leastFrom 47 = .ok (.iadd, 1) := by decide +kernel
theorem dX0_leastFrom_48 : decode cX0_leastFrom 48 = .ok (.iload 5, 2) := by decide +kernel
theorem dX0_leastFrom_50 : decode cX0_leastFrom 50 = .ok (.invokestatic 47, 3) := by decide +kernel
theorem dX0_leastFrom_53 : decode cX0_leastFrom 53 = .ok (.iadd, 1) := by decide +kernel
theorem dX0_leastFrom_54 : decode cX0_leastFrom 54 = .ok (.istore 6, 2) := by decide +kernel
theorem dX0_leastFrom_56 : decode cX0_leastFrom 56 = .ok (.iload 6, 2) := by decide +kernel
theorem dX0_leastFrom_58 : decode cX0_leastFrom 58 = .ok (.iload 4, 2) := by decide +kernel
theorem dX0_leastFrom_60 : decode cX0_leastFrom 60 = .ok (.if_icmp .ge 8, 3) := by decide +kernel
theorem dX0_leastFrom_63 : decode cX0_leastFrom 63 = .ok (.iload 6, 2) := by decide +kernel
theorem dX0_leastFrom_65 : decode cX0_leastFrom 65 = .ok (.goto 5, 3) := by decide +kernel
theorem dX0_leastFrom_68 : decode cX0_leastFrom 68 = .ok (.iload 4, 2) := by decide +kernel
theorem dX0_leastFrom_70 : decode cX0_leastFrom 70 = .ok (.istore 4, 2) := by decide +kernel
theorem dX0_leastFrom_72 : decode cX0_leastFrom 72 = .ok (.iinc 5 1, 3) := by decide +kernel
theorem dX0_leastFrom_75 : decode cX0_leastFrom 75 = .ok (.goto (-56), 3) := by decide +kernel
theorem dX0_leastFrom_78 : decode cX0_leastFrom 78 = .ok (.iload 4, 2) := by decide +kernel
theorem dX0_leastFrom_80 : decode cX0_leastFrom 80 = .ok (.ireturn, 1) := by decide +kernel
theorem dX0_canReach_0 : decode cX0_canReach 0 = .ok (.iload_n 0, 1) := by decide +kernel
theorem dX0_canReach_1 : decode cX0_canReach 1 = .ok (.iconst 1, 1) := by decide +kernel
theorem dX0_canReach_2 : decode cX0_canReach 2 = .ok (.iload_n 1, 1) := by decide +kernel
theorem dX0_canReach_3 : decode cX0_canReach 3 = .ok (.ishl, 1) := by decide +kernel
theorem dX0_canReach_4 : decode cX0_canReach 4 = .ok (.iand, 1) := by decide +kernel
theorem dX0_canReach_5 : decode cX0_canReach 5 = .ok (.ifCond .eq 7, 3) := by decide +kernel
theorem dX0_canReach_8 : decode cX0_canReach 8 = .ok (.iconst 1, 1) := by decide +kernel
theorem dX0_canReach_9 : decode cX0_canReach 9 = .ok (.goto 4, 3) := by decide +kernel
theorem dX0_canReach_12 : decode cX0_canReach 12 = .ok (.iconst 0, 1) := by decide +kernel
theorem dX0_canReach_13 : decode cX0_canReach 13 = .ok (.ireturn, 1) := by decide +kernel
theorem dX0_shift_0 : decode cX0_shift 0 = .ok (.iload_n 0, 1) := by decide +kernel
theorem dX0_shift_1 : decode cX0_shift 1 = .ok (.ifCond .ne 7, 3) := by decide +kernel
theorem dX0_shift_4 : decode cX0_shift 4 = .ok (.iconst 0, 1) := by decide +kernel
theorem dX0_shift_5 : decode cX0_shift 5 = .ok (.goto 9, 3) := by decide +kernel
theorem dX0_shift_8 : decode cX0_shift 8 = .ok (.iload_n 1, 1) := by decide +kernel
theorem dX0_shift_9 : decode cX0_shift 9 = .ok (.iload_n 0, 1) := by decide +kernel
theorem dX0_shift_10 : decode cX0_shift 10 = .ok (.isub, 1) := by decide +kernel
theorem dX0_shift_11 : decode cX0_shift 11 = .ok (.invokestatic 75, 3) := by decide +kernel
theorem dX0_shift_14 : decode cX0_shift 14 = .ok (.ireturn, 1) := by decide +kernel
end
section
theorem dX1_init_0 : decode cX1_init 0 = .ok (.aload_n 0, 1) := by decide +kernel
theorem dX1_init_1 : decode cX1_init 1 = .ok (.invokespecial 3, 3) := by decide +kernel
theorem dX1_init_4 : decode cX1_init 4 = .ok (.aload_n 0, 1) := by decide +kernel
theorem dX1_init_5 : decode cX1_init 5 = .ok (.iconst 4, 1) := by decide +kernel
theorem dX1_init_6 : decode cX1_init 6 = .ok (.newarray .int, 2) := by decide +kernel
theorem dX1_init_8 : decode cX1_init 8 = .ok (.putfield 9, 3) := by decide +kernel
theorem dX1_init_11 : decode cX1_init 11 = .ok (.aload_n 0, 1) := by decide +kernel
theorem dX1_init_12 : decode cX1_init 12 = .ok (.iconst 0, 1) := by decide +kernel
theorem dX1_init_13 : decode cX1_init 13 = .ok (.putfield 15, 3) := by decide +kernel
theorem dX1_init_16 : decode cX1_init 16 = .ok (.aload_n 0, 1) := by decide +kernel
theorem dX1_init_17 : decode cX1_init 17 = .ok (.iconst 4, 1) := by decide +kernel
theorem dX1_init_18 : decode cX1_init 18 = .ok (.putfield 19, 3) := by decide +kernel
theorem dX1_init_21 : decode cX1_init 21 = .ok (.return_, 1) := by decide +kernel
theorem dX1_build_0 : decode cX1_build 0 = .ok (.aload_n 0, 1) := by decide +kernel
theorem dX1_build_1 : decode cX1_build 1 = .ok (.iload_n 1, 1) := by decide +kernel
theorem dX1_build_2 : decode cX1_build 2 = .ok (.putfield 15, 3) := by decide +kernel
theorem dX1_build_5 : decode cX1_build 5 = .ok (.aload_n 0, 1) := by decide +kernel
theorem dX1_build_6 : decode cX1_build 6 = .ok (.iload_n 2, 1) := by decide +kernel
theorem dX1_build_7 : decode cX1_build 7 = .ok (.putfield 19, 3) := by decide +kernel
theorem dX1_build_10 : decode cX1_build 10 = .ok (.return_, 1) := by decide +kernel
theorem dX1_tuneAll_0 : decode cX1_tuneAll 0 = .ok (.aload_n 0, 1) := by decide +kernel
theorem dX1_tuneAll_1 : decode cX1_tuneAll 1 = .ok (.getfield 9, 3) := by decide +kernel
theorem dX1_tuneAll_4 : decode cX1_tuneAll 4 = .ok (.iconst 0, 1) := by decide +kernel
theorem dX1_tuneAll_5 : decode cX1_tuneAll 5 = .ok (.iload_n 1, 1) := by decide +kernel
theorem dX1_tuneAll_6 : decode cX1_tuneAll 6 = .ok (.iastore, 1) := by decide +kernel
theorem dX1_tuneAll_7 : decode cX1_tuneAll 7 = .ok (.aload_n 0, 1) := by decide +kernel
theorem dX1_tuneAll_8 : decode cX1_tuneAll 8 = .ok (.getfield 9, 3) := by decide +kernel
theorem dX1_tuneAll_11 : decode cX1_tuneAll 11 = .ok (.iconst 1, 1) := by decide +kernel
theorem dX1_tuneAll_12 : decode cX1_tuneAll 12 = .ok (.iload_n 2, 1) := by decide +kernel
theorem dX1_tuneAll_13 : decode cX1_tuneAll 13 = .ok (.iastore, 1) := by decide +kernel
theorem dX1_tuneAll_14 : decode cX1_tuneAll 14 = .ok (.aload_n 0, 1) := by decide +kernel
theorem dX1_tuneAll_15 : decode cX1_tuneAll 15 = .ok (.getfield 9, 3) := by decide +kernel
theorem dX1_tuneAll_18 : decode cX1_tuneAll 18 = .ok (.iconst 2, 1) := by decide +kernel
theorem dX1_tuneAll_19 : decode cX1_tuneAll 19 = .ok (.iload_n 3, 1) := by decide +kernel
theorem dX1_tuneAll_20 : decode cX1_tuneAll 20 = .ok (.iastore, 1) := by decide +kernel
theorem dX1_tuneAll_21 : decode cX1_tuneAll 21 = .ok (.aload_n 0, 1) := by decide +kernel
theorem dX1_tuneAll_22 : decode cX1_tuneAll 22 = .ok (.getfield 9, 3) := by decide +kernel
theorem dX1_tuneAll_25 : decode cX1_tuneAll 25 = .ok (.iconst 3, 1) := by decide +kernel
theorem dX1_tuneAll_26 : decode cX1_tuneAll 26 = .ok (.iload 4, 2) := by decide +kernel
theorem dX1_tuneAll_28 : decode cX1_tuneAll 28 = .ok (.iastore, 1) := by decide +kernel
theorem dX1_tuneAll_29 : decode cX1_tuneAll 29 = .ok (.return_, 1) := by decide +kernel
theorem dX1_highestPosition_0 : decode cX1_highestPosition 0 = .ok (.aload_n 0, 1) := by decide +kernel
theorem dX1_highestPosition_1 : decode cX1_highestPosition 1 = .ok (.getfield 19, 3) := by decide +kernel
theorem dX1_highestPosition_4 : decode cX1_highestPosition 4 = .ok (.iconst 3, 1) := by decide +kernel
theorem dX1_highestPosition_5 : decode cX1_highestPosition 5 = .ok (.isub, 1) := by decide +kernel
theorem dX1_highestPosition_6 : decode cX1_highestPosition 6 = .ok (.ireturn, 1) := by decide +kernel
theorem dX1_lowestString_0 : decode cX1_lowestString 0 = .ok (.iconst 0, 1) := by decide +kernel
theorem dX1_lowestString_1 : decode cX1_lowestString 1 = .ok (.istore_n 3, 1) := by decide +kernel
theorem dX1_lowestString_2 : decode cX1_lowestString 2 = .ok (.iload_n 3, 1) := by decide +kernel
theorem dX1_lowestString_3 : decode cX1_lowestString 3 = .ok (.iconst 4, 1) := by decide +kernel
theorem dX1_lowestString_4 : decode cX1_lowestString 4 = .ok (.if_icmp .ge 40, 3) := by decide +kernel
theorem dX1_lowestString_7 : decode cX1_lowestString 7 = .ok (.iload_n 1, 1) := by decide +kernel
theorem dX1_lowestString_8 : decode cX1_lowestString 8 = .ok (.aload_n 0, 1) := by decide +kernel
theorem dX1_lowestString_9 : decode cX1_lowestString 9 = .ok (.getfield 9, 3) := by decide +kernel
theorem dX1_lowestString_12 : decode cX1_lowestString 12 = .ok (.iload_n 3, 1) := by decide +kernel
theorem dX1_lowestString_13 : decode cX1_lowestString 13 = .ok (.iaload, 1) := by decide +kernel
theorem dX1_lowestString_14 : decode cX1_lowestString 14 = .ok (.isub, 1) := by decide +kernel
theorem dX1_lowestString_15 : decode cX1_lowestString 15 = .ok (.istore 4, 2) := by decide +kernel
theorem dX1_lowestString_17 : decode cX1_lowestString 17 = .ok (.iload 4, 2) := by decide +kernel
theorem dX1_lowestString_19 : decode cX1_lowestString 19 = .ok (.ifCond .eq 17, 3) := by decide +kernel
theorem dX1_lowestString_22 : decode cX1_lowestString 22 = .ok (.iload 4, 2) := by decide +kernel
theorem dX1_lowestString_24 : decode cX1_lowestString 24 = .ok (.iload_n 2, 1) := by decide +kernel
theorem dX1_lowestString_25 : decode cX1_lowestString 25 = .ok (.if_icmp .lt 13, 3) := by decide +kernel
theorem dX1_lowestString_28 : decode cX1_lowestString 28 = .ok (.iload 4, 2) := by decide +kernel
theorem dX1_lowestString_30 : decode cX1_lowestString 30 = .ok (.iload_n 2, 1) := by decide +kernel
theorem dX1_lowestString_31 : decode cX1_lowestString 31 = .ok (.iconst 3, 1) := by decide +kernel
theorem dX1_lowestString_32 : decode cX1_lowestString 32 = .ok (.iadd, 1) := by decide +kernel
theorem dX1_lowestString_33 : decode cX1_lowestString 33 = .ok (.if_icmp .gt 5, 3) := by decide +kernel
theorem dX1_lowestString_36 : decode cX1_lowestString 36 = .ok (.iload_n 3, 1) := by decide +kernel
theorem dX1_lowestString_37 : decode cX1_lowestString 37 = .ok (.ireturn, 1) := by decide +kernel
theorem dX1_lowestString_38 : decode cX1_lowestString 38 = .ok (.iinc 3 1, 3) := by decide +kernel
theorem dX1_lowestString_41 : decode cX1_lowestString 41 = .ok (.goto (-39), 3) := by decide +kernel
theorem dX1_lowestString_44 : decode cX1_lowestString 44 = .ok (.iconst (-1), 1) := by decide +kernel
theorem dX1_lowestString_45 : decode cX1_lowestString 45 = .ok (.ireturn, 1) := by decide +kernel
theorem dX2_init_0 : decode cX2_init 0 = .ok (.aload_n 0, 1) := by decide +kernel
theorem dX2_init_1 : decode cX2_init 1 = .ok (.invokespecial 3, 3) := by decide +kernel
theorem dX2_init_4 : decode cX2_init 4 = .ok (.aload_n 0, 1) := by decide +kernel
theorem dX2_init_5 : decode cX2_init 5 = .ok (.iconst 0, 1) := by decide +kernel
theorem dX2_init_6 : decode cX2_init 6 = .ok (.putfield 9, 3) := by decide +kernel
theorem dX2_init_9 : decode cX2_init 9 = .ok (.aload_n 0, 1) := by decide +kernel
theorem dX2_init_10 : decode cX2_init 10 = .ok (.iconst 4, 1) := by decide +kernel
theorem dX2_init_11 : decode cX2_init 11 = .ok (.putfield 15, 3) := by decide +kernel
theorem dX2_init_14 : decode cX2_init 14 = .ok (.aload_n 0, 1) := by decide +kernel
theorem dX2_init_15 : decode cX2_init 15 = .ok (.iconst 0, 1) := by decide +kernel
theorem dX2_init_16 : decode cX2_init 16 = .ok (.putfield 18, 3) := by decide +kernel
theorem dX2_init_19 : decode cX2_init 19 = .ok (.aload_n 0, 1) := by decide +kernel
theorem dX2_init_20 : decode cX2_init 20 = .ok (.iconst 0, 1) := by decide +kernel
theorem dX2_init_21 : decode cX2_init 21 = .ok (.putfield 21, 3) := by decide +kernel
theorem dX2_init_24 : decode cX2_init 24 = .ok (.return_, 1) := by decide +kernel
theorem dX2_place_0 : decode cX2_place 0 = .ok (.aload_n 0, 1) := by decide +kernel
theorem dX2_place_1 : decode cX2_place 1 = .ok (.iload_n 1, 1) := by decide +kernel
theorem dX2_place_2 : decode cX2_place 2 = .ok (.putfield 9, 3) := by decide +kernel
theorem dX2_place_5 : decode cX2_place 5 = .ok (.aload_n 0, 1) := by decide +kernel
theorem dX2_place_6 : decode cX2_place 6 = .ok (.iload_n 2, 1) := by decide +kernel
theorem dX2_place_7 : decode cX2_place 7 = .ok (.putfield 15, 3) := by decide +kernel
theorem dX2_place_10 : decode cX2_place 10 = .ok (.aload_n 0, 1) := by decide +kernel
theorem dX2_place_11 : decode cX2_place 11 = .ok (.iload_n 3, 1) := by decide +kernel
theorem dX2_place_12 : decode cX2_place 12 = .ok (.putfield 18, 3) := by decide +kernel
theorem dX2_place_15 : decode cX2_place 15 = .ok (.return_, 1) := by decide +kernel
theorem dX2_isReady_0 : decode cX2_isReady 0 = .ok (.iload_n 1, 1) := by decide +kernel
theorem dX2_isReady_1 : decode cX2_isReady 1 = .ok (.aload_n 0, 1) := by decide +kernel
theorem dX2_isReady_2 : decode cX2_isReady 2 = .ok (.getfield 18, 3) := by decide +kernel
theorem dX2_isReady_5 : decode cX2_isReady 5 = .ok (.if_icmp .lt 7, 3) := by decide +kernel
theorem dX2_isReady_8 : decode cX2_isReady 8 = .ok (.iconst 1, 1) := by decide +kernel
theorem dX2_isReady_9 : decode cX2_isReady 9 = .ok (.goto 4, 3) := by decide +kernel
theorem dX2_isReady_12 : decode cX2_isReady 12 = .ok (.iconst 0, 1) := by decide +kernel
theorem dX2_isReady_13 : decode cX2_isReady 13 = .ok (.ireturn, 1) := by decide +kernel
theorem dX3_init_0 : decode cX3_init 0 = .ok (.aload_n 0, 1) := by decide +kernel
theorem dX3_init_1 : decode cX3_init 1 = .ok (.invokespecial 3, 3) := by decide +kernel
theorem dX3_init_4 : decode cX3_init 4 = .ok (.aload_n 0, 1) := by decide +kernel
theorem dX3_init_5 : decode cX3_init 5 = .ok (.bipush 16, 2) := by decide +kernel
theorem dX3_init_7 : decode cX3_init 7 = .ok (.newarray .int, 2) := by decide +kernel
theorem dX3_init_9 : decode cX3_init 9 = .ok (.putfield 9, 3) := by decide +kernel
theorem dX3_init_12 : decode cX3_init 12 = .ok (.aload_n 0, 1) := by decide +kernel
theorem dX3_init_13 : decode cX3_init 13 = .ok (.iconst 0, 1) := by decide +kernel
theorem dX3_init_14 : decode cX3_init 14 = .ok (.putfield 15, 3) := by decide +kernel
theorem dX3_init_17 : decode cX3_init 17 = .ok (.return_, 1) := by decide +kernel
theorem dX3_isFull_0 : decode cX3_isFull 0 = .ok (.aload_n 0, 1) := by decide +kernel
theorem dX3_isFull_1 : decode cX3_isFull 1 = .ok (.getfield 15, 3) := by decide +kernel
theorem dX3_isFull_4 : decode cX3_isFull 4 = .ok (.bipush 16, 2) := by decide +kernel
theorem dX3_isFull_6 : decode cX3_isFull 6 = .ok (.if_icmp .lt 7, 3) := by decide +kernel
theorem dX3_isFull_9 : decode cX3_isFull 9 = .ok (.iconst 1, 1) := by decide +kernel
theorem dX3_isFull_10 : decode cX3_isFull 10 = .ok (.goto 4, 3) := by decide +kernel
theorem dX3_isFull_13 : decode cX3_isFull 13 = .ok (.iconst 0, 1) := by decide +kernel
theorem dX3_isFull_14 : decode cX3_isFull 14 = .ok (.ireturn, 1) := by decide +kernel
theorem dX3_append_0 : decode cX3_append 0 = .ok (.aload_n 0, 1) := by decide +kernel
theorem dX3_append_1 : decode cX3_append 1 = .ok (.invokevirtual 19, 3) := by decide +kernel
theorem dX3_append_4 : decode cX3_append 4 = .ok (.ifCond .eq 4, 3) := by decide +kernel
theorem dX3_append_7 : decode cX3_append 7 = .ok (.return_, 1) := by decide +kernel
theorem dX3_append_8 : decode cX3_append 8 = .ok (.aload_n 0, 1) := by decide +kernel
theorem dX3_append_9 : decode cX3_append 9 = .ok (.getfield 9, 3) := by decide +kernel
theorem dX3_append_12 : decode cX3_append 12 = .ok (.aload_n 0, 1) := by decide +kernel
theorem dX3_append_13 : decode cX3_append 13 = .ok (.getfield 15, 3) := by decide +kernel
theorem dX3_append_16 : decode cX3_append 16 = .ok (.iload_n 1, 1) := by decide +kernel
theorem dX3_append_17 : decode cX3_append 17 = .ok (.iastore, 1) := by decide +kernel
theorem dX3_append_18 : decode cX3_append 18 = .ok (.aload_n 0, 1) := by decide +kernel
theorem dX3_append_19 : decode cX3_append 19 = .ok (.dup, 1) := by decide +kernel
theorem dX3_append_20 : decode cX3_append 20 = .ok (.getfield 15, 3) := by decide +kernel
theorem dX3_append_23 : decode cX3_append 23 = .ok (.iconst 1, 1) := by decide +kernel
theorem dX3_append_24 : decode cX3_append 24 = .ok (.iadd, 1) := by decide +kernel
theorem dX3_append_25 : decode cX3_append 25 = .ok (.putfield 15, 3) := by decide +kernel
theorem dX3_append_28 : decode cX3_append 28 = .ok (.return_, 1) := by decide +kernel
theorem dX3_canMove_0 : decode cX3_canMove 0 = .ok (.iconst 0, 1) := by decide +kernel
theorem dX3_canMove_1 : decode cX3_canMove 1 = .ok (.istore_n 2, 1) := by decide +kernel
theorem dX3_canMove_2 : decode cX3_canMove 2 = .ok (.iload_n 2, 1) := by decide +kernel
theorem dX3_canMove_3 : decode cX3_canMove 3 = .ok (.aload_n 0, 1) := by decide +kernel
theorem dX3_canMove_4 : decode cX3_canMove 4 = .ok (.getfield 15, 3) := by decide +kernel
theorem dX3_canMove_7 : decode cX3_canMove 7 = .ok (.if_icmp .ge 30, 3) := by decide +kernel
theorem dX3_canMove_10 : decode cX3_canMove 10 = .ok (.aload_n 0, 1) := by decide +kernel
theorem dX3_canMove_11 : decode cX3_canMove 11 = .ok (.getfield 9, 3) := by decide +kernel
theorem dX3_canMove_14 : decode cX3_canMove 14 = .ok (.iload_n 2, 1) := by decide +kernel
theorem dX3_canMove_15 : decode cX3_canMove 15 = .ok (.iaload, 1) := by decide +kernel
theorem dX3_canMove_16 : decode cX3_canMove 16 = .ok (.iload_n 1, 1) := by decide +kernel
theorem dX3_canMove_17 : decode cX3_canMove 17 = .ok (.iadd, 1) := by decide +kernel
theorem dX3_canMove_18 : decode cX3_canMove 18 = .ok (.istore_n 3, 1) := by decide +kernel
theorem dX3_canMove_19 : decode cX3_canMove 19 = .ok (.iload_n 3, 1) := by decide +kernel
theorem dX3_canMove_20 : decode cX3_canMove 20 = .ok (.ifCond .lt 9, 3) := by decide +kernel
theorem dX3_canMove_23 : decode cX3_canMove 23 = .ok (.iload_n 3, 1) := by decide +kernel
theorem dX3_canMove_24 : decode cX3_canMove 24 = .ok (.bipush 80, 2) := by decide +kernel
theorem dX3_canMove_26 : decode cX3_canMove 26 = .ok (.if_icmp .le 5, 3) := by decide +kernel
theorem dX3_canMove_29 : decode cX3_canMove 29 = .ok (.iconst 0, 1) := by decide +kernel
theorem dX3_canMove_30 : decode cX3_canMove 30 = .ok (.ireturn, 1) := by decide +kernel
theorem dX3_canMove_31 : decode cX3_canMove 31 = .ok (.iinc 2 1, 3) := by decide +kernel
theorem dX3_canMove_34 : decode cX3_canMove 34 = .ok (.goto (-32), 3) := by decide +kernel
theorem dX3_canMove_37 : decode cX3_canMove 37 = .ok (.iconst 1, 1) := by decide +kernel
theorem dX3_canMove_38 : decode cX3_canMove 38 = .ok (.ireturn, 1) := by decide +kernel
theorem dX3_move_0 : decode cX3_move 0 = .ok (.iconst 0, 1) := by decide +kernel
theorem dX3_move_1 : decode cX3_move 1 = .ok (.istore_n 2, 1) := by decide +kernel
theorem dX3_move_2 : decode cX3_move 2 = .ok (.iload_n 2, 1) := by decide +kernel
theorem dX3_move_3 : decode cX3_move 3 = .ok (.aload_n 0, 1) := by decide +kernel
theorem dX3_move_4 : decode cX3_move 4 = .ok (.getfield 15, 3) := by decide +kernel
theorem dX3_move_7 : decode cX3_move 7 = .ok (.if_icmp .ge 19, 3) := by decide +kernel
theorem dX3_move_10 : decode cX3_move 10 = .ok (.aload_n 0, 1) := by decide +kernel
theorem dX3_move_11 : decode cX3_move 11 = .ok (.getfield 9, 3) := by decide +kernel
theorem dX3_move_14 : decode cX3_move 14 = .ok (.iload_n 2, 1) := by decide +kernel
theorem dX3_move_15 : decode cX3_move 15 = .ok (.dup2, 1) := by decide +kernel
theorem dX3_move_16 : decode cX3_move 16 = .ok (.iaload, 1) := by decide +kernel
theorem dX3_move_17 : decode cX3_move 17 = .ok (.iload_n 1, 1) := by decide +kernel
theorem dX3_move_18 : decode cX3_move 18 = .ok (.iadd, 1) := by decide +kernel
theorem dX3_move_19 : decode cX3_move 19 = .ok (.iastore, 1) := by decide +kernel
theorem dX3_move_20 : decode cX3_move 20 = .ok (.iinc 2 1, 3) := by decide +kernel
theorem dX3_move_23 : decode cX3_move 23 = .ok (.goto (-21), 3) := by decide +kernel
theorem dX3_move_26 : decode cX3_move 26 = .ok (.return_, 1) := by decide +kernel
theorem dX4_init_0 : decode cX4_init 0 = .ok (.aload_n 0, 1) := by decide +kernel
theorem dX4_init_1 : decode cX4_init 1 = .ok (.invokespecial 3, 3) := by decide +kernel
theorem dX4_init_4 : decode cX4_init 4 = .ok (.aload_n 0, 1) := by decide +kernel
theorem dX4_init_5 : decode cX4_init 5 = .ok (.iconst 2, 1) := by decide +kernel
theorem dX4_init_6 : decode cX4_init 6 = .ok (.putfield 9, 3) := by decide +kernel
theorem dX4_init_9 : decode cX4_init 9 = .ok (.aload_n 0, 1) := by decide +kernel
theorem dX4_init_10 : decode cX4_init 10 = .ok (.iconst 0, 1) := by decide +kernel
theorem dX4_init_11 : decode cX4_init 11 = .ok (.putfield 15, 3) := by decide +kernel
theorem dX4_init_14 : decode cX4_init 14 = .ok (.return_, 1) := by decide +kernel
theorem dX4_knows_0 : decode cX4_knows 0 = .ok (.aload_n 0, 1) := by decide +kernel
theorem dX4_knows_1 : decode cX4_knows 1 = .ok (.getfield 15, 3) := by decide +kernel
theorem dX4_knows_4 : decode cX4_knows 4 = .ok (.iconst 1, 1) := by decide +kernel
theorem dX4_knows_5 : decode cX4_knows 5 = .ok (.iload_n 1, 1) := by decide +kernel
theorem dX4_knows_6 : decode cX4_knows 6 = .ok (.ishl, 1) := by decide +kernel
theorem dX4_knows_7 : decode cX4_knows 7 = .ok (.iand, 1) := by decide +kernel
theorem dX4_knows_8 : decode cX4_knows 8 = .ok (.ifCond .eq 7, 3) := by decide +kernel
theorem dX4_knows_11 : decode cX4_knows 11 = .ok (.iconst 1, 1) := by decide +kernel
theorem dX4_knows_12 : decode cX4_knows 12 = .ok (.goto 4, 3) := by decide +kernel
theorem dX4_knows_15 : decode cX4_knows 15 = .ok (.iconst 0, 1) := by decide +kernel
theorem dX4_knows_16 : decode cX4_knows 16 = .ok (.ireturn, 1) := by decide +kernel
theorem dX4_takeIn_0 : decode cX4_takeIn 0 = .ok (.aload_n 0, 1) := by decide +kernel
theorem dX4_takeIn_1 : decode cX4_takeIn 1 = .ok (.dup, 1) := by decide +kernel
theorem dX4_takeIn_2 : decode cX4_takeIn 2 = .ok (.getfield 15, 3) := by decide +kernel
theorem dX4_takeIn_5 : decode cX4_takeIn 5 = .ok (.iconst 1, 1) := by decide +kernel
theorem dX4_takeIn_6 : decode cX4_takeIn 6 = .ok (.iload_n 1, 1) := by decide +kernel
theorem dX4_takeIn_7 : decode cX4_takeIn 7 = .ok (.ishl, 1) := by decide +kernel
theorem dX4_takeIn_8 : decode cX4_takeIn 8 = .ok (.ior, 1) := by decide +kernel
theorem dX4_takeIn_9 : decode cX4_takeIn 9 = .ok (.putfield 15, 3) := by decide +kernel
theorem dX4_takeIn_12 : decode cX4_takeIn 12 = .ok (.iload_n 2, 1) := by decide +kernel
theorem dX4_takeIn_13 : decode cX4_takeIn 13 = .ok (.aload_n 0, 1) := by decide +kernel
theorem dX4_takeIn_14 : decode cX4_takeIn 14 = .ok (.getfield 9, 3) := by decide +kernel
theorem dX4_takeIn_17 : decode cX4_takeIn 17 = .ok (.if_icmp .ne 13, 3) := by decide +kernel
theorem dX4_takeIn_20 : decode cX4_takeIn 20 = .ok (.aload_n 0, 1) := by decide +kernel
theorem dX4_takeIn_21 : decode cX4_takeIn 21 = .ok (.dup, 1) := by decide +kernel
theorem dX4_takeIn_22 : decode cX4_takeIn 22 = .ok (.getfield 9, 3) := by decide +kernel
theorem dX4_takeIn_25 : decode cX4_takeIn 25 = .ok (.iconst 1, 1) := by decide +kernel
theorem dX4_takeIn_26 : decode cX4_takeIn 26 = .ok (.iadd, 1) := by decide +kernel
theorem dX4_takeIn_27 : decode cX4_takeIn 27 = .ok (.putfield 9, 3) := by decide +kernel
theorem dX4_takeIn_30 : decode cX4_takeIn 30 = .ok (.return_, 1) := by decide +kernel
theorem dJ9_abs_0f7a4_0 : decode cJ9_abs_0f7a4 0 = .ok (.iload_n 0, 1) := by decide +kernel
theorem dJ9_abs_0f7a4_1 : decode cJ9_abs_0f7a4 1 = .ok (.ifCond .ge 8, 3) := by decide +kernel
theorem dJ9_abs_0f7a4_4 : decode cJ9_abs_0f7a4 4 = .ok (.iload_n 0, 1) := by decide +kernel
theorem dJ9_abs_0f7a4_5 : decode cJ9_abs_0f7a4 5 = .ok (.ineg, 1) := by decide +kernel
theorem dJ9_abs_0f7a4_6 : decode cJ9_abs_0f7a4 6 = .ok (.goto 4, 3) := by decide +kernel
theorem dJ9_abs_0f7a4_9 : decode cJ9_abs_0f7a4 9 = .ok (.iload_n 0, 1) := by decide +kernel
theorem dJ9_abs_0f7a4_10 : decode cJ9_abs_0f7a4 10 = .ok (.ireturn, 1) := by decide +kernel
end
section
theorem dX5_init_0 : decode cX5_init 0 = .ok (.aload_n 0, 1) := by decide +kernel
theorem dX5_init_1 : decode cX5_init 1 = .ok (.invokespecial 3, 3) := by decide +kernel
theorem dX5_init_4 : decode cX5_init 4 = .ok (.aload_n 0, 1) := by decide +kernel
theorem dX5_init_5 : decode cX5_init 5 = .ok (.bipush 8, 2) := by decide +kernel
theorem dX5_init_7 : decode cX5_init 7 = .ok (.anewarray 9, 3) := by decide +kernel
theorem dX5_init_10 : decode cX5_init 10 = .ok (.putfield 11, 3) := by decide +kernel
theorem dX5_init_13 : decode cX5_init 13 = .ok (.iconst 0, 1) := by decide +kernel
theorem dX5_init_14 : decode cX5_init 14 = .ok (.istore_n 1, 1) := by decide +kernel
theorem dX5_init_15 : decode cX5_init 15 = .ok (.iload_n 1, 1) := by decide +kernel
theorem dX5_init_16 : decode cX5_init 16 = .ok (.bipush 8, 2) := by decide +kernel
theorem dX5_init_18 : decode cX5_init 18 = .ok (.if_icmp .ge 22, 3) := by decide +kernel
theorem dX5_init_21 : decode cX5_init 21 = .ok (.aload_n 0, 1) := by decide +kernel
theorem dX5_init_22 : decode cX5_init 22 = .ok (.getfield 11, 3) := by decide +kernel
theorem dX5_init_25 : decode cX5_init 25 = .ok (.iload_n 1, 1) := by decide +kernel
theorem dX5_init_26 : decode cX5_init 26 = .ok (.new 9, 3) := by decide +kernel
theorem dX5_init_29 : decode cX5_init 29 = .ok (.dup, 1) := by decide +kernel
theorem dX5_init_30 : decode cX5_init 30 = .ok (.invokespecial 15, 3) := by decide +kernel
theorem dX5_init_33 : decode cX5_init 33 = .ok (.aastore, 1) := by decide +kernel
theorem dX5_init_34 : decode cX5_init 34 = .ok (.iinc 1 1, 3) := by decide +kernel
theorem dX5_init_37 : decode cX5_init 37 = .ok (.goto (-22), 3) := by decide +kernel
theorem dX5_init_40 : decode cX5_init 40 = .ok (.aload_n 0, 1) := by decide +kernel
theorem dX5_init_41 : decode cX5_init 41 = .ok (.bipush 8, 2) := by decide +kernel
theorem dX5_init_43 : decode cX5_init 43 = .ok (.anewarray 16, 3) := by decide +kernel
theorem dX5_init_46 : decode cX5_init 46 = .ok (.putfield 18, 3) := by decide +kernel
theorem dX5_init_49 : decode cX5_init 49 = .ok (.iconst 0, 1) := by decide +kernel
theorem dX5_init_50 : decode cX5_init 50 = .ok (.istore_n 1, 1) := by decide +kernel
theorem dX5_init_51 : decode cX5_init 51 = .ok (.iload_n 1, 1) := by decide +kernel
theorem dX5_init_52 : decode cX5_init 52 = .ok (.bipush 8, 2) := by decide +kernel
theorem dX5_init_54 : decode cX5_init 54 = .ok (.if_icmp .ge 22, 3) := by decide +kernel
theorem dX5_init_57 : decode cX5_init 57 = .ok (.aload_n 0, 1) := by decide +kernel
theorem dX5_init_58 : decode cX5_init 58 = .ok (.getfield 18, 3) := by decide +kernel
theorem dX5_init_61 : decode cX5_init 61 = .ok (.iload_n 1, 1) := by decide +kernel
theorem dX5_init_62 : decode cX5_init 62 = .ok (.new 16, 3) := by decide +kernel
theorem dX5_init_65 : decode cX5_init 65 = .ok (.dup, 1) := by decide +kernel
theorem dX5_init_66 : decode cX5_init 66 = .ok (.invokespecial 22, 3) := by decide +kernel
theorem dX5_init_69 : decode cX5_init 69 = .ok (.aastore, 1) := by decide +kernel
theorem dX5_init_70 : decode cX5_init 70 = .ok (.iinc 1 1, 3) := by decide +kernel
theorem dX5_init_73 : decode cX5_init 73 = .ok (.goto (-22), 3) := by decide +kernel
theorem dX5_init_76 : decode cX5_init 76 = .ok (.aload_n 0, 1) := by decide +kernel
theorem dX5_init_77 : decode cX5_init 77 = .ok (.iconst 5, 1) := by decide +kernel
theorem dX5_init_78 : decode cX5_init 78 = .ok (.anewarray 23, 3) := by decide +kernel
theorem dX5_init_81 : decode cX5_init 81 = .ok (.putfield 25, 3) := by decide +kernel
theorem dX5_init_84 : decode cX5_init 84 = .ok (.iconst 0, 1) := by decide +kernel
theorem dX5_init_85 : decode cX5_init 85 = .ok (.istore_n 1, 1) := by decide +kernel
theorem dX5_init_86 : decode cX5_init 86 = .ok (.iload_n 1, 1) := by decide +kernel
theorem dX5_init_87 : decode cX5_init 87 = .ok (.iconst 5, 1) := by decide +kernel
theorem dX5_init_88 : decode cX5_init 88 = .ok (.if_icmp .ge 22, 3) := by decide +kernel
theorem dX5_init_91 : decode cX5_init 91 = .ok (.aload_n 0, 1) := by decide +kernel
theorem dX5_init_92 : decode cX5_init 92 = .ok (.getfield 25, 3) := by decide +kernel
theorem dX5_init_95 : decode cX5_init 95 = .ok (.iload_n 1, 1) := by decide +kernel
theorem dX5_init_96 : decode cX5_init 96 = .ok (.new 23, 3) := by decide +kernel
theorem dX5_init_99 : decode cX5_init 99 = .ok (.dup, 1) := by decide +kernel
theorem dX5_init_100 : decode cX5_init 100 = .ok (.invokespecial 29, 3) := by decide +kernel
theorem dX5_init_103 : decode cX5_init 103 = .ok (.aastore, 1) := by decide +kernel
theorem dX5_init_104 : decode cX5_init 104 = .ok (.iinc 1 1, 3) := by decide +kernel
theorem dX5_init_107 : decode cX5_init 107 = .ok (.goto (-21), 3) := by decide +kernel
theorem dX5_init_110 : decode cX5_init 110 = .ok (.aload_n 0, 1) := by decide +kernel
theorem dX5_init_111 : decode cX5_init 111 = .ok (.bipush 20, 2) := by decide +kernel
theorem dX5_init_113 : decode cX5_init 113 = .ok (.anewarray 30, 3) := by decide +kernel
theorem dX5_init_116 : decode cX5_init 116 = .ok (.putfield 32, 3) := by decide +kernel
theorem dX5_init_119 : decode cX5_init 119 = .ok (.iconst 0, 1) := by decide +kernel
theorem dX5_init_120 : decode cX5_init 120 = .ok (.istore_n 1, 1) := by decide +kernel
theorem dX5_init_121 : decode cX5_init 121 = .ok (.iload_n 1, 1) := by decide +kernel
theorem dX5_init_122 : decode cX5_init 122 = .ok (.bipush 20, 2) := by decide +kernel
theorem dX5_init_124 : decode cX5_init 124 = .ok (.if_icmp .ge 22, 3) := by decide +kernel
theorem dX5_init_127 : decode cX5_init 127 = .ok (.aload_n 0, 1) := by decide +kernel
theorem dX5_init_128 : decode cX5_init 128 = .ok (.getfield 32, 3) := by decide +kernel
theorem dX5_init_131 : decode cX5_init 131 = .ok (.iload_n 1, 1) := by decide +kernel
theorem dX5_init_132 : decode cX5_init 132 = .ok (.new 30, 3) := by decide +kernel
theorem dX5_init_135 : decode cX5_init 135 = .ok (.dup, 1) := by decide +kernel
theorem dX5_init_136 : decode cX5_init 136 = .ok (.invokespecial 36, 3) := by decide +kernel
theorem dX5_init_139 : decode cX5_init 139 = .ok (.aastore, 1) := by decide +kernel
theorem dX5_init_140 : decode cX5_init 140 = .ok (.iinc 1 1, 3) := by decide +kernel
theorem dX5_init_143 : decode cX5_init 143 = .ok (.goto (-22), 3) := by decide +kernel
theorem dX5_init_146 : decode cX5_init 146 = .ok (.aload_n 0, 1) := by decide +kernel
theorem dX5_init_147 : decode cX5_init 147 = .ok (.iconst 4, 1) := by decide +kernel
theorem dX5_init_148 : decode cX5_init 148 = .ok (.newarray .int, 2) := by decide +kernel
theorem dX5_init_150 : decode cX5_init 150 = .ok (.putfield 37, 3) := by decide +kernel
theorem dX5_init_153 : decode cX5_init 153 = .ok (.aload_n 0, 1) := by decide +kernel
theorem dX5_init_154 : decode cX5_init 154 = .ok (.new 41, 3) := by decide +kernel
theorem dX5_init_157 : decode cX5_init 157 = .ok (.dup, 1) := by decide +kernel
theorem dX5_init_158 : decode cX5_init 158 = .ok (.invokespecial 43, 3) := by decide +kernel
theorem dX5_init_161 : decode cX5_init 161 = .ok (.putfield 44, 3) := by decide +kernel
theorem dX5_init_164 : decode cX5_init 164 = .ok (.aload_n 0, 1) := by decide +kernel
theorem dX5_init_165 : decode cX5_init 165 = .ok (.iconst 0, 1) := by decide +kernel
theorem dX5_init_166 : decode cX5_init 166 = .ok (.putfield 48, 3) := by decide +kernel
theorem dX5_init_169 : decode cX5_init 169 = .ok (.aload_n 0, 1) := by decide +kernel
theorem dX5_init_170 : decode cX5_init 170 = .ok (.iconst 0, 1) := by decide +kernel
theorem dX5_init_171 : decode cX5_init 171 = .ok (.putfield 52, 3) := by decide +kernel
theorem dX5_init_174 : decode cX5_init 174 = .ok (.aload_n 0, 1) := by decide +kernel
theorem dX5_init_175 : decode cX5_init 175 = .ok (.iconst 0, 1) := by decide +kernel
theorem dX5_init_176 : decode cX5_init 176 = .ok (.putfield 55, 3) := by decide +kernel
theorem dX5_init_179 : decode cX5_init 179 = .ok (.aload_n 0, 1) := by decide +kernel
theorem dX5_init_180 : decode cX5_init 180 = .ok (.iconst 0, 1) := by decide +kernel
theorem dX5_init_181 : decode cX5_init 181 = .ok (.putfield 58, 3) := by decide +kernel
theorem dX5_init_184 : decode cX5_init 184 = .ok (.return_, 1) := by decide +kernel
theorem dX5_begin_0 : decode cX5_begin 0 = .ok (.aload_n 0, 1) := by decide +kernel
theorem dX5_begin_1 : decode cX5_begin 1 = .ok (.getfield 48, 3) := by decide +kernel
theorem dX5_begin_4 : decode cX5_begin 4 = .ok (.bipush 8, 2) := by decide +kernel
theorem dX5_begin_6 : decode cX5_begin 6 = .ok (.if_icmp .lt 13, 3) := by decide +kernel
theorem dX5_begin_9 : decode cX5_begin 9 = .ok (.new 61, 3) := by decide +kernel
theorem dX5_begin_12 : decode cX5_begin 12 = .ok (.dup, 1) := by decide +kernel
theorem dX5_begin_13 : decode cX5_begin 13 = .ok (.ldc 63, 2) := by decide +kernel
theorem dX5_begin_15 : decode cX5_begin 15 = .ok (.invokespecial 65, 3) := by decide +kernel
theorem dX5_begin_18 : decode cX5_begin 18 = .ok (.athrow, 1) := by decide +kernel
theorem dX5_begin_19 : decode cX5_begin 19 = .ok (.aload_n 0, 1) := by decide +kernel
theorem dX5_begin_20 : decode cX5_begin 20 = .ok (.getfield 48, 3) := by decide +kernel
theorem dX5_begin_23 : decode cX5_begin 23 = .ok (.istore_n 1, 1) := by decide +kernel
theorem dX5_begin_24 : decode cX5_begin 24 = .ok (.aload_n 0, 1) := by decide +kernel
theorem dX5_begin_25 : decode cX5_begin 25 = .ok (.dup, 1) := by decide +kernel
theorem dX5_begin_26 : decode cX5_begin 26 = .ok (.getfield 48, 3) := by decide +kernel
theorem dX5_begin_29 : decode cX5_begin 29 = .ok (.iconst 1, 1) := by decide +kernel
theorem dX5_begin_30 : decode cX5_begin 30 = .ok (.iadd, 1) := by decide +kernel
theorem dX5_begin_31 : decode cX5_begin 31 = .ok (.putfield 48, 3) := by decide +kernel
theorem dX5_begin_34 : decode cX5_begin 34 = .ok (.iload_n 1, 1) := by decide +kernel
theorem dX5_begin_35 : decode cX5_begin 35 = .ok (.ireturn, 1) := by decide +kernel
theorem dX5_addNote_0 : decode cX5_addNote 0 = .ok (.aload_n 0, 1) := by decide +kernel
theorem dX5_addNote_1 : decode cX5_addNote 1 = .ok (.iload_n 1, 1) := by decide +kernel
theorem dX5_addNote_2 : decode cX5_addNote 2 = .ok (.invokevirtual 68, 3) := by decide +kernel
theorem dX5_addNote_5 : decode cX5_addNote 5 = .ok (.iload_n 2, 1) := by decide +kernel
theorem dX5_addNote_6 : decode cX5_addNote 6 = .ok (.iconst 0, 1) := by decide +kernel
theorem dX5_addNote_7 : decode cX5_addNote 7 = .ok (.bipush 80, 2) := by decide +kernel
theorem dX5_addNote_9 : decode cX5_addNote 9 = .ok (.invokestatic 72, 3) := by decide +kernel
theorem dX5_addNote_12 : decode cX5_addNote 12 = .ok (.aload_n 0, 1) := by decide +kernel
theorem dX5_addNote_13 : decode cX5_addNote 13 = .ok (.getfield 11, 3) := by decide +kernel
theorem dX5_addNote_16 : decode cX5_addNote 16 = .ok (.iload_n 1, 1) := by decide +kernel
theorem dX5_addNote_17 : decode cX5_addNote 17 = .ok (.aaload, 1) := by decide +kernel
theorem dX5_addNote_18 : decode cX5_addNote 18 = .ok (.astore_n 3, 1) := by decide +kernel
theorem dX5_addNote_19 : decode cX5_addNote 19 = .ok (.aload_n 3, 1) := by decide +kernel
theorem dX5_addNote_20 : decode cX5_addNote 20 = .ok (.invokevirtual 76, 3) := by decide +kernel
theorem dX5_addNote_23 : decode cX5_addNote 23 = .ok (.ifCond .eq 13, 3) := by decide +kernel
theorem dX5_addNote_26 : decode cX5_addNote 26 = .ok (.new 61, 3) := by decide +kernel
theorem dX5_addNote_29 : decode cX5_addNote 29 = .ok (.dup, 1) := by decide +kernel
theorem dX5_addNote_30 : decode cX5_addNote 30 = .ok (.ldc 80, 2) := by decide +kernel
theorem dX5_addNote_32 : decode cX5_addNote 32 = .ok (.invokespecial 65, 3) := by decide +kernel
theorem dX5_addNote_35 : decode cX5_addNote 35 = .ok (.athrow, 1) := by decide +kernel
theorem dX5_addNote_36 : decode cX5_addNote 36 = .ok (.aload_n 3, 1) := by decide +kernel
theorem dX5_addNote_37 : decode cX5_addNote 37 = .ok (.iload_n 2, 1) := by decide +kernel
theorem dX5_addNote_38 : decode cX5_addNote 38 = .ok (.invokevirtual 82, 3) := by decide +kernel
theorem dX5_addNote_41 : decode cX5_addNote 41 = .ok (.aload_n 3, 1) := by decide +kernel
theorem dX5_addNote_42 : decode cX5_addNote 42 = .ok (.getfield 85, 3) := by decide +kernel
theorem dX5_addNote_45 : decode cX5_addNote 45 = .ok (.ireturn, 1) := by decide +kernel
theorem dX5_transpose_0 : decode cX5_transpose 0 = .ok (.aload_n 0, 1) := by decide +kernel
theorem dX5_transpose_1 : decode cX5_transpose 1 = .ok (.iload_n 1, 1) := by decide +kernel
theorem dX5_transpose_2 : decode cX5_transpose 2 = .ok (.invokevirtual 68, 3) := by decide +kernel
theorem dX5_transpose_5 : decode cX5_transpose 5 = .ok (.iload_n 2, 1) := by decide +kernel
theorem dX5_transpose_6 : decode cX5_transpose 6 = .ok (.bipush (-40), 2) := by decide +kernel
theorem dX5_transpose_8 : decode cX5_transpose 8 = .ok (.bipush 40, 2) := by decide +kernel
theorem dX5_transpose_10 : decode cX5_transpose 10 = .ok (.invokestatic 72, 3) := by decide +kernel
theorem dX5_transpose_13 : decode cX5_transpose 13 = .ok (.aload_n 0, 1) := by decide +kernel
theorem dX5_transpose_14 : decode cX5_transpose 14 = .ok (.getfield 11, 3) := by decide +kernel
theorem dX5_transpose_17 : decode cX5_transpose 17 = .ok (.iload_n 1, 1) := by decide +kernel
theorem dX5_transpose_18 : decode cX5_transpose 18 = .ok (.aaload, 1) := by decide +kernel
theorem dX5_transpose_19 : decode cX5_transpose 19 = .ok (.astore_n 3, 1) := by decide +kernel
theorem dX5_transpose_20 : decode cX5_transpose 20 = .ok (.aload_n 3, 1) := by decide +kernel
theorem dX5_transpose_21 : decode cX5_transpose 21 = .ok (.iload_n 2, 1) := by decide +kernel
theorem dX5_transpose_22 : decode cX5_transpose 22 = .ok (.invokevirtual 88, 3) := by decide +kernel
theorem dX5_transpose_25 : decode cX5_transpose 25 = .ok (.ifCond .ne 13, 3) := by decide +kernel
theorem dX5_transpose_28 : decode cX5_transpose 28 = .ok (.new 61, 3) := by decide +kernel
theorem dX5_transpose_31 : decode cX5_transpose 31 = .ok (.dup, 1) := by decide +kernel
theorem dX5_transpose_32 : decode cX5_transpose 32 = .ok (.ldc 92, 2) := by decide +kernel
theorem dX5_transpose_34 : decode cX5_transpose 34 = .ok (.invokespecial 65, 3) := by decide +kernel
theorem dX5_transpose_37 : decode cX5_transpose 37 = .ok (.athrow, 1) := by decide +kernel
theorem dX5_transpose_38 : decode cX5_transpose 38 = .ok (.aload_n 3, 1) := by decide +kernel
theorem dX5_transpose_39 : decode cX5_transpose 39 = .ok (.iload_n 2, 1) := by decide +kernel
theorem dX5_transpose_40 : decode cX5_transpose 40 = .ok (.invokevirtual 94, 3) := by decide +kernel
theorem dX5_transpose_43 : decode cX5_transpose 43 = .ok (.return_, 1) := by decide +kernel
theorem dX5_pitch_0 : decode cX5_pitch 0 = .ok (.aload_n 0, 1) := by decide +kernel
theorem dX5_pitch_1 : decode cX5_pitch 1 = .ok (.iload_n 1, 1) := by decide +kernel
theorem dX5_pitch_2 : decode cX5_pitch 2 = .ok (.iload_n 2, 1) := by decide +kernel
theorem dX5_pitch_3 : decode cX5_pitch 3 = .ok (.invokevirtual 97, 3) := by decide +kernel
theorem dX5_pitch_6 : decode cX5_pitch 6 = .ok (.aload_n 0, 1) := by decide +kernel
theorem dX5_pitch_7 : decode cX5_pitch 7 = .ok (.getfield 11, 3) := by decide +kernel
theorem dX5_pitch_10 : decode cX5_pitch 10 = .ok (.iload_n 1, 1) := by decide +kernel
theorem dX5_pitch_11 : decode cX5_pitch 11 = .ok (.aaload, 1) := by decide +kernel
theorem dX5_pitch_12 : decode cX5_pitch 12 = .ok (.getfield 101, 3) := by decide +kernel
theorem dX5_pitch_15 : decode cX5_pitch 15 = .ok (.iload_n 2, 1) := by decide +kernel
theorem dX5_pitch_16 : decode cX5_pitch 16 = .ok (.iaload, 1) := by decide +kernel
theorem dX5_pitch_17 : decode cX5_pitch 17 = .ok (.ireturn, 1) := by decide +kernel
theorem dX5_tune_0 : decode cX5_tune 0 = .ok (.aload_n 0, 1) := by decide +kernel
theorem dX5_tune_1 : decode cX5_tune 1 = .ok (.iload_n 1, 1) := by decide +kernel
theorem dX5_tune_2 : decode cX5_tune 2 = .ok (.invokevirtual 104, 3) := by decide +kernel
theorem dX5_tune_5 : decode cX5_tune 5 = .ok (.iload_n 2, 1) := by decide +kernel
theorem dX5_tune_6 : decode cX5_tune 6 = .ok (.iconst 0, 1) := by decide +kernel
theorem dX5_tune_7 : decode cX5_tune 7 = .ok (.iconst 3, 1) := by decide +kernel
theorem dX5_tune_8 : decode cX5_tune 8 = .ok (.invokestatic 72, 3) := by decide +kernel
theorem dX5_tune_11 : decode cX5_tune 11 = .ok (.iload_n 3, 1) := by decide +kernel
theorem dX5_tune_12 : decode cX5_tune 12 = .ok (.iconst 0, 1) := by decide +kernel
theorem dX5_tune_13 : decode cX5_tune 13 = .ok (.bipush 60, 2) := by decide +kernel
theorem dX5_tune_15 : decode cX5_tune 15 = .ok (.invokestatic 72, 3) := by decide +kernel
theorem dX5_tune_18 : decode cX5_tune 18 = .ok (.aload_n 0, 1) := by decide +kernel
theorem dX5_tune_19 : decode cX5_tune 19 = .ok (.getfield 18, 3) := by decide +kernel
theorem dX5_tune_22 : decode cX5_tune 22 = .ok (.iload_n 1, 1) := by decide +kernel
theorem dX5_tune_23 : decode cX5_tune 23 = .ok (.aaload, 1) := by decide +kernel
theorem dX5_tune_24 : decode cX5_tune 24 = .ok (.getfield 107, 3) := by decide +kernel
theorem dX5_tune_27 : decode cX5_tune 27 = .ok (.astore 4, 2) := by decide +kernel
theorem dX5_tune_29 : decode cX5_tune 29 = .ok (.aload 4, 2) := by decide +kernel
theorem dX5_tune_31 : decode cX5_tune 31 = .ok (.iload_n 2, 1) := by decide +kernel
theorem dX5_tune_32 : decode cX5_tune 32 = .ok (.iaload, 1) := by decide +kernel
theorem dX5_tune_33 : decode cX5_tune 33 = .ok (.istore 5, 2) := by decide +kernel
theorem dX5_tune_35 : decode cX5_tune 35 = .ok (.aload 4, 2) := by decide +kernel
theorem dX5_tune_37 : decode cX5_tune 37 = .ok (.iload_n 2, 1) := by decide +kernel
theorem dX5_tune_38 : decode cX5_tune 38 = .ok (.iload_n 3, 1) := by decide +kernel
theorem dX5_tune_39 : decode cX5_tune 39 = .ok (.iastore, 1) := by decide +kernel
theorem dX5_tune_40 : decode cX5_tune 40 = .ok (.iload 5, 2) := by decide +kernel
theorem dX5_tune_42 : decode cX5_tune 42 = .ok (.ireturn, 1) := by decide +kernel
theorem dX5_owner_0 : decode cX5_owner 0 = .ok (.aload_n 0, 1) := by decide +kernel
theorem dX5_owner_1 : decode cX5_owner 1 = .ok (.iload_n 1, 1) := by decide +kernel
theorem dX5_owner_2 : decode cX5_owner 2 = .ok (.invokevirtual 104, 3) := by decide +kernel
theorem dX5_owner_5 : decode cX5_owner 5 = .ok (.aload_n 0, 1) := by decide +kernel
theorem dX5_owner_6 : decode cX5_owner 6 = .ok (.getfield 18, 3) := by decide +kernel
theorem dX5_owner_9 : decode cX5_owner 9 = .ok (.iload_n 1, 1) := by decide +kernel
theorem dX5_owner_10 : decode cX5_owner 10 = .ok (.aaload, 1) := by decide +kernel
theorem dX5_owner_11 : decode cX5_owner 11 = .ok (.getfield 110, 3) := by decide +kernel
theorem dX5_owner_14 : decode cX5_owner 14 = .ok (.ireturn, 1) := by decide +kernel
theorem dX5_instruments_0 : decode cX5_instruments 0 = .ok (.aload_n 0, 1) := by decide +kernel
theorem dX5_instruments_1 : decode cX5_instruments 1 = .ok (.getfield 52, 3) := by decide +kernel
theorem dX5_instruments_4 : decode cX5_instruments 4 = .ok (.ireturn, 1) := by decide +kernel
theorem dX5_shifts_0 : decode cX5_shifts 0 = .ok (.aload_n 0, 1) := by decide +kernel
theorem dX5_shifts_1 : decode cX5_shifts 1 = .ok (.iload_n 1, 1) := by decide +kernel
theorem dX5_shifts_2 : decode cX5_shifts 2 = .ok (.iload_n 2, 1) := by decide +kernel
theorem dX5_shifts_3 : decode cX5_shifts 3 = .ok (.invokevirtual 113, 3) := by decide +kernel
theorem dX5_shifts_6 : decode cX5_shifts 6 = .ok (.ifCond .eq 13, 3) := by decide +kernel
theorem dX5_shifts_9 : decode cX5_shifts 9 = .ok (.aload_n 0, 1) := by decide +kernel
theorem dX5_shifts_10 : decode cX5_shifts 10 = .ok (.getfield 44, 3) := by decide +kernel
theorem dX5_shifts_13 : decode cX5_shifts 13 = .ok (.getfield 117, 3) := by decide +kernel
theorem dX5_shifts_16 : decode cX5_shifts 16 = .ok (.goto 4, 3) := by decide +kernel
theorem dX5_shifts_19 : decode cX5_shifts 19 = .ok (.iconst (-1), 1) := by decide +kernel
theorem dX5_shifts_20 : decode cX5_shifts 20 = .ok (.ireturn, 1) := by decide +kernel
theorem dX5_shiftsByAll_0 : decode cX5_shiftsByAll 0 = .ok (.aload_n 0, 1) := by decide +kernel
theorem dX5_shiftsByAll_1 : decode cX5_shiftsByAll 1 = .ok (.iload_n 1, 1) := by decide +kernel
theorem dX5_shiftsByAll_2 : decode cX5_shiftsByAll 2 = .ok (.invokevirtual 68, 3) := by decide +kernel
theorem dX5_shiftsByAll_5 : decode cX5_shiftsByAll 5 = .ok (.aload_n 0, 1) := by decide +kernel
theorem dX5_shiftsByAll_6 : decode cX5_shiftsByAll 6 = .ok (.iload_n 2, 1) := by decide +kernel
theorem dX5_shiftsByAll_7 : decode cX5_shiftsByAll 7 = .ok (.invokevirtual 104, 3) := by decide +kernel
theorem dX5_shiftsByAll_10 : decode cX5_shiftsByAll 10 = .ok (.aload_n 0, 1) := by decide +kernel
theorem dX5_shiftsByAll_11 : decode cX5_shiftsByAll 11 = .ok (.getfield 11, 3) := by decide +kernel
theorem dX5_shiftsByAll_14 : decode cX5_shiftsByAll 14 = .ok (.iload_n 1, 1) := by decide +kernel
theorem dX5_shiftsByAll_15 : decode cX5_shiftsByAll 15 = .ok (.aaload, 1) := by decide +kernel
theorem dX5_shiftsByAll_16 : decode cX5_shiftsByAll 16 = .ok (.getfield 85, 3) := by decide +kernel
theorem dX5_shiftsByAll_19 : decode cX5_shiftsByAll 19 = .ok (.iconst 4, 1) := by decide +kernel
theorem dX5_shiftsByAll_20 : decode cX5_shiftsByAll 20 = .ok (.if_icmp .le 13, 3) := by decide +kernel
theorem dX5_shiftsByAll_23 : decode cX5_shiftsByAll 23 = .ok (.new 61, 3) := by decide +kernel
theorem dX5_shiftsByAll_26 : decode cX5_shiftsByAll 26 = .ok (.dup, 1) := by decide +kernel
theorem dX5_shiftsByAll_27 : decode cX5_shiftsByAll 27 = .ok (.ldc 120, 2) := by decide +kernel
theorem dX5_shiftsByAll_29 : decode cX5_shiftsByAll 29 = .ok (.invokespecial 65, 3) := by decide +kernel
theorem dX5_shiftsByAll_32 : decode cX5_shiftsByAll 32 = .ok (.athrow, 1) := by decide +kernel
theorem dX5_shiftsByAll_33 : decode cX5_shiftsByAll 33 = .ok (.aload_n 0, 1) := by decide +kernel
theorem dX5_shiftsByAll_34 : decode cX5_shiftsByAll 34 = .ok (.getfield 44, 3) := by decide +kernel
theorem dX5_shiftsByAll_37 : decode cX5_shiftsByAll 37 = .ok (.aload_n 0, 1) := by decide +kernel
theorem dX5_shiftsByAll_38 : decode cX5_shiftsByAll 38 = .ok (.getfield 11, 3) := by decide +kernel
theorem dX5_shiftsByAll_41 : decode cX5_shiftsByAll 41 = .ok (.iload_n 1, 1) := by decide +kernel
theorem dX5_shiftsByAll_42 : decode cX5_shiftsByAll 42 = .ok (.aaload, 1) := by decide +kernel
theorem dX5_shiftsByAll_43 : decode cX5_shiftsByAll 43 = .ok (.aload_n 0, 1) := by decide +kernel
theorem dX5_shiftsByAll_44 : decode cX5_shiftsByAll 44 = .ok (.getfield 18, 3) := by decide +kernel
theorem dX5_shiftsByAll_47 : decode cX5_shiftsByAll 47 = .ok (.iload_n 2, 1) := by decide +kernel
theorem dX5_shiftsByAll_48 : decode cX5_shiftsByAll 48 = .ok (.aaload, 1) := by decide +kernel
theorem dX5_shiftsByAll_49 : decode cX5_shiftsByAll 49 = .ok (.invokevirtual 122, 3) := by decide +kernel
theorem dX5_shiftsByAll_52 : decode cX5_shiftsByAll 52 = .ok (.ireturn, 1) := by decide +kernel
theorem dX5_hardest_0 : decode cX5_hardest 0 = .ok (.aload_n 0, 1) := by decide +kernel
theorem dX5_hardest_1 : decode cX5_hardest 1 = .ok (.iload_n 1, 1) := by decide +kernel
theorem dX5_hardest_2 : decode cX5_hardest 2 = .ok (.iload_n 2, 1) := by decide +kernel
theorem dX5_hardest_3 : decode cX5_hardest 3 = .ok (.invokevirtual 113, 3) := by decide +kernel
theorem dX5_hardest_6 : decode cX5_hardest 6 = .ok (.ifCond .eq 13, 3) := by decide +kernel
theorem dX5_hardest_9 : decode cX5_hardest 9 = .ok (.aload_n 0, 1) := by decide +kernel
theorem dX5_hardest_10 : decode cX5_hardest 10 = .ok (.getfield 44, 3) := by decide +kernel
theorem dX5_hardest_13 : decode cX5_hardest 13 = .ok (.getfield 126, 3) := by decide +kernel
theorem dX5_hardest_16 : decode cX5_hardest 16 = .ok (.goto 4, 3) := by decide +kernel
theorem dX5_hardest_19 : decode cX5_hardest 19 = .ok (.iconst (-1), 1) := by decide +kernel
theorem dX5_hardest_20 : decode cX5_hardest 20 = .ok (.ireturn, 1) := by decide +kernel
theorem dX5_position_0 : decode cX5_position 0 = .ok (.aload_n 0, 1) := by decide +kernel
theorem dX5_position_1 : decode cX5_position 1 = .ok (.iload_n 1, 1) := by decide +kernel
theorem dX5_position_2 : decode cX5_position 2 = .ok (.iload_n 2, 1) := by decide +kernel
theorem dX5_position_3 : decode cX5_position 3 = .ok (.invokevirtual 97, 3) := by decide +kernel
theorem dX5_position_6 : decode cX5_position 6 = .ok (.aload_n 0, 1) := by decide +kernel
theorem dX5_position_7 : decode cX5_position 7 = .ok (.iload_n 1, 1) := by decide +kernel
theorem dX5_position_8 : decode cX5_position 8 = .ok (.iload_n 3, 1) := by decide +kernel
theorem dX5_position_9 : decode cX5_position 9 = .ok (.invokevirtual 113, 3) := by decide +kernel
theorem dX5_position_12 : decode cX5_position 12 = .ok (.ifCond .eq 15, 3) := by decide +kernel
theorem dX5_position_15 : decode cX5_position 15 = .ok (.aload_n 0, 1) := by decide +kernel
theorem dX5_position_16 : decode cX5_position 16 = .ok (.getfield 44, 3) := by decide +kernel
theorem dX5_position_19 : decode cX5_position 19 = .ok (.getfield 129, 3) := by decide +kernel
theorem dX5_position_22 : decode cX5_position 22 = .ok (.iload_n 2, 1) := by decide +kernel
theorem dX5_position_23 : decode cX5_position 23 = .ok (.iaload, 1) := by decide +kernel
theorem dX5_position_24 : decode cX5_position 24 = .ok (.goto 4, 3) := by decide +kernel
theorem dX5_position_27 : decode cX5_position 27 = .ok (.iconst (-1), 1) := by decide +kernel
theorem dX5_position_28 : decode cX5_position 28 = .ok (.ireturn, 1) := by decide +kernel
theorem dX5_string_0 : decode cX5_string 0 = .ok (.aload_n 0, 1) := by decide +kernel
theorem dX5_string_1 : decode cX5_string 1 = .ok (.iload_n 1, 1) := by decide +kernel
theorem dX5_string_2 : decode cX5_string 2 = .ok (.iload_n 2, 1) := by decide +kernel
theorem dX5_string_3 : decode cX5_string 3 = .ok (.invokevirtual 97, 3) := by decide +kernel
theorem dX5_string_6 : decode cX5_string 6 = .ok (.aload_n 0, 1) := by decide +kernel
theorem dX5_string_7 : decode cX5_string 7 = .ok (.iload_n 1, 1) := by decide +kernel
theorem dX5_string_8 : decode cX5_string 8 = .ok (.iload_n 3, 1) := by decide +kernel
theorem dX5_string_9 : decode cX5_string 9 = .ok (.invokevirtual 113, 3) := by decide +kernel
theorem dX5_string_12 : decode cX5_string 12 = .ok (.ifCond .ne 5, 3) := by decide +kernel
theorem dX5_string_15 : decode cX5_string 15 = .ok (.iconst (-1), 1) := by decide +kernel
theorem dX5_string_16 : decode cX5_string 16 = .ok (.ireturn, 1) := by decide +kernel
theorem dX5_string_17 : decode cX5_string 17 = .ok (.aload_n 0, 1) := by decide +kernel
theorem dX5_string_18 : decode cX5_string 18 = .ok (.getfield 18, 3) := by decide +kernel
theorem dX5_string_21 : decode cX5_string 21 = .ok (.iload_n 3, 1) := by decide +kernel
theorem dX5_string_22 : decode cX5_string 22 = .ok (.aaload, 1) := by decide +kernel
theorem dX5_string_23 : decode cX5_string 23 = .ok (.aload_n 0, 1) := by decide +kernel
theorem dX5_string_24 : decode cX5_string 24 = .ok (.getfield 11, 3) := by decide +kernel
theorem dX5_string_27 : decode cX5_string 27 = .ok (.iload_n 1, 1) := by decide +kernel
theorem dX5_string_28 : decode cX5_string 28 = .ok (.aaload, 1) := by decide +kernel
theorem dX5_string_29 : decode cX5_string 29 = .ok (.getfield 101, 3) := by decide +kernel
theorem dX5_string_32 : decode cX5_string 32 = .ok (.iload_n 2, 1) := by decide +kernel
theorem dX5_string_33 : decode cX5_string 33 = .ok (.iaload, 1) := by decide +kernel
theorem dX5_string_34 : decode cX5_string 34 = .ok (.aload_n 0, 1) := by decide +kernel
theorem dX5_string_35 : decode cX5_string 35 = .ok (.getfield 44, 3) := by decide +kernel
theorem dX5_string_38 : decode cX5_string 38 = .ok (.getfield 129, 3) := by decide +kernel
theorem dX5_string_41 : decode cX5_string 41 = .ok (.iload_n 2, 1) := by decide +kernel
theorem dX5_string_42 : decode cX5_string 42 = .ok (.iaload, 1) := by decide +kernel
theorem dX5_string_43 : decode cX5_string 43 = .ok (.invokevirtual 132, 3) := by decide +kernel
theorem dX5_string_46 : decode cX5_string 46 = .ok (.ireturn, 1) := by decide +kernel
theorem dX5_learn_0 : decode cX5_learn 0 = .ok (.aload_n 0, 1) := by decide +kernel
theorem dX5_learn_1 : decode cX5_learn 1 = .ok (.iload_n 2, 1) := by decide +kernel
theorem dX5_learn_2 : decode cX5_learn 2 = .ok (.invokevirtual 68, 3) := by decide +kernel
theorem dX5_learn_5 : decode cX5_learn 5 = .ok (.aload_n 0, 1) := by decide +kernel
theorem dX5_learn_6 : decode cX5_learn 6 = .ok (.iload_n 3, 1) := by decide +kernel
theorem dX5_learn_7 : decode cX5_learn 7 = .ok (.invokevirtual 104, 3) := by decide +kernel
theorem dX5_learn_10 : decode cX5_learn 10 = .ok (.iload_n 1, 1) := by decide +kernel
theorem dX5_learn_11 : decode cX5_learn 11 = .ok (.invokestatic 136, 3) := by decide +kernel
theorem dX5_learn_14 : decode cX5_learn 14 = .ok (.aload_n 0, 1) := by decide +kernel
theorem dX5_learn_15 : decode cX5_learn 15 = .ok (.getfield 25, 3) := by decide +kernel
theorem dX5_learn_18 : decode cX5_learn 18 = .ok (.iload_n 1, 1) := by decide +kernel
theorem dX5_learn_19 : decode cX5_learn 19 = .ok (.aaload, 1) := by decide +kernel
theorem dX5_learn_20 : decode cX5_learn 20 = .ok (.astore 4, 2) := by decide +kernel
theorem dX5_learn_22 : decode cX5_learn 22 = .ok (.aload 4, 2) := by decide +kernel
theorem dX5_learn_24 : decode cX5_learn 24 = .ok (.iload_n 2, 1) := by decide +kernel
theorem dX5_learn_25 : decode cX5_learn 25 = .ok (.invokevirtual 139, 3) := by decide +kernel
theorem dX5_learn_28 : decode cX5_learn 28 = .ok (.ifCond .eq 13, 3) := by decide +kernel
theorem dX5_learn_31 : decode cX5_learn 31 = .ok (.new 61, 3) := by decide +kernel
theorem dX5_learn_34 : decode cX5_learn 34 = .ok (.dup, 1) := by decide +kernel
theorem dX5_learn_35 : decode cX5_learn 35 = .ok (.ldc 142, 2) := by decide +kernel
theorem dX5_learn_37 : decode cX5_learn 37 = .ok (.invokespecial 65, 3) := by decide +kernel
theorem dX5_learn_40 : decode cX5_learn 40 = .ok (.athrow, 1) := by decide +kernel
theorem dX5_learn_41 : decode cX5_learn 41 = .ok (.aload_n 0, 1) := by decide +kernel
theorem dX5_learn_42 : decode cX5_learn 42 = .ok (.iload_n 1, 1) := by decide +kernel
theorem dX5_learn_43 : decode cX5_learn 43 = .ok (.iload_n 2, 1) := by decide +kernel
theorem dX5_learn_44 : decode cX5_learn 44 = .ok (.iload_n 3, 1) := by decide +kernel
theorem dX5_learn_45 : decode cX5_learn 45 = .ok (.invokevirtual 144, 3) := by decide +kernel
theorem dX5_learn_48 : decode cX5_learn 48 = .ok (.istore 5, 2) := by decide +kernel
theorem dX5_learn_50 : decode cX5_learn 50 = .ok (.iload 5, 2) := by decide +kernel
theorem dX5_learn_52 : decode cX5_learn 52 = .ok (.iconst (-1), 1) := by decide +kernel
theorem dX5_learn_53 : decode cX5_learn 53 = .ok (.if_icmp .ne 13, 3) := by decide +kernel
theorem dX5_learn_56 : decode cX5_learn 56 = .ok (.new 61, 3) := by decide +kernel
theorem dX5_learn_59 : decode cX5_learn 59 = .ok (.dup, 1) := by decide +kernel
theorem dX5_learn_60 : decode cX5_learn 60 = .ok (.ldc 148, 2) := by decide +kernel
theorem dX5_learn_62 : decode cX5_learn 62 = .ok (.invokespecial 65, 3) := by decide +kernel
theorem dX5_learn_65 : decode cX5_learn 65 = .ok (.athrow, 1) := by decide +kernel
theorem dX5_learn_66 : decode cX5_learn 66 = .ok (.aload 4, 2) := by decide +kernel
theorem dX5_learn_68 : decode cX5_learn 68 = .ok (.iload_n 2, 1) := by decide +kernel
theorem dX5_learn_69 : decode cX5_learn 69 = .ok (.iload 5, 2) := by decide +kernel
theorem dX5_learn_71 : decode cX5_learn 71 = .ok (.invokevirtual 150, 3) := by decide +kernel
theorem dX5_learn_74 : decode cX5_learn 74 = .ok (.aload 4, 2) := by decide +kernel
theorem dX5_learn_76 : decode cX5_learn 76 = .ok (.getfield 153, 3) := by decide +kernel
theorem dX5_learn_79 : decode cX5_learn 79 = .ok (.ireturn, 1) := by decide +kernel
theorem dX5_level_0 : decode cX5_level 0 = .ok (.iload_n 1, 1) := by decide +kernel
theorem dX5_level_1 : decode cX5_level 1 = .ok (.invokestatic 136, 3) := by decide +kernel
theorem dX5_level_4 : decode cX5_level 4 = .ok (.aload_n 0, 1) := by decide +kernel
theorem dX5_level_5 : decode cX5_level 5 = .ok (.getfield 25, 3) := by decide +kernel
theorem dX5_level_8 : decode cX5_level 8 = .ok (.iload_n 1, 1) := by decide +kernel
theorem dX5_level_9 : decode cX5_level 9 = .ok (.aaload, 1) := by decide +kernel
theorem dX5_level_10 : decode cX5_level 10 = .ok (.getfield 153, 3) := by decide +kernel
theorem dX5_level_13 : decode cX5_level 13 = .ok (.ireturn, 1) := by decide +kernel
theorem dX5_known_0 : decode cX5_known 0 = .ok (.iload_n 1, 1) := by decide +kernel
theorem dX5_known_1 : decode cX5_known 1 = .ok (.invokestatic 136, 3) := by decide +kernel
theorem dX5_known_4 : decode cX5_known 4 = .ok (.aload_n 0, 1) := by decide +kernel
theorem dX5_known_5 : decode cX5_known 5 = .ok (.getfield 25, 3) := by decide +kernel
theorem dX5_known_8 : decode cX5_known 8 = .ok (.iload_n 1, 1) := by decide +kernel
theorem dX5_known_9 : decode cX5_known 9 = .ok (.aaload, 1) := by decide +kernel
theorem dX5_known_10 : decode cX5_known 10 = .ok (.getfield 156, 3) := by decide +kernel
theorem dX5_known_13 : decode cX5_known 13 = .ok (.ireturn, 1) := by decide +kernel
theorem dX5_next_0 : decode cX5_next 0 = .ok (.iload_n 1, 1) := by decide +kernel
theorem dX5_next_1 : decode cX5_next 1 = .ok (.invokestatic 136, 3) := by decide +kernel
theorem dX5_next_4 : decode cX5_next 4 = .ok (.iconst (-1), 1) := by decide +kernel
theorem dX5_next_5 : decode cX5_next 5 = .ok (.istore_n 2, 1) := by decide +kernel
theorem dX5_next_6 : decode cX5_next 6 = .ok (.iconst 0, 1) := by decide +kernel
theorem dX5_next_7 : decode cX5_next 7 = .ok (.istore_n 3, 1) := by decide +kernel
theorem dX5_next_8 : decode cX5_next 8 = .ok (.iconst 0, 1) := by decide +kernel
theorem dX5_next_9 : decode cX5_next 9 = .ok (.istore 4, 2) := by decide +kernel
theorem dX5_next_11 : decode cX5_next 11 = .ok (.iload 4, 2) := by decide +kernel
theorem dX5_next_13 : decode cX5_next 13 = .ok (.aload_n 0, 1) := by decide +kernel
theorem dX5_next_14 : decode cX5_next 14 = .ok (.getfield 48, 3) := by decide +kernel
theorem dX5_next_17 : decode cX5_next 17 = .ok (.if_icmp .ge 59, 3) := by decide +kernel
theorem dX5_next_20 : decode cX5_next 20 = .ok (.aload_n 0, 1) := by decide +kernel
theorem dX5_next_21 : decode cX5_next 21 = .ok (.getfield 25, 3) := by decide +kernel
theorem dX5_next_24 : decode cX5_next 24 = .ok (.iload_n 1, 1) := by decide +kernel
theorem dX5_next_25 : decode cX5_next 25 = .ok (.aaload, 1) := by decide +kernel
theorem dX5_next_26 : decode cX5_next 26 = .ok (.iload 4, 2) := by decide +kernel
theorem dX5_next_28 : decode cX5_next 28 = .ok (.invokevirtual 139, 3) := by decide +kernel
theorem dX5_next_31 : decode cX5_next 31 = .ok (.ifCond .eq 7, 3) := by decide +kernel
theorem dX5_next_34 : decode cX5_next 34 = .ok (.iconst (-1), 1) := by decide +kernel
theorem dX5_next_35 : decode cX5_next 35 = .ok (.goto 10, 3) := by decide +kernel
theorem dX5_next_38 : decode cX5_next 38 = .ok (.aload_n 0, 1) := by decide +kernel
theorem dX5_next_39 : decode cX5_next 39 = .ok (.iload_n 1, 1) := by decide +kernel
theorem dX5_next_40 : decode cX5_next 40 = .ok (.iload 4, 2) := by decide +kernel
theorem dX5_next_42 : decode cX5_next 42 = .ok (.invokevirtual 159, 3) := by decide +kernel
end
section
theorem dX5_next_45 : decode cX5_next 45 = .ok (.istore 5, 2) := by decide +kernel
theorem dX5_next_47 : decode cX5_next 47 = .ok (.iload 5, 2) := by decide +kernel
theorem dX5_next_49 : decode cX5_next 49 = .ok (.iconst (-1), 1) := by decide +kernel
theorem dX5_next_50 : decode cX5_next 50 = .ok (.if_icmp .eq 20, 3) := by decide +kernel
theorem dX5_next_53 : decode cX5_next 53 = .ok (.iload_n 2, 1) := by decide +kernel
theorem dX5_next_54 : decode cX5_next 54 = .ok (.iconst (-1), 1) := by decide +kernel
theorem dX5_next_55 : decode cX5_next 55 = .ok (.if_icmp .eq 9, 3) := by decide +kernel
theorem dX5_next_58 : decode cX5_next 58 = .ok (.iload 5, 2) := by decide +kernel
theorem dX5_next_60 : decode cX5_next 60 = .ok (.iload_n 3, 1) := by decide +kernel
theorem dX5_next_61 : decode cX5_next 61 = .ok (.if_icmp .ge 9, 3) := by decide +kernel
theorem dX5_next_64 : decode cX5_next 64 = .ok (.iload 4, 2) := by decide +kernel
theorem dX5_next_66 : decode cX5_next 66 = .ok (.istore_n 2, 1) := by decide +kernel
theorem dX5_next_67 : decode cX5_next 67 = .ok (.iload 5, 2) := by decide +kernel
theorem dX5_next_69 : decode cX5_next 69 = .ok (.istore_n 3, 1) := by decide +kernel
theorem dX5_next_70 : decode cX5_next 70 = .ok (.iinc 4 1, 3) := by decide +kernel
theorem dX5_next_73 : decode cX5_next 73 = .ok (.goto (-62), 3) := by decide +kernel
theorem dX5_next_76 : decode cX5_next 76 = .ok (.iload_n 2, 1) := by decide +kernel
theorem dX5_next_77 : decode cX5_next 77 = .ok (.ireturn, 1) := by decide +kernel
theorem dX5_addWood_0 : decode cX5_addWood 0 = .ok (.iload_n 1, 1) := by decide +kernel
theorem dX5_addWood_1 : decode cX5_addWood 1 = .ok (.iconst 0, 1) := by decide +kernel
theorem dX5_addWood_2 : decode cX5_addWood 2 = .ok (.iconst 3, 1) := by decide +kernel
theorem dX5_addWood_3 : decode cX5_addWood 3 = .ok (.invokestatic 72, 3) := by decide +kernel
theorem dX5_addWood_6 : decode cX5_addWood 6 = .ok (.iload_n 2, 1) := by decide +kernel
theorem dX5_addWood_7 : decode cX5_addWood 7 = .ok (.iconst 1, 1) := by decide +kernel
theorem dX5_addWood_8 : decode cX5_addWood 8 = .ok (.bipush 20, 2) := by decide +kernel
theorem dX5_addWood_10 : decode cX5_addWood 10 = .ok (.invokestatic 72, 3) := by decide +kernel
theorem dX5_addWood_13 : decode cX5_addWood 13 = .ok (.aload_n 0, 1) := by decide +kernel
theorem dX5_addWood_14 : decode cX5_addWood 14 = .ok (.getfield 37, 3) := by decide +kernel
theorem dX5_addWood_17 : decode cX5_addWood 17 = .ok (.iload_n 1, 1) := by decide +kernel
theorem dX5_addWood_18 : decode cX5_addWood 18 = .ok (.dup2, 1) := by decide +kernel
theorem dX5_addWood_19 : decode cX5_addWood 19 = .ok (.iaload, 1) := by decide +kernel
theorem dX5_addWood_20 : decode cX5_addWood 20 = .ok (.iload_n 2, 1) := by decide +kernel
theorem dX5_addWood_21 : decode cX5_addWood 21 = .ok (.iadd, 1) := by decide +kernel
theorem dX5_addWood_22 : decode cX5_addWood 22 = .ok (.iastore, 1) := by decide +kernel
theorem dX5_addWood_23 : decode cX5_addWood 23 = .ok (.aload_n 0, 1) := by decide +kernel
theorem dX5_addWood_24 : decode cX5_addWood 24 = .ok (.getfield 37, 3) := by decide +kernel
theorem dX5_addWood_27 : decode cX5_addWood 27 = .ok (.iload_n 1, 1) := by decide +kernel
theorem dX5_addWood_28 : decode cX5_addWood 28 = .ok (.iaload, 1) := by decide +kernel
theorem dX5_addWood_29 : decode cX5_addWood 29 = .ok (.ireturn, 1) := by decide +kernel
theorem dX5_order_0 : decode cX5_order 0 = .ok (.iload_n 1, 1) := by decide +kernel
theorem dX5_order_1 : decode cX5_order 1 = .ok (.invokestatic 136, 3) := by decide +kernel
theorem dX5_order_4 : decode cX5_order 4 = .ok (.iload_n 2, 1) := by decide +kernel
theorem dX5_order_5 : decode cX5_order 5 = .ok (.iconst 0, 1) := by decide +kernel
theorem dX5_order_6 : decode cX5_order 6 = .ok (.iconst 3, 1) := by decide +kernel
theorem dX5_order_7 : decode cX5_order 7 = .ok (.invokestatic 72, 3) := by decide +kernel
theorem dX5_order_10 : decode cX5_order 10 = .ok (.iload_n 3, 1) := by decide +kernel
theorem dX5_order_11 : decode cX5_order 11 = .ok (.iconst 4, 1) := by decide +kernel
theorem dX5_order_12 : decode cX5_order 12 = .ok (.bipush 16, 2) := by decide +kernel
theorem dX5_order_14 : decode cX5_order 14 = .ok (.invokestatic 72, 3) := by decide +kernel
theorem dX5_order_17 : decode cX5_order 17 = .ok (.aload_n 0, 1) := by decide +kernel
theorem dX5_order_18 : decode cX5_order 18 = .ok (.getfield 37, 3) := by decide +kernel
theorem dX5_order_21 : decode cX5_order 21 = .ok (.iload_n 2, 1) := by decide +kernel
theorem dX5_order_22 : decode cX5_order 22 = .ok (.iaload, 1) := by decide +kernel
theorem dX5_order_23 : decode cX5_order 23 = .ok (.iconst 3, 1) := by decide +kernel
theorem dX5_order_24 : decode cX5_order 24 = .ok (.if_icmp .ge 13, 3) := by decide +kernel
theorem dX5_order_27 : decode cX5_order 27 = .ok (.new 61, 3) := by decide +kernel
theorem dX5_order_30 : decode cX5_order 30 = .ok (.dup, 1) := by decide +kernel
theorem dX5_order_31 : decode cX5_order 31 = .ok (.ldc 162, 2) := by decide +kernel
theorem dX5_order_33 : decode cX5_order 33 = .ok (.invokespecial 65, 3) := by decide +kernel
theorem dX5_order_36 : decode cX5_order 36 = .ok (.athrow, 1) := by decide +kernel
theorem dX5_order_37 : decode cX5_order 37 = .ok (.aload_n 0, 1) := by decide +kernel
theorem dX5_order_38 : decode cX5_order 38 = .ok (.invokevirtual 164, 3) := by decide +kernel
theorem dX5_order_41 : decode cX5_order 41 = .ok (.iconst 2, 1) := by decide +kernel
theorem dX5_order_42 : decode cX5_order 42 = .ok (.if_icmp .lt 13, 3) := by decide +kernel
theorem dX5_order_45 : decode cX5_order 45 = .ok (.new 61, 3) := by decide +kernel
theorem dX5_order_48 : decode cX5_order 48 = .ok (.dup, 1) := by decide +kernel
theorem dX5_order_49 : decode cX5_order 49 = .ok (.ldc 168, 2) := by decide +kernel
theorem dX5_order_51 : decode cX5_order 51 = .ok (.invokespecial 65, 3) := by decide +kernel
theorem dX5_order_54 : decode cX5_order 54 = .ok (.athrow, 1) := by decide +kernel
theorem dX5_order_55 : decode cX5_order 55 = .ok (.aload_n 0, 1) := by decide +kernel
theorem dX5_order_56 : decode cX5_order 56 = .ok (.getfield 55, 3) := by decide +kernel
theorem dX5_order_59 : decode cX5_order 59 = .ok (.bipush 20, 2) := by decide +kernel
theorem dX5_order_61 : decode cX5_order 61 = .ok (.if_icmp .lt 13, 3) := by decide +kernel
theorem dX5_order_64 : decode cX5_order 64 = .ok (.new 61, 3) := by decide +kernel
theorem dX5_order_67 : decode cX5_order 67 = .ok (.dup, 1) := by decide +kernel
theorem dX5_order_68 : decode cX5_order 68 = .ok (.ldc 170, 2) := by decide +kernel
theorem dX5_order_70 : decode cX5_order 70 = .ok (.invokespecial 65, 3) := by decide +kernel
theorem dX5_order_73 : decode cX5_order 73 = .ok (.athrow, 1) := by decide +kernel
theorem dX5_order_74 : decode cX5_order 74 = .ok (.aload_n 0, 1) := by decide +kernel
theorem dX5_order_75 : decode cX5_order 75 = .ok (.getfield 37, 3) := by decide +kernel
theorem dX5_order_78 : decode cX5_order 78 = .ok (.iload_n 2, 1) := by decide +kernel
theorem dX5_order_79 : decode cX5_order 79 = .ok (.dup2, 1) := by decide +kernel
theorem dX5_order_80 : decode cX5_order 80 = .ok (.iaload, 1) := by decide +kernel
theorem dX5_order_81 : decode cX5_order 81 = .ok (.iconst 3, 1) := by decide +kernel
theorem dX5_order_82 : decode cX5_order 82 = .ok (.isub, 1) := by decide +kernel
theorem dX5_order_83 : decode cX5_order 83 = .ok (.iastore, 1) := by decide +kernel
theorem dX5_order_84 : decode cX5_order 84 = .ok (.aload_n 0, 1) := by decide +kernel
theorem dX5_order_85 : decode cX5_order 85 = .ok (.getfield 55, 3) := by decide +kernel
theorem dX5_order_88 : decode cX5_order 88 = .ok (.istore 4, 2) := by decide +kernel
theorem dX5_order_90 : decode cX5_order 90 = .ok (.aload_n 0, 1) := by decide +kernel
theorem dX5_order_91 : decode cX5_order 91 = .ok (.getfield 32, 3) := by decide +kernel
theorem dX5_order_94 : decode cX5_order 94 = .ok (.iload 4, 2) := by decide +kernel
theorem dX5_order_96 : decode cX5_order 96 = .ok (.aaload, 1) := by decide +kernel
theorem dX5_order_97 : decode cX5_order 97 = .ok (.iload_n 1, 1) := by decide +kernel
theorem dX5_order_98 : decode cX5_order 98 = .ok (.iload_n 3, 1) := by decide +kernel
theorem dX5_order_99 : decode cX5_order 99 = .ok (.aload_n 0, 1) := by decide +kernel
theorem dX5_order_100 : decode cX5_order 100 = .ok (.getfield 58, 3) := by decide +kernel
theorem dX5_order_103 : decode cX5_order 103 = .ok (.iconst 2, 1) := by decide +kernel
theorem dX5_order_104 : decode cX5_order 104 = .ok (.iload_n 3, 1) := by decide +kernel
theorem dX5_order_105 : decode cX5_order 105 = .ok (.imul, 1) := by decide +kernel
theorem dX5_order_106 : decode cX5_order 106 = .ok (.iadd, 1) := by decide +kernel
theorem dX5_order_107 : decode cX5_order 107 = .ok (.invokevirtual 172, 3) := by decide +kernel
theorem dX5_order_110 : decode cX5_order 110 = .ok (.aload_n 0, 1) := by decide +kernel
theorem dX5_order_111 : decode cX5_order 111 = .ok (.dup, 1) := by decide +kernel
theorem dX5_order_112 : decode cX5_order 112 = .ok (.getfield 55, 3) := by decide +kernel
theorem dX5_order_115 : decode cX5_order 115 = .ok (.iconst 1, 1) := by decide +kernel
theorem dX5_order_116 : decode cX5_order 116 = .ok (.iadd, 1) := by decide +kernel
theorem dX5_order_117 : decode cX5_order 117 = .ok (.putfield 55, 3) := by decide +kernel
theorem dX5_order_120 : decode cX5_order 120 = .ok (.iload 4, 2) := by decide +kernel
theorem dX5_order_122 : decode cX5_order 122 = .ok (.ireturn, 1) := by decide +kernel
theorem dX5_ready_0 : decode cX5_ready 0 = .ok (.aload_n 0, 1) := by decide +kernel
theorem dX5_ready_1 : decode cX5_ready 1 = .ok (.iload_n 1, 1) := by decide +kernel
theorem dX5_ready_2 : decode cX5_ready 2 = .ok (.invokevirtual 175, 3) := by decide +kernel
theorem dX5_ready_5 : decode cX5_ready 5 = .ok (.aload_n 0, 1) := by decide +kernel
theorem dX5_ready_6 : decode cX5_ready 6 = .ok (.getfield 32, 3) := by decide +kernel
theorem dX5_ready_9 : decode cX5_ready 9 = .ok (.iload_n 1, 1) := by decide +kernel
theorem dX5_ready_10 : decode cX5_ready 10 = .ok (.aaload, 1) := by decide +kernel
theorem dX5_ready_11 : decode cX5_ready 11 = .ok (.getfield 178, 3) := by decide +kernel
theorem dX5_ready_14 : decode cX5_ready 14 = .ok (.ireturn, 1) := by decide +kernel
theorem dX5_fetch_0 : decode cX5_fetch 0 = .ok (.aload_n 0, 1) := by decide +kernel
theorem dX5_fetch_1 : decode cX5_fetch 1 = .ok (.iload_n 1, 1) := by decide +kernel
theorem dX5_fetch_2 : decode cX5_fetch 2 = .ok (.invokevirtual 175, 3) := by decide +kernel
theorem dX5_fetch_5 : decode cX5_fetch 5 = .ok (.iload_n 2, 1) := by decide +kernel
theorem dX5_fetch_6 : decode cX5_fetch 6 = .ok (.iconst 0, 1) := by decide +kernel
theorem dX5_fetch_7 : decode cX5_fetch 7 = .ok (.bipush 60, 2) := by decide +kernel
theorem dX5_fetch_9 : decode cX5_fetch 9 = .ok (.invokestatic 72, 3) := by decide +kernel
theorem dX5_fetch_12 : decode cX5_fetch 12 = .ok (.iload_n 3, 1) := by decide +kernel
theorem dX5_fetch_13 : decode cX5_fetch 13 = .ok (.iconst 0, 1) := by decide +kernel
theorem dX5_fetch_14 : decode cX5_fetch 14 = .ok (.bipush 60, 2) := by decide +kernel
theorem dX5_fetch_16 : decode cX5_fetch 16 = .ok (.invokestatic 72, 3) := by decide +kernel
theorem dX5_fetch_19 : decode cX5_fetch 19 = .ok (.iload 4, 2) := by decide +kernel
theorem dX5_fetch_21 : decode cX5_fetch 21 = .ok (.iconst 0, 1) := by decide +kernel
theorem dX5_fetch_22 : decode cX5_fetch 22 = .ok (.bipush 60, 2) := by decide +kernel
theorem dX5_fetch_24 : decode cX5_fetch 24 = .ok (.invokestatic 72, 3) := by decide +kernel
theorem dX5_fetch_27 : decode cX5_fetch 27 = .ok (.iload 5, 2) := by decide +kernel
theorem dX5_fetch_29 : decode cX5_fetch 29 = .ok (.iconst 0, 1) := by decide +kernel
theorem dX5_fetch_30 : decode cX5_fetch 30 = .ok (.bipush 60, 2) := by decide +kernel
theorem dX5_fetch_32 : decode cX5_fetch 32 = .ok (.invokestatic 72, 3) := by decide +kernel
theorem dX5_fetch_35 : decode cX5_fetch 35 = .ok (.aload_n 0, 1) := by decide +kernel
theorem dX5_fetch_36 : decode cX5_fetch 36 = .ok (.getfield 32, 3) := by decide +kernel
theorem dX5_fetch_39 : decode cX5_fetch 39 = .ok (.iload_n 1, 1) := by decide +kernel
theorem dX5_fetch_40 : decode cX5_fetch 40 = .ok (.aaload, 1) := by decide +kernel
theorem dX5_fetch_41 : decode cX5_fetch 41 = .ok (.astore 6, 2) := by decide +kernel
theorem dX5_fetch_43 : decode cX5_fetch 43 = .ok (.aload 6, 2) := by decide +kernel
theorem dX5_fetch_45 : decode cX5_fetch 45 = .ok (.aload_n 0, 1) := by decide +kernel
theorem dX5_fetch_46 : decode cX5_fetch 46 = .ok (.getfield 58, 3) := by decide +kernel
theorem dX5_fetch_49 : decode cX5_fetch 49 = .ok (.invokevirtual 181, 3) := by decide +kernel
theorem dX5_fetch_52 : decode cX5_fetch 52 = .ok (.ifCond .ne 13, 3) := by decide +kernel
theorem dX5_fetch_55 : decode cX5_fetch 55 = .ok (.new 61, 3) := by decide +kernel
theorem dX5_fetch_58 : decode cX5_fetch 58 = .ok (.dup, 1) := by decide +kernel
theorem dX5_fetch_59 : decode cX5_fetch 59 = .ok (.ldc 184, 2) := by decide +kernel
theorem dX5_fetch_61 : decode cX5_fetch 61 = .ok (.invokespecial 65, 3) := by decide +kernel
theorem dX5_fetch_64 : decode cX5_fetch 64 = .ok (.athrow, 1) := by decide +kernel
theorem dX5_fetch_65 : decode cX5_fetch 65 = .ok (.aload 6, 2) := by decide +kernel
theorem dX5_fetch_67 : decode cX5_fetch 67 = .ok (.getfield 186, 3) := by decide +kernel
theorem dX5_fetch_70 : decode cX5_fetch 70 = .ok (.ifCond .eq 13, 3) := by decide +kernel
theorem dX5_fetch_73 : decode cX5_fetch 73 = .ok (.new 61, 3) := by decide +kernel
theorem dX5_fetch_76 : decode cX5_fetch 76 = .ok (.dup, 1) := by decide +kernel
theorem dX5_fetch_77 : decode cX5_fetch 77 = .ok (.ldc 190, 2) := by decide +kernel
theorem dX5_fetch_79 : decode cX5_fetch 79 = .ok (.invokespecial 65, 3) := by decide +kernel
theorem dX5_fetch_82 : decode cX5_fetch 82 = .ok (.athrow, 1) := by decide +kernel
theorem dX5_fetch_83 : decode cX5_fetch 83 = .ok (.aload_n 0, 1) := by decide +kernel
theorem dX5_fetch_84 : decode cX5_fetch 84 = .ok (.getfield 52, 3) := by decide +kernel
theorem dX5_fetch_87 : decode cX5_fetch 87 = .ok (.bipush 8, 2) := by decide +kernel
theorem dX5_fetch_89 : decode cX5_fetch 89 = .ok (.if_icmp .lt 13, 3) := by decide +kernel
theorem dX5_fetch_92 : decode cX5_fetch 92 = .ok (.new 61, 3) := by decide +kernel
theorem dX5_fetch_95 : decode cX5_fetch 95 = .ok (.dup, 1) := by decide +kernel
theorem dX5_fetch_96 : decode cX5_fetch 96 = .ok (.ldc 192, 2) := by decide +kernel
theorem dX5_fetch_98 : decode cX5_fetch 98 = .ok (.invokespecial 65, 3) := by decide +kernel
theorem dX5_fetch_101 : decode cX5_fetch 101 = .ok (.athrow, 1) := by decide +kernel
theorem dX5_fetch_102 : decode cX5_fetch 102 = .ok (.aload 6, 2) := by decide +kernel
theorem dX5_fetch_104 : decode cX5_fetch 104 = .ok (.iconst 1, 1) := by decide +kernel
theorem dX5_fetch_105 : decode cX5_fetch 105 = .ok (.putfield 186, 3) := by decide +kernel
theorem dX5_fetch_108 : decode cX5_fetch 108 = .ok (.aload_n 0, 1) := by decide +kernel
theorem dX5_fetch_109 : decode cX5_fetch 109 = .ok (.getfield 52, 3) := by decide +kernel
theorem dX5_fetch_112 : decode cX5_fetch 112 = .ok (.istore 7, 2) := by decide +kernel
theorem dX5_fetch_114 : decode cX5_fetch 114 = .ok (.aload_n 0, 1) := by decide +kernel
theorem dX5_fetch_115 : decode cX5_fetch 115 = .ok (.getfield 18, 3) := by decide +kernel
theorem dX5_fetch_118 : decode cX5_fetch 118 = .ok (.iload 7, 2) := by decide +kernel
theorem dX5_fetch_120 : decode cX5_fetch 120 = .ok (.aaload, 1) := by decide +kernel
theorem dX5_fetch_121 : decode cX5_fetch 121 = .ok (.aload 6, 2) := by decide +kernel
theorem dX5_fetch_123 : decode cX5_fetch 123 = .ok (.getfield 194, 3) := by decide +kernel
theorem dX5_fetch_126 : decode cX5_fetch 126 = .ok (.aload 6, 2) := by decide +kernel
theorem dX5_fetch_128 : decode cX5_fetch 128 = .ok (.getfield 197, 3) := by decide +kernel
theorem dX5_fetch_131 : decode cX5_fetch 131 = .ok (.invokevirtual 200, 3) := by decide +kernel
theorem dX5_fetch_134 : decode cX5_fetch 134 = .ok (.aload_n 0, 1) := by decide +kernel
theorem dX5_fetch_135 : decode cX5_fetch 135 = .ok (.getfield 18, 3) := by decide +kernel
theorem dX5_fetch_138 : decode cX5_fetch 138 = .ok (.iload 7, 2) := by decide +kernel
theorem dX5_fetch_140 : decode cX5_fetch 140 = .ok (.aaload, 1) := by decide +kernel
theorem dX5_fetch_141 : decode cX5_fetch 141 = .ok (.iload_n 2, 1) := by decide +kernel
theorem dX5_fetch_142 : decode cX5_fetch 142 = .ok (.iload_n 3, 1) := by decide +kernel
theorem dX5_fetch_143 : decode cX5_fetch 143 = .ok (.iload 4, 2) := by decide +kernel
theorem dX5_fetch_145 : decode cX5_fetch 145 = .ok (.iload 5, 2) := by decide +kernel
theorem dX5_fetch_147 : decode cX5_fetch 147 = .ok (.invokevirtual 203, 3) := by decide +kernel
theorem dX5_fetch_150 : decode cX5_fetch 150 = .ok (.aload_n 0, 1) := by decide +kernel
theorem dX5_fetch_151 : decode cX5_fetch 151 = .ok (.dup, 1) := by decide +kernel
theorem dX5_fetch_152 : decode cX5_fetch 152 = .ok (.getfield 52, 3) := by decide +kernel
theorem dX5_fetch_155 : decode cX5_fetch 155 = .ok (.iconst 1, 1) := by decide +kernel
theorem dX5_fetch_156 : decode cX5_fetch 156 = .ok (.iadd, 1) := by decide +kernel
theorem dX5_fetch_157 : decode cX5_fetch 157 = .ok (.putfield 52, 3) := by decide +kernel
theorem dX5_fetch_160 : decode cX5_fetch 160 = .ok (.iload 7, 2) := by decide +kernel
theorem dX5_fetch_162 : decode cX5_fetch 162 = .ok (.ireturn, 1) := by decide +kernel
theorem dX5_pass_0 : decode cX5_pass 0 = .ok (.iload_n 1, 1) := by decide +kernel
theorem dX5_pass_1 : decode cX5_pass 1 = .ok (.iconst 1, 1) := by decide +kernel
theorem dX5_pass_2 : decode cX5_pass 2 = .ok (.bipush 100, 2) := by decide +kernel
theorem dX5_pass_4 : decode cX5_pass 4 = .ok (.invokestatic 72, 3) := by decide +kernel
theorem dX5_pass_7 : decode cX5_pass 7 = .ok (.aload_n 0, 1) := by decide +kernel
theorem dX5_pass_8 : decode cX5_pass 8 = .ok (.getfield 58, 3) := by decide +kernel
theorem dX5_pass_11 : decode cX5_pass 11 = .ok (.iload_n 1, 1) := by decide +kernel
theorem dX5_pass_12 : decode cX5_pass 12 = .ok (.iadd, 1) := by decide +kernel
theorem dX5_pass_13 : decode cX5_pass 13 = .ok (.sipush 5000, 3) := by decide +kernel
theorem dX5_pass_16 : decode cX5_pass 16 = .ok (.if_icmp .le 13, 3) := by decide +kernel
theorem dX5_pass_19 : decode cX5_pass 19 = .ok (.new 61, 3) := by decide +kernel
theorem dX5_pass_22 : decode cX5_pass 22 = .ok (.dup, 1) := by decide +kernel
theorem dX5_pass_23 : decode cX5_pass 23 = .ok (.ldc 207, 2) := by decide +kernel
theorem dX5_pass_25 : decode cX5_pass 25 = .ok (.invokespecial 65, 3) := by decide +kernel
theorem dX5_pass_28 : decode cX5_pass 28 = .ok (.athrow, 1) := by decide +kernel
theorem dX5_pass_29 : decode cX5_pass 29 = .ok (.aload_n 0, 1) := by decide +kernel
theorem dX5_pass_30 : decode cX5_pass 30 = .ok (.dup, 1) := by decide +kernel
theorem dX5_pass_31 : decode cX5_pass 31 = .ok (.getfield 58, 3) := by decide +kernel
theorem dX5_pass_34 : decode cX5_pass 34 = .ok (.iload_n 1, 1) := by decide +kernel
theorem dX5_pass_35 : decode cX5_pass 35 = .ok (.iadd, 1) := by decide +kernel
theorem dX5_pass_36 : decode cX5_pass 36 = .ok (.putfield 58, 3) := by decide +kernel
theorem dX5_pass_39 : decode cX5_pass 39 = .ok (.aload_n 0, 1) := by decide +kernel
theorem dX5_pass_40 : decode cX5_pass 40 = .ok (.getfield 58, 3) := by decide +kernel
theorem dX5_pass_43 : decode cX5_pass 43 = .ok (.ireturn, 1) := by decide +kernel
theorem dX5_today_0 : decode cX5_today 0 = .ok (.aload_n 0, 1) := by decide +kernel
theorem dX5_today_1 : decode cX5_today 1 = .ok (.getfield 58, 3) := by decide +kernel
theorem dX5_today_4 : decode cX5_today 4 = .ok (.ireturn, 1) := by decide +kernel
theorem dX5_needPiece_0 : decode cX5_needPiece 0 = .ok (.iload_n 1, 1) := by decide +kernel
theorem dX5_needPiece_1 : decode cX5_needPiece 1 = .ok (.ifCond .lt 11, 3) := by decide +kernel
theorem dX5_needPiece_4 : decode cX5_needPiece 4 = .ok (.iload_n 1, 1) := by decide +kernel
theorem dX5_needPiece_5 : decode cX5_needPiece 5 = .ok (.aload_n 0, 1) := by decide +kernel
theorem dX5_needPiece_6 : decode cX5_needPiece 6 = .ok (.getfield 48, 3) := by decide +kernel
theorem dX5_needPiece_9 : decode cX5_needPiece 9 = .ok (.if_icmp .lt 13, 3) := by decide +kernel
theorem dX5_needPiece_12 : decode cX5_needPiece 12 = .ok (.new 209, 3) := by decide +kernel
theorem dX5_needPiece_15 : decode cX5_needPiece 15 = .ok (.dup, 1) := by decide +kernel
theorem dX5_needPiece_16 : decode cX5_needPiece 16 = .ok (.ldc 211, 2) := by decide +kernel
theorem dX5_needPiece_18 : decode cX5_needPiece 18 = .ok (.invokespecial 213, 3) := by decide +kernel
theorem dX5_needPiece_21 : decode cX5_needPiece 21 = .ok (.athrow, 1) := by decide +kernel
theorem dX5_needPiece_22 : decode cX5_needPiece 22 = .ok (.return_, 1) := by decide +kernel
theorem dX5_needNote_0 : decode cX5_needNote 0 = .ok (.aload_n 0, 1) := by decide +kernel
theorem dX5_needNote_1 : decode cX5_needNote 1 = .ok (.iload_n 1, 1) := by decide +kernel
theorem dX5_needNote_2 : decode cX5_needNote 2 = .ok (.invokevirtual 68, 3) := by decide +kernel
theorem dX5_needNote_5 : decode cX5_needNote 5 = .ok (.iload_n 2, 1) := by decide +kernel
theorem dX5_needNote_6 : decode cX5_needNote 6 = .ok (.ifCond .lt 16, 3) := by decide +kernel
theorem dX5_needNote_9 : decode cX5_needNote 9 = .ok (.iload_n 2, 1) := by decide +kernel
theorem dX5_needNote_10 : decode cX5_needNote 10 = .ok (.aload_n 0, 1) := by decide +kernel
theorem dX5_needNote_11 : decode cX5_needNote 11 = .ok (.getfield 11, 3) := by decide +kernel
theorem dX5_needNote_14 : decode cX5_needNote 14 = .ok (.iload_n 1, 1) := by decide +kernel
theorem dX5_needNote_15 : decode cX5_needNote 15 = .ok (.aaload, 1) := by decide +kernel
theorem dX5_needNote_16 : decode cX5_needNote 16 = .ok (.getfield 85, 3) := by decide +kernel
theorem dX5_needNote_19 : decode cX5_needNote 19 = .ok (.if_icmp .lt 13, 3) := by decide +kernel
theorem dX5_needNote_22 : decode cX5_needNote 22 = .ok (.new 209, 3) := by decide +kernel
theorem dX5_needNote_25 : decode cX5_needNote 25 = .ok (.dup, 1) := by decide +kernel
theorem dX5_needNote_26 : decode cX5_needNote 26 = .ok (.ldc 214, 2) := by decide +kernel
theorem dX5_needNote_28 : decode cX5_needNote 28 = .ok (.invokespecial 213, 3) := by decide +kernel
theorem dX5_needNote_31 : decode cX5_needNote 31 = .ok (.athrow, 1) := by decide +kernel
theorem dX5_needNote_32 : decode cX5_needNote 32 = .ok (.return_, 1) := by decide +kernel
theorem dX5_needInstrument_0 : decode cX5_needInstrument 0 = .ok (.iload_n 1, 1) := by decide +kernel
theorem dX5_needInstrument_1 : decode cX5_needInstrument 1 = .ok (.ifCond .lt 11, 3) := by decide +kernel
theorem dX5_needInstrument_4 : decode cX5_needInstrument 4 = .ok (.iload_n 1, 1) := by decide +kernel
theorem dX5_needInstrument_5 : decode cX5_needInstrument 5 = .ok (.aload_n 0, 1) := by decide +kernel
theorem dX5_needInstrument_6 : decode cX5_needInstrument 6 = .ok (.getfield 52, 3) := by decide +kernel
theorem dX5_needInstrument_9 : decode cX5_needInstrument 9 = .ok (.if_icmp .lt 13, 3) := by decide +kernel
theorem dX5_needInstrument_12 : decode cX5_needInstrument 12 = .ok (.new 209, 3) := by decide +kernel
theorem dX5_needInstrument_15 : decode cX5_needInstrument 15 = .ok (.dup, 1) := by decide +kernel
theorem dX5_needInstrument_16 : decode cX5_needInstrument 16 = .ok (.ldc 216, 2) := by decide +kernel
theorem dX5_needInstrument_18 : decode cX5_needInstrument 18 = .ok (.invokespecial 213, 3) := by decide +kernel
theorem dX5_needInstrument_21 : decode cX5_needInstrument 21 = .ok (.athrow, 1) := by decide +kernel
theorem dX5_needInstrument_22 : decode cX5_needInstrument 22 = .ok (.return_, 1) := by decide +kernel
theorem dX5_needOrder_0 : decode cX5_needOrder 0 = .ok (.iload_n 1, 1) := by decide +kernel
theorem dX5_needOrder_1 : decode cX5_needOrder 1 = .ok (.ifCond .lt 11, 3) := by decide +kernel
theorem dX5_needOrder_4 : decode cX5_needOrder 4 = .ok (.iload_n 1, 1) := by decide +kernel
theorem dX5_needOrder_5 : decode cX5_needOrder 5 = .ok (.aload_n 0, 1) := by decide +kernel
theorem dX5_needOrder_6 : decode cX5_needOrder 6 = .ok (.getfield 55, 3) := by decide +kernel
theorem dX5_needOrder_9 : decode cX5_needOrder 9 = .ok (.if_icmp .lt 13, 3) := by decide +kernel
theorem dX5_needOrder_12 : decode cX5_needOrder 12 = .ok (.new 209, 3) := by decide +kernel
theorem dX5_needOrder_15 : decode cX5_needOrder 15 = .ok (.dup, 1) := by decide +kernel
theorem dX5_needOrder_16 : decode cX5_needOrder 16 = .ok (.ldc 218, 2) := by decide +kernel
theorem dX5_needOrder_18 : decode cX5_needOrder 18 = .ok (.invokespecial 213, 3) := by decide +kernel
theorem dX5_needOrder_21 : decode cX5_needOrder 21 = .ok (.athrow, 1) := by decide +kernel
theorem dX5_needOrder_22 : decode cX5_needOrder 22 = .ok (.return_, 1) := by decide +kernel
theorem dX5_needPupil_0 : decode cX5_needPupil 0 = .ok (.iload_n 0, 1) := by decide +kernel
theorem dX5_needPupil_1 : decode cX5_needPupil 1 = .ok (.iconst 0, 1) := by decide +kernel
theorem dX5_needPupil_2 : decode cX5_needPupil 2 = .ok (.iconst 4, 1) := by decide +kernel
theorem dX5_needPupil_3 : decode cX5_needPupil 3 = .ok (.invokestatic 72, 3) := by decide +kernel
theorem dX5_needPupil_6 : decode cX5_needPupil 6 = .ok (.return_, 1) := by decide +kernel
theorem dX5_needRange_0 : decode cX5_needRange 0 = .ok (.iload_n 0, 1) := by decide +kernel
theorem dX5_needRange_1 : decode cX5_needRange 1 = .ok (.iload_n 1, 1) := by decide +kernel
theorem dX5_needRange_2 : decode cX5_needRange 2 = .ok (.if_icmp .lt 8, 3) := by decide +kernel
theorem dX5_needRange_5 : decode cX5_needRange 5 = .ok (.iload_n 0, 1) := by decide +kernel
theorem dX5_needRange_6 : decode cX5_needRange 6 = .ok (.iload_n 2, 1) := by decide +kernel
theorem dX5_needRange_7 : decode cX5_needRange 7 = .ok (.if_icmp .le 13, 3) := by decide +kernel
theorem dX5_needRange_10 : decode cX5_needRange 10 = .ok (.new 220, 3) := by decide +kernel
theorem dX5_needRange_13 : decode cX5_needRange 13 = .ok (.dup, 1) := by decide +kernel
theorem dX5_needRange_14 : decode cX5_needRange 14 = .ok (.ldc 222, 2) := by decide +kernel
theorem dX5_needRange_16 : decode cX5_needRange 16 = .ok (.invokespecial 224, 3) := by decide +kernel
theorem dX5_needRange_19 : decode cX5_needRange 19 = .ok (.athrow, 1) := by decide +kernel
theorem dX5_needRange_20 : decode cX5_needRange 20 = .ok (.return_, 1) := by decide +kernel
theorem dX5_findBest_0 : decode cX5_findBest 0 = .ok (.aload_n 0, 1) := by decide +kernel
theorem dX5_findBest_1 : decode cX5_findBest 1 = .ok (.iload_n 1, 1) := by decide +kernel
theorem dX5_findBest_2 : decode cX5_findBest 2 = .ok (.invokevirtual 68, 3) := by decide +kernel
theorem dX5_findBest_5 : decode cX5_findBest 5 = .ok (.aload_n 0, 1) := by decide +kernel
theorem dX5_findBest_6 : decode cX5_findBest 6 = .ok (.iload_n 2, 1) := by decide +kernel
theorem dX5_findBest_7 : decode cX5_findBest 7 = .ok (.invokevirtual 104, 3) := by decide +kernel
theorem dX5_findBest_10 : decode cX5_findBest 10 = .ok (.aload_n 0, 1) := by decide +kernel
theorem dX5_findBest_11 : decode cX5_findBest 11 = .ok (.getfield 44, 3) := by decide +kernel
theorem dX5_findBest_14 : decode cX5_findBest 14 = .ok (.aload_n 0, 1) := by decide +kernel
theorem dX5_findBest_15 : decode cX5_findBest 15 = .ok (.getfield 11, 3) := by decide +kernel
theorem dX5_findBest_18 : decode cX5_findBest 18 = .ok (.iload_n 1, 1) := by decide +kernel
theorem dX5_findBest_19 : decode cX5_findBest 19 = .ok (.aaload, 1) := by decide +kernel
theorem dX5_findBest_20 : decode cX5_findBest 20 = .ok (.aload_n 0, 1) := by decide +kernel
theorem dX5_findBest_21 : decode cX5_findBest 21 = .ok (.getfield 18, 3) := by decide +kernel
theorem dX5_findBest_24 : decode cX5_findBest 24 = .ok (.iload_n 2, 1) := by decide +kernel
theorem dX5_findBest_25 : decode cX5_findBest 25 = .ok (.aaload, 1) := by decide +kernel
theorem dX5_findBest_26 : decode cX5_findBest 26 = .ok (.invokevirtual 225, 3) := by decide +kernel
theorem dX5_findBest_29 : decode cX5_findBest 29 = .ok (.ireturn, 1) := by decide +kernel
theorem dX5_learnableShift_0 : decode cX5_learnableShift 0 = .ok (.aload_n 0, 1) := by decide +kernel
theorem dX5_learnableShift_1 : decode cX5_learnableShift 1 = .ok (.getfield 18, 3) := by decide +kernel
theorem dX5_learnableShift_4 : decode cX5_learnableShift 4 = .ok (.iload_n 3, 1) := by decide +kernel
theorem dX5_learnableShift_5 : decode cX5_learnableShift 5 = .ok (.aaload, 1) := by decide +kernel
theorem dX5_learnableShift_6 : decode cX5_learnableShift 6 = .ok (.getfield 110, 3) := by decide +kernel
theorem dX5_learnableShift_9 : decode cX5_learnableShift 9 = .ok (.iload_n 1, 1) := by decide +kernel
theorem dX5_learnableShift_10 : decode cX5_learnableShift 10 = .ok (.if_icmp .ne 12, 3) := by decide +kernel
theorem dX5_learnableShift_13 : decode cX5_learnableShift 13 = .ok (.aload_n 0, 1) := by decide +kernel
theorem dX5_learnableShift_14 : decode cX5_learnableShift 14 = .ok (.iload_n 2, 1) := by decide +kernel
theorem dX5_learnableShift_15 : decode cX5_learnableShift 15 = .ok (.iload_n 3, 1) := by decide +kernel
theorem dX5_learnableShift_16 : decode cX5_learnableShift 16 = .ok (.invokevirtual 113, 3) := by decide +kernel
theorem dX5_learnableShift_19 : decode cX5_learnableShift 19 = .ok (.ifCond .ne 5, 3) := by decide +kernel
theorem dX5_learnableShift_22 : decode cX5_learnableShift 22 = .ok (.iconst (-1), 1) := by decide +kernel
theorem dX5_learnableShift_23 : decode cX5_learnableShift 23 = .ok (.ireturn, 1) := by decide +kernel
theorem dX5_learnableShift_24 : decode cX5_learnableShift 24 = .ok (.aload_n 0, 1) := by decide +kernel
theorem dX5_learnableShift_25 : decode cX5_learnableShift 25 = .ok (.getfield 44, 3) := by decide +kernel
theorem dX5_learnableShift_28 : decode cX5_learnableShift 28 = .ok (.getfield 126, 3) := by decide +kernel
theorem dX5_learnableShift_31 : decode cX5_learnableShift 31 = .ok (.aload_n 0, 1) := by decide +kernel
theorem dX5_learnableShift_32 : decode cX5_learnableShift 32 = .ok (.getfield 25, 3) := by decide +kernel
theorem dX5_learnableShift_35 : decode cX5_learnableShift 35 = .ok (.iload_n 1, 1) := by decide +kernel
theorem dX5_learnableShift_36 : decode cX5_learnableShift 36 = .ok (.aaload, 1) := by decide +kernel
theorem dX5_learnableShift_37 : decode cX5_learnableShift 37 = .ok (.getfield 153, 3) := by decide +kernel
theorem dX5_learnableShift_40 : decode cX5_learnableShift 40 = .ok (.if_icmp .gt 13, 3) := by decide +kernel
theorem dX5_learnableShift_43 : decode cX5_learnableShift 43 = .ok (.aload_n 0, 1) := by decide +kernel
theorem dX5_learnableShift_44 : decode cX5_learnableShift 44 = .ok (.getfield 44, 3) := by decide +kernel
theorem dX5_learnableShift_47 : decode cX5_learnableShift 47 = .ok (.getfield 126, 3) := by decide +kernel
theorem dX5_learnableShift_50 : decode cX5_learnableShift 50 = .ok (.goto 4, 3) := by decide +kernel
theorem dX5_learnableShift_53 : decode cX5_learnableShift 53 = .ok (.iconst (-1), 1) := by decide +kernel
theorem dX5_learnableShift_54 : decode cX5_learnableShift 54 = .ok (.ireturn, 1) := by decide +kernel
theorem dX5_easiestShift_0 : decode cX5_easiestShift 0 = .ok (.iconst (-1), 1) := by decide +kernel
theorem dX5_easiestShift_1 : decode cX5_easiestShift 1 = .ok (.istore_n 3, 1) := by decide +kernel
theorem dX5_easiestShift_2 : decode cX5_easiestShift 2 = .ok (.iconst 0, 1) := by decide +kernel
theorem dX5_easiestShift_3 : decode cX5_easiestShift 3 = .ok (.istore 4, 2) := by decide +kernel
theorem dX5_easiestShift_5 : decode cX5_easiestShift 5 = .ok (.iload 4, 2) := by decide +kernel
theorem dX5_easiestShift_7 : decode cX5_easiestShift 7 = .ok (.aload_n 0, 1) := by decide +kernel
theorem dX5_easiestShift_8 : decode cX5_easiestShift 8 = .ok (.getfield 52, 3) := by decide +kernel
theorem dX5_easiestShift_11 : decode cX5_easiestShift 11 = .ok (.if_icmp .ge 39, 3) := by decide +kernel
theorem dX5_easiestShift_14 : decode cX5_easiestShift 14 = .ok (.aload_n 0, 1) := by decide +kernel
theorem dX5_easiestShift_15 : decode cX5_easiestShift 15 = .ok (.iload_n 1, 1) := by decide +kernel
theorem dX5_easiestShift_16 : decode cX5_easiestShift 16 = .ok (.iload_n 2, 1) := by decide +kernel
theorem dX5_easiestShift_17 : decode cX5_easiestShift 17 = .ok (.iload 4, 2) := by decide +kernel
theorem dX5_easiestShift_19 : decode cX5_easiestShift 19 = .ok (.invokevirtual 144, 3) := by decide +kernel
theorem dX5_easiestShift_22 : decode cX5_easiestShift 22 = .ok (.istore 5, 2) := by decide +kernel
theorem dX5_easiestShift_24 : decode cX5_easiestShift 24 = .ok (.iload 5, 2) := by decide +kernel
theorem dX5_easiestShift_26 : decode cX5_easiestShift 26 = .ok (.iconst (-1), 1) := by decide +kernel
theorem dX5_easiestShift_27 : decode cX5_easiestShift 27 = .ok (.if_icmp .eq 17, 3) := by decide +kernel
theorem dX5_easiestShift_30 : decode cX5_easiestShift 30 = .ok (.iload_n 3, 1) := by decide +kernel
theorem dX5_easiestShift_31 : decode cX5_easiestShift 31 = .ok (.iconst (-1), 1) := by decide +kernel
theorem dX5_easiestShift_32 : decode cX5_easiestShift 32 = .ok (.if_icmp .eq 9, 3) := by decide +kernel
theorem dX5_easiestShift_35 : decode cX5_easiestShift 35 = .ok (.iload 5, 2) := by decide +kernel
theorem dX5_easiestShift_37 : decode cX5_easiestShift 37 = .ok (.iload_n 3, 1) := by decide +kernel
theorem dX5_easiestShift_38 : decode cX5_easiestShift 38 = .ok (.if_icmp .ge 6, 3) := by decide +kernel
theorem dX5_easiestShift_41 : decode cX5_easiestShift 41 = .ok (.iload 5, 2) := by decide +kernel
theorem dX5_easiestShift_43 : decode cX5_easiestShift 43 = .ok (.istore_n 3, 1) := by decide +kernel
theorem dX5_easiestShift_44 : decode cX5_easiestShift 44 = .ok (.iinc 4 1, 3) := by decide +kernel
theorem dX5_easiestShift_47 : decode cX5_easiestShift 47 = .ok (.goto (-42), 3) := by decide +kernel
theorem dX5_easiestShift_50 : decode cX5_easiestShift 50 = .ok (.iload_n 3, 1) := by decide +kernel
theorem dX5_easiestShift_51 : decode cX5_easiestShift 51 = .ok (.ireturn, 1) := by decide +kernel
theorem dX5_ordersAtWork_0 : decode cX5_ordersAtWork 0 = .ok (.iconst 0, 1) := by decide +kernel
theorem dX5_ordersAtWork_1 : decode cX5_ordersAtWork 1 = .ok (.istore_n 1, 1) := by decide +kernel
theorem dX5_ordersAtWork_2 : decode cX5_ordersAtWork 2 = .ok (.iconst 0, 1) := by decide +kernel
theorem dX5_ordersAtWork_3 : decode cX5_ordersAtWork 3 = .ok (.istore_n 2, 1) := by decide +kernel
theorem dX5_ordersAtWork_4 : decode cX5_ordersAtWork 4 = .ok (.iload_n 2, 1) := by decide +kernel
theorem dX5_ordersAtWork_5 : decode cX5_ordersAtWork 5 = .ok (.aload_n 0, 1) := by decide +kernel
theorem dX5_ordersAtWork_6 : decode cX5_ordersAtWork 6 = .ok (.getfield 55, 3) := by decide +kernel
theorem dX5_ordersAtWork_9 : decode cX5_ordersAtWork 9 = .ok (.if_icmp .ge 40, 3) := by decide +kernel
theorem dX5_ordersAtWork_12 : decode cX5_ordersAtWork 12 = .ok (.aload_n 0, 1) := by decide +kernel
theorem dX5_ordersAtWork_13 : decode cX5_ordersAtWork 13 = .ok (.getfield 32, 3) := by decide +kernel
theorem dX5_ordersAtWork_16 : decode cX5_ordersAtWork 16 = .ok (.iload_n 2, 1) := by decide +kernel
theorem dX5_ordersAtWork_17 : decode cX5_ordersAtWork 17 = .ok (.aaload, 1) := by decide +kernel
theorem dX5_ordersAtWork_18 : decode cX5_ordersAtWork 18 = .ok (.getfield 186, 3) := by decide +kernel
theorem dX5_ordersAtWork_21 : decode cX5_ordersAtWork 21 = .ok (.ifCond .ne 22, 3) := by decide +kernel
theorem dX5_ordersAtWork_24 : decode cX5_ordersAtWork 24 = .ok (.aload_n 0, 1) := by decide +kernel
theorem dX5_ordersAtWork_25 : decode cX5_ordersAtWork 25 = .ok (.getfield 32, 3) := by decide +kernel
theorem dX5_ordersAtWork_28 : decode cX5_ordersAtWork 28 = .ok (.iload_n 2, 1) := by decide +kernel
theorem dX5_ordersAtWork_29 : decode cX5_ordersAtWork 29 = .ok (.aaload, 1) := by decide +kernel
theorem dX5_ordersAtWork_30 : decode cX5_ordersAtWork 30 = .ok (.aload_n 0, 1) := by decide +kernel
theorem dX5_ordersAtWork_31 : decode cX5_ordersAtWork 31 = .ok (.getfield 58, 3) := by decide +kernel
theorem dX5_ordersAtWork_34 : decode cX5_ordersAtWork 34 = .ok (.invokevirtual 181, 3) := by decide +kernel
theorem dX5_ordersAtWork_37 : decode cX5_ordersAtWork 37 = .ok (.ifCond .ne 6, 3) := by decide +kernel
theorem dX5_ordersAtWork_40 : decode cX5_ordersAtWork 40 = .ok (.iinc 1 1, 3) := by decide +kernel
theorem dX5_ordersAtWork_43 : decode cX5_ordersAtWork 43 = .ok (.iinc 2 1, 3) := by decide +kernel
theorem dX5_ordersAtWork_46 : decode cX5_ordersAtWork 46 = .ok (.goto (-42), 3) := by decide +kernel
theorem dX5_ordersAtWork_49 : decode cX5_ordersAtWork 49 = .ok (.iload_n 1, 1) := by decide +kernel
theorem dX5_ordersAtWork_50 : decode cX5_ordersAtWork 50 = .ok (.ireturn, 1) := by decide +kernel
end
section
theorem dX6_init_0 : decode cX6_init 0 = .ok (.aload_n 0, 1) := by decide +kernel
theorem dX6_init_1 : decode cX6_init 1 = .ok (.invokespecial 1, 3) := by decide +kernel
theorem dX6_init_4 : decode cX6_init 4 = .ok (.aload_n 0, 1) := by decide +kernel
theorem dX6_init_5 : decode cX6_init 5 = .ok (.bipush 8, 2) := by decide +kernel
theorem dX6_init_7 : decode cX6_init 7 = .ok (.newarray .int, 2) := by decide +kernel
theorem dX6_init_9 : decode cX6_init 9 = .ok (.putfield 7, 3) := by decide +kernel
theorem dX6_init_12 : decode cX6_init 12 = .ok (.aload_n 0, 1) := by decide +kernel
theorem dX6_init_13 : decode cX6_init 13 = .ok (.sipush 128, 3) := by decide +kernel
theorem dX6_init_16 : decode cX6_init 16 = .ok (.newarray .int, 2) := by decide +kernel
theorem dX6_init_18 : decode cX6_init 18 = .ok (.putfield 13, 3) := by decide +kernel
theorem dX6_init_21 : decode cX6_init 21 = .ok (.aload_n 0, 1) := by decide +kernel
theorem dX6_init_22 : decode cX6_init 22 = .ok (.bipush 8, 2) := by decide +kernel
theorem dX6_init_24 : decode cX6_init 24 = .ok (.newarray .int, 2) := by decide +kernel
theorem dX6_init_26 : decode cX6_init 26 = .ok (.putfield 16, 3) := by decide +kernel
theorem dX6_init_29 : decode cX6_init 29 = .ok (.aload_n 0, 1) := by decide +kernel
theorem dX6_init_30 : decode cX6_init 30 = .ok (.bipush 8, 2) := by decide +kernel
theorem dX6_init_32 : decode cX6_init 32 = .ok (.newarray .int, 2) := by decide +kernel
theorem dX6_init_34 : decode cX6_init 34 = .ok (.putfield 19, 3) := by decide +kernel
theorem dX6_init_37 : decode cX6_init 37 = .ok (.aload_n 0, 1) := by decide +kernel
theorem dX6_init_38 : decode cX6_init 38 = .ok (.bipush 32, 2) := by decide +kernel
theorem dX6_init_40 : decode cX6_init 40 = .ok (.newarray .int, 2) := by decide +kernel
theorem dX6_init_42 : decode cX6_init 42 = .ok (.putfield 22, 3) := by decide +kernel
theorem dX6_init_45 : decode cX6_init 45 = .ok (.aload_n 0, 1) := by decide +kernel
theorem dX6_init_46 : decode cX6_init 46 = .ok (.iconst 5, 1) := by decide +kernel
theorem dX6_init_47 : decode cX6_init 47 = .ok (.newarray .int, 2) := by decide +kernel
theorem dX6_init_49 : decode cX6_init 49 = .ok (.putfield 25, 3) := by decide +kernel
theorem dX6_init_52 : decode cX6_init 52 = .ok (.aload_n 0, 1) := by decide +kernel
theorem dX6_init_53 : decode cX6_init 53 = .ok (.iconst 5, 1) := by decide +kernel
theorem dX6_init_54 : decode cX6_init 54 = .ok (.newarray .int, 2) := by decide +kernel
theorem dX6_init_56 : decode cX6_init 56 = .ok (.putfield 28, 3) := by decide +kernel
theorem dX6_init_59 : decode cX6_init 59 = .ok (.aload_n 0, 1) := by decide +kernel
theorem dX6_init_60 : decode cX6_init 60 = .ok (.iconst 4, 1) := by decide +kernel
theorem dX6_init_61 : decode cX6_init 61 = .ok (.newarray .int, 2) := by decide +kernel
theorem dX6_init_63 : decode cX6_init 63 = .ok (.putfield 31, 3) := by decide +kernel
theorem dX6_init_66 : decode cX6_init 66 = .ok (.aload_n 0, 1) := by decide +kernel
theorem dX6_init_67 : decode cX6_init 67 = .ok (.bipush 20, 2) := by decide +kernel
theorem dX6_init_69 : decode cX6_init 69 = .ok (.newarray .int, 2) := by decide +kernel
theorem dX6_init_71 : decode cX6_init 71 = .ok (.putfield 34, 3) := by decide +kernel
theorem dX6_init_74 : decode cX6_init 74 = .ok (.aload_n 0, 1) := by decide +kernel
theorem dX6_init_75 : decode cX6_init 75 = .ok (.bipush 20, 2) := by decide +kernel
theorem dX6_init_77 : decode cX6_init 77 = .ok (.newarray .int, 2) := by decide +kernel
theorem dX6_init_79 : decode cX6_init 79 = .ok (.putfield 37, 3) := by decide +kernel
theorem dX6_init_82 : decode cX6_init 82 = .ok (.aload_n 0, 1) := by decide +kernel
theorem dX6_init_83 : decode cX6_init 83 = .ok (.bipush 20, 2) := by decide +kernel
theorem dX6_init_85 : decode cX6_init 85 = .ok (.newarray .int, 2) := by decide +kernel
theorem dX6_init_87 : decode cX6_init 87 = .ok (.putfield 40, 3) := by decide +kernel
theorem dX6_init_90 : decode cX6_init 90 = .ok (.aload_n 0, 1) := by decide +kernel
theorem dX6_init_91 : decode cX6_init 91 = .ok (.bipush 20, 2) := by decide +kernel
theorem dX6_init_93 : decode cX6_init 93 = .ok (.newarray .boolean, 2) := by decide +kernel
theorem dX6_init_95 : decode cX6_init 95 = .ok (.putfield 43, 3) := by decide +kernel
theorem dX6_init_98 : decode cX6_init 98 = .ok (.aload_n 0, 1) := by decide +kernel
theorem dX6_init_99 : decode cX6_init 99 = .ok (.sipush 238, 3) := by decide +kernel
theorem dX6_init_102 : decode cX6_init 102 = .ok (.newarray .int, 2) := by decide +kernel
theorem dX6_init_104 : decode cX6_init 104 = .ok (.putfield 47, 3) := by decide +kernel
theorem dX6_init_107 : decode cX6_init 107 = .ok (.aload_n 0, 1) := by decide +kernel
theorem dX6_init_108 : decode cX6_init 108 = .ok (.bipush 16, 2) := by decide +kernel
theorem dX6_init_110 : decode cX6_init 110 = .ok (.newarray .int, 2) := by decide +kernel
theorem dX6_init_112 : decode cX6_init 112 = .ok (.putfield 50, 3) := by decide +kernel
theorem dX6_init_115 : decode cX6_init 115 = .ok (.iconst 0, 1) := by decide +kernel
theorem dX6_init_116 : decode cX6_init 116 = .ok (.istore_n 1, 1) := by decide +kernel
theorem dX6_init_117 : decode cX6_init 117 = .ok (.iload_n 1, 1) := by decide +kernel
theorem dX6_init_118 : decode cX6_init 118 = .ok (.iconst 5, 1) := by decide +kernel
theorem dX6_init_119 : decode cX6_init 119 = .ok (.if_icmp .ge 16, 3) := by decide +kernel
theorem dX6_init_122 : decode cX6_init 122 = .ok (.aload_n 0, 1) := by decide +kernel
theorem dX6_init_123 : decode cX6_init 123 = .ok (.getfield 25, 3) := by decide +kernel
theorem dX6_init_126 : decode cX6_init 126 = .ok (.iload_n 1, 1) := by decide +kernel
theorem dX6_init_127 : decode cX6_init 127 = .ok (.iconst 2, 1) := by decide +kernel
theorem dX6_init_128 : decode cX6_init 128 = .ok (.iastore, 1) := by decide +kernel
theorem dX6_init_129 : decode cX6_init 129 = .ok (.iinc 1 1, 3) := by decide +kernel
theorem dX6_init_132 : decode cX6_init 132 = .ok (.goto (-15), 3) := by decide +kernel
theorem dX6_init_135 : decode cX6_init 135 = .ok (.return_, 1) := by decide +kernel
theorem dX6_thrown_0 : decode cX6_thrown 0 = .ok (.aload_n 0, 1) := by decide +kernel
theorem dX6_thrown_1 : decode cX6_thrown 1 = .ok (.getfield 53, 3) := by decide +kernel
theorem dX6_thrown_4 : decode cX6_thrown 4 = .ok (.ireturn, 1) := by decide +kernel
theorem dX6_in_0 : decode cX6_in 0 = .ok (.iload_n 0, 1) := by decide +kernel
theorem dX6_in_1 : decode cX6_in 1 = .ok (.iload_n 1, 1) := by decide +kernel
theorem dX6_in_2 : decode cX6_in 2 = .ok (.if_icmp .lt 12, 3) := by decide +kernel
theorem dX6_in_5 : decode cX6_in 5 = .ok (.iload_n 0, 1) := by decide +kernel
theorem dX6_in_6 : decode cX6_in 6 = .ok (.iload_n 2, 1) := by decide +kernel
theorem dX6_in_7 : decode cX6_in 7 = .ok (.if_icmp .gt 7, 3) := by decide +kernel
theorem dX6_in_10 : decode cX6_in 10 = .ok (.iconst 1, 1) := by decide +kernel
theorem dX6_in_11 : decode cX6_in 11 = .ok (.goto 4, 3) := by decide +kernel
theorem dX6_in_14 : decode cX6_in 14 = .ok (.iconst 0, 1) := by decide +kernel
theorem dX6_in_15 : decode cX6_in 15 = .ok (.ireturn, 1) := by decide +kernel
theorem dX6_goes_0 : decode cX6_goes 0 = .ok (.aload_n 0, 1) := by decide +kernel
theorem dX6_goes_1 : decode cX6_goes 1 = .ok (.iload_n 1, 1) := by decide +kernel
theorem dX6_goes_2 : decode cX6_goes 2 = .ok (.ifCond .ne 7, 3) := by decide +kernel
theorem dX6_goes_5 : decode cX6_goes 5 = .ok (.iconst 1, 1) := by decide +kernel
theorem dX6_goes_6 : decode cX6_goes 6 = .ok (.goto 20, 3) := by decide +kernel
theorem dX6_goes_9 : decode cX6_goes 9 = .ok (.iload_n 2, 1) := by decide +kernel
theorem dX6_goes_10 : decode cX6_goes 10 = .ok (.ifCond .ne 7, 3) := by decide +kernel
theorem dX6_goes_13 : decode cX6_goes 13 = .ok (.iconst 2, 1) := by decide +kernel
theorem dX6_goes_14 : decode cX6_goes 14 = .ok (.goto 12, 3) := by decide +kernel
theorem dX6_goes_17 : decode cX6_goes 17 = .ok (.iload_n 3, 1) := by decide +kernel
theorem dX6_goes_18 : decode cX6_goes 18 = .ok (.ifCond .ne 7, 3) := by decide +kernel
theorem dX6_goes_21 : decode cX6_goes 21 = .ok (.iconst 3, 1) := by decide +kernel
theorem dX6_goes_22 : decode cX6_goes 22 = .ok (.goto 4, 3) := by decide +kernel
theorem dX6_goes_25 : decode cX6_goes 25 = .ok (.iconst 0, 1) := by decide +kernel
theorem dX6_goes_26 : decode cX6_goes 26 = .ok (.putfield 53, 3) := by decide +kernel
theorem dX6_goes_29 : decode cX6_goes 29 = .ok (.aload_n 0, 1) := by decide +kernel
theorem dX6_goes_30 : decode cX6_goes 30 = .ok (.getfield 53, 3) := by decide +kernel
theorem dX6_goes_33 : decode cX6_goes 33 = .ok (.ifCond .ne 7, 3) := by decide +kernel
theorem dX6_goes_36 : decode cX6_goes 36 = .ok (.iconst 1, 1) := by decide +kernel
theorem dX6_goes_37 : decode cX6_goes 37 = .ok (.goto 4, 3) := by decide +kernel
theorem dX6_goes_40 : decode cX6_goes 40 = .ok (.iconst 0, 1) := by decide +kernel
theorem dX6_goes_41 : decode cX6_goes 41 = .ok (.ireturn, 1) := by decide +kernel
theorem dX6_told_0 : decode cX6_told 0 = .ok (.aload_n 0, 1) := by decide +kernel
theorem dX6_told_1 : decode cX6_told 1 = .ok (.iconst 0, 1) := by decide +kernel
theorem dX6_told_2 : decode cX6_told 2 = .ok (.putfield 53, 3) := by decide +kernel
theorem dX6_told_5 : decode cX6_told 5 = .ok (.iload_n 1, 1) := by decide +kernel
theorem dX6_told_6 : decode cX6_told 6 = .ok (.ireturn, 1) := by decide +kernel
theorem dX6_isPiece_0 : decode cX6_isPiece 0 = .ok (.iload_n 1, 1) := by decide +kernel
theorem dX6_isPiece_1 : decode cX6_isPiece 1 = .ok (.iconst 0, 1) := by decide +kernel
theorem dX6_isPiece_2 : decode cX6_isPiece 2 = .ok (.aload_n 0, 1) := by decide +kernel
theorem dX6_isPiece_3 : decode cX6_isPiece 3 = .ok (.getfield 57, 3) := by decide +kernel
theorem dX6_isPiece_6 : decode cX6_isPiece 6 = .ok (.iconst 1, 1) := by decide +kernel
theorem dX6_isPiece_7 : decode cX6_isPiece 7 = .ok (.isub, 1) := by decide +kernel
theorem dX6_isPiece_8 : decode cX6_isPiece 8 = .ok (.invokestatic 60, 3) := by decide +kernel
theorem dX6_isPiece_11 : decode cX6_isPiece 11 = .ok (.ireturn, 1) := by decide +kernel
theorem dX6_isNote_0 : decode cX6_isNote 0 = .ok (.aload_n 0, 1) := by decide +kernel
theorem dX6_isNote_1 : decode cX6_isNote 1 = .ok (.iload_n 1, 1) := by decide +kernel
theorem dX6_isNote_2 : decode cX6_isNote 2 = .ok (.invokevirtual 64, 3) := by decide +kernel
theorem dX6_isNote_5 : decode cX6_isNote 5 = .ok (.ifCond .eq 23, 3) := by decide +kernel
theorem dX6_isNote_8 : decode cX6_isNote 8 = .ok (.iload_n 2, 1) := by decide +kernel
theorem dX6_isNote_9 : decode cX6_isNote 9 = .ok (.iconst 0, 1) := by decide +kernel
theorem dX6_isNote_10 : decode cX6_isNote 10 = .ok (.aload_n 0, 1) := by decide +kernel
theorem dX6_isNote_11 : decode cX6_isNote 11 = .ok (.getfield 7, 3) := by decide +kernel
theorem dX6_isNote_14 : decode cX6_isNote 14 = .ok (.iload_n 1, 1) := by decide +kernel
theorem dX6_isNote_15 : decode cX6_isNote 15 = .ok (.iaload, 1) := by decide +kernel
theorem dX6_isNote_16 : decode cX6_isNote 16 = .ok (.iconst 1, 1) := by decide +kernel
theorem dX6_isNote_17 : decode cX6_isNote 17 = .ok (.isub, 1) := by decide +kernel
theorem dX6_isNote_18 : decode cX6_isNote 18 = .ok (.invokestatic 60, 3) := by decide +kernel
theorem dX6_isNote_21 : decode cX6_isNote 21 = .ok (.ifCond .eq 7, 3) := by decide +kernel
theorem dX6_isNote_24 : decode cX6_isNote 24 = .ok (.iconst 1, 1) := by decide +kernel
theorem dX6_isNote_25 : decode cX6_isNote 25 = .ok (.goto 4, 3) := by decide +kernel
theorem dX6_isNote_28 : decode cX6_isNote 28 = .ok (.iconst 0, 1) := by decide +kernel
theorem dX6_isNote_29 : decode cX6_isNote 29 = .ok (.ireturn, 1) := by decide +kernel
theorem dX6_isInstrument_0 : decode cX6_isInstrument 0 = .ok (.iload_n 1, 1) := by decide +kernel
theorem dX6_isInstrument_1 : decode cX6_isInstrument 1 = .ok (.iconst 0, 1) := by decide +kernel
theorem dX6_isInstrument_2 : decode cX6_isInstrument 2 = .ok (.aload_n 0, 1) := by decide +kernel
theorem dX6_isInstrument_3 : decode cX6_isInstrument 3 = .ok (.getfield 68, 3) := by decide +kernel
theorem dX6_isInstrument_6 : decode cX6_isInstrument 6 = .ok (.iconst 1, 1) := by decide +kernel
theorem dX6_isInstrument_7 : decode cX6_isInstrument 7 = .ok (.isub, 1) := by decide +kernel
theorem dX6_isInstrument_8 : decode cX6_isInstrument 8 = .ok (.invokestatic 60, 3) := by decide +kernel
theorem dX6_isInstrument_11 : decode cX6_isInstrument 11 = .ok (.ireturn, 1) := by decide +kernel
theorem dX6_isOrder_0 : decode cX6_isOrder 0 = .ok (.iload_n 1, 1) := by decide +kernel
theorem dX6_isOrder_1 : decode cX6_isOrder 1 = .ok (.iconst 0, 1) := by decide +kernel
theorem dX6_isOrder_2 : decode cX6_isOrder 2 = .ok (.aload_n 0, 1) := by decide +kernel
theorem dX6_isOrder_3 : decode cX6_isOrder 3 = .ok (.getfield 71, 3) := by decide +kernel
theorem dX6_isOrder_6 : decode cX6_isOrder 6 = .ok (.iconst 1, 1) := by decide +kernel
theorem dX6_isOrder_7 : decode cX6_isOrder 7 = .ok (.isub, 1) := by decide +kernel
theorem dX6_isOrder_8 : decode cX6_isOrder 8 = .ok (.invokestatic 60, 3) := by decide +kernel
theorem dX6_isOrder_11 : decode cX6_isOrder 11 = .ok (.ireturn, 1) := by decide +kernel
theorem dX6_isPupil_0 : decode cX6_isPupil 0 = .ok (.iload_n 0, 1) := by decide +kernel
theorem dX6_isPupil_1 : decode cX6_isPupil 1 = .ok (.iconst 0, 1) := by decide +kernel
theorem dX6_isPupil_2 : decode cX6_isPupil 2 = .ok (.iconst 4, 1) := by decide +kernel
theorem dX6_isPupil_3 : decode cX6_isPupil 3 = .ok (.invokestatic 60, 3) := by decide +kernel
theorem dX6_isPupil_6 : decode cX6_isPupil 6 = .ok (.ireturn, 1) := by decide +kernel
theorem dX6_begin_0 : decode cX6_begin 0 = .ok (.aload_n 0, 1) := by decide +kernel
theorem dX6_begin_1 : decode cX6_begin 1 = .ok (.aload_n 0, 1) := by decide +kernel
theorem dX6_begin_2 : decode cX6_begin 2 = .ok (.getfield 57, 3) := by decide +kernel
theorem dX6_begin_5 : decode cX6_begin 5 = .ok (.bipush 8, 2) := by decide +kernel
theorem dX6_begin_7 : decode cX6_begin 7 = .ok (.if_icmp .ge 7, 3) := by decide +kernel
theorem dX6_begin_10 : decode cX6_begin 10 = .ok (.iconst 1, 1) := by decide +kernel
theorem dX6_begin_11 : decode cX6_begin 11 = .ok (.goto 4, 3) := by decide +kernel
theorem dX6_begin_14 : decode cX6_begin 14 = .ok (.iconst 0, 1) := by decide +kernel
theorem dX6_begin_15 : decode cX6_begin 15 = .ok (.iconst 1, 1) := by decide +kernel
theorem dX6_begin_16 : decode cX6_begin 16 = .ok (.iconst 1, 1) := by decide +kernel
theorem dX6_begin_17 : decode cX6_begin 17 = .ok (.invokevirtual 74, 3) := by decide +kernel
theorem dX6_begin_20 : decode cX6_begin 20 = .ok (.ifCond .ne 5, 3) := by decide +kernel
theorem dX6_begin_23 : decode cX6_begin 23 = .ok (.iconst 0, 1) := by decide +kernel
theorem dX6_begin_24 : decode cX6_begin 24 = .ok (.ireturn, 1) := by decide +kernel
theorem dX6_begin_25 : decode cX6_begin 25 = .ok (.aload_n 0, 1) := by decide +kernel
theorem dX6_begin_26 : decode cX6_begin 26 = .ok (.dup, 1) := by decide +kernel
theorem dX6_begin_27 : decode cX6_begin 27 = .ok (.getfield 57, 3) := by decide +kernel
theorem dX6_begin_30 : decode cX6_begin 30 = .ok (.iconst 1, 1) := by decide +kernel
theorem dX6_begin_31 : decode cX6_begin 31 = .ok (.iadd, 1) := by decide +kernel
theorem dX6_begin_32 : decode cX6_begin 32 = .ok (.putfield 57, 3) := by decide +kernel
theorem dX6_begin_35 : decode cX6_begin 35 = .ok (.aload_n 0, 1) := by decide +kernel
theorem dX6_begin_36 : decode cX6_begin 36 = .ok (.getfield 57, 3) := by decide +kernel
theorem dX6_begin_39 : decode cX6_begin 39 = .ok (.iconst 1, 1) := by decide +kernel
theorem dX6_begin_40 : decode cX6_begin 40 = .ok (.isub, 1) := by decide +kernel
theorem dX6_begin_41 : decode cX6_begin 41 = .ok (.ireturn, 1) := by decide +kernel
theorem dX6_addNote_0 : decode cX6_addNote 0 = .ok (.aload_n 0, 1) := by decide +kernel
theorem dX6_addNote_1 : decode cX6_addNote 1 = .ok (.iload_n 1, 1) := by decide +kernel
theorem dX6_addNote_2 : decode cX6_addNote 2 = .ok (.invokevirtual 64, 3) := by decide +kernel
theorem dX6_addNote_5 : decode cX6_addNote 5 = .ok (.istore_n 3, 1) := by decide +kernel
theorem dX6_addNote_6 : decode cX6_addNote 6 = .ok (.aload_n 0, 1) := by decide +kernel
theorem dX6_addNote_7 : decode cX6_addNote 7 = .ok (.iload_n 3, 1) := by decide +kernel
theorem dX6_addNote_8 : decode cX6_addNote 8 = .ok (.iload_n 2, 1) := by decide +kernel
theorem dX6_addNote_9 : decode cX6_addNote 9 = .ok (.iconst 0, 1) := by decide +kernel
theorem dX6_addNote_10 : decode cX6_addNote 10 = .ok (.bipush 80, 2) := by decide +kernel
theorem dX6_addNote_12 : decode cX6_addNote 12 = .ok (.invokestatic 60, 3) := by decide +kernel
theorem dX6_addNote_15 : decode cX6_addNote 15 = .ok (.iload_n 3, 1) := by decide +kernel
theorem dX6_addNote_16 : decode cX6_addNote 16 = .ok (.ifCond .eq 18, 3) := by decide +kernel
theorem dX6_addNote_19 : decode cX6_addNote 19 = .ok (.aload_n 0, 1) := by decide +kernel
theorem dX6_addNote_20 : decode cX6_addNote 20 = .ok (.getfield 7, 3) := by decide +kernel
theorem dX6_addNote_23 : decode cX6_addNote 23 = .ok (.iload_n 1, 1) := by decide +kernel
theorem dX6_addNote_24 : decode cX6_addNote 24 = .ok (.iaload, 1) := by decide +kernel
theorem dX6_addNote_25 : decode cX6_addNote 25 = .ok (.bipush 16, 2) := by decide +kernel
theorem dX6_addNote_27 : decode cX6_addNote 27 = .ok (.if_icmp .ge 7, 3) := by decide +kernel
theorem dX6_addNote_30 : decode cX6_addNote 30 = .ok (.iconst 1, 1) := by decide +kernel
theorem dX6_addNote_31 : decode cX6_addNote 31 = .ok (.goto 4, 3) := by decide +kernel
theorem dX6_addNote_34 : decode cX6_addNote 34 = .ok (.iconst 0, 1) := by decide +kernel
theorem dX6_addNote_35 : decode cX6_addNote 35 = .ok (.invokevirtual 74, 3) := by decide +kernel
theorem dX6_addNote_38 : decode cX6_addNote 38 = .ok (.ifCond .ne 5, 3) := by decide +kernel
theorem dX6_addNote_41 : decode cX6_addNote 41 = .ok (.iconst 0, 1) := by decide +kernel
theorem dX6_addNote_42 : decode cX6_addNote 42 = .ok (.ireturn, 1) := by decide +kernel
theorem dX6_addNote_43 : decode cX6_addNote 43 = .ok (.aload_n 0, 1) := by decide +kernel
theorem dX6_addNote_44 : decode cX6_addNote 44 = .ok (.getfield 13, 3) := by decide +kernel
theorem dX6_addNote_47 : decode cX6_addNote 47 = .ok (.bipush 16, 2) := by decide +kernel
theorem dX6_addNote_49 : decode cX6_addNote 49 = .ok (.iload_n 1, 1) := by decide +kernel
theorem dX6_addNote_50 : decode cX6_addNote 50 = .ok (.imul, 1) := by decide +kernel
theorem dX6_addNote_51 : decode cX6_addNote 51 = .ok (.aload_n 0, 1) := by decide +kernel
theorem dX6_addNote_52 : decode cX6_addNote 52 = .ok (.getfield 7, 3) := by decide +kernel
theorem dX6_addNote_55 : decode cX6_addNote 55 = .ok (.iload_n 1, 1) := by decide +kernel
theorem dX6_addNote_56 : decode cX6_addNote 56 = .ok (.iaload, 1) := by decide +kernel
theorem dX6_addNote_57 : decode cX6_addNote 57 = .ok (.iadd, 1) := by decide +kernel
theorem dX6_addNote_58 : decode cX6_addNote 58 = .ok (.iload_n 2, 1) := by decide +kernel
theorem dX6_addNote_59 : decode cX6_addNote 59 = .ok (.iastore, 1) := by decide +kernel
theorem dX6_addNote_60 : decode cX6_addNote 60 = .ok (.aload_n 0, 1) := by decide +kernel
theorem dX6_addNote_61 : decode cX6_addNote 61 = .ok (.getfield 7, 3) := by decide +kernel
theorem dX6_addNote_64 : decode cX6_addNote 64 = .ok (.iload_n 1, 1) := by decide +kernel
theorem dX6_addNote_65 : decode cX6_addNote 65 = .ok (.dup2, 1) := by decide +kernel
theorem dX6_addNote_66 : decode cX6_addNote 66 = .ok (.iaload, 1) := by decide +kernel
theorem dX6_addNote_67 : decode cX6_addNote 67 = .ok (.iconst 1, 1) := by decide +kernel
theorem dX6_addNote_68 : decode cX6_addNote 68 = .ok (.iadd, 1) := by decide +kernel
theorem dX6_addNote_69 : decode cX6_addNote 69 = .ok (.iastore, 1) := by decide +kernel
theorem dX6_addNote_70 : decode cX6_addNote 70 = .ok (.aload_n 0, 1) := by decide +kernel
theorem dX6_addNote_71 : decode cX6_addNote 71 = .ok (.getfield 7, 3) := by decide +kernel
theorem dX6_addNote_74 : decode cX6_addNote 74 = .ok (.iload_n 1, 1) := by decide +kernel
theorem dX6_addNote_75 : decode cX6_addNote 75 = .ok (.iaload, 1) := by decide +kernel
theorem dX6_addNote_76 : decode cX6_addNote 76 = .ok (.ireturn, 1) := by decide +kernel
theorem dX6_transpose_0 : decode cX6_transpose 0 = .ok (.aload_n 0, 1) := by decide +kernel
theorem dX6_transpose_1 : decode cX6_transpose 1 = .ok (.iload_n 1, 1) := by decide +kernel
theorem dX6_transpose_2 : decode cX6_transpose 2 = .ok (.invokevirtual 64, 3) := by decide +kernel
theorem dX6_transpose_5 : decode cX6_transpose 5 = .ok (.istore_n 3, 1) := by decide +kernel
theorem dX6_transpose_6 : decode cX6_transpose 6 = .ok (.iload_n 2, 1) := by decide +kernel
theorem dX6_transpose_7 : decode cX6_transpose 7 = .ok (.bipush (-40), 2) := by decide +kernel
theorem dX6_transpose_9 : decode cX6_transpose 9 = .ok (.bipush 40, 2) := by decide +kernel
theorem dX6_transpose_11 : decode cX6_transpose 11 = .ok (.invokestatic 60, 3) := by decide +kernel
theorem dX6_transpose_14 : decode cX6_transpose 14 = .ok (.istore 4, 2) := by decide +kernel
theorem dX6_transpose_16 : decode cX6_transpose 16 = .ok (.iconst 1, 1) := by decide +kernel
theorem dX6_transpose_17 : decode cX6_transpose 17 = .ok (.istore 5, 2) := by decide +kernel
theorem dX6_transpose_19 : decode cX6_transpose 19 = .ok (.iconst 0, 1) := by decide +kernel
theorem dX6_transpose_20 : decode cX6_transpose 20 = .ok (.istore 6, 2) := by decide +kernel
theorem dX6_transpose_22 : decode cX6_transpose 22 = .ok (.iload_n 3, 1) := by decide +kernel
theorem dX6_transpose_23 : decode cX6_transpose 23 = .ok (.ifCond .eq 60, 3) := by decide +kernel
theorem dX6_transpose_26 : decode cX6_transpose 26 = .ok (.iload 4, 2) := by decide +kernel
theorem dX6_transpose_28 : decode cX6_transpose 28 = .ok (.ifCond .eq 55, 3) := by decide +kernel
theorem dX6_transpose_31 : decode cX6_transpose 31 = .ok (.iload 6, 2) := by decide +kernel
theorem dX6_transpose_33 : decode cX6_transpose 33 = .ok (.aload_n 0, 1) := by decide +kernel
theorem dX6_transpose_34 : decode cX6_transpose 34 = .ok (.getfield 7, 3) := by decide +kernel
theorem dX6_transpose_37 : decode cX6_transpose 37 = .ok (.iload_n 1, 1) := by decide +kernel
theorem dX6_transpose_38 : decode cX6_transpose 38 = .ok (.iaload, 1) := by decide +kernel
theorem dX6_transpose_39 : decode cX6_transpose 39 = .ok (.if_icmp .ge 44, 3) := by decide +kernel
theorem dX6_transpose_42 : decode cX6_transpose 42 = .ok (.iload 5, 2) := by decide +kernel
theorem dX6_transpose_44 : decode cX6_transpose 44 = .ok (.ifCond .eq 30, 3) := by decide +kernel
theorem dX6_transpose_47 : decode cX6_transpose 47 = .ok (.aload_n 0, 1) := by decide +kernel
theorem dX6_transpose_48 : decode cX6_transpose 48 = .ok (.getfield 13, 3) := by decide +kernel
theorem dX6_transpose_51 : decode cX6_transpose 51 = .ok (.bipush 16, 2) := by decide +kernel
theorem dX6_transpose_53 : decode cX6_transpose 53 = .ok (.iload_n 1, 1) := by decide +kernel
theorem dX6_transpose_54 : decode cX6_transpose 54 = .ok (.imul, 1) := by decide +kernel
theorem dX6_transpose_55 : decode cX6_transpose 55 = .ok (.iload 6, 2) := by decide +kernel
theorem dX6_transpose_57 : decode cX6_transpose 57 = .ok (.iadd, 1) := by decide +kernel
theorem dX6_transpose_58 : decode cX6_transpose 58 = .ok (.iaload, 1) := by decide +kernel
theorem dX6_transpose_59 : decode cX6_transpose 59 = .ok (.iload_n 2, 1) := by decide +kernel
theorem dX6_transpose_60 : decode cX6_transpose 60 = .ok (.iadd, 1) := by decide +kernel
theorem dX6_transpose_61 : decode cX6_transpose 61 = .ok (.iconst 0, 1) := by decide +kernel
theorem dX6_transpose_62 : decode cX6_transpose 62 = .ok (.bipush 80, 2) := by decide +kernel
theorem dX6_transpose_64 : decode cX6_transpose 64 = .ok (.invokestatic 60, 3) := by decide +kernel
theorem dX6_transpose_67 : decode cX6_transpose 67 = .ok (.ifCond .eq 7, 3) := by decide +kernel
theorem dX6_transpose_70 : decode cX6_transpose 70 = .ok (.iconst 1, 1) := by decide +kernel
theorem dX6_transpose_71 : decode cX6_transpose 71 = .ok (.goto 4, 3) := by decide +kernel
theorem dX6_transpose_74 : decode cX6_transpose 74 = .ok (.iconst 0, 1) := by decide +kernel
theorem dX6_transpose_75 : decode cX6_transpose 75 = .ok (.istore 5, 2) := by decide +kernel
theorem dX6_transpose_77 : decode cX6_transpose 77 = .ok (.iinc 6 1, 3) := by decide +kernel
theorem dX6_transpose_80 : decode cX6_transpose 80 = .ok (.goto (-58), 3) := by decide +kernel
theorem dX6_transpose_83 : decode cX6_transpose 83 = .ok (.aload_n 0, 1) := by decide +kernel
theorem dX6_transpose_84 : decode cX6_transpose 84 = .ok (.iload_n 3, 1) := by decide +kernel
theorem dX6_transpose_85 : decode cX6_transpose 85 = .ok (.iload 4, 2) := by decide +kernel
theorem dX6_transpose_87 : decode cX6_transpose 87 = .ok (.iload 5, 2) := by decide +kernel
theorem dX6_transpose_89 : decode cX6_transpose 89 = .ok (.invokevirtual 74, 3) := by decide +kernel
theorem dX6_transpose_92 : decode cX6_transpose 92 = .ok (.ifCond .eq 39, 3) := by decide +kernel
theorem dX6_transpose_95 : decode cX6_transpose 95 = .ok (.iconst 0, 1) := by decide +kernel
theorem dX6_transpose_96 : decode cX6_transpose 96 = .ok (.istore 6, 2) := by decide +kernel
theorem dX6_transpose_98 : decode cX6_transpose 98 = .ok (.iload 6, 2) := by decide +kernel
theorem dX6_transpose_100 : decode cX6_transpose 100 = .ok (.aload_n 0, 1) := by decide +kernel
theorem dX6_transpose_101 : decode cX6_transpose 101 = .ok (.getfield 7, 3) := by decide +kernel
theorem dX6_transpose_104 : decode cX6_transpose 104 = .ok (.iload_n 1, 1) := by decide +kernel
theorem dX6_transpose_105 : decode cX6_transpose 105 = .ok (.iaload, 1) := by decide +kernel
theorem dX6_transpose_106 : decode cX6_transpose 106 = .ok (.if_icmp .ge 25, 3) := by decide +kernel
theorem dX6_transpose_109 : decode cX6_transpose 109 = .ok (.aload_n 0, 1) := by decide +kernel
theorem dX6_transpose_110 : decode cX6_transpose 110 = .ok (.getfield 13, 3) := by decide +kernel
theorem dX6_transpose_113 : decode cX6_transpose 113 = .ok (.bipush 16, 2) := by decide +kernel
theorem dX6_transpose_115 : decode cX6_transpose 115 = .ok (.iload_n 1, 1) := by decide +kernel
theorem dX6_transpose_116 : decode cX6_transpose 116 = .ok (.imul, 1) := by decide +kernel
theorem dX6_transpose_117 : decode cX6_transpose 117 = .ok (.iload 6, 2) := by decide +kernel
theorem dX6_transpose_119 : decode cX6_transpose 119 = .ok (.iadd, 1) := by decide +kernel
theorem dX6_transpose_120 : decode cX6_transpose 120 = .ok (.dup2, 1) := by decide +kernel
theorem dX6_transpose_121 : decode cX6_transpose 121 = .ok (.iaload, 1) := by decide +kernel
theorem dX6_transpose_122 : decode cX6_transpose 122 = .ok (.iload_n 2, 1) := by decide +kernel
theorem dX6_transpose_123 : decode cX6_transpose 123 = .ok (.iadd, 1) := by decide +kernel
theorem dX6_transpose_124 : decode cX6_transpose 124 = .ok (.iastore, 1) := by decide +kernel
theorem dX6_transpose_125 : decode cX6_transpose 125 = .ok (.iinc 6 1, 3) := by decide +kernel
theorem dX6_transpose_128 : decode cX6_transpose 128 = .ok (.goto (-30), 3) := by decide +kernel
theorem dX6_transpose_131 : decode cX6_transpose 131 = .ok (.return_, 1) := by decide +kernel
theorem dX6_pitch_0 : decode cX6_pitch 0 = .ok (.aload_n 0, 1) := by decide +kernel
theorem dX6_pitch_1 : decode cX6_pitch 1 = .ok (.aload_n 0, 1) := by decide +kernel
theorem dX6_pitch_2 : decode cX6_pitch 2 = .ok (.iload_n 1, 1) := by decide +kernel
theorem dX6_pitch_3 : decode cX6_pitch 3 = .ok (.iload_n 2, 1) := by decide +kernel
theorem dX6_pitch_4 : decode cX6_pitch 4 = .ok (.invokevirtual 78, 3) := by decide +kernel
theorem dX6_pitch_7 : decode cX6_pitch 7 = .ok (.iconst 1, 1) := by decide +kernel
theorem dX6_pitch_8 : decode cX6_pitch 8 = .ok (.iconst 1, 1) := by decide +kernel
theorem dX6_pitch_9 : decode cX6_pitch 9 = .ok (.invokevirtual 74, 3) := by decide +kernel
theorem dX6_pitch_12 : decode cX6_pitch 12 = .ok (.ifCond .eq 17, 3) := by decide +kernel
theorem dX6_pitch_15 : decode cX6_pitch 15 = .ok (.aload_n 0, 1) := by decide +kernel
theorem dX6_pitch_16 : decode cX6_pitch 16 = .ok (.getfield 13, 3) := by decide +kernel
theorem dX6_pitch_19 : decode cX6_pitch 19 = .ok (.bipush 16, 2) := by decide +kernel
theorem dX6_pitch_21 : decode cX6_pitch 21 = .ok (.iload_n 1, 1) := by decide +kernel
theorem dX6_pitch_22 : decode cX6_pitch 22 = .ok (.imul, 1) := by decide +kernel
theorem dX6_pitch_23 : decode cX6_pitch 23 = .ok (.iload_n 2, 1) := by decide +kernel
theorem dX6_pitch_24 : decode cX6_pitch 24 = .ok (.iadd, 1) := by decide +kernel
theorem dX6_pitch_25 : decode cX6_pitch 25 = .ok (.iaload, 1) := by decide +kernel
theorem dX6_pitch_26 : decode cX6_pitch 26 = .ok (.goto 4, 3) := by decide +kernel
theorem dX6_pitch_29 : decode cX6_pitch 29 = .ok (.iconst 0, 1) := by decide +kernel
theorem dX6_pitch_30 : decode cX6_pitch 30 = .ok (.ireturn, 1) := by decide +kernel
theorem dX6_tune_0 : decode cX6_tune 0 = .ok (.aload_n 0, 1) := by decide +kernel
theorem dX6_tune_1 : decode cX6_tune 1 = .ok (.iload_n 1, 1) := by decide +kernel
theorem dX6_tune_2 : decode cX6_tune 2 = .ok (.invokevirtual 82, 3) := by decide +kernel
theorem dX6_tune_5 : decode cX6_tune 5 = .ok (.istore 4, 2) := by decide +kernel
theorem dX6_tune_7 : decode cX6_tune 7 = .ok (.aload_n 0, 1) := by decide +kernel
theorem dX6_tune_8 : decode cX6_tune 8 = .ok (.iload 4, 2) := by decide +kernel
theorem dX6_tune_10 : decode cX6_tune 10 = .ok (.iload_n 2, 1) := by decide +kernel
theorem dX6_tune_11 : decode cX6_tune 11 = .ok (.iconst 0, 1) := by decide +kernel
theorem dX6_tune_12 : decode cX6_tune 12 = .ok (.iconst 3, 1) := by decide +kernel
theorem dX6_tune_13 : decode cX6_tune 13 = .ok (.invokestatic 60, 3) := by decide +kernel
theorem dX6_tune_16 : decode cX6_tune 16 = .ok (.ifCond .eq 17, 3) := by decide +kernel
theorem dX6_tune_19 : decode cX6_tune 19 = .ok (.iload_n 3, 1) := by decide +kernel
theorem dX6_tune_20 : decode cX6_tune 20 = .ok (.iconst 0, 1) := by decide +kernel
theorem dX6_tune_21 : decode cX6_tune 21 = .ok (.bipush 60, 2) := by decide +kernel
theorem dX6_tune_23 : decode cX6_tune 23 = .ok (.invokestatic 60, 3) := by decide +kernel
theorem dX6_tune_26 : decode cX6_tune 26 = .ok (.ifCond .eq 7, 3) := by decide +kernel
theorem dX6_tune_29 : decode cX6_tune 29 = .ok (.iconst 1, 1) := by decide +kernel
theorem dX6_tune_30 : decode cX6_tune 30 = .ok (.goto 4, 3) := by decide +kernel
theorem dX6_tune_33 : decode cX6_tune 33 = .ok (.iconst 0, 1) := by decide +kernel
theorem dX6_tune_34 : decode cX6_tune 34 = .ok (.iconst 1, 1) := by decide +kernel
theorem dX6_tune_35 : decode cX6_tune 35 = .ok (.invokevirtual 74, 3) := by decide +kernel
theorem dX6_tune_38 : decode cX6_tune 38 = .ok (.ifCond .ne 5, 3) := by decide +kernel
theorem dX6_tune_41 : decode cX6_tune 41 = .ok (.iconst 0, 1) := by decide +kernel
theorem dX6_tune_42 : decode cX6_tune 42 = .ok (.ireturn, 1) := by decide +kernel
theorem dX6_tune_43 : decode cX6_tune 43 = .ok (.aload_n 0, 1) := by decide +kernel
theorem dX6_tune_44 : decode cX6_tune 44 = .ok (.getfield 22, 3) := by decide +kernel
theorem dX6_tune_47 : decode cX6_tune 47 = .ok (.iconst 4, 1) := by decide +kernel
theorem dX6_tune_48 : decode cX6_tune 48 = .ok (.iload_n 1, 1) := by decide +kernel
theorem dX6_tune_49 : decode cX6_tune 49 = .ok (.imul, 1) := by decide +kernel
theorem dX6_tune_50 : decode cX6_tune 50 = .ok (.iload_n 2, 1) := by decide +kernel
theorem dX6_tune_51 : decode cX6_tune 51 = .ok (.iadd, 1) := by decide +kernel
theorem dX6_tune_52 : decode cX6_tune 52 = .ok (.iaload, 1) := by decide +kernel
theorem dX6_tune_53 : decode cX6_tune 53 = .ok (.istore 5, 2) := by decide +kernel
theorem dX6_tune_55 : decode cX6_tune 55 = .ok (.aload_n 0, 1) := by decide +kernel
theorem dX6_tune_56 : decode cX6_tune 56 = .ok (.getfield 22, 3) := by decide +kernel
theorem dX6_tune_59 : decode cX6_tune 59 = .ok (.iconst 4, 1) := by decide +kernel
theorem dX6_tune_60 : decode cX6_tune 60 = .ok (.iload_n 1, 1) := by decide +kernel
theorem dX6_tune_61 : decode cX6_tune 61 = .ok (.imul, 1) := by decide +kernel
theorem dX6_tune_62 : decode cX6_tune 62 = .ok (.iload_n 2, 1) := by decide +kernel
theorem dX6_tune_63 : decode cX6_tune 63 = .ok (.iadd, 1) := by decide +kernel
theorem dX6_tune_64 : decode cX6_tune 64 = .ok (.iload_n 3, 1) := by decide +kernel
theorem dX6_tune_65 : decode cX6_tune 65 = .ok (.iastore, 1) := by decide +kernel
theorem dX6_tune_66 : decode cX6_tune 66 = .ok (.iload 5, 2) := by decide +kernel
theorem dX6_tune_68 : decode cX6_tune 68 = .ok (.ireturn, 1) := by decide +kernel
theorem dX6_owner_0 : decode cX6_owner 0 = .ok (.aload_n 0, 1) := by decide +kernel
theorem dX6_owner_1 : decode cX6_owner 1 = .ok (.aload_n 0, 1) := by decide +kernel
theorem dX6_owner_2 : decode cX6_owner 2 = .ok (.iload_n 1, 1) := by decide +kernel
theorem dX6_owner_3 : decode cX6_owner 3 = .ok (.invokevirtual 82, 3) := by decide +kernel
theorem dX6_owner_6 : decode cX6_owner 6 = .ok (.iconst 1, 1) := by decide +kernel
theorem dX6_owner_7 : decode cX6_owner 7 = .ok (.iconst 1, 1) := by decide +kernel
theorem dX6_owner_8 : decode cX6_owner 8 = .ok (.invokevirtual 74, 3) := by decide +kernel
theorem dX6_owner_11 : decode cX6_owner 11 = .ok (.ifCond .eq 12, 3) := by decide +kernel
theorem dX6_owner_14 : decode cX6_owner 14 = .ok (.aload_n 0, 1) := by decide +kernel
theorem dX6_owner_15 : decode cX6_owner 15 = .ok (.getfield 16, 3) := by decide +kernel
theorem dX6_owner_18 : decode cX6_owner 18 = .ok (.iload_n 1, 1) := by decide +kernel
theorem dX6_owner_19 : decode cX6_owner 19 = .ok (.iaload, 1) := by decide +kernel
theorem dX6_owner_20 : decode cX6_owner 20 = .ok (.goto 4, 3) := by decide +kernel
theorem dX6_owner_23 : decode cX6_owner 23 = .ok (.iconst 0, 1) := by decide +kernel
theorem dX6_owner_24 : decode cX6_owner 24 = .ok (.ireturn, 1) := by decide +kernel
theorem dX6_instruments_0 : decode cX6_instruments 0 = .ok (.aload_n 0, 1) := by decide +kernel
theorem dX6_instruments_1 : decode cX6_instruments 1 = .ok (.aload_n 0, 1) := by decide +kernel
theorem dX6_instruments_2 : decode cX6_instruments 2 = .ok (.getfield 68, 3) := by decide +kernel
theorem dX6_instruments_5 : decode cX6_instruments 5 = .ok (.invokevirtual 85, 3) := by decide +kernel
theorem dX6_instruments_8 : decode cX6_instruments 8 = .ok (.ireturn, 1) := by decide +kernel
theorem dX6_lies_0 : decode cX6_lies 0 = .ok (.aload_n 0, 1) := by decide +kernel
theorem dX6_lies_1 : decode cX6_lies 1 = .ok (.getfield 13, 3) := by decide +kernel
theorem dX6_lies_4 : decode cX6_lies 4 = .ok (.bipush 16, 2) := by decide +kernel
theorem dX6_lies_6 : decode cX6_lies 6 = .ok (.iload_n 1, 1) := by decide +kernel
theorem dX6_lies_7 : decode cX6_lies 7 = .ok (.imul, 1) := by decide +kernel
theorem dX6_lies_8 : decode cX6_lies 8 = .ok (.iload_n 2, 1) := by decide +kernel
theorem dX6_lies_9 : decode cX6_lies 9 = .ok (.iadd, 1) := by decide +kernel
theorem dX6_lies_10 : decode cX6_lies 10 = .ok (.iaload, 1) := by decide +kernel
theorem dX6_lies_11 : decode cX6_lies 11 = .ok (.aload_n 0, 1) := by decide +kernel
theorem dX6_lies_12 : decode cX6_lies 12 = .ok (.getfield 22, 3) := by decide +kernel
theorem dX6_lies_15 : decode cX6_lies 15 = .ok (.iconst 4, 1) := by decide +kernel
theorem dX6_lies_16 : decode cX6_lies 16 = .ok (.iload_n 3, 1) := by decide +kernel
theorem dX6_lies_17 : decode cX6_lies 17 = .ok (.imul, 1) := by decide +kernel
theorem dX6_lies_18 : decode cX6_lies 18 = .ok (.iload 4, 2) := by decide +kernel
theorem dX6_lies_20 : decode cX6_lies 20 = .ok (.iadd, 1) := by decide +kernel
theorem dX6_lies_21 : decode cX6_lies 21 = .ok (.iaload, 1) := by decide +kernel
theorem dX6_lies_22 : decode cX6_lies 22 = .ok (.isub, 1) := by decide +kernel
theorem dX6_lies_23 : decode cX6_lies 23 = .ok (.istore 6, 2) := by decide +kernel
theorem dX6_lies_25 : decode cX6_lies 25 = .ok (.iload 6, 2) := by decide +kernel
theorem dX6_lies_27 : decode cX6_lies 27 = .ok (.ifCond .eq 28, 3) := by decide +kernel
theorem dX6_lies_30 : decode cX6_lies 30 = .ok (.iload 6, 2) := by decide +kernel
theorem dX6_lies_32 : decode cX6_lies 32 = .ok (.iload 5, 2) := by decide +kernel
theorem dX6_lies_34 : decode cX6_lies 34 = .ok (.iload 5, 2) := by decide +kernel
theorem dX6_lies_36 : decode cX6_lies 36 = .ok (.iconst 3, 1) := by decide +kernel
theorem dX6_lies_37 : decode cX6_lies 37 = .ok (.iadd, 1) := by decide +kernel
theorem dX6_lies_38 : decode cX6_lies 38 = .ok (.invokestatic 60, 3) := by decide +kernel
theorem dX6_lies_41 : decode cX6_lies 41 = .ok (.ifCond .eq 18, 3) := by decide +kernel
theorem dX6_lies_44 : decode cX6_lies 44 = .ok (.iload 6, 2) := by decide +kernel
theorem dX6_lies_46 : decode cX6_lies 46 = .ok (.aload_n 0, 1) := by decide +kernel
theorem dX6_lies_47 : decode cX6_lies 47 = .ok (.getfield 19, 3) := by decide +kernel
theorem dX6_lies_50 : decode cX6_lies 50 = .ok (.iload_n 3, 1) := by decide +kernel
theorem dX6_lies_51 : decode cX6_lies 51 = .ok (.iaload, 1) := by decide +kernel
theorem dX6_lies_52 : decode cX6_lies 52 = .ok (.if_icmp .gt 7, 3) := by decide +kernel
theorem dX6_lies_55 : decode cX6_lies 55 = .ok (.iconst 1, 1) := by decide +kernel
theorem dX6_lies_56 : decode cX6_lies 56 = .ok (.goto 4, 3) := by decide +kernel
theorem dX6_lies_59 : decode cX6_lies 59 = .ok (.iconst 0, 1) := by decide +kernel
theorem dX6_lies_60 : decode cX6_lies 60 = .ok (.ireturn, 1) := by decide +kernel
theorem dX6_plays_0 : decode cX6_plays 0 = .ok (.iconst 0, 1) := by decide +kernel
theorem dX6_plays_1 : decode cX6_plays 1 = .ok (.istore 5, 2) := by decide +kernel
theorem dX6_plays_3 : decode cX6_plays 3 = .ok (.iconst 0, 1) := by decide +kernel
theorem dX6_plays_4 : decode cX6_plays 4 = .ok (.istore 6, 2) := by decide +kernel
theorem dX6_plays_6 : decode cX6_plays 6 = .ok (.iload 6, 2) := by decide +kernel
theorem dX6_plays_8 : decode cX6_plays 8 = .ok (.iconst 4, 1) := by decide +kernel
theorem dX6_plays_9 : decode cX6_plays 9 = .ok (.if_icmp .ge 35, 3) := by decide +kernel
theorem dX6_plays_12 : decode cX6_plays 12 = .ok (.iload 5, 2) := by decide +kernel
theorem dX6_plays_14 : decode cX6_plays 14 = .ok (.ifCond .ne 17, 3) := by decide +kernel
theorem dX6_plays_17 : decode cX6_plays 17 = .ok (.aload_n 0, 1) := by decide +kernel
theorem dX6_plays_18 : decode cX6_plays 18 = .ok (.iload_n 1, 1) := by decide +kernel
theorem dX6_plays_19 : decode cX6_plays 19 = .ok (.iload_n 2, 1) := by decide +kernel
theorem dX6_plays_20 : decode cX6_plays 20 = .ok (.iload_n 3, 1) := by decide +kernel
theorem dX6_plays_21 : decode cX6_plays 21 = .ok (.iload 6, 2) := by decide +kernel
theorem dX6_plays_23 : decode cX6_plays 23 = .ok (.iload 4, 2) := by decide +kernel
theorem dX6_plays_25 : decode cX6_plays 25 = .ok (.invokevirtual 89, 3) := by decide +kernel
theorem dX6_plays_28 : decode cX6_plays 28 = .ok (.ifCond .eq 7, 3) := by decide +kernel
theorem dX6_plays_31 : decode cX6_plays 31 = .ok (.iconst 1, 1) := by decide +kernel
theorem dX6_plays_32 : decode cX6_plays 32 = .ok (.goto 4, 3) := by decide +kernel
theorem dX6_plays_35 : decode cX6_plays 35 = .ok (.iconst 0, 1) := by decide +kernel
theorem dX6_plays_36 : decode cX6_plays 36 = .ok (.istore 5, 2) := by decide +kernel
theorem dX6_plays_38 : decode cX6_plays 38 = .ok (.iinc 6 1, 3) := by decide +kernel
theorem dX6_plays_41 : decode cX6_plays 41 = .ok (.goto (-35), 3) := by decide +kernel
theorem dX6_plays_44 : decode cX6_plays 44 = .ok (.iload 5, 2) := by decide +kernel
theorem dX6_plays_46 : decode cX6_plays 46 = .ok (.ireturn, 1) := by decide +kernel
theorem dX6_apart_0 : decode cX6_apart 0 = .ok (.iload_n 0, 1) := by decide +kernel
theorem dX6_apart_1 : decode cX6_apart 1 = .ok (.iload_n 1, 1) := by decide +kernel
theorem dX6_apart_2 : decode cX6_apart 2 = .ok (.if_icmp .ge 9, 3) := by decide +kernel
theorem dX6_apart_5 : decode cX6_apart 5 = .ok (.iload_n 1, 1) := by decide +kernel
theorem dX6_apart_6 : decode cX6_apart 6 = .ok (.iload_n 0, 1) := by decide +kernel
theorem dX6_apart_7 : decode cX6_apart 7 = .ok (.isub, 1) := by decide +kernel
theorem dX6_apart_8 : decode cX6_apart 8 = .ok (.goto 6, 3) := by decide +kernel
end
section
theorem dX6_apart_11 : decode cX6_apart 11 = .ok (.iload_n 0, 1) := by decide +kernel
theorem dX6_apart_12 : decode cX6_apart 12 = .ok (.iload_n 1, 1) := by decide +kernel
theorem dX6_apart_13 : decode cX6_apart 13 = .ok (.isub, 1) := by decide +kernel
theorem dX6_apart_14 : decode cX6_apart 14 = .ok (.ireturn, 1) := by decide +kernel
theorem dX6_from_0 : decode cX6_from 0 = .ok (.aload_n 0, 1) := by decide +kernel
theorem dX6_from_1 : decode cX6_from 1 = .ok (.iload_n 1, 1) := by decide +kernel
theorem dX6_from_2 : decode cX6_from 2 = .ok (.iload_n 2, 1) := by decide +kernel
theorem dX6_from_3 : decode cX6_from 3 = .ok (.iload_n 3, 1) := by decide +kernel
theorem dX6_from_4 : decode cX6_from 4 = .ok (.iload 4, 2) := by decide +kernel
theorem dX6_from_6 : decode cX6_from 6 = .ok (.invokevirtual 93, 3) := by decide +kernel
theorem dX6_from_9 : decode cX6_from 9 = .ok (.ifCond .ne 6, 3) := by decide +kernel
theorem dX6_from_12 : decode cX6_from 12 = .ok (.ldc 97, 2) := by decide +kernel
theorem dX6_from_14 : decode cX6_from 14 = .ok (.ireturn, 1) := by decide +kernel
theorem dX6_from_15 : decode cX6_from 15 = .ok (.iload_n 2, 1) := by decide +kernel
theorem dX6_from_16 : decode cX6_from 16 = .ok (.iconst 1, 1) := by decide +kernel
theorem dX6_from_17 : decode cX6_from 17 = .ok (.iadd, 1) := by decide +kernel
theorem dX6_from_18 : decode cX6_from 18 = .ok (.aload_n 0, 1) := by decide +kernel
theorem dX6_from_19 : decode cX6_from 19 = .ok (.getfield 7, 3) := by decide +kernel
theorem dX6_from_22 : decode cX6_from 22 = .ok (.iload_n 1, 1) := by decide +kernel
theorem dX6_from_23 : decode cX6_from 23 = .ok (.iaload, 1) := by decide +kernel
theorem dX6_from_24 : decode cX6_from 24 = .ok (.if_icmp .ge 8, 3) := by decide +kernel
theorem dX6_from_27 : decode cX6_from 27 = .ok (.ldc 97, 2) := by decide +kernel
theorem dX6_from_29 : decode cX6_from 29 = .ok (.goto 4, 3) := by decide +kernel
theorem dX6_from_32 : decode cX6_from 32 = .ok (.iconst 0, 1) := by decide +kernel
theorem dX6_from_33 : decode cX6_from 33 = .ok (.istore 5, 2) := by decide +kernel
theorem dX6_from_35 : decode cX6_from 35 = .ok (.iconst 1, 1) := by decide +kernel
theorem dX6_from_36 : decode cX6_from 36 = .ok (.istore 6, 2) := by decide +kernel
theorem dX6_from_38 : decode cX6_from 38 = .ok (.iload_n 2, 1) := by decide +kernel
theorem dX6_from_39 : decode cX6_from 39 = .ok (.iconst 1, 1) := by decide +kernel
theorem dX6_from_40 : decode cX6_from 40 = .ok (.iadd, 1) := by decide +kernel
theorem dX6_from_41 : decode cX6_from 41 = .ok (.aload_n 0, 1) := by decide +kernel
theorem dX6_from_42 : decode cX6_from 42 = .ok (.getfield 7, 3) := by decide +kernel
theorem dX6_from_45 : decode cX6_from 45 = .ok (.iload_n 1, 1) := by decide +kernel
theorem dX6_from_46 : decode cX6_from 46 = .ok (.iaload, 1) := by decide +kernel
theorem dX6_from_47 : decode cX6_from 47 = .ok (.if_icmp .ge 62, 3) := by decide +kernel
theorem dX6_from_50 : decode cX6_from 50 = .ok (.iload 6, 2) := by decide +kernel
theorem dX6_from_52 : decode cX6_from 52 = .ok (.aload_n 0, 1) := by decide +kernel
theorem dX6_from_53 : decode cX6_from 53 = .ok (.getfield 19, 3) := by decide +kernel
theorem dX6_from_56 : decode cX6_from 56 = .ok (.iload_n 3, 1) := by decide +kernel
theorem dX6_from_57 : decode cX6_from 57 = .ok (.iaload, 1) := by decide +kernel
theorem dX6_from_58 : decode cX6_from 58 = .ok (.iconst 3, 1) := by decide +kernel
theorem dX6_from_59 : decode cX6_from 59 = .ok (.isub, 1) := by decide +kernel
theorem dX6_from_60 : decode cX6_from 60 = .ok (.if_icmp .gt 49, 3) := by decide +kernel
theorem dX6_from_63 : decode cX6_from 63 = .ok (.iload 4, 2) := by decide +kernel
theorem dX6_from_65 : decode cX6_from 65 = .ok (.iload 6, 2) := by decide +kernel
theorem dX6_from_67 : decode cX6_from 67 = .ok (.invokestatic 98, 3) := by decide +kernel
theorem dX6_from_70 : decode cX6_from 70 = .ok (.aload_n 0, 1) := by decide +kernel
theorem dX6_from_71 : decode cX6_from 71 = .ok (.getfield 47, 3) := by decide +kernel
theorem dX6_from_74 : decode cX6_from 74 = .ok (.bipush 14, 2) := by decide +kernel
theorem dX6_from_76 : decode cX6_from 76 = .ok (.iload_n 2, 1) := by decide +kernel
theorem dX6_from_77 : decode cX6_from 77 = .ok (.iconst 1, 1) := by decide +kernel
theorem dX6_from_78 : decode cX6_from 78 = .ok (.iadd, 1) := by decide +kernel
theorem dX6_from_79 : decode cX6_from 79 = .ok (.imul, 1) := by decide +kernel
theorem dX6_from_80 : decode cX6_from 80 = .ok (.iload 6, 2) := by decide +kernel
theorem dX6_from_82 : decode cX6_from 82 = .ok (.iadd, 1) := by decide +kernel
theorem dX6_from_83 : decode cX6_from 83 = .ok (.iaload, 1) := by decide +kernel
theorem dX6_from_84 : decode cX6_from 84 = .ok (.iadd, 1) := by decide +kernel
theorem dX6_from_85 : decode cX6_from 85 = .ok (.istore 7, 2) := by decide +kernel
theorem dX6_from_87 : decode cX6_from 87 = .ok (.iload 7, 2) := by decide +kernel
theorem dX6_from_89 : decode cX6_from 89 = .ok (.iload 5, 2) := by decide +kernel
theorem dX6_from_91 : decode cX6_from 91 = .ok (.if_icmp .ge 8, 3) := by decide +kernel
theorem dX6_from_94 : decode cX6_from 94 = .ok (.iload 7, 2) := by decide +kernel
theorem dX6_from_96 : decode cX6_from 96 = .ok (.goto 5, 3) := by decide +kernel
theorem dX6_from_99 : decode cX6_from 99 = .ok (.iload 5, 2) := by decide +kernel
theorem dX6_from_101 : decode cX6_from 101 = .ok (.istore 5, 2) := by decide +kernel
theorem dX6_from_103 : decode cX6_from 103 = .ok (.iinc 6 1, 3) := by decide +kernel
theorem dX6_from_106 : decode cX6_from 106 = .ok (.goto (-68), 3) := by decide +kernel
theorem dX6_from_109 : decode cX6_from 109 = .ok (.iload 5, 2) := by decide +kernel
theorem dX6_from_111 : decode cX6_from 111 = .ok (.ldc 97, 2) := by decide +kernel
theorem dX6_from_113 : decode cX6_from 113 = .ok (.if_icmp .le 8, 3) := by decide +kernel
theorem dX6_from_116 : decode cX6_from 116 = .ok (.ldc 97, 2) := by decide +kernel
theorem dX6_from_118 : decode cX6_from 118 = .ok (.goto 5, 3) := by decide +kernel
theorem dX6_from_121 : decode cX6_from 121 = .ok (.iload 5, 2) := by decide +kernel
theorem dX6_from_123 : decode cX6_from 123 = .ok (.ireturn, 1) := by decide +kernel
theorem dX6_finds_0 : decode cX6_finds 0 = .ok (.aload_n 0, 1) := by decide +kernel
theorem dX6_finds_1 : decode cX6_finds 1 = .ok (.getfield 7, 3) := by decide +kernel
theorem dX6_finds_4 : decode cX6_finds 4 = .ok (.iload_n 1, 1) := by decide +kernel
theorem dX6_finds_5 : decode cX6_finds 5 = .ok (.iaload, 1) := by decide +kernel
theorem dX6_finds_6 : decode cX6_finds 6 = .ok (.iconst 1, 1) := by decide +kernel
theorem dX6_finds_7 : decode cX6_finds 7 = .ok (.isub, 1) := by decide +kernel
theorem dX6_finds_8 : decode cX6_finds 8 = .ok (.istore_n 3, 1) := by decide +kernel
theorem dX6_finds_9 : decode cX6_finds 9 = .ok (.iload_n 3, 1) := by decide +kernel
theorem dX6_finds_10 : decode cX6_finds 10 = .ok (.ifCond .lt 52, 3) := by decide +kernel
theorem dX6_finds_13 : decode cX6_finds 13 = .ok (.iconst 1, 1) := by decide +kernel
theorem dX6_finds_14 : decode cX6_finds 14 = .ok (.istore 4, 2) := by decide +kernel
theorem dX6_finds_16 : decode cX6_finds 16 = .ok (.iload 4, 2) := by decide +kernel
theorem dX6_finds_18 : decode cX6_finds 18 = .ok (.aload_n 0, 1) := by decide +kernel
theorem dX6_finds_19 : decode cX6_finds 19 = .ok (.getfield 19, 3) := by decide +kernel
theorem dX6_finds_22 : decode cX6_finds 22 = .ok (.iload_n 2, 1) := by decide +kernel
theorem dX6_finds_23 : decode cX6_finds 23 = .ok (.iaload, 1) := by decide +kernel
theorem dX6_finds_24 : decode cX6_finds 24 = .ok (.iconst 3, 1) := by decide +kernel
theorem dX6_finds_25 : decode cX6_finds 25 = .ok (.isub, 1) := by decide +kernel
theorem dX6_finds_26 : decode cX6_finds 26 = .ok (.if_icmp .gt 30, 3) := by decide +kernel
theorem dX6_finds_29 : decode cX6_finds 29 = .ok (.aload_n 0, 1) := by decide +kernel
theorem dX6_finds_30 : decode cX6_finds 30 = .ok (.getfield 47, 3) := by decide +kernel
theorem dX6_finds_33 : decode cX6_finds 33 = .ok (.bipush 14, 2) := by decide +kernel
theorem dX6_finds_35 : decode cX6_finds 35 = .ok (.iload_n 3, 1) := by decide +kernel
theorem dX6_finds_36 : decode cX6_finds 36 = .ok (.imul, 1) := by decide +kernel
theorem dX6_finds_37 : decode cX6_finds 37 = .ok (.iload 4, 2) := by decide +kernel
theorem dX6_finds_39 : decode cX6_finds 39 = .ok (.iadd, 1) := by decide +kernel
theorem dX6_finds_40 : decode cX6_finds 40 = .ok (.aload_n 0, 1) := by decide +kernel
theorem dX6_finds_41 : decode cX6_finds 41 = .ok (.iload_n 1, 1) := by decide +kernel
theorem dX6_finds_42 : decode cX6_finds 42 = .ok (.iload_n 3, 1) := by decide +kernel
theorem dX6_finds_43 : decode cX6_finds 43 = .ok (.iload_n 2, 1) := by decide +kernel
theorem dX6_finds_44 : decode cX6_finds 44 = .ok (.iload 4, 2) := by decide +kernel
theorem dX6_finds_46 : decode cX6_finds 46 = .ok (.invokevirtual 102, 3) := by decide +kernel
theorem dX6_finds_49 : decode cX6_finds 49 = .ok (.iastore, 1) := by decide +kernel
theorem dX6_finds_50 : decode cX6_finds 50 = .ok (.iinc 4 1, 3) := by decide +kernel
theorem dX6_finds_53 : decode cX6_finds 53 = .ok (.goto (-37), 3) := by decide +kernel
theorem dX6_finds_56 : decode cX6_finds 56 = .ok (.iinc 3 (-1), 3) := by decide +kernel
theorem dX6_finds_59 : decode cX6_finds 59 = .ok (.goto (-50), 3) := by decide +kernel
theorem dX6_finds_62 : decode cX6_finds 62 = .ok (.ldc 97, 2) := by decide +kernel
theorem dX6_finds_64 : decode cX6_finds 64 = .ok (.istore_n 3, 1) := by decide +kernel
theorem dX6_finds_65 : decode cX6_finds 65 = .ok (.aload_n 0, 1) := by decide +kernel
theorem dX6_finds_66 : decode cX6_finds 66 = .ok (.getfield 19, 3) := by decide +kernel
theorem dX6_finds_69 : decode cX6_finds 69 = .ok (.iload_n 2, 1) := by decide +kernel
theorem dX6_finds_70 : decode cX6_finds 70 = .ok (.iaload, 1) := by decide +kernel
theorem dX6_finds_71 : decode cX6_finds 71 = .ok (.iconst 3, 1) := by decide +kernel
theorem dX6_finds_72 : decode cX6_finds 72 = .ok (.isub, 1) := by decide +kernel
theorem dX6_finds_73 : decode cX6_finds 73 = .ok (.istore 4, 2) := by decide +kernel
theorem dX6_finds_75 : decode cX6_finds 75 = .ok (.iload 4, 2) := by decide +kernel
theorem dX6_finds_77 : decode cX6_finds 77 = .ok (.iconst 1, 1) := by decide +kernel
theorem dX6_finds_78 : decode cX6_finds 78 = .ok (.if_icmp .lt 45, 3) := by decide +kernel
theorem dX6_finds_81 : decode cX6_finds 81 = .ok (.aload_n 0, 1) := by decide +kernel
theorem dX6_finds_82 : decode cX6_finds 82 = .ok (.getfield 7, 3) := by decide +kernel
theorem dX6_finds_85 : decode cX6_finds 85 = .ok (.iload_n 1, 1) := by decide +kernel
theorem dX6_finds_86 : decode cX6_finds 86 = .ok (.iaload, 1) := by decide +kernel
theorem dX6_finds_87 : decode cX6_finds 87 = .ok (.ifCond .le 36, 3) := by decide +kernel
theorem dX6_finds_90 : decode cX6_finds 90 = .ok (.aload_n 0, 1) := by decide +kernel
theorem dX6_finds_91 : decode cX6_finds 91 = .ok (.getfield 47, 3) := by decide +kernel
theorem dX6_finds_94 : decode cX6_finds 94 = .ok (.iload 4, 2) := by decide +kernel
theorem dX6_finds_96 : decode cX6_finds 96 = .ok (.iaload, 1) := by decide +kernel
theorem dX6_finds_97 : decode cX6_finds 97 = .ok (.iload_n 3, 1) := by decide +kernel
theorem dX6_finds_98 : decode cX6_finds 98 = .ok (.if_icmp .gt 19, 3) := by decide +kernel
theorem dX6_finds_101 : decode cX6_finds 101 = .ok (.aload_n 0, 1) := by decide +kernel
theorem dX6_finds_102 : decode cX6_finds 102 = .ok (.getfield 47, 3) := by decide +kernel
theorem dX6_finds_105 : decode cX6_finds 105 = .ok (.iload 4, 2) := by decide +kernel
theorem dX6_finds_107 : decode cX6_finds 107 = .ok (.iaload, 1) := by decide +kernel
theorem dX6_finds_108 : decode cX6_finds 108 = .ok (.istore_n 3, 1) := by decide +kernel
theorem dX6_finds_109 : decode cX6_finds 109 = .ok (.aload_n 0, 1) := by decide +kernel
theorem dX6_finds_110 : decode cX6_finds 110 = .ok (.getfield 50, 3) := by decide +kernel
theorem dX6_finds_113 : decode cX6_finds 113 = .ok (.iconst 0, 1) := by decide +kernel
theorem dX6_finds_114 : decode cX6_finds 114 = .ok (.iload 4, 2) := by decide +kernel
theorem dX6_finds_116 : decode cX6_finds 116 = .ok (.iastore, 1) := by decide +kernel
theorem dX6_finds_117 : decode cX6_finds 117 = .ok (.iinc 4 (-1), 3) := by decide +kernel
theorem dX6_finds_120 : decode cX6_finds 120 = .ok (.goto (-45), 3) := by decide +kernel
theorem dX6_finds_123 : decode cX6_finds 123 = .ok (.iconst 1, 1) := by decide +kernel
theorem dX6_finds_124 : decode cX6_finds 124 = .ok (.istore 4, 2) := by decide +kernel
theorem dX6_finds_126 : decode cX6_finds 126 = .ok (.iload 4, 2) := by decide +kernel
theorem dX6_finds_128 : decode cX6_finds 128 = .ok (.aload_n 0, 1) := by decide +kernel
theorem dX6_finds_129 : decode cX6_finds 129 = .ok (.getfield 7, 3) := by decide +kernel
theorem dX6_finds_132 : decode cX6_finds 132 = .ok (.iload_n 1, 1) := by decide +kernel
theorem dX6_finds_133 : decode cX6_finds 133 = .ok (.iaload, 1) := by decide +kernel
theorem dX6_finds_134 : decode cX6_finds 134 = .ok (.if_icmp .ge 103, 3) := by decide +kernel
theorem dX6_finds_137 : decode cX6_finds 137 = .ok (.iload_n 3, 1) := by decide +kernel
theorem dX6_finds_138 : decode cX6_finds 138 = .ok (.ldc 97, 2) := by decide +kernel
theorem dX6_finds_140 : decode cX6_finds 140 = .ok (.if_icmp .ge 97, 3) := by decide +kernel
theorem dX6_finds_143 : decode cX6_finds 143 = .ok (.aload_n 0, 1) := by decide +kernel
theorem dX6_finds_144 : decode cX6_finds 144 = .ok (.getfield 47, 3) := by decide +kernel
theorem dX6_finds_147 : decode cX6_finds 147 = .ok (.bipush 14, 2) := by decide +kernel
theorem dX6_finds_149 : decode cX6_finds 149 = .ok (.iload 4, 2) := by decide +kernel
theorem dX6_finds_151 : decode cX6_finds 151 = .ok (.iconst 1, 1) := by decide +kernel
theorem dX6_finds_152 : decode cX6_finds 152 = .ok (.isub, 1) := by decide +kernel
theorem dX6_finds_153 : decode cX6_finds 153 = .ok (.imul, 1) := by decide +kernel
theorem dX6_finds_154 : decode cX6_finds 154 = .ok (.aload_n 0, 1) := by decide +kernel
theorem dX6_finds_155 : decode cX6_finds 155 = .ok (.getfield 50, 3) := by decide +kernel
theorem dX6_finds_158 : decode cX6_finds 158 = .ok (.iload 4, 2) := by decide +kernel
theorem dX6_finds_160 : decode cX6_finds 160 = .ok (.iconst 1, 1) := by decide +kernel
theorem dX6_finds_161 : decode cX6_finds 161 = .ok (.isub, 1) := by decide +kernel
theorem dX6_finds_162 : decode cX6_finds 162 = .ok (.iaload, 1) := by decide +kernel
theorem dX6_finds_163 : decode cX6_finds 163 = .ok (.iadd, 1) := by decide +kernel
theorem dX6_finds_164 : decode cX6_finds 164 = .ok (.iaload, 1) := by decide +kernel
theorem dX6_finds_165 : decode cX6_finds 165 = .ok (.istore 5, 2) := by decide +kernel
theorem dX6_finds_167 : decode cX6_finds 167 = .ok (.aload_n 0, 1) := by decide +kernel
theorem dX6_finds_168 : decode cX6_finds 168 = .ok (.getfield 19, 3) := by decide +kernel
theorem dX6_finds_171 : decode cX6_finds 171 = .ok (.iload_n 2, 1) := by decide +kernel
theorem dX6_finds_172 : decode cX6_finds 172 = .ok (.iaload, 1) := by decide +kernel
theorem dX6_finds_173 : decode cX6_finds 173 = .ok (.iconst 3, 1) := by decide +kernel
theorem dX6_finds_174 : decode cX6_finds 174 = .ok (.isub, 1) := by decide +kernel
theorem dX6_finds_175 : decode cX6_finds 175 = .ok (.istore 6, 2) := by decide +kernel
theorem dX6_finds_177 : decode cX6_finds 177 = .ok (.iload 6, 2) := by decide +kernel
theorem dX6_finds_179 : decode cX6_finds 179 = .ok (.iconst 1, 1) := by decide +kernel
theorem dX6_finds_180 : decode cX6_finds 180 = .ok (.if_icmp .lt 51, 3) := by decide +kernel
theorem dX6_finds_183 : decode cX6_finds 183 = .ok (.aload_n 0, 1) := by decide +kernel
theorem dX6_finds_184 : decode cX6_finds 184 = .ok (.getfield 50, 3) := by decide +kernel
theorem dX6_finds_187 : decode cX6_finds 187 = .ok (.iload 4, 2) := by decide +kernel
theorem dX6_finds_189 : decode cX6_finds 189 = .ok (.iconst 1, 1) := by decide +kernel
theorem dX6_finds_190 : decode cX6_finds 190 = .ok (.isub, 1) := by decide +kernel
theorem dX6_finds_191 : decode cX6_finds 191 = .ok (.iaload, 1) := by decide +kernel
theorem dX6_finds_192 : decode cX6_finds 192 = .ok (.iload 6, 2) := by decide +kernel
theorem dX6_finds_194 : decode cX6_finds 194 = .ok (.invokestatic 98, 3) := by decide +kernel
theorem dX6_finds_197 : decode cX6_finds 197 = .ok (.aload_n 0, 1) := by decide +kernel
theorem dX6_finds_198 : decode cX6_finds 198 = .ok (.getfield 47, 3) := by decide +kernel
theorem dX6_finds_201 : decode cX6_finds 201 = .ok (.bipush 14, 2) := by decide +kernel
theorem dX6_finds_203 : decode cX6_finds 203 = .ok (.iload 4, 2) := by decide +kernel
theorem dX6_finds_205 : decode cX6_finds 205 = .ok (.imul, 1) := by decide +kernel
theorem dX6_finds_206 : decode cX6_finds 206 = .ok (.iload 6, 2) := by decide +kernel
theorem dX6_finds_208 : decode cX6_finds 208 = .ok (.iadd, 1) := by decide +kernel
theorem dX6_finds_209 : decode cX6_finds 209 = .ok (.iaload, 1) := by decide +kernel
theorem dX6_finds_210 : decode cX6_finds 210 = .ok (.iadd, 1) := by decide +kernel
theorem dX6_finds_211 : decode cX6_finds 211 = .ok (.iload 5, 2) := by decide +kernel
theorem dX6_finds_213 : decode cX6_finds 213 = .ok (.if_icmp .ne 12, 3) := by decide +kernel
theorem dX6_finds_216 : decode cX6_finds 216 = .ok (.aload_n 0, 1) := by decide +kernel
theorem dX6_finds_217 : decode cX6_finds 217 = .ok (.getfield 50, 3) := by decide +kernel
theorem dX6_finds_220 : decode cX6_finds 220 = .ok (.iload 4, 2) := by decide +kernel
theorem dX6_finds_222 : decode cX6_finds 222 = .ok (.iload 6, 2) := by decide +kernel
theorem dX6_finds_224 : decode cX6_finds 224 = .ok (.iastore, 1) := by decide +kernel
theorem dX6_finds_225 : decode cX6_finds 225 = .ok (.iinc 6 (-1), 3) := by decide +kernel
theorem dX6_finds_228 : decode cX6_finds 228 = .ok (.goto (-51), 3) := by decide +kernel
theorem dX6_finds_231 : decode cX6_finds 231 = .ok (.iinc 4 1, 3) := by decide +kernel
theorem dX6_finds_234 : decode cX6_finds 234 = .ok (.goto (-108), 3) := by decide +kernel
theorem dX6_finds_237 : decode cX6_finds 237 = .ok (.iload_n 3, 1) := by decide +kernel
theorem dX6_finds_238 : decode cX6_finds 238 = .ok (.ldc 97, 2) := by decide +kernel
theorem dX6_finds_240 : decode cX6_finds 240 = .ok (.if_icmp .ge 7, 3) := by decide +kernel
theorem dX6_finds_243 : decode cX6_finds 243 = .ok (.iload_n 3, 1) := by decide +kernel
theorem dX6_finds_244 : decode cX6_finds 244 = .ok (.goto 4, 3) := by decide +kernel
theorem dX6_finds_247 : decode cX6_finds 247 = .ok (.iconst (-1), 1) := by decide +kernel
theorem dX6_finds_248 : decode cX6_finds 248 = .ok (.ireturn, 1) := by decide +kernel
theorem dX6_asks_0 : decode cX6_asks 0 = .ok (.aload_n 0, 1) := by decide +kernel
theorem dX6_asks_1 : decode cX6_asks 1 = .ok (.aload_n 0, 1) := by decide +kernel
theorem dX6_asks_2 : decode cX6_asks 2 = .ok (.iload_n 1, 1) := by decide +kernel
theorem dX6_asks_3 : decode cX6_asks 3 = .ok (.invokevirtual 64, 3) := by decide +kernel
theorem dX6_asks_6 : decode cX6_asks 6 = .ok (.ifCond .eq 15, 3) := by decide +kernel
theorem dX6_asks_9 : decode cX6_asks 9 = .ok (.aload_n 0, 1) := by decide +kernel
theorem dX6_asks_10 : decode cX6_asks 10 = .ok (.iload_n 2, 1) := by decide +kernel
theorem dX6_asks_11 : decode cX6_asks 11 = .ok (.invokevirtual 82, 3) := by decide +kernel
theorem dX6_asks_14 : decode cX6_asks 14 = .ok (.ifCond .eq 7, 3) := by decide +kernel
theorem dX6_asks_17 : decode cX6_asks 17 = .ok (.iconst 1, 1) := by decide +kernel
theorem dX6_asks_18 : decode cX6_asks 18 = .ok (.goto 4, 3) := by decide +kernel
theorem dX6_asks_21 : decode cX6_asks 21 = .ok (.iconst 0, 1) := by decide +kernel
theorem dX6_asks_22 : decode cX6_asks 22 = .ok (.iconst 1, 1) := by decide +kernel
theorem dX6_asks_23 : decode cX6_asks 23 = .ok (.iconst 1, 1) := by decide +kernel
theorem dX6_asks_24 : decode cX6_asks 24 = .ok (.invokevirtual 74, 3) := by decide +kernel
theorem dX6_asks_27 : decode cX6_asks 27 = .ok (.ireturn, 1) := by decide +kernel
theorem dX6_shifts_0 : decode cX6_shifts 0 = .ok (.aload_n 0, 1) := by decide +kernel
theorem dX6_shifts_1 : decode cX6_shifts 1 = .ok (.iload_n 1, 1) := by decide +kernel
theorem dX6_shifts_2 : decode cX6_shifts 2 = .ok (.iload_n 2, 1) := by decide +kernel
theorem dX6_shifts_3 : decode cX6_shifts 3 = .ok (.invokevirtual 106, 3) := by decide +kernel
theorem dX6_shifts_6 : decode cX6_shifts 6 = .ok (.ifCond .eq 12, 3) := by decide +kernel
theorem dX6_shifts_9 : decode cX6_shifts 9 = .ok (.aload_n 0, 1) := by decide +kernel
theorem dX6_shifts_10 : decode cX6_shifts 10 = .ok (.iload_n 1, 1) := by decide +kernel
theorem dX6_shifts_11 : decode cX6_shifts 11 = .ok (.iload_n 2, 1) := by decide +kernel
theorem dX6_shifts_12 : decode cX6_shifts 12 = .ok (.invokevirtual 109, 3) := by decide +kernel
theorem dX6_shifts_15 : decode cX6_shifts 15 = .ok (.goto 4, 3) := by decide +kernel
theorem dX6_shifts_18 : decode cX6_shifts 18 = .ok (.iconst 0, 1) := by decide +kernel
theorem dX6_shifts_19 : decode cX6_shifts 19 = .ok (.ireturn, 1) := by decide +kernel
theorem dX6_shiftsByAll_0 : decode cX6_shiftsByAll 0 = .ok (.aload_n 0, 1) := by decide +kernel
theorem dX6_shiftsByAll_1 : decode cX6_shiftsByAll 1 = .ok (.iload_n 1, 1) := by decide +kernel
theorem dX6_shiftsByAll_2 : decode cX6_shiftsByAll 2 = .ok (.invokevirtual 64, 3) := by decide +kernel
theorem dX6_shiftsByAll_5 : decode cX6_shiftsByAll 5 = .ok (.ifCond .eq 15, 3) := by decide +kernel
theorem dX6_shiftsByAll_8 : decode cX6_shiftsByAll 8 = .ok (.aload_n 0, 1) := by decide +kernel
theorem dX6_shiftsByAll_9 : decode cX6_shiftsByAll 9 = .ok (.iload_n 2, 1) := by decide +kernel
theorem dX6_shiftsByAll_10 : decode cX6_shiftsByAll 10 = .ok (.invokevirtual 82, 3) := by decide +kernel
theorem dX6_shiftsByAll_13 : decode cX6_shiftsByAll 13 = .ok (.ifCond .eq 7, 3) := by decide +kernel
theorem dX6_shiftsByAll_16 : decode cX6_shiftsByAll 16 = .ok (.iconst 1, 1) := by decide +kernel
theorem dX6_shiftsByAll_17 : decode cX6_shiftsByAll 17 = .ok (.goto 4, 3) := by decide +kernel
theorem dX6_shiftsByAll_20 : decode cX6_shiftsByAll 20 = .ok (.iconst 0, 1) := by decide +kernel
theorem dX6_shiftsByAll_21 : decode cX6_shiftsByAll 21 = .ok (.istore_n 3, 1) := by decide +kernel
theorem dX6_shiftsByAll_22 : decode cX6_shiftsByAll 22 = .ok (.aload_n 0, 1) := by decide +kernel
theorem dX6_shiftsByAll_23 : decode cX6_shiftsByAll 23 = .ok (.iload_n 3, 1) := by decide +kernel
theorem dX6_shiftsByAll_24 : decode cX6_shiftsByAll 24 = .ok (.iload_n 3, 1) := by decide +kernel
theorem dX6_shiftsByAll_25 : decode cX6_shiftsByAll 25 = .ok (.ifCond .eq 17, 3) := by decide +kernel
theorem dX6_shiftsByAll_28 : decode cX6_shiftsByAll 28 = .ok (.aload_n 0, 1) := by decide +kernel
theorem dX6_shiftsByAll_29 : decode cX6_shiftsByAll 29 = .ok (.getfield 7, 3) := by decide +kernel
theorem dX6_shiftsByAll_32 : decode cX6_shiftsByAll 32 = .ok (.iload_n 1, 1) := by decide +kernel
theorem dX6_shiftsByAll_33 : decode cX6_shiftsByAll 33 = .ok (.iaload, 1) := by decide +kernel
theorem dX6_shiftsByAll_34 : decode cX6_shiftsByAll 34 = .ok (.iconst 4, 1) := by decide +kernel
theorem dX6_shiftsByAll_35 : decode cX6_shiftsByAll 35 = .ok (.if_icmp .gt 7, 3) := by decide +kernel
theorem dX6_shiftsByAll_38 : decode cX6_shiftsByAll 38 = .ok (.iconst 1, 1) := by decide +kernel
theorem dX6_shiftsByAll_39 : decode cX6_shiftsByAll 39 = .ok (.goto 4, 3) := by decide +kernel
theorem dX6_shiftsByAll_42 : decode cX6_shiftsByAll 42 = .ok (.iconst 0, 1) := by decide +kernel
theorem dX6_shiftsByAll_43 : decode cX6_shiftsByAll 43 = .ok (.iconst 1, 1) := by decide +kernel
theorem dX6_shiftsByAll_44 : decode cX6_shiftsByAll 44 = .ok (.invokevirtual 74, 3) := by decide +kernel
theorem dX6_shiftsByAll_47 : decode cX6_shiftsByAll 47 = .ok (.ifCond .eq 12, 3) := by decide +kernel
theorem dX6_shiftsByAll_50 : decode cX6_shiftsByAll 50 = .ok (.aload_n 0, 1) := by decide +kernel
theorem dX6_shiftsByAll_51 : decode cX6_shiftsByAll 51 = .ok (.iload_n 1, 1) := by decide +kernel
theorem dX6_shiftsByAll_52 : decode cX6_shiftsByAll 52 = .ok (.iload_n 2, 1) := by decide +kernel
theorem dX6_shiftsByAll_53 : decode cX6_shiftsByAll 53 = .ok (.invokevirtual 109, 3) := by decide +kernel
theorem dX6_shiftsByAll_56 : decode cX6_shiftsByAll 56 = .ok (.goto 4, 3) := by decide +kernel
theorem dX6_shiftsByAll_59 : decode cX6_shiftsByAll 59 = .ok (.iconst 0, 1) := by decide +kernel
theorem dX6_shiftsByAll_60 : decode cX6_shiftsByAll 60 = .ok (.ireturn, 1) := by decide +kernel
theorem dX6_hardestOf_0 : decode cX6_hardestOf 0 = .ok (.aload_n 0, 1) := by decide +kernel
theorem dX6_hardestOf_1 : decode cX6_hardestOf 1 = .ok (.iload_n 1, 1) := by decide +kernel
theorem dX6_hardestOf_2 : decode cX6_hardestOf 2 = .ok (.iload_n 2, 1) := by decide +kernel
theorem dX6_hardestOf_3 : decode cX6_hardestOf 3 = .ok (.invokevirtual 109, 3) := by decide +kernel
theorem dX6_hardestOf_6 : decode cX6_hardestOf 6 = .ok (.iconst (-1), 1) := by decide +kernel
theorem dX6_hardestOf_7 : decode cX6_hardestOf 7 = .ok (.if_icmp .ne 5, 3) := by decide +kernel
theorem dX6_hardestOf_10 : decode cX6_hardestOf 10 = .ok (.iconst (-1), 1) := by decide +kernel
theorem dX6_hardestOf_11 : decode cX6_hardestOf 11 = .ok (.ireturn, 1) := by decide +kernel
theorem dX6_hardestOf_12 : decode cX6_hardestOf 12 = .ok (.iconst 0, 1) := by decide +kernel
theorem dX6_hardestOf_13 : decode cX6_hardestOf 13 = .ok (.istore_n 3, 1) := by decide +kernel
theorem dX6_hardestOf_14 : decode cX6_hardestOf 14 = .ok (.iconst 1, 1) := by decide +kernel
theorem dX6_hardestOf_15 : decode cX6_hardestOf 15 = .ok (.istore 4, 2) := by decide +kernel
theorem dX6_hardestOf_17 : decode cX6_hardestOf 17 = .ok (.iload 4, 2) := by decide +kernel
theorem dX6_hardestOf_19 : decode cX6_hardestOf 19 = .ok (.aload_n 0, 1) := by decide +kernel
theorem dX6_hardestOf_20 : decode cX6_hardestOf 20 = .ok (.getfield 7, 3) := by decide +kernel
theorem dX6_hardestOf_23 : decode cX6_hardestOf 23 = .ok (.iload_n 1, 1) := by decide +kernel
theorem dX6_hardestOf_24 : decode cX6_hardestOf 24 = .ok (.iaload, 1) := by decide +kernel
theorem dX6_hardestOf_25 : decode cX6_hardestOf 25 = .ok (.if_icmp .ge 43, 3) := by decide +kernel
theorem dX6_hardestOf_28 : decode cX6_hardestOf 28 = .ok (.aload_n 0, 1) := by decide +kernel
theorem dX6_hardestOf_29 : decode cX6_hardestOf 29 = .ok (.getfield 50, 3) := by decide +kernel
theorem dX6_hardestOf_32 : decode cX6_hardestOf 32 = .ok (.iload 4, 2) := by decide +kernel
theorem dX6_hardestOf_34 : decode cX6_hardestOf 34 = .ok (.iconst 1, 1) := by decide +kernel
theorem dX6_hardestOf_35 : decode cX6_hardestOf 35 = .ok (.isub, 1) := by decide +kernel
theorem dX6_hardestOf_36 : decode cX6_hardestOf 36 = .ok (.iaload, 1) := by decide +kernel
theorem dX6_hardestOf_37 : decode cX6_hardestOf 37 = .ok (.aload_n 0, 1) := by decide +kernel
theorem dX6_hardestOf_38 : decode cX6_hardestOf 38 = .ok (.getfield 50, 3) := by decide +kernel
theorem dX6_hardestOf_41 : decode cX6_hardestOf 41 = .ok (.iload 4, 2) := by decide +kernel
theorem dX6_hardestOf_43 : decode cX6_hardestOf 43 = .ok (.iaload, 1) := by decide +kernel
theorem dX6_hardestOf_44 : decode cX6_hardestOf 44 = .ok (.invokestatic 98, 3) := by decide +kernel
theorem dX6_hardestOf_47 : decode cX6_hardestOf 47 = .ok (.istore 5, 2) := by decide +kernel
theorem dX6_hardestOf_49 : decode cX6_hardestOf 49 = .ok (.iload 5, 2) := by decide +kernel
theorem dX6_hardestOf_51 : decode cX6_hardestOf 51 = .ok (.iload_n 3, 1) := by decide +kernel
theorem dX6_hardestOf_52 : decode cX6_hardestOf 52 = .ok (.if_icmp .le 8, 3) := by decide +kernel
theorem dX6_hardestOf_55 : decode cX6_hardestOf 55 = .ok (.iload 5, 2) := by decide +kernel
theorem dX6_hardestOf_57 : decode cX6_hardestOf 57 = .ok (.goto 4, 3) := by decide +kernel
theorem dX6_hardestOf_60 : decode cX6_hardestOf 60 = .ok (.iload_n 3, 1) := by decide +kernel
theorem dX6_hardestOf_61 : decode cX6_hardestOf 61 = .ok (.istore_n 3, 1) := by decide +kernel
theorem dX6_hardestOf_62 : decode cX6_hardestOf 62 = .ok (.iinc 4 1, 3) := by decide +kernel
theorem dX6_hardestOf_65 : decode cX6_hardestOf 65 = .ok (.goto (-48), 3) := by decide +kernel
theorem dX6_hardestOf_68 : decode cX6_hardestOf 68 = .ok (.iload_n 3, 1) := by decide +kernel
theorem dX6_hardestOf_69 : decode cX6_hardestOf 69 = .ok (.ireturn, 1) := by decide +kernel
theorem dX6_hardest_0 : decode cX6_hardest 0 = .ok (.aload_n 0, 1) := by decide +kernel
theorem dX6_hardest_1 : decode cX6_hardest 1 = .ok (.iload_n 1, 1) := by decide +kernel
theorem dX6_hardest_2 : decode cX6_hardest 2 = .ok (.iload_n 2, 1) := by decide +kernel
theorem dX6_hardest_3 : decode cX6_hardest 3 = .ok (.invokevirtual 106, 3) := by decide +kernel
theorem dX6_hardest_6 : decode cX6_hardest 6 = .ok (.ifCond .eq 12, 3) := by decide +kernel
theorem dX6_hardest_9 : decode cX6_hardest 9 = .ok (.aload_n 0, 1) := by decide +kernel
theorem dX6_hardest_10 : decode cX6_hardest 10 = .ok (.iload_n 1, 1) := by decide +kernel
theorem dX6_hardest_11 : decode cX6_hardest 11 = .ok (.iload_n 2, 1) := by decide +kernel
theorem dX6_hardest_12 : decode cX6_hardest 12 = .ok (.invokevirtual 112, 3) := by decide +kernel
theorem dX6_hardest_15 : decode cX6_hardest 15 = .ok (.goto 4, 3) := by decide +kernel
theorem dX6_hardest_18 : decode cX6_hardest 18 = .ok (.iconst 0, 1) := by decide +kernel
theorem dX6_hardest_19 : decode cX6_hardest 19 = .ok (.ireturn, 1) := by decide +kernel
theorem dX6_asksNote_0 : decode cX6_asksNote 0 = .ok (.aload_n 0, 1) := by decide +kernel
theorem dX6_asksNote_1 : decode cX6_asksNote 1 = .ok (.aload_n 0, 1) := by decide +kernel
theorem dX6_asksNote_2 : decode cX6_asksNote 2 = .ok (.iload_n 1, 1) := by decide +kernel
theorem dX6_asksNote_3 : decode cX6_asksNote 3 = .ok (.iload_n 2, 1) := by decide +kernel
theorem dX6_asksNote_4 : decode cX6_asksNote 4 = .ok (.invokevirtual 78, 3) := by decide +kernel
theorem dX6_asksNote_7 : decode cX6_asksNote 7 = .ok (.ifCond .eq 15, 3) := by decide +kernel
theorem dX6_asksNote_10 : decode cX6_asksNote 10 = .ok (.aload_n 0, 1) := by decide +kernel
theorem dX6_asksNote_11 : decode cX6_asksNote 11 = .ok (.iload_n 3, 1) := by decide +kernel
theorem dX6_asksNote_12 : decode cX6_asksNote 12 = .ok (.invokevirtual 82, 3) := by decide +kernel
theorem dX6_asksNote_15 : decode cX6_asksNote 15 = .ok (.ifCond .eq 7, 3) := by decide +kernel
theorem dX6_asksNote_18 : decode cX6_asksNote 18 = .ok (.iconst 1, 1) := by decide +kernel
theorem dX6_asksNote_19 : decode cX6_asksNote 19 = .ok (.goto 4, 3) := by decide +kernel
theorem dX6_asksNote_22 : decode cX6_asksNote 22 = .ok (.iconst 0, 1) := by decide +kernel
theorem dX6_asksNote_23 : decode cX6_asksNote 23 = .ok (.iconst 1, 1) := by decide +kernel
theorem dX6_asksNote_24 : decode cX6_asksNote 24 = .ok (.iconst 1, 1) := by decide +kernel
theorem dX6_asksNote_25 : decode cX6_asksNote 25 = .ok (.invokevirtual 74, 3) := by decide +kernel
theorem dX6_asksNote_28 : decode cX6_asksNote 28 = .ok (.ireturn, 1) := by decide +kernel
theorem dX6_position_0 : decode cX6_position 0 = .ok (.aload_n 0, 1) := by decide +kernel
theorem dX6_position_1 : decode cX6_position 1 = .ok (.iload_n 1, 1) := by decide +kernel
theorem dX6_position_2 : decode cX6_position 2 = .ok (.iload_n 2, 1) := by decide +kernel
theorem dX6_position_3 : decode cX6_position 3 = .ok (.iload_n 3, 1) := by decide +kernel
theorem dX6_position_4 : decode cX6_position 4 = .ok (.invokevirtual 115, 3) := by decide +kernel
theorem dX6_position_7 : decode cX6_position 7 = .ok (.ifCond .ne 7, 3) := by decide +kernel
theorem dX6_position_10 : decode cX6_position 10 = .ok (.iconst 0, 1) := by decide +kernel
theorem dX6_position_11 : decode cX6_position 11 = .ok (.goto 23, 3) := by decide +kernel
theorem dX6_position_14 : decode cX6_position 14 = .ok (.aload_n 0, 1) := by decide +kernel
theorem dX6_position_15 : decode cX6_position 15 = .ok (.iload_n 1, 1) := by decide +kernel
theorem dX6_position_16 : decode cX6_position 16 = .ok (.iload_n 3, 1) := by decide +kernel
theorem dX6_position_17 : decode cX6_position 17 = .ok (.invokevirtual 109, 3) := by decide +kernel
theorem dX6_position_20 : decode cX6_position 20 = .ok (.iconst (-1), 1) := by decide +kernel
theorem dX6_position_21 : decode cX6_position 21 = .ok (.if_icmp .ne 7, 3) := by decide +kernel
theorem dX6_position_24 : decode cX6_position 24 = .ok (.iconst (-1), 1) := by decide +kernel
theorem dX6_position_25 : decode cX6_position 25 = .ok (.goto 9, 3) := by decide +kernel
theorem dX6_position_28 : decode cX6_position 28 = .ok (.aload_n 0, 1) := by decide +kernel
theorem dX6_position_29 : decode cX6_position 29 = .ok (.getfield 50, 3) := by decide +kernel
theorem dX6_position_32 : decode cX6_position 32 = .ok (.iload_n 2, 1) := by decide +kernel
theorem dX6_position_33 : decode cX6_position 33 = .ok (.iaload, 1) := by decide +kernel
theorem dX6_position_34 : decode cX6_position 34 = .ok (.ireturn, 1) := by decide +kernel
theorem dX6_string_0 : decode cX6_string 0 = .ok (.aload_n 0, 1) := by decide +kernel
theorem dX6_string_1 : decode cX6_string 1 = .ok (.iload_n 1, 1) := by decide +kernel
theorem dX6_string_2 : decode cX6_string 2 = .ok (.iload_n 2, 1) := by decide +kernel
theorem dX6_string_3 : decode cX6_string 3 = .ok (.iload_n 3, 1) := by decide +kernel
theorem dX6_string_4 : decode cX6_string 4 = .ok (.invokevirtual 115, 3) := by decide +kernel
theorem dX6_string_7 : decode cX6_string 7 = .ok (.ifCond .ne 5, 3) := by decide +kernel
theorem dX6_string_10 : decode cX6_string 10 = .ok (.iconst 0, 1) := by decide +kernel
theorem dX6_string_11 : decode cX6_string 11 = .ok (.ireturn, 1) := by decide +kernel
theorem dX6_string_12 : decode cX6_string 12 = .ok (.aload_n 0, 1) := by decide +kernel
theorem dX6_string_13 : decode cX6_string 13 = .ok (.iload_n 1, 1) := by decide +kernel
theorem dX6_string_14 : decode cX6_string 14 = .ok (.iload_n 3, 1) := by decide +kernel
theorem dX6_string_15 : decode cX6_string 15 = .ok (.invokevirtual 109, 3) := by decide +kernel
theorem dX6_string_18 : decode cX6_string 18 = .ok (.iconst (-1), 1) := by decide +kernel
theorem dX6_string_19 : decode cX6_string 19 = .ok (.if_icmp .ne 5, 3) := by decide +kernel
theorem dX6_string_22 : decode cX6_string 22 = .ok (.iconst (-1), 1) := by decide +kernel
theorem dX6_string_23 : decode cX6_string 23 = .ok (.ireturn, 1) := by decide +kernel
theorem dX6_string_24 : decode cX6_string 24 = .ok (.iconst (-1), 1) := by decide +kernel
theorem dX6_string_25 : decode cX6_string 25 = .ok (.istore 4, 2) := by decide +kernel
theorem dX6_string_27 : decode cX6_string 27 = .ok (.iconst 3, 1) := by decide +kernel
theorem dX6_string_28 : decode cX6_string 28 = .ok (.istore 5, 2) := by decide +kernel
theorem dX6_string_30 : decode cX6_string 30 = .ok (.iload 5, 2) := by decide +kernel
theorem dX6_string_32 : decode cX6_string 32 = .ok (.ifCond .lt 36, 3) := by decide +kernel
theorem dX6_string_35 : decode cX6_string 35 = .ok (.aload_n 0, 1) := by decide +kernel
theorem dX6_string_36 : decode cX6_string 36 = .ok (.iload_n 1, 1) := by decide +kernel
theorem dX6_string_37 : decode cX6_string 37 = .ok (.iload_n 2, 1) := by decide +kernel
theorem dX6_string_38 : decode cX6_string 38 = .ok (.iload_n 3, 1) := by decide +kernel
theorem dX6_string_39 : decode cX6_string 39 = .ok (.iload 5, 2) := by decide +kernel
theorem dX6_string_41 : decode cX6_string 41 = .ok (.aload_n 0, 1) := by decide +kernel
theorem dX6_string_42 : decode cX6_string 42 = .ok (.getfield 50, 3) := by decide +kernel
theorem dX6_string_45 : decode cX6_string 45 = .ok (.iload_n 2, 1) := by decide +kernel
theorem dX6_string_46 : decode cX6_string 46 = .ok (.iaload, 1) := by decide +kernel
theorem dX6_string_47 : decode cX6_string 47 = .ok (.invokevirtual 89, 3) := by decide +kernel
theorem dX6_string_50 : decode cX6_string 50 = .ok (.ifCond .eq 8, 3) := by decide +kernel
theorem dX6_string_53 : decode cX6_string 53 = .ok (.iload 5, 2) := by decide +kernel
theorem dX6_string_55 : decode cX6_string 55 = .ok (.goto 5, 3) := by decide +kernel
theorem dX6_string_58 : decode cX6_string 58 = .ok (.iload 4, 2) := by decide +kernel
theorem dX6_string_60 : decode cX6_string 60 = .ok (.istore 4, 2) := by decide +kernel
theorem dX6_string_62 : decode cX6_string 62 = .ok (.iinc 5 (-1), 3) := by decide +kernel
theorem dX6_string_65 : decode cX6_string 65 = .ok (.goto (-35), 3) := by decide +kernel
theorem dX6_string_68 : decode cX6_string 68 = .ok (.iload 4, 2) := by decide +kernel
theorem dX6_string_70 : decode cX6_string 70 = .ok (.ireturn, 1) := by decide +kernel
theorem dX6_isKnown_0 : decode cX6_isKnown 0 = .ok (.aload_n 0, 1) := by decide +kernel
theorem dX6_isKnown_1 : decode cX6_isKnown 1 = .ok (.getfield 28, 3) := by decide +kernel
theorem dX6_isKnown_4 : decode cX6_isKnown 4 = .ok (.iload_n 1, 1) := by decide +kernel
theorem dX6_isKnown_5 : decode cX6_isKnown 5 = .ok (.iaload, 1) := by decide +kernel
theorem dX6_isKnown_6 : decode cX6_isKnown 6 = .ok (.iload_n 2, 1) := by decide +kernel
theorem dX6_isKnown_7 : decode cX6_isKnown 7 = .ok (.ishr, 1) := by decide +kernel
theorem dX6_isKnown_8 : decode cX6_isKnown 8 = .ok (.iconst 1, 1) := by decide +kernel
theorem dX6_isKnown_9 : decode cX6_isKnown 9 = .ok (.iand, 1) := by decide +kernel
theorem dX6_isKnown_10 : decode cX6_isKnown 10 = .ok (.iconst 1, 1) := by decide +kernel
theorem dX6_isKnown_11 : decode cX6_isKnown 11 = .ok (.if_icmp .ne 7, 3) := by decide +kernel
theorem dX6_isKnown_14 : decode cX6_isKnown 14 = .ok (.iconst 1, 1) := by decide +kernel
theorem dX6_isKnown_15 : decode cX6_isKnown 15 = .ok (.goto 4, 3) := by decide +kernel
theorem dX6_isKnown_18 : decode cX6_isKnown 18 = .ok (.iconst 0, 1) := by decide +kernel
theorem dX6_isKnown_19 : decode cX6_isKnown 19 = .ok (.ireturn, 1) := by decide +kernel
theorem dX6_canLearn_0 : decode cX6_canLearn 0 = .ok (.aload_n 0, 1) := by decide +kernel
theorem dX6_canLearn_1 : decode cX6_canLearn 1 = .ok (.iload_n 2, 1) := by decide +kernel
theorem dX6_canLearn_2 : decode cX6_canLearn 2 = .ok (.iload_n 3, 1) := by decide +kernel
theorem dX6_canLearn_3 : decode cX6_canLearn 3 = .ok (.invokevirtual 112, 3) := by decide +kernel
theorem dX6_canLearn_6 : decode cX6_canLearn 6 = .ok (.istore 4, 2) := by decide +kernel
theorem dX6_canLearn_8 : decode cX6_canLearn 8 = .ok (.aload_n 0, 1) := by decide +kernel
theorem dX6_canLearn_9 : decode cX6_canLearn 9 = .ok (.getfield 16, 3) := by decide +kernel
theorem dX6_canLearn_12 : decode cX6_canLearn 12 = .ok (.iload_n 3, 1) := by decide +kernel
theorem dX6_canLearn_13 : decode cX6_canLearn 13 = .ok (.iaload, 1) := by decide +kernel
theorem dX6_canLearn_14 : decode cX6_canLearn 14 = .ok (.iload_n 1, 1) := by decide +kernel
theorem dX6_canLearn_15 : decode cX6_canLearn 15 = .ok (.if_icmp .ne 33, 3) := by decide +kernel
theorem dX6_canLearn_18 : decode cX6_canLearn 18 = .ok (.aload_n 0, 1) := by decide +kernel
theorem dX6_canLearn_19 : decode cX6_canLearn 19 = .ok (.iload_n 1, 1) := by decide +kernel
theorem dX6_canLearn_20 : decode cX6_canLearn 20 = .ok (.iload_n 2, 1) := by decide +kernel
theorem dX6_canLearn_21 : decode cX6_canLearn 21 = .ok (.invokevirtual 118, 3) := by decide +kernel
theorem dX6_canLearn_24 : decode cX6_canLearn 24 = .ok (.ifCond .ne 24, 3) := by decide +kernel
theorem dX6_canLearn_27 : decode cX6_canLearn 27 = .ok (.iload 4, 2) := by decide +kernel
theorem dX6_canLearn_29 : decode cX6_canLearn 29 = .ok (.iconst (-1), 1) := by decide +kernel
theorem dX6_canLearn_30 : decode cX6_canLearn 30 = .ok (.if_icmp .eq 18, 3) := by decide +kernel
theorem dX6_canLearn_33 : decode cX6_canLearn 33 = .ok (.iload 4, 2) := by decide +kernel
theorem dX6_canLearn_35 : decode cX6_canLearn 35 = .ok (.aload_n 0, 1) := by decide +kernel
theorem dX6_canLearn_36 : decode cX6_canLearn 36 = .ok (.getfield 25, 3) := by decide +kernel
theorem dX6_canLearn_39 : decode cX6_canLearn 39 = .ok (.iload_n 1, 1) := by decide +kernel
theorem dX6_canLearn_40 : decode cX6_canLearn 40 = .ok (.iaload, 1) := by decide +kernel
theorem dX6_canLearn_41 : decode cX6_canLearn 41 = .ok (.if_icmp .gt 7, 3) := by decide +kernel
theorem dX6_canLearn_44 : decode cX6_canLearn 44 = .ok (.iconst 1, 1) := by decide +kernel
theorem dX6_canLearn_45 : decode cX6_canLearn 45 = .ok (.goto 4, 3) := by decide +kernel
theorem dX6_canLearn_48 : decode cX6_canLearn 48 = .ok (.iconst 0, 1) := by decide +kernel
theorem dX6_canLearn_49 : decode cX6_canLearn 49 = .ok (.ireturn, 1) := by decide +kernel
theorem dX6_learn_0 : decode cX6_learn 0 = .ok (.aload_n 0, 1) := by decide +kernel
theorem dX6_learn_1 : decode cX6_learn 1 = .ok (.iload_n 2, 1) := by decide +kernel
theorem dX6_learn_2 : decode cX6_learn 2 = .ok (.invokevirtual 64, 3) := by decide +kernel
theorem dX6_learn_5 : decode cX6_learn 5 = .ok (.ifCond .eq 15, 3) := by decide +kernel
end
section
theorem dX6_learn_8 : decode cX6_learn 8 = .ok (.aload_n 0, 1) := by decide +kernel
theorem dX6_learn_9 : decode cX6_learn 9 = .ok (.iload_n 3, 1) := by decide +kernel
theorem dX6_learn_10 : decode cX6_learn 10 = .ok (.invokevirtual 82, 3) := by decide +kernel
theorem dX6_learn_13 : decode cX6_learn 13 = .ok (.ifCond .eq 7, 3) := by decide +kernel
theorem dX6_learn_16 : decode cX6_learn 16 = .ok (.iconst 1, 1) := by decide +kernel
theorem dX6_learn_17 : decode cX6_learn 17 = .ok (.goto 4, 3) := by decide +kernel
theorem dX6_learn_20 : decode cX6_learn 20 = .ok (.iconst 0, 1) := by decide +kernel
theorem dX6_learn_21 : decode cX6_learn 21 = .ok (.istore 4, 2) := by decide +kernel
theorem dX6_learn_23 : decode cX6_learn 23 = .ok (.iload_n 1, 1) := by decide +kernel
theorem dX6_learn_24 : decode cX6_learn 24 = .ok (.invokestatic 121, 3) := by decide +kernel
theorem dX6_learn_27 : decode cX6_learn 27 = .ok (.istore 5, 2) := by decide +kernel
theorem dX6_learn_29 : decode cX6_learn 29 = .ok (.aload_n 0, 1) := by decide +kernel
theorem dX6_learn_30 : decode cX6_learn 30 = .ok (.iload 4, 2) := by decide +kernel
theorem dX6_learn_32 : decode cX6_learn 32 = .ok (.iload 5, 2) := by decide +kernel
theorem dX6_learn_34 : decode cX6_learn 34 = .ok (.iload 4, 2) := by decide +kernel
theorem dX6_learn_36 : decode cX6_learn 36 = .ok (.ifCond .eq 22, 3) := by decide +kernel
theorem dX6_learn_39 : decode cX6_learn 39 = .ok (.iload 5, 2) := by decide +kernel
theorem dX6_learn_41 : decode cX6_learn 41 = .ok (.ifCond .eq 17, 3) := by decide +kernel
theorem dX6_learn_44 : decode cX6_learn 44 = .ok (.aload_n 0, 1) := by decide +kernel
theorem dX6_learn_45 : decode cX6_learn 45 = .ok (.iload_n 1, 1) := by decide +kernel
theorem dX6_learn_46 : decode cX6_learn 46 = .ok (.iload_n 2, 1) := by decide +kernel
theorem dX6_learn_47 : decode cX6_learn 47 = .ok (.iload_n 3, 1) := by decide +kernel
theorem dX6_learn_48 : decode cX6_learn 48 = .ok (.invokevirtual 124, 3) := by decide +kernel
theorem dX6_learn_51 : decode cX6_learn 51 = .ok (.ifCond .eq 7, 3) := by decide +kernel
theorem dX6_learn_54 : decode cX6_learn 54 = .ok (.iconst 1, 1) := by decide +kernel
theorem dX6_learn_55 : decode cX6_learn 55 = .ok (.goto 4, 3) := by decide +kernel
theorem dX6_learn_58 : decode cX6_learn 58 = .ok (.iconst 0, 1) := by decide +kernel
theorem dX6_learn_59 : decode cX6_learn 59 = .ok (.invokevirtual 74, 3) := by decide +kernel
theorem dX6_learn_62 : decode cX6_learn 62 = .ok (.ifCond .ne 5, 3) := by decide +kernel
theorem dX6_learn_65 : decode cX6_learn 65 = .ok (.iconst 0, 1) := by decide +kernel
theorem dX6_learn_66 : decode cX6_learn 66 = .ok (.ireturn, 1) := by decide +kernel
theorem dX6_learn_67 : decode cX6_learn 67 = .ok (.aload_n 0, 1) := by decide +kernel
theorem dX6_learn_68 : decode cX6_learn 68 = .ok (.getfield 25, 3) := by decide +kernel
theorem dX6_learn_71 : decode cX6_learn 71 = .ok (.iload_n 1, 1) := by decide +kernel
theorem dX6_learn_72 : decode cX6_learn 72 = .ok (.dup2, 1) := by decide +kernel
theorem dX6_learn_73 : decode cX6_learn 73 = .ok (.iaload, 1) := by decide +kernel
theorem dX6_learn_74 : decode cX6_learn 74 = .ok (.aload_n 0, 1) := by decide +kernel
theorem dX6_learn_75 : decode cX6_learn 75 = .ok (.iload_n 2, 1) := by decide +kernel
theorem dX6_learn_76 : decode cX6_learn 76 = .ok (.iload_n 3, 1) := by decide +kernel
theorem dX6_learn_77 : decode cX6_learn 77 = .ok (.invokevirtual 112, 3) := by decide +kernel
theorem dX6_learn_80 : decode cX6_learn 80 = .ok (.aload_n 0, 1) := by decide +kernel
theorem dX6_learn_81 : decode cX6_learn 81 = .ok (.getfield 25, 3) := by decide +kernel
theorem dX6_learn_84 : decode cX6_learn 84 = .ok (.iload_n 1, 1) := by decide +kernel
theorem dX6_learn_85 : decode cX6_learn 85 = .ok (.iaload, 1) := by decide +kernel
theorem dX6_learn_86 : decode cX6_learn 86 = .ok (.if_icmp .ne 7, 3) := by decide +kernel
theorem dX6_learn_89 : decode cX6_learn 89 = .ok (.iconst 1, 1) := by decide +kernel
theorem dX6_learn_90 : decode cX6_learn 90 = .ok (.goto 4, 3) := by decide +kernel
theorem dX6_learn_93 : decode cX6_learn 93 = .ok (.iconst 0, 1) := by decide +kernel
theorem dX6_learn_94 : decode cX6_learn 94 = .ok (.iadd, 1) := by decide +kernel
theorem dX6_learn_95 : decode cX6_learn 95 = .ok (.iastore, 1) := by decide +kernel
theorem dX6_learn_96 : decode cX6_learn 96 = .ok (.aload_n 0, 1) := by decide +kernel
theorem dX6_learn_97 : decode cX6_learn 97 = .ok (.getfield 28, 3) := by decide +kernel
theorem dX6_learn_100 : decode cX6_learn 100 = .ok (.iload_n 1, 1) := by decide +kernel
theorem dX6_learn_101 : decode cX6_learn 101 = .ok (.dup2, 1) := by decide +kernel
theorem dX6_learn_102 : decode cX6_learn 102 = .ok (.iaload, 1) := by decide +kernel
theorem dX6_learn_103 : decode cX6_learn 103 = .ok (.iconst 1, 1) := by decide +kernel
theorem dX6_learn_104 : decode cX6_learn 104 = .ok (.iload_n 2, 1) := by decide +kernel
theorem dX6_learn_105 : decode cX6_learn 105 = .ok (.ishl, 1) := by decide +kernel
theorem dX6_learn_106 : decode cX6_learn 106 = .ok (.ior, 1) := by decide +kernel
theorem dX6_learn_107 : decode cX6_learn 107 = .ok (.iastore, 1) := by decide +kernel
theorem dX6_learn_108 : decode cX6_learn 108 = .ok (.aload_n 0, 1) := by decide +kernel
theorem dX6_learn_109 : decode cX6_learn 109 = .ok (.getfield 25, 3) := by decide +kernel
theorem dX6_learn_112 : decode cX6_learn 112 = .ok (.iload_n 1, 1) := by decide +kernel
theorem dX6_learn_113 : decode cX6_learn 113 = .ok (.iaload, 1) := by decide +kernel
theorem dX6_learn_114 : decode cX6_learn 114 = .ok (.ireturn, 1) := by decide +kernel
theorem dX6_level_0 : decode cX6_level 0 = .ok (.aload_n 0, 1) := by decide +kernel
theorem dX6_level_1 : decode cX6_level 1 = .ok (.iload_n 1, 1) := by decide +kernel
theorem dX6_level_2 : decode cX6_level 2 = .ok (.invokestatic 121, 3) := by decide +kernel
theorem dX6_level_5 : decode cX6_level 5 = .ok (.iconst 1, 1) := by decide +kernel
theorem dX6_level_6 : decode cX6_level 6 = .ok (.iconst 1, 1) := by decide +kernel
theorem dX6_level_7 : decode cX6_level 7 = .ok (.invokevirtual 74, 3) := by decide +kernel
theorem dX6_level_10 : decode cX6_level 10 = .ok (.ifCond .eq 12, 3) := by decide +kernel
theorem dX6_level_13 : decode cX6_level 13 = .ok (.aload_n 0, 1) := by decide +kernel
theorem dX6_level_14 : decode cX6_level 14 = .ok (.getfield 25, 3) := by decide +kernel
theorem dX6_level_17 : decode cX6_level 17 = .ok (.iload_n 1, 1) := by decide +kernel
theorem dX6_level_18 : decode cX6_level 18 = .ok (.iaload, 1) := by decide +kernel
theorem dX6_level_19 : decode cX6_level 19 = .ok (.goto 4, 3) := by decide +kernel
theorem dX6_level_22 : decode cX6_level 22 = .ok (.iconst 0, 1) := by decide +kernel
theorem dX6_level_23 : decode cX6_level 23 = .ok (.ireturn, 1) := by decide +kernel
theorem dX6_known_0 : decode cX6_known 0 = .ok (.aload_n 0, 1) := by decide +kernel
theorem dX6_known_1 : decode cX6_known 1 = .ok (.iload_n 1, 1) := by decide +kernel
theorem dX6_known_2 : decode cX6_known 2 = .ok (.invokestatic 121, 3) := by decide +kernel
theorem dX6_known_5 : decode cX6_known 5 = .ok (.iconst 1, 1) := by decide +kernel
theorem dX6_known_6 : decode cX6_known 6 = .ok (.iconst 1, 1) := by decide +kernel
theorem dX6_known_7 : decode cX6_known 7 = .ok (.invokevirtual 74, 3) := by decide +kernel
theorem dX6_known_10 : decode cX6_known 10 = .ok (.ifCond .eq 12, 3) := by decide +kernel
theorem dX6_known_13 : decode cX6_known 13 = .ok (.aload_n 0, 1) := by decide +kernel
theorem dX6_known_14 : decode cX6_known 14 = .ok (.getfield 28, 3) := by decide +kernel
theorem dX6_known_17 : decode cX6_known 17 = .ok (.iload_n 1, 1) := by decide +kernel
theorem dX6_known_18 : decode cX6_known 18 = .ok (.iaload, 1) := by decide +kernel
theorem dX6_known_19 : decode cX6_known 19 = .ok (.goto 4, 3) := by decide +kernel
theorem dX6_known_22 : decode cX6_known 22 = .ok (.iconst 0, 1) := by decide +kernel
theorem dX6_known_23 : decode cX6_known 23 = .ok (.ireturn, 1) := by decide +kernel
theorem dX6_next_0 : decode cX6_next 0 = .ok (.aload_n 0, 1) := by decide +kernel
theorem dX6_next_1 : decode cX6_next 1 = .ok (.iload_n 1, 1) := by decide +kernel
theorem dX6_next_2 : decode cX6_next 2 = .ok (.invokestatic 121, 3) := by decide +kernel
theorem dX6_next_5 : decode cX6_next 5 = .ok (.iconst 1, 1) := by decide +kernel
theorem dX6_next_6 : decode cX6_next 6 = .ok (.iconst 1, 1) := by decide +kernel
theorem dX6_next_7 : decode cX6_next 7 = .ok (.invokevirtual 74, 3) := by decide +kernel
theorem dX6_next_10 : decode cX6_next 10 = .ok (.ifCond .ne 5, 3) := by decide +kernel
theorem dX6_next_13 : decode cX6_next 13 = .ok (.iconst 0, 1) := by decide +kernel
theorem dX6_next_14 : decode cX6_next 14 = .ok (.ireturn, 1) := by decide +kernel
theorem dX6_next_15 : decode cX6_next 15 = .ok (.iconst (-1), 1) := by decide +kernel
theorem dX6_next_16 : decode cX6_next 16 = .ok (.istore_n 2, 1) := by decide +kernel
theorem dX6_next_17 : decode cX6_next 17 = .ok (.ldc 97, 2) := by decide +kernel
theorem dX6_next_19 : decode cX6_next 19 = .ok (.istore_n 3, 1) := by decide +kernel
theorem dX6_next_20 : decode cX6_next 20 = .ok (.iconst 0, 1) := by decide +kernel
theorem dX6_next_21 : decode cX6_next 21 = .ok (.istore 4, 2) := by decide +kernel
theorem dX6_next_23 : decode cX6_next 23 = .ok (.iload 4, 2) := by decide +kernel
theorem dX6_next_25 : decode cX6_next 25 = .ok (.aload_n 0, 1) := by decide +kernel
theorem dX6_next_26 : decode cX6_next 26 = .ok (.getfield 57, 3) := by decide +kernel
theorem dX6_next_29 : decode cX6_next 29 = .ok (.if_icmp .ge 63, 3) := by decide +kernel
theorem dX6_next_32 : decode cX6_next 32 = .ok (.iconst 0, 1) := by decide +kernel
theorem dX6_next_33 : decode cX6_next 33 = .ok (.istore 5, 2) := by decide +kernel
theorem dX6_next_35 : decode cX6_next 35 = .ok (.iload 5, 2) := by decide +kernel
theorem dX6_next_37 : decode cX6_next 37 = .ok (.aload_n 0, 1) := by decide +kernel
theorem dX6_next_38 : decode cX6_next 38 = .ok (.getfield 68, 3) := by decide +kernel
theorem dX6_next_41 : decode cX6_next 41 = .ok (.if_icmp .ge 45, 3) := by decide +kernel
theorem dX6_next_44 : decode cX6_next 44 = .ok (.aload_n 0, 1) := by decide +kernel
theorem dX6_next_45 : decode cX6_next 45 = .ok (.iload_n 1, 1) := by decide +kernel
theorem dX6_next_46 : decode cX6_next 46 = .ok (.iload 4, 2) := by decide +kernel
theorem dX6_next_48 : decode cX6_next 48 = .ok (.iload 5, 2) := by decide +kernel
theorem dX6_next_50 : decode cX6_next 50 = .ok (.invokevirtual 124, 3) := by decide +kernel
theorem dX6_next_53 : decode cX6_next 53 = .ok (.ifCond .eq 27, 3) := by decide +kernel
theorem dX6_next_56 : decode cX6_next 56 = .ok (.aload_n 0, 1) := by decide +kernel
theorem dX6_next_57 : decode cX6_next 57 = .ok (.iload 4, 2) := by decide +kernel
theorem dX6_next_59 : decode cX6_next 59 = .ok (.iload 5, 2) := by decide +kernel
theorem dX6_next_61 : decode cX6_next 61 = .ok (.invokevirtual 112, 3) := by decide +kernel
theorem dX6_next_64 : decode cX6_next 64 = .ok (.iload_n 3, 1) := by decide +kernel
theorem dX6_next_65 : decode cX6_next 65 = .ok (.if_icmp .ge 15, 3) := by decide +kernel
theorem dX6_next_68 : decode cX6_next 68 = .ok (.aload_n 0, 1) := by decide +kernel
theorem dX6_next_69 : decode cX6_next 69 = .ok (.iload 4, 2) := by decide +kernel
theorem dX6_next_71 : decode cX6_next 71 = .ok (.iload 5, 2) := by decide +kernel
theorem dX6_next_73 : decode cX6_next 73 = .ok (.invokevirtual 112, 3) := by decide +kernel
theorem dX6_next_76 : decode cX6_next 76 = .ok (.istore_n 3, 1) := by decide +kernel
theorem dX6_next_77 : decode cX6_next 77 = .ok (.iload 4, 2) := by decide +kernel
theorem dX6_next_79 : decode cX6_next 79 = .ok (.istore_n 2, 1) := by decide +kernel
theorem dX6_next_80 : decode cX6_next 80 = .ok (.iinc 5 1, 3) := by decide +kernel
theorem dX6_next_83 : decode cX6_next 83 = .ok (.goto (-48), 3) := by decide +kernel
theorem dX6_next_86 : decode cX6_next 86 = .ok (.iinc 4 1, 3) := by decide +kernel
theorem dX6_next_89 : decode cX6_next 89 = .ok (.goto (-66), 3) := by decide +kernel
theorem dX6_next_92 : decode cX6_next 92 = .ok (.iload_n 2, 1) := by decide +kernel
theorem dX6_next_93 : decode cX6_next 93 = .ok (.ireturn, 1) := by decide +kernel
theorem dX6_addWood_0 : decode cX6_addWood 0 = .ok (.aload_n 0, 1) := by decide +kernel
theorem dX6_addWood_1 : decode cX6_addWood 1 = .ok (.iload_n 1, 1) := by decide +kernel
theorem dX6_addWood_2 : decode cX6_addWood 2 = .ok (.iconst 0, 1) := by decide +kernel
theorem dX6_addWood_3 : decode cX6_addWood 3 = .ok (.iconst 3, 1) := by decide +kernel
theorem dX6_addWood_4 : decode cX6_addWood 4 = .ok (.invokestatic 60, 3) := by decide +kernel
theorem dX6_addWood_7 : decode cX6_addWood 7 = .ok (.ifCond .eq 17, 3) := by decide +kernel
theorem dX6_addWood_10 : decode cX6_addWood 10 = .ok (.iload_n 2, 1) := by decide +kernel
theorem dX6_addWood_11 : decode cX6_addWood 11 = .ok (.iconst 1, 1) := by decide +kernel
theorem dX6_addWood_12 : decode cX6_addWood 12 = .ok (.bipush 20, 2) := by decide +kernel
theorem dX6_addWood_14 : decode cX6_addWood 14 = .ok (.invokestatic 60, 3) := by decide +kernel
theorem dX6_addWood_17 : decode cX6_addWood 17 = .ok (.ifCond .eq 7, 3) := by decide +kernel
theorem dX6_addWood_20 : decode cX6_addWood 20 = .ok (.iconst 1, 1) := by decide +kernel
theorem dX6_addWood_21 : decode cX6_addWood 21 = .ok (.goto 4, 3) := by decide +kernel
theorem dX6_addWood_24 : decode cX6_addWood 24 = .ok (.iconst 0, 1) := by decide +kernel
theorem dX6_addWood_25 : decode cX6_addWood 25 = .ok (.iconst 1, 1) := by decide +kernel
theorem dX6_addWood_26 : decode cX6_addWood 26 = .ok (.iconst 1, 1) := by decide +kernel
theorem dX6_addWood_27 : decode cX6_addWood 27 = .ok (.invokevirtual 74, 3) := by decide +kernel
theorem dX6_addWood_30 : decode cX6_addWood 30 = .ok (.ifCond .ne 5, 3) := by decide +kernel
theorem dX6_addWood_33 : decode cX6_addWood 33 = .ok (.iconst 0, 1) := by decide +kernel
theorem dX6_addWood_34 : decode cX6_addWood 34 = .ok (.ireturn, 1) := by decide +kernel
theorem dX6_addWood_35 : decode cX6_addWood 35 = .ok (.aload_n 0, 1) := by decide +kernel
theorem dX6_addWood_36 : decode cX6_addWood 36 = .ok (.getfield 31, 3) := by decide +kernel
theorem dX6_addWood_39 : decode cX6_addWood 39 = .ok (.iload_n 1, 1) := by decide +kernel
theorem dX6_addWood_40 : decode cX6_addWood 40 = .ok (.dup2, 1) := by decide +kernel
theorem dX6_addWood_41 : decode cX6_addWood 41 = .ok (.iaload, 1) := by decide +kernel
theorem dX6_addWood_42 : decode cX6_addWood 42 = .ok (.iload_n 2, 1) := by decide +kernel
theorem dX6_addWood_43 : decode cX6_addWood 43 = .ok (.iadd, 1) := by decide +kernel
theorem dX6_addWood_44 : decode cX6_addWood 44 = .ok (.iastore, 1) := by decide +kernel
theorem dX6_addWood_45 : decode cX6_addWood 45 = .ok (.aload_n 0, 1) := by decide +kernel
theorem dX6_addWood_46 : decode cX6_addWood 46 = .ok (.getfield 31, 3) := by decide +kernel
theorem dX6_addWood_49 : decode cX6_addWood 49 = .ok (.iload_n 1, 1) := by decide +kernel
theorem dX6_addWood_50 : decode cX6_addWood 50 = .ok (.iaload, 1) := by decide +kernel
theorem dX6_addWood_51 : decode cX6_addWood 51 = .ok (.ireturn, 1) := by decide +kernel
theorem dX6_atWork_0 : decode cX6_atWork 0 = .ok (.iconst 0, 1) := by decide +kernel
theorem dX6_atWork_1 : decode cX6_atWork 1 = .ok (.istore_n 1, 1) := by decide +kernel
theorem dX6_atWork_2 : decode cX6_atWork 2 = .ok (.iconst 0, 1) := by decide +kernel
theorem dX6_atWork_3 : decode cX6_atWork 3 = .ok (.istore_n 2, 1) := by decide +kernel
theorem dX6_atWork_4 : decode cX6_atWork 4 = .ok (.iload_n 2, 1) := by decide +kernel
theorem dX6_atWork_5 : decode cX6_atWork 5 = .ok (.aload_n 0, 1) := by decide +kernel
theorem dX6_atWork_6 : decode cX6_atWork 6 = .ok (.getfield 71, 3) := by decide +kernel
theorem dX6_atWork_9 : decode cX6_atWork 9 = .ok (.if_icmp .ge 39, 3) := by decide +kernel
theorem dX6_atWork_12 : decode cX6_atWork 12 = .ok (.iload_n 1, 1) := by decide +kernel
theorem dX6_atWork_13 : decode cX6_atWork 13 = .ok (.aload_n 0, 1) := by decide +kernel
theorem dX6_atWork_14 : decode cX6_atWork 14 = .ok (.getfield 43, 3) := by decide +kernel
theorem dX6_atWork_17 : decode cX6_atWork 17 = .ok (.iload_n 2, 1) := by decide +kernel
theorem dX6_atWork_18 : decode cX6_atWork 18 = .ok (.baload, 1) := by decide +kernel
theorem dX6_atWork_19 : decode cX6_atWork 19 = .ok (.ifCond .ne 20, 3) := by decide +kernel
theorem dX6_atWork_22 : decode cX6_atWork 22 = .ok (.aload_n 0, 1) := by decide +kernel
theorem dX6_atWork_23 : decode cX6_atWork 23 = .ok (.getfield 127, 3) := by decide +kernel
theorem dX6_atWork_26 : decode cX6_atWork 26 = .ok (.aload_n 0, 1) := by decide +kernel
theorem dX6_atWork_27 : decode cX6_atWork 27 = .ok (.getfield 40, 3) := by decide +kernel
theorem dX6_atWork_30 : decode cX6_atWork 30 = .ok (.iload_n 2, 1) := by decide +kernel
theorem dX6_atWork_31 : decode cX6_atWork 31 = .ok (.iaload, 1) := by decide +kernel
theorem dX6_atWork_32 : decode cX6_atWork 32 = .ok (.if_icmp .ge 7, 3) := by decide +kernel
theorem dX6_atWork_35 : decode cX6_atWork 35 = .ok (.iconst 1, 1) := by decide +kernel
theorem dX6_atWork_36 : decode cX6_atWork 36 = .ok (.goto 4, 3) := by decide +kernel
theorem dX6_atWork_39 : decode cX6_atWork 39 = .ok (.iconst 0, 1) := by decide +kernel
theorem dX6_atWork_40 : decode cX6_atWork 40 = .ok (.iadd, 1) := by decide +kernel
theorem dX6_atWork_41 : decode cX6_atWork 41 = .ok (.istore_n 1, 1) := by decide +kernel
theorem dX6_atWork_42 : decode cX6_atWork 42 = .ok (.iinc 2 1, 3) := by decide +kernel
theorem dX6_atWork_45 : decode cX6_atWork 45 = .ok (.goto (-41), 3) := by decide +kernel
theorem dX6_atWork_48 : decode cX6_atWork 48 = .ok (.iload_n 1, 1) := by decide +kernel
theorem dX6_atWork_49 : decode cX6_atWork 49 = .ok (.ireturn, 1) := by decide +kernel
theorem dX6_order_0 : decode cX6_order 0 = .ok (.iload_n 1, 1) := by decide +kernel
theorem dX6_order_1 : decode cX6_order 1 = .ok (.invokestatic 121, 3) := by decide +kernel
theorem dX6_order_4 : decode cX6_order 4 = .ok (.ifCond .eq 26, 3) := by decide +kernel
theorem dX6_order_7 : decode cX6_order 7 = .ok (.iload_n 2, 1) := by decide +kernel
theorem dX6_order_8 : decode cX6_order 8 = .ok (.iconst 0, 1) := by decide +kernel
theorem dX6_order_9 : decode cX6_order 9 = .ok (.iconst 3, 1) := by decide +kernel
theorem dX6_order_10 : decode cX6_order 10 = .ok (.invokestatic 60, 3) := by decide +kernel
theorem dX6_order_13 : decode cX6_order 13 = .ok (.ifCond .eq 17, 3) := by decide +kernel
theorem dX6_order_16 : decode cX6_order 16 = .ok (.iload_n 3, 1) := by decide +kernel
theorem dX6_order_17 : decode cX6_order 17 = .ok (.iconst 4, 1) := by decide +kernel
theorem dX6_order_18 : decode cX6_order 18 = .ok (.bipush 16, 2) := by decide +kernel
theorem dX6_order_20 : decode cX6_order 20 = .ok (.invokestatic 60, 3) := by decide +kernel
theorem dX6_order_23 : decode cX6_order 23 = .ok (.ifCond .eq 7, 3) := by decide +kernel
theorem dX6_order_26 : decode cX6_order 26 = .ok (.iconst 1, 1) := by decide +kernel
theorem dX6_order_27 : decode cX6_order 27 = .ok (.goto 4, 3) := by decide +kernel
theorem dX6_order_30 : decode cX6_order 30 = .ok (.iconst 0, 1) := by decide +kernel
theorem dX6_order_31 : decode cX6_order 31 = .ok (.istore 4, 2) := by decide +kernel
theorem dX6_order_33 : decode cX6_order 33 = .ok (.aload_n 0, 1) := by decide +kernel
theorem dX6_order_34 : decode cX6_order 34 = .ok (.iload 4, 2) := by decide +kernel
theorem dX6_order_36 : decode cX6_order 36 = .ok (.iload 4, 2) := by decide +kernel
theorem dX6_order_38 : decode cX6_order 38 = .ok (.ifCond .eq 34, 3) := by decide +kernel
theorem dX6_order_41 : decode cX6_order 41 = .ok (.aload_n 0, 1) := by decide +kernel
theorem dX6_order_42 : decode cX6_order 42 = .ok (.getfield 31, 3) := by decide +kernel
theorem dX6_order_45 : decode cX6_order 45 = .ok (.iload_n 2, 1) := by decide +kernel
theorem dX6_order_46 : decode cX6_order 46 = .ok (.iaload, 1) := by decide +kernel
theorem dX6_order_47 : decode cX6_order 47 = .ok (.iconst 3, 1) := by decide +kernel
theorem dX6_order_48 : decode cX6_order 48 = .ok (.if_icmp .lt 24, 3) := by decide +kernel
theorem dX6_order_51 : decode cX6_order 51 = .ok (.aload_n 0, 1) := by decide +kernel
theorem dX6_order_52 : decode cX6_order 52 = .ok (.invokevirtual 130, 3) := by decide +kernel
theorem dX6_order_55 : decode cX6_order 55 = .ok (.iconst 2, 1) := by decide +kernel
theorem dX6_order_56 : decode cX6_order 56 = .ok (.if_icmp .ge 16, 3) := by decide +kernel
theorem dX6_order_59 : decode cX6_order 59 = .ok (.aload_n 0, 1) := by decide +kernel
theorem dX6_order_60 : decode cX6_order 60 = .ok (.getfield 71, 3) := by decide +kernel
theorem dX6_order_63 : decode cX6_order 63 = .ok (.bipush 20, 2) := by decide +kernel
theorem dX6_order_65 : decode cX6_order 65 = .ok (.if_icmp .ge 7, 3) := by decide +kernel
theorem dX6_order_68 : decode cX6_order 68 = .ok (.iconst 1, 1) := by decide +kernel
theorem dX6_order_69 : decode cX6_order 69 = .ok (.goto 4, 3) := by decide +kernel
theorem dX6_order_72 : decode cX6_order 72 = .ok (.iconst 0, 1) := by decide +kernel
theorem dX6_order_73 : decode cX6_order 73 = .ok (.iconst 1, 1) := by decide +kernel
theorem dX6_order_74 : decode cX6_order 74 = .ok (.invokevirtual 74, 3) := by decide +kernel
theorem dX6_order_77 : decode cX6_order 77 = .ok (.ifCond .ne 5, 3) := by decide +kernel
theorem dX6_order_80 : decode cX6_order 80 = .ok (.iconst 0, 1) := by decide +kernel
theorem dX6_order_81 : decode cX6_order 81 = .ok (.ireturn, 1) := by decide +kernel
theorem dX6_order_82 : decode cX6_order 82 = .ok (.aload_n 0, 1) := by decide +kernel
theorem dX6_order_83 : decode cX6_order 83 = .ok (.getfield 31, 3) := by decide +kernel
theorem dX6_order_86 : decode cX6_order 86 = .ok (.iload_n 2, 1) := by decide +kernel
theorem dX6_order_87 : decode cX6_order 87 = .ok (.dup2, 1) := by decide +kernel
theorem dX6_order_88 : decode cX6_order 88 = .ok (.iaload, 1) := by decide +kernel
theorem dX6_order_89 : decode cX6_order 89 = .ok (.iconst 3, 1) := by decide +kernel
theorem dX6_order_90 : decode cX6_order 90 = .ok (.isub, 1) := by decide +kernel
theorem dX6_order_91 : decode cX6_order 91 = .ok (.iastore, 1) := by decide +kernel
theorem dX6_order_92 : decode cX6_order 92 = .ok (.aload_n 0, 1) := by decide +kernel
theorem dX6_order_93 : decode cX6_order 93 = .ok (.getfield 34, 3) := by decide +kernel
theorem dX6_order_96 : decode cX6_order 96 = .ok (.aload_n 0, 1) := by decide +kernel
theorem dX6_order_97 : decode cX6_order 97 = .ok (.getfield 71, 3) := by decide +kernel
theorem dX6_order_100 : decode cX6_order 100 = .ok (.iload_n 1, 1) := by decide +kernel
theorem dX6_order_101 : decode cX6_order 101 = .ok (.iastore, 1) := by decide +kernel
theorem dX6_order_102 : decode cX6_order 102 = .ok (.aload_n 0, 1) := by decide +kernel
theorem dX6_order_103 : decode cX6_order 103 = .ok (.getfield 37, 3) := by decide +kernel
theorem dX6_order_106 : decode cX6_order 106 = .ok (.aload_n 0, 1) := by decide +kernel
theorem dX6_order_107 : decode cX6_order 107 = .ok (.getfield 71, 3) := by decide +kernel
theorem dX6_order_110 : decode cX6_order 110 = .ok (.iload_n 3, 1) := by decide +kernel
theorem dX6_order_111 : decode cX6_order 111 = .ok (.iastore, 1) := by decide +kernel
theorem dX6_order_112 : decode cX6_order 112 = .ok (.aload_n 0, 1) := by decide +kernel
theorem dX6_order_113 : decode cX6_order 113 = .ok (.getfield 40, 3) := by decide +kernel
theorem dX6_order_116 : decode cX6_order 116 = .ok (.aload_n 0, 1) := by decide +kernel
theorem dX6_order_117 : decode cX6_order 117 = .ok (.getfield 71, 3) := by decide +kernel
theorem dX6_order_120 : decode cX6_order 120 = .ok (.aload_n 0, 1) := by decide +kernel
theorem dX6_order_121 : decode cX6_order 121 = .ok (.getfield 127, 3) := by decide +kernel
theorem dX6_order_124 : decode cX6_order 124 = .ok (.iconst 2, 1) := by decide +kernel
theorem dX6_order_125 : decode cX6_order 125 = .ok (.iload_n 3, 1) := by decide +kernel
theorem dX6_order_126 : decode cX6_order 126 = .ok (.imul, 1) := by decide +kernel
theorem dX6_order_127 : decode cX6_order 127 = .ok (.iadd, 1) := by decide +kernel
theorem dX6_order_128 : decode cX6_order 128 = .ok (.iastore, 1) := by decide +kernel
theorem dX6_order_129 : decode cX6_order 129 = .ok (.aload_n 0, 1) := by decide +kernel
theorem dX6_order_130 : decode cX6_order 130 = .ok (.dup, 1) := by decide +kernel
theorem dX6_order_131 : decode cX6_order 131 = .ok (.getfield 71, 3) := by decide +kernel
theorem dX6_order_134 : decode cX6_order 134 = .ok (.iconst 1, 1) := by decide +kernel
theorem dX6_order_135 : decode cX6_order 135 = .ok (.iadd, 1) := by decide +kernel
theorem dX6_order_136 : decode cX6_order 136 = .ok (.putfield 71, 3) := by decide +kernel
theorem dX6_order_139 : decode cX6_order 139 = .ok (.aload_n 0, 1) := by decide +kernel
theorem dX6_order_140 : decode cX6_order 140 = .ok (.getfield 71, 3) := by decide +kernel
theorem dX6_order_143 : decode cX6_order 143 = .ok (.iconst 1, 1) := by decide +kernel
theorem dX6_order_144 : decode cX6_order 144 = .ok (.isub, 1) := by decide +kernel
theorem dX6_order_145 : decode cX6_order 145 = .ok (.ireturn, 1) := by decide +kernel
theorem dX6_ready_0 : decode cX6_ready 0 = .ok (.aload_n 0, 1) := by decide +kernel
theorem dX6_ready_1 : decode cX6_ready 1 = .ok (.aload_n 0, 1) := by decide +kernel
theorem dX6_ready_2 : decode cX6_ready 2 = .ok (.iload_n 1, 1) := by decide +kernel
theorem dX6_ready_3 : decode cX6_ready 3 = .ok (.invokevirtual 134, 3) := by decide +kernel
theorem dX6_ready_6 : decode cX6_ready 6 = .ok (.iconst 1, 1) := by decide +kernel
theorem dX6_ready_7 : decode cX6_ready 7 = .ok (.iconst 1, 1) := by decide +kernel
theorem dX6_ready_8 : decode cX6_ready 8 = .ok (.invokevirtual 74, 3) := by decide +kernel
theorem dX6_ready_11 : decode cX6_ready 11 = .ok (.ifCond .eq 12, 3) := by decide +kernel
theorem dX6_ready_14 : decode cX6_ready 14 = .ok (.aload_n 0, 1) := by decide +kernel
theorem dX6_ready_15 : decode cX6_ready 15 = .ok (.getfield 40, 3) := by decide +kernel
theorem dX6_ready_18 : decode cX6_ready 18 = .ok (.iload_n 1, 1) := by decide +kernel
theorem dX6_ready_19 : decode cX6_ready 19 = .ok (.iaload, 1) := by decide +kernel
theorem dX6_ready_20 : decode cX6_ready 20 = .ok (.goto 4, 3) := by decide +kernel
theorem dX6_ready_23 : decode cX6_ready 23 = .ok (.iconst 0, 1) := by decide +kernel
theorem dX6_ready_24 : decode cX6_ready 24 = .ok (.ireturn, 1) := by decide +kernel
theorem dX6_isOpen_0 : decode cX6_isOpen 0 = .ok (.iload_n 0, 1) := by decide +kernel
theorem dX6_isOpen_1 : decode cX6_isOpen 1 = .ok (.iconst 0, 1) := by decide +kernel
theorem dX6_isOpen_2 : decode cX6_isOpen 2 = .ok (.bipush 60, 2) := by decide +kernel
theorem dX6_isOpen_4 : decode cX6_isOpen 4 = .ok (.invokestatic 60, 3) := by decide +kernel
theorem dX6_isOpen_7 : decode cX6_isOpen 7 = .ok (.ireturn, 1) := by decide +kernel
theorem dX6_fetch_0 : decode cX6_fetch 0 = .ok (.aload_n 0, 1) := by decide +kernel
theorem dX6_fetch_1 : decode cX6_fetch 1 = .ok (.iload_n 1, 1) := by decide +kernel
theorem dX6_fetch_2 : decode cX6_fetch 2 = .ok (.invokevirtual 134, 3) := by decide +kernel
theorem dX6_fetch_5 : decode cX6_fetch 5 = .ok (.istore 6, 2) := by decide +kernel
theorem dX6_fetch_7 : decode cX6_fetch 7 = .ok (.iload_n 2, 1) := by decide +kernel
theorem dX6_fetch_8 : decode cX6_fetch 8 = .ok (.invokestatic 137, 3) := by decide +kernel
theorem dX6_fetch_11 : decode cX6_fetch 11 = .ok (.ifCond .eq 30, 3) := by decide +kernel
theorem dX6_fetch_14 : decode cX6_fetch 14 = .ok (.iload_n 3, 1) := by decide +kernel
theorem dX6_fetch_15 : decode cX6_fetch 15 = .ok (.invokestatic 137, 3) := by decide +kernel
theorem dX6_fetch_18 : decode cX6_fetch 18 = .ok (.ifCond .eq 23, 3) := by decide +kernel
theorem dX6_fetch_21 : decode cX6_fetch 21 = .ok (.iload 4, 2) := by decide +kernel
theorem dX6_fetch_23 : decode cX6_fetch 23 = .ok (.invokestatic 137, 3) := by decide +kernel
theorem dX6_fetch_26 : decode cX6_fetch 26 = .ok (.ifCond .eq 15, 3) := by decide +kernel
theorem dX6_fetch_29 : decode cX6_fetch 29 = .ok (.iload 5, 2) := by decide +kernel
theorem dX6_fetch_31 : decode cX6_fetch 31 = .ok (.invokestatic 137, 3) := by decide +kernel
theorem dX6_fetch_34 : decode cX6_fetch 34 = .ok (.ifCond .eq 7, 3) := by decide +kernel
theorem dX6_fetch_37 : decode cX6_fetch 37 = .ok (.iconst 1, 1) := by decide +kernel
theorem dX6_fetch_38 : decode cX6_fetch 38 = .ok (.goto 4, 3) := by decide +kernel
theorem dX6_fetch_41 : decode cX6_fetch 41 = .ok (.iconst 0, 1) := by decide +kernel
theorem dX6_fetch_42 : decode cX6_fetch 42 = .ok (.istore 7, 2) := by decide +kernel
theorem dX6_fetch_44 : decode cX6_fetch 44 = .ok (.aload_n 0, 1) := by decide +kernel
theorem dX6_fetch_45 : decode cX6_fetch 45 = .ok (.iload 6, 2) := by decide +kernel
theorem dX6_fetch_47 : decode cX6_fetch 47 = .ok (.iload 7, 2) := by decide +kernel
theorem dX6_fetch_49 : decode cX6_fetch 49 = .ok (.iload 6, 2) := by decide +kernel
theorem dX6_fetch_51 : decode cX6_fetch 51 = .ok (.ifCond .eq 38, 3) := by decide +kernel
theorem dX6_fetch_54 : decode cX6_fetch 54 = .ok (.aload_n 0, 1) := by decide +kernel
theorem dX6_fetch_55 : decode cX6_fetch 55 = .ok (.getfield 127, 3) := by decide +kernel
theorem dX6_fetch_58 : decode cX6_fetch 58 = .ok (.aload_n 0, 1) := by decide +kernel
theorem dX6_fetch_59 : decode cX6_fetch 59 = .ok (.getfield 40, 3) := by decide +kernel
theorem dX6_fetch_62 : decode cX6_fetch 62 = .ok (.iload_n 1, 1) := by decide +kernel
theorem dX6_fetch_63 : decode cX6_fetch 63 = .ok (.iaload, 1) := by decide +kernel
theorem dX6_fetch_64 : decode cX6_fetch 64 = .ok (.if_icmp .lt 25, 3) := by decide +kernel
theorem dX6_fetch_67 : decode cX6_fetch 67 = .ok (.aload_n 0, 1) := by decide +kernel
theorem dX6_fetch_68 : decode cX6_fetch 68 = .ok (.getfield 43, 3) := by decide +kernel
theorem dX6_fetch_71 : decode cX6_fetch 71 = .ok (.iload_n 1, 1) := by decide +kernel
theorem dX6_fetch_72 : decode cX6_fetch 72 = .ok (.baload, 1) := by decide +kernel
theorem dX6_fetch_73 : decode cX6_fetch 73 = .ok (.ifCond .ne 16, 3) := by decide +kernel
theorem dX6_fetch_76 : decode cX6_fetch 76 = .ok (.aload_n 0, 1) := by decide +kernel
theorem dX6_fetch_77 : decode cX6_fetch 77 = .ok (.getfield 68, 3) := by decide +kernel
theorem dX6_fetch_80 : decode cX6_fetch 80 = .ok (.bipush 8, 2) := by decide +kernel
theorem dX6_fetch_82 : decode cX6_fetch 82 = .ok (.if_icmp .ge 7, 3) := by decide +kernel
theorem dX6_fetch_85 : decode cX6_fetch 85 = .ok (.iconst 1, 1) := by decide +kernel
theorem dX6_fetch_86 : decode cX6_fetch 86 = .ok (.goto 4, 3) := by decide +kernel
theorem dX6_fetch_89 : decode cX6_fetch 89 = .ok (.iconst 0, 1) := by decide +kernel
theorem dX6_fetch_90 : decode cX6_fetch 90 = .ok (.invokevirtual 74, 3) := by decide +kernel
theorem dX6_fetch_93 : decode cX6_fetch 93 = .ok (.ifCond .ne 5, 3) := by decide +kernel
theorem dX6_fetch_96 : decode cX6_fetch 96 = .ok (.iconst 0, 1) := by decide +kernel
theorem dX6_fetch_97 : decode cX6_fetch 97 = .ok (.ireturn, 1) := by decide +kernel
theorem dX6_fetch_98 : decode cX6_fetch 98 = .ok (.aload_n 0, 1) := by decide +kernel
theorem dX6_fetch_99 : decode cX6_fetch 99 = .ok (.getfield 43, 3) := by decide +kernel
theorem dX6_fetch_102 : decode cX6_fetch 102 = .ok (.iload_n 1, 1) := by decide +kernel
theorem dX6_fetch_103 : decode cX6_fetch 103 = .ok (.iconst 1, 1) := by decide +kernel
theorem dX6_fetch_104 : decode cX6_fetch 104 = .ok (.bastore, 1) := by decide +kernel
theorem dX6_fetch_105 : decode cX6_fetch 105 = .ok (.aload_n 0, 1) := by decide +kernel
theorem dX6_fetch_106 : decode cX6_fetch 106 = .ok (.getfield 16, 3) := by decide +kernel
theorem dX6_fetch_109 : decode cX6_fetch 109 = .ok (.aload_n 0, 1) := by decide +kernel
theorem dX6_fetch_110 : decode cX6_fetch 110 = .ok (.getfield 68, 3) := by decide +kernel
theorem dX6_fetch_113 : decode cX6_fetch 113 = .ok (.aload_n 0, 1) := by decide +kernel
theorem dX6_fetch_114 : decode cX6_fetch 114 = .ok (.getfield 34, 3) := by decide +kernel
theorem dX6_fetch_117 : decode cX6_fetch 117 = .ok (.iload_n 1, 1) := by decide +kernel
theorem dX6_fetch_118 : decode cX6_fetch 118 = .ok (.iaload, 1) := by decide +kernel
theorem dX6_fetch_119 : decode cX6_fetch 119 = .ok (.iastore, 1) := by decide +kernel
theorem dX6_fetch_120 : decode cX6_fetch 120 = .ok (.aload_n 0, 1) := by decide +kernel
theorem dX6_fetch_121 : decode cX6_fetch 121 = .ok (.getfield 19, 3) := by decide +kernel
theorem dX6_fetch_124 : decode cX6_fetch 124 = .ok (.aload_n 0, 1) := by decide +kernel
theorem dX6_fetch_125 : decode cX6_fetch 125 = .ok (.getfield 68, 3) := by decide +kernel
theorem dX6_fetch_128 : decode cX6_fetch 128 = .ok (.aload_n 0, 1) := by decide +kernel
theorem dX6_fetch_129 : decode cX6_fetch 129 = .ok (.getfield 37, 3) := by decide +kernel
theorem dX6_fetch_132 : decode cX6_fetch 132 = .ok (.iload_n 1, 1) := by decide +kernel
theorem dX6_fetch_133 : decode cX6_fetch 133 = .ok (.iaload, 1) := by decide +kernel
theorem dX6_fetch_134 : decode cX6_fetch 134 = .ok (.iastore, 1) := by decide +kernel
theorem dX6_fetch_135 : decode cX6_fetch 135 = .ok (.aload_n 0, 1) := by decide +kernel
theorem dX6_fetch_136 : decode cX6_fetch 136 = .ok (.getfield 22, 3) := by decide +kernel
theorem dX6_fetch_139 : decode cX6_fetch 139 = .ok (.iconst 4, 1) := by decide +kernel
theorem dX6_fetch_140 : decode cX6_fetch 140 = .ok (.aload_n 0, 1) := by decide +kernel
theorem dX6_fetch_141 : decode cX6_fetch 141 = .ok (.getfield 68, 3) := by decide +kernel
theorem dX6_fetch_144 : decode cX6_fetch 144 = .ok (.imul, 1) := by decide +kernel
theorem dX6_fetch_145 : decode cX6_fetch 145 = .ok (.iload_n 2, 1) := by decide +kernel
theorem dX6_fetch_146 : decode cX6_fetch 146 = .ok (.iastore, 1) := by decide +kernel
theorem dX6_fetch_147 : decode cX6_fetch 147 = .ok (.aload_n 0, 1) := by decide +kernel
theorem dX6_fetch_148 : decode cX6_fetch 148 = .ok (.getfield 22, 3) := by decide +kernel
theorem dX6_fetch_151 : decode cX6_fetch 151 = .ok (.iconst 4, 1) := by decide +kernel
theorem dX6_fetch_152 : decode cX6_fetch 152 = .ok (.aload_n 0, 1) := by decide +kernel
theorem dX6_fetch_153 : decode cX6_fetch 153 = .ok (.getfield 68, 3) := by decide +kernel
theorem dX6_fetch_156 : decode cX6_fetch 156 = .ok (.imul, 1) := by decide +kernel
theorem dX6_fetch_157 : decode cX6_fetch 157 = .ok (.iconst 1, 1) := by decide +kernel
theorem dX6_fetch_158 : decode cX6_fetch 158 = .ok (.iadd, 1) := by decide +kernel
theorem dX6_fetch_159 : decode cX6_fetch 159 = .ok (.iload_n 3, 1) := by decide +kernel
theorem dX6_fetch_160 : decode cX6_fetch 160 = .ok (.iastore, 1) := by decide +kernel
theorem dX6_fetch_161 : decode cX6_fetch 161 = .ok (.aload_n 0, 1) := by decide +kernel
theorem dX6_fetch_162 : decode cX6_fetch 162 = .ok (.getfield 22, 3) := by decide +kernel
theorem dX6_fetch_165 : decode cX6_fetch 165 = .ok (.iconst 4, 1) := by decide +kernel
theorem dX6_fetch_166 : decode cX6_fetch 166 = .ok (.aload_n 0, 1) := by decide +kernel
theorem dX6_fetch_167 : decode cX6_fetch 167 = .ok (.getfield 68, 3) := by decide +kernel
theorem dX6_fetch_170 : decode cX6_fetch 170 = .ok (.imul, 1) := by decide +kernel
theorem dX6_fetch_171 : decode cX6_fetch 171 = .ok (.iconst 2, 1) := by decide +kernel
theorem dX6_fetch_172 : decode cX6_fetch 172 = .ok (.iadd, 1) := by decide +kernel
theorem dX6_fetch_173 : decode cX6_fetch 173 = .ok (.iload 4, 2) := by decide +kernel
theorem dX6_fetch_175 : decode cX6_fetch 175 = .ok (.iastore, 1) := by decide +kernel
theorem dX6_fetch_176 : decode cX6_fetch 176 = .ok (.aload_n 0, 1) := by decide +kernel
theorem dX6_fetch_177 : decode cX6_fetch 177 = .ok (.getfield 22, 3) := by decide +kernel
theorem dX6_fetch_180 : decode cX6_fetch 180 = .ok (.iconst 4, 1) := by decide +kernel
theorem dX6_fetch_181 : decode cX6_fetch 181 = .ok (.aload_n 0, 1) := by decide +kernel
theorem dX6_fetch_182 : decode cX6_fetch 182 = .ok (.getfield 68, 3) := by decide +kernel
theorem dX6_fetch_185 : decode cX6_fetch 185 = .ok (.imul, 1) := by decide +kernel
theorem dX6_fetch_186 : decode cX6_fetch 186 = .ok (.iconst 3, 1) := by decide +kernel
theorem dX6_fetch_187 : decode cX6_fetch 187 = .ok (.iadd, 1) := by decide +kernel
theorem dX6_fetch_188 : decode cX6_fetch 188 = .ok (.iload 5, 2) := by decide +kernel
theorem dX6_fetch_190 : decode cX6_fetch 190 = .ok (.iastore, 1) := by decide +kernel
theorem dX6_fetch_191 : decode cX6_fetch 191 = .ok (.aload_n 0, 1) := by decide +kernel
theorem dX6_fetch_192 : decode cX6_fetch 192 = .ok (.dup, 1) := by decide +kernel
theorem dX6_fetch_193 : decode cX6_fetch 193 = .ok (.getfield 68, 3) := by decide +kernel
theorem dX6_fetch_196 : decode cX6_fetch 196 = .ok (.iconst 1, 1) := by decide +kernel
theorem dX6_fetch_197 : decode cX6_fetch 197 = .ok (.iadd, 1) := by decide +kernel
theorem dX6_fetch_198 : decode cX6_fetch 198 = .ok (.putfield 68, 3) := by decide +kernel
theorem dX6_fetch_201 : decode cX6_fetch 201 = .ok (.aload_n 0, 1) := by decide +kernel
theorem dX6_fetch_202 : decode cX6_fetch 202 = .ok (.getfield 68, 3) := by decide +kernel
theorem dX6_fetch_205 : decode cX6_fetch 205 = .ok (.iconst 1, 1) := by decide +kernel
theorem dX6_fetch_206 : decode cX6_fetch 206 = .ok (.isub, 1) := by decide +kernel
theorem dX6_fetch_207 : decode cX6_fetch 207 = .ok (.ireturn, 1) := by decide +kernel
theorem dX6_pass_0 : decode cX6_pass 0 = .ok (.iload_n 1, 1) := by decide +kernel
theorem dX6_pass_1 : decode cX6_pass 1 = .ok (.iconst 1, 1) := by decide +kernel
theorem dX6_pass_2 : decode cX6_pass 2 = .ok (.bipush 100, 2) := by decide +kernel
theorem dX6_pass_4 : decode cX6_pass 4 = .ok (.invokestatic 60, 3) := by decide +kernel
theorem dX6_pass_7 : decode cX6_pass 7 = .ok (.istore_n 2, 1) := by decide +kernel
theorem dX6_pass_8 : decode cX6_pass 8 = .ok (.aload_n 0, 1) := by decide +kernel
theorem dX6_pass_9 : decode cX6_pass 9 = .ok (.iload_n 2, 1) := by decide +kernel
theorem dX6_pass_10 : decode cX6_pass 10 = .ok (.iload_n 2, 1) := by decide +kernel
theorem dX6_pass_11 : decode cX6_pass 11 = .ok (.ifCond .eq 19, 3) := by decide +kernel
theorem dX6_pass_14 : decode cX6_pass 14 = .ok (.aload_n 0, 1) := by decide +kernel
theorem dX6_pass_15 : decode cX6_pass 15 = .ok (.getfield 127, 3) := by decide +kernel
theorem dX6_pass_18 : decode cX6_pass 18 = .ok (.iload_n 1, 1) := by decide +kernel
theorem dX6_pass_19 : decode cX6_pass 19 = .ok (.iadd, 1) := by decide +kernel
theorem dX6_pass_20 : decode cX6_pass 20 = .ok (.sipush 5000, 3) := by decide +kernel
theorem dX6_pass_23 : decode cX6_pass 23 = .ok (.if_icmp .gt 7, 3) := by decide +kernel
theorem dX6_pass_26 : decode cX6_pass 26 = .ok (.iconst 1, 1) := by decide +kernel
theorem dX6_pass_27 : decode cX6_pass 27 = .ok (.goto 4, 3) := by decide +kernel
theorem dX6_pass_30 : decode cX6_pass 30 = .ok (.iconst 0, 1) := by decide +kernel
theorem dX6_pass_31 : decode cX6_pass 31 = .ok (.iconst 1, 1) := by decide +kernel
theorem dX6_pass_32 : decode cX6_pass 32 = .ok (.invokevirtual 74, 3) := by decide +kernel
theorem dX6_pass_35 : decode cX6_pass 35 = .ok (.ifCond .ne 5, 3) := by decide +kernel
theorem dX6_pass_38 : decode cX6_pass 38 = .ok (.iconst 0, 1) := by decide +kernel
theorem dX6_pass_39 : decode cX6_pass 39 = .ok (.ireturn, 1) := by decide +kernel
theorem dX6_pass_40 : decode cX6_pass 40 = .ok (.aload_n 0, 1) := by decide +kernel
theorem dX6_pass_41 : decode cX6_pass 41 = .ok (.dup, 1) := by decide +kernel
theorem dX6_pass_42 : decode cX6_pass 42 = .ok (.getfield 127, 3) := by decide +kernel
theorem dX6_pass_45 : decode cX6_pass 45 = .ok (.iload_n 1, 1) := by decide +kernel
theorem dX6_pass_46 : decode cX6_pass 46 = .ok (.iadd, 1) := by decide +kernel
theorem dX6_pass_47 : decode cX6_pass 47 = .ok (.putfield 127, 3) := by decide +kernel
theorem dX6_pass_50 : decode cX6_pass 50 = .ok (.aload_n 0, 1) := by decide +kernel
theorem dX6_pass_51 : decode cX6_pass 51 = .ok (.getfield 127, 3) := by decide +kernel
theorem dX6_pass_54 : decode cX6_pass 54 = .ok (.ireturn, 1) := by decide +kernel
theorem dX6_today_0 : decode cX6_today 0 = .ok (.aload_n 0, 1) := by decide +kernel
theorem dX6_today_1 : decode cX6_today 1 = .ok (.aload_n 0, 1) := by decide +kernel
theorem dX6_today_2 : decode cX6_today 2 = .ok (.getfield 127, 3) := by decide +kernel
theorem dX6_today_5 : decode cX6_today 5 = .ok (.invokevirtual 85, 3) := by decide +kernel
theorem dX6_today_8 : decode cX6_today 8 = .ok (.ireturn, 1) := by decide +kernel
end
section
theorem dL_begin_0 : decode cL_begin 0 = .ok (.aload_n 1, 1) := by decide +kernel
theorem dL_begin_1 : decode cL_begin 1 = .ok (.iconst 0, 1) := by decide +kernel
theorem dL_begin_2 : decode cL_begin 2 = .ok (.aload_n 0, 1) := by decide +kernel
theorem dL_begin_3 : decode cL_begin 3 = .ok (.invokevirtual 7, 3) := by decide +kernel
theorem dL_begin_6 : decode cL_begin 6 = .ok (.i2l, 1) := by decide +kernel
theorem dL_begin_7 : decode cL_begin 7 = .ok (.lastore, 1) := by decide +kernel
theorem dL_begin_8 : decode cL_begin 8 = .ok (.goto 6, 3) := by decide +kernel
theorem dL_begin_11 : decode cL_begin 11 = .ok (.astore_n 2, 1) := by decide +kernel
theorem dL_begin_12 : decode cL_begin 12 = .ok (.iconst 1, 1) := by decide +kernel
theorem dL_begin_13 : decode cL_begin 13 = .ok (.ireturn, 1) := by decide +kernel
theorem dL_begin_14 : decode cL_begin 14 = .ok (.iconst 0, 1) := by decide +kernel
theorem dL_begin_15 : decode cL_begin 15 = .ok (.ireturn, 1) := by decide +kernel
theorem dL_addNote_0 : decode cL_addNote 0 = .ok (.aload_n 3, 1) := by decide +kernel
theorem dL_addNote_1 : decode cL_addNote 1 = .ok (.iconst 0, 1) := by decide +kernel
theorem dL_addNote_2 : decode cL_addNote 2 = .ok (.aload_n 0, 1) := by decide +kernel
theorem dL_addNote_3 : decode cL_addNote 3 = .ok (.iload_n 1, 1) := by decide +kernel
theorem dL_addNote_4 : decode cL_addNote 4 = .ok (.iload_n 2, 1) := by decide +kernel
theorem dL_addNote_5 : decode cL_addNote 5 = .ok (.invokevirtual 15, 3) := by decide +kernel
theorem dL_addNote_8 : decode cL_addNote 8 = .ok (.i2l, 1) := by decide +kernel
theorem dL_addNote_9 : decode cL_addNote 9 = .ok (.lastore, 1) := by decide +kernel
theorem dL_addNote_10 : decode cL_addNote 10 = .ok (.goto 15, 3) := by decide +kernel
theorem dL_addNote_13 : decode cL_addNote 13 = .ok (.astore 4, 2) := by decide +kernel
theorem dL_addNote_15 : decode cL_addNote 15 = .ok (.iconst 1, 1) := by decide +kernel
theorem dL_addNote_16 : decode cL_addNote 16 = .ok (.ireturn, 1) := by decide +kernel
theorem dL_addNote_17 : decode cL_addNote 17 = .ok (.astore 4, 2) := by decide +kernel
theorem dL_addNote_19 : decode cL_addNote 19 = .ok (.iconst 2, 1) := by decide +kernel
theorem dL_addNote_20 : decode cL_addNote 20 = .ok (.ireturn, 1) := by decide +kernel
theorem dL_addNote_21 : decode cL_addNote 21 = .ok (.astore 4, 2) := by decide +kernel
theorem dL_addNote_23 : decode cL_addNote 23 = .ok (.iconst 3, 1) := by decide +kernel
theorem dL_addNote_24 : decode cL_addNote 24 = .ok (.ireturn, 1) := by decide +kernel
theorem dL_addNote_25 : decode cL_addNote 25 = .ok (.iconst 0, 1) := by decide +kernel
theorem dL_addNote_26 : decode cL_addNote 26 = .ok (.ireturn, 1) := by decide +kernel
theorem dL_transpose_0 : decode cL_transpose 0 = .ok (.aload_n 0, 1) := by decide +kernel
theorem dL_transpose_1 : decode cL_transpose 1 = .ok (.iload_n 1, 1) := by decide +kernel
theorem dL_transpose_2 : decode cL_transpose 2 = .ok (.iload_n 2, 1) := by decide +kernel
theorem dL_transpose_3 : decode cL_transpose 3 = .ok (.invokevirtual 23, 3) := by decide +kernel
theorem dL_transpose_6 : decode cL_transpose 6 = .ok (.goto 12, 3) := by decide +kernel
theorem dL_transpose_9 : decode cL_transpose 9 = .ok (.astore_n 3, 1) := by decide +kernel
theorem dL_transpose_10 : decode cL_transpose 10 = .ok (.iconst 1, 1) := by decide +kernel
theorem dL_transpose_11 : decode cL_transpose 11 = .ok (.ireturn, 1) := by decide +kernel
theorem dL_transpose_12 : decode cL_transpose 12 = .ok (.astore_n 3, 1) := by decide +kernel
theorem dL_transpose_13 : decode cL_transpose 13 = .ok (.iconst 2, 1) := by decide +kernel
theorem dL_transpose_14 : decode cL_transpose 14 = .ok (.ireturn, 1) := by decide +kernel
theorem dL_transpose_15 : decode cL_transpose 15 = .ok (.astore_n 3, 1) := by decide +kernel
theorem dL_transpose_16 : decode cL_transpose 16 = .ok (.iconst 3, 1) := by decide +kernel
theorem dL_transpose_17 : decode cL_transpose 17 = .ok (.ireturn, 1) := by decide +kernel
theorem dL_transpose_18 : decode cL_transpose 18 = .ok (.iconst 0, 1) := by decide +kernel
theorem dL_transpose_19 : decode cL_transpose 19 = .ok (.ireturn, 1) := by decide +kernel
theorem dL_pitch_0 : decode cL_pitch 0 = .ok (.aload_n 3, 1) := by decide +kernel
theorem dL_pitch_1 : decode cL_pitch 1 = .ok (.iconst 0, 1) := by decide +kernel
theorem dL_pitch_2 : decode cL_pitch 2 = .ok (.aload_n 0, 1) := by decide +kernel
theorem dL_pitch_3 : decode cL_pitch 3 = .ok (.iload_n 1, 1) := by decide +kernel
theorem dL_pitch_4 : decode cL_pitch 4 = .ok (.iload_n 2, 1) := by decide +kernel
theorem dL_pitch_5 : decode cL_pitch 5 = .ok (.invokevirtual 27, 3) := by decide +kernel
theorem dL_pitch_8 : decode cL_pitch 8 = .ok (.i2l, 1) := by decide +kernel
theorem dL_pitch_9 : decode cL_pitch 9 = .ok (.lastore, 1) := by decide +kernel
theorem dL_pitch_10 : decode cL_pitch 10 = .ok (.goto 7, 3) := by decide +kernel
theorem dL_pitch_13 : decode cL_pitch 13 = .ok (.astore 4, 2) := by decide +kernel
theorem dL_pitch_15 : decode cL_pitch 15 = .ok (.iconst 1, 1) := by decide +kernel
theorem dL_pitch_16 : decode cL_pitch 16 = .ok (.ireturn, 1) := by decide +kernel
theorem dL_pitch_17 : decode cL_pitch 17 = .ok (.iconst 0, 1) := by decide +kernel
theorem dL_pitch_18 : decode cL_pitch 18 = .ok (.ireturn, 1) := by decide +kernel
theorem dL_tune_0 : decode cL_tune 0 = .ok (.aload 4, 2) := by decide +kernel
theorem dL_tune_2 : decode cL_tune 2 = .ok (.iconst 0, 1) := by decide +kernel
theorem dL_tune_3 : decode cL_tune 3 = .ok (.aload_n 0, 1) := by decide +kernel
theorem dL_tune_4 : decode cL_tune 4 = .ok (.iload_n 1, 1) := by decide +kernel
theorem dL_tune_5 : decode cL_tune 5 = .ok (.iload_n 2, 1) := by decide +kernel
theorem dL_tune_6 : decode cL_tune 6 = .ok (.iload_n 3, 1) := by decide +kernel
theorem dL_tune_7 : decode cL_tune 7 = .ok (.invokevirtual 30, 3) := by decide +kernel
theorem dL_tune_10 : decode cL_tune 10 = .ok (.i2l, 1) := by decide +kernel
theorem dL_tune_11 : decode cL_tune 11 = .ok (.lastore, 1) := by decide +kernel
theorem dL_tune_12 : decode cL_tune 12 = .ok (.goto 11, 3) := by decide +kernel
theorem dL_tune_15 : decode cL_tune 15 = .ok (.astore 5, 2) := by decide +kernel
theorem dL_tune_17 : decode cL_tune 17 = .ok (.iconst 1, 1) := by decide +kernel
theorem dL_tune_18 : decode cL_tune 18 = .ok (.ireturn, 1) := by decide +kernel
theorem dL_tune_19 : decode cL_tune 19 = .ok (.astore 5, 2) := by decide +kernel
theorem dL_tune_21 : decode cL_tune 21 = .ok (.iconst 2, 1) := by decide +kernel
theorem dL_tune_22 : decode cL_tune 22 = .ok (.ireturn, 1) := by decide +kernel
theorem dL_tune_23 : decode cL_tune 23 = .ok (.iconst 0, 1) := by decide +kernel
theorem dL_tune_24 : decode cL_tune 24 = .ok (.ireturn, 1) := by decide +kernel
theorem dL_owner_0 : decode cL_owner 0 = .ok (.aload_n 2, 1) := by decide +kernel
theorem dL_owner_1 : decode cL_owner 1 = .ok (.iconst 0, 1) := by decide +kernel
theorem dL_owner_2 : decode cL_owner 2 = .ok (.aload_n 0, 1) := by decide +kernel
theorem dL_owner_3 : decode cL_owner 3 = .ok (.iload_n 1, 1) := by decide +kernel
theorem dL_owner_4 : decode cL_owner 4 = .ok (.invokevirtual 34, 3) := by decide +kernel
theorem dL_owner_7 : decode cL_owner 7 = .ok (.i2l, 1) := by decide +kernel
theorem dL_owner_8 : decode cL_owner 8 = .ok (.lastore, 1) := by decide +kernel
theorem dL_owner_9 : decode cL_owner 9 = .ok (.goto 6, 3) := by decide +kernel
theorem dL_owner_12 : decode cL_owner 12 = .ok (.astore_n 3, 1) := by decide +kernel
theorem dL_owner_13 : decode cL_owner 13 = .ok (.iconst 1, 1) := by decide +kernel
theorem dL_owner_14 : decode cL_owner 14 = .ok (.ireturn, 1) := by decide +kernel
theorem dL_owner_15 : decode cL_owner 15 = .ok (.iconst 0, 1) := by decide +kernel
theorem dL_owner_16 : decode cL_owner 16 = .ok (.ireturn, 1) := by decide +kernel
theorem dL_shifts_0 : decode cL_shifts 0 = .ok (.aload_n 3, 1) := by decide +kernel
theorem dL_shifts_1 : decode cL_shifts 1 = .ok (.iconst 0, 1) := by decide +kernel
theorem dL_shifts_2 : decode cL_shifts 2 = .ok (.aload_n 0, 1) := by decide +kernel
theorem dL_shifts_3 : decode cL_shifts 3 = .ok (.iload_n 1, 1) := by decide +kernel
theorem dL_shifts_4 : decode cL_shifts 4 = .ok (.iload_n 2, 1) := by decide +kernel
theorem dL_shifts_5 : decode cL_shifts 5 = .ok (.invokevirtual 38, 3) := by decide +kernel
theorem dL_shifts_8 : decode cL_shifts 8 = .ok (.i2l, 1) := by decide +kernel
theorem dL_shifts_9 : decode cL_shifts 9 = .ok (.lastore, 1) := by decide +kernel
theorem dL_shifts_10 : decode cL_shifts 10 = .ok (.goto 7, 3) := by decide +kernel
theorem dL_shifts_13 : decode cL_shifts 13 = .ok (.astore 4, 2) := by decide +kernel
theorem dL_shifts_15 : decode cL_shifts 15 = .ok (.iconst 1, 1) := by decide +kernel
theorem dL_shifts_16 : decode cL_shifts 16 = .ok (.ireturn, 1) := by decide +kernel
theorem dL_shifts_17 : decode cL_shifts 17 = .ok (.iconst 0, 1) := by decide +kernel
theorem dL_shifts_18 : decode cL_shifts 18 = .ok (.ireturn, 1) := by decide +kernel
theorem dL_shiftsByAll_0 : decode cL_shiftsByAll 0 = .ok (.aload_n 3, 1) := by decide +kernel
theorem dL_shiftsByAll_1 : decode cL_shiftsByAll 1 = .ok (.iconst 0, 1) := by decide +kernel
theorem dL_shiftsByAll_2 : decode cL_shiftsByAll 2 = .ok (.aload_n 0, 1) := by decide +kernel
theorem dL_shiftsByAll_3 : decode cL_shiftsByAll 3 = .ok (.iload_n 1, 1) := by decide +kernel
theorem dL_shiftsByAll_4 : decode cL_shiftsByAll 4 = .ok (.iload_n 2, 1) := by decide +kernel
theorem dL_shiftsByAll_5 : decode cL_shiftsByAll 5 = .ok (.invokevirtual 41, 3) := by decide +kernel
theorem dL_shiftsByAll_8 : decode cL_shiftsByAll 8 = .ok (.i2l, 1) := by decide +kernel
theorem dL_shiftsByAll_9 : decode cL_shiftsByAll 9 = .ok (.lastore, 1) := by decide +kernel
theorem dL_shiftsByAll_10 : decode cL_shiftsByAll 10 = .ok (.goto 11, 3) := by decide +kernel
theorem dL_shiftsByAll_13 : decode cL_shiftsByAll 13 = .ok (.astore 4, 2) := by decide +kernel
theorem dL_shiftsByAll_15 : decode cL_shiftsByAll 15 = .ok (.iconst 1, 1) := by decide +kernel
theorem dL_shiftsByAll_16 : decode cL_shiftsByAll 16 = .ok (.ireturn, 1) := by decide +kernel
theorem dL_shiftsByAll_17 : decode cL_shiftsByAll 17 = .ok (.astore 4, 2) := by decide +kernel
theorem dL_shiftsByAll_19 : decode cL_shiftsByAll 19 = .ok (.iconst 2, 1) := by decide +kernel
theorem dL_shiftsByAll_20 : decode cL_shiftsByAll 20 = .ok (.ireturn, 1) := by decide +kernel
theorem dL_shiftsByAll_21 : decode cL_shiftsByAll 21 = .ok (.iconst 0, 1) := by decide +kernel
theorem dL_shiftsByAll_22 : decode cL_shiftsByAll 22 = .ok (.ireturn, 1) := by decide +kernel
theorem dL_hardest_0 : decode cL_hardest 0 = .ok (.aload_n 3, 1) := by decide +kernel
theorem dL_hardest_1 : decode cL_hardest 1 = .ok (.iconst 0, 1) := by decide +kernel
theorem dL_hardest_2 : decode cL_hardest 2 = .ok (.aload_n 0, 1) := by decide +kernel
theorem dL_hardest_3 : decode cL_hardest 3 = .ok (.iload_n 1, 1) := by decide +kernel
theorem dL_hardest_4 : decode cL_hardest 4 = .ok (.iload_n 2, 1) := by decide +kernel
theorem dL_hardest_5 : decode cL_hardest 5 = .ok (.invokevirtual 44, 3) := by decide +kernel
theorem dL_hardest_8 : decode cL_hardest 8 = .ok (.i2l, 1) := by decide +kernel
theorem dL_hardest_9 : decode cL_hardest 9 = .ok (.lastore, 1) := by decide +kernel
theorem dL_hardest_10 : decode cL_hardest 10 = .ok (.goto 7, 3) := by decide +kernel
theorem dL_hardest_13 : decode cL_hardest 13 = .ok (.astore 4, 2) := by decide +kernel
theorem dL_hardest_15 : decode cL_hardest 15 = .ok (.iconst 1, 1) := by decide +kernel
theorem dL_hardest_16 : decode cL_hardest 16 = .ok (.ireturn, 1) := by decide +kernel
theorem dL_hardest_17 : decode cL_hardest 17 = .ok (.iconst 0, 1) := by decide +kernel
theorem dL_hardest_18 : decode cL_hardest 18 = .ok (.ireturn, 1) := by decide +kernel
theorem dL_position_0 : decode cL_position 0 = .ok (.aload 4, 2) := by decide +kernel
theorem dL_position_2 : decode cL_position 2 = .ok (.iconst 0, 1) := by decide +kernel
theorem dL_position_3 : decode cL_position 3 = .ok (.aload_n 0, 1) := by decide +kernel
theorem dL_position_4 : decode cL_position 4 = .ok (.iload_n 1, 1) := by decide +kernel
theorem dL_position_5 : decode cL_position 5 = .ok (.iload_n 2, 1) := by decide +kernel
theorem dL_position_6 : decode cL_position 6 = .ok (.iload_n 3, 1) := by decide +kernel
theorem dL_position_7 : decode cL_position 7 = .ok (.invokevirtual 47, 3) := by decide +kernel
theorem dL_position_10 : decode cL_position 10 = .ok (.i2l, 1) := by decide +kernel
theorem dL_position_11 : decode cL_position 11 = .ok (.lastore, 1) := by decide +kernel
theorem dL_position_12 : decode cL_position 12 = .ok (.goto 7, 3) := by decide +kernel
theorem dL_position_15 : decode cL_position 15 = .ok (.astore 5, 2) := by decide +kernel
theorem dL_position_17 : decode cL_position 17 = .ok (.iconst 1, 1) := by decide +kernel
theorem dL_position_18 : decode cL_position 18 = .ok (.ireturn, 1) := by decide +kernel
theorem dL_position_19 : decode cL_position 19 = .ok (.iconst 0, 1) := by decide +kernel
theorem dL_position_20 : decode cL_position 20 = .ok (.ireturn, 1) := by decide +kernel
theorem dL_string_0 : decode cL_string 0 = .ok (.aload 4, 2) := by decide +kernel
theorem dL_string_2 : decode cL_string 2 = .ok (.iconst 0, 1) := by decide +kernel
theorem dL_string_3 : decode cL_string 3 = .ok (.aload_n 0, 1) := by decide +kernel
theorem dL_string_4 : decode cL_string 4 = .ok (.iload_n 1, 1) := by decide +kernel
theorem dL_string_5 : decode cL_string 5 = .ok (.iload_n 2, 1) := by decide +kernel
theorem dL_string_6 : decode cL_string 6 = .ok (.iload_n 3, 1) := by decide +kernel
theorem dL_string_7 : decode cL_string 7 = .ok (.invokevirtual 50, 3) := by decide +kernel
theorem dL_string_10 : decode cL_string 10 = .ok (.i2l, 1) := by decide +kernel
theorem dL_string_11 : decode cL_string 11 = .ok (.lastore, 1) := by decide +kernel
theorem dL_string_12 : decode cL_string 12 = .ok (.goto 7, 3) := by decide +kernel
theorem dL_string_15 : decode cL_string 15 = .ok (.astore 5, 2) := by decide +kernel
theorem dL_string_17 : decode cL_string 17 = .ok (.iconst 1, 1) := by decide +kernel
theorem dL_string_18 : decode cL_string 18 = .ok (.ireturn, 1) := by decide +kernel
theorem dL_string_19 : decode cL_string 19 = .ok (.iconst 0, 1) := by decide +kernel
theorem dL_string_20 : decode cL_string 20 = .ok (.ireturn, 1) := by decide +kernel
theorem dL_learn_0 : decode cL_learn 0 = .ok (.aload 4, 2) := by decide +kernel
theorem dL_learn_2 : decode cL_learn 2 = .ok (.iconst 0, 1) := by decide +kernel
theorem dL_learn_3 : decode cL_learn 3 = .ok (.aload_n 0, 1) := by decide +kernel
theorem dL_learn_4 : decode cL_learn 4 = .ok (.iload_n 1, 1) := by decide +kernel
theorem dL_learn_5 : decode cL_learn 5 = .ok (.iload_n 2, 1) := by decide +kernel
theorem dL_learn_6 : decode cL_learn 6 = .ok (.iload_n 3, 1) := by decide +kernel
theorem dL_learn_7 : decode cL_learn 7 = .ok (.invokevirtual 53, 3) := by decide +kernel
theorem dL_learn_10 : decode cL_learn 10 = .ok (.i2l, 1) := by decide +kernel
theorem dL_learn_11 : decode cL_learn 11 = .ok (.lastore, 1) := by decide +kernel
theorem dL_learn_12 : decode cL_learn 12 = .ok (.goto 15, 3) := by decide +kernel
theorem dL_learn_15 : decode cL_learn 15 = .ok (.astore 5, 2) := by decide +kernel
theorem dL_learn_17 : decode cL_learn 17 = .ok (.iconst 1, 1) := by decide +kernel
theorem dL_learn_18 : decode cL_learn 18 = .ok (.ireturn, 1) := by decide +kernel
theorem dL_learn_19 : decode cL_learn 19 = .ok (.astore 5, 2) := by decide +kernel
theorem dL_learn_21 : decode cL_learn 21 = .ok (.iconst 2, 1) := by decide +kernel
theorem dL_learn_22 : decode cL_learn 22 = .ok (.ireturn, 1) := by decide +kernel
theorem dL_learn_23 : decode cL_learn 23 = .ok (.astore 5, 2) := by decide +kernel
theorem dL_learn_25 : decode cL_learn 25 = .ok (.iconst 3, 1) := by decide +kernel
theorem dL_learn_26 : decode cL_learn 26 = .ok (.ireturn, 1) := by decide +kernel
theorem dL_learn_27 : decode cL_learn 27 = .ok (.iconst 0, 1) := by decide +kernel
theorem dL_learn_28 : decode cL_learn 28 = .ok (.ireturn, 1) := by decide +kernel
theorem dL_level_0 : decode cL_level 0 = .ok (.aload_n 2, 1) := by decide +kernel
theorem dL_level_1 : decode cL_level 1 = .ok (.iconst 0, 1) := by decide +kernel
theorem dL_level_2 : decode cL_level 2 = .ok (.aload_n 0, 1) := by decide +kernel
theorem dL_level_3 : decode cL_level 3 = .ok (.iload_n 1, 1) := by decide +kernel
theorem dL_level_4 : decode cL_level 4 = .ok (.invokevirtual 56, 3) := by decide +kernel
theorem dL_level_7 : decode cL_level 7 = .ok (.i2l, 1) := by decide +kernel
theorem dL_level_8 : decode cL_level 8 = .ok (.lastore, 1) := by decide +kernel
theorem dL_level_9 : decode cL_level 9 = .ok (.goto 6, 3) := by decide +kernel
theorem dL_level_12 : decode cL_level 12 = .ok (.astore_n 3, 1) := by decide +kernel
theorem dL_level_13 : decode cL_level 13 = .ok (.iconst 1, 1) := by decide +kernel
theorem dL_level_14 : decode cL_level 14 = .ok (.ireturn, 1) := by decide +kernel
theorem dL_level_15 : decode cL_level 15 = .ok (.iconst 0, 1) := by decide +kernel
theorem dL_level_16 : decode cL_level 16 = .ok (.ireturn, 1) := by decide +kernel
theorem dL_known_0 : decode cL_known 0 = .ok (.aload_n 2, 1) := by decide +kernel
theorem dL_known_1 : decode cL_known 1 = .ok (.iconst 0, 1) := by decide +kernel
theorem dL_known_2 : decode cL_known 2 = .ok (.aload_n 0, 1) := by decide +kernel
theorem dL_known_3 : decode cL_known 3 = .ok (.iload_n 1, 1) := by decide +kernel
theorem dL_known_4 : decode cL_known 4 = .ok (.invokevirtual 59, 3) := by decide +kernel
theorem dL_known_7 : decode cL_known 7 = .ok (.i2l, 1) := by decide +kernel
theorem dL_known_8 : decode cL_known 8 = .ok (.lastore, 1) := by decide +kernel
theorem dL_known_9 : decode cL_known 9 = .ok (.goto 6, 3) := by decide +kernel
theorem dL_known_12 : decode cL_known 12 = .ok (.astore_n 3, 1) := by decide +kernel
theorem dL_known_13 : decode cL_known 13 = .ok (.iconst 1, 1) := by decide +kernel
theorem dL_known_14 : decode cL_known 14 = .ok (.ireturn, 1) := by decide +kernel
theorem dL_known_15 : decode cL_known 15 = .ok (.iconst 0, 1) := by decide +kernel
theorem dL_known_16 : decode cL_known 16 = .ok (.ireturn, 1) := by decide +kernel
theorem dL_next_0 : decode cL_next 0 = .ok (.aload_n 2, 1) := by decide +kernel
theorem dL_next_1 : decode cL_next 1 = .ok (.iconst 0, 1) := by decide +kernel
theorem dL_next_2 : decode cL_next 2 = .ok (.aload_n 0, 1) := by decide +kernel
theorem dL_next_3 : decode cL_next 3 = .ok (.iload_n 1, 1) := by decide +kernel
theorem dL_next_4 : decode cL_next 4 = .ok (.invokevirtual 62, 3) := by decide +kernel
theorem dL_next_7 : decode cL_next 7 = .ok (.i2l, 1) := by decide +kernel
theorem dL_next_8 : decode cL_next 8 = .ok (.lastore, 1) := by decide +kernel
theorem dL_next_9 : decode cL_next 9 = .ok (.goto 6, 3) := by decide +kernel
theorem dL_next_12 : decode cL_next 12 = .ok (.astore_n 3, 1) := by decide +kernel
theorem dL_next_13 : decode cL_next 13 = .ok (.iconst 1, 1) := by decide +kernel
theorem dL_next_14 : decode cL_next 14 = .ok (.ireturn, 1) := by decide +kernel
theorem dL_next_15 : decode cL_next 15 = .ok (.iconst 0, 1) := by decide +kernel
theorem dL_next_16 : decode cL_next 16 = .ok (.ireturn, 1) := by decide +kernel
theorem dL_addWood_0 : decode cL_addWood 0 = .ok (.aload_n 3, 1) := by decide +kernel
theorem dL_addWood_1 : decode cL_addWood 1 = .ok (.iconst 0, 1) := by decide +kernel
theorem dL_addWood_2 : decode cL_addWood 2 = .ok (.aload_n 0, 1) := by decide +kernel
theorem dL_addWood_3 : decode cL_addWood 3 = .ok (.iload_n 1, 1) := by decide +kernel
theorem dL_addWood_4 : decode cL_addWood 4 = .ok (.iload_n 2, 1) := by decide +kernel
theorem dL_addWood_5 : decode cL_addWood 5 = .ok (.invokevirtual 65, 3) := by decide +kernel
theorem dL_addWood_8 : decode cL_addWood 8 = .ok (.i2l, 1) := by decide +kernel
theorem dL_addWood_9 : decode cL_addWood 9 = .ok (.lastore, 1) := by decide +kernel
theorem dL_addWood_10 : decode cL_addWood 10 = .ok (.goto 7, 3) := by decide +kernel
theorem dL_addWood_13 : decode cL_addWood 13 = .ok (.astore 4, 2) := by decide +kernel
theorem dL_addWood_15 : decode cL_addWood 15 = .ok (.iconst 1, 1) := by decide +kernel
theorem dL_addWood_16 : decode cL_addWood 16 = .ok (.ireturn, 1) := by decide +kernel
theorem dL_addWood_17 : decode cL_addWood 17 = .ok (.iconst 0, 1) := by decide +kernel
theorem dL_addWood_18 : decode cL_addWood 18 = .ok (.ireturn, 1) := by decide +kernel
theorem dL_order_0 : decode cL_order 0 = .ok (.aload 4, 2) := by decide +kernel
theorem dL_order_2 : decode cL_order 2 = .ok (.iconst 0, 1) := by decide +kernel
theorem dL_order_3 : decode cL_order 3 = .ok (.aload_n 0, 1) := by decide +kernel
theorem dL_order_4 : decode cL_order 4 = .ok (.iload_n 1, 1) := by decide +kernel
theorem dL_order_5 : decode cL_order 5 = .ok (.iload_n 2, 1) := by decide +kernel
theorem dL_order_6 : decode cL_order 6 = .ok (.iload_n 3, 1) := by decide +kernel
theorem dL_order_7 : decode cL_order 7 = .ok (.invokevirtual 68, 3) := by decide +kernel
theorem dL_order_10 : decode cL_order 10 = .ok (.i2l, 1) := by decide +kernel
theorem dL_order_11 : decode cL_order 11 = .ok (.lastore, 1) := by decide +kernel
theorem dL_order_12 : decode cL_order 12 = .ok (.goto 11, 3) := by decide +kernel
theorem dL_order_15 : decode cL_order 15 = .ok (.astore 5, 2) := by decide +kernel
theorem dL_order_17 : decode cL_order 17 = .ok (.iconst 1, 1) := by decide +kernel
theorem dL_order_18 : decode cL_order 18 = .ok (.ireturn, 1) := by decide +kernel
theorem dL_order_19 : decode cL_order 19 = .ok (.astore 5, 2) := by decide +kernel
theorem dL_order_21 : decode cL_order 21 = .ok (.iconst 2, 1) := by decide +kernel
theorem dL_order_22 : decode cL_order 22 = .ok (.ireturn, 1) := by decide +kernel
theorem dL_order_23 : decode cL_order 23 = .ok (.iconst 0, 1) := by decide +kernel
theorem dL_order_24 : decode cL_order 24 = .ok (.ireturn, 1) := by decide +kernel
theorem dL_ready_0 : decode cL_ready 0 = .ok (.aload_n 2, 1) := by decide +kernel
theorem dL_ready_1 : decode cL_ready 1 = .ok (.iconst 0, 1) := by decide +kernel
theorem dL_ready_2 : decode cL_ready 2 = .ok (.aload_n 0, 1) := by decide +kernel
theorem dL_ready_3 : decode cL_ready 3 = .ok (.iload_n 1, 1) := by decide +kernel
theorem dL_ready_4 : decode cL_ready 4 = .ok (.invokevirtual 71, 3) := by decide +kernel
theorem dL_ready_7 : decode cL_ready 7 = .ok (.i2l, 1) := by decide +kernel
theorem dL_ready_8 : decode cL_ready 8 = .ok (.lastore, 1) := by decide +kernel
theorem dL_ready_9 : decode cL_ready 9 = .ok (.goto 6, 3) := by decide +kernel
theorem dL_ready_12 : decode cL_ready 12 = .ok (.astore_n 3, 1) := by decide +kernel
theorem dL_ready_13 : decode cL_ready 13 = .ok (.iconst 1, 1) := by decide +kernel
theorem dL_ready_14 : decode cL_ready 14 = .ok (.ireturn, 1) := by decide +kernel
theorem dL_ready_15 : decode cL_ready 15 = .ok (.iconst 0, 1) := by decide +kernel
theorem dL_ready_16 : decode cL_ready 16 = .ok (.ireturn, 1) := by decide +kernel
theorem dL_fetch_0 : decode cL_fetch 0 = .ok (.aload 6, 2) := by decide +kernel
theorem dL_fetch_2 : decode cL_fetch 2 = .ok (.iconst 0, 1) := by decide +kernel
theorem dL_fetch_3 : decode cL_fetch 3 = .ok (.aload_n 0, 1) := by decide +kernel
theorem dL_fetch_4 : decode cL_fetch 4 = .ok (.iload_n 1, 1) := by decide +kernel
theorem dL_fetch_5 : decode cL_fetch 5 = .ok (.iload_n 2, 1) := by decide +kernel
theorem dL_fetch_6 : decode cL_fetch 6 = .ok (.iload_n 3, 1) := by decide +kernel
theorem dL_fetch_7 : decode cL_fetch 7 = .ok (.iload 4, 2) := by decide +kernel
theorem dL_fetch_9 : decode cL_fetch 9 = .ok (.iload 5, 2) := by decide +kernel
theorem dL_fetch_11 : decode cL_fetch 11 = .ok (.invokevirtual 74, 3) := by decide +kernel
theorem dL_fetch_14 : decode cL_fetch 14 = .ok (.i2l, 1) := by decide +kernel
theorem dL_fetch_15 : decode cL_fetch 15 = .ok (.lastore, 1) := by decide +kernel
theorem dL_fetch_16 : decode cL_fetch 16 = .ok (.goto 15, 3) := by decide +kernel
theorem dL_fetch_19 : decode cL_fetch 19 = .ok (.astore 7, 2) := by decide +kernel
theorem dL_fetch_21 : decode cL_fetch 21 = .ok (.iconst 1, 1) := by decide +kernel
theorem dL_fetch_22 : decode cL_fetch 22 = .ok (.ireturn, 1) := by decide +kernel
theorem dL_fetch_23 : decode cL_fetch 23 = .ok (.astore 7, 2) := by decide +kernel
theorem dL_fetch_25 : decode cL_fetch 25 = .ok (.iconst 2, 1) := by decide +kernel
theorem dL_fetch_26 : decode cL_fetch 26 = .ok (.ireturn, 1) := by decide +kernel
theorem dL_fetch_27 : decode cL_fetch 27 = .ok (.astore 7, 2) := by decide +kernel
theorem dL_fetch_29 : decode cL_fetch 29 = .ok (.iconst 3, 1) := by decide +kernel
theorem dL_fetch_30 : decode cL_fetch 30 = .ok (.ireturn, 1) := by decide +kernel
theorem dL_fetch_31 : decode cL_fetch 31 = .ok (.iconst 0, 1) := by decide +kernel
theorem dL_fetch_32 : decode cL_fetch 32 = .ok (.ireturn, 1) := by decide +kernel
theorem dL_pass_0 : decode cL_pass 0 = .ok (.aload_n 2, 1) := by decide +kernel
theorem dL_pass_1 : decode cL_pass 1 = .ok (.iconst 0, 1) := by decide +kernel
theorem dL_pass_2 : decode cL_pass 2 = .ok (.aload_n 0, 1) := by decide +kernel
theorem dL_pass_3 : decode cL_pass 3 = .ok (.iload_n 1, 1) := by decide +kernel
theorem dL_pass_4 : decode cL_pass 4 = .ok (.invokevirtual 78, 3) := by decide +kernel
theorem dL_pass_7 : decode cL_pass 7 = .ok (.i2l, 1) := by decide +kernel
theorem dL_pass_8 : decode cL_pass 8 = .ok (.lastore, 1) := by decide +kernel
theorem dL_pass_9 : decode cL_pass 9 = .ok (.goto 9, 3) := by decide +kernel
theorem dL_pass_12 : decode cL_pass 12 = .ok (.astore_n 3, 1) := by decide +kernel
theorem dL_pass_13 : decode cL_pass 13 = .ok (.iconst 1, 1) := by decide +kernel
theorem dL_pass_14 : decode cL_pass 14 = .ok (.ireturn, 1) := by decide +kernel
theorem dL_pass_15 : decode cL_pass 15 = .ok (.astore_n 3, 1) := by decide +kernel
theorem dL_pass_16 : decode cL_pass 16 = .ok (.iconst 2, 1) := by decide +kernel
theorem dL_pass_17 : decode cL_pass 17 = .ok (.ireturn, 1) := by decide +kernel
theorem dL_pass_18 : decode cL_pass 18 = .ok (.iconst 0, 1) := by decide +kernel
theorem dL_pass_19 : decode cL_pass 19 = .ok (.ireturn, 1) := by decide +kernel
end
section
theorem dL_law_0 : decode cL_law 0 = .ok (.new 8, 3) := by decide +kernel
theorem dL_law_3 : decode cL_law 3 = .ok (.dup, 1) := by decide +kernel
theorem dL_law_4 : decode cL_law 4 = .ok (.invokespecial 81, 3) := by decide +kernel
theorem dL_law_7 : decode cL_law 7 = .ok (.astore_n 1, 1) := by decide +kernel
theorem dL_law_8 : decode cL_law 8 = .ok (.new 82, 3) := by decide +kernel
theorem dL_law_11 : decode cL_law 11 = .ok (.dup, 1) := by decide +kernel
theorem dL_law_12 : decode cL_law 12 = .ok (.invokespecial 84, 3) := by decide +kernel
theorem dL_law_15 : decode cL_law 15 = .ok (.astore_n 2, 1) := by decide +kernel
theorem dL_law_16 : decode cL_law 16 = .ok (.iconst 1, 1) := by decide +kernel
theorem dL_law_17 : decode cL_law 17 = .ok (.newarray .long, 2) := by decide +kernel
theorem dL_law_19 : decode cL_law 19 = .ok (.astore_n 3, 1) := by decide +kernel
theorem dL_law_20 : decode cL_law 20 = .ok (.iconst 0, 1) := by decide +kernel
theorem dL_law_21 : decode cL_law 21 = .ok (.istore 4, 2) := by decide +kernel
theorem dL_law_23 : decode cL_law 23 = .ok (.iload 4, 2) := by decide +kernel
theorem dL_law_25 : decode cL_law 25 = .ok (.aload_n 0, 1) := by decide +kernel
theorem dL_law_26 : decode cL_law 26 = .ok (.arraylength, 1) := by decide +kernel
theorem dL_law_27 : decode cL_law 27 = .ok (.bipush 6, 2) := by decide +kernel
theorem dL_law_29 : decode cL_law 29 = .ok (.isub, 1) := by decide +kernel
theorem dL_law_30 : decode cL_law 30 = .ok (.if_icmp .gt 1486, 3) := by decide +kernel
theorem dL_law_33 : decode cL_law 33 = .ok (.aload_n 0, 1) := by decide +kernel
theorem dL_law_34 : decode cL_law 34 = .ok (.iload 4, 2) := by decide +kernel
theorem dL_law_36 : decode cL_law 36 = .ok (.iaload, 1) := by decide +kernel
theorem dL_law_37 : decode cL_law 37 = .ok (.bipush 31, 2) := by decide +kernel
theorem dL_law_39 : decode cL_law 39 = .ok (.iand, 1) := by decide +kernel
theorem dL_law_40 : decode cL_law 40 = .ok (.tableswitch 1470 0 21 #[104, 148, 216, 264, 332, 412, 468, 481, 549, 617, 685, 765, 845, 925, 981, 1037, 1093, 1161, 1241, 1297, 1401, 1457], 104) := by decide +kernel
theorem dL_law_144 : decode cL_law 144 = .ok (.aload_n 1, 1) := by decide +kernel
theorem dL_law_145 : decode cL_law 145 = .ok (.aload_n 3, 1) := by decide +kernel
theorem dL_law_146 : decode cL_law 146 = .ok (.invokestatic 85, 3) := by decide +kernel
theorem dL_law_149 : decode cL_law 149 = .ok (.istore 5, 2) := by decide +kernel
theorem dL_law_151 : decode cL_law 151 = .ok (.aload_n 2, 1) := by decide +kernel
theorem dL_law_152 : decode cL_law 152 = .ok (.invokevirtual 90, 3) := by decide +kernel
theorem dL_law_155 : decode cL_law 155 = .ok (.istore 6, 2) := by decide +kernel
theorem dL_law_157 : decode cL_law 157 = .ok (.aload_n 2, 1) := by decide +kernel
theorem dL_law_158 : decode cL_law 158 = .ok (.invokevirtual 91, 3) := by decide +kernel
theorem dL_law_161 : decode cL_law 161 = .ok (.iload 5, 2) := by decide +kernel
theorem dL_law_163 : decode cL_law 163 = .ok (.if_icmp .eq 5, 3) := by decide +kernel
theorem dL_law_166 : decode cL_law 166 = .ok (.iconst 0, 1) := by decide +kernel
theorem dL_law_167 : decode cL_law 167 = .ok (.ireturn, 1) := by decide +kernel
theorem dL_law_168 : decode cL_law 168 = .ok (.iload 5, 2) := by decide +kernel
theorem dL_law_170 : decode cL_law 170 = .ok (.ifCond .ne 15, 3) := by decide +kernel
theorem dL_law_173 : decode cL_law 173 = .ok (.aload_n 3, 1) := by decide +kernel
theorem dL_law_174 : decode cL_law 174 = .ok (.iconst 0, 1) := by decide +kernel
theorem dL_law_175 : decode cL_law 175 = .ok (.laload, 1) := by decide +kernel
theorem dL_law_176 : decode cL_law 176 = .ok (.iload 6, 2) := by decide +kernel
theorem dL_law_178 : decode cL_law 178 = .ok (.i2l, 1) := by decide +kernel
theorem dL_law_179 : decode cL_law 179 = .ok (.lcmp, 1) := by decide +kernel
theorem dL_law_180 : decode cL_law 180 = .ok (.ifCond .eq 5, 3) := by decide +kernel
theorem dL_law_183 : decode cL_law 183 = .ok (.iconst 0, 1) := by decide +kernel
theorem dL_law_184 : decode cL_law 184 = .ok (.ireturn, 1) := by decide +kernel
theorem dL_law_185 : decode cL_law 185 = .ok (.goto 1325, 3) := by decide +kernel
theorem dL_law_188 : decode cL_law 188 = .ok (.aload_n 1, 1) := by decide +kernel
theorem dL_law_189 : decode cL_law 189 = .ok (.aload_n 0, 1) := by decide +kernel
theorem dL_law_190 : decode cL_law 190 = .ok (.iload 4, 2) := by decide +kernel
theorem dL_law_192 : decode cL_law 192 = .ok (.iconst 1, 1) := by decide +kernel
theorem dL_law_193 : decode cL_law 193 = .ok (.iadd, 1) := by decide +kernel
theorem dL_law_194 : decode cL_law 194 = .ok (.iaload, 1) := by decide +kernel
theorem dL_law_195 : decode cL_law 195 = .ok (.aload_n 0, 1) := by decide +kernel
theorem dL_law_196 : decode cL_law 196 = .ok (.iload 4, 2) := by decide +kernel
theorem dL_law_198 : decode cL_law 198 = .ok (.iconst 2, 1) := by decide +kernel
theorem dL_law_199 : decode cL_law 199 = .ok (.iadd, 1) := by decide +kernel
theorem dL_law_200 : decode cL_law 200 = .ok (.iaload, 1) := by decide +kernel
theorem dL_law_201 : decode cL_law 201 = .ok (.aload_n 3, 1) := by decide +kernel
theorem dL_law_202 : decode cL_law 202 = .ok (.invokestatic 94, 3) := by decide +kernel
theorem dL_law_205 : decode cL_law 205 = .ok (.istore 5, 2) := by decide +kernel
theorem dL_law_207 : decode cL_law 207 = .ok (.aload_n 2, 1) := by decide +kernel
theorem dL_law_208 : decode cL_law 208 = .ok (.aload_n 0, 1) := by decide +kernel
theorem dL_law_209 : decode cL_law 209 = .ok (.iload 4, 2) := by decide +kernel
theorem dL_law_211 : decode cL_law 211 = .ok (.iconst 1, 1) := by decide +kernel
theorem dL_law_212 : decode cL_law 212 = .ok (.iadd, 1) := by decide +kernel
theorem dL_law_213 : decode cL_law 213 = .ok (.iaload, 1) := by decide +kernel
theorem dL_law_214 : decode cL_law 214 = .ok (.aload_n 0, 1) := by decide +kernel
theorem dL_law_215 : decode cL_law 215 = .ok (.iload 4, 2) := by decide +kernel
theorem dL_law_217 : decode cL_law 217 = .ok (.iconst 2, 1) := by decide +kernel
theorem dL_law_218 : decode cL_law 218 = .ok (.iadd, 1) := by decide +kernel
theorem dL_law_219 : decode cL_law 219 = .ok (.iaload, 1) := by decide +kernel
theorem dL_law_220 : decode cL_law 220 = .ok (.invokevirtual 97, 3) := by decide +kernel
theorem dL_law_223 : decode cL_law 223 = .ok (.istore 6, 2) := by decide +kernel
theorem dL_law_225 : decode cL_law 225 = .ok (.aload_n 2, 1) := by decide +kernel
theorem dL_law_226 : decode cL_law 226 = .ok (.invokevirtual 91, 3) := by decide +kernel
theorem dL_law_229 : decode cL_law 229 = .ok (.iload 5, 2) := by decide +kernel
theorem dL_law_231 : decode cL_law 231 = .ok (.if_icmp .eq 5, 3) := by decide +kernel
theorem dL_law_234 : decode cL_law 234 = .ok (.iconst 0, 1) := by decide +kernel
theorem dL_law_235 : decode cL_law 235 = .ok (.ireturn, 1) := by decide +kernel
theorem dL_law_236 : decode cL_law 236 = .ok (.iload 5, 2) := by decide +kernel
theorem dL_law_238 : decode cL_law 238 = .ok (.ifCond .ne 15, 3) := by decide +kernel
theorem dL_law_241 : decode cL_law 241 = .ok (.aload_n 3, 1) := by decide +kernel
theorem dL_law_242 : decode cL_law 242 = .ok (.iconst 0, 1) := by decide +kernel
theorem dL_law_243 : decode cL_law 243 = .ok (.laload, 1) := by decide +kernel
theorem dL_law_244 : decode cL_law 244 = .ok (.iload 6, 2) := by decide +kernel
theorem dL_law_246 : decode cL_law 246 = .ok (.i2l, 1) := by decide +kernel
theorem dL_law_247 : decode cL_law 247 = .ok (.lcmp, 1) := by decide +kernel
theorem dL_law_248 : decode cL_law 248 = .ok (.ifCond .eq 5, 3) := by decide +kernel
theorem dL_law_251 : decode cL_law 251 = .ok (.iconst 0, 1) := by decide +kernel
theorem dL_law_252 : decode cL_law 252 = .ok (.ireturn, 1) := by decide +kernel
theorem dL_law_253 : decode cL_law 253 = .ok (.goto 1257, 3) := by decide +kernel
theorem dL_law_256 : decode cL_law 256 = .ok (.aload_n 1, 1) := by decide +kernel
theorem dL_law_257 : decode cL_law 257 = .ok (.aload_n 0, 1) := by decide +kernel
theorem dL_law_258 : decode cL_law 258 = .ok (.iload 4, 2) := by decide +kernel
theorem dL_law_260 : decode cL_law 260 = .ok (.iconst 1, 1) := by decide +kernel
theorem dL_law_261 : decode cL_law 261 = .ok (.iadd, 1) := by decide +kernel
theorem dL_law_262 : decode cL_law 262 = .ok (.iaload, 1) := by decide +kernel
theorem dL_law_263 : decode cL_law 263 = .ok (.aload_n 0, 1) := by decide +kernel
theorem dL_law_264 : decode cL_law 264 = .ok (.iload 4, 2) := by decide +kernel
theorem dL_law_266 : decode cL_law 266 = .ok (.iconst 2, 1) := by decide +kernel
theorem dL_law_267 : decode cL_law 267 = .ok (.iadd, 1) := by decide +kernel
theorem dL_law_268 : decode cL_law 268 = .ok (.iaload, 1) := by decide +kernel
theorem dL_law_269 : decode cL_law 269 = .ok (.invokestatic 98, 3) := by decide +kernel
theorem dL_law_272 : decode cL_law 272 = .ok (.istore 5, 2) := by decide +kernel
theorem dL_law_274 : decode cL_law 274 = .ok (.aload_n 2, 1) := by decide +kernel
theorem dL_law_275 : decode cL_law 275 = .ok (.aload_n 0, 1) := by decide +kernel
theorem dL_law_276 : decode cL_law 276 = .ok (.iload 4, 2) := by decide +kernel
theorem dL_law_278 : decode cL_law 278 = .ok (.iconst 1, 1) := by decide +kernel
theorem dL_law_279 : decode cL_law 279 = .ok (.iadd, 1) := by decide +kernel
theorem dL_law_280 : decode cL_law 280 = .ok (.iaload, 1) := by decide +kernel
theorem dL_law_281 : decode cL_law 281 = .ok (.aload_n 0, 1) := by decide +kernel
theorem dL_law_282 : decode cL_law 282 = .ok (.iload 4, 2) := by decide +kernel
theorem dL_law_284 : decode cL_law 284 = .ok (.iconst 2, 1) := by decide +kernel
theorem dL_law_285 : decode cL_law 285 = .ok (.iadd, 1) := by decide +kernel
theorem dL_law_286 : decode cL_law 286 = .ok (.iaload, 1) := by decide +kernel
theorem dL_law_287 : decode cL_law 287 = .ok (.invokevirtual 101, 3) := by decide +kernel
theorem dL_law_290 : decode cL_law 290 = .ok (.aload_n 2, 1) := by decide +kernel
theorem dL_law_291 : decode cL_law 291 = .ok (.invokevirtual 91, 3) := by decide +kernel
theorem dL_law_294 : decode cL_law 294 = .ok (.iload 5, 2) := by decide +kernel
theorem dL_law_296 : decode cL_law 296 = .ok (.if_icmp .eq 5, 3) := by decide +kernel
theorem dL_law_299 : decode cL_law 299 = .ok (.iconst 0, 1) := by decide +kernel
theorem dL_law_300 : decode cL_law 300 = .ok (.ireturn, 1) := by decide +kernel
theorem dL_law_301 : decode cL_law 301 = .ok (.goto 1209, 3) := by decide +kernel
theorem dL_law_304 : decode cL_law 304 = .ok (.aload_n 1, 1) := by decide +kernel
theorem dL_law_305 : decode cL_law 305 = .ok (.aload_n 0, 1) := by decide +kernel
theorem dL_law_306 : decode cL_law 306 = .ok (.iload 4, 2) := by decide +kernel
theorem dL_law_308 : decode cL_law 308 = .ok (.iconst 1, 1) := by decide +kernel
theorem dL_law_309 : decode cL_law 309 = .ok (.iadd, 1) := by decide +kernel
theorem dL_law_310 : decode cL_law 310 = .ok (.iaload, 1) := by decide +kernel
theorem dL_law_311 : decode cL_law 311 = .ok (.aload_n 0, 1) := by decide +kernel
theorem dL_law_312 : decode cL_law 312 = .ok (.iload 4, 2) := by decide +kernel
theorem dL_law_314 : decode cL_law 314 = .ok (.iconst 2, 1) := by decide +kernel
theorem dL_law_315 : decode cL_law 315 = .ok (.iadd, 1) := by decide +kernel
theorem dL_law_316 : decode cL_law 316 = .ok (.iaload, 1) := by decide +kernel
theorem dL_law_317 : decode cL_law 317 = .ok (.aload_n 3, 1) := by decide +kernel
theorem dL_law_318 : decode cL_law 318 = .ok (.invokestatic 102, 3) := by decide +kernel
theorem dL_law_321 : decode cL_law 321 = .ok (.istore 5, 2) := by decide +kernel
theorem dL_law_323 : decode cL_law 323 = .ok (.aload_n 2, 1) := by decide +kernel
theorem dL_law_324 : decode cL_law 324 = .ok (.aload_n 0, 1) := by decide +kernel
theorem dL_law_325 : decode cL_law 325 = .ok (.iload 4, 2) := by decide +kernel
theorem dL_law_327 : decode cL_law 327 = .ok (.iconst 1, 1) := by decide +kernel
theorem dL_law_328 : decode cL_law 328 = .ok (.iadd, 1) := by decide +kernel
theorem dL_law_329 : decode cL_law 329 = .ok (.iaload, 1) := by decide +kernel
theorem dL_law_330 : decode cL_law 330 = .ok (.aload_n 0, 1) := by decide +kernel
theorem dL_law_331 : decode cL_law 331 = .ok (.iload 4, 2) := by decide +kernel
theorem dL_law_333 : decode cL_law 333 = .ok (.iconst 2, 1) := by decide +kernel
theorem dL_law_334 : decode cL_law 334 = .ok (.iadd, 1) := by decide +kernel
theorem dL_law_335 : decode cL_law 335 = .ok (.iaload, 1) := by decide +kernel
theorem dL_law_336 : decode cL_law 336 = .ok (.invokevirtual 104, 3) := by decide +kernel
theorem dL_law_339 : decode cL_law 339 = .ok (.istore 6, 2) := by decide +kernel
theorem dL_law_341 : decode cL_law 341 = .ok (.aload_n 2, 1) := by decide +kernel
theorem dL_law_342 : decode cL_law 342 = .ok (.invokevirtual 91, 3) := by decide +kernel
theorem dL_law_345 : decode cL_law 345 = .ok (.iload 5, 2) := by decide +kernel
theorem dL_law_347 : decode cL_law 347 = .ok (.if_icmp .eq 5, 3) := by decide +kernel
theorem dL_law_350 : decode cL_law 350 = .ok (.iconst 0, 1) := by decide +kernel
theorem dL_law_351 : decode cL_law 351 = .ok (.ireturn, 1) := by decide +kernel
theorem dL_law_352 : decode cL_law 352 = .ok (.iload 5, 2) := by decide +kernel
theorem dL_law_354 : decode cL_law 354 = .ok (.ifCond .ne 15, 3) := by decide +kernel
theorem dL_law_357 : decode cL_law 357 = .ok (.aload_n 3, 1) := by decide +kernel
theorem dL_law_358 : decode cL_law 358 = .ok (.iconst 0, 1) := by decide +kernel
theorem dL_law_359 : decode cL_law 359 = .ok (.laload, 1) := by decide +kernel
theorem dL_law_360 : decode cL_law 360 = .ok (.iload 6, 2) := by decide +kernel
theorem dL_law_362 : decode cL_law 362 = .ok (.i2l, 1) := by decide +kernel
theorem dL_law_363 : decode cL_law 363 = .ok (.lcmp, 1) := by decide +kernel
theorem dL_law_364 : decode cL_law 364 = .ok (.ifCond .eq 5, 3) := by decide +kernel
theorem dL_law_367 : decode cL_law 367 = .ok (.iconst 0, 1) := by decide +kernel
theorem dL_law_368 : decode cL_law 368 = .ok (.ireturn, 1) := by decide +kernel
theorem dL_law_369 : decode cL_law 369 = .ok (.goto 1141, 3) := by decide +kernel
theorem dL_law_372 : decode cL_law 372 = .ok (.aload_n 1, 1) := by decide +kernel
theorem dL_law_373 : decode cL_law 373 = .ok (.aload_n 0, 1) := by decide +kernel
theorem dL_law_374 : decode cL_law 374 = .ok (.iload 4, 2) := by decide +kernel
theorem dL_law_376 : decode cL_law 376 = .ok (.iconst 1, 1) := by decide +kernel
theorem dL_law_377 : decode cL_law 377 = .ok (.iadd, 1) := by decide +kernel
theorem dL_law_378 : decode cL_law 378 = .ok (.iaload, 1) := by decide +kernel
theorem dL_law_379 : decode cL_law 379 = .ok (.aload_n 0, 1) := by decide +kernel
theorem dL_law_380 : decode cL_law 380 = .ok (.iload 4, 2) := by decide +kernel
theorem dL_law_382 : decode cL_law 382 = .ok (.iconst 2, 1) := by decide +kernel
theorem dL_law_383 : decode cL_law 383 = .ok (.iadd, 1) := by decide +kernel
theorem dL_law_384 : decode cL_law 384 = .ok (.iaload, 1) := by decide +kernel
theorem dL_law_385 : decode cL_law 385 = .ok (.aload_n 0, 1) := by decide +kernel
theorem dL_law_386 : decode cL_law 386 = .ok (.iload 4, 2) := by decide +kernel
theorem dL_law_388 : decode cL_law 388 = .ok (.iconst 3, 1) := by decide +kernel
theorem dL_law_389 : decode cL_law 389 = .ok (.iadd, 1) := by decide +kernel
theorem dL_law_390 : decode cL_law 390 = .ok (.iaload, 1) := by decide +kernel
theorem dL_law_391 : decode cL_law 391 = .ok (.aload_n 3, 1) := by decide +kernel
theorem dL_law_392 : decode cL_law 392 = .ok (.invokestatic 105, 3) := by decide +kernel
theorem dL_law_395 : decode cL_law 395 = .ok (.istore 5, 2) := by decide +kernel
theorem dL_law_397 : decode cL_law 397 = .ok (.aload_n 2, 1) := by decide +kernel
theorem dL_law_398 : decode cL_law 398 = .ok (.aload_n 0, 1) := by decide +kernel
theorem dL_law_399 : decode cL_law 399 = .ok (.iload 4, 2) := by decide +kernel
theorem dL_law_401 : decode cL_law 401 = .ok (.iconst 1, 1) := by decide +kernel
theorem dL_law_402 : decode cL_law 402 = .ok (.iadd, 1) := by decide +kernel
theorem dL_law_403 : decode cL_law 403 = .ok (.iaload, 1) := by decide +kernel
theorem dL_law_404 : decode cL_law 404 = .ok (.aload_n 0, 1) := by decide +kernel
theorem dL_law_405 : decode cL_law 405 = .ok (.iload 4, 2) := by decide +kernel
theorem dL_law_407 : decode cL_law 407 = .ok (.iconst 2, 1) := by decide +kernel
theorem dL_law_408 : decode cL_law 408 = .ok (.iadd, 1) := by decide +kernel
theorem dL_law_409 : decode cL_law 409 = .ok (.iaload, 1) := by decide +kernel
theorem dL_law_410 : decode cL_law 410 = .ok (.aload_n 0, 1) := by decide +kernel
theorem dL_law_411 : decode cL_law 411 = .ok (.iload 4, 2) := by decide +kernel
theorem dL_law_413 : decode cL_law 413 = .ok (.iconst 3, 1) := by decide +kernel
theorem dL_law_414 : decode cL_law 414 = .ok (.iadd, 1) := by decide +kernel
theorem dL_law_415 : decode cL_law 415 = .ok (.iaload, 1) := by decide +kernel
theorem dL_law_416 : decode cL_law 416 = .ok (.invokevirtual 108, 3) := by decide +kernel
theorem dL_law_419 : decode cL_law 419 = .ok (.istore 6, 2) := by decide +kernel
theorem dL_law_421 : decode cL_law 421 = .ok (.aload_n 2, 1) := by decide +kernel
theorem dL_law_422 : decode cL_law 422 = .ok (.invokevirtual 91, 3) := by decide +kernel
theorem dL_law_425 : decode cL_law 425 = .ok (.iload 5, 2) := by decide +kernel
theorem dL_law_427 : decode cL_law 427 = .ok (.if_icmp .eq 5, 3) := by decide +kernel
theorem dL_law_430 : decode cL_law 430 = .ok (.iconst 0, 1) := by decide +kernel
theorem dL_law_431 : decode cL_law 431 = .ok (.ireturn, 1) := by decide +kernel
theorem dL_law_432 : decode cL_law 432 = .ok (.iload 5, 2) := by decide +kernel
theorem dL_law_434 : decode cL_law 434 = .ok (.ifCond .ne 15, 3) := by decide +kernel
theorem dL_law_437 : decode cL_law 437 = .ok (.aload_n 3, 1) := by decide +kernel
theorem dL_law_438 : decode cL_law 438 = .ok (.iconst 0, 1) := by decide +kernel
theorem dL_law_439 : decode cL_law 439 = .ok (.laload, 1) := by decide +kernel
theorem dL_law_440 : decode cL_law 440 = .ok (.iload 6, 2) := by decide +kernel
theorem dL_law_442 : decode cL_law 442 = .ok (.i2l, 1) := by decide +kernel
theorem dL_law_443 : decode cL_law 443 = .ok (.lcmp, 1) := by decide +kernel
theorem dL_law_444 : decode cL_law 444 = .ok (.ifCond .eq 5, 3) := by decide +kernel
theorem dL_law_447 : decode cL_law 447 = .ok (.iconst 0, 1) := by decide +kernel
theorem dL_law_448 : decode cL_law 448 = .ok (.ireturn, 1) := by decide +kernel
theorem dL_law_449 : decode cL_law 449 = .ok (.goto 1061, 3) := by decide +kernel
theorem dL_law_452 : decode cL_law 452 = .ok (.aload_n 1, 1) := by decide +kernel
theorem dL_law_453 : decode cL_law 453 = .ok (.aload_n 0, 1) := by decide +kernel
theorem dL_law_454 : decode cL_law 454 = .ok (.iload 4, 2) := by decide +kernel
theorem dL_law_456 : decode cL_law 456 = .ok (.iconst 1, 1) := by decide +kernel
theorem dL_law_457 : decode cL_law 457 = .ok (.iadd, 1) := by decide +kernel
theorem dL_law_458 : decode cL_law 458 = .ok (.iaload, 1) := by decide +kernel
theorem dL_law_459 : decode cL_law 459 = .ok (.aload_n 3, 1) := by decide +kernel
theorem dL_law_460 : decode cL_law 460 = .ok (.invokestatic 109, 3) := by decide +kernel
theorem dL_law_463 : decode cL_law 463 = .ok (.istore 5, 2) := by decide +kernel
theorem dL_law_465 : decode cL_law 465 = .ok (.aload_n 2, 1) := by decide +kernel
theorem dL_law_466 : decode cL_law 466 = .ok (.aload_n 0, 1) := by decide +kernel
theorem dL_law_467 : decode cL_law 467 = .ok (.iload 4, 2) := by decide +kernel
theorem dL_law_469 : decode cL_law 469 = .ok (.iconst 1, 1) := by decide +kernel
theorem dL_law_470 : decode cL_law 470 = .ok (.iadd, 1) := by decide +kernel
theorem dL_law_471 : decode cL_law 471 = .ok (.iaload, 1) := by decide +kernel
theorem dL_law_472 : decode cL_law 472 = .ok (.invokevirtual 112, 3) := by decide +kernel
theorem dL_law_475 : decode cL_law 475 = .ok (.istore 6, 2) := by decide +kernel
theorem dL_law_477 : decode cL_law 477 = .ok (.aload_n 2, 1) := by decide +kernel
theorem dL_law_478 : decode cL_law 478 = .ok (.invokevirtual 91, 3) := by decide +kernel
theorem dL_law_481 : decode cL_law 481 = .ok (.iload 5, 2) := by decide +kernel
theorem dL_law_483 : decode cL_law 483 = .ok (.if_icmp .eq 5, 3) := by decide +kernel
theorem dL_law_486 : decode cL_law 486 = .ok (.iconst 0, 1) := by decide +kernel
theorem dL_law_487 : decode cL_law 487 = .ok (.ireturn, 1) := by decide +kernel
theorem dL_law_488 : decode cL_law 488 = .ok (.iload 5, 2) := by decide +kernel
theorem dL_law_490 : decode cL_law 490 = .ok (.ifCond .ne 15, 3) := by decide +kernel
theorem dL_law_493 : decode cL_law 493 = .ok (.aload_n 3, 1) := by decide +kernel
theorem dL_law_494 : decode cL_law 494 = .ok (.iconst 0, 1) := by decide +kernel
theorem dL_law_495 : decode cL_law 495 = .ok (.laload, 1) := by decide +kernel
theorem dL_law_496 : decode cL_law 496 = .ok (.iload 6, 2) := by decide +kernel
theorem dL_law_498 : decode cL_law 498 = .ok (.i2l, 1) := by decide +kernel
theorem dL_law_499 : decode cL_law 499 = .ok (.lcmp, 1) := by decide +kernel
theorem dL_law_500 : decode cL_law 500 = .ok (.ifCond .eq 5, 3) := by decide +kernel
theorem dL_law_503 : decode cL_law 503 = .ok (.iconst 0, 1) := by decide +kernel
theorem dL_law_504 : decode cL_law 504 = .ok (.ireturn, 1) := by decide +kernel
theorem dL_law_505 : decode cL_law 505 = .ok (.goto 1005, 3) := by decide +kernel
theorem dL_law_508 : decode cL_law 508 = .ok (.aload_n 1, 1) := by decide +kernel
theorem dL_law_509 : decode cL_law 509 = .ok (.invokevirtual 113, 3) := by decide +kernel
theorem dL_law_512 : decode cL_law 512 = .ok (.aload_n 2, 1) := by decide +kernel
theorem dL_law_513 : decode cL_law 513 = .ok (.invokevirtual 116, 3) := by decide +kernel
theorem dL_law_516 : decode cL_law 516 = .ok (.if_icmp .eq 994, 3) := by decide +kernel
theorem dL_law_519 : decode cL_law 519 = .ok (.iconst 0, 1) := by decide +kernel
theorem dL_law_520 : decode cL_law 520 = .ok (.ireturn, 1) := by decide +kernel
theorem dL_law_521 : decode cL_law 521 = .ok (.aload_n 1, 1) := by decide +kernel
theorem dL_law_522 : decode cL_law 522 = .ok (.aload_n 0, 1) := by decide +kernel
theorem dL_law_523 : decode cL_law 523 = .ok (.iload 4, 2) := by decide +kernel
theorem dL_law_525 : decode cL_law 525 = .ok (.iconst 1, 1) := by decide +kernel
theorem dL_law_526 : decode cL_law 526 = .ok (.iadd, 1) := by decide +kernel
theorem dL_law_527 : decode cL_law 527 = .ok (.iaload, 1) := by decide +kernel
theorem dL_law_528 : decode cL_law 528 = .ok (.aload_n 0, 1) := by decide +kernel
theorem dL_law_529 : decode cL_law 529 = .ok (.iload 4, 2) := by decide +kernel
theorem dL_law_531 : decode cL_law 531 = .ok (.iconst 2, 1) := by decide +kernel
theorem dL_law_532 : decode cL_law 532 = .ok (.iadd, 1) := by decide +kernel
theorem dL_law_533 : decode cL_law 533 = .ok (.iaload, 1) := by decide +kernel
theorem dL_law_534 : decode cL_law 534 = .ok (.aload_n 3, 1) := by decide +kernel
theorem dL_law_535 : decode cL_law 535 = .ok (.invokestatic 117, 3) := by decide +kernel
theorem dL_law_538 : decode cL_law 538 = .ok (.istore 5, 2) := by decide +kernel
theorem dL_law_540 : decode cL_law 540 = .ok (.aload_n 2, 1) := by decide +kernel
theorem dL_law_541 : decode cL_law 541 = .ok (.aload_n 0, 1) := by decide +kernel
theorem dL_law_542 : decode cL_law 542 = .ok (.iload 4, 2) := by decide +kernel
theorem dL_law_544 : decode cL_law 544 = .ok (.iconst 1, 1) := by decide +kernel
theorem dL_law_545 : decode cL_law 545 = .ok (.iadd, 1) := by decide +kernel
theorem dL_law_546 : decode cL_law 546 = .ok (.iaload, 1) := by decide +kernel
theorem dL_law_547 : decode cL_law 547 = .ok (.aload_n 0, 1) := by decide +kernel
theorem dL_law_548 : decode cL_law 548 = .ok (.iload 4, 2) := by decide +kernel
theorem dL_law_550 : decode cL_law 550 = .ok (.iconst 2, 1) := by decide +kernel
theorem dL_law_551 : decode cL_law 551 = .ok (.iadd, 1) := by decide +kernel
theorem dL_law_552 : decode cL_law 552 = .ok (.iaload, 1) := by decide +kernel
theorem dL_law_553 : decode cL_law 553 = .ok (.invokevirtual 119, 3) := by decide +kernel
theorem dL_law_556 : decode cL_law 556 = .ok (.istore 6, 2) := by decide +kernel
theorem dL_law_558 : decode cL_law 558 = .ok (.aload_n 2, 1) := by decide +kernel
theorem dL_law_559 : decode cL_law 559 = .ok (.invokevirtual 91, 3) := by decide +kernel
theorem dL_law_562 : decode cL_law 562 = .ok (.iload 5, 2) := by decide +kernel
theorem dL_law_564 : decode cL_law 564 = .ok (.if_icmp .eq 5, 3) := by decide +kernel
theorem dL_law_567 : decode cL_law 567 = .ok (.iconst 0, 1) := by decide +kernel
theorem dL_law_568 : decode cL_law 568 = .ok (.ireturn, 1) := by decide +kernel
theorem dL_law_569 : decode cL_law 569 = .ok (.iload 5, 2) := by decide +kernel
theorem dL_law_571 : decode cL_law 571 = .ok (.ifCond .ne 15, 3) := by decide +kernel
theorem dL_law_574 : decode cL_law 574 = .ok (.aload_n 3, 1) := by decide +kernel
theorem dL_law_575 : decode cL_law 575 = .ok (.iconst 0, 1) := by decide +kernel
theorem dL_law_576 : decode cL_law 576 = .ok (.laload, 1) := by decide +kernel
theorem dL_law_577 : decode cL_law 577 = .ok (.iload 6, 2) := by decide +kernel
theorem dL_law_579 : decode cL_law 579 = .ok (.i2l, 1) := by decide +kernel
theorem dL_law_580 : decode cL_law 580 = .ok (.lcmp, 1) := by decide +kernel
end
section
theorem dL_law_581 : decode cL_law 581 = .ok (.ifCond .eq 5, 3) := by decide +kernel
theorem dL_law_584 : decode cL_law 584 = .ok (.iconst 0, 1) := by decide +kernel
theorem dL_law_585 : decode cL_law 585 = .ok (.ireturn, 1) := by decide +kernel
theorem dL_law_586 : decode cL_law 586 = .ok (.goto 924, 3) := by decide +kernel
theorem dL_law_589 : decode cL_law 589 = .ok (.aload_n 1, 1) := by decide +kernel
theorem dL_law_590 : decode cL_law 590 = .ok (.aload_n 0, 1) := by decide +kernel
theorem dL_law_591 : decode cL_law 591 = .ok (.iload 4, 2) := by decide +kernel
theorem dL_law_593 : decode cL_law 593 = .ok (.iconst 1, 1) := by decide +kernel
theorem dL_law_594 : decode cL_law 594 = .ok (.iadd, 1) := by decide +kernel
theorem dL_law_595 : decode cL_law 595 = .ok (.iaload, 1) := by decide +kernel
theorem dL_law_596 : decode cL_law 596 = .ok (.aload_n 0, 1) := by decide +kernel
theorem dL_law_597 : decode cL_law 597 = .ok (.iload 4, 2) := by decide +kernel
theorem dL_law_599 : decode cL_law 599 = .ok (.iconst 2, 1) := by decide +kernel
theorem dL_law_600 : decode cL_law 600 = .ok (.iadd, 1) := by decide +kernel
theorem dL_law_601 : decode cL_law 601 = .ok (.iaload, 1) := by decide +kernel
theorem dL_law_602 : decode cL_law 602 = .ok (.aload_n 3, 1) := by decide +kernel
theorem dL_law_603 : decode cL_law 603 = .ok (.invokestatic 120, 3) := by decide +kernel
theorem dL_law_606 : decode cL_law 606 = .ok (.istore 5, 2) := by decide +kernel
theorem dL_law_608 : decode cL_law 608 = .ok (.aload_n 2, 1) := by decide +kernel
theorem dL_law_609 : decode cL_law 609 = .ok (.aload_n 0, 1) := by decide +kernel
theorem dL_law_610 : decode cL_law 610 = .ok (.iload 4, 2) := by decide +kernel
theorem dL_law_612 : decode cL_law 612 = .ok (.iconst 1, 1) := by decide +kernel
theorem dL_law_613 : decode cL_law 613 = .ok (.iadd, 1) := by decide +kernel
theorem dL_law_614 : decode cL_law 614 = .ok (.iaload, 1) := by decide +kernel
theorem dL_law_615 : decode cL_law 615 = .ok (.aload_n 0, 1) := by decide +kernel
theorem dL_law_616 : decode cL_law 616 = .ok (.iload 4, 2) := by decide +kernel
theorem dL_law_618 : decode cL_law 618 = .ok (.iconst 2, 1) := by decide +kernel
theorem dL_law_619 : decode cL_law 619 = .ok (.iadd, 1) := by decide +kernel
theorem dL_law_620 : decode cL_law 620 = .ok (.iaload, 1) := by decide +kernel
theorem dL_law_621 : decode cL_law 621 = .ok (.invokevirtual 122, 3) := by decide +kernel
theorem dL_law_624 : decode cL_law 624 = .ok (.istore 6, 2) := by decide +kernel
theorem dL_law_626 : decode cL_law 626 = .ok (.aload_n 2, 1) := by decide +kernel
theorem dL_law_627 : decode cL_law 627 = .ok (.invokevirtual 91, 3) := by decide +kernel
theorem dL_law_630 : decode cL_law 630 = .ok (.iload 5, 2) := by decide +kernel
theorem dL_law_632 : decode cL_law 632 = .ok (.if_icmp .eq 5, 3) := by decide +kernel
theorem dL_law_635 : decode cL_law 635 = .ok (.iconst 0, 1) := by decide +kernel
theorem dL_law_636 : decode cL_law 636 = .ok (.ireturn, 1) := by decide +kernel
theorem dL_law_637 : decode cL_law 637 = .ok (.iload 5, 2) := by decide +kernel
theorem dL_law_639 : decode cL_law 639 = .ok (.ifCond .ne 15, 3) := by decide +kernel
theorem dL_law_642 : decode cL_law 642 = .ok (.aload_n 3, 1) := by decide +kernel
theorem dL_law_643 : decode cL_law 643 = .ok (.iconst 0, 1) := by decide +kernel
theorem dL_law_644 : decode cL_law 644 = .ok (.laload, 1) := by decide +kernel
theorem dL_law_645 : decode cL_law 645 = .ok (.iload 6, 2) := by decide +kernel
theorem dL_law_647 : decode cL_law 647 = .ok (.i2l, 1) := by decide +kernel
theorem dL_law_648 : decode cL_law 648 = .ok (.lcmp, 1) := by decide +kernel
theorem dL_law_649 : decode cL_law 649 = .ok (.ifCond .eq 5, 3) := by decide +kernel
theorem dL_law_652 : decode cL_law 652 = .ok (.iconst 0, 1) := by decide +kernel
theorem dL_law_653 : decode cL_law 653 = .ok (.ireturn, 1) := by decide +kernel
theorem dL_law_654 : decode cL_law 654 = .ok (.goto 856, 3) := by decide +kernel
theorem dL_law_657 : decode cL_law 657 = .ok (.aload_n 1, 1) := by decide +kernel
theorem dL_law_658 : decode cL_law 658 = .ok (.aload_n 0, 1) := by decide +kernel
theorem dL_law_659 : decode cL_law 659 = .ok (.iload 4, 2) := by decide +kernel
theorem dL_law_661 : decode cL_law 661 = .ok (.iconst 1, 1) := by decide +kernel
theorem dL_law_662 : decode cL_law 662 = .ok (.iadd, 1) := by decide +kernel
theorem dL_law_663 : decode cL_law 663 = .ok (.iaload, 1) := by decide +kernel
theorem dL_law_664 : decode cL_law 664 = .ok (.aload_n 0, 1) := by decide +kernel
theorem dL_law_665 : decode cL_law 665 = .ok (.iload 4, 2) := by decide +kernel
theorem dL_law_667 : decode cL_law 667 = .ok (.iconst 2, 1) := by decide +kernel
theorem dL_law_668 : decode cL_law 668 = .ok (.iadd, 1) := by decide +kernel
theorem dL_law_669 : decode cL_law 669 = .ok (.iaload, 1) := by decide +kernel
theorem dL_law_670 : decode cL_law 670 = .ok (.aload_n 3, 1) := by decide +kernel
theorem dL_law_671 : decode cL_law 671 = .ok (.invokestatic 123, 3) := by decide +kernel
theorem dL_law_674 : decode cL_law 674 = .ok (.istore 5, 2) := by decide +kernel
theorem dL_law_676 : decode cL_law 676 = .ok (.aload_n 2, 1) := by decide +kernel
theorem dL_law_677 : decode cL_law 677 = .ok (.aload_n 0, 1) := by decide +kernel
theorem dL_law_678 : decode cL_law 678 = .ok (.iload 4, 2) := by decide +kernel
theorem dL_law_680 : decode cL_law 680 = .ok (.iconst 1, 1) := by decide +kernel
theorem dL_law_681 : decode cL_law 681 = .ok (.iadd, 1) := by decide +kernel
theorem dL_law_682 : decode cL_law 682 = .ok (.iaload, 1) := by decide +kernel
theorem dL_law_683 : decode cL_law 683 = .ok (.aload_n 0, 1) := by decide +kernel
theorem dL_law_684 : decode cL_law 684 = .ok (.iload 4, 2) := by decide +kernel
theorem dL_law_686 : decode cL_law 686 = .ok (.iconst 2, 1) := by decide +kernel
theorem dL_law_687 : decode cL_law 687 = .ok (.iadd, 1) := by decide +kernel
theorem dL_law_688 : decode cL_law 688 = .ok (.iaload, 1) := by decide +kernel
theorem dL_law_689 : decode cL_law 689 = .ok (.invokevirtual 125, 3) := by decide +kernel
theorem dL_law_692 : decode cL_law 692 = .ok (.istore 6, 2) := by decide +kernel
theorem dL_law_694 : decode cL_law 694 = .ok (.aload_n 2, 1) := by decide +kernel
theorem dL_law_695 : decode cL_law 695 = .ok (.invokevirtual 91, 3) := by decide +kernel
theorem dL_law_698 : decode cL_law 698 = .ok (.iload 5, 2) := by decide +kernel
theorem dL_law_700 : decode cL_law 700 = .ok (.if_icmp .eq 5, 3) := by decide +kernel
theorem dL_law_703 : decode cL_law 703 = .ok (.iconst 0, 1) := by decide +kernel
theorem dL_law_704 : decode cL_law 704 = .ok (.ireturn, 1) := by decide +kernel
theorem dL_law_705 : decode cL_law 705 = .ok (.iload 5, 2) := by decide +kernel
theorem dL_law_707 : decode cL_law 707 = .ok (.ifCond .ne 15, 3) := by decide +kernel
theorem dL_law_710 : decode cL_law 710 = .ok (.aload_n 3, 1) := by decide +kernel
theorem dL_law_711 : decode cL_law 711 = .ok (.iconst 0, 1) := by decide +kernel
theorem dL_law_712 : decode cL_law 712 = .ok (.laload, 1) := by decide +kernel
theorem dL_law_713 : decode cL_law 713 = .ok (.iload 6, 2) := by decide +kernel
theorem dL_law_715 : decode cL_law 715 = .ok (.i2l, 1) := by decide +kernel
theorem dL_law_716 : decode cL_law 716 = .ok (.lcmp, 1) := by decide +kernel
theorem dL_law_717 : decode cL_law 717 = .ok (.ifCond .eq 5, 3) := by decide +kernel
theorem dL_law_720 : decode cL_law 720 = .ok (.iconst 0, 1) := by decide +kernel
theorem dL_law_721 : decode cL_law 721 = .ok (.ireturn, 1) := by decide +kernel
theorem dL_law_722 : decode cL_law 722 = .ok (.goto 788, 3) := by decide +kernel
theorem dL_law_725 : decode cL_law 725 = .ok (.aload_n 1, 1) := by decide +kernel
theorem dL_law_726 : decode cL_law 726 = .ok (.aload_n 0, 1) := by decide +kernel
theorem dL_law_727 : decode cL_law 727 = .ok (.iload 4, 2) := by decide +kernel
theorem dL_law_729 : decode cL_law 729 = .ok (.iconst 1, 1) := by decide +kernel
theorem dL_law_730 : decode cL_law 730 = .ok (.iadd, 1) := by decide +kernel
theorem dL_law_731 : decode cL_law 731 = .ok (.iaload, 1) := by decide +kernel
theorem dL_law_732 : decode cL_law 732 = .ok (.aload_n 0, 1) := by decide +kernel
theorem dL_law_733 : decode cL_law 733 = .ok (.iload 4, 2) := by decide +kernel
theorem dL_law_735 : decode cL_law 735 = .ok (.iconst 2, 1) := by decide +kernel
theorem dL_law_736 : decode cL_law 736 = .ok (.iadd, 1) := by decide +kernel
theorem dL_law_737 : decode cL_law 737 = .ok (.iaload, 1) := by decide +kernel
theorem dL_law_738 : decode cL_law 738 = .ok (.aload_n 0, 1) := by decide +kernel
theorem dL_law_739 : decode cL_law 739 = .ok (.iload 4, 2) := by decide +kernel
theorem dL_law_741 : decode cL_law 741 = .ok (.iconst 3, 1) := by decide +kernel
theorem dL_law_742 : decode cL_law 742 = .ok (.iadd, 1) := by decide +kernel
theorem dL_law_743 : decode cL_law 743 = .ok (.iaload, 1) := by decide +kernel
theorem dL_law_744 : decode cL_law 744 = .ok (.aload_n 3, 1) := by decide +kernel
theorem dL_law_745 : decode cL_law 745 = .ok (.invokestatic 126, 3) := by decide +kernel
theorem dL_law_748 : decode cL_law 748 = .ok (.istore 5, 2) := by decide +kernel
theorem dL_law_750 : decode cL_law 750 = .ok (.aload_n 2, 1) := by decide +kernel
theorem dL_law_751 : decode cL_law 751 = .ok (.aload_n 0, 1) := by decide +kernel
theorem dL_law_752 : decode cL_law 752 = .ok (.iload 4, 2) := by decide +kernel
theorem dL_law_754 : decode cL_law 754 = .ok (.iconst 1, 1) := by decide +kernel
theorem dL_law_755 : decode cL_law 755 = .ok (.iadd, 1) := by decide +kernel
theorem dL_law_756 : decode cL_law 756 = .ok (.iaload, 1) := by decide +kernel
theorem dL_law_757 : decode cL_law 757 = .ok (.aload_n 0, 1) := by decide +kernel
theorem dL_law_758 : decode cL_law 758 = .ok (.iload 4, 2) := by decide +kernel
theorem dL_law_760 : decode cL_law 760 = .ok (.iconst 2, 1) := by decide +kernel
theorem dL_law_761 : decode cL_law 761 = .ok (.iadd, 1) := by decide +kernel
theorem dL_law_762 : decode cL_law 762 = .ok (.iaload, 1) := by decide +kernel
theorem dL_law_763 : decode cL_law 763 = .ok (.aload_n 0, 1) := by decide +kernel
theorem dL_law_764 : decode cL_law 764 = .ok (.iload 4, 2) := by decide +kernel
theorem dL_law_766 : decode cL_law 766 = .ok (.iconst 3, 1) := by decide +kernel
theorem dL_law_767 : decode cL_law 767 = .ok (.iadd, 1) := by decide +kernel
theorem dL_law_768 : decode cL_law 768 = .ok (.iaload, 1) := by decide +kernel
theorem dL_law_769 : decode cL_law 769 = .ok (.invokevirtual 128, 3) := by decide +kernel
theorem dL_law_772 : decode cL_law 772 = .ok (.istore 6, 2) := by decide +kernel
theorem dL_law_774 : decode cL_law 774 = .ok (.aload_n 2, 1) := by decide +kernel
theorem dL_law_775 : decode cL_law 775 = .ok (.invokevirtual 91, 3) := by decide +kernel
theorem dL_law_778 : decode cL_law 778 = .ok (.iload 5, 2) := by decide +kernel
theorem dL_law_780 : decode cL_law 780 = .ok (.if_icmp .eq 5, 3) := by decide +kernel
theorem dL_law_783 : decode cL_law 783 = .ok (.iconst 0, 1) := by decide +kernel
theorem dL_law_784 : decode cL_law 784 = .ok (.ireturn, 1) := by decide +kernel
theorem dL_law_785 : decode cL_law 785 = .ok (.iload 5, 2) := by decide +kernel
theorem dL_law_787 : decode cL_law 787 = .ok (.ifCond .ne 15, 3) := by decide +kernel
theorem dL_law_790 : decode cL_law 790 = .ok (.aload_n 3, 1) := by decide +kernel
theorem dL_law_791 : decode cL_law 791 = .ok (.iconst 0, 1) := by decide +kernel
theorem dL_law_792 : decode cL_law 792 = .ok (.laload, 1) := by decide +kernel
theorem dL_law_793 : decode cL_law 793 = .ok (.iload 6, 2) := by decide +kernel
theorem dL_law_795 : decode cL_law 795 = .ok (.i2l, 1) := by decide +kernel
theorem dL_law_796 : decode cL_law 796 = .ok (.lcmp, 1) := by decide +kernel
theorem dL_law_797 : decode cL_law 797 = .ok (.ifCond .eq 5, 3) := by decide +kernel
theorem dL_law_800 : decode cL_law 800 = .ok (.iconst 0, 1) := by decide +kernel
theorem dL_law_801 : decode cL_law 801 = .ok (.ireturn, 1) := by decide +kernel
theorem dL_law_802 : decode cL_law 802 = .ok (.goto 708, 3) := by decide +kernel
theorem dL_law_805 : decode cL_law 805 = .ok (.aload_n 1, 1) := by decide +kernel
theorem dL_law_806 : decode cL_law 806 = .ok (.aload_n 0, 1) := by decide +kernel
theorem dL_law_807 : decode cL_law 807 = .ok (.iload 4, 2) := by decide +kernel
theorem dL_law_809 : decode cL_law 809 = .ok (.iconst 1, 1) := by decide +kernel
theorem dL_law_810 : decode cL_law 810 = .ok (.iadd, 1) := by decide +kernel
theorem dL_law_811 : decode cL_law 811 = .ok (.iaload, 1) := by decide +kernel
theorem dL_law_812 : decode cL_law 812 = .ok (.aload_n 0, 1) := by decide +kernel
theorem dL_law_813 : decode cL_law 813 = .ok (.iload 4, 2) := by decide +kernel
theorem dL_law_815 : decode cL_law 815 = .ok (.iconst 2, 1) := by decide +kernel
theorem dL_law_816 : decode cL_law 816 = .ok (.iadd, 1) := by decide +kernel
theorem dL_law_817 : decode cL_law 817 = .ok (.iaload, 1) := by decide +kernel
theorem dL_law_818 : decode cL_law 818 = .ok (.aload_n 0, 1) := by decide +kernel
theorem dL_law_819 : decode cL_law 819 = .ok (.iload 4, 2) := by decide +kernel
theorem dL_law_821 : decode cL_law 821 = .ok (.iconst 3, 1) := by decide +kernel
theorem dL_law_822 : decode cL_law 822 = .ok (.iadd, 1) := by decide +kernel
theorem dL_law_823 : decode cL_law 823 = .ok (.iaload, 1) := by decide +kernel
theorem dL_law_824 : decode cL_law 824 = .ok (.aload_n 3, 1) := by decide +kernel
theorem dL_law_825 : decode cL_law 825 = .ok (.invokestatic 129, 3) := by decide +kernel
theorem dL_law_828 : decode cL_law 828 = .ok (.istore 5, 2) := by decide +kernel
theorem dL_law_830 : decode cL_law 830 = .ok (.aload_n 2, 1) := by decide +kernel
theorem dL_law_831 : decode cL_law 831 = .ok (.aload_n 0, 1) := by decide +kernel
theorem dL_law_832 : decode cL_law 832 = .ok (.iload 4, 2) := by decide +kernel
theorem dL_law_834 : decode cL_law 834 = .ok (.iconst 1, 1) := by decide +kernel
theorem dL_law_835 : decode cL_law 835 = .ok (.iadd, 1) := by decide +kernel
theorem dL_law_836 : decode cL_law 836 = .ok (.iaload, 1) := by decide +kernel
theorem dL_law_837 : decode cL_law 837 = .ok (.aload_n 0, 1) := by decide +kernel
theorem dL_law_838 : decode cL_law 838 = .ok (.iload 4, 2) := by decide +kernel
theorem dL_law_840 : decode cL_law 840 = .ok (.iconst 2, 1) := by decide +kernel
theorem dL_law_841 : decode cL_law 841 = .ok (.iadd, 1) := by decide +kernel
theorem dL_law_842 : decode cL_law 842 = .ok (.iaload, 1) := by decide +kernel
theorem dL_law_843 : decode cL_law 843 = .ok (.aload_n 0, 1) := by decide +kernel
theorem dL_law_844 : decode cL_law 844 = .ok (.iload 4, 2) := by decide +kernel
theorem dL_law_846 : decode cL_law 846 = .ok (.iconst 3, 1) := by decide +kernel
theorem dL_law_847 : decode cL_law 847 = .ok (.iadd, 1) := by decide +kernel
theorem dL_law_848 : decode cL_law 848 = .ok (.iaload, 1) := by decide +kernel
theorem dL_law_849 : decode cL_law 849 = .ok (.invokevirtual 131, 3) := by decide +kernel
theorem dL_law_852 : decode cL_law 852 = .ok (.istore 6, 2) := by decide +kernel
theorem dL_law_854 : decode cL_law 854 = .ok (.aload_n 2, 1) := by decide +kernel
theorem dL_law_855 : decode cL_law 855 = .ok (.invokevirtual 91, 3) := by decide +kernel
theorem dL_law_858 : decode cL_law 858 = .ok (.iload 5, 2) := by decide +kernel
theorem dL_law_860 : decode cL_law 860 = .ok (.if_icmp .eq 5, 3) := by decide +kernel
theorem dL_law_863 : decode cL_law 863 = .ok (.iconst 0, 1) := by decide +kernel
theorem dL_law_864 : decode cL_law 864 = .ok (.ireturn, 1) := by decide +kernel
theorem dL_law_865 : decode cL_law 865 = .ok (.iload 5, 2) := by decide +kernel
theorem dL_law_867 : decode cL_law 867 = .ok (.ifCond .ne 15, 3) := by decide +kernel
theorem dL_law_870 : decode cL_law 870 = .ok (.aload_n 3, 1) := by decide +kernel
theorem dL_law_871 : decode cL_law 871 = .ok (.iconst 0, 1) := by decide +kernel
theorem dL_law_872 : decode cL_law 872 = .ok (.laload, 1) := by decide +kernel
theorem dL_law_873 : decode cL_law 873 = .ok (.iload 6, 2) := by decide +kernel
theorem dL_law_875 : decode cL_law 875 = .ok (.i2l, 1) := by decide +kernel
theorem dL_law_876 : decode cL_law 876 = .ok (.lcmp, 1) := by decide +kernel
theorem dL_law_877 : decode cL_law 877 = .ok (.ifCond .eq 5, 3) := by decide +kernel
theorem dL_law_880 : decode cL_law 880 = .ok (.iconst 0, 1) := by decide +kernel
theorem dL_law_881 : decode cL_law 881 = .ok (.ireturn, 1) := by decide +kernel
theorem dL_law_882 : decode cL_law 882 = .ok (.goto 628, 3) := by decide +kernel
theorem dL_law_885 : decode cL_law 885 = .ok (.aload_n 1, 1) := by decide +kernel
theorem dL_law_886 : decode cL_law 886 = .ok (.aload_n 0, 1) := by decide +kernel
theorem dL_law_887 : decode cL_law 887 = .ok (.iload 4, 2) := by decide +kernel
theorem dL_law_889 : decode cL_law 889 = .ok (.iconst 1, 1) := by decide +kernel
theorem dL_law_890 : decode cL_law 890 = .ok (.iadd, 1) := by decide +kernel
theorem dL_law_891 : decode cL_law 891 = .ok (.iaload, 1) := by decide +kernel
theorem dL_law_892 : decode cL_law 892 = .ok (.aload_n 0, 1) := by decide +kernel
theorem dL_law_893 : decode cL_law 893 = .ok (.iload 4, 2) := by decide +kernel
theorem dL_law_895 : decode cL_law 895 = .ok (.iconst 2, 1) := by decide +kernel
theorem dL_law_896 : decode cL_law 896 = .ok (.iadd, 1) := by decide +kernel
theorem dL_law_897 : decode cL_law 897 = .ok (.iaload, 1) := by decide +kernel
theorem dL_law_898 : decode cL_law 898 = .ok (.aload_n 0, 1) := by decide +kernel
theorem dL_law_899 : decode cL_law 899 = .ok (.iload 4, 2) := by decide +kernel
theorem dL_law_901 : decode cL_law 901 = .ok (.iconst 3, 1) := by decide +kernel
theorem dL_law_902 : decode cL_law 902 = .ok (.iadd, 1) := by decide +kernel
theorem dL_law_903 : decode cL_law 903 = .ok (.iaload, 1) := by decide +kernel
theorem dL_law_904 : decode cL_law 904 = .ok (.aload_n 3, 1) := by decide +kernel
theorem dL_law_905 : decode cL_law 905 = .ok (.invokestatic 132, 3) := by decide +kernel
theorem dL_law_908 : decode cL_law 908 = .ok (.istore 5, 2) := by decide +kernel
theorem dL_law_910 : decode cL_law 910 = .ok (.aload_n 2, 1) := by decide +kernel
theorem dL_law_911 : decode cL_law 911 = .ok (.aload_n 0, 1) := by decide +kernel
theorem dL_law_912 : decode cL_law 912 = .ok (.iload 4, 2) := by decide +kernel
theorem dL_law_914 : decode cL_law 914 = .ok (.iconst 1, 1) := by decide +kernel
theorem dL_law_915 : decode cL_law 915 = .ok (.iadd, 1) := by decide +kernel
theorem dL_law_916 : decode cL_law 916 = .ok (.iaload, 1) := by decide +kernel
theorem dL_law_917 : decode cL_law 917 = .ok (.aload_n 0, 1) := by decide +kernel
theorem dL_law_918 : decode cL_law 918 = .ok (.iload 4, 2) := by decide +kernel
theorem dL_law_920 : decode cL_law 920 = .ok (.iconst 2, 1) := by decide +kernel
theorem dL_law_921 : decode cL_law 921 = .ok (.iadd, 1) := by decide +kernel
theorem dL_law_922 : decode cL_law 922 = .ok (.iaload, 1) := by decide +kernel
theorem dL_law_923 : decode cL_law 923 = .ok (.aload_n 0, 1) := by decide +kernel
theorem dL_law_924 : decode cL_law 924 = .ok (.iload 4, 2) := by decide +kernel
theorem dL_law_926 : decode cL_law 926 = .ok (.iconst 3, 1) := by decide +kernel
theorem dL_law_927 : decode cL_law 927 = .ok (.iadd, 1) := by decide +kernel
theorem dL_law_928 : decode cL_law 928 = .ok (.iaload, 1) := by decide +kernel
theorem dL_law_929 : decode cL_law 929 = .ok (.invokevirtual 134, 3) := by decide +kernel
theorem dL_law_932 : decode cL_law 932 = .ok (.istore 6, 2) := by decide +kernel
theorem dL_law_934 : decode cL_law 934 = .ok (.aload_n 2, 1) := by decide +kernel
theorem dL_law_935 : decode cL_law 935 = .ok (.invokevirtual 91, 3) := by decide +kernel
theorem dL_law_938 : decode cL_law 938 = .ok (.iload 5, 2) := by decide +kernel
theorem dL_law_940 : decode cL_law 940 = .ok (.if_icmp .eq 5, 3) := by decide +kernel
theorem dL_law_943 : decode cL_law 943 = .ok (.iconst 0, 1) := by decide +kernel
theorem dL_law_944 : decode cL_law 944 = .ok (.ireturn, 1) := by decide +kernel
theorem dL_law_945 : decode cL_law 945 = .ok (.iload 5, 2) := by decide +kernel
theorem dL_law_947 : decode cL_law 947 = .ok (.ifCond .ne 15, 3) := by decide +kernel
theorem dL_law_950 : decode cL_law 950 = .ok (.aload_n 3, 1) := by decide +kernel
theorem dL_law_951 : decode cL_law 951 = .ok (.iconst 0, 1) := by decide +kernel
theorem dL_law_952 : decode cL_law 952 = .ok (.laload, 1) := by decide +kernel
theorem dL_law_953 : decode cL_law 953 = .ok (.iload 6, 2) := by decide +kernel
theorem dL_law_955 : decode cL_law 955 = .ok (.i2l, 1) := by decide +kernel
theorem dL_law_956 : decode cL_law 956 = .ok (.lcmp, 1) := by decide +kernel
theorem dL_law_957 : decode cL_law 957 = .ok (.ifCond .eq 5, 3) := by decide +kernel
theorem dL_law_960 : decode cL_law 960 = .ok (.iconst 0, 1) := by decide +kernel
theorem dL_law_961 : decode cL_law 961 = .ok (.ireturn, 1) := by decide +kernel
theorem dL_law_962 : decode cL_law 962 = .ok (.goto 548, 3) := by decide +kernel
theorem dL_law_965 : decode cL_law 965 = .ok (.aload_n 1, 1) := by decide +kernel
theorem dL_law_966 : decode cL_law 966 = .ok (.aload_n 0, 1) := by decide +kernel
theorem dL_law_967 : decode cL_law 967 = .ok (.iload 4, 2) := by decide +kernel
theorem dL_law_969 : decode cL_law 969 = .ok (.iconst 1, 1) := by decide +kernel
theorem dL_law_970 : decode cL_law 970 = .ok (.iadd, 1) := by decide +kernel
theorem dL_law_971 : decode cL_law 971 = .ok (.iaload, 1) := by decide +kernel
theorem dL_law_972 : decode cL_law 972 = .ok (.aload_n 3, 1) := by decide +kernel
theorem dL_law_973 : decode cL_law 973 = .ok (.invokestatic 135, 3) := by decide +kernel
theorem dL_law_976 : decode cL_law 976 = .ok (.istore 5, 2) := by decide +kernel
theorem dL_law_978 : decode cL_law 978 = .ok (.aload_n 2, 1) := by decide +kernel
theorem dL_law_979 : decode cL_law 979 = .ok (.aload_n 0, 1) := by decide +kernel
theorem dL_law_980 : decode cL_law 980 = .ok (.iload 4, 2) := by decide +kernel
theorem dL_law_982 : decode cL_law 982 = .ok (.iconst 1, 1) := by decide +kernel
theorem dL_law_983 : decode cL_law 983 = .ok (.iadd, 1) := by decide +kernel
theorem dL_law_984 : decode cL_law 984 = .ok (.iaload, 1) := by decide +kernel
theorem dL_law_985 : decode cL_law 985 = .ok (.invokevirtual 137, 3) := by decide +kernel
theorem dL_law_988 : decode cL_law 988 = .ok (.istore 6, 2) := by decide +kernel
theorem dL_law_990 : decode cL_law 990 = .ok (.aload_n 2, 1) := by decide +kernel
theorem dL_law_991 : decode cL_law 991 = .ok (.invokevirtual 91, 3) := by decide +kernel
theorem dL_law_994 : decode cL_law 994 = .ok (.iload 5, 2) := by decide +kernel
theorem dL_law_996 : decode cL_law 996 = .ok (.if_icmp .eq 5, 3) := by decide +kernel
theorem dL_law_999 : decode cL_law 999 = .ok (.iconst 0, 1) := by decide +kernel
theorem dL_law_1000 : decode cL_law 1000 = .ok (.ireturn, 1) := by decide +kernel
theorem dL_law_1001 : decode cL_law 1001 = .ok (.iload 5, 2) := by decide +kernel
theorem dL_law_1003 : decode cL_law 1003 = .ok (.ifCond .ne 15, 3) := by decide +kernel
theorem dL_law_1006 : decode cL_law 1006 = .ok (.aload_n 3, 1) := by decide +kernel
theorem dL_law_1007 : decode cL_law 1007 = .ok (.iconst 0, 1) := by decide +kernel
theorem dL_law_1008 : decode cL_law 1008 = .ok (.laload, 1) := by decide +kernel
theorem dL_law_1009 : decode cL_law 1009 = .ok (.iload 6, 2) := by decide +kernel
theorem dL_law_1011 : decode cL_law 1011 = .ok (.i2l, 1) := by decide +kernel
theorem dL_law_1012 : decode cL_law 1012 = .ok (.lcmp, 1) := by decide +kernel
theorem dL_law_1013 : decode cL_law 1013 = .ok (.ifCond .eq 5, 3) := by decide +kernel
theorem dL_law_1016 : decode cL_law 1016 = .ok (.iconst 0, 1) := by decide +kernel
theorem dL_law_1017 : decode cL_law 1017 = .ok (.ireturn, 1) := by decide +kernel
theorem dL_law_1018 : decode cL_law 1018 = .ok (.goto 492, 3) := by decide +kernel
theorem dL_law_1021 : decode cL_law 1021 = .ok (.aload_n 1, 1) := by decide +kernel
theorem dL_law_1022 : decode cL_law 1022 = .ok (.aload_n 0, 1) := by decide +kernel
theorem dL_law_1023 : decode cL_law 1023 = .ok (.iload 4, 2) := by decide +kernel
theorem dL_law_1025 : decode cL_law 1025 = .ok (.iconst 1, 1) := by decide +kernel
theorem dL_law_1026 : decode cL_law 1026 = .ok (.iadd, 1) := by decide +kernel
theorem dL_law_1027 : decode cL_law 1027 = .ok (.iaload, 1) := by decide +kernel
theorem dL_law_1028 : decode cL_law 1028 = .ok (.aload_n 3, 1) := by decide +kernel
theorem dL_law_1029 : decode cL_law 1029 = .ok (.invokestatic 138, 3) := by decide +kernel
theorem dL_law_1032 : decode cL_law 1032 = .ok (.istore 5, 2) := by decide +kernel
theorem dL_law_1034 : decode cL_law 1034 = .ok (.aload_n 2, 1) := by decide +kernel
theorem dL_law_1035 : decode cL_law 1035 = .ok (.aload_n 0, 1) := by decide +kernel
theorem dL_law_1036 : decode cL_law 1036 = .ok (.iload 4, 2) := by decide +kernel
theorem dL_law_1038 : decode cL_law 1038 = .ok (.iconst 1, 1) := by decide +kernel
theorem dL_law_1039 : decode cL_law 1039 = .ok (.iadd, 1) := by decide +kernel
theorem dL_law_1040 : decode cL_law 1040 = .ok (.iaload, 1) := by decide +kernel
theorem dL_law_1041 : decode cL_law 1041 = .ok (.invokevirtual 140, 3) := by decide +kernel
end
section
theorem dL_law_1044 : decode cL_law 1044 = .ok (.istore 6, 2) := by decide +kernel
theorem dL_law_1046 : decode cL_law 1046 = .ok (.aload_n 2, 1) := by decide +kernel
theorem dL_law_1047 : decode cL_law 1047 = .ok (.invokevirtual 91, 3) := by decide +kernel
theorem dL_law_1050 : decode cL_law 1050 = .ok (.iload 5, 2) := by decide +kernel
theorem dL_law_1052 : decode cL_law 1052 = .ok (.if_icmp .eq 5, 3) := by decide +kernel
theorem dL_law_1055 : decode cL_law 1055 = .ok (.iconst 0, 1) := by decide +kernel
theorem dL_law_1056 : decode cL_law 1056 = .ok (.ireturn, 1) := by decide +kernel
theorem dL_law_1057 : decode cL_law 1057 = .ok (.iload 5, 2) := by decide +kernel
theorem dL_law_1059 : decode cL_law 1059 = .ok (.ifCond .ne 15, 3) := by decide +kernel
theorem dL_law_1062 : decode cL_law 1062 = .ok (.aload_n 3, 1) := by decide +kernel
theorem dL_law_1063 : decode cL_law 1063 = .ok (.iconst 0, 1) := by decide +kernel
theorem dL_law_1064 : decode cL_law 1064 = .ok (.laload, 1) := by decide +kernel
theorem dL_law_1065 : decode cL_law 1065 = .ok (.iload 6, 2) := by decide +kernel
theorem dL_law_1067 : decode cL_law 1067 = .ok (.i2l, 1) := by decide +kernel
theorem dL_law_1068 : decode cL_law 1068 = .ok (.lcmp, 1) := by decide +kernel
theorem dL_law_1069 : decode cL_law 1069 = .ok (.ifCond .eq 5, 3) := by decide +kernel
theorem dL_law_1072 : decode cL_law 1072 = .ok (.iconst 0, 1) := by decide +kernel
theorem dL_law_1073 : decode cL_law 1073 = .ok (.ireturn, 1) := by decide +kernel
theorem dL_law_1074 : decode cL_law 1074 = .ok (.goto 436, 3) := by decide +kernel
theorem dL_law_1077 : decode cL_law 1077 = .ok (.aload_n 1, 1) := by decide +kernel
theorem dL_law_1078 : decode cL_law 1078 = .ok (.aload_n 0, 1) := by decide +kernel
theorem dL_law_1079 : decode cL_law 1079 = .ok (.iload 4, 2) := by decide +kernel
theorem dL_law_1081 : decode cL_law 1081 = .ok (.iconst 1, 1) := by decide +kernel
theorem dL_law_1082 : decode cL_law 1082 = .ok (.iadd, 1) := by decide +kernel
theorem dL_law_1083 : decode cL_law 1083 = .ok (.iaload, 1) := by decide +kernel
theorem dL_law_1084 : decode cL_law 1084 = .ok (.aload_n 3, 1) := by decide +kernel
theorem dL_law_1085 : decode cL_law 1085 = .ok (.invokestatic 141, 3) := by decide +kernel
theorem dL_law_1088 : decode cL_law 1088 = .ok (.istore 5, 2) := by decide +kernel
theorem dL_law_1090 : decode cL_law 1090 = .ok (.aload_n 2, 1) := by decide +kernel
theorem dL_law_1091 : decode cL_law 1091 = .ok (.aload_n 0, 1) := by decide +kernel
theorem dL_law_1092 : decode cL_law 1092 = .ok (.iload 4, 2) := by decide +kernel
theorem dL_law_1094 : decode cL_law 1094 = .ok (.iconst 1, 1) := by decide +kernel
theorem dL_law_1095 : decode cL_law 1095 = .ok (.iadd, 1) := by decide +kernel
theorem dL_law_1096 : decode cL_law 1096 = .ok (.iaload, 1) := by decide +kernel
theorem dL_law_1097 : decode cL_law 1097 = .ok (.invokevirtual 143, 3) := by decide +kernel
theorem dL_law_1100 : decode cL_law 1100 = .ok (.istore 6, 2) := by decide +kernel
theorem dL_law_1102 : decode cL_law 1102 = .ok (.aload_n 2, 1) := by decide +kernel
theorem dL_law_1103 : decode cL_law 1103 = .ok (.invokevirtual 91, 3) := by decide +kernel
theorem dL_law_1106 : decode cL_law 1106 = .ok (.iload 5, 2) := by decide +kernel
theorem dL_law_1108 : decode cL_law 1108 = .ok (.if_icmp .eq 5, 3) := by decide +kernel
theorem dL_law_1111 : decode cL_law 1111 = .ok (.iconst 0, 1) := by decide +kernel
theorem dL_law_1112 : decode cL_law 1112 = .ok (.ireturn, 1) := by decide +kernel
theorem dL_law_1113 : decode cL_law 1113 = .ok (.iload 5, 2) := by decide +kernel
theorem dL_law_1115 : decode cL_law 1115 = .ok (.ifCond .ne 15, 3) := by decide +kernel
theorem dL_law_1118 : decode cL_law 1118 = .ok (.aload_n 3, 1) := by decide +kernel
theorem dL_law_1119 : decode cL_law 1119 = .ok (.iconst 0, 1) := by decide +kernel
theorem dL_law_1120 : decode cL_law 1120 = .ok (.laload, 1) := by decide +kernel
theorem dL_law_1121 : decode cL_law 1121 = .ok (.iload 6, 2) := by decide +kernel
theorem dL_law_1123 : decode cL_law 1123 = .ok (.i2l, 1) := by decide +kernel
theorem dL_law_1124 : decode cL_law 1124 = .ok (.lcmp, 1) := by decide +kernel
theorem dL_law_1125 : decode cL_law 1125 = .ok (.ifCond .eq 5, 3) := by decide +kernel
theorem dL_law_1128 : decode cL_law 1128 = .ok (.iconst 0, 1) := by decide +kernel
theorem dL_law_1129 : decode cL_law 1129 = .ok (.ireturn, 1) := by decide +kernel
theorem dL_law_1130 : decode cL_law 1130 = .ok (.goto 380, 3) := by decide +kernel
theorem dL_law_1133 : decode cL_law 1133 = .ok (.aload_n 1, 1) := by decide +kernel
theorem dL_law_1134 : decode cL_law 1134 = .ok (.aload_n 0, 1) := by decide +kernel
theorem dL_law_1135 : decode cL_law 1135 = .ok (.iload 4, 2) := by decide +kernel
theorem dL_law_1137 : decode cL_law 1137 = .ok (.iconst 1, 1) := by decide +kernel
theorem dL_law_1138 : decode cL_law 1138 = .ok (.iadd, 1) := by decide +kernel
theorem dL_law_1139 : decode cL_law 1139 = .ok (.iaload, 1) := by decide +kernel
theorem dL_law_1140 : decode cL_law 1140 = .ok (.aload_n 0, 1) := by decide +kernel
theorem dL_law_1141 : decode cL_law 1141 = .ok (.iload 4, 2) := by decide +kernel
theorem dL_law_1143 : decode cL_law 1143 = .ok (.iconst 2, 1) := by decide +kernel
theorem dL_law_1144 : decode cL_law 1144 = .ok (.iadd, 1) := by decide +kernel
theorem dL_law_1145 : decode cL_law 1145 = .ok (.iaload, 1) := by decide +kernel
theorem dL_law_1146 : decode cL_law 1146 = .ok (.aload_n 3, 1) := by decide +kernel
theorem dL_law_1147 : decode cL_law 1147 = .ok (.invokestatic 144, 3) := by decide +kernel
theorem dL_law_1150 : decode cL_law 1150 = .ok (.istore 5, 2) := by decide +kernel
theorem dL_law_1152 : decode cL_law 1152 = .ok (.aload_n 2, 1) := by decide +kernel
theorem dL_law_1153 : decode cL_law 1153 = .ok (.aload_n 0, 1) := by decide +kernel
theorem dL_law_1154 : decode cL_law 1154 = .ok (.iload 4, 2) := by decide +kernel
theorem dL_law_1156 : decode cL_law 1156 = .ok (.iconst 1, 1) := by decide +kernel
theorem dL_law_1157 : decode cL_law 1157 = .ok (.iadd, 1) := by decide +kernel
theorem dL_law_1158 : decode cL_law 1158 = .ok (.iaload, 1) := by decide +kernel
theorem dL_law_1159 : decode cL_law 1159 = .ok (.aload_n 0, 1) := by decide +kernel
theorem dL_law_1160 : decode cL_law 1160 = .ok (.iload 4, 2) := by decide +kernel
theorem dL_law_1162 : decode cL_law 1162 = .ok (.iconst 2, 1) := by decide +kernel
theorem dL_law_1163 : decode cL_law 1163 = .ok (.iadd, 1) := by decide +kernel
theorem dL_law_1164 : decode cL_law 1164 = .ok (.iaload, 1) := by decide +kernel
theorem dL_law_1165 : decode cL_law 1165 = .ok (.invokevirtual 146, 3) := by decide +kernel
theorem dL_law_1168 : decode cL_law 1168 = .ok (.istore 6, 2) := by decide +kernel
theorem dL_law_1170 : decode cL_law 1170 = .ok (.aload_n 2, 1) := by decide +kernel
theorem dL_law_1171 : decode cL_law 1171 = .ok (.invokevirtual 91, 3) := by decide +kernel
theorem dL_law_1174 : decode cL_law 1174 = .ok (.iload 5, 2) := by decide +kernel
theorem dL_law_1176 : decode cL_law 1176 = .ok (.if_icmp .eq 5, 3) := by decide +kernel
theorem dL_law_1179 : decode cL_law 1179 = .ok (.iconst 0, 1) := by decide +kernel
theorem dL_law_1180 : decode cL_law 1180 = .ok (.ireturn, 1) := by decide +kernel
theorem dL_law_1181 : decode cL_law 1181 = .ok (.iload 5, 2) := by decide +kernel
theorem dL_law_1183 : decode cL_law 1183 = .ok (.ifCond .ne 15, 3) := by decide +kernel
theorem dL_law_1186 : decode cL_law 1186 = .ok (.aload_n 3, 1) := by decide +kernel
theorem dL_law_1187 : decode cL_law 1187 = .ok (.iconst 0, 1) := by decide +kernel
theorem dL_law_1188 : decode cL_law 1188 = .ok (.laload, 1) := by decide +kernel
theorem dL_law_1189 : decode cL_law 1189 = .ok (.iload 6, 2) := by decide +kernel
theorem dL_law_1191 : decode cL_law 1191 = .ok (.i2l, 1) := by decide +kernel
theorem dL_law_1192 : decode cL_law 1192 = .ok (.lcmp, 1) := by decide +kernel
theorem dL_law_1193 : decode cL_law 1193 = .ok (.ifCond .eq 5, 3) := by decide +kernel
theorem dL_law_1196 : decode cL_law 1196 = .ok (.iconst 0, 1) := by decide +kernel
theorem dL_law_1197 : decode cL_law 1197 = .ok (.ireturn, 1) := by decide +kernel
theorem dL_law_1198 : decode cL_law 1198 = .ok (.goto 312, 3) := by decide +kernel
theorem dL_law_1201 : decode cL_law 1201 = .ok (.aload_n 1, 1) := by decide +kernel
theorem dL_law_1202 : decode cL_law 1202 = .ok (.aload_n 0, 1) := by decide +kernel
theorem dL_law_1203 : decode cL_law 1203 = .ok (.iload 4, 2) := by decide +kernel
theorem dL_law_1205 : decode cL_law 1205 = .ok (.iconst 1, 1) := by decide +kernel
theorem dL_law_1206 : decode cL_law 1206 = .ok (.iadd, 1) := by decide +kernel
theorem dL_law_1207 : decode cL_law 1207 = .ok (.iaload, 1) := by decide +kernel
theorem dL_law_1208 : decode cL_law 1208 = .ok (.aload_n 0, 1) := by decide +kernel
theorem dL_law_1209 : decode cL_law 1209 = .ok (.iload 4, 2) := by decide +kernel
theorem dL_law_1211 : decode cL_law 1211 = .ok (.iconst 2, 1) := by decide +kernel
theorem dL_law_1212 : decode cL_law 1212 = .ok (.iadd, 1) := by decide +kernel
theorem dL_law_1213 : decode cL_law 1213 = .ok (.iaload, 1) := by decide +kernel
theorem dL_law_1214 : decode cL_law 1214 = .ok (.aload_n 0, 1) := by decide +kernel
theorem dL_law_1215 : decode cL_law 1215 = .ok (.iload 4, 2) := by decide +kernel
theorem dL_law_1217 : decode cL_law 1217 = .ok (.iconst 3, 1) := by decide +kernel
theorem dL_law_1218 : decode cL_law 1218 = .ok (.iadd, 1) := by decide +kernel
theorem dL_law_1219 : decode cL_law 1219 = .ok (.iaload, 1) := by decide +kernel
theorem dL_law_1220 : decode cL_law 1220 = .ok (.aload_n 3, 1) := by decide +kernel
theorem dL_law_1221 : decode cL_law 1221 = .ok (.invokestatic 147, 3) := by decide +kernel
theorem dL_law_1224 : decode cL_law 1224 = .ok (.istore 5, 2) := by decide +kernel
theorem dL_law_1226 : decode cL_law 1226 = .ok (.aload_n 2, 1) := by decide +kernel
theorem dL_law_1227 : decode cL_law 1227 = .ok (.aload_n 0, 1) := by decide +kernel
theorem dL_law_1228 : decode cL_law 1228 = .ok (.iload 4, 2) := by decide +kernel
theorem dL_law_1230 : decode cL_law 1230 = .ok (.iconst 1, 1) := by decide +kernel
theorem dL_law_1231 : decode cL_law 1231 = .ok (.iadd, 1) := by decide +kernel
theorem dL_law_1232 : decode cL_law 1232 = .ok (.iaload, 1) := by decide +kernel
theorem dL_law_1233 : decode cL_law 1233 = .ok (.aload_n 0, 1) := by decide +kernel
theorem dL_law_1234 : decode cL_law 1234 = .ok (.iload 4, 2) := by decide +kernel
theorem dL_law_1236 : decode cL_law 1236 = .ok (.iconst 2, 1) := by decide +kernel
theorem dL_law_1237 : decode cL_law 1237 = .ok (.iadd, 1) := by decide +kernel
theorem dL_law_1238 : decode cL_law 1238 = .ok (.iaload, 1) := by decide +kernel
theorem dL_law_1239 : decode cL_law 1239 = .ok (.aload_n 0, 1) := by decide +kernel
theorem dL_law_1240 : decode cL_law 1240 = .ok (.iload 4, 2) := by decide +kernel
theorem dL_law_1242 : decode cL_law 1242 = .ok (.iconst 3, 1) := by decide +kernel
theorem dL_law_1243 : decode cL_law 1243 = .ok (.iadd, 1) := by decide +kernel
theorem dL_law_1244 : decode cL_law 1244 = .ok (.iaload, 1) := by decide +kernel
theorem dL_law_1245 : decode cL_law 1245 = .ok (.invokevirtual 149, 3) := by decide +kernel
theorem dL_law_1248 : decode cL_law 1248 = .ok (.istore 6, 2) := by decide +kernel
theorem dL_law_1250 : decode cL_law 1250 = .ok (.aload_n 2, 1) := by decide +kernel
theorem dL_law_1251 : decode cL_law 1251 = .ok (.invokevirtual 91, 3) := by decide +kernel
theorem dL_law_1254 : decode cL_law 1254 = .ok (.iload 5, 2) := by decide +kernel
theorem dL_law_1256 : decode cL_law 1256 = .ok (.if_icmp .eq 5, 3) := by decide +kernel
theorem dL_law_1259 : decode cL_law 1259 = .ok (.iconst 0, 1) := by decide +kernel
theorem dL_law_1260 : decode cL_law 1260 = .ok (.ireturn, 1) := by decide +kernel
theorem dL_law_1261 : decode cL_law 1261 = .ok (.iload 5, 2) := by decide +kernel
theorem dL_law_1263 : decode cL_law 1263 = .ok (.ifCond .ne 15, 3) := by decide +kernel
theorem dL_law_1266 : decode cL_law 1266 = .ok (.aload_n 3, 1) := by decide +kernel
theorem dL_law_1267 : decode cL_law 1267 = .ok (.iconst 0, 1) := by decide +kernel
theorem dL_law_1268 : decode cL_law 1268 = .ok (.laload, 1) := by decide +kernel
theorem dL_law_1269 : decode cL_law 1269 = .ok (.iload 6, 2) := by decide +kernel
theorem dL_law_1271 : decode cL_law 1271 = .ok (.i2l, 1) := by decide +kernel
theorem dL_law_1272 : decode cL_law 1272 = .ok (.lcmp, 1) := by decide +kernel
theorem dL_law_1273 : decode cL_law 1273 = .ok (.ifCond .eq 5, 3) := by decide +kernel
theorem dL_law_1276 : decode cL_law 1276 = .ok (.iconst 0, 1) := by decide +kernel
theorem dL_law_1277 : decode cL_law 1277 = .ok (.ireturn, 1) := by decide +kernel
theorem dL_law_1278 : decode cL_law 1278 = .ok (.goto 232, 3) := by decide +kernel
theorem dL_law_1281 : decode cL_law 1281 = .ok (.aload_n 1, 1) := by decide +kernel
theorem dL_law_1282 : decode cL_law 1282 = .ok (.aload_n 0, 1) := by decide +kernel
theorem dL_law_1283 : decode cL_law 1283 = .ok (.iload 4, 2) := by decide +kernel
theorem dL_law_1285 : decode cL_law 1285 = .ok (.iconst 1, 1) := by decide +kernel
theorem dL_law_1286 : decode cL_law 1286 = .ok (.iadd, 1) := by decide +kernel
theorem dL_law_1287 : decode cL_law 1287 = .ok (.iaload, 1) := by decide +kernel
theorem dL_law_1288 : decode cL_law 1288 = .ok (.aload_n 3, 1) := by decide +kernel
theorem dL_law_1289 : decode cL_law 1289 = .ok (.invokestatic 150, 3) := by decide +kernel
theorem dL_law_1292 : decode cL_law 1292 = .ok (.istore 5, 2) := by decide +kernel
theorem dL_law_1294 : decode cL_law 1294 = .ok (.aload_n 2, 1) := by decide +kernel
theorem dL_law_1295 : decode cL_law 1295 = .ok (.aload_n 0, 1) := by decide +kernel
theorem dL_law_1296 : decode cL_law 1296 = .ok (.iload 4, 2) := by decide +kernel
theorem dL_law_1298 : decode cL_law 1298 = .ok (.iconst 1, 1) := by decide +kernel
theorem dL_law_1299 : decode cL_law 1299 = .ok (.iadd, 1) := by decide +kernel
theorem dL_law_1300 : decode cL_law 1300 = .ok (.iaload, 1) := by decide +kernel
theorem dL_law_1301 : decode cL_law 1301 = .ok (.invokevirtual 152, 3) := by decide +kernel
theorem dL_law_1304 : decode cL_law 1304 = .ok (.istore 6, 2) := by decide +kernel
theorem dL_law_1306 : decode cL_law 1306 = .ok (.aload_n 2, 1) := by decide +kernel
theorem dL_law_1307 : decode cL_law 1307 = .ok (.invokevirtual 91, 3) := by decide +kernel
theorem dL_law_1310 : decode cL_law 1310 = .ok (.iload 5, 2) := by decide +kernel
theorem dL_law_1312 : decode cL_law 1312 = .ok (.if_icmp .eq 5, 3) := by decide +kernel
theorem dL_law_1315 : decode cL_law 1315 = .ok (.iconst 0, 1) := by decide +kernel
theorem dL_law_1316 : decode cL_law 1316 = .ok (.ireturn, 1) := by decide +kernel
theorem dL_law_1317 : decode cL_law 1317 = .ok (.iload 5, 2) := by decide +kernel
theorem dL_law_1319 : decode cL_law 1319 = .ok (.ifCond .ne 15, 3) := by decide +kernel
theorem dL_law_1322 : decode cL_law 1322 = .ok (.aload_n 3, 1) := by decide +kernel
theorem dL_law_1323 : decode cL_law 1323 = .ok (.iconst 0, 1) := by decide +kernel
theorem dL_law_1324 : decode cL_law 1324 = .ok (.laload, 1) := by decide +kernel
theorem dL_law_1325 : decode cL_law 1325 = .ok (.iload 6, 2) := by decide +kernel
theorem dL_law_1327 : decode cL_law 1327 = .ok (.i2l, 1) := by decide +kernel
theorem dL_law_1328 : decode cL_law 1328 = .ok (.lcmp, 1) := by decide +kernel
theorem dL_law_1329 : decode cL_law 1329 = .ok (.ifCond .eq 5, 3) := by decide +kernel
theorem dL_law_1332 : decode cL_law 1332 = .ok (.iconst 0, 1) := by decide +kernel
theorem dL_law_1333 : decode cL_law 1333 = .ok (.ireturn, 1) := by decide +kernel
theorem dL_law_1334 : decode cL_law 1334 = .ok (.goto 176, 3) := by decide +kernel
theorem dL_law_1337 : decode cL_law 1337 = .ok (.aload_n 1, 1) := by decide +kernel
theorem dL_law_1338 : decode cL_law 1338 = .ok (.aload_n 0, 1) := by decide +kernel
theorem dL_law_1339 : decode cL_law 1339 = .ok (.iload 4, 2) := by decide +kernel
theorem dL_law_1341 : decode cL_law 1341 = .ok (.iconst 1, 1) := by decide +kernel
theorem dL_law_1342 : decode cL_law 1342 = .ok (.iadd, 1) := by decide +kernel
theorem dL_law_1343 : decode cL_law 1343 = .ok (.iaload, 1) := by decide +kernel
theorem dL_law_1344 : decode cL_law 1344 = .ok (.aload_n 0, 1) := by decide +kernel
theorem dL_law_1345 : decode cL_law 1345 = .ok (.iload 4, 2) := by decide +kernel
theorem dL_law_1347 : decode cL_law 1347 = .ok (.iconst 2, 1) := by decide +kernel
theorem dL_law_1348 : decode cL_law 1348 = .ok (.iadd, 1) := by decide +kernel
theorem dL_law_1349 : decode cL_law 1349 = .ok (.iaload, 1) := by decide +kernel
theorem dL_law_1350 : decode cL_law 1350 = .ok (.aload_n 0, 1) := by decide +kernel
theorem dL_law_1351 : decode cL_law 1351 = .ok (.iload 4, 2) := by decide +kernel
theorem dL_law_1353 : decode cL_law 1353 = .ok (.iconst 3, 1) := by decide +kernel
theorem dL_law_1354 : decode cL_law 1354 = .ok (.iadd, 1) := by decide +kernel
theorem dL_law_1355 : decode cL_law 1355 = .ok (.iaload, 1) := by decide +kernel
theorem dL_law_1356 : decode cL_law 1356 = .ok (.aload_n 0, 1) := by decide +kernel
theorem dL_law_1357 : decode cL_law 1357 = .ok (.iload 4, 2) := by decide +kernel
theorem dL_law_1359 : decode cL_law 1359 = .ok (.iconst 4, 1) := by decide +kernel
theorem dL_law_1360 : decode cL_law 1360 = .ok (.iadd, 1) := by decide +kernel
theorem dL_law_1361 : decode cL_law 1361 = .ok (.iaload, 1) := by decide +kernel
theorem dL_law_1362 : decode cL_law 1362 = .ok (.aload_n 0, 1) := by decide +kernel
theorem dL_law_1363 : decode cL_law 1363 = .ok (.iload 4, 2) := by decide +kernel
theorem dL_law_1365 : decode cL_law 1365 = .ok (.iconst 5, 1) := by decide +kernel
theorem dL_law_1366 : decode cL_law 1366 = .ok (.iadd, 1) := by decide +kernel
theorem dL_law_1367 : decode cL_law 1367 = .ok (.iaload, 1) := by decide +kernel
theorem dL_law_1368 : decode cL_law 1368 = .ok (.aload_n 3, 1) := by decide +kernel
theorem dL_law_1369 : decode cL_law 1369 = .ok (.invokestatic 153, 3) := by decide +kernel
theorem dL_law_1372 : decode cL_law 1372 = .ok (.istore 5, 2) := by decide +kernel
theorem dL_law_1374 : decode cL_law 1374 = .ok (.aload_n 2, 1) := by decide +kernel
theorem dL_law_1375 : decode cL_law 1375 = .ok (.aload_n 0, 1) := by decide +kernel
theorem dL_law_1376 : decode cL_law 1376 = .ok (.iload 4, 2) := by decide +kernel
theorem dL_law_1378 : decode cL_law 1378 = .ok (.iconst 1, 1) := by decide +kernel
theorem dL_law_1379 : decode cL_law 1379 = .ok (.iadd, 1) := by decide +kernel
theorem dL_law_1380 : decode cL_law 1380 = .ok (.iaload, 1) := by decide +kernel
theorem dL_law_1381 : decode cL_law 1381 = .ok (.aload_n 0, 1) := by decide +kernel
theorem dL_law_1382 : decode cL_law 1382 = .ok (.iload 4, 2) := by decide +kernel
theorem dL_law_1384 : decode cL_law 1384 = .ok (.iconst 2, 1) := by decide +kernel
theorem dL_law_1385 : decode cL_law 1385 = .ok (.iadd, 1) := by decide +kernel
theorem dL_law_1386 : decode cL_law 1386 = .ok (.iaload, 1) := by decide +kernel
theorem dL_law_1387 : decode cL_law 1387 = .ok (.aload_n 0, 1) := by decide +kernel
theorem dL_law_1388 : decode cL_law 1388 = .ok (.iload 4, 2) := by decide +kernel
theorem dL_law_1390 : decode cL_law 1390 = .ok (.iconst 3, 1) := by decide +kernel
theorem dL_law_1391 : decode cL_law 1391 = .ok (.iadd, 1) := by decide +kernel
theorem dL_law_1392 : decode cL_law 1392 = .ok (.iaload, 1) := by decide +kernel
theorem dL_law_1393 : decode cL_law 1393 = .ok (.aload_n 0, 1) := by decide +kernel
theorem dL_law_1394 : decode cL_law 1394 = .ok (.iload 4, 2) := by decide +kernel
theorem dL_law_1396 : decode cL_law 1396 = .ok (.iconst 4, 1) := by decide +kernel
theorem dL_law_1397 : decode cL_law 1397 = .ok (.iadd, 1) := by decide +kernel
theorem dL_law_1398 : decode cL_law 1398 = .ok (.iaload, 1) := by decide +kernel
theorem dL_law_1399 : decode cL_law 1399 = .ok (.aload_n 0, 1) := by decide +kernel
theorem dL_law_1400 : decode cL_law 1400 = .ok (.iload 4, 2) := by decide +kernel
theorem dL_law_1402 : decode cL_law 1402 = .ok (.iconst 5, 1) := by decide +kernel
theorem dL_law_1403 : decode cL_law 1403 = .ok (.iadd, 1) := by decide +kernel
theorem dL_law_1404 : decode cL_law 1404 = .ok (.iaload, 1) := by decide +kernel
theorem dL_law_1405 : decode cL_law 1405 = .ok (.invokevirtual 156, 3) := by decide +kernel
theorem dL_law_1408 : decode cL_law 1408 = .ok (.istore 6, 2) := by decide +kernel
theorem dL_law_1410 : decode cL_law 1410 = .ok (.aload_n 2, 1) := by decide +kernel
theorem dL_law_1411 : decode cL_law 1411 = .ok (.invokevirtual 91, 3) := by decide +kernel
theorem dL_law_1414 : decode cL_law 1414 = .ok (.iload 5, 2) := by decide +kernel
theorem dL_law_1416 : decode cL_law 1416 = .ok (.if_icmp .eq 5, 3) := by decide +kernel
theorem dL_law_1419 : decode cL_law 1419 = .ok (.iconst 0, 1) := by decide +kernel
theorem dL_law_1420 : decode cL_law 1420 = .ok (.ireturn, 1) := by decide +kernel
theorem dL_law_1421 : decode cL_law 1421 = .ok (.iload 5, 2) := by decide +kernel
theorem dL_law_1423 : decode cL_law 1423 = .ok (.ifCond .ne 15, 3) := by decide +kernel
theorem dL_law_1426 : decode cL_law 1426 = .ok (.aload_n 3, 1) := by decide +kernel
theorem dL_law_1427 : decode cL_law 1427 = .ok (.iconst 0, 1) := by decide +kernel
theorem dL_law_1428 : decode cL_law 1428 = .ok (.laload, 1) := by decide +kernel
theorem dL_law_1429 : decode cL_law 1429 = .ok (.iload 6, 2) := by decide +kernel
theorem dL_law_1431 : decode cL_law 1431 = .ok (.i2l, 1) := by decide +kernel
theorem dL_law_1432 : decode cL_law 1432 = .ok (.lcmp, 1) := by decide +kernel
theorem dL_law_1433 : decode cL_law 1433 = .ok (.ifCond .eq 5, 3) := by decide +kernel
theorem dL_law_1436 : decode cL_law 1436 = .ok (.iconst 0, 1) := by decide +kernel
theorem dL_law_1437 : decode cL_law 1437 = .ok (.ireturn, 1) := by decide +kernel
theorem dL_law_1438 : decode cL_law 1438 = .ok (.goto 72, 3) := by decide +kernel
theorem dL_law_1441 : decode cL_law 1441 = .ok (.aload_n 1, 1) := by decide +kernel
theorem dL_law_1442 : decode cL_law 1442 = .ok (.aload_n 0, 1) := by decide +kernel
theorem dL_law_1443 : decode cL_law 1443 = .ok (.iload 4, 2) := by decide +kernel
theorem dL_law_1445 : decode cL_law 1445 = .ok (.iconst 1, 1) := by decide +kernel
theorem dL_law_1446 : decode cL_law 1446 = .ok (.iadd, 1) := by decide +kernel
theorem dL_law_1447 : decode cL_law 1447 = .ok (.iaload, 1) := by decide +kernel
theorem dL_law_1448 : decode cL_law 1448 = .ok (.aload_n 3, 1) := by decide +kernel
theorem dL_law_1449 : decode cL_law 1449 = .ok (.invokestatic 157, 3) := by decide +kernel
theorem dL_law_1452 : decode cL_law 1452 = .ok (.istore 5, 2) := by decide +kernel
theorem dL_law_1454 : decode cL_law 1454 = .ok (.aload_n 2, 1) := by decide +kernel
theorem dL_law_1455 : decode cL_law 1455 = .ok (.aload_n 0, 1) := by decide +kernel
theorem dL_law_1456 : decode cL_law 1456 = .ok (.iload 4, 2) := by decide +kernel
theorem dL_law_1458 : decode cL_law 1458 = .ok (.iconst 1, 1) := by decide +kernel
theorem dL_law_1459 : decode cL_law 1459 = .ok (.iadd, 1) := by decide +kernel
theorem dL_law_1460 : decode cL_law 1460 = .ok (.iaload, 1) := by decide +kernel
theorem dL_law_1461 : decode cL_law 1461 = .ok (.invokevirtual 159, 3) := by decide +kernel
theorem dL_law_1464 : decode cL_law 1464 = .ok (.istore 6, 2) := by decide +kernel
theorem dL_law_1466 : decode cL_law 1466 = .ok (.aload_n 2, 1) := by decide +kernel
theorem dL_law_1467 : decode cL_law 1467 = .ok (.invokevirtual 91, 3) := by decide +kernel
theorem dL_law_1470 : decode cL_law 1470 = .ok (.iload 5, 2) := by decide +kernel
theorem dL_law_1472 : decode cL_law 1472 = .ok (.if_icmp .eq 5, 3) := by decide +kernel
theorem dL_law_1475 : decode cL_law 1475 = .ok (.iconst 0, 1) := by decide +kernel
theorem dL_law_1476 : decode cL_law 1476 = .ok (.ireturn, 1) := by decide +kernel
theorem dL_law_1477 : decode cL_law 1477 = .ok (.iload 5, 2) := by decide +kernel
theorem dL_law_1479 : decode cL_law 1479 = .ok (.ifCond .ne 15, 3) := by decide +kernel
theorem dL_law_1482 : decode cL_law 1482 = .ok (.aload_n 3, 1) := by decide +kernel
theorem dL_law_1483 : decode cL_law 1483 = .ok (.iconst 0, 1) := by decide +kernel
theorem dL_law_1484 : decode cL_law 1484 = .ok (.laload, 1) := by decide +kernel
theorem dL_law_1485 : decode cL_law 1485 = .ok (.iload 6, 2) := by decide +kernel
theorem dL_law_1487 : decode cL_law 1487 = .ok (.i2l, 1) := by decide +kernel
theorem dL_law_1488 : decode cL_law 1488 = .ok (.lcmp, 1) := by decide +kernel
theorem dL_law_1489 : decode cL_law 1489 = .ok (.ifCond .eq 5, 3) := by decide +kernel
theorem dL_law_1492 : decode cL_law 1492 = .ok (.iconst 0, 1) := by decide +kernel
theorem dL_law_1493 : decode cL_law 1493 = .ok (.ireturn, 1) := by decide +kernel
theorem dL_law_1494 : decode cL_law 1494 = .ok (.goto 16, 3) := by decide +kernel
theorem dL_law_1497 : decode cL_law 1497 = .ok (.aload_n 1, 1) := by decide +kernel
theorem dL_law_1498 : decode cL_law 1498 = .ok (.invokevirtual 160, 3) := by decide +kernel
theorem dL_law_1501 : decode cL_law 1501 = .ok (.aload_n 2, 1) := by decide +kernel
theorem dL_law_1502 : decode cL_law 1502 = .ok (.invokevirtual 163, 3) := by decide +kernel
theorem dL_law_1505 : decode cL_law 1505 = .ok (.if_icmp .eq 5, 3) := by decide +kernel
theorem dL_law_1508 : decode cL_law 1508 = .ok (.iconst 0, 1) := by decide +kernel
theorem dL_law_1509 : decode cL_law 1509 = .ok (.ireturn, 1) := by decide +kernel
theorem dL_law_1510 : decode cL_law 1510 = .ok (.iinc 4 6, 3) := by decide +kernel
theorem dL_law_1513 : decode cL_law 1513 = .ok (.goto (-1490), 3) := by decide +kernel
theorem dL_law_1516 : decode cL_law 1516 = .ok (.iconst 1, 1) := by decide +kernel
theorem dL_law_1517 : decode cL_law 1517 = .ok (.ireturn, 1) := by decide +kernel
end
section
/-! ===== the world of this claim: each thing by its kind and number; its ints by a third number ===== -/
abbrev St : Type := Nat → Nat → Nat → Int32
def up (σ : St) (k i j : Nat) (x : Int32) : St := fun k' i' => if k' = k ∧ i' = i then upd (σ k i) j x else σ k' i'
theorem up_app (σ : St) (k i j : Nat) (x : Int32) (k' i' j' : Nat) : up σ k i j x k' i' j' = if k' = k ∧ i' = i ∧ j' = j then x else σ k' i' j' := by
  unfold up upd
  by_cases h : k' = k ∧ i' = i
  · obtain ⟨rfl, rfl⟩ := h
    by_cases hj : j' = j <;> simp [hj]
  · rw [if_neg h]
    by_cases h1 : k' = k
    · have h2 : ¬ i' = i := fun q => h ⟨h1, q⟩
      simp [h1, h2]
    · simp [h1]
theorem up_eq {σ : St} {k i j : Nat} {x : Int32} : up σ k i j x k i = upd (σ k i) j x := by
  unfold up
  rw [if_pos ⟨rfl, rfl⟩]
theorem up_ne {σ : St} {k i j : Nat} {x : Int32} {k' i' : Nat} (h : ¬ (k' = k ∧ i' = i)) : up σ k i j x k' i' = σ k' i' := by
  unfold up
  rw [if_neg h]
/-- how many things of a kind -/
def nk : Nat → Nat := fun k => match k with
  | 10 => 16
  | 11 => 8
  | 12 => 8
  | 13 => 8
  | 14 => 8
  | 15 => 5
  | 16 => 20
  | _ => 1
/-- what a thing is: its references stand, its ints are g -/
def cf (ad : Nat → Nat → Nat) (cy : Nat → ClassId) (k i : Nat) (g : Nat → Int32) : va_E := match k with
  | 0 => .inr (5, [.ref (ad 1 0), .ref (ad 2 0), .ref (ad 3 0), .ref (ad 4 0), .ref (ad 5 0), .ref (ad 6 0), .int (g 6), .int (g 7), .int (g 8), .int (g 9)])
  | 1 => .inl (cy 3, 8, .inr (.inr (.inr (.inr (fun j => some (ad 11 j))))))
  | 2 => .inl (cy 4, 8, .inr (.inr (.inr (.inr (fun j => some (ad 13 j))))))
  | 3 => .inl (cy 5, 5, .inr (.inr (.inr (.inr (fun j => some (ad 15 j))))))
  | 4 => .inl (cy 6, 20, .inr (.inr (.inr (.inr (fun j => some (ad 16 j))))))
  | 5 => .inl (cy 0, 4, .inl g)
  | 6 => .inr (0, [.ref (ad 7 0), .ref (ad 8 0), .ref (ad 9 0), .int (g 3), .int (g 4)])
  | 7 => .inl (cy 0, 16, .inl g)
  | 8 => .inl (cy 7, 16, .inr (.inr (.inr (.inr (fun j => some (ad 10 j))))))
  | 9 => .inl (cy 0, 16, .inl g)
  | 10 => .inl (cy 0, 14, .inl g)
  | 11 => .inr (3, [.ref (ad 12 i), .int (g 1)])
  | 12 => .inl (cy 0, 16, .inl g)
  | 13 => .inr (1, [.ref (ad 14 i), .int (g 1), .int (g 2)])
  | 14 => .inl (cy 0, 4, .inl g)
  | 15 => .inr (4, [.int (g 0), .int (g 1)])
  | 16 => .inr (2, [.int (g 0), .int (g 1), .int (g 2), .int (g 3)])
  | 17 => .inr (6, [.int (g 0), .int (g 1), .ref (ad 18 0), .ref (ad 19 0), .int (g 4), .ref (ad 20 0), .ref (ad 21 0), .ref (ad 22 0), .ref (ad 23 0), .ref (ad 24 0), .ref (ad 25 0), .int (g 11), .ref (ad 26 0), .ref (ad 27 0), .ref (ad 28 0), .ref (ad 29 0), .ref (ad 30 0), .ref (ad 31 0), .int (g 18)])
  | 18 => .inl (cy 0, 8, .inl g)
  | 19 => .inl (cy 0, 128, .inl g)
  | 20 => .inl (cy 0, 8, .inl g)
  | 21 => .inl (cy 0, 8, .inl g)
  | 22 => .inl (cy 0, 32, .inl g)
  | 23 => .inl (cy 0, 5, .inl g)
  | 24 => .inl (cy 0, 5, .inl g)
  | 25 => .inl (cy 0, 4, .inl g)
  | 26 => .inl (cy 0, 20, .inl g)
  | 27 => .inl (cy 0, 20, .inl g)
  | 28 => .inl (cy 0, 20, .inl g)
  | 29 => .inl (cy 1, 20, .inl g)
  | 30 => .inl (cy 0, 238, .inl g)
  | 31 => .inl (cy 0, 16, .inl g)
  | _ => .inl (cy 2, 1, .inr (.inl (fun j => (g j).toInt64)))
def tysL (cy : Nat → ClassId) : List (ClassId × FieldType) := [(cy 0, .int), (cy 1, .boolean), (cy 2, .long), (cy 3, .object RX3), (cy 4, .object RX1), (cy 5, .object RX4), (cy 6, .object RX2), (cy 7, .array .int)]
def IX : List (Nat × Nat) := (List.range 33).flatMap (fun k => (List.range (nk k)).map (fun i => (k, i)))
theorem IX_nodup : IX.Nodup := by decide +kernel
theorem IX_mem {k i : Nat} (hk : k < 33) (hi : i < nk k) : (k, i) ∈ IX := List.mem_flatMap.mpr ⟨k, List.mem_range.mpr hk, List.mem_map.mpr ⟨i, List.mem_range.mpr hi, rfl⟩⟩
theorem IX_of {q : Nat × Nat} (h : q ∈ IX) : q.1 < 33 ∧ q.2 < nk q.1 := by
  obtain ⟨k, hk, h2⟩ := List.mem_flatMap.mp h
  obtain ⟨i, hi, rfl⟩ := List.mem_map.mp h2
  exact ⟨List.mem_range.mp hk, List.mem_range.mp hi⟩
theorem IX_at {k i : Nat} (hk : k < 33) (hi : i < nk k) : ∃ j : Nat, IX[j]? = some (k, i) := List.getElem?_of_mem (IX_mem hk hi)
/-- the world: its cells in a row -/
def WLg (I : List (Nat × Nat)) (ad : Nat → Nat → Nat) (cy : Nat → ClassId) (σ : St) : va_W := I.map (fun q => (ad q.1 q.2, cf ad cy q.1 q.2 (σ q.1 q.2)))
def WL (ad : Nat → Nat → Nat) (cy : Nat → ClassId) (σ : St) : va_W := WLg IX ad cy σ
theorem WLg_at {I : List (Nat × Nat)} {ad : Nat → Nat → Nat} {cy : Nat → ClassId} {σ : St} {k i j : Nat} (h : I[j]? = some (k, i)) : (WLg I ad cy σ)[j]? = some (ad k i, cf ad cy k i (σ k i)) := by
  unfold WLg
  rw [List.getElem?_map, h]
  rfl
theorem WLg_set {I : List (Nat × Nat)} (hI : I.Nodup) {ad : Nat → Nat → Nat} {cy : Nat → ClassId} {σ : St} {k i j f : Nat} {x : Int32} (h : I[j]? = some (k, i)) : (WLg I ad cy σ).set j (ad k i, cf ad cy k i (upd (σ k i) f x)) = WLg I ad cy (up σ k i f x) := by
  apply List.ext_getElem?
  intro n
  have hj : j < I.length := (List.getElem?_eq_some_iff.mp h).1
  by_cases hn : n = j
  · subst hn
    rw [List.getElem?_set_self (by unfold WLg; rw [List.length_map]; exact hj), WLg_at h, up_eq]
  · rw [List.getElem?_set_ne (Ne.symm hn)]
    unfold WLg
    rw [List.getElem?_map, List.getElem?_map]
    cases hq : I[n]? with
    | none => rw [Option.map_none, Option.map_none]
    | some q =>
      have hne : ¬ (q.1 = k ∧ q.2 = i) := by
        rintro ⟨h1, h2⟩
        have e : q = (k, i) := Prod.ext h1 h2
        rw [e] at hq
        exact hn ((List.getElem?_inj (List.getElem?_eq_some_iff.mp hq).1 hI).mp (hq.trans h.symm))
      rw [Option.map_some, Option.map_some, up_ne hne]
theorem WLg_key {I : List (Nat × Nat)} {ad : Nat → Nat → Nat} {cy : Nat → ClassId} {σ : St} (n : Nat) (p : Nat × va_E) (hp : (WLg I ad cy σ)[n]? = some p) : ∃ q, I[n]? = some q ∧ p.1 = ad q.1 q.2 := by
  unfold WLg at hp
  rw [List.getElem?_map] at hp
  cases hq : I[n]? with
  | none => rw [hq] at hp; cases hp
  | some q => rw [hq] at hp; cases hp; exact ⟨q, rfl, rfl⟩
theorem WLg_D {I : List (Nat × Nat)} (hI : I.Nodup) {ad : Nat → Nat → Nat} {A : Nat → Prop} {cy : Nat → ClassId} {σ : St} (h1 : ∀ x ∈ I, ∀ y ∈ I, ad x.1 x.2 = ad y.1 y.2 → x = y) (h2 : ∀ x ∈ I, A (ad x.1 x.2)) : va_D A (WLg I ad cy σ) := by
  refine ⟨fun i j p q hi hj hpq => ?_, fun n p hp => ?_⟩
  · obtain ⟨x, hx, ex⟩ := WLg_key i p hi
    obtain ⟨y, hy, ey⟩ := WLg_key j q hj
    have e : x = y := h1 x (List.mem_of_getElem? hx) y (List.mem_of_getElem? hy) (ex.symm.trans (hpq.trans ey))
    subst e
    exact (List.getElem?_inj (List.getElem?_eq_some_iff.mp hx).1 hI).mp (hx.trans hy.symm)
  · obtain ⟨x, hx, ex⟩ := WLg_key n p hp
    rw [ex]
    exact h2 x (List.mem_of_getElem? hx)
theorem WL_at {ad : Nat → Nat → Nat} {cy : Nat → ClassId} {σ : St} {k i j : Nat} (h : IX[j]? = some (k, i)) : (WL ad cy σ)[j]? = some (ad k i, cf ad cy k i (σ k i)) := WLg_at h
theorem WL_set {ad : Nat → Nat → Nat} {cy : Nat → ClassId} {σ : St} {k i j f : Nat} {x : Int32} (h : IX[j]? = some (k, i)) : (WL ad cy σ).set j (ad k i, cf ad cy k i (upd (σ k i) f x)) = WL ad cy (up σ k i f x) := WLg_set IX_nodup h
def Apart (ad : Nat → Nat → Nat) (A : Nat → Prop) : Prop := (∀ k i k' i', k < 33 → i < nk k → k' < 33 → i' < nk k' → ad k i = ad k' i' → k = k' ∧ i = i') ∧ ∀ k i, k < 33 → i < nk k → A (ad k i)
theorem Apart.D {ad : Nat → Nat → Nat} {A : Nat → Prop} (h : Apart ad A) (cy : Nat → ClassId) (σ : St) : va_D A (WL ad cy σ) := by
  refine WLg_D IX_nodup (fun x hx y hy e => ?_) (fun x hx => h.2 _ _ (IX_of hx).1 (IX_of hx).2)
  obtain ⟨e1, e2⟩ := h.1 _ _ _ _ (IX_of hx).1 (IX_of hx).2 (IX_of hy).1 (IX_of hy).2 e
  exact Prod.ext e1 e2
/-- the texts of the class, by their entries -/
def strs : List (Nat × String) := [(63, "there are 8 pieces"), (211, "there is no such piece"), (222, "an argument is out of range"), (80, "the piece has 16 notes"), (92, "some pitch would not be from 0 to 80"), (214, "there is no such note"), (216, "there is no such instrument"), (120, "the piece has more than 4 notes"), (142, "the pupil knows the piece"), (148, "the pupil cannot learn the piece there"), (162, "there is too little of the wood"), (168, "two orders are at work"), (170, "there are 20 orders"), (218, "there is no such order"), (184, "the order is not ready"), (190, "the order was fetched"), (192, "there are 8 instruments"), (207, "today would be above 5000")]
def ISE : String := "java/lang/IllegalStateException"
def IOOBE : String := "java/lang/IndexOutOfBoundsException"
def IAE : String := "java/lang/IllegalArgumentException"
def exs : List String := [ISE, IOOBE, IAE]
def decs : List MethodName := [⟨"java/lang/RuntimeException", "<init>", "(Ljava/lang/String;)V"⟩, ⟨"java/lang/Exception", "<init>", "(Ljava/lang/String;)V"⟩, ⟨"java/lang/Throwable", "<init>", "(Ljava/lang/String;)V"⟩]
/-- what stays of a state through the whole run -/
def Fx (l : Launch) (D : va_G) (ad : Nat → Nat → Nat) (cy : Nat → ClassId) (A : Nat → Prop) (sa : Nat → Nat) (s : State) : Prop :=
  l.stackTraces = false ∧ va_K D vwCl (tysL cy) s ∧ Apart ad A ∧ (∀ q : Nat, s.heap.size ≤ q → A q) ∧
  vx_Zq Bundle.tN "UNASSIGNED_STACK" Bundle.steD A s s.heap ∧ vx_Zq Bundle.tN "SUPPRESSED_SENTINEL" Bundle.listD A s s.heap ∧
  (∀ q ∈ strs, vk_R RX5 q.1 q.2 (sa q.1) s) ∧ ((∀ E ∈ exs, va_Nw (.castable E E) s) ∧ ∀ x ∈ decs, va_Nw (.declares x) s) ∧ ∀ E ∈ exs, ∀ F ∈ exs, E ≠ F → va_Nc E F s
theorem Fx.call {l : Launch} {D : va_G} {ad : Nat → Nat → Nat} {cy : Nat → ClassId} {A : Nat → Prop} {sa : Nat → Nat} {s U : State} {H : Heap} {locs : List Loc} (h : Fx l D ad cy A sa s) (hS : va_S A s.heap H locs) (hU : U.heap = H) (hW : s.WarmedH U.vm) : Fx l D ad cy A sa U := by
  obtain ⟨h1, h2, h3, h4, h5, h6, h7, h8, h9⟩ := h
  refine ⟨h1, va_K.moved hW.alike h2, h3, fun q hq => h4 q (Nat.le_trans hS.1 (by rw [← hU]; exact hq)), ?_, ?_, fun q hq => (h7 q hq).warm hW, ⟨fun E hE => (h8.1 E hE).warmC hW, fun x hx => (h8.2 x hx).warmD hW⟩, fun E hE F hF n => (h9 E hE F hF n).moved hW.alike⟩
  · rw [hU]
    exact (h5.kept (fun a h1 h2 => hS.2.1 a h1 h2)).moved hW.alike
  · rw [hU]
    exact (h6.kept (fun a h1 h2 => hS.2.1 a h1 h2)).moved hW.alike
theorem Fx.blind {l : Launch} {D : va_G} {ad : Nat → Nat → Nat} {cy : Nat → ClassId} {A : Nat → Prop} {sa : Nat → Nat} {U : State} {g : JFrame} {mk : MethodId} {a : Array Value} (h : Fx l D ad cy A sa U) : Fx l D ad cy A sa (U.calling g mk a) := by
  obtain ⟨h1, h2, h3, h4, h5, h6, h7, h8, h9⟩ := h
  have hv : U.vm.Alike (U.calling g mk a).vm := Vm.Alike.refl U.vm
  exact ⟨h1, va_K.moved (u := U) (U := U.calling g mk a) hv h2, h3, h4, vx_Zq.moved (u := U) (U := U.calling g mk a) hv h5, vx_Zq.moved (u := U) (U := U.calling g mk a) hv h6, fun q hq => vk_R.same (u := U) (U := U.calling g mk a) rfl (h7 q hq), ⟨fun E hE => va_tabs rfl (rfl : U.vm = (U.calling g mk a).vm) (h8.1 E hE), fun x hx => va_tabs rfl (rfl : U.vm = (U.calling g mk a).vm) (h8.2 x hx)⟩, fun E hE F hF n => (h9 E hE F hF n).moved hv⟩
end
section
/-! ===== one instruction, one row: over the world of this claim ===== -/
/-- the locals, place by place -/
def lh (ls : Array Slot) (nL : Nat) (L : List (Option Value)) : Prop := ls.size = nL ∧ lv_wf ls ∧ ∀ (i : Nat) (v : Value), L[i]? = some (some v) → v.category = 1 ∧ ls[i]? = some (.val v)
def prs (L : List (Option Value)) : List (Nat × Value) := (List.range L.length).filterMap (fun i => (L[i]?.join).map (fun v => (i, v)))
theorem prs_mem {L : List (Option Value)} {i : Nat} {v : Value} : (i, v) ∈ prs L ↔ L[i]? = some (some v) := by
  unfold prs
  rw [List.mem_filterMap]
  constructor
  · rintro ⟨j, hj, h⟩
    cases hq : L[j]? with
    | none => rw [hq] at h; cases h
    | some o =>
      rw [hq] at h
      cases o with
      | none => cases h
      | some w => cases h; exact hq
  · intro h
    refine ⟨i, List.mem_range.mpr (List.getElem?_eq_some_iff.mp h).1, ?_⟩
    rw [h]
    rfl
theorem lh.has {ls : Array Slot} {nL : Nat} {L : List (Option Value)} (h : lh ls nL L) : lv_has ls nL (prs L) := ⟨h.1, h.2.1, fun q hq => (h.2.2 q.1 q.2 (prs_mem.mp hq)).2⟩
theorem lh.at {ls : Array Slot} {nL : Nat} {L : List (Option Value)} (h : lh ls nL L) {i : Nat} {v : Value} (hi : L[i]? = some (some v)) : ls[i]? = some (.val v) := (h.2.2 i v hi).2
theorem lh.set {ls ls' : Array Slot} {nL i : Nat} {L : List (Option Value)} {v : Value} (h : lh ls nL L) (hc : v.category = 1) (h' : lv_has ls' nL ((i, v) :: (prs L).filter (fun q => !(q.1 == i) && !(q.1 + 1 == i && q.2.category == 2)))) : lh ls' nL (L.set i (some v)) := by
  refine ⟨h'.1, h'.2.1, fun j w hj => ?_⟩
  by_cases e : j = i
  · subst e
    have hlt : j < L.length := by
      have := (List.getElem?_eq_some_iff.mp hj).1
      rw [List.length_set] at this
      exact this
    rw [List.getElem?_set_self hlt] at hj
    cases hj
    exact ⟨hc, h'.2.2 (j, v) List.mem_cons_self⟩
  · rw [List.getElem?_set_ne (Ne.symm e)] at hj
    have hw := h.2.2 j w hj
    refine ⟨hw.1, h'.2.2 (j, w) (List.mem_cons_of_mem _ (List.mem_filter.mpr ⟨prs_mem.mpr hj, ?_⟩))⟩
    simp [e, hw.1]
/-- fewer known locals -/
theorem lh.sub {ls : Array Slot} {nL : Nat} {L L' : List (Option Value)} (h : lh ls nL L) (hs : ∀ (i : Nat) (v : Value), L'[i]? = some (some v) → L[i]? = some (some v)) : lh ls nL L' := ⟨h.1, h.2.1, fun i v hi => h.2.2 i v (hs i v hi)⟩
def rmD (d mc : Nat) : Room := { frames := d + 6, cells := mc, slots := 6 * mc, locals := 40 * d + 100 }
/-- what stands through a method's body -/
def Cx (p : Program) (l : Launch) (s : State) (m : MethodId) (args : Array Value) (meth : Method) (c : Code) (cc : ByteArray) (own : String) (nL : Nat) (ret : Option FieldType) (D : va_G) (ad : Nat → Nat → Nat) (cy : Nat → ClassId) (A : Nat → Prop) (sa : Nat → Nat) : Prop :=
  p.tables.exec = Jvm.exec ∧ c.code = cc ∧ c.maxLocals = nL ∧ s.vm.findClass own = some m.cls ∧ (∀ w ∈ BIG, w.before args s = true) ∧ meth.sig.returnType = ret ∧ meth.locks = false ∧ Fx l D ad cy A sa s
/-- the machine at pc, with the world σ, locals L, stack st -/
def Z (p : Program) (l : Launch) (e : Env) (R : Room) (s : State) (m : MethodId) (args : Array Value) (below : List Frame) (meth : Method) (c : Code) (D : va_G) (ad : Nat → Nat → Nat) (cy : Nat → ClassId) (A : Nat → Prop) (nL : Nat) (cells slots : Nat) (Q : State → Prop) (σ : St) (L : List (Option Value)) (pc : Nat) (st : List Value) : Prop :=
  ∀ (H : Heap) (locs : List Loc) (ls : Array Slot), va_P D vwCl (WL ad cy σ) H → va_S A s.heap H locs → lh ls nL L → W p l e R s m args below meth c H locs cells slots Q (F0 m pc ls st)
section ZR
variable {p : Program} {l : Launch} {e : Env} {R : Room} {s : State} {m : MethodId} {args : Array Value} {below : List Frame} {meth : Method} {c : Code} {D : va_G} {ad : Nat → Nat → Nat} {cy : Nat → ClassId} {A : Nat → Prop} {sa : Nat → Nat} {nL cells slots : Nat} {Q : State → Prop} {σ : St} {L : List (Option Value)} {pc : Nat} {st : List Value} {cc : ByteArray} {own : String} {ret : Option FieldType}
theorem z_iconst (C : Cx p l s m args meth c cc own nL ret D ad cy A sa) {n : Int} {v : Int32} (hdg : decode cc pc = .ok (.iconst n, 1)) (hv : Int32.ofInt n = v) (k : Z p l e R s m args below meth c D ad cy A nL cells slots Q σ L (pc + 1) (.int v :: st)) : Z p l e R s m args below meth c D ad cy A nL cells slots Q σ L pc st :=
  fun H locs ls hP hS hl => lv_iconst C.1 C.2.1 hdg hv (k H locs ls hP hS hl)
theorem z_bipush (C : Cx p l s m args meth c cc own nL ret D ad cy A sa) {n : Int} {v : Int32} (hdg : decode cc pc = .ok (.bipush n, 2)) (hv : (Int8.ofInt n).toInt32 = v) (k : Z p l e R s m args below meth c D ad cy A nL cells slots Q σ L (pc + 2) (.int v :: st)) : Z p l e R s m args below meth c D ad cy A nL cells slots Q σ L pc st :=
  fun H locs ls hP hS hl => lv_bipush C.1 C.2.1 hdg hv (k H locs ls hP hS hl)
theorem z_sipush (C : Cx p l s m args meth c cc own nL ret D ad cy A sa) {n : Int} {v : Int32} (hdg : decode cc pc = .ok (.sipush n, 3)) (hv : (Int16.ofInt n).toInt32 = v) (k : Z p l e R s m args below meth c D ad cy A nL cells slots Q σ L (pc + 3) (.int v :: st)) : Z p l e R s m args below meth c D ad cy A nL cells slots Q σ L pc st :=
  fun H locs ls hP hS hl => lv_sipush C.1 C.2.1 hdg hv (k H locs ls hP hS hl)
theorem z_ldc (C : Cx p l s m args meth c cc own nL ret D ad cy A sa) {index : Nat} {v : Int32} (hw : Cond.constant own index v ∈ BIG) (hdg : decode cc pc = .ok (.ldc index, 2)) (k : Z p l e R s m args below meth c D ad cy A nL cells slots Q σ L (pc + 2) (.int v :: st)) : Z p l e R s m args below meth c D ad cy A nL cells slots Q σ L pc st :=
  fun H locs ls hP hS hl => lv_ldc C.1 C.2.1 C.2.2.2.1 (C.2.2.2.2.1 _ hw) hdg (k H locs ls hP hS hl)
theorem z_iload_n (C : Cx p l s m args meth c cc own nL ret D ad cy A sa) {n : Fin 4} {x : Int32} (hdg : decode cc pc = .ok (.iload_n n, 1)) (hx : L[(n : Nat)]? = some (some (.int x))) (k : Z p l e R s m args below meth c D ad cy A nL cells slots Q σ L (pc + 1) (.int x :: st)) : Z p l e R s m args below meth c D ad cy A nL cells slots Q σ L pc st :=
  fun H locs ls hP hS hl => lv_iload_n C.1 C.2.1 hdg rfl (hl.at hx) (k H locs ls hP hS hl)
theorem z_aload_n (C : Cx p l s m args meth c cc own nL ret D ad cy A sa) {n : Fin 4} {x : Nat} (hdg : decode cc pc = .ok (.aload_n n, 1)) (hx : L[(n : Nat)]? = some (some (.ref x))) (k : Z p l e R s m args below meth c D ad cy A nL cells slots Q σ L (pc + 1) (.ref x :: st)) : Z p l e R s m args below meth c D ad cy A nL cells slots Q σ L pc st :=
  fun H locs ls hP hS hl => lv_aload_n C.1 C.2.1 hdg rfl (hl.at hx) (k H locs ls hP hS hl)
theorem z_iload (C : Cx p l s m args meth c cc own nL ret D ad cy A sa) {n : Nat} {x : Int32} (hdg : decode cc pc = .ok (.iload n, 2)) (hx : L[n]? = some (some (.int x))) (k : Z p l e R s m args below meth c D ad cy A nL cells slots Q σ L (pc + 2) (.int x :: st)) : Z p l e R s m args below meth c D ad cy A nL cells slots Q σ L pc st :=
  fun H locs ls hP hS hl => lv_iload C.1 C.2.1 hdg (hl.at hx) (k H locs ls hP hS hl)
theorem z_aload (C : Cx p l s m args meth c cc own nL ret D ad cy A sa) {n : Nat} {x : Nat} (hdg : decode cc pc = .ok (.aload n, 2)) (hx : L[n]? = some (some (.ref x))) (k : Z p l e R s m args below meth c D ad cy A nL cells slots Q σ L (pc + 2) (.ref x :: st)) : Z p l e R s m args below meth c D ad cy A nL cells slots Q σ L pc st :=
  fun H locs ls hP hS hl => lv_aload C.1 C.2.1 hdg (hl.at hx) (k H locs ls hP hS hl)
theorem z_istore_n (C : Cx p l s m args meth c cc own nL ret D ad cy A sa) {n : Fin 4} {x : Int32} (hdg : decode cc pc = .ok (.istore_n n, 1)) (hn : (n : Nat) < nL) (k : Z p l e R s m args below meth c D ad cy A nL cells slots Q σ (L.set (n : Nat) (some (.int x))) (pc + 1) st) : Z p l e R s m args below meth c D ad cy A nL cells slots Q σ L pc (.int x :: st) :=
  fun H locs _ hP hS hl => lv_istore_n C.1 C.2.1 hdg rfl hl.has hn rfl (fun ls' h' => k H locs ls' hP hS (hl.set rfl h'))
theorem z_istore (C : Cx p l s m args meth c cc own nL ret D ad cy A sa) {n : Nat} {x : Int32} (hdg : decode cc pc = .ok (.istore n, 2)) (hn : n < nL) (k : Z p l e R s m args below meth c D ad cy A nL cells slots Q σ (L.set n (some (.int x))) (pc + 2) st) : Z p l e R s m args below meth c D ad cy A nL cells slots Q σ L pc (.int x :: st) :=
  fun H locs _ hP hS hl => lv_istore C.1 C.2.1 hdg hl.has hn rfl (fun ls' h' => k H locs ls' hP hS (hl.set rfl h'))
theorem z_astore_n (C : Cx p l s m args meth c cc own nL ret D ad cy A sa) {n : Fin 4} {x : Nat} (hdg : decode cc pc = .ok (.astore_n n, 1)) (hn : (n : Nat) < nL) (k : Z p l e R s m args below meth c D ad cy A nL cells slots Q σ (L.set (n : Nat) (some (.ref x))) (pc + 1) st) : Z p l e R s m args below meth c D ad cy A nL cells slots Q σ L pc (.ref x :: st) :=
  fun H locs _ hP hS hl => lv_astore_n C.1 C.2.1 hdg rfl hl.has hn rfl (fun ls' h' => k H locs ls' hP hS (hl.set rfl h'))
theorem z_astore (C : Cx p l s m args meth c cc own nL ret D ad cy A sa) {n : Nat} {x : Nat} (hdg : decode cc pc = .ok (.astore n, 2)) (hn : n < nL) (k : Z p l e R s m args below meth c D ad cy A nL cells slots Q σ (L.set n (some (.ref x))) (pc + 2) st) : Z p l e R s m args below meth c D ad cy A nL cells slots Q σ L pc (.ref x :: st) :=
  fun H locs _ hP hS hl => lv_astore C.1 C.2.1 hdg hl.has hn rfl (fun ls' h' => k H locs ls' hP hS (hl.set rfl h'))
theorem z_iinc (C : Cx p l s m args meth c cc own nL ret D ad cy A sa) {i : Nat} {n : Int} {x v : Int32} (hdg : decode cc pc = .ok (.iinc i n, 3)) (hx : L[i]? = some (some (.int x))) (hv : Int32.ofInt n = v) (hn : i < nL) (k : Z p l e R s m args below meth c D ad cy A nL cells slots Q σ (L.set i (some (.int (x + v)))) (pc + 3) st) : Z p l e R s m args below meth c D ad cy A nL cells slots Q σ L pc st := by
  intro H locs ls hP hS hl
  obtain ⟨k0, hk0⟩ := List.getElem?_of_mem (prs_mem.mpr hx)
  exact lv_iinc C.1 C.2.1 hdg hl.has hk0 (by rw [hv]) hn rfl (fun ls' h' => k H locs ls' hP hS (hl.set rfl h'))
theorem z_iadd (C : Cx p l s m args meth c cc own nL ret D ad cy A sa) {x y : Int32} (hdg : decode cc pc = .ok (.iadd, 1)) (k : Z p l e R s m args below meth c D ad cy A nL cells slots Q σ L (pc + 1) (.int (x + y) :: st)) : Z p l e R s m args below meth c D ad cy A nL cells slots Q σ L pc (.int y :: .int x :: st) :=
  fun H locs ls hP hS hl => lv_iadd C.1 C.2.1 hdg (k H locs ls hP hS hl)
theorem z_isub (C : Cx p l s m args meth c cc own nL ret D ad cy A sa) {x y : Int32} (hdg : decode cc pc = .ok (.isub, 1)) (k : Z p l e R s m args below meth c D ad cy A nL cells slots Q σ L (pc + 1) (.int (x - y) :: st)) : Z p l e R s m args below meth c D ad cy A nL cells slots Q σ L pc (.int y :: .int x :: st) :=
  fun H locs ls hP hS hl => lv_isub C.1 C.2.1 hdg (k H locs ls hP hS hl)
theorem z_imul (C : Cx p l s m args meth c cc own nL ret D ad cy A sa) {x y : Int32} (hdg : decode cc pc = .ok (.imul, 1)) (k : Z p l e R s m args below meth c D ad cy A nL cells slots Q σ L (pc + 1) (.int (x * y) :: st)) : Z p l e R s m args below meth c D ad cy A nL cells slots Q σ L pc (.int y :: .int x :: st) :=
  fun H locs ls hP hS hl => lv_imul C.1 C.2.1 hdg (k H locs ls hP hS hl)
theorem z_iand (C : Cx p l s m args meth c cc own nL ret D ad cy A sa) {x y : Int32} (hdg : decode cc pc = .ok (.iand, 1)) (k : Z p l e R s m args below meth c D ad cy A nL cells slots Q σ L (pc + 1) (.int (x &&& y) :: st)) : Z p l e R s m args below meth c D ad cy A nL cells slots Q σ L pc (.int y :: .int x :: st) :=
  fun H locs ls hP hS hl => lv_iand C.1 C.2.1 hdg (k H locs ls hP hS hl)
theorem z_ior (C : Cx p l s m args meth c cc own nL ret D ad cy A sa) {x y : Int32} (hdg : decode cc pc = .ok (.ior, 1)) (k : Z p l e R s m args below meth c D ad cy A nL cells slots Q σ L (pc + 1) (.int (x ||| y) :: st)) : Z p l e R s m args below meth c D ad cy A nL cells slots Q σ L pc (.int y :: .int x :: st) :=
  fun H locs ls hP hS hl => lv_ior C.1 C.2.1 hdg (k H locs ls hP hS hl)
theorem z_ishl (C : Cx p l s m args meth c cc own nL ret D ad cy A sa) {x y : Int32} (hdg : decode cc pc = .ok (.ishl, 1)) (k : Z p l e R s m args below meth c D ad cy A nL cells slots Q σ L (pc + 1) (.int (x <<< (y &&& 31)) :: st)) : Z p l e R s m args below meth c D ad cy A nL cells slots Q σ L pc (.int y :: .int x :: st) :=
  fun H locs ls hP hS hl => lv_ishl C.1 C.2.1 hdg (k H locs ls hP hS hl)
theorem z_ishr (C : Cx p l s m args meth c cc own nL ret D ad cy A sa) {x y : Int32} (hdg : decode cc pc = .ok (.ishr, 1)) (k : Z p l e R s m args below meth c D ad cy A nL cells slots Q σ L (pc + 1) (.int (x >>> (y &&& 31)) :: st)) : Z p l e R s m args below meth c D ad cy A nL cells slots Q σ L pc (.int y :: .int x :: st) :=
  fun H locs ls hP hS hl => lv_ishr C.1 C.2.1 hdg (k H locs ls hP hS hl)
theorem z_ineg (C : Cx p l s m args meth c cc own nL ret D ad cy A sa) {x : Int32} (hdg : decode cc pc = .ok (.ineg, 1)) (k : Z p l e R s m args below meth c D ad cy A nL cells slots Q σ L (pc + 1) (.int (-x) :: st)) : Z p l e R s m args below meth c D ad cy A nL cells slots Q σ L pc (.int x :: st) :=
  fun H locs ls hP hS hl => lv_ineg C.1 C.2.1 hdg (k H locs ls hP hS hl)
theorem z_i2l (C : Cx p l s m args meth c cc own nL ret D ad cy A sa) {x : Int32} (hdg : decode cc pc = .ok (.i2l, 1)) (k : Z p l e R s m args below meth c D ad cy A nL cells slots Q σ L (pc + 1) (.long x.toInt64 :: st)) : Z p l e R s m args below meth c D ad cy A nL cells slots Q σ L pc (.int x :: st) :=
  fun H locs ls hP hS hl => lv_i2l C.1 C.2.1 hdg rfl (k H locs ls hP hS hl)
theorem z_dup (C : Cx p l s m args meth c cc own nL ret D ad cy A sa) {v : Value} (hdg : decode cc pc = .ok (.dup, 1)) (hv : v.category = 1) (k : Z p l e R s m args below meth c D ad cy A nL cells slots Q σ L (pc + 1) (v :: v :: st)) : Z p l e R s m args below meth c D ad cy A nL cells slots Q σ L pc (v :: st) :=
  fun H locs ls hP hS hl => lv_dup C.1 C.2.1 hdg hv (k H locs ls hP hS hl)
theorem z_pop (C : Cx p l s m args meth c cc own nL ret D ad cy A sa) {v : Value} (hdg : decode cc pc = .ok (.pop, 1)) (hv : v.category = 1) (k : Z p l e R s m args below meth c D ad cy A nL cells slots Q σ L (pc + 1) st) : Z p l e R s m args below meth c D ad cy A nL cells slots Q σ L pc (v :: st) :=
  fun H locs ls hP hS hl => lv_pop C.1 C.2.1 hdg hv (k H locs ls hP hS hl)
theorem z_goto (C : Cx p l s m args meth c cc own nL ret D ad cy A sa) {off : Int} (tgt : Nat) (hdg : decode cc pc = .ok (.goto off, 3)) (ht : (pc : Int) + off = (tgt : Int)) (k : Z p l e R s m args below meth c D ad cy A nL cells slots Q σ L tgt st) : Z p l e R s m args below meth c D ad cy A nL cells slots Q σ L pc st :=
  fun H locs ls hP hS hl => lv_goto C.1 C.2.1 hdg ht (k H locs ls hP hS hl)
theorem z_icmp_eq (C : Cx p l s m args meth c cc own nL ret D ad cy A sa) {x y : Int32} {off : Int} (tgt : Nat) (hdg : decode cc pc = .ok (.if_icmp .eq off, 3)) (ht : (pc : Int) + off = (tgt : Int)) (kt : x = y → Z p l e R s m args below meth c D ad cy A nL cells slots Q σ L tgt st) (kf : ¬ x = y → Z p l e R s m args below meth c D ad cy A nL cells slots Q σ L (pc + 3) st) : Z p l e R s m args below meth c D ad cy A nL cells slots Q σ L pc (.int y :: .int x :: st) :=
  fun H locs ls hP hS hl => lv_icmp_eq C.1 C.2.1 hdg ht (fun h => kt h H locs ls hP hS hl) (fun h => kf h H locs ls hP hS hl)
theorem z_if_eq (C : Cx p l s m args meth c cc own nL ret D ad cy A sa) {x : Int32} {off : Int} (tgt : Nat) (hdg : decode cc pc = .ok (.ifCond .eq off, 3)) (ht : (pc : Int) + off = (tgt : Int)) (kt : x = 0 → Z p l e R s m args below meth c D ad cy A nL cells slots Q σ L tgt st) (kf : ¬ x = 0 → Z p l e R s m args below meth c D ad cy A nL cells slots Q σ L (pc + 3) st) : Z p l e R s m args below meth c D ad cy A nL cells slots Q σ L pc (.int x :: st) :=
  fun H locs ls hP hS hl => lv_if_eq C.1 C.2.1 hdg ht (fun h => kt h H locs ls hP hS hl) (fun h => kf h H locs ls hP hS hl)
theorem z_icmp_ne (C : Cx p l s m args meth c cc own nL ret D ad cy A sa) {x y : Int32} {off : Int} (tgt : Nat) (hdg : decode cc pc = .ok (.if_icmp .ne off, 3)) (ht : (pc : Int) + off = (tgt : Int)) (kt : ¬ x = y → Z p l e R s m args below meth c D ad cy A nL cells slots Q σ L tgt st) (kf : x = y → Z p l e R s m args below meth c D ad cy A nL cells slots Q σ L (pc + 3) st) : Z p l e R s m args below meth c D ad cy A nL cells slots Q σ L pc (.int y :: .int x :: st) :=
  fun H locs ls hP hS hl => lv_icmp_ne C.1 C.2.1 hdg ht (fun h => kt h H locs ls hP hS hl) (fun h => kf h H locs ls hP hS hl)
theorem z_if_ne (C : Cx p l s m args meth c cc own nL ret D ad cy A sa) {x : Int32} {off : Int} (tgt : Nat) (hdg : decode cc pc = .ok (.ifCond .ne off, 3)) (ht : (pc : Int) + off = (tgt : Int)) (kt : ¬ x = 0 → Z p l e R s m args below meth c D ad cy A nL cells slots Q σ L tgt st) (kf : x = 0 → Z p l e R s m args below meth c D ad cy A nL cells slots Q σ L (pc + 3) st) : Z p l e R s m args below meth c D ad cy A nL cells slots Q σ L pc (.int x :: st) :=
  fun H locs ls hP hS hl => lv_if_ne C.1 C.2.1 hdg ht (fun h => kt h H locs ls hP hS hl) (fun h => kf h H locs ls hP hS hl)
theorem z_icmp_lt (C : Cx p l s m args meth c cc own nL ret D ad cy A sa) {x y : Int32} {off : Int} (tgt : Nat) (hdg : decode cc pc = .ok (.if_icmp .lt off, 3)) (ht : (pc : Int) + off = (tgt : Int)) (kt : x < y → Z p l e R s m args below meth c D ad cy A nL cells slots Q σ L tgt st) (kf : ¬ x < y → Z p l e R s m args below meth c D ad cy A nL cells slots Q σ L (pc + 3) st) : Z p l e R s m args below meth c D ad cy A nL cells slots Q σ L pc (.int y :: .int x :: st) :=
  fun H locs ls hP hS hl => lv_icmp_lt C.1 C.2.1 hdg ht (fun h => kt h H locs ls hP hS hl) (fun h => kf h H locs ls hP hS hl)
theorem z_if_lt (C : Cx p l s m args meth c cc own nL ret D ad cy A sa) {x : Int32} {off : Int} (tgt : Nat) (hdg : decode cc pc = .ok (.ifCond .lt off, 3)) (ht : (pc : Int) + off = (tgt : Int)) (kt : x < 0 → Z p l e R s m args below meth c D ad cy A nL cells slots Q σ L tgt st) (kf : ¬ x < 0 → Z p l e R s m args below meth c D ad cy A nL cells slots Q σ L (pc + 3) st) : Z p l e R s m args below meth c D ad cy A nL cells slots Q σ L pc (.int x :: st) :=
  fun H locs ls hP hS hl => lv_if_lt C.1 C.2.1 hdg ht (fun h => kt h H locs ls hP hS hl) (fun h => kf h H locs ls hP hS hl)
theorem z_icmp_ge (C : Cx p l s m args meth c cc own nL ret D ad cy A sa) {x y : Int32} {off : Int} (tgt : Nat) (hdg : decode cc pc = .ok (.if_icmp .ge off, 3)) (ht : (pc : Int) + off = (tgt : Int)) (kt : y ≤ x → Z p l e R s m args below meth c D ad cy A nL cells slots Q σ L tgt st) (kf : ¬ y ≤ x → Z p l e R s m args below meth c D ad cy A nL cells slots Q σ L (pc + 3) st) : Z p l e R s m args below meth c D ad cy A nL cells slots Q σ L pc (.int y :: .int x :: st) :=
  fun H locs ls hP hS hl => lv_icmp_ge C.1 C.2.1 hdg ht (fun h => kt h H locs ls hP hS hl) (fun h => kf h H locs ls hP hS hl)
theorem z_if_ge (C : Cx p l s m args meth c cc own nL ret D ad cy A sa) {x : Int32} {off : Int} (tgt : Nat) (hdg : decode cc pc = .ok (.ifCond .ge off, 3)) (ht : (pc : Int) + off = (tgt : Int)) (kt : 0 ≤ x → Z p l e R s m args below meth c D ad cy A nL cells slots Q σ L tgt st) (kf : ¬ 0 ≤ x → Z p l e R s m args below meth c D ad cy A nL cells slots Q σ L (pc + 3) st) : Z p l e R s m args below meth c D ad cy A nL cells slots Q σ L pc (.int x :: st) :=
  fun H locs ls hP hS hl => lv_if_ge C.1 C.2.1 hdg ht (fun h => kt h H locs ls hP hS hl) (fun h => kf h H locs ls hP hS hl)
theorem z_icmp_gt (C : Cx p l s m args meth c cc own nL ret D ad cy A sa) {x y : Int32} {off : Int} (tgt : Nat) (hdg : decode cc pc = .ok (.if_icmp .gt off, 3)) (ht : (pc : Int) + off = (tgt : Int)) (kt : y < x → Z p l e R s m args below meth c D ad cy A nL cells slots Q σ L tgt st) (kf : ¬ y < x → Z p l e R s m args below meth c D ad cy A nL cells slots Q σ L (pc + 3) st) : Z p l e R s m args below meth c D ad cy A nL cells slots Q σ L pc (.int y :: .int x :: st) :=
  fun H locs ls hP hS hl => lv_icmp_gt C.1 C.2.1 hdg ht (fun h => kt h H locs ls hP hS hl) (fun h => kf h H locs ls hP hS hl)
theorem z_if_gt (C : Cx p l s m args meth c cc own nL ret D ad cy A sa) {x : Int32} {off : Int} (tgt : Nat) (hdg : decode cc pc = .ok (.ifCond .gt off, 3)) (ht : (pc : Int) + off = (tgt : Int)) (kt : 0 < x → Z p l e R s m args below meth c D ad cy A nL cells slots Q σ L tgt st) (kf : ¬ 0 < x → Z p l e R s m args below meth c D ad cy A nL cells slots Q σ L (pc + 3) st) : Z p l e R s m args below meth c D ad cy A nL cells slots Q σ L pc (.int x :: st) :=
  fun H locs ls hP hS hl => lv_if_gt C.1 C.2.1 hdg ht (fun h => kt h H locs ls hP hS hl) (fun h => kf h H locs ls hP hS hl)
theorem z_icmp_le (C : Cx p l s m args meth c cc own nL ret D ad cy A sa) {x y : Int32} {off : Int} (tgt : Nat) (hdg : decode cc pc = .ok (.if_icmp .le off, 3)) (ht : (pc : Int) + off = (tgt : Int)) (kt : x ≤ y → Z p l e R s m args below meth c D ad cy A nL cells slots Q σ L tgt st) (kf : ¬ x ≤ y → Z p l e R s m args below meth c D ad cy A nL cells slots Q σ L (pc + 3) st) : Z p l e R s m args below meth c D ad cy A nL cells slots Q σ L pc (.int y :: .int x :: st) :=
  fun H locs ls hP hS hl => lv_icmp_le C.1 C.2.1 hdg ht (fun h => kt h H locs ls hP hS hl) (fun h => kf h H locs ls hP hS hl)
theorem z_if_le (C : Cx p l s m args meth c cc own nL ret D ad cy A sa) {x : Int32} {off : Int} (tgt : Nat) (hdg : decode cc pc = .ok (.ifCond .le off, 3)) (ht : (pc : Int) + off = (tgt : Int)) (kt : x ≤ 0 → Z p l e R s m args below meth c D ad cy A nL cells slots Q σ L tgt st) (kf : ¬ x ≤ 0 → Z p l e R s m args below meth c D ad cy A nL cells slots Q σ L (pc + 3) st) : Z p l e R s m args below meth c D ad cy A nL cells slots Q σ L pc (.int x :: st) :=
  fun H locs ls hP hS hl => lv_if_le C.1 C.2.1 hdg ht (fun h => kt h H locs ls hP hS hl) (fun h => kf h H locs ls hP hS hl)
theorem z_dup2 (C : Cx p l s m args meth c cc own nL ret D ad cy A sa) {v w : Value} (hdg : decode cc pc = .ok (.dup2, 1)) (hv : v.category = 1) (hw : w.category = 1) (k : Z p l e R s m args below meth c D ad cy A nL cells slots Q σ L (pc + 1) (v :: w :: v :: w :: st)) : Z p l e R s m args below meth c D ad cy A nL cells slots Q σ L pc (v :: w :: st) :=
  fun H locs ls hP hS hl => lv_dup2_11 C.1 C.2.1 hdg hv hw (k H locs ls hP hS hl)
end ZR
end
section
/-! ===== fields and arrays of the world ===== -/
theorem inB0 : ∀ w ∈ u_ws RX0 TX0 5, w ∈ BIG := (List.forall_mem_cons.mpr ⟨wd146, (List.forall_mem_cons.mpr ⟨wd148, (List.forall_mem_cons.mpr ⟨wd150, (List.forall_mem_cons.mpr ⟨wd152, (List.forall_mem_cons.mpr ⟨wd154, (fun _ h => absurd h List.not_mem_nil)⟩)⟩)⟩)⟩)⟩)
theorem inB1 : ∀ w ∈ u_ws RX1 TX1 3, w ∈ BIG := (List.forall_mem_cons.mpr ⟨wd83, (List.forall_mem_cons.mpr ⟨wd85, (List.forall_mem_cons.mpr ⟨wd87, (fun _ h => absurd h List.not_mem_nil)⟩)⟩)⟩)
theorem inB2 : ∀ w ∈ u_ws RX2 TX2 4, w ∈ BIG := (List.forall_mem_cons.mpr ⟨wd121, (List.forall_mem_cons.mpr ⟨wd123, (List.forall_mem_cons.mpr ⟨wd125, (List.forall_mem_cons.mpr ⟨wd127, (fun _ h => absurd h List.not_mem_nil)⟩)⟩)⟩)⟩)
theorem inB3 : ∀ w ∈ u_ws RX3 TX3 2, w ∈ BIG := (List.forall_mem_cons.mpr ⟨wd65, (List.forall_mem_cons.mpr ⟨wd67, (fun _ h => absurd h List.not_mem_nil)⟩)⟩)
theorem inB4 : ∀ w ∈ u_ws RX4 TX4 2, w ∈ BIG := (List.forall_mem_cons.mpr ⟨wd101, (List.forall_mem_cons.mpr ⟨wd103, (fun _ h => absurd h List.not_mem_nil)⟩)⟩)
theorem inB5 : ∀ w ∈ u_ws RX5 TX5 10, w ∈ BIG := (List.forall_mem_cons.mpr ⟨wd167, (List.forall_mem_cons.mpr ⟨wd169, (List.forall_mem_cons.mpr ⟨wd171, (List.forall_mem_cons.mpr ⟨wd173, (List.forall_mem_cons.mpr ⟨wd175, (List.forall_mem_cons.mpr ⟨wd177, (List.forall_mem_cons.mpr ⟨wd179, (List.forall_mem_cons.mpr ⟨wd181, (List.forall_mem_cons.mpr ⟨wd183, (List.forall_mem_cons.mpr ⟨wd185, (fun _ h => absurd h List.not_mem_nil)⟩)⟩)⟩)⟩)⟩)⟩)⟩)⟩)⟩)⟩)
theorem inB6 : ∀ w ∈ u_ws RX6 TX6 19, w ∈ BIG := (List.forall_mem_cons.mpr ⟨wd604, (List.forall_mem_cons.mpr ⟨wd606, (List.forall_mem_cons.mpr ⟨wd608, (List.forall_mem_cons.mpr ⟨wd610, (List.forall_mem_cons.mpr ⟨wd612, (List.forall_mem_cons.mpr ⟨wd614, (List.forall_mem_cons.mpr ⟨wd616, (List.forall_mem_cons.mpr ⟨wd618, (List.forall_mem_cons.mpr ⟨wd620, (List.forall_mem_cons.mpr ⟨wd622, (List.forall_mem_cons.mpr ⟨wd624, (List.forall_mem_cons.mpr ⟨wd626, (List.forall_mem_cons.mpr ⟨wd628, (List.forall_mem_cons.mpr ⟨wd630, (List.forall_mem_cons.mpr ⟨wd632, (List.forall_mem_cons.mpr ⟨wd634, (List.forall_mem_cons.mpr ⟨wd636, (List.forall_mem_cons.mpr ⟨wd638, (List.forall_mem_cons.mpr ⟨wd640, (fun _ h => absurd h List.not_mem_nil)⟩)⟩)⟩)⟩)⟩)⟩)⟩)⟩)⟩)⟩)⟩)⟩)⟩)⟩)⟩)⟩)⟩)⟩)⟩)
theorem tysL_at {cy : Nat → ClassId} : (tysL cy)[0]? = some (cy 0, .int) := rfl
section ZH
variable {p : Program} {l : Launch} {e : Env} {R : Room} {s : State} {m : MethodId} {args : Array Value} {below : List Frame} {meth : Method} {c : Code} {D : va_G} {ad : Nat → Nat → Nat} {cy : Nat → ClassId} {A : Nat → Prop} {sa : Nat → Nat} {nL cells slots : Nat} {Q : State → Prop} {σ : St} {L : List (Option Value)} {pc : Nat} {st : List Value} {cc : ByteArray} {own : String} {ret : Option FieldType}
theorem z_getf (C : Cx p l s m args meth c cc own nL ret D ad cy A sa) (k i f : Nat) (hk : k < 33) (hi : i < nk k) {ci : Nat} {fs : List Value} (hcf : cf ad cy k i (σ k i) = .inr (ci, fs)) {Cn : String} {T : u_T} {N : Nat} (hcl : vwCl[ci]? = some (Cn, T, N)) (hf : f < N) (hin : ∀ w ∈ u_ws Cn T N, w ∈ BIG) {idx : Nat} {rf : String} (hw : Cond.fieldLink own idx rf (T f).2.1 (T f).2.2.1 ∈ BIG) (hsame : (T f).1 = rf) {v : Value} (hv : fs[f]? = some v) (hdg : decode cc pc = .ok (.getfield idx, 3)) (kk : Z p l e R s m args below meth c D ad cy A nL cells slots Q σ L (pc + 3) (v :: st)) : Z p l e R s m args below meth c D ad cy A nL cells slots Q σ L pc (.ref (ad k i) :: st) := by
  intro H locs ls hP hS hl
  obtain ⟨hx, hb, hml, hown, hts, hr, hlk, hF⟩ := C
  obtain ⟨j, hj⟩ := IX_at hk hi
  have he := WL_at (ad := ad) (cy := cy) (σ := σ) hj
  rw [hcf] at he
  exact va_get hx hb (Ts := BIG) hts hin hown hF.2.1 hP j he hcl f hf (hts _ hw) (fun x h => by rw [← hsame]; exact h) hv hdg (kk H locs ls hP hS hl)
theorem z_putf (C : Cx p l s m args meth c cc own nL ret D ad cy A sa) (k i f : Nat) (hk : k < 33) (hi : i < nk k) {ci : Nat} {fs : List Value} (hcf : cf ad cy k i (σ k i) = .inr (ci, fs)) {Cn : String} {T : u_T} {N : Nat} (hcl : vwCl[ci]? = some (Cn, T, N)) (hf : f < N) (hin : ∀ w ∈ u_ws Cn T N, w ∈ BIG) {ty0 : Nat → FieldType} (hty : ∀ k, k < N → parseFieldDescriptor (T k).2.2.1 = some (ty0 k)) (hnm : ∀ a, a < N → ∀ b, b < N → a ≠ b → (T a).2.1 ≠ (T b).2.1) {idx : Nat} {rf : String} (hw : Cond.fieldLink own idx rf (T f).2.1 (T f).2.2.1 ∈ BIG) (hsame : (T f).1 = rf) (hfin : (T f).2.2.2 = false) {x : Int32} (hn : narrow (ty0 f) (.int x) = .int x) (hfit : fits (ty0 f) (.int x) = true) (hlen : f < fs.length) (hcf2 : cf ad cy k i (upd (σ k i) f x) = .inr (ci, fs.set f (.int x))) (hdg : decode cc pc = .ok (.putfield idx, 3)) (kk : Z p l e R s m args below meth c D ad cy A nL cells slots Q (up σ k i f x) L (pc + 3) st) : Z p l e R s m args below meth c D ad cy A nL cells slots Q σ L pc (.int x :: .ref (ad k i) :: st) := by
  intro H locs ls hP hS hl
  obtain ⟨hx, hb, hml, hown, hts, hr, hlk, hF⟩ := C
  obtain ⟨j, hj⟩ := IX_at hk hi
  have he := WL_at (ad := ad) (cy := cy) (σ := σ) hj
  rw [hcf] at he
  refine va_put hx hb (Ts := BIG) hts hin ty0 hty hnm hown hF.2.1 hP (hF.2.2.1.D cy σ) hS j he hcl f hf (hts _ hw) (fun x h => by rw [← hsame]; exact h) hfin (hty f hf) hn hfit hlen hdg (fun H1 locs1 hP1 _ hS1 => ?_)
  rw [← hcf2, WL_set hj] at hP1
  exact kk H1 locs1 ls hP1 hS1 hl
theorem va_aldr {D : va_G} {cl : List vw_C} {tys : List (ClassId × FieldType)} {ws : va_W} {H : Heap} {locs : List Loc} {a : Nat} {ls : Array Slot} {rest : List Value} (hexec : p.tables.exec = Jvm.exec) (hb : c.code = cc) (hK : va_K D cl tys s) (hP : va_P D cl ws H) (q0 t0 : Nat) {cA : ClassId} {ty : FieldType} {n : Nat} {f : Nat → Option Nat} (ha : ws[q0]? = some (a, .inl (cA, n, .inr (.inr (.inr (.inr f)))))) (ht : tys[t0]? = some (cA, ty)) (hty : ty.isReference = true) {i : Int32} (hin : vp_in i n) (hdg : decode cc pc = .ok (.aaload, 1))
    (kk : W p l e R s m args below meth c H locs cells slots Q (F0 m (pc + 1) ls (va_rf (f i.toNatClampNeg) :: rest))) : W p l e R s m args below meth c H locs cells slots Q (F0 m pc ls (.int i :: .ref a :: rest)) := by
  have hlt : i.toNatClampNeg < n := Nat.not_le.mp fun q => hin (Or.inr q)
  exact W.aald (v := va_rf (f i.toNatClampNeg)) (ty := ty) hexec hb (hP q0 _ ha) ((hK.2 t0 _ ht).1 n (fun j => va_rf (f j))) hty (fun q => by cases q) (by show ¬ (i < 0 ∨ (arrV _ _ _).slots.size ≤ _); rw [arrV_size]; exact hin) (by show (arrV _ _ _).slots[_]? = _; rw [arrV_read _ _ hlt]) rfl rfl hdg kk
theorem z_aald (C : Cx p l s m args meth c cc own nL ret D ad cy A sa) (k i : Nat) (hk : k < 33) (hi : i < nk k) (t : Nat) {n : Nat} {f : Nat → Option Nat} {cA : ClassId} {ty : FieldType} (hcf : cf ad cy k i (σ k i) = .inl (cA, n, .inr (.inr (.inr (.inr f))))) (ht : (tysL cy)[t]? = some (cA, ty)) (hty : ty.isReference = true) (hn : n < 2 ^ 31) {x : Int32} {j q : Nat} (hx : x = nI j) (hj : j < n) (hq : f j = some q) (hdg : decode cc pc = .ok (.aaload, 1)) (kk : Z p l e R s m args below meth c D ad cy A nL cells slots Q σ L (pc + 1) (.ref q :: st)) : Z p l e R s m args below meth c D ad cy A nL cells slots Q σ L pc (.int x :: .ref (ad k i) :: st) := by
  intro H locs ls hP hS hl
  obtain ⟨he0, hb, hml, hown, hts, hr, hlk, hF⟩ := C
  obtain ⟨j0, hj0⟩ := IX_at hk hi
  have he := WL_at (ad := ad) (cy := cy) (σ := σ) hj0
  rw [hcf] at he
  subst hx
  refine va_aldr he0 hb hF.2.1 hP j0 t he ht hty (vp_in_nI hj hn) hdg ?_
  rw [nI_clamp (by omega), hq]
  exact kk H locs ls hP hS hl
theorem z_iald (C : Cx p l s m args meth c cc own nL ret D ad cy A sa) (k i : Nat) (hk : k < 33) (hi : i < nk k) {n : Nat} (hcf : cf ad cy k i (σ k i) = .inl (cy 0, n, .inl (σ k i))) (hn : n < 2 ^ 31) {x : Int32} {j : Nat} (hx : x = nI j) (hj : j < n) (hdg : decode cc pc = .ok (.iaload, 1)) (kk : Z p l e R s m args below meth c D ad cy A nL cells slots Q σ L (pc + 1) (.int (σ k i j) :: st)) : Z p l e R s m args below meth c D ad cy A nL cells slots Q σ L pc (.int x :: .ref (ad k i) :: st) := by
  intro H locs ls hP hS hl
  obtain ⟨he0, hb, hml, hown, hts, hr, hlk, hF⟩ := C
  obtain ⟨j0, hj0⟩ := IX_at hk hi
  have he := WL_at (ad := ad) (cy := cy) (σ := σ) hj0
  rw [hcf] at he
  subst hx
  refine va_iald he0 hb hF.2.1 hP j0 0 he rfl (vp_in_nI hj hn) hdg ?_
  rw [nI_clamp (by omega)]
  exact kk H locs ls hP hS hl
theorem z_zald (C : Cx p l s m args meth c cc own nL ret D ad cy A sa) (k i : Nat) (hk : k < 33) (hi : i < nk k) {n : Nat} (hcf : cf ad cy k i (σ k i) = .inl (cy 1, n, .inl (σ k i))) (hn : n < 2 ^ 31) {x : Int32} {j : Nat} (hx : x = nI j) (hj : j < n) (hdg : decode cc pc = .ok (.baload, 1)) (kk : Z p l e R s m args below meth c D ad cy A nL cells slots Q σ L (pc + 1) (.int (σ k i j) :: st)) : Z p l e R s m args below meth c D ad cy A nL cells slots Q σ L pc (.int x :: .ref (ad k i) :: st) := by
  intro H locs ls hP hS hl
  obtain ⟨he0, hb, hml, hown, hts, hr, hlk, hF⟩ := C
  obtain ⟨j0, hj0⟩ := IX_at hk hi
  have he := WL_at (ad := ad) (cy := cy) (σ := σ) hj0
  rw [hcf] at he
  subst hx
  refine va_zald he0 hb hF.2.1 hP j0 1 he rfl (vp_in_nI hj hn) hdg ?_
  rw [nI_clamp (by omega)]
  exact kk H locs ls hP hS hl
theorem z_iast (C : Cx p l s m args meth c cc own nL ret D ad cy A sa) (k i : Nat) (hk : k < 33) (hi : i < nk k) {n : Nat} (hcf : ∀ g : Nat → Int32, cf ad cy k i g = .inl (cy 0, n, .inl g)) (hn : n < 2 ^ 31) {x y : Int32} {j : Nat} (hx : x = nI j) (hj : j < n) (hdg : decode cc pc = .ok (.iastore, 1)) (kk : Z p l e R s m args below meth c D ad cy A nL cells slots Q (up σ k i j y) L (pc + 1) st) : Z p l e R s m args below meth c D ad cy A nL cells slots Q σ L pc (.int y :: .int x :: .ref (ad k i) :: st) := by
  intro H locs ls hP hS hl
  obtain ⟨he0, hb, hml, hown, hts, hr, hlk, hF⟩ := C
  obtain ⟨j0, hj0⟩ := IX_at hk hi
  have he := WL_at (ad := ad) (cy := cy) (σ := σ) hj0
  rw [hcf] at he
  subst hx
  refine va_iast he0 hb hF.2.1 hP (hF.2.2.1.D cy σ) hS j0 0 he rfl (vp_in_nI hj hn) hdg (fun H1 locs1 hP1 _ hS1 => ?_)
  rw [nI_clamp (by omega), ← hcf, WL_set hj0] at hP1
  exact kk H1 locs1 ls hP1 hS1 hl
theorem z_zast (C : Cx p l s m args meth c cc own nL ret D ad cy A sa) (k i : Nat) (hk : k < 33) (hi : i < nk k) {n : Nat} (hcf : ∀ g : Nat → Int32, cf ad cy k i g = .inl (cy 1, n, .inl g)) (hn : n < 2 ^ 31) {x y : Int32} {j : Nat} (hx : x = nI j) (hj : j < n) (hy : y = 0 ∨ y = 1) (hdg : decode cc pc = .ok (.bastore, 1)) (kk : Z p l e R s m args below meth c D ad cy A nL cells slots Q (up σ k i j y) L (pc + 1) st) : Z p l e R s m args below meth c D ad cy A nL cells slots Q σ L pc (.int y :: .int x :: .ref (ad k i) :: st) := by
  intro H locs ls hP hS hl
  obtain ⟨he0, hb, hml, hown, hts, hr, hlk, hF⟩ := C
  obtain ⟨j0, hj0⟩ := IX_at hk hi
  have he := WL_at (ad := ad) (cy := cy) (σ := σ) hj0
  rw [hcf] at he
  subst hx
  refine va_zast he0 hb hF.2.1 hP (hF.2.2.1.D cy σ) hS j0 1 he rfl (vp_in_nI hj hn) hdg (fun H1 locs1 hP1 _ hS1 => ?_)
  have hyy : vp_nar .boolean y = y := by rcases hy with rfl | rfl <;> decide +kernel
  first | rw [hyy] at hP1 | skip
  have hy1 : y &&& 1 = y := by rcases hy with rfl | rfl <;> decide +kernel
  first | rw [hy1] at hP1 | skip
  rw [nI_clamp (by omega), ← hcf, WL_set hj0] at hP1
  exact kk H1 locs1 ls hP1 hS1 hl
theorem vp_updL_0 (g : Nat → Int32) (x : Int32) : vp_updL (fun j => (g j).toInt64) 0 x.toInt64 = fun j => (upd g 0 x j).toInt64 := by
  funext j
  unfold vp_updL upd
  by_cases h : j = 0
  · rw [if_pos h, if_pos h]
  · rw [if_neg h, if_neg h]
theorem z_lald (C : Cx p l s m args meth c cc own nL ret D ad cy A sa) {x : Int32} (hx : x = 0) (hdg : decode cc pc = .ok (.laload, 1)) (kk : Z p l e R s m args below meth c D ad cy A nL cells slots Q σ L (pc + 1) (.long (σ 32 0 0).toInt64 :: st)) : Z p l e R s m args below meth c D ad cy A nL cells slots Q σ L pc (.int x :: .ref (ad 32 0) :: st) := by
  intro H locs ls hP hS hl
  obtain ⟨he0, hb, hml, hown, hts, hr, hlk, hF⟩ := C
  obtain ⟨j0, hj0⟩ := IX_at (k := 32) (i := 0) (by decide) (by decide)
  have he := WL_at (ad := ad) (cy := cy) (σ := σ) hj0
  subst hx
  exact va_lald (f := fun j => (σ 32 0 j).toInt64) (n := 1) (cA := cy 2) he0 hb hF.2.1 hP j0 2 he rfl (by rw [← nI_0]; exact vp_in_nI (by decide) (by decide)) hdg (kk H locs ls hP hS hl)
theorem z_last (C : Cx p l s m args meth c cc own nL ret D ad cy A sa) {x y : Int32} (hx : x = 0) (hdg : decode cc pc = .ok (.lastore, 1)) (kk : Z p l e R s m args below meth c D ad cy A nL cells slots Q (up σ 32 0 0 y) L (pc + 1) st) : Z p l e R s m args below meth c D ad cy A nL cells slots Q σ L pc (.long y.toInt64 :: .int x :: .ref (ad 32 0) :: st) := by
  intro H locs ls hP hS hl
  obtain ⟨he0, hb, hml, hown, hts, hr, hlk, hF⟩ := C
  obtain ⟨j0, hj0⟩ := IX_at (k := 32) (i := 0) (by decide) (by decide)
  have he := WL_at (ad := ad) (cy := cy) (σ := σ) hj0
  subst hx
  refine va_last (f := fun j => (σ 32 0 j).toInt64) (n := 1) (cA := cy 2) he0 hb hF.2.1 hP (hF.2.2.1.D cy σ) hS j0 2 he rfl (by rw [← nI_0]; exact vp_in_nI (by decide) (by decide)) hdg (fun H1 locs1 hP1 _ hS1 => ?_)
  rw [show ((0 : Int32)).toNatClampNeg = 0 from rfl, vp_updL_0] at hP1
  have h2 := WL_set (ad := ad) (cy := cy) (σ := σ) (f := 0) (x := y) hj0
  have hP2 : va_P D vwCl (WL ad cy (up σ 32 0 0 y)) H1 := by rw [← h2]; exact hP1
  exact kk H1 locs1 ls hP2 hS1 hl
theorem g_0_0 (C : Cx p l s m args meth c cc own nL ret D ad cy A sa) {idx : Nat} (hw : Cond.fieldLink own idx "FretSchool" "pieces" "[LFretSchool$Piece;" ∈ BIG) (hdg : decode cc pc = .ok (.getfield idx, 3)) (kk : Z p l e R s m args below meth c D ad cy A nL cells slots Q σ L (pc + 3) (.ref (ad 1 0) :: st)) : Z p l e R s m args below meth c D ad cy A nL cells slots Q σ L pc (.ref (ad 0 0) :: st) := z_getf C 0 0 0 (by decide) (by decide) rfl rfl (by decide) inB5 hw rfl rfl hdg kk
theorem g_0_1 (C : Cx p l s m args meth c cc own nL ret D ad cy A sa) {idx : Nat} (hw : Cond.fieldLink own idx "FretSchool" "builds" "[LFretSchool$Instrument;" ∈ BIG) (hdg : decode cc pc = .ok (.getfield idx, 3)) (kk : Z p l e R s m args below meth c D ad cy A nL cells slots Q σ L (pc + 3) (.ref (ad 2 0) :: st)) : Z p l e R s m args below meth c D ad cy A nL cells slots Q σ L pc (.ref (ad 0 0) :: st) := z_getf C 0 0 1 (by decide) (by decide) rfl rfl (by decide) inB5 hw rfl rfl hdg kk
theorem g_0_2 (C : Cx p l s m args meth c cc own nL ret D ad cy A sa) {idx : Nat} (hw : Cond.fieldLink own idx "FretSchool" "pupils" "[LFretSchool$Pupil;" ∈ BIG) (hdg : decode cc pc = .ok (.getfield idx, 3)) (kk : Z p l e R s m args below meth c D ad cy A nL cells slots Q σ L (pc + 3) (.ref (ad 3 0) :: st)) : Z p l e R s m args below meth c D ad cy A nL cells slots Q σ L pc (.ref (ad 0 0) :: st) := z_getf C 0 0 2 (by decide) (by decide) rfl rfl (by decide) inB5 hw rfl rfl hdg kk
theorem g_0_3 (C : Cx p l s m args meth c cc own nL ret D ad cy A sa) {idx : Nat} (hw : Cond.fieldLink own idx "FretSchool" "orders" "[LFretSchool$Order;" ∈ BIG) (hdg : decode cc pc = .ok (.getfield idx, 3)) (kk : Z p l e R s m args below meth c D ad cy A nL cells slots Q σ L (pc + 3) (.ref (ad 4 0) :: st)) : Z p l e R s m args below meth c D ad cy A nL cells slots Q σ L pc (.ref (ad 0 0) :: st) := z_getf C 0 0 3 (by decide) (by decide) rfl rfl (by decide) inB5 hw rfl rfl hdg kk
theorem g_0_4 (C : Cx p l s m args meth c cc own nL ret D ad cy A sa) {idx : Nat} (hw : Cond.fieldLink own idx "FretSchool" "stock" "[I" ∈ BIG) (hdg : decode cc pc = .ok (.getfield idx, 3)) (kk : Z p l e R s m args below meth c D ad cy A nL cells slots Q σ L (pc + 3) (.ref (ad 5 0) :: st)) : Z p l e R s m args below meth c D ad cy A nL cells slots Q σ L pc (.ref (ad 0 0) :: st) := z_getf C 0 0 4 (by decide) (by decide) rfl rfl (by decide) inB5 hw rfl rfl hdg kk
theorem g_0_5 (C : Cx p l s m args meth c cc own nL ret D ad cy A sa) {idx : Nat} (hw : Cond.fieldLink own idx "FretSchool" "hand" "LFretSchool$Hand;" ∈ BIG) (hdg : decode cc pc = .ok (.getfield idx, 3)) (kk : Z p l e R s m args below meth c D ad cy A nL cells slots Q σ L (pc + 3) (.ref (ad 6 0) :: st)) : Z p l e R s m args below meth c D ad cy A nL cells slots Q σ L pc (.ref (ad 0 0) :: st) := z_getf C 0 0 5 (by decide) (by decide) rfl rfl (by decide) inB5 hw rfl rfl hdg kk
theorem g_0_6 (C : Cx p l s m args meth c cc own nL ret D ad cy A sa) {idx : Nat} (hw : Cond.fieldLink own idx "FretSchool" "pieceCount" "I" ∈ BIG) (hdg : decode cc pc = .ok (.getfield idx, 3)) (kk : Z p l e R s m args below meth c D ad cy A nL cells slots Q σ L (pc + 3) (.int (σ 0 0 6) :: st)) : Z p l e R s m args below meth c D ad cy A nL cells slots Q σ L pc (.ref (ad 0 0) :: st) := z_getf C 0 0 6 (by decide) (by decide) rfl rfl (by decide) inB5 hw rfl rfl hdg kk
theorem p_0_6 (C : Cx p l s m args meth c cc own nL ret D ad cy A sa) {idx : Nat} {x : Int32} (hw : Cond.fieldLink own idx "FretSchool" "pieceCount" "I" ∈ BIG) (hdg : decode cc pc = .ok (.putfield idx, 3)) (kk : Z p l e R s m args below meth c D ad cy A nL cells slots Q (up σ 0 0 6 x) L (pc + 3) st) : Z p l e R s m args below meth c D ad cy A nL cells slots Q σ L pc (.int x :: .ref (ad 0 0) :: st) := z_putf C 0 0 6 (by decide) (by decide) rfl rfl (by decide) inB5 tyX5_ok nmX5 hw rfl rfl rfl rfl (Nat.le_of_ble_eq_true rfl) rfl hdg kk
theorem g_0_7 (C : Cx p l s m args meth c cc own nL ret D ad cy A sa) {idx : Nat} (hw : Cond.fieldLink own idx "FretSchool" "buildCount" "I" ∈ BIG) (hdg : decode cc pc = .ok (.getfield idx, 3)) (kk : Z p l e R s m args below meth c D ad cy A nL cells slots Q σ L (pc + 3) (.int (σ 0 0 7) :: st)) : Z p l e R s m args below meth c D ad cy A nL cells slots Q σ L pc (.ref (ad 0 0) :: st) := z_getf C 0 0 7 (by decide) (by decide) rfl rfl (by decide) inB5 hw rfl rfl hdg kk
theorem p_0_7 (C : Cx p l s m args meth c cc own nL ret D ad cy A sa) {idx : Nat} {x : Int32} (hw : Cond.fieldLink own idx "FretSchool" "buildCount" "I" ∈ BIG) (hdg : decode cc pc = .ok (.putfield idx, 3)) (kk : Z p l e R s m args below meth c D ad cy A nL cells slots Q (up σ 0 0 7 x) L (pc + 3) st) : Z p l e R s m args below meth c D ad cy A nL cells slots Q σ L pc (.int x :: .ref (ad 0 0) :: st) := z_putf C 0 0 7 (by decide) (by decide) rfl rfl (by decide) inB5 tyX5_ok nmX5 hw rfl rfl rfl rfl (Nat.le_of_ble_eq_true rfl) rfl hdg kk
theorem g_0_8 (C : Cx p l s m args meth c cc own nL ret D ad cy A sa) {idx : Nat} (hw : Cond.fieldLink own idx "FretSchool" "orderCount" "I" ∈ BIG) (hdg : decode cc pc = .ok (.getfield idx, 3)) (kk : Z p l e R s m args below meth c D ad cy A nL cells slots Q σ L (pc + 3) (.int (σ 0 0 8) :: st)) : Z p l e R s m args below meth c D ad cy A nL cells slots Q σ L pc (.ref (ad 0 0) :: st) := z_getf C 0 0 8 (by decide) (by decide) rfl rfl (by decide) inB5 hw rfl rfl hdg kk
theorem p_0_8 (C : Cx p l s m args meth c cc own nL ret D ad cy A sa) {idx : Nat} {x : Int32} (hw : Cond.fieldLink own idx "FretSchool" "orderCount" "I" ∈ BIG) (hdg : decode cc pc = .ok (.putfield idx, 3)) (kk : Z p l e R s m args below meth c D ad cy A nL cells slots Q (up σ 0 0 8 x) L (pc + 3) st) : Z p l e R s m args below meth c D ad cy A nL cells slots Q σ L pc (.int x :: .ref (ad 0 0) :: st) := z_putf C 0 0 8 (by decide) (by decide) rfl rfl (by decide) inB5 tyX5_ok nmX5 hw rfl rfl rfl rfl (Nat.le_of_ble_eq_true rfl) rfl hdg kk
theorem g_0_9 (C : Cx p l s m args meth c cc own nL ret D ad cy A sa) {idx : Nat} (hw : Cond.fieldLink own idx "FretSchool" "day" "I" ∈ BIG) (hdg : decode cc pc = .ok (.getfield idx, 3)) (kk : Z p l e R s m args below meth c D ad cy A nL cells slots Q σ L (pc + 3) (.int (σ 0 0 9) :: st)) : Z p l e R s m args below meth c D ad cy A nL cells slots Q σ L pc (.ref (ad 0 0) :: st) := z_getf C 0 0 9 (by decide) (by decide) rfl rfl (by decide) inB5 hw rfl rfl hdg kk
theorem p_0_9 (C : Cx p l s m args meth c cc own nL ret D ad cy A sa) {idx : Nat} {x : Int32} (hw : Cond.fieldLink own idx "FretSchool" "day" "I" ∈ BIG) (hdg : decode cc pc = .ok (.putfield idx, 3)) (kk : Z p l e R s m args below meth c D ad cy A nL cells slots Q (up σ 0 0 9 x) L (pc + 3) st) : Z p l e R s m args below meth c D ad cy A nL cells slots Q σ L pc (.int x :: .ref (ad 0 0) :: st) := z_putf C 0 0 9 (by decide) (by decide) rfl rfl (by decide) inB5 tyX5_ok nmX5 hw rfl rfl rfl rfl (Nat.le_of_ble_eq_true rfl) rfl hdg kk
theorem g_6_0 (C : Cx p l s m args meth c cc own nL ret D ad cy A sa) {idx : Nat} (hw : Cond.fieldLink own idx "FretSchool$Hand" "reach" "[I" ∈ BIG) (hdg : decode cc pc = .ok (.getfield idx, 3)) (kk : Z p l e R s m args below meth c D ad cy A nL cells slots Q σ L (pc + 3) (.ref (ad 7 0) :: st)) : Z p l e R s m args below meth c D ad cy A nL cells slots Q σ L pc (.ref (ad 6 0) :: st) := z_getf C 6 0 0 (by decide) (by decide) rfl rfl (by decide) inB0 hw rfl rfl hdg kk
theorem g_6_1 (C : Cx p l s m args meth c cc own nL ret D ad cy A sa) {idx : Nat} (hw : Cond.fieldLink own idx "FretSchool$Hand" "rest" "[[I" ∈ BIG) (hdg : decode cc pc = .ok (.getfield idx, 3)) (kk : Z p l e R s m args below meth c D ad cy A nL cells slots Q σ L (pc + 3) (.ref (ad 8 0) :: st)) : Z p l e R s m args below meth c D ad cy A nL cells slots Q σ L pc (.ref (ad 6 0) :: st) := z_getf C 6 0 1 (by decide) (by decide) rfl rfl (by decide) inB0 hw rfl rfl hdg kk
theorem g_6_2 (C : Cx p l s m args meth c cc own nL ret D ad cy A sa) {idx : Nat} (hw : Cond.fieldLink own idx "FretSchool$Hand" "row" "[I" ∈ BIG) (hdg : decode cc pc = .ok (.getfield idx, 3)) (kk : Z p l e R s m args below meth c D ad cy A nL cells slots Q σ L (pc + 3) (.ref (ad 9 0) :: st)) : Z p l e R s m args below meth c D ad cy A nL cells slots Q σ L pc (.ref (ad 6 0) :: st) := z_getf C 6 0 2 (by decide) (by decide) rfl rfl (by decide) inB0 hw rfl rfl hdg kk
theorem g_6_3 (C : Cx p l s m args meth c cc own nL ret D ad cy A sa) {idx : Nat} (hw : Cond.fieldLink own idx "FretSchool$Hand" "sum" "I" ∈ BIG) (hdg : decode cc pc = .ok (.getfield idx, 3)) (kk : Z p l e R s m args below meth c D ad cy A nL cells slots Q σ L (pc + 3) (.int (σ 6 0 3) :: st)) : Z p l e R s m args below meth c D ad cy A nL cells slots Q σ L pc (.ref (ad 6 0) :: st) := z_getf C 6 0 3 (by decide) (by decide) rfl rfl (by decide) inB0 hw rfl rfl hdg kk
theorem p_6_3 (C : Cx p l s m args meth c cc own nL ret D ad cy A sa) {idx : Nat} {x : Int32} (hw : Cond.fieldLink own idx "FretSchool$Hand" "sum" "I" ∈ BIG) (hdg : decode cc pc = .ok (.putfield idx, 3)) (kk : Z p l e R s m args below meth c D ad cy A nL cells slots Q (up σ 6 0 3 x) L (pc + 3) st) : Z p l e R s m args below meth c D ad cy A nL cells slots Q σ L pc (.int x :: .ref (ad 6 0) :: st) := z_putf C 6 0 3 (by decide) (by decide) rfl rfl (by decide) inB0 tyX0_ok nmX0 hw rfl rfl rfl rfl (Nat.le_of_ble_eq_true rfl) rfl hdg kk
theorem g_6_4 (C : Cx p l s m args meth c cc own nL ret D ad cy A sa) {idx : Nat} (hw : Cond.fieldLink own idx "FretSchool$Hand" "greatest" "I" ∈ BIG) (hdg : decode cc pc = .ok (.getfield idx, 3)) (kk : Z p l e R s m args below meth c D ad cy A nL cells slots Q σ L (pc + 3) (.int (σ 6 0 4) :: st)) : Z p l e R s m args below meth c D ad cy A nL cells slots Q σ L pc (.ref (ad 6 0) :: st) := z_getf C 6 0 4 (by decide) (by decide) rfl rfl (by decide) inB0 hw rfl rfl hdg kk
theorem p_6_4 (C : Cx p l s m args meth c cc own nL ret D ad cy A sa) {idx : Nat} {x : Int32} (hw : Cond.fieldLink own idx "FretSchool$Hand" "greatest" "I" ∈ BIG) (hdg : decode cc pc = .ok (.putfield idx, 3)) (kk : Z p l e R s m args below meth c D ad cy A nL cells slots Q (up σ 6 0 4 x) L (pc + 3) st) : Z p l e R s m args below meth c D ad cy A nL cells slots Q σ L pc (.int x :: .ref (ad 6 0) :: st) := z_putf C 6 0 4 (by decide) (by decide) rfl rfl (by decide) inB0 tyX0_ok nmX0 hw rfl rfl rfl rfl (Nat.le_of_ble_eq_true rfl) rfl hdg kk
theorem g_11_0 {i : Nat} (hi : i < 8) (C : Cx p l s m args meth c cc own nL ret D ad cy A sa) {idx : Nat} (hw : Cond.fieldLink own idx "FretSchool$Piece" "pitches" "[I" ∈ BIG) (hdg : decode cc pc = .ok (.getfield idx, 3)) (kk : Z p l e R s m args below meth c D ad cy A nL cells slots Q σ L (pc + 3) (.ref (ad 12 i) :: st)) : Z p l e R s m args below meth c D ad cy A nL cells slots Q σ L pc (.ref (ad 11 i) :: st) := z_getf C 11 i 0 (by decide) hi rfl rfl (by decide) inB3 hw rfl rfl hdg kk
theorem g_11_1 {i : Nat} (hi : i < 8) (C : Cx p l s m args meth c cc own nL ret D ad cy A sa) {idx : Nat} (hw : Cond.fieldLink own idx "FretSchool$Piece" "count" "I" ∈ BIG) (hdg : decode cc pc = .ok (.getfield idx, 3)) (kk : Z p l e R s m args below meth c D ad cy A nL cells slots Q σ L (pc + 3) (.int (σ 11 i 1) :: st)) : Z p l e R s m args below meth c D ad cy A nL cells slots Q σ L pc (.ref (ad 11 i) :: st) := z_getf C 11 i 1 (by decide) hi rfl rfl (by decide) inB3 hw rfl rfl hdg kk
theorem p_11_1 {i : Nat} (hi : i < 8) (C : Cx p l s m args meth c cc own nL ret D ad cy A sa) {idx : Nat} {x : Int32} (hw : Cond.fieldLink own idx "FretSchool$Piece" "count" "I" ∈ BIG) (hdg : decode cc pc = .ok (.putfield idx, 3)) (kk : Z p l e R s m args below meth c D ad cy A nL cells slots Q (up σ 11 i 1 x) L (pc + 3) st) : Z p l e R s m args below meth c D ad cy A nL cells slots Q σ L pc (.int x :: .ref (ad 11 i) :: st) := z_putf C 11 i 1 (by decide) hi rfl rfl (by decide) inB3 tyX3_ok nmX3 hw rfl rfl rfl rfl (Nat.le_of_ble_eq_true rfl) rfl hdg kk
theorem g_13_0 {i : Nat} (hi : i < 8) (C : Cx p l s m args meth c cc own nL ret D ad cy A sa) {idx : Nat} (hw : Cond.fieldLink own idx "FretSchool$Instrument" "open" "[I" ∈ BIG) (hdg : decode cc pc = .ok (.getfield idx, 3)) (kk : Z p l e R s m args below meth c D ad cy A nL cells slots Q σ L (pc + 3) (.ref (ad 14 i) :: st)) : Z p l e R s m args below meth c D ad cy A nL cells slots Q σ L pc (.ref (ad 13 i) :: st) := z_getf C 13 i 0 (by decide) hi rfl rfl (by decide) inB1 hw rfl rfl hdg kk
theorem g_13_1 {i : Nat} (hi : i < 8) (C : Cx p l s m args meth c cc own nL ret D ad cy A sa) {idx : Nat} (hw : Cond.fieldLink own idx "FretSchool$Instrument" "keeper" "I" ∈ BIG) (hdg : decode cc pc = .ok (.getfield idx, 3)) (kk : Z p l e R s m args below meth c D ad cy A nL cells slots Q σ L (pc + 3) (.int (σ 13 i 1) :: st)) : Z p l e R s m args below meth c D ad cy A nL cells slots Q σ L pc (.ref (ad 13 i) :: st) := z_getf C 13 i 1 (by decide) hi rfl rfl (by decide) inB1 hw rfl rfl hdg kk
theorem p_13_1 {i : Nat} (hi : i < 8) (C : Cx p l s m args meth c cc own nL ret D ad cy A sa) {idx : Nat} {x : Int32} (hw : Cond.fieldLink own idx "FretSchool$Instrument" "keeper" "I" ∈ BIG) (hdg : decode cc pc = .ok (.putfield idx, 3)) (kk : Z p l e R s m args below meth c D ad cy A nL cells slots Q (up σ 13 i 1 x) L (pc + 3) st) : Z p l e R s m args below meth c D ad cy A nL cells slots Q σ L pc (.int x :: .ref (ad 13 i) :: st) := z_putf C 13 i 1 (by decide) hi rfl rfl (by decide) inB1 tyX1_ok nmX1 hw rfl rfl rfl rfl (Nat.le_of_ble_eq_true rfl) rfl hdg kk
theorem g_13_2 {i : Nat} (hi : i < 8) (C : Cx p l s m args meth c cc own nL ret D ad cy A sa) {idx : Nat} (hw : Cond.fieldLink own idx "FretSchool$Instrument" "fretCount" "I" ∈ BIG) (hdg : decode cc pc = .ok (.getfield idx, 3)) (kk : Z p l e R s m args below meth c D ad cy A nL cells slots Q σ L (pc + 3) (.int (σ 13 i 2) :: st)) : Z p l e R s m args below meth c D ad cy A nL cells slots Q σ L pc (.ref (ad 13 i) :: st) := z_getf C 13 i 2 (by decide) hi rfl rfl (by decide) inB1 hw rfl rfl hdg kk
theorem p_13_2 {i : Nat} (hi : i < 8) (C : Cx p l s m args meth c cc own nL ret D ad cy A sa) {idx : Nat} {x : Int32} (hw : Cond.fieldLink own idx "FretSchool$Instrument" "fretCount" "I" ∈ BIG) (hdg : decode cc pc = .ok (.putfield idx, 3)) (kk : Z p l e R s m args below meth c D ad cy A nL cells slots Q (up σ 13 i 2 x) L (pc + 3) st) : Z p l e R s m args below meth c D ad cy A nL cells slots Q σ L pc (.int x :: .ref (ad 13 i) :: st) := z_putf C 13 i 2 (by decide) hi rfl rfl (by decide) inB1 tyX1_ok nmX1 hw rfl rfl rfl rfl (Nat.le_of_ble_eq_true rfl) rfl hdg kk
theorem g_15_0 {i : Nat} (hi : i < 5) (C : Cx p l s m args meth c cc own nL ret D ad cy A sa) {idx : Nat} (hw : Cond.fieldLink own idx "FretSchool$Pupil" "grade" "I" ∈ BIG) (hdg : decode cc pc = .ok (.getfield idx, 3)) (kk : Z p l e R s m args below meth c D ad cy A nL cells slots Q σ L (pc + 3) (.int (σ 15 i 0) :: st)) : Z p l e R s m args below meth c D ad cy A nL cells slots Q σ L pc (.ref (ad 15 i) :: st) := z_getf C 15 i 0 (by decide) hi rfl rfl (by decide) inB4 hw rfl rfl hdg kk
theorem p_15_0 {i : Nat} (hi : i < 5) (C : Cx p l s m args meth c cc own nL ret D ad cy A sa) {idx : Nat} {x : Int32} (hw : Cond.fieldLink own idx "FretSchool$Pupil" "grade" "I" ∈ BIG) (hdg : decode cc pc = .ok (.putfield idx, 3)) (kk : Z p l e R s m args below meth c D ad cy A nL cells slots Q (up σ 15 i 0 x) L (pc + 3) st) : Z p l e R s m args below meth c D ad cy A nL cells slots Q σ L pc (.int x :: .ref (ad 15 i) :: st) := z_putf C 15 i 0 (by decide) hi rfl rfl (by decide) inB4 tyX4_ok nmX4 hw rfl rfl rfl rfl (Nat.le_of_ble_eq_true rfl) rfl hdg kk
theorem g_15_1 {i : Nat} (hi : i < 5) (C : Cx p l s m args meth c cc own nL ret D ad cy A sa) {idx : Nat} (hw : Cond.fieldLink own idx "FretSchool$Pupil" "repertoire" "I" ∈ BIG) (hdg : decode cc pc = .ok (.getfield idx, 3)) (kk : Z p l e R s m args below meth c D ad cy A nL cells slots Q σ L (pc + 3) (.int (σ 15 i 1) :: st)) : Z p l e R s m args below meth c D ad cy A nL cells slots Q σ L pc (.ref (ad 15 i) :: st) := z_getf C 15 i 1 (by decide) hi rfl rfl (by decide) inB4 hw rfl rfl hdg kk
theorem p_15_1 {i : Nat} (hi : i < 5) (C : Cx p l s m args meth c cc own nL ret D ad cy A sa) {idx : Nat} {x : Int32} (hw : Cond.fieldLink own idx "FretSchool$Pupil" "repertoire" "I" ∈ BIG) (hdg : decode cc pc = .ok (.putfield idx, 3)) (kk : Z p l e R s m args below meth c D ad cy A nL cells slots Q (up σ 15 i 1 x) L (pc + 3) st) : Z p l e R s m args below meth c D ad cy A nL cells slots Q σ L pc (.int x :: .ref (ad 15 i) :: st) := z_putf C 15 i 1 (by decide) hi rfl rfl (by decide) inB4 tyX4_ok nmX4 hw rfl rfl rfl rfl (Nat.le_of_ble_eq_true rfl) rfl hdg kk
theorem g_16_0 {i : Nat} (hi : i < 20) (C : Cx p l s m args meth c cc own nL ret D ad cy A sa) {idx : Nat} (hw : Cond.fieldLink own idx "FretSchool$Order" "buyer" "I" ∈ BIG) (hdg : decode cc pc = .ok (.getfield idx, 3)) (kk : Z p l e R s m args below meth c D ad cy A nL cells slots Q σ L (pc + 3) (.int (σ 16 i 0) :: st)) : Z p l e R s m args below meth c D ad cy A nL cells slots Q σ L pc (.ref (ad 16 i) :: st) := z_getf C 16 i 0 (by decide) hi rfl rfl (by decide) inB2 hw rfl rfl hdg kk
theorem p_16_0 {i : Nat} (hi : i < 20) (C : Cx p l s m args meth c cc own nL ret D ad cy A sa) {idx : Nat} {x : Int32} (hw : Cond.fieldLink own idx "FretSchool$Order" "buyer" "I" ∈ BIG) (hdg : decode cc pc = .ok (.putfield idx, 3)) (kk : Z p l e R s m args below meth c D ad cy A nL cells slots Q (up σ 16 i 0 x) L (pc + 3) st) : Z p l e R s m args below meth c D ad cy A nL cells slots Q σ L pc (.int x :: .ref (ad 16 i) :: st) := z_putf C 16 i 0 (by decide) hi rfl rfl (by decide) inB2 tyX2_ok nmX2 hw rfl rfl rfl rfl (Nat.le_of_ble_eq_true rfl) rfl hdg kk
theorem g_16_1 {i : Nat} (hi : i < 20) (C : Cx p l s m args meth c cc own nL ret D ad cy A sa) {idx : Nat} (hw : Cond.fieldLink own idx "FretSchool$Order" "fretCount" "I" ∈ BIG) (hdg : decode cc pc = .ok (.getfield idx, 3)) (kk : Z p l e R s m args below meth c D ad cy A nL cells slots Q σ L (pc + 3) (.int (σ 16 i 1) :: st)) : Z p l e R s m args below meth c D ad cy A nL cells slots Q σ L pc (.ref (ad 16 i) :: st) := z_getf C 16 i 1 (by decide) hi rfl rfl (by decide) inB2 hw rfl rfl hdg kk
theorem p_16_1 {i : Nat} (hi : i < 20) (C : Cx p l s m args meth c cc own nL ret D ad cy A sa) {idx : Nat} {x : Int32} (hw : Cond.fieldLink own idx "FretSchool$Order" "fretCount" "I" ∈ BIG) (hdg : decode cc pc = .ok (.putfield idx, 3)) (kk : Z p l e R s m args below meth c D ad cy A nL cells slots Q (up σ 16 i 1 x) L (pc + 3) st) : Z p l e R s m args below meth c D ad cy A nL cells slots Q σ L pc (.int x :: .ref (ad 16 i) :: st) := z_putf C 16 i 1 (by decide) hi rfl rfl (by decide) inB2 tyX2_ok nmX2 hw rfl rfl rfl rfl (Nat.le_of_ble_eq_true rfl) rfl hdg kk
theorem g_16_2 {i : Nat} (hi : i < 20) (C : Cx p l s m args meth c cc own nL ret D ad cy A sa) {idx : Nat} (hw : Cond.fieldLink own idx "FretSchool$Order" "readyDay" "I" ∈ BIG) (hdg : decode cc pc = .ok (.getfield idx, 3)) (kk : Z p l e R s m args below meth c D ad cy A nL cells slots Q σ L (pc + 3) (.int (σ 16 i 2) :: st)) : Z p l e R s m args below meth c D ad cy A nL cells slots Q σ L pc (.ref (ad 16 i) :: st) := z_getf C 16 i 2 (by decide) hi rfl rfl (by decide) inB2 hw rfl rfl hdg kk
theorem p_16_2 {i : Nat} (hi : i < 20) (C : Cx p l s m args meth c cc own nL ret D ad cy A sa) {idx : Nat} {x : Int32} (hw : Cond.fieldLink own idx "FretSchool$Order" "readyDay" "I" ∈ BIG) (hdg : decode cc pc = .ok (.putfield idx, 3)) (kk : Z p l e R s m args below meth c D ad cy A nL cells slots Q (up σ 16 i 2 x) L (pc + 3) st) : Z p l e R s m args below meth c D ad cy A nL cells slots Q σ L pc (.int x :: .ref (ad 16 i) :: st) := z_putf C 16 i 2 (by decide) hi rfl rfl (by decide) inB2 tyX2_ok nmX2 hw rfl rfl rfl rfl (Nat.le_of_ble_eq_true rfl) rfl hdg kk
theorem g_16_3 {i : Nat} (hi : i < 20) (C : Cx p l s m args meth c cc own nL ret D ad cy A sa) {idx : Nat} (hw : Cond.fieldLink own idx "FretSchool$Order" "isFetched" "Z" ∈ BIG) (hdg : decode cc pc = .ok (.getfield idx, 3)) (kk : Z p l e R s m args below meth c D ad cy A nL cells slots Q σ L (pc + 3) (.int (σ 16 i 3) :: st)) : Z p l e R s m args below meth c D ad cy A nL cells slots Q σ L pc (.ref (ad 16 i) :: st) := z_getf C 16 i 3 (by decide) hi rfl rfl (by decide) inB2 hw rfl rfl hdg kk
theorem p_16_3 {i : Nat} (hi : i < 20) (C : Cx p l s m args meth c cc own nL ret D ad cy A sa) {idx : Nat} {x : Int32} (hz : x = 0 ∨ x = 1) (hw : Cond.fieldLink own idx "FretSchool$Order" "isFetched" "Z" ∈ BIG) (hdg : decode cc pc = .ok (.putfield idx, 3)) (kk : Z p l e R s m args below meth c D ad cy A nL cells slots Q (up σ 16 i 3 x) L (pc + 3) st) : Z p l e R s m args below meth c D ad cy A nL cells slots Q σ L pc (.int x :: .ref (ad 16 i) :: st) := z_putf C 16 i 3 (by decide) hi rfl rfl (by decide) inB2 tyX2_ok nmX2 hw rfl rfl (by rcases hz with rfl | rfl <;> decide +kernel) (by rcases hz with rfl | rfl <;> decide +kernel) (Nat.le_of_ble_eq_true rfl) rfl hdg kk
theorem g_17_0 (C : Cx p l s m args meth c cc own nL ret D ad cy A sa) {idx : Nat} (hw : Cond.fieldLink own idx "FretSchoolModel" "today" "I" ∈ BIG) (hdg : decode cc pc = .ok (.getfield idx, 3)) (kk : Z p l e R s m args below meth c D ad cy A nL cells slots Q σ L (pc + 3) (.int (σ 17 0 0) :: st)) : Z p l e R s m args below meth c D ad cy A nL cells slots Q σ L pc (.ref (ad 17 0) :: st) := z_getf C 17 0 0 (by decide) (by decide) rfl rfl (by decide) inB6 hw rfl rfl hdg kk
theorem p_17_0 (C : Cx p l s m args meth c cc own nL ret D ad cy A sa) {idx : Nat} {x : Int32} (hw : Cond.fieldLink own idx "FretSchoolModel" "today" "I" ∈ BIG) (hdg : decode cc pc = .ok (.putfield idx, 3)) (kk : Z p l e R s m args below meth c D ad cy A nL cells slots Q (up σ 17 0 0 x) L (pc + 3) st) : Z p l e R s m args below meth c D ad cy A nL cells slots Q σ L pc (.int x :: .ref (ad 17 0) :: st) := z_putf C 17 0 0 (by decide) (by decide) rfl rfl (by decide) inB6 tyX6_ok nmX6 hw rfl rfl rfl rfl (Nat.le_of_ble_eq_true rfl) rfl hdg kk
theorem g_17_1 (C : Cx p l s m args meth c cc own nL ret D ad cy A sa) {idx : Nat} (hw : Cond.fieldLink own idx "FretSchoolModel" "pieces" "I" ∈ BIG) (hdg : decode cc pc = .ok (.getfield idx, 3)) (kk : Z p l e R s m args below meth c D ad cy A nL cells slots Q σ L (pc + 3) (.int (σ 17 0 1) :: st)) : Z p l e R s m args below meth c D ad cy A nL cells slots Q σ L pc (.ref (ad 17 0) :: st) := z_getf C 17 0 1 (by decide) (by decide) rfl rfl (by decide) inB6 hw rfl rfl hdg kk
theorem p_17_1 (C : Cx p l s m args meth c cc own nL ret D ad cy A sa) {idx : Nat} {x : Int32} (hw : Cond.fieldLink own idx "FretSchoolModel" "pieces" "I" ∈ BIG) (hdg : decode cc pc = .ok (.putfield idx, 3)) (kk : Z p l e R s m args below meth c D ad cy A nL cells slots Q (up σ 17 0 1 x) L (pc + 3) st) : Z p l e R s m args below meth c D ad cy A nL cells slots Q σ L pc (.int x :: .ref (ad 17 0) :: st) := z_putf C 17 0 1 (by decide) (by decide) rfl rfl (by decide) inB6 tyX6_ok nmX6 hw rfl rfl rfl rfl (Nat.le_of_ble_eq_true rfl) rfl hdg kk
theorem g_17_2 (C : Cx p l s m args meth c cc own nL ret D ad cy A sa) {idx : Nat} (hw : Cond.fieldLink own idx "FretSchoolModel" "many" "[I" ∈ BIG) (hdg : decode cc pc = .ok (.getfield idx, 3)) (kk : Z p l e R s m args below meth c D ad cy A nL cells slots Q σ L (pc + 3) (.ref (ad 18 0) :: st)) : Z p l e R s m args below meth c D ad cy A nL cells slots Q σ L pc (.ref (ad 17 0) :: st) := z_getf C 17 0 2 (by decide) (by decide) rfl rfl (by decide) inB6 hw rfl rfl hdg kk
theorem g_17_3 (C : Cx p l s m args meth c cc own nL ret D ad cy A sa) {idx : Nat} (hw : Cond.fieldLink own idx "FretSchoolModel" "pitch" "[I" ∈ BIG) (hdg : decode cc pc = .ok (.getfield idx, 3)) (kk : Z p l e R s m args below meth c D ad cy A nL cells slots Q σ L (pc + 3) (.ref (ad 19 0) :: st)) : Z p l e R s m args below meth c D ad cy A nL cells slots Q σ L pc (.ref (ad 17 0) :: st) := z_getf C 17 0 3 (by decide) (by decide) rfl rfl (by decide) inB6 hw rfl rfl hdg kk
theorem g_17_4 (C : Cx p l s m args meth c cc own nL ret D ad cy A sa) {idx : Nat} (hw : Cond.fieldLink own idx "FretSchoolModel" "instruments" "I" ∈ BIG) (hdg : decode cc pc = .ok (.getfield idx, 3)) (kk : Z p l e R s m args below meth c D ad cy A nL cells slots Q σ L (pc + 3) (.int (σ 17 0 4) :: st)) : Z p l e R s m args below meth c D ad cy A nL cells slots Q σ L pc (.ref (ad 17 0) :: st) := z_getf C 17 0 4 (by decide) (by decide) rfl rfl (by decide) inB6 hw rfl rfl hdg kk
theorem p_17_4 (C : Cx p l s m args meth c cc own nL ret D ad cy A sa) {idx : Nat} {x : Int32} (hw : Cond.fieldLink own idx "FretSchoolModel" "instruments" "I" ∈ BIG) (hdg : decode cc pc = .ok (.putfield idx, 3)) (kk : Z p l e R s m args below meth c D ad cy A nL cells slots Q (up σ 17 0 4 x) L (pc + 3) st) : Z p l e R s m args below meth c D ad cy A nL cells slots Q σ L pc (.int x :: .ref (ad 17 0) :: st) := z_putf C 17 0 4 (by decide) (by decide) rfl rfl (by decide) inB6 tyX6_ok nmX6 hw rfl rfl rfl rfl (Nat.le_of_ble_eq_true rfl) rfl hdg kk
theorem g_17_5 (C : Cx p l s m args meth c cc own nL ret D ad cy A sa) {idx : Nat} (hw : Cond.fieldLink own idx "FretSchoolModel" "owner" "[I" ∈ BIG) (hdg : decode cc pc = .ok (.getfield idx, 3)) (kk : Z p l e R s m args below meth c D ad cy A nL cells slots Q σ L (pc + 3) (.ref (ad 20 0) :: st)) : Z p l e R s m args below meth c D ad cy A nL cells slots Q σ L pc (.ref (ad 17 0) :: st) := z_getf C 17 0 5 (by decide) (by decide) rfl rfl (by decide) inB6 hw rfl rfl hdg kk
theorem g_17_6 (C : Cx p l s m args meth c cc own nL ret D ad cy A sa) {idx : Nat} (hw : Cond.fieldLink own idx "FretSchoolModel" "frets" "[I" ∈ BIG) (hdg : decode cc pc = .ok (.getfield idx, 3)) (kk : Z p l e R s m args below meth c D ad cy A nL cells slots Q σ L (pc + 3) (.ref (ad 21 0) :: st)) : Z p l e R s m args below meth c D ad cy A nL cells slots Q σ L pc (.ref (ad 17 0) :: st) := z_getf C 17 0 6 (by decide) (by decide) rfl rfl (by decide) inB6 hw rfl rfl hdg kk
theorem g_17_7 (C : Cx p l s m args meth c cc own nL ret D ad cy A sa) {idx : Nat} (hw : Cond.fieldLink own idx "FretSchoolModel" "open" "[I" ∈ BIG) (hdg : decode cc pc = .ok (.getfield idx, 3)) (kk : Z p l e R s m args below meth c D ad cy A nL cells slots Q σ L (pc + 3) (.ref (ad 22 0) :: st)) : Z p l e R s m args below meth c D ad cy A nL cells slots Q σ L pc (.ref (ad 17 0) :: st) := z_getf C 17 0 7 (by decide) (by decide) rfl rfl (by decide) inB6 hw rfl rfl hdg kk
theorem g_17_8 (C : Cx p l s m args meth c cc own nL ret D ad cy A sa) {idx : Nat} (hw : Cond.fieldLink own idx "FretSchoolModel" "level" "[I" ∈ BIG) (hdg : decode cc pc = .ok (.getfield idx, 3)) (kk : Z p l e R s m args below meth c D ad cy A nL cells slots Q σ L (pc + 3) (.ref (ad 23 0) :: st)) : Z p l e R s m args below meth c D ad cy A nL cells slots Q σ L pc (.ref (ad 17 0) :: st) := z_getf C 17 0 8 (by decide) (by decide) rfl rfl (by decide) inB6 hw rfl rfl hdg kk
theorem g_17_9 (C : Cx p l s m args meth c cc own nL ret D ad cy A sa) {idx : Nat} (hw : Cond.fieldLink own idx "FretSchoolModel" "known" "[I" ∈ BIG) (hdg : decode cc pc = .ok (.getfield idx, 3)) (kk : Z p l e R s m args below meth c D ad cy A nL cells slots Q σ L (pc + 3) (.ref (ad 24 0) :: st)) : Z p l e R s m args below meth c D ad cy A nL cells slots Q σ L pc (.ref (ad 17 0) :: st) := z_getf C 17 0 9 (by decide) (by decide) rfl rfl (by decide) inB6 hw rfl rfl hdg kk
theorem g_17_10 (C : Cx p l s m args meth c cc own nL ret D ad cy A sa) {idx : Nat} (hw : Cond.fieldLink own idx "FretSchoolModel" "stock" "[I" ∈ BIG) (hdg : decode cc pc = .ok (.getfield idx, 3)) (kk : Z p l e R s m args below meth c D ad cy A nL cells slots Q σ L (pc + 3) (.ref (ad 25 0) :: st)) : Z p l e R s m args below meth c D ad cy A nL cells slots Q σ L pc (.ref (ad 17 0) :: st) := z_getf C 17 0 10 (by decide) (by decide) rfl rfl (by decide) inB6 hw rfl rfl hdg kk
theorem g_17_11 (C : Cx p l s m args meth c cc own nL ret D ad cy A sa) {idx : Nat} (hw : Cond.fieldLink own idx "FretSchoolModel" "orders" "I" ∈ BIG) (hdg : decode cc pc = .ok (.getfield idx, 3)) (kk : Z p l e R s m args below meth c D ad cy A nL cells slots Q σ L (pc + 3) (.int (σ 17 0 11) :: st)) : Z p l e R s m args below meth c D ad cy A nL cells slots Q σ L pc (.ref (ad 17 0) :: st) := z_getf C 17 0 11 (by decide) (by decide) rfl rfl (by decide) inB6 hw rfl rfl hdg kk
theorem p_17_11 (C : Cx p l s m args meth c cc own nL ret D ad cy A sa) {idx : Nat} {x : Int32} (hw : Cond.fieldLink own idx "FretSchoolModel" "orders" "I" ∈ BIG) (hdg : decode cc pc = .ok (.putfield idx, 3)) (kk : Z p l e R s m args below meth c D ad cy A nL cells slots Q (up σ 17 0 11 x) L (pc + 3) st) : Z p l e R s m args below meth c D ad cy A nL cells slots Q σ L pc (.int x :: .ref (ad 17 0) :: st) := z_putf C 17 0 11 (by decide) (by decide) rfl rfl (by decide) inB6 tyX6_ok nmX6 hw rfl rfl rfl rfl (Nat.le_of_ble_eq_true rfl) rfl hdg kk
theorem g_17_12 (C : Cx p l s m args meth c cc own nL ret D ad cy A sa) {idx : Nat} (hw : Cond.fieldLink own idx "FretSchoolModel" "buyer" "[I" ∈ BIG) (hdg : decode cc pc = .ok (.getfield idx, 3)) (kk : Z p l e R s m args below meth c D ad cy A nL cells slots Q σ L (pc + 3) (.ref (ad 26 0) :: st)) : Z p l e R s m args below meth c D ad cy A nL cells slots Q σ L pc (.ref (ad 17 0) :: st) := z_getf C 17 0 12 (by decide) (by decide) rfl rfl (by decide) inB6 hw rfl rfl hdg kk
theorem g_17_13 (C : Cx p l s m args meth c cc own nL ret D ad cy A sa) {idx : Nat} (hw : Cond.fieldLink own idx "FretSchoolModel" "ordered" "[I" ∈ BIG) (hdg : decode cc pc = .ok (.getfield idx, 3)) (kk : Z p l e R s m args below meth c D ad cy A nL cells slots Q σ L (pc + 3) (.ref (ad 27 0) :: st)) : Z p l e R s m args below meth c D ad cy A nL cells slots Q σ L pc (.ref (ad 17 0) :: st) := z_getf C 17 0 13 (by decide) (by decide) rfl rfl (by decide) inB6 hw rfl rfl hdg kk
theorem g_17_14 (C : Cx p l s m args meth c cc own nL ret D ad cy A sa) {idx : Nat} (hw : Cond.fieldLink own idx "FretSchoolModel" "readyOn" "[I" ∈ BIG) (hdg : decode cc pc = .ok (.getfield idx, 3)) (kk : Z p l e R s m args below meth c D ad cy A nL cells slots Q σ L (pc + 3) (.ref (ad 28 0) :: st)) : Z p l e R s m args below meth c D ad cy A nL cells slots Q σ L pc (.ref (ad 17 0) :: st) := z_getf C 17 0 14 (by decide) (by decide) rfl rfl (by decide) inB6 hw rfl rfl hdg kk
theorem g_17_15 (C : Cx p l s m args meth c cc own nL ret D ad cy A sa) {idx : Nat} (hw : Cond.fieldLink own idx "FretSchoolModel" "fetched" "[Z" ∈ BIG) (hdg : decode cc pc = .ok (.getfield idx, 3)) (kk : Z p l e R s m args below meth c D ad cy A nL cells slots Q σ L (pc + 3) (.ref (ad 29 0) :: st)) : Z p l e R s m args below meth c D ad cy A nL cells slots Q σ L pc (.ref (ad 17 0) :: st) := z_getf C 17 0 15 (by decide) (by decide) rfl rfl (by decide) inB6 hw rfl rfl hdg kk
theorem g_17_16 (C : Cx p l s m args meth c cc own nL ret D ad cy A sa) {idx : Nat} (hw : Cond.fieldLink own idx "FretSchoolModel" "least" "[I" ∈ BIG) (hdg : decode cc pc = .ok (.getfield idx, 3)) (kk : Z p l e R s m args below meth c D ad cy A nL cells slots Q σ L (pc + 3) (.ref (ad 30 0) :: st)) : Z p l e R s m args below meth c D ad cy A nL cells slots Q σ L pc (.ref (ad 17 0) :: st) := z_getf C 17 0 16 (by decide) (by decide) rfl rfl (by decide) inB6 hw rfl rfl hdg kk
theorem g_17_17 (C : Cx p l s m args meth c cc own nL ret D ad cy A sa) {idx : Nat} (hw : Cond.fieldLink own idx "FretSchoolModel" "best" "[I" ∈ BIG) (hdg : decode cc pc = .ok (.getfield idx, 3)) (kk : Z p l e R s m args below meth c D ad cy A nL cells slots Q σ L (pc + 3) (.ref (ad 31 0) :: st)) : Z p l e R s m args below meth c D ad cy A nL cells slots Q σ L pc (.ref (ad 17 0) :: st) := z_getf C 17 0 17 (by decide) (by decide) rfl rfl (by decide) inB6 hw rfl rfl hdg kk
theorem g_17_18 (C : Cx p l s m args meth c cc own nL ret D ad cy A sa) {idx : Nat} (hw : Cond.fieldLink own idx "FretSchoolModel" "thrown" "I" ∈ BIG) (hdg : decode cc pc = .ok (.getfield idx, 3)) (kk : Z p l e R s m args below meth c D ad cy A nL cells slots Q σ L (pc + 3) (.int (σ 17 0 18) :: st)) : Z p l e R s m args below meth c D ad cy A nL cells slots Q σ L pc (.ref (ad 17 0) :: st) := z_getf C 17 0 18 (by decide) (by decide) rfl rfl (by decide) inB6 hw rfl rfl hdg kk
theorem p_17_18 (C : Cx p l s m args meth c cc own nL ret D ad cy A sa) {idx : Nat} {x : Int32} (hw : Cond.fieldLink own idx "FretSchoolModel" "thrown" "I" ∈ BIG) (hdg : decode cc pc = .ok (.putfield idx, 3)) (kk : Z p l e R s m args below meth c D ad cy A nL cells slots Q (up σ 17 0 18 x) L (pc + 3) st) : Z p l e R s m args below meth c D ad cy A nL cells slots Q σ L pc (.int x :: .ref (ad 17 0) :: st) := z_putf C 17 0 18 (by decide) (by decide) rfl rfl (by decide) inB6 tyX6_ok nmX6 hw rfl rfl rfl rfl (Nat.le_of_ble_eq_true rfl) rfl hdg kk
theorem a_5 (C : Cx p l s m args meth c cc own nL ret D ad cy A sa) {x : Int32} {j : Nat} (hx : x = nI j) (hj : j < 4) (hdg : decode cc pc = .ok (.iaload, 1)) (kk : Z p l e R s m args below meth c D ad cy A nL cells slots Q σ L (pc + 1) (.int (σ 5 0 j) :: st)) : Z p l e R s m args below meth c D ad cy A nL cells slots Q σ L pc (.int x :: .ref (ad 5 0) :: st) := z_iald C 5 0 (by decide) (by decide) rfl (by decide) hx hj hdg kk
theorem s_5 (C : Cx p l s m args meth c cc own nL ret D ad cy A sa) {x y : Int32} {j : Nat} (hx : x = nI j) (hj : j < 4) (hdg : decode cc pc = .ok (.iastore, 1)) (kk : Z p l e R s m args below meth c D ad cy A nL cells slots Q (up σ 5 0 j y) L (pc + 1) st) : Z p l e R s m args below meth c D ad cy A nL cells slots Q σ L pc (.int y :: .int x :: .ref (ad 5 0) :: st) := z_iast C 5 0 (by decide) (by decide) (fun _ => rfl) (by decide) hx hj hdg kk
theorem a_7 (C : Cx p l s m args meth c cc own nL ret D ad cy A sa) {x : Int32} {j : Nat} (hx : x = nI j) (hj : j < 16) (hdg : decode cc pc = .ok (.iaload, 1)) (kk : Z p l e R s m args below meth c D ad cy A nL cells slots Q σ L (pc + 1) (.int (σ 7 0 j) :: st)) : Z p l e R s m args below meth c D ad cy A nL cells slots Q σ L pc (.int x :: .ref (ad 7 0) :: st) := z_iald C 7 0 (by decide) (by decide) rfl (by decide) hx hj hdg kk
theorem s_7 (C : Cx p l s m args meth c cc own nL ret D ad cy A sa) {x y : Int32} {j : Nat} (hx : x = nI j) (hj : j < 16) (hdg : decode cc pc = .ok (.iastore, 1)) (kk : Z p l e R s m args below meth c D ad cy A nL cells slots Q (up σ 7 0 j y) L (pc + 1) st) : Z p l e R s m args below meth c D ad cy A nL cells slots Q σ L pc (.int y :: .int x :: .ref (ad 7 0) :: st) := z_iast C 7 0 (by decide) (by decide) (fun _ => rfl) (by decide) hx hj hdg kk
theorem a_9 (C : Cx p l s m args meth c cc own nL ret D ad cy A sa) {x : Int32} {j : Nat} (hx : x = nI j) (hj : j < 16) (hdg : decode cc pc = .ok (.iaload, 1)) (kk : Z p l e R s m args below meth c D ad cy A nL cells slots Q σ L (pc + 1) (.int (σ 9 0 j) :: st)) : Z p l e R s m args below meth c D ad cy A nL cells slots Q σ L pc (.int x :: .ref (ad 9 0) :: st) := z_iald C 9 0 (by decide) (by decide) rfl (by decide) hx hj hdg kk
theorem s_9 (C : Cx p l s m args meth c cc own nL ret D ad cy A sa) {x y : Int32} {j : Nat} (hx : x = nI j) (hj : j < 16) (hdg : decode cc pc = .ok (.iastore, 1)) (kk : Z p l e R s m args below meth c D ad cy A nL cells slots Q (up σ 9 0 j y) L (pc + 1) st) : Z p l e R s m args below meth c D ad cy A nL cells slots Q σ L pc (.int y :: .int x :: .ref (ad 9 0) :: st) := z_iast C 9 0 (by decide) (by decide) (fun _ => rfl) (by decide) hx hj hdg kk
theorem a_10 {i : Nat} (hi : i < 16) (C : Cx p l s m args meth c cc own nL ret D ad cy A sa) {x : Int32} {j : Nat} (hx : x = nI j) (hj : j < 14) (hdg : decode cc pc = .ok (.iaload, 1)) (kk : Z p l e R s m args below meth c D ad cy A nL cells slots Q σ L (pc + 1) (.int (σ 10 i j) :: st)) : Z p l e R s m args below meth c D ad cy A nL cells slots Q σ L pc (.int x :: .ref (ad 10 i) :: st) := z_iald C 10 i (by decide) hi rfl (by decide) hx hj hdg kk
theorem s_10 {i : Nat} (hi : i < 16) (C : Cx p l s m args meth c cc own nL ret D ad cy A sa) {x y : Int32} {j : Nat} (hx : x = nI j) (hj : j < 14) (hdg : decode cc pc = .ok (.iastore, 1)) (kk : Z p l e R s m args below meth c D ad cy A nL cells slots Q (up σ 10 i j y) L (pc + 1) st) : Z p l e R s m args below meth c D ad cy A nL cells slots Q σ L pc (.int y :: .int x :: .ref (ad 10 i) :: st) := z_iast C 10 i (by decide) hi (fun _ => rfl) (by decide) hx hj hdg kk
theorem a_12 {i : Nat} (hi : i < 8) (C : Cx p l s m args meth c cc own nL ret D ad cy A sa) {x : Int32} {j : Nat} (hx : x = nI j) (hj : j < 16) (hdg : decode cc pc = .ok (.iaload, 1)) (kk : Z p l e R s m args below meth c D ad cy A nL cells slots Q σ L (pc + 1) (.int (σ 12 i j) :: st)) : Z p l e R s m args below meth c D ad cy A nL cells slots Q σ L pc (.int x :: .ref (ad 12 i) :: st) := z_iald C 12 i (by decide) hi rfl (by decide) hx hj hdg kk
theorem s_12 {i : Nat} (hi : i < 8) (C : Cx p l s m args meth c cc own nL ret D ad cy A sa) {x y : Int32} {j : Nat} (hx : x = nI j) (hj : j < 16) (hdg : decode cc pc = .ok (.iastore, 1)) (kk : Z p l e R s m args below meth c D ad cy A nL cells slots Q (up σ 12 i j y) L (pc + 1) st) : Z p l e R s m args below meth c D ad cy A nL cells slots Q σ L pc (.int y :: .int x :: .ref (ad 12 i) :: st) := z_iast C 12 i (by decide) hi (fun _ => rfl) (by decide) hx hj hdg kk
theorem a_14 {i : Nat} (hi : i < 8) (C : Cx p l s m args meth c cc own nL ret D ad cy A sa) {x : Int32} {j : Nat} (hx : x = nI j) (hj : j < 4) (hdg : decode cc pc = .ok (.iaload, 1)) (kk : Z p l e R s m args below meth c D ad cy A nL cells slots Q σ L (pc + 1) (.int (σ 14 i j) :: st)) : Z p l e R s m args below meth c D ad cy A nL cells slots Q σ L pc (.int x :: .ref (ad 14 i) :: st) := z_iald C 14 i (by decide) hi rfl (by decide) hx hj hdg kk
theorem s_14 {i : Nat} (hi : i < 8) (C : Cx p l s m args meth c cc own nL ret D ad cy A sa) {x y : Int32} {j : Nat} (hx : x = nI j) (hj : j < 4) (hdg : decode cc pc = .ok (.iastore, 1)) (kk : Z p l e R s m args below meth c D ad cy A nL cells slots Q (up σ 14 i j y) L (pc + 1) st) : Z p l e R s m args below meth c D ad cy A nL cells slots Q σ L pc (.int y :: .int x :: .ref (ad 14 i) :: st) := z_iast C 14 i (by decide) hi (fun _ => rfl) (by decide) hx hj hdg kk
theorem a_18 (C : Cx p l s m args meth c cc own nL ret D ad cy A sa) {x : Int32} {j : Nat} (hx : x = nI j) (hj : j < 8) (hdg : decode cc pc = .ok (.iaload, 1)) (kk : Z p l e R s m args below meth c D ad cy A nL cells slots Q σ L (pc + 1) (.int (σ 18 0 j) :: st)) : Z p l e R s m args below meth c D ad cy A nL cells slots Q σ L pc (.int x :: .ref (ad 18 0) :: st) := z_iald C 18 0 (by decide) (by decide) rfl (by decide) hx hj hdg kk
theorem s_18 (C : Cx p l s m args meth c cc own nL ret D ad cy A sa) {x y : Int32} {j : Nat} (hx : x = nI j) (hj : j < 8) (hdg : decode cc pc = .ok (.iastore, 1)) (kk : Z p l e R s m args below meth c D ad cy A nL cells slots Q (up σ 18 0 j y) L (pc + 1) st) : Z p l e R s m args below meth c D ad cy A nL cells slots Q σ L pc (.int y :: .int x :: .ref (ad 18 0) :: st) := z_iast C 18 0 (by decide) (by decide) (fun _ => rfl) (by decide) hx hj hdg kk
theorem a_19 (C : Cx p l s m args meth c cc own nL ret D ad cy A sa) {x : Int32} {j : Nat} (hx : x = nI j) (hj : j < 128) (hdg : decode cc pc = .ok (.iaload, 1)) (kk : Z p l e R s m args below meth c D ad cy A nL cells slots Q σ L (pc + 1) (.int (σ 19 0 j) :: st)) : Z p l e R s m args below meth c D ad cy A nL cells slots Q σ L pc (.int x :: .ref (ad 19 0) :: st) := z_iald C 19 0 (by decide) (by decide) rfl (by decide) hx hj hdg kk
theorem s_19 (C : Cx p l s m args meth c cc own nL ret D ad cy A sa) {x y : Int32} {j : Nat} (hx : x = nI j) (hj : j < 128) (hdg : decode cc pc = .ok (.iastore, 1)) (kk : Z p l e R s m args below meth c D ad cy A nL cells slots Q (up σ 19 0 j y) L (pc + 1) st) : Z p l e R s m args below meth c D ad cy A nL cells slots Q σ L pc (.int y :: .int x :: .ref (ad 19 0) :: st) := z_iast C 19 0 (by decide) (by decide) (fun _ => rfl) (by decide) hx hj hdg kk
theorem a_20 (C : Cx p l s m args meth c cc own nL ret D ad cy A sa) {x : Int32} {j : Nat} (hx : x = nI j) (hj : j < 8) (hdg : decode cc pc = .ok (.iaload, 1)) (kk : Z p l e R s m args below meth c D ad cy A nL cells slots Q σ L (pc + 1) (.int (σ 20 0 j) :: st)) : Z p l e R s m args below meth c D ad cy A nL cells slots Q σ L pc (.int x :: .ref (ad 20 0) :: st) := z_iald C 20 0 (by decide) (by decide) rfl (by decide) hx hj hdg kk
theorem s_20 (C : Cx p l s m args meth c cc own nL ret D ad cy A sa) {x y : Int32} {j : Nat} (hx : x = nI j) (hj : j < 8) (hdg : decode cc pc = .ok (.iastore, 1)) (kk : Z p l e R s m args below meth c D ad cy A nL cells slots Q (up σ 20 0 j y) L (pc + 1) st) : Z p l e R s m args below meth c D ad cy A nL cells slots Q σ L pc (.int y :: .int x :: .ref (ad 20 0) :: st) := z_iast C 20 0 (by decide) (by decide) (fun _ => rfl) (by decide) hx hj hdg kk
theorem a_21 (C : Cx p l s m args meth c cc own nL ret D ad cy A sa) {x : Int32} {j : Nat} (hx : x = nI j) (hj : j < 8) (hdg : decode cc pc = .ok (.iaload, 1)) (kk : Z p l e R s m args below meth c D ad cy A nL cells slots Q σ L (pc + 1) (.int (σ 21 0 j) :: st)) : Z p l e R s m args below meth c D ad cy A nL cells slots Q σ L pc (.int x :: .ref (ad 21 0) :: st) := z_iald C 21 0 (by decide) (by decide) rfl (by decide) hx hj hdg kk
theorem s_21 (C : Cx p l s m args meth c cc own nL ret D ad cy A sa) {x y : Int32} {j : Nat} (hx : x = nI j) (hj : j < 8) (hdg : decode cc pc = .ok (.iastore, 1)) (kk : Z p l e R s m args below meth c D ad cy A nL cells slots Q (up σ 21 0 j y) L (pc + 1) st) : Z p l e R s m args below meth c D ad cy A nL cells slots Q σ L pc (.int y :: .int x :: .ref (ad 21 0) :: st) := z_iast C 21 0 (by decide) (by decide) (fun _ => rfl) (by decide) hx hj hdg kk
theorem a_22 (C : Cx p l s m args meth c cc own nL ret D ad cy A sa) {x : Int32} {j : Nat} (hx : x = nI j) (hj : j < 32) (hdg : decode cc pc = .ok (.iaload, 1)) (kk : Z p l e R s m args below meth c D ad cy A nL cells slots Q σ L (pc + 1) (.int (σ 22 0 j) :: st)) : Z p l e R s m args below meth c D ad cy A nL cells slots Q σ L pc (.int x :: .ref (ad 22 0) :: st) := z_iald C 22 0 (by decide) (by decide) rfl (by decide) hx hj hdg kk
theorem s_22 (C : Cx p l s m args meth c cc own nL ret D ad cy A sa) {x y : Int32} {j : Nat} (hx : x = nI j) (hj : j < 32) (hdg : decode cc pc = .ok (.iastore, 1)) (kk : Z p l e R s m args below meth c D ad cy A nL cells slots Q (up σ 22 0 j y) L (pc + 1) st) : Z p l e R s m args below meth c D ad cy A nL cells slots Q σ L pc (.int y :: .int x :: .ref (ad 22 0) :: st) := z_iast C 22 0 (by decide) (by decide) (fun _ => rfl) (by decide) hx hj hdg kk
theorem a_23 (C : Cx p l s m args meth c cc own nL ret D ad cy A sa) {x : Int32} {j : Nat} (hx : x = nI j) (hj : j < 5) (hdg : decode cc pc = .ok (.iaload, 1)) (kk : Z p l e R s m args below meth c D ad cy A nL cells slots Q σ L (pc + 1) (.int (σ 23 0 j) :: st)) : Z p l e R s m args below meth c D ad cy A nL cells slots Q σ L pc (.int x :: .ref (ad 23 0) :: st) := z_iald C 23 0 (by decide) (by decide) rfl (by decide) hx hj hdg kk
theorem s_23 (C : Cx p l s m args meth c cc own nL ret D ad cy A sa) {x y : Int32} {j : Nat} (hx : x = nI j) (hj : j < 5) (hdg : decode cc pc = .ok (.iastore, 1)) (kk : Z p l e R s m args below meth c D ad cy A nL cells slots Q (up σ 23 0 j y) L (pc + 1) st) : Z p l e R s m args below meth c D ad cy A nL cells slots Q σ L pc (.int y :: .int x :: .ref (ad 23 0) :: st) := z_iast C 23 0 (by decide) (by decide) (fun _ => rfl) (by decide) hx hj hdg kk
theorem a_24 (C : Cx p l s m args meth c cc own nL ret D ad cy A sa) {x : Int32} {j : Nat} (hx : x = nI j) (hj : j < 5) (hdg : decode cc pc = .ok (.iaload, 1)) (kk : Z p l e R s m args below meth c D ad cy A nL cells slots Q σ L (pc + 1) (.int (σ 24 0 j) :: st)) : Z p l e R s m args below meth c D ad cy A nL cells slots Q σ L pc (.int x :: .ref (ad 24 0) :: st) := z_iald C 24 0 (by decide) (by decide) rfl (by decide) hx hj hdg kk
theorem s_24 (C : Cx p l s m args meth c cc own nL ret D ad cy A sa) {x y : Int32} {j : Nat} (hx : x = nI j) (hj : j < 5) (hdg : decode cc pc = .ok (.iastore, 1)) (kk : Z p l e R s m args below meth c D ad cy A nL cells slots Q (up σ 24 0 j y) L (pc + 1) st) : Z p l e R s m args below meth c D ad cy A nL cells slots Q σ L pc (.int y :: .int x :: .ref (ad 24 0) :: st) := z_iast C 24 0 (by decide) (by decide) (fun _ => rfl) (by decide) hx hj hdg kk
theorem a_25 (C : Cx p l s m args meth c cc own nL ret D ad cy A sa) {x : Int32} {j : Nat} (hx : x = nI j) (hj : j < 4) (hdg : decode cc pc = .ok (.iaload, 1)) (kk : Z p l e R s m args below meth c D ad cy A nL cells slots Q σ L (pc + 1) (.int (σ 25 0 j) :: st)) : Z p l e R s m args below meth c D ad cy A nL cells slots Q σ L pc (.int x :: .ref (ad 25 0) :: st) := z_iald C 25 0 (by decide) (by decide) rfl (by decide) hx hj hdg kk
theorem s_25 (C : Cx p l s m args meth c cc own nL ret D ad cy A sa) {x y : Int32} {j : Nat} (hx : x = nI j) (hj : j < 4) (hdg : decode cc pc = .ok (.iastore, 1)) (kk : Z p l e R s m args below meth c D ad cy A nL cells slots Q (up σ 25 0 j y) L (pc + 1) st) : Z p l e R s m args below meth c D ad cy A nL cells slots Q σ L pc (.int y :: .int x :: .ref (ad 25 0) :: st) := z_iast C 25 0 (by decide) (by decide) (fun _ => rfl) (by decide) hx hj hdg kk
theorem a_26 (C : Cx p l s m args meth c cc own nL ret D ad cy A sa) {x : Int32} {j : Nat} (hx : x = nI j) (hj : j < 20) (hdg : decode cc pc = .ok (.iaload, 1)) (kk : Z p l e R s m args below meth c D ad cy A nL cells slots Q σ L (pc + 1) (.int (σ 26 0 j) :: st)) : Z p l e R s m args below meth c D ad cy A nL cells slots Q σ L pc (.int x :: .ref (ad 26 0) :: st) := z_iald C 26 0 (by decide) (by decide) rfl (by decide) hx hj hdg kk
theorem s_26 (C : Cx p l s m args meth c cc own nL ret D ad cy A sa) {x y : Int32} {j : Nat} (hx : x = nI j) (hj : j < 20) (hdg : decode cc pc = .ok (.iastore, 1)) (kk : Z p l e R s m args below meth c D ad cy A nL cells slots Q (up σ 26 0 j y) L (pc + 1) st) : Z p l e R s m args below meth c D ad cy A nL cells slots Q σ L pc (.int y :: .int x :: .ref (ad 26 0) :: st) := z_iast C 26 0 (by decide) (by decide) (fun _ => rfl) (by decide) hx hj hdg kk
theorem a_27 (C : Cx p l s m args meth c cc own nL ret D ad cy A sa) {x : Int32} {j : Nat} (hx : x = nI j) (hj : j < 20) (hdg : decode cc pc = .ok (.iaload, 1)) (kk : Z p l e R s m args below meth c D ad cy A nL cells slots Q σ L (pc + 1) (.int (σ 27 0 j) :: st)) : Z p l e R s m args below meth c D ad cy A nL cells slots Q σ L pc (.int x :: .ref (ad 27 0) :: st) := z_iald C 27 0 (by decide) (by decide) rfl (by decide) hx hj hdg kk
theorem s_27 (C : Cx p l s m args meth c cc own nL ret D ad cy A sa) {x y : Int32} {j : Nat} (hx : x = nI j) (hj : j < 20) (hdg : decode cc pc = .ok (.iastore, 1)) (kk : Z p l e R s m args below meth c D ad cy A nL cells slots Q (up σ 27 0 j y) L (pc + 1) st) : Z p l e R s m args below meth c D ad cy A nL cells slots Q σ L pc (.int y :: .int x :: .ref (ad 27 0) :: st) := z_iast C 27 0 (by decide) (by decide) (fun _ => rfl) (by decide) hx hj hdg kk
theorem a_28 (C : Cx p l s m args meth c cc own nL ret D ad cy A sa) {x : Int32} {j : Nat} (hx : x = nI j) (hj : j < 20) (hdg : decode cc pc = .ok (.iaload, 1)) (kk : Z p l e R s m args below meth c D ad cy A nL cells slots Q σ L (pc + 1) (.int (σ 28 0 j) :: st)) : Z p l e R s m args below meth c D ad cy A nL cells slots Q σ L pc (.int x :: .ref (ad 28 0) :: st) := z_iald C 28 0 (by decide) (by decide) rfl (by decide) hx hj hdg kk
theorem s_28 (C : Cx p l s m args meth c cc own nL ret D ad cy A sa) {x y : Int32} {j : Nat} (hx : x = nI j) (hj : j < 20) (hdg : decode cc pc = .ok (.iastore, 1)) (kk : Z p l e R s m args below meth c D ad cy A nL cells slots Q (up σ 28 0 j y) L (pc + 1) st) : Z p l e R s m args below meth c D ad cy A nL cells slots Q σ L pc (.int y :: .int x :: .ref (ad 28 0) :: st) := z_iast C 28 0 (by decide) (by decide) (fun _ => rfl) (by decide) hx hj hdg kk
theorem a_30 (C : Cx p l s m args meth c cc own nL ret D ad cy A sa) {x : Int32} {j : Nat} (hx : x = nI j) (hj : j < 238) (hdg : decode cc pc = .ok (.iaload, 1)) (kk : Z p l e R s m args below meth c D ad cy A nL cells slots Q σ L (pc + 1) (.int (σ 30 0 j) :: st)) : Z p l e R s m args below meth c D ad cy A nL cells slots Q σ L pc (.int x :: .ref (ad 30 0) :: st) := z_iald C 30 0 (by decide) (by decide) rfl (by decide) hx hj hdg kk
theorem s_30 (C : Cx p l s m args meth c cc own nL ret D ad cy A sa) {x y : Int32} {j : Nat} (hx : x = nI j) (hj : j < 238) (hdg : decode cc pc = .ok (.iastore, 1)) (kk : Z p l e R s m args below meth c D ad cy A nL cells slots Q (up σ 30 0 j y) L (pc + 1) st) : Z p l e R s m args below meth c D ad cy A nL cells slots Q σ L pc (.int y :: .int x :: .ref (ad 30 0) :: st) := z_iast C 30 0 (by decide) (by decide) (fun _ => rfl) (by decide) hx hj hdg kk
theorem a_31 (C : Cx p l s m args meth c cc own nL ret D ad cy A sa) {x : Int32} {j : Nat} (hx : x = nI j) (hj : j < 16) (hdg : decode cc pc = .ok (.iaload, 1)) (kk : Z p l e R s m args below meth c D ad cy A nL cells slots Q σ L (pc + 1) (.int (σ 31 0 j) :: st)) : Z p l e R s m args below meth c D ad cy A nL cells slots Q σ L pc (.int x :: .ref (ad 31 0) :: st) := z_iald C 31 0 (by decide) (by decide) rfl (by decide) hx hj hdg kk
theorem s_31 (C : Cx p l s m args meth c cc own nL ret D ad cy A sa) {x y : Int32} {j : Nat} (hx : x = nI j) (hj : j < 16) (hdg : decode cc pc = .ok (.iastore, 1)) (kk : Z p l e R s m args below meth c D ad cy A nL cells slots Q (up σ 31 0 j y) L (pc + 1) st) : Z p l e R s m args below meth c D ad cy A nL cells slots Q σ L pc (.int y :: .int x :: .ref (ad 31 0) :: st) := z_iast C 31 0 (by decide) (by decide) (fun _ => rfl) (by decide) hx hj hdg kk
theorem a_29 (C : Cx p l s m args meth c cc own nL ret D ad cy A sa) {x : Int32} {j : Nat} (hx : x = nI j) (hj : j < 20) (hdg : decode cc pc = .ok (.baload, 1)) (kk : Z p l e R s m args below meth c D ad cy A nL cells slots Q σ L (pc + 1) (.int (σ 29 0 j) :: st)) : Z p l e R s m args below meth c D ad cy A nL cells slots Q σ L pc (.int x :: .ref (ad 29 0) :: st) := z_zald C 29 0 (by decide) (by decide) rfl (by decide) hx hj hdg kk
theorem s_29 (C : Cx p l s m args meth c cc own nL ret D ad cy A sa) {x y : Int32} {j : Nat} (hx : x = nI j) (hj : j < 20) (hy : y = 0 ∨ y = 1) (hdg : decode cc pc = .ok (.bastore, 1)) (kk : Z p l e R s m args below meth c D ad cy A nL cells slots Q (up σ 29 0 j y) L (pc + 1) st) : Z p l e R s m args below meth c D ad cy A nL cells slots Q σ L pc (.int y :: .int x :: .ref (ad 29 0) :: st) := z_zast C 29 0 (by decide) (by decide) (fun _ => rfl) (by decide) hx hj hy hdg kk
theorem a_1 (C : Cx p l s m args meth c cc own nL ret D ad cy A sa) {x : Int32} {j : Nat} (hx : x = nI j) (hj : j < 8) (hdg : decode cc pc = .ok (.aaload, 1)) (kk : Z p l e R s m args below meth c D ad cy A nL cells slots Q σ L (pc + 1) (.ref (ad 11 j) :: st)) : Z p l e R s m args below meth c D ad cy A nL cells slots Q σ L pc (.int x :: .ref (ad 1 0) :: st) := z_aald C 1 0 (by decide) (by decide) 3 rfl rfl rfl (by decide) hx hj rfl hdg kk
theorem a_2 (C : Cx p l s m args meth c cc own nL ret D ad cy A sa) {x : Int32} {j : Nat} (hx : x = nI j) (hj : j < 8) (hdg : decode cc pc = .ok (.aaload, 1)) (kk : Z p l e R s m args below meth c D ad cy A nL cells slots Q σ L (pc + 1) (.ref (ad 13 j) :: st)) : Z p l e R s m args below meth c D ad cy A nL cells slots Q σ L pc (.int x :: .ref (ad 2 0) :: st) := z_aald C 2 0 (by decide) (by decide) 4 rfl rfl rfl (by decide) hx hj rfl hdg kk
theorem a_3 (C : Cx p l s m args meth c cc own nL ret D ad cy A sa) {x : Int32} {j : Nat} (hx : x = nI j) (hj : j < 5) (hdg : decode cc pc = .ok (.aaload, 1)) (kk : Z p l e R s m args below meth c D ad cy A nL cells slots Q σ L (pc + 1) (.ref (ad 15 j) :: st)) : Z p l e R s m args below meth c D ad cy A nL cells slots Q σ L pc (.int x :: .ref (ad 3 0) :: st) := z_aald C 3 0 (by decide) (by decide) 5 rfl rfl rfl (by decide) hx hj rfl hdg kk
theorem a_4 (C : Cx p l s m args meth c cc own nL ret D ad cy A sa) {x : Int32} {j : Nat} (hx : x = nI j) (hj : j < 20) (hdg : decode cc pc = .ok (.aaload, 1)) (kk : Z p l e R s m args below meth c D ad cy A nL cells slots Q σ L (pc + 1) (.ref (ad 16 j) :: st)) : Z p l e R s m args below meth c D ad cy A nL cells slots Q σ L pc (.int x :: .ref (ad 4 0) :: st) := z_aald C 4 0 (by decide) (by decide) 6 rfl rfl rfl (by decide) hx hj rfl hdg kk
theorem a_8 (C : Cx p l s m args meth c cc own nL ret D ad cy A sa) {x : Int32} {j : Nat} (hx : x = nI j) (hj : j < 16) (hdg : decode cc pc = .ok (.aaload, 1)) (kk : Z p l e R s m args below meth c D ad cy A nL cells slots Q σ L (pc + 1) (.ref (ad 10 j) :: st)) : Z p l e R s m args below meth c D ad cy A nL cells slots Q σ L pc (.int x :: .ref (ad 8 0) :: st) := z_aald C 8 0 (by decide) (by decide) 7 rfl rfl rfl (by decide) hx hj rfl hdg kk
end ZH
end
section
/-! ===== contracts, calls, returns, throws ===== -/
def Bw (D : va_G) (ad : Nat → Nat → Nat) (cy : Nat → ClassId) : St → State → Prop := fun u t => va_P D vwCl (WL ad cy u) t.heap
def PcW (l : Launch) (D : va_G) (ad : Nat → Nat → Nat) (cy : Nat → ClassId) (A : Nat → Prop) (sa : Nat → Nat) (σ : St) (av : List Value) : Array Value → State → Prop := va_Pc av (fun U => Fx l D ad cy A sa U ∧ va_P D vwCl (WL ad cy σ) U.heap)
theorem PcW.blind {l : Launch} {D : va_G} {ad : Nat → Nat → Nat} {cy : Nat → ClassId} {A : Nat → Prop} {sa : Nat → Nat} {σ : St} {av : List Value} : FrameBlind (PcW l D ad cy A sa σ av) := fun _ _ _ _ q => ⟨q.1, q.2.1.blind, q.2.2⟩
/-- a method that answers an int and throws nothing -/
def MI (l : Launch) (D : va_G) (ad : Nat → Nat → Nat) (cy : Nat → ClassId) (A : Nat → Prop) (sa : Nat → Nat) (y : MethodName) (bytes : ByteArray) (maxL : Nat) (ret : Option FieldType) (d : Nat) (σ : St) (av : List Value) (post : Int32 → St → Prop) : Prop :=
  Met l y (Cond.code y bytes maxL ret :: BIG) (rmD d 0) (PcW l D ad cy A sa σ av) (va_Qi post (Bw D ad cy) A) 0 0 A
def MV (l : Launch) (D : va_G) (ad : Nat → Nat → Nat) (cy : Nat → ClassId) (A : Nat → Prop) (sa : Nat → Nat) (y : MethodName) (bytes : ByteArray) (maxL : Nat) (ret : Option FieldType) (d : Nat) (σ : St) (av : List Value) (post : St → Prop) : Prop :=
  Met l y (Cond.code y bytes maxL ret :: BIG) (rmD d 0) (PcW l D ad cy A sa σ av) (va_Qv post (Bw D ad cy) A) 0 0 A
def XW (D : va_G) (ad : Nat → Nat → Nat) (cy : Nat → ClassId) (A : Nat → Prop) (px : String → St → Prop) : String → State → State → Prop := vx_X (S := St) (fun _ => True) (fun E u t => px E u ∧ Bw D ad cy u t) A
def XI (l : Launch) (D : va_G) (ad : Nat → Nat → Nat) (cy : Nat → ClassId) (A : Nat → Prop) (sa : Nat → Nat) (y : MethodName) (bytes : ByteArray) (maxL : Nat) (ret : Option FieldType) (d mc : Nat) (σ : St) (av : List Value) (post : Int32 → St → Prop) (px : String → St → Prop) : Prop :=
  vx_Met l y (Cond.code y bytes maxL ret :: BIG) (rmD d mc) (PcW l D ad cy A sa σ av) (va_Qi post (Bw D ad cy) A) (XW D ad cy A px) mc (6 * mc) A
def XV (l : Launch) (D : va_G) (ad : Nat → Nat → Nat) (cy : Nat → ClassId) (A : Nat → Prop) (sa : Nat → Nat) (y : MethodName) (bytes : ByteArray) (maxL : Nat) (ret : Option FieldType) (d mc : Nat) (σ : St) (av : List Value) (post : St → Prop) (px : String → St → Prop) : Prop :=
  vx_Met l y (Cond.code y bytes maxL ret :: BIG) (rmD d mc) (PcW l D ad cy A sa σ av) (va_Qv post (Bw D ad cy) A) (XW D ad cy A px) mc (6 * mc) A
def L0 (av : List Value) (n : Nat) : List (Option Value) := av.map some ++ List.replicate (n - av.length) none
theorem lv_args_mem : ∀ (av : List Value) (k j : Nat) (v : Value), (∀ w ∈ av, w.category = 1) → av[j]? = some v → (k + j, v) ∈ lv_args k av
  | [], k, j, v, _, h => by simp at h
  | a :: r, k, 0, v, hc, h => by
    have e : a = v := by simpa using h
    subst e
    exact List.mem_cons_self
  | a :: r, k, j + 1, v, hc, h => by
    have h1 : ¬ a.category = 2 := by rw [hc a List.mem_cons_self]; decide
    have ih := lv_args_mem r (k + 1) j v (fun w hw => hc w (List.mem_cons_of_mem _ hw)) (by simpa using h)
    show (k + (j + 1), v) ∈ (k, a) :: lv_args (if a.category = 2 then k + 2 else k + 1) r
    rw [if_neg h1, show k + (j + 1) = k + 1 + j by omega]
    exact List.mem_cons_of_mem _ ih
theorem lh_entry {av : List Value} {n : Nat} {ls : Array Slot} (hc : av.all (fun v => v.category == 1) = true) (h : lv_has ls n (lv_args 0 av)) : lh ls n (L0 av n) := by
  have hc' : ∀ w ∈ av, w.category = 1 := fun w hw => by simpa using List.all_eq_true.mp hc w hw
  refine ⟨h.1, h.2.1, fun i v hi => ?_⟩
  have hav : av[i]? = some v := by
    unfold L0 at hi
    by_cases hl : i < (av.map some).length
    · rw [List.getElem?_append_left hl, List.getElem?_map] at hi
      cases hq : av[i]? with
      | none => rw [hq] at hi; cases hi
      | some w => rw [hq] at hi; cases hi; rfl
    · rw [List.getElem?_append_right (by omega), List.getElem?_replicate] at hi
      split at hi <;> cases hi
  have hm := lv_args_mem av 0 i v hc' hav
  rw [Nat.zero_add] at hm
  exact ⟨hc' v (List.mem_of_getElem? hav), h.2.2 _ hm⟩
theorem Cx.of {p : Program} {l : Launch} {e : Env} {s s₁ : State} {m : MethodId} {args : Array Value} {below : List Frame} {meth : Method} {c : Code} {y : MethodName} {bytes : ByteArray} {maxL : Nat} {ret : Option FieldType} {w0 : Cond} {rm : Room} {own : String} {D : va_G} {ad : Nat → Nat → Nat} {cy : Nat → ClassId} {A : Nat → Prop} {sa : Nat → Nat} (B : BodyLoose p l y (headSpec (w0 :: BIG) rm) bytes maxL ret e s m args below meth c s₁) (hml : c.maxLocals = maxL) (ho : y.cls = own) (hF : Fx l D ad cy A sa s) : Cx p l s m args meth c bytes own maxL ret D ad cy A sa := by
  have hts := atoms_spec (ws := w0 :: BIG) B.pre
  exact ⟨B.exec, B.bytes, hml, by rw [← ho]; exact findClass_of_methodNamed B.named, fun w hw => hts w (List.mem_cons_of_mem _ hw), B.returns, B.notSynchronized, hF⟩

theorem MI.mk {l : Launch} {D : va_G} {ad : Nat → Nat → Nat} {cy : Nat → ClassId} {A : Nat → Prop} {sa : Nat → Nat} {y : MethodName} {bytes : ByteArray} {maxL : Nat} {ret : Option FieldType} {d : Nat} {σ : St} {av : List Value} {post : Int32 → St → Prop} (own : String) (hy : plainName y.cls = true) (ho : y.cls = own) (hlen : (lg_sl av).length ≤ maxL) (hc : av.all (fun v => v.category == 1) = true)
    (body : ∀ (p : Program) (e : Env) (s : State) (m : MethodId) (args : Array Value) (below : List Frame) (meth : Method) (c : Code), Cx p l s m args meth c bytes own maxL ret D ad cy A sa → Z p l e (rmD d 0) s m args below meth c D ad cy A maxL 0 0 (MQ below (va_Qi post (Bw D ad cy) A) args s 0 0 A) σ (L0 av maxL) 0 []) : MI l D ad cy A sa y bytes maxL ret d σ av post := by
  refine Met.ofW (cc := bytes) (maxL := maxL) (ret := ret) hy rfl ?_
  intro p e s m args below meth c s₁ B hml hv
  obtain ⟨rfl, hF, hP⟩ := hv
  have C := Cx.of (own := own) B hml ho hF
  have hl := lv_entry av (n := maxL) hlen
  rw [lg_entry_eq]
  exact body p e s m _ below meth c C s.heap [] _ hP va_S.rf (lh_entry hc hl)
theorem MV.mk {l : Launch} {D : va_G} {ad : Nat → Nat → Nat} {cy : Nat → ClassId} {A : Nat → Prop} {sa : Nat → Nat} {y : MethodName} {bytes : ByteArray} {maxL : Nat} {ret : Option FieldType} {d : Nat} {σ : St} {av : List Value} {post : St → Prop} (own : String) (hy : plainName y.cls = true) (ho : y.cls = own) (hlen : (lg_sl av).length ≤ maxL) (hc : av.all (fun v => v.category == 1) = true)
    (body : ∀ (p : Program) (e : Env) (s : State) (m : MethodId) (args : Array Value) (below : List Frame) (meth : Method) (c : Code), Cx p l s m args meth c bytes own maxL ret D ad cy A sa → Z p l e (rmD d 0) s m args below meth c D ad cy A maxL 0 0 (MQ below (va_Qv post (Bw D ad cy) A) args s 0 0 A) σ (L0 av maxL) 0 []) : MV l D ad cy A sa y bytes maxL ret d σ av post := by
  refine Met.ofW (cc := bytes) (maxL := maxL) (ret := ret) hy rfl ?_
  intro p e s m args below meth c s₁ B hml hv
  obtain ⟨rfl, hF, hP⟩ := hv
  have C := Cx.of (own := own) B hml ho hF
  have hl := lv_entry av (n := maxL) hlen
  rw [lg_entry_eq]
  exact body p e s m _ below meth c C s.heap [] _ hP va_S.rf (lh_entry hc hl)
theorem XI.mk {l : Launch} {D : va_G} {ad : Nat → Nat → Nat} {cy : Nat → ClassId} {A : Nat → Prop} {sa : Nat → Nat} {y : MethodName} {bytes : ByteArray} {maxL : Nat} {ret : Option FieldType} {d : Nat} {σ : St} {av : List Value} {mc : Nat} {post : Int32 → St → Prop} {px : String → St → Prop} (own : String) (hy : plainName y.cls = true) (ho : y.cls = own) (hlen : (lg_sl av).length ≤ maxL) (hc : av.all (fun v => v.category == 1) = true)
    (body : ∀ (p : Program) (e : Env) (s : State) (m : MethodId) (args : Array Value) (below : List Frame) (meth : Method) (c : Code), Cx p l s m args meth c bytes own maxL ret D ad cy A sa → (∀ x ∈ c.exceptionTable.toList, False) → Z p l e (rmD d mc) s m args below meth c D ad cy A maxL 0 0 (vx_MQ below (va_Qi post (Bw D ad cy) A) (XW D ad cy A px) args s mc (6 * mc) A) σ (L0 av maxL) 0 []) : XI l D ad cy A sa y bytes maxL ret d mc σ av post px := by
  refine vx_ofW (cc := bytes) (maxL := maxL) (ret := ret) hy rfl ?_
  intro p e s m args below meth c s₁ B hml hex hv
  obtain ⟨rfl, hF, hP⟩ := hv
  have C := Cx.of (own := own) B hml ho hF
  have hl := lv_entry av (n := maxL) hlen
  rw [lg_entry_eq]
  exact body p e s m _ below meth c C hex s.heap [] _ hP va_S.rf (lh_entry hc hl)
theorem XV.mk {l : Launch} {D : va_G} {ad : Nat → Nat → Nat} {cy : Nat → ClassId} {A : Nat → Prop} {sa : Nat → Nat} {y : MethodName} {bytes : ByteArray} {maxL : Nat} {ret : Option FieldType} {d : Nat} {σ : St} {av : List Value} {mc : Nat} {post : St → Prop} {px : String → St → Prop} (own : String) (hy : plainName y.cls = true) (ho : y.cls = own) (hlen : (lg_sl av).length ≤ maxL) (hc : av.all (fun v => v.category == 1) = true)
    (body : ∀ (p : Program) (e : Env) (s : State) (m : MethodId) (args : Array Value) (below : List Frame) (meth : Method) (c : Code), Cx p l s m args meth c bytes own maxL ret D ad cy A sa → (∀ x ∈ c.exceptionTable.toList, False) → Z p l e (rmD d mc) s m args below meth c D ad cy A maxL 0 0 (vx_MQ below (va_Qv post (Bw D ad cy) A) (XW D ad cy A px) args s mc (6 * mc) A) σ (L0 av maxL) 0 []) : XV l D ad cy A sa y bytes maxL ret d mc σ av post px := by
  refine vx_ofW (cc := bytes) (maxL := maxL) (ret := ret) hy rfl ?_
  intro p e s m args below meth c s₁ B hml hex hv
  obtain ⟨rfl, hF, hP⟩ := hv
  have C := Cx.of (own := own) B hml ho hF
  have hl := lv_entry av (n := maxL) hlen
  rw [lg_entry_eq]
  exact body p e s m _ below meth c C hex s.heap [] _ hP va_S.rf (lh_entry hc hl)
section ZC
variable {p : Program} {l : Launch} {e : Env} {R : Room} {s : State} {m : MethodId} {args : Array Value} {below : List Frame} {meth : Method} {c : Code} {D : va_G} {ad : Nat → Nat → Nat} {cy : Nat → ClassId} {A : Nat → Prop} {sa : Nat → Nat} {nL cells slots : Nat} {Q : State → Prop} {σ : St} {L : List (Option Value)} {pc : Nat} {st stk : List Value} {cc : ByteArray} {own : String} {ret : Option FieldType}
/-- returns -/
theorem z_iret (C : Cx p l s m args meth c cc own nL (some .int) D ad cy A sa) {post : Int32 → St → Prop} {v : Int32} (hdg : decode cc pc = .ok (.ireturn, 1)) (h : post v σ) : Z p l e R s m args below meth c D ad cy A nL cells slots (MQ below (va_Qi post (Bw D ad cy) A) args s cells slots A) σ L pc [.int v] :=
  fun H locs ls hP hS hl => W.iret C.1 C.2.1 C.2.2.2.2.2.1 (fun t ht hW => ⟨⟨v, σ, rfl, h, by show va_P D vwCl (WL ad cy σ) t.heap; rw [ht]; exact hP⟩, hS.F ht⟩) hS.2.2 hdg C.2.2.2.2.2.2.1
theorem z_zret (C : Cx p l s m args meth c cc own nL (some .boolean) D ad cy A sa) {post : Int32 → St → Prop} {v : Int32} (hdg : decode cc pc = .ok (.ireturn, 1)) (hz : v = 0 ∨ v = 1) (h : post v σ) : Z p l e R s m args below meth c D ad cy A nL cells slots (MQ below (va_Qi post (Bw D ad cy) A) args s cells slots A) σ L pc [.int v] :=
  fun H locs ls hP hS hl => W.zret C.1 C.2.1 C.2.2.2.2.2.1 (by rcases hz with rfl | rfl <;> decide +kernel) (fun t ht hW => ⟨⟨v, σ, rfl, h, by show va_P D vwCl (WL ad cy σ) t.heap; rw [ht]; exact hP⟩, hS.F ht⟩) hS.2.2 hdg C.2.2.2.2.2.2.1
theorem z_vret (C : Cx p l s m args meth c cc own nL none D ad cy A sa) {post : St → Prop} (hdg : decode cc pc = .ok (.return_, 1)) (h : post σ) : Z p l e R s m args below meth c D ad cy A nL cells slots (MQ below (va_Qv post (Bw D ad cy) A) args s cells slots A) σ L pc [] :=
  fun H locs ls hP hS hl => W.vret C.1 C.2.1 C.2.2.2.2.2.1 (fun t ht hW => ⟨⟨σ, rfl, h, by show va_P D vwCl (WL ad cy σ) t.heap; rw [ht]; exact hP⟩, hS.F ht⟩) hS.2.2 hdg C.2.2.2.2.2.2.1
/-- the end of a method that may throw -/
theorem y_ret {Qc : Array Value → State → Outcome → State → Prop} {XC : String → State → State → Prop} {mc ms : Nat} (h1 : cells ≤ mc) (h2 : slots ≤ ms) (k : Z p l e R s m args below meth c D ad cy A nL mc ms (MQ below Qc args s mc ms A) σ L pc st) : Z p l e R s m args below meth c D ad cy A nL cells slots (vx_MQ below Qc XC args s mc ms A) σ L pc st :=
  fun H locs ls hP hS hl => W.widen h1 h2 (vx_ret (k H locs ls hP hS hl))
theorem z_widen {mc ms : Nat} (h1 : cells ≤ mc) (h2 : slots ≤ ms) (k : Z p l e R s m args below meth c D ad cy A nL mc ms Q σ L pc st) : Z p l e R s m args below meth c D ad cy A nL cells slots Q σ L pc st :=
  fun H locs ls hP hS hl => W.widen h1 h2 (k H locs ls hP hS hl)
theorem z_loc {L' : List (Option Value)} (hs : ∀ (i : Nat) (v : Value), L'[i]? = some (some v) → L[i]? = some (some v)) (k : Z p l e R s m args below meth c D ad cy A nL cells slots Q σ L' pc st) : Z p l e R s m args below meth c D ad cy A nL cells slots Q σ L pc st :=
  fun H locs ls hP hS hl => k H locs ls hP hS (hl.sub hs)
/-- the words of a callee -/
def OkV (y : MethodName) (bytes : ByteArray) (maxL : Nat) (ret : Option FieldType) (n : Nat) (Cn : String) : Prop := Cond.instanceMethod y ∈ BIG ∧ Cond.selects Cn y y ∈ BIG ∧ Cond.initialized Cn ∈ BIG ∧ Cond.code y bytes maxL ret ∈ BIG ∧ (y.cls = Cn ∧ y.cls ≠ "java/lang/invoke/MethodHandle" ∧ y.cls ≠ "java/lang/invoke/VarHandle" ∧ (parseMethodDescriptor y.desc).map (fun d => d.parameters.length) = some n)
def OkS (y : MethodName) (bytes : ByteArray) (maxL : Nat) (ret : Option FieldType) (n : Nat) : Prop := Cond.static y ∈ BIG ∧ Cond.initialized y.cls ∈ BIG ∧ Cond.code y bytes maxL ret ∈ BIG ∧ (y.cls ≠ "java/lang/invoke/MethodHandle" ∧ y.cls ≠ "java/lang/invoke/VarHandle" ∧ (parseMethodDescriptor y.desc).map (fun d => d.parameters.length) = some n)
def Rcv (ad : Nat → Nat → Nat) (cy : Nat → ClassId) (σ : St) (k i : Nat) (Cn : String) : Prop := k < 33 ∧ i < nk k ∧ ∃ (ci : Nat) (fs : List Value) (T : u_T) (N : Nat), cf ad cy k i (σ k i) = .inr (ci, fs) ∧ vwCl[ci]? = some (Cn, T, N)
def Rok (R : Room) (d maxL : Nat) : Prop := d + 6 + 1 ≤ R.frames ∧ 8 + (maxL + 11) + (40 * d + 100) ≤ R.locals
theorem rok {d d' mc maxL : Nat} (h : d < d') (hm : maxL ≤ 20) : Rok (rmD d' mc) d maxL := ⟨by show d + 6 + 1 ≤ d' + 6; omega, by show 8 + (maxL + 11) + (40 * d + 100) ≤ 40 * d' + 100; omega⟩
theorem big_good {w : Cond} (h : w ∈ BIG) : w ∈ BIG ∧ ((w.onTables && w.keeps) = true ∨ ∃ ty, w = .arrayClass ty) := ⟨h, good_of_word (List.mem_filter.mp h).2⟩
theorem okV_in {y : MethodName} {bytes : ByteArray} {maxL : Nat} {ret : Option FieldType} {n idx : Nat} {Cn : String} (h : OkV y bytes maxL ret n Cn) (hw : Cond.methodLink own idx y ∈ BIG) : GoodIn BIG (wsV own idx Cn y (Cond.code y bytes maxL ret :: BIG)) := by
  obtain ⟨h1, h2, h3, h4, -⟩ := h
  intro w hm
  rcases List.mem_append.mp hm with hm | hm
  · rcases List.mem_cons.mp hm with rfl | hm
    · exact big_good hw
    · rcases List.mem_cons.mp hm with rfl | hm
      · exact big_good h1
      · rcases List.mem_cons.mp hm with rfl | hm
        · exact big_good h2
        · rcases List.mem_cons.mp hm with rfl | hm
          · exact big_good h3
          · exact absurd hm List.not_mem_nil
  · rcases List.mem_cons.mp hm with rfl | hm
    · exact big_good h4
    · exact big_good hm
theorem okS_in {y : MethodName} {w0 : Cond} {idx : Nat} (h1 : Cond.static y ∈ BIG) (h2 : Cond.initialized y.cls ∈ BIG) (h4 : w0 ∈ BIG) (hw : Cond.methodLink own idx y ∈ BIG) : GoodIn BIG (va_wsS own idx y (w0 :: BIG)) := by
  intro w hm
  rcases List.mem_append.mp hm with hm | hm
  · rcases List.mem_cons.mp hm with rfl | hm
    · exact big_good hw
    · rcases List.mem_cons.mp hm with rfl | hm
      · exact big_good h1
      · rcases List.mem_cons.mp hm with rfl | hm
        · exact big_good h2
        · exact absurd hm List.not_mem_nil
  · rcases List.mem_cons.mp hm with rfl | hm
    · exact big_good h4
    · exact big_good hm
theorem Rcv.cell {H : Heap} {k i : Nat} {Cn : String} (h : Rcv ad cy σ k i Cn) (hK : va_K D vwCl (tysL cy) s) (hP : va_P D vwCl (WL ad cy σ) H) : ∃ cell : Cell, H[ad k i]? = some cell ∧ cell.vm.isStatics = false ∧ s.vm.findClass Cn = some cell.cls := by
  obtain ⟨hk, hi, ci, fs, T, N, hcf, hcl⟩ := h
  obtain ⟨j, hj⟩ := IX_at hk hi
  have he := WL_at (ad := ad) (cy := cy) (σ := σ) hj
  rw [hcf] at he
  exact va_recv hK hP (q := (Cn, T, N)) hcl he

theorem z_cvi (C : Cx p l s m args meth c cc own nL ret D ad cy A sa) {y : MethodName} {bytes : ByteArray} {maxL : Nat} {ret' : Option FieldType} {d : Nat} {post : Int32 → St → Prop} {k i : Nat} {Cn : String} {As : List Value} {idx : Nat} (M : MI l D ad cy A sa y bytes maxL ret' d σ (.ref (ad k i) :: As) post) (ok : OkV y bytes maxL ret' As.length Cn) (hw : Cond.methodLink own idx y ∈ BIG) (hr : Rcv ad cy σ k i Cn) (hR : Rok R d maxL) (hc : cells ≤ R.cells ∧ slots ≤ R.slots) (hst : stk = As.reverse ++ .ref (ad k i) :: st) (hcat : (st.map fun v => v.category).sum ≤ 8) (hdg : decode cc pc = .ok (.invokevirtual idx, 3)) (kk : ∀ (r : Int32) (σ' : St), post r σ' → Z p l e R s m args below meth c D ad cy A nL cells slots Q σ' L (pc + 3) (.int r :: st)) : Z p l e R s m args below meth c D ad cy A nL cells slots Q σ L pc stk := by
  intro H locs ls hP hS hl
  obtain ⟨hx, hb, hml, hown, hts, hr0, hlk, hF⟩ := C
  subst hst
  refine va_calli (va_runV (g := F0 m pc ls (As.reverse ++ .ref (ad k i) :: st)) (As := As) (rest := st) ⟨hx, hb, hml, hown, hts⟩ M (cwV As.length hts (okV_in ok hw) rfl rfl rfl ok.2.2.2.2 hR) ⟨PcW.blind, hr.cell hF.2.1 hP, fun U hU hW => ⟨rfl, hF.call hS hU hW, by rw [hU]; exact hP⟩⟩ rfl rfl hl.1 rfl (lv_room hcat) hdg hc) hS (fun q _ h => h) (fun q h => h) (fun r u t H1 locs1 ht hvm hw1 hB hz1 hk1 hS1 => ?_)
  exact kk r u hw1 H1 locs1 ls (by rw [← ht]; exact hB) hS1 hl
theorem z_csi (C : Cx p l s m args meth c cc own nL ret D ad cy A sa) {y : MethodName} {bytes : ByteArray} {maxL : Nat} {ret' : Option FieldType} {d : Nat} {post : Int32 → St → Prop} {As : List Value} {idx : Nat} (M : MI l D ad cy A sa y bytes maxL ret' d σ As post) (ok : OkS y bytes maxL ret' As.length) (hw : Cond.methodLink own idx y ∈ BIG) (hR : Rok R d maxL) (hc : cells ≤ R.cells ∧ slots ≤ R.slots) (hst : stk = As.reverse ++ st) (hcat : (st.map fun v => v.category).sum ≤ 8) (hdg : decode cc pc = .ok (.invokestatic idx, 3)) (kk : ∀ (r : Int32) (σ' : St), post r σ' → Z p l e R s m args below meth c D ad cy A nL cells slots Q σ' L (pc + 3) (.int r :: st)) : Z p l e R s m args below meth c D ad cy A nL cells slots Q σ L pc stk := by
  intro H locs ls hP hS hl
  obtain ⟨hx, hb, hml, hown, hts, hr0, hlk, hF⟩ := C
  subst hst
  refine va_calli (va_runS (g := F0 m pc ls (As.reverse ++ st)) (As := As) (rest := st) ⟨hx, hb, hml, hown, hts⟩ M (va_cwS As.length hts (okS_in ok.1 ok.2.1 ok.2.2.1 hw) rfl rfl rfl ok.2.2.2 hR) ⟨PcW.blind, fun U hU hW => ⟨rfl, hF.call hS hU hW, by rw [hU]; exact hP⟩⟩ rfl rfl hl.1 rfl (lv_room hcat) hdg hc) hS (fun q _ h => h) (fun q h => h) (fun r u t H1 locs1 ht hvm hw1 hB hz1 hk1 hS1 => ?_)
  exact kk r u hw1 H1 locs1 ls (by rw [← ht]; exact hB) hS1 hl
theorem z_cvv (C : Cx p l s m args meth c cc own nL ret D ad cy A sa) {y : MethodName} {bytes : ByteArray} {maxL : Nat} {ret' : Option FieldType} {d : Nat} {post : St → Prop} {k i : Nat} {Cn : String} {As : List Value} {idx : Nat} (M : MV l D ad cy A sa y bytes maxL ret' d σ (.ref (ad k i) :: As) post) (ok : OkV y bytes maxL ret' As.length Cn) (hw : Cond.methodLink own idx y ∈ BIG) (hr : Rcv ad cy σ k i Cn) (hR : Rok R d maxL) (hc : cells ≤ R.cells ∧ slots ≤ R.slots) (hst : stk = As.reverse ++ .ref (ad k i) :: st) (hcat : (st.map fun v => v.category).sum ≤ 8) (hdg : decode cc pc = .ok (.invokevirtual idx, 3)) (kk : ∀ (σ' : St), post σ' → Z p l e R s m args below meth c D ad cy A nL cells slots Q σ' L (pc + 3) st) : Z p l e R s m args below meth c D ad cy A nL cells slots Q σ L pc stk := by
  intro H locs ls hP hS hl
  obtain ⟨hx, hb, hml, hown, hts, hr0, hlk, hF⟩ := C
  subst hst
  refine va_callv (va_runV (g := F0 m pc ls (As.reverse ++ .ref (ad k i) :: st)) (As := As) (rest := st) ⟨hx, hb, hml, hown, hts⟩ M (cwV As.length hts (okV_in ok hw) rfl rfl rfl ok.2.2.2.2 hR) ⟨PcW.blind, hr.cell hF.2.1 hP, fun U hU hW => ⟨rfl, hF.call hS hU hW, by rw [hU]; exact hP⟩⟩ rfl rfl hl.1 rfl (lv_room hcat) hdg hc) hS (fun q _ h => h) (fun q h => h) (fun u t H1 locs1 ht hvm hw1 hB hz1 hk1 hS1 => ?_)
  exact kk u hw1 H1 locs1 ls (by rw [← ht]; exact hB) hS1 hl
theorem z_csv (C : Cx p l s m args meth c cc own nL ret D ad cy A sa) {y : MethodName} {bytes : ByteArray} {maxL : Nat} {ret' : Option FieldType} {d : Nat} {post : St → Prop} {As : List Value} {idx : Nat} (M : MV l D ad cy A sa y bytes maxL ret' d σ As post) (ok : OkS y bytes maxL ret' As.length) (hw : Cond.methodLink own idx y ∈ BIG) (hR : Rok R d maxL) (hc : cells ≤ R.cells ∧ slots ≤ R.slots) (hst : stk = As.reverse ++ st) (hcat : (st.map fun v => v.category).sum ≤ 8) (hdg : decode cc pc = .ok (.invokestatic idx, 3)) (kk : ∀ (σ' : St), post σ' → Z p l e R s m args below meth c D ad cy A nL cells slots Q σ' L (pc + 3) st) : Z p l e R s m args below meth c D ad cy A nL cells slots Q σ L pc stk := by
  intro H locs ls hP hS hl
  obtain ⟨hx, hb, hml, hown, hts, hr0, hlk, hF⟩ := C
  subst hst
  refine va_callv (va_runS (g := F0 m pc ls (As.reverse ++ st)) (As := As) (rest := st) ⟨hx, hb, hml, hown, hts⟩ M (va_cwS As.length hts (okS_in ok.1 ok.2.1 ok.2.2.1 hw) rfl rfl rfl ok.2.2.2 hR) ⟨PcW.blind, fun U hU hW => ⟨rfl, hF.call hS hU hW, by rw [hU]; exact hP⟩⟩ rfl rfl hl.1 rfl (lv_room hcat) hdg hc) hS (fun q _ h => h) (fun q h => h) (fun u t H1 locs1 ht hvm hw1 hB hz1 hk1 hS1 => ?_)
  exact kk u hw1 H1 locs1 ls (by rw [← ht]; exact hB) hS1 hl
theorem y_cvi (C : Cx p l s m args meth c cc own nL ret D ad cy A sa) {y : MethodName} {bytes : ByteArray} {maxL : Nat} {ret' : Option FieldType} {d : Nat} {mc : Nat} {post : Int32 → St → Prop} {px : String → St → Prop} {k i : Nat} {Cn : String} {As : List Value} {idx : Nat} (M : XI l D ad cy A sa y bytes maxL ret' d mc σ (.ref (ad k i) :: As) post px) (ok : OkV y bytes maxL ret' As.length Cn) (hw : Cond.methodLink own idx y ∈ BIG) (hr : Rcv ad cy σ k i Cn) (hR : Rok R d maxL) (hc : cells + mc ≤ R.cells ∧ slots + 6 * mc ≤ R.slots) (hst : stk = As.reverse ++ .ref (ad k i) :: st) (hcat : (st.map fun v => v.category).sum ≤ 8) (hdg : decode cc pc = .ok (.invokevirtual idx, 3)) (kx : ∀ (E : String) (ce : Cell) (q9 : Addr) (u : St) (H1 : Heap) (locs1 : List Loc) (ls : Array Slot), px E u → va_P D vwCl (WL ad cy u) H1 → va_S A s.heap H1 locs1 → lh ls nL L → H1[q9]? = some ce → ce.vm = .none → s.vm.findClass E = some ce.cls → vx_W p l e R s m args below meth c H1 locs1 (cells + mc) (slots + 6 * mc) Q (F0 m pc ls st) q9) (kk : ∀ (r : Int32) (σ' : St), post r σ' → Z p l e R s m args below meth c D ad cy A nL (cells + mc) (slots + 6 * mc) Q σ' L (pc + 3) (.int r :: st)) : Z p l e R s m args below meth c D ad cy A nL cells slots Q σ L pc stk := by
  intro H locs ls hP hS hl
  obtain ⟨hx, hb, hml, hown, hts, hr0, hlk, hF⟩ := C
  subst hst
  refine vx_calli (vx_runV (g := F0 m pc ls (As.reverse ++ .ref (ad k i) :: st)) (As := As) (rest := st) ⟨hx, hb, hml, hown, hts⟩ M (cwV As.length hts (okV_in ok hw) rfl rfl rfl ok.2.2.2.2 hR) ⟨PcW.blind, hr.cell hF.2.1 hP, fun U hU hW => ⟨rfl, hF.call hS hU hW, by rw [hU]; exact hP⟩⟩ rfl rfl hl.1 rfl (lv_room hcat) hdg hc) hS (fun q _ h => h) (fun q h => h) (fun q _ h => h) (fun E ce q9 u t H1 locs1 ht hvm _ hB hz1 hk1 hS1 h1 h2 h3 => ?_) (fun r u t H1 locs1 ht hvm hw1 hB hz1 hk1 hS1 => ?_)
  · exact kx E ce q9 u H1 locs1 ls hB.1 (by rw [← ht]; exact hB.2) hS1 hl h1 h2 h3
  · exact kk r u hw1 H1 locs1 ls (by rw [← ht]; exact hB) hS1 hl
theorem y_csi (C : Cx p l s m args meth c cc own nL ret D ad cy A sa) {y : MethodName} {bytes : ByteArray} {maxL : Nat} {ret' : Option FieldType} {d : Nat} {mc : Nat} {post : Int32 → St → Prop} {px : String → St → Prop} {As : List Value} {idx : Nat} (M : XI l D ad cy A sa y bytes maxL ret' d mc σ As post px) (ok : OkS y bytes maxL ret' As.length) (hw : Cond.methodLink own idx y ∈ BIG) (hR : Rok R d maxL) (hc : cells + mc ≤ R.cells ∧ slots + 6 * mc ≤ R.slots) (hst : stk = As.reverse ++ st) (hcat : (st.map fun v => v.category).sum ≤ 8) (hdg : decode cc pc = .ok (.invokestatic idx, 3)) (kx : ∀ (E : String) (ce : Cell) (q9 : Addr) (u : St) (H1 : Heap) (locs1 : List Loc) (ls : Array Slot), px E u → va_P D vwCl (WL ad cy u) H1 → va_S A s.heap H1 locs1 → lh ls nL L → H1[q9]? = some ce → ce.vm = .none → s.vm.findClass E = some ce.cls → vx_W p l e R s m args below meth c H1 locs1 (cells + mc) (slots + 6 * mc) Q (F0 m pc ls st) q9) (kk : ∀ (r : Int32) (σ' : St), post r σ' → Z p l e R s m args below meth c D ad cy A nL (cells + mc) (slots + 6 * mc) Q σ' L (pc + 3) (.int r :: st)) : Z p l e R s m args below meth c D ad cy A nL cells slots Q σ L pc stk := by
  intro H locs ls hP hS hl
  obtain ⟨hx, hb, hml, hown, hts, hr0, hlk, hF⟩ := C
  subst hst
  refine vx_calli (vx_runS (g := F0 m pc ls (As.reverse ++ st)) (As := As) (rest := st) ⟨hx, hb, hml, hown, hts⟩ M (va_cwS As.length hts (okS_in ok.1 ok.2.1 ok.2.2.1 hw) rfl rfl rfl ok.2.2.2 hR) ⟨PcW.blind, fun U hU hW => ⟨rfl, hF.call hS hU hW, by rw [hU]; exact hP⟩⟩ rfl rfl hl.1 rfl (lv_room hcat) hdg hc) hS (fun q _ h => h) (fun q h => h) (fun q _ h => h) (fun E ce q9 u t H1 locs1 ht hvm _ hB hz1 hk1 hS1 h1 h2 h3 => ?_) (fun r u t H1 locs1 ht hvm hw1 hB hz1 hk1 hS1 => ?_)
  · exact kx E ce q9 u H1 locs1 ls hB.1 (by rw [← ht]; exact hB.2) hS1 hl h1 h2 h3
  · exact kk r u hw1 H1 locs1 ls (by rw [← ht]; exact hB) hS1 hl
theorem y_cvv (C : Cx p l s m args meth c cc own nL ret D ad cy A sa) {y : MethodName} {bytes : ByteArray} {maxL : Nat} {ret' : Option FieldType} {d : Nat} {mc : Nat} {post : St → Prop} {px : String → St → Prop} {k i : Nat} {Cn : String} {As : List Value} {idx : Nat} (M : XV l D ad cy A sa y bytes maxL ret' d mc σ (.ref (ad k i) :: As) post px) (ok : OkV y bytes maxL ret' As.length Cn) (hw : Cond.methodLink own idx y ∈ BIG) (hr : Rcv ad cy σ k i Cn) (hR : Rok R d maxL) (hc : cells + mc ≤ R.cells ∧ slots + 6 * mc ≤ R.slots) (hst : stk = As.reverse ++ .ref (ad k i) :: st) (hcat : (st.map fun v => v.category).sum ≤ 8) (hdg : decode cc pc = .ok (.invokevirtual idx, 3)) (kx : ∀ (E : String) (ce : Cell) (q9 : Addr) (u : St) (H1 : Heap) (locs1 : List Loc) (ls : Array Slot), px E u → va_P D vwCl (WL ad cy u) H1 → va_S A s.heap H1 locs1 → lh ls nL L → H1[q9]? = some ce → ce.vm = .none → s.vm.findClass E = some ce.cls → vx_W p l e R s m args below meth c H1 locs1 (cells + mc) (slots + 6 * mc) Q (F0 m pc ls st) q9) (kk : ∀ (σ' : St), post σ' → Z p l e R s m args below meth c D ad cy A nL (cells + mc) (slots + 6 * mc) Q σ' L (pc + 3) st) : Z p l e R s m args below meth c D ad cy A nL cells slots Q σ L pc stk := by
  intro H locs ls hP hS hl
  obtain ⟨hx, hb, hml, hown, hts, hr0, hlk, hF⟩ := C
  subst hst
  refine vx_callv (vx_runV (g := F0 m pc ls (As.reverse ++ .ref (ad k i) :: st)) (As := As) (rest := st) ⟨hx, hb, hml, hown, hts⟩ M (cwV As.length hts (okV_in ok hw) rfl rfl rfl ok.2.2.2.2 hR) ⟨PcW.blind, hr.cell hF.2.1 hP, fun U hU hW => ⟨rfl, hF.call hS hU hW, by rw [hU]; exact hP⟩⟩ rfl rfl hl.1 rfl (lv_room hcat) hdg hc) hS (fun q _ h => h) (fun q h => h) (fun q _ h => h) (fun E ce q9 u t H1 locs1 ht hvm _ hB hz1 hk1 hS1 h1 h2 h3 => ?_) (fun u t H1 locs1 ht hvm hw1 hB hz1 hk1 hS1 => ?_)
  · exact kx E ce q9 u H1 locs1 ls hB.1 (by rw [← ht]; exact hB.2) hS1 hl h1 h2 h3
  · exact kk u hw1 H1 locs1 ls (by rw [← ht]; exact hB) hS1 hl
theorem y_csv (C : Cx p l s m args meth c cc own nL ret D ad cy A sa) {y : MethodName} {bytes : ByteArray} {maxL : Nat} {ret' : Option FieldType} {d : Nat} {mc : Nat} {post : St → Prop} {px : String → St → Prop} {As : List Value} {idx : Nat} (M : XV l D ad cy A sa y bytes maxL ret' d mc σ As post px) (ok : OkS y bytes maxL ret' As.length) (hw : Cond.methodLink own idx y ∈ BIG) (hR : Rok R d maxL) (hc : cells + mc ≤ R.cells ∧ slots + 6 * mc ≤ R.slots) (hst : stk = As.reverse ++ st) (hcat : (st.map fun v => v.category).sum ≤ 8) (hdg : decode cc pc = .ok (.invokestatic idx, 3)) (kx : ∀ (E : String) (ce : Cell) (q9 : Addr) (u : St) (H1 : Heap) (locs1 : List Loc) (ls : Array Slot), px E u → va_P D vwCl (WL ad cy u) H1 → va_S A s.heap H1 locs1 → lh ls nL L → H1[q9]? = some ce → ce.vm = .none → s.vm.findClass E = some ce.cls → vx_W p l e R s m args below meth c H1 locs1 (cells + mc) (slots + 6 * mc) Q (F0 m pc ls st) q9) (kk : ∀ (σ' : St), post σ' → Z p l e R s m args below meth c D ad cy A nL (cells + mc) (slots + 6 * mc) Q σ' L (pc + 3) st) : Z p l e R s m args below meth c D ad cy A nL cells slots Q σ L pc stk := by
  intro H locs ls hP hS hl
  obtain ⟨hx, hb, hml, hown, hts, hr0, hlk, hF⟩ := C
  subst hst
  refine vx_callv (vx_runS (g := F0 m pc ls (As.reverse ++ st)) (As := As) (rest := st) ⟨hx, hb, hml, hown, hts⟩ M (va_cwS As.length hts (okS_in ok.1 ok.2.1 ok.2.2.1 hw) rfl rfl rfl ok.2.2.2 hR) ⟨PcW.blind, fun U hU hW => ⟨rfl, hF.call hS hU hW, by rw [hU]; exact hP⟩⟩ rfl rfl hl.1 rfl (lv_room hcat) hdg hc) hS (fun q _ h => h) (fun q h => h) (fun q _ h => h) (fun E ce q9 u t H1 locs1 ht hvm _ hB hz1 hk1 hS1 h1 h2 h3 => ?_) (fun u t H1 locs1 ht hvm hw1 hB hz1 hk1 hS1 => ?_)
  · exact kx E ce q9 u H1 locs1 ls hB.1 (by rw [← ht]; exact hB.2) hS1 hl h1 h2 h3
  · exact kk u hw1 H1 locs1 ls (by rw [← ht]; exact hB) hS1 hl
theorem x_on (C : Cx p l s m args meth c cc own nL ret D ad cy A sa) (hex : ∀ x ∈ c.exceptionTable.toList, False) {Qc : Array Value → State → Outcome → State → Prop} {px px' : String → St → Prop} {mc' c1 s1 : Nat} (h1 : c1 ≤ mc') (h2 : s1 ≤ 6 * mc') (hpx : ∀ E u, px E u → px' E u) (E : String) (ce : Cell) (q9 : Addr) (u : St) (H1 : Heap) (locs1 : List Loc) (ls : Array Slot) (hp : px E u) (hP : va_P D vwCl (WL ad cy u) H1) (hS : va_S A s.heap H1 locs1) (_ : lh ls nL L) (g1 : H1[q9]? = some ce) (g2 : ce.vm = .none) (g3 : s.vm.findClass E = some ce.cls) : vx_W p l e R s m args below meth c H1 locs1 c1 s1 (vx_MQ below Qc (XW D ad cy A px') args s mc' (6 * mc') A) (F0 m pc ls st) q9 :=
  vx_out (fun x hx => absurd (hex x hx) id) C.2.2.2.2.2.2.1 g1 g2 g3 (fun t ht hvm => ⟨u, trivial, ⟨hpx E u hp, by show va_P D vwCl (WL ad cy u) t.heap; rw [ht]; exact hP⟩, hS.F ht⟩) hS.2.2 h1 h2
end ZC
theorem rc_0 {ad : Nat → Nat → Nat} {cy : Nat → ClassId} {σ : St} : Rcv ad cy σ 0 0 "FretSchool" := ⟨by decide, by decide, 5, _, _, _, rfl, rfl⟩
theorem rc_6 {ad : Nat → Nat → Nat} {cy : Nat → ClassId} {σ : St} : Rcv ad cy σ 6 0 "FretSchool$Hand" := ⟨by decide, by decide, 0, _, _, _, rfl, rfl⟩
theorem rc_11 {ad : Nat → Nat → Nat} {cy : Nat → ClassId} {σ : St} {i : Nat} (hi : i < 8) : Rcv ad cy σ 11 i "FretSchool$Piece" := ⟨by decide, hi, 3, _, _, _, rfl, rfl⟩
theorem rc_13 {ad : Nat → Nat → Nat} {cy : Nat → ClassId} {σ : St} {i : Nat} (hi : i < 8) : Rcv ad cy σ 13 i "FretSchool$Instrument" := ⟨by decide, hi, 1, _, _, _, rfl, rfl⟩
theorem rc_15 {ad : Nat → Nat → Nat} {cy : Nat → ClassId} {σ : St} {i : Nat} (hi : i < 5) : Rcv ad cy σ 15 i "FretSchool$Pupil" := ⟨by decide, hi, 4, _, _, _, rfl, rfl⟩
theorem rc_16 {ad : Nat → Nat → Nat} {cy : Nat → ClassId} {σ : St} {i : Nat} (hi : i < 20) : Rcv ad cy σ 16 i "FretSchool$Order" := ⟨by decide, hi, 2, _, _, _, rfl, rfl⟩
theorem rc_17 {ad : Nat → Nat → Nat} {cy : Nat → ClassId} {σ : St} : Rcv ad cy σ 17 0 "FretSchoolModel" := ⟨by decide, by decide, 6, _, _, _, rfl, rfl⟩
theorem okX5_instruments : OkV yX5_instruments cX5_instruments 1 (some .int) 0 "FretSchool" := ⟨wd189, wd190, wd30, wd191, by decide +kernel⟩
theorem okX5_today : OkV yX5_today cX5_today 1 (some .int) 0 "FretSchool" := ⟨wd193, wd194, wd30, wd195, by decide +kernel⟩
theorem okX5_begin : OkV yX5_begin cX5_begin 2 (some .int) 0 "FretSchool" := ⟨wd201, wd202, wd30, wd203, by decide +kernel⟩
theorem okX5_addNote : OkV yX5_addNote cX5_addNote 4 (some .int) 2 "FretSchool" := ⟨wd278, wd279, wd30, wd280, by decide +kernel⟩
theorem okX5_needPiece : OkV yX5_needPiece cX5_needPiece 2 (none : Option Jvm.ClassFile.FieldType) 1 "FretSchool" := ⟨wd283, wd1, wd30, wd284, by decide +kernel⟩
theorem okX5_needRange : OkS yX5_needRange cX5_needRange 3 (none : Option Jvm.ClassFile.FieldType) 3 := ⟨wd302, wd30, wd303, by decide +kernel⟩
theorem okX3_isFull : OkV yX3_isFull cX3_isFull 1 (some .boolean) 0 "FretSchool$Piece" := ⟨wd321, wd322, wd31, wd323, by decide +kernel⟩
theorem okX3_append : OkV yX3_append cX3_append 2 (none : Option Jvm.ClassFile.FieldType) 1 "FretSchool$Piece" := ⟨wd326, wd327, wd31, wd328, by decide +kernel⟩
theorem okX5_transpose : OkV yX5_transpose cX5_transpose 4 (none : Option Jvm.ClassFile.FieldType) 2 "FretSchool" := ⟨wd334, wd335, wd30, wd336, by decide +kernel⟩
theorem okX3_canMove : OkV yX3_canMove cX3_canMove 4 (some .boolean) 1 "FretSchool$Piece" := ⟨wd338, wd339, wd31, wd340, by decide +kernel⟩
theorem okX3_move : OkV yX3_move cX3_move 3 (none : Option Jvm.ClassFile.FieldType) 1 "FretSchool$Piece" := ⟨wd343, wd344, wd31, wd345, by decide +kernel⟩
theorem okX5_pitch : OkV yX5_pitch cX5_pitch 3 (some .int) 2 "FretSchool" := ⟨wd350, wd351, wd30, wd352, by decide +kernel⟩
theorem okX5_needNote : OkV yX5_needNote cX5_needNote 3 (none : Option Jvm.ClassFile.FieldType) 2 "FretSchool" := ⟨wd355, wd2, wd30, wd356, by decide +kernel⟩
theorem okX5_tune : OkV yX5_tune cX5_tune 6 (some .int) 3 "FretSchool" := ⟨wd362, wd363, wd30, wd364, by decide +kernel⟩
theorem okX5_needInstrument : OkV yX5_needInstrument cX5_needInstrument 2 (none : Option Jvm.ClassFile.FieldType) 1 "FretSchool" := ⟨wd367, wd3, wd30, wd368, by decide +kernel⟩
theorem okX5_owner : OkV yX5_owner cX5_owner 2 (some .int) 1 "FretSchool" := ⟨wd374, wd375, wd30, wd376, by decide +kernel⟩
theorem okX5_shifts : OkV yX5_shifts cX5_shifts 3 (some .int) 2 "FretSchool" := ⟨wd381, wd382, wd30, wd383, by decide +kernel⟩
theorem okX5_findBest : OkV yX5_findBest cX5_findBest 3 (some .boolean) 2 "FretSchool" := ⟨wd386, wd4, wd30, wd387, by decide +kernel⟩
theorem okX0_placeBest : OkV yX0_placeBest cX0_placeBest 4 (some .boolean) 2 "FretSchool$Hand" := ⟨wd389, wd390, wd35, wd391, by decide +kernel⟩
theorem okX0_feelReach : OkV yX0_feelReach cX0_feelReach 6 (none : Option Jvm.ClassFile.FieldType) 2 "FretSchool$Hand" := ⟨wd394, wd5, wd35, wd395, by decide +kernel⟩
theorem okX1_highestPosition : OkV yX1_highestPosition cX1_highestPosition 1 (some .int) 0 "FretSchool$Instrument" := ⟨wd397, wd398, wd32, wd399, by decide +kernel⟩
theorem okX1_lowestString : OkV yX1_lowestString cX1_lowestString 5 (some .int) 2 "FretSchool$Instrument" := ⟨wd401, wd402, wd32, wd403, by decide +kernel⟩
theorem okX0_measureRest : OkV yX0_measureRest cX0_measureRest 5 (none : Option Jvm.ClassFile.FieldType) 2 "FretSchool$Hand" := ⟨wd406, wd6, wd35, wd407, by decide +kernel⟩
theorem okX0_nearest : OkV yX0_nearest cX0_nearest 7 (some .int) 2 "FretSchool$Hand" := ⟨wd410, wd7, wd35, wd411, by decide +kernel⟩
theorem okX0_shift : OkS yX0_shift cX0_shift 2 (some .int) 2 := ⟨wd414, wd35, wd415, by decide +kernel⟩
theorem okX0_canReach : OkS yX0_canReach cX0_canReach 2 (some .boolean) 2 := ⟨wd420, wd35, wd421, by decide +kernel⟩
theorem okX0_chooseRow : OkV yX0_chooseRow cX0_chooseRow 6 (some .boolean) 1 "FretSchool$Hand" := ⟨wd424, wd8, wd35, wd425, by decide +kernel⟩
theorem okX5_shiftsByAll : OkV yX5_shiftsByAll cX5_shiftsByAll 3 (some .int) 2 "FretSchool" := ⟨wd430, wd431, wd30, wd432, by decide +kernel⟩
theorem okX0_leastByAll : OkV yX0_leastByAll cX0_leastByAll 4 (some .int) 2 "FretSchool$Hand" := ⟨wd435, wd436, wd35, wd437, by decide +kernel⟩
theorem okX0_leastFrom : OkS yX0_leastFrom cX0_leastFrom 7 (some .int) 4 := ⟨wd439, wd35, wd440, by decide +kernel⟩
theorem okX5_hardest : OkV yX5_hardest cX5_hardest 3 (some .int) 2 "FretSchool" := ⟨wd445, wd446, wd30, wd447, by decide +kernel⟩
theorem okX5_position : OkV yX5_position cX5_position 4 (some .int) 3 "FretSchool" := ⟨wd452, wd453, wd30, wd454, by decide +kernel⟩
theorem okX5_string : OkV yX5_string cX5_string 4 (some .int) 3 "FretSchool" := ⟨wd459, wd460, wd30, wd461, by decide +kernel⟩
theorem okX5_learn : OkV yX5_learn cX5_learn 6 (some .int) 3 "FretSchool" := ⟨wd467, wd468, wd30, wd469, by decide +kernel⟩
theorem okX5_needPupil : OkS yX5_needPupil cX5_needPupil 1 (none : Option Jvm.ClassFile.FieldType) 1 := ⟨wd471, wd30, wd472, by decide +kernel⟩
theorem okX4_knows : OkV yX4_knows cX4_knows 2 (some .boolean) 1 "FretSchool$Pupil" := ⟨wd474, wd475, wd33, wd476, by decide +kernel⟩
theorem okX5_learnableShift : OkV yX5_learnableShift cX5_learnableShift 4 (some .int) 3 "FretSchool" := ⟨wd480, wd9, wd30, wd481, by decide +kernel⟩
theorem okX4_takeIn : OkV yX4_takeIn cX4_takeIn 3 (none : Option Jvm.ClassFile.FieldType) 2 "FretSchool$Pupil" := ⟨wd484, wd485, wd33, wd486, by decide +kernel⟩
theorem okX5_level : OkV yX5_level cX5_level 2 (some .int) 1 "FretSchool" := ⟨wd491, wd492, wd30, wd493, by decide +kernel⟩
theorem okX5_known : OkV yX5_known cX5_known 2 (some .int) 1 "FretSchool" := ⟨wd498, wd499, wd30, wd500, by decide +kernel⟩
theorem okX5_next : OkV yX5_next cX5_next 6 (some .int) 1 "FretSchool" := ⟨wd505, wd506, wd30, wd507, by decide +kernel⟩
theorem okX5_easiestShift : OkV yX5_easiestShift cX5_easiestShift 6 (some .int) 2 "FretSchool" := ⟨wd510, wd10, wd30, wd511, by decide +kernel⟩
theorem okX5_addWood : OkV yX5_addWood cX5_addWood 3 (some .int) 2 "FretSchool" := ⟨wd516, wd517, wd30, wd518, by decide +kernel⟩
theorem okX5_order : OkV yX5_order cX5_order 5 (some .int) 3 "FretSchool" := ⟨wd523, wd524, wd30, wd525, by decide +kernel⟩
theorem okX5_ordersAtWork : OkV yX5_ordersAtWork cX5_ordersAtWork 3 (some .int) 0 "FretSchool" := ⟨wd529, wd11, wd30, wd530, by decide +kernel⟩
theorem okX2_isReady : OkV yX2_isReady cX2_isReady 2 (some .boolean) 1 "FretSchool$Order" := ⟨wd532, wd533, wd34, wd534, by decide +kernel⟩
theorem okX2_place : OkV yX2_place cX2_place 4 (none : Option Jvm.ClassFile.FieldType) 3 "FretSchool$Order" := ⟨wd538, wd539, wd34, wd540, by decide +kernel⟩
theorem okX5_ready : OkV yX5_ready cX5_ready 2 (some .int) 1 "FretSchool" := ⟨wd545, wd546, wd30, wd547, by decide +kernel⟩
theorem okX5_needOrder : OkV yX5_needOrder cX5_needOrder 2 (none : Option Jvm.ClassFile.FieldType) 1 "FretSchool" := ⟨wd550, wd12, wd30, wd551, by decide +kernel⟩
theorem okX5_fetch : OkV yX5_fetch cX5_fetch 8 (some .int) 5 "FretSchool" := ⟨wd557, wd558, wd30, wd559, by decide +kernel⟩
theorem okX1_build : OkV yX1_build cX1_build 3 (none : Option Jvm.ClassFile.FieldType) 2 "FretSchool$Instrument" := ⟨wd564, wd565, wd32, wd566, by decide +kernel⟩
theorem okX1_tuneAll : OkV yX1_tuneAll cX1_tuneAll 5 (none : Option Jvm.ClassFile.FieldType) 4 "FretSchool$Instrument" := ⟨wd568, wd569, wd32, wd570, by decide +kernel⟩
theorem okX5_pass : OkV yX5_pass cX5_pass 2 (some .int) 1 "FretSchool" := ⟨wd575, wd576, wd30, wd577, by decide +kernel⟩
theorem okX6_thrown : OkV yX6_thrown cX6_thrown 1 (some .int) 0 "FretSchoolModel" := ⟨wd645, wd646, wd36, wd647, by decide +kernel⟩
theorem okX6_begin : OkV yX6_begin cX6_begin 1 (some .int) 0 "FretSchoolModel" := ⟨wd649, wd650, wd36, wd651, by decide +kernel⟩
theorem okX6_goes : OkV yX6_goes cX6_goes 4 (some .boolean) 3 "FretSchoolModel" := ⟨wd654, wd13, wd36, wd655, by decide +kernel⟩
theorem okX6_addNote : OkV yX6_addNote cX6_addNote 4 (some .int) 2 "FretSchoolModel" := ⟨wd657, wd658, wd36, wd659, by decide +kernel⟩
theorem okX6_isPiece : OkV yX6_isPiece cX6_isPiece 2 (some .boolean) 1 "FretSchoolModel" := ⟨wd662, wd14, wd36, wd663, by decide +kernel⟩
theorem okX6_in : OkS yX6_in cX6_in 3 (some .boolean) 3 := ⟨wd665, wd36, wd666, by decide +kernel⟩
theorem okX6_transpose : OkV yX6_transpose cX6_transpose 7 (none : Option Jvm.ClassFile.FieldType) 2 "FretSchoolModel" := ⟨wd668, wd669, wd36, wd670, by decide +kernel⟩
theorem okX6_pitch : OkV yX6_pitch cX6_pitch 3 (some .int) 2 "FretSchoolModel" := ⟨wd672, wd673, wd36, wd674, by decide +kernel⟩
theorem okX6_isNote : OkV yX6_isNote cX6_isNote 3 (some .boolean) 2 "FretSchoolModel" := ⟨wd677, wd15, wd36, wd678, by decide +kernel⟩
theorem okX6_tune : OkV yX6_tune cX6_tune 6 (some .int) 3 "FretSchoolModel" := ⟨wd680, wd681, wd36, wd682, by decide +kernel⟩
theorem okX6_isInstrument : OkV yX6_isInstrument cX6_isInstrument 2 (some .boolean) 1 "FretSchoolModel" := ⟨wd685, wd16, wd36, wd686, by decide +kernel⟩
theorem okX6_owner : OkV yX6_owner cX6_owner 2 (some .int) 1 "FretSchoolModel" := ⟨wd688, wd689, wd36, wd690, by decide +kernel⟩
theorem okX6_instruments : OkV yX6_instruments cX6_instruments 1 (some .int) 0 "FretSchoolModel" := ⟨wd692, wd693, wd36, wd694, by decide +kernel⟩
theorem okX6_told : OkV yX6_told cX6_told 2 (some .int) 1 "FretSchoolModel" := ⟨wd697, wd17, wd36, wd698, by decide +kernel⟩
theorem okX6_shifts : OkV yX6_shifts cX6_shifts 3 (some .int) 2 "FretSchoolModel" := ⟨wd700, wd701, wd36, wd702, by decide +kernel⟩
theorem okX6_asks : OkV yX6_asks cX6_asks 3 (some .boolean) 2 "FretSchoolModel" := ⟨wd705, wd18, wd36, wd706, by decide +kernel⟩
theorem okX6_finds : OkV yX6_finds cX6_finds 7 (some .int) 2 "FretSchoolModel" := ⟨wd709, wd19, wd36, wd710, by decide +kernel⟩
theorem okX6_from : OkV yX6_from cX6_from 8 (some .int) 4 "FretSchoolModel" := ⟨wd713, wd20, wd36, wd714, by decide +kernel⟩
theorem okX6_plays : OkV yX6_plays cX6_plays 7 (some .boolean) 4 "FretSchoolModel" := ⟨wd717, wd21, wd36, wd718, by decide +kernel⟩
theorem okX6_lies : OkV yX6_lies cX6_lies 7 (some .boolean) 5 "FretSchoolModel" := ⟨wd721, wd22, wd36, wd722, by decide +kernel⟩
theorem okX6_apart : OkS yX6_apart cX6_apart 2 (some .int) 2 := ⟨wd725, wd36, wd726, by decide +kernel⟩
theorem okX6_shiftsByAll : OkV yX6_shiftsByAll cX6_shiftsByAll 4 (some .int) 2 "FretSchoolModel" := ⟨wd728, wd729, wd36, wd730, by decide +kernel⟩
theorem okX6_hardest : OkV yX6_hardest cX6_hardest 3 (some .int) 2 "FretSchoolModel" := ⟨wd732, wd733, wd36, wd734, by decide +kernel⟩
theorem okX6_hardestOf : OkV yX6_hardestOf cX6_hardestOf 6 (some .int) 2 "FretSchoolModel" := ⟨wd737, wd23, wd36, wd738, by decide +kernel⟩
theorem okX6_position : OkV yX6_position cX6_position 4 (some .int) 3 "FretSchoolModel" := ⟨wd740, wd741, wd36, wd742, by decide +kernel⟩
theorem okX6_asksNote : OkV yX6_asksNote cX6_asksNote 4 (some .boolean) 3 "FretSchoolModel" := ⟨wd745, wd24, wd36, wd746, by decide +kernel⟩
theorem okX6_string : OkV yX6_string cX6_string 6 (some .int) 3 "FretSchoolModel" := ⟨wd748, wd749, wd36, wd750, by decide +kernel⟩
theorem okX6_learn : OkV yX6_learn cX6_learn 6 (some .int) 3 "FretSchoolModel" := ⟨wd752, wd753, wd36, wd754, by decide +kernel⟩
theorem okX6_isPupil : OkS yX6_isPupil cX6_isPupil 1 (some .boolean) 1 := ⟨wd756, wd36, wd757, by decide +kernel⟩
theorem okX6_canLearn : OkV yX6_canLearn cX6_canLearn 5 (some .boolean) 3 "FretSchoolModel" := ⟨wd760, wd25, wd36, wd761, by decide +kernel⟩
theorem okX6_isKnown : OkV yX6_isKnown cX6_isKnown 3 (some .boolean) 2 "FretSchoolModel" := ⟨wd764, wd26, wd36, wd765, by decide +kernel⟩
theorem okX6_level : OkV yX6_level cX6_level 2 (some .int) 1 "FretSchoolModel" := ⟨wd767, wd768, wd36, wd769, by decide +kernel⟩
theorem okX6_known : OkV yX6_known cX6_known 2 (some .int) 1 "FretSchoolModel" := ⟨wd771, wd772, wd36, wd773, by decide +kernel⟩
theorem okX6_next : OkV yX6_next cX6_next 6 (some .int) 1 "FretSchoolModel" := ⟨wd775, wd776, wd36, wd777, by decide +kernel⟩
theorem okX6_addWood : OkV yX6_addWood cX6_addWood 3 (some .int) 2 "FretSchoolModel" := ⟨wd779, wd780, wd36, wd781, by decide +kernel⟩
theorem okX6_order : OkV yX6_order cX6_order 5 (some .int) 3 "FretSchoolModel" := ⟨wd783, wd784, wd36, wd785, by decide +kernel⟩
theorem okX6_atWork : OkV yX6_atWork cX6_atWork 3 (some .int) 0 "FretSchoolModel" := ⟨wd788, wd27, wd36, wd789, by decide +kernel⟩
theorem okX6_ready : OkV yX6_ready cX6_ready 2 (some .int) 1 "FretSchoolModel" := ⟨wd791, wd792, wd36, wd793, by decide +kernel⟩
theorem okX6_isOrder : OkV yX6_isOrder cX6_isOrder 2 (some .boolean) 1 "FretSchoolModel" := ⟨wd796, wd28, wd36, wd797, by decide +kernel⟩
theorem okX6_fetch : OkV yX6_fetch cX6_fetch 8 (some .int) 5 "FretSchoolModel" := ⟨wd799, wd800, wd36, wd801, by decide +kernel⟩
theorem okX6_isOpen : OkS yX6_isOpen cX6_isOpen 1 (some .boolean) 1 := ⟨wd803, wd36, wd804, by decide +kernel⟩
theorem okX6_pass : OkV yX6_pass cX6_pass 3 (some .int) 1 "FretSchoolModel" := ⟨wd806, wd807, wd36, wd808, by decide +kernel⟩
theorem okX6_today : OkV yX6_today cX6_today 1 (some .int) 0 "FretSchoolModel" := ⟨wd810, wd811, wd36, wd812, by decide +kernel⟩
end
section
/-! ===== throw new E("text") in FretSchool ===== -/
def nmsX : List String := ["java/lang/RuntimeException", "java/lang/Exception"]
theorem hatI : ∀ w ∈ (vx_atS "FretSchool" 65 "java/lang/IllegalStateException" nmsX).filter goodWord, w ∈ lw_tbl := by decide +kernel
theorem hatB : ∀ w ∈ (vx_atS "FretSchool" 213 "java/lang/IndexOutOfBoundsException" nmsX).filter goodWord, w ∈ lw_tbl := by decide +kernel
theorem hatA : ∀ w ∈ (vx_atS "FretSchool" 224 "java/lang/IllegalArgumentException" nmsX).filter goodWord, w ∈ lw_tbl := by decide +kernel
theorem hatI2 : ∀ w ∈ (vx_atS "FretSchool" 65 "java/lang/IllegalStateException" nmsX).filter (fun w => !goodWord w), w ∈ Cond.castable "java/lang/IllegalStateException" "java/lang/IllegalStateException" :: decs.map Cond.declares := by decide +kernel
theorem hatB2 : ∀ w ∈ (vx_atS "FretSchool" 213 "java/lang/IndexOutOfBoundsException" nmsX).filter (fun w => !goodWord w), w ∈ Cond.castable "java/lang/IndexOutOfBoundsException" "java/lang/IndexOutOfBoundsException" :: decs.map Cond.declares := by decide +kernel
theorem hatA2 : ∀ w ∈ (vx_atS "FretSchool" 224 "java/lang/IllegalArgumentException" nmsX).filter (fun w => !goodWord w), w ∈ Cond.castable "java/lang/IllegalArgumentException" "java/lang/IllegalArgumentException" :: decs.map Cond.declares := by decide +kernel
theorem hotI : ∀ w ∈ Cond.classLink "FretSchool" 61 "java/lang/IllegalStateException" :: Cond.initialized "java/lang/IllegalStateException" :: vx_atS "FretSchool" 65 "java/lang/IllegalStateException" nmsX, vx_ot w = true := List.all_eq_true.mp (by decide +kernel)
theorem hotB : ∀ w ∈ Cond.classLink "FretSchool" 209 "java/lang/IndexOutOfBoundsException" :: Cond.initialized "java/lang/IndexOutOfBoundsException" :: vx_atS "FretSchool" 213 "java/lang/IndexOutOfBoundsException" nmsX, vx_ot w = true := List.all_eq_true.mp (by decide +kernel)
theorem hotA : ∀ w ∈ Cond.classLink "FretSchool" 220 "java/lang/IllegalArgumentException" :: Cond.initialized "java/lang/IllegalArgumentException" :: vx_atS "FretSchool" 224 "java/lang/IllegalArgumentException" nmsX, vx_ot w = true := List.all_eq_true.mp (by decide +kernel)
section ZT
variable {p : Program} {l : Launch} {e : Env} {R : Room} {s : State} {m : MethodId} {args : Array Value} {below : List Frame} {meth : Method} {c : Code} {D : va_G} {ad : Nat → Nat → Nat} {cy : Nat → ClassId} {A : Nat → Prop} {sa : Nat → Nat} {nL cells slots : Nat} {σ : St} {L : List (Option Value)} {pc : Nat} {st : List Value} {cc : ByteArray} {ret : Option FieldType}
theorem y_throw (C : Cx p l s m args meth c cc "FretSchool" nL ret D ad cy A sa) (hex : ∀ x ∈ c.exceptionTable.toList, False) {Qc : Array Value → State → Outcome → State → Prop} {px : String → St → Prop} {mc ik is ic : Nat} {E tx : String} (hEx : E ∈ exs) (hfit : Bundle.fit E = true) (hk : Cond.classLink "FretSchool" ik E ∈ BIG) (hini : Cond.initialized E ∈ BIG)
    (h1 : ∀ w ∈ (vx_atS "FretSchool" ic E nmsX).filter goodWord, w ∈ lw_tbl) (h2 : ∀ w ∈ (vx_atS "FretSchool" ic E nmsX).filter (fun w => !goodWord w), w ∈ Cond.castable E E :: decs.map Cond.declares) (h3 : ∀ w ∈ Cond.classLink "FretSchool" ik E :: Cond.initialized E :: vx_atS "FretSchool" ic E nmsX, vx_ot w = true)
    (htx : (is, tx) ∈ strs) (d0 : decode cc pc = .ok (.new ik, 3)) (d3 : decode cc (pc + 3) = .ok (.dup, 1)) (d4 : decode cc (pc + 4) = .ok (.ldc is, 2)) (d6 : decode cc (pc + 6) = .ok (.invokespecial ic, 3)) (d9 : decode cc (pc + 9) = .ok (.athrow, 1))
    (hR : 6 ≤ R.frames ∧ (st.map fun v => v.category).sum + 82 ≤ R.locals) (hc : cells + 1 ≤ R.cells ∧ slots + 6 ≤ R.slots) (hm : cells + 1 ≤ mc ∧ slots + 6 ≤ 6 * mc) (h : px E σ) : Z p l e R s m args below meth c D ad cy A nL cells slots (vx_MQ below Qc (XW D ad cy A px) args s mc (6 * mc) A) σ L pc st := by
  intro H locs ls hP hS hl
  obtain ⟨hx, hb, hml, hown, hts, hr, hlk, hF⟩ := C
  have hcast : ∀ w ∈ Cond.castable E E :: decs.map Cond.declares, w.before args s = true := fun w hw => by
    rcases List.mem_cons.mp hw with rfl | hw
    · exact va_tabs rfl rfl (hF.2.2.2.2.2.2.2.1.1 E hEx)
    · obtain ⟨x, hx, rfl⟩ := List.mem_map.mp hw
      exact va_tabs rfl rfl (hF.2.2.2.2.2.2.2.1.2 x hx)
  refine vx_throwS hx hb hF.1 (names := nmsX) (ik := ik) (is := is) (ic := ic) (text := tx) hown hfit (List.all_eq_true.mp (by decide +kernel)) (hts _ hk) (hts _ hini) (hF.2.2.2.2.2.2.1 (is, tx) htx) (vx_hat (fun w hw => hts w (List.mem_filter.mpr ⟨h1 w hw, (List.mem_filter.mp hw).2⟩)) h2 hcast) h3 hF.2.2.2.2.1 hF.2.2.2.2.2.1 hS (hl.1.trans hml.symm) d0 d3 d4 d6 d9 (fun x hx => absurd (hex x hx) id) hR.1 hR.2 hc.1 hc.2 hlk (fun t hvm hz hk => ?_) hS.2.2 hm.1 hm.2
  refine ⟨σ, trivial, ⟨h, ?_⟩, Nat.le_trans hS.1 hz, fun q g1 g2 => (hk q (Nat.lt_of_lt_of_le g1 hS.1)).trans (hS.2.1 q g1 g2)⟩
  exact va_P.kept hP (fun k q hq => hk q.1 ((hP k q hq).lt))
theorem y_ise (C : Cx p l s m args meth c cc "FretSchool" nL ret D ad cy A sa) (hex : ∀ x ∈ c.exceptionTable.toList, False) {Qc : Array Value → State → Outcome → State → Prop} {px : String → St → Prop} {mc is : Nat} {tx : String}
    (htx : (is, tx) ∈ strs) (d0 : decode cc pc = .ok (.new 61, 3)) (d3 : decode cc (pc + 3) = .ok (.dup, 1)) (d4 : decode cc (pc + 4) = .ok (.ldc is, 2)) (d6 : decode cc (pc + 6) = .ok (.invokespecial 65, 3)) (d9 : decode cc (pc + 9) = .ok (.athrow, 1))
    (hR : 6 ≤ R.frames ∧ (st.map fun v => v.category).sum + 82 ≤ R.locals) (hc : cells + 1 ≤ R.cells ∧ slots + 6 ≤ R.slots) (hm : cells + 1 ≤ mc ∧ slots + 6 ≤ 6 * mc) (h : px ISE σ) : Z p l e R s m args below meth c D ad cy A nL cells slots (vx_MQ below Qc (XW D ad cy A px) args s mc (6 * mc) A) σ L pc st :=
  y_throw C hex (E := ISE) (by decide +kernel) (by decide +kernel) wd204 wd40 hatI hatI2 hotI htx d0 d3 d4 d6 d9 hR hc hm h
theorem y_ioobe (C : Cx p l s m args meth c cc "FretSchool" nL ret D ad cy A sa) (hex : ∀ x ∈ c.exceptionTable.toList, False) {Qc : Array Value → State → Outcome → State → Prop} {px : String → St → Prop} {mc is : Nat} {tx : String}
    (htx : (is, tx) ∈ strs) (d0 : decode cc pc = .ok (.new 209, 3)) (d3 : decode cc (pc + 3) = .ok (.dup, 1)) (d4 : decode cc (pc + 4) = .ok (.ldc is, 2)) (d6 : decode cc (pc + 6) = .ok (.invokespecial 213, 3)) (d9 : decode cc (pc + 9) = .ok (.athrow, 1))
    (hR : 6 ≤ R.frames ∧ (st.map fun v => v.category).sum + 82 ≤ R.locals) (hc : cells + 1 ≤ R.cells ∧ slots + 6 ≤ R.slots) (hm : cells + 1 ≤ mc ∧ slots + 6 ≤ 6 * mc) (h : px IOOBE σ) : Z p l e R s m args below meth c D ad cy A nL cells slots (vx_MQ below Qc (XW D ad cy A px) args s mc (6 * mc) A) σ L pc st :=
  y_throw C hex (E := IOOBE) (by decide +kernel) (by decide +kernel) wd285 wd41 hatB hatB2 hotB htx d0 d3 d4 d6 d9 hR hc hm h
theorem y_iae (C : Cx p l s m args meth c cc "FretSchool" nL ret D ad cy A sa) (hex : ∀ x ∈ c.exceptionTable.toList, False) {Qc : Array Value → State → Outcome → State → Prop} {px : String → St → Prop} {mc is : Nat} {tx : String}
    (htx : (is, tx) ∈ strs) (d0 : decode cc pc = .ok (.new 220, 3)) (d3 : decode cc (pc + 3) = .ok (.dup, 1)) (d4 : decode cc (pc + 4) = .ok (.ldc is, 2)) (d6 : decode cc (pc + 6) = .ok (.invokespecial 224, 3)) (d9 : decode cc (pc + 9) = .ok (.athrow, 1))
    (hR : 6 ≤ R.frames ∧ (st.map fun v => v.category).sum + 82 ≤ R.locals) (hc : cells + 1 ≤ R.cells ∧ slots + 6 ≤ R.slots) (hm : cells + 1 ≤ mc ∧ slots + 6 ≤ 6 * mc) (h : px IAE σ) : Z p l e R s m args below meth c D ad cy A nL cells slots (vx_MQ below Qc (XW D ad cy A px) args s mc (6 * mc) A) σ L pc st :=
  y_throw C hex (E := IAE) (by decide +kernel) (by decide +kernel) wd304 wd42 hatA hatA2 hotA htx d0 d3 d4 d6 d9 hR hc hm h
end ZT
end
section
/-! ===== plain facts ===== -/
theorem up_id {σ : St} {k i j : Nat} {x : Int32} (h : σ k i j = x) : σ = up σ k i j x := by
  funext k' i' j'
  rw [up_app]
  by_cases q : k' = k ∧ i' = i ∧ j' = j
  · obtain ⟨rfl, rfl, rfl⟩ := q
    rw [if_pos ⟨rfl, rfl, rfl⟩, h]
  · rw [if_neg q]
def okP (x : Int32) : Prop := ¬ x < 0 ∧ x ≤ 80
theorem nI_lit (n : Nat) : (OfNat.ofNat n : Int32) = nI n := rfl
/-- the fret of a pitch lies under the hand -/
def lies (f h : Int32) : Prop := f = 0 ∨ (¬ f < h ∧ ¬ h + 3 < f)
theorem lies_dec (f h : Int32) : lies f h ∨ ¬ lies f h := Classical.em _
/-- the first string of four -/
noncomputable def lowS (p : Int32) (O : Nat → Int32) (h : Int32) : Int32 := by
  classical exact if lies (p - O 0) h then 0 else if lies (p - O 1) h then 1 else if lies (p - O 2) h then 2 else if lies (p - O 3) h then 3 else -1
def FARn : Nat := 1000000
/-- a shift from b, where 0 is nowhere -/
def sh (b h : Nat) : Nat := if b = 0 then 0 else if b ≤ h then h - b else b - h
/-- the least over 1..n, at most FARn; the lowest place of it -/
def mn (f : Nat → Nat) : Nat → Nat
  | 0 => FARn
  | n + 1 => if f (n + 1) < mn f n then f (n + 1) else mn f n
def am (f : Nat → Nat) : Nat → Nat
  | 0 => 0
  | n + 1 => if f (n + 1) < mn f n then n + 1 else am f n
theorem mn_le (f : Nat → Nat) : ∀ n, mn f n ≤ FARn
  | 0 => Nat.le_refl _
  | n + 1 => by
    have ih := mn_le f n
    unfold mn
    split <;> omega
theorem am_spec (f : Nat → Nat) : ∀ n, (am f n = 0 ∧ mn f n = FARn ∧ ∀ g, 1 ≤ g → g ≤ n → FARn ≤ f g) ∨ (1 ≤ am f n ∧ am f n ≤ n ∧ f (am f n) = mn f n ∧ mn f n < FARn ∧ (∀ g, 1 ≤ g → g ≤ n → mn f n ≤ f g) ∧ ∀ g, 1 ≤ g → g < am f n → mn f n < f g)
  | 0 => Or.inl ⟨rfl, rfl, fun g h1 h2 => by omega⟩
  | n + 1 => by
    have hle := mn_le f n
    rcases am_spec f n with ⟨h1, h2, h3⟩ | ⟨h1, h2, h3, h4, h5, h6⟩
    · by_cases h : f (n + 1) < mn f n
      · right
        have e1 : am f (n + 1) = n + 1 := by unfold am; rw [if_pos h]
        have e2 : mn f (n + 1) = f (n + 1) := by unfold mn; rw [if_pos h]
        rw [e1, e2]
        refine ⟨by omega, by omega, rfl, by omega, fun g g1 g2 => ?_, fun g g1 g2 => ?_⟩
        · rcases Nat.lt_or_ge g (n + 1) with q | q
          · have := h3 g g1 (by omega); omega
          · rw [show g = n + 1 by omega]; exact Nat.le_refl _
        · have := h3 g g1 (by omega); omega
      · left
        have e1 : am f (n + 1) = am f n := by
          show (if f (n + 1) < mn f n then n + 1 else am f n) = am f n
          rw [if_neg h]
        have e2 : mn f (n + 1) = mn f n := by
          show (if f (n + 1) < mn f n then f (n + 1) else mn f n) = mn f n
          rw [if_neg h]
        rw [e1, e2]
        refine ⟨h1, h2, fun g g1 g2 => ?_⟩
        rcases Nat.lt_or_ge g (n + 1) with q | q
        · exact h3 g g1 (by omega)
        · rw [show g = n + 1 by omega]; omega
    · by_cases h : f (n + 1) < mn f n
      · right
        have e1 : am f (n + 1) = n + 1 := by unfold am; rw [if_pos h]
        have e2 : mn f (n + 1) = f (n + 1) := by unfold mn; rw [if_pos h]
        rw [e1, e2]
        refine ⟨by omega, by omega, rfl, by omega, fun g g1 g2 => ?_, fun g g1 g2 => ?_⟩
        · rcases Nat.lt_or_ge g (n + 1) with q | q
          · have := h5 g g1 (by omega); omega
          · rw [show g = n + 1 by omega]; exact Nat.le_refl _
        · have := h5 g g1 (by omega); omega
      · right
        have e1 : am f (n + 1) = am f n := by
          show (if f (n + 1) < mn f n then n + 1 else am f n) = am f n
          rw [if_neg h]
        have e2 : mn f (n + 1) = mn f n := by
          show (if f (n + 1) < mn f n then f (n + 1) else mn f n) = mn f n
          rw [if_neg h]
        rw [e1, e2]
        refine ⟨h1, by omega, h3, h4, fun g g1 g2 => ?_, h6⟩
        rcases Nat.lt_or_ge g (n + 1) with q | q
        · exact h5 g g1 (by omega)
        · rw [show g = n + 1 by omega]; omega
theorem mn_congr {f g : Nat → Nat} : ∀ {n : Nat}, (∀ k, 1 ≤ k → k ≤ n → f k = g k ∨ (FARn ≤ f k ∧ FARn ≤ g k)) → mn f n = mn g n ∧ am f n = am g n
  | 0, _ => ⟨rfl, rfl⟩
  | n + 1, h => by
    obtain ⟨h1, h2⟩ := mn_congr (n := n) (fun k a b => h k a (by omega))
    have hl := mn_le g n
    show (if f (n + 1) < mn f n then f (n + 1) else mn f n) = (if g (n + 1) < mn g n then g (n + 1) else mn g n) ∧ (if f (n + 1) < mn f n then n + 1 else am f n) = (if g (n + 1) < mn g n then n + 1 else am g n)
    rw [h1, h2]
    rcases h (n + 1) (by omega) (Nat.le_refl _) with q | ⟨q1, q2⟩
    · rw [q]; exact ⟨rfl, rfl⟩
    · rw [if_neg (by omega), if_neg (by omega), if_neg (by omega), if_neg (by omega)]; exact ⟨rfl, rfl⟩
/-- positions beyond hi are out of reach: the least over fewer is the same -/
theorem mn_cut {f : Nat → Nat} {a : Nat} : ∀ {n : Nat}, (∀ k, a < k → k ≤ a + n → FARn ≤ f k) → mn f (a + n) = mn f a ∧ am f (a + n) = am f a
  | 0, _ => ⟨rfl, rfl⟩
  | n + 1, h => by
    obtain ⟨h1, h2⟩ := mn_cut (a := a) (n := n) (fun k x y => h k x (by omega))
    have hl := mn_le f a
    have hk := h (a + (n + 1)) (by omega) (Nat.le_refl _)
    show (if f (a + n + 1) < mn f (a + n) then f (a + n + 1) else mn f (a + n)) = mn f a ∧ (if f (a + n + 1) < mn f (a + n) then a + n + 1 else am f (a + n)) = am f a
    rw [show a + n + 1 = a + (n + 1) by omega, h1, h2, if_neg (by omega), if_neg (by omega)]
    exact ⟨rfl, rfl⟩
/-- the least sum of shifts from a position of note i on, k notes being left behind it -/
def VR (P : Nat → Nat → Bool) : Nat → Nat → Nat → Nat
  | 0, i, h => if P i h = true then 0 else FARn
  | k + 1, i, h => if P i h = true then mn (fun g => sh h g + VR P k (i + 1) g) 13 else FARn
theorem VR_le (P : Nat → Nat → Bool) (k i h : Nat) : VR P k i h ≤ FARn := by
  cases k with
  | zero => unfold VR; split <;> (unfold FARn; omega)
  | succ k => unfold VR; split; exact mn_le _ _; exact Nat.le_refl _
theorem VR_no {P : Nat → Nat → Bool} {k i h : Nat} (hp : ¬ P i h = true) : VR P k i h = FARn := by
  cases k with
  | zero => unfold VR; rw [if_neg hp]
  | succ k => unfold VR; rw [if_neg hp]
/-- the row of the best fingering, the least sum, the greatest shift -/
def rowf (P : Nat → Nat → Bool) (n : Nat) : Nat → Nat
  | 0 => am (fun g => sh 0 g + VR P (n - 1) 0 g) 13
  | i + 1 => am (fun g => sh (rowf P n i) g + VR P (n - 1 - (i + 1)) (i + 1) g) 13
def tot (P : Nat → Nat → Bool) (n : Nat) : Nat := mn (fun g => sh 0 g + VR P (n - 1) 0 g) 13
def bef (P : Nat → Nat → Bool) (n : Nat) : Nat → Nat
  | 0 => 0
  | i + 1 => rowf P n i
def grt (P : Nat → Nat → Bool) (n : Nat) : Nat → Nat
  | 0 => 0
  | i + 1 => if grt P n i < sh (bef P n i) (rowf P n i) then sh (bef P n i) (rowf P n i) else grt P n i
def sumf (P : Nat → Nat → Bool) (n : Nat) : Nat → Nat
  | 0 => 0
  | i + 1 => sumf P n i + sh (bef P n i) (rowf P n i)
theorem rowf_am (P : Nat → Nat → Bool) (n i : Nat) : rowf P n i = am (fun g => sh (bef P n i) g + VR P (n - 1 - i) i g) 13 := by
  cases i with
  | zero => rfl
  | succ i => rfl
/-- where the piece can be played, each note of the row is in reach, and its rest is the sum that is left -/
theorem row_spec {P : Nat → Nat → Bool} {n : Nat} (h0 : 0 < n) (ht : tot P n < FARn) : ∀ i, i < n → (1 ≤ rowf P n i ∧ rowf P n i ≤ 13 ∧ P i (rowf P n i) = true ∧ VR P (n - 1 - i) i (rowf P n i) < FARn ∧ sumf P n (i + 1) + VR P (n - 1 - i) i (rowf P n i) = tot P n ∧ mn (fun g => sh (bef P n i) g + VR P (n - 1 - i) i g) 13 < FARn) := by
  intro i
  induction i with
  | zero =>
    intro _
    have e := rowf_am P n 0
    have ht' : mn (fun g => sh (bef P n 0) g + VR P (n - 1 - 0) 0 g) 13 < FARn := ht
    rcases am_spec (fun g => sh (bef P n 0) g + VR P (n - 1 - 0) 0 g) 13 with ⟨_, h2, _⟩ | ⟨h1, h2, h3, h4, h5, h6⟩
    · omega
    · rw [← e] at h1 h2 h3
      have hs : sh (bef P n 0) (rowf P n 0) = 0 := rfl
      have hv : VR P (n - 1 - 0) 0 (rowf P n 0) < FARn := by
        have : sh (bef P n 0) (rowf P n 0) + VR P (n - 1 - 0) 0 (rowf P n 0) = mn (fun g => sh (bef P n 0) g + VR P (n - 1 - 0) 0 g) 13 := h3
        omega
      refine ⟨h1, h2, ?_, hv, ?_, ht'⟩
      · cases hp : P 0 (rowf P n 0) with
        | true => rfl
        | false => rw [VR_no (by rw [hp]; decide)] at hv; omega
      · have : sh (bef P n 0) (rowf P n 0) + VR P (n - 1 - 0) 0 (rowf P n 0) = tot P n := h3
        show 0 + sh (bef P n 0) (rowf P n 0) + VR P (n - 1 - 0) 0 (rowf P n 0) = tot P n
        omega
  | succ i ih =>
    intro hi
    obtain ⟨a1, a2, a3, a4, a5, _⟩ := ih (by omega)
    have hk : n - 1 - i = (n - 1 - (i + 1)) + 1 := by omega
    rw [hk] at a4 a5
    have hv : VR P (n - 1 - (i + 1) + 1) i (rowf P n i) = mn (fun g => sh (rowf P n i) g + VR P (n - 1 - (i + 1)) (i + 1) g) 13 := by
      show (if P i (rowf P n i) = true then _ else _) = _
      rw [if_pos a3]
    rw [hv] at a4 a5
    have e := rowf_am P n (i + 1)
    rcases am_spec (fun g => sh (bef P n (i + 1)) g + VR P (n - 1 - (i + 1)) (i + 1) g) 13 with ⟨_, h2, _⟩ | ⟨h1, h2, h3, h4, h5, h6⟩
    · have : mn (fun g => sh (rowf P n i) g + VR P (n - 1 - (i + 1)) (i + 1) g) 13 = FARn := h2
      omega
    · rw [← e] at h1 h2 h3
      have h3' : sh (bef P n (i + 1)) (rowf P n (i + 1)) + VR P (n - 1 - (i + 1)) (i + 1) (rowf P n (i + 1)) = mn (fun g => sh (rowf P n i) g + VR P (n - 1 - (i + 1)) (i + 1) g) 13 := h3
      have hv2 : VR P (n - 1 - (i + 1)) (i + 1) (rowf P n (i + 1)) < FARn := by omega
      refine ⟨h1, h2, ?_, hv2, ?_, h4⟩
      · cases hp : P (i + 1) (rowf P n (i + 1)) with
        | true => rfl
        | false => rw [VR_no (by rw [hp]; decide)] at hv2; omega
      · show sumf P n (i + 1) + sh (bef P n (i + 1)) (rowf P n (i + 1)) + VR P (n - 1 - (i + 1)) (i + 1) (rowf P n (i + 1)) = tot P n
        omega
theorem sh_le {b h : Nat} (hb : b ≤ 13) (hh : h ≤ 13) : sh b h ≤ 13 := by
  unfold sh
  split
  · omega
  · split <;> omega
theorem sh_lt {b h : Nat} (hb : b ≤ 13) (h1 : 1 ≤ h) (hh : h ≤ 13) : sh b h < 13 := by
  unfold sh
  split
  · omega
  · split <;> omega
theorem grt_le {P : Nat → Nat → Bool} {n : Nat} (h0 : 0 < n) (ht : tot P n < FARn) : ∀ i, i ≤ n → grt P n i < 13
  | 0, _ => by show 0 < 13; omega
  | i + 1, hi => by
    have ih := grt_le h0 ht i (by omega)
    obtain ⟨a1, a2, _⟩ := row_spec h0 ht i (by omega)
    have hb : bef P n i ≤ 13 := by
      cases i with
      | zero => show 0 ≤ 13; omega
      | succ i => exact (row_spec h0 ht i (by omega)).2.1
    have := sh_lt hb a1 a2
    show (if grt P n i < sh (bef P n i) (rowf P n i) then sh (bef P n i) (rowf P n i) else grt P n i) < 13
    split <;> omega
/-- all fingerings, one after the other -/
def LF (P : Nat → Nat → Bool) : Nat → Nat → Nat → Nat
  | 0, _, _ => 0
  | k + 1, i, b => mn (fun g => if P i g = true then sh b g + LF P k (i + 1) g else FARn) 13
theorem LF_VR (P : Nat → Nat → Bool) : ∀ (k i b : Nat), LF P (k + 1) i b = mn (fun g => sh b g + VR P k i g) 13
  | 0, i, b => by
    show mn (fun g => if P i g = true then sh b g + LF P 0 (i + 1) g else FARn) 13 = _
    refine (mn_congr fun g _ _ => ?_).1
    by_cases h : P i g = true
    · left
      show (if P i g = true then sh b g + 0 else FARn) = sh b g + (if P i g = true then 0 else FARn)
      rw [if_pos h, if_pos h]
    · right
      show FARn ≤ (if P i g = true then sh b g + 0 else FARn) ∧ FARn ≤ sh b g + (if P i g = true then 0 else FARn)
      rw [if_neg h, if_neg h]
      omega
  | k + 1, i, b => by
    show mn (fun g => if P i g = true then sh b g + LF P (k + 1) (i + 1) g else FARn) 13 = _
    refine (mn_congr fun g _ _ => ?_).1
    by_cases h : P i g = true
    · left
      show (if P i g = true then sh b g + LF P (k + 1) (i + 1) g else FARn) = sh b g + VR P (k + 1) i g
      rw [if_pos h, LF_VR P k (i + 1) g]
      show _ = sh b g + (if P i g = true then mn (fun g' => sh g g' + VR P k (i + 1) g') 13 else FARn)
      rw [if_pos h]
    · right
      show FARn ≤ (if P i g = true then sh b g + LF P (k + 1) (i + 1) g else FARn) ∧ FARn ≤ sh b g + VR P (k + 1) i g
      rw [if_neg h, VR_no h]
      omega
end
section
/-! ===== leaves ===== -/
set_option maxRecDepth 100000 in
set_option maxHeartbeats 4000000 in
theorem c_X3_isFull {l : Launch} {D : va_G} {ad : Nat → Nat → Nat} {cy : Nat → ClassId} {A : Nat → Prop} {sa : Nat → Nat} {σ : St} {i : Nat} (hi : i < 8) : MI l D ad cy A sa yX3_isFull cX3_isFull 1 (some .boolean) 0 σ [.ref (ad 11 i)] (fun r σ' => r = (if σ 11 i 1 < 16 then 0 else 1) ∧ σ = σ') := by
  refine MI.mk "FretSchool$Piece" (by decide) rfl (Nat.le_of_ble_eq_true rfl) rfl ?_
  intro p e s m args below meth c C
  change Z _ _ _ _ _ _ _ _ _ _ _ _ _ _ _ _ _ _ _ [some (.ref (ad 11 i))] 0 []
  refine z_aload_n C dX3_isFull_0 rfl ?_
  refine g_11_1 (by first | assumption | omega) C wd62 dX3_isFull_1 ?_
  refine z_bipush C (v := 16) dX3_isFull_4 (by decide) ?_
  refine z_icmp_lt C 13 dX3_isFull_6 (by decide) (fun c_6 => ?_) (fun c_6 => ?_)
  · refine z_iconst C (v := 0) dX3_isFull_13 (by decide) ?_
    refine z_zret C dX3_isFull_14 (by first | exact Or.inl rfl | exact Or.inr rfl | assumption) ?_
    exact ⟨by simp [*], rfl⟩
  · refine z_iconst C (v := 1) dX3_isFull_9 (by decide) ?_
    refine z_goto C 14 dX3_isFull_10 (by decide) ?_
    refine z_zret C dX3_isFull_14 (by first | exact Or.inl rfl | exact Or.inr rfl | assumption) ?_
    exact ⟨by simp [*], rfl⟩
set_option maxRecDepth 100000 in
set_option maxHeartbeats 4000000 in
theorem c_X3_append {l : Launch} {D : va_G} {ad : Nat → Nat → Nat} {cy : Nat → ClassId} {A : Nat → Prop} {sa : Nat → Nat} {σ : St} {i : Nat} (hi : i < 8) {x : Int32} {n : Nat} (hn : σ 11 i 1 = nI n) (h16 : n < 16) : MV l D ad cy A sa yX3_append cX3_append 2 (none : Option Jvm.ClassFile.FieldType) 1 σ [.ref (ad 11 i), .int x] (fun σ' => up (up σ 12 i n x) 11 i 1 (nI (n + 1)) = σ') := by
  refine MV.mk "FretSchool$Piece" (by decide) rfl (Nat.le_of_ble_eq_true rfl) rfl ?_
  intro p e s m args below meth c C
  change Z _ _ _ _ _ _ _ _ _ _ _ _ _ _ _ _ _ _ _ [some (.ref (ad 11 i)), some (.int x)] 0 []
  refine z_aload_n C dX3_append_0 rfl ?_
  refine z_cvi C (As := []) (c_X3_isFull (by assumption)) okX3_isFull wd329 (rc_11 (by first | assumption | omega)) (rok (by decide) (by decide)) ⟨Nat.le_of_ble_eq_true rfl, Nat.le_of_ble_eq_true rfl⟩ rfl (Nat.le_of_ble_eq_true rfl) dX3_append_1 ?_
  rintro _ _ ⟨rfl, rfl⟩
  refine z_if_eq C 8 dX3_append_4 (by decide) (fun c_4 => ?_) (fun c_4 => ?_)
  rotate_left
  · exact absurd (if_pos (by rw [hn]; exact nI_lt (b := 16) h16 (by decide))) c_4
  refine z_aload_n C dX3_append_8 rfl ?_
  refine g_11_0 (by first | assumption | omega) C wd59 dX3_append_9 ?_
  refine z_aload_n C dX3_append_12 rfl ?_
  refine g_11_1 (by first | assumption | omega) C wd62 dX3_append_13 ?_
  refine z_iload_n C dX3_append_16 rfl ?_
  refine s_12 (by first | assumption | omega) C hn h16 dX3_append_17 ?_
  refine z_aload_n C dX3_append_18 rfl ?_
  refine z_dup C dX3_append_19 rfl ?_
  refine g_11_1 (by first | assumption | omega) C wd62 dX3_append_20 ?_
  refine z_iconst C (v := 1) dX3_append_23 (by decide) ?_
  refine z_iadd C dX3_append_24 ?_
  refine p_11_1 (by first | assumption | omega) C wd62 dX3_append_25 ?_
  refine z_vret C dX3_append_28 ?_
  rw [show up σ 12 i n x 11 i 1 = nI n by rw [up_app, if_neg (by omega), hn], nI_1]
set_option maxRecDepth 100000 in
set_option maxHeartbeats 4000000 in
theorem c_X1_build {l : Launch} {D : va_G} {ad : Nat → Nat → Nat} {cy : Nat → ClassId} {A : Nat → Prop} {sa : Nat → Nat} {σ : St} {i : Nat} (hi : i < 8) {x y : Int32} : MV l D ad cy A sa yX1_build cX1_build 3 (none : Option Jvm.ClassFile.FieldType) 0 σ [.ref (ad 13 i), .int x, .int y] (fun σ' => up (up σ 13 i 1 x) 13 i 2 y = σ') := by
  refine MV.mk "FretSchool$Instrument" (by decide) rfl (Nat.le_of_ble_eq_true rfl) rfl ?_
  intro p e s m args below meth c C
  change Z _ _ _ _ _ _ _ _ _ _ _ _ _ _ _ _ _ _ _ [some (.ref (ad 13 i)), some (.int x), some (.int y)] 0 []
  refine z_aload_n C dX1_build_0 rfl ?_
  refine z_iload_n C dX1_build_1 rfl ?_
  refine p_13_1 (by first | assumption | omega) C wd80 dX1_build_2 ?_
  refine z_aload_n C dX1_build_5 rfl ?_
  refine z_iload_n C dX1_build_6 rfl ?_
  refine p_13_2 (by first | assumption | omega) C wd82 dX1_build_7 ?_
  refine z_vret C dX1_build_10 ?_
  rfl
set_option maxRecDepth 100000 in
set_option maxHeartbeats 4000000 in
theorem c_X1_tuneAll {l : Launch} {D : va_G} {ad : Nat → Nat → Nat} {cy : Nat → ClassId} {A : Nat → Prop} {sa : Nat → Nat} {σ : St} {i : Nat} (hi : i < 8) {a b c0 d0 : Int32} : MV l D ad cy A sa yX1_tuneAll cX1_tuneAll 5 (none : Option Jvm.ClassFile.FieldType) 0 σ [.ref (ad 13 i), .int a, .int b, .int c0, .int d0] (fun σ' => up (up (up (up σ 14 i 0 a) 14 i 1 b) 14 i 2 c0) 14 i 3 d0 = σ') := by
  refine MV.mk "FretSchool$Instrument" (by decide) rfl (Nat.le_of_ble_eq_true rfl) rfl ?_
  intro p e s m args below meth c C
  change Z _ _ _ _ _ _ _ _ _ _ _ _ _ _ _ _ _ _ _ [some (.ref (ad 13 i)), some (.int a), some (.int b), some (.int c0), some (.int d0)] 0 []
  refine z_aload_n C dX1_tuneAll_0 rfl ?_
  refine g_13_0 (by first | assumption | omega) C wd78 dX1_tuneAll_1 ?_
  refine z_iconst C (v := 0) dX1_tuneAll_4 (by decide) ?_
  refine z_iload_n C dX1_tuneAll_5 rfl ?_
  refine s_14 (by first | assumption | omega) C (j := 0) (by decide) (by decide) dX1_tuneAll_6 ?_
  refine z_aload_n C dX1_tuneAll_7 rfl ?_
  refine g_13_0 (by first | assumption | omega) C wd78 dX1_tuneAll_8 ?_
  refine z_iconst C (v := 1) dX1_tuneAll_11 (by decide) ?_
  refine z_iload_n C dX1_tuneAll_12 rfl ?_
  refine s_14 (by first | assumption | omega) C (j := 1) (by decide) (by decide) dX1_tuneAll_13 ?_
  refine z_aload_n C dX1_tuneAll_14 rfl ?_
  refine g_13_0 (by first | assumption | omega) C wd78 dX1_tuneAll_15 ?_
  refine z_iconst C (v := 2) dX1_tuneAll_18 (by decide) ?_
  refine z_iload_n C dX1_tuneAll_19 rfl ?_
  refine s_14 (by first | assumption | omega) C (j := 2) (by decide) (by decide) dX1_tuneAll_20 ?_
  refine z_aload_n C dX1_tuneAll_21 rfl ?_
  refine g_13_0 (by first | assumption | omega) C wd78 dX1_tuneAll_22 ?_
  refine z_iconst C (v := 3) dX1_tuneAll_25 (by decide) ?_
  refine z_iload C dX1_tuneAll_26 rfl ?_
  refine s_14 (by first | assumption | omega) C (j := 3) (by decide) (by decide) dX1_tuneAll_28 ?_
  refine z_vret C dX1_tuneAll_29 ?_
  rfl
set_option maxRecDepth 100000 in
set_option maxHeartbeats 4000000 in
theorem c_X1_highestPosition {l : Launch} {D : va_G} {ad : Nat → Nat → Nat} {cy : Nat → ClassId} {A : Nat → Prop} {sa : Nat → Nat} {σ : St} {i : Nat} (hi : i < 8) : MI l D ad cy A sa yX1_highestPosition cX1_highestPosition 1 (some .int) 0 σ [.ref (ad 13 i)] (fun r σ' => r = σ 13 i 2 - 3 ∧ σ = σ') := by
  refine MI.mk "FretSchool$Instrument" (by decide) rfl (Nat.le_of_ble_eq_true rfl) rfl ?_
  intro p e s m args below meth c C
  change Z _ _ _ _ _ _ _ _ _ _ _ _ _ _ _ _ _ _ _ [some (.ref (ad 13 i))] 0 []
  refine z_aload_n C dX1_highestPosition_0 rfl ?_
  refine g_13_2 (by first | assumption | omega) C wd82 dX1_highestPosition_1 ?_
  refine z_iconst C (v := 3) dX1_highestPosition_4 (by decide) ?_
  refine z_isub C dX1_highestPosition_5 ?_
  refine z_iret C dX1_highestPosition_6 ?_
  exact ⟨rfl, rfl⟩
set_option maxRecDepth 100000 in
set_option maxHeartbeats 4000000 in
theorem c_X2_place {l : Launch} {D : va_G} {ad : Nat → Nat → Nat} {cy : Nat → ClassId} {A : Nat → Prop} {sa : Nat → Nat} {σ : St} {i : Nat} (hi : i < 20) {x y z : Int32} : MV l D ad cy A sa yX2_place cX2_place 4 (none : Option Jvm.ClassFile.FieldType) 0 σ [.ref (ad 16 i), .int x, .int y, .int z] (fun σ' => up (up (up σ 16 i 0 x) 16 i 1 y) 16 i 2 z = σ') := by
  refine MV.mk "FretSchool$Order" (by decide) rfl (Nat.le_of_ble_eq_true rfl) rfl ?_
  intro p e s m args below meth c C
  change Z _ _ _ _ _ _ _ _ _ _ _ _ _ _ _ _ _ _ _ [some (.ref (ad 16 i)), some (.int x), some (.int y), some (.int z)] 0 []
  refine z_aload_n C dX2_place_0 rfl ?_
  refine z_iload_n C dX2_place_1 rfl ?_
  refine p_16_0 (by first | assumption | omega) C wd113 dX2_place_2 ?_
  refine z_aload_n C dX2_place_5 rfl ?_
  refine z_iload_n C dX2_place_6 rfl ?_
  refine p_16_1 (by first | assumption | omega) C wd115 dX2_place_7 ?_
  refine z_aload_n C dX2_place_10 rfl ?_
  refine z_iload_n C dX2_place_11 rfl ?_
  refine p_16_2 (by first | assumption | omega) C wd117 dX2_place_12 ?_
  refine z_vret C dX2_place_15 ?_
  rfl
set_option maxRecDepth 100000 in
set_option maxHeartbeats 4000000 in
theorem c_X2_isReady {l : Launch} {D : va_G} {ad : Nat → Nat → Nat} {cy : Nat → ClassId} {A : Nat → Prop} {sa : Nat → Nat} {σ : St} {i : Nat} (hi : i < 20) {x : Int32} : MI l D ad cy A sa yX2_isReady cX2_isReady 2 (some .boolean) 0 σ [.ref (ad 16 i), .int x] (fun r σ' => r = (if x < σ 16 i 2 then 0 else 1) ∧ σ = σ') := by
  refine MI.mk "FretSchool$Order" (by decide) rfl (Nat.le_of_ble_eq_true rfl) rfl ?_
  intro p e s m args below meth c C
  change Z _ _ _ _ _ _ _ _ _ _ _ _ _ _ _ _ _ _ _ [some (.ref (ad 16 i)), some (.int x)] 0 []
  refine z_iload_n C dX2_isReady_0 rfl ?_
  refine z_aload_n C dX2_isReady_1 rfl ?_
  refine g_16_2 (by first | assumption | omega) C wd117 dX2_isReady_2 ?_
  refine z_icmp_lt C 12 dX2_isReady_5 (by decide) (fun c_5 => ?_) (fun c_5 => ?_)
  · refine z_iconst C (v := 0) dX2_isReady_12 (by decide) ?_
    refine z_zret C dX2_isReady_13 (by first | exact Or.inl rfl | exact Or.inr rfl | assumption) ?_
    exact ⟨by simp [*], rfl⟩
  · refine z_iconst C (v := 1) dX2_isReady_8 (by decide) ?_
    refine z_goto C 13 dX2_isReady_9 (by decide) ?_
    refine z_zret C dX2_isReady_13 (by first | exact Or.inl rfl | exact Or.inr rfl | assumption) ?_
    exact ⟨by simp [*], rfl⟩
set_option maxRecDepth 100000 in
set_option maxHeartbeats 4000000 in
theorem c_X4_knows {l : Launch} {D : va_G} {ad : Nat → Nat → Nat} {cy : Nat → ClassId} {A : Nat → Prop} {sa : Nat → Nat} {σ : St} {i : Nat} (hi : i < 5) {x : Int32} : MI l D ad cy A sa yX4_knows cX4_knows 2 (some .boolean) 0 σ [.ref (ad 15 i), .int x] (fun r σ' => r = (if σ 15 i 1 &&& (1 <<< (x &&& 31)) = 0 then 0 else 1) ∧ σ = σ') := by
  refine MI.mk "FretSchool$Pupil" (by decide) rfl (Nat.le_of_ble_eq_true rfl) rfl ?_
  intro p e s m args below meth c C
  change Z _ _ _ _ _ _ _ _ _ _ _ _ _ _ _ _ _ _ _ [some (.ref (ad 15 i)), some (.int x)] 0 []
  refine z_aload_n C dX4_knows_0 rfl ?_
  refine g_15_1 (by first | assumption | omega) C wd99 dX4_knows_1 ?_
  refine z_iconst C (v := 1) dX4_knows_4 (by decide) ?_
  refine z_iload_n C dX4_knows_5 rfl ?_
  refine z_ishl C dX4_knows_6 ?_
  refine z_iand C dX4_knows_7 ?_
  refine z_if_eq C 15 dX4_knows_8 (by decide) (fun c_8 => ?_) (fun c_8 => ?_)
  · refine z_iconst C (v := 0) dX4_knows_15 (by decide) ?_
    refine z_zret C dX4_knows_16 (by first | exact Or.inl rfl | exact Or.inr rfl | assumption) ?_
    exact ⟨by simp [*], rfl⟩
  · refine z_iconst C (v := 1) dX4_knows_11 (by decide) ?_
    refine z_goto C 16 dX4_knows_12 (by decide) ?_
    refine z_zret C dX4_knows_16 (by first | exact Or.inl rfl | exact Or.inr rfl | assumption) ?_
    exact ⟨by simp [*], rfl⟩
set_option maxRecDepth 100000 in
set_option maxHeartbeats 4000000 in
theorem c_X4_takeIn {l : Launch} {D : va_G} {ad : Nat → Nat → Nat} {cy : Nat → ClassId} {A : Nat → Prop} {sa : Nat → Nat} {σ : St} {i : Nat} (hi : i < 5) {x g : Int32} : MV l D ad cy A sa yX4_takeIn cX4_takeIn 3 (none : Option Jvm.ClassFile.FieldType) 0 σ [.ref (ad 15 i), .int x, .int g] (fun σ' => up (up σ 15 i 1 (σ 15 i 1 ||| (1 <<< (x &&& 31)))) 15 i 0 (if g = σ 15 i 0 then σ 15 i 0 + 1 else σ 15 i 0) = σ') := by
  refine MV.mk "FretSchool$Pupil" (by decide) rfl (Nat.le_of_ble_eq_true rfl) rfl ?_
  intro p e s m args below meth c C
  change Z _ _ _ _ _ _ _ _ _ _ _ _ _ _ _ _ _ _ _ [some (.ref (ad 15 i)), some (.int x), some (.int g)] 0 []
  refine z_aload_n C dX4_takeIn_0 rfl ?_
  refine z_dup C dX4_takeIn_1 rfl ?_
  refine g_15_1 (by first | assumption | omega) C wd99 dX4_takeIn_2 ?_
  refine z_iconst C (v := 1) dX4_takeIn_5 (by decide) ?_
  refine z_iload_n C dX4_takeIn_6 rfl ?_
  refine z_ishl C dX4_takeIn_7 ?_
  refine z_ior C dX4_takeIn_8 ?_
  refine p_15_1 (by first | assumption | omega) C wd99 dX4_takeIn_9 ?_
  refine z_iload_n C dX4_takeIn_12 rfl ?_
  refine z_aload_n C dX4_takeIn_13 rfl ?_
  refine g_15_0 (by first | assumption | omega) C wd97 dX4_takeIn_14 ?_
  refine z_icmp_ne C 30 dX4_takeIn_17 (by decide) (fun c_17 => ?_) (fun c_17 => ?_)
  · refine z_vret C dX4_takeIn_30 ?_
    have e0 : up σ 15 i 1 (σ 15 i 1 ||| (1 <<< (x &&& 31))) 15 i 0 = σ 15 i 0 := by rw [up_app, if_neg (by omega)]
    first
      | (rw [e0] at c_17; rw [if_neg c_17]; exact (up_id e0).symm)
      | (rw [e0] at c_17; rw [if_pos c_17, e0])
  · refine z_aload_n C dX4_takeIn_20 rfl ?_
    refine z_dup C dX4_takeIn_21 rfl ?_
    refine g_15_0 (by first | assumption | omega) C wd97 dX4_takeIn_22 ?_
    refine z_iconst C (v := 1) dX4_takeIn_25 (by decide) ?_
    refine z_iadd C dX4_takeIn_26 ?_
    refine p_15_0 (by first | assumption | omega) C wd97 dX4_takeIn_27 ?_
    refine z_vret C dX4_takeIn_30 ?_
    have e0 : up σ 15 i 1 (σ 15 i 1 ||| (1 <<< (x &&& 31))) 15 i 0 = σ 15 i 0 := by rw [up_app, if_neg (by omega)]
    first
      | (rw [e0] at c_17; rw [if_neg c_17]; exact (up_id e0).symm)
      | (rw [e0] at c_17; rw [if_pos c_17, e0])
set_option maxRecDepth 100000 in
set_option maxHeartbeats 4000000 in
theorem c_X0_canReach {l : Launch} {D : va_G} {ad : Nat → Nat → Nat} {cy : Nat → ClassId} {A : Nat → Prop} {sa : Nat → Nat} {σ : St} {x h : Int32} : MI l D ad cy A sa yX0_canReach cX0_canReach 2 (some .boolean) 0 σ [.int x, .int h] (fun r σ' => r = (if x &&& (1 <<< (h &&& 31)) = 0 then 0 else 1) ∧ σ = σ') := by
  refine MI.mk "FretSchool$Hand" (by decide) rfl (Nat.le_of_ble_eq_true rfl) rfl ?_
  intro p e s m args below meth c C
  change Z _ _ _ _ _ _ _ _ _ _ _ _ _ _ _ _ _ _ _ [some (.int x), some (.int h)] 0 []
  refine z_iload_n C dX0_canReach_0 rfl ?_
  refine z_iconst C (v := 1) dX0_canReach_1 (by decide) ?_
  refine z_iload_n C dX0_canReach_2 rfl ?_
  refine z_ishl C dX0_canReach_3 ?_
  refine z_iand C dX0_canReach_4 ?_
  refine z_if_eq C 12 dX0_canReach_5 (by decide) (fun c_5 => ?_) (fun c_5 => ?_)
  · refine z_iconst C (v := 0) dX0_canReach_12 (by decide) ?_
    refine z_zret C dX0_canReach_13 (by first | exact Or.inl rfl | exact Or.inr rfl | assumption) ?_
    exact ⟨by simp [*], rfl⟩
  · refine z_iconst C (v := 1) dX0_canReach_8 (by decide) ?_
    refine z_goto C 13 dX0_canReach_9 (by decide) ?_
    refine z_zret C dX0_canReach_13 (by first | exact Or.inl rfl | exact Or.inr rfl | assumption) ?_
    exact ⟨by simp [*], rfl⟩
section
variable {p : Program} {l : Launch} {e : Env} {R : Room} {s : State} {m : MethodId} {args : Array Value} {below : List Frame} {meth : Method} {c : Code} {D : va_G} {ad : Nat → Nat → Nat} {cy : Nat → ClassId} {A : Nat → Prop} {sa : Nat → Nat} {cells slots : Nat} {σ : St}
set_option maxRecDepth 100000 in
set_option maxHeartbeats 4000000 in
theorem lp_X3_canMove (C : Cx p l s m args meth c cX3_canMove "FretSchool$Piece" 4 (some .boolean) D ad cy A sa) {i : Nat} (hi : i < 8) {by0 : Int32} {n : Nat} (hn : σ 11 i 1 = nI n) (h16 : n ≤ 16) : ∀ (f j : Nat) (x : Int32) (o3 : Option Value), x = nI j → j ≤ n → n < j + f → (∀ k, k < j → okP (σ 12 i k + by0)) → Z p l e R s m args below meth c D ad cy A 4 cells slots (MQ below (va_Qi (fun r σ' => σ = σ' ∧ ((r = 1 ∧ ∀ k, k < n → okP (σ 12 i k + by0)) ∨ (r = 0 ∧ ∃ k, k < n ∧ ¬ okP (σ 12 i k + by0)))) (Bw D ad cy) A) args s cells slots A) σ [some (.ref (ad 11 i)), some (.int by0), some (.int x), o3] 2 [] := by
  intro f
  induction f with
  | zero => intro j x o3 _ _ h _; exact absurd h (by omega)
  | succ f ih =>
    intro j x o3 ex hj hf hok
    refine z_iload_n C dX3_canMove_2 rfl ?_
    refine z_aload_n C dX3_canMove_3 rfl ?_
    refine g_11_1 (by first | assumption | omega) C wd62 dX3_canMove_4 ?_
    refine z_icmp_ge C 37 dX3_canMove_7 (by decide) (fun c_7 => ?_) (fun c_7 => ?_)
    · have hjn : n ≤ j := by rw [hn, ex, nI_leI (by omega) (by omega)] at c_7; exact c_7
      refine z_iconst C (v := 1) dX3_canMove_37 (by decide) ?_
      refine z_zret C dX3_canMove_38 (by first | exact Or.inl rfl | exact Or.inr rfl | assumption) ?_
      exact ⟨rfl, Or.inl ⟨rfl, fun k hk => hok k (by omega)⟩⟩
    · have hjn : j < n := by rw [hn, ex, nI_leI (by omega) (by omega)] at c_7; omega
      refine z_aload_n C dX3_canMove_10 rfl ?_
      refine g_11_0 (by first | assumption | omega) C wd59 dX3_canMove_11 ?_
      refine z_iload_n C dX3_canMove_14 rfl ?_
      refine a_12 (by first | assumption | omega) C (by assumption) (by first | assumption | omega) dX3_canMove_15 ?_
      refine z_iload_n C dX3_canMove_16 rfl ?_
      refine z_iadd C dX3_canMove_17 ?_
      refine z_istore_n C dX3_canMove_18 (by decide) ?_
      dsimp only [List.set]
      refine z_iload_n C dX3_canMove_19 rfl ?_
      refine z_if_lt C 29 dX3_canMove_20 (by decide) (fun c_20 => ?_) (fun c_20 => ?_)
      · refine z_iconst C (v := 0) dX3_canMove_29 (by decide) ?_
        refine z_zret C dX3_canMove_30 (by first | exact Or.inl rfl | exact Or.inr rfl | assumption) ?_
        exact ⟨rfl, Or.inr ⟨rfl, j, hjn, fun h => by first | exact h.1 c_20 | exact c_26 h.2⟩⟩
      · refine z_iload_n C dX3_canMove_23 rfl ?_
        refine z_bipush C (v := 80) dX3_canMove_24 (by decide) ?_
        refine z_icmp_le C 31 dX3_canMove_26 (by decide) (fun c_26 => ?_) (fun c_26 => ?_)
        · refine z_iinc C (v := 1) dX3_canMove_31 rfl (by decide) (by decide) ?_
          dsimp only [List.set]
          refine z_goto C 2 dX3_canMove_34 (by decide) ?_
          exact ih (j + 1) _ _ (by rw [ex]; exact nI_1 j) (by omega) (by omega) (fun k hk => (Nat.lt_or_ge k j).elim (fun q => hok k q) (fun q => by rw [show k = j by omega]; exact ⟨c_20, c_26⟩))
        · refine z_iconst C (v := 0) dX3_canMove_29 (by decide) ?_
          refine z_zret C dX3_canMove_30 (by first | exact Or.inl rfl | exact Or.inr rfl | assumption) ?_
          exact ⟨rfl, Or.inr ⟨rfl, j, hjn, fun h => by first | exact h.1 c_20 | exact c_26 h.2⟩⟩
end
set_option maxRecDepth 100000 in
set_option maxHeartbeats 4000000 in
theorem c_X3_canMove {l : Launch} {D : va_G} {ad : Nat → Nat → Nat} {cy : Nat → ClassId} {A : Nat → Prop} {sa : Nat → Nat} {σ : St} {i : Nat} (hi : i < 8) {by0 : Int32} {n : Nat} (hn : σ 11 i 1 = nI n) (h16 : n ≤ 16) : MI l D ad cy A sa yX3_canMove cX3_canMove 4 (some .boolean) 0 σ [.ref (ad 11 i), .int by0] (fun r σ' => σ = σ' ∧ ((r = 1 ∧ ∀ k, k < n → okP (σ 12 i k + by0)) ∨ (r = 0 ∧ ∃ k, k < n ∧ ¬ okP (σ 12 i k + by0)))) := by
  refine MI.mk "FretSchool$Piece" (by decide) rfl (Nat.le_of_ble_eq_true rfl) rfl ?_
  intro p e s m args below meth c C
  change Z _ _ _ _ _ _ _ _ _ _ _ _ _ _ _ _ _ _ _ [some (.ref (ad 11 i)), some (.int by0), none, none] 0 []
  refine z_iconst C (v := 0) dX3_canMove_0 (by decide) ?_
  refine z_istore_n C dX3_canMove_1 (by decide) ?_
  dsimp only [List.set]
  exact lp_X3_canMove C hi hn h16 (n + 1) 0 _ _ nI_0.symm (by omega) (by omega) (fun k hk => absurd hk (Nat.not_lt_zero k))
/-- the first j notes of piece i moved -/
def mvd (σ : St) (i : Nat) (x : Int32) : Nat → St
  | 0 => σ
  | j + 1 => up (mvd σ i x j) 12 i j (mvd σ i x j 12 i j + x)
theorem mvd_app (σ : St) (i : Nat) (x : Int32) : ∀ (n k' i' j' : Nat), mvd σ i x n k' i' j' = if k' = 12 ∧ i' = i ∧ j' < n then σ 12 i j' + x else σ k' i' j'
  | 0, k', i', j' => by rw [if_neg (by omega)]; rfl
  | n + 1, k', i', j' => by
    show up (mvd σ i x n) 12 i n (mvd σ i x n 12 i n + x) k' i' j' = _
    rw [up_app]
    by_cases h : k' = 12 ∧ i' = i ∧ j' = n
    · obtain ⟨rfl, rfl, rfl⟩ := h
      rw [if_pos ⟨rfl, rfl, rfl⟩, if_pos (by omega), mvd_app σ i' x j', if_neg (by omega)]
    · rw [if_neg h, mvd_app σ i x n]
      by_cases h2 : k' = 12 ∧ i' = i ∧ j' < n
      · rw [if_pos h2, if_pos (by omega)]
      · rw [if_neg h2, if_neg (by omega)]
section
variable {p : Program} {l : Launch} {e : Env} {R : Room} {s : State} {m : MethodId} {args : Array Value} {below : List Frame} {meth : Method} {c : Code} {D : va_G} {ad : Nat → Nat → Nat} {cy : Nat → ClassId} {A : Nat → Prop} {sa : Nat → Nat} {cells slots : Nat} {σ : St}
set_option maxRecDepth 100000 in
set_option maxHeartbeats 4000000 in
theorem lp_X3_move (C : Cx p l s m args meth c cX3_move "FretSchool$Piece" 3 (none : Option Jvm.ClassFile.FieldType) D ad cy A sa) {i : Nat} (hi : i < 8) {by0 : Int32} {n : Nat} (hn : σ 11 i 1 = nI n) (h16 : n ≤ 16) : ∀ (f j : Nat) (x : Int32), x = nI j → j ≤ n → n < j + f → Z p l e R s m args below meth c D ad cy A 3 cells slots (MQ below (va_Qv (fun σ' => mvd σ i by0 n = σ') (Bw D ad cy) A) args s cells slots A) (mvd σ i by0 j) [some (.ref (ad 11 i)), some (.int by0), some (.int x)] 2 [] := by
  intro f
  induction f with
  | zero => intro j x _ _ h; exact absurd h (by omega)
  | succ f ih =>
    intro j x ex hj hf
    have hn : mvd σ i by0 j 11 i 1 = nI n := by rw [mvd_app, if_neg (by omega), hn]
    refine z_iload_n C dX3_move_2 rfl ?_
    refine z_aload_n C dX3_move_3 rfl ?_
    refine g_11_1 (by first | assumption | omega) C wd62 dX3_move_4 ?_
    refine z_icmp_ge C 26 dX3_move_7 (by decide) (fun c_7 => ?_) (fun c_7 => ?_)
    · have hjn : n ≤ j := by rw [hn, ex, nI_leI (by omega) (by omega)] at c_7; exact c_7
      refine z_vret C dX3_move_26 ?_
      rw [show j = n by omega]
    · have hjn : j < n := by rw [hn, ex, nI_leI (by omega) (by omega)] at c_7; omega
      refine z_aload_n C dX3_move_10 rfl ?_
      refine g_11_0 (by first | assumption | omega) C wd59 dX3_move_11 ?_
      refine z_iload_n C dX3_move_14 rfl ?_
      refine z_dup2 C dX3_move_15 rfl rfl ?_
      refine a_12 (by first | assumption | omega) C (by assumption) (by first | assumption | omega) dX3_move_16 ?_
      refine z_iload_n C dX3_move_17 rfl ?_
      refine z_iadd C dX3_move_18 ?_
      refine s_12 (by first | assumption | omega) C (by assumption) (by first | assumption | omega) dX3_move_19 ?_
      refine z_iinc C (v := 1) dX3_move_20 rfl (by decide) (by decide) ?_
      dsimp only [List.set]
      refine z_goto C 2 dX3_move_23 (by decide) ?_
      exact ih (j + 1) _ (by rw [ex]; exact nI_1 j) (by omega) (by omega)
end
set_option maxRecDepth 100000 in
set_option maxHeartbeats 4000000 in
theorem c_X3_move {l : Launch} {D : va_G} {ad : Nat → Nat → Nat} {cy : Nat → ClassId} {A : Nat → Prop} {sa : Nat → Nat} {σ : St} {i : Nat} (hi : i < 8) {by0 : Int32} {n : Nat} (hn : σ 11 i 1 = nI n) (h16 : n ≤ 16) : MV l D ad cy A sa yX3_move cX3_move 3 (none : Option Jvm.ClassFile.FieldType) 0 σ [.ref (ad 11 i), .int by0] (fun σ' => mvd σ i by0 n = σ') := by
  refine MV.mk "FretSchool$Piece" (by decide) rfl (Nat.le_of_ble_eq_true rfl) rfl ?_
  intro p e s m args below meth c C
  change Z _ _ _ _ _ _ _ _ _ _ _ _ _ _ _ _ _ _ _ [some (.ref (ad 11 i)), some (.int by0), none] 0 []
  refine z_iconst C (v := 0) dX3_move_0 (by decide) ?_
  refine z_istore_n C dX3_move_1 (by decide) ?_
  dsimp only [List.set]
  exact lp_X3_move C hi hn h16 (n + 1) 0 _ nI_0.symm (by omega) (by omega)
theorem lowS_at {p h : Int32} {O : Nat → Int32} {j : Nat} (hj : j < 4) (hno : ∀ k, k < j → ¬ lies (p - O k) h) (hyes : lies (p - O j) h) : nI j = lowS p O h := by
  unfold lowS
  match j, hj with
  | 0, _ => rw [if_pos hyes]; rfl
  | 1, _ => rw [if_neg (hno 0 (by omega)), if_pos hyes]; rfl
  | 2, _ => rw [if_neg (hno 0 (by omega)), if_neg (hno 1 (by omega)), if_pos hyes]; rfl
  | 3, _ => rw [if_neg (hno 0 (by omega)), if_neg (hno 1 (by omega)), if_neg (hno 2 (by omega)), if_pos hyes]; rfl
theorem lowS_none {p h : Int32} {O : Nat → Int32} (hno : ∀ k, k < 4 → ¬ lies (p - O k) h) : -1 = lowS p O h := by
  unfold lowS
  rw [if_neg (hno 0 (by omega)), if_neg (hno 1 (by omega)), if_neg (hno 2 (by omega)), if_neg (hno 3 (by omega))]
theorem lowS_iff {p h : Int32} {O : Nat → Int32} : lowS p O h ≠ -1 ↔ ∃ k, k < 4 ∧ lies (p - O k) h := by
  constructor
  · intro hne
    apply Classical.byContradiction
    intro hno
    exact hne (lowS_none (fun k hk hl => hno ⟨k, hk, hl⟩)).symm
  · rintro ⟨k, hk, hl⟩ e
    unfold lowS at e
    split at e
    · exact absurd e (by decide)
    · split at e
      · exact absurd e (by decide)
      · split at e
        · exact absurd e (by decide)
        · split at e
          · exact absurd e (by decide)
          · match k, hk with
            | 0, _ => contradiction
            | 1, _ => contradiction
            | 2, _ => contradiction
            | 3, _ => contradiction
section
variable {p : Program} {l : Launch} {e : Env} {R : Room} {s : State} {m : MethodId} {args : Array Value} {below : List Frame} {meth : Method} {c : Code} {D : va_G} {ad : Nat → Nat → Nat} {cy : Nat → ClassId} {A : Nat → Prop} {sa : Nat → Nat} {cells slots : Nat} {σ : St}
set_option maxRecDepth 100000 in
set_option maxHeartbeats 4000000 in
theorem lp_X1_lowestString (C : Cx p l s m args meth c cX1_lowestString "FretSchool$Instrument" 5 (some .int) D ad cy A sa) {i : Nat} (hi : i < 8) {p0 h0 : Int32} : ∀ (f j : Nat) (x : Int32) (o4 : Option Value), x = nI j → j ≤ 4 → 4 < j + f → (∀ k, k < j → ¬ lies (p0 - σ 14 i k) h0) → Z p l e R s m args below meth c D ad cy A 5 cells slots (MQ below (va_Qi (fun r σ' => σ = σ' ∧ r = lowS p0 (σ 14 i) h0) (Bw D ad cy) A) args s cells slots A) σ [some (.ref (ad 13 i)), some (.int p0), some (.int h0), some (.int x), o4] 2 [] := by
  intro f
  induction f with
  | zero => intro j x o4 _ _ h _; exact absurd h (by omega)
  | succ f ih =>
    intro j x o4 ex hj hf hno
    refine z_iload_n C dX1_lowestString_2 rfl ?_
    refine z_iconst C (v := 4) dX1_lowestString_3 (by decide) ?_
    refine z_icmp_ge C 44 dX1_lowestString_4 (by decide) (fun c_4 => ?_) (fun c_4 => ?_)
    · have hjn : 4 ≤ j := by rw [ex, show (4 : Int32) = nI 4 from rfl, nI_leI (by omega) (by omega)] at c_4; exact c_4
      refine z_iconst C (v := (-1)) dX1_lowestString_44 (by decide) ?_
      refine z_iret C dX1_lowestString_45 ?_
      exact ⟨rfl, lowS_none (fun k hk => hno k (by omega))⟩
    · have hjn : j < 4 := by rw [ex, show (4 : Int32) = nI 4 from rfl, nI_leI (by omega) (by omega)] at c_4; omega
      refine z_iload_n C dX1_lowestString_7 rfl ?_
      refine z_aload_n C dX1_lowestString_8 rfl ?_
      refine g_13_0 (by first | assumption | omega) C wd78 dX1_lowestString_9 ?_
      refine z_iload_n C dX1_lowestString_12 rfl ?_
      refine a_14 (by first | assumption | omega) C (by assumption) (by first | assumption | omega) dX1_lowestString_13 ?_
      refine z_isub C dX1_lowestString_14 ?_
      refine z_istore C dX1_lowestString_15 (by decide) ?_
      dsimp only [List.set]
      refine z_iload C dX1_lowestString_17 rfl ?_
      refine z_if_eq C 36 dX1_lowestString_19 (by decide) (fun c_19 => ?_) (fun c_19 => ?_)
      · refine z_iload_n C dX1_lowestString_36 rfl ?_
        refine z_iret C dX1_lowestString_37 ?_
        refine ⟨rfl, ?_⟩
        rw [ex]
        exact lowS_at hjn hno (by first | exact Or.inl c_19 | exact Or.inr ⟨c_25, c_33⟩)
      · refine z_iload C dX1_lowestString_22 rfl ?_
        refine z_iload_n C dX1_lowestString_24 rfl ?_
        refine z_icmp_lt C 38 dX1_lowestString_25 (by decide) (fun c_25 => ?_) (fun c_25 => ?_)
        · refine z_iinc C (v := 1) dX1_lowestString_38 rfl (by decide) (by decide) ?_
          dsimp only [List.set]
          refine z_goto C 2 dX1_lowestString_41 (by decide) ?_
          exact ih (j + 1) _ _ (by rw [ex]; exact nI_1 j) (by omega) (by omega) (fun k hk => (Nat.lt_or_ge k j).elim (fun q => hno k q) (fun q => by rw [show k = j by omega]; exact fun hl => hl.elim c_19 (fun h => by first | exact h.1 c_25 | exact h.2 c_33)))
        · refine z_iload C dX1_lowestString_28 rfl ?_
          refine z_iload_n C dX1_lowestString_30 rfl ?_
          refine z_iconst C (v := 3) dX1_lowestString_31 (by decide) ?_
          refine z_iadd C dX1_lowestString_32 ?_
          refine z_icmp_gt C 38 dX1_lowestString_33 (by decide) (fun c_33 => ?_) (fun c_33 => ?_)
          · refine z_iinc C (v := 1) dX1_lowestString_38 rfl (by decide) (by decide) ?_
            dsimp only [List.set]
            refine z_goto C 2 dX1_lowestString_41 (by decide) ?_
            exact ih (j + 1) _ _ (by rw [ex]; exact nI_1 j) (by omega) (by omega) (fun k hk => (Nat.lt_or_ge k j).elim (fun q => hno k q) (fun q => by rw [show k = j by omega]; exact fun hl => hl.elim c_19 (fun h => by first | exact h.1 c_25 | exact h.2 c_33)))
          · refine z_iload_n C dX1_lowestString_36 rfl ?_
            refine z_iret C dX1_lowestString_37 ?_
            refine ⟨rfl, ?_⟩
            rw [ex]
            exact lowS_at hjn hno (by first | exact Or.inl c_19 | exact Or.inr ⟨c_25, c_33⟩)
end
set_option maxRecDepth 100000 in
set_option maxHeartbeats 4000000 in
theorem c_X1_lowestString {l : Launch} {D : va_G} {ad : Nat → Nat → Nat} {cy : Nat → ClassId} {A : Nat → Prop} {sa : Nat → Nat} {σ : St} {i : Nat} (hi : i < 8) {p0 h0 : Int32} : MI l D ad cy A sa yX1_lowestString cX1_lowestString 5 (some .int) 0 σ [.ref (ad 13 i), .int p0, .int h0] (fun r σ' => σ = σ' ∧ r = lowS p0 (σ 14 i) h0) := by
  refine MI.mk "FretSchool$Instrument" (by decide) rfl (Nat.le_of_ble_eq_true rfl) rfl ?_
  intro p e s m args below meth c C
  change Z _ _ _ _ _ _ _ _ _ _ _ _ _ _ _ _ _ _ _ [some (.ref (ad 13 i)), some (.int p0), some (.int h0), none, none] 0 []
  refine z_iconst C (v := 0) dX1_lowestString_0 (by decide) ?_
  refine z_istore_n C dX1_lowestString_1 (by decide) ?_
  dsimp only [List.set]
  exact lp_X1_lowestString C hi 5 0 _ _ nI_0.symm (by omega) (by omega) (fun k hk => absurd hk (Nat.not_lt_zero k))
end
section
/-! ===== the hand ===== -/
section
variable {p : Program} {l : Launch} {e : Env} {R : Room} {s : State} {m : MethodId} {args : Array Value} {below : List Frame} {meth : Method} {c : Code} {D : va_G} {ad : Nat → Nat → Nat} {cy : Nat → ClassId} {A : Nat → Prop} {sa : Nat → Nat} {nL cells slots pc : Nat} {cc : ByteArray} {own : String} {ret : Option FieldType} {L : List (Option Value)} {st : List Value} {Q : State → Prop} {σ : St}
theorem z_mabs (C : Cx p l s m args meth c cc own nL ret D ad cy A sa) {index : Nat} {x : Int32} (hw : Cond.methodLink own index yJ9_abs_0f7a4 ∈ BIG) (hR : 1 ≤ R.frames ∧ (st.map fun v => v.category).sum + 13 ≤ R.locals) (hc : cells ≤ R.cells ∧ slots ≤ R.slots) (hdg : decode cc pc = .ok (.invokestatic index, 3)) (k : Z p l e R s m args below meth c D ad cy A nL cells slots Q σ L (pc + 3) (.int (if 0 ≤ x then x else 0 - x) :: st)) : Z p l e R s m args below meth c D ad cy A nL cells slots Q σ L pc (.int x :: st) := by
  intro H locs ls hP hS hl
  obtain ⟨hx, hb, hml, hown, hts, hr, hlk, hF⟩ := C
  exact va_mabs hx hb (hml.trans hl.1.symm) hown (hts _ hw) (hts (Cond.static yJ9_abs_0f7a4) wd417) (hts (Cond.initialized "java/lang/Math") wd43) (hts (Cond.code yJ9_abs_0f7a4 cJ9_abs_0f7a4 1 (some .int)) wd418) hR.1 hR.2 hc.1 hc.2 hdg (k H locs ls hP hS hl)
end
theorem abs_sh : ∀ b, b < 14 → ∀ h, h < 14 → (if 0 ≤ nI h - nI b then nI h - nI b else 0 - (nI h - nI b)) = nI (if b ≤ h then h - b else b - h) := by decide +kernel
theorem nI_ne0' {b : Nat} (hb : b < 2 ^ 31) : nI b = 0 ↔ b = 0 := by rw [show (0 : Int32) = nI 0 from rfl]; exact nI_eq hb (by decide)
theorem am_yes {F : Nat → Nat} {n : Nat} (h : F (n + 1) < mn F n) : am F (n + 1) = n + 1 ∧ mn F (n + 1) = F (n + 1) := ⟨by show (if _ then _ else _) = _; rw [if_pos h], by show (if _ then _ else _) = _; rw [if_pos h]⟩
theorem am_no {F : Nat → Nat} {n : Nat} (h : mn F n ≤ F (n + 1)) : am F (n + 1) = am F n ∧ mn F (n + 1) = mn F n := ⟨by show (if F (n + 1) < mn F n then n + 1 else am F n) = _; rw [if_neg (by omega)], by show (if F (n + 1) < mn F n then F (n + 1) else mn F n) = _; rw [if_neg (by omega)]⟩
set_option maxRecDepth 100000 in
set_option maxHeartbeats 4000000 in
theorem c_X0_shift {l : Launch} {D : va_G} {ad : Nat → Nat → Nat} {cy : Nat → ClassId} {A : Nat → Prop} {sa : Nat → Nat} {σ : St} {x y : Int32} {b h : Nat} (ex : x = nI b) (ey : y = nI h) (hb : b < 14) (hh : h < 14) : MI l D ad cy A sa yX0_shift cX0_shift 2 (some .int) 1 σ [.int x, .int y] (fun r σ' => r = nI (sh b h) ∧ σ = σ') := by
  refine MI.mk "FretSchool$Hand" (by decide) rfl (Nat.le_of_ble_eq_true rfl) rfl ?_
  intro p e s m args below meth c C
  change Z _ _ _ _ _ _ _ _ _ _ _ _ _ _ _ _ _ _ _ [some (.int x), some (.int y)] 0 []
  refine z_iload_n C dX0_shift_0 rfl ?_
  refine z_if_ne C 8 dX0_shift_1 (by decide) (fun c_1 => ?_) (fun c_1 => ?_)
  · refine z_iload_n C dX0_shift_8 rfl ?_
    refine z_iload_n C dX0_shift_9 rfl ?_
    refine z_isub C dX0_shift_10 ?_
    refine z_mabs C wd416 ⟨Nat.le_of_ble_eq_true rfl, Nat.le_of_ble_eq_true rfl⟩ ⟨Nat.le_of_ble_eq_true rfl, Nat.le_of_ble_eq_true rfl⟩ dX0_shift_11 ?_
    refine z_iret C dX0_shift_14 ?_
    refine ⟨?_, rfl⟩
    unfold sh
    rw [ex, nI_ne0' (by omega)] at c_1
    rw [ex, ey, if_neg c_1]
    exact abs_sh b hb h hh
  · refine z_iconst C (v := 0) dX0_shift_4 (by decide) ?_
    refine z_goto C 14 dX0_shift_5 (by decide) ?_
    refine z_iret C dX0_shift_14 ?_
    refine ⟨?_, rfl⟩
    unfold sh
    rw [ex, nI_ne0' (by omega)] at c_1
    rw [if_pos c_1]
    rfl
section
variable {p : Program} {l : Launch} {e : Env} {R : Room} {s : State} {m : MethodId} {args : Array Value} {below : List Frame} {meth : Method} {c : Code} {D : va_G} {ad : Nat → Nat → Nat} {cy : Nat → ClassId} {A : Nat → Prop} {sa : Nat → Nat} {cells slots : Nat} {σ : St}
set_option maxRecDepth 100000 in
set_option maxHeartbeats 4000000 in
theorem lp_X0_nearest (C : Cx p l s m args meth c cX0_nearest "FretSchool$Hand" 7 (some .int) D ad cy A sa) {i b : Nat} {x1 x2 : Int32} {v : Nat → Nat} (e1 : x1 = nI i) (hi : i < 16) (e2 : x2 = nI b) (hb : b < 14) (hv : ∀ g, 1 ≤ g → g ≤ 13 → σ 10 i g = nI (v g) ∧ v g ≤ FARn) (hR : Rok R 1 2) (hcs : cells ≤ R.cells ∧ slots ≤ R.slots) : ∀ (f j : Nat) (x3 x4 x5 : Int32) (o6 : Option Value), x5 = nI (j + 1) → x3 = nI (am (fun g => sh b g + v g) j) → x4 = nI (mn (fun g => sh b g + v g) j) → j ≤ 13 → 13 < j + f → Z p l e R s m args below meth c D ad cy A 7 cells slots (MQ below (va_Qi (fun r σ' => r = nI (am (fun g => sh b g + v g) 13) ∧ σ = σ') (Bw D ad cy) A) args s cells slots A) σ [some (.ref (ad 6 0)), some (.int x1), some (.int x2), some (.int x3), some (.int x4), some (.int x5), o6] 9 [] := by
  intro f
  induction f with
  | zero => intro j x3 x4 x5 o6 _ _ _ _ h; exact absurd h (by omega)
  | succ f ih =>
    intro j x3 x4 x5 o6 e5 e3 e4 hj hf
    refine z_iload C dX0_nearest_9 rfl ?_
    refine z_bipush C (v := 13) dX0_nearest_11 (by decide) ?_
    refine z_icmp_gt C 54 dX0_nearest_13 (by decide) (fun c_13 => ?_) (fun c_13 => ?_)
    · have hj13 : j = 13 := by rw [e5, show (13 : Int32) = nI 13 from rfl, nI_ltI (by omega) (by omega)] at c_13; omega
      refine z_iload_n C dX0_nearest_54 rfl ?_
      refine z_iret C dX0_nearest_55 ?_
      refine ⟨?_, rfl⟩
      rw [e3, hj13]
    · have hj13 : j < 13 := by rw [e5, show (13 : Int32) = nI 13 from rfl, nI_ltI (by omega) (by omega)] at c_13; omega
      refine z_iload_n C dX0_nearest_16 rfl ?_
      refine z_iload C dX0_nearest_17 rfl ?_
      refine z_csi C (As := [_, _]) (c_X0_shift e2 e5 (by omega) (by omega)) okX0_shift wd413 hR hcs rfl (Nat.le_of_ble_eq_true rfl) dX0_nearest_19 ?_
      rintro _ _ ⟨rfl, rfl⟩
      refine z_aload_n C dX0_nearest_22 rfl ?_
      refine g_6_1 C wd139 dX0_nearest_23 ?_
      refine z_iload_n C dX0_nearest_26 rfl ?_
      refine a_8 C (by assumption) (by first | assumption | omega) dX0_nearest_27 ?_
      refine z_iload C dX0_nearest_28 rfl ?_
      refine a_10 (by first | assumption | omega) C (by assumption) (by first | assumption | omega) dX0_nearest_30 ?_
      refine z_iadd C dX0_nearest_31 ?_
      refine z_istore C dX0_nearest_32 (by decide) ?_
      dsimp only [List.set]
      refine z_iload C dX0_nearest_34 rfl ?_
      refine z_iload C dX0_nearest_36 rfl ?_
      refine z_icmp_ge C 48 dX0_nearest_38 (by decide) (fun c_38 => ?_) (fun c_38 => ?_)
      · have hv1 := hv (j + 1) (by omega) (by omega)
        have hs := sh_le (b := b) (h := j + 1) (by omega) (by omega)
        have hm := mn_le (fun g => sh b g + v g) j
        have hF : FARn = 1000000 := rfl
        have e6 : nI (sh b (j + 1)) + σ 10 i (j + 1) = nI ((fun g => sh b g + v g) (j + 1)) := by rw [hv1.1, nI_add]
        have hlt : mn (fun g => sh b g + v g) j ≤ (fun g => sh b g + v g) (j + 1) := by rw [e6, e4, nI_leI (by omega) (by show sh b (j + 1) + v (j + 1) < _; omega)] at c_38; exact c_38
        refine z_iinc C (v := 1) dX0_nearest_48 rfl (by decide) (by decide) ?_
        dsimp only [List.set]
        refine z_goto C 9 dX0_nearest_51 (by decide) ?_
        exact ih (j + 1) _ _ _ _ (by rw [e5]; exact nI_1 (j + 1)) (by rw [e3, (am_no hlt).1]) (by rw [e4, (am_no hlt).2]) (by omega) (by omega)
      · have hv1 := hv (j + 1) (by omega) (by omega)
        have hs := sh_le (b := b) (h := j + 1) (by omega) (by omega)
        have hm := mn_le (fun g => sh b g + v g) j
        have hF : FARn = 1000000 := rfl
        have e6 : nI (sh b (j + 1)) + σ 10 i (j + 1) = nI ((fun g => sh b g + v g) (j + 1)) := by rw [hv1.1, nI_add]
        have hlt : (fun g => sh b g + v g) (j + 1) < mn (fun g => sh b g + v g) j := by rw [e6, e4, nI_leI (by omega) (by show sh b (j + 1) + v (j + 1) < _; omega)] at c_38; omega
        refine z_iload C dX0_nearest_41 rfl ?_
        refine z_istore_n C dX0_nearest_43 (by decide) ?_
        dsimp only [List.set]
        refine z_iload C dX0_nearest_44 rfl ?_
        refine z_istore C dX0_nearest_46 (by decide) ?_
        dsimp only [List.set]
        refine z_iinc C (v := 1) dX0_nearest_48 rfl (by decide) (by decide) ?_
        dsimp only [List.set]
        refine z_goto C 9 dX0_nearest_51 (by decide) ?_
        exact ih (j + 1) _ _ _ _ (by rw [e5]; exact nI_1 (j + 1)) (by rw [e5, (am_yes hlt).1]) (by rw [e6, (am_yes hlt).2]) (by omega) (by omega)
end
set_option maxRecDepth 100000 in
set_option maxHeartbeats 4000000 in
theorem c_X0_nearest {l : Launch} {D : va_G} {ad : Nat → Nat → Nat} {cy : Nat → ClassId} {A : Nat → Prop} {sa : Nat → Nat} {σ : St} {i b : Nat} {x1 x2 : Int32} {v : Nat → Nat} (e1 : x1 = nI i) (hi : i < 16) (e2 : x2 = nI b) (hb : b < 14) (hv : ∀ g, 1 ≤ g → g ≤ 13 → σ 10 i g = nI (v g) ∧ v g ≤ FARn) : MI l D ad cy A sa yX0_nearest cX0_nearest 7 (some .int) 2 σ [.ref (ad 6 0), .int x1, .int x2] (fun r σ' => r = nI (am (fun g => sh b g + v g) 13) ∧ σ = σ') := by
  refine MI.mk "FretSchool$Hand" (by decide) rfl (Nat.le_of_ble_eq_true rfl) rfl ?_
  intro p e s m args below meth c C
  change Z _ _ _ _ _ _ _ _ _ _ _ _ _ _ _ _ _ _ _ [some (.ref (ad 6 0)), some (.int x1), some (.int x2), none, none, none, none] 0 []
  refine z_iconst C (v := 0) dX0_nearest_0 (by decide) ?_
  refine z_istore_n C dX0_nearest_1 (by decide) ?_
  dsimp only [List.set]
  refine z_ldc C (v := 1000000) wd412 dX0_nearest_2 ?_
  refine z_istore C dX0_nearest_4 (by decide) ?_
  dsimp only [List.set]
  refine z_iconst C (v := 1) dX0_nearest_6 (by decide) ?_
  refine z_istore C dX0_nearest_7 (by decide) ?_
  dsimp only [List.set]
  exact lp_X0_nearest C e1 hi e2 hb hv (rok (by decide) (by decide)) ⟨Nat.zero_le _, Nat.zero_le _⟩ 14 0 _ _ _ _ rfl rfl rfl (by omega) (by omega)
theorem VR_last {P : Nat → Nat → Bool} {i h : Nat} (hp : P i h = true) : VR P 0 i h = 0 := by
  show (if P i h = true then 0 else FARn) = 0
  rw [if_pos hp]
theorem VR_more {P : Nat → Nat → Bool} {k i h : Nat} (hp : P i h = true) : VR P (k + 1) i h = mn (fun g => sh h g + VR P k (i + 1) g) 13 := by
  show (if P i h = true then mn (fun g => sh h g + VR P k (i + 1) g) 13 else FARn) = _
  rw [if_pos hp]
theorem row_up {σ : St} {P : Nat → Nat → Bool} {k i j : Nat} {y : Int32} (hrow : ∀ g, 1 ≤ g → g ≤ j → σ 10 i g = nI (VR P k i g)) (hy : y = nI (VR P k i (j + 1))) : ∀ g, 1 ≤ g → g ≤ j + 1 → up σ 10 i (j + 1) y 10 i g = nI (VR P k i g) := by
  intro g h1 h2
  rw [up_app]
  by_cases q : g = j + 1
  · rw [if_pos ⟨rfl, rfl, q⟩, hy, q]
  · rw [if_neg (fun h => q h.2.2)]
    exact hrow g h1 (by omega)
theorem frame_up {σ σ0 : St} {i j : Nat} {y : Int32} (hfr : ∀ a b c0, ¬ (a = 10 ∧ b = i) → σ a b c0 = σ0 a b c0) : ∀ a b c0, ¬ (a = 10 ∧ b = i) → up σ 10 i j y a b c0 = σ0 a b c0 := by
  intro a b c0 h
  rw [up_app, if_neg (fun q => h ⟨q.1, q.2.1⟩)]
  exact hfr a b c0 h
theorem nI_FAR : (1000000 : Int32) = nI FARn := rfl
section
variable {p : Program} {l : Launch} {e : Env} {R : Room} {s : State} {m : MethodId} {args : Array Value} {below : List Frame} {meth : Method} {c : Code} {D : va_G} {ad : Nat → Nat → Nat} {cy : Nat → ClassId} {A : Nat → Prop} {sa : Nat → Nat} {cells slots : Nat} {σ : St}
set_option maxRecDepth 100000 in
set_option maxHeartbeats 4000000 in
theorem lp_X0_measureRest (C : Cx p l s m args meth c cX0_measureRest "FretSchool$Hand" 5 (none : Option Jvm.ClassFile.FieldType) D ad cy A sa) {i k : Nat} {x1 x2 : Int32} {P : Nat → Nat → Bool} (e1 : x1 = nI i) (hi : i < 16) (hR : ∀ h, 1 ≤ h → h ≤ 13 → (σ 7 0 i &&& (1 <<< (nI h &&& 31)) = 0 ↔ ¬ P i h = true)) (hl : (k = 0 ∧ x2 = 1) ∨ (x2 = 0 ∧ i + 1 < 16 ∧ ∃ k', k = k' + 1 ∧ ∀ g, 1 ≤ g → g ≤ 13 → σ 10 (i + 1) g = nI (VR P k' (i + 1) g))) : ∀ (f j : Nat) (σ' : St) (x3 : Int32) (o4 : Option Value), x3 = nI (j + 1) → j ≤ 13 → 13 < j + f → (∀ g, 1 ≤ g → g ≤ j → σ' 10 i g = nI (VR P k i g)) → (∀ a b c0, ¬ (a = 10 ∧ b = i) → σ' a b c0 = σ a b c0) → Z p l e (rmD 3 0) s m args below meth c D ad cy A 5 0 0 (MQ below (va_Qv (fun σ' => (∀ g, 1 ≤ g → g ≤ 13 → σ' 10 i g = nI (VR P k i g)) ∧ ∀ a b c0, ¬ (a = 10 ∧ b = i) → σ' a b c0 = σ a b c0) (Bw D ad cy) A) args s 0 0 A) σ' [some (.ref (ad 6 0)), some (.int x1), some (.int x2), some (.int x3), o4] 2 [] := by
  intro f
  induction f with
  | zero => intro j σ' x3 o4 _ _ h; exact absurd h (by omega)
  | succ f ih =>
    intro j σ' x3 o4 e3 hj hf hrow hfr
    refine z_iload_n C dX0_measureRest_2 rfl ?_
    refine z_bipush C (v := 13) dX0_measureRest_3 (by decide) ?_
    refine z_icmp_gt C 100 dX0_measureRest_5 (by decide) (fun c_5 => ?_) (fun c_5 => ?_)
    · have hj13 : j = 13 := by rw [e3, show (13 : Int32) = nI 13 from rfl, nI_ltI (by omega) (by omega)] at c_5; omega
      refine z_vret C dX0_measureRest_100 ?_
      exact ⟨fun g h1 h2 => hrow g h1 (by omega), hfr⟩
    · have hj13 : j < 13 := by rw [e3, show (13 : Int32) = nI 13 from rfl, nI_ltI (by omega) (by omega)] at c_5; omega
      have hRj : (σ' 7 0 i &&& (1 <<< (x3 &&& 31)) = 0 ↔ ¬ P i (j + 1) = true) := by rw [hfr 7 0 i (by omega), e3]; exact hR (j + 1) (by omega) (by omega)
      refine z_iconst C (v := 0) dX0_measureRest_8 (by decide) ?_
      refine z_istore C dX0_measureRest_9 (by decide) ?_
      dsimp only [List.set]
      refine z_iload_n C dX0_measureRest_11 rfl ?_
      refine z_if_ne C 25 dX0_measureRest_12 (by decide) (fun c_12 => ?_) (fun c_12 => ?_)
      · have hk : k = 0 := hl.elim (fun h => h.1) (fun h => absurd h.1 c_12)
        refine z_aload_n C dX0_measureRest_25 rfl ?_
        refine g_6_0 C wd138 dX0_measureRest_26 ?_
        refine z_iload_n C dX0_measureRest_29 rfl ?_
        refine a_7 C (by assumption) (by first | assumption | omega) dX0_measureRest_30 ?_
        refine z_iload_n C dX0_measureRest_31 rfl ?_
        refine z_csi C (As := [_, _]) (c_X0_canReach) okX0_canReach wd419 (rok (by decide) (by decide)) ⟨Nat.le_of_ble_eq_true rfl, Nat.le_of_ble_eq_true rfl⟩ rfl (Nat.le_of_ble_eq_true rfl) dX0_measureRest_32 ?_
        rintro r32 _ ⟨e32, rfl⟩
        refine z_if_eq C 47 dX0_measureRest_35 (by decide) (fun c_35 => ?_) (fun c_35 => ?_)
        · have hp : ¬ P i (j + 1) = true := by
            apply hRj.mp
            apply Classical.byContradiction
            intro q
            rw [e32, if_neg q] at c_35
            exact absurd c_35 (by decide)
          refine z_aload_n C dX0_measureRest_47 rfl ?_
          refine g_6_1 C wd139 dX0_measureRest_48 ?_
          refine z_iload_n C dX0_measureRest_51 rfl ?_
          refine a_8 C (by assumption) (by first | assumption | omega) dX0_measureRest_52 ?_
          refine z_iload_n C dX0_measureRest_53 rfl ?_
          refine z_ldc C (v := 1000000) wd412 dX0_measureRest_54 ?_
          refine s_10 hi C e3 (by omega) dX0_measureRest_56 ?_
          refine z_goto C 94 dX0_measureRest_57 (by decide) ?_
          refine z_iinc C (v := 1) dX0_measureRest_94 rfl (by decide) (by decide) ?_
          dsimp only [List.set]
          refine z_goto C 2 dX0_measureRest_97 (by decide) ?_
          exact ih (j + 1) _ _ _ (by rw [e3]; exact nI_1 (j + 1)) (by omega) (by omega) (row_up hrow (by rw [VR_no hp]; rfl)) (frame_up hfr)
        · have hp : P i (j + 1) = true := by
            apply Classical.byContradiction
            intro q
            rw [e32, if_pos (hRj.mpr q)] at c_35
            exact c_35 rfl
          refine z_iload_n C dX0_measureRest_38 rfl ?_
          refine z_if_ne C 60 dX0_measureRest_39 (by decide) (fun c_39 => ?_) (fun c_39 => ?_)
          · refine z_aload_n C dX0_measureRest_60 rfl ?_
            refine g_6_1 C wd139 dX0_measureRest_61 ?_
            refine z_iload_n C dX0_measureRest_64 rfl ?_
            refine a_8 C e1 hi dX0_measureRest_65 ?_
            refine z_iload_n C dX0_measureRest_66 rfl ?_
            refine z_iload_n C dX0_measureRest_67 rfl ?_
            refine z_if_eq C 75 dX0_measureRest_68 (by decide) (fun c_68 => ?_) (fun c_68 => ?_)
            · exact absurd c_68 c_12
            · refine z_iconst C (v := 0) dX0_measureRest_71 (by decide) ?_
              refine z_goto C 93 dX0_measureRest_72 (by decide) ?_
              refine s_10 hi C e3 (by omega) dX0_measureRest_93 ?_
              refine z_iinc C (v := 1) dX0_measureRest_94 rfl (by decide) (by decide) ?_
              dsimp only [List.set]
              refine z_goto C 2 dX0_measureRest_97 (by decide) ?_
              exact ih (j + 1) _ _ _ (by rw [e3]; exact nI_1 (j + 1)) (by omega) (by omega) (row_up hrow (by rw [hk, VR_last hp]; rfl)) (frame_up hfr)
          · exact absurd c_39 c_12
      · obtain ⟨hi1, k', hk, hnx⟩ : i + 1 < 16 ∧ ∃ k', k = k' + 1 ∧ ∀ g, 1 ≤ g → g ≤ 13 → σ 10 (i + 1) g = nI (VR P k' (i + 1) g) := hl.elim (fun h => absurd (h.2.symm.trans c_12) (by decide)) (fun h => h.2)
        have hnx' : ∀ g, 1 ≤ g → g ≤ 13 → σ' 10 (i + 1) g = nI (VR P k' (i + 1) g) := fun g h1 h2 => by rw [hfr 10 (i + 1) g (by omega)]; exact hnx g h1 h2
        refine z_aload_n C dX0_measureRest_15 rfl ?_
        refine z_iload_n C dX0_measureRest_16 rfl ?_
        refine z_iconst C (v := 1) dX0_measureRest_17 (by decide) ?_
        refine z_iadd C dX0_measureRest_18 ?_
        refine z_iload_n C dX0_measureRest_19 rfl ?_
        refine z_cvi C (As := [_, _]) (c_X0_nearest (i := i + 1) (b := j + 1) (v := fun g => VR P k' (i + 1) g) (by rw [e1]; exact nI_1 i) hi1 e3 (by omega) (fun g h1 h2 => ⟨hnx' g h1 h2, VR_le _ _ _ _⟩)) okX0_nearest wd408 rc_6 (rok (by decide) (by decide)) ⟨Nat.le_of_ble_eq_true rfl, Nat.le_of_ble_eq_true rfl⟩ rfl (Nat.le_of_ble_eq_true rfl) dX0_measureRest_20 ?_
        rintro r20 _ ⟨e20, rfl⟩
        refine z_istore C dX0_measureRest_23 (by decide) ?_
        dsimp only [List.set]
        refine z_aload_n C dX0_measureRest_25 rfl ?_
        refine g_6_0 C wd138 dX0_measureRest_26 ?_
        refine z_iload_n C dX0_measureRest_29 rfl ?_
        refine a_7 C (by assumption) (by first | assumption | omega) dX0_measureRest_30 ?_
        refine z_iload_n C dX0_measureRest_31 rfl ?_
        refine z_csi C (As := [_, _]) (c_X0_canReach) okX0_canReach wd419 (rok (by decide) (by decide)) ⟨Nat.le_of_ble_eq_true rfl, Nat.le_of_ble_eq_true rfl⟩ rfl (Nat.le_of_ble_eq_true rfl) dX0_measureRest_32 ?_
        rintro r32 _ ⟨e32, rfl⟩
        refine z_if_eq C 47 dX0_measureRest_35 (by decide) (fun c_35 => ?_) (fun c_35 => ?_)
        · have hp : ¬ P i (j + 1) = true := by
            apply hRj.mp
            apply Classical.byContradiction
            intro q
            rw [e32, if_neg q] at c_35
            exact absurd c_35 (by decide)
          refine z_aload_n C dX0_measureRest_47 rfl ?_
          refine g_6_1 C wd139 dX0_measureRest_48 ?_
          refine z_iload_n C dX0_measureRest_51 rfl ?_
          refine a_8 C (by assumption) (by first | assumption | omega) dX0_measureRest_52 ?_
          refine z_iload_n C dX0_measureRest_53 rfl ?_
          refine z_ldc C (v := 1000000) wd412 dX0_measureRest_54 ?_
          refine s_10 hi C e3 (by omega) dX0_measureRest_56 ?_
          refine z_goto C 94 dX0_measureRest_57 (by decide) ?_
          refine z_iinc C (v := 1) dX0_measureRest_94 rfl (by decide) (by decide) ?_
          dsimp only [List.set]
          refine z_goto C 2 dX0_measureRest_97 (by decide) ?_
          exact ih (j + 1) _ _ _ (by rw [e3]; exact nI_1 (j + 1)) (by omega) (by omega) (row_up hrow (by rw [VR_no hp]; rfl)) (frame_up hfr)
        · have hp : P i (j + 1) = true := by
            apply Classical.byContradiction
            intro q
            rw [e32, if_pos (hRj.mpr q)] at c_35
            exact c_35 rfl
          refine z_iload_n C dX0_measureRest_38 rfl ?_
          refine z_if_ne C 60 dX0_measureRest_39 (by decide) (fun c_39 => ?_) (fun c_39 => ?_)
          · exact absurd c_12 c_39
          · refine z_iload C dX0_measureRest_42 rfl ?_
            refine z_if_ne C 60 dX0_measureRest_44 (by decide) (fun c_44 => ?_) (fun c_44 => ?_)
            · obtain ⟨ha1, ha2, ha3, ha4⟩ : 1 ≤ am (fun g => sh (j + 1) g + VR P k' (i + 1) g) 13 ∧ am (fun g => sh (j + 1) g + VR P k' (i + 1) g) 13 ≤ 13 ∧ (fun g => sh (j + 1) g + VR P k' (i + 1) g) (am (fun g => sh (j + 1) g + VR P k' (i + 1) g) 13) = mn (fun g => sh (j + 1) g + VR P k' (i + 1) g) 13 ∧ mn (fun g => sh (j + 1) g + VR P k' (i + 1) g) 13 < FARn := by
                rcases am_spec (fun g => sh (j + 1) g + VR P k' (i + 1) g) 13 with ⟨h1, _, _⟩ | ⟨h1, h2, h3, h4, _, _⟩
                · rw [e20, h1] at c_44; exact absurd rfl c_44
                · exact ⟨h1, h2, h3, h4⟩
              refine z_aload_n C dX0_measureRest_60 rfl ?_
              refine g_6_1 C wd139 dX0_measureRest_61 ?_
              refine z_iload_n C dX0_measureRest_64 rfl ?_
              refine a_8 C e1 hi dX0_measureRest_65 ?_
              refine z_iload_n C dX0_measureRest_66 rfl ?_
              refine z_iload_n C dX0_measureRest_67 rfl ?_
              refine z_if_eq C 75 dX0_measureRest_68 (by decide) (fun c_68 => ?_) (fun c_68 => ?_)
              · refine z_iload_n C dX0_measureRest_75 rfl ?_
                refine z_iload C dX0_measureRest_76 rfl ?_
                refine z_csi C (As := [_, _]) (c_X0_shift e3 e20 (by omega) (by omega)) okX0_shift wd413 (rok (by decide) (by decide)) ⟨Nat.le_of_ble_eq_true rfl, Nat.le_of_ble_eq_true rfl⟩ rfl (Nat.le_of_ble_eq_true rfl) dX0_measureRest_78 ?_
                rintro _ _ ⟨rfl, rfl⟩
                refine z_aload_n C dX0_measureRest_81 rfl ?_
                refine g_6_1 C wd139 dX0_measureRest_82 ?_
                refine z_iload_n C dX0_measureRest_85 rfl ?_
                refine z_iconst C (v := 1) dX0_measureRest_86 (by decide) ?_
                refine z_iadd C dX0_measureRest_87 ?_
                refine a_8 C (j := i + 1) (by rw [e1]; exact nI_1 i) hi1 dX0_measureRest_88 ?_
                refine z_iload C dX0_measureRest_89 rfl ?_
                refine a_10 hi1 C e20 (by omega) dX0_measureRest_91 ?_
                refine z_iadd C dX0_measureRest_92 ?_
                refine s_10 hi C e3 (by omega) dX0_measureRest_93 ?_
                refine z_iinc C (v := 1) dX0_measureRest_94 rfl (by decide) (by decide) ?_
                dsimp only [List.set]
                refine z_goto C 2 dX0_measureRest_97 (by decide) ?_
                exact ih (j + 1) _ _ _ (by rw [e3]; exact nI_1 (j + 1)) (by omega) (by omega) (row_up hrow (by rw [hk, VR_more hp, ← ha3, hnx' _ ha1 ha2, nI_add])) (frame_up hfr)
              · exact absurd c_12 c_68
            · have hz : am (fun g => sh (j + 1) g + VR P k' (i + 1) g) 13 = 0 ∧ mn (fun g => sh (j + 1) g + VR P k' (i + 1) g) 13 = FARn := by
                rcases am_spec (fun g => sh (j + 1) g + VR P k' (i + 1) g) 13 with ⟨h1, h2, _⟩ | ⟨h1, h2, h3, h4, _, _⟩
                · exact ⟨h1, h2⟩
                · rw [e20, nI_ne0' (by omega)] at c_44; omega
              refine z_aload_n C dX0_measureRest_47 rfl ?_
              refine g_6_1 C wd139 dX0_measureRest_48 ?_
              refine z_iload_n C dX0_measureRest_51 rfl ?_
              refine a_8 C (by assumption) (by first | assumption | omega) dX0_measureRest_52 ?_
              refine z_iload_n C dX0_measureRest_53 rfl ?_
              refine z_ldc C (v := 1000000) wd412 dX0_measureRest_54 ?_
              refine s_10 hi C e3 (by omega) dX0_measureRest_56 ?_
              refine z_goto C 94 dX0_measureRest_57 (by decide) ?_
              refine z_iinc C (v := 1) dX0_measureRest_94 rfl (by decide) (by decide) ?_
              dsimp only [List.set]
              refine z_goto C 2 dX0_measureRest_97 (by decide) ?_
              exact ih (j + 1) _ _ _ (by rw [e3]; exact nI_1 (j + 1)) (by omega) (by omega) (row_up hrow (by rw [hk, VR_more hp, hz.2]; rfl)) (frame_up hfr)
end
set_option maxRecDepth 100000 in
set_option maxHeartbeats 4000000 in
theorem c_X0_measureRest {l : Launch} {D : va_G} {ad : Nat → Nat → Nat} {cy : Nat → ClassId} {A : Nat → Prop} {sa : Nat → Nat} {σ : St} {i k : Nat} {x1 x2 : Int32} {P : Nat → Nat → Bool} (e1 : x1 = nI i) (hi : i < 16) (hR : ∀ h, 1 ≤ h → h ≤ 13 → (σ 7 0 i &&& (1 <<< (nI h &&& 31)) = 0 ↔ ¬ P i h = true)) (hl : (k = 0 ∧ x2 = 1) ∨ (x2 = 0 ∧ i + 1 < 16 ∧ ∃ k', k = k' + 1 ∧ ∀ g, 1 ≤ g → g ≤ 13 → σ 10 (i + 1) g = nI (VR P k' (i + 1) g))) : MV l D ad cy A sa yX0_measureRest cX0_measureRest 5 (none : Option Jvm.ClassFile.FieldType) 3 σ [.ref (ad 6 0), .int x1, .int x2] (fun σ' => (∀ g, 1 ≤ g → g ≤ 13 → σ' 10 i g = nI (VR P k i g)) ∧ ∀ a b c0, ¬ (a = 10 ∧ b = i) → σ' a b c0 = σ a b c0) := by
  refine MV.mk "FretSchool$Hand" (by decide) rfl (Nat.le_of_ble_eq_true rfl) rfl ?_
  intro p e s m args below meth c C
  change Z _ _ _ _ _ _ _ _ _ _ _ _ _ _ _ _ _ _ _ [some (.ref (ad 6 0)), some (.int x1), some (.int x2), none, none] 0 []
  refine z_iconst C (v := 1) dX0_measureRest_0 (by decide) ?_
  refine z_istore_n C dX0_measureRest_1 (by decide) ?_
  dsimp only [List.set]
  exact lp_X0_measureRest C e1 hi hR hl 14 0 _ _ _ rfl (by omega) (by omega) (fun g h1 h2 => absurd h1 (by omega)) (fun _ _ _ _ => rfl)
end
section
/-! ===== the reach of a hand ===== -/
theorem bit_tp : ∀ h, h < 32 → ((1 : Int32) <<< (nI h &&& 31)).toBitVec = BitVec.twoPow 32 h := by decide +kernel
theorem bit_zero {x : Int32} {h : Nat} (hh : h < 32) : x &&& (1 <<< (nI h &&& 31)) = 0 ↔ x.toBitVec.getLsbD h = false := by
  rw [← Int32.toBitVec_inj, Int32.toBitVec_and, bit_tp h hh, BitVec.and_twoPow]
  constructor
  · intro q
    cases hx : x.toBitVec.getLsbD h with
    | false => rfl
    | true =>
      rw [hx, if_pos rfl] at q
      have q2 := congrArg (fun b : BitVec 32 => b.getLsbD h) q
      simp [hh] at q2
  · intro q
    rw [q]
    rfl
theorem bit_or {x : Int32} {g h : Nat} (hg : g < 32) (hh : h < 32) : (x ||| (1 <<< (nI g &&& 31))) &&& (1 <<< (nI h &&& 31)) = 0 ↔ (x &&& (1 <<< (nI h &&& 31)) = 0 ∧ g ≠ h) := by
  rw [bit_zero hh, bit_zero hh, Int32.toBitVec_or, bit_tp g hg, BitVec.getLsbD_or, BitVec.getLsbD_twoPow]
  by_cases q : g = h
  · subst q; simp [hg]
  · simp [q]
theorem bit_0 {h : Nat} (hh : h < 32) : (0 : Int32) &&& (1 <<< (nI h &&& 31)) = 0 := by
  rw [bit_zero hh]
  simp
/-- whether note i can be played in the position h -/
noncomputable def Pf (σ : St) (p0 q0 f0 : Nat) (i h : Nat) : Bool := by classical exact decide (1 ≤ h ∧ h + 3 ≤ f0 ∧ lowS (σ 12 p0 i) (σ 14 q0) (nI h) ≠ -1)
theorem Pf_iff {σ : St} {p0 q0 f0 i h : Nat} : Pf σ p0 q0 f0 i h = true ↔ (1 ≤ h ∧ h + 3 ≤ f0 ∧ lowS (σ 12 p0 i) (σ 14 q0) (nI h) ≠ -1) := by
  unfold Pf
  simp
theorem Pf_cong {σ σ' : St} {p0 q0 f0 : Nat} (h1 : ∀ j, σ' 12 p0 j = σ 12 p0 j) (h2 : ∀ j, σ' 14 q0 j = σ 14 q0 j) : Pf σ' p0 q0 f0 = Pf σ p0 q0 f0 := by
  funext i h
  have e : σ' 14 q0 = σ 14 q0 := funext h2
  unfold Pf
  rw [h1, e]
section
variable {p : Program} {l : Launch} {e : Env} {R : Room} {s : State} {m : MethodId} {args : Array Value} {below : List Frame} {meth : Method} {c : Code} {D : va_G} {ad : Nat → Nat → Nat} {cy : Nat → ClassId} {A : Nat → Prop} {sa : Nat → Nat} {cells slots : Nat} {σ : St}
set_option maxRecDepth 100000 in
set_option maxHeartbeats 4000000 in
theorem lp_X0_feelReach_in (C : Cx p l s m args meth c cX0_feelReach "FretSchool$Hand" 6 (none : Option Jvm.ClassFile.FieldType) D ad cy A sa) {p0 q0 n f0 : Nat} (hp0 : p0 < 8) (hq0 : q0 < 8) (hn : σ 11 p0 1 = nI n) (hn16 : n ≤ 16) (hf0 : σ 13 q0 2 = nI f0) (hf4 : 4 ≤ f0) (hf16 : f0 ≤ 16) {x4 : Int32} {j : Nat} (e4 : x4 = nI j) (hj : j < n) {post : St → Prop} (kx : ∀ (σ' : St) (o5 : Option Value), (∀ a b c0, a ≠ 7 → σ' a b c0 = σ a b c0) → (∀ i, i < j + 1 → ∀ h, 1 ≤ h → h ≤ 13 → (σ' 7 0 i &&& (1 <<< (nI h &&& 31)) = 0 ↔ ¬ Pf σ p0 q0 f0 i h = true)) → Z p l e (rmD 1 0) s m args below meth c D ad cy A 6 0 0 (MQ below (va_Qv (post) (Bw D ad cy) A) args s 0 0 A) σ' [some (.ref (ad 6 0)), some (.ref (ad 11 p0)), some (.ref (ad 13 q0)), some (.int (nI (f0 - 3))), some (.int x4), o5] 71 []) : ∀ (f g : Nat) (σ' : St) (x5 : Int32), x5 = nI (g + 1) → g + 3 ≤ f0 → f0 < g + 3 + f → (∀ a b c0, a ≠ 7 → σ' a b c0 = σ a b c0) → (∀ i, i < j → ∀ h, 1 ≤ h → h ≤ 13 → (σ' 7 0 i &&& (1 <<< (nI h &&& 31)) = 0 ↔ ¬ Pf σ p0 q0 f0 i h = true)) → (∀ h, 1 ≤ h → h ≤ 13 → (σ' 7 0 j &&& (1 <<< (nI h &&& 31)) = 0 ↔ ¬ (h ≤ g ∧ Pf σ p0 q0 f0 j h = true))) → Z p l e (rmD 1 0) s m args below meth c D ad cy A 6 0 0 (MQ below (va_Qv (post) (Bw D ad cy) A) args s 0 0 A) σ' [some (.ref (ad 6 0)), some (.ref (ad 11 p0)), some (.ref (ad 13 q0)), some (.int (nI (f0 - 3))), some (.int x4), some (.int x5)] 28 [] := by
  intro f
  induction f with
  | zero => intro g σ' x5 _ _ h; exact absurd h (by omega)
  | succ f ih =>
    intro g σ' x5 e5 hg hf hfr hbits hbj
    refine z_iload C dX0_feelReach_28 rfl ?_
    refine z_iload_n C dX0_feelReach_30 rfl ?_
    refine z_icmp_gt C 71 dX0_feelReach_31 (by decide) (fun c_31 => ?_) (fun c_31 => ?_)
    · have hgf : f0 - 3 < g + 1 := by rw [e5, nI_ltI (by omega) (by omega)] at c_31; exact c_31
      exact kx _ _ hfr (fun i hi h h1 h2 => (Nat.lt_or_ge i j).elim (fun q => hbits i q h h1 h2) (fun q => by
                          rw [show i = j by omega, hbj h h1 h2]
                          constructor
                          · intro a b
                            exact a ⟨by have := (Pf_iff.mp b).2.1; omega, b⟩
                          · intro a b
                            exact a b.2))
    · have hgf : ¬ f0 - 3 < g + 1 := by rw [e5, nI_ltI (by omega) (by omega)] at c_31; exact c_31
      refine z_aload_n C dX0_feelReach_34 rfl ?_
      refine z_aload_n C dX0_feelReach_35 rfl ?_
      refine g_11_0 hp0 C wd60 dX0_feelReach_36 ?_
      refine z_iload C dX0_feelReach_39 rfl ?_
      refine a_12 hp0 C e4 (by omega) dX0_feelReach_41 ?_
      refine z_iload C dX0_feelReach_42 rfl ?_
      refine z_cvi C (As := [_, _]) (c_X1_lowestString hq0) okX1_lowestString wd400 (rc_13 hq0) (rok (by decide) (by decide)) ⟨Nat.le_of_ble_eq_true rfl, Nat.le_of_ble_eq_true rfl⟩ rfl (Nat.le_of_ble_eq_true rfl) dX0_feelReach_44 ?_
      rintro r44 _ ⟨rfl, e44⟩
      refine z_iconst C (v := (-1)) dX0_feelReach_47 (by decide) ?_
      refine z_icmp_eq C 65 dX0_feelReach_48 (by decide) (fun c_48 => ?_) (fun c_48 => ?_)
      · have hno : ¬ Pf σ p0 q0 f0 j (g + 1) = true := by
          intro q
          have h3 := (Pf_iff.mp q).2.2
          rw [← hfr 12 p0 j (by omega), ← (show σ' 14 q0 = σ 14 q0 from funext fun a => hfr 14 q0 a (by omega)), ← e5] at h3
          exact h3 (e44.symm.trans c_48)
        refine z_iinc C (v := 1) dX0_feelReach_65 rfl (by decide) (by decide) ?_
        dsimp only [List.set]
        refine z_goto C 28 dX0_feelReach_68 (by decide) ?_
        refine ih (g + 1) _ _ (by rw [e5]; exact nI_1 (g + 1)) (by omega) (by omega) hfr hbits (fun h h1 h2 => ?_)
        rw [hbj h h1 h2]
        constructor
        · intro a d
          rcases Nat.lt_or_ge g h with q | q
          · exact hno (by rw [← show h = g + 1 by omega]; exact d.2)
          · exact a ⟨q, d.2⟩
        · intro a d
          exact a ⟨by omega, d.2⟩
      · have hyes : Pf σ p0 q0 f0 j (g + 1) = true := by
          refine Pf_iff.mpr ⟨by omega, by omega, ?_⟩
          rw [← hfr 12 p0 j (by omega), ← (show σ' 14 q0 = σ 14 q0 from funext fun a => hfr 14 q0 a (by omega)), ← e5]
          intro q
          exact c_48 (e44.trans q)
        refine z_aload_n C dX0_feelReach_51 rfl ?_
        refine g_6_0 C wd138 dX0_feelReach_52 ?_
        refine z_iload C dX0_feelReach_55 rfl ?_
        refine z_dup2 C dX0_feelReach_57 rfl rfl ?_
        refine a_7 C e4 (by omega) dX0_feelReach_58 ?_
        refine z_iconst C (v := 1) dX0_feelReach_59 (by decide) ?_
        refine z_iload C dX0_feelReach_60 rfl ?_
        refine z_ishl C dX0_feelReach_62 ?_
        refine z_ior C dX0_feelReach_63 ?_
        refine s_7 C e4 (by omega) dX0_feelReach_64 ?_
        refine z_iinc C (v := 1) dX0_feelReach_65 rfl (by decide) (by decide) ?_
        dsimp only [List.set]
        refine z_goto C 28 dX0_feelReach_68 (by decide) ?_
        refine ih (g + 1) _ _ (by rw [e5]; exact nI_1 (g + 1)) (by omega) (by omega) (fun a b c0 ha => by rw [up_app, if_neg (fun q => ha q.1)]; exact hfr a b c0 ha) (fun i hi h h1 h2 => by rw [up_app, if_neg (by omega)]; exact hbits i hi h h1 h2) (fun h h1 h2 => ?_)
        rw [up_app, if_pos ⟨rfl, rfl, rfl⟩, e5, bit_or (by omega) (by omega), hbj h h1 h2]
        constructor
        · rintro ⟨a, b⟩ ⟨d1, d2⟩
          exact a ⟨by omega, d2⟩
        · intro a
          refine ⟨fun d => a ⟨by omega, d.2⟩, fun d => a ⟨by omega, ?_⟩⟩
          rw [← d]
          exact hyes
end
section
variable {p : Program} {l : Launch} {e : Env} {R : Room} {s : State} {m : MethodId} {args : Array Value} {below : List Frame} {meth : Method} {c : Code} {D : va_G} {ad : Nat → Nat → Nat} {cy : Nat → ClassId} {A : Nat → Prop} {sa : Nat → Nat} {cells slots : Nat} {σ : St}
set_option maxRecDepth 100000 in
set_option maxHeartbeats 4000000 in
theorem lp_X0_feelReach (C : Cx p l s m args meth c cX0_feelReach "FretSchool$Hand" 6 (none : Option Jvm.ClassFile.FieldType) D ad cy A sa) {p0 q0 n f0 : Nat} (hp0 : p0 < 8) (hq0 : q0 < 8) (hn : σ 11 p0 1 = nI n) (hn16 : n ≤ 16) (hf0 : σ 13 q0 2 = nI f0) (hf4 : 4 ≤ f0) (hf16 : f0 ≤ 16) : ∀ (f j : Nat) (σ' : St) (x4 : Int32) (o5 : Option Value), x4 = nI j → j ≤ n → n < j + f → (∀ a b c0, a ≠ 7 → σ' a b c0 = σ a b c0) → (∀ i, i < j → ∀ h, 1 ≤ h → h ≤ 13 → (σ' 7 0 i &&& (1 <<< (nI h &&& 31)) = 0 ↔ ¬ Pf σ p0 q0 f0 i h = true)) → Z p l e (rmD 1 0) s m args below meth c D ad cy A 6 0 0 (MQ below (va_Qv (fun σ' => (∀ a b c0, a ≠ 7 → σ' a b c0 = σ a b c0) ∧ ∀ i, i < n → ∀ h, 1 ≤ h → h ≤ 13 → (σ' 7 0 i &&& (1 <<< (nI h &&& 31)) = 0 ↔ ¬ Pf σ p0 q0 f0 i h = true)) (Bw D ad cy) A) args s 0 0 A) σ' [some (.ref (ad 6 0)), some (.ref (ad 11 p0)), some (.ref (ad 13 q0)), some (.int (nI (f0 - 3))), some (.int x4), o5] 8 [] := by
  intro f
  induction f with
  | zero => intro j σ' x4 o5 _ _ h; exact absurd h (by omega)
  | succ f ih =>
    intro j σ' x4 o5 e4 hj hf hfr hbits
    have hn' : σ' 11 p0 1 = nI n := by rw [hfr 11 p0 1 (by omega)]; exact hn
    refine z_iload C dX0_feelReach_8 rfl ?_
    refine z_aload_n C dX0_feelReach_10 rfl ?_
    refine g_11_1 hp0 C wd63 dX0_feelReach_11 ?_
    refine z_icmp_ge C 77 dX0_feelReach_14 (by decide) (fun c_14 => ?_) (fun c_14 => ?_)
    · have hjn : n ≤ j := by rw [hn', e4, nI_leI (by omega) (by omega)] at c_14; exact c_14
      refine z_vret C dX0_feelReach_77 ?_
      exact ⟨hfr, fun i hi => hbits i (by omega)⟩
    · have hjn : j < n := by rw [hn', e4, nI_leI (by omega) (by omega)] at c_14; omega
      refine z_aload_n C dX0_feelReach_17 rfl ?_
      refine g_6_0 C wd138 dX0_feelReach_18 ?_
      refine z_iload C dX0_feelReach_21 rfl ?_
      refine z_iconst C (v := 0) dX0_feelReach_23 (by decide) ?_
      refine s_7 C e4 (by omega) dX0_feelReach_24 ?_
      refine z_iconst C (v := 1) dX0_feelReach_25 (by decide) ?_
      refine z_istore C dX0_feelReach_26 (by decide) ?_
      dsimp only [List.set]
      refine lp_X0_feelReach_in C hp0 hq0 hn hn16 hf0 hf4 hf16 e4 hjn (fun σ2 o5 hfr2 hbits2 => ?_) 20 0 _ _ rfl (by omega) (by omega) (fun a b c0 ha => by rw [up_app, if_neg (fun q => ha q.1)]; exact hfr a b c0 ha) (fun i hi h h1 h2 => by rw [up_app, if_neg (by omega)]; exact hbits i hi h h1 h2) (fun h h1 h2 => ?_)
      · refine z_iinc C (v := 1) dX0_feelReach_71 rfl (by decide) (by decide) ?_
        dsimp only [List.set]
        refine z_goto C 8 dX0_feelReach_74 (by decide) ?_
        exact ih (j + 1) _ _ _ (by rw [e4]; exact nI_1 j) (by omega) (by omega) hfr2 hbits2
      · rw [up_app, if_pos ⟨rfl, rfl, rfl⟩]
        exact ⟨fun _ d => by omega, fun _ => bit_0 (by omega)⟩
end
set_option maxRecDepth 100000 in
set_option maxHeartbeats 4000000 in
theorem c_X0_feelReach {l : Launch} {D : va_G} {ad : Nat → Nat → Nat} {cy : Nat → ClassId} {A : Nat → Prop} {sa : Nat → Nat} {σ : St} {p0 q0 n f0 : Nat} (hp0 : p0 < 8) (hq0 : q0 < 8) (hn : σ 11 p0 1 = nI n) (hn16 : n ≤ 16) (hf0 : σ 13 q0 2 = nI f0) (hf4 : 4 ≤ f0) (hf16 : f0 ≤ 16) : MV l D ad cy A sa yX0_feelReach cX0_feelReach 6 (none : Option Jvm.ClassFile.FieldType) 1 σ [.ref (ad 6 0), .ref (ad 11 p0), .ref (ad 13 q0)] (fun σ' => (∀ a b c0, a ≠ 7 → σ' a b c0 = σ a b c0) ∧ ∀ i, i < n → ∀ h, 1 ≤ h → h ≤ 13 → (σ' 7 0 i &&& (1 <<< (nI h &&& 31)) = 0 ↔ ¬ Pf σ p0 q0 f0 i h = true)) := by
  refine MV.mk "FretSchool$Hand" (by decide) rfl (Nat.le_of_ble_eq_true rfl) rfl ?_
  intro p e s m args below meth c C
  change Z _ _ _ _ _ _ _ _ _ _ _ _ _ _ _ _ _ _ _ [some (.ref (ad 6 0)), some (.ref (ad 11 p0)), some (.ref (ad 13 q0)), none, none, none] 0 []
  refine z_aload_n C dX0_feelReach_0 rfl ?_
  refine z_cvi C (As := []) (c_X1_highestPosition hq0) okX1_highestPosition wd396 (rc_13 hq0) (rok (by decide) (by decide)) ⟨Nat.le_of_ble_eq_true rfl, Nat.le_of_ble_eq_true rfl⟩ rfl (Nat.le_of_ble_eq_true rfl) dX0_feelReach_1 ?_
  rintro r1 _ ⟨e1, rfl⟩
  obtain rfl : r1 = nI (f0 - 3) := by rw [e1, hf0, show (3 : Int32) = nI 3 from rfl, pk_sub (by omega)]
  refine z_istore_n C dX0_feelReach_4 (by decide) ?_
  dsimp only [List.set]
  refine z_iconst C (v := 0) dX0_feelReach_5 (by decide) ?_
  refine z_istore C dX0_feelReach_6 (by decide) ?_
  dsimp only [List.set]
  exact lp_X0_feelReach C hp0 hq0 hn hn16 hf0 hf4 hf16 (n + 1) 0 _ _ _ nI_0.symm (by omega) (by omega) (fun _ _ _ _ => rfl) (fun i hi => absurd hi (by omega))
end
section
/-! ===== the best row ===== -/
section
variable {p : Program} {l : Launch} {e : Env} {R : Room} {s : State} {m : MethodId} {args : Array Value} {below : List Frame} {meth : Method} {c : Code} {D : va_G} {ad : Nat → Nat → Nat} {cy : Nat → ClassId} {A : Nat → Prop} {sa : Nat → Nat} {cells slots : Nat} {σ : St}
set_option maxRecDepth 100000 in
set_option maxHeartbeats 4000000 in
theorem lp_X0_chooseRow (C : Cx p l s m args meth c cX0_chooseRow "FretSchool$Hand" 6 (some .boolean) D ad cy A sa) {n : Nat} {x1 : Int32} {P : Nat → Nat → Bool} (e1 : x1 = nI n) (hn : n ≤ 16) (hrows : ∀ i, i < n → ∀ g, 1 ≤ g → g ≤ 13 → σ 10 i g = nI (VR P (n - 1 - i) i g)) : ∀ (f j : Nat) (σ' : St) (x2 x3 : Int32) (o4 o5 : Option Value), x2 = nI (bef P n j) → x3 = nI j → j ≤ n → n < j + f → (0 < j → tot P n < FARn) → (∀ a b c0, a ≠ 6 → a ≠ 9 → σ' a b c0 = σ a b c0) → σ' 6 0 3 = nI (sumf P n j) → σ' 6 0 4 = nI (grt P n j) → (∀ i, i < j → σ' 9 0 i = nI (rowf P n i)) → Z p l e (rmD 3 0) s m args below meth c D ad cy A 6 0 0 (MQ below (va_Qi (fun r σ' => (∀ a b c0, a ≠ 6 → a ≠ 9 → σ' a b c0 = σ a b c0) ∧ ((r = 1 ∧ (0 < n → tot P n < FARn) ∧ σ' 6 0 3 = nI (sumf P n n) ∧ σ' 6 0 4 = nI (grt P n n) ∧ ∀ i, i < n → σ' 9 0 i = nI (rowf P n i)) ∨ (r = 0 ∧ 0 < n ∧ tot P n = FARn))) (Bw D ad cy) A) args s 0 0 A) σ' [some (.ref (ad 6 0)), some (.int x1), some (.int x2), some (.int x3), o4, o5] 14 [] := by
  intro f
  induction f with
  | zero => intro j σ' x2 x3 o4 o5 _ _ _ h; exact absurd h (by omega)
  | succ f ih =>
    intro j σ' x2 x3 o4 o5 e2 e3 hj hf ht hfr hsum hgrt hrow
    refine z_iload_n C dX0_chooseRow_14 rfl ?_
    refine z_iload_n C dX0_chooseRow_15 rfl ?_
    refine z_icmp_ge C 92 dX0_chooseRow_16 (by decide) (fun c_16 => ?_) (fun c_16 => ?_)
    · have hjn : j = n := by rw [e1, e3, nI_leI (by omega) (by omega)] at c_16; omega
      refine z_iconst C (v := 1) dX0_chooseRow_92 (by decide) ?_
      refine z_zret C dX0_chooseRow_93 (by first | exact Or.inl rfl | exact Or.inr rfl | assumption) ?_
      subst hjn
      exact ⟨hfr, Or.inl ⟨rfl, ht, hsum, hgrt, hrow⟩⟩
    · have hjn : j < n := by rw [e1, e3, nI_leI (by omega) (by omega)] at c_16; omega
      have hbef : bef P n j < 14 := by
        cases j with
        | zero => show 0 < 14; omega
        | succ j => have := (row_spec (P := P) (n := n) (by omega) (ht (by omega)) j (by omega)).2.1; show rowf P n j < 14; omega
      refine z_aload_n C dX0_chooseRow_19 rfl ?_
      refine z_iload_n C dX0_chooseRow_20 rfl ?_
      refine z_iload_n C dX0_chooseRow_21 rfl ?_
      refine z_cvi C (As := [_, _]) (c_X0_nearest (i := j) (b := bef P n j) (v := fun g => VR P (n - 1 - j) j g) e3 (by omega) e2 hbef (fun g h1 h2 => ⟨by rw [hfr 10 j g (by omega) (by omega)]; exact hrows j hjn g h1 h2, VR_le _ _ _ _⟩)) okX0_nearest wd408 rc_6 (rok (by decide) (by decide)) ⟨Nat.le_of_ble_eq_true rfl, Nat.le_of_ble_eq_true rfl⟩ rfl (Nat.le_of_ble_eq_true rfl) dX0_chooseRow_22 ?_
      rintro r22 _ ⟨e22, rfl⟩
      rw [← rowf_am] at e22
      refine z_istore C dX0_chooseRow_25 (by decide) ?_
      dsimp only [List.set]
      refine z_iload C dX0_chooseRow_27 rfl ?_
      refine z_if_ne C 34 dX0_chooseRow_29 (by decide) (fun c_29 => ?_) (fun c_29 => ?_)
      · have ham := am_spec (fun g => sh (bef P n j) g + VR P (n - 1 - j) j g) 13
        rw [← rowf_am] at ham
        obtain ⟨ha1, ha2, ha3, ha4⟩ : 1 ≤ rowf P n j ∧ rowf P n j ≤ 13 ∧ (fun g => sh (bef P n j) g + VR P (n - 1 - j) j g) (rowf P n j) = mn (fun g => sh (bef P n j) g + VR P (n - 1 - j) j g) 13 ∧ mn (fun g => sh (bef P n j) g + VR P (n - 1 - j) j g) 13 < FARn := by
          rcases ham with ⟨h1, _, _⟩ | ⟨h1, h2, h3, h4, _, _⟩
          · rw [e22, h1] at c_29; exact absurd rfl c_29
          · exact ⟨h1, h2, h3, h4⟩
        have htot : tot P n < FARn := by
          cases j with
          | zero => exact ha4
          | succ j => exact ht (by omega)
        have hsl := sh_le (b := bef P n j) (h := rowf P n j) (by omega) (by omega)
        have hgl := grt_le (P := P) (n := n) (by omega) htot j (by omega)
        refine z_iload_n C dX0_chooseRow_34 rfl ?_
        refine z_iload C dX0_chooseRow_35 rfl ?_
        refine z_csi C (As := [_, _]) (c_X0_shift e2 e22 (by omega) (by omega)) okX0_shift wd413 (rok (by decide) (by decide)) ⟨Nat.le_of_ble_eq_true rfl, Nat.le_of_ble_eq_true rfl⟩ rfl (Nat.le_of_ble_eq_true rfl) dX0_chooseRow_37 ?_
        rintro r37 _ ⟨e37, rfl⟩
        refine z_istore C dX0_chooseRow_40 (by decide) ?_
        dsimp only [List.set]
        refine z_aload_n C dX0_chooseRow_42 rfl ?_
        refine z_dup C dX0_chooseRow_43 rfl ?_
        refine g_6_3 C wd142 dX0_chooseRow_44 ?_
        refine z_iload C dX0_chooseRow_47 rfl ?_
        refine z_iadd C dX0_chooseRow_49 ?_
        refine p_6_3 C wd142 dX0_chooseRow_50 ?_
        refine z_aload_n C dX0_chooseRow_53 rfl ?_
        refine z_iload C dX0_chooseRow_54 rfl ?_
        refine z_aload_n C dX0_chooseRow_56 rfl ?_
        refine g_6_4 C wd144 dX0_chooseRow_57 ?_
        refine z_icmp_le C 68 dX0_chooseRow_60 (by decide) (fun c_60 => ?_) (fun c_60 => ?_)
        · refine z_aload_n C dX0_chooseRow_68 rfl ?_
          refine g_6_4 C wd144 dX0_chooseRow_69 ?_
          refine p_6_4 C wd144 dX0_chooseRow_72 ?_
          refine z_aload_n C dX0_chooseRow_75 rfl ?_
          refine g_6_2 C wd140 dX0_chooseRow_76 ?_
          refine z_iload_n C dX0_chooseRow_79 rfl ?_
          refine z_iload C dX0_chooseRow_80 rfl ?_
          refine s_9 C e3 (by omega) dX0_chooseRow_82 ?_
          refine z_iload C dX0_chooseRow_83 rfl ?_
          refine z_istore_n C dX0_chooseRow_85 (by decide) ?_
          dsimp only [List.set]
          refine z_iinc C (v := 1) dX0_chooseRow_86 rfl (by decide) (by decide) ?_
          dsimp only [List.set]
          refine z_goto C 14 dX0_chooseRow_89 (by decide) ?_
          refine ih (j + 1) _ _ _ _ _ e22 (by rw [e3]; exact nI_1 j) (by omega) (by omega) (fun _ => htot) (fun a b c0 h6 h9 => ?_) ?_ ?_ (fun i hi => ?_)
          · simp only [up_app, h6, h9, false_and, if_false]
            exact hfr a b c0 h6 h9
          · simp only [up_app]
            simp only [Nat.reduceEqDiff, false_and, and_false, and_true, if_false, if_true, hsum, e37, nI_add]
            rfl
          · simp only [up_app] at c_60 ⊢
            simp only [Nat.reduceEqDiff, false_and, and_false, and_true, if_false, if_true, hgrt, e37] at c_60 ⊢
            rw [nI_leI (by omega) (by omega)] at c_60
            show _ = nI (if grt P n j < sh (bef P n j) (rowf P n j) then sh (bef P n j) (rowf P n j) else grt P n j)
            rw [if_neg (by omega)]
          · simp only [up_app]
            simp only [Nat.reduceEqDiff, false_and, and_false, and_true, true_and, if_false, if_true]
            rcases Nat.lt_or_ge i j with q | q
            · rw [if_neg (by omega)]
              exact hrow i q
            · rw [if_pos (by omega), show i = j by omega]
              exact e22
        · refine z_iload C dX0_chooseRow_63 rfl ?_
          refine z_goto C 72 dX0_chooseRow_65 (by decide) ?_
          refine p_6_4 C wd144 dX0_chooseRow_72 ?_
          refine z_aload_n C dX0_chooseRow_75 rfl ?_
          refine g_6_2 C wd140 dX0_chooseRow_76 ?_
          refine z_iload_n C dX0_chooseRow_79 rfl ?_
          refine z_iload C dX0_chooseRow_80 rfl ?_
          refine s_9 C e3 (by omega) dX0_chooseRow_82 ?_
          refine z_iload C dX0_chooseRow_83 rfl ?_
          refine z_istore_n C dX0_chooseRow_85 (by decide) ?_
          dsimp only [List.set]
          refine z_iinc C (v := 1) dX0_chooseRow_86 rfl (by decide) (by decide) ?_
          dsimp only [List.set]
          refine z_goto C 14 dX0_chooseRow_89 (by decide) ?_
          refine ih (j + 1) _ _ _ _ _ e22 (by rw [e3]; exact nI_1 j) (by omega) (by omega) (fun _ => htot) (fun a b c0 h6 h9 => ?_) ?_ ?_ (fun i hi => ?_)
          · simp only [up_app, h6, h9, false_and, if_false]
            exact hfr a b c0 h6 h9
          · simp only [up_app]
            simp only [Nat.reduceEqDiff, false_and, and_false, and_true, if_false, if_true, hsum, e37, nI_add]
            rfl
          · simp only [up_app] at c_60 ⊢
            simp only [Nat.reduceEqDiff, false_and, and_false, and_true, if_false, if_true, hgrt, e37] at c_60 ⊢
            rw [nI_leI (by omega) (by omega)] at c_60
            show _ = nI (if grt P n j < sh (bef P n j) (rowf P n j) then sh (bef P n j) (rowf P n j) else grt P n j)
            rw [if_pos (by omega)]
          · simp only [up_app]
            simp only [Nat.reduceEqDiff, false_and, and_false, and_true, true_and, if_false, if_true]
            rcases Nat.lt_or_ge i j with q | q
            · rw [if_neg (by omega)]
              exact hrow i q
            · rw [if_pos (by omega), show i = j by omega]
              exact e22
      · have ham := am_spec (fun g => sh (bef P n j) g + VR P (n - 1 - j) j g) 13
        rw [← rowf_am] at ham
        obtain ⟨hz1, hz2⟩ : rowf P n j = 0 ∧ mn (fun g => sh (bef P n j) g + VR P (n - 1 - j) j g) 13 = FARn := by
          rcases ham with ⟨h1, h2, _⟩ | ⟨h1, h2, h3, h4, _, _⟩
          · exact ⟨h1, h2⟩
          · rw [e22, nI_ne0' (by omega)] at c_29; omega
        have hj0 : j = 0 := by
          cases j with
          | zero => rfl
          | succ j => have := (row_spec (P := P) (n := n) (by omega) (ht (by omega)) (j + 1) (by omega)).1; omega
        refine z_iconst C (v := 0) dX0_chooseRow_32 (by decide) ?_
        refine z_zret C dX0_chooseRow_33 (by first | exact Or.inl rfl | exact Or.inr rfl | assumption) ?_
        refine ⟨hfr, Or.inr ⟨rfl, by omega, ?_⟩⟩
        subst hj0
        exact hz2
end
set_option maxRecDepth 100000 in
set_option maxHeartbeats 4000000 in
theorem c_X0_chooseRow {l : Launch} {D : va_G} {ad : Nat → Nat → Nat} {cy : Nat → ClassId} {A : Nat → Prop} {sa : Nat → Nat} {σ : St} {n : Nat} {x1 : Int32} {P : Nat → Nat → Bool} (e1 : x1 = nI n) (hn : n ≤ 16) (hrows : ∀ i, i < n → ∀ g, 1 ≤ g → g ≤ 13 → σ 10 i g = nI (VR P (n - 1 - i) i g)) : MI l D ad cy A sa yX0_chooseRow cX0_chooseRow 6 (some .boolean) 3 σ [.ref (ad 6 0), .int x1] (fun r σ' => (∀ a b c0, a ≠ 6 → a ≠ 9 → σ' a b c0 = σ a b c0) ∧ ((r = 1 ∧ (0 < n → tot P n < FARn) ∧ σ' 6 0 3 = nI (sumf P n n) ∧ σ' 6 0 4 = nI (grt P n n) ∧ ∀ i, i < n → σ' 9 0 i = nI (rowf P n i)) ∨ (r = 0 ∧ 0 < n ∧ tot P n = FARn))) := by
  refine MI.mk "FretSchool$Hand" (by decide) rfl (Nat.le_of_ble_eq_true rfl) rfl ?_
  intro p e s m args below meth c C
  change Z _ _ _ _ _ _ _ _ _ _ _ _ _ _ _ _ _ _ _ [some (.ref (ad 6 0)), some (.int x1), none, none, none, none] 0 []
  refine z_aload_n C dX0_chooseRow_0 rfl ?_
  refine z_iconst C (v := 0) dX0_chooseRow_1 (by decide) ?_
  refine p_6_3 C wd142 dX0_chooseRow_2 ?_
  refine z_aload_n C dX0_chooseRow_5 rfl ?_
  refine z_iconst C (v := 0) dX0_chooseRow_6 (by decide) ?_
  refine p_6_4 C wd144 dX0_chooseRow_7 ?_
  refine z_iconst C (v := 0) dX0_chooseRow_10 (by decide) ?_
  refine z_istore_n C dX0_chooseRow_11 (by decide) ?_
  dsimp only [List.set]
  refine z_iconst C (v := 0) dX0_chooseRow_12 (by decide) ?_
  refine z_istore_n C dX0_chooseRow_13 (by decide) ?_
  dsimp only [List.set]
  exact lp_X0_chooseRow C e1 hn hrows (n + 1) 0 _ _ _ _ _ rfl nI_0.symm (by omega) (by omega) (fun h => absurd h (by omega)) (fun a b c0 h6 h9 => by simp only [up_app, h6, false_and, if_false]) (by simp only [up_app]; rfl) (by simp only [up_app]; rfl) (fun i hi => absurd hi (by omega))
theorem sumf_tot {P : Nat → Nat → Bool} {n : Nat} (h0 : 0 < n) (ht : tot P n < FARn) : sumf P n n = tot P n := by
  obtain ⟨_, _, h3, _, h5, _⟩ := row_spec h0 ht (n - 1) (by omega)
  rw [show n - 1 - (n - 1) = 0 by omega, VR_last h3, show n - 1 + 1 = n by omega] at h5
  exact h5
section
variable {p : Program} {l : Launch} {e : Env} {R : Room} {s : State} {m : MethodId} {args : Array Value} {below : List Frame} {meth : Method} {c : Code} {D : va_G} {ad : Nat → Nat → Nat} {cy : Nat → ClassId} {A : Nat → Prop} {sa : Nat → Nat} {cells slots : Nat} {σ : St}
set_option maxRecDepth 100000 in
set_option maxHeartbeats 4000000 in
theorem lp_X0_placeBest (C : Cx p l s m args meth c cX0_placeBest "FretSchool$Hand" 4 (some .boolean) D ad cy A sa) {p0 q0 n f0 : Nat} (hp0 : p0 < 8) (hq0 : q0 < 8) (hn : σ 11 p0 1 = nI n) (hn16 : n ≤ 16) (hf0 : σ 13 q0 2 = nI f0) (hf4 : 4 ≤ f0) (hf16 : f0 ≤ 16) : ∀ (j : Nat) (σ' : St) (x3 : Int32), x3 + 1 = nI j → j ≤ n → (∀ a b c0, a ≠ 7 → a ≠ 10 → σ' a b c0 = σ a b c0) → (∀ i, i < n → ∀ h, 1 ≤ h → h ≤ 13 → (σ' 7 0 i &&& (1 <<< (nI h &&& 31)) = 0 ↔ ¬ Pf σ p0 q0 f0 i h = true)) → (∀ i, j ≤ i → i < n → ∀ g, 1 ≤ g → g ≤ 13 → σ' 10 i g = nI (VR (Pf σ p0 q0 f0) (n - 1 - i) i g)) → Z p l e (rmD 4 0) s m args below meth c D ad cy A 4 0 0 (MQ below (va_Qi (fun r σ' => (∀ a b c0, a ≠ 6 → a ≠ 7 → a ≠ 9 → a ≠ 10 → σ' a b c0 = σ a b c0) ∧ ((r = 1 ∧ 0 < n ∧ tot (Pf σ p0 q0 f0) n < FARn ∧ σ' 6 0 3 = nI (tot (Pf σ p0 q0 f0) n) ∧ σ' 6 0 4 = nI (grt (Pf σ p0 q0 f0) n n) ∧ ∀ i, i < n → σ' 9 0 i = nI (rowf (Pf σ p0 q0 f0) n i)) ∨ (r = 0 ∧ (n = 0 ∨ tot (Pf σ p0 q0 f0) n = FARn)))) (Bw D ad cy) A) args s 0 0 A) σ' [some (.ref (ad 6 0)), some (.ref (ad 11 p0)), some (.ref (ad 13 q0)), some (.int x3)] 13 [] := by
  intro j
  induction j with
  | zero =>
    intro σ' x3 e3 hj hfr hbits hrows
    have hn' : σ' 11 p0 1 = nI n := by rw [hfr 11 p0 1 (by omega) (by omega)]; exact hn
    have hx : x3 < 0 := by
      have h1 : x3 = -1 := by
        have h2 : x3 + 1 - 1 = nI 0 - 1 := by rw [e3]
        rw [Int32.add_sub_cancel] at h2
        rw [h2]
        decide
      rw [h1]
      decide
    refine z_iload_n C dX0_placeBest_13 rfl ?_
    refine z_if_lt C 43 dX0_placeBest_14 (by decide) (fun c_14 => ?_) (fun c_14 => ?_)
    rotate_left
    · exact absurd hx c_14
    refine z_aload_n C dX0_placeBest_43 rfl ?_
    refine g_11_1 hp0 C wd63 dX0_placeBest_44 ?_
    refine z_if_le C 65 dX0_placeBest_47 (by decide) (fun c_47 => ?_) (fun c_47 => ?_)
    · have hn0 : n = 0 := by rw [hn', show (0 : Int32) = nI 0 from rfl, nI_leI (by omega) (by omega)] at c_47; omega
      refine z_iconst C (v := 0) dX0_placeBest_65 (by decide) ?_
      refine z_zret C dX0_placeBest_66 (by first | exact Or.inl rfl | exact Or.inr rfl | assumption) ?_
      exact ⟨fun a b c0 _ h7 _ h10 => hfr a b c0 h7 h10, Or.inr ⟨rfl, Or.inl hn0⟩⟩
    · have hn0 : 0 < n := by rw [hn', show (0 : Int32) = nI 0 from rfl, nI_leI (by omega) (by omega)] at c_47; omega
      refine z_aload_n C dX0_placeBest_50 rfl ?_
      refine z_aload_n C dX0_placeBest_51 rfl ?_
      refine g_11_1 hp0 C wd63 dX0_placeBest_52 ?_
      refine z_cvi C (As := [_]) (c_X0_chooseRow (n := n) (P := (Pf σ p0 q0 f0)) hn' hn16 (fun i hi g h1 h2 => hrows i (by omega) hi g h1 h2)) okX0_chooseRow wd422 rc_6 (rok (by decide) (by decide)) ⟨Nat.le_of_ble_eq_true rfl, Nat.le_of_ble_eq_true rfl⟩ rfl (Nat.le_of_ble_eq_true rfl) dX0_placeBest_55 ?_
      rintro r55 σ2 ⟨hf2, hp55⟩
      refine z_if_eq C 65 dX0_placeBest_58 (by decide) (fun c_58 => ?_) (fun c_58 => ?_)
      · obtain ⟨ht, hz⟩ : tot (Pf σ p0 q0 f0) n = FARn ∧ True := by
          rcases hp55 with ⟨h1, _⟩ | ⟨_, _, h3⟩
          · rw [h1] at c_58; exact absurd c_58 (by decide)
          · exact ⟨h3, trivial⟩
        refine z_iconst C (v := 0) dX0_placeBest_65 (by decide) ?_
        refine z_zret C dX0_placeBest_66 (by first | exact Or.inl rfl | exact Or.inr rfl | assumption) ?_
        exact ⟨fun a b c0 h6 h7 h9 h10 => by rw [hf2 a b c0 h6 h9]; exact hfr a b c0 h7 h10, Or.inr ⟨rfl, Or.inr ht⟩⟩
      · obtain ⟨ht, hs3, hs4, hs9⟩ : tot (Pf σ p0 q0 f0) n < FARn ∧ σ2 6 0 3 = nI (sumf (Pf σ p0 q0 f0) n n) ∧ σ2 6 0 4 = nI (grt (Pf σ p0 q0 f0) n n) ∧ ∀ i, i < n → σ2 9 0 i = nI (rowf (Pf σ p0 q0 f0) n i) := by
          rcases hp55 with ⟨_, h2, h3, h4, h5⟩ | ⟨h1, _, _⟩
          · exact ⟨h2 hn0, h3, h4, h5⟩
          · exact absurd h1 c_58
        refine z_iconst C (v := 1) dX0_placeBest_61 (by decide) ?_
        refine z_goto C 66 dX0_placeBest_62 (by decide) ?_
        refine z_zret C dX0_placeBest_66 (by first | exact Or.inl rfl | exact Or.inr rfl | assumption) ?_
        exact ⟨fun a b c0 h6 h7 h9 h10 => by rw [hf2 a b c0 h6 h9]; exact hfr a b c0 h7 h10, Or.inl ⟨rfl, hn0, ht, by rw [hs3, sumf_tot hn0 ht], hs4, hs9⟩⟩
  | succ j ih =>
    intro σ' x3 e3 hj hfr hbits hrows
    have hn' : σ' 11 p0 1 = nI n := by rw [hfr 11 p0 1 (by omega) (by omega)]; exact hn
    have e3 : x3 = nI j := by
      have h2 : x3 + 1 - 1 = nI (j + 1) - 1 := by rw [e3]
      rw [Int32.add_sub_cancel, nI_pred] at h2
      exact h2
    refine z_iload_n C dX0_placeBest_13 rfl ?_
    refine z_if_lt C 43 dX0_placeBest_14 (by decide) (fun c_14 => ?_) (fun c_14 => ?_)
    · exact absurd c_14 (by rw [e3]; exact nI_pos (by omega))
    refine z_aload_n C dX0_placeBest_17 rfl ?_
    refine z_iload_n C dX0_placeBest_18 rfl ?_
    refine z_iload_n C dX0_placeBest_19 rfl ?_
    refine z_aload_n C dX0_placeBest_20 rfl ?_
    refine g_11_1 hp0 C wd63 dX0_placeBest_21 ?_
    refine z_iconst C (v := 1) dX0_placeBest_24 (by decide) ?_
    refine z_isub C dX0_placeBest_25 ?_
    refine z_icmp_ne C 33 dX0_placeBest_26 (by decide) (fun c_26 => ?_) (fun c_26 => ?_)
    · have hjn : ¬ j = n - 1 := by rw [e3, hn', show nI n - 1 = nI (n - 1) by rw [show (1 : Int32) = nI 1 from rfl, pk_sub (by omega)], nI_eq (by omega) (by omega)] at c_26; exact c_26
      refine z_iconst C (v := 0) dX0_placeBest_33 (by decide) ?_
      refine z_cvv C (As := [_, _]) (c_X0_measureRest (i := j) (k := n - 1 - j) (P := (Pf σ p0 q0 f0)) e3 (by omega) (fun h h1 h2 => hbits j (by omega) h h1 h2) (Or.inr ⟨rfl, by omega, n - 1 - (j + 1), by omega, fun g h1 h2 => hrows (j + 1) (by omega) (by omega) g h1 h2⟩)) okX0_measureRest wd404 rc_6 (rok (by decide) (by decide)) ⟨Nat.le_of_ble_eq_true rfl, Nat.le_of_ble_eq_true rfl⟩ rfl (Nat.le_of_ble_eq_true rfl) dX0_placeBest_34 ?_
      rintro σ2 ⟨hr2, hf2⟩
      refine z_iinc C (v := (-1)) dX0_placeBest_37 rfl (by decide) (by decide) ?_
      dsimp only [List.set]
      refine z_goto C 13 dX0_placeBest_40 (by decide) ?_
      exact ih _ _ (by rw [e3, show nI j + (-1) + 1 = nI j by rw [Int32.add_assoc]; exact Int32.add_zero _]) (by omega) (fun a b c0 h7 h10 => by rw [hf2 a b c0 (fun q => h10 q.1)]; exact hfr a b c0 h7 h10) (fun i hi h h1 h2 => by rw [hf2 7 0 i (by omega)]; exact hbits i hi h h1 h2) (fun i h1 h2 g g1 g2 => (Nat.eq_or_lt_of_le h1).elim (fun q => by subst q; exact hr2 g g1 g2) (fun q => by rw [hf2 10 i g (by omega)]; exact hrows i q h2 g g1 g2))
    · have hjn : j = n - 1 := by rw [e3, hn', show nI n - 1 = nI (n - 1) by rw [show (1 : Int32) = nI 1 from rfl, pk_sub (by omega)], nI_eq (by omega) (by omega)] at c_26; exact c_26
      refine z_iconst C (v := 1) dX0_placeBest_29 (by decide) ?_
      refine z_goto C 34 dX0_placeBest_30 (by decide) ?_
      refine z_cvv C (As := [_, _]) (c_X0_measureRest (i := j) (k := n - 1 - j) (P := (Pf σ p0 q0 f0)) e3 (by omega) (fun h h1 h2 => hbits j (by omega) h h1 h2) (Or.inl ⟨by omega, rfl⟩)) okX0_measureRest wd404 rc_6 (rok (by decide) (by decide)) ⟨Nat.le_of_ble_eq_true rfl, Nat.le_of_ble_eq_true rfl⟩ rfl (Nat.le_of_ble_eq_true rfl) dX0_placeBest_34 ?_
      rintro σ2 ⟨hr2, hf2⟩
      refine z_iinc C (v := (-1)) dX0_placeBest_37 rfl (by decide) (by decide) ?_
      dsimp only [List.set]
      refine z_goto C 13 dX0_placeBest_40 (by decide) ?_
      exact ih _ _ (by rw [e3, show nI j + (-1) + 1 = nI j by rw [Int32.add_assoc]; exact Int32.add_zero _]) (by omega) (fun a b c0 h7 h10 => by rw [hf2 a b c0 (fun q => h10 q.1)]; exact hfr a b c0 h7 h10) (fun i hi h h1 h2 => by rw [hf2 7 0 i (by omega)]; exact hbits i hi h h1 h2) (fun i h1 h2 g g1 g2 => (Nat.eq_or_lt_of_le h1).elim (fun q => by subst q; exact hr2 g g1 g2) (fun q => by rw [hf2 10 i g (by omega)]; exact hrows i q h2 g g1 g2))
end
set_option maxRecDepth 100000 in
set_option maxHeartbeats 4000000 in
theorem c_X0_placeBest {l : Launch} {D : va_G} {ad : Nat → Nat → Nat} {cy : Nat → ClassId} {A : Nat → Prop} {sa : Nat → Nat} {σ : St} {p0 q0 n f0 : Nat} (hp0 : p0 < 8) (hq0 : q0 < 8) (hn : σ 11 p0 1 = nI n) (hn16 : n ≤ 16) (hf0 : σ 13 q0 2 = nI f0) (hf4 : 4 ≤ f0) (hf16 : f0 ≤ 16) : MI l D ad cy A sa yX0_placeBest cX0_placeBest 4 (some .boolean) 4 σ [.ref (ad 6 0), .ref (ad 11 p0), .ref (ad 13 q0)] (fun r σ' => (∀ a b c0, a ≠ 6 → a ≠ 7 → a ≠ 9 → a ≠ 10 → σ' a b c0 = σ a b c0) ∧ ((r = 1 ∧ 0 < n ∧ tot (Pf σ p0 q0 f0) n < FARn ∧ σ' 6 0 3 = nI (tot (Pf σ p0 q0 f0) n) ∧ σ' 6 0 4 = nI (grt (Pf σ p0 q0 f0) n n) ∧ ∀ i, i < n → σ' 9 0 i = nI (rowf (Pf σ p0 q0 f0) n i)) ∨ (r = 0 ∧ (n = 0 ∨ tot (Pf σ p0 q0 f0) n = FARn)))) := by
  refine MI.mk "FretSchool$Hand" (by decide) rfl (Nat.le_of_ble_eq_true rfl) rfl ?_
  intro p e s m args below meth c C
  change Z _ _ _ _ _ _ _ _ _ _ _ _ _ _ _ _ _ _ _ [some (.ref (ad 6 0)), some (.ref (ad 11 p0)), some (.ref (ad 13 q0)), none] 0 []
  refine z_aload_n C dX0_placeBest_0 rfl ?_
  refine z_aload_n C dX0_placeBest_1 rfl ?_
  refine z_aload_n C dX0_placeBest_2 rfl ?_
  refine z_cvv C (As := [_, _]) (c_X0_feelReach hp0 hq0 hn hn16 hf0 hf4 hf16) okX0_feelReach wd392 rc_6 (rok (by decide) (by decide)) ⟨Nat.le_of_ble_eq_true rfl, Nat.le_of_ble_eq_true rfl⟩ rfl (Nat.le_of_ble_eq_true rfl) dX0_placeBest_3 ?_
  rintro σ1 ⟨hf1, hb1⟩
  have hn1 : σ1 11 p0 1 = nI n := by rw [hf1 11 p0 1 (by omega)]; exact hn
  refine z_aload_n C dX0_placeBest_6 rfl ?_
  refine g_11_1 hp0 C wd63 dX0_placeBest_7 ?_
  refine z_iconst C (v := 1) dX0_placeBest_10 (by decide) ?_
  refine z_isub C dX0_placeBest_11 ?_
  refine z_istore_n C dX0_placeBest_12 (by decide) ?_
  dsimp only [List.set]
  exact lp_X0_placeBest C hp0 hq0 hn hn16 hf0 hf4 hf16 n σ1 _ (by rw [hn1, Int32.sub_add_cancel]) (by omega) (fun a b c0 h7 _ => hf1 a b c0 h7) hb1 (fun i h1 h2 => absurd h2 (by omega))
end
section
/-! ===== all fingerings ===== -/
theorem LF_succ {P : Nat → Nat → Bool} {k i b : Nat} : LF P (k + 1) i b = mn (fun g => if P i g = true then sh b g + LF P k (i + 1) g else FARn) 13 := rfl
theorem LF_le (P : Nat → Nat → Bool) (k i b : Nat) : LF P k i b ≤ FARn := by
  cases k with
  | zero => show 0 ≤ FARn; exact Nat.zero_le _
  | succ k => exact mn_le _ _
section
variable {p : Program} {l : Launch} {e : Env} {R : Room} {s : State} {m : MethodId} {args : Array Value} {below : List Frame} {meth : Method} {c : Code} {D : va_G} {ad : Nat → Nat → Nat} {cy : Nat → ClassId} {A : Nat → Prop} {sa : Nat → Nat} {cells slots : Nat} {σ : St}
set_option maxRecDepth 100000 in
set_option maxHeartbeats 4000000 in
theorem lp_X0_leastFrom (C : Cx p l s m args meth c cX0_leastFrom "FretSchool$Hand" 7 (some .int) D ad cy A sa) {n i b k : Nat} {x1 x2 x3 : Int32} {P : Nat → Nat → Bool} (e1 : x1 = nI n) (e2 : x2 = nI i) (e3 : x3 = nI b) (hn : n ≤ 4) (hb : b < 14) (hk : n = i + (k + 1)) (hR : ∀ i, i < n → ∀ h, 1 ≤ h → h ≤ 13 → (σ 7 0 i &&& (1 <<< (nI h &&& 31)) = 0 ↔ ¬ P i h = true)) {F : Nat → Nat} {M : Nat} (hF0 : ∀ g, F g = if P i g = true then sh b g + LF P k (i + 1) g else FARn) (hM : M = mn F 13) (rec : ∀ (g : Nat) (y : Int32), y = nI g → g < 14 → MI l D ad cy A sa yX0_leastFrom cX0_leastFrom 7 (some .int) (2 + k) σ [.ref (ad 7 0), .int x1, .int (x2 + 1), .int y] (fun r σ' => r = nI (LF P k (i + 1) g) ∧ σ = σ')) : ∀ (f j : Nat) (x4 x5 : Int32) (o6 : Option Value), x5 = nI (j + 1) → x4 = nI (mn F j) → j ≤ 13 → 13 < j + f → Z p l e (rmD (2 + (k + 1)) 0) s m args below meth c D ad cy A 7 0 0 (MQ below (va_Qi (fun r σ' => r = nI M ∧ σ = σ') (Bw D ad cy) A) args s 0 0 A) σ [some (.ref (ad 7 0)), some (.int x1), some (.int x2), some (.int x3), some (.int x4), some (.int x5), o6] 19 [] := by
  intro f
  induction f with
  | zero => intro j x4 x5 o6 _ _ _ h; exact absurd h (by omega)
  | succ f ih =>
    intro j x4 x5 o6 e5 e4 hj hf
    refine z_iload C dX0_leastFrom_19 rfl ?_
    refine z_bipush C (v := 13) dX0_leastFrom_21 (by decide) ?_
    refine z_icmp_gt C 78 dX0_leastFrom_23 (by decide) (fun c_23 => ?_) (fun c_23 => ?_)
    · have hj13 : j = 13 := by rw [e5, show (13 : Int32) = nI 13 from rfl, nI_ltI (by omega) (by omega)] at c_23; omega
      refine z_iload C dX0_leastFrom_78 rfl ?_
      refine z_iret C dX0_leastFrom_80 ?_
      refine ⟨?_, rfl⟩
      rw [e4, hj13, ← hM]
    · have hj13 : j < 13 := by rw [e5, show (13 : Int32) = nI 13 from rfl, nI_ltI (by omega) (by omega)] at c_23; omega
      have hRj : (σ 7 0 i &&& (1 <<< (x5 &&& 31)) = 0 ↔ ¬ P i (j + 1) = true) := by rw [e5]; exact hR i (by omega) (j + 1) (by omega) (by omega)
      have hm := mn_le F j
      have hFAR : FARn = 1000000 := rfl
      refine z_aload_n C dX0_leastFrom_26 rfl ?_
      refine z_iload_n C dX0_leastFrom_27 rfl ?_
      refine a_7 C e2 (by omega) dX0_leastFrom_28 ?_
      refine z_iload C dX0_leastFrom_29 rfl ?_
      refine z_csi C (As := [_, _]) (c_X0_canReach) okX0_canReach wd419 (rok (by omega) (by decide)) ⟨Nat.le_of_ble_eq_true rfl, Nat.le_of_ble_eq_true rfl⟩ rfl (Nat.le_of_ble_eq_true rfl) dX0_leastFrom_31 ?_
      rintro r31 _ ⟨e31, rfl⟩
      refine z_if_eq C 72 dX0_leastFrom_34 (by decide) (fun c_34 => ?_) (fun c_34 => ?_)
      · have hp : ¬ P i (j + 1) = true := by
          apply hRj.mp
          apply Classical.byContradiction
          intro q
          rw [e31, if_neg q] at c_34
          exact absurd c_34 (by decide)
        have hF : F (j + 1) = FARn := by rw [hF0, if_neg hp]
        refine z_iinc C (v := 1) dX0_leastFrom_72 rfl (by decide) (by decide) ?_
        dsimp only [List.set]
        refine z_goto C 19 dX0_leastFrom_75 (by decide) ?_
        exact ih (j + 1) _ _ _ (by rw [e5]; exact nI_1 (j + 1)) (by rw [e4, (am_no (F := F) (n := j) (by rw [hF]; exact hm)).2]) (by omega) (by omega)
      · have hp : P i (j + 1) = true := by
          apply Classical.byContradiction
          intro q
          rw [e31, if_pos (hRj.mpr q)] at c_34
          exact c_34 rfl
        have hF : F (j + 1) = sh b (j + 1) + LF P k (i + 1) (j + 1) := by rw [hF0, if_pos hp]
        refine z_iload_n C dX0_leastFrom_37 rfl ?_
        refine z_iload C dX0_leastFrom_38 rfl ?_
        refine z_csi C (As := [_, _]) (c_X0_shift e3 e5 (by omega) (by omega)) okX0_shift wd413 (rok (by omega) (by decide)) ⟨Nat.le_of_ble_eq_true rfl, Nat.le_of_ble_eq_true rfl⟩ rfl (Nat.le_of_ble_eq_true rfl) dX0_leastFrom_40 ?_
        rintro r40 _ ⟨e40, rfl⟩
        refine z_aload_n C dX0_leastFrom_43 rfl ?_
        refine z_iload_n C dX0_leastFrom_44 rfl ?_
        refine z_iload_n C dX0_leastFrom_45 rfl ?_
        refine z_iconst C (v := 1) dX0_leastFrom_46 (by decide) ?_
        refine z_iadd C dX0_leastFrom_47 ?_
        refine z_iload C dX0_leastFrom_48 rfl ?_
        refine z_csi C (As := [_, _, _, _]) (rec (j + 1) _ e5 (by omega)) okX0_leastFrom wd438 (rok (by omega) (by decide)) ⟨Nat.le_of_ble_eq_true rfl, Nat.le_of_ble_eq_true rfl⟩ rfl (Nat.le_of_ble_eq_true rfl) dX0_leastFrom_50 ?_
        rintro r50 _ ⟨e50, rfl⟩
        refine z_iadd C dX0_leastFrom_53 ?_
        refine z_istore C dX0_leastFrom_54 (by decide) ?_
        dsimp only [List.set]
        refine z_iload C dX0_leastFrom_56 rfl ?_
        refine z_iload C dX0_leastFrom_58 rfl ?_
        refine z_icmp_ge C 68 dX0_leastFrom_60 (by decide) (fun c_60 => ?_) (fun c_60 => ?_)
        · have hlt : mn F j ≤ F (j + 1) := by
            rw [hF]
            have hs := sh_le (b := b) (h := j + 1) (by omega) (by omega)
            have hl := LF_le P k (i + 1) (j + 1)
            rw [e40, e50, nI_add, e4, nI_leI (by omega) (by omega)] at c_60
            exact c_60
          refine z_iload C dX0_leastFrom_68 rfl ?_
          refine z_istore C dX0_leastFrom_70 (by decide) ?_
          dsimp only [List.set]
          refine z_iinc C (v := 1) dX0_leastFrom_72 rfl (by decide) (by decide) ?_
          dsimp only [List.set]
          refine z_goto C 19 dX0_leastFrom_75 (by decide) ?_
          exact ih (j + 1) _ _ _ (by rw [e5]; exact nI_1 (j + 1)) (by rw [e4, (am_no hlt).2]) (by omega) (by omega)
        · have hlt : F (j + 1) < mn F j := by
            rw [hF]
            have hs := sh_le (b := b) (h := j + 1) (by omega) (by omega)
            have hl := LF_le P k (i + 1) (j + 1)
            rw [e40, e50, nI_add, e4, nI_leI (by omega) (by omega)] at c_60
            omega
          refine z_iload C dX0_leastFrom_63 rfl ?_
          refine z_goto C 70 dX0_leastFrom_65 (by decide) ?_
          refine z_istore C dX0_leastFrom_70 (by decide) ?_
          dsimp only [List.set]
          refine z_iinc C (v := 1) dX0_leastFrom_72 rfl (by decide) (by decide) ?_
          dsimp only [List.set]
          refine z_goto C 19 dX0_leastFrom_75 (by decide) ?_
          exact ih (j + 1) _ _ _ (by rw [e5]; exact nI_1 (j + 1)) (by rw [(am_yes hlt).2, hF, e40, e50, nI_add]) (by omega) (by omega)
end
set_option maxRecDepth 100000 in
set_option maxHeartbeats 4000000 in
theorem c_X0_leastFrom {l : Launch} {D : va_G} {ad : Nat → Nat → Nat} {cy : Nat → ClassId} {A : Nat → Prop} {sa : Nat → Nat} {σ : St} {n : Nat} {P : Nat → Nat → Bool} (hn : n ≤ 4) (hR : ∀ i, i < n → ∀ h, 1 ≤ h → h ≤ 13 → (σ 7 0 i &&& (1 <<< (nI h &&& 31)) = 0 ↔ ¬ P i h = true)) {x1 : Int32} (e1 : x1 = nI n) : ∀ (k : Nat) {i b : Nat} {x2 x3 : Int32}, x1 = x1 → x2 = nI i → x3 = nI b → b < 14 → n = i + k → MI l D ad cy A sa yX0_leastFrom cX0_leastFrom 7 (some .int) (2 + k) σ [.ref (ad 7 0), .int x1, .int x2, .int x3] (fun r σ' => r = nI (LF P k i b) ∧ σ = σ') := by
  intro k
  induction k with
  | zero =>
    intro i b x2 x3 _ e2 e3 hb hk
    refine MI.mk "FretSchool$Hand" (by decide) rfl (Nat.le_of_ble_eq_true rfl) rfl ?_
    intro p e s m args below meth c C
    change Z _ _ _ _ _ _ _ _ _ _ _ _ _ _ _ _ _ _ _ [some (.ref (ad 7 0)), some (.int x1), some (.int x2), some (.int x3), none, none, none] 0 []
    refine z_iload_n C dX0_leastFrom_0 rfl ?_
    refine z_iload_n C dX0_leastFrom_1 rfl ?_
    refine z_icmp_ge C 10 dX0_leastFrom_2 (by decide) (fun c_2 => ?_) (fun c_2 => ?_)
    rotate_left
    · exact absurd (by rw [e1, e2, nI_leI (by omega) (by omega)]; omega) c_2
    refine z_iconst C (v := 0) dX0_leastFrom_10 (by decide) ?_
    refine z_iret C dX0_leastFrom_11 ?_
    exact ⟨rfl, rfl⟩
  | succ k ih =>
    intro i b x2 x3 _ e2 e3 hb hk
    refine MI.mk "FretSchool$Hand" (by decide) rfl (Nat.le_of_ble_eq_true rfl) rfl ?_
    intro p e s m args below meth c C
    change Z _ _ _ _ _ _ _ _ _ _ _ _ _ _ _ _ _ _ _ [some (.ref (ad 7 0)), some (.int x1), some (.int x2), some (.int x3), none, none, none] 0 []
    refine z_iload_n C dX0_leastFrom_0 rfl ?_
    refine z_iload_n C dX0_leastFrom_1 rfl ?_
    refine z_icmp_ge C 10 dX0_leastFrom_2 (by decide) (fun c_2 => ?_) (fun c_2 => ?_)
    · rw [e1, e2, nI_leI (by omega) (by omega)] at c_2; omega
    refine z_iload_n C dX0_leastFrom_5 rfl ?_
    refine z_iconst C (v := 4) dX0_leastFrom_6 (by decide) ?_
    refine z_icmp_lt C 12 dX0_leastFrom_7 (by decide) (fun c_7 => ?_) (fun c_7 => ?_)
    rotate_left
    · exact absurd (by rw [e2]; exact nI_lt (b := 4) (by omega) (by decide)) c_7
    refine z_ldc C (v := 1000000) wd412 dX0_leastFrom_12 ?_
    refine z_istore C dX0_leastFrom_14 (by decide) ?_
    dsimp only [List.set]
    refine z_iconst C (v := 1) dX0_leastFrom_16 (by decide) ?_
    refine z_istore C dX0_leastFrom_17 (by decide) ?_
    dsimp only [List.set]
    exact lp_X0_leastFrom C e1 e2 e3 hn hb hk hR (F := fun g => if P i g = true then sh b g + LF P k (i + 1) g else FARn) (M := LF P (k + 1) i b) (fun g => rfl) LF_succ (fun g y ey hg => ih rfl (by rw [e2]; exact nI_1 i) ey hg (by omega)) 14 0 _ _ _ rfl rfl (by omega) (by omega)
theorem tot_le (P : Nat → Nat → Bool) (n : Nat) : tot P n ≤ FARn := mn_le _ _
theorem LF_tot {P : Nat → Nat → Bool} {n : Nat} (h : 0 < n) : LF P n 0 0 = tot P n := by
  cases n with
  | zero => omega
  | succ n => exact LF_VR P n 0 0
set_option maxRecDepth 100000 in
set_option maxHeartbeats 4000000 in
theorem c_X0_leastByAll {l : Launch} {D : va_G} {ad : Nat → Nat → Nat} {cy : Nat → ClassId} {A : Nat → Prop} {sa : Nat → Nat} {σ : St} {p0 q0 n f0 : Nat} (hp0 : p0 < 8) (hq0 : q0 < 8) (hn : σ 11 p0 1 = nI n) (hn16 : n ≤ 16) (hf0 : σ 13 q0 2 = nI f0) (hf4 : 4 ≤ f0) (hf16 : f0 ≤ 16) (hn4 : n ≤ 4) : MI l D ad cy A sa yX0_leastByAll cX0_leastByAll 4 (some .int) 7 σ [.ref (ad 6 0), .ref (ad 11 p0), .ref (ad 13 q0)] (fun r σ' => (∀ a b c0, a ≠ 7 → σ' a b c0 = σ a b c0) ∧ r = (if n = 0 ∨ tot (Pf σ p0 q0 f0) n = FARn then -1 else nI (tot (Pf σ p0 q0 f0) n))) := by
  refine MI.mk "FretSchool$Hand" (by decide) rfl (Nat.le_of_ble_eq_true rfl) rfl ?_
  intro p e s m args below meth c C
  change Z _ _ _ _ _ _ _ _ _ _ _ _ _ _ _ _ _ _ _ [some (.ref (ad 6 0)), some (.ref (ad 11 p0)), some (.ref (ad 13 q0)), none] 0 []
  have hTl : tot (Pf σ p0 q0 f0) n ≤ FARn := tot_le _ _
  obtain ⟨T, hT0⟩ : ∃ T, T = tot (Pf σ p0 q0 f0) n := ⟨_, rfl⟩
  rw [← hT0] at hTl ⊢
  have hFAR : FARn = 1000000 := rfl
  refine z_aload_n C dX0_leastByAll_0 rfl ?_
  refine g_11_1 hp0 C wd63 dX0_leastByAll_1 ?_
  refine z_if_ne C 9 dX0_leastByAll_4 (by decide) (fun c_4 => ?_) (fun c_4 => ?_)
  · have hn0 : n ≠ 0 := by rw [hn, nI_ne0' (by omega)] at c_4; exact c_4
    refine z_aload_n C dX0_leastByAll_9 rfl ?_
    refine z_aload_n C dX0_leastByAll_10 rfl ?_
    refine z_aload_n C dX0_leastByAll_11 rfl ?_
    refine z_cvv C (As := [_, _]) (c_X0_feelReach hp0 hq0 hn hn16 hf0 hf4 hf16) okX0_feelReach wd392 rc_6 (rok (by omega) (by decide)) ⟨Nat.le_of_ble_eq_true rfl, Nat.le_of_ble_eq_true rfl⟩ rfl (Nat.le_of_ble_eq_true rfl) dX0_leastByAll_12 ?_
    rintro σ1 ⟨hf1, hb1⟩
    have hn1 : σ1 11 p0 1 = nI n := by rw [hf1 11 p0 1 (by omega)]; exact hn
    refine z_aload_n C dX0_leastByAll_15 rfl ?_
    refine g_6_0 C wd138 dX0_leastByAll_16 ?_
    refine z_aload_n C dX0_leastByAll_19 rfl ?_
    refine g_11_1 hp0 C wd63 dX0_leastByAll_20 ?_
    refine z_iconst C (v := 0) dX0_leastByAll_23 (by decide) ?_
    refine z_iconst C (v := 0) dX0_leastByAll_24 (by decide) ?_
    refine z_csi C (As := [_, _, _, _]) (c_X0_leastFrom (n := n) (P := (Pf σ p0 q0 f0)) hn4 hb1 hn1 n rfl nI_0.symm nI_0.symm (by omega) (by omega)) okX0_leastFrom wd438 (rok (by omega) (by decide)) ⟨Nat.le_of_ble_eq_true rfl, Nat.le_of_ble_eq_true rfl⟩ rfl (Nat.le_of_ble_eq_true rfl) dX0_leastByAll_25 ?_
    rintro r25 _ ⟨e25, rfl⟩
    rw [LF_tot (by omega), ← hT0] at e25
    refine z_istore_n C dX0_leastByAll_28 (by decide) ?_
    dsimp only [List.set]
    refine z_iload_n C dX0_leastByAll_29 rfl ?_
    refine z_ldc C (v := 1000000) wd412 dX0_leastByAll_30 ?_
    refine z_icmp_ge C 39 dX0_leastByAll_32 (by decide) (fun c_32 => ?_) (fun c_32 => ?_)
    · have hT : ¬ T < FARn := by rw [e25, nI_FAR, nI_leI (by omega) (by omega)] at c_32; omega
      refine z_iconst C (v := (-1)) dX0_leastByAll_39 (by decide) ?_
      refine z_iret C dX0_leastByAll_40 ?_
      exact ⟨hf1, by rw [if_pos (Or.inr (by omega))]⟩
    · have hT : T < FARn := by rw [e25, nI_FAR, nI_leI (by omega) (by omega)] at c_32; omega
      refine z_iload_n C dX0_leastByAll_35 rfl ?_
      refine z_goto C 40 dX0_leastByAll_36 (by decide) ?_
      refine z_iret C dX0_leastByAll_40 ?_
      exact ⟨hf1, by rw [if_neg (by omega), e25]⟩
  · have hn0 : n = 0 := by rw [hn, nI_ne0' (by omega)] at c_4; exact c_4
    refine z_iconst C (v := (-1)) dX0_leastByAll_7 (by decide) ?_
    refine z_iret C dX0_leastByAll_8 ?_
    exact ⟨fun _ _ _ _ => rfl, by rw [if_pos (Or.inl hn0)]⟩
end
section
/-! ===== the class FretSchool ===== -/
def bad (p n : Int32) : Prop := p < 0 ∨ ¬ p < n
def outR (x lo hi : Int32) : Prop := x < lo ∨ ¬ x ≤ hi
def ix (p : Int32) : Nat := p.toNatClampNeg
/-- the exception of a code -/
def pxK (L : List String) (K : Nat) (E : String) : Prop := K ≠ 0 ∧ L[K - 1]? = some E
abbrev cN (σ : St) (i : Nat) : Nat := (σ 11 i 1).toNatClampNeg
abbrev fN (σ : St) (q : Nat) : Nat := (σ 13 q 2).toNatClampNeg
/-- what stands of the class's numbers -/
def Inv (σ : St) : Prop := (∃ n, n ≤ 8 ∧ σ 0 0 6 = nI n) ∧ (∃ n, n ≤ 8 ∧ σ 0 0 7 = nI n) ∧ (∃ n, n ≤ 20 ∧ σ 0 0 8 = nI n) ∧ (∀ i, i < 8 → σ 11 i 1 = nI (cN σ i) ∧ cN σ i ≤ 16) ∧ (∀ i, i < 8 → nI i < σ 0 0 7 → σ 13 i 2 = nI (fN σ i) ∧ 4 ≤ fN σ i ∧ fN σ i ≤ 16) ∧ (∀ i, i < 20 → nI i < σ 0 0 8 → ∃ f, σ 16 i 1 = nI f ∧ 4 ≤ f ∧ f ≤ 16) ∧ ∀ i, i < 20 → σ 16 i 3 = 0 ∨ σ 16 i 3 = 1
theorem nbad {p : Int32} {n N : Nat} (hn : n ≤ N) (hN : N < 2 ^ 31) (h : ¬ bad p (nI n)) : p = nI (ix p) ∧ ix p < n ∧ ix p < N := by
  unfold bad at h
  have h1 : ¬ p < 0 := fun q => h (Or.inl q)
  have h2 : p < nI n := Classical.byContradiction fun q => h (Or.inr q)
  obtain ⟨j, hj, rfl⟩ := nI_of h1
  have hj2 : j < n := by rwa [nI_ltI hj (by omega)] at h2
  have e : ix (nI j) = j := nI_clamp hj
  rw [e]
  exact ⟨rfl, hj2, by omega⟩
theorem nout {x : Int32} {n : Nat} (hn : n < 2 ^ 31) (h : ¬ outR x 0 (nI n)) : x = nI (ix x) ∧ ix x ≤ n := by
  unfold outR at h
  have h1 : ¬ x < 0 := fun q => h (Or.inl q)
  have h2 : x ≤ nI n := Classical.byContradiction fun q => h (Or.inr q)
  obtain ⟨j, hj, rfl⟩ := nI_of h1
  have hj2 : j ≤ n := by rwa [nI_leI hj hn] at h2
  have e : ix (nI j) = j := nI_clamp hj
  rw [e]
  exact ⟨rfl, hj2⟩
/-- the best fingering of piece j on instrument q -/
noncomputable abbrev PFs (σ : St) (j q : Nat) : Nat → Nat → Bool := Pf σ j q (fN σ q)
noncomputable abbrev BT (σ : St) (j q : Nat) : Nat := tot (PFs σ j q) (cN σ j)
abbrev PL (σ : St) (j q : Nat) : Prop := 0 < cN σ j ∧ BT σ j q < FARn
noncomputable abbrev HG (σ : St) (j q : Nat) : Nat := grt (PFs σ j q) (cN σ j) (cN σ j)
noncomputable abbrev RW (σ : St) (j q i : Nat) : Nat := rowf (PFs σ j q) (cN σ j) i
def SameC (σ σ' : St) : Prop := ∀ a b c0, a ≠ 6 → a ≠ 7 → a ≠ 9 → a ≠ 10 → σ' a b c0 = σ a b c0
theorem SameC.rf {σ : St} : SameC σ σ := fun _ _ _ _ _ _ _ => rfl
theorem SameC.trans {σ σ1 σ2 : St} (h1 : SameC σ σ1) (h2 : SameC σ1 σ2) : SameC σ σ2 := fun a b c0 x1 x2 x3 x4 => (h2 a b c0 x1 x2 x3 x4).trans (h1 a b c0 x1 x2 x3 x4)
theorem SameC.ecN {σ σ' : St} (h : SameC σ σ') (i : Nat) : cN σ' i = cN σ i := by show (σ' 11 i 1).toNatClampNeg = _; rw [h 11 i 1 (by decide) (by decide) (by decide) (by decide)]
theorem SameC.efN {σ σ' : St} (h : SameC σ σ') (i : Nat) : fN σ' i = fN σ i := by show (σ' 13 i 2).toNatClampNeg = _; rw [h 13 i 2 (by decide) (by decide) (by decide) (by decide)]
theorem SameC.PF {σ σ' : St} (h : SameC σ σ') (j q : Nat) : PFs σ' j q = PFs σ j q := by
  unfold PFs
  rw [h.efN]
  exact Pf_cong (fun i => h 12 j i (by decide) (by decide) (by decide) (by decide)) (fun i => h 14 q i (by decide) (by decide) (by decide) (by decide))
theorem SameC.inv {σ σ' : St} (h : SameC σ σ') (hI : Inv σ) : Inv σ' := by
  obtain ⟨h1, h2, h3, h4, h5, h6, h7⟩ := hI
  unfold Inv
  simp only [h.ecN, h.efN]
  have e : ∀ a b c0, a ≠ 6 → a ≠ 7 → a ≠ 9 → a ≠ 10 → σ' a b c0 = σ a b c0 := h
  rw [e 0 0 6 (by decide) (by decide) (by decide) (by decide), e 0 0 7 (by decide) (by decide) (by decide) (by decide), e 0 0 8 (by decide) (by decide) (by decide) (by decide)]
  refine ⟨h1, h2, h3, fun i hi => ?_, fun i hi hl => ?_, fun i hi hl => ?_, fun i hi => ?_⟩
  · rw [e 11 i 1 (by decide) (by decide) (by decide) (by decide)]; exact h4 i hi
  · rw [e 13 i 2 (by decide) (by decide) (by decide) (by decide)]; exact h5 i hi hl
  · rw [e 16 i 1 (by decide) (by decide) (by decide) (by decide)]; exact h6 i hi hl
  · rw [e 16 i 3 (by decide) (by decide) (by decide) (by decide)]; exact h7 i hi
theorem Inv.fr {σ : St} (hI : Inv σ) {q : Nat} (hq : q < 8) (hl : nI q < σ 0 0 7) : σ 13 q 2 = nI (fN σ q) ∧ 4 ≤ fN σ q ∧ fN σ q ≤ 16 := hI.2.2.2.2.1 q hq hl

set_option maxRecDepth 100000 in
set_option maxHeartbeats 4000000 in
theorem c_X5_needRange {l : Launch} {D : va_G} {ad : Nat → Nat → Nat} {cy : Nat → ClassId} {A : Nat → Prop} {sa : Nat → Nat} {σ : St} {v lo hi : Int32} : XV l D ad cy A sa yX5_needRange cX5_needRange 3 (none : Option Jvm.ClassFile.FieldType) 0 1 σ [.int v, .int lo, .int hi] (fun σ' => σ = σ' ∧ ¬ outR v lo hi) (fun E u => σ = u ∧ E = IAE ∧ outR v lo hi) := by
  refine XV.mk "FretSchool" (by decide) rfl (Nat.le_of_ble_eq_true rfl) rfl ?_
  intro p e s m args below meth c C hex
  change Z _ _ _ _ _ _ _ _ _ _ _ _ _ _ _ _ _ _ _ [some (.int v), some (.int lo), some (.int hi)] 0 []
  refine z_iload_n C dX5_needRange_0 rfl ?_
  refine z_iload_n C dX5_needRange_1 rfl ?_
  refine z_icmp_lt C 10 dX5_needRange_2 (by decide) (fun c_2 => ?_) (fun c_2 => ?_)
  · refine y_iae C hex (tx := "an argument is out of range") (List.mem_of_getElem? (i := 2) rfl) dX5_needRange_10 dX5_needRange_13 dX5_needRange_14 dX5_needRange_16 dX5_needRange_19 ⟨Nat.le_of_ble_eq_true rfl, Nat.le_of_ble_eq_true rfl⟩ (by decide) (by decide) ?_
    exact ⟨rfl, rfl, by first | exact Or.inl c_2 | exact Or.inr c_7⟩
  · refine z_iload_n C dX5_needRange_5 rfl ?_
    refine z_iload_n C dX5_needRange_6 rfl ?_
    refine z_icmp_le C 20 dX5_needRange_7 (by decide) (fun c_7 => ?_) (fun c_7 => ?_)
    · refine y_ret (by decide) (by decide) ?_
      refine z_vret C dX5_needRange_20 ?_
      exact ⟨rfl, fun h => h.elim c_2 (fun q => q c_7)⟩
    · refine y_iae C hex (tx := "an argument is out of range") (List.mem_of_getElem? (i := 2) rfl) dX5_needRange_10 dX5_needRange_13 dX5_needRange_14 dX5_needRange_16 dX5_needRange_19 ⟨Nat.le_of_ble_eq_true rfl, Nat.le_of_ble_eq_true rfl⟩ (by decide) (by decide) ?_
      exact ⟨rfl, rfl, by first | exact Or.inl c_2 | exact Or.inr c_7⟩
set_option maxRecDepth 100000 in
set_option maxHeartbeats 4000000 in
theorem c_X5_needPiece {l : Launch} {D : va_G} {ad : Nat → Nat → Nat} {cy : Nat → ClassId} {A : Nat → Prop} {sa : Nat → Nat} {σ : St} {v : Int32} : XV l D ad cy A sa yX5_needPiece cX5_needPiece 2 (none : Option Jvm.ClassFile.FieldType) 0 1 σ [.ref (ad 0 0), .int v] (fun σ' => σ = σ' ∧ ¬ bad v (σ 0 0 6)) (fun E u => σ = u ∧ E = IOOBE ∧ bad v (σ 0 0 6)) := by
  refine XV.mk "FretSchool" (by decide) rfl (Nat.le_of_ble_eq_true rfl) rfl ?_
  intro p e s m args below meth c C hex
  change Z _ _ _ _ _ _ _ _ _ _ _ _ _ _ _ _ _ _ _ [some (.ref (ad 0 0)), some (.int v)] 0 []
  refine z_iload_n C dX5_needPiece_0 rfl ?_
  refine z_if_lt C 12 dX5_needPiece_1 (by decide) (fun c_1 => ?_) (fun c_1 => ?_)
  · refine y_ioobe C hex (tx := "there is no such piece") (List.mem_of_getElem? (i := 1) rfl) dX5_needPiece_12 dX5_needPiece_15 dX5_needPiece_16 dX5_needPiece_18 dX5_needPiece_21 ⟨Nat.le_of_ble_eq_true rfl, Nat.le_of_ble_eq_true rfl⟩ (by decide) (by decide) ?_
    exact ⟨rfl, rfl, by first | exact Or.inl c_1 | exact Or.inr c_9⟩
  · refine z_iload_n C dX5_needPiece_4 rfl ?_
    refine z_aload_n C dX5_needPiece_5 rfl ?_
    refine g_0_6 C wd163 dX5_needPiece_6 ?_
    refine z_icmp_lt C 22 dX5_needPiece_9 (by decide) (fun c_9 => ?_) (fun c_9 => ?_)
    · refine y_ret (by decide) (by decide) ?_
      refine z_vret C dX5_needPiece_22 ?_
      exact ⟨rfl, fun h => h.elim c_1 (fun q => q c_9)⟩
    · refine y_ioobe C hex (tx := "there is no such piece") (List.mem_of_getElem? (i := 1) rfl) dX5_needPiece_12 dX5_needPiece_15 dX5_needPiece_16 dX5_needPiece_18 dX5_needPiece_21 ⟨Nat.le_of_ble_eq_true rfl, Nat.le_of_ble_eq_true rfl⟩ (by decide) (by decide) ?_
      exact ⟨rfl, rfl, by first | exact Or.inl c_1 | exact Or.inr c_9⟩
set_option maxRecDepth 100000 in
set_option maxHeartbeats 4000000 in
theorem k_X5_needPiece {l : Launch} {D : va_G} {ad : Nat → Nat → Nat} {cy : Nat → ClassId} {A : Nat → Prop} {sa : Nat → Nat} {σ : St} {v : Int32} (hv : ¬ bad v (σ 0 0 6)) : MV l D ad cy A sa yX5_needPiece cX5_needPiece 2 (none : Option Jvm.ClassFile.FieldType) 0 σ [.ref (ad 0 0), .int v] (fun σ' => σ = σ') := by
  refine MV.mk "FretSchool" (by decide) rfl (Nat.le_of_ble_eq_true rfl) rfl ?_
  intro p e s m args below meth c C
  change Z _ _ _ _ _ _ _ _ _ _ _ _ _ _ _ _ _ _ _ [some (.ref (ad 0 0)), some (.int v)] 0 []
  refine z_iload_n C dX5_needPiece_0 rfl ?_
  refine z_if_lt C 12 dX5_needPiece_1 (by decide) (fun c_1 => ?_) (fun c_1 => ?_)
  · exact absurd (Or.inl c_1) hv
  refine z_iload_n C dX5_needPiece_4 rfl ?_
  refine z_aload_n C dX5_needPiece_5 rfl ?_
  refine g_0_6 C wd163 dX5_needPiece_6 ?_
  refine z_icmp_lt C 22 dX5_needPiece_9 (by decide) (fun c_9 => ?_) (fun c_9 => ?_)
  rotate_left
  · exact absurd (Or.inr c_9) hv
  refine z_vret C dX5_needPiece_22 ?_
  rfl
set_option maxRecDepth 100000 in
set_option maxHeartbeats 4000000 in
theorem c_X5_needInstrument {l : Launch} {D : va_G} {ad : Nat → Nat → Nat} {cy : Nat → ClassId} {A : Nat → Prop} {sa : Nat → Nat} {σ : St} {v : Int32} : XV l D ad cy A sa yX5_needInstrument cX5_needInstrument 2 (none : Option Jvm.ClassFile.FieldType) 0 1 σ [.ref (ad 0 0), .int v] (fun σ' => σ = σ' ∧ ¬ bad v (σ 0 0 7)) (fun E u => σ = u ∧ E = IOOBE ∧ bad v (σ 0 0 7)) := by
  refine XV.mk "FretSchool" (by decide) rfl (Nat.le_of_ble_eq_true rfl) rfl ?_
  intro p e s m args below meth c C hex
  change Z _ _ _ _ _ _ _ _ _ _ _ _ _ _ _ _ _ _ _ [some (.ref (ad 0 0)), some (.int v)] 0 []
  refine z_iload_n C dX5_needInstrument_0 rfl ?_
  refine z_if_lt C 12 dX5_needInstrument_1 (by decide) (fun c_1 => ?_) (fun c_1 => ?_)
  · refine y_ioobe C hex (tx := "there is no such instrument") (List.mem_of_getElem? (i := 6) rfl) dX5_needInstrument_12 dX5_needInstrument_15 dX5_needInstrument_16 dX5_needInstrument_18 dX5_needInstrument_21 ⟨Nat.le_of_ble_eq_true rfl, Nat.le_of_ble_eq_true rfl⟩ (by decide) (by decide) ?_
    exact ⟨rfl, rfl, by first | exact Or.inl c_1 | exact Or.inr c_9⟩
  · refine z_iload_n C dX5_needInstrument_4 rfl ?_
    refine z_aload_n C dX5_needInstrument_5 rfl ?_
    refine g_0_7 C wd164 dX5_needInstrument_6 ?_
    refine z_icmp_lt C 22 dX5_needInstrument_9 (by decide) (fun c_9 => ?_) (fun c_9 => ?_)
    · refine y_ret (by decide) (by decide) ?_
      refine z_vret C dX5_needInstrument_22 ?_
      exact ⟨rfl, fun h => h.elim c_1 (fun q => q c_9)⟩
    · refine y_ioobe C hex (tx := "there is no such instrument") (List.mem_of_getElem? (i := 6) rfl) dX5_needInstrument_12 dX5_needInstrument_15 dX5_needInstrument_16 dX5_needInstrument_18 dX5_needInstrument_21 ⟨Nat.le_of_ble_eq_true rfl, Nat.le_of_ble_eq_true rfl⟩ (by decide) (by decide) ?_
      exact ⟨rfl, rfl, by first | exact Or.inl c_1 | exact Or.inr c_9⟩
set_option maxRecDepth 100000 in
set_option maxHeartbeats 4000000 in
theorem k_X5_needInstrument {l : Launch} {D : va_G} {ad : Nat → Nat → Nat} {cy : Nat → ClassId} {A : Nat → Prop} {sa : Nat → Nat} {σ : St} {v : Int32} (hv : ¬ bad v (σ 0 0 7)) : MV l D ad cy A sa yX5_needInstrument cX5_needInstrument 2 (none : Option Jvm.ClassFile.FieldType) 0 σ [.ref (ad 0 0), .int v] (fun σ' => σ = σ') := by
  refine MV.mk "FretSchool" (by decide) rfl (Nat.le_of_ble_eq_true rfl) rfl ?_
  intro p e s m args below meth c C
  change Z _ _ _ _ _ _ _ _ _ _ _ _ _ _ _ _ _ _ _ [some (.ref (ad 0 0)), some (.int v)] 0 []
  refine z_iload_n C dX5_needInstrument_0 rfl ?_
  refine z_if_lt C 12 dX5_needInstrument_1 (by decide) (fun c_1 => ?_) (fun c_1 => ?_)
  · exact absurd (Or.inl c_1) hv
  refine z_iload_n C dX5_needInstrument_4 rfl ?_
  refine z_aload_n C dX5_needInstrument_5 rfl ?_
  refine g_0_7 C wd164 dX5_needInstrument_6 ?_
  refine z_icmp_lt C 22 dX5_needInstrument_9 (by decide) (fun c_9 => ?_) (fun c_9 => ?_)
  rotate_left
  · exact absurd (Or.inr c_9) hv
  refine z_vret C dX5_needInstrument_22 ?_
  rfl
set_option maxRecDepth 100000 in
set_option maxHeartbeats 4000000 in
theorem c_X5_needOrder {l : Launch} {D : va_G} {ad : Nat → Nat → Nat} {cy : Nat → ClassId} {A : Nat → Prop} {sa : Nat → Nat} {σ : St} {v : Int32} : XV l D ad cy A sa yX5_needOrder cX5_needOrder 2 (none : Option Jvm.ClassFile.FieldType) 0 1 σ [.ref (ad 0 0), .int v] (fun σ' => σ = σ' ∧ ¬ bad v (σ 0 0 8)) (fun E u => σ = u ∧ E = IOOBE ∧ bad v (σ 0 0 8)) := by
  refine XV.mk "FretSchool" (by decide) rfl (Nat.le_of_ble_eq_true rfl) rfl ?_
  intro p e s m args below meth c C hex
  change Z _ _ _ _ _ _ _ _ _ _ _ _ _ _ _ _ _ _ _ [some (.ref (ad 0 0)), some (.int v)] 0 []
  refine z_iload_n C dX5_needOrder_0 rfl ?_
  refine z_if_lt C 12 dX5_needOrder_1 (by decide) (fun c_1 => ?_) (fun c_1 => ?_)
  · refine y_ioobe C hex (tx := "there is no such order") (List.mem_of_getElem? (i := 13) rfl) dX5_needOrder_12 dX5_needOrder_15 dX5_needOrder_16 dX5_needOrder_18 dX5_needOrder_21 ⟨Nat.le_of_ble_eq_true rfl, Nat.le_of_ble_eq_true rfl⟩ (by decide) (by decide) ?_
    exact ⟨rfl, rfl, by first | exact Or.inl c_1 | exact Or.inr c_9⟩
  · refine z_iload_n C dX5_needOrder_4 rfl ?_
    refine z_aload_n C dX5_needOrder_5 rfl ?_
    refine g_0_8 C wd165 dX5_needOrder_6 ?_
    refine z_icmp_lt C 22 dX5_needOrder_9 (by decide) (fun c_9 => ?_) (fun c_9 => ?_)
    · refine y_ret (by decide) (by decide) ?_
      refine z_vret C dX5_needOrder_22 ?_
      exact ⟨rfl, fun h => h.elim c_1 (fun q => q c_9)⟩
    · refine y_ioobe C hex (tx := "there is no such order") (List.mem_of_getElem? (i := 13) rfl) dX5_needOrder_12 dX5_needOrder_15 dX5_needOrder_16 dX5_needOrder_18 dX5_needOrder_21 ⟨Nat.le_of_ble_eq_true rfl, Nat.le_of_ble_eq_true rfl⟩ (by decide) (by decide) ?_
      exact ⟨rfl, rfl, by first | exact Or.inl c_1 | exact Or.inr c_9⟩
set_option maxRecDepth 100000 in
set_option maxHeartbeats 4000000 in
theorem c_X5_needPupil {l : Launch} {D : va_G} {ad : Nat → Nat → Nat} {cy : Nat → ClassId} {A : Nat → Prop} {sa : Nat → Nat} {σ : St} {v : Int32} : XV l D ad cy A sa yX5_needPupil cX5_needPupil 1 (none : Option Jvm.ClassFile.FieldType) 1 1 σ [.int v] (fun σ' => σ = σ' ∧ ¬ outR v 0 4) (fun E u => σ = u ∧ E = IAE ∧ outR v 0 4) := by
  refine XV.mk "FretSchool" (by decide) rfl (Nat.le_of_ble_eq_true rfl) rfl ?_
  intro p e s m args below meth c C hex
  change Z _ _ _ _ _ _ _ _ _ _ _ _ _ _ _ _ _ _ _ [some (.int v)] 0 []
  refine z_iload_n C dX5_needPupil_0 rfl ?_
  refine z_iconst C (v := 0) dX5_needPupil_1 (by decide) ?_
  refine z_iconst C (v := 4) dX5_needPupil_2 (by decide) ?_
  refine y_csv C (As := [_, _, _]) (c_X5_needRange) okX5_needRange wd301 (rok (by decide) (by decide)) ⟨Nat.le_of_ble_eq_true rfl, Nat.le_of_ble_eq_true rfl⟩ rfl (Nat.le_of_ble_eq_true rfl) dX5_needPupil_3 (x_on C hex (by decide) (by decide) (fun _ _ h => h)) ?_
  rintro _ ⟨rfl, hr3⟩
  refine y_ret (by decide) (by decide) ?_
  refine z_vret C dX5_needPupil_6 ?_
  exact ⟨rfl, hr3⟩
set_option maxRecDepth 100000 in
set_option maxHeartbeats 4000000 in
theorem c_X5_needNote {l : Launch} {D : va_G} {ad : Nat → Nat → Nat} {cy : Nat → ClassId} {A : Nat → Prop} {sa : Nat → Nat} {σ : St} {v w : Int32} (hI : Inv σ) : XV l D ad cy A sa yX5_needNote cX5_needNote 3 (none : Option Jvm.ClassFile.FieldType) 1 2 σ [.ref (ad 0 0), .int v, .int w] (fun σ' => σ = σ' ∧ ¬ bad v (σ 0 0 6) ∧ ¬ bad w (σ 11 (ix v) 1)) (fun E u => σ = u ∧ E = IOOBE ∧ (bad v (σ 0 0 6) ∨ bad w (σ 11 (ix v) 1))) := by
  refine XV.mk "FretSchool" (by decide) rfl (Nat.le_of_ble_eq_true rfl) rfl ?_
  intro p e s m args below meth c C hex
  change Z _ _ _ _ _ _ _ _ _ _ _ _ _ _ _ _ _ _ _ [some (.ref (ad 0 0)), some (.int v), some (.int w)] 0 []
  refine z_aload_n C dX5_needNote_0 rfl ?_
  refine z_iload_n C dX5_needNote_1 rfl ?_
  refine y_cvv C (As := [_]) (c_X5_needPiece) okX5_needPiece wd281 rc_0 (rok (by decide) (by decide)) ⟨Nat.le_of_ble_eq_true rfl, Nat.le_of_ble_eq_true rfl⟩ rfl (Nat.le_of_ble_eq_true rfl) dX5_needNote_2 (x_on C hex (by decide) (by decide) (fun _ _ h => ⟨h.1, h.2.1, Or.inl h.2.2⟩)) ?_
  rintro _ ⟨rfl, hr2⟩
  obtain ⟨np, hnp, enp⟩ := hI.1
  rw [enp] at hr2
  obtain ⟨ev, hv1, hv2⟩ := nbad hnp (by decide) hr2
  rw [← enp] at hr2
  refine z_iload_n C dX5_needNote_5 rfl ?_
  refine z_if_lt C 22 dX5_needNote_6 (by decide) (fun c_6 => ?_) (fun c_6 => ?_)
  · refine y_ioobe C hex (tx := "there is no such note") (List.mem_of_getElem? (i := 5) rfl) dX5_needNote_22 dX5_needNote_25 dX5_needNote_26 dX5_needNote_28 dX5_needNote_31 ⟨Nat.le_of_ble_eq_true rfl, Nat.le_of_ble_eq_true rfl⟩ (by decide) (by decide) ?_
    exact ⟨rfl, rfl, Or.inr (by first | exact Or.inl c_6 | exact Or.inr c_19)⟩
  · refine z_iload_n C dX5_needNote_9 rfl ?_
    refine z_aload_n C dX5_needNote_10 rfl ?_
    refine g_0_0 C wd157 dX5_needNote_11 ?_
    refine z_iload_n C dX5_needNote_14 rfl ?_
    refine a_1 C ev hv2 dX5_needNote_15 ?_
    refine g_11_1 hv2 C wd64 dX5_needNote_16 ?_
    refine z_icmp_lt C 32 dX5_needNote_19 (by decide) (fun c_19 => ?_) (fun c_19 => ?_)
    · refine y_ret (by decide) (by decide) ?_
      refine z_vret C dX5_needNote_32 ?_
      exact ⟨rfl, hr2, fun h => h.elim c_6 (fun q => q c_19)⟩
    · refine y_ioobe C hex (tx := "there is no such note") (List.mem_of_getElem? (i := 5) rfl) dX5_needNote_22 dX5_needNote_25 dX5_needNote_26 dX5_needNote_28 dX5_needNote_31 ⟨Nat.le_of_ble_eq_true rfl, Nat.le_of_ble_eq_true rfl⟩ (by decide) (by decide) ?_
      exact ⟨rfl, rfl, Or.inr (by first | exact Or.inl c_6 | exact Or.inr c_19)⟩
def K_begin (σ : St) : Nat := if ¬ σ 0 0 6 < 8 then 1 else 0
set_option maxRecDepth 100000 in
set_option maxHeartbeats 4000000 in
theorem c_X5_begin {l : Launch} {D : va_G} {ad : Nat → Nat → Nat} {cy : Nat → ClassId} {A : Nat → Prop} {sa : Nat → Nat} {σ : St} : XI l D ad cy A sa yX5_begin cX5_begin 2 (some .int) 0 1 σ [.ref (ad 0 0)] (fun r σ' => K_begin σ = 0 ∧ r = σ 0 0 6 ∧ up σ 0 0 6 (σ 0 0 6 + 1) = σ') (fun E u => σ = u ∧ pxK [ISE] (K_begin σ) E) := by
  refine XI.mk "FretSchool" (by decide) rfl (Nat.le_of_ble_eq_true rfl) rfl ?_
  intro p e s m args below meth c C hex
  change Z _ _ _ _ _ _ _ _ _ _ _ _ _ _ _ _ _ _ _ [some (.ref (ad 0 0)), none] 0 []
  refine z_aload_n C dX5_begin_0 rfl ?_
  refine g_0_6 C wd163 dX5_begin_1 ?_
  refine z_bipush C (v := 8) dX5_begin_4 (by decide) ?_
  refine z_icmp_lt C 19 dX5_begin_6 (by decide) (fun c_6 => ?_) (fun c_6 => ?_)
  · refine z_aload_n C dX5_begin_19 rfl ?_
    refine g_0_6 C wd163 dX5_begin_20 ?_
    refine z_istore_n C dX5_begin_23 (by decide) ?_
    dsimp only [List.set]
    refine z_aload_n C dX5_begin_24 rfl ?_
    refine z_dup C dX5_begin_25 rfl ?_
    refine g_0_6 C wd163 dX5_begin_26 ?_
    refine z_iconst C (v := 1) dX5_begin_29 (by decide) ?_
    refine z_iadd C dX5_begin_30 ?_
    refine p_0_6 C wd163 dX5_begin_31 ?_
    refine z_iload_n C dX5_begin_34 rfl ?_
    refine y_ret (by decide) (by decide) ?_
    refine z_iret C dX5_begin_35 ?_
    exact ⟨if_neg (fun q => q c_6), rfl, rfl⟩
  · refine y_ise C hex (tx := "there are 8 pieces") (List.mem_of_getElem? (i := 0) rfl) dX5_begin_9 dX5_begin_12 dX5_begin_13 dX5_begin_15 dX5_begin_18 ⟨Nat.le_of_ble_eq_true rfl, Nat.le_of_ble_eq_true rfl⟩ (by decide) (by decide) ?_
    exact ⟨rfl, by unfold K_begin; rw [if_pos c_6]; exact ⟨by decide, rfl⟩⟩
noncomputable def K_addNote (σ : St) (p x : Int32) : Nat := by
  classical exact if bad p (σ 0 0 6) then 1 else if outR x 0 80 then 2 else if ¬ σ 11 (ix p) 1 < 16 then 3 else 0
set_option maxRecDepth 100000 in
set_option maxHeartbeats 4000000 in
theorem c_X5_addNote {l : Launch} {D : va_G} {ad : Nat → Nat → Nat} {cy : Nat → ClassId} {A : Nat → Prop} {sa : Nat → Nat} {σ : St} {x y : Int32} (hI : Inv σ) : XI l D ad cy A sa yX5_addNote cX5_addNote 4 (some .int) 3 3 σ [.ref (ad 0 0), .int x, .int y] (fun r σ' => K_addNote σ x y = 0 ∧ r = nI (cN σ (ix x) + 1) ∧ up (up σ 12 (ix x) (cN σ (ix x)) y) 11 (ix x) 1 (nI (cN σ (ix x) + 1)) = σ') (fun E u => σ = u ∧ pxK [IOOBE, IAE, ISE] (K_addNote σ x y) E) := by
  refine XI.mk "FretSchool" (by decide) rfl (Nat.le_of_ble_eq_true rfl) rfl ?_
  intro p e s m args below meth c C hex
  change Z _ _ _ _ _ _ _ _ _ _ _ _ _ _ _ _ _ _ _ [some (.ref (ad 0 0)), some (.int x), some (.int y), none] 0 []
  refine z_aload_n C dX5_addNote_0 rfl ?_
  refine z_iload_n C dX5_addNote_1 rfl ?_
  refine y_cvv C (As := [_]) (c_X5_needPiece) okX5_needPiece wd281 rc_0 (rok (by decide) (by decide)) ⟨Nat.le_of_ble_eq_true rfl, Nat.le_of_ble_eq_true rfl⟩ rfl (Nat.le_of_ble_eq_true rfl) dX5_addNote_2 (x_on C hex (by decide) (by decide) (fun E u h => ⟨h.1, by unfold K_addNote; rw [if_pos h.2.2]; exact ⟨by decide, congrArg some h.2.1.symm⟩⟩)) ?_
  rintro _ ⟨rfl, hr2⟩
  obtain ⟨np, hnp, enp⟩ := hI.1
  rw [enp] at hr2
  obtain ⟨ev, hv1, hv2⟩ := nbad hnp (by decide) hr2
  rw [← enp] at hr2
  obtain ⟨ec, hc16⟩ := hI.2.2.2.1 (ix x) hv2
  refine z_iload_n C dX5_addNote_5 rfl ?_
  refine z_iconst C (v := 0) dX5_addNote_6 (by decide) ?_
  refine z_bipush C (v := 80) dX5_addNote_7 (by decide) ?_
  refine y_csv C (As := [_, _, _]) (c_X5_needRange) okX5_needRange wd301 (rok (by decide) (by decide)) ⟨Nat.le_of_ble_eq_true rfl, Nat.le_of_ble_eq_true rfl⟩ rfl (Nat.le_of_ble_eq_true rfl) dX5_addNote_9 (x_on C hex (by decide) (by decide) (fun E u h => ⟨h.1, by unfold K_addNote; rw [if_neg hr2, if_pos h.2.2]; exact ⟨by decide, congrArg some h.2.1.symm⟩⟩)) ?_
  rintro _ ⟨rfl, hr9⟩
  refine z_aload_n C dX5_addNote_12 rfl ?_
  refine g_0_0 C wd157 dX5_addNote_13 ?_
  refine z_iload_n C dX5_addNote_16 rfl ?_
  refine a_1 C ev hv2 dX5_addNote_17 ?_
  refine z_astore_n C dX5_addNote_18 (by decide) ?_
  dsimp only [List.set]
  refine z_aload_n C dX5_addNote_19 rfl ?_
  refine z_cvi C (As := []) (c_X3_isFull hv2) okX3_isFull wd320 (rc_11 hv2) (rok (by decide) (by decide)) ⟨Nat.le_of_ble_eq_true rfl, Nat.le_of_ble_eq_true rfl⟩ rfl (Nat.le_of_ble_eq_true rfl) dX5_addNote_20 ?_
  rintro r20 _ ⟨e20, rfl⟩
  refine z_if_eq C 36 dX5_addNote_23 (by decide) (fun c_23 => ?_) (fun c_23 => ?_)
  · have hlt : cN σ (ix x) < 16 := by
      apply Classical.byContradiction
      intro q
      rw [e20, if_neg (by rw [ec, show (16 : Int32) = nI 16 from rfl, nI_ltI (by omega) (by decide)]; exact q)] at c_23
      exact absurd c_23 (by decide)
    have hlt2 : σ 11 (ix x) 1 < 16 := by rw [ec]; exact nI_lt (b := 16) hlt (by decide)
    refine z_aload_n C dX5_addNote_36 rfl ?_
    refine z_iload_n C dX5_addNote_37 rfl ?_
    refine z_cvv C (As := [_]) (c_X3_append hv2 ec hlt) okX3_append wd325 (rc_11 hv2) (rok (by decide) (by decide)) ⟨Nat.le_of_ble_eq_true rfl, Nat.le_of_ble_eq_true rfl⟩ rfl (Nat.le_of_ble_eq_true rfl) dX5_addNote_38 ?_
    rintro _ rfl
    refine z_aload_n C dX5_addNote_41 rfl ?_
    refine g_11_1 hv2 C wd64 dX5_addNote_42 ?_
    refine y_ret (by decide) (by decide) ?_
    refine z_iret C dX5_addNote_45 ?_
    refine ⟨by unfold K_addNote; rw [if_neg hr2, if_neg hr9, if_neg (fun q => q hlt2)], ?_, rfl⟩
    rw [up_app, if_pos ⟨rfl, rfl, rfl⟩]
  · have hge : ¬ σ 11 (ix x) 1 < 16 := by
      intro q
      rw [e20, if_pos q] at c_23
      exact c_23 rfl
    refine y_ise C hex (tx := "the piece has 16 notes") (List.mem_of_getElem? (i := 3) rfl) dX5_addNote_26 dX5_addNote_29 dX5_addNote_30 dX5_addNote_32 dX5_addNote_35 ⟨Nat.le_of_ble_eq_true rfl, Nat.le_of_ble_eq_true rfl⟩ (by decide) (by decide) ?_
    exact ⟨rfl, by unfold K_addNote; rw [if_neg hr2, if_neg hr9, if_pos hge]; exact ⟨by decide, rfl⟩⟩
end
section
/-! ===== the class FretSchool: positions, lessons ===== -/
def BestQ (σ σ' : St) (j q : Nat) (r : Int32) : Prop := (r = 1 ∧ PL σ j q ∧ σ' 6 0 3 = nI (BT σ j q) ∧ σ' 6 0 4 = nI (HG σ j q) ∧ ∀ i, i < cN σ j → σ' 9 0 i = nI (RW σ j q i)) ∨ (r = 0 ∧ ¬ PL σ j q)
set_option maxRecDepth 100000 in
set_option maxHeartbeats 4000000 in
theorem c_X5_findBest {l : Launch} {D : va_G} {ad : Nat → Nat → Nat} {cy : Nat → ClassId} {A : Nat → Prop} {sa : Nat → Nat} {σ : St} {v w : Int32} (hI : Inv σ) : XI l D ad cy A sa yX5_findBest cX5_findBest 3 (some .boolean) 5 2 σ [.ref (ad 0 0), .int v, .int w] (fun r σ' => ¬ bad v (σ 0 0 6) ∧ ¬ bad w (σ 0 0 7) ∧ SameC σ σ' ∧ BestQ σ σ' (ix v) (ix w) r) (fun E u => σ = u ∧ E = IOOBE ∧ (bad v (σ 0 0 6) ∨ bad w (σ 0 0 7))) := by
  refine XI.mk "FretSchool" (by decide) rfl (Nat.le_of_ble_eq_true rfl) rfl ?_
  intro p e s m args below meth c C hex
  change Z _ _ _ _ _ _ _ _ _ _ _ _ _ _ _ _ _ _ _ [some (.ref (ad 0 0)), some (.int v), some (.int w)] 0 []
  refine z_aload_n C dX5_findBest_0 rfl ?_
  refine z_iload_n C dX5_findBest_1 rfl ?_
  refine y_cvv C (As := [_]) (c_X5_needPiece) okX5_needPiece wd281 rc_0 (rok (by decide) (by decide)) ⟨Nat.le_of_ble_eq_true rfl, Nat.le_of_ble_eq_true rfl⟩ rfl (Nat.le_of_ble_eq_true rfl) dX5_findBest_2 (x_on C hex (by decide) (by decide) (fun _ _ h => ⟨h.1, h.2.1, Or.inl h.2.2⟩)) ?_
  rintro _ ⟨rfl, hr2⟩
  obtain ⟨np, hnp, enp⟩ := hI.1
  rw [enp] at hr2
  obtain ⟨ep, hp1, hp2⟩ := nbad hnp (by decide) hr2
  rw [← enp] at hr2
  obtain ⟨ecp, hcp⟩ := hI.2.2.2.1 (ix v) hp2
  refine z_aload_n C dX5_findBest_5 rfl ?_
  refine z_iload_n C dX5_findBest_6 rfl ?_
  refine y_cvv C (As := [_]) (c_X5_needInstrument) okX5_needInstrument wd365 rc_0 (rok (by decide) (by decide)) ⟨Nat.le_of_ble_eq_true rfl, Nat.le_of_ble_eq_true rfl⟩ rfl (Nat.le_of_ble_eq_true rfl) dX5_findBest_7 (x_on C hex (by decide) (by decide) (fun _ _ h => ⟨h.1, h.2.1, Or.inr h.2.2⟩)) ?_
  rintro _ ⟨rfl, hr7⟩
  obtain ⟨nq, hnq, enq⟩ := hI.2.1
  rw [enq] at hr7
  obtain ⟨eq, hq1, hq2⟩ := nbad hnq (by decide) hr7
  rw [← enq] at hr7
  obtain ⟨efq, hfq4, hfq16⟩ := hI.fr hq2 (by rw [enq]; exact nI_lt hq1 (by omega))
  refine z_aload_n C dX5_findBest_10 rfl ?_
  refine g_0_5 C wd162 dX5_findBest_11 ?_
  refine z_aload_n C dX5_findBest_14 rfl ?_
  refine g_0_0 C wd157 dX5_findBest_15 ?_
  refine z_iload_n C dX5_findBest_18 rfl ?_
  refine a_1 C ep hp2 dX5_findBest_19 ?_
  refine z_aload_n C dX5_findBest_20 rfl ?_
  refine g_0_1 C wd158 dX5_findBest_21 ?_
  refine z_iload_n C dX5_findBest_24 rfl ?_
  refine a_2 C eq hq2 dX5_findBest_25 ?_
  refine z_cvi C (As := [_, _]) (c_X0_placeBest hp2 hq2 ecp hcp efq hfq4 hfq16) okX0_placeBest wd388 rc_6 (rok (by decide) (by decide)) ⟨Nat.le_of_ble_eq_true rfl, Nat.le_of_ble_eq_true rfl⟩ rfl (Nat.le_of_ble_eq_true rfl) dX5_findBest_26 ?_
  rintro r26 σ2 ⟨hfr, hq26⟩
  have hz26 : r26 = 0 ∨ r26 = 1 := hq26.elim (fun h => Or.inr h.1) (fun h => Or.inl h.1)
  refine y_ret (by decide) (by decide) ?_
  refine z_zret C dX5_findBest_29 (by first | exact Or.inl rfl | exact Or.inr rfl | assumption) ?_
  refine ⟨hr2, hr7, fun a b c0 h6 h7 h9 h10 => hfr a b c0 h6 h7 h9 h10, ?_⟩
  rcases hq26 with ⟨h1, h2, h3, h4, h5, h6⟩ | ⟨h1, h2⟩
  · exact Or.inl ⟨h1, ⟨h2, h3⟩, h4, h5, h6⟩
  · exact Or.inr ⟨h1, fun h => h2.elim (fun q => absurd h.1 (Nat.not_lt.mpr (Nat.le_of_eq q))) (fun q => absurd h.2 (Nat.not_lt.mpr (Nat.le_of_eq q.symm)))⟩
set_option maxRecDepth 100000 in
set_option maxHeartbeats 4000000 in
theorem k_X5_findBest {l : Launch} {D : va_G} {ad : Nat → Nat → Nat} {cy : Nat → ClassId} {A : Nat → Prop} {sa : Nat → Nat} {σ : St} {v w : Int32} (hI : Inv σ) (hr2 : ¬ bad v (σ 0 0 6)) (hr7 : ¬ bad w (σ 0 0 7)) : MI l D ad cy A sa yX5_findBest cX5_findBest 3 (some .boolean) 5 σ [.ref (ad 0 0), .int v, .int w] (fun r σ' => SameC σ σ' ∧ BestQ σ σ' (ix v) (ix w) r) := by
  refine MI.mk "FretSchool" (by decide) rfl (Nat.le_of_ble_eq_true rfl) rfl ?_
  intro p e s m args below meth c C
  change Z _ _ _ _ _ _ _ _ _ _ _ _ _ _ _ _ _ _ _ [some (.ref (ad 0 0)), some (.int v), some (.int w)] 0 []
  obtain ⟨np, hnp, enp⟩ := hI.1
  rw [enp] at hr2
  obtain ⟨ep, hp1, hp2⟩ := nbad hnp (by decide) hr2
  rw [← enp] at hr2
  obtain ⟨ecp, hcp⟩ := hI.2.2.2.1 (ix v) hp2
  obtain ⟨nq, hnq, enq⟩ := hI.2.1
  rw [enq] at hr7
  obtain ⟨eq, hq1, hq2⟩ := nbad hnq (by decide) hr7
  rw [← enq] at hr7
  obtain ⟨efq, hfq4, hfq16⟩ := hI.fr hq2 (by rw [enq]; exact nI_lt hq1 (by omega))
  refine z_aload_n C dX5_findBest_0 rfl ?_
  refine z_iload_n C dX5_findBest_1 rfl ?_
  refine z_cvv C (As := [_]) (k_X5_needPiece hr2) okX5_needPiece wd281 rc_0 (rok (by decide) (by decide)) ⟨Nat.le_of_ble_eq_true rfl, Nat.le_of_ble_eq_true rfl⟩ rfl (Nat.le_of_ble_eq_true rfl) dX5_findBest_2 ?_
  rintro _ rfl
  refine z_aload_n C dX5_findBest_5 rfl ?_
  refine z_iload_n C dX5_findBest_6 rfl ?_
  refine z_cvv C (As := [_]) (k_X5_needInstrument hr7) okX5_needInstrument wd365 rc_0 (rok (by decide) (by decide)) ⟨Nat.le_of_ble_eq_true rfl, Nat.le_of_ble_eq_true rfl⟩ rfl (Nat.le_of_ble_eq_true rfl) dX5_findBest_7 ?_
  rintro _ rfl
  refine z_aload_n C dX5_findBest_10 rfl ?_
  refine g_0_5 C wd162 dX5_findBest_11 ?_
  refine z_aload_n C dX5_findBest_14 rfl ?_
  refine g_0_0 C wd157 dX5_findBest_15 ?_
  refine z_iload_n C dX5_findBest_18 rfl ?_
  refine a_1 C ep hp2 dX5_findBest_19 ?_
  refine z_aload_n C dX5_findBest_20 rfl ?_
  refine g_0_1 C wd158 dX5_findBest_21 ?_
  refine z_iload_n C dX5_findBest_24 rfl ?_
  refine a_2 C eq hq2 dX5_findBest_25 ?_
  refine z_cvi C (As := [_, _]) (c_X0_placeBest hp2 hq2 ecp hcp efq hfq4 hfq16) okX0_placeBest wd388 rc_6 (rok (by decide) (by decide)) ⟨Nat.le_of_ble_eq_true rfl, Nat.le_of_ble_eq_true rfl⟩ rfl (Nat.le_of_ble_eq_true rfl) dX5_findBest_26 ?_
  rintro r26 σ2 ⟨hfr, hq26⟩
  have hz26 : r26 = 0 ∨ r26 = 1 := hq26.elim (fun h => Or.inr h.1) (fun h => Or.inl h.1)
  refine z_zret C dX5_findBest_29 (by first | exact Or.inl rfl | exact Or.inr rfl | assumption) ?_
  refine ⟨fun a b c0 h6 h7 h9 h10 => hfr a b c0 h6 h7 h9 h10, ?_⟩
  rcases hq26 with ⟨h1, h2, h3, h4, h5, h6⟩ | ⟨h1, h2⟩
  · exact Or.inl ⟨h1, ⟨h2, h3⟩, h4, h5, h6⟩
  · exact Or.inr ⟨h1, fun h => h2.elim (fun q => absurd h.1 (Nat.not_lt.mpr (Nat.le_of_eq q))) (fun q => absurd h.2 (Nat.not_lt.mpr (Nat.le_of_eq q.symm)))⟩
noncomputable def K_pq (σ : St) (p q : Int32) : Nat := by classical exact if bad p (σ 0 0 6) ∨ bad q (σ 0 0 7) then 1 else 0
noncomputable def valS (σ : St) (j q : Nat) : Int32 := if PL σ j q then nI (BT σ j q) else -1
noncomputable def valH (σ : St) (j q : Nat) : Int32 := if PL σ j q then nI (HG σ j q) else -1
theorem K_pq_0 {σ : St} {p q : Int32} (h1 : ¬ bad p (σ 0 0 6)) (h2 : ¬ bad q (σ 0 0 7)) : K_pq σ p q = 0 := by unfold K_pq; rw [if_neg (fun h => h.elim h1 h2)]
set_option maxRecDepth 100000 in
set_option maxHeartbeats 4000000 in
theorem c_X5_shifts {l : Launch} {D : va_G} {ad : Nat → Nat → Nat} {cy : Nat → ClassId} {A : Nat → Prop} {sa : Nat → Nat} {σ : St} {x y : Int32} (hI : Inv σ) : XI l D ad cy A sa yX5_shifts cX5_shifts 3 (some .int) 6 2 σ [.ref (ad 0 0), .int x, .int y] (fun r σ' => K_pq σ x y = 0 ∧ r = valS σ (ix x) (ix y) ∧ SameC σ σ') (fun E u => σ = u ∧ pxK [IOOBE] (K_pq σ x y) E) := by
  refine XI.mk "FretSchool" (by decide) rfl (Nat.le_of_ble_eq_true rfl) rfl ?_
  intro p e s m args below meth c C hex
  change Z _ _ _ _ _ _ _ _ _ _ _ _ _ _ _ _ _ _ _ [some (.ref (ad 0 0)), some (.int x), some (.int y)] 0 []
  refine z_aload_n C dX5_shifts_0 rfl ?_
  refine z_iload_n C dX5_shifts_1 rfl ?_
  refine z_iload_n C dX5_shifts_2 rfl ?_
  refine y_cvi C (As := [_, _]) (c_X5_findBest hI) okX5_findBest wd384 rc_0 (rok (by decide) (by decide)) ⟨Nat.le_of_ble_eq_true rfl, Nat.le_of_ble_eq_true rfl⟩ rfl (Nat.le_of_ble_eq_true rfl) dX5_shifts_3 (x_on C hex (by decide) (by decide) (fun E u h => ⟨h.1, by unfold K_pq; rw [if_pos h.2.2]; exact ⟨by decide, congrArg some h.2.1.symm⟩⟩)) ?_
  rintro r3 σ2 ⟨hvp, hvq, hsm, hbq⟩
  refine z_if_eq C 19 dX5_shifts_6 (by decide) (fun c_6 => ?_) (fun c_6 => ?_)
  · refine z_iconst C (v := (-1)) dX5_shifts_19 (by decide) ?_
    refine y_ret (by decide) (by decide) ?_
    refine z_iret C dX5_shifts_20 ?_
    refine ⟨K_pq_0 hvp hvq, ?_, hsm⟩
    rcases hbq with ⟨h1, h2, h3, h4, h5⟩ | ⟨h1, h2⟩
    · rw [h1] at c_6; exact absurd c_6 (by decide)
    · unfold valS; rw [if_neg h2]
  · refine z_aload_n C dX5_shifts_9 rfl ?_
    refine g_0_5 C wd162 dX5_shifts_10 ?_
    refine g_6_3 C wd143 dX5_shifts_13 ?_
    refine z_goto C 20 dX5_shifts_16 (by decide) ?_
    refine y_ret (by decide) (by decide) ?_
    refine z_iret C dX5_shifts_20 ?_
    refine ⟨K_pq_0 hvp hvq, ?_, hsm⟩
    rcases hbq with ⟨h1, h2, h3, h4, h5⟩ | ⟨h1, h2⟩
    · unfold valS; rw [if_pos h2, h3]
    · exact absurd h1 c_6
set_option maxRecDepth 100000 in
set_option maxHeartbeats 4000000 in
theorem c_X5_hardest {l : Launch} {D : va_G} {ad : Nat → Nat → Nat} {cy : Nat → ClassId} {A : Nat → Prop} {sa : Nat → Nat} {σ : St} {x y : Int32} (hI : Inv σ) : XI l D ad cy A sa yX5_hardest cX5_hardest 3 (some .int) 6 2 σ [.ref (ad 0 0), .int x, .int y] (fun r σ' => K_pq σ x y = 0 ∧ r = valH σ (ix x) (ix y) ∧ SameC σ σ') (fun E u => σ = u ∧ pxK [IOOBE] (K_pq σ x y) E) := by
  refine XI.mk "FretSchool" (by decide) rfl (Nat.le_of_ble_eq_true rfl) rfl ?_
  intro p e s m args below meth c C hex
  change Z _ _ _ _ _ _ _ _ _ _ _ _ _ _ _ _ _ _ _ [some (.ref (ad 0 0)), some (.int x), some (.int y)] 0 []
  refine z_aload_n C dX5_hardest_0 rfl ?_
  refine z_iload_n C dX5_hardest_1 rfl ?_
  refine z_iload_n C dX5_hardest_2 rfl ?_
  refine y_cvi C (As := [_, _]) (c_X5_findBest hI) okX5_findBest wd384 rc_0 (rok (by decide) (by decide)) ⟨Nat.le_of_ble_eq_true rfl, Nat.le_of_ble_eq_true rfl⟩ rfl (Nat.le_of_ble_eq_true rfl) dX5_hardest_3 (x_on C hex (by decide) (by decide) (fun E u h => ⟨h.1, by unfold K_pq; rw [if_pos h.2.2]; exact ⟨by decide, congrArg some h.2.1.symm⟩⟩)) ?_
  rintro r3 σ2 ⟨hvp, hvq, hsm, hbq⟩
  refine z_if_eq C 19 dX5_hardest_6 (by decide) (fun c_6 => ?_) (fun c_6 => ?_)
  · refine z_iconst C (v := (-1)) dX5_hardest_19 (by decide) ?_
    refine y_ret (by decide) (by decide) ?_
    refine z_iret C dX5_hardest_20 ?_
    refine ⟨K_pq_0 hvp hvq, ?_, hsm⟩
    rcases hbq with ⟨h1, h2, h3, h4, h5⟩ | ⟨h1, h2⟩
    · rw [h1] at c_6; exact absurd c_6 (by decide)
    · unfold valH; rw [if_neg h2]
  · refine z_aload_n C dX5_hardest_9 rfl ?_
    refine g_0_5 C wd162 dX5_hardest_10 ?_
    refine g_6_4 C wd145 dX5_hardest_13 ?_
    refine z_goto C 20 dX5_hardest_16 (by decide) ?_
    refine y_ret (by decide) (by decide) ?_
    refine z_iret C dX5_hardest_20 ?_
    refine ⟨K_pq_0 hvp hvq, ?_, hsm⟩
    rcases hbq with ⟨h1, h2, h3, h4, h5⟩ | ⟨h1, h2⟩
    · unfold valH; rw [if_pos h2, h4]
    · exact absurd h1 c_6
noncomputable def K_byAll (σ : St) (p q : Int32) : Nat := by classical exact if bad p (σ 0 0 6) ∨ bad q (σ 0 0 7) then 1 else if ¬ σ 11 (ix p) 1 ≤ 4 then 2 else 0
set_option maxRecDepth 100000 in
set_option maxHeartbeats 4000000 in
theorem c_X5_shiftsByAll {l : Launch} {D : va_G} {ad : Nat → Nat → Nat} {cy : Nat → ClassId} {A : Nat → Prop} {sa : Nat → Nat} {σ : St} {x y : Int32} (hI : Inv σ) : XI l D ad cy A sa yX5_shiftsByAll cX5_shiftsByAll 3 (some .int) 8 3 σ [.ref (ad 0 0), .int x, .int y] (fun r σ' => K_byAll σ x y = 0 ∧ r = valS σ (ix x) (ix y) ∧ SameC σ σ') (fun E u => σ = u ∧ pxK [IOOBE, ISE] (K_byAll σ x y) E) := by
  refine XI.mk "FretSchool" (by decide) rfl (Nat.le_of_ble_eq_true rfl) rfl ?_
  intro p e s m args below meth c C hex
  change Z _ _ _ _ _ _ _ _ _ _ _ _ _ _ _ _ _ _ _ [some (.ref (ad 0 0)), some (.int x), some (.int y)] 0 []
  refine z_aload_n C dX5_shiftsByAll_0 rfl ?_
  refine z_iload_n C dX5_shiftsByAll_1 rfl ?_
  refine y_cvv C (As := [_]) (c_X5_needPiece) okX5_needPiece wd281 rc_0 (rok (by decide) (by decide)) ⟨Nat.le_of_ble_eq_true rfl, Nat.le_of_ble_eq_true rfl⟩ rfl (Nat.le_of_ble_eq_true rfl) dX5_shiftsByAll_2 (x_on C hex (by decide) (by decide) (fun E u h => ⟨h.1, by unfold K_byAll; rw [if_pos (Or.inl h.2.2)]; exact ⟨by decide, congrArg some h.2.1.symm⟩⟩)) ?_
  rintro _ ⟨rfl, hr2⟩
  obtain ⟨np, hnp, enp⟩ := hI.1
  rw [enp] at hr2
  obtain ⟨ep, hp1, hp2⟩ := nbad hnp (by decide) hr2
  rw [← enp] at hr2
  obtain ⟨ecp, hcp⟩ := hI.2.2.2.1 (ix x) hp2
  refine z_aload_n C dX5_shiftsByAll_5 rfl ?_
  refine z_iload_n C dX5_shiftsByAll_6 rfl ?_
  refine y_cvv C (As := [_]) (c_X5_needInstrument) okX5_needInstrument wd365 rc_0 (rok (by decide) (by decide)) ⟨Nat.le_of_ble_eq_true rfl, Nat.le_of_ble_eq_true rfl⟩ rfl (Nat.le_of_ble_eq_true rfl) dX5_shiftsByAll_7 (x_on C hex (by decide) (by decide) (fun E u h => ⟨h.1, by unfold K_byAll; rw [if_pos (Or.inr h.2.2)]; exact ⟨by decide, congrArg some h.2.1.symm⟩⟩)) ?_
  rintro _ ⟨rfl, hr7⟩
  obtain ⟨nq, hnq, enq⟩ := hI.2.1
  rw [enq] at hr7
  obtain ⟨eq, hq1, hq2⟩ := nbad hnq (by decide) hr7
  rw [← enq] at hr7
  obtain ⟨efq, hfq4, hfq16⟩ := hI.fr hq2 (by rw [enq]; exact nI_lt hq1 (by omega))
  refine z_aload_n C dX5_shiftsByAll_10 rfl ?_
  refine g_0_0 C wd157 dX5_shiftsByAll_11 ?_
  refine z_iload_n C dX5_shiftsByAll_14 rfl ?_
  refine a_1 C (by assumption) (by first | assumption | omega) dX5_shiftsByAll_15 ?_
  refine g_11_1 hp2 C wd64 dX5_shiftsByAll_16 ?_
  refine z_iconst C (v := 4) dX5_shiftsByAll_19 (by decide) ?_
  refine z_icmp_le C 33 dX5_shiftsByAll_20 (by decide) (fun c_20 => ?_) (fun c_20 => ?_)
  · refine z_aload_n C dX5_shiftsByAll_33 rfl ?_
    refine g_0_5 C wd162 dX5_shiftsByAll_34 ?_
    refine z_aload_n C dX5_shiftsByAll_37 rfl ?_
    refine g_0_0 C wd157 dX5_shiftsByAll_38 ?_
    refine z_iload_n C dX5_shiftsByAll_41 rfl ?_
    refine a_1 C ep hp2 dX5_shiftsByAll_42 ?_
    refine z_aload_n C dX5_shiftsByAll_43 rfl ?_
    refine g_0_1 C wd158 dX5_shiftsByAll_44 ?_
    refine z_iload_n C dX5_shiftsByAll_47 rfl ?_
    refine a_2 C eq hq2 dX5_shiftsByAll_48 ?_
    refine z_cvi C (As := [_, _]) (c_X0_leastByAll hp2 hq2 ecp hcp efq hfq4 hfq16 (by rw [ecp, show (4 : Int32) = nI 4 from rfl, nI_leI (by omega) (by omega)] at c_20; exact c_20)) okX0_leastByAll wd434 rc_6 (rok (by decide) (by decide)) ⟨Nat.le_of_ble_eq_true rfl, Nat.le_of_ble_eq_true rfl⟩ rfl (Nat.le_of_ble_eq_true rfl) dX5_shiftsByAll_49 ?_
    rintro r49 σ2 ⟨hfr, e49⟩
    refine y_ret (by decide) (by decide) ?_
    refine z_iret C dX5_shiftsByAll_52 ?_
    refine ⟨by unfold K_byAll; rw [if_neg (fun h => h.elim hr2 hr7), if_neg (fun h => h c_20)], ?_, fun a b c0 _ h7 _ _ => hfr a b c0 h7⟩
    rw [e49]
    have hTl := tot_le (PFs σ (ix x) (ix y)) (cN σ (ix x))
    unfold valS
    by_cases hp : PL σ (ix x) (ix y)
    · rw [if_pos hp, if_neg (fun h => h.elim (fun q => absurd hp.1 (Nat.not_lt.mpr (Nat.le_of_eq q))) (fun q => absurd hp.2 (Nat.not_lt.mpr (Nat.le_of_eq q.symm))))]
    · rw [if_neg hp, if_pos (by
        rcases Nat.eq_zero_or_pos (cN σ (ix x)) with q | q
        · exact Or.inl q
        · right
          rcases Nat.lt_or_ge (BT σ (ix x) (ix y)) FARn with q2 | q2
          · exact absurd ⟨q, q2⟩ hp
          · exact Nat.le_antisymm hTl q2)]
  · refine y_ise C hex (tx := "the piece has more than 4 notes") (List.mem_of_getElem? (i := 7) rfl) dX5_shiftsByAll_23 dX5_shiftsByAll_26 dX5_shiftsByAll_27 dX5_shiftsByAll_29 dX5_shiftsByAll_32 ⟨Nat.le_of_ble_eq_true rfl, Nat.le_of_ble_eq_true rfl⟩ (by decide) (by decide) ?_
    exact ⟨rfl, by unfold K_byAll; rw [if_neg (fun h => h.elim hr2 hr7), if_pos c_20]; exact ⟨by decide, rfl⟩⟩
noncomputable def K_note (σ : St) (p k q : Int32) : Nat := by classical exact if bad p (σ 0 0 6) ∨ bad k (σ 11 (ix p) 1) ∨ bad q (σ 0 0 7) then 1 else 0
noncomputable def valP (σ : St) (j i q : Nat) : Int32 := if PL σ j q then nI (RW σ j q i) else -1
noncomputable def valT (σ : St) (j i q : Nat) : Int32 := if PL σ j q then lowS (σ 12 j i) (σ 14 q) (nI (RW σ j q i)) else -1
theorem K_note_0 {σ : St} {p k q : Int32} (h1 : ¬ bad p (σ 0 0 6)) (h3 : ¬ bad k (σ 11 (ix p) 1)) (h2 : ¬ bad q (σ 0 0 7)) : K_note σ p k q = 0 := by unfold K_note; rw [if_neg (fun h => h.elim h1 (fun h => h.elim h3 h2))]
set_option maxRecDepth 100000 in
set_option maxHeartbeats 4000000 in
theorem c_X5_position {l : Launch} {D : va_G} {ad : Nat → Nat → Nat} {cy : Nat → ClassId} {A : Nat → Prop} {sa : Nat → Nat} {σ : St} {x y z : Int32} (hI : Inv σ) : XI l D ad cy A sa yX5_position cX5_position 4 (some .int) 6 4 σ [.ref (ad 0 0), .int x, .int y, .int z] (fun r σ' => K_note σ x y z = 0 ∧ r = valP σ (ix x) (ix y) (ix z) ∧ SameC σ σ') (fun E u => σ = u ∧ pxK [IOOBE] (K_note σ x y z) E) := by
  refine XI.mk "FretSchool" (by decide) rfl (Nat.le_of_ble_eq_true rfl) rfl ?_
  intro p e s m args below meth c C hex
  change Z _ _ _ _ _ _ _ _ _ _ _ _ _ _ _ _ _ _ _ [some (.ref (ad 0 0)), some (.int x), some (.int y), some (.int z)] 0 []
  refine z_aload_n C dX5_position_0 rfl ?_
  refine z_iload_n C dX5_position_1 rfl ?_
  refine z_iload_n C dX5_position_2 rfl ?_
  refine y_cvv C (As := [_, _]) (c_X5_needNote hI) okX5_needNote wd353 rc_0 (rok (by decide) (by decide)) ⟨Nat.le_of_ble_eq_true rfl, Nat.le_of_ble_eq_true rfl⟩ rfl (Nat.le_of_ble_eq_true rfl) dX5_position_3 (x_on C hex (by decide) (by decide) (fun E u h => ⟨h.1, by unfold K_note; rw [if_pos (h.2.2.elim Or.inl (fun q => Or.inr (Or.inl q)))]; exact ⟨by decide, congrArg some h.2.1.symm⟩⟩)) ?_
  rintro _ ⟨rfl, hrp, hrk⟩
  obtain ⟨np, hnp, enp⟩ := hI.1
  rw [enp] at hrp
  obtain ⟨ep, hp1, hp2⟩ := nbad hnp (by decide) hrp
  rw [← enp] at hrp
  obtain ⟨ecp, hcp⟩ := hI.2.2.2.1 (ix x) hp2
  rw [ecp] at hrk
  obtain ⟨ek, hk1, hk2⟩ := nbad hcp (by decide) hrk
  rw [← ecp] at hrk
  refine z_aload_n C dX5_position_6 rfl ?_
  refine z_iload_n C dX5_position_7 rfl ?_
  refine z_iload_n C dX5_position_8 rfl ?_
  refine y_cvi C (As := [_, _]) (c_X5_findBest hI) okX5_findBest wd384 rc_0 (rok (by decide) (by decide)) ⟨Nat.le_of_ble_eq_true rfl, Nat.le_of_ble_eq_true rfl⟩ rfl (Nat.le_of_ble_eq_true rfl) dX5_position_9 (x_on C hex (by decide) (by decide) (fun E u h => ⟨h.1, by unfold K_note; rw [if_pos (h.2.2.elim Or.inl (fun q => Or.inr (Or.inr q)))]; exact ⟨by decide, congrArg some h.2.1.symm⟩⟩)) ?_
  rintro r9 σ2 ⟨hvp, hvq, hsm, hbq⟩
  refine z_if_eq C 27 dX5_position_12 (by decide) (fun c_12 => ?_) (fun c_12 => ?_)
  · refine z_iconst C (v := (-1)) dX5_position_27 (by decide) ?_
    refine y_ret (by decide) (by decide) ?_
    refine z_iret C dX5_position_28 ?_
    refine ⟨K_note_0 hrp hrk hvq, ?_, hsm⟩
    rcases hbq with ⟨h1, h2, h3, h4, h5⟩ | ⟨h1, h2⟩
    · rw [h1] at c_12; exact absurd c_12 (by decide)
    · unfold valP; rw [if_neg h2]
  · refine z_aload_n C dX5_position_15 rfl ?_
    refine g_0_5 C wd162 dX5_position_16 ?_
    refine g_6_2 C wd141 dX5_position_19 ?_
    refine z_iload_n C dX5_position_22 rfl ?_
    refine a_9 C ek (by omega) dX5_position_23 ?_
    refine z_goto C 28 dX5_position_24 (by decide) ?_
    refine y_ret (by decide) (by decide) ?_
    refine z_iret C dX5_position_28 ?_
    refine ⟨K_note_0 hrp hrk hvq, ?_, hsm⟩
    rcases hbq with ⟨h1, h2, h3, h4, h5⟩ | ⟨h1, h2⟩
    · unfold valP; rw [if_pos h2, h5 _ hk1]
    · exact absurd h1 c_12
set_option maxRecDepth 100000 in
set_option maxHeartbeats 4000000 in
theorem c_X5_string {l : Launch} {D : va_G} {ad : Nat → Nat → Nat} {cy : Nat → ClassId} {A : Nat → Prop} {sa : Nat → Nat} {σ : St} {x y z : Int32} (hI : Inv σ) : XI l D ad cy A sa yX5_string cX5_string 4 (some .int) 6 4 σ [.ref (ad 0 0), .int x, .int y, .int z] (fun r σ' => K_note σ x y z = 0 ∧ r = valT σ (ix x) (ix y) (ix z) ∧ SameC σ σ') (fun E u => σ = u ∧ pxK [IOOBE] (K_note σ x y z) E) := by
  refine XI.mk "FretSchool" (by decide) rfl (Nat.le_of_ble_eq_true rfl) rfl ?_
  intro p e s m args below meth c C hex
  change Z _ _ _ _ _ _ _ _ _ _ _ _ _ _ _ _ _ _ _ [some (.ref (ad 0 0)), some (.int x), some (.int y), some (.int z)] 0 []
  refine z_aload_n C dX5_string_0 rfl ?_
  refine z_iload_n C dX5_string_1 rfl ?_
  refine z_iload_n C dX5_string_2 rfl ?_
  refine y_cvv C (As := [_, _]) (c_X5_needNote hI) okX5_needNote wd353 rc_0 (rok (by decide) (by decide)) ⟨Nat.le_of_ble_eq_true rfl, Nat.le_of_ble_eq_true rfl⟩ rfl (Nat.le_of_ble_eq_true rfl) dX5_string_3 (x_on C hex (by decide) (by decide) (fun E u h => ⟨h.1, by unfold K_note; rw [if_pos (h.2.2.elim Or.inl (fun q => Or.inr (Or.inl q)))]; exact ⟨by decide, congrArg some h.2.1.symm⟩⟩)) ?_
  rintro _ ⟨rfl, hrp, hrk⟩
  obtain ⟨np, hnp, enp⟩ := hI.1
  rw [enp] at hrp
  obtain ⟨ep, hp1, hp2⟩ := nbad hnp (by decide) hrp
  rw [← enp] at hrp
  obtain ⟨ecp, hcp⟩ := hI.2.2.2.1 (ix x) hp2
  rw [ecp] at hrk
  obtain ⟨ek, hk1, hk2⟩ := nbad hcp (by decide) hrk
  rw [← ecp] at hrk
  refine z_aload_n C dX5_string_6 rfl ?_
  refine z_iload_n C dX5_string_7 rfl ?_
  refine z_iload_n C dX5_string_8 rfl ?_
  refine y_cvi C (As := [_, _]) (c_X5_findBest hI) okX5_findBest wd384 rc_0 (rok (by decide) (by decide)) ⟨Nat.le_of_ble_eq_true rfl, Nat.le_of_ble_eq_true rfl⟩ rfl (Nat.le_of_ble_eq_true rfl) dX5_string_9 (x_on C hex (by decide) (by decide) (fun E u h => ⟨h.1, by unfold K_note; rw [if_pos (h.2.2.elim Or.inl (fun q => Or.inr (Or.inr q)))]; exact ⟨by decide, congrArg some h.2.1.symm⟩⟩)) ?_
  rintro r9 σ2 ⟨hvp, hvq, hsm, hbq⟩
  obtain ⟨nq, hnq, enq⟩ := hI.2.1
  rw [enq] at hvq
  obtain ⟨eq, hq1, hq2⟩ := nbad hnq (by decide) hvq
  rw [← enq] at hvq
  obtain ⟨efq, hfq4, hfq16⟩ := hI.fr hq2 (by rw [enq]; exact nI_lt hq1 (by omega))
  refine z_if_ne C 17 dX5_string_12 (by decide) (fun c_12 => ?_) (fun c_12 => ?_)
  · refine z_aload_n C dX5_string_17 rfl ?_
    refine g_0_1 C wd158 dX5_string_18 ?_
    refine z_iload_n C dX5_string_21 rfl ?_
    refine a_2 C eq hq2 dX5_string_22 ?_
    refine z_aload_n C dX5_string_23 rfl ?_
    refine g_0_0 C wd157 dX5_string_24 ?_
    refine z_iload_n C dX5_string_27 rfl ?_
    refine a_1 C ep hp2 dX5_string_28 ?_
    refine g_11_0 hp2 C wd61 dX5_string_29 ?_
    refine z_iload_n C dX5_string_32 rfl ?_
    refine a_12 hp2 C ek (by omega) dX5_string_33 ?_
    refine z_aload_n C dX5_string_34 rfl ?_
    refine g_0_5 C wd162 dX5_string_35 ?_
    refine g_6_2 C wd141 dX5_string_38 ?_
    refine z_iload_n C dX5_string_41 rfl ?_
    refine a_9 C ek (by omega) dX5_string_42 ?_
    refine z_cvi C (As := [_, _]) (c_X1_lowestString hq2) okX1_lowestString wd462 (rc_13 hq2) (rok (by decide) (by decide)) ⟨Nat.le_of_ble_eq_true rfl, Nat.le_of_ble_eq_true rfl⟩ rfl (Nat.le_of_ble_eq_true rfl) dX5_string_43 ?_
    rintro r43 _ ⟨rfl, e43⟩
    refine y_ret (by decide) (by decide) ?_
    refine z_iret C dX5_string_46 ?_
    refine ⟨K_note_0 hrp hrk hvq, ?_, hsm⟩
    rcases hbq with ⟨h1, h2, h3, h4, h5⟩ | ⟨h1, h2⟩
    · unfold valT; rw [if_pos h2, e43, h5 _ hk1, hsm 12 (ix x) (ix y) (by decide) (by decide) (by decide) (by decide), show σ2 14 (ix z) = σ 14 (ix z) from funext fun a => hsm 14 (ix z) a (by decide) (by decide) (by decide) (by decide)]
    · exact absurd h1 c_12
  · refine z_iconst C (v := (-1)) dX5_string_15 (by decide) ?_
    refine y_ret (by decide) (by decide) ?_
    refine z_iret C dX5_string_16 ?_
    refine ⟨K_note_0 hrp hrk hvq, ?_, hsm⟩
    rcases hbq with ⟨h1, h2, h3, h4, h5⟩ | ⟨h1, h2⟩
    · rw [h1] at c_12; exact absurd c_12 (by decide)
    · unfold valT; rw [if_neg h2]
noncomputable def lsV (σ : St) (w : Int32) (j q : Nat) : Int32 := if σ 13 q 1 = w ∧ PL σ j q ∧ ¬ σ 15 (ix w) 0 < nI (HG σ j q) then nI (HG σ j q) else -1
theorem SameC.ePL {σ σ' : St} (h : SameC σ σ') (j q : Nat) : PL σ' j q = PL σ j q := by unfold PL BT; rw [h.PF, h.ecN]
theorem SameC.eHG {σ σ' : St} (h : SameC σ σ') (j q : Nat) : HG σ' j q = HG σ j q := by unfold HG; rw [h.PF, h.ecN]
theorem SameC.els {σ σ' : St} (h : SameC σ σ') (w : Int32) (j q : Nat) : lsV σ' w j q = lsV σ w j q := by
  unfold lsV
  have e1 := h.ePL j q
  have e2 := h.eHG j q
  have e3 := h 13 q 1 (by decide) (by decide) (by decide) (by decide)
  have e4 := h 15 (ix w) 0 (by decide) (by decide) (by decide) (by decide)
  by_cases c : σ 13 q 1 = w ∧ PL σ j q ∧ ¬ σ 15 (ix w) 0 < nI (HG σ j q)
  · rw [if_pos c, if_pos (by rw [e1, e2, e3, e4]; exact c), e2]
  · rw [if_neg c, if_neg (by rw [e1, e2, e3, e4]; exact c)]
set_option maxRecDepth 100000 in
set_option maxHeartbeats 4000000 in
theorem c_X5_learnableShift {l : Launch} {D : va_G} {ad : Nat → Nat → Nat} {cy : Nat → ClassId} {A : Nat → Prop} {sa : Nat → Nat} {σ : St} {w x y : Int32} (hI : Inv σ) (hw : w = nI (ix w)) (hw5 : ix w < 5) (hr2 : ¬ bad x (σ 0 0 6)) (hr7 : ¬ bad y (σ 0 0 7)) : MI l D ad cy A sa yX5_learnableShift cX5_learnableShift 4 (some .int) 6 σ [.ref (ad 0 0), .int w, .int x, .int y] (fun r σ' => SameC σ σ' ∧ r = lsV σ w (ix x) (ix y)) := by
  refine MI.mk "FretSchool" (by decide) rfl (Nat.le_of_ble_eq_true rfl) rfl ?_
  intro p e s m args below meth c C
  change Z _ _ _ _ _ _ _ _ _ _ _ _ _ _ _ _ _ _ _ [some (.ref (ad 0 0)), some (.int w), some (.int x), some (.int y)] 0 []
  obtain ⟨nq, hnq, enq⟩ := hI.2.1
  rw [enq] at hr7
  obtain ⟨eq, hq1, hq2⟩ := nbad hnq (by decide) hr7
  rw [← enq] at hr7
  obtain ⟨efq, hfq4, hfq16⟩ := hI.fr hq2 (by rw [enq]; exact nI_lt hq1 (by omega))
  refine z_aload_n C dX5_learnableShift_0 rfl ?_
  refine g_0_1 C wd158 dX5_learnableShift_1 ?_
  refine z_iload_n C dX5_learnableShift_4 rfl ?_
  refine a_2 C eq hq2 dX5_learnableShift_5 ?_
  refine g_13_1 hq2 C wd81 dX5_learnableShift_6 ?_
  refine z_iload_n C dX5_learnableShift_9 rfl ?_
  refine z_icmp_ne C 22 dX5_learnableShift_10 (by decide) (fun c_10 => ?_) (fun c_10 => ?_)
  · refine z_iconst C (v := (-1)) dX5_learnableShift_22 (by decide) ?_
    refine z_iret C dX5_learnableShift_23 ?_
    exact ⟨SameC.rf, by unfold lsV; rw [if_neg (fun q => c_10 q.1)]⟩
  · refine z_aload_n C dX5_learnableShift_13 rfl ?_
    refine z_iload_n C dX5_learnableShift_14 rfl ?_
    refine z_iload_n C dX5_learnableShift_15 rfl ?_
    refine z_cvi C (As := [_, _]) (k_X5_findBest hI hr2 hr7) okX5_findBest wd384 rc_0 (rok (by decide) (by decide)) ⟨Nat.le_of_ble_eq_true rfl, Nat.le_of_ble_eq_true rfl⟩ rfl (Nat.le_of_ble_eq_true rfl) dX5_learnableShift_16 ?_
    rintro r16 σ2 ⟨hsm, hbq⟩
    refine z_if_ne C 24 dX5_learnableShift_19 (by decide) (fun c_19 => ?_) (fun c_19 => ?_)
    · refine z_aload_n C dX5_learnableShift_24 rfl ?_
      refine g_0_5 C wd162 dX5_learnableShift_25 ?_
      refine g_6_4 C wd145 dX5_learnableShift_28 ?_
      refine z_aload_n C dX5_learnableShift_31 rfl ?_
      refine g_0_2 C wd159 dX5_learnableShift_32 ?_
      refine z_iload_n C dX5_learnableShift_35 rfl ?_
      refine a_3 C hw hw5 dX5_learnableShift_36 ?_
      refine g_15_0 hw5 C wd98 dX5_learnableShift_37 ?_
      refine z_icmp_gt C 53 dX5_learnableShift_40 (by decide) (fun c_40 => ?_) (fun c_40 => ?_)
      · refine z_iconst C (v := (-1)) dX5_learnableShift_53 (by decide) ?_
        refine z_iret C dX5_learnableShift_54 ?_
        refine ⟨hsm, ?_⟩
        rcases hbq with ⟨h1, h2, h3, h4, h5⟩ | ⟨h1, h2⟩
        · rw [h4, hsm 15 (ix w) 0 (by decide) (by decide) (by decide) (by decide)] at c_40
          unfold lsV
          rw [if_neg (fun q => q.2.2 c_40)]
        · exact absurd h1 c_19
      · refine z_aload_n C dX5_learnableShift_43 rfl ?_
        refine g_0_5 C wd162 dX5_learnableShift_44 ?_
        refine g_6_4 C wd145 dX5_learnableShift_47 ?_
        refine z_goto C 54 dX5_learnableShift_50 (by decide) ?_
        refine z_iret C dX5_learnableShift_54 ?_
        refine ⟨hsm, ?_⟩
        rcases hbq with ⟨h1, h2, h3, h4, h5⟩ | ⟨h1, h2⟩
        · rw [h4, hsm 15 (ix w) 0 (by decide) (by decide) (by decide) (by decide)] at c_40
          unfold lsV
          rw [if_pos ⟨c_10, h2, c_40⟩, h4]
        · exact absurd h1 c_19
    · refine z_iconst C (v := (-1)) dX5_learnableShift_22 (by decide) ?_
      refine z_iret C dX5_learnableShift_23 ?_
      refine ⟨hsm, ?_⟩
      rcases hbq with ⟨h1, h2, h3, h4, h5⟩ | ⟨h1, h2⟩
      · rw [h1] at c_19; exact absurd c_19 (by decide)
      · unfold lsV; rw [if_neg (fun q => h2 q.2.1)]
end
section
/-! ===== the class FretSchool: the rest ===== -/
noncomputable def K_pitch (σ : St) (p k : Int32) : Nat := by classical exact if bad p (σ 0 0 6) ∨ bad k (σ 11 (ix p) 1) then 1 else 0
noncomputable def K_inst (σ : St) (q : Int32) : Nat := by classical exact if bad q (σ 0 0 7) then 1 else 0
noncomputable def K_tune (σ : St) (q t x : Int32) : Nat := by classical exact if bad q (σ 0 0 7) then 1 else if outR t 0 3 ∨ outR x 0 60 then 2 else 0
noncomputable def K_pupil (w : Int32) : Nat := by classical exact if outR w 0 4 then 1 else 0
def canMv (σ : St) (j : Nat) (x : Int32) : Prop := ∀ k, k < cN σ j → okP (σ 12 j k + x)
noncomputable def K_trans (σ : St) (p x : Int32) : Nat := by classical exact if bad p (σ 0 0 6) then 1 else if outR x (-40) 40 then 2 else if ¬ canMv σ (ix p) x then 3 else 0
noncomputable def K_wood (w x : Int32) : Nat := by classical exact if outR w 0 3 ∨ outR x 1 20 then 1 else 0
noncomputable def K_ready (σ : St) (r : Int32) : Nat := by classical exact if bad r (σ 0 0 8) then 1 else 0
noncomputable def K_pass (σ : St) (x : Int32) : Nat := by classical exact if outR x 1 100 then 1 else if ¬ σ 0 0 9 + x ≤ 5000 then 2 else 0
set_option maxRecDepth 100000 in
set_option maxHeartbeats 4000000 in
theorem c_X5_pitch {l : Launch} {D : va_G} {ad : Nat → Nat → Nat} {cy : Nat → ClassId} {A : Nat → Prop} {sa : Nat → Nat} {σ : St} {x y : Int32} (hI : Inv σ) : XI l D ad cy A sa yX5_pitch cX5_pitch 3 (some .int) 2 2 σ [.ref (ad 0 0), .int x, .int y] (fun r σ' => K_pitch σ x y = 0 ∧ r = σ 12 (ix x) (ix y) ∧ σ = σ') (fun E u => σ = u ∧ pxK [IOOBE] (K_pitch σ x y) E) := by
  refine XI.mk "FretSchool" (by decide) rfl (Nat.le_of_ble_eq_true rfl) rfl ?_
  intro p e s m args below meth c C hex
  change Z _ _ _ _ _ _ _ _ _ _ _ _ _ _ _ _ _ _ _ [some (.ref (ad 0 0)), some (.int x), some (.int y)] 0 []
  refine z_aload_n C dX5_pitch_0 rfl ?_
  refine z_iload_n C dX5_pitch_1 rfl ?_
  refine z_iload_n C dX5_pitch_2 rfl ?_
  refine y_cvv C (As := [_, _]) (c_X5_needNote hI) okX5_needNote wd353 rc_0 (rok (by decide) (by decide)) ⟨Nat.le_of_ble_eq_true rfl, Nat.le_of_ble_eq_true rfl⟩ rfl (Nat.le_of_ble_eq_true rfl) dX5_pitch_3 (x_on C hex (by decide) (by decide) (fun E u h => ⟨h.1, by unfold K_pitch; rw [if_pos h.2.2]; exact ⟨by decide, congrArg some h.2.1.symm⟩⟩)) ?_
  rintro _ ⟨rfl, hrp, hrk⟩
  obtain ⟨np, hnp, enp⟩ := hI.1
  rw [enp] at hrp
  obtain ⟨ep, hp1, hp2⟩ := nbad hnp (by decide) hrp
  rw [← enp] at hrp
  obtain ⟨ecp, hcp⟩ := hI.2.2.2.1 (ix x) hp2
  rw [ecp] at hrk
  obtain ⟨ek, hk1, hk2⟩ := nbad hcp (by decide) hrk
  rw [← ecp] at hrk
  refine z_aload_n C dX5_pitch_6 rfl ?_
  refine g_0_0 C wd157 dX5_pitch_7 ?_
  refine z_iload_n C dX5_pitch_10 rfl ?_
  refine a_1 C ep hp2 dX5_pitch_11 ?_
  refine g_11_0 hp2 C wd61 dX5_pitch_12 ?_
  refine z_iload_n C dX5_pitch_15 rfl ?_
  refine a_12 hp2 C ek (by omega) dX5_pitch_16 ?_
  refine y_ret (by decide) (by decide) ?_
  refine z_iret C dX5_pitch_17 ?_
  exact ⟨by unfold K_pitch; rw [if_neg (fun h => h.elim hrp hrk)], rfl, rfl⟩
set_option maxRecDepth 100000 in
set_option maxHeartbeats 4000000 in
theorem c_X5_owner {l : Launch} {D : va_G} {ad : Nat → Nat → Nat} {cy : Nat → ClassId} {A : Nat → Prop} {sa : Nat → Nat} {σ : St} {x : Int32} (hI : Inv σ) : XI l D ad cy A sa yX5_owner cX5_owner 2 (some .int) 1 1 σ [.ref (ad 0 0), .int x] (fun r σ' => K_inst σ x = 0 ∧ r = σ 13 (ix x) 1 ∧ σ = σ') (fun E u => σ = u ∧ pxK [IOOBE] (K_inst σ x) E) := by
  refine XI.mk "FretSchool" (by decide) rfl (Nat.le_of_ble_eq_true rfl) rfl ?_
  intro p e s m args below meth c C hex
  change Z _ _ _ _ _ _ _ _ _ _ _ _ _ _ _ _ _ _ _ [some (.ref (ad 0 0)), some (.int x)] 0 []
  refine z_aload_n C dX5_owner_0 rfl ?_
  refine z_iload_n C dX5_owner_1 rfl ?_
  refine y_cvv C (As := [_]) (c_X5_needInstrument) okX5_needInstrument wd365 rc_0 (rok (by decide) (by decide)) ⟨Nat.le_of_ble_eq_true rfl, Nat.le_of_ble_eq_true rfl⟩ rfl (Nat.le_of_ble_eq_true rfl) dX5_owner_2 (x_on C hex (by decide) (by decide) (fun E u h => ⟨h.1, by unfold K_inst; rw [if_pos h.2.2]; exact ⟨by decide, congrArg some h.2.1.symm⟩⟩)) ?_
  rintro _ ⟨rfl, hr2⟩
  obtain ⟨nq, hnq, enq⟩ := hI.2.1
  rw [enq] at hr2
  obtain ⟨eq, hq1, hq2⟩ := nbad hnq (by decide) hr2
  rw [← enq] at hr2
  obtain ⟨efq, hfq4, hfq16⟩ := hI.fr hq2 (by rw [enq]; exact nI_lt hq1 (by omega))
  refine z_aload_n C dX5_owner_5 rfl ?_
  refine g_0_1 C wd158 dX5_owner_6 ?_
  refine z_iload_n C dX5_owner_9 rfl ?_
  refine a_2 C eq hq2 dX5_owner_10 ?_
  refine g_13_1 hq2 C wd81 dX5_owner_11 ?_
  refine y_ret (by decide) (by decide) ?_
  refine z_iret C dX5_owner_14 ?_
  exact ⟨by unfold K_inst; rw [if_neg hr2], rfl, rfl⟩
set_option maxRecDepth 100000 in
set_option maxHeartbeats 4000000 in
theorem c_X5_instruments {l : Launch} {D : va_G} {ad : Nat → Nat → Nat} {cy : Nat → ClassId} {A : Nat → Prop} {sa : Nat → Nat} {σ : St} : MI l D ad cy A sa yX5_instruments cX5_instruments 1 (some .int) 0 σ [.ref (ad 0 0)] (fun r σ' => r = σ 0 0 7 ∧ σ = σ') := by
  refine MI.mk "FretSchool" (by decide) rfl (Nat.le_of_ble_eq_true rfl) rfl ?_
  intro p e s m args below meth c C
  change Z _ _ _ _ _ _ _ _ _ _ _ _ _ _ _ _ _ _ _ [some (.ref (ad 0 0))] 0 []
  refine z_aload_n C dX5_instruments_0 rfl ?_
  refine g_0_7 C wd164 dX5_instruments_1 ?_
  refine z_iret C dX5_instruments_4 ?_
  exact ⟨rfl, rfl⟩
set_option maxRecDepth 100000 in
set_option maxHeartbeats 4000000 in
theorem c_X5_today {l : Launch} {D : va_G} {ad : Nat → Nat → Nat} {cy : Nat → ClassId} {A : Nat → Prop} {sa : Nat → Nat} {σ : St} : MI l D ad cy A sa yX5_today cX5_today 1 (some .int) 0 σ [.ref (ad 0 0)] (fun r σ' => r = σ 0 0 9 ∧ σ = σ') := by
  refine MI.mk "FretSchool" (by decide) rfl (Nat.le_of_ble_eq_true rfl) rfl ?_
  intro p e s m args below meth c C
  change Z _ _ _ _ _ _ _ _ _ _ _ _ _ _ _ _ _ _ _ [some (.ref (ad 0 0))] 0 []
  refine z_aload_n C dX5_today_0 rfl ?_
  refine g_0_9 C wd166 dX5_today_1 ?_
  refine z_iret C dX5_today_4 ?_
  exact ⟨rfl, rfl⟩
set_option maxRecDepth 100000 in
set_option maxHeartbeats 4000000 in
theorem c_X5_tune {l : Launch} {D : va_G} {ad : Nat → Nat → Nat} {cy : Nat → ClassId} {A : Nat → Prop} {sa : Nat → Nat} {σ : St} {x y z : Int32} (hI : Inv σ) : XI l D ad cy A sa yX5_tune cX5_tune 6 (some .int) 1 3 σ [.ref (ad 0 0), .int x, .int y, .int z] (fun r σ' => K_tune σ x y z = 0 ∧ r = σ 14 (ix x) (ix y) ∧ up σ 14 (ix x) (ix y) z = σ') (fun E u => σ = u ∧ pxK [IOOBE, IAE] (K_tune σ x y z) E) := by
  refine XI.mk "FretSchool" (by decide) rfl (Nat.le_of_ble_eq_true rfl) rfl ?_
  intro p e s m args below meth c C hex
  change Z _ _ _ _ _ _ _ _ _ _ _ _ _ _ _ _ _ _ _ [some (.ref (ad 0 0)), some (.int x), some (.int y), some (.int z), none, none] 0 []
  refine z_aload_n C dX5_tune_0 rfl ?_
  refine z_iload_n C dX5_tune_1 rfl ?_
  refine y_cvv C (As := [_]) (c_X5_needInstrument) okX5_needInstrument wd365 rc_0 (rok (by decide) (by decide)) ⟨Nat.le_of_ble_eq_true rfl, Nat.le_of_ble_eq_true rfl⟩ rfl (Nat.le_of_ble_eq_true rfl) dX5_tune_2 (x_on C hex (by decide) (by decide) (fun E u h => ⟨h.1, by unfold K_tune; rw [if_pos h.2.2]; exact ⟨by decide, congrArg some h.2.1.symm⟩⟩)) ?_
  rintro _ ⟨rfl, hr2⟩
  obtain ⟨nq, hnq, enq⟩ := hI.2.1
  rw [enq] at hr2
  obtain ⟨eq, hq1, hq2⟩ := nbad hnq (by decide) hr2
  rw [← enq] at hr2
  obtain ⟨efq, hfq4, hfq16⟩ := hI.fr hq2 (by rw [enq]; exact nI_lt hq1 (by omega))
  refine z_iload_n C dX5_tune_5 rfl ?_
  refine z_iconst C (v := 0) dX5_tune_6 (by decide) ?_
  refine z_iconst C (v := 3) dX5_tune_7 (by decide) ?_
  refine y_csv C (As := [_, _, _]) (c_X5_needRange) okX5_needRange wd301 (rok (by decide) (by decide)) ⟨Nat.le_of_ble_eq_true rfl, Nat.le_of_ble_eq_true rfl⟩ rfl (Nat.le_of_ble_eq_true rfl) dX5_tune_8 (x_on C hex (by decide) (by decide) (fun E u h => ⟨h.1, by unfold K_tune; rw [if_neg hr2, if_pos (Or.inl h.2.2)]; exact ⟨by decide, congrArg some h.2.1.symm⟩⟩)) ?_
  rintro _ ⟨rfl, hr8⟩
  obtain ⟨et, ht3⟩ := nout (n := 3) (by decide) hr8
  refine z_iload_n C dX5_tune_11 rfl ?_
  refine z_iconst C (v := 0) dX5_tune_12 (by decide) ?_
  refine z_bipush C (v := 60) dX5_tune_13 (by decide) ?_
  refine y_csv C (As := [_, _, _]) (c_X5_needRange) okX5_needRange wd301 (rok (by decide) (by decide)) ⟨Nat.le_of_ble_eq_true rfl, Nat.le_of_ble_eq_true rfl⟩ rfl (Nat.le_of_ble_eq_true rfl) dX5_tune_15 (x_on C hex (by decide) (by decide) (fun E u h => ⟨h.1, by unfold K_tune; rw [if_neg hr2, if_pos (Or.inr h.2.2)]; exact ⟨by decide, congrArg some h.2.1.symm⟩⟩)) ?_
  rintro _ ⟨rfl, hr15⟩
  refine z_aload_n C dX5_tune_18 rfl ?_
  refine g_0_1 C wd158 dX5_tune_19 ?_
  refine z_iload_n C dX5_tune_22 rfl ?_
  refine a_2 C eq hq2 dX5_tune_23 ?_
  refine g_13_0 hq2 C wd79 dX5_tune_24 ?_
  refine z_astore C dX5_tune_27 (by decide) ?_
  dsimp only [List.set]
  refine z_aload C dX5_tune_29 rfl ?_
  refine z_iload_n C dX5_tune_31 rfl ?_
  refine a_14 hq2 C et (by omega) dX5_tune_32 ?_
  refine z_istore C dX5_tune_33 (by decide) ?_
  dsimp only [List.set]
  refine z_aload C dX5_tune_35 rfl ?_
  refine z_iload_n C dX5_tune_37 rfl ?_
  refine z_iload_n C dX5_tune_38 rfl ?_
  refine s_14 hq2 C et (by omega) dX5_tune_39 ?_
  refine z_iload C dX5_tune_40 rfl ?_
  refine y_ret (by decide) (by decide) ?_
  refine z_iret C dX5_tune_42 ?_
  exact ⟨by unfold K_tune; rw [if_neg hr2, if_neg (fun h => h.elim hr8 hr15)], rfl, rfl⟩
set_option maxRecDepth 100000 in
set_option maxHeartbeats 4000000 in
theorem c_X5_level {l : Launch} {D : va_G} {ad : Nat → Nat → Nat} {cy : Nat → ClassId} {A : Nat → Prop} {sa : Nat → Nat} {σ : St} {x : Int32} : XI l D ad cy A sa yX5_level cX5_level 2 (some .int) 2 1 σ [.ref (ad 0 0), .int x] (fun r σ' => K_pupil x = 0 ∧ r = σ 15 (ix x) 0 ∧ σ = σ') (fun E u => σ = u ∧ pxK [IAE] (K_pupil x) E) := by
  refine XI.mk "FretSchool" (by decide) rfl (Nat.le_of_ble_eq_true rfl) rfl ?_
  intro p e s m args below meth c C hex
  change Z _ _ _ _ _ _ _ _ _ _ _ _ _ _ _ _ _ _ _ [some (.ref (ad 0 0)), some (.int x)] 0 []
  refine z_iload_n C dX5_level_0 rfl ?_
  refine y_csv C (As := [_]) (c_X5_needPupil) okX5_needPupil wd470 (rok (by decide) (by decide)) ⟨Nat.le_of_ble_eq_true rfl, Nat.le_of_ble_eq_true rfl⟩ rfl (Nat.le_of_ble_eq_true rfl) dX5_level_1 (x_on C hex (by decide) (by decide) (fun E u h => ⟨h.1, by unfold K_pupil; rw [if_pos h.2.2]; exact ⟨by decide, congrArg some h.2.1.symm⟩⟩)) ?_
  rintro _ ⟨rfl, hr1⟩
  obtain ⟨ew, hw4⟩ := nout (n := 4) (by decide) hr1
  have hw5 : ix x < 5 := by omega
  refine z_aload_n C dX5_level_4 rfl ?_
  refine g_0_2 C wd159 dX5_level_5 ?_
  refine z_iload_n C dX5_level_8 rfl ?_
  refine a_3 C ew hw5 dX5_level_9 ?_
  refine g_15_0 hw5 C wd98 dX5_level_10 ?_
  refine y_ret (by decide) (by decide) ?_
  refine z_iret C dX5_level_13 ?_
  exact ⟨by unfold K_pupil; rw [if_neg hr1], rfl, rfl⟩
set_option maxRecDepth 100000 in
set_option maxHeartbeats 4000000 in
theorem c_X5_known {l : Launch} {D : va_G} {ad : Nat → Nat → Nat} {cy : Nat → ClassId} {A : Nat → Prop} {sa : Nat → Nat} {σ : St} {x : Int32} : XI l D ad cy A sa yX5_known cX5_known 2 (some .int) 2 1 σ [.ref (ad 0 0), .int x] (fun r σ' => K_pupil x = 0 ∧ r = σ 15 (ix x) 1 ∧ σ = σ') (fun E u => σ = u ∧ pxK [IAE] (K_pupil x) E) := by
  refine XI.mk "FretSchool" (by decide) rfl (Nat.le_of_ble_eq_true rfl) rfl ?_
  intro p e s m args below meth c C hex
  change Z _ _ _ _ _ _ _ _ _ _ _ _ _ _ _ _ _ _ _ [some (.ref (ad 0 0)), some (.int x)] 0 []
  refine z_iload_n C dX5_known_0 rfl ?_
  refine y_csv C (As := [_]) (c_X5_needPupil) okX5_needPupil wd470 (rok (by decide) (by decide)) ⟨Nat.le_of_ble_eq_true rfl, Nat.le_of_ble_eq_true rfl⟩ rfl (Nat.le_of_ble_eq_true rfl) dX5_known_1 (x_on C hex (by decide) (by decide) (fun E u h => ⟨h.1, by unfold K_pupil; rw [if_pos h.2.2]; exact ⟨by decide, congrArg some h.2.1.symm⟩⟩)) ?_
  rintro _ ⟨rfl, hr1⟩
  obtain ⟨ew, hw4⟩ := nout (n := 4) (by decide) hr1
  have hw5 : ix x < 5 := by omega
  refine z_aload_n C dX5_known_4 rfl ?_
  refine g_0_2 C wd159 dX5_known_5 ?_
  refine z_iload_n C dX5_known_8 rfl ?_
  refine a_3 C ew hw5 dX5_known_9 ?_
  refine g_15_1 hw5 C wd100 dX5_known_10 ?_
  refine y_ret (by decide) (by decide) ?_
  refine z_iret C dX5_known_13 ?_
  exact ⟨by unfold K_pupil; rw [if_neg hr1], rfl, rfl⟩
set_option maxRecDepth 100000 in
set_option maxHeartbeats 4000000 in
theorem c_X5_transpose {l : Launch} {D : va_G} {ad : Nat → Nat → Nat} {cy : Nat → ClassId} {A : Nat → Prop} {sa : Nat → Nat} {σ : St} {x y : Int32} (hI : Inv σ) : XV l D ad cy A sa yX5_transpose cX5_transpose 4 (none : Option Jvm.ClassFile.FieldType) 1 3 σ [.ref (ad 0 0), .int x, .int y] (fun σ' => K_trans σ x y = 0 ∧ mvd σ (ix x) y (cN σ (ix x)) = σ') (fun E u => σ = u ∧ pxK [IOOBE, IAE, ISE] (K_trans σ x y) E) := by
  refine XV.mk "FretSchool" (by decide) rfl (Nat.le_of_ble_eq_true rfl) rfl ?_
  intro p e s m args below meth c C hex
  change Z _ _ _ _ _ _ _ _ _ _ _ _ _ _ _ _ _ _ _ [some (.ref (ad 0 0)), some (.int x), some (.int y), none] 0 []
  refine z_aload_n C dX5_transpose_0 rfl ?_
  refine z_iload_n C dX5_transpose_1 rfl ?_
  refine y_cvv C (As := [_]) (c_X5_needPiece) okX5_needPiece wd281 rc_0 (rok (by decide) (by decide)) ⟨Nat.le_of_ble_eq_true rfl, Nat.le_of_ble_eq_true rfl⟩ rfl (Nat.le_of_ble_eq_true rfl) dX5_transpose_2 (x_on C hex (by decide) (by decide) (fun E u h => ⟨h.1, by unfold K_trans; rw [if_pos h.2.2]; exact ⟨by decide, congrArg some h.2.1.symm⟩⟩)) ?_
  rintro _ ⟨rfl, hr2⟩
  obtain ⟨np, hnp, enp⟩ := hI.1
  rw [enp] at hr2
  obtain ⟨ep, hp1, hp2⟩ := nbad hnp (by decide) hr2
  rw [← enp] at hr2
  obtain ⟨ecp, hcp⟩ := hI.2.2.2.1 (ix x) hp2
  refine z_iload_n C dX5_transpose_5 rfl ?_
  refine z_bipush C (v := (-40)) dX5_transpose_6 (by decide) ?_
  refine z_bipush C (v := 40) dX5_transpose_8 (by decide) ?_
  refine y_csv C (As := [_, _, _]) (c_X5_needRange) okX5_needRange wd301 (rok (by decide) (by decide)) ⟨Nat.le_of_ble_eq_true rfl, Nat.le_of_ble_eq_true rfl⟩ rfl (Nat.le_of_ble_eq_true rfl) dX5_transpose_10 (x_on C hex (by decide) (by decide) (fun E u h => ⟨h.1, by unfold K_trans; rw [if_neg hr2, if_pos h.2.2]; exact ⟨by decide, congrArg some h.2.1.symm⟩⟩)) ?_
  rintro _ ⟨rfl, hr10⟩
  refine z_aload_n C dX5_transpose_13 rfl ?_
  refine g_0_0 C wd157 dX5_transpose_14 ?_
  refine z_iload_n C dX5_transpose_17 rfl ?_
  refine a_1 C ep hp2 dX5_transpose_18 ?_
  refine z_astore_n C dX5_transpose_19 (by decide) ?_
  dsimp only [List.set]
  refine z_aload_n C dX5_transpose_20 rfl ?_
  refine z_iload_n C dX5_transpose_21 rfl ?_
  refine z_cvi C (As := [_]) (c_X3_canMove hp2 ecp hcp) okX3_canMove wd337 (rc_11 hp2) (rok (by decide) (by decide)) ⟨Nat.le_of_ble_eq_true rfl, Nat.le_of_ble_eq_true rfl⟩ rfl (Nat.le_of_ble_eq_true rfl) dX5_transpose_22 ?_
  rintro r22 _ ⟨rfl, hc22⟩
  refine z_if_ne C 38 dX5_transpose_25 (by decide) (fun c_25 => ?_) (fun c_25 => ?_)
  · have hcan : canMv σ (ix x) y := hc22.elim (fun h => h.2) (fun h => absurd h.1 c_25)
    refine z_aload_n C dX5_transpose_38 rfl ?_
    refine z_iload_n C dX5_transpose_39 rfl ?_
    refine z_cvv C (As := [_]) (c_X3_move hp2 ecp hcp) okX3_move wd342 (rc_11 hp2) (rok (by decide) (by decide)) ⟨Nat.le_of_ble_eq_true rfl, Nat.le_of_ble_eq_true rfl⟩ rfl (Nat.le_of_ble_eq_true rfl) dX5_transpose_40 ?_
    rintro _ rfl
    refine y_ret (by decide) (by decide) ?_
    refine z_vret C dX5_transpose_43 ?_
    exact ⟨by unfold K_trans; rw [if_neg hr2, if_neg hr10, if_neg (fun h => h hcan)], rfl⟩
  · have hcan : ¬ canMv σ (ix x) y := hc22.elim (fun h => absurd (h.1.symm.trans c_25) (by decide)) (fun h q => by obtain ⟨k, hk, hn⟩ := h.2; exact hn (q k hk))
    refine y_ise C hex (tx := "some pitch would not be from 0 to 80") (List.mem_of_getElem? (i := 4) rfl) dX5_transpose_28 dX5_transpose_31 dX5_transpose_32 dX5_transpose_34 dX5_transpose_37 ⟨Nat.le_of_ble_eq_true rfl, Nat.le_of_ble_eq_true rfl⟩ (by decide) (by decide) ?_
    exact ⟨rfl, by unfold K_trans; rw [if_neg hr2, if_neg hr10, if_pos hcan]; exact ⟨by decide, rfl⟩⟩
set_option maxRecDepth 100000 in
set_option maxHeartbeats 4000000 in
theorem c_X5_addWood {l : Launch} {D : va_G} {ad : Nat → Nat → Nat} {cy : Nat → ClassId} {A : Nat → Prop} {sa : Nat → Nat} {σ : St} {x y : Int32} : XI l D ad cy A sa yX5_addWood cX5_addWood 3 (some .int) 1 2 σ [.ref (ad 0 0), .int x, .int y] (fun r σ' => K_wood x y = 0 ∧ r = σ 5 0 (ix x) + y ∧ up σ 5 0 (ix x) (σ 5 0 (ix x) + y) = σ') (fun E u => σ = u ∧ pxK [IAE] (K_wood x y) E) := by
  refine XI.mk "FretSchool" (by decide) rfl (Nat.le_of_ble_eq_true rfl) rfl ?_
  intro p e s m args below meth c C hex
  change Z _ _ _ _ _ _ _ _ _ _ _ _ _ _ _ _ _ _ _ [some (.ref (ad 0 0)), some (.int x), some (.int y)] 0 []
  refine z_iload_n C dX5_addWood_0 rfl ?_
  refine z_iconst C (v := 0) dX5_addWood_1 (by decide) ?_
  refine z_iconst C (v := 3) dX5_addWood_2 (by decide) ?_
  refine y_csv C (As := [_, _, _]) (c_X5_needRange) okX5_needRange wd301 (rok (by decide) (by decide)) ⟨Nat.le_of_ble_eq_true rfl, Nat.le_of_ble_eq_true rfl⟩ rfl (Nat.le_of_ble_eq_true rfl) dX5_addWood_3 (x_on C hex (by decide) (by decide) (fun E u h => ⟨h.1, by unfold K_wood; rw [if_pos (Or.inl h.2.2)]; exact ⟨by decide, congrArg some h.2.1.symm⟩⟩)) ?_
  rintro _ ⟨rfl, hr3⟩
  obtain ⟨et, ht3⟩ := nout (n := 3) (by decide) hr3
  refine z_iload_n C dX5_addWood_6 rfl ?_
  refine z_iconst C (v := 1) dX5_addWood_7 (by decide) ?_
  refine z_bipush C (v := 20) dX5_addWood_8 (by decide) ?_
  refine y_csv C (As := [_, _, _]) (c_X5_needRange) okX5_needRange wd301 (rok (by decide) (by decide)) ⟨Nat.le_of_ble_eq_true rfl, Nat.le_of_ble_eq_true rfl⟩ rfl (Nat.le_of_ble_eq_true rfl) dX5_addWood_10 (x_on C hex (by decide) (by decide) (fun E u h => ⟨h.1, by unfold K_wood; rw [if_pos (Or.inr h.2.2)]; exact ⟨by decide, congrArg some h.2.1.symm⟩⟩)) ?_
  rintro _ ⟨rfl, hr10⟩
  refine z_aload_n C dX5_addWood_13 rfl ?_
  refine g_0_4 C wd161 dX5_addWood_14 ?_
  refine z_iload_n C dX5_addWood_17 rfl ?_
  refine z_dup2 C dX5_addWood_18 rfl rfl ?_
  refine a_5 C et (by omega) dX5_addWood_19 ?_
  refine z_iload_n C dX5_addWood_20 rfl ?_
  refine z_iadd C dX5_addWood_21 ?_
  refine s_5 C et (by omega) dX5_addWood_22 ?_
  refine z_aload_n C dX5_addWood_23 rfl ?_
  refine g_0_4 C wd161 dX5_addWood_24 ?_
  refine z_iload_n C dX5_addWood_27 rfl ?_
  refine a_5 C et (by omega) dX5_addWood_28 ?_
  refine y_ret (by decide) (by decide) ?_
  refine z_iret C dX5_addWood_29 ?_
  exact ⟨by unfold K_wood; rw [if_neg (fun h => h.elim hr3 hr10)], by rw [up_app, if_pos ⟨rfl, rfl, rfl⟩], rfl⟩
set_option maxRecDepth 100000 in
set_option maxHeartbeats 4000000 in
theorem c_X5_ready {l : Launch} {D : va_G} {ad : Nat → Nat → Nat} {cy : Nat → ClassId} {A : Nat → Prop} {sa : Nat → Nat} {σ : St} {x : Int32} (hI : Inv σ) : XI l D ad cy A sa yX5_ready cX5_ready 2 (some .int) 1 1 σ [.ref (ad 0 0), .int x] (fun r σ' => K_ready σ x = 0 ∧ r = σ 16 (ix x) 2 ∧ σ = σ') (fun E u => σ = u ∧ pxK [IOOBE] (K_ready σ x) E) := by
  refine XI.mk "FretSchool" (by decide) rfl (Nat.le_of_ble_eq_true rfl) rfl ?_
  intro p e s m args below meth c C hex
  change Z _ _ _ _ _ _ _ _ _ _ _ _ _ _ _ _ _ _ _ [some (.ref (ad 0 0)), some (.int x)] 0 []
  refine z_aload_n C dX5_ready_0 rfl ?_
  refine z_iload_n C dX5_ready_1 rfl ?_
  refine y_cvv C (As := [_]) (c_X5_needOrder) okX5_needOrder wd548 rc_0 (rok (by decide) (by decide)) ⟨Nat.le_of_ble_eq_true rfl, Nat.le_of_ble_eq_true rfl⟩ rfl (Nat.le_of_ble_eq_true rfl) dX5_ready_2 (x_on C hex (by decide) (by decide) (fun E u h => ⟨h.1, by unfold K_ready; rw [if_pos h.2.2]; exact ⟨by decide, congrArg some h.2.1.symm⟩⟩)) ?_
  rintro _ ⟨rfl, hr2⟩
  obtain ⟨no, hno, eno⟩ := hI.2.2.1
  rw [eno] at hr2
  obtain ⟨eo, ho1, ho2⟩ := nbad hno (by decide) hr2
  rw [← eno] at hr2
  refine z_aload_n C dX5_ready_5 rfl ?_
  refine g_0_3 C wd160 dX5_ready_6 ?_
  refine z_iload_n C dX5_ready_9 rfl ?_
  refine a_4 C eo ho2 dX5_ready_10 ?_
  refine g_16_2 ho2 C wd118 dX5_ready_11 ?_
  refine y_ret (by decide) (by decide) ?_
  refine z_iret C dX5_ready_14 ?_
  exact ⟨by unfold K_ready; rw [if_neg hr2], rfl, rfl⟩
set_option maxRecDepth 100000 in
set_option maxHeartbeats 4000000 in
theorem c_X5_pass {l : Launch} {D : va_G} {ad : Nat → Nat → Nat} {cy : Nat → ClassId} {A : Nat → Prop} {sa : Nat → Nat} {σ : St} {x : Int32} : XI l D ad cy A sa yX5_pass cX5_pass 2 (some .int) 1 2 σ [.ref (ad 0 0), .int x] (fun r σ' => K_pass σ x = 0 ∧ r = σ 0 0 9 + x ∧ up σ 0 0 9 (σ 0 0 9 + x) = σ') (fun E u => σ = u ∧ pxK [IAE, ISE] (K_pass σ x) E) := by
  refine XI.mk "FretSchool" (by decide) rfl (Nat.le_of_ble_eq_true rfl) rfl ?_
  intro p e s m args below meth c C hex
  change Z _ _ _ _ _ _ _ _ _ _ _ _ _ _ _ _ _ _ _ [some (.ref (ad 0 0)), some (.int x)] 0 []
  refine z_iload_n C dX5_pass_0 rfl ?_
  refine z_iconst C (v := 1) dX5_pass_1 (by decide) ?_
  refine z_bipush C (v := 100) dX5_pass_2 (by decide) ?_
  refine y_csv C (As := [_, _, _]) (c_X5_needRange) okX5_needRange wd301 (rok (by decide) (by decide)) ⟨Nat.le_of_ble_eq_true rfl, Nat.le_of_ble_eq_true rfl⟩ rfl (Nat.le_of_ble_eq_true rfl) dX5_pass_4 (x_on C hex (by decide) (by decide) (fun E u h => ⟨h.1, by unfold K_pass; rw [if_pos h.2.2]; exact ⟨by decide, congrArg some h.2.1.symm⟩⟩)) ?_
  rintro _ ⟨rfl, hr4⟩
  refine z_aload_n C dX5_pass_7 rfl ?_
  refine g_0_9 C wd166 dX5_pass_8 ?_
  refine z_iload_n C dX5_pass_11 rfl ?_
  refine z_iadd C dX5_pass_12 ?_
  refine z_sipush C (v := 5000) dX5_pass_13 (by decide) ?_
  refine z_icmp_le C 29 dX5_pass_16 (by decide) (fun c_16 => ?_) (fun c_16 => ?_)
  · refine z_aload_n C dX5_pass_29 rfl ?_
    refine z_dup C dX5_pass_30 rfl ?_
    refine g_0_9 C wd166 dX5_pass_31 ?_
    refine z_iload_n C dX5_pass_34 rfl ?_
    refine z_iadd C dX5_pass_35 ?_
    refine p_0_9 C wd166 dX5_pass_36 ?_
    refine z_aload_n C dX5_pass_39 rfl ?_
    refine g_0_9 C wd166 dX5_pass_40 ?_
    refine y_ret (by decide) (by decide) ?_
    refine z_iret C dX5_pass_43 ?_
    exact ⟨by unfold K_pass; rw [if_neg hr4, if_neg (fun h => h c_16)], by rw [up_app, if_pos ⟨rfl, rfl, rfl⟩], rfl⟩
  · refine y_ise C hex (tx := "today would be above 5000") (List.mem_of_getElem? (i := 17) rfl) dX5_pass_19 dX5_pass_22 dX5_pass_23 dX5_pass_25 dX5_pass_28 ⟨Nat.le_of_ble_eq_true rfl, Nat.le_of_ble_eq_true rfl⟩ (by decide) (by decide) ?_
    exact ⟨rfl, by unfold K_pass; rw [if_neg hr4, if_pos c_16]; exact ⟨by decide, rfl⟩⟩
def awV (σ : St) : Nat → Int32
  | 0 => 0
  | k + 1 => if σ 16 k 3 = 0 ∧ σ 0 0 9 < σ 16 k 2 then awV σ k + 1 else awV σ k
section
variable {p : Program} {l : Launch} {e : Env} {R : Room} {s : State} {m : MethodId} {args : Array Value} {below : List Frame} {meth : Method} {c : Code} {D : va_G} {ad : Nat → Nat → Nat} {cy : Nat → ClassId} {A : Nat → Prop} {sa : Nat → Nat} {cells slots : Nat} {σ : St}
set_option maxRecDepth 100000 in
set_option maxHeartbeats 4000000 in
theorem lp_X5_ordersAtWork (C : Cx p l s m args meth c cX5_ordersAtWork "FretSchool" 3 (some .int) D ad cy A sa) {n : Nat} (hn : σ 0 0 8 = nI n) (hn20 : n ≤ 20) : ∀ (f j : Nat) (x1 x2 : Int32), x2 = nI j → x1 = awV σ j → j ≤ n → n < j + f → Z p l e (rmD 1 0) s m args below meth c D ad cy A 3 0 0 (MQ below (va_Qi (fun r σ' => r = awV σ n ∧ σ = σ') (Bw D ad cy) A) args s 0 0 A) σ [some (.ref (ad 0 0)), some (.int x1), some (.int x2)] 4 [] := by
  intro f
  induction f with
  | zero => intro j x1 x2 _ _ _ h; exact absurd h (by omega)
  | succ f ih =>
    intro j x1 x2 e2 e1 hj hf
    refine z_iload_n C dX5_ordersAtWork_4 rfl ?_
    refine z_aload_n C dX5_ordersAtWork_5 rfl ?_
    refine g_0_8 C wd165 dX5_ordersAtWork_6 ?_
    refine z_icmp_ge C 49 dX5_ordersAtWork_9 (by decide) (fun c_9 => ?_) (fun c_9 => ?_)
    · have hjn : n ≤ j := by rw [hn, e2, nI_leI (by omega) (by omega)] at c_9; exact c_9
      refine z_iload_n C dX5_ordersAtWork_49 rfl ?_
      refine z_iret C dX5_ordersAtWork_50 ?_
      exact ⟨by rw [e1, show j = n by omega], rfl⟩
    · have hjn : j < n := by rw [hn, e2, nI_leI (by omega) (by omega)] at c_9; omega
      refine z_aload_n C dX5_ordersAtWork_12 rfl ?_
      refine g_0_3 C wd160 dX5_ordersAtWork_13 ?_
      refine z_iload_n C dX5_ordersAtWork_16 rfl ?_
      refine a_4 C e2 (by omega) dX5_ordersAtWork_17 ?_
      refine g_16_3 (by first | assumption | omega) C wd120 dX5_ordersAtWork_18 ?_
      refine z_if_ne C 43 dX5_ordersAtWork_21 (by decide) (fun c_21 => ?_) (fun c_21 => ?_)
      · refine z_iinc C (v := 1) dX5_ordersAtWork_43 rfl (by decide) (by decide) ?_
        dsimp only [List.set]
        refine z_goto C 4 dX5_ordersAtWork_46 (by decide) ?_
        exact ih (j + 1) _ _ (by rw [e2]; exact nI_1 j) (by show _ = if _ then _ else _; rw [if_neg (fun q => c_21 q.1)]; exact e1) (by omega) (by omega)
      · refine z_aload_n C dX5_ordersAtWork_24 rfl ?_
        refine g_0_3 C wd160 dX5_ordersAtWork_25 ?_
        refine z_iload_n C dX5_ordersAtWork_28 rfl ?_
        refine a_4 C e2 (by omega) dX5_ordersAtWork_29 ?_
        refine z_aload_n C dX5_ordersAtWork_30 rfl ?_
        refine g_0_9 C wd166 dX5_ordersAtWork_31 ?_
        refine z_cvi C (As := [_]) (c_X2_isReady (by omega)) okX2_isReady wd531 (rc_16 (by first | assumption | omega)) (rok (by decide) (by decide)) ⟨Nat.le_of_ble_eq_true rfl, Nat.le_of_ble_eq_true rfl⟩ rfl (Nat.le_of_ble_eq_true rfl) dX5_ordersAtWork_34 ?_
        rintro r34 _ ⟨e34, rfl⟩
        refine z_if_ne C 43 dX5_ordersAtWork_37 (by decide) (fun c_37 => ?_) (fun c_37 => ?_)
        · refine z_iinc C (v := 1) dX5_ordersAtWork_43 rfl (by decide) (by decide) ?_
          dsimp only [List.set]
          refine z_goto C 4 dX5_ordersAtWork_46 (by decide) ?_
          exact ih (j + 1) _ _ (by rw [e2]; exact nI_1 j) (by show _ = if _ then _ else _; rw [if_neg (fun q => c_37 (by rw [e34, if_pos q.2]))]; exact e1) (by omega) (by omega)
        · refine z_iinc C (v := 1) dX5_ordersAtWork_40 rfl (by decide) (by decide) ?_
          dsimp only [List.set]
          refine z_iinc C (v := 1) dX5_ordersAtWork_43 rfl (by decide) (by decide) ?_
          dsimp only [List.set]
          refine z_goto C 4 dX5_ordersAtWork_46 (by decide) ?_
          exact ih (j + 1) _ _ (by rw [e2]; exact nI_1 j) (by show _ = if _ then _ else _; rw [if_pos ⟨c_21, Classical.byContradiction fun q => absurd (by rw [e34, if_neg q] at c_37; exact c_37) (by decide)⟩, e1]) (by omega) (by omega)
end
set_option maxRecDepth 100000 in
set_option maxHeartbeats 4000000 in
theorem c_X5_ordersAtWork {l : Launch} {D : va_G} {ad : Nat → Nat → Nat} {cy : Nat → ClassId} {A : Nat → Prop} {sa : Nat → Nat} {σ : St} {n : Nat} (hn : σ 0 0 8 = nI n) (hn20 : n ≤ 20) : MI l D ad cy A sa yX5_ordersAtWork cX5_ordersAtWork 3 (some .int) 1 σ [.ref (ad 0 0)] (fun r σ' => r = awV σ n ∧ σ = σ') := by
  refine MI.mk "FretSchool" (by decide) rfl (Nat.le_of_ble_eq_true rfl) rfl ?_
  intro p e s m args below meth c C
  change Z _ _ _ _ _ _ _ _ _ _ _ _ _ _ _ _ _ _ _ [some (.ref (ad 0 0)), none, none] 0 []
  refine z_iconst C (v := 0) dX5_ordersAtWork_0 (by decide) ?_
  refine z_istore_n C dX5_ordersAtWork_1 (by decide) ?_
  dsimp only [List.set]
  refine z_iconst C (v := 0) dX5_ordersAtWork_2 (by decide) ?_
  refine z_istore_n C dX5_ordersAtWork_3 (by decide) ?_
  dsimp only [List.set]
  exact lp_X5_ordersAtWork C hn hn20 (n + 1) 0 _ _ nI_0.symm rfl (by omega) (by omega)
noncomputable def K_order (σ : St) (w t x : Int32) : Nat := by classical exact if outR w 0 4 ∨ outR t 0 3 ∨ outR x 4 16 then 1 else if ¬ 3 ≤ σ 5 0 (ix t) ∨ ¬ awV σ (ix (σ 0 0 8)) < 2 ∨ ¬ σ 0 0 8 < 20 then 2 else 0
def orderS (σ : St) (n : Nat) (w t x : Int32) : St := up (up (up (up (up σ 5 0 (ix t) (σ 5 0 (ix t) - 3)) 16 n 0 w) 16 n 1 x) 16 n 2 (σ 0 0 9 + 2 * x)) 0 0 8 (nI (n + 1))
theorem K_order_0 {σ : St} {w t x : Int32} (h1 : ¬ outR w 0 4) (h2 : ¬ outR t 0 3) (h3 : ¬ outR x 4 16) (h4 : 3 ≤ σ 5 0 (ix t)) (h5 : awV σ (ix (σ 0 0 8)) < 2) (h6 : σ 0 0 8 < 20) : K_order σ w t x = 0 := by
  unfold K_order
  rw [if_neg (fun h => h.elim h1 (fun h => h.elim h2 h3)), if_neg (fun h => h.elim (fun q => q h4) (fun h => h.elim (fun q => q h5) (fun q => q h6)))]
set_option maxRecDepth 100000 in
set_option maxHeartbeats 4000000 in
theorem c_X5_order {l : Launch} {D : va_G} {ad : Nat → Nat → Nat} {cy : Nat → ClassId} {A : Nat → Prop} {sa : Nat → Nat} {σ : St} {x y z : Int32} (hI : Inv σ) : XI l D ad cy A sa yX5_order cX5_order 5 (some .int) 2 4 σ [.ref (ad 0 0), .int x, .int y, .int z] (fun r σ' => K_order σ x y z = 0 ∧ r = σ 0 0 8 ∧ orderS σ (ix (σ 0 0 8)) x y z = σ') (fun E u => σ = u ∧ pxK [IAE, ISE] (K_order σ x y z) E) := by
  refine XI.mk "FretSchool" (by decide) rfl (Nat.le_of_ble_eq_true rfl) rfl ?_
  intro p e s m args below meth c C hex
  change Z _ _ _ _ _ _ _ _ _ _ _ _ _ _ _ _ _ _ _ [some (.ref (ad 0 0)), some (.int x), some (.int y), some (.int z), none] 0 []
  obtain ⟨no, hno, eno⟩ := hI.2.2.1
  have eix : ix (σ 0 0 8) = no := by rw [eno]; exact nI_clamp (by omega)
  refine z_iload_n C dX5_order_0 rfl ?_
  refine y_csv C (As := [_]) (c_X5_needPupil) okX5_needPupil wd470 (rok (by decide) (by decide)) ⟨Nat.le_of_ble_eq_true rfl, Nat.le_of_ble_eq_true rfl⟩ rfl (Nat.le_of_ble_eq_true rfl) dX5_order_1 (x_on C hex (by decide) (by decide) (fun E u h => ⟨h.1, by unfold K_order; rw [if_pos (Or.inl h.2.2)]; exact ⟨by decide, congrArg some h.2.1.symm⟩⟩)) ?_
  rintro _ ⟨rfl, hr1⟩
  refine z_iload_n C dX5_order_4 rfl ?_
  refine z_iconst C (v := 0) dX5_order_5 (by decide) ?_
  refine z_iconst C (v := 3) dX5_order_6 (by decide) ?_
  refine y_csv C (As := [_, _, _]) (c_X5_needRange) okX5_needRange wd301 (rok (by decide) (by decide)) ⟨Nat.le_of_ble_eq_true rfl, Nat.le_of_ble_eq_true rfl⟩ rfl (Nat.le_of_ble_eq_true rfl) dX5_order_7 (x_on C hex (by decide) (by decide) (fun E u h => ⟨h.1, by unfold K_order; rw [if_pos (Or.inr (Or.inl h.2.2))]; exact ⟨by decide, congrArg some h.2.1.symm⟩⟩)) ?_
  rintro _ ⟨rfl, hr7⟩
  obtain ⟨et, ht3⟩ := nout (n := 3) (by decide) hr7
  refine z_iload_n C dX5_order_10 rfl ?_
  refine z_iconst C (v := 4) dX5_order_11 (by decide) ?_
  refine z_bipush C (v := 16) dX5_order_12 (by decide) ?_
  refine y_csv C (As := [_, _, _]) (c_X5_needRange) okX5_needRange wd301 (rok (by decide) (by decide)) ⟨Nat.le_of_ble_eq_true rfl, Nat.le_of_ble_eq_true rfl⟩ rfl (Nat.le_of_ble_eq_true rfl) dX5_order_14 (x_on C hex (by decide) (by decide) (fun E u h => ⟨h.1, by unfold K_order; rw [if_pos (Or.inr (Or.inr h.2.2))]; exact ⟨by decide, congrArg some h.2.1.symm⟩⟩)) ?_
  rintro _ ⟨rfl, hr14⟩
  refine z_aload_n C dX5_order_17 rfl ?_
  refine g_0_4 C wd161 dX5_order_18 ?_
  refine z_iload_n C dX5_order_21 rfl ?_
  refine a_5 C et (by omega) dX5_order_22 ?_
  refine z_iconst C (v := 3) dX5_order_23 (by decide) ?_
  refine z_icmp_ge C 37 dX5_order_24 (by decide) (fun c_24 => ?_) (fun c_24 => ?_)
  · refine z_aload_n C dX5_order_37 rfl ?_
    refine z_cvi C (As := []) (c_X5_ordersAtWork eno hno) okX5_ordersAtWork wd527 rc_0 (rok (by decide) (by decide)) ⟨Nat.le_of_ble_eq_true rfl, Nat.le_of_ble_eq_true rfl⟩ rfl (Nat.le_of_ble_eq_true rfl) dX5_order_38 ?_
    rintro r38 _ ⟨e38, rfl⟩
    rw [← eix] at e38
    refine z_iconst C (v := 2) dX5_order_41 (by decide) ?_
    refine z_icmp_lt C 55 dX5_order_42 (by decide) (fun c_42 => ?_) (fun c_42 => ?_)
    · refine z_aload_n C dX5_order_55 rfl ?_
      refine g_0_8 C wd165 dX5_order_56 ?_
      refine z_bipush C (v := 20) dX5_order_59 (by decide) ?_
      refine z_icmp_lt C 74 dX5_order_61 (by decide) (fun c_61 => ?_) (fun c_61 => ?_)
      · have hn20 : no < 20 := by rw [eno, show (20 : Int32) = nI 20 from rfl, nI_ltI (by omega) (by omega)] at c_61; exact c_61
        refine z_aload_n C dX5_order_74 rfl ?_
        refine g_0_4 C wd161 dX5_order_75 ?_
        refine z_iload_n C dX5_order_78 rfl ?_
        refine z_dup2 C dX5_order_79 rfl rfl ?_
        refine a_5 C et (by omega) dX5_order_80 ?_
        refine z_iconst C (v := 3) dX5_order_81 (by decide) ?_
        refine z_isub C dX5_order_82 ?_
        refine s_5 C et (by omega) dX5_order_83 ?_
        refine z_aload_n C dX5_order_84 rfl ?_
        refine g_0_8 C wd165 dX5_order_85 ?_
        refine z_istore C dX5_order_88 (by decide) ?_
        dsimp only [List.set]
        refine z_aload_n C dX5_order_90 rfl ?_
        refine g_0_3 C wd160 dX5_order_91 ?_
        refine z_iload C dX5_order_94 rfl ?_
        refine a_4 C (j := no) (by rw [up_app, if_neg (by omega)]; exact eno) hn20 dX5_order_96 ?_
        refine z_iload_n C dX5_order_97 rfl ?_
        refine z_iload_n C dX5_order_98 rfl ?_
        refine z_aload_n C dX5_order_99 rfl ?_
        refine g_0_9 C wd166 dX5_order_100 ?_
        refine z_iconst C (v := 2) dX5_order_103 (by decide) ?_
        refine z_iload_n C dX5_order_104 rfl ?_
        refine z_imul C dX5_order_105 ?_
        refine z_iadd C dX5_order_106 ?_
        refine z_cvv C (As := [_, _, _]) (c_X2_place hn20) okX2_place wd537 (rc_16 hn20) (rok (by decide) (by decide)) ⟨Nat.le_of_ble_eq_true rfl, Nat.le_of_ble_eq_true rfl⟩ rfl (Nat.le_of_ble_eq_true rfl) dX5_order_107 ?_
        rintro _ rfl
        refine z_aload_n C dX5_order_110 rfl ?_
        refine z_dup C dX5_order_111 rfl ?_
        refine g_0_8 C wd165 dX5_order_112 ?_
        refine z_iconst C (v := 1) dX5_order_115 (by decide) ?_
        refine z_iadd C dX5_order_116 ?_
        refine p_0_8 C wd165 dX5_order_117 ?_
        refine z_iload C dX5_order_120 rfl ?_
        refine y_ret (by decide) (by decide) ?_
        refine z_iret C dX5_order_122 ?_
        refine ⟨K_order_0 hr1 hr7 hr14 c_24 (by rw [← e38]; exact c_42) c_61, ?_, ?_⟩
        · rw [up_app, if_neg (by omega)]
        · unfold orderS
          rw [eix]
          simp only [up_app]
          simp only [Nat.reduceEqDiff, false_and, and_false, and_true, true_and, if_false, if_true, eno, nI_1]
      · refine y_ise C hex (tx := "there are 20 orders") (List.mem_of_getElem? (i := 12) rfl) dX5_order_64 dX5_order_67 dX5_order_68 dX5_order_70 dX5_order_73 ⟨Nat.le_of_ble_eq_true rfl, Nat.le_of_ble_eq_true rfl⟩ (by decide) (by decide) ?_
        exact ⟨rfl, by unfold K_order; rw [if_neg (fun h => h.elim hr1 (fun h => h.elim hr7 hr14)), if_pos (Or.inr (Or.inr c_61))]; exact ⟨by decide, rfl⟩⟩
    · refine y_ise C hex (tx := "two orders are at work") (List.mem_of_getElem? (i := 11) rfl) dX5_order_45 dX5_order_48 dX5_order_49 dX5_order_51 dX5_order_54 ⟨Nat.le_of_ble_eq_true rfl, Nat.le_of_ble_eq_true rfl⟩ (by decide) (by decide) ?_
      exact ⟨rfl, by unfold K_order; rw [if_neg (fun h => h.elim hr1 (fun h => h.elim hr7 hr14)), if_pos (Or.inr (Or.inl (by rw [← e38]; exact c_42)))]; exact ⟨by decide, rfl⟩⟩
  · refine y_ise C hex (tx := "there is too little of the wood") (List.mem_of_getElem? (i := 10) rfl) dX5_order_27 dX5_order_30 dX5_order_31 dX5_order_33 dX5_order_36 ⟨Nat.le_of_ble_eq_true rfl, Nat.le_of_ble_eq_true rfl⟩ (by decide) (by decide) ?_
    exact ⟨rfl, by unfold K_order; rw [if_neg (fun h => h.elim hr1 (fun h => h.elim hr7 hr14)), if_pos (Or.inl c_24)]; exact ⟨by decide, rfl⟩⟩
noncomputable def K_fetch (σ : St) (r a b c0 d0 : Int32) : Nat := by classical exact if bad r (σ 0 0 8) then 1 else if outR a 0 60 ∨ outR b 0 60 ∨ outR c0 0 60 ∨ outR d0 0 60 then 2 else if σ 0 0 9 < σ 16 (ix r) 2 ∨ ¬ σ 16 (ix r) 3 = 0 ∨ ¬ σ 0 0 7 < 8 then 3 else 0
def fetchS (σ : St) (r n : Nat) (a b c0 d0 : Int32) : St := up (up (up (up (up (up (up (up σ 16 r 3 1) 13 n 1 (σ 16 r 0)) 13 n 2 (σ 16 r 1)) 14 n 0 a) 14 n 1 b) 14 n 2 c0) 14 n 3 d0) 0 0 7 (nI (n + 1))
set_option maxRecDepth 100000 in
set_option maxHeartbeats 4000000 in
theorem c_X5_fetch {l : Launch} {D : va_G} {ad : Nat → Nat → Nat} {cy : Nat → ClassId} {A : Nat → Prop} {sa : Nat → Nat} {σ : St} {x a b c0 d0 : Int32} (hI : Inv σ) : XI l D ad cy A sa yX5_fetch cX5_fetch 8 (some .int) 1 6 σ [.ref (ad 0 0), .int x, .int a, .int b, .int c0, .int d0] (fun r σ' => K_fetch σ x a b c0 d0 = 0 ∧ r = σ 0 0 7 ∧ fetchS σ (ix x) (ix (σ 0 0 7)) a b c0 d0 = σ') (fun E u => σ = u ∧ pxK [IOOBE, IAE, ISE] (K_fetch σ x a b c0 d0) E) := by
  refine XI.mk "FretSchool" (by decide) rfl (Nat.le_of_ble_eq_true rfl) rfl ?_
  intro p e s m args below meth c C hex
  change Z _ _ _ _ _ _ _ _ _ _ _ _ _ _ _ _ _ _ _ [some (.ref (ad 0 0)), some (.int x), some (.int a), some (.int b), some (.int c0), some (.int d0), none, none] 0 []
  obtain ⟨ni, hni, eni⟩ := hI.2.1
  have eix : ix (σ 0 0 7) = ni := by rw [eni]; exact nI_clamp (by omega)
  refine z_aload_n C dX5_fetch_0 rfl ?_
  refine z_iload_n C dX5_fetch_1 rfl ?_
  refine y_cvv C (As := [_]) (c_X5_needOrder) okX5_needOrder wd548 rc_0 (rok (by decide) (by decide)) ⟨Nat.le_of_ble_eq_true rfl, Nat.le_of_ble_eq_true rfl⟩ rfl (Nat.le_of_ble_eq_true rfl) dX5_fetch_2 (x_on C hex (by decide) (by decide) (fun E u h => ⟨h.1, by unfold K_fetch; rw [if_pos h.2.2]; exact ⟨by decide, congrArg some h.2.1.symm⟩⟩)) ?_
  rintro _ ⟨rfl, hr2⟩
  obtain ⟨no, hno, eno⟩ := hI.2.2.1
  rw [eno] at hr2
  obtain ⟨eo, ho1, ho2⟩ := nbad hno (by decide) hr2
  rw [← eno] at hr2
  refine z_iload_n C dX5_fetch_5 rfl ?_
  refine z_iconst C (v := 0) dX5_fetch_6 (by decide) ?_
  refine z_bipush C (v := 60) dX5_fetch_7 (by decide) ?_
  refine y_csv C (As := [_, _, _]) (c_X5_needRange) okX5_needRange wd301 (rok (by decide) (by decide)) ⟨Nat.le_of_ble_eq_true rfl, Nat.le_of_ble_eq_true rfl⟩ rfl (Nat.le_of_ble_eq_true rfl) dX5_fetch_9 (x_on C hex (by decide) (by decide) (fun E u h => ⟨h.1, by unfold K_fetch; rw [if_neg hr2, if_pos (Or.inl h.2.2)]; exact ⟨by decide, congrArg some h.2.1.symm⟩⟩)) ?_
  rintro _ ⟨rfl, hr9⟩
  refine z_iload_n C dX5_fetch_12 rfl ?_
  refine z_iconst C (v := 0) dX5_fetch_13 (by decide) ?_
  refine z_bipush C (v := 60) dX5_fetch_14 (by decide) ?_
  refine y_csv C (As := [_, _, _]) (c_X5_needRange) okX5_needRange wd301 (rok (by decide) (by decide)) ⟨Nat.le_of_ble_eq_true rfl, Nat.le_of_ble_eq_true rfl⟩ rfl (Nat.le_of_ble_eq_true rfl) dX5_fetch_16 (x_on C hex (by decide) (by decide) (fun E u h => ⟨h.1, by unfold K_fetch; rw [if_neg hr2, if_pos (Or.inr (Or.inl h.2.2))]; exact ⟨by decide, congrArg some h.2.1.symm⟩⟩)) ?_
  rintro _ ⟨rfl, hr16⟩
  refine z_iload C dX5_fetch_19 rfl ?_
  refine z_iconst C (v := 0) dX5_fetch_21 (by decide) ?_
  refine z_bipush C (v := 60) dX5_fetch_22 (by decide) ?_
  refine y_csv C (As := [_, _, _]) (c_X5_needRange) okX5_needRange wd301 (rok (by decide) (by decide)) ⟨Nat.le_of_ble_eq_true rfl, Nat.le_of_ble_eq_true rfl⟩ rfl (Nat.le_of_ble_eq_true rfl) dX5_fetch_24 (x_on C hex (by decide) (by decide) (fun E u h => ⟨h.1, by unfold K_fetch; rw [if_neg hr2, if_pos (Or.inr (Or.inr (Or.inl h.2.2)))]; exact ⟨by decide, congrArg some h.2.1.symm⟩⟩)) ?_
  rintro _ ⟨rfl, hr24⟩
  refine z_iload C dX5_fetch_27 rfl ?_
  refine z_iconst C (v := 0) dX5_fetch_29 (by decide) ?_
  refine z_bipush C (v := 60) dX5_fetch_30 (by decide) ?_
  refine y_csv C (As := [_, _, _]) (c_X5_needRange) okX5_needRange wd301 (rok (by decide) (by decide)) ⟨Nat.le_of_ble_eq_true rfl, Nat.le_of_ble_eq_true rfl⟩ rfl (Nat.le_of_ble_eq_true rfl) dX5_fetch_32 (x_on C hex (by decide) (by decide) (fun E u h => ⟨h.1, by unfold K_fetch; rw [if_neg hr2, if_pos (Or.inr (Or.inr (Or.inr h.2.2)))]; exact ⟨by decide, congrArg some h.2.1.symm⟩⟩)) ?_
  rintro _ ⟨rfl, hr32⟩
  refine z_aload_n C dX5_fetch_35 rfl ?_
  refine g_0_3 C wd160 dX5_fetch_36 ?_
  refine z_iload_n C dX5_fetch_39 rfl ?_
  refine a_4 C eo ho2 dX5_fetch_40 ?_
  refine z_astore C dX5_fetch_41 (by decide) ?_
  dsimp only [List.set]
  refine z_aload C dX5_fetch_43 rfl ?_
  refine z_aload_n C dX5_fetch_45 rfl ?_
  refine g_0_9 C wd166 dX5_fetch_46 ?_
  refine z_cvi C (As := [_]) (c_X2_isReady ho2) okX2_isReady wd531 (rc_16 ho2) (rok (by decide) (by decide)) ⟨Nat.le_of_ble_eq_true rfl, Nat.le_of_ble_eq_true rfl⟩ rfl (Nat.le_of_ble_eq_true rfl) dX5_fetch_49 ?_
  rintro r49 _ ⟨e49, rfl⟩
  refine z_if_ne C 65 dX5_fetch_52 (by decide) (fun c_52 => ?_) (fun c_52 => ?_)
  · have hrd : ¬ σ 0 0 9 < σ 16 (ix x) 2 := fun q => c_52 (by rw [e49, if_pos q])
    refine z_aload C dX5_fetch_65 rfl ?_
    refine g_16_3 ho2 C wd120 dX5_fetch_67 ?_
    refine z_if_eq C 83 dX5_fetch_70 (by decide) (fun c_70 => ?_) (fun c_70 => ?_)
    · refine z_aload_n C dX5_fetch_83 rfl ?_
      refine g_0_7 C wd164 dX5_fetch_84 ?_
      refine z_bipush C (v := 8) dX5_fetch_87 (by decide) ?_
      refine z_icmp_lt C 102 dX5_fetch_89 (by decide) (fun c_89 => ?_) (fun c_89 => ?_)
      · have hn8 : ni < 8 := by rw [eni, show (8 : Int32) = nI 8 from rfl, nI_ltI (by omega) (by omega)] at c_89; exact c_89
        refine z_aload C dX5_fetch_102 rfl ?_
        refine z_iconst C (v := 1) dX5_fetch_104 (by decide) ?_
        refine p_16_3 ho2 C (by first | exact Or.inl rfl | exact Or.inr rfl | assumption) wd120 dX5_fetch_105 ?_
        refine z_aload_n C dX5_fetch_108 rfl ?_
        refine g_0_7 C wd164 dX5_fetch_109 ?_
        refine z_istore C dX5_fetch_112 (by decide) ?_
        dsimp only [List.set]
        refine z_aload_n C dX5_fetch_114 rfl ?_
        refine g_0_1 C wd158 dX5_fetch_115 ?_
        refine z_iload C dX5_fetch_118 rfl ?_
        refine a_2 C (j := ni) (by rw [up_app, if_neg (by omega)]; exact eni) hn8 dX5_fetch_120 ?_
        refine z_aload C dX5_fetch_121 rfl ?_
        refine g_16_0 ho2 C wd114 dX5_fetch_123 ?_
        refine z_aload C dX5_fetch_126 rfl ?_
        refine g_16_1 ho2 C wd116 dX5_fetch_128 ?_
        refine z_cvv C (As := [_, _]) (c_X1_build hn8) okX1_build wd563 (rc_13 hn8) (rok (by decide) (by decide)) ⟨Nat.le_of_ble_eq_true rfl, Nat.le_of_ble_eq_true rfl⟩ rfl (Nat.le_of_ble_eq_true rfl) dX5_fetch_131 ?_
        rintro _ rfl
        refine z_aload_n C dX5_fetch_134 rfl ?_
        refine g_0_1 C wd158 dX5_fetch_135 ?_
        refine z_iload C dX5_fetch_138 rfl ?_
        refine a_2 C (j := ni) (by rw [up_app, if_neg (by omega)]; exact eni) hn8 dX5_fetch_140 ?_
        refine z_iload_n C dX5_fetch_141 rfl ?_
        refine z_iload_n C dX5_fetch_142 rfl ?_
        refine z_iload C dX5_fetch_143 rfl ?_
        refine z_iload C dX5_fetch_145 rfl ?_
        refine z_cvv C (As := [_, _, _, _]) (c_X1_tuneAll hn8) okX1_tuneAll wd567 (rc_13 hn8) (rok (by decide) (by decide)) ⟨Nat.le_of_ble_eq_true rfl, Nat.le_of_ble_eq_true rfl⟩ rfl (Nat.le_of_ble_eq_true rfl) dX5_fetch_147 ?_
        rintro _ rfl
        refine z_aload_n C dX5_fetch_150 rfl ?_
        refine z_dup C dX5_fetch_151 rfl ?_
        refine g_0_7 C wd164 dX5_fetch_152 ?_
        refine z_iconst C (v := 1) dX5_fetch_155 (by decide) ?_
        refine z_iadd C dX5_fetch_156 ?_
        refine p_0_7 C wd164 dX5_fetch_157 ?_
        refine z_iload C dX5_fetch_160 rfl ?_
        refine y_ret (by decide) (by decide) ?_
        refine z_iret C dX5_fetch_162 ?_
        refine ⟨by unfold K_fetch; rw [if_neg hr2, if_neg (fun h => h.elim hr9 (fun h => h.elim hr16 (fun h => h.elim hr24 hr32))), if_neg (fun h => h.elim hrd (fun h => h.elim (fun q => q c_70) (fun q => q c_89)))], ?_, ?_⟩
        · rw [up_app, if_neg (by omega)]
        · unfold fetchS
          rw [eix]
          simp only [up_app]
          simp only [Nat.reduceEqDiff, false_and, and_false, and_true, true_and, if_false, if_true, eni, nI_1]
      · refine y_ise C hex (tx := "there are 8 instruments") (List.mem_of_getElem? (i := 16) rfl) dX5_fetch_92 dX5_fetch_95 dX5_fetch_96 dX5_fetch_98 dX5_fetch_101 ⟨Nat.le_of_ble_eq_true rfl, Nat.le_of_ble_eq_true rfl⟩ (by decide) (by decide) ?_
        exact ⟨rfl, by unfold K_fetch; rw [if_neg hr2, if_neg (fun h => h.elim hr9 (fun h => h.elim hr16 (fun h => h.elim hr24 hr32))), if_pos (Or.inr (Or.inr c_89))]; exact ⟨by decide, rfl⟩⟩
    · refine y_ise C hex (tx := "the order was fetched") (List.mem_of_getElem? (i := 15) rfl) dX5_fetch_73 dX5_fetch_76 dX5_fetch_77 dX5_fetch_79 dX5_fetch_82 ⟨Nat.le_of_ble_eq_true rfl, Nat.le_of_ble_eq_true rfl⟩ (by decide) (by decide) ?_
      exact ⟨rfl, by unfold K_fetch; rw [if_neg hr2, if_neg (fun h => h.elim hr9 (fun h => h.elim hr16 (fun h => h.elim hr24 hr32))), if_pos (Or.inr (Or.inl c_70))]; exact ⟨by decide, rfl⟩⟩
  · have hrd : σ 0 0 9 < σ 16 (ix x) 2 := Classical.byContradiction fun q => absurd (by rw [e49, if_neg q] at c_52; exact c_52) (by decide)
    refine y_ise C hex (tx := "the order is not ready") (List.mem_of_getElem? (i := 14) rfl) dX5_fetch_55 dX5_fetch_58 dX5_fetch_59 dX5_fetch_61 dX5_fetch_64 ⟨Nat.le_of_ble_eq_true rfl, Nat.le_of_ble_eq_true rfl⟩ (by decide) (by decide) ?_
    exact ⟨rfl, by unfold K_fetch; rw [if_neg hr2, if_neg (fun h => h.elim hr9 (fun h => h.elim hr16 (fun h => h.elim hr24 hr32))), if_pos (Or.inl hrd)]; exact ⟨by decide, rfl⟩⟩
end
section
/-! ===== the class FretSchool: learn, next ===== -/
noncomputable def esV (σ : St) (w : Int32) (jx : Nat) : Nat → Int32
  | 0 => -1
  | q + 1 => if lsV σ w jx q = -1 then esV σ w jx q else if esV σ w jx q = -1 then lsV σ w jx q else if esV σ w jx q ≤ lsV σ w jx q then esV σ w jx q else lsV σ w jx q
theorem esV_s {σ : St} {w : Int32} {jx q : Nat} : esV σ w jx (q + 1) = if lsV σ w jx q = -1 then esV σ w jx q else if esV σ w jx q = -1 then lsV σ w jx q else if esV σ w jx q ≤ lsV σ w jx q then esV σ w jx q else lsV σ w jx q := rfl
theorem SameC.ees {σ σ' : St} (h : SameC σ σ') (w : Int32) (j : Nat) : ∀ q, esV σ' w j q = esV σ w j q
  | 0 => rfl
  | q + 1 => by rw [esV_s, esV_s, h.ees w j q, h.els]
theorem ok_inst {j n : Nat} (h : j < n) (hn : n ≤ 8) : ¬ bad (nI j) (nI n) := fun q => q.elim (nI_pos (by omega)) (fun q => q (nI_lt h (by omega)))
theorem ix_nI {j : Nat} (h : j < 2 ^ 31) : ix (nI j) = j := nI_clamp h
section
variable {p : Program} {l : Launch} {e : Env} {R : Room} {s : State} {m : MethodId} {args : Array Value} {below : List Frame} {meth : Method} {c : Code} {D : va_G} {ad : Nat → Nat → Nat} {cy : Nat → ClassId} {A : Nat → Prop} {sa : Nat → Nat} {cells slots : Nat} {σ : St}
set_option maxRecDepth 100000 in
set_option maxHeartbeats 4000000 in
theorem lp_X5_easiestShift (C : Cx p l s m args meth c cX5_easiestShift "FretSchool" 6 (some .int) D ad cy A sa) {w x : Int32} {ni : Nat} (hI : Inv σ) (hw : w = nI (ix w)) (hw5 : ix w < 5) (hr2 : ¬ bad x (σ 0 0 6)) (eni : σ 0 0 7 = nI ni) (hni : ni ≤ 8) : ∀ (f j : Nat) (σ' : St) (x3 x4 : Int32) (o5 : Option Value), x4 = nI j → x3 = esV σ w (ix x) j → j ≤ ni → ni < j + f → SameC σ σ' → Z p l e (rmD 7 0) s m args below meth c D ad cy A 6 0 0 (MQ below (va_Qi (fun r σ' => SameC σ σ' ∧ r = esV σ w (ix x) ni) (Bw D ad cy) A) args s 0 0 A) σ' [some (.ref (ad 0 0)), some (.int w), some (.int x), some (.int x3), some (.int x4), o5] 5 [] := by
  intro f
  induction f with
  | zero => intro j σ' x3 x4 o5 _ _ _ h; exact absurd h (by omega)
  | succ f ih =>
    intro j σ' x3 x4 o5 e4 e3 hj hf hsm
    have eni' : σ' 0 0 7 = nI ni := by rw [hsm 0 0 7 (by decide) (by decide) (by decide) (by decide)]; exact eni
    refine z_iload C dX5_easiestShift_5 rfl ?_
    refine z_aload_n C dX5_easiestShift_7 rfl ?_
    refine g_0_7 C wd164 dX5_easiestShift_8 ?_
    refine z_icmp_ge C 50 dX5_easiestShift_11 (by decide) (fun c_11 => ?_) (fun c_11 => ?_)
    · have hjn : ni ≤ j := by rw [eni', e4, nI_leI (by omega) (by omega)] at c_11; exact c_11
      refine z_iload_n C dX5_easiestShift_50 rfl ?_
      refine z_iret C dX5_easiestShift_51 ?_
      exact ⟨hsm, by rw [e3, show j = ni by omega]⟩
    · have hjn : j < ni := by rw [eni', e4, nI_leI (by omega) (by omega)] at c_11; omega
      refine z_aload_n C dX5_easiestShift_14 rfl ?_
      refine z_iload_n C dX5_easiestShift_15 rfl ?_
      refine z_iload_n C dX5_easiestShift_16 rfl ?_
      refine z_iload C dX5_easiestShift_17 rfl ?_
      refine z_cvi C (As := [_, _, _]) (c_X5_learnableShift (hsm.inv hI) hw hw5 (by rw [hsm 0 0 6 (by decide) (by decide) (by decide) (by decide)]; exact hr2) (by rw [eni', e4]; exact ok_inst hjn hni)) okX5_learnableShift wd478 rc_0 (rok (by decide) (by decide)) ⟨Nat.le_of_ble_eq_true rfl, Nat.le_of_ble_eq_true rfl⟩ rfl (Nat.le_of_ble_eq_true rfl) dX5_easiestShift_19 ?_
      rintro r19 σ2 ⟨hsm2, e19⟩
      rw [hsm.els, e4, ix_nI (by omega)] at e19
      refine z_istore C dX5_easiestShift_22 (by decide) ?_
      dsimp only [List.set]
      refine z_iload C dX5_easiestShift_24 rfl ?_
      refine z_iconst C (v := (-1)) dX5_easiestShift_26 (by decide) ?_
      refine z_icmp_eq C 44 dX5_easiestShift_27 (by decide) (fun c_27 => ?_) (fun c_27 => ?_)
      · refine z_iinc C (v := 1) dX5_easiestShift_44 rfl (by decide) (by decide) ?_
        dsimp only [List.set]
        refine z_goto C 5 dX5_easiestShift_47 (by decide) ?_
        exact ih (j + 1) _ _ _ _ (by rw [e4]; exact nI_1 j) (by rw [esV_s, ← e19, if_pos c_27]; exact e3) (by omega) (by omega) (hsm.trans hsm2)
      · refine z_iload_n C dX5_easiestShift_30 rfl ?_
        refine z_iconst C (v := (-1)) dX5_easiestShift_31 (by decide) ?_
        refine z_icmp_eq C 41 dX5_easiestShift_32 (by decide) (fun c_32 => ?_) (fun c_32 => ?_)
        · refine z_iload C dX5_easiestShift_41 rfl ?_
          refine z_istore_n C dX5_easiestShift_43 (by decide) ?_
          dsimp only [List.set]
          refine z_iinc C (v := 1) dX5_easiestShift_44 rfl (by decide) (by decide) ?_
          dsimp only [List.set]
          refine z_goto C 5 dX5_easiestShift_47 (by decide) ?_
          exact ih (j + 1) _ _ _ _ (by rw [e4]; exact nI_1 j) (by rw [esV_s, ← e19, if_neg c_27, ← e3, if_pos c_32]) (by omega) (by omega) (hsm.trans hsm2)
        · refine z_iload C dX5_easiestShift_35 rfl ?_
          refine z_iload_n C dX5_easiestShift_37 rfl ?_
          refine z_icmp_ge C 44 dX5_easiestShift_38 (by decide) (fun c_38 => ?_) (fun c_38 => ?_)
          · refine z_iinc C (v := 1) dX5_easiestShift_44 rfl (by decide) (by decide) ?_
            dsimp only [List.set]
            refine z_goto C 5 dX5_easiestShift_47 (by decide) ?_
            exact ih (j + 1) _ _ _ _ (by rw [e4]; exact nI_1 j) (by rw [esV_s, ← e19, if_neg c_27, ← e3, if_neg c_32, if_pos c_38]) (by omega) (by omega) (hsm.trans hsm2)
          · refine z_iload C dX5_easiestShift_41 rfl ?_
            refine z_istore_n C dX5_easiestShift_43 (by decide) ?_
            dsimp only [List.set]
            refine z_iinc C (v := 1) dX5_easiestShift_44 rfl (by decide) (by decide) ?_
            dsimp only [List.set]
            refine z_goto C 5 dX5_easiestShift_47 (by decide) ?_
            exact ih (j + 1) _ _ _ _ (by rw [e4]; exact nI_1 j) (by rw [esV_s, ← e19, if_neg c_27, ← e3, if_neg c_32, if_neg c_38]) (by omega) (by omega) (hsm.trans hsm2)
end
set_option maxRecDepth 100000 in
set_option maxHeartbeats 4000000 in
theorem c_X5_easiestShift {l : Launch} {D : va_G} {ad : Nat → Nat → Nat} {cy : Nat → ClassId} {A : Nat → Prop} {sa : Nat → Nat} {σ : St} {w x : Int32} {ni : Nat} (hI : Inv σ) (hw : w = nI (ix w)) (hw5 : ix w < 5) (hr2 : ¬ bad x (σ 0 0 6)) (eni : σ 0 0 7 = nI ni) (hni : ni ≤ 8) : MI l D ad cy A sa yX5_easiestShift cX5_easiestShift 6 (some .int) 7 σ [.ref (ad 0 0), .int w, .int x] (fun r σ' => SameC σ σ' ∧ r = esV σ w (ix x) ni) := by
  refine MI.mk "FretSchool" (by decide) rfl (Nat.le_of_ble_eq_true rfl) rfl ?_
  intro p e s m args below meth c C
  change Z _ _ _ _ _ _ _ _ _ _ _ _ _ _ _ _ _ _ _ [some (.ref (ad 0 0)), some (.int w), some (.int x), none, none, none] 0 []
  refine z_iconst C (v := (-1)) dX5_easiestShift_0 (by decide) ?_
  refine z_istore_n C dX5_easiestShift_1 (by decide) ?_
  dsimp only [List.set]
  refine z_iconst C (v := 0) dX5_easiestShift_2 (by decide) ?_
  refine z_istore C dX5_easiestShift_3 (by decide) ?_
  dsimp only [List.set]
  exact lp_X5_easiestShift C hI hw hw5 hr2 eni hni (ni + 1) 0 _ _ _ _ nI_0.symm rfl (by omega) (by omega) SameC.rf
noncomputable def nsV (σ : St) (w : Int32) (ni j : Nat) : Int32 := if σ 15 (ix w) 1 &&& (1 <<< (nI j &&& 31)) = 0 then esV σ w j ni else -1
noncomputable def nxV (σ : St) (w : Int32) (ni : Nat) : Nat → Int32 × Int32
  | 0 => (-1, 0)
  | j + 1 => if nsV σ w ni j = -1 then nxV σ w ni j else if (nxV σ w ni j).1 = -1 then (nI j, nsV σ w ni j) else if (nxV σ w ni j).2 ≤ nsV σ w ni j then nxV σ w ni j else (nI j, nsV σ w ni j)
theorem nxV_s {σ : St} {w : Int32} {ni j : Nat} : nxV σ w ni (j + 1) = if nsV σ w ni j = -1 then nxV σ w ni j else if (nxV σ w ni j).1 = -1 then (nI j, nsV σ w ni j) else if (nxV σ w ni j).2 ≤ nsV σ w ni j then nxV σ w ni j else (nI j, nsV σ w ni j) := rfl
section
variable {p : Program} {l : Launch} {e : Env} {R : Room} {s : State} {m : MethodId} {args : Array Value} {below : List Frame} {meth : Method} {c : Code} {D : va_G} {ad : Nat → Nat → Nat} {cy : Nat → ClassId} {A : Nat → Prop} {sa : Nat → Nat} {cells slots : Nat} {σ : St}
set_option maxRecDepth 100000 in
set_option maxHeartbeats 4000000 in
theorem lp_X5_next (C : Cx p l s m args meth c cX5_next "FretSchool" 6 (some .int) D ad cy A sa) {w : Int32} {ni np : Nat} (hI : Inv σ) (hr1 : ¬ outR w 0 4) (eni : σ 0 0 7 = nI ni) (hni : ni ≤ 8) (enp : σ 0 0 6 = nI np) (hnp : np ≤ 8) (hex : ∀ x ∈ c.exceptionTable.toList, False) : ∀ (f j : Nat) (σ' : St) (x2 x3 x4 : Int32) (o5 : Option Value), x4 = nI j → x2 = (nxV σ w ni j).1 → x3 = (nxV σ w ni j).2 → j ≤ np → np < j + f → SameC σ σ' → Z p l e (rmD 8 1) s m args below meth c D ad cy A 6 (0 + 1) (0 + 6 * 1) (vx_MQ below (va_Qi (fun r σ' => K_pupil w = 0 ∧ SameC σ σ' ∧ r = (nxV σ w (ix (σ 0 0 7)) (ix (σ 0 0 6))).1) (Bw D ad cy) A) (XW D ad cy A (fun E u => σ = u ∧ pxK [IAE] (K_pupil w) E)) args s 1 (6 * 1) A) σ' [some (.ref (ad 0 0)), some (.int w), some (.int x2), some (.int x3), some (.int x4), o5] 11 [] := by
  obtain ⟨ew, hw4⟩ := nout (n := 4) (by decide) hr1
  have hw5 : ix w < 5 := by omega
  intro f
  induction f with
  | zero => intro j σ' x2 x3 x4 o5 _ _ _ _ h; exact absurd h (by omega)
  | succ f ih =>
    intro j σ' x2 x3 x4 o5 e4 e2 e3 hj hf hsm
    have enp' : σ' 0 0 6 = nI np := by rw [hsm 0 0 6 (by decide) (by decide) (by decide) (by decide)]; exact enp
    have eni' : σ' 0 0 7 = nI ni := by rw [hsm 0 0 7 (by decide) (by decide) (by decide) (by decide)]; exact eni
    refine z_iload C dX5_next_11 rfl ?_
    refine z_aload_n C dX5_next_13 rfl ?_
    refine g_0_6 C wd163 dX5_next_14 ?_
    refine z_icmp_ge C 76 dX5_next_17 (by decide) (fun c_17 => ?_) (fun c_17 => ?_)
    · have hjn : np ≤ j := by rw [enp', e4, nI_leI (by omega) (by omega)] at c_17; exact c_17
      refine z_iload_n C dX5_next_76 rfl ?_
      refine y_ret (by decide) (by decide) ?_
      refine z_iret C dX5_next_77 ?_
      refine ⟨by unfold K_pupil; rw [if_neg hr1], hsm, ?_⟩
      rw [e2, eni, enp, ix_nI (by omega), ix_nI (by omega), show j = np by omega]
    · have hjn : j < np := by rw [enp', e4, nI_leI (by omega) (by omega)] at c_17; omega
      refine z_aload_n C dX5_next_20 rfl ?_
      refine g_0_2 C wd159 dX5_next_21 ?_
      refine z_iload_n C dX5_next_24 rfl ?_
      refine a_3 C ew hw5 dX5_next_25 ?_
      refine z_iload C dX5_next_26 rfl ?_
      refine z_cvi C (As := [_]) (c_X4_knows hw5) okX4_knows wd473 (rc_15 hw5) (rok (by decide) (by decide)) ⟨Nat.le_of_ble_eq_true rfl, Nat.le_of_ble_eq_true rfl⟩ rfl (Nat.le_of_ble_eq_true rfl) dX5_next_28 ?_
      rintro r28 _ ⟨e28, rfl⟩
      refine z_if_eq C 38 dX5_next_31 (by decide) (fun c_31 => ?_) (fun c_31 => ?_)
      · have hk : σ 15 (ix w) 1 &&& (1 <<< (nI j &&& 31)) = 0 := Classical.byContradiction fun q => by
          rw [hsm 15 (ix w) 1 (by decide) (by decide) (by decide) (by decide), e4] at e28
          rw [e28, if_neg q] at c_31
          exact absurd c_31 (by decide)
        refine z_aload_n C dX5_next_38 rfl ?_
        refine z_iload_n C dX5_next_39 rfl ?_
        refine z_iload C dX5_next_40 rfl ?_
        refine z_cvi C (As := [_, _]) (c_X5_easiestShift (hsm.inv hI) ew hw5 (by rw [enp', e4]; exact ok_inst hjn hnp) eni' hni) okX5_easiestShift wd508 rc_0 (rok (by decide) (by decide)) ⟨Nat.le_of_ble_eq_true rfl, Nat.le_of_ble_eq_true rfl⟩ rfl (Nat.le_of_ble_eq_true rfl) dX5_next_42 ?_
        rintro r42 σ2 ⟨hsm2, e42⟩
        have e45 : r42 = nsV σ w ni j := by
          rw [e42, hsm.ees, e4, ix_nI (by omega)]
          exact (if_pos hk).symm
        refine z_istore C dX5_next_45 (by decide) ?_
        dsimp only [List.set]
        refine z_iload C dX5_next_47 rfl ?_
        refine z_iconst C (v := (-1)) dX5_next_49 (by decide) ?_
        refine z_icmp_eq C 70 dX5_next_50 (by decide) (fun c_50 => ?_) (fun c_50 => ?_)
        · refine z_iinc C (v := 1) dX5_next_70 rfl (by decide) (by decide) ?_
          dsimp only [List.set]
          refine z_goto C 11 dX5_next_73 (by decide) ?_
          exact ih (j + 1) _ _ _ _ _ (by rw [e4]; exact nI_1 j) (by rw [nxV_s, ← e45, if_pos c_50]; exact e2) (by rw [nxV_s, ← e45, if_pos c_50]; exact e3) (by omega) (by omega) (hsm.trans hsm2)
        · refine z_iload_n C dX5_next_53 rfl ?_
          refine z_iconst C (v := (-1)) dX5_next_54 (by decide) ?_
          refine z_icmp_eq C 64 dX5_next_55 (by decide) (fun c_55 => ?_) (fun c_55 => ?_)
          · refine z_iload C dX5_next_64 rfl ?_
            refine z_istore_n C dX5_next_66 (by decide) ?_
            dsimp only [List.set]
            refine z_iload C dX5_next_67 rfl ?_
            refine z_istore_n C dX5_next_69 (by decide) ?_
            dsimp only [List.set]
            refine z_iinc C (v := 1) dX5_next_70 rfl (by decide) (by decide) ?_
            dsimp only [List.set]
            refine z_goto C 11 dX5_next_73 (by decide) ?_
            exact ih (j + 1) _ _ _ _ _ (by rw [e4]; exact nI_1 j) (by rw [nxV_s, ← e45, if_neg c_50, ← e2, if_pos c_55]; exact e4) (by rw [nxV_s, ← e45, if_neg c_50, ← e2, if_pos c_55]) (by omega) (by omega) (hsm.trans hsm2)
          · refine z_iload C dX5_next_58 rfl ?_
            refine z_iload_n C dX5_next_60 rfl ?_
            refine z_icmp_ge C 70 dX5_next_61 (by decide) (fun c_61 => ?_) (fun c_61 => ?_)
            · refine z_iinc C (v := 1) dX5_next_70 rfl (by decide) (by decide) ?_
              dsimp only [List.set]
              refine z_goto C 11 dX5_next_73 (by decide) ?_
              exact ih (j + 1) _ _ _ _ _ (by rw [e4]; exact nI_1 j) (by rw [nxV_s, ← e45, if_neg c_50, ← e2, if_neg c_55, ← e3, if_pos c_61]; exact e2) (by rw [nxV_s, ← e45, if_neg c_50, ← e2, if_neg c_55, ← e3, if_pos c_61]; exact e3) (by omega) (by omega) (hsm.trans hsm2)
            · refine z_iload C dX5_next_64 rfl ?_
              refine z_istore_n C dX5_next_66 (by decide) ?_
              dsimp only [List.set]
              refine z_iload C dX5_next_67 rfl ?_
              refine z_istore_n C dX5_next_69 (by decide) ?_
              dsimp only [List.set]
              refine z_iinc C (v := 1) dX5_next_70 rfl (by decide) (by decide) ?_
              dsimp only [List.set]
              refine z_goto C 11 dX5_next_73 (by decide) ?_
              exact ih (j + 1) _ _ _ _ _ (by rw [e4]; exact nI_1 j) (by rw [nxV_s, ← e45, if_neg c_50, ← e2, if_neg c_55, ← e3, if_neg c_61]; exact e4) (by rw [nxV_s, ← e45, if_neg c_50, ← e2, if_neg c_55, ← e3, if_neg c_61]) (by omega) (by omega) (hsm.trans hsm2)
      · have hk : ¬ σ 15 (ix w) 1 &&& (1 <<< (nI j &&& 31)) = 0 := fun q => by
          rw [hsm 15 (ix w) 1 (by decide) (by decide) (by decide) (by decide), e4] at e28
          rw [e28, if_pos q] at c_31
          exact c_31 rfl
        refine z_iconst C (v := (-1)) dX5_next_34 (by decide) ?_
        refine z_goto C 45 dX5_next_35 (by decide) ?_
        refine z_istore C dX5_next_45 (by decide) ?_
        dsimp only [List.set]
        refine z_iload C dX5_next_47 rfl ?_
        refine z_iconst C (v := (-1)) dX5_next_49 (by decide) ?_
        refine z_icmp_eq C 70 dX5_next_50 (by decide) (fun c_50 => ?_) (fun c_50 => ?_)
        · refine z_iinc C (v := 1) dX5_next_70 rfl (by decide) (by decide) ?_
          dsimp only [List.set]
          refine z_goto C 11 dX5_next_73 (by decide) ?_
          exact ih (j + 1) _ _ _ _ _ (by rw [e4]; exact nI_1 j) (by rw [nxV_s, if_pos (show nsV σ w ni j = -1 from if_neg hk)]; exact e2) (by rw [nxV_s, if_pos (show nsV σ w ni j = -1 from if_neg hk)]; exact e3) (by omega) (by omega) (hsm)
        · exact absurd rfl c_50
end
set_option maxRecDepth 100000 in
set_option maxHeartbeats 4000000 in
theorem c_X5_next {l : Launch} {D : va_G} {ad : Nat → Nat → Nat} {cy : Nat → ClassId} {A : Nat → Prop} {sa : Nat → Nat} {σ : St} {w : Int32} (hI : Inv σ) : XI l D ad cy A sa yX5_next cX5_next 6 (some .int) 8 1 σ [.ref (ad 0 0), .int w] (fun r σ' => K_pupil w = 0 ∧ SameC σ σ' ∧ r = (nxV σ w (ix (σ 0 0 7)) (ix (σ 0 0 6))).1) (fun E u => σ = u ∧ pxK [IAE] (K_pupil w) E) := by
  refine XI.mk "FretSchool" (by decide) rfl (Nat.le_of_ble_eq_true rfl) rfl ?_
  intro p e s m args below meth c C hex
  change Z _ _ _ _ _ _ _ _ _ _ _ _ _ _ _ _ _ _ _ [some (.ref (ad 0 0)), some (.int w), none, none, none, none] 0 []
  obtain ⟨np, hnp, enp⟩ := hI.1
  obtain ⟨ni, hni, eni⟩ := hI.2.1
  refine z_iload_n C dX5_next_0 rfl ?_
  refine y_csv C (As := [_]) (c_X5_needPupil) okX5_needPupil wd470 (rok (by decide) (by decide)) ⟨Nat.le_of_ble_eq_true rfl, Nat.le_of_ble_eq_true rfl⟩ rfl (Nat.le_of_ble_eq_true rfl) dX5_next_1 (x_on C hex (by decide) (by decide) (fun E u h => ⟨h.1, by unfold K_pupil; rw [if_pos h.2.2]; exact ⟨by decide, congrArg some h.2.1.symm⟩⟩)) ?_
  rintro _ ⟨rfl, hr1⟩
  refine z_iconst C (v := (-1)) dX5_next_4 (by decide) ?_
  refine z_istore_n C dX5_next_5 (by decide) ?_
  dsimp only [List.set]
  refine z_iconst C (v := 0) dX5_next_6 (by decide) ?_
  refine z_istore_n C dX5_next_7 (by decide) ?_
  dsimp only [List.set]
  refine z_iconst C (v := 0) dX5_next_8 (by decide) ?_
  refine z_istore C dX5_next_9 (by decide) ?_
  dsimp only [List.set]
  exact lp_X5_next C hI hr1 eni hni enp hnp hex (np + 1) 0 _ _ _ _ _ nI_0.symm rfl rfl (by omega) (by omega) SameC.rf
def knowsP (σ : St) (w p : Int32) : Prop := ¬ σ 15 (ix w) 1 &&& (1 <<< (p &&& 31)) = 0
noncomputable def K_learn (σ : St) (w p q : Int32) : Nat := by classical exact if bad p (σ 0 0 6) ∨ bad q (σ 0 0 7) then 1 else if outR w 0 4 then 2 else if knowsP σ w p ∨ lsV σ w (ix p) (ix q) = -1 then 3 else 0
noncomputable def lvL (σ : St) (w p q : Int32) : Int32 := if lsV σ w (ix p) (ix q) = σ 15 (ix w) 0 then σ 15 (ix w) 0 + 1 else σ 15 (ix w) 0
noncomputable def learnS (σ σ2 : St) (w p q : Int32) : St := up (up σ2 15 (ix w) 1 (σ 15 (ix w) 1 ||| (1 <<< (p &&& 31)))) 15 (ix w) 0 (lvL σ w p q)
set_option maxRecDepth 100000 in
set_option maxHeartbeats 4000000 in
theorem c_X5_learn {l : Launch} {D : va_G} {ad : Nat → Nat → Nat} {cy : Nat → ClassId} {A : Nat → Prop} {sa : Nat → Nat} {σ : St} {x y z : Int32} (hI : Inv σ) : XI l D ad cy A sa yX5_learn cX5_learn 6 (some .int) 7 4 σ [.ref (ad 0 0), .int x, .int y, .int z] (fun r σ' => K_learn σ x y z = 0 ∧ r = lvL σ x y z ∧ ∃ σ2, SameC σ σ2 ∧ learnS σ σ2 x y z = σ') (fun E u => SameC σ u ∧ pxK [IOOBE, IAE, ISE] (K_learn σ x y z) E) := by
  refine XI.mk "FretSchool" (by decide) rfl (Nat.le_of_ble_eq_true rfl) rfl ?_
  intro p e s m args below meth c C hex
  change Z _ _ _ _ _ _ _ _ _ _ _ _ _ _ _ _ _ _ _ [some (.ref (ad 0 0)), some (.int x), some (.int y), some (.int z), none, none] 0 []
  refine z_aload_n C dX5_learn_0 rfl ?_
  refine z_iload_n C dX5_learn_1 rfl ?_
  refine y_cvv C (As := [_]) (c_X5_needPiece) okX5_needPiece wd281 rc_0 (rok (by decide) (by decide)) ⟨Nat.le_of_ble_eq_true rfl, Nat.le_of_ble_eq_true rfl⟩ rfl (Nat.le_of_ble_eq_true rfl) dX5_learn_2 (x_on C hex (by decide) (by decide) (fun E u h => ⟨by rw [← h.1]; exact SameC.rf, by unfold K_learn; rw [if_pos (Or.inl h.2.2)]; exact ⟨by decide, congrArg some h.2.1.symm⟩⟩)) ?_
  rintro _ ⟨rfl, hr2⟩
  refine z_aload_n C dX5_learn_5 rfl ?_
  refine z_iload_n C dX5_learn_6 rfl ?_
  refine y_cvv C (As := [_]) (c_X5_needInstrument) okX5_needInstrument wd365 rc_0 (rok (by decide) (by decide)) ⟨Nat.le_of_ble_eq_true rfl, Nat.le_of_ble_eq_true rfl⟩ rfl (Nat.le_of_ble_eq_true rfl) dX5_learn_7 (x_on C hex (by decide) (by decide) (fun E u h => ⟨by rw [← h.1]; exact SameC.rf, by unfold K_learn; rw [if_pos (Or.inr h.2.2)]; exact ⟨by decide, congrArg some h.2.1.symm⟩⟩)) ?_
  rintro _ ⟨rfl, hr7⟩
  refine z_iload_n C dX5_learn_10 rfl ?_
  refine y_csv C (As := [_]) (c_X5_needPupil) okX5_needPupil wd470 (rok (by decide) (by decide)) ⟨Nat.le_of_ble_eq_true rfl, Nat.le_of_ble_eq_true rfl⟩ rfl (Nat.le_of_ble_eq_true rfl) dX5_learn_11 (x_on C hex (by decide) (by decide) (fun E u h => ⟨by rw [← h.1]; exact SameC.rf, by unfold K_learn; rw [if_neg (fun q => q.elim hr2 hr7), if_pos h.2.2]; exact ⟨by decide, congrArg some h.2.1.symm⟩⟩)) ?_
  rintro _ ⟨rfl, hr11⟩
  obtain ⟨ew, hw4⟩ := nout (n := 4) (by decide) hr11
  have hw5 : ix x < 5 := by omega
  refine z_aload_n C dX5_learn_14 rfl ?_
  refine g_0_2 C wd159 dX5_learn_15 ?_
  refine z_iload_n C dX5_learn_18 rfl ?_
  refine a_3 C ew hw5 dX5_learn_19 ?_
  refine z_astore C dX5_learn_20 (by decide) ?_
  dsimp only [List.set]
  refine z_aload C dX5_learn_22 rfl ?_
  refine z_iload_n C dX5_learn_24 rfl ?_
  refine z_cvi C (As := [_]) (c_X4_knows hw5) okX4_knows wd473 (rc_15 hw5) (rok (by decide) (by decide)) ⟨Nat.le_of_ble_eq_true rfl, Nat.le_of_ble_eq_true rfl⟩ rfl (Nat.le_of_ble_eq_true rfl) dX5_learn_25 ?_
  rintro r25 _ ⟨e25, rfl⟩
  refine z_if_eq C 41 dX5_learn_28 (by decide) (fun c_28 => ?_) (fun c_28 => ?_)
  · have hk : ¬ knowsP σ x y := fun q => by
      rw [e25, if_neg q] at c_28
      exact absurd c_28 (by decide)
    refine z_aload_n C dX5_learn_41 rfl ?_
    refine z_iload_n C dX5_learn_42 rfl ?_
    refine z_iload_n C dX5_learn_43 rfl ?_
    refine z_iload_n C dX5_learn_44 rfl ?_
    refine z_cvi C (As := [_, _, _]) (c_X5_learnableShift hI ew hw5 hr2 hr7) okX5_learnableShift wd478 rc_0 (rok (by decide) (by decide)) ⟨Nat.le_of_ble_eq_true rfl, Nat.le_of_ble_eq_true rfl⟩ rfl (Nat.le_of_ble_eq_true rfl) dX5_learn_45 ?_
    rintro r45 σ2 ⟨hsm, e45⟩
    refine z_istore C dX5_learn_48 (by decide) ?_
    dsimp only [List.set]
    refine z_iload C dX5_learn_50 rfl ?_
    refine z_iconst C (v := (-1)) dX5_learn_52 (by decide) ?_
    refine z_icmp_ne C 66 dX5_learn_53 (by decide) (fun c_53 => ?_) (fun c_53 => ?_)
    · refine z_aload C dX5_learn_66 rfl ?_
      refine z_iload_n C dX5_learn_68 rfl ?_
      refine z_iload C dX5_learn_69 rfl ?_
      refine z_cvv C (As := [_, _]) (c_X4_takeIn hw5) okX4_takeIn wd483 (rc_15 hw5) (rok (by decide) (by decide)) ⟨Nat.le_of_ble_eq_true rfl, Nat.le_of_ble_eq_true rfl⟩ rfl (Nat.le_of_ble_eq_true rfl) dX5_learn_71 ?_
      rintro _ rfl
      refine z_aload C dX5_learn_74 rfl ?_
      refine g_15_0 hw5 C wd98 dX5_learn_76 ?_
      refine y_ret (by decide) (by decide) ?_
      refine z_iret C dX5_learn_79 ?_
      have e1 := hsm 15 (ix x) 1 (by decide) (by decide) (by decide) (by decide)
      have e0 := hsm 15 (ix x) 0 (by decide) (by decide) (by decide) (by decide)
      refine ⟨by unfold K_learn; rw [if_neg (fun q => q.elim hr2 hr7), if_neg hr11, if_neg (fun q => q.elim hk (fun q => c_53 (e45.trans q)))], ?_, σ2, hsm, ?_⟩
      · rw [up_app, if_pos ⟨rfl, rfl, rfl⟩, e0, e45]
        rfl
      · unfold learnS lvL
        rw [e1, e0, e45]
    · refine y_ise C hex (tx := "the pupil cannot learn the piece there") (List.mem_of_getElem? (i := 9) rfl) dX5_learn_56 dX5_learn_59 dX5_learn_60 dX5_learn_62 dX5_learn_65 ⟨Nat.le_of_ble_eq_true rfl, Nat.le_of_ble_eq_true rfl⟩ (by decide) (by decide) ?_
      exact ⟨hsm, by unfold K_learn; rw [if_neg (fun q => q.elim hr2 hr7), if_neg hr11, if_pos (Or.inr (e45.symm.trans c_53))]; exact ⟨by decide, rfl⟩⟩
  · have hk : knowsP σ x y := fun q => by
      rw [e25, if_pos q] at c_28
      exact c_28 rfl
    refine y_ise C hex (tx := "the pupil knows the piece") (List.mem_of_getElem? (i := 8) rfl) dX5_learn_31 dX5_learn_34 dX5_learn_35 dX5_learn_37 dX5_learn_40 ⟨Nat.le_of_ble_eq_true rfl, Nat.le_of_ble_eq_true rfl⟩ (by decide) (by decide) ?_
    exact ⟨SameC.rf, by unfold K_learn; rw [if_neg (fun q => q.elim hr2 hr7), if_neg hr11, if_pos (Or.inl hk)]; exact ⟨by decide, rfl⟩⟩
end
section
/-! ===== the model ===== -/
/-- the model's numbers are those of g, a state of the class -/
def MRel (g σ : St) : Prop := σ 17 0 1 = g 0 0 6 ∧ σ 17 0 4 = g 0 0 7 ∧ σ 17 0 11 = g 0 0 8 ∧ σ 17 0 0 = g 0 0 9 ∧ (∀ i, i < 8 → σ 18 0 i = g 11 i 1) ∧ (∀ i j, i < 8 → j < 16 → σ 19 0 (16 * i + j) = g 12 i j) ∧ (∀ i, i < 8 → σ 20 0 i = g 13 i 1) ∧ (∀ i, i < 8 → nI i < g 0 0 7 → σ 21 0 i = g 13 i 2) ∧ (∀ i j, i < 8 → j < 4 → σ 22 0 (4 * i + j) = g 14 i j) ∧ (∀ i, i < 5 → σ 23 0 i = g 15 i 0) ∧ (∀ i, i < 5 → σ 24 0 i = g 15 i 1) ∧ (∀ j, j < 4 → σ 25 0 j = g 5 0 j) ∧ (∀ i, i < 20 → σ 26 0 i = g 16 i 0) ∧ (∀ i, i < 20 → nI i < g 0 0 8 → σ 27 0 i = g 16 i 1) ∧ (∀ i, i < 20 → σ 28 0 i = g 16 i 2) ∧ ∀ i, i < 20 → σ 29 0 i = g 16 i 3
/-- all but the scratch rows and the note of what was thrown -/
def FS (σ σ' : St) : Prop := ∀ a b c0, a ≠ 30 → a ≠ 31 → ¬ (a = 17 ∧ c0 = 18) → σ' a b c0 = σ a b c0
def FR (σ σ' : St) : Prop := ∀ a b c0, a ≠ 30 → a ≠ 31 → σ' a b c0 = σ a b c0
theorem FR.fs {σ σ' : St} (h : FR σ σ') : FS σ σ' := fun a b c0 h1 h2 _ => h a b c0 h1 h2
theorem FR.rf {σ : St} : FR σ σ := fun _ _ _ _ _ => rfl
theorem FS.rf {σ : St} : FS σ σ := fun _ _ _ _ _ _ => rfl
theorem FR.trans {σ σ1 σ2 : St} (h1 : FR σ σ1) (h2 : FR σ1 σ2) : FR σ σ2 := fun a b c0 x y => (h2 a b c0 x y).trans (h1 a b c0 x y)
theorem FS.trans {σ σ1 σ2 : St} (h1 : FS σ σ1) (h2 : FS σ1 σ2) : FS σ σ2 := fun a b c0 x y z => (h2 a b c0 x y z).trans (h1 a b c0 x y z)
theorem FS.thr {σ : St} {x : Int32} : FS σ (up σ 17 0 18 x) := fun a b c0 _ _ h => by rw [up_app, if_neg (fun q => h ⟨q.1, q.2.2⟩)]
theorem MRel.fs {g σ σ' : St} (h : MRel g σ) (hf : FS σ σ') : MRel g σ' := by
  obtain ⟨h1, h2, h3, h4, h5, h6, h7, h8, h9, h10, h11, h12, h13, h14, h15, h16⟩ := h
  refine ⟨?_, ?_, ?_, ?_, fun i hi => ?_, fun i j hi hj => ?_, fun i hi => ?_, fun i hi hl => ?_, fun i j hi hj => ?_, fun i hi => ?_, fun i hi => ?_, fun j hj => ?_, fun i hi => ?_, fun i hi hl => ?_, fun i hi => ?_, fun i hi => ?_⟩
  · rw [hf 17 0 1 (by decide) (by decide) (by decide)]; exact h1
  · rw [hf 17 0 4 (by decide) (by decide) (by decide)]; exact h2
  · rw [hf 17 0 11 (by decide) (by decide) (by decide)]; exact h3
  · rw [hf 17 0 0 (by decide) (by decide) (by decide)]; exact h4
  · rw [hf 18 0 i (by decide) (by decide) (fun q => absurd q.1 (by decide))]; exact h5 i hi
  · rw [hf 19 0 _ (by decide) (by decide) (fun q => absurd q.1 (by decide))]; exact h6 i j hi hj
  · rw [hf 20 0 i (by decide) (by decide) (fun q => absurd q.1 (by decide))]; exact h7 i hi
  · rw [hf 21 0 i (by decide) (by decide) (fun q => absurd q.1 (by decide))]; exact h8 i hi hl
  · rw [hf 22 0 _ (by decide) (by decide) (fun q => absurd q.1 (by decide))]; exact h9 i j hi hj
  · rw [hf 23 0 i (by decide) (by decide) (fun q => absurd q.1 (by decide))]; exact h10 i hi
  · rw [hf 24 0 i (by decide) (by decide) (fun q => absurd q.1 (by decide))]; exact h11 i hi
  · rw [hf 25 0 j (by decide) (by decide) (fun q => absurd q.1 (by decide))]; exact h12 j hj
  · rw [hf 26 0 i (by decide) (by decide) (fun q => absurd q.1 (by decide))]; exact h13 i hi
  · rw [hf 27 0 i (by decide) (by decide) (fun q => absurd q.1 (by decide))]; exact h14 i hi hl
  · rw [hf 28 0 i (by decide) (by decide) (fun q => absurd q.1 (by decide))]; exact h15 i hi
  · rw [hf 29 0 i (by decide) (by decide) (fun q => absurd q.1 (by decide))]; exact h16 i hi
theorem MRel.many {g σ : St} (h : MRel g σ) {i : Nat} (hi : i < 8) : σ 18 0 i = g 11 i 1 := h.2.2.2.2.1 i hi
theorem MRel.pit {g σ : St} (h : MRel g σ) {i j : Nat} (hi : i < 8) (hj : j < 16) : σ 19 0 (16 * i + j) = g 12 i j := h.2.2.2.2.2.1 i j hi hj
theorem MRel.own {g σ : St} (h : MRel g σ) {i : Nat} (hi : i < 8) : σ 20 0 i = g 13 i 1 := h.2.2.2.2.2.2.1 i hi
theorem MRel.fr {g σ : St} (h : MRel g σ) {i : Nat} (hi : i < 8) (hl : nI i < g 0 0 7) : σ 21 0 i = g 13 i 2 := h.2.2.2.2.2.2.2.1 i hi hl
theorem MRel.opn {g σ : St} (h : MRel g σ) {i j : Nat} (hi : i < 8) (hj : j < 4) : σ 22 0 (4 * i + j) = g 14 i j := h.2.2.2.2.2.2.2.2.1 i j hi hj
theorem MRel.lev {g σ : St} (h : MRel g σ) {i : Nat} (hi : i < 5) : σ 23 0 i = g 15 i 0 := h.2.2.2.2.2.2.2.2.2.1 i hi
theorem MRel.kno {g σ : St} (h : MRel g σ) {i : Nat} (hi : i < 5) : σ 24 0 i = g 15 i 1 := h.2.2.2.2.2.2.2.2.2.2.1 i hi
theorem MRel.stk {g σ : St} (h : MRel g σ) {j : Nat} (hj : j < 4) : σ 25 0 j = g 5 0 j := h.2.2.2.2.2.2.2.2.2.2.2.1 j hj
theorem MRel.buy {g σ : St} (h : MRel g σ) {i : Nat} (hi : i < 20) : σ 26 0 i = g 16 i 0 := h.2.2.2.2.2.2.2.2.2.2.2.2.1 i hi
theorem MRel.ord {g σ : St} (h : MRel g σ) {i : Nat} (hi : i < 20) (hl : nI i < g 0 0 8) : σ 27 0 i = g 16 i 1 := h.2.2.2.2.2.2.2.2.2.2.2.2.2.1 i hi hl
theorem MRel.rdy {g σ : St} (h : MRel g σ) {i : Nat} (hi : i < 20) : σ 28 0 i = g 16 i 2 := h.2.2.2.2.2.2.2.2.2.2.2.2.2.2.1 i hi
theorem MRel.fet {g σ : St} (h : MRel g σ) {i : Nat} (hi : i < 20) : σ 29 0 i = g 16 i 3 := h.2.2.2.2.2.2.2.2.2.2.2.2.2.2.2 i hi
theorem le_pred {v : Int32} {n : Nat} (hn : n < 2 ^ 31) : v ≤ nI n - 1 ↔ v < nI n := by
  rw [Int32.le_iff_toInt_le, Int32.lt_iff_toInt_lt, nI_toInt hn]
  have h1 : (nI n - 1).toInt = (n : Int) - 1 := by
    rw [show (1 : Int32) = nI 1 from rfl]
    rcases Nat.lt_or_ge n 1 with q | q
    · rw [show n = 0 by omega]; decide
    · rw [pk_sub q, nI_toInt (by omega)]; omega
  rw [h1]
  omega
theorem bad_out {v : Int32} {n : Nat} (hn : n < 2 ^ 31) : outR v 0 (nI n - 1) ↔ bad v (nI n) := by
  unfold outR bad
  rw [le_pred hn]
theorem outR_gt {v lo hi : Int32} : outR v lo hi ↔ (v < lo ∨ hi < v) := by unfold outR; rw [Int32.not_le]
set_option maxRecDepth 100000 in
set_option maxHeartbeats 4000000 in
theorem c_X6_thrown {l : Launch} {D : va_G} {ad : Nat → Nat → Nat} {cy : Nat → ClassId} {A : Nat → Prop} {sa : Nat → Nat} {σ : St} : MI l D ad cy A sa yX6_thrown cX6_thrown 1 (some .int) 0 σ [.ref (ad 17 0)] (fun r σ' => r = σ 17 0 18 ∧ σ = σ') := by
  refine MI.mk "FretSchoolModel" (by decide) rfl (Nat.le_of_ble_eq_true rfl) rfl ?_
  intro p e s m args below meth c C
  change Z _ _ _ _ _ _ _ _ _ _ _ _ _ _ _ _ _ _ _ [some (.ref (ad 17 0))] 0 []
  refine z_aload_n C dX6_thrown_0 rfl ?_
  refine g_17_18 C wd603 dX6_thrown_1 ?_
  refine z_iret C dX6_thrown_4 ?_
  exact ⟨rfl, rfl⟩
set_option maxRecDepth 100000 in
set_option maxHeartbeats 4000000 in
theorem c_X6_in {l : Launch} {D : va_G} {ad : Nat → Nat → Nat} {cy : Nat → ClassId} {A : Nat → Prop} {sa : Nat → Nat} {σ : St} {v lo hi : Int32} : MI l D ad cy A sa yX6_in cX6_in 3 (some .boolean) 0 σ [.int v, .int lo, .int hi] (fun r σ' => σ = σ' ∧ ((r = 1 ∧ ¬ outR v lo hi) ∨ (r = 0 ∧ outR v lo hi))) := by
  refine MI.mk "FretSchoolModel" (by decide) rfl (Nat.le_of_ble_eq_true rfl) rfl ?_
  intro p e s m args below meth c C
  change Z _ _ _ _ _ _ _ _ _ _ _ _ _ _ _ _ _ _ _ [some (.int v), some (.int lo), some (.int hi)] 0 []
  refine z_iload_n C dX6_in_0 rfl ?_
  refine z_iload_n C dX6_in_1 rfl ?_
  refine z_icmp_lt C 14 dX6_in_2 (by decide) (fun c_2 => ?_) (fun c_2 => ?_)
  · refine z_iconst C (v := 0) dX6_in_14 (by decide) ?_
    refine z_zret C dX6_in_15 (by first | exact Or.inl rfl | exact Or.inr rfl | assumption) ?_
    exact ⟨rfl, Or.inr ⟨rfl, outR_gt.mpr (Or.inl c_2)⟩⟩
  · refine z_iload_n C dX6_in_5 rfl ?_
    refine z_iload_n C dX6_in_6 rfl ?_
    refine z_icmp_gt C 14 dX6_in_7 (by decide) (fun c_7 => ?_) (fun c_7 => ?_)
    · refine z_iconst C (v := 0) dX6_in_14 (by decide) ?_
      refine z_zret C dX6_in_15 (by first | exact Or.inl rfl | exact Or.inr rfl | assumption) ?_
      exact ⟨rfl, Or.inr ⟨rfl, outR_gt.mpr (Or.inr c_7)⟩⟩
    · refine z_iconst C (v := 1) dX6_in_10 (by decide) ?_
      refine z_goto C 15 dX6_in_11 (by decide) ?_
      refine z_zret C dX6_in_15 (by first | exact Or.inl rfl | exact Or.inr rfl | assumption) ?_
      exact ⟨rfl, Or.inl ⟨rfl, fun q => (outR_gt.mp q).elim c_2 c_7⟩⟩
def tC (a b c0 : Int32) : Nat := if a = 0 then 1 else if b = 0 then 2 else if c0 = 0 then 3 else 0
set_option maxRecDepth 100000 in
set_option maxHeartbeats 4000000 in
theorem c_X6_goes {l : Launch} {D : va_G} {ad : Nat → Nat → Nat} {cy : Nat → ClassId} {A : Nat → Prop} {sa : Nat → Nat} {σ : St} {a b c0 : Int32} : MI l D ad cy A sa yX6_goes cX6_goes 4 (some .boolean) 0 σ [.ref (ad 17 0), .int a, .int b, .int c0] (fun r σ' => up σ 17 0 18 (nI (tC a b c0)) = σ' ∧ r = (if tC a b c0 = 0 then 1 else 0)) := by
  refine MI.mk "FretSchoolModel" (by decide) rfl (Nat.le_of_ble_eq_true rfl) rfl ?_
  intro p e s m args below meth c C
  change Z _ _ _ _ _ _ _ _ _ _ _ _ _ _ _ _ _ _ _ [some (.ref (ad 17 0)), some (.int a), some (.int b), some (.int c0)] 0 []
  refine z_aload_n C dX6_goes_0 rfl ?_
  refine z_iload_n C dX6_goes_1 rfl ?_
  refine z_if_ne C 9 dX6_goes_2 (by decide) (fun c_2 => ?_) (fun c_2 => ?_)
  · refine z_iload_n C dX6_goes_9 rfl ?_
    refine z_if_ne C 17 dX6_goes_10 (by decide) (fun c_10 => ?_) (fun c_10 => ?_)
    · refine z_iload_n C dX6_goes_17 rfl ?_
      refine z_if_ne C 25 dX6_goes_18 (by decide) (fun c_18 => ?_) (fun c_18 => ?_)
      · refine z_iconst C (v := 0) dX6_goes_25 (by decide) ?_
        refine p_17_18 C wd603 dX6_goes_26 ?_
        refine z_aload_n C dX6_goes_29 rfl ?_
        refine g_17_18 C wd603 dX6_goes_30 ?_
        refine z_if_ne C 40 dX6_goes_33 (by decide) (fun c_33 => ?_) (fun c_33 => ?_)
        · exact absurd (show up σ 17 0 18 0 17 0 18 = 0 by rw [up_app, if_pos ⟨rfl, rfl, rfl⟩]) c_33
        · refine z_iconst C (v := 1) dX6_goes_36 (by decide) ?_
          refine z_goto C 41 dX6_goes_37 (by decide) ?_
          refine z_zret C dX6_goes_41 (by first | exact Or.inl rfl | exact Or.inr rfl | assumption) ?_
          unfold tC
          rw [if_neg c_2, if_neg c_10, if_neg c_18]
          exact ⟨rfl, rfl⟩
      · refine z_iconst C (v := 3) dX6_goes_21 (by decide) ?_
        refine z_goto C 26 dX6_goes_22 (by decide) ?_
        refine p_17_18 C wd603 dX6_goes_26 ?_
        refine z_aload_n C dX6_goes_29 rfl ?_
        refine g_17_18 C wd603 dX6_goes_30 ?_
        refine z_if_ne C 40 dX6_goes_33 (by decide) (fun c_33 => ?_) (fun c_33 => ?_)
        · refine z_iconst C (v := 0) dX6_goes_40 (by decide) ?_
          refine z_zret C dX6_goes_41 (by first | exact Or.inl rfl | exact Or.inr rfl | assumption) ?_
          unfold tC
          rw [if_neg c_2, if_neg c_10, if_pos c_18]
          exact ⟨rfl, rfl⟩
        · rw [up_app, if_pos ⟨rfl, rfl, rfl⟩] at c_33
          exact absurd c_33 (by decide)
    · refine z_iconst C (v := 2) dX6_goes_13 (by decide) ?_
      refine z_goto C 26 dX6_goes_14 (by decide) ?_
      refine p_17_18 C wd603 dX6_goes_26 ?_
      refine z_aload_n C dX6_goes_29 rfl ?_
      refine g_17_18 C wd603 dX6_goes_30 ?_
      refine z_if_ne C 40 dX6_goes_33 (by decide) (fun c_33 => ?_) (fun c_33 => ?_)
      · refine z_iconst C (v := 0) dX6_goes_40 (by decide) ?_
        refine z_zret C dX6_goes_41 (by first | exact Or.inl rfl | exact Or.inr rfl | assumption) ?_
        unfold tC
        rw [if_neg c_2, if_pos c_10]
        exact ⟨rfl, rfl⟩
      · rw [up_app, if_pos ⟨rfl, rfl, rfl⟩] at c_33
        exact absurd c_33 (by decide)
  · refine z_iconst C (v := 1) dX6_goes_5 (by decide) ?_
    refine z_goto C 26 dX6_goes_6 (by decide) ?_
    refine p_17_18 C wd603 dX6_goes_26 ?_
    refine z_aload_n C dX6_goes_29 rfl ?_
    refine g_17_18 C wd603 dX6_goes_30 ?_
    refine z_if_ne C 40 dX6_goes_33 (by decide) (fun c_33 => ?_) (fun c_33 => ?_)
    · refine z_iconst C (v := 0) dX6_goes_40 (by decide) ?_
      refine z_zret C dX6_goes_41 (by first | exact Or.inl rfl | exact Or.inr rfl | assumption) ?_
      unfold tC
      rw [if_pos c_2]
      exact ⟨rfl, rfl⟩
    · rw [up_app, if_pos ⟨rfl, rfl, rfl⟩] at c_33
      exact absurd c_33 (by decide)
set_option maxRecDepth 100000 in
set_option maxHeartbeats 4000000 in
theorem c_X6_told {l : Launch} {D : va_G} {ad : Nat → Nat → Nat} {cy : Nat → ClassId} {A : Nat → Prop} {sa : Nat → Nat} {σ : St} {x : Int32} : MI l D ad cy A sa yX6_told cX6_told 2 (some .int) 0 σ [.ref (ad 17 0), .int x] (fun r σ' => r = x ∧ up σ 17 0 18 0 = σ') := by
  refine MI.mk "FretSchoolModel" (by decide) rfl (Nat.le_of_ble_eq_true rfl) rfl ?_
  intro p e s m args below meth c C
  change Z _ _ _ _ _ _ _ _ _ _ _ _ _ _ _ _ _ _ _ [some (.ref (ad 17 0)), some (.int x)] 0 []
  refine z_aload_n C dX6_told_0 rfl ?_
  refine z_iconst C (v := 0) dX6_told_1 (by decide) ?_
  refine p_17_18 C wd603 dX6_told_2 ?_
  refine z_iload_n C dX6_told_5 rfl ?_
  refine z_iret C dX6_told_6 ?_
  exact ⟨rfl, rfl⟩
set_option maxRecDepth 100000 in
set_option maxHeartbeats 4000000 in
theorem c_X6_isPiece {l : Launch} {D : va_G} {ad : Nat → Nat → Nat} {cy : Nat → ClassId} {A : Nat → Prop} {sa : Nat → Nat} {σ : St} {x : Int32} {n : Nat} (hn : σ 17 0 1 = nI n) (hn31 : n < 2 ^ 31) : MI l D ad cy A sa yX6_isPiece cX6_isPiece 2 (some .boolean) 1 σ [.ref (ad 17 0), .int x] (fun r σ' => σ = σ' ∧ ((r = 1 ∧ ¬ bad x (nI n)) ∨ (r = 0 ∧ bad x (nI n)))) := by
  refine MI.mk "FretSchoolModel" (by decide) rfl (Nat.le_of_ble_eq_true rfl) rfl ?_
  intro p e s m args below meth c C
  change Z _ _ _ _ _ _ _ _ _ _ _ _ _ _ _ _ _ _ _ [some (.ref (ad 17 0)), some (.int x)] 0 []
  refine z_iload_n C dX6_isPiece_0 rfl ?_
  refine z_iconst C (v := 0) dX6_isPiece_1 (by decide) ?_
  refine z_aload_n C dX6_isPiece_2 rfl ?_
  refine g_17_1 C wd586 dX6_isPiece_3 ?_
  refine z_iconst C (v := 1) dX6_isPiece_6 (by decide) ?_
  refine z_isub C dX6_isPiece_7 ?_
  refine z_csi C (As := [_, _, _]) (c_X6_in) okX6_in wd664 (rok (by decide) (by decide)) ⟨Nat.le_of_ble_eq_true rfl, Nat.le_of_ble_eq_true rfl⟩ rfl (Nat.le_of_ble_eq_true rfl) dX6_isPiece_8 ?_
  rintro r8 _ ⟨rfl, h8⟩
  rw [hn, bad_out hn31] at h8
  have hz8 : r8 = 0 ∨ r8 = 1 := h8.elim (fun h => Or.inr h.1) (fun h => Or.inl h.1)
  refine z_zret C dX6_isPiece_11 (by first | exact Or.inl rfl | exact Or.inr rfl | assumption) ?_
  exact ⟨rfl, h8⟩
set_option maxRecDepth 100000 in
set_option maxHeartbeats 4000000 in
theorem c_X6_isInstrument {l : Launch} {D : va_G} {ad : Nat → Nat → Nat} {cy : Nat → ClassId} {A : Nat → Prop} {sa : Nat → Nat} {σ : St} {x : Int32} {n : Nat} (hn : σ 17 0 4 = nI n) (hn31 : n < 2 ^ 31) : MI l D ad cy A sa yX6_isInstrument cX6_isInstrument 2 (some .boolean) 1 σ [.ref (ad 17 0), .int x] (fun r σ' => σ = σ' ∧ ((r = 1 ∧ ¬ bad x (nI n)) ∨ (r = 0 ∧ bad x (nI n)))) := by
  refine MI.mk "FretSchoolModel" (by decide) rfl (Nat.le_of_ble_eq_true rfl) rfl ?_
  intro p e s m args below meth c C
  change Z _ _ _ _ _ _ _ _ _ _ _ _ _ _ _ _ _ _ _ [some (.ref (ad 17 0)), some (.int x)] 0 []
  refine z_iload_n C dX6_isInstrument_0 rfl ?_
  refine z_iconst C (v := 0) dX6_isInstrument_1 (by decide) ?_
  refine z_aload_n C dX6_isInstrument_2 rfl ?_
  refine g_17_4 C wd589 dX6_isInstrument_3 ?_
  refine z_iconst C (v := 1) dX6_isInstrument_6 (by decide) ?_
  refine z_isub C dX6_isInstrument_7 ?_
  refine z_csi C (As := [_, _, _]) (c_X6_in) okX6_in wd664 (rok (by decide) (by decide)) ⟨Nat.le_of_ble_eq_true rfl, Nat.le_of_ble_eq_true rfl⟩ rfl (Nat.le_of_ble_eq_true rfl) dX6_isInstrument_8 ?_
  rintro r8 _ ⟨rfl, h8⟩
  rw [hn, bad_out hn31] at h8
  have hz8 : r8 = 0 ∨ r8 = 1 := h8.elim (fun h => Or.inr h.1) (fun h => Or.inl h.1)
  refine z_zret C dX6_isInstrument_11 (by first | exact Or.inl rfl | exact Or.inr rfl | assumption) ?_
  exact ⟨rfl, h8⟩
set_option maxRecDepth 100000 in
set_option maxHeartbeats 4000000 in
theorem c_X6_isOrder {l : Launch} {D : va_G} {ad : Nat → Nat → Nat} {cy : Nat → ClassId} {A : Nat → Prop} {sa : Nat → Nat} {σ : St} {x : Int32} {n : Nat} (hn : σ 17 0 11 = nI n) (hn31 : n < 2 ^ 31) : MI l D ad cy A sa yX6_isOrder cX6_isOrder 2 (some .boolean) 1 σ [.ref (ad 17 0), .int x] (fun r σ' => σ = σ' ∧ ((r = 1 ∧ ¬ bad x (nI n)) ∨ (r = 0 ∧ bad x (nI n)))) := by
  refine MI.mk "FretSchoolModel" (by decide) rfl (Nat.le_of_ble_eq_true rfl) rfl ?_
  intro p e s m args below meth c C
  change Z _ _ _ _ _ _ _ _ _ _ _ _ _ _ _ _ _ _ _ [some (.ref (ad 17 0)), some (.int x)] 0 []
  refine z_iload_n C dX6_isOrder_0 rfl ?_
  refine z_iconst C (v := 0) dX6_isOrder_1 (by decide) ?_
  refine z_aload_n C dX6_isOrder_2 rfl ?_
  refine g_17_11 C wd596 dX6_isOrder_3 ?_
  refine z_iconst C (v := 1) dX6_isOrder_6 (by decide) ?_
  refine z_isub C dX6_isOrder_7 ?_
  refine z_csi C (As := [_, _, _]) (c_X6_in) okX6_in wd664 (rok (by decide) (by decide)) ⟨Nat.le_of_ble_eq_true rfl, Nat.le_of_ble_eq_true rfl⟩ rfl (Nat.le_of_ble_eq_true rfl) dX6_isOrder_8 ?_
  rintro r8 _ ⟨rfl, h8⟩
  rw [hn, bad_out hn31] at h8
  have hz8 : r8 = 0 ∨ r8 = 1 := h8.elim (fun h => Or.inr h.1) (fun h => Or.inl h.1)
  refine z_zret C dX6_isOrder_11 (by first | exact Or.inl rfl | exact Or.inr rfl | assumption) ?_
  exact ⟨rfl, h8⟩
set_option maxRecDepth 100000 in
set_option maxHeartbeats 4000000 in
theorem c_X6_isPupil {l : Launch} {D : va_G} {ad : Nat → Nat → Nat} {cy : Nat → ClassId} {A : Nat → Prop} {sa : Nat → Nat} {σ : St} {x : Int32} : MI l D ad cy A sa yX6_isPupil cX6_isPupil 1 (some .boolean) 1 σ [.int x] (fun r σ' => σ = σ' ∧ ((r = 1 ∧ ¬ outR x 0 4) ∨ (r = 0 ∧ outR x 0 4))) := by
  refine MI.mk "FretSchoolModel" (by decide) rfl (Nat.le_of_ble_eq_true rfl) rfl ?_
  intro p e s m args below meth c C
  change Z _ _ _ _ _ _ _ _ _ _ _ _ _ _ _ _ _ _ _ [some (.int x)] 0 []
  refine z_iload_n C dX6_isPupil_0 rfl ?_
  refine z_iconst C (v := 0) dX6_isPupil_1 (by decide) ?_
  refine z_iconst C (v := 4) dX6_isPupil_2 (by decide) ?_
  refine z_csi C (As := [_, _, _]) (c_X6_in) okX6_in wd664 (rok (by decide) (by decide)) ⟨Nat.le_of_ble_eq_true rfl, Nat.le_of_ble_eq_true rfl⟩ rfl (Nat.le_of_ble_eq_true rfl) dX6_isPupil_3 ?_
  rintro r3 _ ⟨rfl, h3⟩
  have hz3 : r3 = 0 ∨ r3 = 1 := h3.elim (fun h => Or.inr h.1) (fun h => Or.inl h.1)
  refine z_zret C dX6_isPupil_6 (by first | exact Or.inl rfl | exact Or.inr rfl | assumption) ?_
  exact ⟨rfl, h3⟩
set_option maxRecDepth 100000 in
set_option maxHeartbeats 4000000 in
theorem c_X6_isOpen {l : Launch} {D : va_G} {ad : Nat → Nat → Nat} {cy : Nat → ClassId} {A : Nat → Prop} {sa : Nat → Nat} {σ : St} {x : Int32} : MI l D ad cy A sa yX6_isOpen cX6_isOpen 1 (some .boolean) 1 σ [.int x] (fun r σ' => σ = σ' ∧ ((r = 1 ∧ ¬ outR x 0 60) ∨ (r = 0 ∧ outR x 0 60))) := by
  refine MI.mk "FretSchoolModel" (by decide) rfl (Nat.le_of_ble_eq_true rfl) rfl ?_
  intro p e s m args below meth c C
  change Z _ _ _ _ _ _ _ _ _ _ _ _ _ _ _ _ _ _ _ [some (.int x)] 0 []
  refine z_iload_n C dX6_isOpen_0 rfl ?_
  refine z_iconst C (v := 0) dX6_isOpen_1 (by decide) ?_
  refine z_bipush C (v := 60) dX6_isOpen_2 (by decide) ?_
  refine z_csi C (As := [_, _, _]) (c_X6_in) okX6_in wd664 (rok (by decide) (by decide)) ⟨Nat.le_of_ble_eq_true rfl, Nat.le_of_ble_eq_true rfl⟩ rfl (Nat.le_of_ble_eq_true rfl) dX6_isOpen_4 ?_
  rintro r4 _ ⟨rfl, h4⟩
  have hz4 : r4 = 0 ∨ r4 = 1 := h4.elim (fun h => Or.inr h.1) (fun h => Or.inl h.1)
  refine z_zret C dX6_isOpen_7 (by first | exact Or.inl rfl | exact Or.inr rfl | assumption) ?_
  exact ⟨rfl, h4⟩
set_option maxRecDepth 100000 in
set_option maxHeartbeats 4000000 in
theorem c_X6_isNote {l : Launch} {D : va_G} {ad : Nat → Nat → Nat} {cy : Nat → ClassId} {A : Nat → Prop} {sa : Nat → Nat} {σ : St} {g : St} {x y : Int32} (hM : MRel g σ) (hI : Inv g) : MI l D ad cy A sa yX6_isNote cX6_isNote 3 (some .boolean) 2 σ [.ref (ad 17 0), .int x, .int y] (fun r σ' => σ = σ' ∧ ((r = 1 ∧ ¬ (bad x (g 0 0 6) ∨ bad y (g 11 (ix x) 1))) ∨ (r = 0 ∧ (bad x (g 0 0 6) ∨ bad y (g 11 (ix x) 1))))) := by
  refine MI.mk "FretSchoolModel" (by decide) rfl (Nat.le_of_ble_eq_true rfl) rfl ?_
  intro p e s m args below meth c C
  change Z _ _ _ _ _ _ _ _ _ _ _ _ _ _ _ _ _ _ _ [some (.ref (ad 17 0)), some (.int x), some (.int y)] 0 []
  obtain ⟨np, hnp, enp⟩ := hI.1
  have enp1 : σ 17 0 1 = nI np := hM.1.trans enp
  refine z_aload_n C dX6_isNote_0 rfl ?_
  refine z_iload_n C dX6_isNote_1 rfl ?_
  refine z_cvi C (As := [_]) (c_X6_isPiece enp1 (by omega)) okX6_isPiece wd660 rc_17 (rok (by decide) (by decide)) ⟨Nat.le_of_ble_eq_true rfl, Nat.le_of_ble_eq_true rfl⟩ rfl (Nat.le_of_ble_eq_true rfl) dX6_isNote_2 ?_
  rintro r2 _ ⟨rfl, h2⟩
  refine z_if_eq C 28 dX6_isNote_5 (by decide) (fun c_5 => ?_) (fun c_5 => ?_)
  · have hb : bad x (nI np) := h2.elim (fun h => absurd (h.1.symm.trans c_5) (by decide)) (fun h => h.2)
    rw [← enp] at hb
    refine z_iconst C (v := 0) dX6_isNote_28 (by decide) ?_
    refine z_zret C dX6_isNote_29 (by first | exact Or.inl rfl | exact Or.inr rfl | assumption) ?_
    exact ⟨rfl, Or.inr ⟨rfl, Or.inl hb⟩⟩
  · have hb : ¬ bad x (nI np) := h2.elim (fun h => h.2) (fun h => absurd h.1 c_5)
    obtain ⟨ex, hx1, hx2⟩ := nbad hnp (by decide) hb
    rw [← enp] at hb
    obtain ⟨ec, hc16⟩ := hI.2.2.2.1 (ix x) hx2
    refine z_iload_n C dX6_isNote_8 rfl ?_
    refine z_iconst C (v := 0) dX6_isNote_9 (by decide) ?_
    refine z_aload_n C dX6_isNote_10 rfl ?_
    refine g_17_2 C wd587 dX6_isNote_11 ?_
    refine z_iload_n C dX6_isNote_14 rfl ?_
    refine a_18 C ex hx2 dX6_isNote_15 ?_
    refine z_iconst C (v := 1) dX6_isNote_16 (by decide) ?_
    refine z_isub C dX6_isNote_17 ?_
    refine z_csi C (As := [_, _, _]) (c_X6_in) okX6_in wd664 (rok (by decide) (by decide)) ⟨Nat.le_of_ble_eq_true rfl, Nat.le_of_ble_eq_true rfl⟩ rfl (Nat.le_of_ble_eq_true rfl) dX6_isNote_18 ?_
    rintro r18 _ ⟨rfl, h18⟩
    rw [hM.many hx2, ec, bad_out (by omega), ← ec] at h18
    refine z_if_eq C 28 dX6_isNote_21 (by decide) (fun c_21 => ?_) (fun c_21 => ?_)
    · have hb2 : bad y (g 11 (ix x) 1) := h18.elim (fun h => absurd (h.1.symm.trans c_21) (by decide)) (fun h => h.2)
      refine z_iconst C (v := 0) dX6_isNote_28 (by decide) ?_
      refine z_zret C dX6_isNote_29 (by first | exact Or.inl rfl | exact Or.inr rfl | assumption) ?_
      exact ⟨rfl, Or.inr ⟨rfl, Or.inr hb2⟩⟩
    · have hb2 : ¬ bad y (g 11 (ix x) 1) := h18.elim (fun h => h.2) (fun h => absurd h.1 c_21)
      refine z_iconst C (v := 1) dX6_isNote_24 (by decide) ?_
      refine z_goto C 29 dX6_isNote_25 (by decide) ?_
      refine z_zret C dX6_isNote_29 (by first | exact Or.inl rfl | exact Or.inr rfl | assumption) ?_
      exact ⟨rfl, Or.inl ⟨rfl, fun q => q.elim hb hb2⟩⟩
end
