/-! ===== throw new E("text") in FretSchool ===== -/
def nmsX : List String := ["java/lang/RuntimeException", "java/lang/Exception"]
theorem hatI : ∀ w ∈ (vx_atS "FretSchool" 65 "java/lang/IllegalStateException" nmsX).filter goodWord, w ∈ lw_tbl := by decide +kernel
theorem hatB : ∀ w ∈ (vx_atS "FretSchool" 213 "java/lang/IndexOutOfBoundsException" nmsX).filter goodWord, w ∈ lw_tbl := by decide +kernel
theorem hatA : ∀ w ∈ (vx_atS "FretSchool" 224 "java/lang/IllegalArgumentException" nmsX).filter goodWord, w ∈ lw_tbl := by decide +kernel
theorem hatI2 : ∀ w ∈ (vx_atS "FretSchool" 65 "java/lang/IllegalStateException" nmsX).filter (fun w => !goodWord w), w ∈ Cond.castable "java/lang/IllegalStateException" "java/lang/IllegalStateException" :: decs.map Cond.declares := by decide +kernel
theorem hatB2 : ∀ w ∈ (vx_atS "FretSchool" 213 "java/lang/IndexOutOfBoundsException" nmsX).filter (fun w => !goodWord w), w ∈ Cond.castable "java/lang/IndexOutOfBoundsException" "java/lang/IndexOutOfBoundsException" :: decs.map Cond.declares := by decide +kernel
theorem hatA2 : ∀ w ∈ (vx_atS "FretSchool" 224 "java/lang/IllegalArgumentException" nmsX).filter (fun w => !goodWord w), w ∈ Cond.castable "java/lang/IllegalArgumentException" "java/lang/IllegalArgumentException" :: decs.map Cond.declares := by decide +kernel
theorem hotI : ∀ w ∈ Cond.classLink "FretSchool" 61 "java/lang/IllegalStateException" :: Cond.initialized "java/lang/IllegalStateException" :: vx_atS "FretSchool" 65 "java/lang/IllegalStateException" nmsX, vx_ot w = true := List.all_eq_true.mp (by decide +kernel)
theorem hotB : ∀ w ∈ Cond.classLink "FretSchool" 209 "java/lang/IndexOutOfBoundsException" :: Cond.initialized "java/lang/IndexOutOfBoundsException" :: vx_atS "FretSchool" 213 "java/lang/IndexOutOfBoundsException" nmsX, vx_ot w = true := List.all_eq_true.mp (by decide +kernel)
theorem hotA : ∀ w ∈ Cond.classLink "FretSchool" 220 "java/lang/IllegalArgumentException" :: Cond.initialized "java/lang/IllegalArgumentException" :: vx_atS "FretSchool" 224 "java/lang/IllegalArgumentException" nmsX, vx_ot w = true := List.all_eq_true.mp (by decide +kernel)
section ZT
variable {p : Program} {l : Launch} {e : Env} {R : Room} {s : State} {m : MethodId} {args : Array Value} {below : List Frame} {meth : Method} {c : Code} {D : va_G} {ad : Nat → Nat → Nat} {cy : Nat → ClassId} {A : Nat → Prop} {sa : Nat → Nat} {nL cells slots : Nat} {σ : St} {L : List (Option Value)} {pc : Nat} {st : List Value} {cc : ByteArray} {ret : Option FieldType}
theorem y_throw (C : Cx p l s m args meth c cc "FretSchool" nL ret D ad cy A sa) (hex : ∀ x ∈ c.exceptionTable.toList, False) {Qc : Array Value → State → Outcome → State → Prop} {px : String → St → Prop} {mc ik is ic : Nat} {E tx : String} (hEx : E ∈ exs) (hfit : Bundle.fit E = true) (hk : Cond.classLink "FretSchool" ik E ∈ BIG) (hini : Cond.initialized E ∈ BIG)
    (h1 : ∀ w ∈ (vx_atS "FretSchool" ic E nmsX).filter goodWord, w ∈ lw_tbl) (h2 : ∀ w ∈ (vx_atS "FretSchool" ic E nmsX).filter (fun w => !goodWord w), w ∈ Cond.castable E E :: decs.map Cond.declares) (h3 : ∀ w ∈ Cond.classLink "FretSchool" ik E :: Cond.initialized E :: vx_atS "FretSchool" ic E nmsX, vx_ot w = true)
    (htx : (is, tx) ∈ strs) (d0 : decode cc pc = .ok (.new ik, 3)) (d3 : decode cc (pc + 3) = .ok (.dup, 1)) (d4 : decode cc (pc + 4) = .ok (.ldc is, 2)) (d6 : decode cc (pc + 6) = .ok (.invokespecial ic, 3)) (d9 : decode cc (pc + 9) = .ok (.athrow, 1))
    (hR : 6 ≤ R.frames ∧ (st.map fun v => v.category).sum + 82 ≤ R.locals) (hc : cells + 1 ≤ R.cells ∧ slots + 6 ≤ R.slots) (hm : cells + 1 ≤ mc ∧ slots + 6 ≤ 6 * mc) (h : px E σ) : Z p l e R s m args below meth c D ad cy A nL cells slots (vx_MQ below Qc (XW D ad cy A px) args s mc (6 * mc) A) σ L pc st := by
  intro H locs ls hP hS hl
  obtain ⟨hx, hb, hml, hown, hts, hr, hlk, hF⟩ := C
  have hcast : ∀ w ∈ Cond.castable E E :: decs.map Cond.declares, w.before args s = true := fun w hw => by
    rcases List.mem_cons.mp hw with rfl | hw
    · exact va_tabs rfl rfl (hF.2.2.2.2.2.2.2.1.1 E hEx)
    · obtain ⟨x, hx, rfl⟩ := List.mem_map.mp hw
      exact va_tabs rfl rfl (hF.2.2.2.2.2.2.2.1.2 x hx)
  refine vx_throwS hx hb hF.1 (names := nmsX) (ik := ik) (is := is) (ic := ic) (text := tx) hown hfit (List.all_eq_true.mp (by decide +kernel)) (hts _ hk) (hts _ hini) (hF.2.2.2.2.2.2.1 (is, tx) htx) (vx_hat (fun w hw => hts w (List.mem_filter.mpr ⟨h1 w hw, (List.mem_filter.mp hw).2⟩)) h2 hcast) h3 hF.2.2.2.2.1 hF.2.2.2.2.2.1 hS (hl.1.trans hml.symm) d0 d3 d4 d6 d9 (fun x hx => absurd (hex x hx) id) hR.1 hR.2 hc.1 hc.2 hlk (fun t hvm hz hk => ?_) hS.2.2 hm.1 hm.2
  refine ⟨σ, trivial, ⟨h, ?_⟩, Nat.le_trans hS.1 hz, fun q g1 g2 => (hk q (Nat.lt_of_lt_of_le g1 hS.1)).trans (hS.2.1 q g1 g2)⟩
  exact va_P.kept hP (fun k q hq => hk q.1 ((hP k q hq).lt))
theorem y_ise (C : Cx p l s m args meth c cc "FretSchool" nL ret D ad cy A sa) (hex : ∀ x ∈ c.exceptionTable.toList, False) {Qc : Array Value → State → Outcome → State → Prop} {px : String → St → Prop} {mc is : Nat} {tx : String}
    (htx : (is, tx) ∈ strs) (d0 : decode cc pc = .ok (.new 61, 3)) (d3 : decode cc (pc + 3) = .ok (.dup, 1)) (d4 : decode cc (pc + 4) = .ok (.ldc is, 2)) (d6 : decode cc (pc + 6) = .ok (.invokespecial 65, 3)) (d9 : decode cc (pc + 9) = .ok (.athrow, 1))
    (hR : 6 ≤ R.frames ∧ (st.map fun v => v.category).sum + 82 ≤ R.locals) (hc : cells + 1 ≤ R.cells ∧ slots + 6 ≤ R.slots) (hm : cells + 1 ≤ mc ∧ slots + 6 ≤ 6 * mc) (h : px ISE σ) : Z p l e R s m args below meth c D ad cy A nL cells slots (vx_MQ below Qc (XW D ad cy A px) args s mc (6 * mc) A) σ L pc st :=
  y_throw C hex (E := ISE) (by decide +kernel) (by decide +kernel) wd420 wd25 hatI hatI2 hotI htx d0 d3 d4 d6 d9 hR hc hm h
theorem y_ioobe (C : Cx p l s m args meth c cc "FretSchool" nL ret D ad cy A sa) (hex : ∀ x ∈ c.exceptionTable.toList, False) {Qc : Array Value → State → Outcome → State → Prop} {px : String → St → Prop} {mc is : Nat} {tx : String}
    (htx : (is, tx) ∈ strs) (d0 : decode cc pc = .ok (.new 209, 3)) (d3 : decode cc (pc + 3) = .ok (.dup, 1)) (d4 : decode cc (pc + 4) = .ok (.ldc is, 2)) (d6 : decode cc (pc + 6) = .ok (.invokespecial 213, 3)) (d9 : decode cc (pc + 9) = .ok (.athrow, 1))
    (hR : 6 ≤ R.frames ∧ (st.map fun v => v.category).sum + 82 ≤ R.locals) (hc : cells + 1 ≤ R.cells ∧ slots + 6 ≤ R.slots) (hm : cells + 1 ≤ mc ∧ slots + 6 ≤ 6 * mc) (h : px IOOBE σ) : Z p l e R s m args below meth c D ad cy A nL cells slots (vx_MQ below Qc (XW D ad cy A px) args s mc (6 * mc) A) σ L pc st :=
  y_throw C hex (E := IOOBE) (by decide +kernel) (by decide +kernel) wd350 wd26 hatB hatB2 hotB htx d0 d3 d4 d6 d9 hR hc hm h
theorem y_iae (C : Cx p l s m args meth c cc "FretSchool" nL ret D ad cy A sa) (hex : ∀ x ∈ c.exceptionTable.toList, False) {Qc : Array Value → State → Outcome → State → Prop} {px : String → St → Prop} {mc is : Nat} {tx : String}
    (htx : (is, tx) ∈ strs) (d0 : decode cc pc = .ok (.new 220, 3)) (d3 : decode cc (pc + 3) = .ok (.dup, 1)) (d4 : decode cc (pc + 4) = .ok (.ldc is, 2)) (d6 : decode cc (pc + 6) = .ok (.invokespecial 224, 3)) (d9 : decode cc (pc + 9) = .ok (.athrow, 1))
    (hR : 6 ≤ R.frames ∧ (st.map fun v => v.category).sum + 82 ≤ R.locals) (hc : cells + 1 ≤ R.cells ∧ slots + 6 ≤ R.slots) (hm : cells + 1 ≤ mc ∧ slots + 6 ≤ 6 * mc) (h : px IAE σ) : Z p l e R s m args below meth c D ad cy A nL cells slots (vx_MQ below Qc (XW D ad cy A px) args s mc (6 * mc) A) σ L pc st :=
  y_throw C hex (E := IAE) (by decide +kernel) (by decide +kernel) wd198 wd23 hatA hatA2 hotA htx d0 d3 d4 d6 d9 hR hc hm h
end ZT
