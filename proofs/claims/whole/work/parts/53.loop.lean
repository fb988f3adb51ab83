/-! ===== the law: its loop ===== -/
section ZT
variable {p : Program} {l : Launch} {e : Env} {R : Room} {s : State} {m : MethodId} {args : Array Value} {below : List Frame} {meth : Method} {c : Code} {D : va_G} {ad : Nat → Nat → Nat} {cy : Nat → ClassId} {A : Nat → Prop} {sa : Nat → Nat} {nL cells slots : Nat} {Q : State → Prop} {σ : St} {L : List (Option Value)} {pc : Nat} {st stk : List Value} {cc : ByteArray} {own : String} {ret : Option FieldType}
theorem z_tin (C : Cx p l s m args meth c cc own nL ret D ad cy A sa) {dflt lo hi : Int} {offs : Array Int} {len : Nat} {x : Int32} (off : Int) (tgt : Nat) (hdg : decode cc pc = .ok (.tableswitch dflt lo hi offs, len)) (h1 : ¬ x.toInt < lo) (h2 : ¬ hi < x.toInt) (ho : offs[(x.toInt - lo).toNat]? = some off) (ht : (pc : Int) + off = (tgt : Int)) (k : Z p l e R s m args below meth c D ad cy A nL cells slots Q σ L tgt st) : Z p l e R s m args below meth c D ad cy A nL cells slots Q σ L pc (.int x :: st) :=
  fun H locs ls hP hS hl => lv_tableIn C.1 C.2.1 hdg h1 h2 ho ht (k H locs ls hP hS hl)
theorem z_tout (C : Cx p l s m args meth c cc own nL ret D ad cy A sa) {dflt lo hi : Int} {offs : Array Int} {len : Nat} {x : Int32} (tgt : Nat) (hdg : decode cc pc = .ok (.tableswitch dflt lo hi offs, len)) (h : x.toInt < lo ∨ hi < x.toInt) (ht : (pc : Int) + dflt = (tgt : Int)) (k : Z p l e R s m args below meth c D ad cy A nL cells slots Q σ L tgt st) : Z p l e R s m args below meth c D ad cy A nL cells slots Q σ L pc (.int x :: st) :=
  fun H locs ls hP hS hl => lv_tableOut C.1 C.2.1 hdg h ht (k H locs ls hP hS hl)
end ZT
set_option maxRecDepth 100000 in
set_option maxHeartbeats 4000000 in
theorem law_switch {p : Program} {l : Launch} {e : Env} {s : State} {m : MethodId} {args : Array Value} {below : List Frame} {meth : Method} {c : Code} {D : va_G} {ad : Nat → Nat → Nat} {cy : Nat → ClassId} {A : Nat → Prop} {sa : Nat → Nat} {cells slots : Nat} {Q : State → Prop} (C : Cx p l s m args meth c cL_law "FretSchoolLaw" 7 (some .boolean) D ad cy A sa) {b L : Nat} {xs : Nat → Int32} (hX : va_X b L xs s s.heap) (hbl : b < s.heap.size) (hbA : ¬ A b) {i : Int32} (hx : ∀ k : Int32, 1 ≤ k → k ≤ 5 → vp_in (i + k) L) (hc : cells + 6 ≤ 500000 ∧ slots + 36 ≤ 5000000) {σ : St} (hR : RelL σ) (kx : ∀ (σ' : St) (o5 o6 : Option Value), RelL σ' → Z p l e room_1 s m args below meth c D ad cy A 7 (cells + 6) (slots + 36) Q σ' [some (.ref b), some (.ref (ad 0 0)), some (.ref (ad 17 0)), some (.ref (ad 32 0)), some (.int i), o5, o6] 1510 []) {o5 o6 : Option Value} {k : Nat} (hk : k < 32) : Z p l e room_1 s m args below meth c D ad cy A 7 cells slots Q σ [some (.ref b), some (.ref (ad 0 0)), some (.ref (ad 17 0)), some (.ref (ad 32 0)), some (.int i), o5, o6] 40 [.int (nI k)] := by
  match k, hk with
  | 0, _ => exact z_tin C 104 144 dL_law_40 (by decide) (by decide) (by decide) (by decide) (law_c0 C hX hbl hbA hx hc hR kx)
  | 1, _ => exact z_tin C 148 188 dL_law_40 (by decide) (by decide) (by decide) (by decide) (law_c1 C hX hbl hbA hx hc hR kx)
  | 2, _ => exact z_tin C 216 256 dL_law_40 (by decide) (by decide) (by decide) (by decide) (law_c2 C hX hbl hbA hx hc hR kx)
  | 3, _ => exact z_tin C 264 304 dL_law_40 (by decide) (by decide) (by decide) (by decide) (law_c3 C hX hbl hbA hx hc hR kx)
  | 4, _ => exact z_tin C 332 372 dL_law_40 (by decide) (by decide) (by decide) (by decide) (law_c4 C hX hbl hbA hx hc hR kx)
  | 5, _ => exact z_tin C 412 452 dL_law_40 (by decide) (by decide) (by decide) (by decide) (law_c5 C hX hbl hbA hx hc hR kx)
  | 6, _ => exact z_tin C 468 508 dL_law_40 (by decide) (by decide) (by decide) (by decide) (law_c6 C hX hbl hbA hx hc hR kx)
  | 7, _ => exact z_tin C 481 521 dL_law_40 (by decide) (by decide) (by decide) (by decide) (law_c7 C hX hbl hbA hx hc hR kx)
  | 8, _ => exact z_tin C 549 589 dL_law_40 (by decide) (by decide) (by decide) (by decide) (law_c8 C hX hbl hbA hx hc hR kx)
  | 9, _ => exact z_tin C 617 657 dL_law_40 (by decide) (by decide) (by decide) (by decide) (law_c9 C hX hbl hbA hx hc hR kx)
  | 10, _ => exact z_tin C 685 725 dL_law_40 (by decide) (by decide) (by decide) (by decide) (law_c10 C hX hbl hbA hx hc hR kx)
  | 11, _ => exact z_tin C 765 805 dL_law_40 (by decide) (by decide) (by decide) (by decide) (law_c11 C hX hbl hbA hx hc hR kx)
  | 12, _ => exact z_tin C 845 885 dL_law_40 (by decide) (by decide) (by decide) (by decide) (law_c12 C hX hbl hbA hx hc hR kx)
  | 13, _ => exact z_tin C 925 965 dL_law_40 (by decide) (by decide) (by decide) (by decide) (law_c13 C hX hbl hbA hx hc hR kx)
  | 14, _ => exact z_tin C 981 1021 dL_law_40 (by decide) (by decide) (by decide) (by decide) (law_c14 C hX hbl hbA hx hc hR kx)
  | 15, _ => exact z_tin C 1037 1077 dL_law_40 (by decide) (by decide) (by decide) (by decide) (law_c15 C hX hbl hbA hx hc hR kx)
  | 16, _ => exact z_tin C 1093 1133 dL_law_40 (by decide) (by decide) (by decide) (by decide) (law_c16 C hX hbl hbA hx hc hR kx)
  | 17, _ => exact z_tin C 1161 1201 dL_law_40 (by decide) (by decide) (by decide) (by decide) (law_c17 C hX hbl hbA hx hc hR kx)
  | 18, _ => exact z_tin C 1241 1281 dL_law_40 (by decide) (by decide) (by decide) (by decide) (law_c18 C hX hbl hbA hx hc hR kx)
  | 19, _ => exact z_tin C 1297 1337 dL_law_40 (by decide) (by decide) (by decide) (by decide) (law_c19 C hX hbl hbA hx hc hR kx)
  | 20, _ => exact z_tin C 1401 1441 dL_law_40 (by decide) (by decide) (by decide) (by decide) (law_c20 C hX hbl hbA hx hc hR kx)
  | 21, _ => exact z_tin C 1457 1497 dL_law_40 (by decide) (by decide) (by decide) (by decide) (law_c21 C hX hbl hbA hx hc hR kx)
  | k + 22, hk =>
    refine z_tout C 1510 dL_law_40 (Or.inr ?_) (by decide) ?_
    · rw [nI_toInt (by omega)]; omega
    · exact z_widen (mc := cells + 6) (ms := slots + 36) (by omega) (by omega) (kx σ _ _ hR)
set_option maxRecDepth 100000 in
set_option maxHeartbeats 4000000 in
theorem law_loop {p : Program} {l : Launch} {e : Env} {s : State} {m : MethodId} {args : Array Value} {below : List Frame} {meth : Method} {c : Code} {D : va_G} {ad : Nat → Nat → Nat} {cy : Nat → ClassId} {A : Nat → Prop} {sa : Nat → Nat} {c0 s0 : Nat} {Q : State → Prop} (C : Cx p l s m args meth c cL_law "FretSchoolLaw" 7 (some .boolean) D ad cy A sa) {b L : Nat} {xs : Nat → Int32} (hX : va_X b L xs s s.heap) (hbl : b < s.heap.size) (hbA : ¬ A b) (hL : L ≤ 3072) (hc : c0 ≤ 100000 ∧ s0 ≤ 1000000) (kend : ∀ (σ : St) (i : Int32) (o5 o6 : Option Value) (cells slots : Nat), cells ≤ room_1.cells → slots ≤ room_1.slots → Z p l e room_1 s m args below meth c D ad cy A 7 cells slots Q σ [some (.ref b), some (.ref (ad 0 0)), some (.ref (ad 17 0)), some (.ref (ad 32 0)), some (.int i), o5, o6] 1516 []) :
    ∀ (n t : Nat), t + n = 513 → ∀ (σ : St) (o5 o6 : Option Value), RelL σ → Z p l e room_1 s m args below meth c D ad cy A 7 (c0 + 6 * t) (s0 + 36 * t) Q σ [some (.ref b), some (.ref (ad 0 0)), some (.ref (ad 17 0)), some (.ref (ad 32 0)), some (.int (nI (6 * t))), o5, o6] 23 [] := by
  intro n
  induction n with
  | zero =>
    intro t ht σ o5 o6 hR
    refine z_iload C dL_law_23 rfl ?_
    refine z_aload_n C dL_law_25 rfl ?_
    refine z_slen C hX hbl hbA dL_law_26 ?_
    refine z_bipush C (v := 6) dL_law_27 (by decide) ?_
    refine z_isub C dL_law_29 ?_
    refine z_icmp_gt C 1516 dL_law_30 (by decide) (fun _ => kend σ _ _ _ _ _ (Nat.le_trans (m := 500000) (by omega) room_c) (Nat.le_trans (m := 5000000) (by omega) room_s)) (fun cg => ?_)
    have hq : 6 * t + 6 ≤ L := by
      have a : ¬ (nI L - nI 6).toInt < (nI (6 * t)).toInt := fun q => cg (Int32.lt_iff_toInt_lt.mpr q)
      rw [pk_sub_toInt (by omega) (by omega), nI_toInt (by omega)] at a
      omega
    exfalso
    omega
  | succ n ih =>
    intro t ht σ o5 o6 hR
    refine z_iload C dL_law_23 rfl ?_
    refine z_aload_n C dL_law_25 rfl ?_
    refine z_slen C hX hbl hbA dL_law_26 ?_
    refine z_bipush C (v := 6) dL_law_27 (by decide) ?_
    refine z_isub C dL_law_29 ?_
    refine z_icmp_gt C 1516 dL_law_30 (by decide) (fun _ => kend σ _ _ _ _ _ (Nat.le_trans (m := 500000) (by omega) room_c) (Nat.le_trans (m := 5000000) (by omega) room_s)) (fun cg => ?_)
    have hq : 6 * t + 6 ≤ L := by
      have a : ¬ (nI L - nI 6).toInt < (nI (6 * t)).toInt := fun q => cg (Int32.lt_iff_toInt_lt.mpr q)
      rw [pk_sub_toInt (by omega) (by omega), nI_toInt (by omega)] at a
      omega
    refine z_aload_n C dL_law_33 rfl ?_
    refine z_iload C dL_law_34 rfl ?_
    refine z_sld C hX hbl hbA (nI_in (by omega) (by omega)) dL_law_36 ?_
    refine z_bipush C (v := 31) dL_law_37 (by decide) ?_
    refine z_iand C dL_law_39 ?_
    obtain ⟨k, hk, ek⟩ := pk_andE (xs (nI (6 * t)).toNatClampNeg) 5 (m := 31) (by decide)
    rw [ek]
    refine law_switch C hX hbl hbA (fun k h1 h5 => ?_) ⟨by omega, by omega⟩ hR (fun σ' o5 o6 hR' => ?_) hk
    · obtain ⟨j, rfl, hj⟩ : ∃ j : Nat, k = nI j ∧ j ≤ 5 := by
        have a := Int32.le_iff_toInt_le.mp h1
        have b5 := Int32.le_iff_toInt_le.mp h5
        have e1 : (1 : Int32).toInt = 1 := by decide
        have e5 : (5 : Int32).toInt = 5 := by decide
        rw [e1] at a
        rw [e5] at b5
        refine ⟨k.toInt.toNat, Int32.toInt_inj.mp ?_, by omega⟩
        rw [nI_toInt (by omega)]
        omega
      rw [nI_add]
      exact nI_in (by omega) (by omega)
    · refine z_iinc C (v := 6) dL_law_1510 rfl (by decide) (by decide) ?_
      dsimp only [List.set]
      refine z_goto C 23 dL_law_1513 (by decide) ?_
      rw [show nI (6 * t) + 6 = nI (6 * (t + 1)) from nI_add (6 * t) 6]
      exact ih (t + 1) (by omega) σ' o5 o6 hR'

