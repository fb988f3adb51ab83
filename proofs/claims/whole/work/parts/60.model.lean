/-! ===== the model's constructor ===== -/
theorem b_iast {p : Program} {l : Launch} {e : Env} {R : Room} {s : State} {m : MethodId} {args : Array Value} {below : List Frame} {meth : Method} {c : Code} {D : va_G} {cy : Nat → ClassId} {A : Nat → Prop} {nL cells slots : Nat} {Q : State → Prop} {ws : va_W} {L : List (Option Value)} {pc : Nat} {st : List Value} {cc : ByteArray} {own : String} {ret : Option FieldType} (C : Bx p s m args meth c cc own nL ret D cy A) (q0 : Nat) {a n : Nat} {f : Nat → Int32} (ha : ws[q0]? = some (a, .inl (cy 0, n, .inl f))) {i x : Int32} (hin : vp_in i n) (hdg : decode cc pc = .ok (.iastore, 1)) (kk : ZB p l e R s m args below meth c D A nL cells slots Q (ws.set q0 (a, .inl (cy 0, n, .inl (upd f i.toNatClampNeg x)))) L (pc + 1) st) : ZB p l e R s m args below meth c D A nL cells slots Q ws L pc (.int x :: .int i :: .ref a :: st) := by
  intro H locs ls hP hD hS hl
  obtain ⟨hx, hb, hml, hown, hts, hr, hlk, hF, hA⟩ := C
  exact va_iast hx hb hF.1 hP hD hS q0 0 ha rfl hin hdg (fun H1 locs1 hP1 hD1 hS1 => kk H1 locs1 ls hP1 hD1 hS1 hl)
def mkModel (cy : Nat → ClassId) (b : Nat) : va_W → Prop := fun w => ∃ (q0 q1 q2 q3 q4 q5 q6 q7 q8 q9 q10 q11 q12 q13 : Nat) (g : Nat → Int32), (∀ j, j < 5 → g j = 2) ∧ w = [(b, .inr (6, [.int 0, .int 0, .ref q0, .ref q1, .int 0, .ref q2, .ref q3, .ref q4, .ref q5, .ref q6, .ref q7, .int 0, .ref q8, .ref q9, .ref q10, .ref q11, .ref q12, .ref q13, .int 0])), (q0, .inl (cy 0, 8, .inl (fun _ => 0))), (q1, .inl (cy 0, 128, .inl (fun _ => 0))), (q2, .inl (cy 0, 8, .inl (fun _ => 0))), (q3, .inl (cy 0, 8, .inl (fun _ => 0))), (q4, .inl (cy 0, 32, .inl (fun _ => 0))), (q5, .inl (cy 0, 5, .inl g)), (q6, .inl (cy 0, 5, .inl (fun _ => 0))), (q7, .inl (cy 0, 4, .inl (fun _ => 0))), (q8, .inl (cy 0, 20, .inl (fun _ => 0))), (q9, .inl (cy 0, 20, .inl (fun _ => 0))), (q10, .inl (cy 0, 20, .inl (fun _ => 0))), (q11, .inl (cy 1, 20, .inl (fun _ => 0))), (q12, .inl (cy 0, 238, .inl (fun _ => 0))), (q13, .inl (cy 0, 16, .inl (fun _ => 0)))]
set_option maxRecDepth 100000 in
set_option maxHeartbeats 4000000 in
theorem k_X6 {l : Launch} {D : va_G} {cy : Nat → ClassId} (b sz : Nat) : MC l D cy yX6_init cX6_init 2 1 14 532 [(b, .inr (6, [.int 0, .int 0, .null, .null, .int 0, .null, .null, .null, .null, .null, .null, .int 0, .null, .null, .null, .null, .null, .null, .int 0]))] sz b (mkModel cy b) := by
  refine MC.mk "FretSchoolModel" (by decide) rfl (Nat.le_of_ble_eq_true rfl) rfl ?_
  intro p e s m args below meth c A hAe C hni
  change ZB _ _ _ _ _ _ _ _ _ _ _ _ _ _ _ _ _ [some (.ref b), none] 0 []
  refine b_aload_n C dX6_init_0 rfl ?_
  refine b_obj C ⟨Nat.le_of_ble_eq_true rfl, Nat.le_of_ble_eq_true rfl⟩ wd584 dX6_init_1 ?_
  refine b_aload_n C dX6_init_4 rfl ?_
  refine b_bipush C (v := 8) dX6_init_5 (by decide) ?_
  refine b_newi C (N' := 8) (by decide) (by decide) (by decide) ⟨Nat.le_of_ble_eq_true rfl, Nat.le_of_ble_eq_true rfl⟩ dX6_init_7 (fun q0 => ?_)
  simp only [List.cons_append, List.nil_append]
  refine b_putF C hni 0 2 rfl rfl (by decide) inB6 tyX6_ok nmX6 wd587 rfl rfl rfl rfl rfl (Nat.le_of_ble_eq_true rfl) dX6_init_9 ?_
  dsimp only [List.set]
  refine b_aload_n C dX6_init_12 rfl ?_
  refine b_sipush C (v := 128) dX6_init_13 (by decide) ?_
  refine b_newi C (N' := 128) (by decide) (by decide) (by decide) ⟨Nat.le_of_ble_eq_true rfl, Nat.le_of_ble_eq_true rfl⟩ dX6_init_16 (fun q1 => ?_)
  simp only [List.cons_append, List.nil_append]
  refine b_putF C hni 0 3 rfl rfl (by decide) inB6 tyX6_ok nmX6 wd588 rfl rfl rfl rfl rfl (Nat.le_of_ble_eq_true rfl) dX6_init_18 ?_
  dsimp only [List.set]
  refine b_aload_n C dX6_init_21 rfl ?_
  refine b_bipush C (v := 8) dX6_init_22 (by decide) ?_
  refine b_newi C (N' := 8) (by decide) (by decide) (by decide) ⟨Nat.le_of_ble_eq_true rfl, Nat.le_of_ble_eq_true rfl⟩ dX6_init_24 (fun q2 => ?_)
  simp only [List.cons_append, List.nil_append]
  refine b_putF C hni 0 5 rfl rfl (by decide) inB6 tyX6_ok nmX6 wd590 rfl rfl rfl rfl rfl (Nat.le_of_ble_eq_true rfl) dX6_init_26 ?_
  dsimp only [List.set]
  refine b_aload_n C dX6_init_29 rfl ?_
  refine b_bipush C (v := 8) dX6_init_30 (by decide) ?_
  refine b_newi C (N' := 8) (by decide) (by decide) (by decide) ⟨Nat.le_of_ble_eq_true rfl, Nat.le_of_ble_eq_true rfl⟩ dX6_init_32 (fun q3 => ?_)
  simp only [List.cons_append, List.nil_append]
  refine b_putF C hni 0 6 rfl rfl (by decide) inB6 tyX6_ok nmX6 wd591 rfl rfl rfl rfl rfl (Nat.le_of_ble_eq_true rfl) dX6_init_34 ?_
  dsimp only [List.set]
  refine b_aload_n C dX6_init_37 rfl ?_
  refine b_bipush C (v := 32) dX6_init_38 (by decide) ?_
  refine b_newi C (N' := 32) (by decide) (by decide) (by decide) ⟨Nat.le_of_ble_eq_true rfl, Nat.le_of_ble_eq_true rfl⟩ dX6_init_40 (fun q4 => ?_)
  simp only [List.cons_append, List.nil_append]
  refine b_putF C hni 0 7 rfl rfl (by decide) inB6 tyX6_ok nmX6 wd592 rfl rfl rfl rfl rfl (Nat.le_of_ble_eq_true rfl) dX6_init_42 ?_
  dsimp only [List.set]
  refine b_aload_n C dX6_init_45 rfl ?_
  refine b_iconst C (v := 5) dX6_init_46 (by decide) ?_
  refine b_newi C (N' := 5) (by decide) (by decide) (by decide) ⟨Nat.le_of_ble_eq_true rfl, Nat.le_of_ble_eq_true rfl⟩ dX6_init_47 (fun q5 => ?_)
  simp only [List.cons_append, List.nil_append]
  refine b_putF C hni 0 8 rfl rfl (by decide) inB6 tyX6_ok nmX6 wd593 rfl rfl rfl rfl rfl (Nat.le_of_ble_eq_true rfl) dX6_init_49 ?_
  dsimp only [List.set]
  refine b_aload_n C dX6_init_52 rfl ?_
  refine b_iconst C (v := 5) dX6_init_53 (by decide) ?_
  refine b_newi C (N' := 5) (by decide) (by decide) (by decide) ⟨Nat.le_of_ble_eq_true rfl, Nat.le_of_ble_eq_true rfl⟩ dX6_init_54 (fun q6 => ?_)
  simp only [List.cons_append, List.nil_append]
  refine b_putF C hni 0 9 rfl rfl (by decide) inB6 tyX6_ok nmX6 wd594 rfl rfl rfl rfl rfl (Nat.le_of_ble_eq_true rfl) dX6_init_56 ?_
  dsimp only [List.set]
  refine b_aload_n C dX6_init_59 rfl ?_
  refine b_iconst C (v := 4) dX6_init_60 (by decide) ?_
  refine b_newi C (N' := 4) (by decide) (by decide) (by decide) ⟨Nat.le_of_ble_eq_true rfl, Nat.le_of_ble_eq_true rfl⟩ dX6_init_61 (fun q7 => ?_)
  simp only [List.cons_append, List.nil_append]
  refine b_putF C hni 0 10 rfl rfl (by decide) inB6 tyX6_ok nmX6 wd595 rfl rfl rfl rfl rfl (Nat.le_of_ble_eq_true rfl) dX6_init_63 ?_
  dsimp only [List.set]
  refine b_aload_n C dX6_init_66 rfl ?_
  refine b_bipush C (v := 20) dX6_init_67 (by decide) ?_
  refine b_newi C (N' := 20) (by decide) (by decide) (by decide) ⟨Nat.le_of_ble_eq_true rfl, Nat.le_of_ble_eq_true rfl⟩ dX6_init_69 (fun q8 => ?_)
  simp only [List.cons_append, List.nil_append]
  refine b_putF C hni 0 12 rfl rfl (by decide) inB6 tyX6_ok nmX6 wd597 rfl rfl rfl rfl rfl (Nat.le_of_ble_eq_true rfl) dX6_init_71 ?_
  dsimp only [List.set]
  refine b_aload_n C dX6_init_74 rfl ?_
  refine b_bipush C (v := 20) dX6_init_75 (by decide) ?_
  refine b_newi C (N' := 20) (by decide) (by decide) (by decide) ⟨Nat.le_of_ble_eq_true rfl, Nat.le_of_ble_eq_true rfl⟩ dX6_init_77 (fun q9 => ?_)
  simp only [List.cons_append, List.nil_append]
  refine b_putF C hni 0 13 rfl rfl (by decide) inB6 tyX6_ok nmX6 wd598 rfl rfl rfl rfl rfl (Nat.le_of_ble_eq_true rfl) dX6_init_79 ?_
  dsimp only [List.set]
  refine b_aload_n C dX6_init_82 rfl ?_
  refine b_bipush C (v := 20) dX6_init_83 (by decide) ?_
  refine b_newi C (N' := 20) (by decide) (by decide) (by decide) ⟨Nat.le_of_ble_eq_true rfl, Nat.le_of_ble_eq_true rfl⟩ dX6_init_85 (fun q10 => ?_)
  simp only [List.cons_append, List.nil_append]
  refine b_putF C hni 0 14 rfl rfl (by decide) inB6 tyX6_ok nmX6 wd599 rfl rfl rfl rfl rfl (Nat.le_of_ble_eq_true rfl) dX6_init_87 ?_
  dsimp only [List.set]
  refine b_aload_n C dX6_init_90 rfl ?_
  refine b_bipush C (v := 20) dX6_init_91 (by decide) ?_
  refine b_newz C (N' := 20) (by decide) (by decide) (by decide) ⟨Nat.le_of_ble_eq_true rfl, Nat.le_of_ble_eq_true rfl⟩ dX6_init_93 (fun q11 => ?_)
  simp only [List.cons_append, List.nil_append]
  refine b_putF C hni 0 15 rfl rfl (by decide) inB6 tyX6_ok nmX6 wd600 rfl rfl rfl rfl rfl (Nat.le_of_ble_eq_true rfl) dX6_init_95 ?_
  dsimp only [List.set]
  refine b_aload_n C dX6_init_98 rfl ?_
  refine b_sipush C (v := 238) dX6_init_99 (by decide) ?_
  refine b_newi C (N' := 238) (by decide) (by decide) (by decide) ⟨Nat.le_of_ble_eq_true rfl, Nat.le_of_ble_eq_true rfl⟩ dX6_init_102 (fun q12 => ?_)
  simp only [List.cons_append, List.nil_append]
  refine b_putF C hni 0 16 rfl rfl (by decide) inB6 tyX6_ok nmX6 wd601 rfl rfl rfl rfl rfl (Nat.le_of_ble_eq_true rfl) dX6_init_104 ?_
  dsimp only [List.set]
  refine b_aload_n C dX6_init_107 rfl ?_
  refine b_bipush C (v := 16) dX6_init_108 (by decide) ?_
  refine b_newi C (N' := 16) (by decide) (by decide) (by decide) ⟨Nat.le_of_ble_eq_true rfl, Nat.le_of_ble_eq_true rfl⟩ dX6_init_110 (fun q13 => ?_)
  simp only [List.cons_append, List.nil_append]
  refine b_putF C hni 0 17 rfl rfl (by decide) inB6 tyX6_ok nmX6 wd602 rfl rfl rfl rfl rfl (Nat.le_of_ble_eq_true rfl) dX6_init_112 ?_
  dsimp only [List.set]
  refine b_iconst C (v := nI 0) dX6_init_115 (by decide) ?_
  refine b_istore_n C dX6_init_116 (by decide) ?_
  refine b_widen (mc := 14) (ms := 532) (by decide) (by decide) ?_
  have loop : ∀ k i : Nat, i + k = 5 → ∀ g : Nat → Int32, (∀ j, j < i → g j = 2) → ZB p l e (rmB 1 14 532) s m args below meth c D A 2 14 532 (MQ below (va_Qv (mkModel cy b) (fun w t => va_P D vwCl w t.heap ∧ va_D A w) A) args s 14 532 A) ([(b, .inr (6, [.int 0, .int 0, .ref q0, .ref q1, .int 0, .ref q2, .ref q3, .ref q4, .ref q5, .ref q6, .ref q7, .int 0, .ref q8, .ref q9, .ref q10, .ref q11, .ref q12, .ref q13, .int 0])), (q0, .inl (cy 0, 8, .inl (fun _ => 0))), (q1, .inl (cy 0, 128, .inl (fun _ => 0))), (q2, .inl (cy 0, 8, .inl (fun _ => 0))), (q3, .inl (cy 0, 8, .inl (fun _ => 0))), (q4, .inl (cy 0, 32, .inl (fun _ => 0))), (q5, .inl (cy 0, 5, .inl g)), (q6, .inl (cy 0, 5, .inl (fun _ => 0))), (q7, .inl (cy 0, 4, .inl (fun _ => 0))), (q8, .inl (cy 0, 20, .inl (fun _ => 0))), (q9, .inl (cy 0, 20, .inl (fun _ => 0))), (q10, .inl (cy 0, 20, .inl (fun _ => 0))), (q11, .inl (cy 1, 20, .inl (fun _ => 0))), (q12, .inl (cy 0, 238, .inl (fun _ => 0))), (q13, .inl (cy 0, 16, .inl (fun _ => 0)))]) [some (.ref b), some (.int (nI i))] 117 [] := by
    intro k
    induction k with
    | zero =>
      intro i hi g hg
      obtain rfl : i = 5 := by omega
      refine b_iload_n C dX6_init_117 rfl ?_
      refine b_iconst C (v := 5) dX6_init_118 (by decide) ?_
      refine b_icmp_ge C 135 dX6_init_119 (by decide) (fun _ => ?_) (fun h => absurd (nI_le (Nat.le_refl 5) (by decide)) h)
      exact b_ret C dX6_init_135 ⟨q0, q1, q2, q3, q4, q5, q6, q7, q8, q9, q10, q11, q12, q13, g, hg, rfl⟩
    | succ k ih =>
      intro i hi g hg
      refine b_iload_n C dX6_init_117 rfl ?_
      refine b_iconst C (v := 5) dX6_init_118 (by decide) ?_
      refine b_icmp_ge C 135 dX6_init_119 (by decide) (fun h => absurd ((nI_leI (a := 5) (b := i) (by decide) (by omega)).mp h) (by omega)) (fun _ => ?_)
      refine b_aload_n C dX6_init_122 rfl ?_
      refine b_get C 0 8 rfl rfl (by decide) inB6 wd593 rfl rfl dX6_init_123 ?_
      refine b_iload_n C dX6_init_126 rfl ?_
      refine b_iconst C (v := 2) dX6_init_127 (by decide) ?_
      refine b_iast C 6 rfl (nI_in (by omega) (by decide)) dX6_init_128 ?_
      refine b_iinc C (v := 1) dX6_init_129 rfl (by decide) (by decide) ?_
      dsimp only [List.set]
      refine b_goto C 117 dX6_init_132 (by decide) ?_
      rw [nI_1]
      refine ih (i + 1) (by omega) _ (fun j hj => ?_)
      rw [nI_clamp (by omega)]
      unfold upd
      by_cases q : j = i
      · rw [if_pos q]
      · rw [if_neg q]
        exact hg j (by omega)
  exact loop 5 0 rfl (fun _ => 0) (fun j hj => absurd hj (by omega))
