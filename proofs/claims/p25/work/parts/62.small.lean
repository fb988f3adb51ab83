/-! ===== the small constructors ===== -/
set_option maxRecDepth 100000 in
set_option maxHeartbeats 4000000 in
theorem k_X1 {l : Launch} {D : va_G} {cy : Nat → ClassId} (b sz : Nat) : MC l D cy yX1_init cX1_init 1 1 1 4 [(b, .inr (1, [.null, .int 0, .int 0]))] sz b (fun u => ∃ q0 : Nat, u = [(b, .inr (1, [.ref q0, .int 0, .int 4])), (q0, .inl (cy 0, 4, .inl (fun _ => 0)))]) := by
  refine MC.mk "FretSchool$Instrument" (by decide) rfl (Nat.le_of_ble_eq_true rfl) rfl ?_
  intro p e s m args below meth c A hAe C hni
  change ZB _ _ _ _ _ _ _ _ _ _ _ _ _ _ _ _ _ [some (.ref b)] 0 []
  refine b_aload_n C dX1_init_0 rfl ?_
  refine b_obj C ⟨Nat.le_of_ble_eq_true rfl, Nat.le_of_ble_eq_true rfl⟩ wd60 dX1_init_1 ?_
  refine b_aload_n C dX1_init_4 rfl ?_
  refine b_iconst C (v := 4) dX1_init_5 (by decide) ?_
  refine b_newi C (N' := 4) (by decide) (by decide) (by decide) ⟨Nat.le_of_ble_eq_true rfl, Nat.le_of_ble_eq_true rfl⟩ dX1_init_6 (fun q0 => ?_)
  simp only [List.cons_append, List.nil_append]
  refine b_putF C hni 0 0 rfl rfl (by decide) inB1 tyX1_ok nmX1 wd61 rfl rfl rfl rfl rfl (Nat.le_of_ble_eq_true rfl) dX1_init_8 ?_
  dsimp only [List.set]
  refine b_aload_n C dX1_init_11 rfl ?_
  refine b_iconst C (v := 0) dX1_init_12 (by decide) ?_
  refine b_put C 0 1 rfl rfl (by decide) inB1 tyX1_ok nmX1 wd63 rfl rfl rfl rfl (Nat.le_of_ble_eq_true rfl) dX1_init_13 ?_
  dsimp only [List.set]
  refine b_aload_n C dX1_init_16 rfl ?_
  refine b_iconst C (v := 4) dX1_init_17 (by decide) ?_
  refine b_put C 0 2 rfl rfl (by decide) inB1 tyX1_ok nmX1 wd65 rfl rfl rfl rfl (Nat.le_of_ble_eq_true rfl) dX1_init_18 ?_
  dsimp only [List.set]
  exact b_ret C dX1_init_21 ⟨q0, rfl⟩
set_option maxRecDepth 100000 in
set_option maxHeartbeats 4000000 in
theorem k_X2 {l : Launch} {D : va_G} {cy : Nat → ClassId} (b sz : Nat) : MC l D cy yX2_init cX2_init 1 1 0 0 [(b, .inr (2, [.int 0, .int 0, .int 0, .int 0]))] sz b (fun u => u = [(b, .inr (2, [.int 0, .int 4, .int 0, .int 0]))]) := by
  refine MC.mk "FretSchool$Order" (by decide) rfl (Nat.le_of_ble_eq_true rfl) rfl ?_
  intro p e s m args below meth c A hAe C hni
  change ZB _ _ _ _ _ _ _ _ _ _ _ _ _ _ _ _ _ [some (.ref b)] 0 []
  refine b_aload_n C dX2_init_0 rfl ?_
  refine b_obj C ⟨Nat.le_of_ble_eq_true rfl, Nat.le_of_ble_eq_true rfl⟩ wd95 dX2_init_1 ?_
  refine b_aload_n C dX2_init_4 rfl ?_
  refine b_iconst C (v := 0) dX2_init_5 (by decide) ?_
  refine b_put C 0 0 rfl rfl (by decide) inB2 tyX2_ok nmX2 wd96 rfl rfl rfl rfl (Nat.le_of_ble_eq_true rfl) dX2_init_6 ?_
  dsimp only [List.set]
  refine b_aload_n C dX2_init_9 rfl ?_
  refine b_iconst C (v := 4) dX2_init_10 (by decide) ?_
  refine b_put C 0 1 rfl rfl (by decide) inB2 tyX2_ok nmX2 wd98 rfl rfl rfl rfl (Nat.le_of_ble_eq_true rfl) dX2_init_11 ?_
  dsimp only [List.set]
  refine b_aload_n C dX2_init_14 rfl ?_
  refine b_iconst C (v := 0) dX2_init_15 (by decide) ?_
  refine b_put C 0 2 rfl rfl (by decide) inB2 tyX2_ok nmX2 wd100 rfl rfl rfl rfl (Nat.le_of_ble_eq_true rfl) dX2_init_16 ?_
  dsimp only [List.set]
  refine b_aload_n C dX2_init_19 rfl ?_
  refine b_iconst C (v := 0) dX2_init_20 (by decide) ?_
  refine b_put C 0 3 rfl rfl (by decide) inB2 tyX2_ok nmX2 wd102 rfl rfl rfl rfl (Nat.le_of_ble_eq_true rfl) dX2_init_21 ?_
  dsimp only [List.set]
  exact b_ret C dX2_init_24 rfl
set_option maxRecDepth 100000 in
set_option maxHeartbeats 4000000 in
theorem k_X3 {l : Launch} {D : va_G} {cy : Nat → ClassId} (b sz : Nat) : MC l D cy yX3_init cX3_init 1 1 1 16 [(b, .inr (3, [.null, .int 0]))] sz b (fun u => ∃ q0 : Nat, u = [(b, .inr (3, [.ref q0, .int 0])), (q0, .inl (cy 0, 16, .inl (fun _ => 0)))]) := by
  refine MC.mk "FretSchool$Piece" (by decide) rfl (Nat.le_of_ble_eq_true rfl) rfl ?_
  intro p e s m args below meth c A hAe C hni
  change ZB _ _ _ _ _ _ _ _ _ _ _ _ _ _ _ _ _ [some (.ref b)] 0 []
  refine b_aload_n C dX3_init_0 rfl ?_
  refine b_obj C ⟨Nat.le_of_ble_eq_true rfl, Nat.le_of_ble_eq_true rfl⟩ wd41 dX3_init_1 ?_
  refine b_aload_n C dX3_init_4 rfl ?_
  refine b_bipush C (v := 16) dX3_init_5 (by decide) ?_
  refine b_newi C (N' := 16) (by decide) (by decide) (by decide) ⟨Nat.le_of_ble_eq_true rfl, Nat.le_of_ble_eq_true rfl⟩ dX3_init_7 (fun q0 => ?_)
  simp only [List.cons_append, List.nil_append]
  refine b_putF C hni 0 0 rfl rfl (by decide) inB3 tyX3_ok nmX3 wd42 rfl rfl rfl rfl rfl (Nat.le_of_ble_eq_true rfl) dX3_init_9 ?_
  dsimp only [List.set]
  refine b_aload_n C dX3_init_12 rfl ?_
  refine b_iconst C (v := 0) dX3_init_13 (by decide) ?_
  refine b_put C 0 1 rfl rfl (by decide) inB3 tyX3_ok nmX3 wd45 rfl rfl rfl rfl (Nat.le_of_ble_eq_true rfl) dX3_init_14 ?_
  dsimp only [List.set]
  exact b_ret C dX3_init_17 ⟨q0, rfl⟩
set_option maxRecDepth 100000 in
set_option maxHeartbeats 4000000 in
theorem k_X4 {l : Launch} {D : va_G} {cy : Nat → ClassId} (b sz : Nat) : MC l D cy yX4_init cX4_init 1 1 0 0 [(b, .inr (4, [.int 0, .int 0]))] sz b (fun u => u = [(b, .inr (4, [.int 2, .int 0]))]) := by
  refine MC.mk "FretSchool$Pupil" (by decide) rfl (Nat.le_of_ble_eq_true rfl) rfl ?_
  intro p e s m args below meth c A hAe C hni
  change ZB _ _ _ _ _ _ _ _ _ _ _ _ _ _ _ _ _ [some (.ref b)] 0 []
  refine b_aload_n C dX4_init_0 rfl ?_
  refine b_obj C ⟨Nat.le_of_ble_eq_true rfl, Nat.le_of_ble_eq_true rfl⟩ wd79 dX4_init_1 ?_
  refine b_aload_n C dX4_init_4 rfl ?_
  refine b_iconst C (v := 2) dX4_init_5 (by decide) ?_
  refine b_put C 0 0 rfl rfl (by decide) inB4 tyX4_ok nmX4 wd80 rfl rfl rfl rfl (Nat.le_of_ble_eq_true rfl) dX4_init_6 ?_
  dsimp only [List.set]
  refine b_aload_n C dX4_init_9 rfl ?_
  refine b_iconst C (v := 0) dX4_init_10 (by decide) ?_
  refine b_put C 0 1 rfl rfl (by decide) inB4 tyX4_ok nmX4 wd82 rfl rfl rfl rfl (Nat.le_of_ble_eq_true rfl) dX4_init_11 ?_
  dsimp only [List.set]
  exact b_ret C dX4_init_14 rfl
