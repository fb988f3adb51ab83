/-! ===== leaves ===== -/
set_option maxRecDepth 100000 in
set_option maxHeartbeats 4000000 in
theorem c_X3_isFull {l : Launch} {D : va_G} {ad : Nat → Nat → Nat} {cy : Nat → ClassId} {A : Nat → Prop} {sa : Nat → Nat} {σ : St} {i : Nat} (hi : i < 8) : MI l D ad cy A sa yX3_isFull cX3_isFull 1 (some .boolean) 0 σ [.ref (ad 11 i)] (fun r σ' => r = (if σ 11 i 1 < 16 then 0 else 1) ∧ σ' = σ) := by
  refine MI.mk "FretSchool$Piece" (by decide) rfl (Nat.le_of_ble_eq_true rfl) rfl ?_
  intro p e s m args below meth c C
  change Z _ _ _ _ _ _ _ _ _ _ _ _ _ _ _ _ _ _ _ [some (.ref (ad 11 i))] 0 []
  refine z_aload_n C dX3_isFull_0 rfl ?_
  refine g_11_1 (by first | assumption | omega) C wd62 dX3_isFull_1 ?_
  refine z_bipush C (v := 16) dX3_isFull_4 (by decide) ?_
  refine z_icmp_lt C 13 dX3_isFull_6 (by decide) (fun c_6 => ?_) (fun c_6 => ?_)
  · refine z_iconst C (v := 0) dX3_isFull_13 (by decide) ?_
    refine z_zret C dX3_isFull_14 (by first | exact Or.inl rfl | exact Or.inr rfl | assumption) ?_
    exact ⟨by simp [*], rfl⟩
  · refine z_iconst C (v := 1) dX3_isFull_9 (by decide) ?_
    refine z_goto C 14 dX3_isFull_10 (by decide) ?_
    refine z_zret C dX3_isFull_14 (by first | exact Or.inl rfl | exact Or.inr rfl | assumption) ?_
    exact ⟨by simp [*], rfl⟩
set_option maxRecDepth 100000 in
set_option maxHeartbeats 4000000 in
theorem c_X3_append {l : Launch} {D : va_G} {ad : Nat → Nat → Nat} {cy : Nat → ClassId} {A : Nat → Prop} {sa : Nat → Nat} {σ : St} {i : Nat} (hi : i < 8) {x : Int32} {n : Nat} (hn : σ 11 i 1 = nI n) (h16 : n < 16) : MV l D ad cy A sa yX3_append cX3_append 2 (none : Option Jvm.ClassFile.FieldType) 1 σ [.ref (ad 11 i), .int x] (fun σ' => σ' = up (up σ 12 i n x) 11 i 1 (nI (n + 1))) := by
  refine MV.mk "FretSchool$Piece" (by decide) rfl (Nat.le_of_ble_eq_true rfl) rfl ?_
  intro p e s m args below meth c C
  change Z _ _ _ _ _ _ _ _ _ _ _ _ _ _ _ _ _ _ _ [some (.ref (ad 11 i)), some (.int x)] 0 []
  refine z_aload_n C dX3_append_0 rfl ?_
  refine z_cvi C (As := []) (c_X3_isFull (by assumption)) okX3_isFull wd329 (rc_11 (by first | assumption | omega)) (rok (by decide) (by decide)) ⟨Nat.le_of_ble_eq_true rfl, Nat.le_of_ble_eq_true rfl⟩ rfl (Nat.le_of_ble_eq_true rfl) dX3_append_1 ?_
  rintro _ _ ⟨rfl, rfl⟩
  refine z_if_eq C 8 dX3_append_4 (by decide) (fun c_4 => ?_) (fun c_4 => ?_)
  rotate_left
  · exact absurd (by simp [hn, nI_lt (show n < 16 by omega) (by omega : (16:Nat) < 2 ^ 31)]) c_4
  refine z_aload_n C dX3_append_8 rfl ?_
  refine g_11_0 (by first | assumption | omega) C wd59 dX3_append_9 ?_
  refine z_aload_n C dX3_append_12 rfl ?_
  refine g_11_1 (by first | assumption | omega) C wd62 dX3_append_13 ?_
  refine z_iload_n C dX3_append_16 rfl ?_
  refine s_12 (by first | assumption | omega) C (by assumption) (by first | assumption | omega) dX3_append_17 ?_
  refine z_aload_n C dX3_append_18 rfl ?_
  refine z_dup C dX3_append_19 rfl ?_
  refine g_11_1 (by first | assumption | omega) C wd62 dX3_append_20 ?_
  refine z_iconst C (v := 1) dX3_append_23 (by decide) ?_
  refine z_iadd C dX3_append_24 ?_
  refine p_11_1 (by first | assumption | omega) C wd62 dX3_append_25 ?_
  refine z_vret C dX3_append_28 ?_
  sorry
set_option maxRecDepth 100000 in
set_option maxHeartbeats 4000000 in
theorem c_X1_build {l : Launch} {D : va_G} {ad : Nat → Nat → Nat} {cy : Nat → ClassId} {A : Nat → Prop} {sa : Nat → Nat} {σ : St} {i : Nat} (hi : i < 8) {x y : Int32} : MV l D ad cy A sa yX1_build cX1_build 3 (none : Option Jvm.ClassFile.FieldType) 0 σ [.ref (ad 13 i), .int x, .int y] (fun σ' => σ' = up (up σ 13 i 1 x) 13 i 2 y) := by
  refine MV.mk "FretSchool$Instrument" (by decide) rfl (Nat.le_of_ble_eq_true rfl) rfl ?_
  intro p e s m args below meth c C
  change Z _ _ _ _ _ _ _ _ _ _ _ _ _ _ _ _ _ _ _ [some (.ref (ad 13 i)), some (.int x), some (.int y)] 0 []
  refine z_aload_n C dX1_build_0 rfl ?_
  refine z_iload_n C dX1_build_1 rfl ?_
  refine p_13_1 (by first | assumption | omega) C wd80 dX1_build_2 ?_
  refine z_aload_n C dX1_build_5 rfl ?_
  refine z_iload_n C dX1_build_6 rfl ?_
  refine p_13_2 (by first | assumption | omega) C wd82 dX1_build_7 ?_
  refine z_vret C dX1_build_10 ?_
  rfl
set_option maxRecDepth 100000 in
set_option maxHeartbeats 4000000 in
theorem c_X1_tuneAll {l : Launch} {D : va_G} {ad : Nat → Nat → Nat} {cy : Nat → ClassId} {A : Nat → Prop} {sa : Nat → Nat} {σ : St} {i : Nat} (hi : i < 8) {a b c0 d0 : Int32} : MV l D ad cy A sa yX1_tuneAll cX1_tuneAll 5 (none : Option Jvm.ClassFile.FieldType) 0 σ [.ref (ad 13 i), .int a, .int b, .int c0, .int d0] (fun σ' => σ' = up (up (up (up σ 14 i 0 a) 14 i 1 b) 14 i 2 c0) 14 i 3 d0) := by
  refine MV.mk "FretSchool$Instrument" (by decide) rfl (Nat.le_of_ble_eq_true rfl) rfl ?_
  intro p e s m args below meth c C
  change Z _ _ _ _ _ _ _ _ _ _ _ _ _ _ _ _ _ _ _ [some (.ref (ad 13 i)), some (.int a), some (.int b), some (.int c0), some (.int d0)] 0 []
  refine z_aload_n C dX1_tuneAll_0 rfl ?_
  refine g_13_0 (by first | assumption | omega) C wd78 dX1_tuneAll_1 ?_
  refine z_iconst C (v := 0) dX1_tuneAll_4 (by decide) ?_
  refine z_iload_n C dX1_tuneAll_5 rfl ?_
  refine s_14 (by first | assumption | omega) C (j := 0) (by decide) (by decide) dX1_tuneAll_6 ?_
  refine z_aload_n C dX1_tuneAll_7 rfl ?_
  refine g_13_0 (by first | assumption | omega) C wd78 dX1_tuneAll_8 ?_
  refine z_iconst C (v := 1) dX1_tuneAll_11 (by decide) ?_
  refine z_iload_n C dX1_tuneAll_12 rfl ?_
  refine s_14 (by first | assumption | omega) C (j := 1) (by decide) (by decide) dX1_tuneAll_13 ?_
  refine z_aload_n C dX1_tuneAll_14 rfl ?_
  refine g_13_0 (by first | assumption | omega) C wd78 dX1_tuneAll_15 ?_
  refine z_iconst C (v := 2) dX1_tuneAll_18 (by decide) ?_
  refine z_iload_n C dX1_tuneAll_19 rfl ?_
  refine s_14 (by first | assumption | omega) C (j := 2) (by decide) (by decide) dX1_tuneAll_20 ?_
  refine z_aload_n C dX1_tuneAll_21 rfl ?_
  refine g_13_0 (by first | assumption | omega) C wd78 dX1_tuneAll_22 ?_
  refine z_iconst C (v := 3) dX1_tuneAll_25 (by decide) ?_
  refine z_iload C dX1_tuneAll_26 rfl ?_
  refine s_14 (by first | assumption | omega) C (j := 3) (by decide) (by decide) dX1_tuneAll_28 ?_
  refine z_vret C dX1_tuneAll_29 ?_
  rfl
set_option maxRecDepth 100000 in
set_option maxHeartbeats 4000000 in
theorem c_X1_highestPosition {l : Launch} {D : va_G} {ad : Nat → Nat → Nat} {cy : Nat → ClassId} {A : Nat → Prop} {sa : Nat → Nat} {σ : St} {i : Nat} (hi : i < 8) : MI l D ad cy A sa yX1_highestPosition cX1_highestPosition 1 (some .int) 0 σ [.ref (ad 13 i)] (fun r σ' => r = σ 13 i 2 - 3 ∧ σ' = σ) := by
  refine MI.mk "FretSchool$Instrument" (by decide) rfl (Nat.le_of_ble_eq_true rfl) rfl ?_
  intro p e s m args below meth c C
  change Z _ _ _ _ _ _ _ _ _ _ _ _ _ _ _ _ _ _ _ [some (.ref (ad 13 i))] 0 []
  refine z_aload_n C dX1_highestPosition_0 rfl ?_
  refine g_13_2 (by first | assumption | omega) C wd82 dX1_highestPosition_1 ?_
  refine z_iconst C (v := 3) dX1_highestPosition_4 (by decide) ?_
  refine z_isub C dX1_highestPosition_5 ?_
  refine z_iret C dX1_highestPosition_6 ?_
  exact ⟨rfl, rfl⟩
set_option maxRecDepth 100000 in
set_option maxHeartbeats 4000000 in
theorem c_X2_place {l : Launch} {D : va_G} {ad : Nat → Nat → Nat} {cy : Nat → ClassId} {A : Nat → Prop} {sa : Nat → Nat} {σ : St} {i : Nat} (hi : i < 20) {x y z : Int32} : MV l D ad cy A sa yX2_place cX2_place 4 (none : Option Jvm.ClassFile.FieldType) 0 σ [.ref (ad 16 i), .int x, .int y, .int z] (fun σ' => σ' = up (up (up σ 16 i 0 x) 16 i 1 y) 16 i 2 z) := by
  refine MV.mk "FretSchool$Order" (by decide) rfl (Nat.le_of_ble_eq_true rfl) rfl ?_
  intro p e s m args below meth c C
  change Z _ _ _ _ _ _ _ _ _ _ _ _ _ _ _ _ _ _ _ [some (.ref (ad 16 i)), some (.int x), some (.int y), some (.int z)] 0 []
  refine z_aload_n C dX2_place_0 rfl ?_
  refine z_iload_n C dX2_place_1 rfl ?_
  refine p_16_0 (by first | assumption | omega) C wd113 dX2_place_2 ?_
  refine z_aload_n C dX2_place_5 rfl ?_
  refine z_iload_n C dX2_place_6 rfl ?_
  refine p_16_1 (by first | assumption | omega) C wd115 dX2_place_7 ?_
  refine z_aload_n C dX2_place_10 rfl ?_
  refine z_iload_n C dX2_place_11 rfl ?_
  refine p_16_2 (by first | assumption | omega) C wd117 dX2_place_12 ?_
  refine z_vret C dX2_place_15 ?_
  rfl
set_option maxRecDepth 100000 in
set_option maxHeartbeats 4000000 in
theorem c_X2_isReady {l : Launch} {D : va_G} {ad : Nat → Nat → Nat} {cy : Nat → ClassId} {A : Nat → Prop} {sa : Nat → Nat} {σ : St} {i : Nat} (hi : i < 20) {x : Int32} : MI l D ad cy A sa yX2_isReady cX2_isReady 2 (some .boolean) 0 σ [.ref (ad 16 i), .int x] (fun r σ' => r = (if x < σ 16 i 2 then 0 else 1) ∧ σ' = σ) := by
  refine MI.mk "FretSchool$Order" (by decide) rfl (Nat.le_of_ble_eq_true rfl) rfl ?_
  intro p e s m args below meth c C
  change Z _ _ _ _ _ _ _ _ _ _ _ _ _ _ _ _ _ _ _ [some (.ref (ad 16 i)), some (.int x)] 0 []
  refine z_iload_n C dX2_isReady_0 rfl ?_
  refine z_aload_n C dX2_isReady_1 rfl ?_
  refine g_16_2 (by first | assumption | omega) C wd117 dX2_isReady_2 ?_
  refine z_icmp_lt C 12 dX2_isReady_5 (by decide) (fun c_5 => ?_) (fun c_5 => ?_)
  · refine z_iconst C (v := 0) dX2_isReady_12 (by decide) ?_
    refine z_zret C dX2_isReady_13 (by first | exact Or.inl rfl | exact Or.inr rfl | assumption) ?_
    exact ⟨by simp [*], rfl⟩
  · refine z_iconst C (v := 1) dX2_isReady_8 (by decide) ?_
    refine z_goto C 13 dX2_isReady_9 (by decide) ?_
    refine z_zret C dX2_isReady_13 (by first | exact Or.inl rfl | exact Or.inr rfl | assumption) ?_
    exact ⟨by simp [*], rfl⟩
set_option maxRecDepth 100000 in
set_option maxHeartbeats 4000000 in
theorem c_X4_knows {l : Launch} {D : va_G} {ad : Nat → Nat → Nat} {cy : Nat → ClassId} {A : Nat → Prop} {sa : Nat → Nat} {σ : St} {i : Nat} (hi : i < 5) {x : Int32} : MI l D ad cy A sa yX4_knows cX4_knows 2 (some .boolean) 0 σ [.ref (ad 15 i), .int x] (fun r σ' => r = (if σ 15 i 1 &&& (1 <<< (x &&& 31)) = 0 then 0 else 1) ∧ σ' = σ) := by
  refine MI.mk "FretSchool$Pupil" (by decide) rfl (Nat.le_of_ble_eq_true rfl) rfl ?_
  intro p e s m args below meth c C
  change Z _ _ _ _ _ _ _ _ _ _ _ _ _ _ _ _ _ _ _ [some (.ref (ad 15 i)), some (.int x)] 0 []
  refine z_aload_n C dX4_knows_0 rfl ?_
  refine g_15_1 (by first | assumption | omega) C wd99 dX4_knows_1 ?_
  refine z_iconst C (v := 1) dX4_knows_4 (by decide) ?_
  refine z_iload_n C dX4_knows_5 rfl ?_
  refine z_ishl C dX4_knows_6 ?_
  refine z_iand C dX4_knows_7 ?_
  refine z_if_eq C 15 dX4_knows_8 (by decide) (fun c_8 => ?_) (fun c_8 => ?_)
  · refine z_iconst C (v := 0) dX4_knows_15 (by decide) ?_
    refine z_zret C dX4_knows_16 (by first | exact Or.inl rfl | exact Or.inr rfl | assumption) ?_
    exact ⟨by simp [*], rfl⟩
  · refine z_iconst C (v := 1) dX4_knows_11 (by decide) ?_
    refine z_goto C 16 dX4_knows_12 (by decide) ?_
    refine z_zret C dX4_knows_16 (by first | exact Or.inl rfl | exact Or.inr rfl | assumption) ?_
    exact ⟨by simp [*], rfl⟩
set_option maxRecDepth 100000 in
set_option maxHeartbeats 4000000 in
theorem c_X4_takeIn {l : Launch} {D : va_G} {ad : Nat → Nat → Nat} {cy : Nat → ClassId} {A : Nat → Prop} {sa : Nat → Nat} {σ : St} {i : Nat} (hi : i < 5) {x g : Int32} : MV l D ad cy A sa yX4_takeIn cX4_takeIn 3 (none : Option Jvm.ClassFile.FieldType) 0 σ [.ref (ad 15 i), .int x, .int g] (fun σ' => σ' = if g = σ 15 i 0 then up (up σ 15 i 1 (σ 15 i 1 ||| (1 <<< (x &&& 31)))) 15 i 0 (σ 15 i 0 + 1) else up σ 15 i 1 (σ 15 i 1 ||| (1 <<< (x &&& 31)))) := by
  refine MV.mk "FretSchool$Pupil" (by decide) rfl (Nat.le_of_ble_eq_true rfl) rfl ?_
  intro p e s m args below meth c C
  change Z _ _ _ _ _ _ _ _ _ _ _ _ _ _ _ _ _ _ _ [some (.ref (ad 15 i)), some (.int x), some (.int g)] 0 []
  refine z_aload_n C dX4_takeIn_0 rfl ?_
  refine z_dup C dX4_takeIn_1 rfl ?_
  refine g_15_1 (by first | assumption | omega) C wd99 dX4_takeIn_2 ?_
  refine z_iconst C (v := 1) dX4_takeIn_5 (by decide) ?_
  refine z_iload_n C dX4_takeIn_6 rfl ?_
  refine z_ishl C dX4_takeIn_7 ?_
  refine z_ior C dX4_takeIn_8 ?_
  refine p_15_1 (by first | assumption | omega) C wd99 dX4_takeIn_9 ?_
  refine z_iload_n C dX4_takeIn_12 rfl ?_
  refine z_aload_n C dX4_takeIn_13 rfl ?_
  refine g_15_0 (by first | assumption | omega) C wd97 dX4_takeIn_14 ?_
  refine z_icmp_ne C 30 dX4_takeIn_17 (by decide) (fun c_17 => ?_) (fun c_17 => ?_)
  · refine z_vret C dX4_takeIn_30 ?_
    sorry
  · refine z_aload_n C dX4_takeIn_20 rfl ?_
    refine z_dup C dX4_takeIn_21 rfl ?_
    refine g_15_0 (by first | assumption | omega) C wd97 dX4_takeIn_22 ?_
    refine z_iconst C (v := 1) dX4_takeIn_25 (by decide) ?_
    refine z_iadd C dX4_takeIn_26 ?_
    refine p_15_0 (by first | assumption | omega) C wd97 dX4_takeIn_27 ?_
    refine z_vret C dX4_takeIn_30 ?_
    sorry
set_option maxRecDepth 100000 in
set_option maxHeartbeats 4000000 in
theorem c_X0_canReach {l : Launch} {D : va_G} {ad : Nat → Nat → Nat} {cy : Nat → ClassId} {A : Nat → Prop} {sa : Nat → Nat} {σ : St} {x h : Int32} : MI l D ad cy A sa yX0_canReach cX0_canReach 2 (some .boolean) 0 σ [.int x, .int h] (fun r σ' => r = (if x &&& (1 <<< (h &&& 31)) = 0 then 0 else 1) ∧ σ' = σ) := by
  refine MI.mk "FretSchool$Hand" (by decide) rfl (Nat.le_of_ble_eq_true rfl) rfl ?_
  intro p e s m args below meth c C
  change Z _ _ _ _ _ _ _ _ _ _ _ _ _ _ _ _ _ _ _ [some (.int x), some (.int h)] 0 []
  refine z_iload_n C dX0_canReach_0 rfl ?_
  refine z_iconst C (v := 1) dX0_canReach_1 (by decide) ?_
  refine z_iload_n C dX0_canReach_2 rfl ?_
  refine z_ishl C dX0_canReach_3 ?_
  refine z_iand C dX0_canReach_4 ?_
  refine z_if_eq C 12 dX0_canReach_5 (by decide) (fun c_5 => ?_) (fun c_5 => ?_)
  · refine z_iconst C (v := 0) dX0_canReach_12 (by decide) ?_
    refine z_zret C dX0_canReach_13 (by first | exact Or.inl rfl | exact Or.inr rfl | assumption) ?_
    exact ⟨by simp [*], rfl⟩
  · refine z_iconst C (v := 1) dX0_canReach_8 (by decide) ?_
    refine z_goto C 13 dX0_canReach_9 (by decide) ?_
    refine z_zret C dX0_canReach_13 (by first | exact Or.inl rfl | exact Or.inr rfl | assumption) ?_
    exact ⟨by simp [*], rfl⟩
