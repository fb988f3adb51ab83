/-! ===== leaves ===== -/
set_option maxRecDepth 100000 in
set_option maxHeartbeats 4000000 in
theorem c_X3_isFull {l : Launch} {D : va_G} {ad : Nat → Nat → Nat} {cy : Nat → ClassId} {A : Nat → Prop} {sa : Nat → Nat} {σ : St} {i : Nat} (hi : i < 8) : MI l D ad cy A sa yX3_isFull cX3_isFull 1 (some .boolean) 0 σ [.ref (ad 11 i)] (fun r σ' => r = (if σ 11 i 1 < 16 then 0 else 1) ∧ σ = σ') := by
  refine MI.mk "FretSchool$Piece" (by decide) rfl (Nat.le_of_ble_eq_true rfl) rfl ?_
  intro p e s m args below meth c C
  change Z _ _ _ _ _ _ _ _ _ _ _ _ _ _ _ _ _ _ _ [some (.ref (ad 11 i))] 0 []
  refine z_aload_n C dX3_isFull_0 rfl ?_
  refine g_11_1 (by first | assumption | omega) C wd45 dX3_isFull_1 ?_
  refine z_bipush C (v := 16) dX3_isFull_4 (by decide) ?_
  refine z_icmp_lt C 13 dX3_isFull_6 (by decide) (fun c_6 => ?_) (fun c_6 => ?_)
  · refine z_iconst C (v := 0) dX3_isFull_13 (by decide) ?_
    refine z_zret C dX3_isFull_14 (by first | exact Or.inl rfl | exact Or.inr rfl | assumption) ?_
    exact ⟨by simp [*], rfl⟩
  · refine z_iconst C (v := 1) dX3_isFull_9 (by decide) ?_
    refine z_goto C 14 dX3_isFull_10 (by decide) ?_
    refine z_zret C dX3_isFull_14 (by first | exact Or.inl rfl | exact Or.inr rfl | assumption) ?_
    exact ⟨by simp [*], rfl⟩
set_option maxRecDepth 100000 in
set_option maxHeartbeats 4000000 in
theorem c_X3_append {l : Launch} {D : va_G} {ad : Nat → Nat → Nat} {cy : Nat → ClassId} {A : Nat → Prop} {sa : Nat → Nat} {σ : St} {i : Nat} (hi : i < 8) {x : Int32} {n : Nat} (hn : σ 11 i 1 = nI n) (h16 : n < 16) : MV l D ad cy A sa yX3_append cX3_append 2 (none : Option Jvm.ClassFile.FieldType) 1 σ [.ref (ad 11 i), .int x] (fun σ' => up (up σ 12 i n x) 11 i 1 (nI (n + 1)) = σ') := by
  refine MV.mk "FretSchool$Piece" (by decide) rfl (Nat.le_of_ble_eq_true rfl) rfl ?_
  intro p e s m args below meth c C
  change Z _ _ _ _ _ _ _ _ _ _ _ _ _ _ _ _ _ _ _ [some (.ref (ad 11 i)), some (.int x)] 0 []
  refine z_aload_n C dX3_append_0 rfl ?_
  refine z_cvi C (As := []) (c_X3_isFull (by assumption)) okX3_isFull wd478 (rc_11 (by first | assumption | omega)) (rok (by decide) (by decide)) ⟨Nat.le_of_ble_eq_true rfl, Nat.le_of_ble_eq_true rfl⟩ rfl (Nat.le_of_ble_eq_true rfl) dX3_append_1 ?_
  rintro _ _ ⟨rfl, rfl⟩
  refine z_if_eq C 8 dX3_append_4 (by decide) (fun c_4 => ?_) (fun c_4 => ?_)
  rotate_left
  · exact absurd (if_pos (by rw [hn]; exact nI_lt (b := 16) h16 (by decide))) c_4
  refine z_aload_n C dX3_append_8 rfl ?_
  refine g_11_0 (by first | assumption | omega) C wd42 dX3_append_9 ?_
  refine z_aload_n C dX3_append_12 rfl ?_
  refine g_11_1 (by first | assumption | omega) C wd45 dX3_append_13 ?_
  refine z_iload_n C dX3_append_16 rfl ?_
  refine s_12 (by first | assumption | omega) C hn h16 dX3_append_17 ?_
  refine z_aload_n C dX3_append_18 rfl ?_
  refine z_dup C dX3_append_19 rfl ?_
  refine g_11_1 (by first | assumption | omega) C wd45 dX3_append_20 ?_
  refine z_iconst C (v := 1) dX3_append_23 (by decide) ?_
  refine z_iadd C dX3_append_24 ?_
  refine p_11_1 (by first | assumption | omega) C wd45 dX3_append_25 ?_
  refine z_vret C dX3_append_28 ?_
  rw [show up σ 12 i n x 11 i 1 = nI n by rw [up_app, if_neg (by omega), hn], nI_1]
set_option maxRecDepth 100000 in
set_option maxHeartbeats 4000000 in
theorem c_X1_build {l : Launch} {D : va_G} {ad : Nat → Nat → Nat} {cy : Nat → ClassId} {A : Nat → Prop} {sa : Nat → Nat} {σ : St} {i : Nat} (hi : i < 8) {x y : Int32} : MV l D ad cy A sa yX1_build cX1_build 3 (none : Option Jvm.ClassFile.FieldType) 0 σ [.ref (ad 13 i), .int x, .int y] (fun σ' => up (up σ 13 i 1 x) 13 i 2 y = σ') := by
  refine MV.mk "FretSchool$Instrument" (by decide) rfl (Nat.le_of_ble_eq_true rfl) rfl ?_
  intro p e s m args below meth c C
  change Z _ _ _ _ _ _ _ _ _ _ _ _ _ _ _ _ _ _ _ [some (.ref (ad 13 i)), some (.int x), some (.int y)] 0 []
  refine z_aload_n C dX1_build_0 rfl ?_
  refine z_iload_n C dX1_build_1 rfl ?_
  refine p_13_1 (by first | assumption | omega) C wd63 dX1_build_2 ?_
  refine z_aload_n C dX1_build_5 rfl ?_
  refine z_iload_n C dX1_build_6 rfl ?_
  refine p_13_2 (by first | assumption | omega) C wd65 dX1_build_7 ?_
  refine z_vret C dX1_build_10 ?_
  rfl
set_option maxRecDepth 100000 in
set_option maxHeartbeats 4000000 in
theorem c_X1_tuneAll {l : Launch} {D : va_G} {ad : Nat → Nat → Nat} {cy : Nat → ClassId} {A : Nat → Prop} {sa : Nat → Nat} {σ : St} {i : Nat} (hi : i < 8) {a b c0 d0 : Int32} : MV l D ad cy A sa yX1_tuneAll cX1_tuneAll 5 (none : Option Jvm.ClassFile.FieldType) 0 σ [.ref (ad 13 i), .int a, .int b, .int c0, .int d0] (fun σ' => up (up (up (up σ 14 i 0 a) 14 i 1 b) 14 i 2 c0) 14 i 3 d0 = σ') := by
  refine MV.mk "FretSchool$Instrument" (by decide) rfl (Nat.le_of_ble_eq_true rfl) rfl ?_
  intro p e s m args below meth c C
  change Z _ _ _ _ _ _ _ _ _ _ _ _ _ _ _ _ _ _ _ [some (.ref (ad 13 i)), some (.int a), some (.int b), some (.int c0), some (.int d0)] 0 []
  refine z_aload_n C dX1_tuneAll_0 rfl ?_
  refine g_13_0 (by first | assumption | omega) C wd61 dX1_tuneAll_1 ?_
  refine z_iconst C (v := 0) dX1_tuneAll_4 (by decide) ?_
  refine z_iload_n C dX1_tuneAll_5 rfl ?_
  refine s_14 (by first | assumption | omega) C (j := 0) (by decide) (by decide) dX1_tuneAll_6 ?_
  refine z_aload_n C dX1_tuneAll_7 rfl ?_
  refine g_13_0 (by first | assumption | omega) C wd61 dX1_tuneAll_8 ?_
  refine z_iconst C (v := 1) dX1_tuneAll_11 (by decide) ?_
  refine z_iload_n C dX1_tuneAll_12 rfl ?_
  refine s_14 (by first | assumption | omega) C (j := 1) (by decide) (by decide) dX1_tuneAll_13 ?_
  refine z_aload_n C dX1_tuneAll_14 rfl ?_
  refine g_13_0 (by first | assumption | omega) C wd61 dX1_tuneAll_15 ?_
  refine z_iconst C (v := 2) dX1_tuneAll_18 (by decide) ?_
  refine z_iload_n C dX1_tuneAll_19 rfl ?_
  refine s_14 (by first | assumption | omega) C (j := 2) (by decide) (by decide) dX1_tuneAll_20 ?_
  refine z_aload_n C dX1_tuneAll_21 rfl ?_
  refine g_13_0 (by first | assumption | omega) C wd61 dX1_tuneAll_22 ?_
  refine z_iconst C (v := 3) dX1_tuneAll_25 (by decide) ?_
  refine z_iload C dX1_tuneAll_26 rfl ?_
  refine s_14 (by first | assumption | omega) C (j := 3) (by decide) (by decide) dX1_tuneAll_28 ?_
  refine z_vret C dX1_tuneAll_29 ?_
  rfl
set_option maxRecDepth 100000 in
set_option maxHeartbeats 4000000 in
theorem c_X1_highestPosition {l : Launch} {D : va_G} {ad : Nat → Nat → Nat} {cy : Nat → ClassId} {A : Nat → Prop} {sa : Nat → Nat} {σ : St} {i : Nat} (hi : i < 8) : MI l D ad cy A sa yX1_highestPosition cX1_highestPosition 1 (some .int) 0 σ [.ref (ad 13 i)] (fun r σ' => r = σ 13 i 2 - 3 ∧ σ = σ') := by
  refine MI.mk "FretSchool$Instrument" (by decide) rfl (Nat.le_of_ble_eq_true rfl) rfl ?_
  intro p e s m args below meth c C
  change Z _ _ _ _ _ _ _ _ _ _ _ _ _ _ _ _ _ _ _ [some (.ref (ad 13 i))] 0 []
  refine z_aload_n C dX1_highestPosition_0 rfl ?_
  refine g_13_2 (by first | assumption | omega) C wd65 dX1_highestPosition_1 ?_
  refine z_iconst C (v := 3) dX1_highestPosition_4 (by decide) ?_
  refine z_isub C dX1_highestPosition_5 ?_
  refine z_iret C dX1_highestPosition_6 ?_
  exact ⟨rfl, rfl⟩
set_option maxRecDepth 100000 in
set_option maxHeartbeats 4000000 in
theorem c_X2_place {l : Launch} {D : va_G} {ad : Nat → Nat → Nat} {cy : Nat → ClassId} {A : Nat → Prop} {sa : Nat → Nat} {σ : St} {i : Nat} (hi : i < 20) {x y z : Int32} : MV l D ad cy A sa yX2_place cX2_place 4 (none : Option Jvm.ClassFile.FieldType) 0 σ [.ref (ad 16 i), .int x, .int y, .int z] (fun σ' => up (up (up σ 16 i 0 x) 16 i 1 y) 16 i 2 z = σ') := by
  refine MV.mk "FretSchool$Order" (by decide) rfl (Nat.le_of_ble_eq_true rfl) rfl ?_
  intro p e s m args below meth c C
  change Z _ _ _ _ _ _ _ _ _ _ _ _ _ _ _ _ _ _ _ [some (.ref (ad 16 i)), some (.int x), some (.int y), some (.int z)] 0 []
  refine z_aload_n C dX2_place_0 rfl ?_
  refine z_iload_n C dX2_place_1 rfl ?_
  refine p_16_0 (by first | assumption | omega) C wd96 dX2_place_2 ?_
  refine z_aload_n C dX2_place_5 rfl ?_
  refine z_iload_n C dX2_place_6 rfl ?_
  refine p_16_1 (by first | assumption | omega) C wd98 dX2_place_7 ?_
  refine z_aload_n C dX2_place_10 rfl ?_
  refine z_iload_n C dX2_place_11 rfl ?_
  refine p_16_2 (by first | assumption | omega) C wd100 dX2_place_12 ?_
  refine z_vret C dX2_place_15 ?_
  rfl
set_option maxRecDepth 100000 in
set_option maxHeartbeats 4000000 in
theorem c_X2_isReady {l : Launch} {D : va_G} {ad : Nat → Nat → Nat} {cy : Nat → ClassId} {A : Nat → Prop} {sa : Nat → Nat} {σ : St} {i : Nat} (hi : i < 20) {x : Int32} : MI l D ad cy A sa yX2_isReady cX2_isReady 2 (some .boolean) 0 σ [.ref (ad 16 i), .int x] (fun r σ' => r = (if x < σ 16 i 2 then 0 else 1) ∧ σ = σ') := by
  refine MI.mk "FretSchool$Order" (by decide) rfl (Nat.le_of_ble_eq_true rfl) rfl ?_
  intro p e s m args below meth c C
  change Z _ _ _ _ _ _ _ _ _ _ _ _ _ _ _ _ _ _ _ [some (.ref (ad 16 i)), some (.int x)] 0 []
  refine z_iload_n C dX2_isReady_0 rfl ?_
  refine z_aload_n C dX2_isReady_1 rfl ?_
  refine g_16_2 (by first | assumption | omega) C wd100 dX2_isReady_2 ?_
  refine z_icmp_lt C 12 dX2_isReady_5 (by decide) (fun c_5 => ?_) (fun c_5 => ?_)
  · refine z_iconst C (v := 0) dX2_isReady_12 (by decide) ?_
    refine z_zret C dX2_isReady_13 (by first | exact Or.inl rfl | exact Or.inr rfl | assumption) ?_
    exact ⟨by simp [*], rfl⟩
  · refine z_iconst C (v := 1) dX2_isReady_8 (by decide) ?_
    refine z_goto C 13 dX2_isReady_9 (by decide) ?_
    refine z_zret C dX2_isReady_13 (by first | exact Or.inl rfl | exact Or.inr rfl | assumption) ?_
    exact ⟨by simp [*], rfl⟩
set_option maxRecDepth 100000 in
set_option maxHeartbeats 4000000 in
theorem c_X4_knows {l : Launch} {D : va_G} {ad : Nat → Nat → Nat} {cy : Nat → ClassId} {A : Nat → Prop} {sa : Nat → Nat} {σ : St} {i : Nat} (hi : i < 5) {x : Int32} : MI l D ad cy A sa yX4_knows cX4_knows 2 (some .boolean) 0 σ [.ref (ad 15 i), .int x] (fun r σ' => r = (if σ 15 i 1 &&& (1 <<< (x &&& 31)) = 0 then 0 else 1) ∧ σ = σ') := by
  refine MI.mk "FretSchool$Pupil" (by decide) rfl (Nat.le_of_ble_eq_true rfl) rfl ?_
  intro p e s m args below meth c C
  change Z _ _ _ _ _ _ _ _ _ _ _ _ _ _ _ _ _ _ _ [some (.ref (ad 15 i)), some (.int x)] 0 []
  refine z_aload_n C dX4_knows_0 rfl ?_
  refine g_15_1 (by first | assumption | omega) C wd82 dX4_knows_1 ?_
  refine z_iconst C (v := 1) dX4_knows_4 (by decide) ?_
  refine z_iload_n C dX4_knows_5 rfl ?_
  refine z_ishl C dX4_knows_6 ?_
  refine z_iand C dX4_knows_7 ?_
  refine z_if_eq C 15 dX4_knows_8 (by decide) (fun c_8 => ?_) (fun c_8 => ?_)
  · refine z_iconst C (v := 0) dX4_knows_15 (by decide) ?_
    refine z_zret C dX4_knows_16 (by first | exact Or.inl rfl | exact Or.inr rfl | assumption) ?_
    exact ⟨by simp [*], rfl⟩
  · refine z_iconst C (v := 1) dX4_knows_11 (by decide) ?_
    refine z_goto C 16 dX4_knows_12 (by decide) ?_
    refine z_zret C dX4_knows_16 (by first | exact Or.inl rfl | exact Or.inr rfl | assumption) ?_
    exact ⟨by simp [*], rfl⟩
set_option maxRecDepth 100000 in
set_option maxHeartbeats 4000000 in
theorem c_X4_takeIn {l : Launch} {D : va_G} {ad : Nat → Nat → Nat} {cy : Nat → ClassId} {A : Nat → Prop} {sa : Nat → Nat} {σ : St} {i : Nat} (hi : i < 5) {x g : Int32} : MV l D ad cy A sa yX4_takeIn cX4_takeIn 3 (none : Option Jvm.ClassFile.FieldType) 0 σ [.ref (ad 15 i), .int x, .int g] (fun σ' => up (up σ 15 i 1 (σ 15 i 1 ||| (1 <<< (x &&& 31)))) 15 i 0 (if g = σ 15 i 0 then σ 15 i 0 + 1 else σ 15 i 0) = σ') := by
  refine MV.mk "FretSchool$Pupil" (by decide) rfl (Nat.le_of_ble_eq_true rfl) rfl ?_
  intro p e s m args below meth c C
  change Z _ _ _ _ _ _ _ _ _ _ _ _ _ _ _ _ _ _ _ [some (.ref (ad 15 i)), some (.int x), some (.int g)] 0 []
  refine z_aload_n C dX4_takeIn_0 rfl ?_
  refine z_dup C dX4_takeIn_1 rfl ?_
  refine g_15_1 (by first | assumption | omega) C wd82 dX4_takeIn_2 ?_
  refine z_iconst C (v := 1) dX4_takeIn_5 (by decide) ?_
  refine z_iload_n C dX4_takeIn_6 rfl ?_
  refine z_ishl C dX4_takeIn_7 ?_
  refine z_ior C dX4_takeIn_8 ?_
  refine p_15_1 (by first | assumption | omega) C wd82 dX4_takeIn_9 ?_
  refine z_iload_n C dX4_takeIn_12 rfl ?_
  refine z_aload_n C dX4_takeIn_13 rfl ?_
  refine g_15_0 (by first | assumption | omega) C wd80 dX4_takeIn_14 ?_
  refine z_icmp_ne C 30 dX4_takeIn_17 (by decide) (fun c_17 => ?_) (fun c_17 => ?_)
  · refine z_vret C dX4_takeIn_30 ?_
    have e0 : up σ 15 i 1 (σ 15 i 1 ||| (1 <<< (x &&& 31))) 15 i 0 = σ 15 i 0 := by rw [up_app, if_neg (by omega)]
    first
      | (rw [e0] at c_17; rw [if_neg c_17]; exact (up_id e0).symm)
      | (rw [e0] at c_17; rw [if_pos c_17, e0])
  · refine z_aload_n C dX4_takeIn_20 rfl ?_
    refine z_dup C dX4_takeIn_21 rfl ?_
    refine g_15_0 (by first | assumption | omega) C wd80 dX4_takeIn_22 ?_
    refine z_iconst C (v := 1) dX4_takeIn_25 (by decide) ?_
    refine z_iadd C dX4_takeIn_26 ?_
    refine p_15_0 (by first | assumption | omega) C wd80 dX4_takeIn_27 ?_
    refine z_vret C dX4_takeIn_30 ?_
    have e0 : up σ 15 i 1 (σ 15 i 1 ||| (1 <<< (x &&& 31))) 15 i 0 = σ 15 i 0 := by rw [up_app, if_neg (by omega)]
    first
      | (rw [e0] at c_17; rw [if_neg c_17]; exact (up_id e0).symm)
      | (rw [e0] at c_17; rw [if_pos c_17, e0])
set_option maxRecDepth 100000 in
set_option maxHeartbeats 4000000 in
theorem c_X0_canReach {l : Launch} {D : va_G} {ad : Nat → Nat → Nat} {cy : Nat → ClassId} {A : Nat → Prop} {sa : Nat → Nat} {σ : St} {x h : Int32} : MI l D ad cy A sa yX0_canReach cX0_canReach 2 (some .boolean) 0 σ [.int x, .int h] (fun r σ' => r = (if x &&& (1 <<< (h &&& 31)) = 0 then 0 else 1) ∧ σ = σ') := by
  refine MI.mk "FretSchool$Hand" (by decide) rfl (Nat.le_of_ble_eq_true rfl) rfl ?_
  intro p e s m args below meth c C
  change Z _ _ _ _ _ _ _ _ _ _ _ _ _ _ _ _ _ _ _ [some (.int x), some (.int h)] 0 []
  refine z_iload_n C dX0_canReach_0 rfl ?_
  refine z_iconst C (v := 1) dX0_canReach_1 (by decide) ?_
  refine z_iload_n C dX0_canReach_2 rfl ?_
  refine z_ishl C dX0_canReach_3 ?_
  refine z_iand C dX0_canReach_4 ?_
  refine z_if_eq C 12 dX0_canReach_5 (by decide) (fun c_5 => ?_) (fun c_5 => ?_)
  · refine z_iconst C (v := 0) dX0_canReach_12 (by decide) ?_
    refine z_zret C dX0_canReach_13 (by first | exact Or.inl rfl | exact Or.inr rfl | assumption) ?_
    exact ⟨by simp [*], rfl⟩
  · refine z_iconst C (v := 1) dX0_canReach_8 (by decide) ?_
    refine z_goto C 13 dX0_canReach_9 (by decide) ?_
    refine z_zret C dX0_canReach_13 (by first | exact Or.inl rfl | exact Or.inr rfl | assumption) ?_
    exact ⟨by simp [*], rfl⟩
section
variable {p : Program} {l : Launch} {e : Env} {R : Room} {s : State} {m : MethodId} {args : Array Value} {below : List Frame} {meth : Method} {c : Code} {D : va_G} {ad : Nat → Nat → Nat} {cy : Nat → ClassId} {A : Nat → Prop} {sa : Nat → Nat} {cells slots : Nat} {σ : St}
set_option maxRecDepth 100000 in
set_option maxHeartbeats 4000000 in
theorem lp_X3_canMove (C : Cx p l s m args meth c cX3_canMove "FretSchool$Piece" 4 (some .boolean) D ad cy A sa) {i : Nat} (hi : i < 8) {by0 : Int32} {n : Nat} (hn : σ 11 i 1 = nI n) (h16 : n ≤ 16) : ∀ (f j : Nat) (x : Int32) (o3 : Option Value), x = nI j → j ≤ n → n < j + f → (∀ k, k < j → okP (σ 12 i k + by0)) → Z p l e R s m args below meth c D ad cy A 4 cells slots (MQ below (va_Qi (fun r σ' => σ = σ' ∧ ((r = 1 ∧ ∀ k, k < n → okP (σ 12 i k + by0)) ∨ (r = 0 ∧ ∃ k, k < n ∧ ¬ okP (σ 12 i k + by0)))) (Bw D ad cy) A) args s cells slots A) σ [some (.ref (ad 11 i)), some (.int by0), some (.int x), o3] 2 [] := by
  intro f
  induction f with
  | zero => intro j x o3 _ _ h _; exact absurd h (by omega)
  | succ f ih =>
    intro j x o3 ex hj hf hok
    refine z_iload_n C dX3_canMove_2 rfl ?_
    refine z_aload_n C dX3_canMove_3 rfl ?_
    refine g_11_1 (by first | assumption | omega) C wd45 dX3_canMove_4 ?_
    refine z_icmp_ge C 37 dX3_canMove_7 (by decide) (fun c_7 => ?_) (fun c_7 => ?_)
    · have hjn : n ≤ j := by rw [hn, ex, nI_leI (by omega) (by omega)] at c_7; exact c_7
      refine z_iconst C (v := 1) dX3_canMove_37 (by decide) ?_
      refine z_zret C dX3_canMove_38 (by first | exact Or.inl rfl | exact Or.inr rfl | assumption) ?_
      exact ⟨rfl, Or.inl ⟨rfl, fun k hk => hok k (by omega)⟩⟩
    · have hjn : j < n := by rw [hn, ex, nI_leI (by omega) (by omega)] at c_7; omega
      refine z_aload_n C dX3_canMove_10 rfl ?_
      refine g_11_0 (by first | assumption | omega) C wd42 dX3_canMove_11 ?_
      refine z_iload_n C dX3_canMove_14 rfl ?_
      refine a_12 (by first | assumption | omega) C (by assumption) (by first | assumption | omega) dX3_canMove_15 ?_
      refine z_iload_n C dX3_canMove_16 rfl ?_
      refine z_iadd C dX3_canMove_17 ?_
      refine z_istore_n C dX3_canMove_18 (by decide) ?_
      dsimp only [List.set]
      refine z_iload_n C dX3_canMove_19 rfl ?_
      refine z_if_lt C 29 dX3_canMove_20 (by decide) (fun c_20 => ?_) (fun c_20 => ?_)
      · refine z_iconst C (v := 0) dX3_canMove_29 (by decide) ?_
        refine z_zret C dX3_canMove_30 (by first | exact Or.inl rfl | exact Or.inr rfl | assumption) ?_
        exact ⟨rfl, Or.inr ⟨rfl, j, hjn, fun h => by first | exact h.1 c_20 | exact c_26 h.2⟩⟩
      · refine z_iload_n C dX3_canMove_23 rfl ?_
        refine z_bipush C (v := 80) dX3_canMove_24 (by decide) ?_
        refine z_icmp_le C 31 dX3_canMove_26 (by decide) (fun c_26 => ?_) (fun c_26 => ?_)
        · refine z_iinc C (v := 1) dX3_canMove_31 rfl (by decide) (by decide) ?_
          dsimp only [List.set]
          refine z_goto C 2 dX3_canMove_34 (by decide) ?_
          exact ih (j + 1) _ _ (by rw [ex]; exact nI_1 j) (by omega) (by omega) (fun k hk => (Nat.lt_or_ge k j).elim (fun q => hok k q) (fun q => by rw [show k = j by omega]; exact ⟨c_20, c_26⟩))
        · refine z_iconst C (v := 0) dX3_canMove_29 (by decide) ?_
          refine z_zret C dX3_canMove_30 (by first | exact Or.inl rfl | exact Or.inr rfl | assumption) ?_
          exact ⟨rfl, Or.inr ⟨rfl, j, hjn, fun h => by first | exact h.1 c_20 | exact c_26 h.2⟩⟩
end
set_option maxRecDepth 100000 in
set_option maxHeartbeats 4000000 in
theorem c_X3_canMove {l : Launch} {D : va_G} {ad : Nat → Nat → Nat} {cy : Nat → ClassId} {A : Nat → Prop} {sa : Nat → Nat} {σ : St} {i : Nat} (hi : i < 8) {by0 : Int32} {n : Nat} (hn : σ 11 i 1 = nI n) (h16 : n ≤ 16) : MI l D ad cy A sa yX3_canMove cX3_canMove 4 (some .boolean) 0 σ [.ref (ad 11 i), .int by0] (fun r σ' => σ = σ' ∧ ((r = 1 ∧ ∀ k, k < n → okP (σ 12 i k + by0)) ∨ (r = 0 ∧ ∃ k, k < n ∧ ¬ okP (σ 12 i k + by0)))) := by
  refine MI.mk "FretSchool$Piece" (by decide) rfl (Nat.le_of_ble_eq_true rfl) rfl ?_
  intro p e s m args below meth c C
  change Z _ _ _ _ _ _ _ _ _ _ _ _ _ _ _ _ _ _ _ [some (.ref (ad 11 i)), some (.int by0), none, none] 0 []
  refine z_iconst C (v := 0) dX3_canMove_0 (by decide) ?_
  refine z_istore_n C dX3_canMove_1 (by decide) ?_
  dsimp only [List.set]
  exact lp_X3_canMove C hi hn h16 (n + 1) 0 _ _ nI_0.symm (by omega) (by omega) (fun k hk => absurd hk (Nat.not_lt_zero k))
/-- the first j notes of piece i moved -/
def mvd (σ : St) (i : Nat) (x : Int32) : Nat → St
  | 0 => σ
  | j + 1 => up (mvd σ i x j) 12 i j (mvd σ i x j 12 i j + x)
theorem mvd_app (σ : St) (i : Nat) (x : Int32) : ∀ (n k' i' j' : Nat), mvd σ i x n k' i' j' = if k' = 12 ∧ i' = i ∧ j' < n then σ 12 i j' + x else σ k' i' j'
  | 0, k', i', j' => by rw [if_neg (by omega)]; rfl
  | n + 1, k', i', j' => by
    show up (mvd σ i x n) 12 i n (mvd σ i x n 12 i n + x) k' i' j' = _
    rw [up_app]
    by_cases h : k' = 12 ∧ i' = i ∧ j' = n
    · obtain ⟨rfl, rfl, rfl⟩ := h
      rw [if_pos ⟨rfl, rfl, rfl⟩, if_pos (by omega), mvd_app σ i' x j', if_neg (by omega)]
    · rw [if_neg h, mvd_app σ i x n]
      by_cases h2 : k' = 12 ∧ i' = i ∧ j' < n
      · rw [if_pos h2, if_pos (by omega)]
      · rw [if_neg h2, if_neg (by omega)]
section
variable {p : Program} {l : Launch} {e : Env} {R : Room} {s : State} {m : MethodId} {args : Array Value} {below : List Frame} {meth : Method} {c : Code} {D : va_G} {ad : Nat → Nat → Nat} {cy : Nat → ClassId} {A : Nat → Prop} {sa : Nat → Nat} {cells slots : Nat} {σ : St}
set_option maxRecDepth 100000 in
set_option maxHeartbeats 4000000 in
theorem lp_X3_move (C : Cx p l s m args meth c cX3_move "FretSchool$Piece" 3 (none : Option Jvm.ClassFile.FieldType) D ad cy A sa) {i : Nat} (hi : i < 8) {by0 : Int32} {n : Nat} (hn : σ 11 i 1 = nI n) (h16 : n ≤ 16) : ∀ (f j : Nat) (x : Int32), x = nI j → j ≤ n → n < j + f → Z p l e R s m args below meth c D ad cy A 3 cells slots (MQ below (va_Qv (fun σ' => mvd σ i by0 n = σ') (Bw D ad cy) A) args s cells slots A) (mvd σ i by0 j) [some (.ref (ad 11 i)), some (.int by0), some (.int x)] 2 [] := by
  intro f
  induction f with
  | zero => intro j x _ _ h; exact absurd h (by omega)
  | succ f ih =>
    intro j x ex hj hf
    have hn : mvd σ i by0 j 11 i 1 = nI n := by rw [mvd_app, if_neg (by omega), hn]
    refine z_iload_n C dX3_move_2 rfl ?_
    refine z_aload_n C dX3_move_3 rfl ?_
    refine g_11_1 (by first | assumption | omega) C wd45 dX3_move_4 ?_
    refine z_icmp_ge C 26 dX3_move_7 (by decide) (fun c_7 => ?_) (fun c_7 => ?_)
    · have hjn : n ≤ j := by rw [hn, ex, nI_leI (by omega) (by omega)] at c_7; exact c_7
      refine z_vret C dX3_move_26 ?_
      rw [show j = n by omega]
    · have hjn : j < n := by rw [hn, ex, nI_leI (by omega) (by omega)] at c_7; omega
      refine z_aload_n C dX3_move_10 rfl ?_
      refine g_11_0 (by first | assumption | omega) C wd42 dX3_move_11 ?_
      refine z_iload_n C dX3_move_14 rfl ?_
      refine z_dup2 C dX3_move_15 rfl rfl ?_
      refine a_12 (by first | assumption | omega) C (by assumption) (by first | assumption | omega) dX3_move_16 ?_
      refine z_iload_n C dX3_move_17 rfl ?_
      refine z_iadd C dX3_move_18 ?_
      refine s_12 (by first | assumption | omega) C (by assumption) (by first | assumption | omega) dX3_move_19 ?_
      refine z_iinc C (v := 1) dX3_move_20 rfl (by decide) (by decide) ?_
      dsimp only [List.set]
      refine z_goto C 2 dX3_move_23 (by decide) ?_
      exact ih (j + 1) _ (by rw [ex]; exact nI_1 j) (by omega) (by omega)
end
set_option maxRecDepth 100000 in
set_option maxHeartbeats 4000000 in
theorem c_X3_move {l : Launch} {D : va_G} {ad : Nat → Nat → Nat} {cy : Nat → ClassId} {A : Nat → Prop} {sa : Nat → Nat} {σ : St} {i : Nat} (hi : i < 8) {by0 : Int32} {n : Nat} (hn : σ 11 i 1 = nI n) (h16 : n ≤ 16) : MV l D ad cy A sa yX3_move cX3_move 3 (none : Option Jvm.ClassFile.FieldType) 0 σ [.ref (ad 11 i), .int by0] (fun σ' => mvd σ i by0 n = σ') := by
  refine MV.mk "FretSchool$Piece" (by decide) rfl (Nat.le_of_ble_eq_true rfl) rfl ?_
  intro p e s m args below meth c C
  change Z _ _ _ _ _ _ _ _ _ _ _ _ _ _ _ _ _ _ _ [some (.ref (ad 11 i)), some (.int by0), none] 0 []
  refine z_iconst C (v := 0) dX3_move_0 (by decide) ?_
  refine z_istore_n C dX3_move_1 (by decide) ?_
  dsimp only [List.set]
  exact lp_X3_move C hi hn h16 (n + 1) 0 _ nI_0.symm (by omega) (by omega)
theorem lowS_at {p h : Int32} {O : Nat → Int32} {j : Nat} (hj : j < 4) (hno : ∀ k, k < j → ¬ lies (p - O k) h) (hyes : lies (p - O j) h) : nI j = lowS p O h := by
  unfold lowS
  match j, hj with
  | 0, _ => rw [if_pos hyes]; rfl
  | 1, _ => rw [if_neg (hno 0 (by omega)), if_pos hyes]; rfl
  | 2, _ => rw [if_neg (hno 0 (by omega)), if_neg (hno 1 (by omega)), if_pos hyes]; rfl
  | 3, _ => rw [if_neg (hno 0 (by omega)), if_neg (hno 1 (by omega)), if_neg (hno 2 (by omega)), if_pos hyes]; rfl
theorem lowS_none {p h : Int32} {O : Nat → Int32} (hno : ∀ k, k < 4 → ¬ lies (p - O k) h) : -1 = lowS p O h := by
  unfold lowS
  rw [if_neg (hno 0 (by omega)), if_neg (hno 1 (by omega)), if_neg (hno 2 (by omega)), if_neg (hno 3 (by omega))]
theorem lowS_iff {p h : Int32} {O : Nat → Int32} : lowS p O h ≠ -1 ↔ ∃ k, k < 4 ∧ lies (p - O k) h := by
  constructor
  · intro hne
    apply Classical.byContradiction
    intro hno
    exact hne (lowS_none (fun k hk hl => hno ⟨k, hk, hl⟩)).symm
  · rintro ⟨k, hk, hl⟩ e
    unfold lowS at e
    split at e
    · exact absurd e (by decide)
    · split at e
      · exact absurd e (by decide)
      · split at e
        · exact absurd e (by decide)
        · split at e
          · exact absurd e (by decide)
          · match k, hk with
            | 0, _ => contradiction
            | 1, _ => contradiction
            | 2, _ => contradiction
            | 3, _ => contradiction
section
variable {p : Program} {l : Launch} {e : Env} {R : Room} {s : State} {m : MethodId} {args : Array Value} {below : List Frame} {meth : Method} {c : Code} {D : va_G} {ad : Nat → Nat → Nat} {cy : Nat → ClassId} {A : Nat → Prop} {sa : Nat → Nat} {cells slots : Nat} {σ : St}
set_option maxRecDepth 100000 in
set_option maxHeartbeats 4000000 in
theorem lp_X1_lowestString (C : Cx p l s m args meth c cX1_lowestString "FretSchool$Instrument" 5 (some .int) D ad cy A sa) {i : Nat} (hi : i < 8) {p0 h0 : Int32} : ∀ (f j : Nat) (x : Int32) (o4 : Option Value), x = nI j → j ≤ 4 → 4 < j + f → (∀ k, k < j → ¬ lies (p0 - σ 14 i k) h0) → Z p l e R s m args below meth c D ad cy A 5 cells slots (MQ below (va_Qi (fun r σ' => σ = σ' ∧ r = lowS p0 (σ 14 i) h0) (Bw D ad cy) A) args s cells slots A) σ [some (.ref (ad 13 i)), some (.int p0), some (.int h0), some (.int x), o4] 2 [] := by
  intro f
  induction f with
  | zero => intro j x o4 _ _ h _; exact absurd h (by omega)
  | succ f ih =>
    intro j x o4 ex hj hf hno
    refine z_iload_n C dX1_lowestString_2 rfl ?_
    refine z_iconst C (v := 4) dX1_lowestString_3 (by decide) ?_
    refine z_icmp_ge C 44 dX1_lowestString_4 (by decide) (fun c_4 => ?_) (fun c_4 => ?_)
    · have hjn : 4 ≤ j := by rw [ex, show (4 : Int32) = nI 4 from rfl, nI_leI (by omega) (by omega)] at c_4; exact c_4
      refine z_iconst C (v := (-1)) dX1_lowestString_44 (by decide) ?_
      refine z_iret C dX1_lowestString_45 ?_
      exact ⟨rfl, lowS_none (fun k hk => hno k (by omega))⟩
    · have hjn : j < 4 := by rw [ex, show (4 : Int32) = nI 4 from rfl, nI_leI (by omega) (by omega)] at c_4; omega
      refine z_iload_n C dX1_lowestString_7 rfl ?_
      refine z_aload_n C dX1_lowestString_8 rfl ?_
      refine g_13_0 (by first | assumption | omega) C wd61 dX1_lowestString_9 ?_
      refine z_iload_n C dX1_lowestString_12 rfl ?_
      refine a_14 (by first | assumption | omega) C (by assumption) (by first | assumption | omega) dX1_lowestString_13 ?_
      refine z_isub C dX1_lowestString_14 ?_
      refine z_istore C dX1_lowestString_15 (by decide) ?_
      dsimp only [List.set]
      refine z_iload C dX1_lowestString_17 rfl ?_
      refine z_if_eq C 36 dX1_lowestString_19 (by decide) (fun c_19 => ?_) (fun c_19 => ?_)
      · refine z_iload_n C dX1_lowestString_36 rfl ?_
        refine z_iret C dX1_lowestString_37 ?_
        refine ⟨rfl, ?_⟩
        rw [ex]
        exact lowS_at hjn hno (by first | exact Or.inl c_19 | exact Or.inr ⟨c_25, c_33⟩)
      · refine z_iload C dX1_lowestString_22 rfl ?_
        refine z_iload_n C dX1_lowestString_24 rfl ?_
        refine z_icmp_lt C 38 dX1_lowestString_25 (by decide) (fun c_25 => ?_) (fun c_25 => ?_)
        · refine z_iinc C (v := 1) dX1_lowestString_38 rfl (by decide) (by decide) ?_
          dsimp only [List.set]
          refine z_goto C 2 dX1_lowestString_41 (by decide) ?_
          exact ih (j + 1) _ _ (by rw [ex]; exact nI_1 j) (by omega) (by omega) (fun k hk => (Nat.lt_or_ge k j).elim (fun q => hno k q) (fun q => by rw [show k = j by omega]; exact fun hl => hl.elim c_19 (fun h => by first | exact h.1 c_25 | exact h.2 c_33)))
        · refine z_iload C dX1_lowestString_28 rfl ?_
          refine z_iload_n C dX1_lowestString_30 rfl ?_
          refine z_iconst C (v := 3) dX1_lowestString_31 (by decide) ?_
          refine z_iadd C dX1_lowestString_32 ?_
          refine z_icmp_gt C 38 dX1_lowestString_33 (by decide) (fun c_33 => ?_) (fun c_33 => ?_)
          · refine z_iinc C (v := 1) dX1_lowestString_38 rfl (by decide) (by decide) ?_
            dsimp only [List.set]
            refine z_goto C 2 dX1_lowestString_41 (by decide) ?_
            exact ih (j + 1) _ _ (by rw [ex]; exact nI_1 j) (by omega) (by omega) (fun k hk => (Nat.lt_or_ge k j).elim (fun q => hno k q) (fun q => by rw [show k = j by omega]; exact fun hl => hl.elim c_19 (fun h => by first | exact h.1 c_25 | exact h.2 c_33)))
          · refine z_iload_n C dX1_lowestString_36 rfl ?_
            refine z_iret C dX1_lowestString_37 ?_
            refine ⟨rfl, ?_⟩
            rw [ex]
            exact lowS_at hjn hno (by first | exact Or.inl c_19 | exact Or.inr ⟨c_25, c_33⟩)
end
set_option maxRecDepth 100000 in
set_option maxHeartbeats 4000000 in
theorem c_X1_lowestString {l : Launch} {D : va_G} {ad : Nat → Nat → Nat} {cy : Nat → ClassId} {A : Nat → Prop} {sa : Nat → Nat} {σ : St} {i : Nat} (hi : i < 8) {p0 h0 : Int32} : MI l D ad cy A sa yX1_lowestString cX1_lowestString 5 (some .int) 0 σ [.ref (ad 13 i), .int p0, .int h0] (fun r σ' => σ = σ' ∧ r = lowS p0 (σ 14 i) h0) := by
  refine MI.mk "FretSchool$Instrument" (by decide) rfl (Nat.le_of_ble_eq_true rfl) rfl ?_
  intro p e s m args below meth c C
  change Z _ _ _ _ _ _ _ _ _ _ _ _ _ _ _ _ _ _ _ [some (.ref (ad 13 i)), some (.int p0), some (.int h0), none, none] 0 []
  refine z_iconst C (v := 0) dX1_lowestString_0 (by decide) ?_
  refine z_istore_n C dX1_lowestString_1 (by decide) ?_
  dsimp only [List.set]
  exact lp_X1_lowestString C hi 5 0 _ _ nI_0.symm (by omega) (by omega) (fun k hk => absurd hk (Nat.not_lt_zero k))
