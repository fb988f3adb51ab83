theorem dX1_init_0 : decode cX1_init 0 = .ok (.aload_n 0, 1) := by decide +kernel
theorem dX1_init_1 : decode cX1_init 1 = .ok (.invokespecial 3, 3) := by decide +kernel
theorem dX1_init_4 : decode cX1_init 4 = .ok (.aload_n 0, 1) := by decide +kernel
theorem dX1_init_5 : decode cX1_init 5 = .ok (.iconst 4, 1) := by decide +kernel
theorem dX1_init_6 : decode cX1_init 6 = .ok (.newarray .int, 2) := by decide +kernel
theorem dX1_init_8 : decode cX1_init 8 = .ok (.putfield 9, 3) := by decide +kernel
theorem dX1_init_11 : decode cX1_init 11 = .ok (.aload_n 0, 1) := by decide +kernel
theorem dX1_init_12 : decode cX1_init 12 = .ok (.iconst 0, 1) := by decide +kernel
theorem dX1_init_13 : decode cX1_init 13 = .ok (.putfield 15, 3) := by decide +kernel
theorem dX1_init_16 : decode cX1_init 16 = .ok (.aload_n 0, 1) := by decide +kernel
theorem dX1_init_17 : decode cX1_init 17 = .ok (.iconst 4, 1) := by decide +kernel
theorem dX1_init_18 : decode cX1_init 18 = .ok (.putfield 19, 3) := by decide +kernel
theorem dX1_init_21 : decode cX1_init 21 = .ok (.return_, 1) := by decide +kernel
theorem dX1_build_0 : decode cX1_build 0 = .ok (.aload_n 0, 1) := by decide +kernel
theorem dX1_build_1 : decode cX1_build 1 = .ok (.iload_n 1, 1) := by decide +kernel
theorem dX1_build_2 : decode cX1_build 2 = .ok (.putfield 15, 3) := by decide +kernel
theorem dX1_build_5 : decode cX1_build 5 = .ok (.aload_n 0, 1) := by decide +kernel
theorem dX1_build_6 : decode cX1_build 6 = .ok (.iload_n 2, 1) := by decide +kernel
theorem dX1_build_7 : decode cX1_build 7 = .ok (.putfield 19, 3) := by decide +kernel
theorem dX1_build_10 : decode cX1_build 10 = .ok (.return_, 1) := by decide +kernel
theorem dX1_tuneAll_0 : decode cX1_tuneAll 0 = .ok (.aload_n 0, 1) := by decide +kernel
theorem dX1_tuneAll_1 : decode cX1_tuneAll 1 = .ok (.getfield 9, 3) := by decide +kernel
theorem dX1_tuneAll_4 : decode cX1_tuneAll 4 = .ok (.iconst 0, 1) := by decide +kernel
theorem dX1_tuneAll_5 : decode cX1_tuneAll 5 = .ok (.iload_n 1, 1) := by decide +kernel
theorem dX1_tuneAll_6 : decode cX1_tuneAll 6 = .ok (.iastore, 1) := by decide +kernel
theorem dX1_tuneAll_7 : decode cX1_tuneAll 7 = .ok (.aload_n 0, 1) := by decide +kernel
theorem dX1_tuneAll_8 : decode cX1_tuneAll 8 = .ok (.getfield 9, 3) := by decide +kernel
theorem dX1_tuneAll_11 : decode cX1_tuneAll 11 = .ok (.iconst 1, 1) := by decide +kernel
theorem dX1_tuneAll_12 : decode cX1_tuneAll 12 = .ok (.iload_n 2, 1) := by decide +kernel
theorem dX1_tuneAll_13 : decode cX1_tuneAll 13 = .ok (.iastore, 1) := by decide +kernel
theorem dX1_tuneAll_14 : decode cX1_tuneAll 14 = .ok (.aload_n 0, 1) := by decide +kernel
theorem dX1_tuneAll_15 : decode cX1_tuneAll 15 = .ok (.getfield 9, 3) := by decide +kernel
theorem dX1_tuneAll_18 : decode cX1_tuneAll 18 = .ok (.iconst 2, 1) := by decide +kernel
theorem dX1_tuneAll_19 : decode cX1_tuneAll 19 = .ok (.iload_n 3, 1) := by decide +kernel
theorem dX1_tuneAll_20 : decode cX1_tuneAll 20 = .ok (.iastore, 1) := by decide +kernel
theorem dX1_tuneAll_21 : decode cX1_tuneAll 21 = .ok (.aload_n 0, 1) := by decide +kernel
theorem dX1_tuneAll_22 : decode cX1_tuneAll 22 = .ok (.getfield 9, 3) := by decide +kernel
theorem dX1_tuneAll_25 : decode cX1_tuneAll 25 = .ok (.iconst 3, 1) := by decide +kernel
theorem dX1_tuneAll_26 : decode cX1_tuneAll 26 = .ok (.iload 4, 2) := by decide +kernel
theorem dX1_tuneAll_28 : decode cX1_tuneAll 28 = .ok (.iastore, 1) := by decide +kernel
theorem dX1_tuneAll_29 : decode cX1_tuneAll 29 = .ok (.return_, 1) := by decide +kernel
theorem dX1_highestPosition_0 : decode cX1_highestPosition 0 = .ok (.aload_n 0, 1) := by decide +kernel
theorem dX1_highestPosition_1 : decode cX1_highestPosition 1 = .ok (.getfield 19, 3) := by decide +kernel
theorem dX1_highestPosition_4 : decode cX1_highestPosition 4 = .ok (.iconst 3, 1) := by decide +kernel
theorem dX1_highestPosition_5 : decode cX1_highestPosition 5 = .ok (.isub, 1) := by decide +kernel
theorem dX1_highestPosition_6 : decode cX1_highestPosition 6 = .ok (.ireturn, 1) := by decide +kernel
theorem dX1_lowestString_0 : decode cX1_lowestString 0 = .ok (.iconst 0, 1) := by decide +kernel
theorem dX1_lowestString_1 : decode cX1_lowestString 1 = .ok (.istore_n 3, 1) := by decide +kernel
theorem dX1_lowestString_2 : decode cX1_lowestString 2 = .ok (.iload_n 3, 1) := by decide +kernel
theorem dX1_lowestString_3 : decode cX1_lowestString 3 = .ok (.iconst 4, 1) := by decide +kernel
theorem dX1_lowestString_4 : decode cX1_lowestString 4 = .ok (.if_icmp .ge 40, 3) := by decide +kernel
theorem dX1_lowestString_7 : decode cX1_lowestString 7 = .ok (.iload_n 1, 1) := by decide +kernel
theorem dX1_lowestString_8 : decode cX1_lowestString 8 = .ok (.aload_n 0, 1) := by decide +kernel
theorem dX1_lowestString_9 : decode cX1_lowestString 9 = .ok (.getfield 9, 3) := by decide +kernel
theorem dX1_lowestString_12 : decode cX1_lowestString 12 = .ok (.iload_n 3, 1) := by decide +kernel
theorem dX1_lowestString_13 : decode cX1_lowestString 13 = .ok (.iaload, 1) := by decide +kernel
theorem dX1_lowestString_14 : decode cX1_lowestString 14 = .ok (.isub, 1) := by decide +kernel
theorem dX1_lowestString_15 : decode cX1_lowestString 15 = .ok (.istore 4, 2) := by decide +kernel
theorem dX1_lowestString_17 : decode cX1_lowestString 17 = .ok (.iload 4, 2) := by decide +kernel
theorem dX1_lowestString_19 : decode cX1_lowestString 19 = .ok (.ifCond .eq 17, 3) := by decide +kernel
theorem dX1_lowestString_22 : decode cX1_lowestString 22 = .ok (.iload 4, 2) := by decide +kernel
theorem dX1_lowestString_24 : decode cX1_lowestString 24 = .ok (.iload_n 2, 1) := by decide +kernel
theorem dX1_lowestString_25 : decode cX1_lowestString 25 = .ok (.if_icmp .lt 13, 3) := by decide +kernel
theorem dX1_lowestString_28 : decode cX1_lowestString 28 = .ok (.iload 4, 2) := by decide +kernel
theorem dX1_lowestString_30 : decode cX1_lowestString 30 = .ok (.iload_n 2, 1) := by decide +kernel
theorem dX1_lowestString_31 : decode cX1_lowestString 31 = .ok (.iconst 3, 1) := by decide +kernel
theorem dX1_lowestString_32 : decode cX1_lowestString 32 = .ok (.iadd, 1) := by decide +kernel
theorem dX1_lowestString_33 : decode cX1_lowestString 33 = .ok (.if_icmp .gt 5, 3) := by decide +kernel
theorem dX1_lowestString_36 : decode cX1_lowestString 36 = .ok (.iload_n 3, 1) := by decide +kernel
theorem dX1_lowestString_37 : decode cX1_lowestString 37 = .ok (.ireturn, 1) := by decide +kernel
theorem dX1_lowestString_38 : decode cX1_lowestString 38 = .ok (.iinc 3 1, 3) := by decide +kernel
theorem dX1_lowestString_41 : decode cX1_lowestString 41 = .ok (.goto (-39), 3) := by decide +kernel
theorem dX1_lowestString_44 : decode cX1_lowestString 44 = .ok (.iconst (-1), 1) := by decide +kernel
theorem dX1_lowestString_45 : decode cX1_lowestString 45 = .ok (.ireturn, 1) := by decide +kernel
theorem dX2_init_0 : decode cX2_init 0 = .ok (.aload_n 0, 1) := by decide +kernel
theorem dX2_init_1 : decode cX2_init 1 = .ok (.invokespecial 3, 3) := by decide +kernel
theorem dX2_init_4 : decode cX2_init 4 = .ok (.aload_n 0, 1) := by decide +kernel
theorem dX2_init_5 : decode cX2_init 5 = .ok (.iconst 0, 1) := by decide +kernel
theorem dX2_init_6 : decode cX2_init 6 = .ok (.putfield 9, 3) := by decide +kernel
theorem dX2_init_9 : decode cX2_init 9 = .ok (.aload_n 0, 1) := by decide +kernel
theorem dX2_init_10 : decode cX2_init 10 = .ok (.iconst 4, 1) := by decide +kernel
theorem dX2_init_11 : decode cX2_init 11 = .ok (.putfield 15, 3) := by decide +kernel
theorem dX2_init_14 : decode cX2_init 14 = .ok (.aload_n 0, 1) := by decide +kernel
theorem dX2_init_15 : decode cX2_init 15 = .ok (.iconst 0, 1) := by decide +kernel
theorem dX2_init_16 : decode cX2_init 16 = .ok (.putfield 18, 3) := by decide +kernel
theorem dX2_init_19 : decode cX2_init 19 = .ok (.aload_n 0, 1) := by decide +kernel
theorem dX2_init_20 : decode cX2_init 20 = .ok (.iconst 0, 1) := by decide +kernel
theorem dX2_init_21 : decode cX2_init 21 = .ok (.putfield 21, 3) := by decide +kernel
theorem dX2_init_24 : decode cX2_init 24 = .ok (.return_, 1) := by decide +kernel
theorem dX2_place_0 : decode cX2_place 0 = .ok (.aload_n 0, 1) := by decide +kernel
theorem dX2_place_1 : decode cX2_place 1 = .ok (.iload_n 1, 1) := by decide +kernel
theorem dX2_place_2 : decode cX2_place 2 = .ok (.putfield 9, 3) := by decide +kernel
theorem dX2_place_5 : decode cX2_place 5 = .ok (.aload_n 0, 1) := by decide +kernel
theorem dX2_place_6 : decode cX2_place 6 = .ok (.iload_n 2, 1) := by decide +kernel
theorem dX2_place_7 : decode cX2_place 7 = .ok (.putfield 15, 3) := by decide +kernel
theorem dX2_place_10 : decode cX2_place 10 = .ok (.aload_n 0, 1) := by decide +kernel
theorem dX2_place_11 : decode cX2_place 11 = .ok (.iload_n 3, 1) := by decide +kernel
theorem dX2_place_12 : decode cX2_place 12 = .ok (.putfield 18, 3) := by decide +kernel
theorem dX2_place_15 : decode cX2_place 15 = .ok (.return_, 1) := by decide +kernel
theorem dX2_isReady_0 : decode cX2_isReady 0 = .ok (.iload_n 1, 1) := by decide +kernel
theorem dX2_isReady_1 : decode cX2_isReady 1 = .ok (.aload_n 0, 1) := by decide +kernel
theorem dX2_isReady_2 : decode cX2_isReady 2 = .ok (.getfield 18, 3) := by decide +kernel
theorem dX2_isReady_5 : decode cX2_isReady 5 = .ok (.if_icmp .lt 7, 3) := by decide +kernel
theorem dX2_isReady_8 : decode cX2_isReady 8 = .ok (.iconst 1, 1) := by decide +kernel
theorem dX2_isReady_9 : decode cX2_isReady 9 = .ok (.goto 4, 3) := by decide +kernel
theorem dX2_isReady_12 : decode cX2_isReady 12 = .ok (.iconst 0, 1) := by decide +kernel
theorem dX2_isReady_13 : decode cX2_isReady 13 = .ok (.ireturn, 1) := by decide +kernel
theorem dX3_init_0 : decode cX3_init 0 = .ok (.aload_n 0, 1) := by decide +kernel
theorem dX3_init_1 : decode cX3_init 1 = .ok (.invokespecial 3, 3) := by decide +kernel
theorem dX3_init_4 : decode cX3_init 4 = .ok (.aload_n 0, 1) := by decide +kernel
theorem dX3_init_5 : decode cX3_init 5 = .ok (.bipush 16, 2) := by decide +kernel
theorem dX3_init_7 : decode cX3_init 7 = .ok (.newarray .int, 2) := by decide +kernel
theorem dX3_init_9 : decode cX3_init 9 = .ok (.putfield 9, 3) := by decide +kernel
theorem dX3_init_12 : decode cX3_init 12 = .ok (.aload_n 0, 1) := by decide +kernel
theorem dX3_init_13 : decode cX3_init 13 = .ok (.iconst 0, 1) := by decide +kernel
theorem dX3_init_14 : decode cX3_init 14 = .ok (.putfield 15, 3) := by decide +kernel
theorem dX3_init_17 : decode cX3_init 17 = .ok (.return_, 1) := by decide +kernel
theorem dX3_isFull_0 : decode cX3_isFull 0 = .ok (.aload_n 0, 1) := by decide +kernel
theorem dX3_isFull_1 : decode cX3_isFull 1 = .ok (.getfield 15, 3) := by decide +kernel
theorem dX3_isFull_4 : decode cX3_isFull 4 = .ok (.bipush 16, 2) := by decide +kernel
theorem dX3_isFull_6 : decode cX3_isFull 6 = .ok (.if_icmp .lt 7, 3) := by decide +kernel
theorem dX3_isFull_9 : decode cX3_isFull 9 = .ok (.iconst 1, 1) := by decide +kernel
theorem dX3_isFull_10 : decode cX3_isFull 10 = .ok (.goto 4, 3) := by decide +kernel
theorem dX3_isFull_13 : decode cX3_isFull 13 = .ok (.iconst 0, 1) := by decide +kernel
theorem dX3_isFull_14 : decode cX3_isFull 14 = .ok (.ireturn, 1) := by decide +kernel
theorem dX3_append_0 : decode cX3_append 0 = .ok (.aload_n 0, 1) := by decide +kernel
theorem dX3_append_1 : decode cX3_append 1 = .ok (.invokevirtual 19, 3) := by decide +kernel
theorem dX3_append_4 : decode cX3_append 4 = .ok (.ifCond .eq 4, 3) := by decide +kernel
theorem dX3_append_7 : decode cX3_append 7 = .ok (.return_, 1) := by decide +kernel
theorem dX3_append_8 : decode cX3_append 8 = .ok (.aload_n 0, 1) := by decide +kernel
theorem dX3_append_9 : decode cX3_append 9 = .ok (.getfield 9, 3) := by decide +kernel
theorem dX3_append_12 : decode cX3_append 12 = .ok (.aload_n 0, 1) := by decide +kernel
theorem dX3_append_13 : decode cX3_append 13 = .ok (.getfield 15, 3) := by decide +kernel
theorem dX3_append_16 : decode cX3_append 16 = .ok (.iload_n 1, 1) := by decide +kernel
theorem dX3_append_17 : decode cX3_append 17 = .ok (.iastore, 1) := by decide +kernel
theorem dX3_append_18 : decode cX3_append 18 = .ok (.aload_n 0, 1) := by decide +kernel
theorem dX3_append_19 : decode cX3_append 19 = .ok (.dup, 1) := by decide +kernel
theorem dX3_append_20 : decode cX3_append 20 = .ok (.getfield 15, 3) := by decide +kernel
theorem dX3_append_23 : decode cX3_append 23 = .ok (.iconst 1, 1) := by decide +kernel
theorem dX3_append_24 : decode cX3_append 24 = .ok (.iadd, 1) := by decide +kernel
theorem dX3_append_25 : decode cX3_append 25 = .ok (.putfield 15, 3) := by decide +kernel
theorem dX3_append_28 : decode cX3_append 28 = .ok (.return_, 1) := by decide +kernel
theorem dX3_canMove_0 : decode cX3_canMove 0 = .ok (.iconst 0, 1) := by decide +kernel
theorem dX3_canMove_1 : decode cX3_canMove 1 = .ok (.istore_n 2, 1) := by decide +kernel
theorem dX3_canMove_2 : decode cX3_canMove 2 = .ok (.iload_n 2, 1) := by decide +kernel
theorem dX3_canMove_3 : decode cX3_canMove 3 = .ok (.aload_n 0, 1) := by decide +kernel
theorem dX3_canMove_4 : decode cX3_canMove 4 = .ok (.getfield 15, 3) := by decide +kernel
theorem dX3_canMove_7 : decode cX3_canMove 7 = .ok (.if_icmp .ge 30, 3) := by decide +kernel
theorem dX3_canMove_10 : decode cX3_canMove 10 = .ok (.aload_n 0, 1) := by decide +kernel
theorem dX3_canMove_11 : decode cX3_canMove 11 = .ok (.getfield 9, 3) := by decide +kernel
theorem dX3_canMove_14 : decode cX3_canMove 14 = .ok (.iload_n 2, 1) := by decide +kernel
theorem dX3_canMove_15 : decode cX3_canMove 15 = .ok (.iaload, 1) := by decide +kernel
theorem dX3_canMove_16 : decode cX3_canMove 16 = .ok (.iload_n 1, 1) := by decide +kernel
theorem dX3_canMove_17 : decode cX3_canMove 17 = .ok (.iadd, 1) := by decide +kernel
theorem dX3_canMove_18 : decode cX3_canMove 18 = .ok (.istore_n 3, 1) := by decide +kernel
theorem dX3_canMove_19 : decode cX3_canMove 19 = .ok (.iload_n 3, 1) := by decide +kernel
theorem dX3_canMove_20 : decode cX3_canMove 20 = .ok (.ifCond .lt 9, 3) := by decide +kernel
theorem dX3_canMove_23 : decode cX3_canMove 23 = .ok (.iload_n 3, 1) := by decide +kernel
theorem dX3_canMove_24 : decode cX3_canMove 24 = .ok (.bipush 80, 2) := by decide +kernel
theorem dX3_canMove_26 : decode cX3_canMove 26 = .ok (.if_icmp .le 5, 3) := by decide +kernel
theorem dX3_canMove_29 : decode cX3_canMove 29 = .ok (.iconst 0, 1) := by decide +kernel
theorem dX3_canMove_30 : decode cX3_canMove 30 = .ok (.ireturn, 1) := by decide +kernel
theorem dX3_canMove_31 : decode cX3_canMove 31 = .ok (.iinc 2 1, 3) := by decide +kernel
theorem dX3_canMove_34 : decode cX3_canMove 34 = .ok (.goto (-32), 3) := by decide +kernel
theorem dX3_canMove_37 : decode cX3_canMove 37 = .ok (.iconst 1, 1) := by decide +kernel
theorem dX3_canMove_38 : decode cX3_canMove 38 = .ok (.ireturn, 1) := by decide +kernel
theorem dX3_move_0 : decode cX3_move 0 = .ok (.iconst 0, 1) := by decide +kernel
theorem dX3_move_1 : decode cX3_move 1 = .ok (.istore_n 2, 1) := by decide +kernel
theorem dX3_move_2 : decode cX3_move 2 = .ok (.iload_n 2, 1) := by decide +kernel
theorem dX3_move_3 : decode cX3_move 3 = .ok (.aload_n 0, 1) := by decide +kernel
theorem dX3_move_4 : decode cX3_move 4 = .ok (.getfield 15, 3) := by decide +kernel
theorem dX3_move_7 : decode cX3_move 7 = .ok (.if_icmp .ge 19, 3) := by decide +kernel
theorem dX3_move_10 : decode cX3_move 10 = .ok (.aload_n 0, 1) := by decide +kernel
theorem dX3_move_11 : decode cX3_move 11 = .ok (.getfield 9, 3) := by decide +kernel
theorem dX3_move_14 : decode cX3_move 14 = .ok (.iload_n 2, 1) := by decide +kernel
theorem dX3_move_15 : decode cX3_move 15 = .ok (.dup2, 1) := by decide +kernel
theorem dX3_move_16 : decode cX3_move 16 = .ok (.iaload, 1) := by decide +kernel
theorem dX3_move_17 : decode cX3_move 17 = .ok (.iload_n 1, 1) := by decide +kernel
theorem dX3_move_18 : decode cX3_move 18 = .ok (.iadd, 1) := by decide +kernel
theorem dX3_move_19 : decode cX3_move 19 = .ok (.iastore, 1) := by decide +kernel
theorem dX3_move_20 : decode cX3_move 20 = .ok (.iinc 2 1, 3) := by decide +kernel
theorem dX3_move_23 : decode cX3_move 23 = .ok (.goto (-21), 3) := by decide +kernel
theorem dX3_move_26 : decode cX3_move 26 = .ok (.return_, 1) := by decide +kernel
theorem dX4_init_0 : decode cX4_init 0 = .ok (.aload_n 0, 1) := by decide +kernel
theorem dX4_init_1 : decode cX4_init 1 = .ok (.invokespecial 3, 3) := by decide +kernel
theorem dX4_init_4 : decode cX4_init 4 = .ok (.aload_n 0, 1) := by decide +kernel
theorem dX4_init_5 : decode cX4_init 5 = .ok (.iconst 2, 1) := by decide +kernel
theorem dX4_init_6 : decode cX4_init 6 = .ok (.putfield 9, 3) := by decide +kernel
theorem dX4_init_9 : decode cX4_init 9 = .ok (.aload_n 0, 1) := by decide +kernel
theorem dX4_init_10 : decode cX4_init 10 = .ok (.iconst 0, 1) := by decide +kernel
theorem dX4_init_11 : decode cX4_init 11 = .ok (.putfield 15, 3) := by decide +kernel
theorem dX4_init_14 : decode cX4_init 14 = .ok (.return_, 1) := by decide +kernel
theorem dX4_knows_0 : decode cX4_knows 0 = .ok (.aload_n 0, 1) := by decide +kernel
theorem dX4_knows_1 : decode cX4_knows 1 = .ok (.getfield 15, 3) := by decide +kernel
theorem dX4_knows_4 : decode cX4_knows 4 = .ok (.iconst 1, 1) := by decide +kernel
theorem dX4_knows_5 : decode cX4_knows 5 = .ok (.iload_n 1, 1) := by decide +kernel
theorem dX4_knows_6 : decode cX4_knows 6 = .ok (.ishl, 1) := by decide +kernel
theorem dX4_knows_7 : decode cX4_knows 7 = .ok (.iand, 1) := by decide +kernel
theorem dX4_knows_8 : decode cX4_knows 8 = .ok (.ifCond .eq 7, 3) := by decide +kernel
theorem dX4_knows_11 : decode cX4_knows 11 = .ok (.iconst 1, 1) := by decide +kernel
theorem dX4_knows_12 : decode cX4_knows 12 = .ok (.goto 4, 3) := by decide +kernel
theorem dX4_knows_15 : decode cX4_knows 15 = .ok (.iconst 0, 1) := by decide +kernel
theorem dX4_knows_16 : decode cX4_knows 16 = .ok (.ireturn, 1) := by decide +kernel
theorem dX4_takeIn_0 : decode cX4_takeIn 0 = .ok (.aload_n 0, 1) := by decide +kernel
theorem dX4_takeIn_1 : decode cX4_takeIn 1 = .ok (.dup, 1) := by decide +kernel
theorem dX4_takeIn_2 : decode cX4_takeIn 2 = .ok (.getfield 15, 3) := by decide +kernel
theorem dX4_takeIn_5 : decode cX4_takeIn 5 = .ok (.iconst 1, 1) := by decide +kernel
theorem dX4_takeIn_6 : decode cX4_takeIn 6 = .ok (.iload_n 1, 1) := by decide +kernel
theorem dX4_takeIn_7 : decode cX4_takeIn 7 = .ok (.ishl, 1) := by decide +kernel
theorem dX4_takeIn_8 : decode cX4_takeIn 8 = .ok (.ior, 1) := by decide +kernel
theorem dX4_takeIn_9 : decode cX4_takeIn 9 = .ok (.putfield 15, 3) := by decide +kernel
theorem dX4_takeIn_12 : decode cX4_takeIn 12 = .ok (.iload_n 2, 1) := by decide +kernel
theorem dX4_takeIn_13 : decode cX4_takeIn 13 = .ok (.aload_n 0, 1) := by decide +kernel
theorem dX4_takeIn_14 : decode cX4_takeIn 14 = .ok (.getfield 9, 3) := by decide +kernel
theorem dX4_takeIn_17 : decode cX4_takeIn 17 = .ok (.if_icmp .ne 13, 3) := by decide +kernel
theorem dX4_takeIn_20 : decode cX4_takeIn 20 = .ok (.aload_n 0, 1) := by decide +kernel
theorem dX4_takeIn_21 : decode cX4_takeIn 21 = .ok (.dup, 1) := by decide +kernel
theorem dX4_takeIn_22 : decode cX4_takeIn 22 = .ok (.getfield 9, 3) := by decide +kernel
theorem dX4_takeIn_25 : decode cX4_takeIn 25 = .ok (.iconst 1, 1) := by decide +kernel
theorem dX4_takeIn_26 : decode cX4_takeIn 26 = .ok (.iadd, 1) := by decide +kernel
theorem dX4_takeIn_27 : decode cX4_takeIn 27 = .ok (.putfield 9, 3) := by decide +kernel
theorem dX4_takeIn_30 : decode cX4_takeIn 30 = .ok (.return_, 1) := by decide +kernel
theorem dJ9_abs_0f7a4_0 : decode cJ9_abs_0f7a4 0 = .ok (.iload_n 0, 1) := by decide +kernel
theorem dJ9_abs_0f7a4_1 : decode cJ9_abs_0f7a4 1 = .ok (.ifCond .ge 8, 3) := by decide +kernel
theorem dJ9_abs_0f7a4_4 : decode cJ9_abs_0f7a4 4 = .ok (.iload_n 0, 1) := by decide +kernel
theorem dJ9_abs_0f7a4_5 : decode cJ9_abs_0f7a4 5 = .ok (.ineg, 1) := by decide +kernel
theorem dJ9_abs_0f7a4_6 : decode cJ9_abs_0f7a4 6 = .ok (.goto 4, 3) := by decide +kernel
theorem dJ9_abs_0f7a4_9 : decode cJ9_abs_0f7a4 9 = .ok (.iload_n 0, 1) := by decide +kernel
theorem dJ9_abs_0f7a4_10 : decode cJ9_abs_0f7a4 10 = .ok (.ireturn, 1) := by decide +kernel
