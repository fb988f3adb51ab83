theorem dX0_init_0 : decode cX0_init 0 = .ok (.aload_n 0, 1) := by decide +kernel
theorem dX0_init_1 : decode cX0_init 1 = .ok (.invokespecial 3, 3) := by decide +kernel
theorem dX0_init_4 : decode cX0_init 4 = .ok (.aload_n 0, 1) := by decide +kernel
theorem dX0_init_5 : decode cX0_init 5 = .ok (.bipush 16, 2) := by decide +kernel
theorem dX0_init_7 : decode cX0_init 7 = .ok (.newarray .int, 2) := by decide +kernel
theorem dX0_init_9 : decode cX0_init 9 = .ok (.putfield 9, 3) := by decide +kernel
theorem dX0_init_12 : decode cX0_init 12 = .ok (.aload_n 0, 1) := by decide +kernel
theorem dX0_init_13 : decode cX0_init 13 = .ok (.bipush 16, 2) := by decide +kernel
theorem dX0_init_15 : decode cX0_init 15 = .ok (.bipush 14, 2) := by decide +kernel
theorem dX0_init_17 : decode cX0_init 17 = .ok (.multianewarray 15 2, 4) := by decide +kernel
theorem dX0_init_21 : decode cX0_init 21 = .ok (.putfield 17, 3) := by decide +kernel
theorem dX0_init_24 : decode cX0_init 24 = .ok (.aload_n 0, 1) := by decide +kernel
theorem dX0_init_25 : decode cX0_init 25 = .ok (.bipush 16, 2) := by decide +kernel
theorem dX0_init_27 : decode cX0_init 27 = .ok (.newarray .int, 2) := by decide +kernel
theorem dX0_init_29 : decode cX0_init 29 = .ok (.putfield 20, 3) := by decide +kernel
theorem dX0_init_32 : decode cX0_init 32 = .ok (.aload_n 0, 1) := by decide +kernel
theorem dX0_init_33 : decode cX0_init 33 = .ok (.iconst 0, 1) := by decide +kernel
theorem dX0_init_34 : decode cX0_init 34 = .ok (.putfield 23, 3) := by decide +kernel
theorem dX0_init_37 : decode cX0_init 37 = .ok (.aload_n 0, 1) := by decide +kernel
theorem dX0_init_38 : decode cX0_init 38 = .ok (.iconst 0, 1) := by decide +kernel
theorem dX0_init_39 : decode cX0_init 39 = .ok (.putfield 27, 3) := by decide +kernel
theorem dX0_init_42 : decode cX0_init 42 = .ok (.return_, 1) := by decide +kernel
theorem dX0_placeBest_0 : decode cX0_placeBest 0 = .ok (.aload_n 0, 1) := by decide +kernel
theorem dX0_placeBest_1 : decode cX0_placeBest 1 = .ok (.aload_n 1, 1) := by decide +kernel
theorem dX0_placeBest_2 : decode cX0_placeBest 2 = .ok (.aload_n 2, 1) := by decide +kernel
theorem dX0_placeBest_3 : decode cX0_placeBest 3 = .ok (.invokevirtual 30, 3) := by decide +kernel
theorem dX0_placeBest_6 : decode cX0_placeBest 6 = .ok (.aload_n 1, 1) := by decide +kernel
theorem dX0_placeBest_7 : decode cX0_placeBest 7 = .ok (.getfield 34, 3) := by decide +kernel
theorem dX0_placeBest_10 : decode cX0_placeBest 10 = .ok (.iconst 1, 1) := by decide +kernel
theorem dX0_placeBest_11 : decode cX0_placeBest 11 = .ok (.isub, 1) := by decide +kernel
theorem dX0_placeBest_12 : decode cX0_placeBest 12 = .ok (.istore_n 3, 1) := by decide +kernel
theorem dX0_placeBest_13 : decode cX0_placeBest 13 = .ok (.iload_n 3, 1) := by decide +kernel
theorem dX0_placeBest_14 : decode cX0_placeBest 14 = .ok (.ifCond .lt 29, 3) := by decide +kernel
theorem dX0_placeBest_17 : decode cX0_placeBest 17 = .ok (.aload_n 0, 1) := by decide +kernel
theorem dX0_placeBest_18 : decode cX0_placeBest 18 = .ok (.iload_n 3, 1) := by decide +kernel
theorem dX0_placeBest_19 : decode cX0_placeBest 19 = .ok (.iload_n 3, 1) := by decide +kernel
theorem dX0_placeBest_20 : decode cX0_placeBest 20 = .ok (.aload_n 1, 1) := by decide +kernel
theorem dX0_placeBest_21 : decode cX0_placeBest 21 = .ok (.getfield 34, 3) := by decide +kernel
theorem dX0_placeBest_24 : decode cX0_placeBest 24 = .ok (.iconst 1, 1) := by decide +kernel
theorem dX0_placeBest_25 : decode cX0_placeBest 25 = .ok (.isub, 1) := by decide +kernel
theorem dX0_placeBest_26 : decode cX0_placeBest 26 = .ok (.if_icmp .ne 7, 3) := by decide +kernel
theorem dX0_placeBest_29 : decode cX0_placeBest 29 = .ok (.iconst 1, 1) := by decide +kernel
theorem dX0_placeBest_30 : decode cX0_placeBest 30 = .ok (.goto 4, 3) := by decide +kernel
theorem dX0_placeBest_33 : decode cX0_placeBest 33 = .ok (.iconst 0, 1) := by decide +kernel
theorem dX0_placeBest_34 : decode cX0_placeBest 34 = .ok (.invokevirtual 39, 3) := by decide +kernel
theorem dX0_placeBest_37 : decode cX0_placeBest 37 = .ok (.iinc 3 (-1), 3) := by decide +kernel
theorem dX0_placeBest_40 : decode cX0_placeBest 40 = .ok (.goto (-27), 3) := by decide +kernel
theorem dX0_placeBest_43 : decode cX0_placeBest 43 = .ok (.aload_n 1, 1) := by decide +kernel
theorem dX0_placeBest_44 : decode cX0_placeBest 44 = .ok (.getfield 34, 3) := by decide +kernel
theorem dX0_placeBest_47 : decode cX0_placeBest 47 = .ok (.ifCond .le 18, 3) := by decide +kernel
theorem dX0_placeBest_50 : decode cX0_placeBest 50 = .ok (.aload_n 0, 1) := by decide +kernel
theorem dX0_placeBest_51 : decode cX0_placeBest 51 = .ok (.aload_n 1, 1) := by decide +kernel
theorem dX0_placeBest_52 : decode cX0_placeBest 52 = .ok (.getfield 34, 3) := by decide +kernel
theorem dX0_placeBest_55 : decode cX0_placeBest 55 = .ok (.invokevirtual 43, 3) := by decide +kernel
theorem dX0_placeBest_58 : decode cX0_placeBest 58 = .ok (.ifCond .eq 7, 3) := by decide +kernel
theorem dX0_placeBest_61 : decode cX0_placeBest 61 = .ok (.iconst 1, 1) := by decide +kernel
theorem dX0_placeBest_62 : decode cX0_placeBest 62 = .ok (.goto 4, 3) := by decide +kernel
theorem dX0_placeBest_65 : decode cX0_placeBest 65 = .ok (.iconst 0, 1) := by decide +kernel
theorem dX0_placeBest_66 : decode cX0_placeBest 66 = .ok (.ireturn, 1) := by decide +kernel
theorem dX0_leastByAll_0 : decode cX0_leastByAll 0 = .ok (.aload_n 1, 1) := by decide +kernel
theorem dX0_leastByAll_1 : decode cX0_leastByAll 1 = .ok (.getfield 34, 3) := by decide +kernel
theorem dX0_leastByAll_4 : decode cX0_leastByAll 4 = .ok (.ifCond .ne 5, 3) := by decide +kernel
theorem dX0_leastByAll_7 : decode cX0_leastByAll 7 = .ok (.iconst (-1), 1) := by decide +kernel
theorem dX0_leastByAll_8 : decode cX0_leastByAll 8 = .ok (.ireturn, 1) := by decide +kernel
theorem dX0_leastByAll_9 : decode cX0_leastByAll 9 = .ok (.aload_n 0, 1) := by decide +kernel
theorem dX0_leastByAll_10 : decode cX0_leastByAll 10 = .ok (.aload_n 1, 1) := by decide +kernel
theorem dX0_leastByAll_11 : decode cX0_leastByAll 11 = .ok (.aload_n 2, 1) := by decide +kernel
theorem dX0_leastByAll_12 : decode cX0_leastByAll 12 = .ok (.invokevirtual 30, 3) := by decide +kernel
theorem dX0_leastByAll_15 : decode cX0_leastByAll 15 = .ok (.aload_n 0, 1) := by decide +kernel
theorem dX0_leastByAll_16 : decode cX0_leastByAll 16 = .ok (.getfield 9, 3) := by decide +kernel
theorem dX0_leastByAll_19 : decode cX0_leastByAll 19 = .ok (.aload_n 1, 1) := by decide +kernel
theorem dX0_leastByAll_20 : decode cX0_leastByAll 20 = .ok (.getfield 34, 3) := by decide +kernel
theorem dX0_leastByAll_23 : decode cX0_leastByAll 23 = .ok (.iconst 0, 1) := by decide +kernel
theorem dX0_leastByAll_24 : decode cX0_leastByAll 24 = .ok (.iconst 0, 1) := by decide +kernel
theorem dX0_leastByAll_25 : decode cX0_leastByAll 25 = .ok (.invokestatic 47, 3) := by decide +kernel
theorem dX0_leastByAll_28 : decode cX0_leastByAll 28 = .ok (.istore_n 3, 1) := by decide +kernel
theorem dX0_leastByAll_29 : decode cX0_leastByAll 29 = .ok (.iload_n 3, 1) := by decide +kernel
theorem dX0_leastByAll_30 : decode cX0_leastByAll 30 = .ok (.ldc 51, 2) := by decide +kernel
theorem dX0_leastByAll_32 : decode cX0_leastByAll 32 = .ok (.if_icmp .ge 7, 3) := by decide +kernel
theorem dX0_leastByAll_35 : decode cX0_leastByAll 35 = .ok (.iload_n 3, 1) := by decide +kernel
theorem dX0_leastByAll_36 : decode cX0_leastByAll 36 = .ok (.goto 4, 3) := by decide +kernel
theorem dX0_leastByAll_39 : decode cX0_leastByAll 39 = .ok (.iconst (-1), 1) := by decide +kernel
theorem dX0_leastByAll_40 : decode cX0_leastByAll 40 = .ok (.ireturn, 1) := by decide +kernel
theorem dX0_feelReach_0 : decode cX0_feelReach 0 = .ok (.aload_n 2, 1) := by decide +kernel
theorem dX0_feelReach_1 : decode cX0_feelReach 1 = .ok (.invokevirtual 52, 3) := by decide +kernel
theorem dX0_feelReach_4 : decode cX0_feelReach 4 = .ok (.istore_n 3, 1) := by decide +kernel
theorem dX0_feelReach_5 : decode cX0_feelReach 5 = .ok (.iconst 0, 1) := by decide +kernel
theorem dX0_feelReach_6 : decode cX0_feelReach 6 = .ok (.istore 4, 2) := by decide +kernel
theorem dX0_feelReach_8 : decode cX0_feelReach 8 = .ok (.iload 4, 2) := by decide +kernel
theorem dX0_feelReach_10 : decode cX0_feelReach 10 = .ok (.aload_n 1, 1) := by decide +kernel
theorem dX0_feelReach_11 : decode cX0_feelReach 11 = .ok (.getfield 34, 3) := by decide +kernel
theorem dX0_feelReach_14 : decode cX0_feelReach 14 = .ok (.if_icmp .ge 63, 3) := by decide +kernel
theorem dX0_feelReach_17 : decode cX0_feelReach 17 = .ok (.aload_n 0, 1) := by decide +kernel
theorem dX0_feelReach_18 : decode cX0_feelReach 18 = .ok (.getfield 9, 3) := by decide +kernel
theorem dX0_feelReach_21 : decode cX0_feelReach 21 = .ok (.iload 4, 2) := by decide +kernel
theorem dX0_feelReach_23 : decode cX0_feelReach 23 = .ok (.iconst 0, 1) := by decide +kernel
theorem dX0_feelReach_24 : decode cX0_feelReach 24 = .ok (.iastore, 1) := by decide +kernel
theorem dX0_feelReach_25 : decode cX0_feelReach 25 = .ok (.iconst 1, 1) := by decide +kernel
theorem dX0_feelReach_26 : decode cX0_feelReach 26 = .ok (.istore 5, 2) := by decide +kernel
theorem dX0_feelReach_28 : decode cX0_feelReach 28 = .ok (.iload 5, 2) := by decide +kernel
theorem dX0_feelReach_30 : decode cX0_feelReach 30 = .ok (.iload_n 3, 1) := by decide +kernel
theorem dX0_feelReach_31 : decode cX0_feelReach 31 = .ok (.if_icmp .gt 40, 3) := by decide +kernel
theorem dX0_feelReach_34 : decode cX0_feelReach 34 = .ok (.aload_n 2, 1) := by decide +kernel
theorem dX0_feelReach_35 : decode cX0_feelReach 35 = .ok (.aload_n 1, 1) := by decide +kernel
theorem dX0_feelReach_36 : decode cX0_feelReach 36 = .ok (.getfield 58, 3) := by decide +kernel
theorem dX0_feelReach_39 : decode cX0_feelReach 39 = .ok (.iload 4, 2) := by decide +kernel
theorem dX0_feelReach_41 : decode cX0_feelReach 41 = .ok (.iaload, 1) := by decide +kernel
theorem dX0_feelReach_42 : decode cX0_feelReach 42 = .ok (.iload 5, 2) := by decide +kernel
theorem dX0_feelReach_44 : decode cX0_feelReach 44 = .ok (.invokevirtual 61, 3) := by decide +kernel
theorem dX0_feelReach_47 : decode cX0_feelReach 47 = .ok (.iconst (-1), 1) := by decide +kernel
theorem dX0_feelReach_48 : decode cX0_feelReach 48 = .ok (.if_icmp .eq 17, 3) := by decide +kernel
theorem dX0_feelReach_51 : decode cX0_feelReach 51 = .ok (.aload_n 0, 1) := by decide +kernel
theorem dX0_feelReach_52 : decode cX0_feelReach 52 = .ok (.getfield 9, 3) := by decide +kernel
theorem dX0_feelReach_55 : decode cX0_feelReach 55 = .ok (.iload 4, 2) := by decide +kernel
theorem dX0_feelReach_57 : decode cX0_feelReach 57 = .ok (.dup2, 1) := by decide +kernel
theorem dX0_feelReach_58 : decode cX0_feelReach 58 = .ok (.iaload, 1) := by decide +kernel
theorem dX0_feelReach_59 : decode cX0_feelReach 59 = .ok (.iconst 1, 1) := by decide +kernel
theorem dX0_feelReach_60 : decode cX0_feelReach 60 = .ok (.iload 5, 2) := by decide +kernel
theorem dX0_feelReach_62 : decode cX0_feelReach 62 = .ok (.ishl, 1) := by decide +kernel
theorem dX0_feelReach_63 : decode cX0_feelReach 63 = .ok (.ior, 1) := by decide +kernel
theorem dX0_feelReach_64 : decode cX0_feelReach 64 = .ok (.iastore, 1) := by decide +kernel
theorem dX0_feelReach_65 : decode cX0_feelReach 65 = .ok (.iinc 5 1, 3) := by decide +kernel
theorem dX0_feelReach_68 : decode cX0_feelReach 68 = .ok (.goto (-40), 3) := by decide +kernel
theorem dX0_feelReach_71 : decode cX0_feelReach 71 = .ok (.iinc 4 1, 3) := by decide +kernel
theorem dX0_feelReach_74 : decode cX0_feelReach 74 = .ok (.goto (-66), 3) := by decide +kernel
theorem dX0_feelReach_77 : decode cX0_feelReach 77 = .ok (.return_, 1) := by decide +kernel
theorem dX0_measureRest_0 : decode cX0_measureRest 0 = .ok (.iconst 1, 1) := by decide +kernel
theorem dX0_measureRest_1 : decode cX0_measureRest 1 = .ok (.istore_n 3, 1) := by decide +kernel
theorem dX0_measureRest_2 : decode cX0_measureRest 2 = .ok (.iload_n 3, 1) := by decide +kernel
theorem dX0_measureRest_3 : decode cX0_measureRest 3 = .ok (.bipush 13, 2) := by decide +kernel
theorem dX0_measureRest_5 : decode cX0_measureRest 5 = .ok (.if_icmp .gt 95, 3) := by decide +kernel
theorem dX0_measureRest_8 : decode cX0_measureRest 8 = .ok (.iconst 0, 1) := by decide +kernel
theorem dX0_measureRest_9 : decode cX0_measureRest 9 = .ok (.istore 4, 2) := by decide +kernel
theorem dX0_measureRest_11 : decode cX0_measureRest 11 = .ok (.iload_n 2, 1) := by decide +kernel
theorem dX0_measureRest_12 : decode cX0_measureRest 12 = .ok (.ifCond .ne 13, 3) := by decide +kernel
theorem dX0_measureRest_15 : decode cX0_measureRest 15 = .ok (.aload_n 0, 1) := by decide +kernel
theorem dX0_measureRest_16 : decode cX0_measureRest 16 = .ok (.iload_n 1, 1) := by decide +kernel
theorem dX0_measureRest_17 : decode cX0_measureRest 17 = .ok (.iconst 1, 1) := by decide +kernel
theorem dX0_measureRest_18 : decode cX0_measureRest 18 = .ok (.iadd, 1) := by decide +kernel
theorem dX0_measureRest_19 : decode cX0_measureRest 19 = .ok (.iload_n 3, 1) := by decide +kernel
theorem dX0_measureRest_20 : decode cX0_measureRest 20 = .ok (.invokevirtual 65, 3) := by decide +kernel
theorem dX0_measureRest_23 : decode cX0_measureRest 23 = .ok (.istore 4, 2) := by decide +kernel
theorem dX0_measureRest_25 : decode cX0_measureRest 25 = .ok (.aload_n 0, 1) := by decide +kernel
theorem dX0_measureRest_26 : decode cX0_measureRest 26 = .ok (.getfield 9, 3) := by decide +kernel
theorem dX0_measureRest_29 : decode cX0_measureRest 29 = .ok (.iload_n 1, 1) := by decide +kernel
theorem dX0_measureRest_30 : decode cX0_measureRest 30 = .ok (.iaload, 1) := by decide +kernel
theorem dX0_measureRest_31 : decode cX0_measureRest 31 = .ok (.iload_n 3, 1) := by decide +kernel
theorem dX0_measureRest_32 : decode cX0_measureRest 32 = .ok (.invokestatic 68, 3) := by decide +kernel
theorem dX0_measureRest_35 : decode cX0_measureRest 35 = .ok (.ifCond .eq 12, 3) := by decide +kernel
theorem dX0_measureRest_38 : decode cX0_measureRest 38 = .ok (.iload_n 2, 1) := by decide +kernel
theorem dX0_measureRest_39 : decode cX0_measureRest 39 = .ok (.ifCond .ne 21, 3) := by decide +kernel
theorem dX0_measureRest_42 : decode cX0_measureRest 42 = .ok (.iload 4, 2) := by decide +kernel
theorem dX0_measureRest_44 : decode cX0_measureRest 44 = .ok (.ifCond .ne 16, 3) := by decide +kernel
theorem dX0_measureRest_47 : decode cX0_measureRest 47 = .ok (.aload_n 0, 1) := by decide +kernel
theorem dX0_measureRest_48 : decode cX0_measureRest 48 = .ok (.getfield 17, 3) := by decide +kernel
theorem dX0_measureRest_51 : decode cX0_measureRest 51 = .ok (.iload_n 1, 1) := by decide +kernel
theorem dX0_measureRest_52 : decode cX0_measureRest 52 = .ok (.aaload, 1) := by decide +kernel
theorem dX0_measureRest_53 : decode cX0_measureRest 53 = .ok (.iload_n 3, 1) := by decide +kernel
theorem dX0_measureRest_54 : decode cX0_measureRest 54 = .ok (.ldc 51, 2) := by decide +kernel
theorem dX0_measureRest_56 : decode cX0_measureRest 56 = .ok (.iastore, 1) := by decide +kernel
theorem dX0_measureRest_57 : decode cX0_measureRest 57 = .ok (.goto 37, 3) := by decide +kernel
theorem dX0_measureRest_60 : decode cX0_measureRest 60 = .ok (.aload_n 0, 1) := by decide +kernel
theorem dX0_measureRest_61 : decode cX0_measureRest 61 = .ok (.getfield 17, 3) := by decide +kernel
theorem dX0_measureRest_64 : decode cX0_measureRest 64 = .ok (.iload_n 1, 1) := by decide +kernel
theorem dX0_measureRest_65 : decode cX0_measureRest 65 = .ok (.aaload, 1) := by decide +kernel
theorem dX0_measureRest_66 : decode cX0_measureRest 66 = .ok (.iload_n 3, 1) := by decide +kernel
theorem dX0_measureRest_67 : decode cX0_measureRest 67 = .ok (.iload_n 2, 1) := by decide +kernel
theorem dX0_measureRest_68 : decode cX0_measureRest 68 = .ok (.ifCond .eq 7, 3) := by decide +kernel
theorem dX0_measureRest_71 : decode cX0_measureRest 71 = .ok (.iconst 0, 1) := by decide +kernel
theorem dX0_measureRest_72 : decode cX0_measureRest 72 = .ok (.goto 21, 3) := by decide +kernel
theorem dX0_measureRest_75 : decode cX0_measureRest 75 = .ok (.iload_n 3, 1) := by decide +kernel
theorem dX0_measureRest_76 : decode cX0_measureRest 76 = .ok (.iload 4, 2) := by decide +kernel
theorem dX0_measureRest_78 : decode cX0_measureRest 78 = .ok (.invokestatic 72, 3) := by decide +kernel
theorem dX0_measureRest_81 : decode cX0_measureRest 81 = .ok (.aload_n 0, 1) := by decide +kernel
theorem dX0_measureRest_82 : decode cX0_measureRest 82 = .ok (.getfield 17, 3) := by decide +kernel
theorem dX0_measureRest_85 : decode cX0_measureRest 85 = .ok (.iload_n 1, 1) := by decide +kernel
theorem dX0_measureRest_86 : decode cX0_measureRest 86 = .ok (.iconst 1, 1) := by decide +kernel
theorem dX0_measureRest_87 : decode cX0_measureRest 87 = .ok (.iadd, 1) := by decide +kernel
theorem dX0_measureRest_88 : decode cX0_measureRest 88 = .ok (.aaload, 1) := by decide +kernel
theorem dX0_measureRest_89 : decode cX0_measureRest 89 = .ok (.iload 4, 2) := by decide +kernel
theorem dX0_measureRest_91 : decode cX0_measureRest 91 = .ok (.iaload, 1) := by decide +kernel
theorem dX0_measureRest_92 : decode cX0_measureRest 92 = .ok (.iadd, 1) := by decide +kernel
theorem dX0_measureRest_93 : decode cX0_measureRest 93 = .ok (.iastore, 1) := by decide +kernel
theorem dX0_measureRest_94 : decode cX0_measureRest 94 = .ok (.iinc 3 1, 3) := by decide +kernel
theorem dX0_measureRest_97 : decode cX0_measureRest 97 = .ok (.goto (-95), 3) := by decide +kernel
theorem dX0_measureRest_100 : decode cX0_measureRest 100 = .ok (.return_, 1) := by decide +kernel
theorem dX0_chooseRow_0 : decode cX0_chooseRow 0 = .ok (.aload_n 0, 1) := by decide +kernel
theorem dX0_chooseRow_1 : decode cX0_chooseRow 1 = .ok (.iconst 0, 1) := by decide +kernel
theorem dX0_chooseRow_2 : decode cX0_chooseRow 2 = .ok (.putfield 23, 3) := by decide +kernel
theorem dX0_chooseRow_5 : decode cX0_chooseRow 5 = .ok (.aload_n 0, 1) := by decide +kernel
theorem dX0_chooseRow_6 : decode cX0_chooseRow 6 = .ok (.iconst 0, 1) := by decide +kernel
theorem dX0_chooseRow_7 : decode cX0_chooseRow 7 = .ok (.putfield 27, 3) := by decide +kernel
theorem dX0_chooseRow_10 : decode cX0_chooseRow 10 = .ok (.iconst 0, 1) := by decide +kernel
theorem dX0_chooseRow_11 : decode cX0_chooseRow 11 = .ok (.istore_n 2, 1) := by decide +kernel
theorem dX0_chooseRow_12 : decode cX0_chooseRow 12 = .ok (.iconst 0, 1) := by decide +kernel
theorem dX0_chooseRow_13 : decode cX0_chooseRow 13 = .ok (.istore_n 3, 1) := by decide +kernel
theorem dX0_chooseRow_14 : decode cX0_chooseRow 14 = .ok (.iload_n 3, 1) := by decide +kernel
theorem dX0_chooseRow_15 : decode cX0_chooseRow 15 = .ok (.iload_n 1, 1) := by decide +kernel
theorem dX0_chooseRow_16 : decode cX0_chooseRow 16 = .ok (.if_icmp .ge 76, 3) := by decide +kernel
theorem dX0_chooseRow_19 : decode cX0_chooseRow 19 = .ok (.aload_n 0, 1) := by decide +kernel
theorem dX0_chooseRow_20 : decode cX0_chooseRow 20 = .ok (.iload_n 3, 1) := by decide +kernel
theorem dX0_chooseRow_21 : decode cX0_chooseRow 21 = .ok (.iload_n 2, 1) := by decide +kernel
theorem dX0_chooseRow_22 : decode cX0_chooseRow 22 = .ok (.invokevirtual 65, 3) := by decide +kernel
theorem dX0_chooseRow_25 : decode cX0_chooseRow 25 = .ok (.istore 4, 2) := by decide +kernel
theorem dX0_chooseRow_27 : decode cX0_chooseRow 27 = .ok (.iload 4, 2) := by decide +kernel
theorem dX0_chooseRow_29 : decode cX0_chooseRow 29 = .ok (.ifCond .ne 5, 3) := by decide +kernel
theorem dX0_chooseRow_32 : decode cX0_chooseRow 32 = .ok (.iconst 0, 1) := by decide +kernel
theorem dX0_chooseRow_33 : decode cX0_chooseRow 33 = .ok (.ireturn, 1) := by decide +kernel
theorem dX0_chooseRow_34 : decode cX0_chooseRow 34 = .ok (.iload_n 2, 1) := by decide +kernel
theorem dX0_chooseRow_35 : decode cX0_chooseRow 35 = .ok (.iload 4, 2) := by decide +kernel
theorem dX0_chooseRow_37 : decode cX0_chooseRow 37 = .ok (.invokestatic 72, 3) := by decide +kernel
theorem dX0_chooseRow_40 : decode cX0_chooseRow 40 = .ok (.istore 5, 2) := by decide +kernel
theorem dX0_chooseRow_42 : decode cX0_chooseRow 42 = .ok (.aload_n 0, 1) := by decide +kernel
theorem dX0_chooseRow_43 : decode cX0_chooseRow 43 = .ok (.dup, 1) := by decide +kernel
theorem dX0_chooseRow_44 : decode cX0_chooseRow 44 = .ok (.getfield 23, 3) := by decide +kernel
theorem dX0_chooseRow_47 : decode cX0_chooseRow 47 = .ok (.iload 5, 2) := by decide +kernel
theorem dX0_chooseRow_49 : decode cX0_chooseRow 49 = .ok (.iadd, 1) := by decide +kernel
theorem dX0_chooseRow_50 : decode cX0_chooseRow 50 = .ok (.putfield 23, 3) := by decide +kernel
theorem dX0_chooseRow_53 : decode cX0_chooseRow 53 = .ok (.aload_n 0, 1) := by decide +kernel
theorem dX0_chooseRow_54 : decode cX0_chooseRow 54 = .ok (.iload 5, 2) := by decide +kernel
theorem dX0_chooseRow_56 : decode cX0_chooseRow 56 = .ok (.aload_n 0, 1) := by decide +kernel
theorem dX0_chooseRow_57 : decode cX0_chooseRow 57 = .ok (.getfield 27, 3) := by decide +kernel
theorem dX0_chooseRow_60 : decode cX0_chooseRow 60 = .ok (.if_icmp .le 8, 3) := by decide +kernel
theorem dX0_chooseRow_63 : decode cX0_chooseRow 63 = .ok (.iload 5, 2) := by decide +kernel
theorem dX0_chooseRow_65 : decode cX0_chooseRow 65 = .ok (.goto 7, 3) := by decide +kernel
theorem dX0_chooseRow_68 : decode cX0_chooseRow 68 = .ok (.aload_n 0, 1) := by decide +kernel
theorem dX0_chooseRow_69 : decode cX0_chooseRow 69 = .ok (.getfield 27, 3) := by decide +kernel
theorem dX0_chooseRow_72 : decode cX0_chooseRow 72 = .ok (.putfield 27, 3) := by decide +kernel
theorem dX0_chooseRow_75 : decode cX0_chooseRow 75 = .ok (.aload_n 0, 1) := by decide +kernel
theorem dX0_chooseRow_76 : decode cX0_chooseRow 76 = .ok (.getfield 20, 3) := by decide +kernel
theorem dX0_chooseRow_79 : decode cX0_chooseRow 79 = .ok (.iload_n 3, 1) := by decide +kernel
theorem dX0_chooseRow_80 : decode cX0_chooseRow 80 = .ok (.iload 4, 2) := by decide +kernel
theorem dX0_chooseRow_82 : decode cX0_chooseRow 82 = .ok (.iastore, 1) := by decide +kernel
theorem dX0_chooseRow_83 : decode cX0_chooseRow 83 = .ok (.iload 4, 2) := by decide +kernel
theorem dX0_chooseRow_85 : decode cX0_chooseRow 85 = .ok (.istore_n 2, 1) := by decide +kernel
theorem dX0_chooseRow_86 : decode cX0_chooseRow 86 = .ok (.iinc 3 1, 3) := by decide +kernel
theorem dX0_chooseRow_89 : decode cX0_chooseRow 89 = .ok (.goto (-75), 3) := by decide +kernel
theorem dX0_chooseRow_92 : decode cX0_chooseRow 92 = .ok (.iconst 1, 1) := by decide +kernel
theorem dX0_chooseRow_93 : decode cX0_chooseRow 93 = .ok (.ireturn, 1) := by decide +kernel
theorem dX0_nearest_0 : decode cX0_nearest 0 = .ok (.iconst 0, 1) := by decide +kernel
theorem dX0_nearest_1 : decode cX0_nearest 1 = .ok (.istore_n 3, 1) := by decide +kernel
theorem dX0_nearest_2 : decode cX0_nearest 2 = .ok (.ldc 51, 2) := by decide +kernel
theorem dX0_nearest_4 : decode cX0_nearest 4 = .ok (.istore 4, 2) := by decide +kernel
theorem dX0_nearest_6 : decode cX0_nearest 6 = .ok (.iconst 1, 1) := by decide +kernel
theorem dX0_nearest_7 : decode cX0_nearest 7 = .ok (.istore 5, 2) := by decide +kernel
theorem dX0_nearest_9 : decode cX0_nearest 9 = .ok (.iload 5, 2) := by decide +kernel
theorem dX0_nearest_11 : decode cX0_nearest 11 = .ok (.bipush 13, 2) := by decide +kernel
theorem dX0_nearest_13 : decode cX0_nearest 13 = .ok (.if_icmp .gt 41, 3) := by decide +kernel
theorem dX0_nearest_16 : decode cX0_nearest 16 = .ok (.iload_n 2, 1) := by decide +kernel
theorem dX0_nearest_17 : decode cX0_nearest 17 = .ok (.iload 5, 2) := by decide +kernel
theorem dX0_nearest_19 : decode cX0_nearest 19 = .ok (.invokestatic 72, 3) := by decide +kernel
theorem dX0_nearest_22 : decode cX0_nearest 22 = .ok (.aload_n 0, 1) := by decide +kernel
theorem dX0_nearest_23 : decode cX0_nearest 23 = .ok (.getfield 17, 3) := by decide +kernel
theorem dX0_nearest_26 : decode cX0_nearest 26 = .ok (.iload_n 1, 1) := by decide +kernel
theorem dX0_nearest_27 : decode cX0_nearest 27 = .ok (.aaload, 1) := by decide +kernel
theorem dX0_nearest_28 : decode cX0_nearest 28 = .ok (.iload 5, 2) := by decide +kernel
theorem dX0_nearest_30 : decode cX0_nearest 30 = .ok (.iaload, 1) := by decide +kernel
theorem dX0_nearest_31 : decode cX0_nearest 31 = .ok (.iadd, 1) := by decide +kernel
theorem dX0_nearest_32 : decode cX0_nearest 32 = .ok (.istore 6, 2) := by decide +kernel
theorem dX0_nearest_34 : decode cX0_nearest 34 = .ok (.iload 6, 2) := by decide +kernel
theorem dX0_nearest_36 : decode cX0_nearest 36 = .ok (.iload 4, 2) := by decide +kernel
theorem dX0_nearest_38 : decode cX0_nearest 38 = .ok (.if_icmp .ge 10, 3) := by decide +kernel
theorem dX0_nearest_41 : decode cX0_nearest 41 = .ok (.iload 5, 2) := by decide +kernel
theorem dX0_nearest_43 : decode cX0_nearest 43 = .ok (.istore_n 3, 1) := by decide +kernel
theorem dX0_nearest_44 : decode cX0_nearest 44 = .ok (.iload 6, 2) := by decide +kernel
theorem dX0_nearest_46 : decode cX0_nearest 46 = .ok (.istore 4, 2) := by decide +kernel
theorem dX0_nearest_48 : decode cX0_nearest 48 = .ok (.iinc 5 1, 3) := by decide +kernel
theorem dX0_nearest_51 : decode cX0_nearest 51 = .ok (.goto (-42), 3) := by decide +kernel
theorem dX0_nearest_54 : decode cX0_nearest 54 = .ok (.iload_n 3, 1) := by decide +kernel
theorem dX0_nearest_55 : decode cX0_nearest 55 = .ok (.ireturn, 1) := by decide +kernel
theorem dX0_leastFrom_0 : decode cX0_leastFrom 0 = .ok (.iload_n 2, 1) := by decide +kernel
theorem dX0_leastFrom_1 : decode cX0_leastFrom 1 = .ok (.iload_n 1, 1) := by decide +kernel
theorem dX0_leastFrom_2 : decode cX0_leastFrom 2 = .ok (.if_icmp .ge 8, 3) := by decide +kernel
theorem dX0_leastFrom_5 : decode cX0_leastFrom 5 = .ok (.iload_n 2, 1) := by decide +kernel
theorem dX0_leastFrom_6 : decode cX0_leastFrom 6 = .ok (.iconst 4, 1) := by decide +kernel
theorem dX0_leastFrom_7 : decode cX0_leastFrom 7 = .ok (.if_icmp .lt 5, 3) := by decide +kernel
theorem dX0_leastFrom_10 : decode cX0_leastFrom 10 = .ok (.iconst 0, 1) := by decide +kernel
theorem dX0_leastFrom_11 : decode cX0_leastFrom 11 = .ok (.ireturn, 1) := by decide +kernel
theorem dX0_leastFrom_12 : decode cX0_leastFrom 12 = .ok (.ldc 51, 2) := by decide +kernel
theorem dX0_leastFrom_14 : decode cX0_leastFrom 14 = .ok (.istore 4, 2) := by decide +kernel
theorem dX0_leastFrom_16 : decode cX0_leastFrom 16 = .ok (.iconst 1, 1) := by decide +kernel
theorem dX0_leastFrom_17 : decode cX0_leastFrom 17 = .ok (.istore 5, 2) := by decide +kernel
theorem dX0_leastFrom_19 : decode cX0_leastFrom 19 = .ok (.iload 5, 2) := by decide +kernel
theorem dX0_leastFrom_21 : decode cX0_leastFrom 21 = .ok (.bipush 13, 2) := by decide +kernel
theorem dX0_leastFrom_23 : decode cX0_leastFrom 23 = .ok (.if_icmp .gt 55, 3) := by decide +kernel
theorem dX0_leastFrom_26 : decode cX0_leastFrom 26 = .ok (.aload_n 0, 1) := by decide +kernel
theorem dX0_leastFrom_27 : decode cX0_leastFrom 27 = .ok (.iload_n 2, 1) := by decide +kernel
theorem dX0_leastFrom_28 : decode cX0_leastFrom 28 = .ok (.iaload, 1) := by decide +kernel
theorem dX0_leastFrom_29 : decode cX0_leastFrom 29 = .ok (.iload 5, 2) := by decide +kernel
theorem dX0_leastFrom_31 : decode cX0_leastFrom 31 = .ok (.invokestatic 68, 3) := by decide +kernel
theorem dX0_leastFrom_34 : decode cX0_leastFrom 34 = .ok (.ifCond .eq 38, 3) := by decide +kernel
theorem dX0_leastFrom_37 : decode cX0_leastFrom 37 = .ok (.iload_n 3, 1) := by decide +kernel
theorem dX0_leastFrom_38 : decode cX0_leastFrom 38 = .ok (.iload 5, 2) := by decide +kernel
theorem dX0_leastFrom_40 : decode cX0_leastFrom 40 = .ok (.invokestatic 72, 3) := by decide +kernel
theorem dX0_leastFrom_43 : decode cX0_leastFrom 43 = .ok (.aload_n 0, 1) := by decide +kernel
theorem dX0_leastFrom_44 : decode cX0_leastFrom 44 = .ok (.iload_n 1, 1) := by decide +kernel
theorem dX0_leastFrom_45 : decode cX0_leastFrom 45 = .ok (.iload_n 2, 1) := by decide +kernel
theorem dX0_leastFrom_46 : decode cX0_leastFrom 46 = .ok (.iconst 1, 1) := by decide +kernel
theorem dX0_leastFrom_47 : decode cX0_leastFrom 47 = .ok (.iadd, 1) := by decide +kernel
theorem dX0_leastFrom_48 : decode cX0_leastFrom 48 = .ok (.iload 5, 2) := by decide +kernel
theorem dX0_leastFrom_50 : decode cX0_leastFrom 50 = .ok (.invokestatic 47, 3) := by decide +kernel
theorem dX0_leastFrom_53 : decode cX0_leastFrom 53 = .ok (.iadd, 1) := by decide +kernel
theorem dX0_leastFrom_54 : decode cX0_leastFrom 54 = .ok (.istore 6, 2) := by decide +kernel
theorem dX0_leastFrom_56 : decode cX0_leastFrom 56 = .ok (.iload 6, 2) := by decide +kernel
theorem dX0_leastFrom_58 : decode cX0_leastFrom 58 = .ok (.iload 4, 2) := by decide +kernel
theorem dX0_leastFrom_60 : decode cX0_leastFrom 60 = .ok (.if_icmp .ge 8, 3) := by decide +kernel
theorem dX0_leastFrom_63 : decode cX0_leastFrom 63 = .ok (.iload 6, 2) := by decide +kernel
theorem dX0_leastFrom_65 : decode cX0_leastFrom 65 = .ok (.goto 5, 3) := by decide +kernel
theorem dX0_leastFrom_68 : decode cX0_leastFrom 68 = .ok (.iload 4, 2) := by decide +kernel
theorem dX0_leastFrom_70 : decode cX0_leastFrom 70 = .ok (.istore 4, 2) := by decide +kernel
theorem dX0_leastFrom_72 : decode cX0_leastFrom 72 = .ok (.iinc 5 1, 3) := by decide +kernel
theorem dX0_leastFrom_75 : decode cX0_leastFrom 75 = .ok (.goto (-56), 3) := by decide +kernel
theorem dX0_leastFrom_78 : decode cX0_leastFrom 78 = .ok (.iload 4, 2) := by decide +kernel
theorem dX0_leastFrom_80 : decode cX0_leastFrom 80 = .ok (.ireturn, 1) := by decide +kernel
theorem dX0_canReach_0 : decode cX0_canReach 0 = .ok (.iload_n 0, 1) := by decide +kernel
theorem dX0_canReach_1 : decode cX0_canReach 1 = .ok (.iconst 1, 1) := by decide +kernel
theorem dX0_canReach_2 : decode cX0_canReach 2 = .ok (.iload_n 1, 1) := by decide +kernel
theorem dX0_canReach_3 : decode cX0_canReach 3 = .ok (.ishl, 1) := by decide +kernel
theorem dX0_canReach_4 : decode cX0_canReach 4 = .ok (.iand, 1) := by decide +kernel
theorem dX0_canReach_5 : decode cX0_canReach 5 = .ok (.ifCond .eq 7, 3) := by decide +kernel
theorem dX0_canReach_8 : decode cX0_canReach 8 = .ok (.iconst 1, 1) := by decide +kernel
theorem dX0_canReach_9 : decode cX0_canReach 9 = .ok (.goto 4, 3) := by decide +kernel
theorem dX0_canReach_12 : decode cX0_canReach 12 = .ok (.iconst 0, 1) := by decide +kernel
theorem dX0_canReach_13 : decode cX0_canReach 13 = .ok (.ireturn, 1) := by decide +kernel
theorem dX0_shift_0 : decode cX0_shift 0 = .ok (.iload_n 0, 1) := by decide +kernel
theorem dX0_shift_1 : decode cX0_shift 1 = .ok (.ifCond .ne 7, 3) := by decide +kernel
theorem dX0_shift_4 : decode cX0_shift 4 = .ok (.iconst 0, 1) := by decide +kernel
theorem dX0_shift_5 : decode cX0_shift 5 = .ok (.goto 9, 3) := by decide +kernel
theorem dX0_shift_8 : decode cX0_shift 8 = .ok (.iload_n 1, 1) := by decide +kernel
theorem dX0_shift_9 : decode cX0_shift 9 = .ok (.iload_n 0, 1) := by decide +kernel
theorem dX0_shift_10 : decode cX0_shift 10 = .ok (.isub, 1) := by decide +kernel
theorem dX0_shift_11 : decode cX0_shift 11 = .ok (.invokestatic 75, 3) := by decide +kernel
theorem dX0_shift_14 : decode cX0_shift 14 = .ok (.ireturn, 1) := by decide +kernel
