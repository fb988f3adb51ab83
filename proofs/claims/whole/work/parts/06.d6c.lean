theorem dX6_learn_8 : decode cX6_learn 8 = .ok (.aload_n 0, 1) := by decide +kernel
theorem dX6_learn_9 : decode cX6_learn 9 = .ok (.iload_n 3, 1) := by decide +kernel
theorem dX6_learn_10 : decode cX6_learn 10 = .ok (.invokevirtual 82, 3) := by decide +kernel
theorem dX6_learn_13 : decode cX6_learn 13 = .ok (.ifCond .eq 7, 3) := by decide +kernel
theorem dX6_learn_16 : decode cX6_learn 16 = .ok (.iconst 1, 1) := by decide +kernel
theorem dX6_learn_17 : decode cX6_learn 17 = .ok (.goto 4, 3) := by decide +kernel
theorem dX6_learn_20 : decode cX6_learn 20 = .ok (.iconst 0, 1) := by decide +kernel
theorem dX6_learn_21 : decode cX6_learn 21 = .ok (.istore 4, 2) := by decide +kernel
theorem dX6_learn_23 : decode cX6_learn 23 = .ok (.iload_n 1, 1) := by decide +kernel
theorem dX6_learn_24 : decode cX6_learn 24 = .ok (.invokestatic 121, 3) := by decide +kernel
theorem dX6_learn_27 : decode cX6_learn 27 = .ok (.istore 5, 2) := by decide +kernel
theorem dX6_learn_29 : decode cX6_learn 29 = .ok (.aload_n 0, 1) := by decide +kernel
theorem dX6_learn_30 : decode cX6_learn 30 = .ok (.iload 4, 2) := by decide +kernel
theorem dX6_learn_32 : decode cX6_learn 32 = .ok (.iload 5, 2) := by decide +kernel
theorem dX6_learn_34 : decode cX6_learn 34 = .ok (.iload 4, 2) := by decide +kernel
theorem dX6_learn_36 : decode cX6_learn 36 = .ok (.ifCond .eq 22, 3) := by decide +kernel
theorem dX6_learn_39 : decode cX6_learn 39 = .ok (.iload 5, 2) := by decide +kernel
theorem dX6_learn_41 : decode cX6_learn 41 = .ok (.ifCond .eq 17, 3) := by decide +kernel
theorem dX6_learn_44 : decode cX6_learn 44 = .ok (.aload_n 0, 1) := by decide +kernel
theorem dX6_learn_45 : decode cX6_learn 45 = .ok (.iload_n 1, 1) := by decide +kernel
theorem dX6_learn_46 : decode cX6_learn 46 = .ok (.iload_n 2, 1) := by decide +kernel
theorem dX6_learn_47 : decode cX6_learn 47 = .ok (.iload_n 3, 1) := by decide +kernel
theorem dX6_learn_48 : decode cX6_learn 48 = .ok (.invokevirtual 124, 3) := by decide +kernel
theorem dX6_learn_51 : decode cX6_learn 51 = .ok (.ifCond .eq 7, 3) := by decide +kernel
theorem dX6_learn_54 : decode cX6_learn 54 = .ok (.iconst 1, 1) := by decide +kernel
theorem dX6_learn_55 : decode cX6_learn 55 = .ok (.goto 4, 3) := by decide +kernel
theorem dX6_learn_58 : decode cX6_learn 58 = .ok (.iconst 0, 1) := by decide +kernel
theorem dX6_learn_59 : decode cX6_learn 59 = .ok (.invokevirtual 74, 3) := by decide +kernel
theorem dX6_learn_62 : decode cX6_learn 62 = .ok (.ifCond .ne 5, 3) := by decide +kernel
theorem dX6_learn_65 : decode cX6_learn 65 = .ok (.iconst 0, 1) := by decide +kernel
theorem dX6_learn_66 : decode cX6_learn 66 = .ok (.ireturn, 1) := by decide +kernel
theorem dX6_learn_67 : decode cX6_learn 67 = .ok (.aload_n 0, 1) := by decide +kernel
theorem dX6_learn_68 : decode cX6_learn 68 = .ok (.getfield 25, 3) := by decide +kernel
theorem dX6_learn_71 : decode cX6_learn 71 = .ok (.iload_n 1, 1) := by decide +kernel
theorem dX6_learn_72 : decode cX6_learn 72 = .ok (.dup2, 1) := by decide +kernel
theorem dX6_learn_73 : decode cX6_learn 73 = .ok (.iaload, 1) := by decide +kernel
theorem dX6_learn_74 : decode cX6_learn 74 = .ok (.aload_n 0, 1) := by decide +kernel
theorem dX6_learn_75 : decode cX6_learn 75 = .ok (.iload_n 2, 1) := by decide +kernel
theorem dX6_learn_76 : decode cX6_learn 76 = .ok (.iload_n 3, 1) := by decide +kernel
theorem dX6_learn_77 : decode cX6_learn 77 = .ok (.invokevirtual 112, 3) := by decide +kernel
theorem dX6_learn_80 : decode cX6_learn 80 = .ok (.aload_n 0, 1) := by decide +kernel
theorem dX6_learn_81 : decode cX6_learn 81 = .ok (.getfield 25, 3) := by decide +kernel
theorem dX6_learn_84 : decode cX6_learn 84 = .ok (.iload_n 1, 1) := by decide +kernel
theorem dX6_learn_85 : decode cX6_learn 85 = .ok (.iaload, 1) := by decide +kernel
theorem dX6_learn_86 : decode cX6_learn 86 = .ok (.if_icmp .ne 7, 3) := by decide +kernel
theorem dX6_learn_89 : decode cX6_learn 89 = .ok (.iconst 1, 1) := by decide +kernel
theorem dX6_learn_90 : decode cX6_learn 90 = .ok (.goto 4, 3) := by decide +kernel
theorem dX6_learn_93 : decode cX6_learn 93 = .ok (.iconst 0, 1) := by decide +kernel
theorem dX6_learn_94 : decode cX6_learn 94 = .ok (.iadd, 1) := by decide +kernel
theorem dX6_learn_95 : decode cX6_learn 95 = .ok (.iastore, 1) := by decide +kernel
theorem dX6_learn_96 : decode cX6_learn 96 = .ok (.aload_n 0, 1) := by decide +kernel
theorem dX6_learn_97 : decode cX6_learn 97 = .ok (.getfield 28, 3) := by decide +kernel
theorem dX6_learn_100 : decode cX6_learn 100 = .ok (.iload_n 1, 1) := by decide +kernel
theorem dX6_learn_101 : decode cX6_learn 101 = .ok (.dup2, 1) := by decide +kernel
theorem dX6_learn_102 : decode cX6_learn 102 = .ok (.iaload, 1) := by decide +kernel
theorem dX6_learn_103 : decode cX6_learn 103 = .ok (.iconst 1, 1) := by decide +kernel
theorem dX6_learn_104 : decode cX6_learn 104 = .ok (.iload_n 2, 1) := by decide +kernel
theorem dX6_learn_105 : decode cX6_learn 105 = .ok (.ishl, 1) := by decide +kernel
theorem dX6_learn_106 : decode cX6_learn 106 = .ok (.ior, 1) := by decide +kernel
theorem dX6_learn_107 : decode cX6_learn 107 = .ok (.iastore, 1) := by decide +kernel
theorem dX6_learn_108 : decode cX6_learn 108 = .ok (.aload_n 0, 1) := by decide +kernel
theorem dX6_learn_109 : decode cX6_learn 109 = .ok (.getfield 25, 3) := by decide +kernel
theorem dX6_learn_112 : decode cX6_learn 112 = .ok (.iload_n 1, 1) := by decide +kernel
theorem dX6_learn_113 : decode cX6_learn 113 = .ok (.iaload, 1) := by decide +kernel
theorem dX6_learn_114 : decode cX6_learn 114 = .ok (.ireturn, 1) := by decide +kernel
theorem dX6_level_0 : decode cX6_level 0 = .ok (.aload_n 0, 1) := by decide +kernel
theorem dX6_level_1 : decode cX6_level 1 = .ok (.iload_n 1, 1) := by decide +kernel
theorem dX6_level_2 : decode cX6_level 2 = .ok (.invokestatic 121, 3) := by decide +kernel
theorem dX6_level_5 : decode cX6_level 5 = .ok (.iconst 1, 1) := by decide +kernel
theorem dX6_level_6 : decode cX6_level 6 = .ok (.iconst 1, 1) := by decide +kernel
theorem dX6_level_7 : decode cX6_level 7 = .ok (.invokevirtual 74, 3) := by decide +kernel
theorem dX6_level_10 : decode cX6_level 10 = .ok (.ifCond .eq 12, 3) := by decide +kernel
theorem dX6_level_13 : decode cX6_level 13 = .ok (.aload_n 0, 1) := by decide +kernel
theorem dX6_level_14 : decode cX6_level 14 = .ok (.getfield 25, 3) := by decide +kernel
theorem dX6_level_17 : decode cX6_level 17 = .ok (.iload_n 1, 1) := by decide +kernel
theorem dX6_level_18 : decode cX6_level 18 = .ok (.iaload, 1) := by decide +kernel
theorem dX6_level_19 : decode cX6_level 19 = .ok (.goto 4, 3) := by decide +kernel
theorem dX6_level_22 : decode cX6_level 22 = .ok (.iconst 0, 1) := by decide +kernel
theorem dX6_level_23 : decode cX6_level 23 = .ok (.ireturn, 1) := by decide +kernel
theorem dX6_known_0 : decode cX6_known 0 = .ok (.aload_n 0, 1) := by decide +kernel
theorem dX6_known_1 : decode cX6_known 1 = .ok (.iload_n 1, 1) := by decide +kernel
theorem dX6_known_2 : decode cX6_known 2 = .ok (.invokestatic 121, 3) := by decide +kernel
theorem dX6_known_5 : decode cX6_known 5 = .ok (.iconst 1, 1) := by decide +kernel
theorem dX6_known_6 : decode cX6_known 6 = .ok (.iconst 1, 1) := by decide +kernel
theorem dX6_known_7 : decode cX6_known 7 = .ok (.invokevirtual 74, 3) := by decide +kernel
theorem dX6_known_10 : decode cX6_known 10 = .ok (.ifCond .eq 12, 3) := by decide +kernel
theorem dX6_known_13 : decode cX6_known 13 = .ok (.aload_n 0, 1) := by decide +kernel
theorem dX6_known_14 : decode cX6_known 14 = .ok (.getfield 28, 3) := by decide +kernel
theorem dX6_known_17 : decode cX6_known 17 = .ok (.iload_n 1, 1) := by decide +kernel
theorem dX6_known_18 : decode cX6_known 18 = .ok (.iaload, 1) := by decide +kernel
theorem dX6_known_19 : decode cX6_known 19 = .ok (.goto 4, 3) := by decide +kernel
theorem dX6_known_22 : decode cX6_known 22 = .ok (.iconst 0, 1) := by decide +kernel
theorem dX6_known_23 : decode cX6_known 23 = .ok (.ireturn, 1) := by decide +kernel
theorem dX6_next_0 : decode cX6_next 0 = .ok (.aload_n 0, 1) := by decide +kernel
theorem dX6_next_1 : decode cX6_next 1 = .ok (.iload_n 1, 1) := by decide +kernel
theorem dX6_next_2 : decode cX6_next 2 = .ok (.invokestatic 121, 3) := by decide +kernel
theorem dX6_next_5 : decode cX6_next 5 = .ok (.iconst 1, 1) := by decide +kernel
theorem dX6_next_6 : decode cX6_next 6 = .ok (.iconst 1, 1) := by decide +kernel
theorem dX6_next_7 : decode cX6_next 7 = .ok (.invokevirtual 74, 3) := by decide +kernel
theorem dX6_next_10 : decode cX6_next 10 = .ok (.ifCond .ne 5, 3) := by decide +kernel
theorem dX6_next_13 : decode cX6_next 13 = .ok (.iconst 0, 1) := by decide +kernel
theorem dX6_next_14 : decode cX6_next 14 = .ok (.ireturn, 1) := by decide +kernel
theorem dX6_next_15 : decode cX6_next 15 = .ok (.iconst (-1), 1) := by decide +kernel
theorem dX6_next_16 : decode cX6_next 16 = .ok (.istore_n 2, 1) := by decide +kernel
theorem dX6_next_17 : decode cX6_next 17 = .ok (.ldc 97, 2) := by decide +kernel
theorem dX6_next_19 : decode cX6_next 19 = .ok (.istore_n 3, 1) := by decide +kernel
theorem dX6_next_20 : decode cX6_next 20 = .ok (.iconst 0, 1) := by decide +kernel
theorem dX6_next_21 : decode cX6_next 21 = .ok (.istore 4, 2) := by decide +kernel
theorem dX6_next_23 : decode cX6_next 23 = .ok (.iload 4, 2) := by decide +kernel
theorem dX6_next_25 : decode cX6_next 25 = .ok (.aload_n 0, 1) := by decide +kernel
theorem dX6_next_26 : decode cX6_next 26 = .ok (.getfield 57, 3) := by decide +kernel
theorem dX6_next_29 : decode cX6_next 29 = .ok (.if_icmp .ge 63, 3) := by decide +kernel
theorem dX6_next_32 : decode cX6_next 32 = .ok (.iconst 0, 1) := by decide +kernel
theorem dX6_next_33 : decode cX6_next 33 = .ok (.istore 5, 2) := by decide +kernel
theorem dX6_next_35 : decode cX6_next 35 = .ok (.iload 5, 2) := by decide +kernel
theorem dX6_next_37 : decode cX6_next 37 = .ok (.aload_n 0, 1) := by decide +kernel
theorem dX6_next_38 : decode cX6_next 38 = .ok (.getfield 68, 3) := by decide +kernel
theorem dX6_next_41 : decode cX6_next 41 = .ok (.if_icmp .ge 45, 3) := by decide +kernel
theorem dX6_next_44 : decode cX6_next 44 = .ok (.aload_n 0, 1) := by decide +kernel
theorem dX6_next_45 : decode cX6_next 45 = .ok (.iload_n 1, 1) := by decide +kernel
theorem dX6_next_46 : decode cX6_next 46 = .ok (.iload 4, 2) := by decide +kernel
theorem dX6_next_48 : decode cX6_next 48 = .ok (.iload 5, 2) := by decide +kernel
theorem dX6_next_50 : decode cX6_next 50 = .ok (.invokevirtual 124, 3) := by decide +kernel
theorem dX6_next_53 : decode cX6_next 53 = .ok (.ifCond .eq 27, 3) := by decide +kernel
theorem dX6_next_56 : decode cX6_next 56 = .ok (.aload_n 0, 1) := by decide +kernel
theorem dX6_next_57 : decode cX6_next 57 = .ok (.iload 4, 2) := by decide +kernel
theorem dX6_next_59 : decode cX6_next 59 = .ok (.iload 5, 2) := by decide +kernel
theorem dX6_next_61 : decode cX6_next 61 = .ok (.invokevirtual 112, 3) := by decide +kernel
theorem dX6_next_64 : decode cX6_next 64 = .ok (.iload_n 3, 1) := by decide +kernel
theorem dX6_next_65 : decode cX6_next 65 = .ok (.if_icmp .ge 15, 3) := by decide +kernel
theorem dX6_next_68 : decode cX6_next 68 = .ok (.aload_n 0, 1) := by decide +kernel
theorem dX6_next_69 : decode cX6_next 69 = .ok (.iload 4, 2) := by decide +kernel
theorem dX6_next_71 : decode cX6_next 71 = .ok (.iload 5, 2) := by decide +kernel
theorem dX6_next_73 : decode cX6_next 73 = .ok (.invokevirtual 112, 3) := by decide +kernel
theorem dX6_next_76 : decode cX6_next 76 = .ok (.istore_n 3, 1) := by decide +kernel
theorem dX6_next_77 : decode cX6_next 77 = .ok (.iload 4, 2) := by decide +kernel
theorem dX6_next_79 : decode cX6_next 79 = .ok (.istore_n 2, 1) := by decide +kernel
theorem dX6_next_80 : decode cX6_next 80 = .ok (.iinc 5 1, 3) := by decide +kernel
theorem dX6_next_83 : decode cX6_next 83 = .ok (.goto (-48), 3) := by decide +kernel
theorem dX6_next_86 : decode cX6_next 86 = .ok (.iinc 4 1, 3) := by decide +kernel
theorem dX6_next_89 : decode cX6_next 89 = .ok (.goto (-66), 3) := by decide +kernel
theorem dX6_next_92 : decode cX6_next 92 = .ok (.iload_n 2, 1) := by decide +kernel
theorem dX6_next_93 : decode cX6_next 93 = .ok (.ireturn, 1) := by decide +kernel
theorem dX6_addWood_0 : decode cX6_addWood 0 = .ok (.aload_n 0, 1) := by decide +kernel
theorem dX6_addWood_1 : decode cX6_addWood 1 = .ok (.iload_n 1, 1) := by decide +kernel
theorem dX6_addWood_2 : decode cX6_addWood 2 = .ok (.iconst 0, 1) := by decide +kernel
theorem dX6_addWood_3 : decode cX6_addWood 3 = .ok (.iconst 3, 1) := by decide +kernel
theorem dX6_addWood_4 : decode cX6_addWood 4 = .ok (.invokestatic 60, 3) := by decide +kernel
theorem dX6_addWood_7 : decode cX6_addWood 7 = .ok (.ifCond .eq 17, 3) := by decide +kernel
theorem dX6_addWood_10 : decode cX6_addWood 10 = .ok (.iload_n 2, 1) := by decide +kernel
theorem dX6_addWood_11 : decode cX6_addWood 11 = .ok (.iconst 1, 1) := by decide +kernel
theorem dX6_addWood_12 : decode cX6_addWood 12 = .ok (.bipush 20, 2) := by decide +kernel
theorem dX6_addWood_14 : decode cX6_addWood 14 = .ok (.invokestatic 60, 3) := by decide +kernel
theorem dX6_addWood_17 : decode cX6_addWood 17 = .ok (.ifCond .eq 7, 3) := by decide +kernel
theorem dX6_addWood_20 : decode cX6_addWood 20 = .ok (.iconst 1, 1) := by decide +kernel
theorem dX6_addWood_21 : decode cX6_addWood 21 = .ok (.goto 4, 3) := by decide +kernel
theorem dX6_addWood_24 : decode cX6_addWood 24 = .ok (.iconst 0, 1) := by decide +kernel
theorem dX6_addWood_25 : decode cX6_addWood 25 = .ok (.iconst 1, 1) := by decide +kernel
theorem dX6_addWood_26 : decode cX6_addWood 26 = .ok (.iconst 1, 1) := by decide +kernel
theorem dX6_addWood_27 : decode cX6_addWood 27 = .ok (.invokevirtual 74, 3) := by decide +kernel
theorem dX6_addWood_30 : decode cX6_addWood 30 = .ok (.ifCond .ne 5, 3) := by decide +kernel
theorem dX6_addWood_33 : decode cX6_addWood 33 = .ok (.iconst 0, 1) := by decide +kernel
theorem dX6_addWood_34 : decode cX6_addWood 34 = .ok (.ireturn, 1) := by decide +kernel
theorem dX6_addWood_35 : decode cX6_addWood 35 = .ok (.aload_n 0, 1) := by decide +kernel
theorem dX6_addWood_36 : decode cX6_addWood 36 = .ok (.getfield 31, 3) := by decide +kernel
theorem dX6_addWood_39 : decode cX6_addWood 39 = .ok (.iload_n 1, 1) := by decide +kernel
theorem dX6_addWood_40 : decode cX6_addWood 40 = .ok (.dup2, 1) := by decide +kernel
theorem dX6_addWood_41 : decode cX6_addWood 41 = .ok (.iaload, 1) := by decide +kernel
theorem dX6_addWood_42 : decode cX6_addWood 42 = .ok (.iload_n 2, 1) := by decide +kernel
theorem dX6_addWood_43 : decode cX6_addWood 43 = .ok (.iadd, 1) := by decide +kernel
theorem dX6_addWood_44 : decode cX6_addWood 44 = .ok (.iastore, 1) := by decide +kernel
theorem dX6_addWood_45 : decode cX6_addWood 45 = .ok (.aload_n 0, 1) := by decide +kernel
theorem dX6_addWood_46 : decode cX6_addWood 46 = .ok (.getfield 31, 3) := by decide +kernel
theorem dX6_addWood_49 : decode cX6_addWood 49 = .ok (.iload_n 1, 1) := by decide +kernel
theorem dX6_addWood_50 : decode cX6_addWood 50 = .ok (.iaload, 1) := by decide +kernel
theorem dX6_addWood_51 : decode cX6_addWood 51 = .ok (.ireturn, 1) := by decide +kernel
theorem dX6_atWork_0 : decode cX6_atWork 0 = .ok (.iconst 0, 1) := by decide +kernel
theorem dX6_atWork_1 : decode cX6_atWork 1 = .ok (.istore_n 1, 1) := by decide +kernel
theorem dX6_atWork_2 : decode cX6_atWork 2 = .ok (.iconst 0, 1) := by decide +kernel
theorem dX6_atWork_3 : decode cX6_atWork 3 = .ok (.istore_n 2, 1) := by decide +kernel
theorem dX6_atWork_4 : decode cX6_atWork 4 = .ok (.iload_n 2, 1) := by decide +kernel
theorem dX6_atWork_5 : decode cX6_atWork 5 = .ok (.aload_n 0, 1) := by decide +kernel
theorem dX6_atWork_6 : decode cX6_atWork 6 = .ok (.getfield 71, 3) := by decide +kernel
theorem dX6_atWork_9 : decode cX6_atWork 9 = .ok (.if_icmp .ge 39, 3) := by decide +kernel
theorem dX6_atWork_12 : decode cX6_atWork 12 = .ok (.iload_n 1, 1) := by decide +kernel
theorem dX6_atWork_13 : decode cX6_atWork 13 = .ok (.aload_n 0, 1) := by decide +kernel
theorem dX6_atWork_14 : decode cX6_atWork 14 = .ok (.getfield 43, 3) := by decide +kernel
theorem dX6_atWork_17 : decode cX6_atWork 17 = .ok (.iload_n 2, 1) := by decide +kernel
theorem dX6_atWork_18 : decode cX6_atWork 18 = .ok (.baload, 1) := by decide +kernel
theorem dX6_atWork_19 : decode cX6_atWork 19 = .ok (.ifCond .ne 20, 3) := by decide +kernel
theorem dX6_atWork_22 : decode cX6_atWork 22 = .ok (.aload_n 0, 1) := by decide +kernel
theorem dX6_atWork_23 : decode cX6_atWork 23 = .ok (.getfield 127, 3) := by decide +kernel
theorem dX6_atWork_26 : decode cX6_atWork 26 = .ok (.aload_n 0, 1) := by decide +kernel
theorem dX6_atWork_27 : decode cX6_atWork 27 = .ok (.getfield 40, 3) := by decide +kernel
theorem dX6_atWork_30 : decode cX6_atWork 30 = .ok (.iload_n 2, 1) := by decide +kernel
theorem dX6_atWork_31 : decode cX6_atWork 31 = .ok (.iaload, 1) := by decide +kernel
theorem dX6_atWork_32 : decode cX6_atWork 32 = .ok (.if_icmp .ge 7, 3) := by decide +kernel
theorem dX6_atWork_35 : decode cX6_atWork 35 = .ok (.iconst 1, 1) := by decide +kernel
theorem dX6_atWork_36 : decode cX6_atWork 36 = .ok (.goto 4, 3) := by decide +kernel
theorem dX6_atWork_39 : decode cX6_atWork 39 = .ok (.iconst 0, 1) := by decide +kernel
theorem dX6_atWork_40 : decode cX6_atWork 40 = .ok (.iadd, 1) := by decide +kernel
theorem dX6_atWork_41 : decode cX6_atWork 41 = .ok (.istore_n 1, 1) := by decide +kernel
theorem dX6_atWork_42 : decode cX6_atWork 42 = .ok (.iinc 2 1, 3) := by decide +kernel
theorem dX6_atWork_45 : decode cX6_atWork 45 = .ok (.goto (-41), 3) := by decide +kernel
theorem dX6_atWork_48 : decode cX6_atWork 48 = .ok (.iload_n 1, 1) := by decide +kernel
theorem dX6_atWork_49 : decode cX6_atWork 49 = .ok (.ireturn, 1) := by decide +kernel
theorem dX6_order_0 : decode cX6_order 0 = .ok (.iload_n 1, 1) := by decide +kernel
theorem dX6_order_1 : decode cX6_order 1 = .ok (.invokestatic 121, 3) := by decide +kernel
theorem dX6_order_4 : decode cX6_order 4 = .ok (.ifCond .eq 26, 3) := by decide +kernel
theorem dX6_order_7 : decode cX6_order 7 = .ok (.iload_n 2, 1) := by decide +kernel
theorem dX6_order_8 : decode cX6_order 8 = .ok (.iconst 0, 1) := by decide +kernel
theorem dX6_order_9 : decode cX6_order 9 = .ok (.iconst 3, 1) := by decide +kernel
theorem dX6_order_10 : decode cX6_order 10 = .ok (.invokestatic 60, 3) := by decide +kernel
theorem dX6_order_13 : decode cX6_order 13 = .ok (.ifCond .eq 17, 3) := by decide +kernel
theorem dX6_order_16 : decode cX6_order 16 = .ok (.iload_n 3, 1) := by decide +kernel
theorem dX6_order_17 : decode cX6_order 17 = .ok (.iconst 4, 1) := by decide +kernel
theorem dX6_order_18 : decode cX6_order 18 = .ok (.bipush 16, 2) := by decide +kernel
theorem dX6_order_20 : decode cX6_order 20 = .ok (.invokestatic 60, 3) := by decide +kernel
theorem dX6_order_23 : decode cX6_order 23 = .ok (.ifCond .eq 7, 3) := by decide +kernel
theorem dX6_order_26 : decode cX6_order 26 = .ok (.iconst 1, 1) := by decide +kernel
theorem dX6_order_27 : decode cX6_order 27 = .ok (.goto 4, 3) := by decide +kernel
theorem dX6_order_30 : decode cX6_order 30 = .ok (.iconst 0, 1) := by decide +kernel
theorem dX6_order_31 : decode cX6_order 31 = .ok (.istore 4, 2) := by decide +kernel
theorem dX6_order_33 : decode cX6_order 33 = .ok (.aload_n 0, 1) := by decide +kernel
theorem dX6_order_34 : decode cX6_order 34 = .ok (.iload 4, 2) := by decide +kernel
theorem dX6_order_36 : decode cX6_order 36 = .ok (.iload 4, 2) := by decide +kernel
theorem dX6_order_38 : decode cX6_order 38 = .ok (.ifCond .eq 34, 3) := by decide +kernel
theorem dX6_order_41 : decode cX6_order 41 = .ok (.aload_n 0, 1) := by decide +kernel
theorem dX6_order_42 : decode cX6_order 42 = .ok (.getfield 31, 3) := by decide +kernel
theorem dX6_order_45 : decode cX6_order 45 = .ok (.iload_n 2, 1) := by decide +kernel
theorem dX6_order_46 : decode cX6_order 46 = .ok (.iaload, 1) := by decide +kernel
theorem dX6_order_47 : decode cX6_order 47 = .ok (.iconst 3, 1) := by decide +kernel
theorem dX6_order_48 : decode cX6_order 48 = .ok (.if_icmp .lt 24, 3) := by decide +kernel
theorem dX6_order_51 : decode cX6_order 51 = .ok (.aload_n 0, 1) := by decide +kernel
theorem dX6_order_52 : decode cX6_order 52 = .ok (.invokevirtual 130, 3) := by decide +kernel
theorem dX6_order_55 : decode cX6_order 55 = .ok (.iconst 2, 1) := by decide +kernel
theorem dX6_order_56 : decode cX6_order 56 = .ok (.if_icmp .ge 16, 3) := by decide +kernel
theorem dX6_order_59 : decode cX6_order 59 = .ok (.aload_n 0, 1) := by decide +kernel
theorem dX6_order_60 : decode cX6_order 60 = .ok (.getfield 71, 3) := by decide +kernel
theorem dX6_order_63 : decode cX6_order 63 = .ok (.bipush 20, 2) := by decide +kernel
theorem dX6_order_65 : decode cX6_order 65 = .ok (.if_icmp .ge 7, 3) := by decide +kernel
theorem dX6_order_68 : decode cX6_order 68 = .ok (.iconst 1, 1) := by decide +kernel
theorem dX6_order_69 : decode cX6_order 69 = .ok (.goto 4, 3) := by decide +kernel
theorem dX6_order_72 : decode cX6_order 72 = .ok (.iconst 0, 1) := by decide +kernel
theorem dX6_order_73 : decode cX6_order 73 = .ok (.iconst 1, 1) := by decide +kernel
theorem dX6_order_74 : decode cX6_order 74 = .ok (.invokevirtual 74, 3) := by decide +kernel
theorem dX6_order_77 : decode cX6_order 77 = .ok (.ifCond .ne 5, 3) := by decide +kernel
theorem dX6_order_80 : decode cX6_order 80 = .ok (.iconst 0, 1) := by decide +kernel
theorem dX6_order_81 : decode cX6_order 81 = .ok (.ireturn, 1) := by decide +kernel
theorem dX6_order_82 : decode cX6_order 82 = .ok (.aload_n 0, 1) := by decide +kernel
theorem dX6_order_83 : decode cX6_order 83 = .ok (.getfield 31, 3) := by decide +kernel
theorem dX6_order_86 : decode cX6_order 86 = .ok (.iload_n 2, 1) := by decide +kernel
theorem dX6_order_87 : decode cX6_order 87 = .ok (.dup2, 1) := by decide +kernel
theorem dX6_order_88 : decode cX6_order 88 = .ok (.iaload, 1) := by decide +kernel
theorem dX6_order_89 : decode cX6_order 89 = .ok (.iconst 3, 1) := by decide +kernel
theorem dX6_order_90 : decode cX6_order 90 = .ok (.isub, 1) := by decide +kernel
theorem dX6_order_91 : decode cX6_order 91 = .ok (.iastore, 1) := by decide +kernel
theorem dX6_order_92 : decode cX6_order 92 = .ok (.aload_n 0, 1) := by decide +kernel
theorem dX6_order_93 : decode cX6_order 93 = .ok (.getfield 34, 3) := by decide +kernel
theorem dX6_order_96 : decode cX6_order 96 = .ok (.aload_n 0, 1) := by decide +kernel
theorem dX6_order_97 : decode cX6_order 97 = .ok (.getfield 71, 3) := by decide +kernel
theorem dX6_order_100 : decode cX6_order 100 = .ok (.iload_n 1, 1) := by decide +kernel
theorem dX6_order_101 : decode cX6_order 101 = .ok (.iastore, 1) := by decide +kernel
theorem dX6_order_102 : decode cX6_order 102 = .ok (.aload_n 0, 1) := by decide +kernel
theorem dX6_order_103 : decode cX6_order 103 = .ok (.getfield 37, 3) := by decide +kernel
theorem dX6_order_106 : decode cX6_order 106 = .ok (.aload_n 0, 1) := by decide +kernel
theorem dX6_order_107 : decode cX6_order 107 = .ok (.getfield 71, 3) := by decide +kernel
theorem dX6_order_110 : decode cX6_order 110 = .ok (.iload_n 3, 1) := by decide +kernel
theorem dX6_order_111 : decode cX6_order 111 = .ok (.iastore, 1) := by decide +kernel
theorem dX6_order_112 : decode cX6_order 112 = .ok (.aload_n 0, 1) := by decide +kernel
theorem dX6_order_113 : decode cX6_order 113 = .ok (.getfield 40, 3) := by decide +kernel
theorem dX6_order_116 : decode cX6_order 116 = .ok (.aload_n 0, 1) := by decide +kernel
theorem dX6_order_117 : decode cX6_order 117 = .ok (.getfield 71, 3) := by decide +kernel
theorem dX6_order_120 : decode cX6_order 120 = .ok (.aload_n 0, 1) := by decide +kernel
theorem dX6_order_121 : decode cX6_order 121 = .ok (.getfield 127, 3) := by decide +kernel
theorem dX6_order_124 : decode cX6_order 124 = .ok (.iconst 2, 1) := by decide +kernel
theorem dX6_order_125 : decode cX6_order 125 = .ok (.iload_n 3, 1) := by decide +kernel
theorem dX6_order_126 : decode cX6_order 126 = .ok (.imul, 1) := by decide +kernel
theorem dX6_order_127 : decode cX6_order 127 = .ok (.iadd, 1) := by decide +kernel
theorem dX6_order_128 : decode cX6_order 128 = .ok (.iastore, 1) := by decide +kernel
theorem dX6_order_129 : decode cX6_order 129 = .ok (.aload_n 0, 1) := by decide +kernel
theorem dX6_order_130 : decode cX6_order 130 = .ok (.dup, 1) := by decide +kernel
theorem dX6_order_131 : decode cX6_order 131 = .ok (.getfield 71, 3) := by decide +kernel
theorem dX6_order_134 : decode cX6_order 134 = .ok (.iconst 1, 1) := by decide +kernel
theorem dX6_order_135 : decode cX6_order 135 = .ok (.iadd, 1) := by decide +kernel
theorem dX6_order_136 : decode cX6_order 136 = .ok (.putfield 71, 3) := by decide +kernel
theorem dX6_order_139 : decode cX6_order 139 = .ok (.aload_n 0, 1) := by decide +kernel
theorem dX6_order_140 : decode cX6_order 140 = .ok (.getfield 71, 3) := by decide +kernel
theorem dX6_order_143 : decode cX6_order 143 = .ok (.iconst 1, 1) := by decide +kernel
theorem dX6_order_144 : decode cX6_order 144 = .ok (.isub, 1) := by decide +kernel
theorem dX6_order_145 : decode cX6_order 145 = .ok (.ireturn, 1) := by decide +kernel
theorem dX6_ready_0 : decode cX6_ready 0 = .ok (.aload_n 0, 1) := by decide +kernel
theorem dX6_ready_1 : decode cX6_ready 1 = .ok (.aload_n 0, 1) := by decide +kernel
theorem dX6_ready_2 : decode cX6_ready 2 = .ok (.iload_n 1, 1) := by decide +kernel
theorem dX6_ready_3 : decode cX6_ready 3 = .ok (.invokevirtual 134, 3) := by decide +kernel
theorem dX6_ready_6 : decode cX6_ready 6 = .ok (.iconst 1, 1) := by decide +kernel
theorem dX6_ready_7 : decode cX6_ready 7 = .ok (.iconst 1, 1) := by decide +kernel
theorem dX6_ready_8 : decode cX6_ready 8 = .ok (.invokevirtual 74, 3) := by decide +kernel
theorem dX6_ready_11 : decode cX6_ready 11 = .ok (.ifCond .eq 12, 3) := by decide +kernel
theorem dX6_ready_14 : decode cX6_ready 14 = .ok (.aload_n 0, 1) := by decide +kernel
theorem dX6_ready_15 : decode cX6_ready 15 = .ok (.getfield 40, 3) := by decide +kernel
theorem dX6_ready_18 : decode cX6_ready 18 = .ok (.iload_n 1, 1) := by decide +kernel
theorem dX6_ready_19 : decode cX6_ready 19 = .ok (.iaload, 1) := by decide +kernel
theorem dX6_ready_20 : decode cX6_ready 20 = .ok (.goto 4, 3) := by decide +kernel
theorem dX6_ready_23 : decode cX6_ready 23 = .ok (.iconst 0, 1) := by decide +kernel
theorem dX6_ready_24 : decode cX6_ready 24 = .ok (.ireturn, 1) := by decide +kernel
theorem dX6_isOpen_0 : decode cX6_isOpen 0 = .ok (.iload_n 0, 1) := by decide +kernel
theorem dX6_isOpen_1 : decode cX6_isOpen 1 = .ok (.iconst 0, 1) := by decide +kernel
theorem dX6_isOpen_2 : decode cX6_isOpen 2 = .ok (.bipush 60, 2) := by decide +kernel
theorem dX6_isOpen_4 : decode cX6_isOpen 4 = .ok (.invokestatic 60, 3) := by decide +kernel
theorem dX6_isOpen_7 : decode cX6_isOpen 7 = .ok (.ireturn, 1) := by decide +kernel
theorem dX6_fetch_0 : decode cX6_fetch 0 = .ok (.aload_n 0, 1) := by decide +kernel
theorem dX6_fetch_1 : decode cX6_fetch 1 = .ok (.iload_n 1, 1) := by decide +kernel
theorem dX6_fetch_2 : decode cX6_fetch 2 = .ok (.invokevirtual 134, 3) := by decide +kernel
theorem dX6_fetch_5 : decode cX6_fetch 5 = .ok (.istore 6, 2) := by decide +kernel
theorem dX6_fetch_7 : decode cX6_fetch 7 = .ok (.iload_n 2, 1) := by decide +kernel
theorem dX6_fetch_8 : decode cX6_fetch 8 = .ok (.invokestatic 137, 3) := by decide +kernel
theorem dX6_fetch_11 : decode cX6_fetch 11 = .ok (.ifCond .eq 30, 3) := by decide +kernel
theorem dX6_fetch_14 : decode cX6_fetch 14 = .ok (.iload_n 3, 1) := by decide +kernel
theorem dX6_fetch_15 : decode cX6_fetch 15 = .ok (.invokestatic 137, 3) := by decide +kernel
theorem dX6_fetch_18 : decode cX6_fetch 18 = .ok (.ifCond .eq 23, 3) := by decide +kernel
theorem dX6_fetch_21 : decode cX6_fetch 21 = .ok (.iload 4, 2) := by decide +kernel
theorem dX6_fetch_23 : decode cX6_fetch 23 = .ok (.invokestatic 137, 3) := by decide +kernel
theorem dX6_fetch_26 : decode cX6_fetch 26 = .ok (.ifCond .eq 15, 3) := by decide +kernel
theorem dX6_fetch_29 : decode cX6_fetch 29 = .ok (.iload 5, 2) := by decide +kernel
theorem dX6_fetch_31 : decode cX6_fetch 31 = .ok (.invokestatic 137, 3) := by decide +kernel
theorem dX6_fetch_34 : decode cX6_fetch 34 = .ok (.ifCond .eq 7, 3) := by decide +kernel
theorem dX6_fetch_37 : decode cX6_fetch 37 = .ok (.iconst 1, 1) := by decide +kernel
theorem dX6_fetch_38 : decode cX6_fetch 38 = .ok (.goto 4, 3) := by decide +kernel
theorem dX6_fetch_41 : decode cX6_fetch 41 = .ok (.iconst 0, 1) := by decide +kernel
theorem dX6_fetch_42 : decode cX6_fetch 42 = .ok (.istore 7, 2) := by decide +kernel
theorem dX6_fetch_44 : decode cX6_fetch 44 = .ok (.aload_n 0, 1) := by decide +kernel
theorem dX6_fetch_45 : decode cX6_fetch 45 = .ok (.iload 6, 2) := by decide +kernel
theorem dX6_fetch_47 : decode cX6_fetch 47 = .ok (.iload 7, 2) := by decide +kernel
theorem dX6_fetch_49 : decode cX6_fetch 49 = .ok (.iload 6, 2) := by decide +kernel
theorem dX6_fetch_51 : decode cX6_fetch 51 = .ok (.ifCond .eq 38, 3) := by decide +kernel
theorem dX6_fetch_54 : decode cX6_fetch 54 = .ok (.aload_n 0, 1) := by decide +kernel
theorem dX6_fetch_55 : decode cX6_fetch 55 = .ok (.getfield 127, 3) := by decide +kernel
theorem dX6_fetch_58 : decode cX6_fetch 58 = .ok (.aload_n 0, 1) := by decide +kernel
theorem dX6_fetch_59 : decode cX6_fetch 59 = .ok (.getfield 40, 3) := by decide +kernel
theorem dX6_fetch_62 : decode cX6_fetch 62 = .ok (.iload_n 1, 1) := by decide +kernel
theorem dX6_fetch_63 : decode cX6_fetch 63 = .ok (.iaload, 1) := by decide +kernel
theorem dX6_fetch_64 : decode cX6_fetch 64 = .ok (.if_icmp .lt 25, 3) := by decide +kernel
theorem dX6_fetch_67 : decode cX6_fetch 67 = .ok (.aload_n 0, 1) := by decide +kernel
theorem dX6_fetch_68 : decode cX6_fetch 68 = .ok (.getfield 43, 3) := by decide +kernel
theorem dX6_fetch_71 : decode cX6_fetch 71 = .ok (.iload_n 1, 1) := by decide +kernel
theorem dX6_fetch_72 : decode cX6_fetch 72 = .ok (.baload, 1) := by decide +kernel
theorem dX6_fetch_73 : decode cX6_fetch 73 = .ok (.ifCond .ne 16, 3) := by decide +kernel
theorem dX6_fetch_76 : decode cX6_fetch 76 = .ok (.aload_n 0, 1) := by decide +kernel
theorem dX6_fetch_77 : decode cX6_fetch 77 = .ok (.getfield 68, 3) := by decide +kernel
theorem dX6_fetch_80 : decode cX6_fetch 80 = .ok (.bipush 8, 2) := by decide +kernel
theorem dX6_fetch_82 : decode cX6_fetch 82 = .ok (.if_icmp .ge 7, 3) := by decide +kernel
theorem dX6_fetch_85 : decode cX6_fetch 85 = .ok (.iconst 1, 1) := by decide +kernel
theorem dX6_fetch_86 : decode cX6_fetch 86 = .ok (.goto 4, 3) := by decide +kernel
theorem dX6_fetch_89 : decode cX6_fetch 89 = .ok (.iconst 0, 1) := by decide +kernel
theorem dX6_fetch_90 : decode cX6_fetch 90 = .ok (.invokevirtual 74, 3) := by decide +kernel
theorem dX6_fetch_93 : decode cX6_fetch 93 = .ok (.ifCond .ne 5, 3) := by decide +kernel
theorem dX6_fetch_96 : decode cX6_fetch 96 = .ok (.iconst 0, 1) := by decide +kernel
theorem dX6_fetch_97 : decode cX6_fetch 97 = .ok (.ireturn, 1) := by decide +kernel
theorem dX6_fetch_98 : decode cX6_fetch 98 = .ok (.aload_n 0, 1) := by decide +kernel
theorem dX6_fetch_99 : decode cX6_fetch 99 = .ok (.getfield 43, 3) := by decide +kernel
theorem dX6_fetch_102 : decode cX6_fetch 102 = .ok (.iload_n 1, 1) := by decide +kernel
theorem dX6_fetch_103 : decode cX6_fetch 103 = .ok (.iconst 1, 1) := by decide +kernel
theorem dX6_fetch_104 : decode cX6_fetch 104 = .ok (.bastore, 1) := by decide +kernel
theorem dX6_fetch_105 : decode cX6_fetch 105 = .ok (.aload_n 0, 1) := by decide +kernel
theorem dX6_fetch_106 : decode cX6_fetch 106 = .ok (.getfield 16, 3) := by decide +kernel
theorem dX6_fetch_109 : decode cX6_fetch 109 = .ok (.aload_n 0, 1) := by decide +kernel
theorem dX6_fetch_110 : decode cX6_fetch 110 = .ok (.getfield 68, 3) := by decide +kernel
theorem dX6_fetch_113 : decode cX6_fetch 113 = .ok (.aload_n 0, 1) := by decide +kernel
theorem dX6_fetch_114 : decode cX6_fetch 114 = .ok (.getfield 34, 3) := by decide +kernel
theorem dX6_fetch_117 : decode cX6_fetch 117 = .ok (.iload_n 1, 1) := by decide +kernel
theorem dX6_fetch_118 : decode cX6_fetch 118 = .ok (.iaload, 1) := by decide +kernel
theorem dX6_fetch_119 : decode cX6_fetch 119 = .ok (.iastore, 1) := by decide +kernel
theorem dX6_fetch_120 : decode cX6_fetch 120 = .ok (.aload_n 0, 1) := by decide +kernel
theorem dX6_fetch_121 : decode cX6_fetch 121 = .ok (.getfield 19, 3) := by decide +kernel
theorem dX6_fetch_124 : decode cX6_fetch 124 = .ok (.aload_n 0, 1) := by decide +kernel
theorem dX6_fetch_125 : decode cX6_fetch 125 = .ok (.getfield 68, 3) := by decide +kernel
theorem dX6_fetch_128 : decode cX6_fetch 128 = .ok (.aload_n 0, 1) := by decide +kernel
theorem dX6_fetch_129 : decode cX6_fetch 129 = .ok (.getfield 37, 3) := by decide +kernel
theorem dX6_fetch_132 : decode cX6_fetch 132 = .ok (.iload_n 1, 1) := by decide +kernel
theorem dX6_fetch_133 : decode cX6_fetch 133 = .ok (.iaload, 1) := by decide +kernel
theorem dX6_fetch_134 : decode cX6_fetch 134 = .ok (.iastore, 1) := by decide +kernel
theorem dX6_fetch_135 : decode cX6_fetch 135 = .ok (.aload_n 0, 1) := by decide +kernel
theorem dX6_fetch_136 : decode cX6_fetch 136 = .ok (.getfield 22, 3) := by decide +kernel
theorem dX6_fetch_139 : decode cX6_fetch 139 = .ok (.iconst 4, 1) := by decide +kernel
theorem dX6_fetch_140 : decode cX6_fetch 140 = .ok (.aload_n 0, 1) := by decide +kernel
theorem dX6_fetch_141 : decode cX6_fetch 141 = .ok (.getfield 68, 3) := by decide +kernel
theorem dX6_fetch_144 : decode cX6_fetch 144 = .ok (.imul, 1) := by decide +kernel
theorem dX6_fetch_145 : decode cX6_fetch 145 = .ok (.iload_n 2, 1) := by decide +kernel
theorem dX6_fetch_146 : decode cX6_fetch 146 = .ok (.iastore, 1) := by decide +kernel
theorem dX6_fetch_147 : decode cX6_fetch 147 = .ok (.aload_n 0, 1) := by decide +kernel
theorem dX6_fetch_148 : decode cX6_fetch 148 = .ok (.getfield 22, 3) := by decide +kernel
theorem dX6_fetch_151 : decode cX6_fetch 151 = .ok (.iconst 4, 1) := by decide +kernel
theorem dX6_fetch_152 : decode cX6_fetch 152 = .ok (.aload_n 0, 1) := by decide +kernel
theorem dX6_fetch_153 : decode cX6_fetch 153 = .ok (.getfield 68, 3) := by decide +kernel
theorem dX6_fetch_156 : decode cX6_fetch 156 = .ok (.imul, 1) := by decide +kernel
theorem dX6_fetch_157 : decode cX6_fetch 157 = .ok (.iconst 1, 1) := by decide +kernel
theorem dX6_fetch_158 : decode cX6_fetch 158 = .ok (.iadd, 1) := by decide +kernel
theorem dX6_fetch_159 : decode cX6_fetch 159 = .ok (.iload_n 3, 1) := by decide +kernel
theorem dX6_fetch_160 : decode cX6_fetch 160 = .ok (.iastore, 1) := by decide +kernel
theorem dX6_fetch_161 : decode cX6_fetch 161 = .ok (.aload_n 0, 1) := by decide +kernel
theorem dX6_fetch_162 : decode cX6_fetch 162 = .ok (.getfield 22, 3) := by decide +kernel
theorem dX6_fetch_165 : decode cX6_fetch 165 = .ok (.iconst 4, 1) := by decide +kernel
theorem dX6_fetch_166 : decode cX6_fetch 166 = .ok (.aload_n 0, 1) := by decide +kernel
theorem dX6_fetch_167 : decode cX6_fetch 167 = .ok (.getfield 68, 3) := by decide +kernel
theorem dX6_fetch_170 : decode cX6_fetch 170 = .ok (.imul, 1) := by decide +kernel
theorem dX6_fetch_171 : decode cX6_fetch 171 = .ok (.iconst 2, 1) := by decide +kernel
theorem dX6_fetch_172 : decode cX6_fetch 172 = .ok (.iadd, 1) := by decide +kernel
theorem dX6_fetch_173 : decode cX6_fetch 173 = .ok (.iload 4, 2) := by decide +kernel
theorem dX6_fetch_175 : decode cX6_fetch 175 = .ok (.iastore, 1) := by decide +kernel
theorem dX6_fetch_176 : decode cX6_fetch 176 = .ok (.aload_n 0, 1) := by decide +kernel
theorem dX6_fetch_177 : decode cX6_fetch 177 = .ok (.getfield 22, 3) := by decide +kernel
theorem dX6_fetch_180 : decode cX6_fetch 180 = .ok (.iconst 4, 1) := by decide +kernel
theorem dX6_fetch_181 : decode cX6_fetch 181 = .ok (.aload_n 0, 1) := by decide +kernel
theorem dX6_fetch_182 : decode cX6_fetch 182 = .ok (.getfield 68, 3) := by decide +kernel
theorem dX6_fetch_185 : decode cX6_fetch 185 = .ok (.imul, 1) := by decide +kernel
theorem dX6_fetch_186 : decode cX6_fetch 186 = .ok (.iconst 3, 1) := by decide +kernel
theorem dX6_fetch_187 : decode cX6_fetch 187 = .ok (.iadd, 1) := by decide +kernel
theorem dX6_fetch_188 : decode cX6_fetch 188 = .ok (.iload 5, 2) := by decide +kernel
theorem dX6_fetch_190 : decode cX6_fetch 190 = .ok (.iastore, 1) := by decide +kernel
theorem dX6_fetch_191 : decode cX6_fetch 191 = .ok (.aload_n 0, 1) := by decide +kernel
theorem dX6_fetch_192 : decode cX6_fetch 192 = .ok (.dup, 1) := by decide +kernel
theorem dX6_fetch_193 : decode cX6_fetch 193 = .ok (.getfield 68, 3) := by decide +kernel
theorem dX6_fetch_196 : decode cX6_fetch 196 = .ok (.iconst 1, 1) := by decide +kernel
theorem dX6_fetch_197 : decode cX6_fetch 197 = .ok (.iadd, 1) := by decide +kernel
theorem dX6_fetch_198 : decode cX6_fetch 198 = .ok (.putfield 68, 3) := by decide +kernel
theorem dX6_fetch_201 : decode cX6_fetch 201 = .ok (.aload_n 0, 1) := by decide +kernel
theorem dX6_fetch_202 : decode cX6_fetch 202 = .ok (.getfield 68, 3) := by decide +kernel
theorem dX6_fetch_205 : decode cX6_fetch 205 = .ok (.iconst 1, 1) := by decide +kernel
theorem dX6_fetch_206 : decode cX6_fetch 206 = .ok (.isub, 1) := by decide +kernel
theorem dX6_fetch_207 : decode cX6_fetch 207 = .ok (.ireturn, 1) := by decide +kernel
theorem dX6_pass_0 : decode cX6_pass 0 = .ok (.iload_n 1, 1) := by decide +kernel
theorem dX6_pass_1 : decode cX6_pass 1 = .ok (.iconst 1, 1) := by decide +kernel
theorem dX6_pass_2 : decode cX6_pass 2 = .ok (.bipush 100, 2) := by decide +kernel
theorem dX6_pass_4 : decode cX6_pass 4 = .ok (.invokestatic 60, 3) := by decide +kernel
theorem dX6_pass_7 : decode cX6_pass 7 = .ok (.istore_n 2, 1) := by decide +kernel
theorem dX6_pass_8 : decode cX6_pass 8 = .ok (.aload_n 0, 1) := by decide +kernel
theorem dX6_pass_9 : decode cX6_pass 9 = .ok (.iload_n 2, 1) := by decide +kernel
theorem dX6_pass_10 : decode cX6_pass 10 = .ok (.iload_n 2, 1) := by decide +kernel
theorem dX6_pass_11 : decode cX6_pass 11 = .ok (.ifCond .eq 19, 3) := by decide +kernel
theorem dX6_pass_14 : decode cX6_pass 14 = .ok (.aload_n 0, 1) := by decide +kernel
theorem dX6_pass_15 : decode cX6_pass 15 = .ok (.getfield 127, 3) := by decide +kernel
theorem dX6_pass_18 : decode cX6_pass 18 = .ok (.iload_n 1, 1) := by decide +kernel
theorem dX6_pass_19 : decode cX6_pass 19 = .ok (.iadd, 1) := by decide +kernel
theorem dX6_pass_20 : decode cX6_pass 20 = .ok (.sipush 5000, 3) := by decide +kernel
theorem dX6_pass_23 : decode cX6_pass 23 = .ok (.if_icmp .gt 7, 3) := by decide +kernel
theorem dX6_pass_26 : decode cX6_pass 26 = .ok (.iconst 1, 1) := by decide +kernel
theorem dX6_pass_27 : decode cX6_pass 27 = .ok (.goto 4, 3) := by decide +kernel
theorem dX6_pass_30 : decode cX6_pass 30 = .ok (.iconst 0, 1) := by decide +kernel
theorem dX6_pass_31 : decode cX6_pass 31 = .ok (.iconst 1, 1) := by decide +kernel
theorem dX6_pass_32 : decode cX6_pass 32 = .ok (.invokevirtual 74, 3) := by decide +kernel
theorem dX6_pass_35 : decode cX6_pass 35 = .ok (.ifCond .ne 5, 3) := by decide +kernel
theorem dX6_pass_38 : decode cX6_pass 38 = .ok (.iconst 0, 1) := by decide +kernel
theorem dX6_pass_39 : decode cX6_pass 39 = .ok (.ireturn, 1) := by decide +kernel
theorem dX6_pass_40 : decode cX6_pass 40 = .ok (.aload_n 0, 1) := by decide +kernel
theorem dX6_pass_41 : decode cX6_pass 41 = .ok (.dup, 1) := by decide +kernel
theorem dX6_pass_42 : decode cX6_pass 42 = .ok (.getfield 127, 3) := by decide +kernel
theorem dX6_pass_45 : decode cX6_pass 45 = .ok (.iload_n 1, 1) := by decide +kernel
theorem dX6_pass_46 : decode cX6_pass 46 = .ok (.iadd, 1) := by decide +kernel
theorem dX6_pass_47 : decode cX6_pass 47 = .ok (.putfield 127, 3) := by decide +kernel
theorem dX6_pass_50 : decode cX6_pass 50 = .ok (.aload_n 0, 1) := by decide +kernel
theorem dX6_pass_51 : decode cX6_pass 51 = .ok (.getfield 127, 3) := by decide +kernel
theorem dX6_pass_54 : decode cX6_pass 54 = .ok (.ireturn, 1) := by decide +kernel
theorem dX6_today_0 : decode cX6_today 0 = .ok (.aload_n 0, 1) := by decide +kernel
theorem dX6_today_1 : decode cX6_today 1 = .ok (.aload_n 0, 1) := by decide +kernel
theorem dX6_today_2 : decode cX6_today 2 = .ok (.getfield 127, 3) := by decide +kernel
theorem dX6_today_5 : decode cX6_today 5 = .ok (.invokevirtual 85, 3) := by decide +kernel
theorem dX6_today_8 : decode cX6_today 8 = .ok (.ireturn, 1) := by decide +kernel
