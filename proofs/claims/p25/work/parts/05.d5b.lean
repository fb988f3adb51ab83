theorem dX5_next_45 : decode cX5_next 45 = .ok (.istore 5, 2) := by decide +kernel
theorem dX5_next_47 : decode cX5_next 47 = .ok (.iload 5, 2) := by decide +kernel
theorem dX5_next_49 : decode cX5_next 49 = .ok (.iconst (-1), 1) := by decide +kernel
theorem dX5_next_50 : decode cX5_next 50 = .ok (.if_icmp .eq 20, 3) := by decide +kernel
theorem dX5_next_53 : decode cX5_next 53 = .ok (.iload_n 2, 1) := by decide +kernel
theorem dX5_next_54 : decode cX5_next 54 = .ok (.iconst (-1), 1) := by decide +kernel
theorem dX5_next_55 : decode cX5_next 55 = .ok (.if_icmp .eq 9, 3) := by decide +kernel
theorem dX5_next_58 : decode cX5_next 58 = .ok (.iload 5, 2) := by decide +kernel
theorem dX5_next_60 : decode cX5_next 60 = .ok (.iload_n 3, 1) := by decide +kernel
theorem dX5_next_61 : decode cX5_next 61 = .ok (.if_icmp .ge 9, 3) := by decide +kernel
theorem dX5_next_64 : decode cX5_next 64 = .ok (.iload 4, 2) := by decide +kernel
theorem dX5_next_66 : decode cX5_next 66 = .ok (.istore_n 2, 1) := by decide +kernel
theorem dX5_next_67 : decode cX5_next 67 = .ok (.iload 5, 2) := by decide +kernel
theorem dX5_next_69 : decode cX5_next 69 = .ok (.istore_n 3, 1) := by decide +kernel
theorem dX5_next_70 : decode cX5_next 70 = .ok (.iinc 4 1, 3) := by decide +kernel
theorem dX5_next_73 : decode cX5_next 73 = .ok (.goto (-62), 3) := by decide +kernel
theorem dX5_next_76 : decode cX5_next 76 = .ok (.iload_n 2, 1) := by decide +kernel
theorem dX5_next_77 : decode cX5_next 77 = .ok (.ireturn, 1) := by decide +kernel
theorem dX5_addWood_0 : decode cX5_addWood 0 = .ok (.iload_n 1, 1) := by decide +kernel
theorem dX5_addWood_1 : decode cX5_addWood 1 = .ok (.iconst 0, 1) := by decide +kernel
theorem dX5_addWood_2 : decode cX5_addWood 2 = .ok (.iconst 3, 1) := by decide +kernel
theorem dX5_addWood_3 : decode cX5_addWood 3 = .ok (.invokestatic 72, 3) := by decide +kernel
theorem dX5_addWood_6 : decode cX5_addWood 6 = .ok (.iload_n 2, 1) := by decide +kernel
theorem dX5_addWood_7 : decode cX5_addWood 7 = .ok (.iconst 1, 1) := by decide +kernel
theorem dX5_addWood_8 : decode cX5_addWood 8 = .ok (.bipush 20, 2) := by decide +kernel
theorem dX5_addWood_10 : decode cX5_addWood 10 = .ok (.invokestatic 72, 3) := by decide +kernel
theorem dX5_addWood_13 : decode cX5_addWood 13 = .ok (.aload_n 0, 1) := by decide +kernel
theorem dX5_addWood_14 : decode cX5_addWood 14 = .ok (.getfield 37, 3) := by decide +kernel
theorem dX5_addWood_17 : decode cX5_addWood 17 = .ok (.iload_n 1, 1) := by decide +kernel
theorem dX5_addWood_18 : decode cX5_addWood 18 = .ok (.dup2, 1) := by decide +kernel
theorem dX5_addWood_19 : decode cX5_addWood 19 = .ok (.iaload, 1) := by decide +kernel
theorem dX5_addWood_20 : decode cX5_addWood 20 = .ok (.iload_n 2, 1) := by decide +kernel
theorem dX5_addWood_21 : decode cX5_addWood 21 = .ok (.iadd, 1) := by decide +kernel
theorem dX5_addWood_22 : decode cX5_addWood 22 = .ok (.iastore, 1) := by decide +kernel
theorem dX5_addWood_23 : decode cX5_addWood 23 = .ok (.aload_n 0, 1) := by decide +kernel
theorem dX5_addWood_24 : decode cX5_addWood 24 = .ok (.getfield 37, 3) := by decide +kernel
theorem dX5_addWood_27 : decode cX5_addWood 27 = .ok (.iload_n 1, 1) := by decide +kernel
theorem dX5_addWood_28 : decode cX5_addWood 28 = .ok (.iaload, 1) := by decide +kernel
theorem dX5_addWood_29 : decode cX5_addWood 29 = .ok (.ireturn, 1) := by decide +kernel
theorem dX5_order_0 : decode cX5_order 0 = .ok (.iload_n 1, 1) := by decide +kernel
theorem dX5_order_1 : decode cX5_order 1 = .ok (.invokestatic 136, 3) := by decide +kernel
theorem dX5_order_4 : decode cX5_order 4 = .ok (.iload_n 2, 1) := by decide +kernel
theorem dX5_order_5 : decode cX5_order 5 = .ok (.iconst 0, 1) := by decide +kernel
theorem dX5_order_6 : decode cX5_order 6 = .ok (.iconst 3, 1) := by decide +kernel
theorem dX5_order_7 : decode cX5_order 7 = .ok (.invokestatic 72, 3) := by decide +kernel
theorem dX5_order_10 : decode cX5_order 10 = .ok (.iload_n 3, 1) := by decide +kernel
theorem dX5_order_11 : decode cX5_order 11 = .ok (.iconst 4, 1) := by decide +kernel
theorem dX5_order_12 : decode cX5_order 12 = .ok (.bipush 16, 2) := by decide +kernel
theorem dX5_order_14 : decode cX5_order 14 = .ok (.invokestatic 72, 3) := by decide +kernel
theorem dX5_order_17 : decode cX5_order 17 = .ok (.aload_n 0, 1) := by decide +kernel
theorem dX5_order_18 : decode cX5_order 18 = .ok (.getfield 37, 3) := by decide +kernel
theorem dX5_order_21 : decode cX5_order 21 = .ok (.iload_n 2, 1) := by decide +kernel
theorem dX5_order_22 : decode cX5_order 22 = .ok (.iaload, 1) := by decide +kernel
theorem dX5_order_23 : decode cX5_order 23 = .ok (.iconst 3, 1) := by decide +kernel
theorem dX5_order_24 : decode cX5_order 24 = .ok (.if_icmp .ge 13, 3) := by decide +kernel
theorem dX5_order_27 : decode cX5_order 27 = .ok (.new 61, 3) := by decide +kernel
theorem dX5_order_30 : decode cX5_order 30 = .ok (.dup, 1) := by decide +kernel
theorem dX5_order_31 : decode cX5_order 31 = .ok (.ldc 162, 2) := by decide +kernel
theorem dX5_order_33 : decode cX5_order 33 = .ok (.invokespecial 65, 3) := by decide +kernel
theorem dX5_order_36 : decode cX5_order 36 = .ok (.athrow, 1) := by decide +kernel
theorem dX5_order_37 : decode cX5_order 37 = .ok (.aload_n 0, 1) := by decide +kernel
theorem dX5_order_38 : decode cX5_order 38 = .ok (.invokevirtual 164, 3) := by decide +kernel
theorem dX5_order_41 : decode cX5_order 41 = .ok (.iconst 2, 1) := by decide +kernel
theorem dX5_order_42 : decode cX5_order 42 = .ok (.if_icmp .lt 13, 3) := by decide +kernel
theorem dX5_order_45 : decode cX5_order 45 = .ok (.new 61, 3) := by decide +kernel
theorem dX5_order_48 : decode cX5_order 48 = .ok (.dup, 1) := by decide +kernel
theorem dX5_order_49 : decode cX5_order 49 = .ok (.ldc 168, 2) := by decide +kernel
theorem dX5_order_51 : decode cX5_order 51 = .ok (.invokespecial 65, 3) := by decide +kernel
theorem dX5_order_54 : decode cX5_order 54 = .ok (.athrow, 1) := by decide +kernel
theorem dX5_order_55 : decode cX5_order 55 = .ok (.aload_n 0, 1) := by decide +kernel
theorem dX5_order_56 : decode cX5_order 56 = .ok (.getfield 55, 3) := by decide +kernel
theorem dX5_order_59 : decode cX5_order 59 = .ok (.bipush 20, 2) := by decide +kernel
theorem dX5_order_61 : decode cX5_order 61 = .ok (.if_icmp .lt 13, 3) := by decide +kernel
theorem dX5_order_64 : decode cX5_order 64 = .ok (.new 61, 3) := by decide +kernel
theorem dX5_order_67 : decode cX5_order 67 = .ok (.dup, 1) := by decide +kernel
theorem dX5_order_68 : decode cX5_order 68 = .ok (.ldc 170, 2) := by decide +kernel
theorem dX5_order_70 : decode cX5_order 70 = .ok (.invokespecial 65, 3) := by decide +kernel
theorem dX5_order_73 : decode cX5_order 73 = .ok (.athrow, 1) := by decide +kernel
theorem dX5_order_74 : decode cX5_order 74 = .ok (.aload_n 0, 1) := by decide +kernel
theorem dX5_order_75 : decode cX5_order 75 = .ok (.getfield 37, 3) := by decide +kernel
theorem dX5_order_78 : decode cX5_order 78 = .ok (.iload_n 2, 1) := by decide +kernel
theorem dX5_order_79 : decode cX5_order 79 = .ok (.dup2, 1) := by decide +kernel
theorem dX5_order_80 : decode cX5_order 80 = .ok (.iaload, 1) := by decide +kernel
theorem dX5_order_81 : decode cX5_order 81 = .ok (.iconst 3, 1) := by decide +kernel
theorem dX5_order_82 : decode cX5_order 82 = .ok (.isub, 1) := by decide +kernel
theorem dX5_order_83 : decode cX5_order 83 = .ok (.iastore, 1) := by decide +kernel
theorem dX5_order_84 : decode cX5_order 84 = .ok (.aload_n 0, 1) := by decide +kernel
theorem dX5_order_85 : decode cX5_order 85 = .ok (.getfield 55, 3) := by decide +kernel
theorem dX5_order_88 : decode cX5_order 88 = .ok (.istore 4, 2) := by decide +kernel
theorem dX5_order_90 : decode cX5_order 90 = .ok (.aload_n 0, 1) := by decide +kernel
theorem dX5_order_91 : decode cX5_order 91 = .ok (.getfield 32, 3) := by decide +kernel
theorem dX5_order_94 : decode cX5_order 94 = .ok (.iload 4, 2) := by decide +kernel
theorem dX5_order_96 : decode cX5_order 96 = .ok (.aaload, 1) := by decide +kernel
theorem dX5_order_97 : decode cX5_order 97 = .ok (.iload_n 1, 1) := by decide +kernel
theorem dX5_order_98 : decode cX5_order 98 = .ok (.iload_n 3, 1) := by decide +kernel
theorem dX5_order_99 : decode cX5_order 99 = .ok (.aload_n 0, 1) := by decide +kernel
theorem dX5_order_100 : decode cX5_order 100 = .ok (.getfield 58, 3) := by decide +kernel
theorem dX5_order_103 : decode cX5_order 103 = .ok (.iconst 2, 1) := by decide +kernel
theorem dX5_order_104 : decode cX5_order 104 = .ok (.iload_n 3, 1) := by decide +kernel
theorem dX5_order_105 : decode cX5_order 105 = .ok (.imul, 1) := by decide +kernel
theorem dX5_order_106 : decode cX5_order 106 = .ok (.iadd, 1) := by decide +kernel
theorem dX5_order_107 : decode cX5_order 107 = .ok (.invokevirtual 172, 3) := by decide +kernel
theorem dX5_order_110 : decode cX5_order 110 = .ok (.aload_n 0, 1) := by decide +kernel
theorem dX5_order_111 : decode cX5_order 111 = .ok (.dup, 1) := by decide +kernel
theorem dX5_order_112 : decode cX5_order 112 = .ok (.getfield 55, 3) := by decide +kernel
theorem dX5_order_115 : decode cX5_order 115 = .ok (.iconst 1, 1) := by decide +kernel
theorem dX5_order_116 : decode cX5_order 116 = .ok (.iadd, 1) := by decide +kernel
theorem dX5_order_117 : decode cX5_order 117 = .ok (.putfield 55, 3) := by decide +kernel
theorem dX5_order_120 : decode cX5_order 120 = .ok (.iload 4, 2) := by decide +kernel
theorem dX5_order_122 : decode cX5_order 122 = .ok (.ireturn, 1) := by decide +kernel
theorem dX5_ready_0 : decode cX5_ready 0 = .ok (.aload_n 0, 1) := by decide +kernel
theorem dX5_ready_1 : decode cX5_ready 1 = .ok (.iload_n 1, 1) := by decide +kernel
theorem dX5_ready_2 : decode cX5_ready 2 = .ok (.invokevirtual 175, 3) := by decide +kernel
theorem dX5_ready_5 : decode cX5_ready 5 = .ok (.aload_n 0, 1) := by decide +kernel
theorem dX5_ready_6 : decode cX5_ready 6 = .ok (.getfield 32, 3) := by decide +kernel
theorem dX5_ready_9 : decode cX5_ready 9 = .ok (.iload_n 1, 1) := by decide +kernel
theorem dX5_ready_10 : decode cX5_ready 10 = .ok (.aaload, 1) := by decide +kernel
theorem dX5_ready_11 : decode cX5_ready 11 = .ok (.getfield 178, 3) := by decide +kernel
theorem dX5_ready_14 : decode cX5_ready 14 = .ok (.ireturn, 1) := by decide +kernel
theorem dX5_fetch_0 : decode cX5_fetch 0 = .ok (.aload_n 0, 1) := by decide +kernel
theorem dX5_fetch_1 : decode cX5_fetch 1 = .ok (.iload_n 1, 1) := by decide +kernel
theorem dX5_fetch_2 : decode cX5_fetch 2 = .ok (.invokevirtual 175, 3) := by decide +kernel
theorem dX5_fetch_5 : decode cX5_fetch 5 = .ok (.iload_n 2, 1) := by decide +kernel
theorem dX5_fetch_6 : decode cX5_fetch 6 = .ok (.iconst 0, 1) := by decide +kernel
theorem dX5_fetch_7 : decode cX5_fetch 7 = .ok (.bipush 60, 2) := by decide +kernel
theorem dX5_fetch_9 : decode cX5_fetch 9 = .ok (.invokestatic 72, 3) := by decide +kernel
theorem dX5_fetch_12 : decode cX5_fetch 12 = .ok (.iload_n 3, 1) := by decide +kernel
theorem dX5_fetch_13 : decode cX5_fetch 13 = .ok (.iconst 0, 1) := by decide +kernel
theorem dX5_fetch_14 : decode cX5_fetch 14 = .ok (.bipush 60, 2) := by decide +kernel
theorem dX5_fetch_16 : decode cX5_fetch 16 = .ok (.invokestatic 72, 3) := by decide +kernel
theorem dX5_fetch_19 : decode cX5_fetch 19 = .ok (.iload 4, 2) := by decide +kernel
theorem dX5_fetch_21 : decode cX5_fetch 21 = .ok (.iconst 0, 1) := by decide +kernel
theorem dX5_fetch_22 : decode cX5_fetch 22 = .ok (.bipush 60, 2) := by decide +kernel
theorem dX5_fetch_24 : decode cX5_fetch 24 = .ok (.invokestatic 72, 3) := by decide +kernel
theorem dX5_fetch_27 : decode cX5_fetch 27 = .ok (.iload 5, 2) := by decide +kernel
theorem dX5_fetch_29 : decode cX5_fetch 29 = .ok (.iconst 0, 1) := by decide +kernel
theorem dX5_fetch_30 : decode cX5_fetch 30 = .ok (.bipush 60, 2) := by decide +kernel
theorem dX5_fetch_32 : decode cX5_fetch 32 = .ok (.invokestatic 72, 3) := by decide +kernel
theorem dX5_fetch_35 : decode cX5_fetch 35 = .ok (.aload_n 0, 1) := by decide +kernel
theorem dX5_fetch_36 : decode cX5_fetch 36 = .ok (.getfield 32, 3) := by decide +kernel
theorem dX5_fetch_39 : decode cX5_fetch 39 = .ok (.iload_n 1, 1) := by decide +kernel
theorem dX5_fetch_40 : decode cX5_fetch 40 = .ok (.aaload, 1) := by decide +kernel
theorem dX5_fetch_41 : decode cX5_fetch 41 = .ok (.astore 6, 2) := by decide +kernel
theorem dX5_fetch_43 : decode cX5_fetch 43 = .ok (.aload 6, 2) := by decide +kernel
theorem dX5_fetch_45 : decode cX5_fetch 45 = .ok (.aload_n 0, 1) := by decide +kernel
theorem dX5_fetch_46 : decode cX5_fetch 46 = .ok (.getfield 58, 3) := by decide +kernel
theorem dX5_fetch_49 : decode cX5_fetch 49 = .ok (.invokevirtual 181, 3) := by decide +kernel
theorem dX5_fetch_52 : decode cX5_fetch 52 = .ok (.ifCond .ne 13, 3) := by decide +kernel
theorem dX5_fetch_55 : decode cX5_fetch 55 = .ok (.new 61, 3) := by decide +kernel
theorem dX5_fetch_58 : decode cX5_fetch 58 = .ok (.dup, 1) := by decide +kernel
theorem dX5_fetch_59 : decode cX5_fetch 59 = .ok (.ldc 184, 2) := by decide +kernel
theorem dX5_fetch_61 : decode cX5_fetch 61 = .ok (.invokespecial 65, 3) := by decide +kernel
theorem dX5_fetch_64 : decode cX5_fetch 64 = .ok (.athrow, 1) := by decide +kernel
theorem dX5_fetch_65 : decode cX5_fetch 65 = .ok (.aload 6, 2) := by decide +kernel
theorem dX5_fetch_67 : decode cX5_fetch 67 = .ok (.getfield 186, 3) := by decide +kernel
theorem dX5_fetch_70 : decode cX5_fetch 70 = .ok (.ifCond .eq 13, 3) := by decide +kernel
theorem dX5_fetch_73 : decode cX5_fetch 73 = .ok (.new 61, 3) := by decide +kernel
theorem dX5_fetch_76 : decode cX5_fetch 76 = .ok (.dup, 1) := by decide +kernel
theorem dX5_fetch_77 : decode cX5_fetch 77 = .ok (.ldc 190, 2) := by decide +kernel
theorem dX5_fetch_79 : decode cX5_fetch 79 = .ok (.invokespecial 65, 3) := by decide +kernel
theorem dX5_fetch_82 : decode cX5_fetch 82 = .ok (.athrow, 1) := by decide +kernel
theorem dX5_fetch_83 : decode cX5_fetch 83 = .ok (.aload_n 0, 1) := by decide +kernel
theorem dX5_fetch_84 : decode cX5_fetch 84 = .ok (.getfield 52, 3) := by decide +kernel
theorem dX5_fetch_87 : decode cX5_fetch 87 = .ok (.bipush 8, 2) := by decide +kernel
theorem dX5_fetch_89 : decode cX5_fetch 89 = .ok (.if_icmp .lt 13, 3) := by decide +kernel
theorem dX5_fetch_92 : decode cX5_fetch 92 = .ok (.new 61, 3) := by decide +kernel
theorem dX5_fetch_95 : decode cX5_fetch 95 = .ok (.dup, 1) := by decide +kernel
theorem dX5_fetch_96 : decode cX5_fetch 96 = .ok (.ldc 192, 2) := by decide +kernel
theorem dX5_fetch_98 : decode cX5_fetch 98 = .ok (.invokespecial 65, 3) := by decide +kernel
theorem dX5_fetch_101 : decode cX5_fetch 101 = .ok (.athrow, 1) := by decide +kernel
theorem dX5_fetch_102 : decode cX5_fetch 102 = .ok (.aload 6, 2) := by decide +kernel
theorem dX5_fetch_104 : decode cX5_fetch 104 = .ok (.iconst 1, 1) := by decide +kernel
theorem dX5_fetch_105 : decode cX5_fetch 105 = .ok (.putfield 186, 3) := by decide +kernel
theorem dX5_fetch_108 : decode cX5_fetch 108 = .ok (.aload_n 0, 1) := by decide +kernel
theorem dX5_fetch_109 : decode cX5_fetch 109 = .ok (.getfield 52, 3) := by decide +kernel
theorem dX5_fetch_112 : decode cX5_fetch 112 = .ok (.istore 7, 2) := by decide +kernel
theorem dX5_fetch_114 : decode cX5_fetch 114 = .ok (.aload_n 0, 1) := by decide +kernel
theorem dX5_fetch_115 : decode cX5_fetch 115 = .ok (.getfield 18, 3) := by decide +kernel
theorem dX5_fetch_118 : decode cX5_fetch 118 = .ok (.iload 7, 2) := by decide +kernel
theorem dX5_fetch_120 : decode cX5_fetch 120 = .ok (.aaload, 1) := by decide +kernel
theorem dX5_fetch_121 : decode cX5_fetch 121 = .ok (.aload 6, 2) := by decide +kernel
theorem dX5_fetch_123 : decode cX5_fetch 123 = .ok (.getfield 194, 3) := by decide +kernel
theorem dX5_fetch_126 : decode cX5_fetch 126 = .ok (.aload 6, 2) := by decide +kernel
theorem dX5_fetch_128 : decode cX5_fetch 128 = .ok (.getfield 197, 3) := by decide +kernel
theorem dX5_fetch_131 : decode cX5_fetch 131 = .ok (.invokevirtual 200, 3) := by decide +kernel
theorem dX5_fetch_134 : decode cX5_fetch 134 = .ok (.aload_n 0, 1) := by decide +kernel
theorem dX5_fetch_135 : decode cX5_fetch 135 = .ok (.getfield 18, 3) := by decide +kernel
theorem dX5_fetch_138 : decode cX5_fetch 138 = .ok (.iload 7, 2) := by decide +kernel
theorem dX5_fetch_140 : decode cX5_fetch 140 = .ok (.aaload, 1) := by decide +kernel
theorem dX5_fetch_141 : decode cX5_fetch 141 = .ok (.iload_n 2, 1) := by decide +kernel
theorem dX5_fetch_142 : decode cX5_fetch 142 = .ok (.iload_n 3, 1) := by decide +kernel
theorem dX5_fetch_143 : decode cX5_fetch 143 = .ok (.iload 4, 2) := by decide +kernel
theorem dX5_fetch_145 : decode cX5_fetch 145 = .ok (.iload 5, 2) := by decide +kernel
theorem dX5_fetch_147 : decode cX5_fetch 147 = .ok (.invokevirtual 203, 3) := by decide +kernel
theorem dX5_fetch_150 : decode cX5_fetch 150 = .ok (.aload_n 0, 1) := by decide +kernel
theorem dX5_fetch_151 : decode cX5_fetch 151 = .ok (.dup, 1) := by decide +kernel
theorem dX5_fetch_152 : decode cX5_fetch 152 = .ok (.getfield 52, 3) := by decide +kernel
theorem dX5_fetch_155 : decode cX5_fetch 155 = .ok (.iconst 1, 1) := by decide +kernel
theorem dX5_fetch_156 : decode cX5_fetch 156 = .ok (.iadd, 1) := by decide +kernel
theorem dX5_fetch_157 : decode cX5_fetch 157 = .ok (.putfield 52, 3) := by decide +kernel
theorem dX5_fetch_160 : decode cX5_fetch 160 = .ok (.iload 7, 2) := by decide +kernel
theorem dX5_fetch_162 : decode cX5_fetch 162 = .ok (.ireturn, 1) := by decide +kernel
theorem dX5_pass_0 : decode cX5_pass 0 = .ok (.iload_n 1, 1) := by decide +kernel
theorem dX5_pass_1 : decode cX5_pass 1 = .ok (.iconst 1, 1) := by decide +kernel
theorem dX5_pass_2 : decode cX5_pass 2 = .ok (.bipush 100, 2) := by decide +kernel
theorem dX5_pass_4 : decode cX5_pass 4 = .ok (.invokestatic 72, 3) := by decide +kernel
theorem dX5_pass_7 : decode cX5_pass 7 = .ok (.aload_n 0, 1) := by decide +kernel
theorem dX5_pass_8 : decode cX5_pass 8 = .ok (.getfield 58, 3) := by decide +kernel
theorem dX5_pass_11 : decode cX5_pass 11 = .ok (.iload_n 1, 1) := by decide +kernel
theorem dX5_pass_12 : decode cX5_pass 12 = .ok (.iadd, 1) := by decide +kernel
theorem dX5_pass_13 : decode cX5_pass 13 = .ok (.sipush 5000, 3) := by decide +kernel
theorem dX5_pass_16 : decode cX5_pass 16 = .ok (.if_icmp .le 13, 3) := by decide +kernel
theorem dX5_pass_19 : decode cX5_pass 19 = .ok (.new 61, 3) := by decide +kernel
theorem dX5_pass_22 : decode cX5_pass 22 = .ok (.dup, 1) := by decide +kernel
theorem dX5_pass_23 : decode cX5_pass 23 = .ok (.ldc 207, 2) := by decide +kernel
theorem dX5_pass_25 : decode cX5_pass 25 = .ok (.invokespecial 65, 3) := by decide +kernel
theorem dX5_pass_28 : decode cX5_pass 28 = .ok (.athrow, 1) := by decide +kernel
theorem dX5_pass_29 : decode cX5_pass 29 = .ok (.aload_n 0, 1) := by decide +kernel
theorem dX5_pass_30 : decode cX5_pass 30 = .ok (.dup, 1) := by decide +kernel
theorem dX5_pass_31 : decode cX5_pass 31 = .ok (.getfield 58, 3) := by decide +kernel
theorem dX5_pass_34 : decode cX5_pass 34 = .ok (.iload_n 1, 1) := by decide +kernel
theorem dX5_pass_35 : decode cX5_pass 35 = .ok (.iadd, 1) := by decide +kernel
theorem dX5_pass_36 : decode cX5_pass 36 = .ok (.putfield 58, 3) := by decide +kernel
theorem dX5_pass_39 : decode cX5_pass 39 = .ok (.aload_n 0, 1) := by decide +kernel
theorem dX5_pass_40 : decode cX5_pass 40 = .ok (.getfield 58, 3) := by decide +kernel
theorem dX5_pass_43 : decode cX5_pass 43 = .ok (.ireturn, 1) := by decide +kernel
theorem dX5_today_0 : decode cX5_today 0 = .ok (.aload_n 0, 1) := by decide +kernel
theorem dX5_today_1 : decode cX5_today 1 = .ok (.getfield 58, 3) := by decide +kernel
theorem dX5_today_4 : decode cX5_today 4 = .ok (.ireturn, 1) := by decide +kernel
theorem dX5_needPiece_0 : decode cX5_needPiece 0 = .ok (.iload_n 1, 1) := by decide +kernel
theorem dX5_needPiece_1 : decode cX5_needPiece 1 = .ok (.ifCond .lt 11, 3) := by decide +kernel
theorem dX5_needPiece_4 : decode cX5_needPiece 4 = .ok (.iload_n 1, 1) := by decide +kernel
theorem dX5_needPiece_5 : decode cX5_needPiece 5 = .ok (.aload_n 0, 1) := by decide +kernel
theorem dX5_needPiece_6 : decode cX5_needPiece 6 = .ok (.getfield 48, 3) := by decide +kernel
theorem dX5_needPiece_9 : decode cX5_needPiece 9 = .ok (.if_icmp .lt 13, 3) := by decide +kernel
theorem dX5_needPiece_12 : decode cX5_needPiece 12 = .ok (.new 209, 3) := by decide +kernel
theorem dX5_needPiece_15 : decode cX5_needPiece 15 = .ok (.dup, 1) := by decide +kernel
theorem dX5_needPiece_16 : decode cX5_needPiece 16 = .ok (.ldc 211, 2) := by decide +kernel
theorem dX5_needPiece_18 : decode cX5_needPiece 18 = .ok (.invokespecial 213, 3) := by decide +kernel
theorem dX5_needPiece_21 : decode cX5_needPiece 21 = .ok (.athrow, 1) := by decide +kernel
theorem dX5_needPiece_22 : decode cX5_needPiece 22 = .ok (.return_, 1) := by decide +kernel
theorem dX5_needNote_0 : decode cX5_needNote 0 = .ok (.aload_n 0, 1) := by decide +kernel
theorem dX5_needNote_1 : decode cX5_needNote 1 = .ok (.iload_n 1, 1) := by decide +kernel
theorem dX5_needNote_2 : decode cX5_needNote 2 = .ok (.invokevirtual 68, 3) := by decide +kernel
theorem dX5_needNote_5 : decode cX5_needNote 5 = .ok (.iload_n 2, 1) := by decide +kernel
theorem dX5_needNote_6 : decode cX5_needNote 6 = .ok (.ifCond .lt 16, 3) := by decide +kernel
theorem dX5_needNote_9 : decode cX5_needNote 9 = .ok (.iload_n 2, 1) := by decide +kernel
theorem dX5_needNote_10 : decode cX5_needNote 10 = .ok (.aload_n 0, 1) := by decide +kernel
theorem dX5_needNote_11 : decode cX5_needNote 11 = .ok (.getfield 11, 3) := by decide +kernel
theorem dX5_needNote_14 : decode cX5_needNote 14 = .ok (.iload_n 1, 1) := by decide +kernel
theorem dX5_needNote_15 : decode cX5_needNote 15 = .ok (.aaload, 1) := by decide +kernel
theorem dX5_needNote_16 : decode cX5_needNote 16 = .ok (.getfield 85, 3) := by decide +kernel
theorem dX5_needNote_19 : decode cX5_needNote 19 = .ok (.if_icmp .lt 13, 3) := by decide +kernel
theorem dX5_needNote_22 : decode cX5_needNote 22 = .ok (.new 209, 3) := by decide +kernel
theorem dX5_needNote_25 : decode cX5_needNote 25 = .ok (.dup, 1) := by decide +kernel
theorem dX5_needNote_26 : decode cX5_needNote 26 = .ok (.ldc 214, 2) := by decide +kernel
theorem dX5_needNote_28 : decode cX5_needNote 28 = .ok (.invokespecial 213, 3) := by decide +kernel
theorem dX5_needNote_31 : decode cX5_needNote 31 = .ok (.athrow, 1) := by decide +kernel
theorem dX5_needNote_32 : decode cX5_needNote 32 = .ok (.return_, 1) := by decide +kernel
theorem dX5_needInstrument_0 : decode cX5_needInstrument 0 = .ok (.iload_n 1, 1) := by decide +kernel
theorem dX5_needInstrument_1 : decode cX5_needInstrument 1 = .ok (.ifCond .lt 11, 3) := by decide +kernel
theorem dX5_needInstrument_4 : decode cX5_needInstrument 4 = .ok (.iload_n 1, 1) := by decide +kernel
theorem dX5_needInstrument_5 : decode cX5_needInstrument 5 = .ok (.aload_n 0, 1) := by decide +kernel
theorem dX5_needInstrument_6 : decode cX5_needInstrument 6 = .ok (.getfield 52, 3) := by decide +kernel
theorem dX5_needInstrument_9 : decode cX5_needInstrument 9 = .ok (.if_icmp .lt 13, 3) := by decide +kernel
theorem dX5_needInstrument_12 : decode cX5_needInstrument 12 = .ok (.new 209, 3) := by decide +kernel
theorem dX5_needInstrument_15 : decode cX5_needInstrument 15 = .ok (.dup, 1) := by decide +kernel
theorem dX5_needInstrument_16 : decode cX5_needInstrument 16 = .ok (.ldc 216, 2) := by decide +kernel
theorem dX5_needInstrument_18 : decode cX5_needInstrument 18 = .ok (.invokespecial 213, 3) := by decide +kernel
theorem dX5_needInstrument_21 : decode cX5_needInstrument 21 = .ok (.athrow, 1) := by decide +kernel
theorem dX5_needInstrument_22 : decode cX5_needInstrument 22 = .ok (.return_, 1) := by decide +kernel
theorem dX5_needOrder_0 : decode cX5_needOrder 0 = .ok (.iload_n 1, 1) := by decide +kernel
theorem dX5_needOrder_1 : decode cX5_needOrder 1 = .ok (.ifCond .lt 11, 3) := by decide +kernel
theorem dX5_needOrder_4 : decode cX5_needOrder 4 = .ok (.iload_n 1, 1) := by decide +kernel
theorem dX5_needOrder_5 : decode cX5_needOrder 5 = .ok (.aload_n 0, 1) := by decide +kernel
theorem dX5_needOrder_6 : decode cX5_needOrder 6 = .ok (.getfield 55, 3) := by decide +kernel
theorem dX5_needOrder_9 : decode cX5_needOrder 9 = .ok (.if_icmp .lt 13, 3) := by decide +kernel
theorem dX5_needOrder_12 : decode cX5_needOrder 12 = .ok (.new 209, 3) := by decide +kernel
theorem dX5_needOrder_15 : decode cX5_needOrder 15 = .ok (.dup, 1) := by decide +kernel
theorem dX5_needOrder_16 : decode cX5_needOrder 16 = .ok (.ldc 218, 2) := by decide +kernel
theorem dX5_needOrder_18 : decode cX5_needOrder 18 = .ok (.invokespecial 213, 3) := by decide +kernel
theorem dX5_needOrder_21 : decode cX5_needOrder 21 = .ok (.athrow, 1) := by decide +kernel
theorem dX5_needOrder_22 : decode cX5_needOrder 22 = .ok (.return_, 1) := by decide +kernel
theorem dX5_needPupil_0 : decode cX5_needPupil 0 = .ok (.iload_n 0, 1) := by decide +kernel
theorem dX5_needPupil_1 : decode cX5_needPupil 1 = .ok (.iconst 0, 1) := by decide +kernel
theorem dX5_needPupil_2 : decode cX5_needPupil 2 = .ok (.iconst 4, 1) := by decide +kernel
theorem dX5_needPupil_3 : decode cX5_needPupil 3 = .ok (.invokestatic 72, 3) := by decide +kernel
theorem dX5_needPupil_6 : decode cX5_needPupil 6 = .ok (.return_, 1) := by decide +kernel
theorem dX5_needRange_0 : decode cX5_needRange 0 = .ok (.iload_n 0, 1) := by decide +kernel
theorem dX5_needRange_1 : decode cX5_needRange 1 = .ok (.iload_n 1, 1) := by decide +kernel
theorem dX5_needRange_2 : decode cX5_needRange 2 = .ok (.if_icmp .lt 8, 3) := by decide +kernel
theorem dX5_needRange_5 : decode cX5_needRange 5 = .ok (.iload_n 0, 1) := by decide +kernel
theorem dX5_needRange_6 : decode cX5_needRange 6 = .ok (.iload_n 2, 1) := by decide +kernel
theorem dX5_needRange_7 : decode cX5_needRange 7 = .ok (.if_icmp .le 13, 3) := by decide +kernel
theorem dX5_needRange_10 : decode cX5_needRange 10 = .ok (.new 220, 3) := by decide +kernel
theorem dX5_needRange_13 : decode cX5_needRange 13 = .ok (.dup, 1) := by decide +kernel
theorem dX5_needRange_14 : decode cX5_needRange 14 = .ok (.ldc 222, 2) := by decide +kernel
theorem dX5_needRange_16 : decode cX5_needRange 16 = .ok (.invokespecial 224, 3) := by decide +kernel
theorem dX5_needRange_19 : decode cX5_needRange 19 = .ok (.athrow, 1) := by decide +kernel
theorem dX5_needRange_20 : decode cX5_needRange 20 = .ok (.return_, 1) := by decide +kernel
theorem dX5_findBest_0 : decode cX5_findBest 0 = .ok (.aload_n 0, 1) := by decide +kernel
theorem dX5_findBest_1 : decode cX5_findBest 1 = .ok (.iload_n 1, 1) := by decide +kernel
theorem dX5_findBest_2 : decode cX5_findBest 2 = .ok (.invokevirtual 68, 3) := by decide +kernel
theorem dX5_findBest_5 : decode cX5_findBest 5 = .ok (.aload_n 0, 1) := by decide +kernel
theorem dX5_findBest_6 : decode cX5_findBest 6 = .ok (.iload_n 2, 1) := by decide +kernel
theorem dX5_findBest_7 : decode cX5_findBest 7 = .ok (.invokevirtual 104, 3) := by decide +kernel
theorem dX5_findBest_10 : decode cX5_findBest 10 = .ok (.aload_n 0, 1) := by decide +kernel
theorem dX5_findBest_11 : decode cX5_findBest 11 = .ok (.getfield 44, 3) := by decide +kernel
theorem dX5_findBest_14 : decode cX5_findBest 14 = .ok (.aload_n 0, 1) := by decide +kernel
theorem dX5_findBest_15 : decode cX5_findBest 15 = .ok (.getfield 11, 3) := by decide +kernel
theorem dX5_findBest_18 : decode cX5_findBest 18 = .ok (.iload_n 1, 1) := by decide +kernel
theorem dX5_findBest_19 : decode cX5_findBest 19 = .ok (.aaload, 1) := by decide +kernel
theorem dX5_findBest_20 : decode cX5_findBest 20 = .ok (.aload_n 0, 1) := by decide +kernel
theorem dX5_findBest_21 : decode cX5_findBest 21 = .ok (.getfield 18, 3) := by decide +kernel
theorem dX5_findBest_24 : decode cX5_findBest 24 = .ok (.iload_n 2, 1) := by decide +kernel
theorem dX5_findBest_25 : decode cX5_findBest 25 = .ok (.aaload, 1) := by decide +kernel
theorem dX5_findBest_26 : decode cX5_findBest 26 = .ok (.invokevirtual 225, 3) := by decide +kernel
theorem dX5_findBest_29 : decode cX5_findBest 29 = .ok (.ireturn, 1) := by decide +kernel
theorem dX5_learnableShift_0 : decode cX5_learnableShift 0 = .ok (.aload_n 0, 1) := by decide +kernel
theorem dX5_learnableShift_1 : decode cX5_learnableShift 1 = .ok (.getfield 18, 3) := by decide +kernel
theorem dX5_learnableShift_4 : decode cX5_learnableShift 4 = .ok (.iload_n 3, 1) := by decide +kernel
theorem dX5_learnableShift_5 : decode cX5_learnableShift 5 = .ok (.aaload, 1) := by decide +kernel
theorem dX5_learnableShift_6 : decode cX5_learnableShift 6 = .ok (.astore 4, 2) := by decide +kernel
theorem dX5_learnableShift_8 : decode cX5_learnableShift 8 = .ok (.aload 4, 2) := by decide +kernel
theorem dX5_learnableShift_10 : decode cX5_learnableShift 10 = .ok (.getfield 110, 3) := by decide +kernel
theorem dX5_learnableShift_13 : decode cX5_learnableShift 13 = .ok (.iload_n 1, 1) := by decide +kernel
theorem dX5_learnableShift_14 : decode cX5_learnableShift 14 = .ok (.if_icmp .ne 21, 3) := by decide +kernel
theorem dX5_learnableShift_17 : decode cX5_learnableShift 17 = .ok (.aload_n 0, 1) := by decide +kernel
theorem dX5_learnableShift_18 : decode cX5_learnableShift 18 = .ok (.getfield 44, 3) := by decide +kernel
theorem dX5_learnableShift_21 : decode cX5_learnableShift 21 = .ok (.aload_n 0, 1) := by decide +kernel
theorem dX5_learnableShift_22 : decode cX5_learnableShift 22 = .ok (.getfield 11, 3) := by decide +kernel
theorem dX5_learnableShift_25 : decode cX5_learnableShift 25 = .ok (.iload_n 2, 1) := by decide +kernel
theorem dX5_learnableShift_26 : decode cX5_learnableShift 26 = .ok (.aaload, 1) := by decide +kernel
theorem dX5_learnableShift_27 : decode cX5_learnableShift 27 = .ok (.aload 4, 2) := by decide +kernel
theorem dX5_learnableShift_29 : decode cX5_learnableShift 29 = .ok (.invokevirtual 225, 3) := by decide +kernel
theorem dX5_learnableShift_32 : decode cX5_learnableShift 32 = .ok (.ifCond .ne 5, 3) := by decide +kernel
theorem dX5_learnableShift_35 : decode cX5_learnableShift 35 = .ok (.iconst (-1), 1) := by decide +kernel
theorem dX5_learnableShift_36 : decode cX5_learnableShift 36 = .ok (.ireturn, 1) := by decide +kernel
theorem dX5_learnableShift_37 : decode cX5_learnableShift 37 = .ok (.aload_n 0, 1) := by decide +kernel
theorem dX5_learnableShift_38 : decode cX5_learnableShift 38 = .ok (.getfield 44, 3) := by decide +kernel
theorem dX5_learnableShift_41 : decode cX5_learnableShift 41 = .ok (.getfield 126, 3) := by decide +kernel
theorem dX5_learnableShift_44 : decode cX5_learnableShift 44 = .ok (.aload_n 0, 1) := by decide +kernel
theorem dX5_learnableShift_45 : decode cX5_learnableShift 45 = .ok (.getfield 25, 3) := by decide +kernel
theorem dX5_learnableShift_48 : decode cX5_learnableShift 48 = .ok (.iload_n 1, 1) := by decide +kernel
theorem dX5_learnableShift_49 : decode cX5_learnableShift 49 = .ok (.aaload, 1) := by decide +kernel
theorem dX5_learnableShift_50 : decode cX5_learnableShift 50 = .ok (.getfield 153, 3) := by decide +kernel
theorem dX5_learnableShift_53 : decode cX5_learnableShift 53 = .ok (.if_icmp .gt 13, 3) := by decide +kernel
theorem dX5_learnableShift_56 : decode cX5_learnableShift 56 = .ok (.aload_n 0, 1) := by decide +kernel
theorem dX5_learnableShift_57 : decode cX5_learnableShift 57 = .ok (.getfield 44, 3) := by decide +kernel
theorem dX5_learnableShift_60 : decode cX5_learnableShift 60 = .ok (.getfield 126, 3) := by decide +kernel
theorem dX5_learnableShift_63 : decode cX5_learnableShift 63 = .ok (.goto 4, 3) := by decide +kernel
theorem dX5_learnableShift_66 : decode cX5_learnableShift 66 = .ok (.iconst (-1), 1) := by decide +kernel
theorem dX5_learnableShift_67 : decode cX5_learnableShift 67 = .ok (.ireturn, 1) := by decide +kernel
theorem dX5_easiestShift_0 : decode cX5_easiestShift 0 = .ok (.iconst (-1), 1) := by decide +kernel
theorem dX5_easiestShift_1 : decode cX5_easiestShift 1 = .ok (.istore_n 3, 1) := by decide +kernel
theorem dX5_easiestShift_2 : decode cX5_easiestShift 2 = .ok (.iconst 0, 1) := by decide +kernel
theorem dX5_easiestShift_3 : decode cX5_easiestShift 3 = .ok (.istore 4, 2) := by decide +kernel
theorem dX5_easiestShift_5 : decode cX5_easiestShift 5 = .ok (.iload 4, 2) := by decide +kernel
theorem dX5_easiestShift_7 : decode cX5_easiestShift 7 = .ok (.aload_n 0, 1) := by decide +kernel
theorem dX5_easiestShift_8 : decode cX5_easiestShift 8 = .ok (.getfield 52, 3) := by decide +kernel
theorem dX5_easiestShift_11 : decode cX5_easiestShift 11 = .ok (.if_icmp .ge 39, 3) := by decide +kernel
theorem dX5_easiestShift_14 : decode cX5_easiestShift 14 = .ok (.aload_n 0, 1) := by decide +kernel
theorem dX5_easiestShift_15 : decode cX5_easiestShift 15 = .ok (.iload_n 1, 1) := by decide +kernel
theorem dX5_easiestShift_16 : decode cX5_easiestShift 16 = .ok (.iload_n 2, 1) := by decide +kernel
theorem dX5_easiestShift_17 : decode cX5_easiestShift 17 = .ok (.iload 4, 2) := by decide +kernel
theorem dX5_easiestShift_19 : decode cX5_easiestShift 19 = .ok (.invokevirtual 144, 3) := by decide +kernel
theorem dX5_easiestShift_22 : decode cX5_easiestShift 22 = .ok (.istore 5, 2) := by decide +kernel
theorem dX5_easiestShift_24 : decode cX5_easiestShift 24 = .ok (.iload 5, 2) := by decide +kernel
theorem dX5_easiestShift_26 : decode cX5_easiestShift 26 = .ok (.iconst (-1), 1) := by decide +kernel
theorem dX5_easiestShift_27 : decode cX5_easiestShift 27 = .ok (.if_icmp .eq 17, 3) := by decide +kernel
theorem dX5_easiestShift_30 : decode cX5_easiestShift 30 = .ok (.iload_n 3, 1) := by decide +kernel
theorem dX5_easiestShift_31 : decode cX5_easiestShift 31 = .ok (.iconst (-1), 1) := by decide +kernel
theorem dX5_easiestShift_32 : decode cX5_easiestShift 32 = .ok (.if_icmp .eq 9, 3) := by decide +kernel
theorem dX5_easiestShift_35 : decode cX5_easiestShift 35 = .ok (.iload 5, 2) := by decide +kernel
theorem dX5_easiestShift_37 : decode cX5_easiestShift 37 = .ok (.iload_n 3, 1) := by decide +kernel
theorem dX5_easiestShift_38 : decode cX5_easiestShift 38 = .ok (.if_icmp .ge 6, 3) := by decide +kernel
theorem dX5_easiestShift_41 : decode cX5_easiestShift 41 = .ok (.iload 5, 2) := by decide +kernel
theorem dX5_easiestShift_43 : decode cX5_easiestShift 43 = .ok (.istore_n 3, 1) := by decide +kernel
theorem dX5_easiestShift_44 : decode cX5_easiestShift 44 = .ok (.iinc 4 1, 3) := by decide +kernel
theorem dX5_easiestShift_47 : decode cX5_easiestShift 47 = .ok (.goto (-42), 3) := by decide +kernel
theorem dX5_easiestShift_50 : decode cX5_easiestShift 50 = .ok (.iload_n 3, 1) := by decide +kernel
theorem dX5_easiestShift_51 : decode cX5_easiestShift 51 = .ok (.ireturn, 1) := by decide +kernel
theorem dX5_ordersAtWork_0 : decode cX5_ordersAtWork 0 = .ok (.iconst 0, 1) := by decide +kernel
theorem dX5_ordersAtWork_1 : decode cX5_ordersAtWork 1 = .ok (.istore_n 1, 1) := by decide +kernel
theorem dX5_ordersAtWork_2 : decode cX5_ordersAtWork 2 = .ok (.iconst 0, 1) := by decide +kernel
theorem dX5_ordersAtWork_3 : decode cX5_ordersAtWork 3 = .ok (.istore_n 2, 1) := by decide +kernel
theorem dX5_ordersAtWork_4 : decode cX5_ordersAtWork 4 = .ok (.iload_n 2, 1) := by decide +kernel
theorem dX5_ordersAtWork_5 : decode cX5_ordersAtWork 5 = .ok (.aload_n 0, 1) := by decide +kernel
theorem dX5_ordersAtWork_6 : decode cX5_ordersAtWork 6 = .ok (.getfield 55, 3) := by decide +kernel
theorem dX5_ordersAtWork_9 : decode cX5_ordersAtWork 9 = .ok (.if_icmp .ge 40, 3) := by decide +kernel
theorem dX5_ordersAtWork_12 : decode cX5_ordersAtWork 12 = .ok (.aload_n 0, 1) := by decide +kernel
theorem dX5_ordersAtWork_13 : decode cX5_ordersAtWork 13 = .ok (.getfield 32, 3) := by decide +kernel
theorem dX5_ordersAtWork_16 : decode cX5_ordersAtWork 16 = .ok (.iload_n 2, 1) := by decide +kernel
theorem dX5_ordersAtWork_17 : decode cX5_ordersAtWork 17 = .ok (.aaload, 1) := by decide +kernel
theorem dX5_ordersAtWork_18 : decode cX5_ordersAtWork 18 = .ok (.getfield 186, 3) := by decide +kernel
theorem dX5_ordersAtWork_21 : decode cX5_ordersAtWork 21 = .ok (.ifCond .ne 22, 3) := by decide +kernel
theorem dX5_ordersAtWork_24 : decode cX5_ordersAtWork 24 = .ok (.aload_n 0, 1) := by decide +kernel
theorem dX5_ordersAtWork_25 : decode cX5_ordersAtWork 25 = .ok (.getfield 32, 3) := by decide +kernel
theorem dX5_ordersAtWork_28 : decode cX5_ordersAtWork 28 = .ok (.iload_n 2, 1) := by decide +kernel
theorem dX5_ordersAtWork_29 : decode cX5_ordersAtWork 29 = .ok (.aaload, 1) := by decide +kernel
