theorem dX6_init_0 : decode cX6_init 0 = .ok (.aload_n 0, 1) := by decide +kernel
theorem dX6_init_1 : decode cX6_init 1 = .ok (.invokespecial 1, 3) := by decide +kernel
theorem dX6_init_4 : decode cX6_init 4 = .ok (.aload_n 0, 1) := by decide +kernel
theorem dX6_init_5 : decode cX6_init 5 = .ok (.bipush 8, 2) := by decide +kernel
theorem dX6_init_7 : decode cX6_init 7 = .ok (.newarray .int, 2) := by decide +kernel
theorem dX6_init_9 : decode cX6_init 9 = .ok (.putfield 7, 3) := by decide +kernel
theorem dX6_init_12 : decode cX6_init 12 = .ok (.aload_n 0, 1) := by decide +kernel
theorem dX6_init_13 : decode cX6_init 13 = .ok (.sipush 128, 3) := by decide +kernel
theorem dX6_init_16 : decode cX6_init 16 = .ok (.newarray .int, 2) := by decide +kernel
theorem dX6_init_18 : decode cX6_init 18 = .ok (.putfield 13, 3) := by decide +kernel
theorem dX6_init_21 : decode cX6_init 21 = .ok (.aload_n 0, 1) := by decide +kernel
theorem dX6_init_22 : decode cX6_init 22 = .ok (.bipush 8, 2) := by decide +kernel
theorem dX6_init_24 : decode cX6_init 24 = .ok (.newarray .int, 2) := by decide +kernel
theorem dX6_init_26 : decode cX6_init 26 = .ok (.putfield 16, 3) := by decide +kernel
theorem dX6_init_29 : decode cX6_init 29 = .ok (.aload_n 0, 1) := by decide +kernel
theorem dX6_init_30 : decode cX6_init 30 = .ok (.bipush 8, 2) := by decide +kernel
theorem dX6_init_32 : decode cX6_init 32 = .ok (.newarray .int, 2) := by decide +kernel
theorem dX6_init_34 : decode cX6_init 34 = .ok (.putfield 19, 3) := by decide +kernel
theorem dX6_init_37 : decode cX6_init 37 = .ok (.aload_n 0, 1) := by decide +kernel
theorem dX6_init_38 : decode cX6_init 38 = .ok (.bipush 32, 2) := by decide +kernel
theorem dX6_init_40 : decode cX6_init 40 = .ok (.newarray .int, 2) := by decide +kernel
theorem dX6_init_42 : decode cX6_init 42 = .ok (.putfield 22, 3) := by decide +kernel
theorem dX6_init_45 : decode cX6_init 45 = .ok (.aload_n 0, 1) := by decide +kernel
theorem dX6_init_46 : decode cX6_init 46 = .ok (.iconst 5, 1) := by decide +kernel
theorem dX6_init_47 : decode cX6_init 47 = .ok (.newarray .int, 2) := by decide +kernel
theorem dX6_init_49 : decode cX6_init 49 = .ok (.putfield 25, 3) := by decide +kernel
theorem dX6_init_52 : decode cX6_init 52 = .ok (.aload_n 0, 1) := by decide +kernel
theorem dX6_init_53 : decode cX6_init 53 = .ok (.iconst 5, 1) := by decide +kernel
theorem dX6_init_54 : decode cX6_init 54 = .ok (.newarray .int, 2) := by decide +kernel
theorem dX6_init_56 : decode cX6_init 56 = .ok (.putfield 28, 3) := by decide +kernel
theorem dX6_init_59 : decode cX6_init 59 = .ok (.aload_n 0, 1) := by decide +kernel
theorem dX6_init_60 : decode cX6_init 60 = .ok (.iconst 4, 1) := by decide +kernel
theorem dX6_init_61 : decode cX6_init 61 = .ok (.newarray .int, 2) := by decide +kernel
theorem dX6_init_63 : decode cX6_init 63 = .ok (.putfield 31, 3) := by decide +kernel
theorem dX6_init_66 : decode cX6_init 66 = .ok (.aload_n 0, 1) := by decide +kernel
theorem dX6_init_67 : decode cX6_init 67 = .ok (.bipush 20, 2) := by decide +kernel
theorem dX6_init_69 : decode cX6_init 69 = .ok (.newarray .int, 2) := by decide +kernel
theorem dX6_init_71 : decode cX6_init 71 = .ok (.putfield 34, 3) := by decide +kernel
theorem dX6_init_74 : decode cX6_init 74 = .ok (.aload_n 0, 1) := by decide +kernel
theorem dX6_init_75 : decode cX6_init 75 = .ok (.bipush 20, 2) := by decide +kernel
theorem dX6_init_77 : decode cX6_init 77 = .ok (.newarray .int, 2) := by decide +kernel
theorem dX6_init_79 : decode cX6_init 79 = .ok (.putfield 37, 3) := by decide +kernel
theorem dX6_init_82 : decode cX6_init 82 = .ok (.aload_n 0, 1) := by decide +kernel
theorem dX6_init_83 : decode cX6_init 83 = .ok (.bipush 20, 2) := by decide +kernel
theorem dX6_init_85 : decode cX6_init 85 = .ok (.newarray .int, 2) := by decide +kernel
theorem dX6_init_87 : decode cX6_init 87 = .ok (.putfield 40, 3) := by decide +kernel
theorem dX6_init_90 : decode cX6_init 90 = .ok (.aload_n 0, 1) := by decide +kernel
theorem dX6_init_91 : decode cX6_init 91 = .ok (.bipush 20, 2) := by decide +kernel
theorem dX6_init_93 : decode cX6_init 93 = .ok (.newarray .boolean, 2) := by decide +kernel
theorem dX6_init_95 : decode cX6_init 95 = .ok (.putfield 43, 3) := by decide +kernel
theorem dX6_init_98 : decode cX6_init 98 = .ok (.aload_n 0, 1) := by decide +kernel
theorem dX6_init_99 : decode cX6_init 99 = .ok (.sipush 238, 3) := by decide +kernel
theorem dX6_init_102 : decode cX6_init 102 = .ok (.newarray .int, 2) := by decide +kernel
theorem dX6_init_104 : decode cX6_init 104 = .ok (.putfield 47, 3) := by decide +kernel
theorem dX6_init_107 : decode cX6_init 107 = .ok (.aload_n 0, 1) := by decide +kernel
theorem dX6_init_108 : decode cX6_init 108 = .ok (.bipush 16, 2) := by decide +kernel
theorem dX6_init_110 : decode cX6_init 110 = .ok (.newarray .int, 2) := by decide +kernel
theorem dX6_init_112 : decode cX6_init 112 = .ok (.putfield 50, 3) := by decide +kernel
theorem dX6_init_115 : decode cX6_init 115 = .ok (.iconst 0, 1) := by decide +kernel
theorem dX6_init_116 : decode cX6_init 116 = .ok (.istore_n 1, 1) := by decide +kernel
theorem dX6_init_117 : decode cX6_init 117 = .ok (.iload_n 1, 1) := by decide +kernel
theorem dX6_init_118 : decode cX6_init 118 = .ok (.iconst 5, 1) := by decide +kernel
theorem dX6_init_119 : decode cX6_init 119 = .ok (.if_icmp .ge 16, 3) := by decide +kernel
theorem dX6_init_122 : decode cX6_init 122 = .ok (.aload_n 0, 1) := by decide +kernel
theorem dX6_init_123 : decode cX6_init 123 = .ok (.getfield 25, 3) := by decide +kernel
theorem dX6_init_126 : decode cX6_init 126 = .ok (.iload_n 1, 1) := by decide +kernel
theorem dX6_init_127 : decode cX6_init 127 = .ok (.iconst 2, 1) := by decide +kernel
theorem dX6_init_128 : decode cX6_init 128 = .ok (.iastore, 1) := by decide +kernel
theorem dX6_init_129 : decode cX6_init 129 = .ok (.iinc 1 1, 3) := by decide +kernel
theorem dX6_init_132 : decode cX6_init 132 = .ok (.goto (-15), 3) := by decide +kernel
theorem dX6_init_135 : decode cX6_init 135 = .ok (.return_, 1) := by decide +kernel
theorem dX6_thrown_0 : decode cX6_thrown 0 = .ok (.aload_n 0, 1) := by decide +kernel
theorem dX6_thrown_1 : decode cX6_thrown 1 = .ok (.getfield 53, 3) := by decide +kernel
theorem dX6_thrown_4 : decode cX6_thrown 4 = .ok (.ireturn, 1) := by decide +kernel
theorem dX6_in_0 : decode cX6_in 0 = .ok (.iload_n 0, 1) := by decide +kernel
theorem dX6_in_1 : decode cX6_in 1 = .ok (.iload_n 1, 1) := by decide +kernel
theorem dX6_in_2 : decode cX6_in 2 = .ok (.if_icmp .lt 12, 3) := by decide +kernel
theorem dX6_in_5 : decode cX6_in 5 = .ok (.iload_n 0, 1) := by decide +kernel
theorem dX6_in_6 : decode cX6_in 6 = .ok (.iload_n 2, 1) := by decide +kernel
theorem dX6_in_7 : decode cX6_in 7 = .ok (.if_icmp .gt 7, 3) := by decide +kernel
theorem dX6_in_10 : decode cX6_in 10 = .ok (.iconst 1, 1) := by decide +kernel
theorem dX6_in_11 : decode cX6_in 11 = .ok (.goto 4, 3) := by decide +kernel
theorem dX6_in_14 : decode cX6_in 14 = .ok (.iconst 0, 1) := by decide +kernel
theorem dX6_in_15 : decode cX6_in 15 = .ok (.ireturn, 1) := by decide +kernel
theorem dX6_goes_0 : decode cX6_goes 0 = .ok (.aload_n 0, 1) := by decide +kernel
theorem dX6_goes_1 : decode cX6_goes 1 = .ok (.iload_n 1, 1) := by decide +kernel
theorem dX6_goes_2 : decode cX6_goes 2 = .ok (.ifCond .ne 7, 3) := by decide +kernel
theorem dX6_goes_5 : decode cX6_goes 5 = .ok (.iconst 1, 1) := by decide +kernel
theorem dX6_goes_6 : decode cX6_goes 6 = .ok (.goto 20, 3) := by decide +kernel
theorem dX6_goes_9 : decode cX6_goes 9 = .ok (.iload_n 2, 1) := by decide +kernel
theorem dX6_goes_10 : decode cX6_goes 10 = .ok (.ifCond .ne 7, 3) := by decide +kernel
theorem dX6_goes_13 : decode cX6_goes 13 = .ok (.iconst 2, 1) := by decide +kernel
theorem dX6_goes_14 : decode cX6_goes 14 = .ok (.goto 12, 3) := by decide +kernel
theorem dX6_goes_17 : decode cX6_goes 17 = .ok (.iload_n 3, 1) := by decide +kernel
theorem dX6_goes_18 : decode cX6_goes 18 = .ok (.ifCond .ne 7, 3) := by decide +kernel
theorem dX6_goes_21 : decode cX6_goes 21 = .ok (.iconst 3, 1) := by decide +kernel
theorem dX6_goes_22 : decode cX6_goes 22 = .ok (.goto 4, 3) := by decide +kernel
theorem dX6_goes_25 : decode cX6_goes 25 = .ok (.iconst 0, 1) := by decide +kernel
theorem dX6_goes_26 : decode cX6_goes 26 = .ok (.putfield 53, 3) := by decide +kernel
theorem dX6_goes_29 : decode cX6_goes 29 = .ok (.aload_n 0, 1) := by decide +kernel
theorem dX6_goes_30 : decode cX6_goes 30 = .ok (.getfield 53, 3) := by decide +kernel
theorem dX6_goes_33 : decode cX6_goes 33 = .ok (.ifCond .ne 7, 3) := by decide +kernel
theorem dX6_goes_36 : decode cX6_goes 36 = .ok (.iconst 1, 1) := by decide +kernel
theorem dX6_goes_37 : decode cX6_goes 37 = .ok (.goto 4, 3) := by decide +kernel
theorem dX6_goes_40 : decode cX6_goes 40 = .ok (.iconst 0, 1) := by decide +kernel
theorem dX6_goes_41 : decode cX6_goes 41 = .ok (.ireturn, 1) := by decide +kernel
theorem dX6_told_0 : decode cX6_told 0 = .ok (.aload_n 0, 1) := by decide +kernel
theorem dX6_told_1 : decode cX6_told 1 = .ok (.iconst 0, 1) := by decide +kernel
theorem dX6_told_2 : decode cX6_told 2 = .ok (.putfield 53, 3) := by decide +kernel
theorem dX6_told_5 : decode cX6_told 5 = .ok (.iload_n 1, 1) := by decide +kernel
theorem dX6_told_6 : decode cX6_told 6 = .ok (.ireturn, 1) := by decide +kernel
theorem dX6_isPiece_0 : decode cX6_isPiece 0 = .ok (.iload_n 1, 1) := by decide +kernel
theorem dX6_isPiece_1 : decode cX6_isPiece 1 = .ok (.iconst 0, 1) := by decide +kernel
theorem dX6_isPiece_2 : decode cX6_isPiece 2 = .ok (.aload_n 0, 1) := by decide +kernel
theorem dX6_isPiece_3 : decode cX6_isPiece 3 = .ok (.getfield 57, 3) := by decide +kernel
theorem dX6_isPiece_6 : decode cX6_isPiece 6 = .ok (.iconst 1, 1) := by decide +kernel
theorem dX6_isPiece_7 : decode cX6_isPiece 7 = .ok (.isub, 1) := by decide +kernel
theorem dX6_isPiece_8 : decode cX6_isPiece 8 = .ok (.invokestatic 60, 3) := by decide +kernel
theorem dX6_isPiece_11 : decode cX6_isPiece 11 = .ok (.ireturn, 1) := by decide +kernel
theorem dX6_isNote_0 : decode cX6_isNote 0 = .ok (.aload_n 0, 1) := by decide +kernel
theorem dX6_isNote_1 : decode cX6_isNote 1 = .ok (.iload_n 1, 1) := by decide +kernel
theorem dX6_isNote_2 : decode cX6_isNote 2 = .ok (.invokevirtual 64, 3) := by decide +kernel
theorem dX6_isNote_5 : decode cX6_isNote 5 = .ok (.ifCond .eq 23, 3) := by decide +kernel
theorem dX6_isNote_8 : decode cX6_isNote 8 = .ok (.iload_n 2, 1) := by decide +kernel
theorem dX6_isNote_9 : decode cX6_isNote 9 = .ok (.iconst 0, 1) := by decide +kernel
theorem dX6_isNote_10 : decode cX6_isNote 10 = .ok (.aload_n 0, 1) := by decide +kernel
theorem dX6_isNote_11 : decode cX6_isNote 11 = .ok (.getfield 7, 3) := by decide +kernel
theorem dX6_isNote_14 : decode cX6_isNote 14 = .ok (.iload_n 1, 1) := by decide +kernel
theorem dX6_isNote_15 : decode cX6_isNote 15 = .ok (.iaload, 1) := by decide +kernel
theorem dX6_isNote_16 : decode cX6_isNote 16 = .ok (.iconst 1, 1) := by decide +kernel
theorem dX6_isNote_17 : decode cX6_isNote 17 = .ok (.isub, 1) := by decide +kernel
theorem dX6_isNote_18 : decode cX6_isNote 18 = .ok (.invokestatic 60, 3) := by decide +kernel
theorem dX6_isNote_21 : decode cX6_isNote 21 = .ok (.ifCond .eq 7, 3) := by decide +kernel
theorem dX6_isNote_24 : decode cX6_isNote 24 = .ok (.iconst 1, 1) := by decide +kernel
theorem dX6_isNote_25 : decode cX6_isNote 25 = .ok (.goto 4, 3) := by decide +kernel
theorem dX6_isNote_28 : decode cX6_isNote 28 = .ok (.iconst 0, 1) := by decide +kernel
theorem dX6_isNote_29 : decode cX6_isNote 29 = .ok (.ireturn, 1) := by decide +kernel
theorem dX6_isInstrument_0 : decode cX6_isInstrument 0 = .ok (.iload_n 1, 1) := by decide +kernel
theorem dX6_isInstrument_1 : decode cX6_isInstrument 1 = .ok (.iconst 0, 1) := by decide +kernel
theorem dX6_isInstrument_2 : decode cX6_isInstrument 2 = .ok (.aload_n 0, 1) := by decide +kernel
theorem dX6_isInstrument_3 : decode cX6_isInstrument 3 = .ok (.getfield 68, 3) := by decide +kernel
theorem dX6_isInstrument_6 : decode cX6_isInstrument 6 = .ok (.iconst 1, 1) := by decide +kernel
theorem dX6_isInstrument_7 : decode cX6_isInstrument 7 = .ok (.isub, 1) := by decide +kernel
theorem dX6_isInstrument_8 : decode cX6_isInstrument 8 = .ok (.invokestatic 60, 3) := by decide +kernel
theorem dX6_isInstrument_11 : decode cX6_isInstrument 11 = .ok (.ireturn, 1) := by decide +kernel
theorem dX6_isOrder_0 : decode cX6_isOrder 0 = .ok (.iload_n 1, 1) := by decide +kernel
theorem dX6_isOrder_1 : decode cX6_isOrder 1 = .ok (.iconst 0, 1) := by decide +kernel
theorem dX6_isOrder_2 : decode cX6_isOrder 2 = .ok (.aload_n 0, 1) := by decide +kernel
theorem dX6_isOrder_3 : decode cX6_isOrder 3 = .ok (.getfield 71, 3) := by decide +kernel
theorem dX6_isOrder_6 : decode cX6_isOrder 6 = .ok (.iconst 1, 1) := by decide +kernel
theorem dX6_isOrder_7 : decode cX6_isOrder 7 = .ok (.isub, 1) := by decide +kernel
theorem dX6_isOrder_8 : decode cX6_isOrder 8 = .ok (.invokestatic 60, 3) := by decide +kernel
theorem dX6_isOrder_11 : decode cX6_isOrder 11 = .ok (.ireturn, 1) := by decide +kernel
theorem dX6_isPupil_0 : decode cX6_isPupil 0 = .ok (.iload_n 0, 1) := by decide +kernel
theorem dX6_isPupil_1 : decode cX6_isPupil 1 = .ok (.iconst 0, 1) := by decide +kernel
theorem dX6_isPupil_2 : decode cX6_isPupil 2 = .ok (.iconst 4, 1) := by decide +kernel
theorem dX6_isPupil_3 : decode cX6_isPupil 3 = .ok (.invokestatic 60, 3) := by decide +kernel
theorem dX6_isPupil_6 : decode cX6_isPupil 6 = .ok (.ireturn, 1) := by decide +kernel
theorem dX6_begin_0 : decode cX6_begin 0 = .ok (.aload_n 0, 1) := by decide +kernel
theorem dX6_begin_1 : decode cX6_begin 1 = .ok (.aload_n 0, 1) := by decide +kernel
theorem dX6_begin_2 : decode cX6_begin 2 = .ok (.getfield 57, 3) := by decide +kernel
theorem dX6_begin_5 : decode cX6_begin 5 = .ok (.bipush 8, 2) := by decide +kernel
theorem dX6_begin_7 : decode cX6_begin 7 = .ok (.if_icmp .ge 7, 3) := by decide +kernel
theorem dX6_begin_10 : decode cX6_begin 10 = .ok (.iconst 1, 1) := by decide +kernel
theorem dX6_begin_11 : decode cX6_begin 11 = .ok (.goto 4, 3) := by decide +kernel
theorem dX6_begin_14 : decode cX6_begin 14 = .ok (.iconst 0, 1) := by decide +kernel
theorem dX6_begin_15 : decode cX6_begin 15 = .ok (.iconst 1, 1) := by decide +kernel
theorem dX6_begin_16 : decode cX6_begin 16 = .ok (.iconst 1, 1) := by decide +kernel
theorem dX6_begin_17 : decode cX6_begin 17 = .ok (.invokevirtual 74, 3) := by decide +kernel
theorem dX6_begin_20 : decode cX6_begin 20 = .ok (.ifCond .ne 5, 3) := by decide +kernel
theorem dX6_begin_23 : decode cX6_begin 23 = .ok (.iconst 0, 1) := by decide +kernel
theorem dX6_begin_24 : decode cX6_begin 24 = .ok (.ireturn, 1) := by decide +kernel
theorem dX6_begin_25 : decode cX6_begin 25 = .ok (.aload_n 0, 1) := by decide +kernel
theorem dX6_begin_26 : decode cX6_begin 26 = .ok (.dup, 1) := by decide +kernel
theorem dX6_begin_27 : decode cX6_begin 27 = .ok (.getfield 57, 3) := by decide +kernel
theorem dX6_begin_30 : decode cX6_begin 30 = .ok (.iconst 1, 1) := by decide +kernel
theorem dX6_begin_31 : decode cX6_begin 31 = .ok (.iadd, 1) := by decide +kernel
theorem dX6_begin_32 : decode cX6_begin 32 = .ok (.putfield 57, 3) := by decide +kernel
theorem dX6_begin_35 : decode cX6_begin 35 = .ok (.aload_n 0, 1) := by decide +kernel
theorem dX6_begin_36 : decode cX6_begin 36 = .ok (.getfield 57, 3) := by decide +kernel
theorem dX6_begin_39 : decode cX6_begin 39 = .ok (.iconst 1, 1) := by decide +kernel
theorem dX6_begin_40 : decode cX6_begin 40 = .ok (.isub, 1) := by decide +kernel
theorem dX6_begin_41 : decode cX6_begin 41 = .ok (.ireturn, 1) := by decide +kernel
theorem dX6_addNote_0 : decode cX6_addNote 0 = .ok (.aload_n 0, 1) := by decide +kernel
theorem dX6_addNote_1 : decode cX6_addNote 1 = .ok (.iload_n 1, 1) := by decide +kernel
theorem dX6_addNote_2 : decode cX6_addNote 2 = .ok (.invokevirtual 64, 3) := by decide +kernel
theorem dX6_addNote_5 : decode cX6_addNote 5 = .ok (.istore_n 3, 1) := by decide +kernel
theorem dX6_addNote_6 : decode cX6_addNote 6 = .ok (.aload_n 0, 1) := by decide +kernel
theorem dX6_addNote_7 : decode cX6_addNote 7 = .ok (.iload_n 3, 1) := by decide +kernel
theorem dX6_addNote_8 : decode cX6_addNote 8 = .ok (.iload_n 2, 1) := by decide +kernel
theorem dX6_addNote_9 : decode cX6_addNote 9 = .ok (.iconst 0, 1) := by decide +kernel
theorem dX6_addNote_10 : decode cX6_addNote 10 = .ok (.bipush 80, 2) := by decide +kernel
theorem dX6_addNote_12 : decode cX6_addNote 12 = .ok (.invokestatic 60, 3) := by decide +kernel
theorem dX6_addNote_15 : decode cX6_addNote 15 = .ok (.iload_n 3, 1) := by decide +kernel
theorem dX6_addNote_16 : decode cX6_addNote 16 = .ok (.ifCond .eq 18, 3) := by decide +kernel
theorem dX6_addNote_19 : decode cX6_addNote 19 = .ok (.aload_n 0, 1) := by decide +kernel
theorem dX6_addNote_20 : decode cX6_addNote 20 = .ok (.getfield 7, 3) := by decide +kernel
theorem dX6_addNote_23 : decode cX6_addNote 23 = .ok (.iload_n 1, 1) := by decide +kernel
theorem dX6_addNote_24 : decode cX6_addNote 24 = .ok (.iaload, 1) := by decide +kernel
theorem dX6_addNote_25 : decode cX6_addNote 25 = .ok (.bipush 16, 2) := by decide +kernel
theorem dX6_addNote_27 : decode cX6_addNote 27 = .ok (.if_icmp .ge 7, 3) := by decide +kernel
theorem dX6_addNote_30 : decode cX6_addNote 30 = .ok (.iconst 1, 1) := by decide +kernel
theorem dX6_addNote_31 : decode cX6_addNote 31 = .ok (.goto 4, 3) := by decide +kernel
theorem dX6_addNote_34 : decode cX6_addNote 34 = .ok (.iconst 0, 1) := by decide +kernel
theorem dX6_addNote_35 : decode cX6_addNote 35 = .ok (.invokevirtual 74, 3) := by decide +kernel
theorem dX6_addNote_38 : decode cX6_addNote 38 = .ok (.ifCond .ne 5, 3) := by decide +kernel
theorem dX6_addNote_41 : decode cX6_addNote 41 = .ok (.iconst 0, 1) := by decide +kernel
theorem dX6_addNote_42 : decode cX6_addNote 42 = .ok (.ireturn, 1) := by decide +kernel
theorem dX6_addNote_43 : decode cX6_addNote 43 = .ok (.aload_n 0, 1) := by decide +kernel
theorem dX6_addNote_44 : decode cX6_addNote 44 = .ok (.getfield 13, 3) := by decide +kernel
theorem dX6_addNote_47 : decode cX6_addNote 47 = .ok (.bipush 16, 2) := by decide +kernel
theorem dX6_addNote_49 : decode cX6_addNote 49 = .ok (.iload_n 1, 1) := by decide +kernel
theorem dX6_addNote_50 : decode cX6_addNote 50 = .ok (.imul, 1) := by decide +kernel
theorem dX6_addNote_51 : decode cX6_addNote 51 = .ok (.aload_n 0, 1) := by decide +kernel
theorem dX6_addNote_52 : decode cX6_addNote 52 = .ok (.getfield 7, 3) := by decide +kernel
theorem dX6_addNote_55 : decode cX6_addNote 55 = .ok (.iload_n 1, 1) := by decide +kernel
theorem dX6_addNote_56 : decode cX6_addNote 56 = .ok (.iaload, 1) := by decide +kernel
theorem dX6_addNote_57 : decode cX6_addNote 57 = .ok (.iadd, 1) := by decide +kernel
theorem dX6_addNote_58 : decode cX6_addNote 58 = .ok (.iload_n 2, 1) := by decide +kernel
theorem dX6_addNote_59 : decode cX6_addNote 59 = .ok (.iastore, 1) := by decide +kernel
theorem dX6_addNote_60 : decode cX6_addNote 60 = .ok (.aload_n 0, 1) := by decide +kernel
theorem dX6_addNote_61 : decode cX6_addNote 61 = .ok (.getfield 7, 3) := by decide +kernel
theorem dX6_addNote_64 : decode cX6_addNote 64 = .ok (.iload_n 1, 1) := by decide +kernel
theorem dX6_addNote_65 : decode cX6_addNote 65 = .ok (.dup2, 1) := by decide +kernel
theorem dX6_addNote_66 : decode cX6_addNote 66 = .ok (.iaload, 1) := by decide +kernel
theorem dX6_addNote_67 : decode cX6_addNote 67 = .ok (.iconst 1, 1) := by decide +kernel
theorem dX6_addNote_68 : decode cX6_addNote 68 = .ok (.iadd, 1) := by decide +kernel
theorem dX6_addNote_69 : decode cX6_addNote 69 = .ok (.iastore, 1) := by decide +kernel
theorem dX6_addNote_70 : decode cX6_addNote 70 = .ok (.aload_n 0, 1) := by decide +kernel
theorem dX6_addNote_71 : decode cX6_addNote 71 = .ok (.getfield 7, 3) := by decide +kernel
theorem dX6_addNote_74 : decode cX6_addNote 74 = .ok (.iload_n 1, 1) := by decide +kernel
theorem dX6_addNote_75 : decode cX6_addNote 75 = .ok (.iaload, 1) := by decide +kernel
theorem dX6_addNote_76 : decode cX6_addNote 76 = .ok (.ireturn, 1) := by decide +kernel
theorem dX6_transpose_0 : decode cX6_transpose 0 = .ok (.aload_n 0, 1) := by decide +kernel
theorem dX6_transpose_1 : decode cX6_transpose 1 = .ok (.iload_n 1, 1) := by decide +kernel
theorem dX6_transpose_2 : decode cX6_transpose 2 = .ok (.invokevirtual 64, 3) := by decide +kernel
theorem dX6_transpose_5 : decode cX6_transpose 5 = .ok (.istore_n 3, 1) := by decide +kernel
theorem dX6_transpose_6 : decode cX6_transpose 6 = .ok (.iload_n 2, 1) := by decide +kernel
theorem dX6_transpose_7 : decode cX6_transpose 7 = .ok (.bipush (-40), 2) := by decide +kernel
theorem dX6_transpose_9 : decode cX6_transpose 9 = .ok (.bipush 40, 2) := by decide +kernel
theorem dX6_transpose_11 : decode cX6_transpose 11 = .ok (.invokestatic 60, 3) := by decide +kernel
theorem dX6_transpose_14 : decode cX6_transpose 14 = .ok (.istore 4, 2) := by decide +kernel
theorem dX6_transpose_16 : decode cX6_transpose 16 = .ok (.iconst 1, 1) := by decide +kernel
theorem dX6_transpose_17 : decode cX6_transpose 17 = .ok (.istore 5, 2) := by decide +kernel
theorem dX6_transpose_19 : decode cX6_transpose 19 = .ok (.iconst 0, 1) := by decide +kernel
theorem dX6_transpose_20 : decode cX6_transpose 20 = .ok (.istore 6, 2) := by decide +kernel
theorem dX6_transpose_22 : decode cX6_transpose 22 = .ok (.iload_n 3, 1) := by decide +kernel
theorem dX6_transpose_23 : decode cX6_transpose 23 = .ok (.ifCond .eq 60, 3) := by decide +kernel
theorem dX6_transpose_26 : decode cX6_transpose 26 = .ok (.iload 4, 2) := by decide +kernel
theorem dX6_transpose_28 : decode cX6_transpose 28 = .ok (.ifCond .eq 55, 3) := by decide +kernel
theorem dX6_transpose_31 : decode cX6_transpose 31 = .ok (.iload 6, 2) := by decide +kernel
theorem dX6_transpose_33 : decode cX6_transpose 33 = .ok (.aload_n 0, 1) := by decide +kernel
theorem dX6_transpose_34 : decode cX6_transpose 34 = .ok (.getfield 7, 3) := by decide +kernel
theorem dX6_transpose_37 : decode cX6_transpose 37 = .ok (.iload_n 1, 1) := by decide +kernel
theorem dX6_transpose_38 : decode cX6_transpose 38 = .ok (.iaload, 1) := by decide +kernel
theorem dX6_transpose_39 : decode cX6_transpose 39 = .ok (.if_icmp .ge 44, 3) := by decide +kernel
theorem dX6_transpose_42 : decode cX6_transpose 42 = .ok (.iload 5, 2) := by decide +kernel
theorem dX6_transpose_44 : decode cX6_transpose 44 = .ok (.ifCond .eq 30, 3) := by decide +kernel
theorem dX6_transpose_47 : decode cX6_transpose 47 = .ok (.aload_n 0, 1) := by decide +kernel
theorem dX6_transpose_48 : decode cX6_transpose 48 = .ok (.getfield 13, 3) := by decide +kernel
theorem dX6_transpose_51 : decode cX6_transpose 51 = .ok (.bipush 16, 2) := by decide +kernel
theorem dX6_transpose_53 : decode cX6_transpose 53 = .ok (.iload_n 1, 1) := by decide +kernel
theorem dX6_transpose_54 : decode cX6_transpose 54 = .ok (.imul, 1) := by decide +kernel
theorem dX6_transpose_55 : decode cX6_transpose 55 = .ok (.iload 6, 2) := by decide +kernel
theorem dX6_transpose_57 : decode cX6_transpose 57 = .ok (.iadd, 1) := by decide +kernel
theorem dX6_transpose_58 : decode cX6_transpose 58 = .ok (.iaload, 1) := by decide +kernel
theorem dX6_transpose_59 : decode cX6_transpose 59 = .ok (.iload_n 2, 1) := by decide +kernel
theorem dX6_transpose_60 : decode cX6_transpose 60 = .ok (.iadd, 1) := by decide +kernel
theorem dX6_transpose_61 : decode cX6_transpose 61 = .ok (.iconst 0, 1) := by decide +kernel
theorem dX6_transpose_62 : decode cX6_transpose 62 = .ok (.bipush 80, 2) := by decide +kernel
theorem dX6_transpose_64 : decode cX6_transpose 64 = .ok (.invokestatic 60, 3) := by decide +kernel
theorem dX6_transpose_67 : decode cX6_transpose 67 = .ok (.ifCond .eq 7, 3) := by decide +kernel
theorem dX6_transpose_70 : decode cX6_transpose 70 = .ok (.iconst 1, 1) := by decide +kernel
theorem dX6_transpose_71 : decode cX6_transpose 71 = .ok (.goto 4, 3) := by decide +kernel
theorem dX6_transpose_74 : decode cX6_transpose 74 = .ok (.iconst 0, 1) := by decide +kernel
theorem dX6_transpose_75 : decode cX6_transpose 75 = .ok (.istore 5, 2) := by decide +kernel
theorem dX6_transpose_77 : decode cX6_transpose 77 = .ok (.iinc 6 1, 3) := by decide +kernel
theorem dX6_transpose_80 : decode cX6_transpose 80 = .ok (.goto (-58), 3) := by decide +kernel
theorem dX6_transpose_83 : decode cX6_transpose 83 = .ok (.aload_n 0, 1) := by decide +kernel
theorem dX6_transpose_84 : decode cX6_transpose 84 = .ok (.iload_n 3, 1) := by decide +kernel
theorem dX6_transpose_85 : decode cX6_transpose 85 = .ok (.iload 4, 2) := by decide +kernel
theorem dX6_transpose_87 : decode cX6_transpose 87 = .ok (.iload 5, 2) := by decide +kernel
theorem dX6_transpose_89 : decode cX6_transpose 89 = .ok (.invokevirtual 74, 3) := by decide +kernel
theorem dX6_transpose_92 : decode cX6_transpose 92 = .ok (.ifCond .eq 39, 3) := by decide +kernel
theorem dX6_transpose_95 : decode cX6_transpose 95 = .ok (.iconst 0, 1) := by decide +kernel
theorem dX6_transpose_96 : decode cX6_transpose 96 = .ok (.istore 6, 2) := by decide +kernel
theorem dX6_transpose_98 : decode cX6_transpose 98 = .ok (.iload 6, 2) := by decide +kernel
theorem dX6_transpose_100 : decode cX6_transpose 100 = .ok (.aload_n 0, 1) := by decide +kernel
theorem dX6_transpose_101 : decode cX6_transpose 101 = .ok (.getfield 7, 3) := by decide +kernel
theorem dX6_transpose_104 : decode cX6_transpose 104 = .ok (.iload_n 1, 1) := by decide +kernel
theorem dX6_transpose_105 : decode cX6_transpose 105 = .ok (.iaload, 1) := by decide +kernel
theorem dX6_transpose_106 : decode cX6_transpose 106 = .ok (.if_icmp .ge 25, 3) := by decide +kernel
theorem dX6_transpose_109 : decode cX6_transpose 109 = .ok (.aload_n 0, 1) := by decide +kernel
theorem dX6_transpose_110 : decode cX6_transpose 110 = .ok (.getfield 13, 3) := by decide +kernel
theorem dX6_transpose_113 : decode cX6_transpose 113 = .ok (.bipush 16, 2) := by decide +kernel
theorem dX6_transpose_115 : decode cX6_transpose 115 = .ok (.iload_n 1, 1) := by decide +kernel
theorem dX6_transpose_116 : decode cX6_transpose 116 = .ok (.imul, 1) := by decide +kernel
theorem dX6_transpose_117 : decode cX6_transpose 117 = .ok (.iload 6, 2) := by decide +kernel
theorem dX6_transpose_119 : decode cX6_transpose 119 = .ok (.iadd, 1) := by decide +kernel
theorem dX6_transpose_120 : decode cX6_transpose 120 = .ok (.dup2, 1) := by decide +kernel
theorem dX6_transpose_121 : decode cX6_transpose 121 = .ok (.iaload, 1) := by decide +kernel
theorem dX6_transpose_122 : decode cX6_transpose 122 = .ok (.iload_n 2, 1) := by decide +kernel
theorem dX6_transpose_123 : decode cX6_transpose 123 = .ok (.iadd, 1) := by decide +kernel
theorem dX6_transpose_124 : decode cX6_transpose 124 = .ok (.iastore, 1) := by decide +kernel
theorem dX6_transpose_125 : decode cX6_transpose 125 = .ok (.iinc 6 1, 3) := by decide +kernel
theorem dX6_transpose_128 : decode cX6_transpose 128 = .ok (.goto (-30), 3) := by decide +kernel
theorem dX6_transpose_131 : decode cX6_transpose 131 = .ok (.return_, 1) := by decide +kernel
theorem dX6_pitch_0 : decode cX6_pitch 0 = .ok (.aload_n 0, 1) := by decide +kernel
theorem dX6_pitch_1 : decode cX6_pitch 1 = .ok (.aload_n 0, 1) := by decide +kernel
theorem dX6_pitch_2 : decode cX6_pitch 2 = .ok (.iload_n 1, 1) := by decide +kernel
theorem dX6_pitch_3 : decode cX6_pitch 3 = .ok (.iload_n 2, 1) := by decide +kernel
theorem dX6_pitch_4 : decode cX6_pitch 4 = .ok (.invokevirtual 78, 3) := by decide +kernel
theorem dX6_pitch_7 : decode cX6_pitch 7 = .ok (.iconst 1, 1) := by decide +kernel
theorem dX6_pitch_8 : decode cX6_pitch 8 = .ok (.iconst 1, 1) := by decide +kernel
theorem dX6_pitch_9 : decode cX6_pitch 9 = .ok (.invokevirtual 74, 3) := by decide +kernel
theorem dX6_pitch_12 : decode cX6_pitch 12 = .ok (.ifCond .eq 17, 3) := by decide +kernel
theorem dX6_pitch_15 : decode cX6_pitch 15 = .ok (.aload_n 0, 1) := by decide +kernel
theorem dX6_pitch_16 : decode cX6_pitch 16 = .ok (.getfield 13, 3) := by decide +kernel
theorem dX6_pitch_19 : decode cX6_pitch 19 = .ok (.bipush 16, 2) := by decide +kernel
theorem dX6_pitch_21 : decode cX6_pitch 21 = .ok (.iload_n 1, 1) := by decide +kernel
theorem dX6_pitch_22 : decode cX6_pitch 22 = .ok (.imul, 1) := by decide +kernel
theorem dX6_pitch_23 : decode cX6_pitch 23 = .ok (.iload_n 2, 1) := by decide +kernel
theorem dX6_pitch_24 : decode cX6_pitch 24 = .ok (.iadd, 1) := by decide +kernel
theorem dX6_pitch_25 : decode cX6_pitch 25 = .ok (.iaload, 1) := by decide +kernel
theorem dX6_pitch_26 : decode cX6_pitch 26 = .ok (.goto 4, 3) := by decide +kernel
theorem dX6_pitch_29 : decode cX6_pitch 29 = .ok (.iconst 0, 1) := by decide +kernel
theorem dX6_pitch_30 : decode cX6_pitch 30 = .ok (.ireturn, 1) := by decide +kernel
theorem dX6_tune_0 : decode cX6_tune 0 = .ok (.aload_n 0, 1) := by decide +kernel
theorem dX6_tune_1 : decode cX6_tune 1 = .ok (.iload_n 1, 1) := by decide +kernel
theorem dX6_tune_2 : decode cX6_tune 2 = .ok (.invokevirtual 82, 3) := by decide +kernel
theorem dX6_tune_5 : decode cX6_tune 5 = .ok (.istore 4, 2) := by decide +kernel
theorem dX6_tune_7 : decode cX6_tune 7 = .ok (.aload_n 0, 1) := by decide +kernel
theorem dX6_tune_8 : decode cX6_tune 8 = .ok (.iload 4, 2) := by decide +kernel
theorem dX6_tune_10 : decode cX6_tune 10 = .ok (.iload_n 2, 1) := by decide +kernel
theorem dX6_tune_11 : decode cX6_tune 11 = .ok (.iconst 0, 1) := by decide +kernel
theorem dX6_tune_12 : decode cX6_tune 12 = .ok (.iconst 3, 1) := by decide +kernel
theorem dX6_tune_13 : decode cX6_tune 13 = .ok (.invokestatic 60, 3) := by decide +kernel
theorem dX6_tune_16 : decode cX6_tune 16 = .ok (.ifCond .eq 17, 3) := by decide +kernel
theorem dX6_tune_19 : decode cX6_tune 19 = .ok (.iload_n 3, 1) := by decide +kernel
theorem dX6_tune_20 : decode cX6_tune 20 = .ok (.iconst 0, 1) := by decide +kernel
theorem dX6_tune_21 : decode cX6_tune 21 = .ok (.bipush 60, 2) := by decide +kernel
theorem dX6_tune_23 : decode cX6_tune 23 = .ok (.invokestatic 60, 3) := by decide +kernel
theorem dX6_tune_26 : decode cX6_tune 26 = .ok (.ifCond .eq 7, 3) := by decide +kernel
theorem dX6_tune_29 : decode cX6_tune 29 = .ok (.iconst 1, 1) := by decide +kernel
theorem dX6_tune_30 : decode cX6_tune 30 = .ok (.goto 4, 3) := by decide +kernel
theorem dX6_tune_33 : decode cX6_tune 33 = .ok (.iconst 0, 1) := by decide +kernel
theorem dX6_tune_34 : decode cX6_tune 34 = .ok (.iconst 1, 1) := by decide +kernel
theorem dX6_tune_35 : decode cX6_tune 35 = .ok (.invokevirtual 74, 3) := by decide +kernel
theorem dX6_tune_38 : decode cX6_tune 38 = .ok (.ifCond .ne 5, 3) := by decide +kernel
theorem dX6_tune_41 : decode cX6_tune 41 = .ok (.iconst 0, 1) := by decide +kernel
theorem dX6_tune_42 : decode cX6_tune 42 = .ok (.ireturn, 1) := by decide +kernel
theorem dX6_tune_43 : decode cX6_tune 43 = .ok (.aload_n 0, 1) := by decide +kernel
theorem dX6_tune_44 : decode cX6_tune 44 = .ok (.getfield 22, 3) := by decide +kernel
theorem dX6_tune_47 : decode cX6_tune 47 = .ok (.iconst 4, 1) := by decide +kernel
theorem dX6_tune_48 : decode cX6_tune 48 = .ok (.iload_n 1, 1) := by decide +kernel
theorem dX6_tune_49 : decode cX6_tune 49 = .ok (.imul, 1) := by decide +kernel
theorem dX6_tune_50 : decode cX6_tune 50 = .ok (.iload_n 2, 1) := by decide +kernel
theorem dX6_tune_51 : decode cX6_tune 51 = .ok (.iadd, 1) := by decide +kernel
theorem dX6_tune_52 : decode cX6_tune 52 = .ok (.iaload, 1) := by decide +kernel
theorem dX6_tune_53 : decode cX6_tune 53 = .ok (.istore 5, 2) := by decide +kernel
theorem dX6_tune_55 : decode cX6_tune 55 = .ok (.aload_n 0, 1) := by decide +kernel
theorem dX6_tune_56 : decode cX6_tune 56 = .ok (.getfield 22, 3) := by decide +kernel
theorem dX6_tune_59 : decode cX6_tune 59 = .ok (.iconst 4, 1) := by decide +kernel
theorem dX6_tune_60 : decode cX6_tune 60 = .ok (.iload_n 1, 1) := by decide +kernel
theorem dX6_tune_61 : decode cX6_tune 61 = .ok (.imul, 1) := by decide +kernel
theorem dX6_tune_62 : decode cX6_tune 62 = .ok (.iload_n 2, 1) := by decide +kernel
theorem dX6_tune_63 : decode cX6_tune 63 = .ok (.iadd, 1) := by decide +kernel
theorem dX6_tune_64 : decode cX6_tune 64 = .ok (.iload_n 3, 1) := by decide +kernel
theorem dX6_tune_65 : decode cX6_tune 65 = .ok (.iastore, 1) := by decide +kernel
theorem dX6_tune_66 : decode cX6_tune 66 = .ok (.iload 5, 2) := by decide +kernel
theorem dX6_tune_68 : decode cX6_tune 68 = .ok (.ireturn, 1) := by decide +kernel
theorem dX6_owner_0 : decode cX6_owner 0 = .ok (.aload_n 0, 1) := by decide +kernel
theorem dX6_owner_1 : decode cX6_owner 1 = .ok (.aload_n 0, 1) := by decide +kernel
theorem dX6_owner_2 : decode cX6_owner 2 = .ok (.iload_n 1, 1) := by decide +kernel
theorem dX6_owner_3 : decode cX6_owner 3 = .ok (.invokevirtual 82, 3) := by decide +kernel
theorem dX6_owner_6 : decode cX6_owner 6 = .ok (.iconst 1, 1) := by decide +kernel
theorem dX6_owner_7 : decode cX6_owner 7 = .ok (.iconst 1, 1) := by decide +kernel
theorem dX6_owner_8 : decode cX6_owner 8 = .ok (.invokevirtual 74, 3) := by decide +kernel
theorem dX6_owner_11 : decode cX6_owner 11 = .ok (.ifCond .eq 12, 3) := by decide +kernel
theorem dX6_owner_14 : decode cX6_owner 14 = .ok (.aload_n 0, 1) := by decide +kernel
theorem dX6_owner_15 : decode cX6_owner 15 = .ok (.getfield 16, 3) := by decide +kernel
theorem dX6_owner_18 : decode cX6_owner 18 = .ok (.iload_n 1, 1) := by decide +kernel
theorem dX6_owner_19 : decode cX6_owner 19 = .ok (.iaload, 1) := by decide +kernel
theorem dX6_owner_20 : decode cX6_owner 20 = .ok (.goto 4, 3) := by decide +kernel
theorem dX6_owner_23 : decode cX6_owner 23 = .ok (.iconst 0, 1) := by decide +kernel
theorem dX6_owner_24 : decode cX6_owner 24 = .ok (.ireturn, 1) := by decide +kernel
theorem dX6_instruments_0 : decode cX6_instruments 0 = .ok (.aload_n 0, 1) := by decide +kernel
theorem dX6_instruments_1 : decode cX6_instruments 1 = .ok (.aload_n 0, 1) := by decide +kernel
theorem dX6_instruments_2 : decode cX6_instruments 2 = .ok (.getfield 68, 3) := by decide +kernel
theorem dX6_instruments_5 : decode cX6_instruments 5 = .ok (.invokevirtual 85, 3) := by decide +kernel
theorem dX6_instruments_8 : decode cX6_instruments 8 = .ok (.ireturn, 1) := by decide +kernel
theorem dX6_lies_0 : decode cX6_lies 0 = .ok (.aload_n 0, 1) := by decide +kernel
theorem dX6_lies_1 : decode cX6_lies 1 = .ok (.getfield 13, 3) := by decide +kernel
theorem dX6_lies_4 : decode cX6_lies 4 = .ok (.bipush 16, 2) := by decide +kernel
theorem dX6_lies_6 : decode cX6_lies 6 = .ok (.iload_n 1, 1) := by decide +kernel
theorem dX6_lies_7 : decode cX6_lies 7 = .ok (.imul, 1) := by decide +kernel
theorem dX6_lies_8 : decode cX6_lies 8 = .ok (.iload_n 2, 1) := by decide +kernel
theorem dX6_lies_9 : decode cX6_lies 9 = .ok (.iadd, 1) := by decide +kernel
theorem dX6_lies_10 : decode cX6_lies 10 = .ok (.iaload, 1) := by decide +kernel
theorem dX6_lies_11 : decode cX6_lies 11 = .ok (.aload_n 0, 1) := by decide +kernel
theorem dX6_lies_12 : decode cX6_lies 12 = .ok (.getfield 22, 3) := by decide +kernel
theorem dX6_lies_15 : decode cX6_lies 15 = .ok (.iconst 4, 1) := by decide +kernel
theorem dX6_lies_16 : decode cX6_lies 16 = .ok (.iload_n 3, 1) := by decide +kernel
theorem dX6_lies_17 : decode cX6_lies 17 = .ok (.imul, 1) := by decide +kernel
theorem dX6_lies_18 : decode cX6_lies 18 = .ok (.iload 4, 2) := by decide +kernel
theorem dX6_lies_20 : decode cX6_lies 20 = .ok (.iadd, 1) := by decide +kernel
theorem dX6_lies_21 : decode cX6_lies 21 = .ok (.iaload, 1) := by decide +kernel
theorem dX6_lies_22 : decode cX6_lies 22 = .ok (.isub, 1) := by decide +kernel
theorem dX6_lies_23 : decode cX6_lies 23 = .ok (.istore 6, 2) := by decide +kernel
theorem dX6_lies_25 : decode cX6_lies 25 = .ok (.iload 6, 2) := by decide +kernel
theorem dX6_lies_27 : decode cX6_lies 27 = .ok (.ifCond .eq 28, 3) := by decide +kernel
theorem dX6_lies_30 : decode cX6_lies 30 = .ok (.iload 6, 2) := by decide +kernel
theorem dX6_lies_32 : decode cX6_lies 32 = .ok (.iload 5, 2) := by decide +kernel
theorem dX6_lies_34 : decode cX6_lies 34 = .ok (.iload 5, 2) := by decide +kernel
theorem dX6_lies_36 : decode cX6_lies 36 = .ok (.iconst 3, 1) := by decide +kernel
theorem dX6_lies_37 : decode cX6_lies 37 = .ok (.iadd, 1) := by decide +kernel
theorem dX6_lies_38 : decode cX6_lies 38 = .ok (.invokestatic 60, 3) := by decide +kernel
theorem dX6_lies_41 : decode cX6_lies 41 = .ok (.ifCond .eq 18, 3) := by decide +kernel
theorem dX6_lies_44 : decode cX6_lies 44 = .ok (.iload 6, 2) := by decide +kernel
theorem dX6_lies_46 : decode cX6_lies 46 = .ok (.aload_n 0, 1) := by decide +kernel
theorem dX6_lies_47 : decode cX6_lies 47 = .ok (.getfield 19, 3) := by decide +kernel
theorem dX6_lies_50 : decode cX6_lies 50 = .ok (.iload_n 3, 1) := by decide +kernel
theorem dX6_lies_51 : decode cX6_lies 51 = .ok (.iaload, 1) := by decide +kernel
theorem dX6_lies_52 : decode cX6_lies 52 = .ok (.if_icmp .gt 7, 3) := by decide +kernel
theorem dX6_lies_55 : decode cX6_lies 55 = .ok (.iconst 1, 1) := by decide +kernel
theorem dX6_lies_56 : decode cX6_lies 56 = .ok (.goto 4, 3) := by decide +kernel
theorem dX6_lies_59 : decode cX6_lies 59 = .ok (.iconst 0, 1) := by decide +kernel
theorem dX6_lies_60 : decode cX6_lies 60 = .ok (.ireturn, 1) := by decide +kernel
theorem dX6_plays_0 : decode cX6_plays 0 = .ok (.iconst 0, 1) := by decide +kernel
theorem dX6_plays_1 : decode cX6_plays 1 = .ok (.istore 5, 2) := by decide +kernel
theorem dX6_plays_3 : decode cX6_plays 3 = .ok (.iconst 0, 1) := by decide +kernel
theorem dX6_plays_4 : decode cX6_plays 4 = .ok (.istore 6, 2) := by decide +kernel
theorem dX6_plays_6 : decode cX6_plays 6 = .ok (.iload 6, 2) := by decide +kernel
theorem dX6_plays_8 : decode cX6_plays 8 = .ok (.iconst 4, 1) := by decide +kernel
theorem dX6_plays_9 : decode cX6_plays 9 = .ok (.if_icmp .ge 35, 3) := by decide +kernel
theorem dX6_plays_12 : decode cX6_plays 12 = .ok (.iload 5, 2) := by decide +kernel
theorem dX6_plays_14 : decode cX6_plays 14 = .ok (.ifCond .ne 17, 3) := by decide +kernel
theorem dX6_plays_17 : decode cX6_plays 17 = .ok (.aload_n 0, 1) := by decide +kernel
theorem dX6_plays_18 : decode cX6_plays 18 = .ok (.iload_n 1, 1) := by decide +kernel
theorem dX6_plays_19 : decode cX6_plays 19 = .ok (.iload_n 2, 1) := by decide +kernel
theorem dX6_plays_20 : decode cX6_plays 20 = .ok (.iload_n 3, 1) := by decide +kernel
theorem dX6_plays_21 : decode cX6_plays 21 = .ok (.iload 6, 2) := by decide +kernel
theorem dX6_plays_23 : decode cX6_plays 23 = .ok (.iload 4, 2) := by decide +kernel
theorem dX6_plays_25 : decode cX6_plays 25 = .ok (.invokevirtual 89, 3) := by decide +kernel
theorem dX6_plays_28 : decode cX6_plays 28 = .ok (.ifCond .eq 7, 3) := by decide +kernel
theorem dX6_plays_31 : decode cX6_plays 31 = .ok (.iconst 1, 1) := by decide +kernel
theorem dX6_plays_32 : decode cX6_plays 32 = .ok (.goto 4, 3) := by decide +kernel
theorem dX6_plays_35 : decode cX6_plays 35 = .ok (.iconst 0, 1) := by decide +kernel
theorem dX6_plays_36 : decode cX6_plays 36 = .ok (.istore 5, 2) := by decide +kernel
theorem dX6_plays_38 : decode cX6_plays 38 = .ok (.iinc 6 1, 3) := by decide +kernel
theorem dX6_plays_41 : decode cX6_plays 41 = .ok (.goto (-35), 3) := by decide +kernel
theorem dX6_plays_44 : decode cX6_plays 44 = .ok (.iload 5, 2) := by decide +kernel
theorem dX6_plays_46 : decode cX6_plays 46 = .ok (.ireturn, 1) := by decide +kernel
theorem dX6_apart_0 : decode cX6_apart 0 = .ok (.iload_n 0, 1) := by decide +kernel
theorem dX6_apart_1 : decode cX6_apart 1 = .ok (.iload_n 1, 1) := by decide +kernel
theorem dX6_apart_2 : decode cX6_apart 2 = .ok (.if_icmp .ge 9, 3) := by decide +kernel
theorem dX6_apart_5 : decode cX6_apart 5 = .ok (.iload_n 1, 1) := by decide +kernel
theorem dX6_apart_6 : decode cX6_apart 6 = .ok (.iload_n 0, 1) := by decide +kernel
theorem dX6_apart_7 : decode cX6_apart 7 = .ok (.isub, 1) := by decide +kernel
theorem dX6_apart_8 : decode cX6_apart 8 = .ok (.goto 6, 3) := by decide +kernel
