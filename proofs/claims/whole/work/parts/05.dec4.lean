theorem dX8_init_0 : decode cX8_init 0 = .ok (.aload_n 0, 1) := by decide +kernel
theorem dX8_init_1 : decode cX8_init 1 = .ok (.invokespecial 1, 3) := by decide +kernel
theorem dX8_init_4 : decode cX8_init 4 = .ok (.aload_n 0, 1) := by decide +kernel
theorem dX8_init_5 : decode cX8_init 5 = .ok (.bipush 80, 2) := by decide +kernel
theorem dX8_init_7 : decode cX8_init 7 = .ok (.newarray .int, 2) := by decide +kernel
theorem dX8_init_9 : decode cX8_init 9 = .ok (.putfield 7, 3) := by decide +kernel
theorem dX8_init_12 : decode cX8_init 12 = .ok (.aload_n 0, 1) := by decide +kernel
theorem dX8_init_13 : decode cX8_init 13 = .ok (.sipush 192, 3) := by decide +kernel
theorem dX8_init_16 : decode cX8_init 16 = .ok (.newarray .int, 2) := by decide +kernel
theorem dX8_init_18 : decode cX8_init 18 = .ok (.putfield 13, 3) := by decide +kernel
theorem dX8_init_21 : decode cX8_init 21 = .ok (.aload_n 0, 1) := by decide +kernel
theorem dX8_init_22 : decode cX8_init 22 = .ok (.iconst 4, 1) := by decide +kernel
theorem dX8_init_23 : decode cX8_init 23 = .ok (.newarray .int, 2) := by decide +kernel
theorem dX8_init_25 : decode cX8_init 25 = .ok (.putfield 16, 3) := by decide +kernel
theorem dX8_init_28 : decode cX8_init 28 = .ok (.aload_n 0, 1) := by decide +kernel
theorem dX8_init_29 : decode cX8_init 29 = .ok (.sipush 192, 3) := by decide +kernel
theorem dX8_init_32 : decode cX8_init 32 = .ok (.newarray .int, 2) := by decide +kernel
theorem dX8_init_34 : decode cX8_init 34 = .ok (.putfield 19, 3) := by decide +kernel
theorem dX8_init_37 : decode cX8_init 37 = .ok (.aload_n 0, 1) := by decide +kernel
theorem dX8_init_38 : decode cX8_init 38 = .ok (.iconst 4, 1) := by decide +kernel
theorem dX8_init_39 : decode cX8_init 39 = .ok (.newarray .int, 2) := by decide +kernel
theorem dX8_init_41 : decode cX8_init 41 = .ok (.putfield 22, 3) := by decide +kernel
theorem dX8_init_44 : decode cX8_init 44 = .ok (.aload_n 0, 1) := by decide +kernel
theorem dX8_init_45 : decode cX8_init 45 = .ok (.bipush 40, 2) := by decide +kernel
theorem dX8_init_47 : decode cX8_init 47 = .ok (.newarray .int, 2) := by decide +kernel
theorem dX8_init_49 : decode cX8_init 49 = .ok (.putfield 25, 3) := by decide +kernel
theorem dX8_init_52 : decode cX8_init 52 = .ok (.aload_n 0, 1) := by decide +kernel
theorem dX8_init_53 : decode cX8_init 53 = .ok (.iconst 3, 1) := by decide +kernel
theorem dX8_init_54 : decode cX8_init 54 = .ok (.newarray .int, 2) := by decide +kernel
theorem dX8_init_56 : decode cX8_init 56 = .ok (.putfield 28, 3) := by decide +kernel
theorem dX8_init_59 : decode cX8_init 59 = .ok (.aload_n 0, 1) := by decide +kernel
theorem dX8_init_60 : decode cX8_init 60 = .ok (.iconst 3, 1) := by decide +kernel
theorem dX8_init_61 : decode cX8_init 61 = .ok (.newarray .boolean, 2) := by decide +kernel
theorem dX8_init_63 : decode cX8_init 63 = .ok (.putfield 31, 3) := by decide +kernel
theorem dX8_init_66 : decode cX8_init 66 = .ok (.aload_n 0, 1) := by decide +kernel
theorem dX8_init_67 : decode cX8_init 67 = .ok (.bipush 40, 2) := by decide +kernel
theorem dX8_init_69 : decode cX8_init 69 = .ok (.newarray .int, 2) := by decide +kernel
theorem dX8_init_71 : decode cX8_init 71 = .ok (.putfield 35, 3) := by decide +kernel
theorem dX8_init_74 : decode cX8_init 74 = .ok (.aload_n 0, 1) := by decide +kernel
theorem dX8_init_75 : decode cX8_init 75 = .ok (.bipush 40, 2) := by decide +kernel
theorem dX8_init_77 : decode cX8_init 77 = .ok (.newarray .int, 2) := by decide +kernel
theorem dX8_init_79 : decode cX8_init 79 = .ok (.putfield 38, 3) := by decide +kernel
theorem dX8_init_82 : decode cX8_init 82 = .ok (.aload_n 0, 1) := by decide +kernel
theorem dX8_init_83 : decode cX8_init 83 = .ok (.sipush 560, 3) := by decide +kernel
theorem dX8_init_86 : decode cX8_init 86 = .ok (.newarray .int, 2) := by decide +kernel
theorem dX8_init_88 : decode cX8_init 88 = .ok (.putfield 41, 3) := by decide +kernel
theorem dX8_init_91 : decode cX8_init 91 = .ok (.aload_n 0, 1) := by decide +kernel
theorem dX8_init_92 : decode cX8_init 92 = .ok (.bipush 80, 2) := by decide +kernel
theorem dX8_init_94 : decode cX8_init 94 = .ok (.newarray .int, 2) := by decide +kernel
theorem dX8_init_96 : decode cX8_init 96 = .ok (.putfield 44, 3) := by decide +kernel
theorem dX8_init_99 : decode cX8_init 99 = .ok (.aload_n 0, 1) := by decide +kernel
theorem dX8_init_100 : decode cX8_init 100 = .ok (.iconst 2, 1) := by decide +kernel
theorem dX8_init_101 : decode cX8_init 101 = .ok (.newarray .boolean, 2) := by decide +kernel
theorem dX8_init_103 : decode cX8_init 103 = .ok (.putfield 47, 3) := by decide +kernel
theorem dX8_init_106 : decode cX8_init 106 = .ok (.aload_n 0, 1) := by decide +kernel
theorem dX8_init_107 : decode cX8_init 107 = .ok (.bipush 6, 2) := by decide +kernel
theorem dX8_init_109 : decode cX8_init 109 = .ok (.newarray .int, 2) := by decide +kernel
theorem dX8_init_111 : decode cX8_init 111 = .ok (.putfield 50, 3) := by decide +kernel
theorem dX8_init_114 : decode cX8_init 114 = .ok (.aload_n 0, 1) := by decide +kernel
theorem dX8_init_115 : decode cX8_init 115 = .ok (.bipush 6, 2) := by decide +kernel
theorem dX8_init_117 : decode cX8_init 117 = .ok (.newarray .int, 2) := by decide +kernel
theorem dX8_init_119 : decode cX8_init 119 = .ok (.putfield 53, 3) := by decide +kernel
theorem dX8_init_122 : decode cX8_init 122 = .ok (.aload_n 0, 1) := by decide +kernel
theorem dX8_init_123 : decode cX8_init 123 = .ok (.bipush 6, 2) := by decide +kernel
theorem dX8_init_125 : decode cX8_init 125 = .ok (.newarray .int, 2) := by decide +kernel
theorem dX8_init_127 : decode cX8_init 127 = .ok (.putfield 56, 3) := by decide +kernel
theorem dX8_init_130 : decode cX8_init 130 = .ok (.aload_n 0, 1) := by decide +kernel
theorem dX8_init_131 : decode cX8_init 131 = .ok (.sipush 2401, 3) := by decide +kernel
theorem dX8_init_134 : decode cX8_init 134 = .ok (.newarray .int, 2) := by decide +kernel
theorem dX8_init_136 : decode cX8_init 136 = .ok (.putfield 59, 3) := by decide +kernel
theorem dX8_init_139 : decode cX8_init 139 = .ok (.aload_n 0, 1) := by decide +kernel
theorem dX8_init_140 : decode cX8_init 140 = .ok (.sipush 7203, 3) := by decide +kernel
theorem dX8_init_143 : decode cX8_init 143 = .ok (.newarray .int, 2) := by decide +kernel
theorem dX8_init_145 : decode cX8_init 145 = .ok (.putfield 62, 3) := by decide +kernel
theorem dX8_init_148 : decode cX8_init 148 = .ok (.aload_n 0, 1) := by decide +kernel
theorem dX8_init_149 : decode cX8_init 149 = .ok (.getfield 35, 3) := by decide +kernel
theorem dX8_init_152 : decode cX8_init 152 = .ok (.invokestatic 65, 3) := by decide +kernel
theorem dX8_init_155 : decode cX8_init 155 = .ok (.return_, 1) := by decide +kernel
theorem dX8_in_0 : decode cX8_in 0 = .ok (.lload_n 0, 1) := by decide +kernel
theorem dX8_in_1 : decode cX8_in 1 = .ok (.lload_n 2, 1) := by decide +kernel
theorem dX8_in_2 : decode cX8_in 2 = .ok (.lcmp, 1) := by decide +kernel
theorem dX8_in_3 : decode cX8_in 3 = .ok (.ifCond .lt 14, 3) := by decide +kernel
theorem dX8_in_6 : decode cX8_in 6 = .ok (.lload_n 0, 1) := by decide +kernel
theorem dX8_in_7 : decode cX8_in 7 = .ok (.lload 4, 2) := by decide +kernel
theorem dX8_in_9 : decode cX8_in 9 = .ok (.lcmp, 1) := by decide +kernel
theorem dX8_in_10 : decode cX8_in 10 = .ok (.ifCond .gt 7, 3) := by decide +kernel
theorem dX8_in_13 : decode cX8_in 13 = .ok (.iconst 1, 1) := by decide +kernel
theorem dX8_in_14 : decode cX8_in 14 = .ok (.goto 4, 3) := by decide +kernel
theorem dX8_in_17 : decode cX8_in 17 = .ok (.iconst 0, 1) := by decide +kernel
theorem dX8_in_18 : decode cX8_in 18 = .ok (.ireturn, 1) := by decide +kernel
theorem dX8_has_0 : decode cX8_has 0 = .ok (.iload_n 0, 1) := by decide +kernel
theorem dX8_has_1 : decode cX8_has 1 = .ok (.iload_n 1, 1) := by decide +kernel
theorem dX8_has_2 : decode cX8_has 2 = .ok (.ishr, 1) := by decide +kernel
theorem dX8_has_3 : decode cX8_has 3 = .ok (.iconst 1, 1) := by decide +kernel
theorem dX8_has_4 : decode cX8_has 4 = .ok (.iand, 1) := by decide +kernel
theorem dX8_has_5 : decode cX8_has 5 = .ok (.iconst 1, 1) := by decide +kernel
theorem dX8_has_6 : decode cX8_has 6 = .ok (.if_icmp .ne 7, 3) := by decide +kernel
theorem dX8_has_9 : decode cX8_has 9 = .ok (.iconst 1, 1) := by decide +kernel
theorem dX8_has_10 : decode cX8_has 10 = .ok (.goto 4, 3) := by decide +kernel
theorem dX8_has_13 : decode cX8_has 13 = .ok (.iconst 0, 1) := by decide +kernel
theorem dX8_has_14 : decode cX8_has 14 = .ok (.ireturn, 1) := by decide +kernel
theorem dX8_ones_0 : decode cX8_ones 0 = .ok (.iconst 0, 1) := by decide +kernel
theorem dX8_ones_1 : decode cX8_ones 1 = .ok (.istore_n 1, 1) := by decide +kernel
theorem dX8_ones_2 : decode cX8_ones 2 = .ok (.iconst 0, 1) := by decide +kernel
theorem dX8_ones_3 : decode cX8_ones 3 = .ok (.istore_n 2, 1) := by decide +kernel
theorem dX8_ones_4 : decode cX8_ones 4 = .ok (.iload_n 2, 1) := by decide +kernel
theorem dX8_ones_5 : decode cX8_ones 5 = .ok (.bipush 6, 2) := by decide +kernel
theorem dX8_ones_7 : decode cX8_ones 7 = .ok (.if_icmp .ge 17, 3) := by decide +kernel
theorem dX8_ones_10 : decode cX8_ones 10 = .ok (.iload_n 1, 1) := by decide +kernel
theorem dX8_ones_11 : decode cX8_ones 11 = .ok (.iload_n 0, 1) := by decide +kernel
theorem dX8_ones_12 : decode cX8_ones 12 = .ok (.iload_n 2, 1) := by decide +kernel
theorem dX8_ones_13 : decode cX8_ones 13 = .ok (.ishr, 1) := by decide +kernel
theorem dX8_ones_14 : decode cX8_ones 14 = .ok (.iconst 1, 1) := by decide +kernel
theorem dX8_ones_15 : decode cX8_ones 15 = .ok (.iand, 1) := by decide +kernel
theorem dX8_ones_16 : decode cX8_ones 16 = .ok (.iadd, 1) := by decide +kernel
theorem dX8_ones_17 : decode cX8_ones 17 = .ok (.istore_n 1, 1) := by decide +kernel
theorem dX8_ones_18 : decode cX8_ones 18 = .ok (.iinc 2 1, 3) := by decide +kernel
theorem dX8_ones_21 : decode cX8_ones 21 = .ok (.goto (-17), 3) := by decide +kernel
theorem dX8_ones_24 : decode cX8_ones 24 = .ok (.iload_n 1, 1) := by decide +kernel
theorem dX8_ones_25 : decode cX8_ones 25 = .ok (.ireturn, 1) := by decide +kernel
theorem dX8_power_0 : decode cX8_power 0 = .ok (.iconst 1, 1) := by decide +kernel
theorem dX8_power_1 : decode cX8_power 1 = .ok (.istore_n 2, 1) := by decide +kernel
theorem dX8_power_2 : decode cX8_power 2 = .ok (.iconst 0, 1) := by decide +kernel
theorem dX8_power_3 : decode cX8_power 3 = .ok (.istore_n 3, 1) := by decide +kernel
theorem dX8_power_4 : decode cX8_power 4 = .ok (.iload_n 3, 1) := by decide +kernel
theorem dX8_power_5 : decode cX8_power 5 = .ok (.iload_n 1, 1) := by decide +kernel
theorem dX8_power_6 : decode cX8_power 6 = .ok (.if_icmp .ge 13, 3) := by decide +kernel
theorem dX8_power_9 : decode cX8_power 9 = .ok (.iload_n 2, 1) := by decide +kernel
theorem dX8_power_10 : decode cX8_power 10 = .ok (.iload_n 0, 1) := by decide +kernel
theorem dX8_power_11 : decode cX8_power 11 = .ok (.imul, 1) := by decide +kernel
theorem dX8_power_12 : decode cX8_power 12 = .ok (.istore_n 2, 1) := by decide +kernel
theorem dX8_power_13 : decode cX8_power 13 = .ok (.iinc 3 1, 3) := by decide +kernel
theorem dX8_power_16 : decode cX8_power 16 = .ok (.goto (-12), 3) := by decide +kernel
theorem dX8_power_19 : decode cX8_power 19 = .ok (.iload_n 2, 1) := by decide +kernel
theorem dX8_power_20 : decode cX8_power 20 = .ok (.ireturn, 1) := by decide +kernel
theorem dX8_fresh_0 : decode cX8_fresh 0 = .ok (.iconst 0, 1) := by decide +kernel
theorem dX8_fresh_1 : decode cX8_fresh 1 = .ok (.istore_n 1, 1) := by decide +kernel
theorem dX8_fresh_2 : decode cX8_fresh 2 = .ok (.iload_n 1, 1) := by decide +kernel
theorem dX8_fresh_3 : decode cX8_fresh 3 = .ok (.bipush 40, 2) := by decide +kernel
theorem dX8_fresh_5 : decode cX8_fresh 5 = .ok (.if_icmp .ge 39, 3) := by decide +kernel
theorem dX8_fresh_8 : decode cX8_fresh 8 = .ok (.aload_n 0, 1) := by decide +kernel
theorem dX8_fresh_9 : decode cX8_fresh 9 = .ok (.iload_n 1, 1) := by decide +kernel
theorem dX8_fresh_10 : decode cX8_fresh 10 = .ok (.iload_n 1, 1) := by decide +kernel
theorem dX8_fresh_11 : decode cX8_fresh 11 = .ok (.bipush 16, 2) := by decide +kernel
theorem dX8_fresh_13 : decode cX8_fresh 13 = .ok (.if_icmp .lt 23, 3) := by decide +kernel
theorem dX8_fresh_16 : decode cX8_fresh 16 = .ok (.iload_n 1, 1) := by decide +kernel
theorem dX8_fresh_17 : decode cX8_fresh 17 = .ok (.bipush 31, 2) := by decide +kernel
theorem dX8_fresh_19 : decode cX8_fresh 19 = .ok (.if_icmp .ge 17, 3) := by decide +kernel
theorem dX8_fresh_22 : decode cX8_fresh 22 = .ok (.iload_n 1, 1) := by decide +kernel
theorem dX8_fresh_23 : decode cX8_fresh 23 = .ok (.bipush 16, 2) := by decide +kernel
theorem dX8_fresh_25 : decode cX8_fresh 25 = .ok (.isub, 1) := by decide +kernel
theorem dX8_fresh_26 : decode cX8_fresh 26 = .ok (.iconst 3, 1) := by decide +kernel
theorem dX8_fresh_27 : decode cX8_fresh 27 = .ok (.irem, 1) := by decide +kernel
theorem dX8_fresh_28 : decode cX8_fresh 28 = .ok (.iconst 2, 1) := by decide +kernel
theorem dX8_fresh_29 : decode cX8_fresh 29 = .ok (.if_icmp .ne 7, 3) := by decide +kernel
theorem dX8_fresh_32 : decode cX8_fresh 32 = .ok (.iconst 1, 1) := by decide +kernel
theorem dX8_fresh_33 : decode cX8_fresh 33 = .ok (.goto 4, 3) := by decide +kernel
theorem dX8_fresh_36 : decode cX8_fresh 36 = .ok (.iconst 0, 1) := by decide +kernel
theorem dX8_fresh_37 : decode cX8_fresh 37 = .ok (.iastore, 1) := by decide +kernel
theorem dX8_fresh_38 : decode cX8_fresh 38 = .ok (.iinc 1 1, 3) := by decide +kernel
theorem dX8_fresh_41 : decode cX8_fresh 41 = .ok (.goto (-39), 3) := by decide +kernel
theorem dX8_fresh_44 : decode cX8_fresh 44 = .ok (.return_, 1) := by decide +kernel
theorem dX8_layTrial_0 : decode cX8_layTrial 0 = .ok (.iconst 0, 1) := by decide +kernel
theorem dX8_layTrial_1 : decode cX8_layTrial 1 = .ok (.istore_n 1, 1) := by decide +kernel
theorem dX8_layTrial_2 : decode cX8_layTrial 2 = .ok (.iload_n 1, 1) := by decide +kernel
theorem dX8_layTrial_3 : decode cX8_layTrial 3 = .ok (.bipush 40, 2) := by decide +kernel
theorem dX8_layTrial_5 : decode cX8_layTrial 5 = .ok (.if_icmp .ge 21, 3) := by decide +kernel
theorem dX8_layTrial_8 : decode cX8_layTrial 8 = .ok (.aload_n 0, 1) := by decide +kernel
theorem dX8_layTrial_9 : decode cX8_layTrial 9 = .ok (.getfield 38, 3) := by decide +kernel
theorem dX8_layTrial_12 : decode cX8_layTrial 12 = .ok (.iload_n 1, 1) := by decide +kernel
theorem dX8_layTrial_13 : decode cX8_layTrial 13 = .ok (.aload_n 0, 1) := by decide +kernel
theorem dX8_layTrial_14 : decode cX8_layTrial 14 = .ok (.getfield 35, 3) := by decide +kernel
theorem dX8_layTrial_17 : decode cX8_layTrial 17 = .ok (.iload_n 1, 1) := by decide +kernel
theorem dX8_layTrial_18 : decode cX8_layTrial 18 = .ok (.iaload, 1) := by decide +kernel
theorem dX8_layTrial_19 : decode cX8_layTrial 19 = .ok (.iastore, 1) := by decide +kernel
theorem dX8_layTrial_20 : decode cX8_layTrial 20 = .ok (.iinc 1 1, 3) := by decide +kernel
theorem dX8_layTrial_23 : decode cX8_layTrial 23 = .ok (.goto (-21), 3) := by decide +kernel
theorem dX8_layTrial_26 : decode cX8_layTrial 26 = .ok (.return_, 1) := by decide +kernel
theorem dX8_noLevel_0 : decode cX8_noLevel 0 = .ok (.iload_n 1, 1) := by decide +kernel
theorem dX8_noLevel_1 : decode cX8_noLevel 1 = .ok (.i2l, 1) := by decide +kernel
theorem dX8_noLevel_2 : decode cX8_noLevel 2 = .ok (.lconst 0, 1) := by decide +kernel
theorem dX8_noLevel_3 : decode cX8_noLevel 3 = .ok (.aload_n 0, 1) := by decide +kernel
theorem dX8_noLevel_4 : decode cX8_noLevel 4 = .ok (.getfield 73, 3) := by decide +kernel
theorem dX8_noLevel_7 : decode cX8_noLevel 7 = .ok (.iconst 1, 1) := by decide +kernel
theorem dX8_noLevel_8 : decode cX8_noLevel 8 = .ok (.isub, 1) := by decide +kernel
theorem dX8_noLevel_9 : decode cX8_noLevel 9 = .ok (.i2l, 1) := by decide +kernel
theorem dX8_noLevel_10 : decode cX8_noLevel 10 = .ok (.invokestatic 76, 3) := by decide +kernel
theorem dX8_noLevel_13 : decode cX8_noLevel 13 = .ok (.ifCond .ne 7, 3) := by decide +kernel
theorem dX8_noLevel_16 : decode cX8_noLevel 16 = .ok (.iconst 1, 1) := by decide +kernel
theorem dX8_noLevel_17 : decode cX8_noLevel 17 = .ok (.goto 4, 3) := by decide +kernel
theorem dX8_noLevel_20 : decode cX8_noLevel 20 = .ok (.iconst 0, 1) := by decide +kernel
theorem dX8_noLevel_21 : decode cX8_noLevel 21 = .ok (.ireturn, 1) := by decide +kernel
theorem dX8_noDrawing_0 : decode cX8_noDrawing 0 = .ok (.iload_n 1, 1) := by decide +kernel
theorem dX8_noDrawing_1 : decode cX8_noDrawing 1 = .ok (.i2l, 1) := by decide +kernel
theorem dX8_noDrawing_2 : decode cX8_noDrawing 2 = .ok (.lconst 0, 1) := by decide +kernel
theorem dX8_noDrawing_3 : decode cX8_noDrawing 3 = .ok (.aload_n 0, 1) := by decide +kernel
theorem dX8_noDrawing_4 : decode cX8_noDrawing 4 = .ok (.getfield 80, 3) := by decide +kernel
theorem dX8_noDrawing_7 : decode cX8_noDrawing 7 = .ok (.iconst 1, 1) := by decide +kernel
theorem dX8_noDrawing_8 : decode cX8_noDrawing 8 = .ok (.isub, 1) := by decide +kernel
theorem dX8_noDrawing_9 : decode cX8_noDrawing 9 = .ok (.i2l, 1) := by decide +kernel
theorem dX8_noDrawing_10 : decode cX8_noDrawing 10 = .ok (.invokestatic 76, 3) := by decide +kernel
theorem dX8_noDrawing_13 : decode cX8_noDrawing 13 = .ok (.ifCond .ne 7, 3) := by decide +kernel
theorem dX8_noDrawing_16 : decode cX8_noDrawing 16 = .ok (.iconst 1, 1) := by decide +kernel
theorem dX8_noDrawing_17 : decode cX8_noDrawing 17 = .ok (.goto 4, 3) := by decide +kernel
theorem dX8_noDrawing_20 : decode cX8_noDrawing 20 = .ok (.iconst 0, 1) := by decide +kernel
theorem dX8_noDrawing_21 : decode cX8_noDrawing 21 = .ok (.ireturn, 1) := by decide +kernel
theorem dX8_isFrame_0 : decode cX8_isFrame 0 = .ok (.iload_n 0, 1) := by decide +kernel
theorem dX8_isFrame_1 : decode cX8_isFrame 1 = .ok (.i2l, 1) := by decide +kernel
theorem dX8_isFrame_2 : decode cX8_isFrame 2 = .ok (.lconst 0, 1) := by decide +kernel
theorem dX8_isFrame_3 : decode cX8_isFrame 3 = .ok (.ldc2_w 83, 3) := by decide +kernel
theorem dX8_isFrame_6 : decode cX8_isFrame 6 = .ok (.invokestatic 76, 3) := by decide +kernel
theorem dX8_isFrame_9 : decode cX8_isFrame 9 = .ok (.ireturn, 1) := by decide +kernel
theorem dX8_write_0 : decode cX8_write 0 = .ok (.aload_n 0, 1) := by decide +kernel
theorem dX8_write_1 : decode cX8_write 1 = .ok (.iconst 0, 1) := by decide +kernel
theorem dX8_write_2 : decode cX8_write 2 = .ok (.putfield 69, 3) := by decide +kernel
theorem dX8_write_5 : decode cX8_write 5 = .ok (.iload_n 1, 1) := by decide +kernel
theorem dX8_write_6 : decode cX8_write 6 = .ok (.i2l, 1) := by decide +kernel
theorem dX8_write_7 : decode cX8_write 7 = .ok (.lconst 0, 1) := by decide +kernel
theorem dX8_write_8 : decode cX8_write 8 = .ok (.ldc2_w 85, 3) := by decide +kernel
theorem dX8_write_11 : decode cX8_write 11 = .ok (.invokestatic 76, 3) := by decide +kernel
theorem dX8_write_14 : decode cX8_write 14 = .ok (.ifCond .ne 6, 3) := by decide +kernel
theorem dX8_write_17 : decode cX8_write 17 = .ok (.bipush (-2), 2) := by decide +kernel
theorem dX8_write_19 : decode cX8_write 19 = .ok (.ireturn, 1) := by decide +kernel
theorem dX8_write_20 : decode cX8_write 20 = .ok (.aload_n 0, 1) := by decide +kernel
theorem dX8_write_21 : decode cX8_write 21 = .ok (.getfield 87, 3) := by decide +kernel
theorem dX8_write_24 : decode cX8_write 24 = .ok (.bipush 80, 2) := by decide +kernel
theorem dX8_write_26 : decode cX8_write 26 = .ok (.if_icmp .ne 6, 3) := by decide +kernel
theorem dX8_write_29 : decode cX8_write 29 = .ok (.bipush (-4), 2) := by decide +kernel
theorem dX8_write_31 : decode cX8_write 31 = .ok (.ireturn, 1) := by decide +kernel
theorem dX8_write_32 : decode cX8_write 32 = .ok (.aload_n 0, 1) := by decide +kernel
theorem dX8_write_33 : decode cX8_write 33 = .ok (.getfield 7, 3) := by decide +kernel
theorem dX8_write_36 : decode cX8_write 36 = .ok (.aload_n 0, 1) := by decide +kernel
theorem dX8_write_37 : decode cX8_write 37 = .ok (.getfield 87, 3) := by decide +kernel
theorem dX8_write_40 : decode cX8_write 40 = .ok (.iload_n 1, 1) := by decide +kernel
theorem dX8_write_41 : decode cX8_write 41 = .ok (.iastore, 1) := by decide +kernel
theorem dX8_write_42 : decode cX8_write 42 = .ok (.aload_n 0, 1) := by decide +kernel
theorem dX8_write_43 : decode cX8_write 43 = .ok (.dup, 1) := by decide +kernel
theorem dX8_write_44 : decode cX8_write 44 = .ok (.getfield 87, 3) := by decide +kernel
theorem dX8_write_47 : decode cX8_write 47 = .ok (.iconst 1, 1) := by decide +kernel
theorem dX8_write_48 : decode cX8_write 48 = .ok (.iadd, 1) := by decide +kernel
theorem dX8_write_49 : decode cX8_write 49 = .ok (.putfield 87, 3) := by decide +kernel
theorem dX8_write_52 : decode cX8_write 52 = .ok (.aload_n 0, 1) := by decide +kernel
theorem dX8_write_53 : decode cX8_write 53 = .ok (.getfield 87, 3) := by decide +kernel
theorem dX8_write_56 : decode cX8_write 56 = .ok (.ireturn, 1) := by decide +kernel
theorem dX8_wipe_0 : decode cX8_wipe 0 = .ok (.aload_n 0, 1) := by decide +kernel
theorem dX8_wipe_1 : decode cX8_wipe 1 = .ok (.iconst 0, 1) := by decide +kernel
theorem dX8_wipe_2 : decode cX8_wipe 2 = .ok (.putfield 69, 3) := by decide +kernel
theorem dX8_wipe_5 : decode cX8_wipe 5 = .ok (.aload_n 0, 1) := by decide +kernel
theorem dX8_wipe_6 : decode cX8_wipe 6 = .ok (.getfield 87, 3) := by decide +kernel
theorem dX8_wipe_9 : decode cX8_wipe 9 = .ok (.istore_n 1, 1) := by decide +kernel
theorem dX8_wipe_10 : decode cX8_wipe 10 = .ok (.aload_n 0, 1) := by decide +kernel
theorem dX8_wipe_11 : decode cX8_wipe 11 = .ok (.iconst 0, 1) := by decide +kernel
theorem dX8_wipe_12 : decode cX8_wipe 12 = .ok (.putfield 87, 3) := by decide +kernel
theorem dX8_wipe_15 : decode cX8_wipe 15 = .ok (.iload_n 1, 1) := by decide +kernel
theorem dX8_wipe_16 : decode cX8_wipe 16 = .ok (.ireturn, 1) := by decide +kernel
theorem dX8_figure_0 : decode cX8_figure 0 = .ok (.aload_n 0, 1) := by decide +kernel
theorem dX8_figure_1 : decode cX8_figure 1 = .ok (.getfield 90, 3) := by decide +kernel
theorem dX8_figure_4 : decode cX8_figure 4 = .ok (.aload_n 0, 1) := by decide +kernel
theorem dX8_figure_5 : decode cX8_figure 5 = .ok (.getfield 87, 3) := by decide +kernel
theorem dX8_figure_8 : decode cX8_figure 8 = .ok (.if_icmp .ge 18, 3) := by decide +kernel
theorem dX8_figure_11 : decode cX8_figure 11 = .ok (.aload_n 0, 1) := by decide +kernel
theorem dX8_figure_12 : decode cX8_figure 12 = .ok (.getfield 7, 3) := by decide +kernel
theorem dX8_figure_15 : decode cX8_figure 15 = .ok (.aload_n 0, 1) := by decide +kernel
theorem dX8_figure_16 : decode cX8_figure 16 = .ok (.getfield 90, 3) := by decide +kernel
theorem dX8_figure_19 : decode cX8_figure 19 = .ok (.iaload, 1) := by decide +kernel
theorem dX8_figure_20 : decode cX8_figure 20 = .ok (.bipush 48, 2) := by decide +kernel
theorem dX8_figure_22 : decode cX8_figure 22 = .ok (.isub, 1) := by decide +kernel
theorem dX8_figure_23 : decode cX8_figure 23 = .ok (.goto 5, 3) := by decide +kernel
theorem dX8_figure_26 : decode cX8_figure 26 = .ok (.bipush (-9), 2) := by decide +kernel
theorem dX8_figure_28 : decode cX8_figure 28 = .ok (.istore_n 3, 1) := by decide +kernel
theorem dX8_figure_29 : decode cX8_figure 29 = .ok (.iload_n 3, 1) := by decide +kernel
theorem dX8_figure_30 : decode cX8_figure 30 = .ok (.i2l, 1) := by decide +kernel
theorem dX8_figure_31 : decode cX8_figure 31 = .ok (.iload_n 1, 1) := by decide +kernel
theorem dX8_figure_32 : decode cX8_figure 32 = .ok (.i2l, 1) := by decide +kernel
theorem dX8_figure_33 : decode cX8_figure 33 = .ok (.iload_n 2, 1) := by decide +kernel
theorem dX8_figure_34 : decode cX8_figure 34 = .ok (.i2l, 1) := by decide +kernel
theorem dX8_figure_35 : decode cX8_figure 35 = .ok (.invokestatic 76, 3) := by decide +kernel
theorem dX8_figure_38 : decode cX8_figure 38 = .ok (.ifCond .ne 6, 3) := by decide +kernel
theorem dX8_figure_41 : decode cX8_figure 41 = .ok (.bipush (-9), 2) := by decide +kernel
theorem dX8_figure_43 : decode cX8_figure 43 = .ok (.ireturn, 1) := by decide +kernel
theorem dX8_figure_44 : decode cX8_figure 44 = .ok (.aload_n 0, 1) := by decide +kernel
theorem dX8_figure_45 : decode cX8_figure 45 = .ok (.dup, 1) := by decide +kernel
theorem dX8_figure_46 : decode cX8_figure 46 = .ok (.getfield 90, 3) := by decide +kernel
theorem dX8_figure_49 : decode cX8_figure 49 = .ok (.iconst 1, 1) := by decide +kernel
theorem dX8_figure_50 : decode cX8_figure 50 = .ok (.iadd, 1) := by decide +kernel
theorem dX8_figure_51 : decode cX8_figure 51 = .ok (.putfield 90, 3) := by decide +kernel
theorem dX8_figure_54 : decode cX8_figure 54 = .ok (.iload_n 3, 1) := by decide +kernel
theorem dX8_figure_55 : decode cX8_figure 55 = .ok (.ireturn, 1) := by decide +kernel
theorem dX8_readDrawing_0 : decode cX8_readDrawing 0 = .ok (.aload_n 0, 1) := by decide +kernel
theorem dX8_readDrawing_1 : decode cX8_readDrawing 1 = .ok (.getfield 93, 3) := by decide +kernel
theorem dX8_readDrawing_4 : decode cX8_readDrawing 4 = .ok (.bipush 6, 2) := by decide +kernel
theorem dX8_readDrawing_6 : decode cX8_readDrawing 6 = .ok (.if_icmp .ne 5, 3) := by decide +kernel
theorem dX8_readDrawing_9 : decode cX8_readDrawing 9 = .ok (.iconst 0, 1) := by decide +kernel
theorem dX8_readDrawing_10 : decode cX8_readDrawing 10 = .ok (.ireturn, 1) := by decide +kernel
theorem dX8_readDrawing_11 : decode cX8_readDrawing 11 = .ok (.aload_n 0, 1) := by decide +kernel
theorem dX8_readDrawing_12 : decode cX8_readDrawing 12 = .ok (.dup, 1) := by decide +kernel
theorem dX8_readDrawing_13 : decode cX8_readDrawing 13 = .ok (.getfield 90, 3) := by decide +kernel
theorem dX8_readDrawing_16 : decode cX8_readDrawing 16 = .ok (.iconst 1, 1) := by decide +kernel
theorem dX8_readDrawing_17 : decode cX8_readDrawing 17 = .ok (.iadd, 1) := by decide +kernel
theorem dX8_readDrawing_18 : decode cX8_readDrawing 18 = .ok (.putfield 90, 3) := by decide +kernel
theorem dX8_readDrawing_21 : decode cX8_readDrawing 21 = .ok (.aload_n 0, 1) := by decide +kernel
theorem dX8_readDrawing_22 : decode cX8_readDrawing 22 = .ok (.iconst 0, 1) := by decide +kernel
theorem dX8_readDrawing_23 : decode cX8_readDrawing 23 = .ok (.bipush 9, 2) := by decide +kernel
theorem dX8_readDrawing_25 : decode cX8_readDrawing 25 = .ok (.invokevirtual 96, 3) := by decide +kernel
theorem dX8_readDrawing_28 : decode cX8_readDrawing 28 = .ok (.istore_n 1, 1) := by decide +kernel
theorem dX8_readDrawing_29 : decode cX8_readDrawing 29 = .ok (.iload_n 1, 1) := by decide +kernel
theorem dX8_readDrawing_30 : decode cX8_readDrawing 30 = .ok (.bipush (-9), 2) := by decide +kernel
theorem dX8_readDrawing_32 : decode cX8_readDrawing 32 = .ok (.if_icmp .ne 8, 3) := by decide +kernel
theorem dX8_readDrawing_35 : decode cX8_readDrawing 35 = .ok (.bipush (-9), 2) := by decide +kernel
theorem dX8_readDrawing_37 : decode cX8_readDrawing 37 = .ok (.goto 9, 3) := by decide +kernel
theorem dX8_readDrawing_40 : decode cX8_readDrawing 40 = .ok (.aload_n 0, 1) := by decide +kernel
theorem dX8_readDrawing_41 : decode cX8_readDrawing 41 = .ok (.iconst 1, 1) := by decide +kernel
theorem dX8_readDrawing_42 : decode cX8_readDrawing 42 = .ok (.iconst 5, 1) := by decide +kernel
theorem dX8_readDrawing_43 : decode cX8_readDrawing 43 = .ok (.invokevirtual 96, 3) := by decide +kernel
theorem dX8_readDrawing_46 : decode cX8_readDrawing 46 = .ok (.istore_n 2, 1) := by decide +kernel
theorem dX8_readDrawing_47 : decode cX8_readDrawing 47 = .ok (.iload_n 2, 1) := by decide +kernel
theorem dX8_readDrawing_48 : decode cX8_readDrawing 48 = .ok (.bipush (-9), 2) := by decide +kernel
theorem dX8_readDrawing_50 : decode cX8_readDrawing 50 = .ok (.if_icmp .ne 5, 3) := by decide +kernel
theorem dX8_readDrawing_53 : decode cX8_readDrawing 53 = .ok (.iconst 0, 1) := by decide +kernel
theorem dX8_readDrawing_54 : decode cX8_readDrawing 54 = .ok (.ireturn, 1) := by decide +kernel
theorem dX8_readDrawing_55 : decode cX8_readDrawing 55 = .ok (.aload_n 0, 1) := by decide +kernel
theorem dX8_readDrawing_56 : decode cX8_readDrawing 56 = .ok (.getfield 25, 3) := by decide +kernel
theorem dX8_readDrawing_59 : decode cX8_readDrawing 59 = .ok (.iconst 0, 1) := by decide +kernel
theorem dX8_readDrawing_60 : decode cX8_readDrawing 60 = .ok (.aload_n 0, 1) := by decide +kernel
theorem dX8_readDrawing_61 : decode cX8_readDrawing 61 = .ok (.getfield 93, 3) := by decide +kernel
theorem dX8_readDrawing_64 : decode cX8_readDrawing 64 = .ok (.iadd, 1) := by decide +kernel
theorem dX8_readDrawing_65 : decode cX8_readDrawing 65 = .ok (.iload_n 1, 1) := by decide +kernel
theorem dX8_readDrawing_66 : decode cX8_readDrawing 66 = .ok (.iastore, 1) := by decide +kernel
theorem dX8_readDrawing_67 : decode cX8_readDrawing 67 = .ok (.aload_n 0, 1) := by decide +kernel
theorem dX8_readDrawing_68 : decode cX8_readDrawing 68 = .ok (.getfield 25, 3) := by decide +kernel
theorem dX8_readDrawing_71 : decode cX8_readDrawing 71 = .ok (.bipush 6, 2) := by decide +kernel
theorem dX8_readDrawing_73 : decode cX8_readDrawing 73 = .ok (.aload_n 0, 1) := by decide +kernel
theorem dX8_readDrawing_74 : decode cX8_readDrawing 74 = .ok (.getfield 93, 3) := by decide +kernel
theorem dX8_readDrawing_77 : decode cX8_readDrawing 77 = .ok (.iadd, 1) := by decide +kernel
theorem dX8_readDrawing_78 : decode cX8_readDrawing 78 = .ok (.iload_n 2, 1) := by decide +kernel
theorem dX8_readDrawing_79 : decode cX8_readDrawing 79 = .ok (.iastore, 1) := by decide +kernel
theorem dX8_readDrawing_80 : decode cX8_readDrawing 80 = .ok (.aload_n 0, 1) := by decide +kernel
theorem dX8_readDrawing_81 : decode cX8_readDrawing 81 = .ok (.dup, 1) := by decide +kernel
theorem dX8_readDrawing_82 : decode cX8_readDrawing 82 = .ok (.getfield 93, 3) := by decide +kernel
theorem dX8_readDrawing_85 : decode cX8_readDrawing 85 = .ok (.iconst 1, 1) := by decide +kernel
theorem dX8_readDrawing_86 : decode cX8_readDrawing 86 = .ok (.iadd, 1) := by decide +kernel
theorem dX8_readDrawing_87 : decode cX8_readDrawing 87 = .ok (.putfield 93, 3) := by decide +kernel
theorem dX8_readDrawing_90 : decode cX8_readDrawing 90 = .ok (.iconst 1, 1) := by decide +kernel
theorem dX8_readDrawing_91 : decode cX8_readDrawing 91 = .ok (.ireturn, 1) := by decide +kernel
theorem dX8_spread_0 : decode cX8_spread 0 = .ok (.iconst 0, 1) := by decide +kernel
theorem dX8_spread_1 : decode cX8_spread 1 = .ok (.istore_n 3, 1) := by decide +kernel
theorem dX8_spread_2 : decode cX8_spread 2 = .ok (.iload_n 3, 1) := by decide +kernel
theorem dX8_spread_3 : decode cX8_spread 3 = .ok (.iload_n 2, 1) := by decide +kernel
theorem dX8_spread_4 : decode cX8_spread 4 = .ok (.if_icmp .ge 59, 3) := by decide +kernel
theorem dX8_spread_7 : decode cX8_spread 7 = .ok (.aload_n 0, 1) := by decide +kernel
theorem dX8_spread_8 : decode cX8_spread 8 = .ok (.getfield 22, 3) := by decide +kernel
theorem dX8_spread_11 : decode cX8_spread 11 = .ok (.aload_n 0, 1) := by decide +kernel
theorem dX8_spread_12 : decode cX8_spread 12 = .ok (.getfield 100, 3) := by decide +kernel
theorem dX8_spread_15 : decode cX8_spread 15 = .ok (.iaload, 1) := by decide +kernel
theorem dX8_spread_16 : decode cX8_spread 16 = .ok (.bipush 48, 2) := by decide +kernel
theorem dX8_spread_18 : decode cX8_spread 18 = .ok (.if_icmp .ge 45, 3) := by decide +kernel
theorem dX8_spread_21 : decode cX8_spread 21 = .ok (.aload_n 0, 1) := by decide +kernel
theorem dX8_spread_22 : decode cX8_spread 22 = .ok (.getfield 19, 3) := by decide +kernel
theorem dX8_spread_25 : decode cX8_spread 25 = .ok (.bipush 48, 2) := by decide +kernel
theorem dX8_spread_27 : decode cX8_spread 27 = .ok (.aload_n 0, 1) := by decide +kernel
theorem dX8_spread_28 : decode cX8_spread 28 = .ok (.getfield 100, 3) := by decide +kernel
theorem dX8_spread_31 : decode cX8_spread 31 = .ok (.imul, 1) := by decide +kernel
theorem dX8_spread_32 : decode cX8_spread 32 = .ok (.aload_n 0, 1) := by decide +kernel
theorem dX8_spread_33 : decode cX8_spread 33 = .ok (.getfield 22, 3) := by decide +kernel
theorem dX8_spread_36 : decode cX8_spread 36 = .ok (.aload_n 0, 1) := by decide +kernel
theorem dX8_spread_37 : decode cX8_spread 37 = .ok (.getfield 100, 3) := by decide +kernel
theorem dX8_spread_40 : decode cX8_spread 40 = .ok (.iaload, 1) := by decide +kernel
theorem dX8_spread_41 : decode cX8_spread 41 = .ok (.iadd, 1) := by decide +kernel
theorem dX8_spread_42 : decode cX8_spread 42 = .ok (.iload_n 1, 1) := by decide +kernel
theorem dX8_spread_43 : decode cX8_spread 43 = .ok (.iastore, 1) := by decide +kernel
theorem dX8_spread_44 : decode cX8_spread 44 = .ok (.aload_n 0, 1) := by decide +kernel
theorem dX8_spread_45 : decode cX8_spread 45 = .ok (.getfield 22, 3) := by decide +kernel
theorem dX8_spread_48 : decode cX8_spread 48 = .ok (.aload_n 0, 1) := by decide +kernel
theorem dX8_spread_49 : decode cX8_spread 49 = .ok (.getfield 100, 3) := by decide +kernel
theorem dX8_spread_52 : decode cX8_spread 52 = .ok (.dup2, 1) := by decide +kernel
theorem dX8_spread_53 : decode cX8_spread 53 = .ok (.iaload, 1) := by decide +kernel
theorem dX8_spread_54 : decode cX8_spread 54 = .ok (.iconst 1, 1) := by decide +kernel
theorem dX8_spread_55 : decode cX8_spread 55 = .ok (.iadd, 1) := by decide +kernel
theorem dX8_spread_56 : decode cX8_spread 56 = .ok (.iastore, 1) := by decide +kernel
theorem dX8_spread_57 : decode cX8_spread 57 = .ok (.iinc 3 1, 3) := by decide +kernel
theorem dX8_spread_60 : decode cX8_spread 60 = .ok (.goto (-58), 3) := by decide +kernel
theorem dX8_spread_63 : decode cX8_spread 63 = .ok (.return_, 1) := by decide +kernel
theorem dX8_over_0 : decode cX8_over 0 = .ok (.aload_n 0, 1) := by decide +kernel
theorem dX8_over_1 : decode cX8_over 1 = .ok (.getfield 22, 3) := by decide +kernel
theorem dX8_over_4 : decode cX8_over 4 = .ok (.aload_n 0, 1) := by decide +kernel
theorem dX8_over_5 : decode cX8_over 5 = .ok (.getfield 100, 3) := by decide +kernel
theorem dX8_over_8 : decode cX8_over 8 = .ok (.iaload, 1) := by decide +kernel
theorem dX8_over_9 : decode cX8_over 9 = .ok (.istore_n 3, 1) := by decide +kernel
theorem dX8_over_10 : decode cX8_over 10 = .ok (.iconst 1, 1) := by decide +kernel
theorem dX8_over_11 : decode cX8_over 11 = .ok (.istore 4, 2) := by decide +kernel
theorem dX8_over_13 : decode cX8_over 13 = .ok (.iload 4, 2) := by decide +kernel
theorem dX8_over_15 : decode cX8_over 15 = .ok (.iload_n 2, 1) := by decide +kernel
theorem dX8_over_16 : decode cX8_over 16 = .ok (.if_icmp .ge 44, 3) := by decide +kernel
theorem dX8_over_19 : decode cX8_over 19 = .ok (.iload_n 1, 1) := by decide +kernel
theorem dX8_over_20 : decode cX8_over 20 = .ok (.istore 5, 2) := by decide +kernel
theorem dX8_over_22 : decode cX8_over 22 = .ok (.iload 5, 2) := by decide +kernel
theorem dX8_over_24 : decode cX8_over 24 = .ok (.iload_n 3, 1) := by decide +kernel
theorem dX8_over_25 : decode cX8_over 25 = .ok (.if_icmp .ge 29, 3) := by decide +kernel
theorem dX8_over_28 : decode cX8_over 28 = .ok (.aload_n 0, 1) := by decide +kernel
theorem dX8_over_29 : decode cX8_over 29 = .ok (.aload_n 0, 1) := by decide +kernel
theorem dX8_over_30 : decode cX8_over 30 = .ok (.getfield 19, 3) := by decide +kernel
theorem dX8_over_33 : decode cX8_over 33 = .ok (.bipush 48, 2) := by decide +kernel
theorem dX8_over_35 : decode cX8_over 35 = .ok (.aload_n 0, 1) := by decide +kernel
theorem dX8_over_36 : decode cX8_over 36 = .ok (.getfield 100, 3) := by decide +kernel
theorem dX8_over_39 : decode cX8_over 39 = .ok (.imul, 1) := by decide +kernel
theorem dX8_over_40 : decode cX8_over 40 = .ok (.iload 5, 2) := by decide +kernel
theorem dX8_over_42 : decode cX8_over 42 = .ok (.iadd, 1) := by decide +kernel
theorem dX8_over_43 : decode cX8_over 43 = .ok (.iaload, 1) := by decide +kernel
theorem dX8_over_44 : decode cX8_over 44 = .ok (.iconst 1, 1) := by decide +kernel
theorem dX8_over_45 : decode cX8_over 45 = .ok (.invokevirtual 103, 3) := by decide +kernel
theorem dX8_over_48 : decode cX8_over 48 = .ok (.iinc 5 1, 3) := by decide +kernel
theorem dX8_over_51 : decode cX8_over 51 = .ok (.goto (-29), 3) := by decide +kernel
theorem dX8_over_54 : decode cX8_over 54 = .ok (.iinc 4 1, 3) := by decide +kernel
theorem dX8_over_57 : decode cX8_over 57 = .ok (.goto (-44), 3) := by decide +kernel
theorem dX8_over_60 : decode cX8_over 60 = .ok (.return_, 1) := by decide +kernel
theorem dX8_readSheet_0 : decode cX8_readSheet 0 = .ok (.iconst 0, 1) := by decide +kernel
theorem dX8_readSheet_1 : decode cX8_readSheet 1 = .ok (.istore_n 1, 1) := by decide +kernel
theorem dX8_readSheet_2 : decode cX8_readSheet 2 = .ok (.aload_n 0, 1) := by decide +kernel
theorem dX8_readSheet_3 : decode cX8_readSheet 3 = .ok (.getfield 31, 3) := by decide +kernel
theorem dX8_readSheet_6 : decode cX8_readSheet 6 = .ok (.iconst 0, 1) := by decide +kernel
theorem dX8_readSheet_7 : decode cX8_readSheet 7 = .ok (.iconst 0, 1) := by decide +kernel
theorem dX8_readSheet_8 : decode cX8_readSheet 8 = .ok (.bastore, 1) := by decide +kernel
theorem dX8_readSheet_9 : decode cX8_readSheet 9 = .ok (.aload_n 0, 1) := by decide +kernel
theorem dX8_readSheet_10 : decode cX8_readSheet 10 = .ok (.getfield 22, 3) := by decide +kernel
theorem dX8_readSheet_13 : decode cX8_readSheet 13 = .ok (.aload_n 0, 1) := by decide +kernel
theorem dX8_readSheet_14 : decode cX8_readSheet 14 = .ok (.getfield 100, 3) := by decide +kernel
theorem dX8_readSheet_17 : decode cX8_readSheet 17 = .ok (.iconst 0, 1) := by decide +kernel
theorem dX8_readSheet_18 : decode cX8_readSheet 18 = .ok (.iastore, 1) := by decide +kernel
theorem dX8_readSheet_19 : decode cX8_readSheet 19 = .ok (.aload_n 0, 1) := by decide +kernel
theorem dX8_readSheet_20 : decode cX8_readSheet 20 = .ok (.getfield 90, 3) := by decide +kernel
theorem dX8_readSheet_23 : decode cX8_readSheet 23 = .ok (.aload_n 0, 1) := by decide +kernel
theorem dX8_readSheet_24 : decode cX8_readSheet 24 = .ok (.getfield 87, 3) := by decide +kernel
theorem dX8_readSheet_27 : decode cX8_readSheet 27 = .ok (.if_icmp .ge 252, 3) := by decide +kernel
theorem dX8_readSheet_30 : decode cX8_readSheet 30 = .ok (.aload_n 0, 1) := by decide +kernel
theorem dX8_readSheet_31 : decode cX8_readSheet 31 = .ok (.getfield 7, 3) := by decide +kernel
theorem dX8_readSheet_34 : decode cX8_readSheet 34 = .ok (.aload_n 0, 1) := by decide +kernel
theorem dX8_readSheet_35 : decode cX8_readSheet 35 = .ok (.getfield 90, 3) := by decide +kernel
theorem dX8_readSheet_38 : decode cX8_readSheet 38 = .ok (.iaload, 1) := by decide +kernel
theorem dX8_readSheet_39 : decode cX8_readSheet 39 = .ok (.istore_n 2, 1) := by decide +kernel
theorem dX8_readSheet_40 : decode cX8_readSheet 40 = .ok (.iload_n 2, 1) := by decide +kernel
theorem dX8_readSheet_41 : decode cX8_readSheet 41 = .ok (.bipush 46, 2) := by decide +kernel
theorem dX8_readSheet_43 : decode cX8_readSheet 43 = .ok (.if_icmp .ne 31, 3) := by decide +kernel
theorem dX8_readSheet_46 : decode cX8_readSheet 46 = .ok (.aload_n 0, 1) := by decide +kernel
theorem dX8_readSheet_47 : decode cX8_readSheet 47 = .ok (.dup, 1) := by decide +kernel
theorem dX8_readSheet_48 : decode cX8_readSheet 48 = .ok (.getfield 90, 3) := by decide +kernel
theorem dX8_readSheet_51 : decode cX8_readSheet 51 = .ok (.iload_n 1, 1) := by decide +kernel
theorem dX8_readSheet_52 : decode cX8_readSheet 52 = .ok (.ifCond .ne 7, 3) := by decide +kernel
theorem dX8_readSheet_55 : decode cX8_readSheet 55 = .ok (.iconst 1, 1) := by decide +kernel
theorem dX8_readSheet_56 : decode cX8_readSheet 56 = .ok (.goto 4, 3) := by decide +kernel
theorem dX8_readSheet_59 : decode cX8_readSheet 59 = .ok (.iconst 0, 1) := by decide +kernel
theorem dX8_readSheet_60 : decode cX8_readSheet 60 = .ok (.iadd, 1) := by decide +kernel
theorem dX8_readSheet_61 : decode cX8_readSheet 61 = .ok (.putfield 90, 3) := by decide +kernel
theorem dX8_readSheet_64 : decode cX8_readSheet 64 = .ok (.iload_n 1, 1) := by decide +kernel
theorem dX8_readSheet_65 : decode cX8_readSheet 65 = .ok (.ifCond .ne 7, 3) := by decide +kernel
theorem dX8_readSheet_68 : decode cX8_readSheet 68 = .ok (.iconst 1, 1) := by decide +kernel
theorem dX8_readSheet_69 : decode cX8_readSheet 69 = .ok (.goto 4, 3) := by decide +kernel
theorem dX8_readSheet_72 : decode cX8_readSheet 72 = .ok (.iconst 0, 1) := by decide +kernel
theorem dX8_readSheet_73 : decode cX8_readSheet 73 = .ok (.ireturn, 1) := by decide +kernel
theorem dX8_readSheet_74 : decode cX8_readSheet 74 = .ok (.iload_n 2, 1) := by decide +kernel
theorem dX8_readSheet_75 : decode cX8_readSheet 75 = .ok (.bipush 40, 2) := by decide +kernel
theorem dX8_readSheet_77 : decode cX8_readSheet 77 = .ok (.if_icmp .ne 48, 3) := by decide +kernel
theorem dX8_readSheet_80 : decode cX8_readSheet 80 = .ok (.iload_n 1, 1) := by decide +kernel
theorem dX8_readSheet_81 : decode cX8_readSheet 81 = .ok (.iconst 2, 1) := by decide +kernel
theorem dX8_readSheet_82 : decode cX8_readSheet 82 = .ok (.if_icmp .ne 5, 3) := by decide +kernel
theorem dX8_readSheet_85 : decode cX8_readSheet 85 = .ok (.iconst 0, 1) := by decide +kernel
theorem dX8_readSheet_86 : decode cX8_readSheet 86 = .ok (.ireturn, 1) := by decide +kernel
theorem dX8_readSheet_87 : decode cX8_readSheet 87 = .ok (.iinc 1 1, 3) := by decide +kernel
theorem dX8_readSheet_90 : decode cX8_readSheet 90 = .ok (.aload_n 0, 1) := by decide +kernel
theorem dX8_readSheet_91 : decode cX8_readSheet 91 = .ok (.getfield 28, 3) := by decide +kernel
theorem dX8_readSheet_94 : decode cX8_readSheet 94 = .ok (.iload_n 1, 1) := by decide +kernel
theorem dX8_readSheet_95 : decode cX8_readSheet 95 = .ok (.aload_n 0, 1) := by decide +kernel
theorem dX8_readSheet_96 : decode cX8_readSheet 96 = .ok (.getfield 22, 3) := by decide +kernel
theorem dX8_readSheet_99 : decode cX8_readSheet 99 = .ok (.aload_n 0, 1) := by decide +kernel
theorem dX8_readSheet_100 : decode cX8_readSheet 100 = .ok (.getfield 100, 3) := by decide +kernel
theorem dX8_readSheet_103 : decode cX8_readSheet 103 = .ok (.iaload, 1) := by decide +kernel
theorem dX8_readSheet_104 : decode cX8_readSheet 104 = .ok (.iastore, 1) := by decide +kernel
theorem dX8_readSheet_105 : decode cX8_readSheet 105 = .ok (.aload_n 0, 1) := by decide +kernel
theorem dX8_readSheet_106 : decode cX8_readSheet 106 = .ok (.getfield 31, 3) := by decide +kernel
theorem dX8_readSheet_109 : decode cX8_readSheet 109 = .ok (.iload_n 1, 1) := by decide +kernel
theorem dX8_readSheet_110 : decode cX8_readSheet 110 = .ok (.iconst 0, 1) := by decide +kernel
theorem dX8_readSheet_111 : decode cX8_readSheet 111 = .ok (.bastore, 1) := by decide +kernel
theorem dX8_readSheet_112 : decode cX8_readSheet 112 = .ok (.aload_n 0, 1) := by decide +kernel
theorem dX8_readSheet_113 : decode cX8_readSheet 113 = .ok (.dup, 1) := by decide +kernel
theorem dX8_readSheet_114 : decode cX8_readSheet 114 = .ok (.getfield 90, 3) := by decide +kernel
theorem dX8_readSheet_117 : decode cX8_readSheet 117 = .ok (.iconst 1, 1) := by decide +kernel
theorem dX8_readSheet_118 : decode cX8_readSheet 118 = .ok (.iadd, 1) := by decide +kernel
theorem dX8_readSheet_119 : decode cX8_readSheet 119 = .ok (.putfield 90, 3) := by decide +kernel
theorem dX8_readSheet_122 : decode cX8_readSheet 122 = .ok (.goto 154, 3) := by decide +kernel
theorem dX8_readSheet_125 : decode cX8_readSheet 125 = .ok (.iload_n 2, 1) := by decide +kernel
theorem dX8_readSheet_126 : decode cX8_readSheet 126 = .ok (.bipush 41, 2) := by decide +kernel
theorem dX8_readSheet_128 : decode cX8_readSheet 128 = .ok (.if_icmp .ne 68, 3) := by decide +kernel
theorem dX8_readSheet_131 : decode cX8_readSheet 131 = .ok (.iload_n 1, 1) := by decide +kernel
theorem dX8_readSheet_132 : decode cX8_readSheet 132 = .ok (.ifCond .eq 12, 3) := by decide +kernel
theorem dX8_readSheet_135 : decode cX8_readSheet 135 = .ok (.aload_n 0, 1) := by decide +kernel
theorem dX8_readSheet_136 : decode cX8_readSheet 136 = .ok (.getfield 31, 3) := by decide +kernel
theorem dX8_readSheet_139 : decode cX8_readSheet 139 = .ok (.iload_n 1, 1) := by decide +kernel
theorem dX8_readSheet_140 : decode cX8_readSheet 140 = .ok (.baload, 1) := by decide +kernel
theorem dX8_readSheet_141 : decode cX8_readSheet 141 = .ok (.ifCond .ne 5, 3) := by decide +kernel
theorem dX8_readSheet_144 : decode cX8_readSheet 144 = .ok (.iconst 0, 1) := by decide +kernel
theorem dX8_readSheet_145 : decode cX8_readSheet 145 = .ok (.ireturn, 1) := by decide +kernel
theorem dX8_readSheet_146 : decode cX8_readSheet 146 = .ok (.aload_n 0, 1) := by decide +kernel
theorem dX8_readSheet_147 : decode cX8_readSheet 147 = .ok (.dup, 1) := by decide +kernel
theorem dX8_readSheet_148 : decode cX8_readSheet 148 = .ok (.getfield 90, 3) := by decide +kernel
theorem dX8_readSheet_151 : decode cX8_readSheet 151 = .ok (.iconst 1, 1) := by decide +kernel
theorem dX8_readSheet_152 : decode cX8_readSheet 152 = .ok (.iadd, 1) := by decide +kernel
theorem dX8_readSheet_153 : decode cX8_readSheet 153 = .ok (.putfield 90, 3) := by decide +kernel
theorem dX8_readSheet_156 : decode cX8_readSheet 156 = .ok (.aload_n 0, 1) := by decide +kernel
theorem dX8_readSheet_157 : decode cX8_readSheet 157 = .ok (.iconst 2, 1) := by decide +kernel
theorem dX8_readSheet_158 : decode cX8_readSheet 158 = .ok (.bipush 9, 2) := by decide +kernel
theorem dX8_readSheet_160 : decode cX8_readSheet 160 = .ok (.invokevirtual 96, 3) := by decide +kernel
theorem dX8_readSheet_163 : decode cX8_readSheet 163 = .ok (.istore_n 3, 1) := by decide +kernel
theorem dX8_readSheet_164 : decode cX8_readSheet 164 = .ok (.iload_n 3, 1) := by decide +kernel
theorem dX8_readSheet_165 : decode cX8_readSheet 165 = .ok (.bipush (-9), 2) := by decide +kernel
theorem dX8_readSheet_167 : decode cX8_readSheet 167 = .ok (.if_icmp .ne 5, 3) := by decide +kernel
theorem dX8_readSheet_170 : decode cX8_readSheet 170 = .ok (.iconst 0, 1) := by decide +kernel
theorem dX8_readSheet_171 : decode cX8_readSheet 171 = .ok (.ireturn, 1) := by decide +kernel
theorem dX8_readSheet_172 : decode cX8_readSheet 172 = .ok (.aload_n 0, 1) := by decide +kernel
theorem dX8_readSheet_173 : decode cX8_readSheet 173 = .ok (.aload_n 0, 1) := by decide +kernel
theorem dX8_readSheet_174 : decode cX8_readSheet 174 = .ok (.getfield 28, 3) := by decide +kernel
theorem dX8_readSheet_177 : decode cX8_readSheet 177 = .ok (.iload_n 1, 1) := by decide +kernel
theorem dX8_readSheet_178 : decode cX8_readSheet 178 = .ok (.iaload, 1) := by decide +kernel
theorem dX8_readSheet_179 : decode cX8_readSheet 179 = .ok (.iload_n 3, 1) := by decide +kernel
theorem dX8_readSheet_180 : decode cX8_readSheet 180 = .ok (.invokevirtual 107, 3) := by decide +kernel
theorem dX8_readSheet_183 : decode cX8_readSheet 183 = .ok (.iinc 1 (-1), 3) := by decide +kernel
theorem dX8_readSheet_186 : decode cX8_readSheet 186 = .ok (.aload_n 0, 1) := by decide +kernel
theorem dX8_readSheet_187 : decode cX8_readSheet 187 = .ok (.getfield 31, 3) := by decide +kernel
theorem dX8_readSheet_190 : decode cX8_readSheet 190 = .ok (.iload_n 1, 1) := by decide +kernel
theorem dX8_readSheet_191 : decode cX8_readSheet 191 = .ok (.iconst 1, 1) := by decide +kernel
theorem dX8_readSheet_192 : decode cX8_readSheet 192 = .ok (.bastore, 1) := by decide +kernel
theorem dX8_readSheet_193 : decode cX8_readSheet 193 = .ok (.goto 83, 3) := by decide +kernel
theorem dX8_readSheet_196 : decode cX8_readSheet 196 = .ok (.iload_n 2, 1) := by decide +kernel
theorem dX8_readSheet_197 : decode cX8_readSheet 197 = .ok (.bipush 45, 2) := by decide +kernel
theorem dX8_readSheet_199 : decode cX8_readSheet 199 = .ok (.if_icmp .eq 24, 3) := by decide +kernel
theorem dX8_readSheet_202 : decode cX8_readSheet 202 = .ok (.iload_n 2, 1) := by decide +kernel
theorem dX8_readSheet_203 : decode cX8_readSheet 203 = .ok (.bipush 97, 2) := by decide +kernel
theorem dX8_readSheet_205 : decode cX8_readSheet 205 = .ok (.isub, 1) := by decide +kernel
theorem dX8_readSheet_206 : decode cX8_readSheet 206 = .ok (.i2l, 1) := by decide +kernel
theorem dX8_readSheet_207 : decode cX8_readSheet 207 = .ok (.lconst 0, 1) := by decide +kernel
theorem dX8_readSheet_208 : decode cX8_readSheet 208 = .ok (.aload_n 0, 1) := by decide +kernel
theorem dX8_readSheet_209 : decode cX8_readSheet 209 = .ok (.getfield 93, 3) := by decide +kernel
theorem dX8_readSheet_212 : decode cX8_readSheet 212 = .ok (.iconst 1, 1) := by decide +kernel
theorem dX8_readSheet_213 : decode cX8_readSheet 213 = .ok (.isub, 1) := by decide +kernel
theorem dX8_readSheet_214 : decode cX8_readSheet 214 = .ok (.i2l, 1) := by decide +kernel
theorem dX8_readSheet_215 : decode cX8_readSheet 215 = .ok (.invokestatic 76, 3) := by decide +kernel
theorem dX8_readSheet_218 : decode cX8_readSheet 218 = .ok (.ifCond .ne 5, 3) := by decide +kernel
theorem dX8_readSheet_221 : decode cX8_readSheet 221 = .ok (.iconst 0, 1) := by decide +kernel
theorem dX8_readSheet_222 : decode cX8_readSheet 222 = .ok (.ireturn, 1) := by decide +kernel
theorem dX8_readSheet_223 : decode cX8_readSheet 223 = .ok (.aload_n 0, 1) := by decide +kernel
theorem dX8_readSheet_224 : decode cX8_readSheet 224 = .ok (.dup, 1) := by decide +kernel
theorem dX8_readSheet_225 : decode cX8_readSheet 225 = .ok (.getfield 90, 3) := by decide +kernel
theorem dX8_readSheet_228 : decode cX8_readSheet 228 = .ok (.iconst 1, 1) := by decide +kernel
theorem dX8_readSheet_229 : decode cX8_readSheet 229 = .ok (.iadd, 1) := by decide +kernel
theorem dX8_readSheet_230 : decode cX8_readSheet 230 = .ok (.putfield 90, 3) := by decide +kernel
theorem dX8_readSheet_233 : decode cX8_readSheet 233 = .ok (.aload_n 0, 1) := by decide +kernel
theorem dX8_readSheet_234 : decode cX8_readSheet 234 = .ok (.iconst 1, 1) := by decide +kernel
theorem dX8_readSheet_235 : decode cX8_readSheet 235 = .ok (.bipush 9, 2) := by decide +kernel
theorem dX8_readSheet_237 : decode cX8_readSheet 237 = .ok (.invokevirtual 96, 3) := by decide +kernel
theorem dX8_readSheet_240 : decode cX8_readSheet 240 = .ok (.istore_n 3, 1) := by decide +kernel
theorem dX8_readSheet_241 : decode cX8_readSheet 241 = .ok (.iload_n 3, 1) := by decide +kernel
theorem dX8_readSheet_242 : decode cX8_readSheet 242 = .ok (.bipush (-9), 2) := by decide +kernel
theorem dX8_readSheet_244 : decode cX8_readSheet 244 = .ok (.if_icmp .ne 5, 3) := by decide +kernel
theorem dX8_readSheet_247 : decode cX8_readSheet 247 = .ok (.iconst 0, 1) := by decide +kernel
theorem dX8_readSheet_248 : decode cX8_readSheet 248 = .ok (.ireturn, 1) := by decide +kernel
theorem dX8_readSheet_249 : decode cX8_readSheet 249 = .ok (.aload_n 0, 1) := by decide +kernel
theorem dX8_readSheet_250 : decode cX8_readSheet 250 = .ok (.iload_n 2, 1) := by decide +kernel
theorem dX8_readSheet_251 : decode cX8_readSheet 251 = .ok (.bipush 45, 2) := by decide +kernel
theorem dX8_readSheet_253 : decode cX8_readSheet 253 = .ok (.if_icmp .ne 8, 3) := by decide +kernel
theorem dX8_readSheet_256 : decode cX8_readSheet 256 = .ok (.bipush (-9), 2) := by decide +kernel
theorem dX8_readSheet_258 : decode cX8_readSheet 258 = .ok (.goto 7, 3) := by decide +kernel
theorem dX8_readSheet_261 : decode cX8_readSheet 261 = .ok (.iload_n 2, 1) := by decide +kernel
theorem dX8_readSheet_262 : decode cX8_readSheet 262 = .ok (.bipush 97, 2) := by decide +kernel
theorem dX8_readSheet_264 : decode cX8_readSheet 264 = .ok (.isub, 1) := by decide +kernel
theorem dX8_readSheet_265 : decode cX8_readSheet 265 = .ok (.iload_n 3, 1) := by decide +kernel
theorem dX8_readSheet_266 : decode cX8_readSheet 266 = .ok (.invokevirtual 103, 3) := by decide +kernel
theorem dX8_readSheet_269 : decode cX8_readSheet 269 = .ok (.aload_n 0, 1) := by decide +kernel
theorem dX8_readSheet_270 : decode cX8_readSheet 270 = .ok (.getfield 31, 3) := by decide +kernel
theorem dX8_readSheet_273 : decode cX8_readSheet 273 = .ok (.iload_n 1, 1) := by decide +kernel
theorem dX8_readSheet_274 : decode cX8_readSheet 274 = .ok (.iconst 1, 1) := by decide +kernel
theorem dX8_readSheet_275 : decode cX8_readSheet 275 = .ok (.bastore, 1) := by decide +kernel
theorem dX8_readSheet_276 : decode cX8_readSheet 276 = .ok (.goto (-257), 3) := by decide +kernel
theorem dX8_readSheet_279 : decode cX8_readSheet 279 = .ok (.iconst 0, 1) := by decide +kernel
theorem dX8_readSheet_280 : decode cX8_readSheet 280 = .ok (.ireturn, 1) := by decide +kernel
theorem dX8_readReel_0 : decode cX8_readReel 0 = .ok (.aload_n 0, 1) := by decide +kernel
theorem dX8_readReel_1 : decode cX8_readReel 1 = .ok (.iconst 0, 1) := by decide +kernel
theorem dX8_readReel_2 : decode cX8_readReel 2 = .ok (.putfield 90, 3) := by decide +kernel
theorem dX8_readReel_5 : decode cX8_readReel 5 = .ok (.aload_n 0, 1) := by decide +kernel
theorem dX8_readReel_6 : decode cX8_readReel 6 = .ok (.iconst 0, 1) := by decide +kernel
theorem dX8_readReel_7 : decode cX8_readReel 7 = .ok (.putfield 93, 3) := by decide +kernel
theorem dX8_readReel_10 : decode cX8_readReel 10 = .ok (.aload_n 0, 1) := by decide +kernel
theorem dX8_readReel_11 : decode cX8_readReel 11 = .ok (.iconst 0, 1) := by decide +kernel
theorem dX8_readReel_12 : decode cX8_readReel 12 = .ok (.putfield 100, 3) := by decide +kernel
theorem dX8_readReel_15 : decode cX8_readReel 15 = .ok (.aload_n 0, 1) := by decide +kernel
theorem dX8_readReel_16 : decode cX8_readReel 16 = .ok (.getfield 25, 3) := by decide +kernel
theorem dX8_readReel_19 : decode cX8_readReel 19 = .ok (.invokestatic 65, 3) := by decide +kernel
theorem dX8_readReel_22 : decode cX8_readReel 22 = .ok (.aload_n 0, 1) := by decide +kernel
theorem dX8_readReel_23 : decode cX8_readReel 23 = .ok (.getfield 87, 3) := by decide +kernel
theorem dX8_readReel_26 : decode cX8_readReel 26 = .ok (.ifCond .eq 14, 3) := by decide +kernel
theorem dX8_readReel_29 : decode cX8_readReel 29 = .ok (.aload_n 0, 1) := by decide +kernel
theorem dX8_readReel_30 : decode cX8_readReel 30 = .ok (.getfield 7, 3) := by decide +kernel
theorem dX8_readReel_33 : decode cX8_readReel 33 = .ok (.iconst 0, 1) := by decide +kernel
theorem dX8_readReel_34 : decode cX8_readReel 34 = .ok (.iaload, 1) := by decide +kernel
theorem dX8_readReel_35 : decode cX8_readReel 35 = .ok (.bipush 75, 2) := by decide +kernel
theorem dX8_readReel_37 : decode cX8_readReel 37 = .ok (.if_icmp .eq 5, 3) := by decide +kernel
theorem dX8_readReel_40 : decode cX8_readReel 40 = .ok (.iconst 0, 1) := by decide +kernel
theorem dX8_readReel_41 : decode cX8_readReel 41 = .ok (.ireturn, 1) := by decide +kernel
theorem dX8_readReel_42 : decode cX8_readReel 42 = .ok (.aload_n 0, 1) := by decide +kernel
theorem dX8_readReel_43 : decode cX8_readReel 43 = .ok (.iconst 1, 1) := by decide +kernel
theorem dX8_readReel_44 : decode cX8_readReel 44 = .ok (.putfield 90, 3) := by decide +kernel
theorem dX8_readReel_47 : decode cX8_readReel 47 = .ok (.aload_n 0, 1) := by decide +kernel
theorem dX8_readReel_48 : decode cX8_readReel 48 = .ok (.getfield 90, 3) := by decide +kernel
theorem dX8_readReel_51 : decode cX8_readReel 51 = .ok (.aload_n 0, 1) := by decide +kernel
theorem dX8_readReel_52 : decode cX8_readReel 52 = .ok (.getfield 87, 3) := by decide +kernel
theorem dX8_readReel_55 : decode cX8_readReel 55 = .ok (.if_icmp .ge 29, 3) := by decide +kernel
theorem dX8_readReel_58 : decode cX8_readReel 58 = .ok (.aload_n 0, 1) := by decide +kernel
theorem dX8_readReel_59 : decode cX8_readReel 59 = .ok (.getfield 7, 3) := by decide +kernel
theorem dX8_readReel_62 : decode cX8_readReel 62 = .ok (.aload_n 0, 1) := by decide +kernel
theorem dX8_readReel_63 : decode cX8_readReel 63 = .ok (.getfield 90, 3) := by decide +kernel
theorem dX8_readReel_66 : decode cX8_readReel 66 = .ok (.iaload, 1) := by decide +kernel
theorem dX8_readReel_67 : decode cX8_readReel 67 = .ok (.bipush 100, 2) := by decide +kernel
theorem dX8_readReel_69 : decode cX8_readReel 69 = .ok (.if_icmp .ne 15, 3) := by decide +kernel
theorem dX8_readReel_72 : decode cX8_readReel 72 = .ok (.aload_n 0, 1) := by decide +kernel
theorem dX8_readReel_73 : decode cX8_readReel 73 = .ok (.invokevirtual 110, 3) := by decide +kernel
theorem dX8_readReel_76 : decode cX8_readReel 76 = .ok (.ifCond .ne (-29), 3) := by decide +kernel
theorem dX8_readReel_79 : decode cX8_readReel 79 = .ok (.aload_n 0, 1) := by decide +kernel
theorem dX8_readReel_80 : decode cX8_readReel 80 = .ok (.getfield 90, 3) := by decide +kernel
theorem dX8_readReel_83 : decode cX8_readReel 83 = .ok (.ireturn, 1) := by decide +kernel
theorem dX8_readReel_84 : decode cX8_readReel 84 = .ok (.aload_n 0, 1) := by decide +kernel
theorem dX8_readReel_85 : decode cX8_readReel 85 = .ok (.getfield 90, 3) := by decide +kernel
theorem dX8_readReel_88 : decode cX8_readReel 88 = .ok (.aload_n 0, 1) := by decide +kernel
theorem dX8_readReel_89 : decode cX8_readReel 89 = .ok (.getfield 87, 3) := by decide +kernel
theorem dX8_readReel_92 : decode cX8_readReel 92 = .ok (.if_icmp .ge 65, 3) := by decide +kernel
theorem dX8_readReel_95 : decode cX8_readReel 95 = .ok (.aload_n 0, 1) := by decide +kernel
theorem dX8_readReel_96 : decode cX8_readReel 96 = .ok (.getfield 7, 3) := by decide +kernel
theorem dX8_readReel_99 : decode cX8_readReel 99 = .ok (.aload_n 0, 1) := by decide +kernel
theorem dX8_readReel_100 : decode cX8_readReel 100 = .ok (.getfield 90, 3) := by decide +kernel
theorem dX8_readReel_103 : decode cX8_readReel 103 = .ok (.iaload, 1) := by decide +kernel
theorem dX8_readReel_104 : decode cX8_readReel 104 = .ok (.bipush 118, 2) := by decide +kernel
theorem dX8_readReel_106 : decode cX8_readReel 106 = .ok (.if_icmp .ne 11, 3) := by decide +kernel
theorem dX8_readReel_109 : decode cX8_readReel 109 = .ok (.aload_n 0, 1) := by decide +kernel
theorem dX8_readReel_110 : decode cX8_readReel 110 = .ok (.getfield 100, 3) := by decide +kernel
theorem dX8_readReel_113 : decode cX8_readReel 113 = .ok (.iconst 4, 1) := by decide +kernel
theorem dX8_readReel_114 : decode cX8_readReel 114 = .ok (.if_icmp .ne 8, 3) := by decide +kernel
theorem dX8_readReel_117 : decode cX8_readReel 117 = .ok (.aload_n 0, 1) := by decide +kernel
theorem dX8_readReel_118 : decode cX8_readReel 118 = .ok (.getfield 90, 3) := by decide +kernel
theorem dX8_readReel_121 : decode cX8_readReel 121 = .ok (.ireturn, 1) := by decide +kernel
theorem dX8_readReel_122 : decode cX8_readReel 122 = .ok (.aload_n 0, 1) := by decide +kernel
theorem dX8_readReel_123 : decode cX8_readReel 123 = .ok (.dup, 1) := by decide +kernel
theorem dX8_readReel_124 : decode cX8_readReel 124 = .ok (.getfield 90, 3) := by decide +kernel
theorem dX8_readReel_127 : decode cX8_readReel 127 = .ok (.iconst 1, 1) := by decide +kernel
theorem dX8_readReel_128 : decode cX8_readReel 128 = .ok (.iadd, 1) := by decide +kernel
theorem dX8_readReel_129 : decode cX8_readReel 129 = .ok (.putfield 90, 3) := by decide +kernel
theorem dX8_readReel_132 : decode cX8_readReel 132 = .ok (.aload_n 0, 1) := by decide +kernel
theorem dX8_readReel_133 : decode cX8_readReel 133 = .ok (.invokevirtual 114, 3) := by decide +kernel
theorem dX8_readReel_136 : decode cX8_readReel 136 = .ok (.ifCond .ne 8, 3) := by decide +kernel
theorem dX8_readReel_139 : decode cX8_readReel 139 = .ok (.aload_n 0, 1) := by decide +kernel
theorem dX8_readReel_140 : decode cX8_readReel 140 = .ok (.getfield 90, 3) := by decide +kernel
theorem dX8_readReel_143 : decode cX8_readReel 143 = .ok (.ireturn, 1) := by decide +kernel
theorem dX8_readReel_144 : decode cX8_readReel 144 = .ok (.aload_n 0, 1) := by decide +kernel
theorem dX8_readReel_145 : decode cX8_readReel 145 = .ok (.dup, 1) := by decide +kernel
theorem dX8_readReel_146 : decode cX8_readReel 146 = .ok (.getfield 100, 3) := by decide +kernel
theorem dX8_readReel_149 : decode cX8_readReel 149 = .ok (.iconst 1, 1) := by decide +kernel
theorem dX8_readReel_150 : decode cX8_readReel 150 = .ok (.iadd, 1) := by decide +kernel
theorem dX8_readReel_151 : decode cX8_readReel 151 = .ok (.putfield 100, 3) := by decide +kernel
theorem dX8_readReel_154 : decode cX8_readReel 154 = .ok (.goto (-70), 3) := by decide +kernel
theorem dX8_readReel_157 : decode cX8_readReel 157 = .ok (.bipush (-9), 2) := by decide +kernel
theorem dX8_readReel_159 : decode cX8_readReel 159 = .ok (.ireturn, 1) := by decide +kernel
theorem dX8_fault_0 : decode cX8_fault 0 = .ok (.aload_n 0, 1) := by decide +kernel
theorem dX8_fault_1 : decode cX8_fault 1 = .ok (.iconst 0, 1) := by decide +kernel
theorem dX8_fault_2 : decode cX8_fault 2 = .ok (.putfield 69, 3) := by decide +kernel
theorem dX8_fault_5 : decode cX8_fault 5 = .ok (.aload_n 0, 1) := by decide +kernel
theorem dX8_fault_6 : decode cX8_fault 6 = .ok (.invokevirtual 117, 3) := by decide +kernel
theorem dX8_fault_9 : decode cX8_fault 9 = .ok (.ireturn, 1) := by decide +kernel
theorem dX8_reel_0 : decode cX8_reel 0 = .ok (.aload_n 0, 1) := by decide +kernel
theorem dX8_reel_1 : decode cX8_reel 1 = .ok (.iconst 0, 1) := by decide +kernel
theorem dX8_reel_2 : decode cX8_reel 2 = .ok (.putfield 69, 3) := by decide +kernel
theorem dX8_reel_5 : decode cX8_reel 5 = .ok (.aload_n 0, 1) := by decide +kernel
theorem dX8_reel_6 : decode cX8_reel 6 = .ok (.invokevirtual 117, 3) := by decide +kernel
theorem dX8_reel_9 : decode cX8_reel 9 = .ok (.bipush (-9), 2) := by decide +kernel
theorem dX8_reel_11 : decode cX8_reel 11 = .ok (.if_icmp .eq 6, 3) := by decide +kernel
theorem dX8_reel_14 : decode cX8_reel 14 = .ok (.bipush (-3), 2) := by decide +kernel
theorem dX8_reel_16 : decode cX8_reel 16 = .ok (.ireturn, 1) := by decide +kernel
theorem dX8_reel_17 : decode cX8_reel 17 = .ok (.aload_n 0, 1) := by decide +kernel
theorem dX8_reel_18 : decode cX8_reel 18 = .ok (.aload_n 0, 1) := by decide +kernel
theorem dX8_reel_19 : decode cX8_reel 19 = .ok (.getfield 93, 3) := by decide +kernel
theorem dX8_reel_22 : decode cX8_reel 22 = .ok (.putfield 80, 3) := by decide +kernel
theorem dX8_reel_25 : decode cX8_reel 25 = .ok (.aload_n 0, 1) := by decide +kernel
theorem dX8_reel_26 : decode cX8_reel 26 = .ok (.aload_n 0, 1) := by decide +kernel
theorem dX8_reel_27 : decode cX8_reel 27 = .ok (.getfield 100, 3) := by decide +kernel
theorem dX8_reel_30 : decode cX8_reel 30 = .ok (.putfield 73, 3) := by decide +kernel
theorem dX8_reel_33 : decode cX8_reel 33 = .ok (.iconst 0, 1) := by decide +kernel
theorem dX8_reel_34 : decode cX8_reel 34 = .ok (.istore_n 1, 1) := by decide +kernel
theorem dX8_reel_35 : decode cX8_reel 35 = .ok (.iload_n 1, 1) := by decide +kernel
theorem dX8_reel_36 : decode cX8_reel 36 = .ok (.sipush 192, 3) := by decide +kernel
theorem dX8_reel_39 : decode cX8_reel 39 = .ok (.if_icmp .ge 21, 3) := by decide +kernel
theorem dX8_reel_42 : decode cX8_reel 42 = .ok (.aload_n 0, 1) := by decide +kernel
theorem dX8_reel_43 : decode cX8_reel 43 = .ok (.getfield 13, 3) := by decide +kernel
theorem dX8_reel_46 : decode cX8_reel 46 = .ok (.iload_n 1, 1) := by decide +kernel
theorem dX8_reel_47 : decode cX8_reel 47 = .ok (.aload_n 0, 1) := by decide +kernel
theorem dX8_reel_48 : decode cX8_reel 48 = .ok (.getfield 19, 3) := by decide +kernel
theorem dX8_reel_51 : decode cX8_reel 51 = .ok (.iload_n 1, 1) := by decide +kernel
theorem dX8_reel_52 : decode cX8_reel 52 = .ok (.iaload, 1) := by decide +kernel
theorem dX8_reel_53 : decode cX8_reel 53 = .ok (.iastore, 1) := by decide +kernel
theorem dX8_reel_54 : decode cX8_reel 54 = .ok (.iinc 1 1, 3) := by decide +kernel
theorem dX8_reel_57 : decode cX8_reel 57 = .ok (.goto (-22), 3) := by decide +kernel
theorem dX8_reel_60 : decode cX8_reel 60 = .ok (.iconst 0, 1) := by decide +kernel
theorem dX8_reel_61 : decode cX8_reel 61 = .ok (.istore_n 1, 1) := by decide +kernel
theorem dX8_reel_62 : decode cX8_reel 62 = .ok (.iload_n 1, 1) := by decide +kernel
theorem dX8_reel_63 : decode cX8_reel 63 = .ok (.iconst 4, 1) := by decide +kernel
theorem dX8_reel_64 : decode cX8_reel 64 = .ok (.if_icmp .ge 21, 3) := by decide +kernel
theorem dX8_reel_67 : decode cX8_reel 67 = .ok (.aload_n 0, 1) := by decide +kernel
theorem dX8_reel_68 : decode cX8_reel 68 = .ok (.getfield 16, 3) := by decide +kernel
theorem dX8_reel_71 : decode cX8_reel 71 = .ok (.iload_n 1, 1) := by decide +kernel
theorem dX8_reel_72 : decode cX8_reel 72 = .ok (.aload_n 0, 1) := by decide +kernel
theorem dX8_reel_73 : decode cX8_reel 73 = .ok (.getfield 22, 3) := by decide +kernel
theorem dX8_reel_76 : decode cX8_reel 76 = .ok (.iload_n 1, 1) := by decide +kernel
theorem dX8_reel_77 : decode cX8_reel 77 = .ok (.iaload, 1) := by decide +kernel
theorem dX8_reel_78 : decode cX8_reel 78 = .ok (.iastore, 1) := by decide +kernel
theorem dX8_reel_79 : decode cX8_reel 79 = .ok (.iinc 1 1, 3) := by decide +kernel
theorem dX8_reel_82 : decode cX8_reel 82 = .ok (.goto (-20), 3) := by decide +kernel
theorem dX8_reel_85 : decode cX8_reel 85 = .ok (.iconst 0, 1) := by decide +kernel
theorem dX8_reel_86 : decode cX8_reel 86 = .ok (.istore_n 1, 1) := by decide +kernel
theorem dX8_reel_87 : decode cX8_reel 87 = .ok (.iload_n 1, 1) := by decide +kernel
theorem dX8_reel_88 : decode cX8_reel 88 = .ok (.bipush 40, 2) := by decide +kernel
theorem dX8_reel_90 : decode cX8_reel 90 = .ok (.if_icmp .ge 21, 3) := by decide +kernel
theorem dX8_reel_93 : decode cX8_reel 93 = .ok (.aload_n 0, 1) := by decide +kernel
theorem dX8_reel_94 : decode cX8_reel 94 = .ok (.getfield 35, 3) := by decide +kernel
theorem dX8_reel_97 : decode cX8_reel 97 = .ok (.iload_n 1, 1) := by decide +kernel
theorem dX8_reel_98 : decode cX8_reel 98 = .ok (.aload_n 0, 1) := by decide +kernel
theorem dX8_reel_99 : decode cX8_reel 99 = .ok (.getfield 25, 3) := by decide +kernel
theorem dX8_reel_102 : decode cX8_reel 102 = .ok (.iload_n 1, 1) := by decide +kernel
theorem dX8_reel_103 : decode cX8_reel 103 = .ok (.iaload, 1) := by decide +kernel
theorem dX8_reel_104 : decode cX8_reel 104 = .ok (.iastore, 1) := by decide +kernel
theorem dX8_reel_105 : decode cX8_reel 105 = .ok (.iinc 1 1, 3) := by decide +kernel
theorem dX8_reel_108 : decode cX8_reel 108 = .ok (.goto (-21), 3) := by decide +kernel
theorem dX8_reel_111 : decode cX8_reel 111 = .ok (.aload_n 0, 1) := by decide +kernel
theorem dX8_reel_112 : decode cX8_reel 112 = .ok (.iconst 0, 1) := by decide +kernel
theorem dX8_reel_113 : decode cX8_reel 113 = .ok (.putfield 121, 3) := by decide +kernel
theorem dX8_reel_116 : decode cX8_reel 116 = .ok (.aload_n 0, 1) := by decide +kernel
theorem dX8_reel_117 : decode cX8_reel 117 = .ok (.getfield 47, 3) := by decide +kernel
theorem dX8_reel_120 : decode cX8_reel 120 = .ok (.iconst 0, 1) := by decide +kernel
theorem dX8_reel_121 : decode cX8_reel 121 = .ok (.iconst 0, 1) := by decide +kernel
theorem dX8_reel_122 : decode cX8_reel 122 = .ok (.bastore, 1) := by decide +kernel
theorem dX8_reel_123 : decode cX8_reel 123 = .ok (.aload_n 0, 1) := by decide +kernel
theorem dX8_reel_124 : decode cX8_reel 124 = .ok (.getfield 47, 3) := by decide +kernel
theorem dX8_reel_127 : decode cX8_reel 127 = .ok (.iconst 1, 1) := by decide +kernel
theorem dX8_reel_128 : decode cX8_reel 128 = .ok (.iconst 0, 1) := by decide +kernel
theorem dX8_reel_129 : decode cX8_reel 129 = .ok (.bastore, 1) := by decide +kernel
theorem dX8_reel_130 : decode cX8_reel 130 = .ok (.aload_n 0, 1) := by decide +kernel
theorem dX8_reel_131 : decode cX8_reel 131 = .ok (.getfield 73, 3) := by decide +kernel
theorem dX8_reel_134 : decode cX8_reel 134 = .ok (.ireturn, 1) := by decide +kernel
theorem dX8_exposedOn_0 : decode cX8_exposedOn 0 = .ok (.iload_n 3, 1) := by decide +kernel
theorem dX8_exposedOn_1 : decode cX8_exposedOn 1 = .ok (.aload_n 1, 1) := by decide +kernel
theorem dX8_exposedOn_2 : decode cX8_exposedOn 2 = .ok (.bipush 12, 2) := by decide +kernel
theorem dX8_exposedOn_4 : decode cX8_exposedOn 4 = .ok (.iload_n 2, 1) := by decide +kernel
theorem dX8_exposedOn_5 : decode cX8_exposedOn 5 = .ok (.iadd, 1) := by decide +kernel
theorem dX8_exposedOn_6 : decode cX8_exposedOn 6 = .ok (.iaload, 1) := by decide +kernel
theorem dX8_exposedOn_7 : decode cX8_exposedOn 7 = .ok (.isub, 1) := by decide +kernel
theorem dX8_exposedOn_8 : decode cX8_exposedOn 8 = .ok (.istore 4, 2) := by decide +kernel
theorem dX8_exposedOn_10 : decode cX8_exposedOn 10 = .ok (.iload 4, 2) := by decide +kernel
theorem dX8_exposedOn_12 : decode cX8_exposedOn 12 = .ok (.i2l, 1) := by decide +kernel
theorem dX8_exposedOn_13 : decode cX8_exposedOn 13 = .ok (.lconst 0, 1) := by decide +kernel
theorem dX8_exposedOn_14 : decode cX8_exposedOn 14 = .ok (.aload_n 0, 1) := by decide +kernel
theorem dX8_exposedOn_15 : decode cX8_exposedOn 15 = .ok (.getfield 16, 3) := by decide +kernel
theorem dX8_exposedOn_18 : decode cX8_exposedOn 18 = .ok (.iload_n 2, 1) := by decide +kernel
theorem dX8_exposedOn_19 : decode cX8_exposedOn 19 = .ok (.iaload, 1) := by decide +kernel
theorem dX8_exposedOn_20 : decode cX8_exposedOn 20 = .ok (.iconst 1, 1) := by decide +kernel
theorem dX8_exposedOn_21 : decode cX8_exposedOn 21 = .ok (.isub, 1) := by decide +kernel
theorem dX8_exposedOn_22 : decode cX8_exposedOn 22 = .ok (.i2l, 1) := by decide +kernel
theorem dX8_exposedOn_23 : decode cX8_exposedOn 23 = .ok (.invokestatic 76, 3) := by decide +kernel
theorem dX8_exposedOn_26 : decode cX8_exposedOn 26 = .ok (.ifCond .eq 18, 3) := by decide +kernel
theorem dX8_exposedOn_29 : decode cX8_exposedOn 29 = .ok (.aload_n 0, 1) := by decide +kernel
theorem dX8_exposedOn_30 : decode cX8_exposedOn 30 = .ok (.getfield 13, 3) := by decide +kernel
theorem dX8_exposedOn_33 : decode cX8_exposedOn 33 = .ok (.bipush 48, 2) := by decide +kernel
theorem dX8_exposedOn_35 : decode cX8_exposedOn 35 = .ok (.iload_n 2, 1) := by decide +kernel
theorem dX8_exposedOn_36 : decode cX8_exposedOn 36 = .ok (.imul, 1) := by decide +kernel
theorem dX8_exposedOn_37 : decode cX8_exposedOn 37 = .ok (.iload 4, 2) := by decide +kernel
theorem dX8_exposedOn_39 : decode cX8_exposedOn 39 = .ok (.iadd, 1) := by decide +kernel
theorem dX8_exposedOn_40 : decode cX8_exposedOn 40 = .ok (.iaload, 1) := by decide +kernel
theorem dX8_exposedOn_41 : decode cX8_exposedOn 41 = .ok (.goto 5, 3) := by decide +kernel
theorem dX8_exposedOn_44 : decode cX8_exposedOn 44 = .ok (.bipush (-9), 2) := by decide +kernel
theorem dX8_exposedOn_46 : decode cX8_exposedOn 46 = .ok (.ireturn, 1) := by decide +kernel
theorem dX8_whereIs_0 : decode cX8_whereIs 0 = .ok (.bipush 16, 2) := by decide +kernel
theorem dX8_whereIs_2 : decode cX8_whereIs 2 = .ok (.iconst 3, 1) := by decide +kernel
theorem dX8_whereIs_3 : decode cX8_whereIs 3 = .ok (.iload_n 1, 1) := by decide +kernel
theorem dX8_whereIs_4 : decode cX8_whereIs 4 = .ok (.imul, 1) := by decide +kernel
theorem dX8_whereIs_5 : decode cX8_whereIs 5 = .ok (.iadd, 1) := by decide +kernel
theorem dX8_whereIs_6 : decode cX8_whereIs 6 = .ok (.istore_n 3, 1) := by decide +kernel
theorem dX8_whereIs_7 : decode cX8_whereIs 7 = .ok (.aload_n 0, 1) := by decide +kernel
theorem dX8_whereIs_8 : decode cX8_whereIs 8 = .ok (.iload_n 3, 1) := by decide +kernel
theorem dX8_whereIs_9 : decode cX8_whereIs 9 = .ok (.iaload, 1) := by decide +kernel
theorem dX8_whereIs_10 : decode cX8_whereIs 10 = .ok (.aload_n 0, 1) := by decide +kernel
theorem dX8_whereIs_11 : decode cX8_whereIs 11 = .ok (.iload_n 3, 1) := by decide +kernel
theorem dX8_whereIs_12 : decode cX8_whereIs 12 = .ok (.iconst 1, 1) := by decide +kernel
theorem dX8_whereIs_13 : decode cX8_whereIs 13 = .ok (.iadd, 1) := by decide +kernel
theorem dX8_whereIs_14 : decode cX8_whereIs 14 = .ok (.iaload, 1) := by decide +kernel
theorem dX8_whereIs_15 : decode cX8_whereIs 15 = .ok (.iload_n 2, 1) := by decide +kernel
theorem dX8_whereIs_16 : decode cX8_whereIs 16 = .ok (.aload_n 0, 1) := by decide +kernel
theorem dX8_whereIs_17 : decode cX8_whereIs 17 = .ok (.iload_n 3, 1) := by decide +kernel
theorem dX8_whereIs_18 : decode cX8_whereIs 18 = .ok (.iconst 2, 1) := by decide +kernel
theorem dX8_whereIs_19 : decode cX8_whereIs 19 = .ok (.iadd, 1) := by decide +kernel
theorem dX8_whereIs_20 : decode cX8_whereIs 20 = .ok (.iaload, 1) := by decide +kernel
theorem dX8_whereIs_21 : decode cX8_whereIs 21 = .ok (.idiv, 1) := by decide +kernel
theorem dX8_whereIs_22 : decode cX8_whereIs 22 = .ok (.imul, 1) := by decide +kernel
theorem dX8_whereIs_23 : decode cX8_whereIs 23 = .ok (.iadd, 1) := by decide +kernel
theorem dX8_whereIs_24 : decode cX8_whereIs 24 = .ok (.ireturn, 1) := by decide +kernel
theorem dX8_firstOrder_0 : decode cX8_firstOrder 0 = .ok (.iconst 0, 1) := by decide +kernel
theorem dX8_firstOrder_1 : decode cX8_firstOrder 1 = .ok (.istore_n 1, 1) := by decide +kernel
theorem dX8_firstOrder_2 : decode cX8_firstOrder 2 = .ok (.iconst 0, 1) := by decide +kernel
theorem dX8_firstOrder_3 : decode cX8_firstOrder 3 = .ok (.istore_n 2, 1) := by decide +kernel
theorem dX8_firstOrder_4 : decode cX8_firstOrder 4 = .ok (.iload_n 2, 1) := by decide +kernel
theorem dX8_firstOrder_5 : decode cX8_firstOrder 5 = .ok (.aload_n 0, 1) := by decide +kernel
theorem dX8_firstOrder_6 : decode cX8_firstOrder 6 = .ok (.getfield 73, 3) := by decide +kernel
theorem dX8_firstOrder_9 : decode cX8_firstOrder 9 = .ok (.if_icmp .ge 16, 3) := by decide +kernel
theorem dX8_firstOrder_12 : decode cX8_firstOrder 12 = .ok (.bipush 10, 2) := by decide +kernel
theorem dX8_firstOrder_14 : decode cX8_firstOrder 14 = .ok (.iload_n 1, 1) := by decide +kernel
theorem dX8_firstOrder_15 : decode cX8_firstOrder 15 = .ok (.imul, 1) := by decide +kernel
theorem dX8_firstOrder_16 : decode cX8_firstOrder 16 = .ok (.iload_n 2, 1) := by decide +kernel
theorem dX8_firstOrder_17 : decode cX8_firstOrder 17 = .ok (.iadd, 1) := by decide +kernel
theorem dX8_firstOrder_18 : decode cX8_firstOrder 18 = .ok (.istore_n 1, 1) := by decide +kernel
theorem dX8_firstOrder_19 : decode cX8_firstOrder 19 = .ok (.iinc 2 1, 3) := by decide +kernel
theorem dX8_firstOrder_22 : decode cX8_firstOrder 22 = .ok (.goto (-18), 3) := by decide +kernel
theorem dX8_firstOrder_25 : decode cX8_firstOrder 25 = .ok (.iload_n 1, 1) := by decide +kernel
theorem dX8_firstOrder_26 : decode cX8_firstOrder 26 = .ok (.ireturn, 1) := by decide +kernel
theorem dX8_orderAt_0 : decode cX8_orderAt 0 = .ok (.aload_n 0, 1) := by decide +kernel
theorem dX8_orderAt_1 : decode cX8_orderAt 1 = .ok (.invokevirtual 124, 3) := by decide +kernel
theorem dX8_orderAt_4 : decode cX8_orderAt 4 = .ok (.istore_n 3, 1) := by decide +kernel
theorem dX8_orderAt_5 : decode cX8_orderAt 5 = .ok (.iconst (-1), 1) := by decide +kernel
theorem dX8_orderAt_6 : decode cX8_orderAt 6 = .ok (.istore 4, 2) := by decide +kernel
theorem dX8_orderAt_8 : decode cX8_orderAt 8 = .ok (.iconst 0, 1) := by decide +kernel
theorem dX8_orderAt_9 : decode cX8_orderAt 9 = .ok (.istore 5, 2) := by decide +kernel
theorem dX8_orderAt_11 : decode cX8_orderAt 11 = .ok (.iload 5, 2) := by decide +kernel
theorem dX8_orderAt_13 : decode cX8_orderAt 13 = .ok (.aload_n 1, 1) := by decide +kernel
theorem dX8_orderAt_14 : decode cX8_orderAt 14 = .ok (.bipush 31, 2) := by decide +kernel
theorem dX8_orderAt_16 : decode cX8_orderAt 16 = .ok (.iaload, 1) := by decide +kernel
theorem dX8_orderAt_17 : decode cX8_orderAt 17 = .ok (.if_icmp .ge 49, 3) := by decide +kernel
theorem dX8_orderAt_20 : decode cX8_orderAt 20 = .ok (.aload_n 1, 1) := by decide +kernel
theorem dX8_orderAt_21 : decode cX8_orderAt 21 = .ok (.bipush 32, 2) := by decide +kernel
theorem dX8_orderAt_23 : decode cX8_orderAt 23 = .ok (.iload 5, 2) := by decide +kernel
theorem dX8_orderAt_25 : decode cX8_orderAt 25 = .ok (.iadd, 1) := by decide +kernel
theorem dX8_orderAt_26 : decode cX8_orderAt 26 = .ok (.iaload, 1) := by decide +kernel
theorem dX8_orderAt_27 : decode cX8_orderAt 27 = .ok (.iload_n 2, 1) := by decide +kernel
theorem dX8_orderAt_28 : decode cX8_orderAt 28 = .ok (.if_icmp .gt 32, 3) := by decide +kernel
theorem dX8_orderAt_31 : decode cX8_orderAt 31 = .ok (.aload_n 1, 1) := by decide +kernel
theorem dX8_orderAt_32 : decode cX8_orderAt 32 = .ok (.bipush 32, 2) := by decide +kernel
theorem dX8_orderAt_34 : decode cX8_orderAt 34 = .ok (.iload 5, 2) := by decide +kernel
theorem dX8_orderAt_36 : decode cX8_orderAt 36 = .ok (.iadd, 1) := by decide +kernel
theorem dX8_orderAt_37 : decode cX8_orderAt 37 = .ok (.iaload, 1) := by decide +kernel
theorem dX8_orderAt_38 : decode cX8_orderAt 38 = .ok (.iload 4, 2) := by decide +kernel
theorem dX8_orderAt_40 : decode cX8_orderAt 40 = .ok (.if_icmp .lt 20, 3) := by decide +kernel
theorem dX8_orderAt_43 : decode cX8_orderAt 43 = .ok (.aload_n 1, 1) := by decide +kernel
theorem dX8_orderAt_44 : decode cX8_orderAt 44 = .ok (.bipush 32, 2) := by decide +kernel
theorem dX8_orderAt_46 : decode cX8_orderAt 46 = .ok (.iload 5, 2) := by decide +kernel
theorem dX8_orderAt_48 : decode cX8_orderAt 48 = .ok (.iadd, 1) := by decide +kernel
theorem dX8_orderAt_49 : decode cX8_orderAt 49 = .ok (.iaload, 1) := by decide +kernel
theorem dX8_orderAt_50 : decode cX8_orderAt 50 = .ok (.istore 4, 2) := by decide +kernel
theorem dX8_orderAt_52 : decode cX8_orderAt 52 = .ok (.aload_n 1, 1) := by decide +kernel
theorem dX8_orderAt_53 : decode cX8_orderAt 53 = .ok (.bipush 36, 2) := by decide +kernel
theorem dX8_orderAt_55 : decode cX8_orderAt 55 = .ok (.iload 5, 2) := by decide +kernel
theorem dX8_orderAt_57 : decode cX8_orderAt 57 = .ok (.iadd, 1) := by decide +kernel
theorem dX8_orderAt_58 : decode cX8_orderAt 58 = .ok (.iaload, 1) := by decide +kernel
theorem dX8_orderAt_59 : decode cX8_orderAt 59 = .ok (.istore_n 3, 1) := by decide +kernel
theorem dX8_orderAt_60 : decode cX8_orderAt 60 = .ok (.iinc 5 1, 3) := by decide +kernel
theorem dX8_orderAt_63 : decode cX8_orderAt 63 = .ok (.goto (-52), 3) := by decide +kernel
theorem dX8_orderAt_66 : decode cX8_orderAt 66 = .ok (.iload_n 3, 1) := by decide +kernel
theorem dX8_orderAt_67 : decode cX8_orderAt 67 = .ok (.ireturn, 1) := by decide +kernel
theorem dX8_lookBy_0 : decode cX8_lookBy 0 = .ok (.aload_n 0, 1) := by decide +kernel
theorem dX8_lookBy_1 : decode cX8_lookBy 1 = .ok (.aload_n 1, 1) := by decide +kernel
theorem dX8_lookBy_2 : decode cX8_lookBy 2 = .ok (.iload_n 2, 1) := by decide +kernel
theorem dX8_lookBy_3 : decode cX8_lookBy 3 = .ok (.invokevirtual 127, 3) := by decide +kernel
theorem dX8_lookBy_6 : decode cX8_lookBy 6 = .ok (.istore 6, 2) := by decide +kernel
theorem dX8_lookBy_8 : decode cX8_lookBy 8 = .ok (.iload_n 3, 1) := by decide +kernel
theorem dX8_lookBy_9 : decode cX8_lookBy 9 = .ok (.aload_n 1, 1) := by decide +kernel
theorem dX8_lookBy_10 : decode cX8_lookBy 10 = .ok (.iconst 4, 1) := by decide +kernel
theorem dX8_lookBy_11 : decode cX8_lookBy 11 = .ok (.iload_n 2, 1) := by decide +kernel
theorem dX8_lookBy_12 : decode cX8_lookBy 12 = .ok (.invokestatic 131, 3) := by decide +kernel
theorem dX8_lookBy_15 : decode cX8_lookBy 15 = .ok (.iadd, 1) := by decide +kernel
theorem dX8_lookBy_16 : decode cX8_lookBy 16 = .ok (.istore 7, 2) := by decide +kernel
theorem dX8_lookBy_18 : decode cX8_lookBy 18 = .ok (.iconst 0, 1) := by decide +kernel
theorem dX8_lookBy_19 : decode cX8_lookBy 19 = .ok (.istore 8, 2) := by decide +kernel
theorem dX8_lookBy_21 : decode cX8_lookBy 21 = .ok (.iload 8, 2) := by decide +kernel
theorem dX8_lookBy_23 : decode cX8_lookBy 23 = .ok (.aload_n 0, 1) := by decide +kernel
theorem dX8_lookBy_24 : decode cX8_lookBy 24 = .ok (.getfield 73, 3) := by decide +kernel
theorem dX8_lookBy_27 : decode cX8_lookBy 27 = .ok (.if_icmp .ge 115, 3) := by decide +kernel
theorem dX8_lookBy_30 : decode cX8_lookBy 30 = .ok (.iload 6, 2) := by decide +kernel
theorem dX8_lookBy_32 : decode cX8_lookBy 32 = .ok (.bipush 10, 2) := by decide +kernel
theorem dX8_lookBy_34 : decode cX8_lookBy 34 = .ok (.aload_n 0, 1) := by decide +kernel
theorem dX8_lookBy_35 : decode cX8_lookBy 35 = .ok (.getfield 73, 3) := by decide +kernel
theorem dX8_lookBy_38 : decode cX8_lookBy 38 = .ok (.iconst 1, 1) := by decide +kernel
theorem dX8_lookBy_39 : decode cX8_lookBy 39 = .ok (.isub, 1) := by decide +kernel
theorem dX8_lookBy_40 : decode cX8_lookBy 40 = .ok (.iload 8, 2) := by decide +kernel
theorem dX8_lookBy_42 : decode cX8_lookBy 42 = .ok (.isub, 1) := by decide +kernel
theorem dX8_lookBy_43 : decode cX8_lookBy 43 = .ok (.invokestatic 135, 3) := by decide +kernel
theorem dX8_lookBy_46 : decode cX8_lookBy 46 = .ok (.idiv, 1) := by decide +kernel
theorem dX8_lookBy_47 : decode cX8_lookBy 47 = .ok (.bipush 10, 2) := by decide +kernel
theorem dX8_lookBy_49 : decode cX8_lookBy 49 = .ok (.irem, 1) := by decide +kernel
theorem dX8_lookBy_50 : decode cX8_lookBy 50 = .ok (.istore 9, 2) := by decide +kernel
theorem dX8_lookBy_52 : decode cX8_lookBy 52 = .ok (.aload_n 0, 1) := by decide +kernel
theorem dX8_lookBy_53 : decode cX8_lookBy 53 = .ok (.aload_n 1, 1) := by decide +kernel
theorem dX8_lookBy_54 : decode cX8_lookBy 54 = .ok (.iload 9, 2) := by decide +kernel
theorem dX8_lookBy_56 : decode cX8_lookBy 56 = .ok (.iload_n 2, 1) := by decide +kernel
theorem dX8_lookBy_57 : decode cX8_lookBy 57 = .ok (.invokevirtual 138, 3) := by decide +kernel
theorem dX8_lookBy_60 : decode cX8_lookBy 60 = .ok (.istore 10, 2) := by decide +kernel
theorem dX8_lookBy_62 : decode cX8_lookBy 62 = .ok (.iload 10, 2) := by decide +kernel
theorem dX8_lookBy_64 : decode cX8_lookBy 64 = .ok (.bipush (-9), 2) := by decide +kernel
theorem dX8_lookBy_66 : decode cX8_lookBy 66 = .ok (.if_icmp .eq 70, 3) := by decide +kernel
theorem dX8_lookBy_69 : decode cX8_lookBy 69 = .ok (.iload 10, 2) := by decide +kernel
theorem dX8_lookBy_71 : decode cX8_lookBy 71 = .ok (.iload 5, 2) := by decide +kernel
theorem dX8_lookBy_73 : decode cX8_lookBy 73 = .ok (.if_icmp .eq 63, 3) := by decide +kernel
theorem dX8_lookBy_76 : decode cX8_lookBy 76 = .ok (.iload 4, 2) := by decide +kernel
theorem dX8_lookBy_78 : decode cX8_lookBy 78 = .ok (.iload 9, 2) := by decide +kernel
theorem dX8_lookBy_80 : decode cX8_lookBy 80 = .ok (.invokestatic 141, 3) := by decide +kernel
theorem dX8_lookBy_83 : decode cX8_lookBy 83 = .ok (.ifCond .eq 53, 3) := by decide +kernel
theorem dX8_lookBy_86 : decode cX8_lookBy 86 = .ok (.aload_n 1, 1) := by decide +kernel
theorem dX8_lookBy_87 : decode cX8_lookBy 87 = .ok (.iconst 0, 1) := by decide +kernel
theorem dX8_lookBy_88 : decode cX8_lookBy 88 = .ok (.iload 10, 2) := by decide +kernel
theorem dX8_lookBy_90 : decode cX8_lookBy 90 = .ok (.iadd, 1) := by decide +kernel
theorem dX8_lookBy_91 : decode cX8_lookBy 91 = .ok (.iaload, 1) := by decide +kernel
theorem dX8_lookBy_92 : decode cX8_lookBy 92 = .ok (.aload_n 1, 1) := by decide +kernel
theorem dX8_lookBy_93 : decode cX8_lookBy 93 = .ok (.iload 9, 2) := by decide +kernel
theorem dX8_lookBy_95 : decode cX8_lookBy 95 = .ok (.iload_n 2, 1) := by decide +kernel
theorem dX8_lookBy_96 : decode cX8_lookBy 96 = .ok (.invokestatic 131, 3) := by decide +kernel
theorem dX8_lookBy_99 : decode cX8_lookBy 99 = .ok (.iadd, 1) := by decide +kernel
theorem dX8_lookBy_100 : decode cX8_lookBy 100 = .ok (.istore 11, 2) := by decide +kernel
theorem dX8_lookBy_102 : decode cX8_lookBy 102 = .ok (.iload 7, 2) := by decide +kernel
theorem dX8_lookBy_104 : decode cX8_lookBy 104 = .ok (.i2l, 1) := by decide +kernel
theorem dX8_lookBy_105 : decode cX8_lookBy 105 = .ok (.iload 11, 2) := by decide +kernel
theorem dX8_lookBy_107 : decode cX8_lookBy 107 = .ok (.i2l, 1) := by decide +kernel
theorem dX8_lookBy_108 : decode cX8_lookBy 108 = .ok (.iload 11, 2) := by decide +kernel
theorem dX8_lookBy_110 : decode cX8_lookBy 110 = .ok (.aload_n 1, 1) := by decide +kernel
theorem dX8_lookBy_111 : decode cX8_lookBy 111 = .ok (.bipush 6, 2) := by decide +kernel
theorem dX8_lookBy_113 : decode cX8_lookBy 113 = .ok (.iload 10, 2) := by decide +kernel
theorem dX8_lookBy_115 : decode cX8_lookBy 115 = .ok (.iadd, 1) := by decide +kernel
theorem dX8_lookBy_116 : decode cX8_lookBy 116 = .ok (.iaload, 1) := by decide +kernel
theorem dX8_lookBy_117 : decode cX8_lookBy 117 = .ok (.iadd, 1) := by decide +kernel
theorem dX8_lookBy_118 : decode cX8_lookBy 118 = .ok (.iconst 1, 1) := by decide +kernel
theorem dX8_lookBy_119 : decode cX8_lookBy 119 = .ok (.isub, 1) := by decide +kernel
theorem dX8_lookBy_120 : decode cX8_lookBy 120 = .ok (.i2l, 1) := by decide +kernel
theorem dX8_lookBy_121 : decode cX8_lookBy 121 = .ok (.invokestatic 76, 3) := by decide +kernel
theorem dX8_lookBy_124 : decode cX8_lookBy 124 = .ok (.ifCond .eq 12, 3) := by decide +kernel
theorem dX8_lookBy_127 : decode cX8_lookBy 127 = .ok (.bipush 10, 2) := by decide +kernel
theorem dX8_lookBy_129 : decode cX8_lookBy 129 = .ok (.iload 9, 2) := by decide +kernel
theorem dX8_lookBy_131 : decode cX8_lookBy 131 = .ok (.imul, 1) := by decide +kernel
theorem dX8_lookBy_132 : decode cX8_lookBy 132 = .ok (.iload 10, 2) := by decide +kernel
theorem dX8_lookBy_134 : decode cX8_lookBy 134 = .ok (.iadd, 1) := by decide +kernel
theorem dX8_lookBy_135 : decode cX8_lookBy 135 = .ok (.ireturn, 1) := by decide +kernel
theorem dX8_lookBy_136 : decode cX8_lookBy 136 = .ok (.iinc 8 1, 3) := by decide +kernel
theorem dX8_lookBy_139 : decode cX8_lookBy 139 = .ok (.goto (-118), 3) := by decide +kernel
theorem dX8_lookBy_142 : decode cX8_lookBy 142 = .ok (.bipush (-9), 2) := by decide +kernel
theorem dX8_lookBy_144 : decode cX8_lookBy 144 = .ok (.ireturn, 1) := by decide +kernel
theorem dX8_every_0 : decode cX8_every 0 = .ok (.iconst 1, 1) := by decide +kernel
theorem dX8_every_1 : decode cX8_every 1 = .ok (.aload_n 0, 1) := by decide +kernel
theorem dX8_every_2 : decode cX8_every 2 = .ok (.getfield 73, 3) := by decide +kernel
theorem dX8_every_5 : decode cX8_every 5 = .ok (.ishl, 1) := by decide +kernel
theorem dX8_every_6 : decode cX8_every 6 = .ok (.iconst 1, 1) := by decide +kernel
theorem dX8_every_7 : decode cX8_every 7 = .ok (.isub, 1) := by decide +kernel
theorem dX8_every_8 : decode cX8_every 8 = .ok (.ireturn, 1) := by decide +kernel
theorem dX8_mostOf_0 : decode cX8_mostOf 0 = .ok (.iconst 0, 1) := by decide +kernel
theorem dX8_mostOf_1 : decode cX8_mostOf 1 = .ok (.istore_n 3, 1) := by decide +kernel
theorem dX8_mostOf_2 : decode cX8_mostOf 2 = .ok (.iconst 0, 1) := by decide +kernel
theorem dX8_mostOf_3 : decode cX8_mostOf 3 = .ok (.istore 4, 2) := by decide +kernel
theorem dX8_mostOf_5 : decode cX8_mostOf 5 = .ok (.iload 4, 2) := by decide +kernel
theorem dX8_mostOf_7 : decode cX8_mostOf 7 = .ok (.bipush 48, 2) := by decide +kernel
theorem dX8_mostOf_9 : decode cX8_mostOf 9 = .ok (.if_icmp .ge 66, 3) := by decide +kernel
theorem dX8_mostOf_12 : decode cX8_mostOf 12 = .ok (.iconst 0, 1) := by decide +kernel
theorem dX8_mostOf_13 : decode cX8_mostOf 13 = .ok (.istore 5, 2) := by decide +kernel
theorem dX8_mostOf_15 : decode cX8_mostOf 15 = .ok (.iconst 0, 1) := by decide +kernel
theorem dX8_mostOf_16 : decode cX8_mostOf 16 = .ok (.istore 6, 2) := by decide +kernel
theorem dX8_mostOf_18 : decode cX8_mostOf 18 = .ok (.iload 6, 2) := by decide +kernel
theorem dX8_mostOf_20 : decode cX8_mostOf 20 = .ok (.aload_n 0, 1) := by decide +kernel
theorem dX8_mostOf_21 : decode cX8_mostOf 21 = .ok (.getfield 73, 3) := by decide +kernel
theorem dX8_mostOf_24 : decode cX8_mostOf 24 = .ok (.if_icmp .ge 32, 3) := by decide +kernel
theorem dX8_mostOf_27 : decode cX8_mostOf 27 = .ok (.iload 5, 2) := by decide +kernel
theorem dX8_mostOf_29 : decode cX8_mostOf 29 = .ok (.aload_n 0, 1) := by decide +kernel
theorem dX8_mostOf_30 : decode cX8_mostOf 30 = .ok (.aload_n 1, 1) := by decide +kernel
theorem dX8_mostOf_31 : decode cX8_mostOf 31 = .ok (.iload 6, 2) := by decide +kernel
theorem dX8_mostOf_33 : decode cX8_mostOf 33 = .ok (.iload 4, 2) := by decide +kernel
theorem dX8_mostOf_35 : decode cX8_mostOf 35 = .ok (.invokevirtual 138, 3) := by decide +kernel
theorem dX8_mostOf_38 : decode cX8_mostOf 38 = .ok (.iload_n 2, 1) := by decide +kernel
theorem dX8_mostOf_39 : decode cX8_mostOf 39 = .ok (.if_icmp .ne 7, 3) := by decide +kernel
theorem dX8_mostOf_42 : decode cX8_mostOf 42 = .ok (.iconst 1, 1) := by decide +kernel
theorem dX8_mostOf_43 : decode cX8_mostOf 43 = .ok (.goto 4, 3) := by decide +kernel
theorem dX8_mostOf_46 : decode cX8_mostOf 46 = .ok (.iconst 0, 1) := by decide +kernel
theorem dX8_mostOf_47 : decode cX8_mostOf 47 = .ok (.iadd, 1) := by decide +kernel
theorem dX8_mostOf_48 : decode cX8_mostOf 48 = .ok (.istore 5, 2) := by decide +kernel
theorem dX8_mostOf_50 : decode cX8_mostOf 50 = .ok (.iinc 6 1, 3) := by decide +kernel
theorem dX8_mostOf_53 : decode cX8_mostOf 53 = .ok (.goto (-35), 3) := by decide +kernel
theorem dX8_mostOf_56 : decode cX8_mostOf 56 = .ok (.iload 5, 2) := by decide +kernel
theorem dX8_mostOf_58 : decode cX8_mostOf 58 = .ok (.iload_n 3, 1) := by decide +kernel
theorem dX8_mostOf_59 : decode cX8_mostOf 59 = .ok (.if_icmp .le 8, 3) := by decide +kernel
theorem dX8_mostOf_62 : decode cX8_mostOf 62 = .ok (.iload 5, 2) := by decide +kernel
theorem dX8_mostOf_64 : decode cX8_mostOf 64 = .ok (.goto 4, 3) := by decide +kernel
theorem dX8_mostOf_67 : decode cX8_mostOf 67 = .ok (.iload_n 3, 1) := by decide +kernel
theorem dX8_mostOf_68 : decode cX8_mostOf 68 = .ok (.istore_n 3, 1) := by decide +kernel
theorem dX8_mostOf_69 : decode cX8_mostOf 69 = .ok (.iinc 4 1, 3) := by decide +kernel
theorem dX8_mostOf_72 : decode cX8_mostOf 72 = .ok (.goto (-67), 3) := by decide +kernel
theorem dX8_mostOf_75 : decode cX8_mostOf 75 = .ok (.iload_n 3, 1) := by decide +kernel
theorem dX8_mostOf_76 : decode cX8_mostOf 76 = .ok (.ireturn, 1) := by decide +kernel
theorem dX8_cels_0 : decode cX8_cels 0 = .ok (.iconst 0, 1) := by decide +kernel
theorem dX8_cels_1 : decode cX8_cels 1 = .ok (.istore_n 2, 1) := by decide +kernel
theorem dX8_cels_2 : decode cX8_cels 2 = .ok (.iconst 0, 1) := by decide +kernel
theorem dX8_cels_3 : decode cX8_cels 3 = .ok (.istore_n 3, 1) := by decide +kernel
theorem dX8_cels_4 : decode cX8_cels 4 = .ok (.iload_n 3, 1) := by decide +kernel
theorem dX8_cels_5 : decode cX8_cels 5 = .ok (.aload_n 0, 1) := by decide +kernel
theorem dX8_cels_6 : decode cX8_cels 6 = .ok (.getfield 80, 3) := by decide +kernel
theorem dX8_cels_9 : decode cX8_cels 9 = .ok (.if_icmp .ge 18, 3) := by decide +kernel
theorem dX8_cels_12 : decode cX8_cels 12 = .ok (.iload_n 2, 1) := by decide +kernel
theorem dX8_cels_13 : decode cX8_cels 13 = .ok (.aload_n 0, 1) := by decide +kernel
theorem dX8_cels_14 : decode cX8_cels 14 = .ok (.aload_n 1, 1) := by decide +kernel
theorem dX8_cels_15 : decode cX8_cels 15 = .ok (.iload_n 3, 1) := by decide +kernel
theorem dX8_cels_16 : decode cX8_cels 16 = .ok (.invokevirtual 144, 3) := by decide +kernel
theorem dX8_cels_19 : decode cX8_cels 19 = .ok (.iadd, 1) := by decide +kernel
theorem dX8_cels_20 : decode cX8_cels 20 = .ok (.istore_n 2, 1) := by decide +kernel
theorem dX8_cels_21 : decode cX8_cels 21 = .ok (.iinc 3 1, 3) := by decide +kernel
theorem dX8_cels_24 : decode cX8_cels 24 = .ok (.goto (-20), 3) := by decide +kernel
theorem dX8_cels_27 : decode cX8_cels 27 = .ok (.iload_n 2, 1) := by decide +kernel
theorem dX8_cels_28 : decode cX8_cels 28 = .ok (.ireturn, 1) := by decide +kernel
theorem dX8_changes_0 : decode cX8_changes 0 = .ok (.iconst 0, 1) := by decide +kernel
theorem dX8_changes_1 : decode cX8_changes 1 = .ok (.istore_n 1, 1) := by decide +kernel
theorem dX8_changes_2 : decode cX8_changes 2 = .ok (.iconst 1, 1) := by decide +kernel
theorem dX8_changes_3 : decode cX8_changes 3 = .ok (.istore_n 2, 1) := by decide +kernel
theorem dX8_changes_4 : decode cX8_changes 4 = .ok (.iload_n 2, 1) := by decide +kernel
theorem dX8_changes_5 : decode cX8_changes 5 = .ok (.bipush 48, 2) := by decide +kernel
theorem dX8_changes_7 : decode cX8_changes 7 = .ok (.if_icmp .ge 88, 3) := by decide +kernel
theorem dX8_changes_10 : decode cX8_changes 10 = .ok (.iconst 0, 1) := by decide +kernel
theorem dX8_changes_11 : decode cX8_changes 11 = .ok (.istore_n 3, 1) := by decide +kernel
theorem dX8_changes_12 : decode cX8_changes 12 = .ok (.iconst 0, 1) := by decide +kernel
theorem dX8_changes_13 : decode cX8_changes 13 = .ok (.istore 4, 2) := by decide +kernel
theorem dX8_changes_15 : decode cX8_changes 15 = .ok (.iload 4, 2) := by decide +kernel
theorem dX8_changes_17 : decode cX8_changes 17 = .ok (.bipush 10, 2) := by decide +kernel
theorem dX8_changes_19 : decode cX8_changes 19 = .ok (.if_icmp .ge 58, 3) := by decide +kernel
theorem dX8_changes_22 : decode cX8_changes 22 = .ok (.iload_n 3, 1) := by decide +kernel
theorem dX8_changes_23 : decode cX8_changes 23 = .ok (.ifCond .ne 42, 3) := by decide +kernel
theorem dX8_changes_26 : decode cX8_changes 26 = .ok (.aload_n 0, 1) := by decide +kernel
theorem dX8_changes_27 : decode cX8_changes 27 = .ok (.aload_n 0, 1) := by decide +kernel
theorem dX8_changes_28 : decode cX8_changes 28 = .ok (.getfield 35, 3) := by decide +kernel
theorem dX8_changes_31 : decode cX8_changes 31 = .ok (.iload_n 2, 1) := by decide +kernel
theorem dX8_changes_32 : decode cX8_changes 32 = .ok (.iload 4, 2) := by decide +kernel
theorem dX8_changes_34 : decode cX8_changes 34 = .ok (.aload_n 0, 1) := by decide +kernel
theorem dX8_changes_35 : decode cX8_changes 35 = .ok (.invokevirtual 147, 3) := by decide +kernel
theorem dX8_changes_38 : decode cX8_changes 38 = .ok (.bipush (-9), 2) := by decide +kernel
theorem dX8_changes_40 : decode cX8_changes 40 = .ok (.invokevirtual 150, 3) := by decide +kernel
theorem dX8_changes_43 : decode cX8_changes 43 = .ok (.aload_n 0, 1) := by decide +kernel
theorem dX8_changes_44 : decode cX8_changes 44 = .ok (.aload_n 0, 1) := by decide +kernel
theorem dX8_changes_45 : decode cX8_changes 45 = .ok (.getfield 35, 3) := by decide +kernel
theorem dX8_changes_48 : decode cX8_changes 48 = .ok (.iload_n 2, 1) := by decide +kernel
theorem dX8_changes_49 : decode cX8_changes 49 = .ok (.iconst 1, 1) := by decide +kernel
theorem dX8_changes_50 : decode cX8_changes 50 = .ok (.isub, 1) := by decide +kernel
theorem dX8_changes_51 : decode cX8_changes 51 = .ok (.iload 4, 2) := by decide +kernel
theorem dX8_changes_53 : decode cX8_changes 53 = .ok (.aload_n 0, 1) := by decide +kernel
theorem dX8_changes_54 : decode cX8_changes 54 = .ok (.invokevirtual 147, 3) := by decide +kernel
theorem dX8_changes_57 : decode cX8_changes 57 = .ok (.bipush (-9), 2) := by decide +kernel
theorem dX8_changes_59 : decode cX8_changes 59 = .ok (.invokevirtual 150, 3) := by decide +kernel
theorem dX8_changes_62 : decode cX8_changes 62 = .ok (.if_icmp .eq 7, 3) := by decide +kernel
theorem dX8_changes_65 : decode cX8_changes 65 = .ok (.iconst 1, 1) := by decide +kernel
theorem dX8_changes_66 : decode cX8_changes 66 = .ok (.goto 4, 3) := by decide +kernel
theorem dX8_changes_69 : decode cX8_changes 69 = .ok (.iconst 0, 1) := by decide +kernel
theorem dX8_changes_70 : decode cX8_changes 70 = .ok (.istore_n 3, 1) := by decide +kernel
theorem dX8_changes_71 : decode cX8_changes 71 = .ok (.iinc 4 1, 3) := by decide +kernel
theorem dX8_changes_74 : decode cX8_changes 74 = .ok (.goto (-59), 3) := by decide +kernel
theorem dX8_changes_77 : decode cX8_changes 77 = .ok (.iload_n 1, 1) := by decide +kernel
theorem dX8_changes_78 : decode cX8_changes 78 = .ok (.iload_n 3, 1) := by decide +kernel
theorem dX8_changes_79 : decode cX8_changes 79 = .ok (.ifCond .eq 7, 3) := by decide +kernel
theorem dX8_changes_82 : decode cX8_changes 82 = .ok (.iconst 1, 1) := by decide +kernel
theorem dX8_changes_83 : decode cX8_changes 83 = .ok (.goto 4, 3) := by decide +kernel
theorem dX8_changes_86 : decode cX8_changes 86 = .ok (.iconst 0, 1) := by decide +kernel
theorem dX8_changes_87 : decode cX8_changes 87 = .ok (.iadd, 1) := by decide +kernel
theorem dX8_changes_88 : decode cX8_changes 88 = .ok (.istore_n 1, 1) := by decide +kernel
theorem dX8_changes_89 : decode cX8_changes 89 = .ok (.iinc 2 1, 3) := by decide +kernel
theorem dX8_changes_92 : decode cX8_changes 92 = .ok (.goto (-88), 3) := by decide +kernel
theorem dX8_changes_95 : decode cX8_changes 95 = .ok (.iload_n 1, 1) := by decide +kernel
theorem dX8_changes_96 : decode cX8_changes 96 = .ok (.ireturn, 1) := by decide +kernel
theorem dX8_layLike_0 : decode cX8_layLike 0 = .ok (.bipush 48, 2) := by decide +kernel
theorem dX8_layLike_2 : decode cX8_layLike 2 = .ok (.istore_n 2, 1) := by decide +kernel
theorem dX8_layLike_3 : decode cX8_layLike 3 = .ok (.iload_n 2, 1) := by decide +kernel
theorem dX8_layLike_4 : decode cX8_layLike 4 = .ok (.ifCond .lt 111, 3) := by decide +kernel
theorem dX8_layLike_7 : decode cX8_layLike 7 = .ok (.bipush 48, 2) := by decide +kernel
theorem dX8_layLike_9 : decode cX8_layLike 9 = .ok (.istore_n 3, 1) := by decide +kernel
theorem dX8_layLike_10 : decode cX8_layLike 10 = .ok (.iload_n 3, 1) := by decide +kernel
theorem dX8_layLike_11 : decode cX8_layLike 11 = .ok (.ifCond .lt 98, 3) := by decide +kernel
theorem dX8_layLike_14 : decode cX8_layLike 14 = .ok (.iload_n 2, 1) := by decide +kernel
theorem dX8_layLike_15 : decode cX8_layLike 15 = .ok (.aload_n 0, 1) := by decide +kernel
theorem dX8_layLike_16 : decode cX8_layLike 16 = .ok (.getfield 16, 3) := by decide +kernel
theorem dX8_layLike_19 : decode cX8_layLike 19 = .ok (.iload_n 1, 1) := by decide +kernel
theorem dX8_layLike_20 : decode cX8_layLike 20 = .ok (.iaload, 1) := by decide +kernel
theorem dX8_layLike_21 : decode cX8_layLike 21 = .ok (.if_icmp .ge 42, 3) := by decide +kernel
theorem dX8_layLike_24 : decode cX8_layLike 24 = .ok (.iload_n 3, 1) := by decide +kernel
theorem dX8_layLike_25 : decode cX8_layLike 25 = .ok (.aload_n 0, 1) := by decide +kernel
theorem dX8_layLike_26 : decode cX8_layLike 26 = .ok (.getfield 16, 3) := by decide +kernel
theorem dX8_layLike_29 : decode cX8_layLike 29 = .ok (.iload_n 1, 1) := by decide +kernel
theorem dX8_layLike_30 : decode cX8_layLike 30 = .ok (.iaload, 1) := by decide +kernel
theorem dX8_layLike_31 : decode cX8_layLike 31 = .ok (.if_icmp .ge 32, 3) := by decide +kernel
theorem dX8_layLike_34 : decode cX8_layLike 34 = .ok (.aload_n 0, 1) := by decide +kernel
theorem dX8_layLike_35 : decode cX8_layLike 35 = .ok (.getfield 13, 3) := by decide +kernel
theorem dX8_layLike_38 : decode cX8_layLike 38 = .ok (.bipush 48, 2) := by decide +kernel
theorem dX8_layLike_40 : decode cX8_layLike 40 = .ok (.iload_n 1, 1) := by decide +kernel
theorem dX8_layLike_41 : decode cX8_layLike 41 = .ok (.imul, 1) := by decide +kernel
theorem dX8_layLike_42 : decode cX8_layLike 42 = .ok (.iload_n 2, 1) := by decide +kernel
theorem dX8_layLike_43 : decode cX8_layLike 43 = .ok (.iadd, 1) := by decide +kernel
theorem dX8_layLike_44 : decode cX8_layLike 44 = .ok (.iaload, 1) := by decide +kernel
theorem dX8_layLike_45 : decode cX8_layLike 45 = .ok (.aload_n 0, 1) := by decide +kernel
theorem dX8_layLike_46 : decode cX8_layLike 46 = .ok (.getfield 13, 3) := by decide +kernel
theorem dX8_layLike_49 : decode cX8_layLike 49 = .ok (.bipush 48, 2) := by decide +kernel
theorem dX8_layLike_51 : decode cX8_layLike 51 = .ok (.iload_n 1, 1) := by decide +kernel
theorem dX8_layLike_52 : decode cX8_layLike 52 = .ok (.imul, 1) := by decide +kernel
theorem dX8_layLike_53 : decode cX8_layLike 53 = .ok (.iload_n 3, 1) := by decide +kernel
theorem dX8_layLike_54 : decode cX8_layLike 54 = .ok (.iadd, 1) := by decide +kernel
theorem dX8_layLike_55 : decode cX8_layLike 55 = .ok (.iaload, 1) := by decide +kernel
theorem dX8_layLike_56 : decode cX8_layLike 56 = .ok (.if_icmp .ne 7, 3) := by decide +kernel
theorem dX8_layLike_59 : decode cX8_layLike 59 = .ok (.iconst 1, 1) := by decide +kernel
theorem dX8_layLike_60 : decode cX8_layLike 60 = .ok (.goto 4, 3) := by decide +kernel
theorem dX8_layLike_63 : decode cX8_layLike 63 = .ok (.iconst 0, 1) := by decide +kernel
theorem dX8_layLike_64 : decode cX8_layLike 64 = .ok (.istore 4, 2) := by decide +kernel
theorem dX8_layLike_66 : decode cX8_layLike 66 = .ok (.aload_n 0, 1) := by decide +kernel
theorem dX8_layLike_67 : decode cX8_layLike 67 = .ok (.getfield 59, 3) := by decide +kernel
theorem dX8_layLike_70 : decode cX8_layLike 70 = .ok (.bipush 49, 2) := by decide +kernel
theorem dX8_layLike_72 : decode cX8_layLike 72 = .ok (.iload_n 2, 1) := by decide +kernel
theorem dX8_layLike_73 : decode cX8_layLike 73 = .ok (.imul, 1) := by decide +kernel
theorem dX8_layLike_74 : decode cX8_layLike 74 = .ok (.iload_n 3, 1) := by decide +kernel
theorem dX8_layLike_75 : decode cX8_layLike 75 = .ok (.iadd, 1) := by decide +kernel
theorem dX8_layLike_76 : decode cX8_layLike 76 = .ok (.iload 4, 2) := by decide +kernel
theorem dX8_layLike_78 : decode cX8_layLike 78 = .ok (.ifCond .eq 23, 3) := by decide +kernel
theorem dX8_layLike_81 : decode cX8_layLike 81 = .ok (.aload_n 0, 1) := by decide +kernel
theorem dX8_layLike_82 : decode cX8_layLike 82 = .ok (.getfield 59, 3) := by decide +kernel
theorem dX8_layLike_85 : decode cX8_layLike 85 = .ok (.bipush 49, 2) := by decide +kernel
theorem dX8_layLike_87 : decode cX8_layLike 87 = .ok (.iload_n 2, 1) := by decide +kernel
theorem dX8_layLike_88 : decode cX8_layLike 88 = .ok (.iconst 1, 1) := by decide +kernel
theorem dX8_layLike_89 : decode cX8_layLike 89 = .ok (.iadd, 1) := by decide +kernel
theorem dX8_layLike_90 : decode cX8_layLike 90 = .ok (.imul, 1) := by decide +kernel
theorem dX8_layLike_91 : decode cX8_layLike 91 = .ok (.iload_n 3, 1) := by decide +kernel
theorem dX8_layLike_92 : decode cX8_layLike 92 = .ok (.iadd, 1) := by decide +kernel
theorem dX8_layLike_93 : decode cX8_layLike 93 = .ok (.iconst 1, 1) := by decide +kernel
theorem dX8_layLike_94 : decode cX8_layLike 94 = .ok (.iadd, 1) := by decide +kernel
theorem dX8_layLike_95 : decode cX8_layLike 95 = .ok (.iaload, 1) := by decide +kernel
theorem dX8_layLike_96 : decode cX8_layLike 96 = .ok (.iconst 1, 1) := by decide +kernel
theorem dX8_layLike_97 : decode cX8_layLike 97 = .ok (.iadd, 1) := by decide +kernel
theorem dX8_layLike_98 : decode cX8_layLike 98 = .ok (.goto 4, 3) := by decide +kernel
theorem dX8_layLike_101 : decode cX8_layLike 101 = .ok (.iconst 0, 1) := by decide +kernel
theorem dX8_layLike_102 : decode cX8_layLike 102 = .ok (.iastore, 1) := by decide +kernel
theorem dX8_layLike_103 : decode cX8_layLike 103 = .ok (.iinc 3 (-1), 3) := by decide +kernel
theorem dX8_layLike_106 : decode cX8_layLike 106 = .ok (.goto (-96), 3) := by decide +kernel
theorem dX8_layLike_109 : decode cX8_layLike 109 = .ok (.iinc 2 (-1), 3) := by decide +kernel
theorem dX8_layLike_112 : decode cX8_layLike 112 = .ok (.goto (-109), 3) := by decide +kernel
theorem dX8_layLike_115 : decode cX8_layLike 115 = .ok (.return_, 1) := by decide +kernel
theorem dX8_itemOf_0 : decode cX8_itemOf 0 = .ok (.iload_n 2, 1) := by decide +kernel
theorem dX8_itemOf_1 : decode cX8_itemOf 1 = .ok (.iload_n 1, 1) := by decide +kernel
theorem dX8_itemOf_2 : decode cX8_itemOf 2 = .ok (.isub, 1) := by decide +kernel
theorem dX8_itemOf_3 : decode cX8_itemOf 3 = .ok (.istore 4, 2) := by decide +kernel
theorem dX8_itemOf_5 : decode cX8_itemOf 5 = .ok (.iload 4, 2) := by decide +kernel
theorem dX8_itemOf_7 : decode cX8_itemOf 7 = .ok (.bipush 10, 2) := by decide +kernel
theorem dX8_itemOf_9 : decode cX8_itemOf 9 = .ok (.if_icmp .ge 33, 3) := by decide +kernel
theorem dX8_itemOf_12 : decode cX8_itemOf 12 = .ok (.iload 4, 2) := by decide +kernel
theorem dX8_itemOf_14 : decode cX8_itemOf 14 = .ok (.iconst 1, 1) := by decide +kernel
theorem dX8_itemOf_15 : decode cX8_itemOf 15 = .ok (.if_icmp .eq 23, 3) := by decide +kernel
theorem dX8_itemOf_18 : decode cX8_itemOf 18 = .ok (.aload_n 0, 1) := by decide +kernel
theorem dX8_itemOf_19 : decode cX8_itemOf 19 = .ok (.getfield 59, 3) := by decide +kernel
theorem dX8_itemOf_22 : decode cX8_itemOf 22 = .ok (.bipush 49, 2) := by decide +kernel
theorem dX8_itemOf_24 : decode cX8_itemOf 24 = .ok (.iload_n 1, 1) := by decide +kernel
theorem dX8_itemOf_25 : decode cX8_itemOf 25 = .ok (.imul, 1) := by decide +kernel
theorem dX8_itemOf_26 : decode cX8_itemOf 26 = .ok (.iload_n 1, 1) := by decide +kernel
theorem dX8_itemOf_27 : decode cX8_itemOf 27 = .ok (.iadd, 1) := by decide +kernel
theorem dX8_itemOf_28 : decode cX8_itemOf 28 = .ok (.iconst 1, 1) := by decide +kernel
theorem dX8_itemOf_29 : decode cX8_itemOf 29 = .ok (.iadd, 1) := by decide +kernel
theorem dX8_itemOf_30 : decode cX8_itemOf 30 = .ok (.iaload, 1) := by decide +kernel
theorem dX8_itemOf_31 : decode cX8_itemOf 31 = .ok (.iload 4, 2) := by decide +kernel
theorem dX8_itemOf_33 : decode cX8_itemOf 33 = .ok (.iconst 1, 1) := by decide +kernel
theorem dX8_itemOf_34 : decode cX8_itemOf 34 = .ok (.isub, 1) := by decide +kernel
theorem dX8_itemOf_35 : decode cX8_itemOf 35 = .ok (.if_icmp .lt 7, 3) := by decide +kernel
theorem dX8_itemOf_38 : decode cX8_itemOf 38 = .ok (.iconst 2, 1) := by decide +kernel
theorem dX8_itemOf_39 : decode cX8_itemOf 39 = .ok (.goto 5, 3) := by decide +kernel
theorem dX8_itemOf_42 : decode cX8_itemOf 42 = .ok (.bipush (-9), 2) := by decide +kernel
theorem dX8_itemOf_44 : decode cX8_itemOf 44 = .ok (.istore 5, 2) := by decide +kernel
theorem dX8_itemOf_46 : decode cX8_itemOf 46 = .ok (.iconst 2, 1) := by decide +kernel
theorem dX8_itemOf_47 : decode cX8_itemOf 47 = .ok (.istore 6, 2) := by decide +kernel
theorem dX8_itemOf_49 : decode cX8_itemOf 49 = .ok (.iload 6, 2) := by decide +kernel
theorem dX8_itemOf_51 : decode cX8_itemOf 51 = .ok (.bipush 10, 2) := by decide +kernel
theorem dX8_itemOf_53 : decode cX8_itemOf 53 = .ok (.if_icmp .ge 99, 3) := by decide +kernel
theorem dX8_itemOf_56 : decode cX8_itemOf 56 = .ok (.iload_n 3, 1) := by decide +kernel
theorem dX8_itemOf_57 : decode cX8_itemOf 57 = .ok (.ifCond .le 95, 3) := by decide +kernel
theorem dX8_itemOf_60 : decode cX8_itemOf 60 = .ok (.iload 4, 2) := by decide +kernel
theorem dX8_itemOf_62 : decode cX8_itemOf 62 = .ok (.iload 6, 2) := by decide +kernel
theorem dX8_itemOf_64 : decode cX8_itemOf 64 = .ok (.idiv, 1) := by decide +kernel
theorem dX8_itemOf_65 : decode cX8_itemOf 65 = .ok (.istore 7, 2) := by decide +kernel
theorem dX8_itemOf_67 : decode cX8_itemOf 67 = .ok (.iload 4, 2) := by decide +kernel
theorem dX8_itemOf_69 : decode cX8_itemOf 69 = .ok (.iload 6, 2) := by decide +kernel
theorem dX8_itemOf_71 : decode cX8_itemOf 71 = .ok (.irem, 1) := by decide +kernel
theorem dX8_itemOf_72 : decode cX8_itemOf 72 = .ok (.ifCond .ne 74, 3) := by decide +kernel
theorem dX8_itemOf_75 : decode cX8_itemOf 75 = .ok (.aload_n 0, 1) := by decide +kernel
theorem dX8_itemOf_76 : decode cX8_itemOf 76 = .ok (.getfield 59, 3) := by decide +kernel
theorem dX8_itemOf_79 : decode cX8_itemOf 79 = .ok (.bipush 49, 2) := by decide +kernel
theorem dX8_itemOf_81 : decode cX8_itemOf 81 = .ok (.iload_n 1, 1) := by decide +kernel
theorem dX8_itemOf_82 : decode cX8_itemOf 82 = .ok (.imul, 1) := by decide +kernel
theorem dX8_itemOf_83 : decode cX8_itemOf 83 = .ok (.iload_n 1, 1) := by decide +kernel
theorem dX8_itemOf_84 : decode cX8_itemOf 84 = .ok (.iadd, 1) := by decide +kernel
theorem dX8_itemOf_85 : decode cX8_itemOf 85 = .ok (.iload 7, 2) := by decide +kernel
theorem dX8_itemOf_87 : decode cX8_itemOf 87 = .ok (.iadd, 1) := by decide +kernel
theorem dX8_itemOf_88 : decode cX8_itemOf 88 = .ok (.iaload, 1) := by decide +kernel
theorem dX8_itemOf_89 : decode cX8_itemOf 89 = .ok (.iload 4, 2) := by decide +kernel
theorem dX8_itemOf_91 : decode cX8_itemOf 91 = .ok (.iload 7, 2) := by decide +kernel
theorem dX8_itemOf_93 : decode cX8_itemOf 93 = .ok (.isub, 1) := by decide +kernel
theorem dX8_itemOf_94 : decode cX8_itemOf 94 = .ok (.if_icmp .lt 52, 3) := by decide +kernel
theorem dX8_itemOf_97 : decode cX8_itemOf 97 = .ok (.iconst 3, 1) := by decide +kernel
theorem dX8_itemOf_98 : decode cX8_itemOf 98 = .ok (.aload_n 0, 1) := by decide +kernel
theorem dX8_itemOf_99 : decode cX8_itemOf 99 = .ok (.getfield 62, 3) := by decide +kernel
theorem dX8_itemOf_102 : decode cX8_itemOf 102 = .ok (.sipush 2401, 3) := by decide +kernel
theorem dX8_itemOf_105 : decode cX8_itemOf 105 = .ok (.iload_n 3, 1) := by decide +kernel
theorem dX8_itemOf_106 : decode cX8_itemOf 106 = .ok (.iconst 1, 1) := by decide +kernel
theorem dX8_itemOf_107 : decode cX8_itemOf 107 = .ok (.isub, 1) := by decide +kernel
theorem dX8_itemOf_108 : decode cX8_itemOf 108 = .ok (.imul, 1) := by decide +kernel
theorem dX8_itemOf_109 : decode cX8_itemOf 109 = .ok (.bipush 49, 2) := by decide +kernel
theorem dX8_itemOf_111 : decode cX8_itemOf 111 = .ok (.iload_n 1, 1) := by decide +kernel
theorem dX8_itemOf_112 : decode cX8_itemOf 112 = .ok (.imul, 1) := by decide +kernel
theorem dX8_itemOf_113 : decode cX8_itemOf 113 = .ok (.iadd, 1) := by decide +kernel
theorem dX8_itemOf_114 : decode cX8_itemOf 114 = .ok (.iload_n 1, 1) := by decide +kernel
theorem dX8_itemOf_115 : decode cX8_itemOf 115 = .ok (.iadd, 1) := by decide +kernel
theorem dX8_itemOf_116 : decode cX8_itemOf 116 = .ok (.iload 7, 2) := by decide +kernel
theorem dX8_itemOf_118 : decode cX8_itemOf 118 = .ok (.iadd, 1) := by decide +kernel
theorem dX8_itemOf_119 : decode cX8_itemOf 119 = .ok (.iaload, 1) := by decide +kernel
theorem dX8_itemOf_120 : decode cX8_itemOf 120 = .ok (.iadd, 1) := by decide +kernel
theorem dX8_itemOf_121 : decode cX8_itemOf 121 = .ok (.istore 8, 2) := by decide +kernel
theorem dX8_itemOf_123 : decode cX8_itemOf 123 = .ok (.iload 5, 2) := by decide +kernel
theorem dX8_itemOf_125 : decode cX8_itemOf 125 = .ok (.bipush (-9), 2) := by decide +kernel
theorem dX8_itemOf_127 : decode cX8_itemOf 127 = .ok (.if_icmp .eq 10, 3) := by decide +kernel
theorem dX8_itemOf_130 : decode cX8_itemOf 130 = .ok (.iload 8, 2) := by decide +kernel
theorem dX8_itemOf_132 : decode cX8_itemOf 132 = .ok (.iload 5, 2) := by decide +kernel
theorem dX8_itemOf_134 : decode cX8_itemOf 134 = .ok (.if_icmp .ge 8, 3) := by decide +kernel
theorem dX8_itemOf_137 : decode cX8_itemOf 137 = .ok (.iload 8, 2) := by decide +kernel
theorem dX8_itemOf_139 : decode cX8_itemOf 139 = .ok (.goto 5, 3) := by decide +kernel
theorem dX8_itemOf_142 : decode cX8_itemOf 142 = .ok (.iload 5, 2) := by decide +kernel
theorem dX8_itemOf_144 : decode cX8_itemOf 144 = .ok (.istore 5, 2) := by decide +kernel
theorem dX8_itemOf_146 : decode cX8_itemOf 146 = .ok (.iinc 6 1, 3) := by decide +kernel
theorem dX8_itemOf_149 : decode cX8_itemOf 149 = .ok (.goto (-100), 3) := by decide +kernel
theorem dX8_itemOf_152 : decode cX8_itemOf 152 = .ok (.iload 5, 2) := by decide +kernel
theorem dX8_itemOf_154 : decode cX8_itemOf 154 = .ok (.ireturn, 1) := by decide +kernel
theorem dX8_shortest_0 : decode cX8_shortest 0 = .ok (.aload_n 0, 1) := by decide +kernel
theorem dX8_shortest_1 : decode cX8_shortest 1 = .ok (.getfield 16, 3) := by decide +kernel
theorem dX8_shortest_4 : decode cX8_shortest 4 = .ok (.iload_n 1, 1) := by decide +kernel
theorem dX8_shortest_5 : decode cX8_shortest 5 = .ok (.iaload, 1) := by decide +kernel
theorem dX8_shortest_6 : decode cX8_shortest 6 = .ok (.istore_n 2, 1) := by decide +kernel
theorem dX8_shortest_7 : decode cX8_shortest 7 = .ok (.aload_n 0, 1) := by decide +kernel
theorem dX8_shortest_8 : decode cX8_shortest 8 = .ok (.iload_n 1, 1) := by decide +kernel
theorem dX8_shortest_9 : decode cX8_shortest 9 = .ok (.invokevirtual 154, 3) := by decide +kernel
theorem dX8_shortest_12 : decode cX8_shortest 12 = .ok (.iconst 0, 1) := by decide +kernel
theorem dX8_shortest_13 : decode cX8_shortest 13 = .ok (.istore_n 3, 1) := by decide +kernel
theorem dX8_shortest_14 : decode cX8_shortest 14 = .ok (.iload_n 3, 1) := by decide +kernel
theorem dX8_shortest_15 : decode cX8_shortest 15 = .ok (.iconst 3, 1) := by decide +kernel
theorem dX8_shortest_16 : decode cX8_shortest 16 = .ok (.if_icmp .ge 168, 3) := by decide +kernel
theorem dX8_shortest_19 : decode cX8_shortest 19 = .ok (.sipush 2401, 3) := by decide +kernel
theorem dX8_shortest_22 : decode cX8_shortest 22 = .ok (.iload_n 3, 1) := by decide +kernel
theorem dX8_shortest_23 : decode cX8_shortest 23 = .ok (.imul, 1) := by decide +kernel
theorem dX8_shortest_24 : decode cX8_shortest 24 = .ok (.istore 4, 2) := by decide +kernel
theorem dX8_shortest_26 : decode cX8_shortest 26 = .ok (.iconst 0, 1) := by decide +kernel
theorem dX8_shortest_27 : decode cX8_shortest 27 = .ok (.istore 5, 2) := by decide +kernel
theorem dX8_shortest_29 : decode cX8_shortest 29 = .ok (.iload 5, 2) := by decide +kernel
theorem dX8_shortest_31 : decode cX8_shortest 31 = .ok (.iload_n 2, 1) := by decide +kernel
theorem dX8_shortest_32 : decode cX8_shortest 32 = .ok (.if_icmp .gt 146, 3) := by decide +kernel
theorem dX8_shortest_35 : decode cX8_shortest 35 = .ok (.aload_n 0, 1) := by decide +kernel
theorem dX8_shortest_36 : decode cX8_shortest 36 = .ok (.getfield 62, 3) := by decide +kernel
theorem dX8_shortest_39 : decode cX8_shortest 39 = .ok (.iload 4, 2) := by decide +kernel
theorem dX8_shortest_41 : decode cX8_shortest 41 = .ok (.bipush 49, 2) := by decide +kernel
theorem dX8_shortest_43 : decode cX8_shortest 43 = .ok (.iload 5, 2) := by decide +kernel
theorem dX8_shortest_45 : decode cX8_shortest 45 = .ok (.imul, 1) := by decide +kernel
theorem dX8_shortest_46 : decode cX8_shortest 46 = .ok (.iadd, 1) := by decide +kernel
theorem dX8_shortest_47 : decode cX8_shortest 47 = .ok (.iload 5, 2) := by decide +kernel
theorem dX8_shortest_49 : decode cX8_shortest 49 = .ok (.iadd, 1) := by decide +kernel
theorem dX8_shortest_50 : decode cX8_shortest 50 = .ok (.iconst 0, 1) := by decide +kernel
theorem dX8_shortest_51 : decode cX8_shortest 51 = .ok (.iastore, 1) := by decide +kernel
theorem dX8_shortest_52 : decode cX8_shortest 52 = .ok (.iload 5, 2) := by decide +kernel
theorem dX8_shortest_54 : decode cX8_shortest 54 = .ok (.iconst 1, 1) := by decide +kernel
theorem dX8_shortest_55 : decode cX8_shortest 55 = .ok (.isub, 1) := by decide +kernel
theorem dX8_shortest_56 : decode cX8_shortest 56 = .ok (.istore 6, 2) := by decide +kernel
theorem dX8_shortest_58 : decode cX8_shortest 58 = .ok (.iload 6, 2) := by decide +kernel
theorem dX8_shortest_60 : decode cX8_shortest 60 = .ok (.ifCond .lt 112, 3) := by decide +kernel
theorem dX8_shortest_63 : decode cX8_shortest 63 = .ok (.bipush (-9), 2) := by decide +kernel
theorem dX8_shortest_65 : decode cX8_shortest 65 = .ok (.istore 7, 2) := by decide +kernel
theorem dX8_shortest_67 : decode cX8_shortest 67 = .ok (.iload 6, 2) := by decide +kernel
theorem dX8_shortest_69 : decode cX8_shortest 69 = .ok (.iconst 1, 1) := by decide +kernel
theorem dX8_shortest_70 : decode cX8_shortest 70 = .ok (.iadd, 1) := by decide +kernel
theorem dX8_shortest_71 : decode cX8_shortest 71 = .ok (.istore 8, 2) := by decide +kernel
theorem dX8_shortest_73 : decode cX8_shortest 73 = .ok (.iload 8, 2) := by decide +kernel
theorem dX8_shortest_75 : decode cX8_shortest 75 = .ok (.iload 5, 2) := by decide +kernel
theorem dX8_shortest_77 : decode cX8_shortest 77 = .ok (.if_icmp .gt 71, 3) := by decide +kernel
theorem dX8_shortest_80 : decode cX8_shortest 80 = .ok (.aload_n 0, 1) := by decide +kernel
theorem dX8_shortest_81 : decode cX8_shortest 81 = .ok (.iload 6, 2) := by decide +kernel
theorem dX8_shortest_83 : decode cX8_shortest 83 = .ok (.iload 8, 2) := by decide +kernel
theorem dX8_shortest_85 : decode cX8_shortest 85 = .ok (.iload_n 3, 1) := by decide +kernel
theorem dX8_shortest_86 : decode cX8_shortest 86 = .ok (.invokevirtual 158, 3) := by decide +kernel
theorem dX8_shortest_89 : decode cX8_shortest 89 = .ok (.istore 9, 2) := by decide +kernel
theorem dX8_shortest_91 : decode cX8_shortest 91 = .ok (.iload 9, 2) := by decide +kernel
theorem dX8_shortest_93 : decode cX8_shortest 93 = .ok (.aload_n 0, 1) := by decide +kernel
theorem dX8_shortest_94 : decode cX8_shortest 94 = .ok (.getfield 62, 3) := by decide +kernel
theorem dX8_shortest_97 : decode cX8_shortest 97 = .ok (.iload 4, 2) := by decide +kernel
theorem dX8_shortest_99 : decode cX8_shortest 99 = .ok (.bipush 49, 2) := by decide +kernel
theorem dX8_shortest_101 : decode cX8_shortest 101 = .ok (.iload 8, 2) := by decide +kernel
theorem dX8_shortest_103 : decode cX8_shortest 103 = .ok (.imul, 1) := by decide +kernel
theorem dX8_shortest_104 : decode cX8_shortest 104 = .ok (.iadd, 1) := by decide +kernel
theorem dX8_shortest_105 : decode cX8_shortest 105 = .ok (.iload 5, 2) := by decide +kernel
theorem dX8_shortest_107 : decode cX8_shortest 107 = .ok (.iadd, 1) := by decide +kernel
theorem dX8_shortest_108 : decode cX8_shortest 108 = .ok (.iaload, 1) := by decide +kernel
theorem dX8_shortest_109 : decode cX8_shortest 109 = .ok (.iadd, 1) := by decide +kernel
theorem dX8_shortest_110 : decode cX8_shortest 110 = .ok (.istore 10, 2) := by decide +kernel
theorem dX8_shortest_112 : decode cX8_shortest 112 = .ok (.iload 9, 2) := by decide +kernel
theorem dX8_shortest_114 : decode cX8_shortest 114 = .ok (.bipush (-9), 2) := by decide +kernel
theorem dX8_shortest_116 : decode cX8_shortest 116 = .ok (.if_icmp .eq 22, 3) := by decide +kernel
theorem dX8_shortest_119 : decode cX8_shortest 119 = .ok (.iload 7, 2) := by decide +kernel
theorem dX8_shortest_121 : decode cX8_shortest 121 = .ok (.bipush (-9), 2) := by decide +kernel
theorem dX8_shortest_123 : decode cX8_shortest 123 = .ok (.if_icmp .eq 10, 3) := by decide +kernel
theorem dX8_shortest_126 : decode cX8_shortest 126 = .ok (.iload 10, 2) := by decide +kernel
theorem dX8_shortest_128 : decode cX8_shortest 128 = .ok (.iload 7, 2) := by decide +kernel
theorem dX8_shortest_130 : decode cX8_shortest 130 = .ok (.if_icmp .ge 8, 3) := by decide +kernel
theorem dX8_shortest_133 : decode cX8_shortest 133 = .ok (.iload 10, 2) := by decide +kernel
theorem dX8_shortest_135 : decode cX8_shortest 135 = .ok (.goto 5, 3) := by decide +kernel
theorem dX8_shortest_138 : decode cX8_shortest 138 = .ok (.iload 7, 2) := by decide +kernel
theorem dX8_shortest_140 : decode cX8_shortest 140 = .ok (.istore 7, 2) := by decide +kernel
theorem dX8_shortest_142 : decode cX8_shortest 142 = .ok (.iinc 8 1, 3) := by decide +kernel
theorem dX8_shortest_145 : decode cX8_shortest 145 = .ok (.goto (-72), 3) := by decide +kernel
theorem dX8_shortest_148 : decode cX8_shortest 148 = .ok (.aload_n 0, 1) := by decide +kernel
theorem dX8_shortest_149 : decode cX8_shortest 149 = .ok (.getfield 62, 3) := by decide +kernel
theorem dX8_shortest_152 : decode cX8_shortest 152 = .ok (.iload 4, 2) := by decide +kernel
theorem dX8_shortest_154 : decode cX8_shortest 154 = .ok (.bipush 49, 2) := by decide +kernel
theorem dX8_shortest_156 : decode cX8_shortest 156 = .ok (.iload 6, 2) := by decide +kernel
theorem dX8_shortest_158 : decode cX8_shortest 158 = .ok (.imul, 1) := by decide +kernel
theorem dX8_shortest_159 : decode cX8_shortest 159 = .ok (.iadd, 1) := by decide +kernel
theorem dX8_shortest_160 : decode cX8_shortest 160 = .ok (.iload 5, 2) := by decide +kernel
theorem dX8_shortest_162 : decode cX8_shortest 162 = .ok (.iadd, 1) := by decide +kernel
theorem dX8_shortest_163 : decode cX8_shortest 163 = .ok (.iload 7, 2) := by decide +kernel
theorem dX8_shortest_165 : decode cX8_shortest 165 = .ok (.iastore, 1) := by decide +kernel
theorem dX8_shortest_166 : decode cX8_shortest 166 = .ok (.iinc 6 (-1), 3) := by decide +kernel
theorem dX8_shortest_169 : decode cX8_shortest 169 = .ok (.goto (-111), 3) := by decide +kernel
theorem dX8_shortest_172 : decode cX8_shortest 172 = .ok (.iinc 5 1, 3) := by decide +kernel
theorem dX8_shortest_175 : decode cX8_shortest 175 = .ok (.goto (-146), 3) := by decide +kernel
theorem dX8_shortest_178 : decode cX8_shortest 178 = .ok (.iinc 3 1, 3) := by decide +kernel
theorem dX8_shortest_181 : decode cX8_shortest 181 = .ok (.goto (-167), 3) := by decide +kernel
theorem dX8_shortest_184 : decode cX8_shortest 184 = .ok (.aload_n 0, 1) := by decide +kernel
theorem dX8_shortest_185 : decode cX8_shortest 185 = .ok (.getfield 62, 3) := by decide +kernel
theorem dX8_shortest_188 : decode cX8_shortest 188 = .ok (.sipush 4802, 3) := by decide +kernel
theorem dX8_shortest_191 : decode cX8_shortest 191 = .ok (.iload_n 2, 1) := by decide +kernel
theorem dX8_shortest_192 : decode cX8_shortest 192 = .ok (.iadd, 1) := by decide +kernel
theorem dX8_shortest_193 : decode cX8_shortest 193 = .ok (.iaload, 1) := by decide +kernel
theorem dX8_shortest_194 : decode cX8_shortest 194 = .ok (.ireturn, 1) := by decide +kernel
theorem dX8_bestDelay_0 : decode cX8_bestDelay 0 = .ok (.iconst 0, 1) := by decide +kernel
theorem dX8_bestDelay_1 : decode cX8_bestDelay 1 = .ok (.istore_n 2, 1) := by decide +kernel
theorem dX8_bestDelay_2 : decode cX8_bestDelay 2 = .ok (.iconst 0, 1) := by decide +kernel
theorem dX8_bestDelay_3 : decode cX8_bestDelay 3 = .ok (.istore_n 3, 1) := by decide +kernel
theorem dX8_bestDelay_4 : decode cX8_bestDelay 4 = .ok (.iconst 0, 1) := by decide +kernel
theorem dX8_bestDelay_5 : decode cX8_bestDelay 5 = .ok (.istore 4, 2) := by decide +kernel
theorem dX8_bestDelay_7 : decode cX8_bestDelay 7 = .ok (.iload 4, 2) := by decide +kernel
