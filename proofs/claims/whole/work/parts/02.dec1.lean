theorem dX0_init_0 : decode cX0_init 0 = .ok (.aload_n 0, 1) := by decide +kernel
theorem dX0_init_1 : decode cX0_init 1 = .ok (.invokespecial 3, 3) := by decide +kernel
theorem dX0_init_4 : decode cX0_init 4 = .ok (.aload_n 0, 1) := by decide +kernel
theorem dX0_init_5 : decode cX0_init 5 = .ok (.bipush 70, 2) := by decide +kernel
theorem dX0_init_7 : decode cX0_init 7 = .ok (.newarray .int, 2) := by decide +kernel
theorem dX0_init_9 : decode cX0_init 9 = .ok (.putfield 11, 3) := by decide +kernel
theorem dX0_init_12 : decode cX0_init 12 = .ok (.return_, 1) := by decide +kernel
theorem dX0_clear_0 : decode cX0_clear 0 = .ok (.aload_n 0, 1) := by decide +kernel
theorem dX0_clear_1 : decode cX0_clear 1 = .ok (.iconst 0, 1) := by decide +kernel
theorem dX0_clear_2 : decode cX0_clear 2 = .ok (.putfield 15, 3) := by decide +kernel
theorem dX0_clear_5 : decode cX0_clear 5 = .ok (.return_, 1) := by decide +kernel
theorem dX0_add_0 : decode cX0_add 0 = .ok (.aload_n 0, 1) := by decide +kernel
theorem dX0_add_1 : decode cX0_add 1 = .ok (.getfield 15, 3) := by decide +kernel
theorem dX0_add_4 : decode cX0_add 4 = .ok (.bipush 14, 2) := by decide +kernel
theorem dX0_add_6 : decode cX0_add 6 = .ok (.if_icmp .lt 7, 3) := by decide +kernel
theorem dX0_add_9 : decode cX0_add 9 = .ok (.aload_n 0, 1) := by decide +kernel
theorem dX0_add_10 : decode cX0_add 10 = .ok (.invokevirtual 19, 3) := by decide +kernel
theorem dX0_add_13 : decode cX0_add 13 = .ok (.aload_n 0, 1) := by decide +kernel
theorem dX0_add_14 : decode cX0_add 14 = .ok (.getfield 15, 3) := by decide +kernel
theorem dX0_add_17 : decode cX0_add 17 = .ok (.iconst 5, 1) := by decide +kernel
theorem dX0_add_18 : decode cX0_add 18 = .ok (.imul, 1) := by decide +kernel
theorem dX0_add_19 : decode cX0_add 19 = .ok (.istore 6, 2) := by decide +kernel
theorem dX0_add_21 : decode cX0_add 21 = .ok (.aload_n 0, 1) := by decide +kernel
theorem dX0_add_22 : decode cX0_add 22 = .ok (.getfield 11, 3) := by decide +kernel
theorem dX0_add_25 : decode cX0_add 25 = .ok (.iload 6, 2) := by decide +kernel
theorem dX0_add_27 : decode cX0_add 27 = .ok (.iload_n 1, 1) := by decide +kernel
theorem dX0_add_28 : decode cX0_add 28 = .ok (.iastore, 1) := by decide +kernel
theorem dX0_add_29 : decode cX0_add 29 = .ok (.aload_n 0, 1) := by decide +kernel
theorem dX0_add_30 : decode cX0_add 30 = .ok (.getfield 11, 3) := by decide +kernel
theorem dX0_add_33 : decode cX0_add 33 = .ok (.iload 6, 2) := by decide +kernel
theorem dX0_add_35 : decode cX0_add 35 = .ok (.iconst 1, 1) := by decide +kernel
theorem dX0_add_36 : decode cX0_add 36 = .ok (.iadd, 1) := by decide +kernel
theorem dX0_add_37 : decode cX0_add 37 = .ok (.iload_n 2, 1) := by decide +kernel
theorem dX0_add_38 : decode cX0_add 38 = .ok (.iastore, 1) := by decide +kernel
theorem dX0_add_39 : decode cX0_add 39 = .ok (.aload_n 0, 1) := by decide +kernel
theorem dX0_add_40 : decode cX0_add 40 = .ok (.getfield 11, 3) := by decide +kernel
theorem dX0_add_43 : decode cX0_add 43 = .ok (.iload 6, 2) := by decide +kernel
theorem dX0_add_45 : decode cX0_add 45 = .ok (.iconst 2, 1) := by decide +kernel
theorem dX0_add_46 : decode cX0_add 46 = .ok (.iadd, 1) := by decide +kernel
theorem dX0_add_47 : decode cX0_add 47 = .ok (.iload_n 3, 1) := by decide +kernel
theorem dX0_add_48 : decode cX0_add 48 = .ok (.iastore, 1) := by decide +kernel
theorem dX0_add_49 : decode cX0_add 49 = .ok (.aload_n 0, 1) := by decide +kernel
theorem dX0_add_50 : decode cX0_add 50 = .ok (.getfield 11, 3) := by decide +kernel
theorem dX0_add_53 : decode cX0_add 53 = .ok (.iload 6, 2) := by decide +kernel
theorem dX0_add_55 : decode cX0_add 55 = .ok (.iconst 3, 1) := by decide +kernel
theorem dX0_add_56 : decode cX0_add 56 = .ok (.iadd, 1) := by decide +kernel
theorem dX0_add_57 : decode cX0_add 57 = .ok (.iload 4, 2) := by decide +kernel
theorem dX0_add_59 : decode cX0_add 59 = .ok (.iastore, 1) := by decide +kernel
theorem dX0_add_60 : decode cX0_add 60 = .ok (.aload_n 0, 1) := by decide +kernel
theorem dX0_add_61 : decode cX0_add 61 = .ok (.getfield 11, 3) := by decide +kernel
theorem dX0_add_64 : decode cX0_add 64 = .ok (.iload 6, 2) := by decide +kernel
theorem dX0_add_66 : decode cX0_add 66 = .ok (.iconst 4, 1) := by decide +kernel
theorem dX0_add_67 : decode cX0_add 67 = .ok (.iadd, 1) := by decide +kernel
theorem dX0_add_68 : decode cX0_add 68 = .ok (.iload 5, 2) := by decide +kernel
theorem dX0_add_70 : decode cX0_add 70 = .ok (.iastore, 1) := by decide +kernel
theorem dX0_add_71 : decode cX0_add 71 = .ok (.aload_n 0, 1) := by decide +kernel
theorem dX0_add_72 : decode cX0_add 72 = .ok (.dup, 1) := by decide +kernel
theorem dX0_add_73 : decode cX0_add 73 = .ok (.getfield 15, 3) := by decide +kernel
theorem dX0_add_76 : decode cX0_add 76 = .ok (.iconst 1, 1) := by decide +kernel
theorem dX0_add_77 : decode cX0_add 77 = .ok (.iadd, 1) := by decide +kernel
theorem dX0_add_78 : decode cX0_add 78 = .ok (.putfield 15, 3) := by decide +kernel
theorem dX0_add_81 : decode cX0_add 81 = .ok (.return_, 1) := by decide +kernel
theorem dX0_forgetFirst_0 : decode cX0_forgetFirst 0 = .ok (.aload_n 0, 1) := by decide +kernel
theorem dX0_forgetFirst_1 : decode cX0_forgetFirst 1 = .ok (.getfield 11, 3) := by decide +kernel
theorem dX0_forgetFirst_4 : decode cX0_forgetFirst 4 = .ok (.iconst 5, 1) := by decide +kernel
theorem dX0_forgetFirst_5 : decode cX0_forgetFirst 5 = .ok (.aload_n 0, 1) := by decide +kernel
theorem dX0_forgetFirst_6 : decode cX0_forgetFirst 6 = .ok (.getfield 11, 3) := by decide +kernel
theorem dX0_forgetFirst_9 : decode cX0_forgetFirst 9 = .ok (.iconst 0, 1) := by decide +kernel
theorem dX0_forgetFirst_10 : decode cX0_forgetFirst 10 = .ok (.bipush 65, 2) := by decide +kernel
theorem dX0_forgetFirst_12 : decode cX0_forgetFirst 12 = .ok (.invokestatic 22, 3) := by decide +kernel
theorem dX0_forgetFirst_15 : decode cX0_forgetFirst 15 = .ok (.aload_n 0, 1) := by decide +kernel
theorem dX0_forgetFirst_16 : decode cX0_forgetFirst 16 = .ok (.bipush 13, 2) := by decide +kernel
theorem dX0_forgetFirst_18 : decode cX0_forgetFirst 18 = .ok (.putfield 15, 3) := by decide +kernel
theorem dX0_forgetFirst_21 : decode cX0_forgetFirst 21 = .ok (.return_, 1) := by decide +kernel
theorem dX0_takeBackLast_0 : decode cX0_takeBackLast 0 = .ok (.aload_n 0, 1) := by decide +kernel
theorem dX0_takeBackLast_1 : decode cX0_takeBackLast 1 = .ok (.getfield 15, 3) := by decide +kernel
theorem dX0_takeBackLast_4 : decode cX0_takeBackLast 4 = .ok (.iconst 1, 1) := by decide +kernel
theorem dX0_takeBackLast_5 : decode cX0_takeBackLast 5 = .ok (.if_icmp .ge 4, 3) := by decide +kernel
theorem dX0_takeBackLast_8 : decode cX0_takeBackLast 8 = .ok (.return_, 1) := by decide +kernel
theorem dX0_takeBackLast_9 : decode cX0_takeBackLast 9 = .ok (.aload_n 0, 1) := by decide +kernel
theorem dX0_takeBackLast_10 : decode cX0_takeBackLast 10 = .ok (.dup, 1) := by decide +kernel
theorem dX0_takeBackLast_11 : decode cX0_takeBackLast 11 = .ok (.getfield 15, 3) := by decide +kernel
theorem dX0_takeBackLast_14 : decode cX0_takeBackLast 14 = .ok (.iconst 1, 1) := by decide +kernel
theorem dX0_takeBackLast_15 : decode cX0_takeBackLast 15 = .ok (.isub, 1) := by decide +kernel
theorem dX0_takeBackLast_16 : decode cX0_takeBackLast 16 = .ok (.putfield 15, 3) := by decide +kernel
theorem dX0_takeBackLast_19 : decode cX0_takeBackLast 19 = .ok (.aload_n 0, 1) := by decide +kernel
theorem dX0_takeBackLast_20 : decode cX0_takeBackLast 20 = .ok (.getfield 15, 3) := by decide +kernel
theorem dX0_takeBackLast_23 : decode cX0_takeBackLast 23 = .ok (.iconst 5, 1) := by decide +kernel
theorem dX0_takeBackLast_24 : decode cX0_takeBackLast 24 = .ok (.imul, 1) := by decide +kernel
theorem dX0_takeBackLast_25 : decode cX0_takeBackLast 25 = .ok (.istore_n 2, 1) := by decide +kernel
theorem dX0_takeBackLast_26 : decode cX0_takeBackLast 26 = .ok (.aload_n 0, 1) := by decide +kernel
theorem dX0_takeBackLast_27 : decode cX0_takeBackLast 27 = .ok (.getfield 11, 3) := by decide +kernel
theorem dX0_takeBackLast_30 : decode cX0_takeBackLast 30 = .ok (.iload_n 2, 1) := by decide +kernel
theorem dX0_takeBackLast_31 : decode cX0_takeBackLast 31 = .ok (.iconst 1, 1) := by decide +kernel
theorem dX0_takeBackLast_32 : decode cX0_takeBackLast 32 = .ok (.iadd, 1) := by decide +kernel
theorem dX0_takeBackLast_33 : decode cX0_takeBackLast 33 = .ok (.iaload, 1) := by decide +kernel
theorem dX0_takeBackLast_34 : decode cX0_takeBackLast 34 = .ok (.istore_n 3, 1) := by decide +kernel
theorem dX0_takeBackLast_35 : decode cX0_takeBackLast 35 = .ok (.aload_n 0, 1) := by decide +kernel
theorem dX0_takeBackLast_36 : decode cX0_takeBackLast 36 = .ok (.getfield 11, 3) := by decide +kernel
theorem dX0_takeBackLast_39 : decode cX0_takeBackLast 39 = .ok (.iload_n 2, 1) := by decide +kernel
theorem dX0_takeBackLast_40 : decode cX0_takeBackLast 40 = .ok (.iaload, 1) := by decide +kernel
theorem dX0_takeBackLast_41 : decode cX0_takeBackLast 41 = .ok (.tableswitch 119 0 3 #[31, 62, 79, 111], 31) := by decide +kernel
theorem dX0_takeBackLast_72 : decode cX0_takeBackLast 72 = .ok (.aload_n 1, 1) := by decide +kernel
theorem dX0_takeBackLast_73 : decode cX0_takeBackLast 73 = .ok (.getfield 28, 3) := by decide +kernel
theorem dX0_takeBackLast_76 : decode cX0_takeBackLast 76 = .ok (.iload_n 3, 1) := by decide +kernel
theorem dX0_takeBackLast_77 : decode cX0_takeBackLast 77 = .ok (.aload_n 0, 1) := by decide +kernel
theorem dX0_takeBackLast_78 : decode cX0_takeBackLast 78 = .ok (.getfield 11, 3) := by decide +kernel
theorem dX0_takeBackLast_81 : decode cX0_takeBackLast 81 = .ok (.iload_n 2, 1) := by decide +kernel
theorem dX0_takeBackLast_82 : decode cX0_takeBackLast 82 = .ok (.iconst 2, 1) := by decide +kernel
theorem dX0_takeBackLast_83 : decode cX0_takeBackLast 83 = .ok (.iadd, 1) := by decide +kernel
theorem dX0_takeBackLast_84 : decode cX0_takeBackLast 84 = .ok (.iaload, 1) := by decide +kernel
theorem dX0_takeBackLast_85 : decode cX0_takeBackLast 85 = .ok (.iastore, 1) := by decide +kernel
theorem dX0_takeBackLast_86 : decode cX0_takeBackLast 86 = .ok (.aload_n 1, 1) := by decide +kernel
theorem dX0_takeBackLast_87 : decode cX0_takeBackLast 87 = .ok (.getfield 33, 3) := by decide +kernel
theorem dX0_takeBackLast_90 : decode cX0_takeBackLast 90 = .ok (.iload_n 3, 1) := by decide +kernel
theorem dX0_takeBackLast_91 : decode cX0_takeBackLast 91 = .ok (.aload_n 0, 1) := by decide +kernel
theorem dX0_takeBackLast_92 : decode cX0_takeBackLast 92 = .ok (.getfield 11, 3) := by decide +kernel
theorem dX0_takeBackLast_95 : decode cX0_takeBackLast 95 = .ok (.iload_n 2, 1) := by decide +kernel
theorem dX0_takeBackLast_96 : decode cX0_takeBackLast 96 = .ok (.iconst 3, 1) := by decide +kernel
theorem dX0_takeBackLast_97 : decode cX0_takeBackLast 97 = .ok (.iadd, 1) := by decide +kernel
theorem dX0_takeBackLast_98 : decode cX0_takeBackLast 98 = .ok (.iaload, 1) := by decide +kernel
theorem dX0_takeBackLast_99 : decode cX0_takeBackLast 99 = .ok (.iastore, 1) := by decide +kernel
theorem dX0_takeBackLast_100 : decode cX0_takeBackLast 100 = .ok (.goto 80, 3) := by decide +kernel
theorem dX0_takeBackLast_103 : decode cX0_takeBackLast 103 = .ok (.aload_n 1, 1) := by decide +kernel
theorem dX0_takeBackLast_104 : decode cX0_takeBackLast 104 = .ok (.getfield 36, 3) := by decide +kernel
theorem dX0_takeBackLast_107 : decode cX0_takeBackLast 107 = .ok (.iload_n 3, 1) := by decide +kernel
theorem dX0_takeBackLast_108 : decode cX0_takeBackLast 108 = .ok (.aload_n 0, 1) := by decide +kernel
theorem dX0_takeBackLast_109 : decode cX0_takeBackLast 109 = .ok (.getfield 11, 3) := by decide +kernel
theorem dX0_takeBackLast_112 : decode cX0_takeBackLast 112 = .ok (.iload_n 2, 1) := by decide +kernel
theorem dX0_takeBackLast_113 : decode cX0_takeBackLast 113 = .ok (.iconst 2, 1) := by decide +kernel
theorem dX0_takeBackLast_114 : decode cX0_takeBackLast 114 = .ok (.iadd, 1) := by decide +kernel
theorem dX0_takeBackLast_115 : decode cX0_takeBackLast 115 = .ok (.iaload, 1) := by decide +kernel
theorem dX0_takeBackLast_116 : decode cX0_takeBackLast 116 = .ok (.iastore, 1) := by decide +kernel
theorem dX0_takeBackLast_117 : decode cX0_takeBackLast 117 = .ok (.goto 63, 3) := by decide +kernel
theorem dX0_takeBackLast_120 : decode cX0_takeBackLast 120 = .ok (.aload_n 1, 1) := by decide +kernel
theorem dX0_takeBackLast_121 : decode cX0_takeBackLast 121 = .ok (.iload_n 3, 1) := by decide +kernel
theorem dX0_takeBackLast_122 : decode cX0_takeBackLast 122 = .ok (.aload_n 0, 1) := by decide +kernel
theorem dX0_takeBackLast_123 : decode cX0_takeBackLast 123 = .ok (.getfield 11, 3) := by decide +kernel
theorem dX0_takeBackLast_126 : decode cX0_takeBackLast 126 = .ok (.iload_n 2, 1) := by decide +kernel
theorem dX0_takeBackLast_127 : decode cX0_takeBackLast 127 = .ok (.iconst 2, 1) := by decide +kernel
theorem dX0_takeBackLast_128 : decode cX0_takeBackLast 128 = .ok (.iadd, 1) := by decide +kernel
theorem dX0_takeBackLast_129 : decode cX0_takeBackLast 129 = .ok (.iaload, 1) := by decide +kernel
theorem dX0_takeBackLast_130 : decode cX0_takeBackLast 130 = .ok (.aload_n 0, 1) := by decide +kernel
theorem dX0_takeBackLast_131 : decode cX0_takeBackLast 131 = .ok (.getfield 11, 3) := by decide +kernel
theorem dX0_takeBackLast_134 : decode cX0_takeBackLast 134 = .ok (.iload_n 2, 1) := by decide +kernel
theorem dX0_takeBackLast_135 : decode cX0_takeBackLast 135 = .ok (.iconst 3, 1) := by decide +kernel
theorem dX0_takeBackLast_136 : decode cX0_takeBackLast 136 = .ok (.iadd, 1) := by decide +kernel
theorem dX0_takeBackLast_137 : decode cX0_takeBackLast 137 = .ok (.iaload, 1) := by decide +kernel
theorem dX0_takeBackLast_138 : decode cX0_takeBackLast 138 = .ok (.aload_n 0, 1) := by decide +kernel
theorem dX0_takeBackLast_139 : decode cX0_takeBackLast 139 = .ok (.getfield 11, 3) := by decide +kernel
theorem dX0_takeBackLast_142 : decode cX0_takeBackLast 142 = .ok (.iload_n 2, 1) := by decide +kernel
theorem dX0_takeBackLast_143 : decode cX0_takeBackLast 143 = .ok (.iconst 4, 1) := by decide +kernel
theorem dX0_takeBackLast_144 : decode cX0_takeBackLast 144 = .ok (.iadd, 1) := by decide +kernel
theorem dX0_takeBackLast_145 : decode cX0_takeBackLast 145 = .ok (.iaload, 1) := by decide +kernel
theorem dX0_takeBackLast_146 : decode cX0_takeBackLast 146 = .ok (.invokevirtual 39, 3) := by decide +kernel
theorem dX0_takeBackLast_149 : decode cX0_takeBackLast 149 = .ok (.goto 31, 3) := by decide +kernel
theorem dX0_takeBackLast_152 : decode cX0_takeBackLast 152 = .ok (.aload_n 1, 1) := by decide +kernel
theorem dX0_takeBackLast_153 : decode cX0_takeBackLast 153 = .ok (.invokevirtual 43, 3) := by decide +kernel
theorem dX0_takeBackLast_156 : decode cX0_takeBackLast 156 = .ok (.pop, 1) := by decide +kernel
theorem dX0_takeBackLast_157 : decode cX0_takeBackLast 157 = .ok (.goto 23, 3) := by decide +kernel
theorem dX0_takeBackLast_160 : decode cX0_takeBackLast 160 = .ok (.aload_n 1, 1) := by decide +kernel
theorem dX0_takeBackLast_161 : decode cX0_takeBackLast 161 = .ok (.aload_n 0, 1) := by decide +kernel
theorem dX0_takeBackLast_162 : decode cX0_takeBackLast 162 = .ok (.getfield 11, 3) := by decide +kernel
theorem dX0_takeBackLast_165 : decode cX0_takeBackLast 165 = .ok (.iload_n 2, 1) := by decide +kernel
theorem dX0_takeBackLast_166 : decode cX0_takeBackLast 166 = .ok (.iconst 2, 1) := by decide +kernel
theorem dX0_takeBackLast_167 : decode cX0_takeBackLast 167 = .ok (.iadd, 1) := by decide +kernel
theorem dX0_takeBackLast_168 : decode cX0_takeBackLast 168 = .ok (.iaload, 1) := by decide +kernel
theorem dX0_takeBackLast_169 : decode cX0_takeBackLast 169 = .ok (.aload_n 0, 1) := by decide +kernel
theorem dX0_takeBackLast_170 : decode cX0_takeBackLast 170 = .ok (.getfield 11, 3) := by decide +kernel
theorem dX0_takeBackLast_173 : decode cX0_takeBackLast 173 = .ok (.iload_n 2, 1) := by decide +kernel
theorem dX0_takeBackLast_174 : decode cX0_takeBackLast 174 = .ok (.iconst 3, 1) := by decide +kernel
theorem dX0_takeBackLast_175 : decode cX0_takeBackLast 175 = .ok (.iadd, 1) := by decide +kernel
theorem dX0_takeBackLast_176 : decode cX0_takeBackLast 176 = .ok (.iaload, 1) := by decide +kernel
theorem dX0_takeBackLast_177 : decode cX0_takeBackLast 177 = .ok (.invokevirtual 47, 3) := by decide +kernel
theorem dX0_takeBackLast_180 : decode cX0_takeBackLast 180 = .ok (.return_, 1) := by decide +kernel
theorem dX1_init_0 : decode cX1_init 0 = .ok (.aload_n 0, 1) := by decide +kernel
theorem dX1_init_1 : decode cX1_init 1 = .ok (.invokespecial 3, 3) := by decide +kernel
theorem dX1_init_4 : decode cX1_init 4 = .ok (.aload_n 0, 1) := by decide +kernel
theorem dX1_init_5 : decode cX1_init 5 = .ok (.new 9, 3) := by decide +kernel
theorem dX1_init_8 : decode cX1_init 8 = .ok (.dup, 1) := by decide +kernel
theorem dX1_init_9 : decode cX1_init 9 = .ok (.invokespecial 11, 3) := by decide +kernel
theorem dX1_init_12 : decode cX1_init 12 = .ok (.putfield 12, 3) := by decide +kernel
theorem dX1_init_15 : decode cX1_init 15 = .ok (.aload_n 0, 1) := by decide +kernel
theorem dX1_init_16 : decode cX1_init 16 = .ok (.iconst 2, 1) := by decide +kernel
theorem dX1_init_17 : decode cX1_init 17 = .ok (.newarray .int, 2) := by decide +kernel
theorem dX1_init_19 : decode cX1_init 19 = .ok (.putfield 18, 3) := by decide +kernel
theorem dX1_init_22 : decode cX1_init 22 = .ok (.return_, 1) := by decide +kernel
theorem dX1_firstFault_0 : decode cX1_firstFault 0 = .ok (.aload_n 0, 1) := by decide +kernel
theorem dX1_firstFault_1 : decode cX1_firstFault 1 = .ok (.getfield 12, 3) := by decide +kernel
theorem dX1_firstFault_4 : decode cX1_firstFault 4 = .ok (.invokevirtual 22, 3) := by decide +kernel
theorem dX1_firstFault_7 : decode cX1_firstFault 7 = .ok (.aload_n 0, 1) := by decide +kernel
theorem dX1_firstFault_8 : decode cX1_firstFault 8 = .ok (.iconst 0, 1) := by decide +kernel
theorem dX1_firstFault_9 : decode cX1_firstFault 9 = .ok (.putfield 25, 3) := by decide +kernel
theorem dX1_firstFault_12 : decode cX1_firstFault 12 = .ok (.aload_n 0, 1) := by decide +kernel
theorem dX1_firstFault_13 : decode cX1_firstFault 13 = .ok (.iconst 0, 1) := by decide +kernel
theorem dX1_firstFault_14 : decode cX1_firstFault 14 = .ok (.putfield 29, 3) := by decide +kernel
theorem dX1_firstFault_17 : decode cX1_firstFault 17 = .ok (.iconst 0, 1) := by decide +kernel
theorem dX1_firstFault_18 : decode cX1_firstFault 18 = .ok (.istore_n 3, 1) := by decide +kernel
theorem dX1_firstFault_19 : decode cX1_firstFault 19 = .ok (.iload_n 3, 1) := by decide +kernel
theorem dX1_firstFault_20 : decode cX1_firstFault 20 = .ok (.iload_n 2, 1) := by decide +kernel
theorem dX1_firstFault_21 : decode cX1_firstFault 21 = .ok (.if_icmp .ge 27, 3) := by decide +kernel
theorem dX1_firstFault_24 : decode cX1_firstFault 24 = .ok (.iload_n 3, 1) := by decide +kernel
theorem dX1_firstFault_25 : decode cX1_firstFault 25 = .ok (.aload_n 1, 1) := by decide +kernel
theorem dX1_firstFault_26 : decode cX1_firstFault 26 = .ok (.arraylength, 1) := by decide +kernel
theorem dX1_firstFault_27 : decode cX1_firstFault 27 = .ok (.if_icmp .ge 21, 3) := by decide +kernel
theorem dX1_firstFault_30 : decode cX1_firstFault 30 = .ok (.aload_n 0, 1) := by decide +kernel
theorem dX1_firstFault_31 : decode cX1_firstFault 31 = .ok (.aload_n 1, 1) := by decide +kernel
theorem dX1_firstFault_32 : decode cX1_firstFault 32 = .ok (.iload_n 3, 1) := by decide +kernel
theorem dX1_firstFault_33 : decode cX1_firstFault 33 = .ok (.iaload, 1) := by decide +kernel
theorem dX1_firstFault_34 : decode cX1_firstFault 34 = .ok (.invokevirtual 32, 3) := by decide +kernel
theorem dX1_firstFault_37 : decode cX1_firstFault 37 = .ok (.ifCond .ne 5, 3) := by decide +kernel
theorem dX1_firstFault_40 : decode cX1_firstFault 40 = .ok (.iload_n 3, 1) := by decide +kernel
theorem dX1_firstFault_41 : decode cX1_firstFault 41 = .ok (.ireturn, 1) := by decide +kernel
theorem dX1_firstFault_42 : decode cX1_firstFault 42 = .ok (.iinc 3 1, 3) := by decide +kernel
theorem dX1_firstFault_45 : decode cX1_firstFault 45 = .ok (.goto (-26), 3) := by decide +kernel
theorem dX1_firstFault_48 : decode cX1_firstFault 48 = .ok (.aload_n 0, 1) := by decide +kernel
theorem dX1_firstFault_49 : decode cX1_firstFault 49 = .ok (.getfield 25, 3) := by decide +kernel
theorem dX1_firstFault_52 : decode cX1_firstFault 52 = .ok (.iconst 1, 1) := by decide +kernel
theorem dX1_firstFault_53 : decode cX1_firstFault 53 = .ok (.if_icmp .eq 11, 3) := by decide +kernel
theorem dX1_firstFault_56 : decode cX1_firstFault 56 = .ok (.aload_n 0, 1) := by decide +kernel
theorem dX1_firstFault_57 : decode cX1_firstFault 57 = .ok (.getfield 25, 3) := by decide +kernel
theorem dX1_firstFault_60 : decode cX1_firstFault 60 = .ok (.iconst 4, 1) := by decide +kernel
theorem dX1_firstFault_61 : decode cX1_firstFault 61 = .ok (.if_icmp .ne 8, 3) := by decide +kernel
theorem dX1_firstFault_64 : decode cX1_firstFault 64 = .ok (.bipush (-9), 2) := by decide +kernel
theorem dX1_firstFault_66 : decode cX1_firstFault 66 = .ok (.goto 4, 3) := by decide +kernel
theorem dX1_firstFault_69 : decode cX1_firstFault 69 = .ok (.iload_n 2, 1) := by decide +kernel
theorem dX1_firstFault_70 : decode cX1_firstFault 70 = .ok (.ireturn, 1) := by decide +kernel
theorem dX1_takes_0 : decode cX1_takes 0 = .ok (.aload_n 0, 1) := by decide +kernel
theorem dX1_takes_1 : decode cX1_takes 1 = .ok (.getfield 25, 3) := by decide +kernel
theorem dX1_takes_4 : decode cX1_takes 4 = .ok (.tableswitch 168 0 8 #[52, 69, 88, 123, 132, 138, 144, 150, 159], 52) := by decide +kernel
theorem dX1_takes_56 : decode cX1_takes 56 = .ok (.aload_n 0, 1) := by decide +kernel
theorem dX1_takes_57 : decode cX1_takes 57 = .ok (.iconst 1, 1) := by decide +kernel
theorem dX1_takes_58 : decode cX1_takes 58 = .ok (.putfield 25, 3) := by decide +kernel
theorem dX1_takes_61 : decode cX1_takes 61 = .ok (.iload_n 1, 1) := by decide +kernel
theorem dX1_takes_62 : decode cX1_takes 62 = .ok (.bipush 75, 2) := by decide +kernel
theorem dX1_takes_64 : decode cX1_takes 64 = .ok (.if_icmp .ne 7, 3) := by decide +kernel
theorem dX1_takes_67 : decode cX1_takes 67 = .ok (.iconst 1, 1) := by decide +kernel
theorem dX1_takes_68 : decode cX1_takes 68 = .ok (.goto 4, 3) := by decide +kernel
theorem dX1_takes_71 : decode cX1_takes 71 = .ok (.iconst 0, 1) := by decide +kernel
theorem dX1_takes_72 : decode cX1_takes 72 = .ok (.ireturn, 1) := by decide +kernel
theorem dX1_takes_73 : decode cX1_takes 73 = .ok (.iload_n 1, 1) := by decide +kernel
theorem dX1_takes_74 : decode cX1_takes 74 = .ok (.bipush 100, 2) := by decide +kernel
theorem dX1_takes_76 : decode cX1_takes 76 = .ok (.if_icmp .ne 10, 3) := by decide +kernel
theorem dX1_takes_79 : decode cX1_takes 79 = .ok (.aload_n 0, 1) := by decide +kernel
theorem dX1_takes_80 : decode cX1_takes 80 = .ok (.invokevirtual 36, 3) := by decide +kernel
theorem dX1_takes_83 : decode cX1_takes 83 = .ok (.goto 8, 3) := by decide +kernel
theorem dX1_takes_86 : decode cX1_takes 86 = .ok (.aload_n 0, 1) := by decide +kernel
theorem dX1_takes_87 : decode cX1_takes 87 = .ok (.iload_n 1, 1) := by decide +kernel
theorem dX1_takes_88 : decode cX1_takes 88 = .ok (.invokevirtual 40, 3) := by decide +kernel
theorem dX1_takes_91 : decode cX1_takes 91 = .ok (.ireturn, 1) := by decide +kernel
theorem dX1_takes_92 : decode cX1_takes 92 = .ok (.aload_n 0, 1) := by decide +kernel
theorem dX1_takes_93 : decode cX1_takes 93 = .ok (.iload_n 1, 1) := by decide +kernel
theorem dX1_takes_94 : decode cX1_takes 94 = .ok (.bipush 48, 2) := by decide +kernel
theorem dX1_takes_96 : decode cX1_takes 96 = .ok (.isub, 1) := by decide +kernel
theorem dX1_takes_97 : decode cX1_takes 97 = .ok (.putfield 43, 3) := by decide +kernel
theorem dX1_takes_100 : decode cX1_takes 100 = .ok (.aload_n 0, 1) := by decide +kernel
theorem dX1_takes_101 : decode cX1_takes 101 = .ok (.iconst 3, 1) := by decide +kernel
theorem dX1_takes_102 : decode cX1_takes 102 = .ok (.putfield 25, 3) := by decide +kernel
theorem dX1_takes_105 : decode cX1_takes 105 = .ok (.aload_n 0, 1) := by decide +kernel
theorem dX1_takes_106 : decode cX1_takes 106 = .ok (.getfield 43, 3) := by decide +kernel
theorem dX1_takes_109 : decode cX1_takes 109 = .ok (.ifCond .lt 16, 3) := by decide +kernel
theorem dX1_takes_112 : decode cX1_takes 112 = .ok (.aload_n 0, 1) := by decide +kernel
theorem dX1_takes_113 : decode cX1_takes 113 = .ok (.getfield 43, 3) := by decide +kernel
theorem dX1_takes_116 : decode cX1_takes 116 = .ok (.bipush 9, 2) := by decide +kernel
theorem dX1_takes_118 : decode cX1_takes 118 = .ok (.if_icmp .gt 7, 3) := by decide +kernel
theorem dX1_takes_121 : decode cX1_takes 121 = .ok (.iconst 1, 1) := by decide +kernel
theorem dX1_takes_122 : decode cX1_takes 122 = .ok (.goto 4, 3) := by decide +kernel
theorem dX1_takes_125 : decode cX1_takes 125 = .ok (.iconst 0, 1) := by decide +kernel
theorem dX1_takes_126 : decode cX1_takes 126 = .ok (.ireturn, 1) := by decide +kernel
theorem dX1_takes_127 : decode cX1_takes 127 = .ok (.aload_n 0, 1) := by decide +kernel
theorem dX1_takes_128 : decode cX1_takes 128 = .ok (.iload_n 1, 1) := by decide +kernel
theorem dX1_takes_129 : decode cX1_takes 129 = .ok (.bipush 48, 2) := by decide +kernel
theorem dX1_takes_131 : decode cX1_takes 131 = .ok (.isub, 1) := by decide +kernel
theorem dX1_takes_132 : decode cX1_takes 132 = .ok (.invokevirtual 46, 3) := by decide +kernel
theorem dX1_takes_135 : decode cX1_takes 135 = .ok (.ireturn, 1) := by decide +kernel
theorem dX1_takes_136 : decode cX1_takes 136 = .ok (.aload_n 0, 1) := by decide +kernel
theorem dX1_takes_137 : decode cX1_takes 137 = .ok (.iload_n 1, 1) := by decide +kernel
theorem dX1_takes_138 : decode cX1_takes 138 = .ok (.invokevirtual 40, 3) := by decide +kernel
theorem dX1_takes_141 : decode cX1_takes 141 = .ok (.ireturn, 1) := by decide +kernel
theorem dX1_takes_142 : decode cX1_takes 142 = .ok (.aload_n 0, 1) := by decide +kernel
theorem dX1_takes_143 : decode cX1_takes 143 = .ok (.iload_n 1, 1) := by decide +kernel
theorem dX1_takes_144 : decode cX1_takes 144 = .ok (.invokevirtual 49, 3) := by decide +kernel
theorem dX1_takes_147 : decode cX1_takes 147 = .ok (.ireturn, 1) := by decide +kernel
theorem dX1_takes_148 : decode cX1_takes 148 = .ok (.aload_n 0, 1) := by decide +kernel
theorem dX1_takes_149 : decode cX1_takes 149 = .ok (.iload_n 1, 1) := by decide +kernel
theorem dX1_takes_150 : decode cX1_takes 150 = .ok (.invokevirtual 52, 3) := by decide +kernel
theorem dX1_takes_153 : decode cX1_takes 153 = .ok (.ireturn, 1) := by decide +kernel
theorem dX1_takes_154 : decode cX1_takes 154 = .ok (.aload_n 0, 1) := by decide +kernel
theorem dX1_takes_155 : decode cX1_takes 155 = .ok (.iload_n 1, 1) := by decide +kernel
theorem dX1_takes_156 : decode cX1_takes 156 = .ok (.bipush 48, 2) := by decide +kernel
theorem dX1_takes_158 : decode cX1_takes 158 = .ok (.isub, 1) := by decide +kernel
theorem dX1_takes_159 : decode cX1_takes 159 = .ok (.invokevirtual 55, 3) := by decide +kernel
theorem dX1_takes_162 : decode cX1_takes 162 = .ok (.ireturn, 1) := by decide +kernel
theorem dX1_takes_163 : decode cX1_takes 163 = .ok (.aload_n 0, 1) := by decide +kernel
theorem dX1_takes_164 : decode cX1_takes 164 = .ok (.iload_n 1, 1) := by decide +kernel
theorem dX1_takes_165 : decode cX1_takes 165 = .ok (.bipush 48, 2) := by decide +kernel
theorem dX1_takes_167 : decode cX1_takes 167 = .ok (.isub, 1) := by decide +kernel
theorem dX1_takes_168 : decode cX1_takes 168 = .ok (.invokevirtual 58, 3) := by decide +kernel
theorem dX1_takes_171 : decode cX1_takes 171 = .ok (.ireturn, 1) := by decide +kernel
theorem dX1_takes_172 : decode cX1_takes 172 = .ok (.iconst 0, 1) := by decide +kernel
theorem dX1_takes_173 : decode cX1_takes 173 = .ok (.ireturn, 1) := by decide +kernel
theorem dX1_takesDrawing_0 : decode cX1_takesDrawing 0 = .ok (.aload_n 0, 1) := by decide +kernel
theorem dX1_takesDrawing_1 : decode cX1_takesDrawing 1 = .ok (.iconst 2, 1) := by decide +kernel
theorem dX1_takesDrawing_2 : decode cX1_takesDrawing 2 = .ok (.putfield 25, 3) := by decide +kernel
theorem dX1_takesDrawing_5 : decode cX1_takesDrawing 5 = .ok (.aload_n 0, 1) := by decide +kernel
theorem dX1_takesDrawing_6 : decode cX1_takesDrawing 6 = .ok (.getfield 12, 3) := by decide +kernel
theorem dX1_takesDrawing_9 : decode cX1_takesDrawing 9 = .ok (.getfield 61, 3) := by decide +kernel
theorem dX1_takesDrawing_12 : decode cX1_takesDrawing 12 = .ok (.bipush 6, 2) := by decide +kernel
theorem dX1_takesDrawing_14 : decode cX1_takesDrawing 14 = .ok (.if_icmp .ge 7, 3) := by decide +kernel
theorem dX1_takesDrawing_17 : decode cX1_takesDrawing 17 = .ok (.iconst 1, 1) := by decide +kernel
theorem dX1_takesDrawing_18 : decode cX1_takesDrawing 18 = .ok (.goto 4, 3) := by decide +kernel
theorem dX1_takesDrawing_21 : decode cX1_takesDrawing 21 = .ok (.iconst 0, 1) := by decide +kernel
theorem dX1_takesDrawing_22 : decode cX1_takesDrawing 22 = .ok (.ireturn, 1) := by decide +kernel
theorem dX1_takesWidth_0 : decode cX1_takesWidth 0 = .ok (.iload_n 1, 1) := by decide +kernel
theorem dX1_takesWidth_1 : decode cX1_takesWidth 1 = .ok (.iconst 1, 1) := by decide +kernel
theorem dX1_takesWidth_2 : decode cX1_takesWidth 2 = .ok (.if_icmp .lt 8, 3) := by decide +kernel
theorem dX1_takesWidth_5 : decode cX1_takesWidth 5 = .ok (.iload_n 1, 1) := by decide +kernel
theorem dX1_takesWidth_6 : decode cX1_takesWidth 6 = .ok (.iconst 5, 1) := by decide +kernel
theorem dX1_takesWidth_7 : decode cX1_takesWidth 7 = .ok (.if_icmp .le 5, 3) := by decide +kernel
theorem dX1_takesWidth_10 : decode cX1_takesWidth 10 = .ok (.iconst 0, 1) := by decide +kernel
theorem dX1_takesWidth_11 : decode cX1_takesWidth 11 = .ok (.ireturn, 1) := by decide +kernel
theorem dX1_takesWidth_12 : decode cX1_takesWidth 12 = .ok (.aload_n 0, 1) := by decide +kernel
theorem dX1_takesWidth_13 : decode cX1_takesWidth 13 = .ok (.getfield 12, 3) := by decide +kernel
theorem dX1_takesWidth_16 : decode cX1_takesWidth 16 = .ok (.aload_n 0, 1) := by decide +kernel
theorem dX1_takesWidth_17 : decode cX1_takesWidth 17 = .ok (.getfield 43, 3) := by decide +kernel
theorem dX1_takesWidth_20 : decode cX1_takesWidth 20 = .ok (.iload_n 1, 1) := by decide +kernel
theorem dX1_takesWidth_21 : decode cX1_takesWidth 21 = .ok (.invokevirtual 64, 3) := by decide +kernel
theorem dX1_takesWidth_24 : decode cX1_takesWidth 24 = .ok (.aload_n 0, 1) := by decide +kernel
theorem dX1_takesWidth_25 : decode cX1_takesWidth 25 = .ok (.iconst 1, 1) := by decide +kernel
theorem dX1_takesWidth_26 : decode cX1_takesWidth 26 = .ok (.putfield 25, 3) := by decide +kernel
theorem dX1_takesWidth_29 : decode cX1_takesWidth 29 = .ok (.iconst 1, 1) := by decide +kernel
theorem dX1_takesWidth_30 : decode cX1_takesWidth 30 = .ok (.ireturn, 1) := by decide +kernel
theorem dX1_takesLevel_0 : decode cX1_takesLevel 0 = .ok (.iload_n 1, 1) := by decide +kernel
theorem dX1_takesLevel_1 : decode cX1_takesLevel 1 = .ok (.bipush 118, 2) := by decide +kernel
theorem dX1_takesLevel_3 : decode cX1_takesLevel 3 = .ok (.if_icmp .ne 14, 3) := by decide +kernel
theorem dX1_takesLevel_6 : decode cX1_takesLevel 6 = .ok (.aload_n 0, 1) := by decide +kernel
theorem dX1_takesLevel_7 : decode cX1_takesLevel 7 = .ok (.getfield 12, 3) := by decide +kernel
theorem dX1_takesLevel_10 : decode cX1_takesLevel 10 = .ok (.getfield 68, 3) := by decide +kernel
theorem dX1_takesLevel_13 : decode cX1_takesLevel 13 = .ok (.iconst 4, 1) := by decide +kernel
theorem dX1_takesLevel_14 : decode cX1_takesLevel 14 = .ok (.if_icmp .lt 5, 3) := by decide +kernel
theorem dX1_takesLevel_17 : decode cX1_takesLevel 17 = .ok (.iconst 0, 1) := by decide +kernel
theorem dX1_takesLevel_18 : decode cX1_takesLevel 18 = .ok (.ireturn, 1) := by decide +kernel
theorem dX1_takesLevel_19 : decode cX1_takesLevel 19 = .ok (.aload_n 0, 1) := by decide +kernel
theorem dX1_takesLevel_20 : decode cX1_takesLevel 20 = .ok (.getfield 12, 3) := by decide +kernel
theorem dX1_takesLevel_23 : decode cX1_takesLevel 23 = .ok (.invokevirtual 71, 3) := by decide +kernel
theorem dX1_takesLevel_26 : decode cX1_takesLevel 26 = .ok (.aload_n 0, 1) := by decide +kernel
theorem dX1_takesLevel_27 : decode cX1_takesLevel 27 = .ok (.iconst 5, 1) := by decide +kernel
theorem dX1_takesLevel_28 : decode cX1_takesLevel 28 = .ok (.putfield 25, 3) := by decide +kernel
theorem dX1_takesLevel_31 : decode cX1_takesLevel 31 = .ok (.iconst 1, 1) := by decide +kernel
theorem dX1_takesLevel_32 : decode cX1_takesLevel 32 = .ok (.ireturn, 1) := by decide +kernel
theorem dX1_takesItemOrEnd_0 : decode cX1_takesItemOrEnd 0 = .ok (.iload_n 1, 1) := by decide +kernel
theorem dX1_takesItemOrEnd_1 : decode cX1_takesItemOrEnd 1 = .ok (.bipush 46, 2) := by decide +kernel
theorem dX1_takesItemOrEnd_3 : decode cX1_takesItemOrEnd 3 = .ok (.if_icmp .ne 21, 3) := by decide +kernel
theorem dX1_takesItemOrEnd_6 : decode cX1_takesItemOrEnd 6 = .ok (.aload_n 0, 1) := by decide +kernel
theorem dX1_takesItemOrEnd_7 : decode cX1_takesItemOrEnd 7 = .ok (.iconst 4, 1) := by decide +kernel
theorem dX1_takesItemOrEnd_8 : decode cX1_takesItemOrEnd 8 = .ok (.putfield 25, 3) := by decide +kernel
theorem dX1_takesItemOrEnd_11 : decode cX1_takesItemOrEnd 11 = .ok (.aload_n 0, 1) := by decide +kernel
theorem dX1_takesItemOrEnd_12 : decode cX1_takesItemOrEnd 12 = .ok (.getfield 29, 3) := by decide +kernel
theorem dX1_takesItemOrEnd_15 : decode cX1_takesItemOrEnd 15 = .ok (.ifCond .ne 7, 3) := by decide +kernel
theorem dX1_takesItemOrEnd_18 : decode cX1_takesItemOrEnd 18 = .ok (.iconst 1, 1) := by decide +kernel
theorem dX1_takesItemOrEnd_19 : decode cX1_takesItemOrEnd 19 = .ok (.goto 4, 3) := by decide +kernel
theorem dX1_takesItemOrEnd_22 : decode cX1_takesItemOrEnd 22 = .ok (.iconst 0, 1) := by decide +kernel
theorem dX1_takesItemOrEnd_23 : decode cX1_takesItemOrEnd 23 = .ok (.ireturn, 1) := by decide +kernel
theorem dX1_takesItemOrEnd_24 : decode cX1_takesItemOrEnd 24 = .ok (.iload_n 1, 1) := by decide +kernel
theorem dX1_takesItemOrEnd_25 : decode cX1_takesItemOrEnd 25 = .ok (.bipush 41, 2) := by decide +kernel
theorem dX1_takesItemOrEnd_27 : decode cX1_takesItemOrEnd 27 = .ok (.if_icmp .ne 22, 3) := by decide +kernel
theorem dX1_takesItemOrEnd_30 : decode cX1_takesItemOrEnd 30 = .ok (.aload_n 0, 1) := by decide +kernel
theorem dX1_takesItemOrEnd_31 : decode cX1_takesItemOrEnd 31 = .ok (.bipush 8, 2) := by decide +kernel
theorem dX1_takesItemOrEnd_33 : decode cX1_takesItemOrEnd 33 = .ok (.putfield 25, 3) := by decide +kernel
theorem dX1_takesItemOrEnd_36 : decode cX1_takesItemOrEnd 36 = .ok (.aload_n 0, 1) := by decide +kernel
theorem dX1_takesItemOrEnd_37 : decode cX1_takesItemOrEnd 37 = .ok (.getfield 29, 3) := by decide +kernel
theorem dX1_takesItemOrEnd_40 : decode cX1_takesItemOrEnd 40 = .ok (.ifCond .le 7, 3) := by decide +kernel
theorem dX1_takesItemOrEnd_43 : decode cX1_takesItemOrEnd 43 = .ok (.iconst 1, 1) := by decide +kernel
theorem dX1_takesItemOrEnd_44 : decode cX1_takesItemOrEnd 44 = .ok (.goto 4, 3) := by decide +kernel
theorem dX1_takesItemOrEnd_47 : decode cX1_takesItemOrEnd 47 = .ok (.iconst 0, 1) := by decide +kernel
theorem dX1_takesItemOrEnd_48 : decode cX1_takesItemOrEnd 48 = .ok (.ireturn, 1) := by decide +kernel
theorem dX1_takesItemOrEnd_49 : decode cX1_takesItemOrEnd 49 = .ok (.aload_n 0, 1) := by decide +kernel
theorem dX1_takesItemOrEnd_50 : decode cX1_takesItemOrEnd 50 = .ok (.iload_n 1, 1) := by decide +kernel
theorem dX1_takesItemOrEnd_51 : decode cX1_takesItemOrEnd 51 = .ok (.invokevirtual 52, 3) := by decide +kernel
theorem dX1_takesItemOrEnd_54 : decode cX1_takesItemOrEnd 54 = .ok (.ireturn, 1) := by decide +kernel
theorem dX1_takesItem_0 : decode cX1_takesItem 0 = .ok (.iload_n 1, 1) := by decide +kernel
theorem dX1_takesItem_1 : decode cX1_takesItem 1 = .ok (.bipush 40, 2) := by decide +kernel
theorem dX1_takesItem_3 : decode cX1_takesItem 3 = .ok (.if_icmp .ne 8, 3) := by decide +kernel
theorem dX1_takesItem_6 : decode cX1_takesItem 6 = .ok (.aload_n 0, 1) := by decide +kernel
theorem dX1_takesItem_7 : decode cX1_takesItem 7 = .ok (.invokevirtual 74, 3) := by decide +kernel
theorem dX1_takesItem_10 : decode cX1_takesItem 10 = .ok (.ireturn, 1) := by decide +kernel
theorem dX1_takesItem_11 : decode cX1_takesItem 11 = .ok (.iload_n 1, 1) := by decide +kernel
theorem dX1_takesItem_12 : decode cX1_takesItem 12 = .ok (.bipush 97, 2) := by decide +kernel
theorem dX1_takesItem_14 : decode cX1_takesItem 14 = .ok (.isub, 1) := by decide +kernel
theorem dX1_takesItem_15 : decode cX1_takesItem 15 = .ok (.istore_n 2, 1) := by decide +kernel
theorem dX1_takesItem_16 : decode cX1_takesItem 16 = .ok (.iload_n 1, 1) := by decide +kernel
theorem dX1_takesItem_17 : decode cX1_takesItem 17 = .ok (.bipush 45, 2) := by decide +kernel
theorem dX1_takesItem_19 : decode cX1_takesItem 19 = .ok (.if_icmp .ne 12, 3) := by decide +kernel
theorem dX1_takesItem_22 : decode cX1_takesItem 22 = .ok (.aload_n 0, 1) := by decide +kernel
theorem dX1_takesItem_23 : decode cX1_takesItem 23 = .ok (.bipush (-9), 2) := by decide +kernel
theorem dX1_takesItem_25 : decode cX1_takesItem 25 = .ok (.putfield 77, 3) := by decide +kernel
theorem dX1_takesItem_28 : decode cX1_takesItem 28 = .ok (.goto 28, 3) := by decide +kernel
theorem dX1_takesItem_31 : decode cX1_takesItem 31 = .ok (.iload_n 2, 1) := by decide +kernel
theorem dX1_takesItem_32 : decode cX1_takesItem 32 = .ok (.ifCond .lt 22, 3) := by decide +kernel
theorem dX1_takesItem_35 : decode cX1_takesItem 35 = .ok (.iload_n 2, 1) := by decide +kernel
theorem dX1_takesItem_36 : decode cX1_takesItem 36 = .ok (.aload_n 0, 1) := by decide +kernel
theorem dX1_takesItem_37 : decode cX1_takesItem 37 = .ok (.getfield 12, 3) := by decide +kernel
theorem dX1_takesItem_40 : decode cX1_takesItem 40 = .ok (.getfield 61, 3) := by decide +kernel
theorem dX1_takesItem_43 : decode cX1_takesItem 43 = .ok (.if_icmp .ge 11, 3) := by decide +kernel
theorem dX1_takesItem_46 : decode cX1_takesItem 46 = .ok (.aload_n 0, 1) := by decide +kernel
theorem dX1_takesItem_47 : decode cX1_takesItem 47 = .ok (.iload_n 2, 1) := by decide +kernel
theorem dX1_takesItem_48 : decode cX1_takesItem 48 = .ok (.putfield 77, 3) := by decide +kernel
theorem dX1_takesItem_51 : decode cX1_takesItem 51 = .ok (.goto 5, 3) := by decide +kernel
theorem dX1_takesItem_54 : decode cX1_takesItem 54 = .ok (.iconst 0, 1) := by decide +kernel
theorem dX1_takesItem_55 : decode cX1_takesItem 55 = .ok (.ireturn, 1) := by decide +kernel
theorem dX1_takesItem_56 : decode cX1_takesItem 56 = .ok (.aload_n 0, 1) := by decide +kernel
theorem dX1_takesItem_57 : decode cX1_takesItem 57 = .ok (.bipush 7, 2) := by decide +kernel
theorem dX1_takesItem_59 : decode cX1_takesItem 59 = .ok (.putfield 25, 3) := by decide +kernel
theorem dX1_takesItem_62 : decode cX1_takesItem 62 = .ok (.iconst 1, 1) := by decide +kernel
theorem dX1_takesItem_63 : decode cX1_takesItem 63 = .ok (.ireturn, 1) := by decide +kernel
theorem dX1_takesOpening_0 : decode cX1_takesOpening 0 = .ok (.aload_n 0, 1) := by decide +kernel
theorem dX1_takesOpening_1 : decode cX1_takesOpening 1 = .ok (.getfield 29, 3) := by decide +kernel
theorem dX1_takesOpening_4 : decode cX1_takesOpening 4 = .ok (.ifCond .lt 11, 3) := by decide +kernel
theorem dX1_takesOpening_7 : decode cX1_takesOpening 7 = .ok (.aload_n 0, 1) := by decide +kernel
theorem dX1_takesOpening_8 : decode cX1_takesOpening 8 = .ok (.getfield 29, 3) := by decide +kernel
theorem dX1_takesOpening_11 : decode cX1_takesOpening 11 = .ok (.iconst 2, 1) := by decide +kernel
theorem dX1_takesOpening_12 : decode cX1_takesOpening 12 = .ok (.if_icmp .lt 5, 3) := by decide +kernel
theorem dX1_takesOpening_15 : decode cX1_takesOpening 15 = .ok (.iconst 0, 1) := by decide +kernel
theorem dX1_takesOpening_16 : decode cX1_takesOpening 16 = .ok (.ireturn, 1) := by decide +kernel
theorem dX1_takesOpening_17 : decode cX1_takesOpening 17 = .ok (.aload_n 0, 1) := by decide +kernel
theorem dX1_takesOpening_18 : decode cX1_takesOpening 18 = .ok (.getfield 18, 3) := by decide +kernel
theorem dX1_takesOpening_21 : decode cX1_takesOpening 21 = .ok (.aload_n 0, 1) := by decide +kernel
theorem dX1_takesOpening_22 : decode cX1_takesOpening 22 = .ok (.getfield 29, 3) := by decide +kernel
theorem dX1_takesOpening_25 : decode cX1_takesOpening 25 = .ok (.aload_n 0, 1) := by decide +kernel
theorem dX1_takesOpening_26 : decode cX1_takesOpening 26 = .ok (.getfield 12, 3) := by decide +kernel
theorem dX1_takesOpening_29 : decode cX1_takesOpening 29 = .ok (.invokevirtual 80, 3) := by decide +kernel
theorem dX1_takesOpening_32 : decode cX1_takesOpening 32 = .ok (.iastore, 1) := by decide +kernel
theorem dX1_takesOpening_33 : decode cX1_takesOpening 33 = .ok (.aload_n 0, 1) := by decide +kernel
theorem dX1_takesOpening_34 : decode cX1_takesOpening 34 = .ok (.dup, 1) := by decide +kernel
theorem dX1_takesOpening_35 : decode cX1_takesOpening 35 = .ok (.getfield 29, 3) := by decide +kernel
theorem dX1_takesOpening_38 : decode cX1_takesOpening 38 = .ok (.iconst 1, 1) := by decide +kernel
theorem dX1_takesOpening_39 : decode cX1_takesOpening 39 = .ok (.iadd, 1) := by decide +kernel
theorem dX1_takesOpening_40 : decode cX1_takesOpening 40 = .ok (.putfield 29, 3) := by decide +kernel
theorem dX1_takesOpening_43 : decode cX1_takesOpening 43 = .ok (.aload_n 0, 1) := by decide +kernel
theorem dX1_takesOpening_44 : decode cX1_takesOpening 44 = .ok (.bipush 6, 2) := by decide +kernel
theorem dX1_takesOpening_46 : decode cX1_takesOpening 46 = .ok (.putfield 25, 3) := by decide +kernel
theorem dX1_takesOpening_49 : decode cX1_takesOpening 49 = .ok (.iconst 1, 1) := by decide +kernel
theorem dX1_takesOpening_50 : decode cX1_takesOpening 50 = .ok (.ireturn, 1) := by decide +kernel
theorem dX1_takesHold_0 : decode cX1_takesHold 0 = .ok (.iload_n 1, 1) := by decide +kernel
theorem dX1_takesHold_1 : decode cX1_takesHold 1 = .ok (.iconst 1, 1) := by decide +kernel
theorem dX1_takesHold_2 : decode cX1_takesHold 2 = .ok (.if_icmp .lt 9, 3) := by decide +kernel
theorem dX1_takesHold_5 : decode cX1_takesHold 5 = .ok (.iload_n 1, 1) := by decide +kernel
theorem dX1_takesHold_6 : decode cX1_takesHold 6 = .ok (.bipush 9, 2) := by decide +kernel
theorem dX1_takesHold_8 : decode cX1_takesHold 8 = .ok (.if_icmp .le 5, 3) := by decide +kernel
theorem dX1_takesHold_11 : decode cX1_takesHold 11 = .ok (.iconst 0, 1) := by decide +kernel
theorem dX1_takesHold_12 : decode cX1_takesHold 12 = .ok (.ireturn, 1) := by decide +kernel
theorem dX1_takesHold_13 : decode cX1_takesHold 13 = .ok (.aload_n 0, 1) := by decide +kernel
theorem dX1_takesHold_14 : decode cX1_takesHold 14 = .ok (.getfield 12, 3) := by decide +kernel
theorem dX1_takesHold_17 : decode cX1_takesHold 17 = .ok (.aload_n 0, 1) := by decide +kernel
theorem dX1_takesHold_18 : decode cX1_takesHold 18 = .ok (.getfield 77, 3) := by decide +kernel
theorem dX1_takesHold_21 : decode cX1_takesHold 21 = .ok (.iload_n 1, 1) := by decide +kernel
theorem dX1_takesHold_22 : decode cX1_takesHold 22 = .ok (.invokevirtual 84, 3) := by decide +kernel
theorem dX1_takesHold_25 : decode cX1_takesHold 25 = .ok (.aload_n 0, 1) := by decide +kernel
theorem dX1_takesHold_26 : decode cX1_takesHold 26 = .ok (.iconst 5, 1) := by decide +kernel
theorem dX1_takesHold_27 : decode cX1_takesHold 27 = .ok (.putfield 25, 3) := by decide +kernel
theorem dX1_takesHold_30 : decode cX1_takesHold 30 = .ok (.iconst 1, 1) := by decide +kernel
theorem dX1_takesHold_31 : decode cX1_takesHold 31 = .ok (.ireturn, 1) := by decide +kernel
theorem dX1_takesTimes_0 : decode cX1_takesTimes 0 = .ok (.iload_n 1, 1) := by decide +kernel
theorem dX1_takesTimes_1 : decode cX1_takesTimes 1 = .ok (.iconst 2, 1) := by decide +kernel
theorem dX1_takesTimes_2 : decode cX1_takesTimes 2 = .ok (.if_icmp .lt 25, 3) := by decide +kernel
theorem dX1_takesTimes_5 : decode cX1_takesTimes 5 = .ok (.iload_n 1, 1) := by decide +kernel
theorem dX1_takesTimes_6 : decode cX1_takesTimes 6 = .ok (.bipush 9, 2) := by decide +kernel
theorem dX1_takesTimes_8 : decode cX1_takesTimes 8 = .ok (.if_icmp .gt 19, 3) := by decide +kernel
theorem dX1_takesTimes_11 : decode cX1_takesTimes 11 = .ok (.aload_n 0, 1) := by decide +kernel
theorem dX1_takesTimes_12 : decode cX1_takesTimes 12 = .ok (.getfield 29, 3) := by decide +kernel
theorem dX1_takesTimes_15 : decode cX1_takesTimes 15 = .ok (.iconst 1, 1) := by decide +kernel
theorem dX1_takesTimes_16 : decode cX1_takesTimes 16 = .ok (.if_icmp .lt 11, 3) := by decide +kernel
theorem dX1_takesTimes_19 : decode cX1_takesTimes 19 = .ok (.aload_n 0, 1) := by decide +kernel
theorem dX1_takesTimes_20 : decode cX1_takesTimes 20 = .ok (.getfield 29, 3) := by decide +kernel
theorem dX1_takesTimes_23 : decode cX1_takesTimes 23 = .ok (.iconst 2, 1) := by decide +kernel
theorem dX1_takesTimes_24 : decode cX1_takesTimes 24 = .ok (.if_icmp .le 5, 3) := by decide +kernel
theorem dX1_takesTimes_27 : decode cX1_takesTimes 27 = .ok (.iconst 0, 1) := by decide +kernel
theorem dX1_takesTimes_28 : decode cX1_takesTimes 28 = .ok (.ireturn, 1) := by decide +kernel
theorem dX1_takesTimes_29 : decode cX1_takesTimes 29 = .ok (.aload_n 0, 1) := by decide +kernel
theorem dX1_takesTimes_30 : decode cX1_takesTimes 30 = .ok (.dup, 1) := by decide +kernel
theorem dX1_takesTimes_31 : decode cX1_takesTimes 31 = .ok (.getfield 29, 3) := by decide +kernel
theorem dX1_takesTimes_34 : decode cX1_takesTimes 34 = .ok (.iconst 1, 1) := by decide +kernel
theorem dX1_takesTimes_35 : decode cX1_takesTimes 35 = .ok (.isub, 1) := by decide +kernel
theorem dX1_takesTimes_36 : decode cX1_takesTimes 36 = .ok (.putfield 29, 3) := by decide +kernel
theorem dX1_takesTimes_39 : decode cX1_takesTimes 39 = .ok (.aload_n 0, 1) := by decide +kernel
theorem dX1_takesTimes_40 : decode cX1_takesTimes 40 = .ok (.getfield 12, 3) := by decide +kernel
theorem dX1_takesTimes_43 : decode cX1_takesTimes 43 = .ok (.aload_n 0, 1) := by decide +kernel
theorem dX1_takesTimes_44 : decode cX1_takesTimes 44 = .ok (.getfield 18, 3) := by decide +kernel
theorem dX1_takesTimes_47 : decode cX1_takesTimes 47 = .ok (.aload_n 0, 1) := by decide +kernel
theorem dX1_takesTimes_48 : decode cX1_takesTimes 48 = .ok (.getfield 29, 3) := by decide +kernel
theorem dX1_takesTimes_51 : decode cX1_takesTimes 51 = .ok (.iaload, 1) := by decide +kernel
theorem dX1_takesTimes_52 : decode cX1_takesTimes 52 = .ok (.iload_n 1, 1) := by decide +kernel
theorem dX1_takesTimes_53 : decode cX1_takesTimes 53 = .ok (.invokevirtual 87, 3) := by decide +kernel
theorem dX1_takesTimes_56 : decode cX1_takesTimes 56 = .ok (.aload_n 0, 1) := by decide +kernel
theorem dX1_takesTimes_57 : decode cX1_takesTimes 57 = .ok (.iconst 5, 1) := by decide +kernel
theorem dX1_takesTimes_58 : decode cX1_takesTimes 58 = .ok (.putfield 25, 3) := by decide +kernel
theorem dX1_takesTimes_61 : decode cX1_takesTimes 61 = .ok (.iconst 1, 1) := by decide +kernel
theorem dX1_takesTimes_62 : decode cX1_takesTimes 62 = .ok (.ireturn, 1) := by decide +kernel
theorem dX2_init_0 : decode cX2_init 0 = .ok (.aload_n 0, 1) := by decide +kernel
theorem dX2_init_1 : decode cX2_init 1 = .ok (.invokespecial 3, 3) := by decide +kernel
theorem dX2_init_4 : decode cX2_init 4 = .ok (.aload_n 0, 1) := by decide +kernel
theorem dX2_init_5 : decode cX2_init 5 = .ok (.bipush 6, 2) := by decide +kernel
theorem dX2_init_7 : decode cX2_init 7 = .ok (.newarray .int, 2) := by decide +kernel
theorem dX2_init_9 : decode cX2_init 9 = .ok (.putfield 9, 3) := by decide +kernel
theorem dX2_init_12 : decode cX2_init 12 = .ok (.aload_n 0, 1) := by decide +kernel
theorem dX2_init_13 : decode cX2_init 13 = .ok (.bipush 6, 2) := by decide +kernel
theorem dX2_init_15 : decode cX2_init 15 = .ok (.newarray .int, 2) := by decide +kernel
theorem dX2_init_17 : decode cX2_init 17 = .ok (.putfield 15, 3) := by decide +kernel
theorem dX2_init_20 : decode cX2_init 20 = .ok (.aload_n 0, 1) := by decide +kernel
theorem dX2_init_21 : decode cX2_init 21 = .ok (.iconst 4, 1) := by decide +kernel
theorem dX2_init_22 : decode cX2_init 22 = .ok (.newarray .int, 2) := by decide +kernel
theorem dX2_init_24 : decode cX2_init 24 = .ok (.putfield 18, 3) := by decide +kernel
theorem dX2_init_27 : decode cX2_init 27 = .ok (.aload_n 0, 1) := by decide +kernel
theorem dX2_init_28 : decode cX2_init 28 = .ok (.sipush 192, 3) := by decide +kernel
theorem dX2_init_31 : decode cX2_init 31 = .ok (.newarray .int, 2) := by decide +kernel
theorem dX2_init_33 : decode cX2_init 33 = .ok (.putfield 21, 3) := by decide +kernel
theorem dX2_init_36 : decode cX2_init 36 = .ok (.return_, 1) := by decide +kernel
theorem dX2_clear_0 : decode cX2_clear 0 = .ok (.aload_n 0, 1) := by decide +kernel
theorem dX2_clear_1 : decode cX2_clear 1 = .ok (.iconst 0, 1) := by decide +kernel
theorem dX2_clear_2 : decode cX2_clear 2 = .ok (.putfield 24, 3) := by decide +kernel
theorem dX2_clear_5 : decode cX2_clear 5 = .ok (.aload_n 0, 1) := by decide +kernel
theorem dX2_clear_6 : decode cX2_clear 6 = .ok (.iconst 0, 1) := by decide +kernel
theorem dX2_clear_7 : decode cX2_clear 7 = .ok (.putfield 28, 3) := by decide +kernel
theorem dX2_clear_10 : decode cX2_clear 10 = .ok (.return_, 1) := by decide +kernel
theorem dX2_addDrawing_0 : decode cX2_addDrawing 0 = .ok (.aload_n 0, 1) := by decide +kernel
theorem dX2_addDrawing_1 : decode cX2_addDrawing 1 = .ok (.getfield 24, 3) := by decide +kernel
theorem dX2_addDrawing_4 : decode cX2_addDrawing 4 = .ok (.bipush 6, 2) := by decide +kernel
theorem dX2_addDrawing_6 : decode cX2_addDrawing 6 = .ok (.if_icmp .ge 33, 3) := by decide +kernel
theorem dX2_addDrawing_9 : decode cX2_addDrawing 9 = .ok (.aload_n 0, 1) := by decide +kernel
theorem dX2_addDrawing_10 : decode cX2_addDrawing 10 = .ok (.getfield 9, 3) := by decide +kernel
theorem dX2_addDrawing_13 : decode cX2_addDrawing 13 = .ok (.aload_n 0, 1) := by decide +kernel
theorem dX2_addDrawing_14 : decode cX2_addDrawing 14 = .ok (.getfield 24, 3) := by decide +kernel
theorem dX2_addDrawing_17 : decode cX2_addDrawing 17 = .ok (.iload_n 1, 1) := by decide +kernel
theorem dX2_addDrawing_18 : decode cX2_addDrawing 18 = .ok (.iastore, 1) := by decide +kernel
theorem dX2_addDrawing_19 : decode cX2_addDrawing 19 = .ok (.aload_n 0, 1) := by decide +kernel
theorem dX2_addDrawing_20 : decode cX2_addDrawing 20 = .ok (.getfield 15, 3) := by decide +kernel
theorem dX2_addDrawing_23 : decode cX2_addDrawing 23 = .ok (.aload_n 0, 1) := by decide +kernel
theorem dX2_addDrawing_24 : decode cX2_addDrawing 24 = .ok (.getfield 24, 3) := by decide +kernel
theorem dX2_addDrawing_27 : decode cX2_addDrawing 27 = .ok (.iload_n 2, 1) := by decide +kernel
theorem dX2_addDrawing_28 : decode cX2_addDrawing 28 = .ok (.iastore, 1) := by decide +kernel
theorem dX2_addDrawing_29 : decode cX2_addDrawing 29 = .ok (.aload_n 0, 1) := by decide +kernel
theorem dX2_addDrawing_30 : decode cX2_addDrawing 30 = .ok (.dup, 1) := by decide +kernel
theorem dX2_addDrawing_31 : decode cX2_addDrawing 31 = .ok (.getfield 24, 3) := by decide +kernel
theorem dX2_addDrawing_34 : decode cX2_addDrawing 34 = .ok (.iconst 1, 1) := by decide +kernel
theorem dX2_addDrawing_35 : decode cX2_addDrawing 35 = .ok (.iadd, 1) := by decide +kernel
theorem dX2_addDrawing_36 : decode cX2_addDrawing 36 = .ok (.putfield 24, 3) := by decide +kernel
theorem dX2_addDrawing_39 : decode cX2_addDrawing 39 = .ok (.return_, 1) := by decide +kernel
theorem dX2_addLevel_0 : decode cX2_addLevel 0 = .ok (.aload_n 0, 1) := by decide +kernel
theorem dX2_addLevel_1 : decode cX2_addLevel 1 = .ok (.getfield 28, 3) := by decide +kernel
theorem dX2_addLevel_4 : decode cX2_addLevel 4 = .ok (.iconst 4, 1) := by decide +kernel
theorem dX2_addLevel_5 : decode cX2_addLevel 5 = .ok (.if_icmp .ge 23, 3) := by decide +kernel
theorem dX2_addLevel_8 : decode cX2_addLevel 8 = .ok (.aload_n 0, 1) := by decide +kernel
theorem dX2_addLevel_9 : decode cX2_addLevel 9 = .ok (.getfield 18, 3) := by decide +kernel
theorem dX2_addLevel_12 : decode cX2_addLevel 12 = .ok (.aload_n 0, 1) := by decide +kernel
theorem dX2_addLevel_13 : decode cX2_addLevel 13 = .ok (.getfield 28, 3) := by decide +kernel
theorem dX2_addLevel_16 : decode cX2_addLevel 16 = .ok (.iconst 0, 1) := by decide +kernel
theorem dX2_addLevel_17 : decode cX2_addLevel 17 = .ok (.iastore, 1) := by decide +kernel
theorem dX2_addLevel_18 : decode cX2_addLevel 18 = .ok (.aload_n 0, 1) := by decide +kernel
theorem dX2_addLevel_19 : decode cX2_addLevel 19 = .ok (.dup, 1) := by decide +kernel
theorem dX2_addLevel_20 : decode cX2_addLevel 20 = .ok (.getfield 28, 3) := by decide +kernel
theorem dX2_addLevel_23 : decode cX2_addLevel 23 = .ok (.iconst 1, 1) := by decide +kernel
theorem dX2_addLevel_24 : decode cX2_addLevel 24 = .ok (.iadd, 1) := by decide +kernel
theorem dX2_addLevel_25 : decode cX2_addLevel 25 = .ok (.putfield 28, 3) := by decide +kernel
theorem dX2_addLevel_28 : decode cX2_addLevel 28 = .ok (.return_, 1) := by decide +kernel
theorem dX2_lastLong_0 : decode cX2_lastLong 0 = .ok (.aload_n 0, 1) := by decide +kernel
theorem dX2_lastLong_1 : decode cX2_lastLong 1 = .ok (.getfield 28, 3) := by decide +kernel
theorem dX2_lastLong_4 : decode cX2_lastLong 4 = .ok (.iconst 1, 1) := by decide +kernel
theorem dX2_lastLong_5 : decode cX2_lastLong 5 = .ok (.if_icmp .ge 7, 3) := by decide +kernel
theorem dX2_lastLong_8 : decode cX2_lastLong 8 = .ok (.iconst 0, 1) := by decide +kernel
theorem dX2_lastLong_9 : decode cX2_lastLong 9 = .ok (.goto 14, 3) := by decide +kernel
theorem dX2_lastLong_12 : decode cX2_lastLong 12 = .ok (.aload_n 0, 1) := by decide +kernel
theorem dX2_lastLong_13 : decode cX2_lastLong 13 = .ok (.getfield 18, 3) := by decide +kernel
theorem dX2_lastLong_16 : decode cX2_lastLong 16 = .ok (.aload_n 0, 1) := by decide +kernel
theorem dX2_lastLong_17 : decode cX2_lastLong 17 = .ok (.getfield 28, 3) := by decide +kernel
theorem dX2_lastLong_20 : decode cX2_lastLong 20 = .ok (.iconst 1, 1) := by decide +kernel
theorem dX2_lastLong_21 : decode cX2_lastLong 21 = .ok (.isub, 1) := by decide +kernel
theorem dX2_lastLong_22 : decode cX2_lastLong 22 = .ok (.iaload, 1) := by decide +kernel
theorem dX2_lastLong_23 : decode cX2_lastLong 23 = .ok (.ireturn, 1) := by decide +kernel
theorem dX2_hold_0 : decode cX2_hold 0 = .ok (.iconst 0, 1) := by decide +kernel
theorem dX2_hold_1 : decode cX2_hold 1 = .ok (.istore_n 3, 1) := by decide +kernel
theorem dX2_hold_2 : decode cX2_hold 2 = .ok (.iload_n 3, 1) := by decide +kernel
theorem dX2_hold_3 : decode cX2_hold 3 = .ok (.iload_n 2, 1) := by decide +kernel
theorem dX2_hold_4 : decode cX2_hold 4 = .ok (.if_icmp .ge 14, 3) := by decide +kernel
theorem dX2_hold_7 : decode cX2_hold 7 = .ok (.aload_n 0, 1) := by decide +kernel
theorem dX2_hold_8 : decode cX2_hold 8 = .ok (.iload_n 1, 1) := by decide +kernel
theorem dX2_hold_9 : decode cX2_hold 9 = .ok (.invokevirtual 31, 3) := by decide +kernel
theorem dX2_hold_12 : decode cX2_hold 12 = .ok (.iinc 3 1, 3) := by decide +kernel
theorem dX2_hold_15 : decode cX2_hold 15 = .ok (.goto (-13), 3) := by decide +kernel
theorem dX2_hold_18 : decode cX2_hold 18 = .ok (.return_, 1) := by decide +kernel
theorem dX2_repeatFrom_0 : decode cX2_repeatFrom 0 = .ok (.aload_n 0, 1) := by decide +kernel
theorem dX2_repeatFrom_1 : decode cX2_repeatFrom 1 = .ok (.invokevirtual 35, 3) := by decide +kernel
theorem dX2_repeatFrom_4 : decode cX2_repeatFrom 4 = .ok (.istore_n 3, 1) := by decide +kernel
theorem dX2_repeatFrom_5 : decode cX2_repeatFrom 5 = .ok (.aload_n 0, 1) := by decide +kernel
theorem dX2_repeatFrom_6 : decode cX2_repeatFrom 6 = .ok (.getfield 28, 3) := by decide +kernel
theorem dX2_repeatFrom_9 : decode cX2_repeatFrom 9 = .ok (.iconst 1, 1) := by decide +kernel
theorem dX2_repeatFrom_10 : decode cX2_repeatFrom 10 = .ok (.isub, 1) := by decide +kernel
theorem dX2_repeatFrom_11 : decode cX2_repeatFrom 11 = .ok (.bipush 48, 2) := by decide +kernel
theorem dX2_repeatFrom_13 : decode cX2_repeatFrom 13 = .ok (.imul, 1) := by decide +kernel
theorem dX2_repeatFrom_14 : decode cX2_repeatFrom 14 = .ok (.istore 4, 2) := by decide +kernel
theorem dX2_repeatFrom_16 : decode cX2_repeatFrom 16 = .ok (.iload 4, 2) := by decide +kernel
theorem dX2_repeatFrom_18 : decode cX2_repeatFrom 18 = .ok (.ifCond .lt 7, 3) := by decide +kernel
theorem dX2_repeatFrom_21 : decode cX2_repeatFrom 21 = .ok (.iload_n 1, 1) := by decide +kernel
theorem dX2_repeatFrom_22 : decode cX2_repeatFrom 22 = .ok (.ifCond .ge 4, 3) := by decide +kernel
theorem dX2_repeatFrom_25 : decode cX2_repeatFrom 25 = .ok (.return_, 1) := by decide +kernel
theorem dX2_repeatFrom_26 : decode cX2_repeatFrom 26 = .ok (.iconst 1, 1) := by decide +kernel
theorem dX2_repeatFrom_27 : decode cX2_repeatFrom 27 = .ok (.istore 5, 2) := by decide +kernel
theorem dX2_repeatFrom_29 : decode cX2_repeatFrom 29 = .ok (.iload 5, 2) := by decide +kernel
theorem dX2_repeatFrom_31 : decode cX2_repeatFrom 31 = .ok (.iload_n 2, 1) := by decide +kernel
theorem dX2_repeatFrom_32 : decode cX2_repeatFrom 32 = .ok (.if_icmp .ge 38, 3) := by decide +kernel
theorem dX2_repeatFrom_35 : decode cX2_repeatFrom 35 = .ok (.iload_n 1, 1) := by decide +kernel
theorem dX2_repeatFrom_36 : decode cX2_repeatFrom 36 = .ok (.istore 6, 2) := by decide +kernel
theorem dX2_repeatFrom_38 : decode cX2_repeatFrom 38 = .ok (.iload 6, 2) := by decide +kernel
theorem dX2_repeatFrom_40 : decode cX2_repeatFrom 40 = .ok (.iload_n 3, 1) := by decide +kernel
theorem dX2_repeatFrom_41 : decode cX2_repeatFrom 41 = .ok (.if_icmp .ge 23, 3) := by decide +kernel
theorem dX2_repeatFrom_44 : decode cX2_repeatFrom 44 = .ok (.aload_n 0, 1) := by decide +kernel
theorem dX2_repeatFrom_45 : decode cX2_repeatFrom 45 = .ok (.aload_n 0, 1) := by decide +kernel
theorem dX2_repeatFrom_46 : decode cX2_repeatFrom 46 = .ok (.getfield 21, 3) := by decide +kernel
theorem dX2_repeatFrom_49 : decode cX2_repeatFrom 49 = .ok (.iload 4, 2) := by decide +kernel
theorem dX2_repeatFrom_51 : decode cX2_repeatFrom 51 = .ok (.iload 6, 2) := by decide +kernel
theorem dX2_repeatFrom_53 : decode cX2_repeatFrom 53 = .ok (.iadd, 1) := by decide +kernel
theorem dX2_repeatFrom_54 : decode cX2_repeatFrom 54 = .ok (.iaload, 1) := by decide +kernel
theorem dX2_repeatFrom_55 : decode cX2_repeatFrom 55 = .ok (.invokevirtual 31, 3) := by decide +kernel
theorem dX2_repeatFrom_58 : decode cX2_repeatFrom 58 = .ok (.iinc 6 1, 3) := by decide +kernel
theorem dX2_repeatFrom_61 : decode cX2_repeatFrom 61 = .ok (.goto (-23), 3) := by decide +kernel
theorem dX2_repeatFrom_64 : decode cX2_repeatFrom 64 = .ok (.iinc 5 1, 3) := by decide +kernel
theorem dX2_repeatFrom_67 : decode cX2_repeatFrom 67 = .ok (.goto (-38), 3) := by decide +kernel
theorem dX2_repeatFrom_70 : decode cX2_repeatFrom 70 = .ok (.return_, 1) := by decide +kernel
theorem dX2_append_0 : decode cX2_append 0 = .ok (.aload_n 0, 1) := by decide +kernel
theorem dX2_append_1 : decode cX2_append 1 = .ok (.getfield 28, 3) := by decide +kernel
theorem dX2_append_4 : decode cX2_append 4 = .ok (.iconst 1, 1) := by decide +kernel
theorem dX2_append_5 : decode cX2_append 5 = .ok (.isub, 1) := by decide +kernel
theorem dX2_append_6 : decode cX2_append 6 = .ok (.istore_n 2, 1) := by decide +kernel
theorem dX2_append_7 : decode cX2_append 7 = .ok (.iload_n 2, 1) := by decide +kernel
theorem dX2_append_8 : decode cX2_append 8 = .ok (.ifCond .lt 41, 3) := by decide +kernel
theorem dX2_append_11 : decode cX2_append 11 = .ok (.aload_n 0, 1) := by decide +kernel
theorem dX2_append_12 : decode cX2_append 12 = .ok (.getfield 18, 3) := by decide +kernel
theorem dX2_append_15 : decode cX2_append 15 = .ok (.iload_n 2, 1) := by decide +kernel
theorem dX2_append_16 : decode cX2_append 16 = .ok (.iaload, 1) := by decide +kernel
theorem dX2_append_17 : decode cX2_append 17 = .ok (.bipush 48, 2) := by decide +kernel
theorem dX2_append_19 : decode cX2_append 19 = .ok (.if_icmp .ge 30, 3) := by decide +kernel
theorem dX2_append_22 : decode cX2_append 22 = .ok (.aload_n 0, 1) := by decide +kernel
theorem dX2_append_23 : decode cX2_append 23 = .ok (.getfield 21, 3) := by decide +kernel
theorem dX2_append_26 : decode cX2_append 26 = .ok (.iload_n 2, 1) := by decide +kernel
theorem dX2_append_27 : decode cX2_append 27 = .ok (.bipush 48, 2) := by decide +kernel
theorem dX2_append_29 : decode cX2_append 29 = .ok (.imul, 1) := by decide +kernel
theorem dX2_append_30 : decode cX2_append 30 = .ok (.aload_n 0, 1) := by decide +kernel
theorem dX2_append_31 : decode cX2_append 31 = .ok (.getfield 18, 3) := by decide +kernel
theorem dX2_append_34 : decode cX2_append 34 = .ok (.iload_n 2, 1) := by decide +kernel
theorem dX2_append_35 : decode cX2_append 35 = .ok (.iaload, 1) := by decide +kernel
theorem dX2_append_36 : decode cX2_append 36 = .ok (.iadd, 1) := by decide +kernel
theorem dX2_append_37 : decode cX2_append 37 = .ok (.iload_n 1, 1) := by decide +kernel
theorem dX2_append_38 : decode cX2_append 38 = .ok (.iastore, 1) := by decide +kernel
theorem dX2_append_39 : decode cX2_append 39 = .ok (.aload_n 0, 1) := by decide +kernel
theorem dX2_append_40 : decode cX2_append 40 = .ok (.getfield 18, 3) := by decide +kernel
theorem dX2_append_43 : decode cX2_append 43 = .ok (.iload_n 2, 1) := by decide +kernel
theorem dX2_append_44 : decode cX2_append 44 = .ok (.dup2, 1) := by decide +kernel
theorem dX2_append_45 : decode cX2_append 45 = .ok (.iaload, 1) := by decide +kernel
theorem dX2_append_46 : decode cX2_append 46 = .ok (.iconst 1, 1) := by decide +kernel
theorem dX2_append_47 : decode cX2_append 47 = .ok (.iadd, 1) := by decide +kernel
theorem dX2_append_48 : decode cX2_append 48 = .ok (.iastore, 1) := by decide +kernel
theorem dX2_append_49 : decode cX2_append 49 = .ok (.return_, 1) := by decide +kernel
theorem dX2_copyFrom_0 : decode cX2_copyFrom 0 = .ok (.aload_n 0, 1) := by decide +kernel
theorem dX2_copyFrom_1 : decode cX2_copyFrom 1 = .ok (.aload_n 1, 1) := by decide +kernel
theorem dX2_copyFrom_2 : decode cX2_copyFrom 2 = .ok (.getfield 24, 3) := by decide +kernel
theorem dX2_copyFrom_5 : decode cX2_copyFrom 5 = .ok (.putfield 24, 3) := by decide +kernel
theorem dX2_copyFrom_8 : decode cX2_copyFrom 8 = .ok (.aload_n 0, 1) := by decide +kernel
theorem dX2_copyFrom_9 : decode cX2_copyFrom 9 = .ok (.aload_n 1, 1) := by decide +kernel
theorem dX2_copyFrom_10 : decode cX2_copyFrom 10 = .ok (.getfield 28, 3) := by decide +kernel
theorem dX2_copyFrom_13 : decode cX2_copyFrom 13 = .ok (.putfield 28, 3) := by decide +kernel
theorem dX2_copyFrom_16 : decode cX2_copyFrom 16 = .ok (.aload_n 1, 1) := by decide +kernel
theorem dX2_copyFrom_17 : decode cX2_copyFrom 17 = .ok (.getfield 9, 3) := by decide +kernel
theorem dX2_copyFrom_20 : decode cX2_copyFrom 20 = .ok (.iconst 0, 1) := by decide +kernel
theorem dX2_copyFrom_21 : decode cX2_copyFrom 21 = .ok (.aload_n 0, 1) := by decide +kernel
theorem dX2_copyFrom_22 : decode cX2_copyFrom 22 = .ok (.getfield 9, 3) := by decide +kernel
theorem dX2_copyFrom_25 : decode cX2_copyFrom 25 = .ok (.iconst 0, 1) := by decide +kernel
theorem dX2_copyFrom_26 : decode cX2_copyFrom 26 = .ok (.bipush 6, 2) := by decide +kernel
theorem dX2_copyFrom_28 : decode cX2_copyFrom 28 = .ok (.invokestatic 39, 3) := by decide +kernel
theorem dX2_copyFrom_31 : decode cX2_copyFrom 31 = .ok (.aload_n 1, 1) := by decide +kernel
theorem dX2_copyFrom_32 : decode cX2_copyFrom 32 = .ok (.getfield 15, 3) := by decide +kernel
theorem dX2_copyFrom_35 : decode cX2_copyFrom 35 = .ok (.iconst 0, 1) := by decide +kernel
theorem dX2_copyFrom_36 : decode cX2_copyFrom 36 = .ok (.aload_n 0, 1) := by decide +kernel
theorem dX2_copyFrom_37 : decode cX2_copyFrom 37 = .ok (.getfield 15, 3) := by decide +kernel
theorem dX2_copyFrom_40 : decode cX2_copyFrom 40 = .ok (.iconst 0, 1) := by decide +kernel
theorem dX2_copyFrom_41 : decode cX2_copyFrom 41 = .ok (.bipush 6, 2) := by decide +kernel
theorem dX2_copyFrom_43 : decode cX2_copyFrom 43 = .ok (.invokestatic 39, 3) := by decide +kernel
theorem dX2_copyFrom_46 : decode cX2_copyFrom 46 = .ok (.aload_n 1, 1) := by decide +kernel
theorem dX2_copyFrom_47 : decode cX2_copyFrom 47 = .ok (.getfield 18, 3) := by decide +kernel
theorem dX2_copyFrom_50 : decode cX2_copyFrom 50 = .ok (.iconst 0, 1) := by decide +kernel
theorem dX2_copyFrom_51 : decode cX2_copyFrom 51 = .ok (.aload_n 0, 1) := by decide +kernel
theorem dX2_copyFrom_52 : decode cX2_copyFrom 52 = .ok (.getfield 18, 3) := by decide +kernel
theorem dX2_copyFrom_55 : decode cX2_copyFrom 55 = .ok (.iconst 0, 1) := by decide +kernel
theorem dX2_copyFrom_56 : decode cX2_copyFrom 56 = .ok (.iconst 4, 1) := by decide +kernel
theorem dX2_copyFrom_57 : decode cX2_copyFrom 57 = .ok (.invokestatic 39, 3) := by decide +kernel
theorem dX2_copyFrom_60 : decode cX2_copyFrom 60 = .ok (.aload_n 1, 1) := by decide +kernel
theorem dX2_copyFrom_61 : decode cX2_copyFrom 61 = .ok (.getfield 21, 3) := by decide +kernel
theorem dX2_copyFrom_64 : decode cX2_copyFrom 64 = .ok (.iconst 0, 1) := by decide +kernel
theorem dX2_copyFrom_65 : decode cX2_copyFrom 65 = .ok (.aload_n 0, 1) := by decide +kernel
theorem dX2_copyFrom_66 : decode cX2_copyFrom 66 = .ok (.getfield 21, 3) := by decide +kernel
theorem dX2_copyFrom_69 : decode cX2_copyFrom 69 = .ok (.iconst 0, 1) := by decide +kernel
theorem dX2_copyFrom_70 : decode cX2_copyFrom 70 = .ok (.sipush 192, 3) := by decide +kernel
theorem dX2_copyFrom_73 : decode cX2_copyFrom 73 = .ok (.invokestatic 39, 3) := by decide +kernel
theorem dX2_copyFrom_76 : decode cX2_copyFrom 76 = .ok (.return_, 1) := by decide +kernel
theorem dX4_init_0 : decode cX4_init 0 = .ok (.aload_n 0, 1) := by decide +kernel
theorem dX4_init_1 : decode cX4_init 1 = .ok (.invokespecial 3, 3) := by decide +kernel
theorem dX4_init_4 : decode cX4_init 4 = .ok (.aload_n 0, 1) := by decide +kernel
theorem dX4_init_5 : decode cX4_init 5 = .ok (.bipush 6, 2) := by decide +kernel
theorem dX4_init_7 : decode cX4_init 7 = .ok (.newarray .int, 2) := by decide +kernel
theorem dX4_init_9 : decode cX4_init 9 = .ok (.putfield 9, 3) := by decide +kernel
theorem dX4_init_12 : decode cX4_init 12 = .ok (.aload_n 0, 1) := by decide +kernel
theorem dX4_init_13 : decode cX4_init 13 = .ok (.bipush 6, 2) := by decide +kernel
theorem dX4_init_15 : decode cX4_init 15 = .ok (.newarray .int, 2) := by decide +kernel
theorem dX4_init_17 : decode cX4_init 17 = .ok (.putfield 15, 3) := by decide +kernel
theorem dX4_init_20 : decode cX4_init 20 = .ok (.aload_n 0, 1) := by decide +kernel
theorem dX4_init_21 : decode cX4_init 21 = .ok (.iconst 4, 1) := by decide +kernel
theorem dX4_init_22 : decode cX4_init 22 = .ok (.newarray .int, 2) := by decide +kernel
theorem dX4_init_24 : decode cX4_init 24 = .ok (.putfield 18, 3) := by decide +kernel
theorem dX4_init_27 : decode cX4_init 27 = .ok (.aload_n 0, 1) := by decide +kernel
theorem dX4_init_28 : decode cX4_init 28 = .ok (.iconst 5, 1) := by decide +kernel
theorem dX4_init_29 : decode cX4_init 29 = .ok (.newarray .int, 2) := by decide +kernel
theorem dX4_init_31 : decode cX4_init 31 = .ok (.putfield 21, 3) := by decide +kernel
theorem dX4_init_34 : decode cX4_init 34 = .ok (.aload_n 0, 1) := by decide +kernel
theorem dX4_init_35 : decode cX4_init 35 = .ok (.iconst 5, 1) := by decide +kernel
theorem dX4_init_36 : decode cX4_init 36 = .ok (.newarray .int, 2) := by decide +kernel
theorem dX4_init_38 : decode cX4_init 38 = .ok (.putfield 24, 3) := by decide +kernel
theorem dX4_init_41 : decode cX4_init 41 = .ok (.aload_n 0, 1) := by decide +kernel
theorem dX4_init_42 : decode cX4_init 42 = .ok (.iconst 5, 1) := by decide +kernel
theorem dX4_init_43 : decode cX4_init 43 = .ok (.newarray .int, 2) := by decide +kernel
theorem dX4_init_45 : decode cX4_init 45 = .ok (.putfield 27, 3) := by decide +kernel
theorem dX4_init_48 : decode cX4_init 48 = .ok (.aload_n 0, 1) := by decide +kernel
theorem dX4_init_49 : decode cX4_init 49 = .ok (.iconst 4, 1) := by decide +kernel
theorem dX4_init_50 : decode cX4_init 50 = .ok (.newarray .int, 2) := by decide +kernel
theorem dX4_init_52 : decode cX4_init 52 = .ok (.putfield 30, 3) := by decide +kernel
theorem dX4_init_55 : decode cX4_init 55 = .ok (.aload_n 0, 1) := by decide +kernel
theorem dX4_init_56 : decode cX4_init 56 = .ok (.iconst 4, 1) := by decide +kernel
theorem dX4_init_57 : decode cX4_init 57 = .ok (.newarray .int, 2) := by decide +kernel
theorem dX4_init_59 : decode cX4_init 59 = .ok (.putfield 33, 3) := by decide +kernel
theorem dX4_init_62 : decode cX4_init 62 = .ok (.iconst 0, 1) := by decide +kernel
theorem dX4_init_63 : decode cX4_init 63 = .ok (.istore_n 1, 1) := by decide +kernel
theorem dX4_init_64 : decode cX4_init 64 = .ok (.iload_n 1, 1) := by decide +kernel
theorem dX4_init_65 : decode cX4_init 65 = .ok (.iconst 5, 1) := by decide +kernel
theorem dX4_init_66 : decode cX4_init 66 = .ok (.if_icmp .ge 16, 3) := by decide +kernel
theorem dX4_init_69 : decode cX4_init 69 = .ok (.aload_n 0, 1) := by decide +kernel
theorem dX4_init_70 : decode cX4_init 70 = .ok (.getfield 27, 3) := by decide +kernel
theorem dX4_init_73 : decode cX4_init 73 = .ok (.iload_n 1, 1) := by decide +kernel
theorem dX4_init_74 : decode cX4_init 74 = .ok (.iconst 1, 1) := by decide +kernel
theorem dX4_init_75 : decode cX4_init 75 = .ok (.iastore, 1) := by decide +kernel
theorem dX4_init_76 : decode cX4_init 76 = .ok (.iinc 1 1, 3) := by decide +kernel
theorem dX4_init_79 : decode cX4_init 79 = .ok (.goto (-15), 3) := by decide +kernel
theorem dX4_init_82 : decode cX4_init 82 = .ok (.return_, 1) := by decide +kernel
theorem dX4_beginWith_0 : decode cX4_beginWith 0 = .ok (.aload_n 1, 1) := by decide +kernel
theorem dX4_beginWith_1 : decode cX4_beginWith 1 = .ok (.getfield 36, 3) := by decide +kernel
theorem dX4_beginWith_4 : decode cX4_beginWith 4 = .ok (.iconst 0, 1) := by decide +kernel
theorem dX4_beginWith_5 : decode cX4_beginWith 5 = .ok (.aload_n 0, 1) := by decide +kernel
theorem dX4_beginWith_6 : decode cX4_beginWith 6 = .ok (.getfield 9, 3) := by decide +kernel
theorem dX4_beginWith_9 : decode cX4_beginWith 9 = .ok (.iconst 0, 1) := by decide +kernel
theorem dX4_beginWith_10 : decode cX4_beginWith 10 = .ok (.bipush 6, 2) := by decide +kernel
theorem dX4_beginWith_12 : decode cX4_beginWith 12 = .ok (.invokestatic 41, 3) := by decide +kernel
theorem dX4_beginWith_15 : decode cX4_beginWith 15 = .ok (.aload_n 1, 1) := by decide +kernel
theorem dX4_beginWith_16 : decode cX4_beginWith 16 = .ok (.getfield 47, 3) := by decide +kernel
theorem dX4_beginWith_19 : decode cX4_beginWith 19 = .ok (.iconst 0, 1) := by decide +kernel
theorem dX4_beginWith_20 : decode cX4_beginWith 20 = .ok (.aload_n 0, 1) := by decide +kernel
theorem dX4_beginWith_21 : decode cX4_beginWith 21 = .ok (.getfield 15, 3) := by decide +kernel
theorem dX4_beginWith_24 : decode cX4_beginWith 24 = .ok (.iconst 0, 1) := by decide +kernel
theorem dX4_beginWith_25 : decode cX4_beginWith 25 = .ok (.bipush 6, 2) := by decide +kernel
theorem dX4_beginWith_27 : decode cX4_beginWith 27 = .ok (.invokestatic 41, 3) := by decide +kernel
theorem dX4_beginWith_30 : decode cX4_beginWith 30 = .ok (.iconst 0, 1) := by decide +kernel
theorem dX4_beginWith_31 : decode cX4_beginWith 31 = .ok (.istore_n 2, 1) := by decide +kernel
theorem dX4_beginWith_32 : decode cX4_beginWith 32 = .ok (.iload_n 2, 1) := by decide +kernel
theorem dX4_beginWith_33 : decode cX4_beginWith 33 = .ok (.iconst 4, 1) := by decide +kernel
theorem dX4_beginWith_34 : decode cX4_beginWith 34 = .ok (.if_icmp .ge 16, 3) := by decide +kernel
theorem dX4_beginWith_37 : decode cX4_beginWith 37 = .ok (.aload_n 0, 1) := by decide +kernel
theorem dX4_beginWith_38 : decode cX4_beginWith 38 = .ok (.getfield 18, 3) := by decide +kernel
theorem dX4_beginWith_41 : decode cX4_beginWith 41 = .ok (.iload_n 2, 1) := by decide +kernel
theorem dX4_beginWith_42 : decode cX4_beginWith 42 = .ok (.iconst 0, 1) := by decide +kernel
theorem dX4_beginWith_43 : decode cX4_beginWith 43 = .ok (.iastore, 1) := by decide +kernel
theorem dX4_beginWith_44 : decode cX4_beginWith 44 = .ok (.iinc 2 1, 3) := by decide +kernel
theorem dX4_beginWith_47 : decode cX4_beginWith 47 = .ok (.goto (-15), 3) := by decide +kernel
theorem dX4_beginWith_50 : decode cX4_beginWith 50 = .ok (.iconst 0, 1) := by decide +kernel
theorem dX4_beginWith_51 : decode cX4_beginWith 51 = .ok (.istore_n 2, 1) := by decide +kernel
theorem dX4_beginWith_52 : decode cX4_beginWith 52 = .ok (.iload_n 2, 1) := by decide +kernel
theorem dX4_beginWith_53 : decode cX4_beginWith 53 = .ok (.iconst 5, 1) := by decide +kernel
theorem dX4_beginWith_54 : decode cX4_beginWith 54 = .ok (.if_icmp .ge 17, 3) := by decide +kernel
theorem dX4_beginWith_57 : decode cX4_beginWith 57 = .ok (.aload_n 0, 1) := by decide +kernel
theorem dX4_beginWith_58 : decode cX4_beginWith 58 = .ok (.iload_n 2, 1) := by decide +kernel
theorem dX4_beginWith_59 : decode cX4_beginWith 59 = .ok (.iconst 0, 1) := by decide +kernel
theorem dX4_beginWith_60 : decode cX4_beginWith 60 = .ok (.iconst 0, 1) := by decide +kernel
theorem dX4_beginWith_61 : decode cX4_beginWith 61 = .ok (.iconst 1, 1) := by decide +kernel
theorem dX4_beginWith_62 : decode cX4_beginWith 62 = .ok (.invokevirtual 50, 3) := by decide +kernel
theorem dX4_beginWith_65 : decode cX4_beginWith 65 = .ok (.iinc 2 1, 3) := by decide +kernel
theorem dX4_beginWith_68 : decode cX4_beginWith 68 = .ok (.goto (-16), 3) := by decide +kernel
theorem dX4_beginWith_71 : decode cX4_beginWith 71 = .ok (.aload_n 0, 1) := by decide +kernel
theorem dX4_beginWith_72 : decode cX4_beginWith 72 = .ok (.iconst 0, 1) := by decide +kernel
theorem dX4_beginWith_73 : decode cX4_beginWith 73 = .ok (.putfield 54, 3) := by decide +kernel
theorem dX4_beginWith_76 : decode cX4_beginWith 76 = .ok (.return_, 1) := by decide +kernel
theorem dX4_copyFrom_0 : decode cX4_copyFrom 0 = .ok (.aload_n 1, 1) := by decide +kernel
theorem dX4_copyFrom_1 : decode cX4_copyFrom 1 = .ok (.getfield 9, 3) := by decide +kernel
theorem dX4_copyFrom_4 : decode cX4_copyFrom 4 = .ok (.iconst 0, 1) := by decide +kernel
theorem dX4_copyFrom_5 : decode cX4_copyFrom 5 = .ok (.aload_n 0, 1) := by decide +kernel
theorem dX4_copyFrom_6 : decode cX4_copyFrom 6 = .ok (.getfield 9, 3) := by decide +kernel
theorem dX4_copyFrom_9 : decode cX4_copyFrom 9 = .ok (.iconst 0, 1) := by decide +kernel
theorem dX4_copyFrom_10 : decode cX4_copyFrom 10 = .ok (.bipush 6, 2) := by decide +kernel
theorem dX4_copyFrom_12 : decode cX4_copyFrom 12 = .ok (.invokestatic 41, 3) := by decide +kernel
theorem dX4_copyFrom_15 : decode cX4_copyFrom 15 = .ok (.aload_n 1, 1) := by decide +kernel
theorem dX4_copyFrom_16 : decode cX4_copyFrom 16 = .ok (.getfield 15, 3) := by decide +kernel
theorem dX4_copyFrom_19 : decode cX4_copyFrom 19 = .ok (.iconst 0, 1) := by decide +kernel
theorem dX4_copyFrom_20 : decode cX4_copyFrom 20 = .ok (.aload_n 0, 1) := by decide +kernel
theorem dX4_copyFrom_21 : decode cX4_copyFrom 21 = .ok (.getfield 15, 3) := by decide +kernel
theorem dX4_copyFrom_24 : decode cX4_copyFrom 24 = .ok (.iconst 0, 1) := by decide +kernel
theorem dX4_copyFrom_25 : decode cX4_copyFrom 25 = .ok (.bipush 6, 2) := by decide +kernel
theorem dX4_copyFrom_27 : decode cX4_copyFrom 27 = .ok (.invokestatic 41, 3) := by decide +kernel
theorem dX4_copyFrom_30 : decode cX4_copyFrom 30 = .ok (.aload_n 1, 1) := by decide +kernel
theorem dX4_copyFrom_31 : decode cX4_copyFrom 31 = .ok (.getfield 18, 3) := by decide +kernel
theorem dX4_copyFrom_34 : decode cX4_copyFrom 34 = .ok (.iconst 0, 1) := by decide +kernel
theorem dX4_copyFrom_35 : decode cX4_copyFrom 35 = .ok (.aload_n 0, 1) := by decide +kernel
theorem dX4_copyFrom_36 : decode cX4_copyFrom 36 = .ok (.getfield 18, 3) := by decide +kernel
theorem dX4_copyFrom_39 : decode cX4_copyFrom 39 = .ok (.iconst 0, 1) := by decide +kernel
theorem dX4_copyFrom_40 : decode cX4_copyFrom 40 = .ok (.iconst 4, 1) := by decide +kernel
theorem dX4_copyFrom_41 : decode cX4_copyFrom 41 = .ok (.invokestatic 41, 3) := by decide +kernel
theorem dX4_copyFrom_44 : decode cX4_copyFrom 44 = .ok (.aload_n 1, 1) := by decide +kernel
theorem dX4_copyFrom_45 : decode cX4_copyFrom 45 = .ok (.getfield 21, 3) := by decide +kernel
theorem dX4_copyFrom_48 : decode cX4_copyFrom 48 = .ok (.iconst 0, 1) := by decide +kernel
theorem dX4_copyFrom_49 : decode cX4_copyFrom 49 = .ok (.aload_n 0, 1) := by decide +kernel
theorem dX4_copyFrom_50 : decode cX4_copyFrom 50 = .ok (.getfield 21, 3) := by decide +kernel
theorem dX4_copyFrom_53 : decode cX4_copyFrom 53 = .ok (.iconst 0, 1) := by decide +kernel
theorem dX4_copyFrom_54 : decode cX4_copyFrom 54 = .ok (.iconst 5, 1) := by decide +kernel
theorem dX4_copyFrom_55 : decode cX4_copyFrom 55 = .ok (.invokestatic 41, 3) := by decide +kernel
theorem dX4_copyFrom_58 : decode cX4_copyFrom 58 = .ok (.aload_n 1, 1) := by decide +kernel
theorem dX4_copyFrom_59 : decode cX4_copyFrom 59 = .ok (.getfield 24, 3) := by decide +kernel
theorem dX4_copyFrom_62 : decode cX4_copyFrom 62 = .ok (.iconst 0, 1) := by decide +kernel
theorem dX4_copyFrom_63 : decode cX4_copyFrom 63 = .ok (.aload_n 0, 1) := by decide +kernel
theorem dX4_copyFrom_64 : decode cX4_copyFrom 64 = .ok (.getfield 24, 3) := by decide +kernel
theorem dX4_copyFrom_67 : decode cX4_copyFrom 67 = .ok (.iconst 0, 1) := by decide +kernel
theorem dX4_copyFrom_68 : decode cX4_copyFrom 68 = .ok (.iconst 5, 1) := by decide +kernel
theorem dX4_copyFrom_69 : decode cX4_copyFrom 69 = .ok (.invokestatic 41, 3) := by decide +kernel
theorem dX4_copyFrom_72 : decode cX4_copyFrom 72 = .ok (.aload_n 1, 1) := by decide +kernel
theorem dX4_copyFrom_73 : decode cX4_copyFrom 73 = .ok (.getfield 27, 3) := by decide +kernel
theorem dX4_copyFrom_76 : decode cX4_copyFrom 76 = .ok (.iconst 0, 1) := by decide +kernel
theorem dX4_copyFrom_77 : decode cX4_copyFrom 77 = .ok (.aload_n 0, 1) := by decide +kernel
theorem dX4_copyFrom_78 : decode cX4_copyFrom 78 = .ok (.getfield 27, 3) := by decide +kernel
theorem dX4_copyFrom_81 : decode cX4_copyFrom 81 = .ok (.iconst 0, 1) := by decide +kernel
theorem dX4_copyFrom_82 : decode cX4_copyFrom 82 = .ok (.iconst 5, 1) := by decide +kernel
theorem dX4_copyFrom_83 : decode cX4_copyFrom 83 = .ok (.invokestatic 41, 3) := by decide +kernel
theorem dX4_copyFrom_86 : decode cX4_copyFrom 86 = .ok (.aload_n 1, 1) := by decide +kernel
theorem dX4_copyFrom_87 : decode cX4_copyFrom 87 = .ok (.getfield 30, 3) := by decide +kernel
theorem dX4_copyFrom_90 : decode cX4_copyFrom 90 = .ok (.iconst 0, 1) := by decide +kernel
theorem dX4_copyFrom_91 : decode cX4_copyFrom 91 = .ok (.aload_n 0, 1) := by decide +kernel
theorem dX4_copyFrom_92 : decode cX4_copyFrom 92 = .ok (.getfield 30, 3) := by decide +kernel
theorem dX4_copyFrom_95 : decode cX4_copyFrom 95 = .ok (.iconst 0, 1) := by decide +kernel
theorem dX4_copyFrom_96 : decode cX4_copyFrom 96 = .ok (.iconst 4, 1) := by decide +kernel
theorem dX4_copyFrom_97 : decode cX4_copyFrom 97 = .ok (.invokestatic 41, 3) := by decide +kernel
theorem dX4_copyFrom_100 : decode cX4_copyFrom 100 = .ok (.aload_n 1, 1) := by decide +kernel
theorem dX4_copyFrom_101 : decode cX4_copyFrom 101 = .ok (.getfield 33, 3) := by decide +kernel
theorem dX4_copyFrom_104 : decode cX4_copyFrom 104 = .ok (.iconst 0, 1) := by decide +kernel
theorem dX4_copyFrom_105 : decode cX4_copyFrom 105 = .ok (.aload_n 0, 1) := by decide +kernel
theorem dX4_copyFrom_106 : decode cX4_copyFrom 106 = .ok (.getfield 33, 3) := by decide +kernel
theorem dX4_copyFrom_109 : decode cX4_copyFrom 109 = .ok (.iconst 0, 1) := by decide +kernel
theorem dX4_copyFrom_110 : decode cX4_copyFrom 110 = .ok (.iconst 4, 1) := by decide +kernel
theorem dX4_copyFrom_111 : decode cX4_copyFrom 111 = .ok (.invokestatic 41, 3) := by decide +kernel
theorem dX4_copyFrom_114 : decode cX4_copyFrom 114 = .ok (.aload_n 0, 1) := by decide +kernel
theorem dX4_copyFrom_115 : decode cX4_copyFrom 115 = .ok (.aload_n 1, 1) := by decide +kernel
theorem dX4_copyFrom_116 : decode cX4_copyFrom 116 = .ok (.getfield 54, 3) := by decide +kernel
theorem dX4_copyFrom_119 : decode cX4_copyFrom 119 = .ok (.putfield 54, 3) := by decide +kernel
theorem dX4_copyFrom_122 : decode cX4_copyFrom 122 = .ok (.return_, 1) := by decide +kernel
theorem dX4_tellPan_0 : decode cX4_tellPan 0 = .ok (.aload_n 0, 1) := by decide +kernel
theorem dX4_tellPan_1 : decode cX4_tellPan 1 = .ok (.getfield 21, 3) := by decide +kernel
theorem dX4_tellPan_4 : decode cX4_tellPan 4 = .ok (.iload_n 1, 1) := by decide +kernel
theorem dX4_tellPan_5 : decode cX4_tellPan 5 = .ok (.iload_n 2, 1) := by decide +kernel
theorem dX4_tellPan_6 : decode cX4_tellPan 6 = .ok (.iastore, 1) := by decide +kernel
theorem dX4_tellPan_7 : decode cX4_tellPan 7 = .ok (.aload_n 0, 1) := by decide +kernel
theorem dX4_tellPan_8 : decode cX4_tellPan 8 = .ok (.getfield 24, 3) := by decide +kernel
theorem dX4_tellPan_11 : decode cX4_tellPan 11 = .ok (.iload_n 1, 1) := by decide +kernel
theorem dX4_tellPan_12 : decode cX4_tellPan 12 = .ok (.iload_n 3, 1) := by decide +kernel
theorem dX4_tellPan_13 : decode cX4_tellPan 13 = .ok (.iastore, 1) := by decide +kernel
theorem dX4_tellPan_14 : decode cX4_tellPan 14 = .ok (.aload_n 0, 1) := by decide +kernel
theorem dX4_tellPan_15 : decode cX4_tellPan 15 = .ok (.getfield 27, 3) := by decide +kernel
theorem dX4_tellPan_18 : decode cX4_tellPan 18 = .ok (.iload_n 1, 1) := by decide +kernel
theorem dX4_tellPan_19 : decode cX4_tellPan 19 = .ok (.iload 4, 2) := by decide +kernel
theorem dX4_tellPan_21 : decode cX4_tellPan 21 = .ok (.iastore, 1) := by decide +kernel
theorem dX4_tellPan_22 : decode cX4_tellPan 22 = .ok (.return_, 1) := by decide +kernel
theorem dX4_panAt_0 : decode cX4_panAt 0 = .ok (.aload_n 0, 1) := by decide +kernel
theorem dX4_panAt_1 : decode cX4_panAt 1 = .ok (.getfield 27, 3) := by decide +kernel
theorem dX4_panAt_4 : decode cX4_panAt 4 = .ok (.iload_n 1, 1) := by decide +kernel
theorem dX4_panAt_5 : decode cX4_panAt 5 = .ok (.iaload, 1) := by decide +kernel
theorem dX4_panAt_6 : decode cX4_panAt 6 = .ok (.istore_n 3, 1) := by decide +kernel
theorem dX4_panAt_7 : decode cX4_panAt 7 = .ok (.iload_n 3, 1) := by decide +kernel
theorem dX4_panAt_8 : decode cX4_panAt 8 = .ok (.iconst 1, 1) := by decide +kernel
theorem dX4_panAt_9 : decode cX4_panAt 9 = .ok (.if_icmp .ge 12, 3) := by decide +kernel
theorem dX4_panAt_12 : decode cX4_panAt 12 = .ok (.aload_n 0, 1) := by decide +kernel
theorem dX4_panAt_13 : decode cX4_panAt 13 = .ok (.getfield 21, 3) := by decide +kernel
theorem dX4_panAt_16 : decode cX4_panAt 16 = .ok (.iload_n 1, 1) := by decide +kernel
theorem dX4_panAt_17 : decode cX4_panAt 17 = .ok (.iaload, 1) := by decide +kernel
theorem dX4_panAt_18 : decode cX4_panAt 18 = .ok (.goto 20, 3) := by decide +kernel
theorem dX4_panAt_21 : decode cX4_panAt 21 = .ok (.aload_n 0, 1) := by decide +kernel
theorem dX4_panAt_22 : decode cX4_panAt 22 = .ok (.getfield 21, 3) := by decide +kernel
theorem dX4_panAt_25 : decode cX4_panAt 25 = .ok (.iload_n 1, 1) := by decide +kernel
theorem dX4_panAt_26 : decode cX4_panAt 26 = .ok (.iaload, 1) := by decide +kernel
theorem dX4_panAt_27 : decode cX4_panAt 27 = .ok (.aload_n 0, 1) := by decide +kernel
theorem dX4_panAt_28 : decode cX4_panAt 28 = .ok (.getfield 24, 3) := by decide +kernel
theorem dX4_panAt_31 : decode cX4_panAt 31 = .ok (.iload_n 1, 1) := by decide +kernel
theorem dX4_panAt_32 : decode cX4_panAt 32 = .ok (.iaload, 1) := by decide +kernel
theorem dX4_panAt_33 : decode cX4_panAt 33 = .ok (.iload_n 2, 1) := by decide +kernel
theorem dX4_panAt_34 : decode cX4_panAt 34 = .ok (.iload_n 3, 1) := by decide +kernel
theorem dX4_panAt_35 : decode cX4_panAt 35 = .ok (.idiv, 1) := by decide +kernel
theorem dX4_panAt_36 : decode cX4_panAt 36 = .ok (.imul, 1) := by decide +kernel
theorem dX4_panAt_37 : decode cX4_panAt 37 = .ok (.iadd, 1) := by decide +kernel
theorem dX4_panAt_38 : decode cX4_panAt 38 = .ok (.ireturn, 1) := by decide +kernel
theorem dX4_addSwitch_0 : decode cX4_addSwitch 0 = .ok (.aload_n 0, 1) := by decide +kernel
theorem dX4_addSwitch_1 : decode cX4_addSwitch 1 = .ok (.getfield 54, 3) := by decide +kernel
theorem dX4_addSwitch_4 : decode cX4_addSwitch 4 = .ok (.iconst 4, 1) := by decide +kernel
theorem dX4_addSwitch_5 : decode cX4_addSwitch 5 = .ok (.if_icmp .ge 33, 3) := by decide +kernel
theorem dX4_addSwitch_8 : decode cX4_addSwitch 8 = .ok (.aload_n 0, 1) := by decide +kernel
theorem dX4_addSwitch_9 : decode cX4_addSwitch 9 = .ok (.getfield 30, 3) := by decide +kernel
theorem dX4_addSwitch_12 : decode cX4_addSwitch 12 = .ok (.aload_n 0, 1) := by decide +kernel
theorem dX4_addSwitch_13 : decode cX4_addSwitch 13 = .ok (.getfield 54, 3) := by decide +kernel
theorem dX4_addSwitch_16 : decode cX4_addSwitch 16 = .ok (.iload_n 1, 1) := by decide +kernel
theorem dX4_addSwitch_17 : decode cX4_addSwitch 17 = .ok (.iastore, 1) := by decide +kernel
theorem dX4_addSwitch_18 : decode cX4_addSwitch 18 = .ok (.aload_n 0, 1) := by decide +kernel
theorem dX4_addSwitch_19 : decode cX4_addSwitch 19 = .ok (.getfield 33, 3) := by decide +kernel
theorem dX4_addSwitch_22 : decode cX4_addSwitch 22 = .ok (.aload_n 0, 1) := by decide +kernel
theorem dX4_addSwitch_23 : decode cX4_addSwitch 23 = .ok (.getfield 54, 3) := by decide +kernel
theorem dX4_addSwitch_26 : decode cX4_addSwitch 26 = .ok (.iload_n 2, 1) := by decide +kernel
theorem dX4_addSwitch_27 : decode cX4_addSwitch 27 = .ok (.iastore, 1) := by decide +kernel
theorem dX4_addSwitch_28 : decode cX4_addSwitch 28 = .ok (.aload_n 0, 1) := by decide +kernel
theorem dX4_addSwitch_29 : decode cX4_addSwitch 29 = .ok (.dup, 1) := by decide +kernel
theorem dX4_addSwitch_30 : decode cX4_addSwitch 30 = .ok (.getfield 54, 3) := by decide +kernel
theorem dX4_addSwitch_33 : decode cX4_addSwitch 33 = .ok (.iconst 1, 1) := by decide +kernel
theorem dX4_addSwitch_34 : decode cX4_addSwitch 34 = .ok (.iadd, 1) := by decide +kernel
theorem dX4_addSwitch_35 : decode cX4_addSwitch 35 = .ok (.putfield 54, 3) := by decide +kernel
theorem dX4_addSwitch_38 : decode cX4_addSwitch 38 = .ok (.return_, 1) := by decide +kernel
theorem dX4_dropSwitch_0 : decode cX4_dropSwitch 0 = .ok (.aload_n 0, 1) := by decide +kernel
theorem dX4_dropSwitch_1 : decode cX4_dropSwitch 1 = .ok (.getfield 54, 3) := by decide +kernel
theorem dX4_dropSwitch_4 : decode cX4_dropSwitch 4 = .ok (.iconst 1, 1) := by decide +kernel
theorem dX4_dropSwitch_5 : decode cX4_dropSwitch 5 = .ok (.if_icmp .ge 5, 3) := by decide +kernel
theorem dX4_dropSwitch_8 : decode cX4_dropSwitch 8 = .ok (.iconst 0, 1) := by decide +kernel
theorem dX4_dropSwitch_9 : decode cX4_dropSwitch 9 = .ok (.ireturn, 1) := by decide +kernel
theorem dX4_dropSwitch_10 : decode cX4_dropSwitch 10 = .ok (.aload_n 0, 1) := by decide +kernel
theorem dX4_dropSwitch_11 : decode cX4_dropSwitch 11 = .ok (.dup, 1) := by decide +kernel
theorem dX4_dropSwitch_12 : decode cX4_dropSwitch 12 = .ok (.getfield 54, 3) := by decide +kernel
theorem dX4_dropSwitch_15 : decode cX4_dropSwitch 15 = .ok (.iconst 1, 1) := by decide +kernel
theorem dX4_dropSwitch_16 : decode cX4_dropSwitch 16 = .ok (.isub, 1) := by decide +kernel
theorem dX4_dropSwitch_17 : decode cX4_dropSwitch 17 = .ok (.putfield 54, 3) := by decide +kernel
theorem dX4_dropSwitch_20 : decode cX4_dropSwitch 20 = .ok (.iconst 1, 1) := by decide +kernel
theorem dX4_dropSwitch_21 : decode cX4_dropSwitch 21 = .ok (.ireturn, 1) := by decide +kernel
theorem dX4_switchFor_0 : decode cX4_switchFor 0 = .ok (.iconst (-1), 1) := by decide +kernel
theorem dX4_switchFor_1 : decode cX4_switchFor 1 = .ok (.istore_n 2, 1) := by decide +kernel
theorem dX4_switchFor_2 : decode cX4_switchFor 2 = .ok (.iconst 0, 1) := by decide +kernel
theorem dX4_switchFor_3 : decode cX4_switchFor 3 = .ok (.istore_n 3, 1) := by decide +kernel
theorem dX4_switchFor_4 : decode cX4_switchFor 4 = .ok (.iload_n 3, 1) := by decide +kernel
theorem dX4_switchFor_5 : decode cX4_switchFor 5 = .ok (.aload_n 0, 1) := by decide +kernel
theorem dX4_switchFor_6 : decode cX4_switchFor 6 = .ok (.getfield 54, 3) := by decide +kernel
theorem dX4_switchFor_9 : decode cX4_switchFor 9 = .ok (.if_icmp .ge 52, 3) := by decide +kernel
theorem dX4_switchFor_12 : decode cX4_switchFor 12 = .ok (.aload_n 0, 1) := by decide +kernel
theorem dX4_switchFor_13 : decode cX4_switchFor 13 = .ok (.getfield 30, 3) := by decide +kernel
theorem dX4_switchFor_16 : decode cX4_switchFor 16 = .ok (.iload_n 3, 1) := by decide +kernel
theorem dX4_switchFor_17 : decode cX4_switchFor 17 = .ok (.iaload, 1) := by decide +kernel
theorem dX4_switchFor_18 : decode cX4_switchFor 18 = .ok (.iload_n 1, 1) := by decide +kernel
theorem dX4_switchFor_19 : decode cX4_switchFor 19 = .ok (.if_icmp .gt 7, 3) := by decide +kernel
theorem dX4_switchFor_22 : decode cX4_switchFor 22 = .ok (.iconst 1, 1) := by decide +kernel
theorem dX4_switchFor_23 : decode cX4_switchFor 23 = .ok (.goto 4, 3) := by decide +kernel
theorem dX4_switchFor_26 : decode cX4_switchFor 26 = .ok (.iconst 0, 1) := by decide +kernel
theorem dX4_switchFor_27 : decode cX4_switchFor 27 = .ok (.istore 4, 2) := by decide +kernel
theorem dX4_switchFor_29 : decode cX4_switchFor 29 = .ok (.iload 4, 2) := by decide +kernel
theorem dX4_switchFor_31 : decode cX4_switchFor 31 = .ok (.ifCond .eq 24, 3) := by decide +kernel
theorem dX4_switchFor_34 : decode cX4_switchFor 34 = .ok (.iload_n 2, 1) := by decide +kernel
theorem dX4_switchFor_35 : decode cX4_switchFor 35 = .ok (.ifCond .lt 18, 3) := by decide +kernel
theorem dX4_switchFor_38 : decode cX4_switchFor 38 = .ok (.aload_n 0, 1) := by decide +kernel
theorem dX4_switchFor_39 : decode cX4_switchFor 39 = .ok (.getfield 30, 3) := by decide +kernel
theorem dX4_switchFor_42 : decode cX4_switchFor 42 = .ok (.iload_n 3, 1) := by decide +kernel
theorem dX4_switchFor_43 : decode cX4_switchFor 43 = .ok (.iaload, 1) := by decide +kernel
theorem dX4_switchFor_44 : decode cX4_switchFor 44 = .ok (.aload_n 0, 1) := by decide +kernel
theorem dX4_switchFor_45 : decode cX4_switchFor 45 = .ok (.getfield 30, 3) := by decide +kernel
theorem dX4_switchFor_48 : decode cX4_switchFor 48 = .ok (.iload_n 2, 1) := by decide +kernel
theorem dX4_switchFor_49 : decode cX4_switchFor 49 = .ok (.iaload, 1) := by decide +kernel
theorem dX4_switchFor_50 : decode cX4_switchFor 50 = .ok (.if_icmp .lt 5, 3) := by decide +kernel
theorem dX4_switchFor_53 : decode cX4_switchFor 53 = .ok (.iload_n 3, 1) := by decide +kernel
theorem dX4_switchFor_54 : decode cX4_switchFor 54 = .ok (.istore_n 2, 1) := by decide +kernel
theorem dX4_switchFor_55 : decode cX4_switchFor 55 = .ok (.iinc 3 1, 3) := by decide +kernel
theorem dX4_switchFor_58 : decode cX4_switchFor 58 = .ok (.goto (-54), 3) := by decide +kernel
theorem dX4_switchFor_61 : decode cX4_switchFor 61 = .ok (.iload_n 2, 1) := by decide +kernel
theorem dX4_switchFor_62 : decode cX4_switchFor 62 = .ok (.ireturn, 1) := by decide +kernel
theorem dX6_init_0 : decode cX6_init 0 = .ok (.aload_n 0, 1) := by decide +kernel
theorem dX6_init_1 : decode cX6_init 1 = .ok (.invokespecial 3, 3) := by decide +kernel
theorem dX6_init_4 : decode cX6_init 4 = .ok (.aload_n 0, 1) := by decide +kernel
theorem dX6_init_5 : decode cX6_init 5 = .ok (.bipush 6, 2) := by decide +kernel
theorem dX6_init_7 : decode cX6_init 7 = .ok (.newarray .int, 2) := by decide +kernel
theorem dX6_init_9 : decode cX6_init 9 = .ok (.putfield 9, 3) := by decide +kernel
theorem dX6_init_12 : decode cX6_init 12 = .ok (.aload_n 0, 1) := by decide +kernel
theorem dX6_init_13 : decode cX6_init 13 = .ok (.bipush 6, 2) := by decide +kernel
theorem dX6_init_15 : decode cX6_init 15 = .ok (.newarray .int, 2) := by decide +kernel
theorem dX6_init_17 : decode cX6_init 17 = .ok (.putfield 15, 3) := by decide +kernel
theorem dX6_init_20 : decode cX6_init 20 = .ok (.aload_n 0, 1) := by decide +kernel
theorem dX6_init_21 : decode cX6_init 21 = .ok (.bipush 6, 2) := by decide +kernel
theorem dX6_init_23 : decode cX6_init 23 = .ok (.newarray .int, 2) := by decide +kernel
theorem dX6_init_25 : decode cX6_init 25 = .ok (.putfield 18, 3) := by decide +kernel
theorem dX6_init_28 : decode cX6_init 28 = .ok (.return_, 1) := by decide +kernel
theorem dX6_clear_0 : decode cX6_clear 0 = .ok (.aload_n 0, 1) := by decide +kernel
theorem dX6_clear_1 : decode cX6_clear 1 = .ok (.iconst 0, 1) := by decide +kernel
theorem dX6_clear_2 : decode cX6_clear 2 = .ok (.putfield 21, 3) := by decide +kernel
theorem dX6_clear_5 : decode cX6_clear 5 = .ok (.return_, 1) := by decide +kernel
theorem dX6_add_0 : decode cX6_add 0 = .ok (.aload_n 0, 1) := by decide +kernel
theorem dX6_add_1 : decode cX6_add 1 = .ok (.getfield 21, 3) := by decide +kernel
theorem dX6_add_4 : decode cX6_add 4 = .ok (.bipush 6, 2) := by decide +kernel
theorem dX6_add_6 : decode cX6_add 6 = .ok (.if_icmp .ge 43, 3) := by decide +kernel
theorem dX6_add_9 : decode cX6_add 9 = .ok (.aload_n 0, 1) := by decide +kernel
theorem dX6_add_10 : decode cX6_add 10 = .ok (.getfield 9, 3) := by decide +kernel
theorem dX6_add_13 : decode cX6_add 13 = .ok (.aload_n 0, 1) := by decide +kernel
theorem dX6_add_14 : decode cX6_add 14 = .ok (.getfield 21, 3) := by decide +kernel
theorem dX6_add_17 : decode cX6_add 17 = .ok (.iload_n 1, 1) := by decide +kernel
theorem dX6_add_18 : decode cX6_add 18 = .ok (.iastore, 1) := by decide +kernel
theorem dX6_add_19 : decode cX6_add 19 = .ok (.aload_n 0, 1) := by decide +kernel
theorem dX6_add_20 : decode cX6_add 20 = .ok (.getfield 15, 3) := by decide +kernel
theorem dX6_add_23 : decode cX6_add 23 = .ok (.aload_n 0, 1) := by decide +kernel
theorem dX6_add_24 : decode cX6_add 24 = .ok (.getfield 21, 3) := by decide +kernel
theorem dX6_add_27 : decode cX6_add 27 = .ok (.iload_n 2, 1) := by decide +kernel
theorem dX6_add_28 : decode cX6_add 28 = .ok (.iastore, 1) := by decide +kernel
theorem dX6_add_29 : decode cX6_add 29 = .ok (.aload_n 0, 1) := by decide +kernel
theorem dX6_add_30 : decode cX6_add 30 = .ok (.getfield 18, 3) := by decide +kernel
theorem dX6_add_33 : decode cX6_add 33 = .ok (.aload_n 0, 1) := by decide +kernel
theorem dX6_add_34 : decode cX6_add 34 = .ok (.getfield 21, 3) := by decide +kernel
theorem dX6_add_37 : decode cX6_add 37 = .ok (.iload_n 3, 1) := by decide +kernel
theorem dX6_add_38 : decode cX6_add 38 = .ok (.iastore, 1) := by decide +kernel
theorem dX6_add_39 : decode cX6_add 39 = .ok (.aload_n 0, 1) := by decide +kernel
theorem dX6_add_40 : decode cX6_add 40 = .ok (.dup, 1) := by decide +kernel
theorem dX6_add_41 : decode cX6_add 41 = .ok (.getfield 21, 3) := by decide +kernel
theorem dX6_add_44 : decode cX6_add 44 = .ok (.iconst 1, 1) := by decide +kernel
theorem dX6_add_45 : decode cX6_add 45 = .ok (.iadd, 1) := by decide +kernel
theorem dX6_add_46 : decode cX6_add 46 = .ok (.putfield 21, 3) := by decide +kernel
theorem dX6_add_49 : decode cX6_add 49 = .ok (.return_, 1) := by decide +kernel
theorem dX6_allSoWithout_0 : decode cX6_allSoWithout 0 = .ok (.iconst 0, 1) := by decide +kernel
theorem dX6_allSoWithout_1 : decode cX6_allSoWithout 1 = .ok (.istore_n 3, 1) := by decide +kernel
theorem dX6_allSoWithout_2 : decode cX6_allSoWithout 2 = .ok (.iload_n 3, 1) := by decide +kernel
theorem dX6_allSoWithout_3 : decode cX6_allSoWithout 3 = .ok (.aload_n 0, 1) := by decide +kernel
theorem dX6_allSoWithout_4 : decode cX6_allSoWithout 4 = .ok (.getfield 21, 3) := by decide +kernel
theorem dX6_allSoWithout_7 : decode cX6_allSoWithout 7 = .ok (.if_icmp .ge 37, 3) := by decide +kernel
theorem dX6_allSoWithout_10 : decode cX6_allSoWithout 10 = .ok (.aload_n 2, 1) := by decide +kernel
theorem dX6_allSoWithout_11 : decode cX6_allSoWithout 11 = .ok (.aload_n 0, 1) := by decide +kernel
theorem dX6_allSoWithout_12 : decode cX6_allSoWithout 12 = .ok (.getfield 9, 3) := by decide +kernel
theorem dX6_allSoWithout_15 : decode cX6_allSoWithout 15 = .ok (.iload_n 3, 1) := by decide +kernel
theorem dX6_allSoWithout_16 : decode cX6_allSoWithout 16 = .ok (.iaload, 1) := by decide +kernel
theorem dX6_allSoWithout_17 : decode cX6_allSoWithout 17 = .ok (.aload_n 0, 1) := by decide +kernel
theorem dX6_allSoWithout_18 : decode cX6_allSoWithout 18 = .ok (.getfield 15, 3) := by decide +kernel
theorem dX6_allSoWithout_21 : decode cX6_allSoWithout 21 = .ok (.iload_n 3, 1) := by decide +kernel
theorem dX6_allSoWithout_22 : decode cX6_allSoWithout 22 = .ok (.iaload, 1) := by decide +kernel
theorem dX6_allSoWithout_23 : decode cX6_allSoWithout 23 = .ok (.iload_n 1, 1) := by decide +kernel
theorem dX6_allSoWithout_24 : decode cX6_allSoWithout 24 = .ok (.invokevirtual 25, 3) := by decide +kernel
theorem dX6_allSoWithout_27 : decode cX6_allSoWithout 27 = .ok (.aload_n 0, 1) := by decide +kernel
theorem dX6_allSoWithout_28 : decode cX6_allSoWithout 28 = .ok (.getfield 18, 3) := by decide +kernel
theorem dX6_allSoWithout_31 : decode cX6_allSoWithout 31 = .ok (.iload_n 3, 1) := by decide +kernel
theorem dX6_allSoWithout_32 : decode cX6_allSoWithout 32 = .ok (.iaload, 1) := by decide +kernel
theorem dX6_allSoWithout_33 : decode cX6_allSoWithout 33 = .ok (.if_icmp .eq 5, 3) := by decide +kernel
theorem dX6_allSoWithout_36 : decode cX6_allSoWithout 36 = .ok (.iconst 0, 1) := by decide +kernel
theorem dX6_allSoWithout_37 : decode cX6_allSoWithout 37 = .ok (.ireturn, 1) := by decide +kernel
theorem dX6_allSoWithout_38 : decode cX6_allSoWithout 38 = .ok (.iinc 3 1, 3) := by decide +kernel
theorem dX6_allSoWithout_41 : decode cX6_allSoWithout 41 = .ok (.goto (-39), 3) := by decide +kernel
theorem dX6_allSoWithout_44 : decode cX6_allSoWithout 44 = .ok (.iconst 1, 1) := by decide +kernel
theorem dX6_allSoWithout_45 : decode cX6_allSoWithout 45 = .ok (.ireturn, 1) := by decide +kernel
