theorem dX7_init_0 : decode cX7_init 0 = .ok (.aload_n 0, 1) := by decide +kernel
theorem dX7_init_1 : decode cX7_init 1 = .ok (.invokespecial 1, 3) := by decide +kernel
theorem dX7_init_4 : decode cX7_init 4 = .ok (.aload_n 0, 1) := by decide +kernel
theorem dX7_init_5 : decode cX7_init 5 = .ok (.bipush 80, 2) := by decide +kernel
theorem dX7_init_7 : decode cX7_init 7 = .ok (.newarray .int, 2) := by decide +kernel
theorem dX7_init_9 : decode cX7_init 9 = .ok (.putfield 9, 3) := by decide +kernel
theorem dX7_init_12 : decode cX7_init 12 = .ok (.aload_n 0, 1) := by decide +kernel
theorem dX7_init_13 : decode cX7_init 13 = .ok (.new 13, 3) := by decide +kernel
theorem dX7_init_16 : decode cX7_init 16 = .ok (.dup, 1) := by decide +kernel
theorem dX7_init_17 : decode cX7_init 17 = .ok (.invokespecial 15, 3) := by decide +kernel
theorem dX7_init_20 : decode cX7_init 20 = .ok (.putfield 16, 3) := by decide +kernel
theorem dX7_init_23 : decode cX7_init 23 = .ok (.aload_n 0, 1) := by decide +kernel
theorem dX7_init_24 : decode cX7_init 24 = .ok (.new 20, 3) := by decide +kernel
theorem dX7_init_27 : decode cX7_init 27 = .ok (.dup, 1) := by decide +kernel
theorem dX7_init_28 : decode cX7_init 28 = .ok (.invokespecial 22, 3) := by decide +kernel
theorem dX7_init_31 : decode cX7_init 31 = .ok (.putfield 23, 3) := by decide +kernel
theorem dX7_init_34 : decode cX7_init 34 = .ok (.aload_n 0, 1) := by decide +kernel
theorem dX7_init_35 : decode cX7_init 35 = .ok (.aload_n 0, 1) := by decide +kernel
theorem dX7_init_36 : decode cX7_init 36 = .ok (.getfield 23, 3) := by decide +kernel
theorem dX7_init_39 : decode cX7_init 39 = .ok (.getfield 27, 3) := by decide +kernel
theorem dX7_init_42 : decode cX7_init 42 = .ok (.putfield 31, 3) := by decide +kernel
theorem dX7_init_45 : decode cX7_init 45 = .ok (.aload_n 0, 1) := by decide +kernel
theorem dX7_init_46 : decode cX7_init 46 = .ok (.aload_n 0, 1) := by decide +kernel
theorem dX7_init_47 : decode cX7_init 47 = .ok (.getfield 23, 3) := by decide +kernel
theorem dX7_init_50 : decode cX7_init 50 = .ok (.getfield 34, 3) := by decide +kernel
theorem dX7_init_53 : decode cX7_init 53 = .ok (.putfield 38, 3) := by decide +kernel
theorem dX7_init_56 : decode cX7_init 56 = .ok (.aload_n 0, 1) := by decide +kernel
theorem dX7_init_57 : decode cX7_init 57 = .ok (.new 41, 3) := by decide +kernel
theorem dX7_init_60 : decode cX7_init 60 = .ok (.dup, 1) := by decide +kernel
theorem dX7_init_61 : decode cX7_init 61 = .ok (.invokespecial 43, 3) := by decide +kernel
theorem dX7_init_64 : decode cX7_init 64 = .ok (.putfield 44, 3) := by decide +kernel
theorem dX7_init_67 : decode cX7_init 67 = .ok (.aload_n 0, 1) := by decide +kernel
theorem dX7_init_68 : decode cX7_init 68 = .ok (.new 48, 3) := by decide +kernel
theorem dX7_init_71 : decode cX7_init 71 = .ok (.dup, 1) := by decide +kernel
theorem dX7_init_72 : decode cX7_init 72 = .ok (.invokespecial 50, 3) := by decide +kernel
theorem dX7_init_75 : decode cX7_init 75 = .ok (.putfield 51, 3) := by decide +kernel
theorem dX7_init_78 : decode cX7_init 78 = .ok (.aload_n 0, 1) := by decide +kernel
theorem dX7_init_79 : decode cX7_init 79 = .ok (.new 55, 3) := by decide +kernel
theorem dX7_init_82 : decode cX7_init 82 = .ok (.dup, 1) := by decide +kernel
theorem dX7_init_83 : decode cX7_init 83 = .ok (.invokespecial 57, 3) := by decide +kernel
theorem dX7_init_86 : decode cX7_init 86 = .ok (.putfield 58, 3) := by decide +kernel
theorem dX7_init_89 : decode cX7_init 89 = .ok (.aload_n 0, 1) := by decide +kernel
theorem dX7_init_90 : decode cX7_init 90 = .ok (.new 55, 3) := by decide +kernel
theorem dX7_init_93 : decode cX7_init 93 = .ok (.dup, 1) := by decide +kernel
theorem dX7_init_94 : decode cX7_init 94 = .ok (.invokespecial 57, 3) := by decide +kernel
theorem dX7_init_97 : decode cX7_init 97 = .ok (.putfield 61, 3) := by decide +kernel
theorem dX7_init_100 : decode cX7_init 100 = .ok (.aload_n 0, 1) := by decide +kernel
theorem dX7_init_101 : decode cX7_init 101 = .ok (.new 55, 3) := by decide +kernel
theorem dX7_init_104 : decode cX7_init 104 = .ok (.dup, 1) := by decide +kernel
theorem dX7_init_105 : decode cX7_init 105 = .ok (.invokespecial 57, 3) := by decide +kernel
theorem dX7_init_108 : decode cX7_init 108 = .ok (.putfield 64, 3) := by decide +kernel
theorem dX7_init_111 : decode cX7_init 111 = .ok (.aload_n 0, 1) := by decide +kernel
theorem dX7_init_112 : decode cX7_init 112 = .ok (.iconst 2, 1) := by decide +kernel
theorem dX7_init_113 : decode cX7_init 113 = .ok (.newarray .boolean, 2) := by decide +kernel
theorem dX7_init_115 : decode cX7_init 115 = .ok (.putfield 67, 3) := by decide +kernel
theorem dX7_init_118 : decode cX7_init 118 = .ok (.return_, 1) := by decide +kernel
theorem dX7_write_0 : decode cX7_write 0 = .ok (.iload_n 1, 1) := by decide +kernel
theorem dX7_write_1 : decode cX7_write 1 = .ok (.ifCond .lt 10, 3) := by decide +kernel
theorem dX7_write_4 : decode cX7_write 4 = .ok (.iload_n 1, 1) := by decide +kernel
theorem dX7_write_5 : decode cX7_write 5 = .ok (.sipush 255, 3) := by decide +kernel
theorem dX7_write_8 : decode cX7_write 8 = .ok (.if_icmp .le 6, 3) := by decide +kernel
theorem dX7_write_11 : decode cX7_write 11 = .ok (.bipush (-2), 2) := by decide +kernel
theorem dX7_write_13 : decode cX7_write 13 = .ok (.ireturn, 1) := by decide +kernel
theorem dX7_write_14 : decode cX7_write 14 = .ok (.aload_n 0, 1) := by decide +kernel
theorem dX7_write_15 : decode cX7_write 15 = .ok (.getfield 71, 3) := by decide +kernel
theorem dX7_write_18 : decode cX7_write 18 = .ok (.bipush 80, 2) := by decide +kernel
theorem dX7_write_20 : decode cX7_write 20 = .ok (.if_icmp .lt 6, 3) := by decide +kernel
theorem dX7_write_23 : decode cX7_write 23 = .ok (.bipush (-4), 2) := by decide +kernel
theorem dX7_write_25 : decode cX7_write 25 = .ok (.ireturn, 1) := by decide +kernel
theorem dX7_write_26 : decode cX7_write 26 = .ok (.aload_n 0, 1) := by decide +kernel
theorem dX7_write_27 : decode cX7_write 27 = .ok (.getfield 9, 3) := by decide +kernel
theorem dX7_write_30 : decode cX7_write 30 = .ok (.aload_n 0, 1) := by decide +kernel
theorem dX7_write_31 : decode cX7_write 31 = .ok (.getfield 71, 3) := by decide +kernel
theorem dX7_write_34 : decode cX7_write 34 = .ok (.iload_n 1, 1) := by decide +kernel
theorem dX7_write_35 : decode cX7_write 35 = .ok (.iastore, 1) := by decide +kernel
theorem dX7_write_36 : decode cX7_write 36 = .ok (.aload_n 0, 1) := by decide +kernel
theorem dX7_write_37 : decode cX7_write 37 = .ok (.dup, 1) := by decide +kernel
theorem dX7_write_38 : decode cX7_write 38 = .ok (.getfield 71, 3) := by decide +kernel
theorem dX7_write_41 : decode cX7_write 41 = .ok (.iconst 1, 1) := by decide +kernel
theorem dX7_write_42 : decode cX7_write 42 = .ok (.iadd, 1) := by decide +kernel
theorem dX7_write_43 : decode cX7_write 43 = .ok (.putfield 71, 3) := by decide +kernel
theorem dX7_write_46 : decode cX7_write 46 = .ok (.aload_n 0, 1) := by decide +kernel
theorem dX7_write_47 : decode cX7_write 47 = .ok (.getfield 71, 3) := by decide +kernel
theorem dX7_write_50 : decode cX7_write 50 = .ok (.ireturn, 1) := by decide +kernel
theorem dX7_wipe_0 : decode cX7_wipe 0 = .ok (.aload_n 0, 1) := by decide +kernel
theorem dX7_wipe_1 : decode cX7_wipe 1 = .ok (.getfield 71, 3) := by decide +kernel
theorem dX7_wipe_4 : decode cX7_wipe 4 = .ok (.istore_n 1, 1) := by decide +kernel
theorem dX7_wipe_5 : decode cX7_wipe 5 = .ok (.aload_n 0, 1) := by decide +kernel
theorem dX7_wipe_6 : decode cX7_wipe 6 = .ok (.iconst 0, 1) := by decide +kernel
theorem dX7_wipe_7 : decode cX7_wipe 7 = .ok (.putfield 71, 3) := by decide +kernel
theorem dX7_wipe_10 : decode cX7_wipe 10 = .ok (.iload_n 1, 1) := by decide +kernel
theorem dX7_wipe_11 : decode cX7_wipe 11 = .ok (.ireturn, 1) := by decide +kernel
theorem dX7_fault_0 : decode cX7_fault 0 = .ok (.aload_n 0, 1) := by decide +kernel
theorem dX7_fault_1 : decode cX7_fault 1 = .ok (.getfield 16, 3) := by decide +kernel
theorem dX7_fault_4 : decode cX7_fault 4 = .ok (.aload_n 0, 1) := by decide +kernel
theorem dX7_fault_5 : decode cX7_fault 5 = .ok (.getfield 9, 3) := by decide +kernel
theorem dX7_fault_8 : decode cX7_fault 8 = .ok (.aload_n 0, 1) := by decide +kernel
theorem dX7_fault_9 : decode cX7_fault 9 = .ok (.getfield 71, 3) := by decide +kernel
theorem dX7_fault_12 : decode cX7_fault 12 = .ok (.invokevirtual 75, 3) := by decide +kernel
theorem dX7_fault_15 : decode cX7_fault 15 = .ok (.ireturn, 1) := by decide +kernel
theorem dX7_reel_0 : decode cX7_reel 0 = .ok (.aload_n 0, 1) := by decide +kernel
theorem dX7_reel_1 : decode cX7_reel 1 = .ok (.getfield 16, 3) := by decide +kernel
theorem dX7_reel_4 : decode cX7_reel 4 = .ok (.aload_n 0, 1) := by decide +kernel
theorem dX7_reel_5 : decode cX7_reel 5 = .ok (.getfield 9, 3) := by decide +kernel
theorem dX7_reel_8 : decode cX7_reel 8 = .ok (.aload_n 0, 1) := by decide +kernel
theorem dX7_reel_9 : decode cX7_reel 9 = .ok (.getfield 71, 3) := by decide +kernel
theorem dX7_reel_12 : decode cX7_reel 12 = .ok (.invokevirtual 75, 3) := by decide +kernel
theorem dX7_reel_15 : decode cX7_reel 15 = .ok (.bipush (-9), 2) := by decide +kernel
theorem dX7_reel_17 : decode cX7_reel 17 = .ok (.if_icmp .eq 6, 3) := by decide +kernel
theorem dX7_reel_20 : decode cX7_reel 20 = .ok (.bipush (-3), 2) := by decide +kernel
theorem dX7_reel_22 : decode cX7_reel 22 = .ok (.ireturn, 1) := by decide +kernel
theorem dX7_reel_23 : decode cX7_reel 23 = .ok (.aload_n 0, 1) := by decide +kernel
theorem dX7_reel_24 : decode cX7_reel 24 = .ok (.getfield 31, 3) := by decide +kernel
theorem dX7_reel_27 : decode cX7_reel 27 = .ok (.aload_n 0, 1) := by decide +kernel
theorem dX7_reel_28 : decode cX7_reel 28 = .ok (.getfield 16, 3) := by decide +kernel
theorem dX7_reel_31 : decode cX7_reel 31 = .ok (.getfield 79, 3) := by decide +kernel
theorem dX7_reel_34 : decode cX7_reel 34 = .ok (.invokevirtual 82, 3) := by decide +kernel
theorem dX7_reel_37 : decode cX7_reel 37 = .ok (.aload_n 0, 1) := by decide +kernel
theorem dX7_reel_38 : decode cX7_reel 38 = .ok (.getfield 38, 3) := by decide +kernel
theorem dX7_reel_41 : decode cX7_reel 41 = .ok (.aload_n 0, 1) := by decide +kernel
theorem dX7_reel_42 : decode cX7_reel 42 = .ok (.getfield 31, 3) := by decide +kernel
theorem dX7_reel_45 : decode cX7_reel 45 = .ok (.invokevirtual 88, 3) := by decide +kernel
theorem dX7_reel_48 : decode cX7_reel 48 = .ok (.aload_n 0, 1) := by decide +kernel
theorem dX7_reel_49 : decode cX7_reel 49 = .ok (.getfield 23, 3) := by decide +kernel
theorem dX7_reel_52 : decode cX7_reel 52 = .ok (.invokevirtual 91, 3) := by decide +kernel
theorem dX7_reel_55 : decode cX7_reel 55 = .ok (.aload_n 0, 1) := by decide +kernel
theorem dX7_reel_56 : decode cX7_reel 56 = .ok (.getfield 44, 3) := by decide +kernel
theorem dX7_reel_59 : decode cX7_reel 59 = .ok (.invokevirtual 94, 3) := by decide +kernel
theorem dX7_reel_62 : decode cX7_reel 62 = .ok (.iconst 0, 1) := by decide +kernel
theorem dX7_reel_63 : decode cX7_reel 63 = .ok (.istore_n 1, 1) := by decide +kernel
theorem dX7_reel_64 : decode cX7_reel 64 = .ok (.iload_n 1, 1) := by decide +kernel
theorem dX7_reel_65 : decode cX7_reel 65 = .ok (.iconst 2, 1) := by decide +kernel
theorem dX7_reel_66 : decode cX7_reel 66 = .ok (.if_icmp .ge 16, 3) := by decide +kernel
theorem dX7_reel_69 : decode cX7_reel 69 = .ok (.aload_n 0, 1) := by decide +kernel
theorem dX7_reel_70 : decode cX7_reel 70 = .ok (.getfield 67, 3) := by decide +kernel
theorem dX7_reel_73 : decode cX7_reel 73 = .ok (.iload_n 1, 1) := by decide +kernel
theorem dX7_reel_74 : decode cX7_reel 74 = .ok (.iconst 0, 1) := by decide +kernel
theorem dX7_reel_75 : decode cX7_reel 75 = .ok (.bastore, 1) := by decide +kernel
theorem dX7_reel_76 : decode cX7_reel 76 = .ok (.iinc 1 1, 3) := by decide +kernel
theorem dX7_reel_79 : decode cX7_reel 79 = .ok (.goto (-15), 3) := by decide +kernel
theorem dX7_reel_82 : decode cX7_reel 82 = .ok (.aload_n 0, 1) := by decide +kernel
theorem dX7_reel_83 : decode cX7_reel 83 = .ok (.getfield 31, 3) := by decide +kernel
theorem dX7_reel_86 : decode cX7_reel 86 = .ok (.getfield 97, 3) := by decide +kernel
theorem dX7_reel_89 : decode cX7_reel 89 = .ok (.ireturn, 1) := by decide +kernel
theorem dX7_drawing_0 : decode cX7_drawing 0 = .ok (.aload_n 0, 1) := by decide +kernel
theorem dX7_drawing_1 : decode cX7_drawing 1 = .ok (.iload_n 1, 1) := by decide +kernel
theorem dX7_drawing_2 : decode cX7_drawing 2 = .ok (.invokevirtual 100, 3) := by decide +kernel
theorem dX7_drawing_5 : decode cX7_drawing 5 = .ok (.ifCond .ne 5, 3) := by decide +kernel
theorem dX7_drawing_8 : decode cX7_drawing 8 = .ok (.iconst (-1), 1) := by decide +kernel
theorem dX7_drawing_9 : decode cX7_drawing 9 = .ok (.ireturn, 1) := by decide +kernel
theorem dX7_drawing_10 : decode cX7_drawing 10 = .ok (.iload_n 2, 1) := by decide +kernel
theorem dX7_drawing_11 : decode cX7_drawing 11 = .ok (.tableswitch 54 0 2 #[25, 35, 45], 25) := by decide +kernel
theorem dX7_drawing_36 : decode cX7_drawing 36 = .ok (.aload_n 0, 1) := by decide +kernel
theorem dX7_drawing_37 : decode cX7_drawing 37 = .ok (.getfield 38, 3) := by decide +kernel
theorem dX7_drawing_40 : decode cX7_drawing 40 = .ok (.getfield 104, 3) := by decide +kernel
theorem dX7_drawing_43 : decode cX7_drawing 43 = .ok (.iload_n 1, 1) := by decide +kernel
theorem dX7_drawing_44 : decode cX7_drawing 44 = .ok (.iaload, 1) := by decide +kernel
theorem dX7_drawing_45 : decode cX7_drawing 45 = .ok (.ireturn, 1) := by decide +kernel
theorem dX7_drawing_46 : decode cX7_drawing 46 = .ok (.aload_n 0, 1) := by decide +kernel
theorem dX7_drawing_47 : decode cX7_drawing 47 = .ok (.getfield 38, 3) := by decide +kernel
theorem dX7_drawing_50 : decode cX7_drawing 50 = .ok (.getfield 107, 3) := by decide +kernel
theorem dX7_drawing_53 : decode cX7_drawing 53 = .ok (.iload_n 1, 1) := by decide +kernel
theorem dX7_drawing_54 : decode cX7_drawing 54 = .ok (.iaload, 1) := by decide +kernel
theorem dX7_drawing_55 : decode cX7_drawing 55 = .ok (.ireturn, 1) := by decide +kernel
theorem dX7_drawing_56 : decode cX7_drawing 56 = .ok (.aload_n 0, 1) := by decide +kernel
theorem dX7_drawing_57 : decode cX7_drawing 57 = .ok (.getfield 23, 3) := by decide +kernel
theorem dX7_drawing_60 : decode cX7_drawing 60 = .ok (.iload_n 1, 1) := by decide +kernel
theorem dX7_drawing_61 : decode cX7_drawing 61 = .ok (.invokevirtual 110, 3) := by decide +kernel
theorem dX7_drawing_64 : decode cX7_drawing 64 = .ok (.ireturn, 1) := by decide +kernel
theorem dX7_drawing_65 : decode cX7_drawing 65 = .ok (.bipush (-2), 2) := by decide +kernel
theorem dX7_drawing_67 : decode cX7_drawing 67 = .ok (.ireturn, 1) := by decide +kernel
theorem dX7_level_0 : decode cX7_level 0 = .ok (.aload_n 0, 1) := by decide +kernel
theorem dX7_level_1 : decode cX7_level 1 = .ok (.iload_n 1, 1) := by decide +kernel
theorem dX7_level_2 : decode cX7_level 2 = .ok (.invokevirtual 114, 3) := by decide +kernel
theorem dX7_level_5 : decode cX7_level 5 = .ok (.ifCond .ne 5, 3) := by decide +kernel
theorem dX7_level_8 : decode cX7_level 8 = .ok (.iconst (-1), 1) := by decide +kernel
theorem dX7_level_9 : decode cX7_level 9 = .ok (.ireturn, 1) := by decide +kernel
theorem dX7_level_10 : decode cX7_level 10 = .ok (.iload_n 2, 1) := by decide +kernel
theorem dX7_level_11 : decode cX7_level 11 = .ok (.tableswitch 67 0 3 #[29, 39, 49, 58], 29) := by decide +kernel
theorem dX7_level_40 : decode cX7_level 40 = .ok (.aload_n 0, 1) := by decide +kernel
theorem dX7_level_41 : decode cX7_level 41 = .ok (.getfield 31, 3) := by decide +kernel
theorem dX7_level_44 : decode cX7_level 44 = .ok (.getfield 117, 3) := by decide +kernel
theorem dX7_level_47 : decode cX7_level 47 = .ok (.iload_n 1, 1) := by decide +kernel
theorem dX7_level_48 : decode cX7_level 48 = .ok (.iaload, 1) := by decide +kernel
theorem dX7_level_49 : decode cX7_level 49 = .ok (.ireturn, 1) := by decide +kernel
theorem dX7_level_50 : decode cX7_level 50 = .ok (.aload_n 0, 1) := by decide +kernel
theorem dX7_level_51 : decode cX7_level 51 = .ok (.getfield 38, 3) := by decide +kernel
theorem dX7_level_54 : decode cX7_level 54 = .ok (.getfield 120, 3) := by decide +kernel
theorem dX7_level_57 : decode cX7_level 57 = .ok (.iload_n 1, 1) := by decide +kernel
theorem dX7_level_58 : decode cX7_level 58 = .ok (.iaload, 1) := by decide +kernel
theorem dX7_level_59 : decode cX7_level 59 = .ok (.ireturn, 1) := by decide +kernel
theorem dX7_level_60 : decode cX7_level 60 = .ok (.aload_n 0, 1) := by decide +kernel
theorem dX7_level_61 : decode cX7_level 61 = .ok (.getfield 23, 3) := by decide +kernel
theorem dX7_level_64 : decode cX7_level 64 = .ok (.iload_n 1, 1) := by decide +kernel
theorem dX7_level_65 : decode cX7_level 65 = .ok (.invokevirtual 123, 3) := by decide +kernel
theorem dX7_level_68 : decode cX7_level 68 = .ok (.ireturn, 1) := by decide +kernel
theorem dX7_level_69 : decode cX7_level 69 = .ok (.aload_n 0, 1) := by decide +kernel
theorem dX7_level_70 : decode cX7_level 70 = .ok (.getfield 23, 3) := by decide +kernel
theorem dX7_level_73 : decode cX7_level 73 = .ok (.iload_n 1, 1) := by decide +kernel
theorem dX7_level_74 : decode cX7_level 74 = .ok (.invokevirtual 126, 3) := by decide +kernel
theorem dX7_level_77 : decode cX7_level 77 = .ok (.ireturn, 1) := by decide +kernel
theorem dX7_level_78 : decode cX7_level 78 = .ok (.bipush (-2), 2) := by decide +kernel
theorem dX7_level_80 : decode cX7_level 80 = .ok (.ireturn, 1) := by decide +kernel
theorem dX7_where_0 : decode cX7_where 0 = .ok (.aload_n 0, 1) := by decide +kernel
theorem dX7_where_1 : decode cX7_where 1 = .ok (.iload_n 1, 1) := by decide +kernel
theorem dX7_where_2 : decode cX7_where 2 = .ok (.invokevirtual 129, 3) := by decide +kernel
theorem dX7_where_5 : decode cX7_where 5 = .ok (.ifCond .ne 5, 3) := by decide +kernel
theorem dX7_where_8 : decode cX7_where 8 = .ok (.iconst (-1), 1) := by decide +kernel
theorem dX7_where_9 : decode cX7_where 9 = .ok (.ireturn, 1) := by decide +kernel
theorem dX7_where_10 : decode cX7_where 10 = .ok (.iload_n 2, 1) := by decide +kernel
theorem dX7_where_11 : decode cX7_where 11 = .ok (.invokestatic 132, 3) := by decide +kernel
theorem dX7_where_14 : decode cX7_where 14 = .ok (.ifCond .ne 6, 3) := by decide +kernel
theorem dX7_where_17 : decode cX7_where 17 = .ok (.bipush (-2), 2) := by decide +kernel
theorem dX7_where_19 : decode cX7_where 19 = .ok (.ireturn, 1) := by decide +kernel
theorem dX7_where_20 : decode cX7_where 20 = .ok (.sipush 1000, 3) := by decide +kernel
theorem dX7_where_23 : decode cX7_where 23 = .ok (.aload_n 0, 1) := by decide +kernel
theorem dX7_where_24 : decode cX7_where 24 = .ok (.getfield 38, 3) := by decide +kernel
theorem dX7_where_27 : decode cX7_where 27 = .ok (.iload_n 1, 1) := by decide +kernel
theorem dX7_where_28 : decode cX7_where 28 = .ok (.invokestatic 135, 3) := by decide +kernel
theorem dX7_where_31 : decode cX7_where 31 = .ok (.iload_n 2, 1) := by decide +kernel
theorem dX7_where_32 : decode cX7_where 32 = .ok (.invokevirtual 138, 3) := by decide +kernel
theorem dX7_where_35 : decode cX7_where 35 = .ok (.iadd, 1) := by decide +kernel
theorem dX7_where_36 : decode cX7_where 36 = .ok (.ireturn, 1) := by decide +kernel
theorem dX7_redraw_0 : decode cX7_redraw 0 = .ok (.aload_n 0, 1) := by decide +kernel
theorem dX7_redraw_1 : decode cX7_redraw 1 = .ok (.iload_n 1, 1) := by decide +kernel
theorem dX7_redraw_2 : decode cX7_redraw 2 = .ok (.invokevirtual 100, 3) := by decide +kernel
theorem dX7_redraw_5 : decode cX7_redraw 5 = .ok (.ifCond .ne 5, 3) := by decide +kernel
theorem dX7_redraw_8 : decode cX7_redraw 8 = .ok (.iconst (-1), 1) := by decide +kernel
theorem dX7_redraw_9 : decode cX7_redraw 9 = .ok (.ireturn, 1) := by decide +kernel
theorem dX7_redraw_10 : decode cX7_redraw 10 = .ok (.iload_n 2, 1) := by decide +kernel
theorem dX7_redraw_11 : decode cX7_redraw 11 = .ok (.ifCond .lt 19, 3) := by decide +kernel
theorem dX7_redraw_14 : decode cX7_redraw 14 = .ok (.iload_n 2, 1) := by decide +kernel
theorem dX7_redraw_15 : decode cX7_redraw 15 = .ok (.bipush 9, 2) := by decide +kernel
theorem dX7_redraw_17 : decode cX7_redraw 17 = .ok (.if_icmp .gt 13, 3) := by decide +kernel
theorem dX7_redraw_20 : decode cX7_redraw 20 = .ok (.iload_n 3, 1) := by decide +kernel
theorem dX7_redraw_21 : decode cX7_redraw 21 = .ok (.iconst 1, 1) := by decide +kernel
theorem dX7_redraw_22 : decode cX7_redraw 22 = .ok (.if_icmp .lt 8, 3) := by decide +kernel
theorem dX7_redraw_25 : decode cX7_redraw 25 = .ok (.iload_n 3, 1) := by decide +kernel
theorem dX7_redraw_26 : decode cX7_redraw 26 = .ok (.iconst 5, 1) := by decide +kernel
theorem dX7_redraw_27 : decode cX7_redraw 27 = .ok (.if_icmp .le 6, 3) := by decide +kernel
theorem dX7_redraw_30 : decode cX7_redraw 30 = .ok (.bipush (-2), 2) := by decide +kernel
theorem dX7_redraw_32 : decode cX7_redraw 32 = .ok (.ireturn, 1) := by decide +kernel
theorem dX7_redraw_33 : decode cX7_redraw 33 = .ok (.aload_n 0, 1) := by decide +kernel
theorem dX7_redraw_34 : decode cX7_redraw 34 = .ok (.getfield 38, 3) := by decide +kernel
theorem dX7_redraw_37 : decode cX7_redraw 37 = .ok (.getfield 104, 3) := by decide +kernel
theorem dX7_redraw_40 : decode cX7_redraw 40 = .ok (.iload_n 1, 1) := by decide +kernel
theorem dX7_redraw_41 : decode cX7_redraw 41 = .ok (.iaload, 1) := by decide +kernel
theorem dX7_redraw_42 : decode cX7_redraw 42 = .ok (.istore 4, 2) := by decide +kernel
theorem dX7_redraw_44 : decode cX7_redraw 44 = .ok (.aload_n 0, 1) := by decide +kernel
theorem dX7_redraw_45 : decode cX7_redraw 45 = .ok (.getfield 38, 3) := by decide +kernel
theorem dX7_redraw_48 : decode cX7_redraw 48 = .ok (.getfield 107, 3) := by decide +kernel
theorem dX7_redraw_51 : decode cX7_redraw 51 = .ok (.iload_n 1, 1) := by decide +kernel
theorem dX7_redraw_52 : decode cX7_redraw 52 = .ok (.iaload, 1) := by decide +kernel
theorem dX7_redraw_53 : decode cX7_redraw 53 = .ok (.istore 5, 2) := by decide +kernel
theorem dX7_redraw_55 : decode cX7_redraw 55 = .ok (.aload_n 0, 1) := by decide +kernel
theorem dX7_redraw_56 : decode cX7_redraw 56 = .ok (.getfield 44, 3) := by decide +kernel
theorem dX7_redraw_59 : decode cX7_redraw 59 = .ok (.iconst 0, 1) := by decide +kernel
theorem dX7_redraw_60 : decode cX7_redraw 60 = .ok (.iload_n 1, 1) := by decide +kernel
theorem dX7_redraw_61 : decode cX7_redraw 61 = .ok (.iload 4, 2) := by decide +kernel
theorem dX7_redraw_63 : decode cX7_redraw 63 = .ok (.iload 5, 2) := by decide +kernel
theorem dX7_redraw_65 : decode cX7_redraw 65 = .ok (.iconst 0, 1) := by decide +kernel
theorem dX7_redraw_66 : decode cX7_redraw 66 = .ok (.invokevirtual 142, 3) := by decide +kernel
theorem dX7_redraw_69 : decode cX7_redraw 69 = .ok (.aload_n 0, 1) := by decide +kernel
theorem dX7_redraw_70 : decode cX7_redraw 70 = .ok (.getfield 38, 3) := by decide +kernel
theorem dX7_redraw_73 : decode cX7_redraw 73 = .ok (.getfield 104, 3) := by decide +kernel
theorem dX7_redraw_76 : decode cX7_redraw 76 = .ok (.iload_n 1, 1) := by decide +kernel
theorem dX7_redraw_77 : decode cX7_redraw 77 = .ok (.iload_n 2, 1) := by decide +kernel
theorem dX7_redraw_78 : decode cX7_redraw 78 = .ok (.iastore, 1) := by decide +kernel
theorem dX7_redraw_79 : decode cX7_redraw 79 = .ok (.aload_n 0, 1) := by decide +kernel
theorem dX7_redraw_80 : decode cX7_redraw 80 = .ok (.getfield 38, 3) := by decide +kernel
theorem dX7_redraw_83 : decode cX7_redraw 83 = .ok (.getfield 107, 3) := by decide +kernel
theorem dX7_redraw_86 : decode cX7_redraw 86 = .ok (.iload_n 1, 1) := by decide +kernel
theorem dX7_redraw_87 : decode cX7_redraw 87 = .ok (.iload_n 3, 1) := by decide +kernel
theorem dX7_redraw_88 : decode cX7_redraw 88 = .ok (.iastore, 1) := by decide +kernel
theorem dX7_redraw_89 : decode cX7_redraw 89 = .ok (.bipush 10, 2) := by decide +kernel
theorem dX7_redraw_91 : decode cX7_redraw 91 = .ok (.iload 4, 2) := by decide +kernel
theorem dX7_redraw_93 : decode cX7_redraw 93 = .ok (.imul, 1) := by decide +kernel
theorem dX7_redraw_94 : decode cX7_redraw 94 = .ok (.iload 5, 2) := by decide +kernel
theorem dX7_redraw_96 : decode cX7_redraw 96 = .ok (.iadd, 1) := by decide +kernel
theorem dX7_redraw_97 : decode cX7_redraw 97 = .ok (.ireturn, 1) := by decide +kernel
theorem dX7_delay_0 : decode cX7_delay 0 = .ok (.aload_n 0, 1) := by decide +kernel
theorem dX7_delay_1 : decode cX7_delay 1 = .ok (.iload_n 1, 1) := by decide +kernel
theorem dX7_delay_2 : decode cX7_delay 2 = .ok (.invokevirtual 114, 3) := by decide +kernel
theorem dX7_delay_5 : decode cX7_delay 5 = .ok (.ifCond .ne 5, 3) := by decide +kernel
theorem dX7_delay_8 : decode cX7_delay 8 = .ok (.iconst (-1), 1) := by decide +kernel
theorem dX7_delay_9 : decode cX7_delay 9 = .ok (.ireturn, 1) := by decide +kernel
theorem dX7_delay_10 : decode cX7_delay 10 = .ok (.iload_n 2, 1) := by decide +kernel
theorem dX7_delay_11 : decode cX7_delay 11 = .ok (.ifCond .lt 9, 3) := by decide +kernel
theorem dX7_delay_14 : decode cX7_delay 14 = .ok (.iload_n 2, 1) := by decide +kernel
theorem dX7_delay_15 : decode cX7_delay 15 = .ok (.bipush 9, 2) := by decide +kernel
theorem dX7_delay_17 : decode cX7_delay 17 = .ok (.if_icmp .le 6, 3) := by decide +kernel
theorem dX7_delay_20 : decode cX7_delay 20 = .ok (.bipush (-2), 2) := by decide +kernel
theorem dX7_delay_22 : decode cX7_delay 22 = .ok (.ireturn, 1) := by decide +kernel
theorem dX7_delay_23 : decode cX7_delay 23 = .ok (.aload_n 0, 1) := by decide +kernel
theorem dX7_delay_24 : decode cX7_delay 24 = .ok (.getfield 38, 3) := by decide +kernel
theorem dX7_delay_27 : decode cX7_delay 27 = .ok (.getfield 120, 3) := by decide +kernel
theorem dX7_delay_30 : decode cX7_delay 30 = .ok (.iload_n 1, 1) := by decide +kernel
theorem dX7_delay_31 : decode cX7_delay 31 = .ok (.iaload, 1) := by decide +kernel
theorem dX7_delay_32 : decode cX7_delay 32 = .ok (.istore_n 3, 1) := by decide +kernel
theorem dX7_delay_33 : decode cX7_delay 33 = .ok (.aload_n 0, 1) := by decide +kernel
theorem dX7_delay_34 : decode cX7_delay 34 = .ok (.getfield 44, 3) := by decide +kernel
theorem dX7_delay_37 : decode cX7_delay 37 = .ok (.iconst 1, 1) := by decide +kernel
theorem dX7_delay_38 : decode cX7_delay 38 = .ok (.iload_n 1, 1) := by decide +kernel
theorem dX7_delay_39 : decode cX7_delay 39 = .ok (.iload_n 3, 1) := by decide +kernel
theorem dX7_delay_40 : decode cX7_delay 40 = .ok (.iconst 0, 1) := by decide +kernel
theorem dX7_delay_41 : decode cX7_delay 41 = .ok (.iconst 0, 1) := by decide +kernel
theorem dX7_delay_42 : decode cX7_delay 42 = .ok (.invokevirtual 142, 3) := by decide +kernel
theorem dX7_delay_45 : decode cX7_delay 45 = .ok (.aload_n 0, 1) := by decide +kernel
theorem dX7_delay_46 : decode cX7_delay 46 = .ok (.getfield 38, 3) := by decide +kernel
theorem dX7_delay_49 : decode cX7_delay 49 = .ok (.getfield 120, 3) := by decide +kernel
theorem dX7_delay_52 : decode cX7_delay 52 = .ok (.iload_n 1, 1) := by decide +kernel
theorem dX7_delay_53 : decode cX7_delay 53 = .ok (.iload_n 2, 1) := by decide +kernel
theorem dX7_delay_54 : decode cX7_delay 54 = .ok (.iastore, 1) := by decide +kernel
theorem dX7_delay_55 : decode cX7_delay 55 = .ok (.iload_n 3, 1) := by decide +kernel
theorem dX7_delay_56 : decode cX7_delay 56 = .ok (.ireturn, 1) := by decide +kernel
theorem dX7_pan_0 : decode cX7_pan 0 = .ok (.aload_n 0, 1) := by decide +kernel
theorem dX7_pan_1 : decode cX7_pan 1 = .ok (.iload_n 1, 1) := by decide +kernel
theorem dX7_pan_2 : decode cX7_pan 2 = .ok (.invokevirtual 129, 3) := by decide +kernel
theorem dX7_pan_5 : decode cX7_pan 5 = .ok (.ifCond .ne 5, 3) := by decide +kernel
theorem dX7_pan_8 : decode cX7_pan 8 = .ok (.iconst (-1), 1) := by decide +kernel
theorem dX7_pan_9 : decode cX7_pan 9 = .ok (.ireturn, 1) := by decide +kernel
theorem dX7_pan_10 : decode cX7_pan 10 = .ok (.iload_n 2, 1) := by decide +kernel
theorem dX7_pan_11 : decode cX7_pan 11 = .ok (.bipush (-9), 2) := by decide +kernel
theorem dX7_pan_13 : decode cX7_pan 13 = .ok (.if_icmp .lt 33, 3) := by decide +kernel
theorem dX7_pan_16 : decode cX7_pan 16 = .ok (.iload_n 2, 1) := by decide +kernel
theorem dX7_pan_17 : decode cX7_pan 17 = .ok (.bipush 9, 2) := by decide +kernel
theorem dX7_pan_19 : decode cX7_pan 19 = .ok (.if_icmp .gt 27, 3) := by decide +kernel
theorem dX7_pan_22 : decode cX7_pan 22 = .ok (.iload_n 3, 1) := by decide +kernel
theorem dX7_pan_23 : decode cX7_pan 23 = .ok (.bipush (-3), 2) := by decide +kernel
theorem dX7_pan_25 : decode cX7_pan 25 = .ok (.if_icmp .lt 21, 3) := by decide +kernel
theorem dX7_pan_28 : decode cX7_pan 28 = .ok (.iload_n 3, 1) := by decide +kernel
theorem dX7_pan_29 : decode cX7_pan 29 = .ok (.iconst 3, 1) := by decide +kernel
theorem dX7_pan_30 : decode cX7_pan 30 = .ok (.if_icmp .gt 16, 3) := by decide +kernel
theorem dX7_pan_33 : decode cX7_pan 33 = .ok (.iload 4, 2) := by decide +kernel
theorem dX7_pan_35 : decode cX7_pan 35 = .ok (.iconst 1, 1) := by decide +kernel
theorem dX7_pan_36 : decode cX7_pan 36 = .ok (.if_icmp .lt 10, 3) := by decide +kernel
theorem dX7_pan_39 : decode cX7_pan 39 = .ok (.iload 4, 2) := by decide +kernel
theorem dX7_pan_41 : decode cX7_pan 41 = .ok (.bipush 9, 2) := by decide +kernel
theorem dX7_pan_43 : decode cX7_pan 43 = .ok (.if_icmp .le 6, 3) := by decide +kernel
theorem dX7_pan_46 : decode cX7_pan 46 = .ok (.bipush (-2), 2) := by decide +kernel
theorem dX7_pan_48 : decode cX7_pan 48 = .ok (.ireturn, 1) := by decide +kernel
theorem dX7_pan_49 : decode cX7_pan 49 = .ok (.iload_n 1, 1) := by decide +kernel
theorem dX7_pan_50 : decode cX7_pan 50 = .ok (.invokestatic 135, 3) := by decide +kernel
theorem dX7_pan_53 : decode cX7_pan 53 = .ok (.istore 5, 2) := by decide +kernel
theorem dX7_pan_55 : decode cX7_pan 55 = .ok (.aload_n 0, 1) := by decide +kernel
theorem dX7_pan_56 : decode cX7_pan 56 = .ok (.getfield 44, 3) := by decide +kernel
theorem dX7_pan_59 : decode cX7_pan 59 = .ok (.iconst 2, 1) := by decide +kernel
theorem dX7_pan_60 : decode cX7_pan 60 = .ok (.iload 5, 2) := by decide +kernel
theorem dX7_pan_62 : decode cX7_pan 62 = .ok (.aload_n 0, 1) := by decide +kernel
theorem dX7_pan_63 : decode cX7_pan 63 = .ok (.getfield 38, 3) := by decide +kernel
theorem dX7_pan_66 : decode cX7_pan 66 = .ok (.getfield 146, 3) := by decide +kernel
theorem dX7_pan_69 : decode cX7_pan 69 = .ok (.iload 5, 2) := by decide +kernel
theorem dX7_pan_71 : decode cX7_pan 71 = .ok (.iaload, 1) := by decide +kernel
theorem dX7_pan_72 : decode cX7_pan 72 = .ok (.aload_n 0, 1) := by decide +kernel
theorem dX7_pan_73 : decode cX7_pan 73 = .ok (.getfield 38, 3) := by decide +kernel
theorem dX7_pan_76 : decode cX7_pan 76 = .ok (.getfield 149, 3) := by decide +kernel
theorem dX7_pan_79 : decode cX7_pan 79 = .ok (.iload 5, 2) := by decide +kernel
theorem dX7_pan_81 : decode cX7_pan 81 = .ok (.iaload, 1) := by decide +kernel
theorem dX7_pan_82 : decode cX7_pan 82 = .ok (.aload_n 0, 1) := by decide +kernel
theorem dX7_pan_83 : decode cX7_pan 83 = .ok (.getfield 38, 3) := by decide +kernel
theorem dX7_pan_86 : decode cX7_pan 86 = .ok (.getfield 152, 3) := by decide +kernel
theorem dX7_pan_89 : decode cX7_pan 89 = .ok (.iload 5, 2) := by decide +kernel
theorem dX7_pan_91 : decode cX7_pan 91 = .ok (.iaload, 1) := by decide +kernel
theorem dX7_pan_92 : decode cX7_pan 92 = .ok (.invokevirtual 142, 3) := by decide +kernel
theorem dX7_pan_95 : decode cX7_pan 95 = .ok (.aload_n 0, 1) := by decide +kernel
theorem dX7_pan_96 : decode cX7_pan 96 = .ok (.getfield 38, 3) := by decide +kernel
theorem dX7_pan_99 : decode cX7_pan 99 = .ok (.iload 5, 2) := by decide +kernel
theorem dX7_pan_101 : decode cX7_pan 101 = .ok (.iload_n 2, 1) := by decide +kernel
theorem dX7_pan_102 : decode cX7_pan 102 = .ok (.iload_n 3, 1) := by decide +kernel
theorem dX7_pan_103 : decode cX7_pan 103 = .ok (.iload 4, 2) := by decide +kernel
theorem dX7_pan_105 : decode cX7_pan 105 = .ok (.invokevirtual 155, 3) := by decide +kernel
theorem dX7_pan_108 : decode cX7_pan 108 = .ok (.sipush 1000, 3) := by decide +kernel
theorem dX7_pan_111 : decode cX7_pan 111 = .ok (.aload_n 0, 1) := by decide +kernel
theorem dX7_pan_112 : decode cX7_pan 112 = .ok (.getfield 38, 3) := by decide +kernel
theorem dX7_pan_115 : decode cX7_pan 115 = .ok (.iload 5, 2) := by decide +kernel
theorem dX7_pan_117 : decode cX7_pan 117 = .ok (.bipush 47, 2) := by decide +kernel
theorem dX7_pan_119 : decode cX7_pan 119 = .ok (.invokevirtual 138, 3) := by decide +kernel
theorem dX7_pan_122 : decode cX7_pan 122 = .ok (.iadd, 1) := by decide +kernel
theorem dX7_pan_123 : decode cX7_pan 123 = .ok (.ireturn, 1) := by decide +kernel
theorem dX7_swap_0 : decode cX7_swap 0 = .ok (.iload_n 1, 1) := by decide +kernel
theorem dX7_swap_1 : decode cX7_swap 1 = .ok (.invokestatic 132, 3) := by decide +kernel
theorem dX7_swap_4 : decode cX7_swap 4 = .ok (.ifCond .eq 14, 3) := by decide +kernel
theorem dX7_swap_7 : decode cX7_swap 7 = .ok (.aload_n 0, 1) := by decide +kernel
theorem dX7_swap_8 : decode cX7_swap 8 = .ok (.getfield 23, 3) := by decide +kernel
theorem dX7_swap_11 : decode cX7_swap 11 = .ok (.iload_n 2, 1) := by decide +kernel
theorem dX7_swap_12 : decode cX7_swap 12 = .ok (.invokevirtual 159, 3) := by decide +kernel
theorem dX7_swap_15 : decode cX7_swap 15 = .ok (.ifCond .ne 6, 3) := by decide +kernel
theorem dX7_swap_18 : decode cX7_swap 18 = .ok (.bipush (-2), 2) := by decide +kernel
theorem dX7_swap_20 : decode cX7_swap 20 = .ok (.ireturn, 1) := by decide +kernel
theorem dX7_swap_21 : decode cX7_swap 21 = .ok (.aload_n 0, 1) := by decide +kernel
theorem dX7_swap_22 : decode cX7_swap 22 = .ok (.getfield 38, 3) := by decide +kernel
theorem dX7_swap_25 : decode cX7_swap 25 = .ok (.getfield 162, 3) := by decide +kernel
theorem dX7_swap_28 : decode cX7_swap 28 = .ok (.iconst 4, 1) := by decide +kernel
theorem dX7_swap_29 : decode cX7_swap 29 = .ok (.if_icmp .lt 6, 3) := by decide +kernel
theorem dX7_swap_32 : decode cX7_swap 32 = .ok (.bipush (-4), 2) := by decide +kernel
theorem dX7_swap_34 : decode cX7_swap 34 = .ok (.ireturn, 1) := by decide +kernel
theorem dX7_swap_35 : decode cX7_swap 35 = .ok (.aload_n 0, 1) := by decide +kernel
theorem dX7_swap_36 : decode cX7_swap 36 = .ok (.getfield 44, 3) := by decide +kernel
theorem dX7_swap_39 : decode cX7_swap 39 = .ok (.iconst 3, 1) := by decide +kernel
theorem dX7_swap_40 : decode cX7_swap 40 = .ok (.iconst 0, 1) := by decide +kernel
theorem dX7_swap_41 : decode cX7_swap 41 = .ok (.iconst 0, 1) := by decide +kernel
theorem dX7_swap_42 : decode cX7_swap 42 = .ok (.iconst 0, 1) := by decide +kernel
theorem dX7_swap_43 : decode cX7_swap 43 = .ok (.iconst 0, 1) := by decide +kernel
theorem dX7_swap_44 : decode cX7_swap 44 = .ok (.invokevirtual 142, 3) := by decide +kernel
theorem dX7_swap_47 : decode cX7_swap 47 = .ok (.aload_n 0, 1) := by decide +kernel
theorem dX7_swap_48 : decode cX7_swap 48 = .ok (.getfield 38, 3) := by decide +kernel
theorem dX7_swap_51 : decode cX7_swap 51 = .ok (.iload_n 1, 1) := by decide +kernel
theorem dX7_swap_52 : decode cX7_swap 52 = .ok (.iload_n 2, 1) := by decide +kernel
theorem dX7_swap_53 : decode cX7_swap 53 = .ok (.invokevirtual 165, 3) := by decide +kernel
theorem dX7_swap_56 : decode cX7_swap 56 = .ok (.aload_n 0, 1) := by decide +kernel
theorem dX7_swap_57 : decode cX7_swap 57 = .ok (.getfield 38, 3) := by decide +kernel
theorem dX7_swap_60 : decode cX7_swap 60 = .ok (.getfield 162, 3) := by decide +kernel
theorem dX7_swap_63 : decode cX7_swap 63 = .ok (.ireturn, 1) := by decide +kernel
theorem dX7_back_0 : decode cX7_back 0 = .ok (.aload_n 0, 1) := by decide +kernel
theorem dX7_back_1 : decode cX7_back 1 = .ok (.getfield 38, 3) := by decide +kernel
theorem dX7_back_4 : decode cX7_back 4 = .ok (.getfield 162, 3) := by decide +kernel
theorem dX7_back_7 : decode cX7_back 7 = .ok (.iconst 1, 1) := by decide +kernel
theorem dX7_back_8 : decode cX7_back 8 = .ok (.isub, 1) := by decide +kernel
theorem dX7_back_9 : decode cX7_back 9 = .ok (.istore_n 1, 1) := by decide +kernel
theorem dX7_back_10 : decode cX7_back 10 = .ok (.iload_n 1, 1) := by decide +kernel
theorem dX7_back_11 : decode cX7_back 11 = .ok (.ifCond .ge 6, 3) := by decide +kernel
theorem dX7_back_14 : decode cX7_back 14 = .ok (.bipush (-3), 2) := by decide +kernel
theorem dX7_back_16 : decode cX7_back 16 = .ok (.ireturn, 1) := by decide +kernel
theorem dX7_back_17 : decode cX7_back 17 = .ok (.aload_n 0, 1) := by decide +kernel
theorem dX7_back_18 : decode cX7_back 18 = .ok (.getfield 44, 3) := by decide +kernel
theorem dX7_back_21 : decode cX7_back 21 = .ok (.iconst 4, 1) := by decide +kernel
theorem dX7_back_22 : decode cX7_back 22 = .ok (.iconst 0, 1) := by decide +kernel
theorem dX7_back_23 : decode cX7_back 23 = .ok (.aload_n 0, 1) := by decide +kernel
theorem dX7_back_24 : decode cX7_back 24 = .ok (.getfield 38, 3) := by decide +kernel
theorem dX7_back_27 : decode cX7_back 27 = .ok (.getfield 169, 3) := by decide +kernel
theorem dX7_back_30 : decode cX7_back 30 = .ok (.iload_n 1, 1) := by decide +kernel
theorem dX7_back_31 : decode cX7_back 31 = .ok (.iaload, 1) := by decide +kernel
theorem dX7_back_32 : decode cX7_back 32 = .ok (.aload_n 0, 1) := by decide +kernel
theorem dX7_back_33 : decode cX7_back 33 = .ok (.getfield 38, 3) := by decide +kernel
theorem dX7_back_36 : decode cX7_back 36 = .ok (.getfield 172, 3) := by decide +kernel
theorem dX7_back_39 : decode cX7_back 39 = .ok (.iload_n 1, 1) := by decide +kernel
theorem dX7_back_40 : decode cX7_back 40 = .ok (.iaload, 1) := by decide +kernel
theorem dX7_back_41 : decode cX7_back 41 = .ok (.iconst 0, 1) := by decide +kernel
theorem dX7_back_42 : decode cX7_back 42 = .ok (.invokevirtual 142, 3) := by decide +kernel
theorem dX7_back_45 : decode cX7_back 45 = .ok (.aload_n 0, 1) := by decide +kernel
theorem dX7_back_46 : decode cX7_back 46 = .ok (.getfield 38, 3) := by decide +kernel
theorem dX7_back_49 : decode cX7_back 49 = .ok (.invokevirtual 175, 3) := by decide +kernel
theorem dX7_back_52 : decode cX7_back 52 = .ok (.pop, 1) := by decide +kernel
theorem dX7_back_53 : decode cX7_back 53 = .ok (.aload_n 0, 1) := by decide +kernel
theorem dX7_back_54 : decode cX7_back 54 = .ok (.getfield 38, 3) := by decide +kernel
theorem dX7_back_57 : decode cX7_back 57 = .ok (.getfield 162, 3) := by decide +kernel
theorem dX7_back_60 : decode cX7_back 60 = .ok (.ireturn, 1) := by decide +kernel
theorem dX7_undo_0 : decode cX7_undo 0 = .ok (.aload_n 0, 1) := by decide +kernel
theorem dX7_undo_1 : decode cX7_undo 1 = .ok (.getfield 44, 3) := by decide +kernel
theorem dX7_undo_4 : decode cX7_undo 4 = .ok (.getfield 179, 3) := by decide +kernel
theorem dX7_undo_7 : decode cX7_undo 7 = .ok (.ifCond .ne 6, 3) := by decide +kernel
theorem dX7_undo_10 : decode cX7_undo 10 = .ok (.bipush (-3), 2) := by decide +kernel
theorem dX7_undo_12 : decode cX7_undo 12 = .ok (.ireturn, 1) := by decide +kernel
theorem dX7_undo_13 : decode cX7_undo 13 = .ok (.aload_n 0, 1) := by decide +kernel
theorem dX7_undo_14 : decode cX7_undo 14 = .ok (.getfield 44, 3) := by decide +kernel
theorem dX7_undo_17 : decode cX7_undo 17 = .ok (.aload_n 0, 1) := by decide +kernel
theorem dX7_undo_18 : decode cX7_undo 18 = .ok (.getfield 38, 3) := by decide +kernel
theorem dX7_undo_21 : decode cX7_undo 21 = .ok (.invokevirtual 182, 3) := by decide +kernel
theorem dX7_undo_24 : decode cX7_undo 24 = .ok (.aload_n 0, 1) := by decide +kernel
theorem dX7_undo_25 : decode cX7_undo 25 = .ok (.getfield 44, 3) := by decide +kernel
theorem dX7_undo_28 : decode cX7_undo 28 = .ok (.getfield 179, 3) := by decide +kernel
theorem dX7_undo_31 : decode cX7_undo 31 = .ok (.ireturn, 1) := by decide +kernel
theorem dX7_exposed_0 : decode cX7_exposed 0 = .ok (.aload_n 0, 1) := by decide +kernel
theorem dX7_exposed_1 : decode cX7_exposed 1 = .ok (.iload_n 1, 1) := by decide +kernel
theorem dX7_exposed_2 : decode cX7_exposed 2 = .ok (.invokevirtual 114, 3) := by decide +kernel
theorem dX7_exposed_5 : decode cX7_exposed 5 = .ok (.ifCond .ne 5, 3) := by decide +kernel
theorem dX7_exposed_8 : decode cX7_exposed 8 = .ok (.iconst (-1), 1) := by decide +kernel
theorem dX7_exposed_9 : decode cX7_exposed 9 = .ok (.ireturn, 1) := by decide +kernel
theorem dX7_exposed_10 : decode cX7_exposed 10 = .ok (.iload_n 2, 1) := by decide +kernel
theorem dX7_exposed_11 : decode cX7_exposed 11 = .ok (.invokestatic 132, 3) := by decide +kernel
theorem dX7_exposed_14 : decode cX7_exposed 14 = .ok (.ifCond .ne 6, 3) := by decide +kernel
theorem dX7_exposed_17 : decode cX7_exposed 17 = .ok (.bipush (-2), 2) := by decide +kernel
theorem dX7_exposed_19 : decode cX7_exposed 19 = .ok (.ireturn, 1) := by decide +kernel
theorem dX7_exposed_20 : decode cX7_exposed 20 = .ok (.aload_n 0, 1) := by decide +kernel
theorem dX7_exposed_21 : decode cX7_exposed 21 = .ok (.getfield 23, 3) := by decide +kernel
theorem dX7_exposed_24 : decode cX7_exposed 24 = .ok (.iload_n 1, 1) := by decide +kernel
theorem dX7_exposed_25 : decode cX7_exposed 25 = .ok (.iload_n 2, 1) := by decide +kernel
theorem dX7_exposed_26 : decode cX7_exposed 26 = .ok (.invokevirtual 186, 3) := by decide +kernel
theorem dX7_exposed_29 : decode cX7_exposed 29 = .ok (.ireturn, 1) := by decide +kernel
theorem dX7_order_0 : decode cX7_order 0 = .ok (.iload_n 1, 1) := by decide +kernel
theorem dX7_order_1 : decode cX7_order 1 = .ok (.invokestatic 132, 3) := by decide +kernel
theorem dX7_order_4 : decode cX7_order 4 = .ok (.ifCond .ne 6, 3) := by decide +kernel
theorem dX7_order_7 : decode cX7_order 7 = .ok (.bipush (-2), 2) := by decide +kernel
theorem dX7_order_9 : decode cX7_order 9 = .ok (.ireturn, 1) := by decide +kernel
theorem dX7_order_10 : decode cX7_order 10 = .ok (.aload_n 0, 1) := by decide +kernel
theorem dX7_order_11 : decode cX7_order 11 = .ok (.getfield 23, 3) := by decide +kernel
theorem dX7_order_14 : decode cX7_order 14 = .ok (.iload_n 1, 1) := by decide +kernel
theorem dX7_order_15 : decode cX7_order 15 = .ok (.invokevirtual 189, 3) := by decide +kernel
theorem dX7_order_18 : decode cX7_order 18 = .ok (.ireturn, 1) := by decide +kernel
theorem dX7_look_0 : decode cX7_look 0 = .ok (.iload_n 1, 1) := by decide +kernel
theorem dX7_look_1 : decode cX7_look 1 = .ok (.invokestatic 132, 3) := by decide +kernel
theorem dX7_look_4 : decode cX7_look 4 = .ok (.ifCond .eq 10, 3) := by decide +kernel
theorem dX7_look_7 : decode cX7_look 7 = .ok (.iload_n 2, 1) := by decide +kernel
theorem dX7_look_8 : decode cX7_look 8 = .ok (.invokestatic 192, 3) := by decide +kernel
theorem dX7_look_11 : decode cX7_look 11 = .ok (.ifCond .ne 6, 3) := by decide +kernel
theorem dX7_look_14 : decode cX7_look 14 = .ok (.bipush (-2), 2) := by decide +kernel
theorem dX7_look_16 : decode cX7_look 16 = .ok (.ireturn, 1) := by decide +kernel
theorem dX7_look_17 : decode cX7_look 17 = .ok (.aload_n 0, 1) := by decide +kernel
theorem dX7_look_18 : decode cX7_look 18 = .ok (.getfield 23, 3) := by decide +kernel
theorem dX7_look_21 : decode cX7_look 21 = .ok (.iload_n 1, 1) := by decide +kernel
theorem dX7_look_22 : decode cX7_look 22 = .ok (.iload_n 2, 1) := by decide +kernel
theorem dX7_look_23 : decode cX7_look 23 = .ok (.iconst (-1), 1) := by decide +kernel
theorem dX7_look_24 : decode cX7_look 24 = .ok (.invokevirtual 195, 3) := by decide +kernel
theorem dX7_look_27 : decode cX7_look 27 = .ok (.ireturn, 1) := by decide +kernel
theorem dX7_ask_0 : decode cX7_ask 0 = .ok (.iload_n 1, 1) := by decide +kernel
theorem dX7_ask_1 : decode cX7_ask 1 = .ok (.lookupswitch 43 #[(0, 27), (1, 35)], 27) := by decide +kernel
theorem dX7_ask_28 : decode cX7_ask 28 = .ok (.aload_n 0, 1) := by decide +kernel
theorem dX7_ask_29 : decode cX7_ask 29 = .ok (.getfield 23, 3) := by decide +kernel
theorem dX7_ask_32 : decode cX7_ask 32 = .ok (.invokevirtual 199, 3) := by decide +kernel
theorem dX7_ask_35 : decode cX7_ask 35 = .ok (.ireturn, 1) := by decide +kernel
theorem dX7_ask_36 : decode cX7_ask 36 = .ok (.aload_n 0, 1) := by decide +kernel
theorem dX7_ask_37 : decode cX7_ask 37 = .ok (.getfield 23, 3) := by decide +kernel
theorem dX7_ask_40 : decode cX7_ask 40 = .ok (.invokevirtual 203, 3) := by decide +kernel
theorem dX7_ask_43 : decode cX7_ask 43 = .ok (.ireturn, 1) := by decide +kernel
theorem dX7_ask_44 : decode cX7_ask 44 = .ok (.bipush (-2), 2) := by decide +kernel
theorem dX7_ask_46 : decode cX7_ask 46 = .ok (.ireturn, 1) := by decide +kernel
theorem dX7_judge_0 : decode cX7_judge 0 = .ok (.iload_n 1, 1) := by decide +kernel
theorem dX7_judge_1 : decode cX7_judge 1 = .ok (.iconst 1, 1) := by decide +kernel
theorem dX7_judge_2 : decode cX7_judge 2 = .ok (.if_icmp .lt 14, 3) := by decide +kernel
theorem dX7_judge_5 : decode cX7_judge 5 = .ok (.iload_n 1, 1) := by decide +kernel
theorem dX7_judge_6 : decode cX7_judge 6 = .ok (.iconst 4, 1) := by decide +kernel
theorem dX7_judge_7 : decode cX7_judge 7 = .ok (.if_icmp .gt 9, 3) := by decide +kernel
theorem dX7_judge_10 : decode cX7_judge 10 = .ok (.lload_n 2, 1) := by decide +kernel
theorem dX7_judge_11 : decode cX7_judge 11 = .ok (.lconst 0, 1) := by decide +kernel
theorem dX7_judge_12 : decode cX7_judge 12 = .ok (.lcmp, 1) := by decide +kernel
theorem dX7_judge_13 : decode cX7_judge 13 = .ok (.ifCond .ge 6, 3) := by decide +kernel
theorem dX7_judge_16 : decode cX7_judge 16 = .ok (.bipush (-2), 2) := by decide +kernel
theorem dX7_judge_18 : decode cX7_judge 18 = .ok (.ireturn, 1) := by decide +kernel
theorem dX7_judge_19 : decode cX7_judge 19 = .ok (.lconst 1, 1) := by decide +kernel
theorem dX7_judge_20 : decode cX7_judge 20 = .ok (.lstore 4, 2) := by decide +kernel
theorem dX7_judge_22 : decode cX7_judge 22 = .ok (.iconst 0, 1) := by decide +kernel
theorem dX7_judge_23 : decode cX7_judge 23 = .ok (.istore 6, 2) := by decide +kernel
theorem dX7_judge_25 : decode cX7_judge 25 = .ok (.iload 6, 2) := by decide +kernel
theorem dX7_judge_27 : decode cX7_judge 27 = .ok (.iload_n 1, 1) := by decide +kernel
theorem dX7_judge_28 : decode cX7_judge 28 = .ok (.if_icmp .ge 17, 3) := by decide +kernel
theorem dX7_judge_31 : decode cX7_judge 31 = .ok (.lload 4, 2) := by decide +kernel
theorem dX7_judge_33 : decode cX7_judge 33 = .ok (.ldc2_w 206, 3) := by decide +kernel
theorem dX7_judge_36 : decode cX7_judge 36 = .ok (.lmul, 1) := by decide +kernel
theorem dX7_judge_37 : decode cX7_judge 37 = .ok (.lstore 4, 2) := by decide +kernel
theorem dX7_judge_39 : decode cX7_judge 39 = .ok (.iinc 6 1, 3) := by decide +kernel
theorem dX7_judge_42 : decode cX7_judge 42 = .ok (.goto (-17), 3) := by decide +kernel
theorem dX7_judge_45 : decode cX7_judge 45 = .ok (.lload_n 2, 1) := by decide +kernel
theorem dX7_judge_46 : decode cX7_judge 46 = .ok (.lload 4, 2) := by decide +kernel
theorem dX7_judge_48 : decode cX7_judge 48 = .ok (.lcmp, 1) := by decide +kernel
theorem dX7_judge_49 : decode cX7_judge 49 = .ok (.ifCond .lt 6, 3) := by decide +kernel
theorem dX7_judge_52 : decode cX7_judge 52 = .ok (.bipush (-2), 2) := by decide +kernel
theorem dX7_judge_54 : decode cX7_judge 54 = .ok (.ireturn, 1) := by decide +kernel
theorem dX7_judge_55 : decode cX7_judge 55 = .ok (.aload_n 0, 1) := by decide +kernel
theorem dX7_judge_56 : decode cX7_judge 56 = .ok (.getfield 58, 3) := by decide +kernel
theorem dX7_judge_59 : decode cX7_judge 59 = .ok (.aload_n 0, 1) := by decide +kernel
theorem dX7_judge_60 : decode cX7_judge 60 = .ok (.getfield 38, 3) := by decide +kernel
theorem dX7_judge_63 : decode cX7_judge 63 = .ok (.invokevirtual 208, 3) := by decide +kernel
theorem dX7_judge_66 : decode cX7_judge 66 = .ok (.aload_n 0, 1) := by decide +kernel
theorem dX7_judge_67 : decode cX7_judge 67 = .ok (.iload_n 1, 1) := by decide +kernel
theorem dX7_judge_68 : decode cX7_judge 68 = .ok (.lload_n 2, 1) := by decide +kernel
theorem dX7_judge_69 : decode cX7_judge 69 = .ok (.invokevirtual 210, 3) := by decide +kernel
theorem dX7_judge_72 : decode cX7_judge 72 = .ok (.istore 6, 2) := by decide +kernel
theorem dX7_judge_74 : decode cX7_judge 74 = .ok (.aload_n 0, 1) := by decide +kernel
theorem dX7_judge_75 : decode cX7_judge 75 = .ok (.getfield 38, 3) := by decide +kernel
theorem dX7_judge_78 : decode cX7_judge 78 = .ok (.aload_n 0, 1) := by decide +kernel
theorem dX7_judge_79 : decode cX7_judge 79 = .ok (.getfield 58, 3) := by decide +kernel
theorem dX7_judge_82 : decode cX7_judge 82 = .ok (.invokevirtual 208, 3) := by decide +kernel
theorem dX7_judge_85 : decode cX7_judge 85 = .ok (.iload 6, 2) := by decide +kernel
theorem dX7_judge_87 : decode cX7_judge 87 = .ok (.ireturn, 1) := by decide +kernel
theorem dX7_see_0 : decode cX7_see 0 = .ok (.iload_n 1, 1) := by decide +kernel
theorem dX7_see_1 : decode cX7_see 1 = .ok (.invokestatic 132, 3) := by decide +kernel
theorem dX7_see_4 : decode cX7_see 4 = .ok (.ifCond .eq 26, 3) := by decide +kernel
theorem dX7_see_7 : decode cX7_see 7 = .ok (.iload_n 2, 1) := by decide +kernel
theorem dX7_see_8 : decode cX7_see 8 = .ok (.invokestatic 192, 3) := by decide +kernel
theorem dX7_see_11 : decode cX7_see 11 = .ok (.ifCond .eq 19, 3) := by decide +kernel
theorem dX7_see_14 : decode cX7_see 14 = .ok (.iload_n 3, 1) := by decide +kernel
theorem dX7_see_15 : decode cX7_see 15 = .ok (.bipush (-9), 2) := by decide +kernel
theorem dX7_see_17 : decode cX7_see 17 = .ok (.if_icmp .eq 16, 3) := by decide +kernel
theorem dX7_see_20 : decode cX7_see 20 = .ok (.iload_n 3, 1) := by decide +kernel
theorem dX7_see_21 : decode cX7_see 21 = .ok (.ifCond .lt 9, 3) := by decide +kernel
theorem dX7_see_24 : decode cX7_see 24 = .ok (.iload_n 3, 1) := by decide +kernel
theorem dX7_see_25 : decode cX7_see 25 = .ok (.bipush 39, 2) := by decide +kernel
theorem dX7_see_27 : decode cX7_see 27 = .ok (.if_icmp .le 6, 3) := by decide +kernel
theorem dX7_see_30 : decode cX7_see 30 = .ok (.bipush (-2), 2) := by decide +kernel
theorem dX7_see_32 : decode cX7_see 32 = .ok (.ireturn, 1) := by decide +kernel
theorem dX7_see_33 : decode cX7_see 33 = .ok (.aload_n 0, 1) := by decide +kernel
theorem dX7_see_34 : decode cX7_see 34 = .ok (.getfield 51, 3) := by decide +kernel
theorem dX7_see_37 : decode cX7_see 37 = .ok (.getfield 214, 3) := by decide +kernel
theorem dX7_see_40 : decode cX7_see 40 = .ok (.bipush 6, 2) := by decide +kernel
theorem dX7_see_42 : decode cX7_see 42 = .ok (.if_icmp .lt 6, 3) := by decide +kernel
theorem dX7_see_45 : decode cX7_see 45 = .ok (.bipush (-4), 2) := by decide +kernel
theorem dX7_see_47 : decode cX7_see 47 = .ok (.ireturn, 1) := by decide +kernel
theorem dX7_see_48 : decode cX7_see 48 = .ok (.aload_n 0, 1) := by decide +kernel
theorem dX7_see_49 : decode cX7_see 49 = .ok (.getfield 51, 3) := by decide +kernel
theorem dX7_see_52 : decode cX7_see 52 = .ok (.iload_n 1, 1) := by decide +kernel
theorem dX7_see_53 : decode cX7_see 53 = .ok (.iload_n 2, 1) := by decide +kernel
theorem dX7_see_54 : decode cX7_see 54 = .ok (.iload_n 3, 1) := by decide +kernel
theorem dX7_see_55 : decode cX7_see 55 = .ok (.invokevirtual 215, 3) := by decide +kernel
theorem dX7_see_58 : decode cX7_see 58 = .ok (.aload_n 0, 1) := by decide +kernel
theorem dX7_see_59 : decode cX7_see 59 = .ok (.getfield 51, 3) := by decide +kernel
theorem dX7_see_62 : decode cX7_see 62 = .ok (.getfield 214, 3) := by decide +kernel
theorem dX7_see_65 : decode cX7_see 65 = .ok (.ireturn, 1) := by decide +kernel
theorem dX7_unsee_0 : decode cX7_unsee 0 = .ok (.aload_n 0, 1) := by decide +kernel
theorem dX7_unsee_1 : decode cX7_unsee 1 = .ok (.getfield 51, 3) := by decide +kernel
theorem dX7_unsee_4 : decode cX7_unsee 4 = .ok (.getfield 214, 3) := by decide +kernel
theorem dX7_unsee_7 : decode cX7_unsee 7 = .ok (.istore_n 1, 1) := by decide +kernel
theorem dX7_unsee_8 : decode cX7_unsee 8 = .ok (.aload_n 0, 1) := by decide +kernel
theorem dX7_unsee_9 : decode cX7_unsee 9 = .ok (.getfield 51, 3) := by decide +kernel
theorem dX7_unsee_12 : decode cX7_unsee 12 = .ok (.invokevirtual 218, 3) := by decide +kernel
theorem dX7_unsee_15 : decode cX7_unsee 15 = .ok (.iload_n 1, 1) := by decide +kernel
theorem dX7_unsee_16 : decode cX7_unsee 16 = .ok (.ireturn, 1) := by decide +kernel
theorem dX7_which_0 : decode cX7_which 0 = .ok (.iconst 0, 1) := by decide +kernel
theorem dX7_which_1 : decode cX7_which 1 = .ok (.istore_n 1, 1) := by decide +kernel
theorem dX7_which_2 : decode cX7_which 2 = .ok (.iconst 0, 1) := by decide +kernel
theorem dX7_which_3 : decode cX7_which 3 = .ok (.istore_n 2, 1) := by decide +kernel
theorem dX7_which_4 : decode cX7_which 4 = .ok (.iload_n 2, 1) := by decide +kernel
theorem dX7_which_5 : decode cX7_which 5 = .ok (.aload_n 0, 1) := by decide +kernel
theorem dX7_which_6 : decode cX7_which 6 = .ok (.getfield 31, 3) := by decide +kernel
theorem dX7_which_9 : decode cX7_which 9 = .ok (.getfield 219, 3) := by decide +kernel
theorem dX7_which_12 : decode cX7_which 12 = .ok (.if_icmp .ge 30, 3) := by decide +kernel
theorem dX7_which_15 : decode cX7_which 15 = .ok (.aload_n 0, 1) := by decide +kernel
theorem dX7_which_16 : decode cX7_which 16 = .ok (.getfield 51, 3) := by decide +kernel
theorem dX7_which_19 : decode cX7_which 19 = .ok (.iload_n 2, 1) := by decide +kernel
theorem dX7_which_20 : decode cX7_which 20 = .ok (.aload_n 0, 1) := by decide +kernel
theorem dX7_which_21 : decode cX7_which 21 = .ok (.getfield 23, 3) := by decide +kernel
theorem dX7_which_24 : decode cX7_which 24 = .ok (.invokevirtual 222, 3) := by decide +kernel
theorem dX7_which_27 : decode cX7_which 27 = .ok (.ifCond .eq 9, 3) := by decide +kernel
theorem dX7_which_30 : decode cX7_which 30 = .ok (.iload_n 1, 1) := by decide +kernel
theorem dX7_which_31 : decode cX7_which 31 = .ok (.iconst 1, 1) := by decide +kernel
theorem dX7_which_32 : decode cX7_which 32 = .ok (.iload_n 2, 1) := by decide +kernel
theorem dX7_which_33 : decode cX7_which 33 = .ok (.ishl, 1) := by decide +kernel
theorem dX7_which_34 : decode cX7_which 34 = .ok (.ior, 1) := by decide +kernel
theorem dX7_which_35 : decode cX7_which 35 = .ok (.istore_n 1, 1) := by decide +kernel
theorem dX7_which_36 : decode cX7_which 36 = .ok (.iinc 2 1, 3) := by decide +kernel
theorem dX7_which_39 : decode cX7_which 39 = .ok (.goto (-35), 3) := by decide +kernel
theorem dX7_which_42 : decode cX7_which 42 = .ok (.iload_n 1, 1) := by decide +kernel
theorem dX7_which_43 : decode cX7_which 43 = .ok (.ireturn, 1) := by decide +kernel
theorem dX7_share_0 : decode cX7_share 0 = .ok (.aload_n 0, 1) := by decide +kernel
theorem dX7_share_1 : decode cX7_share 1 = .ok (.iload_n 1, 1) := by decide +kernel
theorem dX7_share_2 : decode cX7_share 2 = .ok (.invokevirtual 114, 3) := by decide +kernel
theorem dX7_share_5 : decode cX7_share 5 = .ok (.ifCond .ne 5, 3) := by decide +kernel
theorem dX7_share_8 : decode cX7_share 8 = .ok (.iconst (-1), 1) := by decide +kernel
theorem dX7_share_9 : decode cX7_share 9 = .ok (.ireturn, 1) := by decide +kernel
theorem dX7_share_10 : decode cX7_share 10 = .ok (.aload_n 0, 1) := by decide +kernel
theorem dX7_share_11 : decode cX7_share 11 = .ok (.getfield 23, 3) := by decide +kernel
theorem dX7_share_14 : decode cX7_share 14 = .ok (.iload_n 1, 1) := by decide +kernel
theorem dX7_share_15 : decode cX7_share 15 = .ok (.invokevirtual 226, 3) := by decide +kernel
theorem dX7_share_18 : decode cX7_share 18 = .ok (.bipush 12, 2) := by decide +kernel
theorem dX7_share_20 : decode cX7_share 20 = .ok (.iload_n 2, 1) := by decide +kernel
theorem dX7_share_21 : decode cX7_share 21 = .ok (.invokestatic 229, 3) := by decide +kernel
theorem dX7_share_24 : decode cX7_share 24 = .ok (.ireturn, 1) := by decide +kernel
theorem dX7_lost_0 : decode cX7_lost 0 = .ok (.iload_n 1, 1) := by decide +kernel
theorem dX7_lost_1 : decode cX7_lost 1 = .ok (.invokestatic 132, 3) := by decide +kernel
theorem dX7_lost_4 : decode cX7_lost 4 = .ok (.ifCond .eq 20, 3) := by decide +kernel
theorem dX7_lost_7 : decode cX7_lost 7 = .ok (.iload_n 2, 1) := by decide +kernel
theorem dX7_lost_8 : decode cX7_lost 8 = .ok (.invokestatic 192, 3) := by decide +kernel
theorem dX7_lost_11 : decode cX7_lost 11 = .ok (.ifCond .eq 13, 3) := by decide +kernel
theorem dX7_lost_14 : decode cX7_lost 14 = .ok (.iload_n 3, 1) := by decide +kernel
theorem dX7_lost_15 : decode cX7_lost 15 = .ok (.ifCond .lt 9, 3) := by decide +kernel
theorem dX7_lost_18 : decode cX7_lost 18 = .ok (.iload_n 3, 1) := by decide +kernel
theorem dX7_lost_19 : decode cX7_lost 19 = .ok (.bipush 10, 2) := by decide +kernel
theorem dX7_lost_21 : decode cX7_lost 21 = .ok (.if_icmp .le 6, 3) := by decide +kernel
theorem dX7_lost_24 : decode cX7_lost 24 = .ok (.bipush (-2), 2) := by decide +kernel
theorem dX7_lost_26 : decode cX7_lost 26 = .ok (.ireturn, 1) := by decide +kernel
theorem dX7_lost_27 : decode cX7_lost 27 = .ok (.aload_n 0, 1) := by decide +kernel
theorem dX7_lost_28 : decode cX7_lost 28 = .ok (.getfield 23, 3) := by decide +kernel
theorem dX7_lost_31 : decode cX7_lost 31 = .ok (.iload_n 1, 1) := by decide +kernel
theorem dX7_lost_32 : decode cX7_lost 32 = .ok (.iload_n 2, 1) := by decide +kernel
theorem dX7_lost_33 : decode cX7_lost 33 = .ok (.invokevirtual 233, 3) := by decide +kernel
theorem dX7_lost_36 : decode cX7_lost 36 = .ok (.istore 5, 2) := by decide +kernel
theorem dX7_lost_38 : decode cX7_lost 38 = .ok (.iconst 1, 1) := by decide +kernel
theorem dX7_lost_39 : decode cX7_lost 39 = .ok (.istore 6, 2) := by decide +kernel
theorem dX7_lost_41 : decode cX7_lost 41 = .ok (.iconst 1, 1) := by decide +kernel
theorem dX7_lost_42 : decode cX7_lost 42 = .ok (.istore 7, 2) := by decide +kernel
theorem dX7_lost_44 : decode cX7_lost 44 = .ok (.iconst 0, 1) := by decide +kernel
theorem dX7_lost_45 : decode cX7_lost 45 = .ok (.istore 8, 2) := by decide +kernel
theorem dX7_lost_47 : decode cX7_lost 47 = .ok (.iload 8, 2) := by decide +kernel
theorem dX7_lost_49 : decode cX7_lost 49 = .ok (.iload 5, 2) := by decide +kernel
theorem dX7_lost_51 : decode cX7_lost 51 = .ok (.if_icmp .ge 22, 3) := by decide +kernel
theorem dX7_lost_54 : decode cX7_lost 54 = .ok (.iload 6, 2) := by decide +kernel
theorem dX7_lost_56 : decode cX7_lost 56 = .ok (.bipush 10, 2) := by decide +kernel
theorem dX7_lost_58 : decode cX7_lost 58 = .ok (.imul, 1) := by decide +kernel
theorem dX7_lost_59 : decode cX7_lost 59 = .ok (.istore 6, 2) := by decide +kernel
theorem dX7_lost_61 : decode cX7_lost 61 = .ok (.iload 7, 2) := by decide +kernel
theorem dX7_lost_63 : decode cX7_lost 63 = .ok (.iload_n 3, 1) := by decide +kernel
theorem dX7_lost_64 : decode cX7_lost 64 = .ok (.imul, 1) := by decide +kernel
theorem dX7_lost_65 : decode cX7_lost 65 = .ok (.istore 7, 2) := by decide +kernel
theorem dX7_lost_67 : decode cX7_lost 67 = .ok (.iinc 8 1, 3) := by decide +kernel
theorem dX7_lost_70 : decode cX7_lost 70 = .ok (.goto (-23), 3) := by decide +kernel
theorem dX7_lost_73 : decode cX7_lost 73 = .ok (.iload 6, 2) := by decide +kernel
theorem dX7_lost_75 : decode cX7_lost 75 = .ok (.iload 7, 2) := by decide +kernel
theorem dX7_lost_77 : decode cX7_lost 77 = .ok (.isub, 1) := by decide +kernel
theorem dX7_lost_78 : decode cX7_lost 78 = .ok (.iload 6, 2) := by decide +kernel
theorem dX7_lost_80 : decode cX7_lost 80 = .ok (.iload 4, 2) := by decide +kernel
theorem dX7_lost_82 : decode cX7_lost 82 = .ok (.invokestatic 229, 3) := by decide +kernel
theorem dX7_lost_85 : decode cX7_lost 85 = .ok (.ireturn, 1) := by decide +kernel
theorem dX7_seed_0 : decode cX7_seed 0 = .ok (.aload_n 0, 1) := by decide +kernel
theorem dX7_seed_1 : decode cX7_seed 1 = .ok (.getfield 236, 3) := by decide +kernel
theorem dX7_seed_4 : decode cX7_seed 4 = .ok (.lstore_n 3, 1) := by decide +kernel
theorem dX7_seed_5 : decode cX7_seed 5 = .ok (.aload_n 0, 1) := by decide +kernel
theorem dX7_seed_6 : decode cX7_seed 6 = .ok (.lload_n 1, 1) := by decide +kernel
theorem dX7_seed_7 : decode cX7_seed 7 = .ok (.putfield 236, 3) := by decide +kernel
theorem dX7_seed_10 : decode cX7_seed 10 = .ok (.lload_n 3, 1) := by decide +kernel
theorem dX7_seed_11 : decode cX7_seed 11 = .ok (.lreturn, 1) := by decide +kernel
theorem dX7_looks_0 : decode cX7_looks 0 = .ok (.iload_n 1, 1) := by decide +kernel
theorem dX7_looks_1 : decode cX7_looks 1 = .ok (.iconst 1, 1) := by decide +kernel
theorem dX7_looks_2 : decode cX7_looks 2 = .ok (.if_icmp .lt 9, 3) := by decide +kernel
theorem dX7_looks_5 : decode cX7_looks 5 = .ok (.iload_n 1, 1) := by decide +kernel
theorem dX7_looks_6 : decode cX7_looks 6 = .ok (.bipush 40, 2) := by decide +kernel
theorem dX7_looks_8 : decode cX7_looks 8 = .ok (.if_icmp .le 6, 3) := by decide +kernel
theorem dX7_looks_11 : decode cX7_looks 11 = .ok (.bipush (-2), 2) := by decide +kernel
theorem dX7_looks_13 : decode cX7_looks 13 = .ok (.ireturn, 1) := by decide +kernel
theorem dX7_looks_14 : decode cX7_looks 14 = .ok (.iconst 0, 1) := by decide +kernel
theorem dX7_looks_15 : decode cX7_looks 15 = .ok (.istore_n 2, 1) := by decide +kernel
theorem dX7_looks_16 : decode cX7_looks 16 = .ok (.iconst 0, 1) := by decide +kernel
theorem dX7_looks_17 : decode cX7_looks 17 = .ok (.istore_n 3, 1) := by decide +kernel
theorem dX7_looks_18 : decode cX7_looks 18 = .ok (.iload_n 3, 1) := by decide +kernel
theorem dX7_looks_19 : decode cX7_looks 19 = .ok (.iload_n 1, 1) := by decide +kernel
theorem dX7_looks_20 : decode cX7_looks 20 = .ok (.if_icmp .ge 64, 3) := by decide +kernel
theorem dX7_looks_23 : decode cX7_looks 23 = .ok (.aload_n 0, 1) := by decide +kernel
theorem dX7_looks_24 : decode cX7_looks 24 = .ok (.aload_n 0, 1) := by decide +kernel
theorem dX7_looks_25 : decode cX7_looks 25 = .ok (.getfield 236, 3) := by decide +kernel
theorem dX7_looks_28 : decode cX7_looks 28 = .ok (.ldc2_w 240, 3) := by decide +kernel
theorem dX7_looks_31 : decode cX7_looks 31 = .ok (.lmul, 1) := by decide +kernel
theorem dX7_looks_32 : decode cX7_looks 32 = .ok (.ldc2_w 242, 3) := by decide +kernel
theorem dX7_looks_35 : decode cX7_looks 35 = .ok (.ladd, 1) := by decide +kernel
theorem dX7_looks_36 : decode cX7_looks 36 = .ok (.putfield 236, 3) := by decide +kernel
theorem dX7_looks_39 : decode cX7_looks 39 = .ok (.aload_n 0, 1) := by decide +kernel
theorem dX7_looks_40 : decode cX7_looks 40 = .ok (.getfield 236, 3) := by decide +kernel
theorem dX7_looks_43 : decode cX7_looks 43 = .ok (.bipush 33, 2) := by decide +kernel
theorem dX7_looks_45 : decode cX7_looks 45 = .ok (.lushr, 1) := by decide +kernel
theorem dX7_looks_46 : decode cX7_looks 46 = .ok (.l2i, 1) := by decide +kernel
theorem dX7_looks_47 : decode cX7_looks 47 = .ok (.istore 4, 2) := by decide +kernel
theorem dX7_looks_49 : decode cX7_looks 49 = .ok (.aload_n 0, 1) := by decide +kernel
theorem dX7_looks_50 : decode cX7_looks 50 = .ok (.getfield 23, 3) := by decide +kernel
theorem dX7_looks_53 : decode cX7_looks 53 = .ok (.iload 4, 2) := by decide +kernel
theorem dX7_looks_55 : decode cX7_looks 55 = .ok (.bipush 48, 2) := by decide +kernel
theorem dX7_looks_57 : decode cX7_looks 57 = .ok (.irem, 1) := by decide +kernel
theorem dX7_looks_58 : decode cX7_looks 58 = .ok (.iload 4, 2) := by decide +kernel
theorem dX7_looks_60 : decode cX7_looks 60 = .ok (.bipush 48, 2) := by decide +kernel
theorem dX7_looks_62 : decode cX7_looks 62 = .ok (.idiv, 1) := by decide +kernel
theorem dX7_looks_63 : decode cX7_looks 63 = .ok (.bipush 10, 2) := by decide +kernel
theorem dX7_looks_65 : decode cX7_looks 65 = .ok (.irem, 1) := by decide +kernel
theorem dX7_looks_66 : decode cX7_looks 66 = .ok (.iconst (-1), 1) := by decide +kernel
theorem dX7_looks_67 : decode cX7_looks 67 = .ok (.invokevirtual 195, 3) := by decide +kernel
theorem dX7_looks_70 : decode cX7_looks 70 = .ok (.bipush (-9), 2) := by decide +kernel
theorem dX7_looks_72 : decode cX7_looks 72 = .ok (.if_icmp .eq 6, 3) := by decide +kernel
theorem dX7_looks_75 : decode cX7_looks 75 = .ok (.iinc 2 1, 3) := by decide +kernel
theorem dX7_looks_78 : decode cX7_looks 78 = .ok (.iinc 3 1, 3) := by decide +kernel
theorem dX7_looks_81 : decode cX7_looks 81 = .ok (.goto (-63), 3) := by decide +kernel
theorem dX7_looks_84 : decode cX7_looks 84 = .ok (.iload_n 2, 1) := by decide +kernel
theorem dX7_looks_85 : decode cX7_looks 85 = .ok (.ireturn, 1) := by decide +kernel
theorem dX7_keep_0 : decode cX7_keep 0 = .ok (.iload_n 1, 1) := by decide +kernel
theorem dX7_keep_1 : decode cX7_keep 1 = .ok (.ifCond .lt 8, 3) := by decide +kernel
theorem dX7_keep_4 : decode cX7_keep 4 = .ok (.iload_n 1, 1) := by decide +kernel
theorem dX7_keep_5 : decode cX7_keep 5 = .ok (.iconst 2, 1) := by decide +kernel
theorem dX7_keep_6 : decode cX7_keep 6 = .ok (.if_icmp .lt 5, 3) := by decide +kernel
theorem dX7_keep_9 : decode cX7_keep 9 = .ok (.iconst (-1), 1) := by decide +kernel
theorem dX7_keep_10 : decode cX7_keep 10 = .ok (.ireturn, 1) := by decide +kernel
theorem dX7_keep_11 : decode cX7_keep 11 = .ok (.aload_n 0, 1) := by decide +kernel
theorem dX7_keep_12 : decode cX7_keep 12 = .ok (.iload_n 1, 1) := by decide +kernel
theorem dX7_keep_13 : decode cX7_keep 13 = .ok (.invokevirtual 244, 3) := by decide +kernel
theorem dX7_keep_16 : decode cX7_keep 16 = .ok (.aload_n 0, 1) := by decide +kernel
theorem dX7_keep_17 : decode cX7_keep 17 = .ok (.getfield 38, 3) := by decide +kernel
theorem dX7_keep_20 : decode cX7_keep 20 = .ok (.invokevirtual 208, 3) := by decide +kernel
theorem dX7_keep_23 : decode cX7_keep 23 = .ok (.aload_n 0, 1) := by decide +kernel
theorem dX7_keep_24 : decode cX7_keep 24 = .ok (.getfield 67, 3) := by decide +kernel
theorem dX7_keep_27 : decode cX7_keep 27 = .ok (.iload_n 1, 1) := by decide +kernel
theorem dX7_keep_28 : decode cX7_keep 28 = .ok (.iconst 1, 1) := by decide +kernel
theorem dX7_keep_29 : decode cX7_keep 29 = .ok (.bastore, 1) := by decide +kernel
theorem dX7_keep_30 : decode cX7_keep 30 = .ok (.aload_n 0, 1) := by decide +kernel
theorem dX7_keep_31 : decode cX7_keep 31 = .ok (.getfield 38, 3) := by decide +kernel
theorem dX7_keep_34 : decode cX7_keep 34 = .ok (.getfield 162, 3) := by decide +kernel
theorem dX7_keep_37 : decode cX7_keep 37 = .ok (.ireturn, 1) := by decide +kernel
theorem dX7_again_0 : decode cX7_again 0 = .ok (.iload_n 1, 1) := by decide +kernel
theorem dX7_again_1 : decode cX7_again 1 = .ok (.ifCond .lt 8, 3) := by decide +kernel
theorem dX7_again_4 : decode cX7_again 4 = .ok (.iload_n 1, 1) := by decide +kernel
theorem dX7_again_5 : decode cX7_again 5 = .ok (.iconst 2, 1) := by decide +kernel
theorem dX7_again_6 : decode cX7_again 6 = .ok (.if_icmp .lt 5, 3) := by decide +kernel
theorem dX7_again_9 : decode cX7_again 9 = .ok (.iconst (-1), 1) := by decide +kernel
theorem dX7_again_10 : decode cX7_again 10 = .ok (.ireturn, 1) := by decide +kernel
theorem dX7_again_11 : decode cX7_again 11 = .ok (.aload_n 0, 1) := by decide +kernel
theorem dX7_again_12 : decode cX7_again 12 = .ok (.getfield 67, 3) := by decide +kernel
theorem dX7_again_15 : decode cX7_again 15 = .ok (.iload_n 1, 1) := by decide +kernel
theorem dX7_again_16 : decode cX7_again 16 = .ok (.baload, 1) := by decide +kernel
theorem dX7_again_17 : decode cX7_again 17 = .ok (.ifCond .ne 6, 3) := by decide +kernel
theorem dX7_again_20 : decode cX7_again 20 = .ok (.bipush (-3), 2) := by decide +kernel
theorem dX7_again_22 : decode cX7_again 22 = .ok (.ireturn, 1) := by decide +kernel
theorem dX7_again_23 : decode cX7_again 23 = .ok (.aload_n 0, 1) := by decide +kernel
theorem dX7_again_24 : decode cX7_again 24 = .ok (.getfield 38, 3) := by decide +kernel
theorem dX7_again_27 : decode cX7_again 27 = .ok (.aload_n 0, 1) := by decide +kernel
theorem dX7_again_28 : decode cX7_again 28 = .ok (.iload_n 1, 1) := by decide +kernel
theorem dX7_again_29 : decode cX7_again 29 = .ok (.invokevirtual 244, 3) := by decide +kernel
theorem dX7_again_32 : decode cX7_again 32 = .ok (.invokevirtual 208, 3) := by decide +kernel
theorem dX7_again_35 : decode cX7_again 35 = .ok (.aload_n 0, 1) := by decide +kernel
theorem dX7_again_36 : decode cX7_again 36 = .ok (.getfield 44, 3) := by decide +kernel
theorem dX7_again_39 : decode cX7_again 39 = .ok (.invokevirtual 94, 3) := by decide +kernel
theorem dX7_again_42 : decode cX7_again 42 = .ok (.aload_n 0, 1) := by decide +kernel
theorem dX7_again_43 : decode cX7_again 43 = .ok (.getfield 38, 3) := by decide +kernel
theorem dX7_again_46 : decode cX7_again 46 = .ok (.getfield 162, 3) := by decide +kernel
theorem dX7_again_49 : decode cX7_again 49 = .ok (.ireturn, 1) := by decide +kernel
theorem dX7_count_0 : decode cX7_count 0 = .ok (.iload_n 1, 1) := by decide +kernel
theorem dX7_count_1 : decode cX7_count 1 = .ok (.tableswitch 84 0 5 #[39, 44, 52, 60, 68, 76], 39) := by decide +kernel
theorem dX7_count_40 : decode cX7_count 40 = .ok (.aload_n 0, 1) := by decide +kernel
theorem dX7_count_41 : decode cX7_count 41 = .ok (.getfield 71, 3) := by decide +kernel
theorem dX7_count_44 : decode cX7_count 44 = .ok (.ireturn, 1) := by decide +kernel
theorem dX7_count_45 : decode cX7_count 45 = .ok (.aload_n 0, 1) := by decide +kernel
theorem dX7_count_46 : decode cX7_count 46 = .ok (.getfield 31, 3) := by decide +kernel
theorem dX7_count_49 : decode cX7_count 49 = .ok (.getfield 219, 3) := by decide +kernel
theorem dX7_count_52 : decode cX7_count 52 = .ok (.ireturn, 1) := by decide +kernel
theorem dX7_count_53 : decode cX7_count 53 = .ok (.aload_n 0, 1) := by decide +kernel
theorem dX7_count_54 : decode cX7_count 54 = .ok (.getfield 31, 3) := by decide +kernel
theorem dX7_count_57 : decode cX7_count 57 = .ok (.getfield 97, 3) := by decide +kernel
theorem dX7_count_60 : decode cX7_count 60 = .ok (.ireturn, 1) := by decide +kernel
theorem dX7_count_61 : decode cX7_count 61 = .ok (.aload_n 0, 1) := by decide +kernel
theorem dX7_count_62 : decode cX7_count 62 = .ok (.getfield 38, 3) := by decide +kernel
theorem dX7_count_65 : decode cX7_count 65 = .ok (.getfield 162, 3) := by decide +kernel
theorem dX7_count_68 : decode cX7_count 68 = .ok (.ireturn, 1) := by decide +kernel
theorem dX7_count_69 : decode cX7_count 69 = .ok (.aload_n 0, 1) := by decide +kernel
theorem dX7_count_70 : decode cX7_count 70 = .ok (.getfield 44, 3) := by decide +kernel
theorem dX7_count_73 : decode cX7_count 73 = .ok (.getfield 179, 3) := by decide +kernel
theorem dX7_count_76 : decode cX7_count 76 = .ok (.ireturn, 1) := by decide +kernel
theorem dX7_count_77 : decode cX7_count 77 = .ok (.aload_n 0, 1) := by decide +kernel
theorem dX7_count_78 : decode cX7_count 78 = .ok (.getfield 51, 3) := by decide +kernel
theorem dX7_count_81 : decode cX7_count 81 = .ok (.getfield 214, 3) := by decide +kernel
theorem dX7_count_84 : decode cX7_count 84 = .ok (.ireturn, 1) := by decide +kernel
theorem dX7_count_85 : decode cX7_count 85 = .ok (.bipush (-2), 2) := by decide +kernel
theorem dX7_count_87 : decode cX7_count 87 = .ok (.ireturn, 1) := by decide +kernel
theorem dX7_isDrawing_0 : decode cX7_isDrawing 0 = .ok (.iload_n 1, 1) := by decide +kernel
theorem dX7_isDrawing_1 : decode cX7_isDrawing 1 = .ok (.ifCond .lt 18, 3) := by decide +kernel
theorem dX7_isDrawing_4 : decode cX7_isDrawing 4 = .ok (.iload_n 1, 1) := by decide +kernel
theorem dX7_isDrawing_5 : decode cX7_isDrawing 5 = .ok (.aload_n 0, 1) := by decide +kernel
theorem dX7_isDrawing_6 : decode cX7_isDrawing 6 = .ok (.getfield 31, 3) := by decide +kernel
theorem dX7_isDrawing_9 : decode cX7_isDrawing 9 = .ok (.getfield 219, 3) := by decide +kernel
theorem dX7_isDrawing_12 : decode cX7_isDrawing 12 = .ok (.if_icmp .ge 7, 3) := by decide +kernel
theorem dX7_isDrawing_15 : decode cX7_isDrawing 15 = .ok (.iconst 1, 1) := by decide +kernel
theorem dX7_isDrawing_16 : decode cX7_isDrawing 16 = .ok (.goto 4, 3) := by decide +kernel
theorem dX7_isDrawing_19 : decode cX7_isDrawing 19 = .ok (.iconst 0, 1) := by decide +kernel
theorem dX7_isDrawing_20 : decode cX7_isDrawing 20 = .ok (.ireturn, 1) := by decide +kernel
theorem dX7_isLevel_0 : decode cX7_isLevel 0 = .ok (.iload_n 1, 1) := by decide +kernel
theorem dX7_isLevel_1 : decode cX7_isLevel 1 = .ok (.ifCond .lt 18, 3) := by decide +kernel
theorem dX7_isLevel_4 : decode cX7_isLevel 4 = .ok (.iload_n 1, 1) := by decide +kernel
theorem dX7_isLevel_5 : decode cX7_isLevel 5 = .ok (.aload_n 0, 1) := by decide +kernel
theorem dX7_isLevel_6 : decode cX7_isLevel 6 = .ok (.getfield 31, 3) := by decide +kernel
theorem dX7_isLevel_9 : decode cX7_isLevel 9 = .ok (.getfield 97, 3) := by decide +kernel
theorem dX7_isLevel_12 : decode cX7_isLevel 12 = .ok (.if_icmp .ge 7, 3) := by decide +kernel
theorem dX7_isLevel_15 : decode cX7_isLevel 15 = .ok (.iconst 1, 1) := by decide +kernel
theorem dX7_isLevel_16 : decode cX7_isLevel 16 = .ok (.goto 4, 3) := by decide +kernel
theorem dX7_isLevel_19 : decode cX7_isLevel 19 = .ok (.iconst 0, 1) := by decide +kernel
theorem dX7_isLevel_20 : decode cX7_isLevel 20 = .ok (.ireturn, 1) := by decide +kernel
theorem dX7_hasPan_0 : decode cX7_hasPan 0 = .ok (.iload_n 1, 1) := by decide +kernel
theorem dX7_hasPan_1 : decode cX7_hasPan 1 = .ok (.bipush 9, 2) := by decide +kernel
theorem dX7_hasPan_3 : decode cX7_hasPan 3 = .ok (.if_icmp .eq 11, 3) := by decide +kernel
theorem dX7_hasPan_6 : decode cX7_hasPan 6 = .ok (.aload_n 0, 1) := by decide +kernel
theorem dX7_hasPan_7 : decode cX7_hasPan 7 = .ok (.iload_n 1, 1) := by decide +kernel
theorem dX7_hasPan_8 : decode cX7_hasPan 8 = .ok (.invokevirtual 114, 3) := by decide +kernel
theorem dX7_hasPan_11 : decode cX7_hasPan 11 = .ok (.ifCond .eq 7, 3) := by decide +kernel
theorem dX7_hasPan_14 : decode cX7_hasPan 14 = .ok (.iconst 1, 1) := by decide +kernel
theorem dX7_hasPan_15 : decode cX7_hasPan 15 = .ok (.goto 4, 3) := by decide +kernel
theorem dX7_hasPan_18 : decode cX7_hasPan 18 = .ok (.iconst 0, 1) := by decide +kernel
theorem dX7_hasPan_19 : decode cX7_hasPan 19 = .ok (.ireturn, 1) := by decide +kernel
theorem dX7_panOf_0 : decode cX7_panOf 0 = .ok (.iload_n 0, 1) := by decide +kernel
theorem dX7_panOf_1 : decode cX7_panOf 1 = .ok (.bipush 9, 2) := by decide +kernel
theorem dX7_panOf_3 : decode cX7_panOf 3 = .ok (.if_icmp .ne 7, 3) := by decide +kernel
theorem dX7_panOf_6 : decode cX7_panOf 6 = .ok (.iconst 4, 1) := by decide +kernel
theorem dX7_panOf_7 : decode cX7_panOf 7 = .ok (.goto 4, 3) := by decide +kernel
theorem dX7_panOf_10 : decode cX7_panOf 10 = .ok (.iload_n 0, 1) := by decide +kernel
theorem dX7_panOf_11 : decode cX7_panOf 11 = .ok (.ireturn, 1) := by decide +kernel
theorem dX7_isFrame_0 : decode cX7_isFrame 0 = .ok (.iload_n 0, 1) := by decide +kernel
theorem dX7_isFrame_1 : decode cX7_isFrame 1 = .ok (.ifCond .lt 13, 3) := by decide +kernel
theorem dX7_isFrame_4 : decode cX7_isFrame 4 = .ok (.iload_n 0, 1) := by decide +kernel
theorem dX7_isFrame_5 : decode cX7_isFrame 5 = .ok (.bipush 48, 2) := by decide +kernel
theorem dX7_isFrame_7 : decode cX7_isFrame 7 = .ok (.if_icmp .ge 7, 3) := by decide +kernel
theorem dX7_isFrame_10 : decode cX7_isFrame 10 = .ok (.iconst 1, 1) := by decide +kernel
theorem dX7_isFrame_11 : decode cX7_isFrame 11 = .ok (.goto 4, 3) := by decide +kernel
theorem dX7_isFrame_14 : decode cX7_isFrame 14 = .ok (.iconst 0, 1) := by decide +kernel
theorem dX7_isFrame_15 : decode cX7_isFrame 15 = .ok (.ireturn, 1) := by decide +kernel
theorem dX7_isWindow_0 : decode cX7_isWindow 0 = .ok (.iload_n 0, 1) := by decide +kernel
theorem dX7_isWindow_1 : decode cX7_isWindow 1 = .ok (.ifCond .lt 13, 3) := by decide +kernel
theorem dX7_isWindow_4 : decode cX7_isWindow 4 = .ok (.iload_n 0, 1) := by decide +kernel
theorem dX7_isWindow_5 : decode cX7_isWindow 5 = .ok (.bipush 10, 2) := by decide +kernel
theorem dX7_isWindow_7 : decode cX7_isWindow 7 = .ok (.if_icmp .ge 7, 3) := by decide +kernel
theorem dX7_isWindow_10 : decode cX7_isWindow 10 = .ok (.iconst 1, 1) := by decide +kernel
theorem dX7_isWindow_11 : decode cX7_isWindow 11 = .ok (.goto 4, 3) := by decide +kernel
theorem dX7_isWindow_14 : decode cX7_isWindow 14 = .ok (.iconst 0, 1) := by decide +kernel
theorem dX7_isWindow_15 : decode cX7_isWindow 15 = .ok (.ireturn, 1) := by decide +kernel
theorem dX7_keptIn_0 : decode cX7_keptIn 0 = .ok (.iload_n 1, 1) := by decide +kernel
theorem dX7_keptIn_1 : decode cX7_keptIn 1 = .ok (.ifCond .ne 10, 3) := by decide +kernel
theorem dX7_keptIn_4 : decode cX7_keptIn 4 = .ok (.aload_n 0, 1) := by decide +kernel
theorem dX7_keptIn_5 : decode cX7_keptIn 5 = .ok (.getfield 61, 3) := by decide +kernel
theorem dX7_keptIn_8 : decode cX7_keptIn 8 = .ok (.goto 7, 3) := by decide +kernel
theorem dX7_keptIn_11 : decode cX7_keptIn 11 = .ok (.aload_n 0, 1) := by decide +kernel
theorem dX7_keptIn_12 : decode cX7_keptIn 12 = .ok (.getfield 64, 3) := by decide +kernel
theorem dX7_keptIn_15 : decode cX7_keptIn 15 = .ok (.areturn, 1) := by decide +kernel
theorem dX7_firstThatCanNotBe_0 : decode cX7_firstThatCanNotBe 0 = .ok (.lconst 1, 1) := by decide +kernel
theorem dX7_firstThatCanNotBe_1 : decode cX7_firstThatCanNotBe 1 = .ok (.lstore 4, 2) := by decide +kernel
theorem dX7_firstThatCanNotBe_3 : decode cX7_firstThatCanNotBe 3 = .ok (.iconst 1, 1) := by decide +kernel
theorem dX7_firstThatCanNotBe_4 : decode cX7_firstThatCanNotBe 4 = .ok (.istore 6, 2) := by decide +kernel
theorem dX7_firstThatCanNotBe_6 : decode cX7_firstThatCanNotBe 6 = .ok (.iload 6, 2) := by decide +kernel
theorem dX7_firstThatCanNotBe_8 : decode cX7_firstThatCanNotBe 8 = .ok (.iload_n 1, 1) := by decide +kernel
theorem dX7_firstThatCanNotBe_9 : decode cX7_firstThatCanNotBe 9 = .ok (.if_icmp .ge 17, 3) := by decide +kernel
theorem dX7_firstThatCanNotBe_12 : decode cX7_firstThatCanNotBe 12 = .ok (.lload 4, 2) := by decide +kernel
theorem dX7_firstThatCanNotBe_14 : decode cX7_firstThatCanNotBe 14 = .ok (.ldc2_w 206, 3) := by decide +kernel
theorem dX7_firstThatCanNotBe_17 : decode cX7_firstThatCanNotBe 17 = .ok (.lmul, 1) := by decide +kernel
theorem dX7_firstThatCanNotBe_18 : decode cX7_firstThatCanNotBe 18 = .ok (.lstore 4, 2) := by decide +kernel
theorem dX7_firstThatCanNotBe_20 : decode cX7_firstThatCanNotBe 20 = .ok (.iinc 6 1, 3) := by decide +kernel
theorem dX7_firstThatCanNotBe_23 : decode cX7_firstThatCanNotBe 23 = .ok (.goto (-17), 3) := by decide +kernel
theorem dX7_firstThatCanNotBe_26 : decode cX7_firstThatCanNotBe 26 = .ok (.iconst 0, 1) := by decide +kernel
theorem dX7_firstThatCanNotBe_27 : decode cX7_firstThatCanNotBe 27 = .ok (.istore 6, 2) := by decide +kernel
theorem dX7_firstThatCanNotBe_29 : decode cX7_firstThatCanNotBe 29 = .ok (.iload 6, 2) := by decide +kernel
theorem dX7_firstThatCanNotBe_31 : decode cX7_firstThatCanNotBe 31 = .ok (.iload_n 1, 1) := by decide +kernel
theorem dX7_firstThatCanNotBe_32 : decode cX7_firstThatCanNotBe 32 = .ok (.if_icmp .ge 43, 3) := by decide +kernel
theorem dX7_firstThatCanNotBe_35 : decode cX7_firstThatCanNotBe 35 = .ok (.lload 4, 2) := by decide +kernel
theorem dX7_firstThatCanNotBe_37 : decode cX7_firstThatCanNotBe 37 = .ok (.lconst 1, 1) := by decide +kernel
theorem dX7_firstThatCanNotBe_38 : decode cX7_firstThatCanNotBe 38 = .ok (.lcmp, 1) := by decide +kernel
theorem dX7_firstThatCanNotBe_39 : decode cX7_firstThatCanNotBe 39 = .ok (.ifCond .lt 19, 3) := by decide +kernel
theorem dX7_firstThatCanNotBe_42 : decode cX7_firstThatCanNotBe 42 = .ok (.aload_n 0, 1) := by decide +kernel
theorem dX7_firstThatCanNotBe_43 : decode cX7_firstThatCanNotBe 43 = .ok (.lload_n 2, 1) := by decide +kernel
theorem dX7_firstThatCanNotBe_44 : decode cX7_firstThatCanNotBe 44 = .ok (.lload 4, 2) := by decide +kernel
theorem dX7_firstThatCanNotBe_46 : decode cX7_firstThatCanNotBe 46 = .ok (.ldiv, 1) := by decide +kernel
theorem dX7_firstThatCanNotBe_47 : decode cX7_firstThatCanNotBe 47 = .ok (.ldc2_w 206, 3) := by decide +kernel
theorem dX7_firstThatCanNotBe_50 : decode cX7_firstThatCanNotBe 50 = .ok (.lrem, 1) := by decide +kernel
theorem dX7_firstThatCanNotBe_51 : decode cX7_firstThatCanNotBe 51 = .ok (.l2i, 1) := by decide +kernel
theorem dX7_firstThatCanNotBe_52 : decode cX7_firstThatCanNotBe 52 = .ok (.invokevirtual 248, 3) := by decide +kernel
theorem dX7_firstThatCanNotBe_55 : decode cX7_firstThatCanNotBe 55 = .ok (.ifCond .ne 6, 3) := by decide +kernel
theorem dX7_firstThatCanNotBe_58 : decode cX7_firstThatCanNotBe 58 = .ok (.iload 6, 2) := by decide +kernel
theorem dX7_firstThatCanNotBe_60 : decode cX7_firstThatCanNotBe 60 = .ok (.ireturn, 1) := by decide +kernel
theorem dX7_firstThatCanNotBe_61 : decode cX7_firstThatCanNotBe 61 = .ok (.lload 4, 2) := by decide +kernel
theorem dX7_firstThatCanNotBe_63 : decode cX7_firstThatCanNotBe 63 = .ok (.ldc2_w 206, 3) := by decide +kernel
theorem dX7_firstThatCanNotBe_66 : decode cX7_firstThatCanNotBe 66 = .ok (.ldiv, 1) := by decide +kernel
theorem dX7_firstThatCanNotBe_67 : decode cX7_firstThatCanNotBe 67 = .ok (.lstore 4, 2) := by decide +kernel
theorem dX7_firstThatCanNotBe_69 : decode cX7_firstThatCanNotBe 69 = .ok (.iinc 6 1, 3) := by decide +kernel
theorem dX7_firstThatCanNotBe_72 : decode cX7_firstThatCanNotBe 72 = .ok (.goto (-43), 3) := by decide +kernel
theorem dX7_firstThatCanNotBe_75 : decode cX7_firstThatCanNotBe 75 = .ok (.bipush (-9), 2) := by decide +kernel
theorem dX7_firstThatCanNotBe_77 : decode cX7_firstThatCanNotBe 77 = .ok (.ireturn, 1) := by decide +kernel
theorem dX7_comesTrue_0 : decode cX7_comesTrue 0 = .ok (.iload_n 1, 1) := by decide +kernel
theorem dX7_comesTrue_1 : decode cX7_comesTrue 1 = .ok (.bipush 100, 2) := by decide +kernel
theorem dX7_comesTrue_3 : decode cX7_comesTrue 3 = .ok (.idiv, 1) := by decide +kernel
theorem dX7_comesTrue_4 : decode cX7_comesTrue 4 = .ok (.bipush 10, 2) := by decide +kernel
theorem dX7_comesTrue_6 : decode cX7_comesTrue 6 = .ok (.irem, 1) := by decide +kernel
theorem dX7_comesTrue_7 : decode cX7_comesTrue 7 = .ok (.istore_n 2, 1) := by decide +kernel
theorem dX7_comesTrue_8 : decode cX7_comesTrue 8 = .ok (.iload_n 1, 1) := by decide +kernel
theorem dX7_comesTrue_9 : decode cX7_comesTrue 9 = .ok (.bipush 10, 2) := by decide +kernel
theorem dX7_comesTrue_11 : decode cX7_comesTrue 11 = .ok (.idiv, 1) := by decide +kernel
theorem dX7_comesTrue_12 : decode cX7_comesTrue 12 = .ok (.bipush 10, 2) := by decide +kernel
theorem dX7_comesTrue_14 : decode cX7_comesTrue 14 = .ok (.irem, 1) := by decide +kernel
theorem dX7_comesTrue_15 : decode cX7_comesTrue 15 = .ok (.istore_n 3, 1) := by decide +kernel
theorem dX7_comesTrue_16 : decode cX7_comesTrue 16 = .ok (.iload_n 1, 1) := by decide +kernel
theorem dX7_comesTrue_17 : decode cX7_comesTrue 17 = .ok (.bipush 10, 2) := by decide +kernel
theorem dX7_comesTrue_19 : decode cX7_comesTrue 19 = .ok (.irem, 1) := by decide +kernel
theorem dX7_comesTrue_20 : decode cX7_comesTrue 20 = .ok (.istore 4, 2) := by decide +kernel
theorem dX7_comesTrue_22 : decode cX7_comesTrue 22 = .ok (.iload_n 1, 1) := by decide +kernel
theorem dX7_comesTrue_23 : decode cX7_comesTrue 23 = .ok (.bipush 10, 2) := by decide +kernel
theorem dX7_comesTrue_25 : decode cX7_comesTrue 25 = .ok (.idiv, 1) := by decide +kernel
theorem dX7_comesTrue_26 : decode cX7_comesTrue 26 = .ok (.bipush 100, 2) := by decide +kernel
theorem dX7_comesTrue_28 : decode cX7_comesTrue 28 = .ok (.irem, 1) := by decide +kernel
theorem dX7_comesTrue_29 : decode cX7_comesTrue 29 = .ok (.istore 5, 2) := by decide +kernel
theorem dX7_comesTrue_31 : decode cX7_comesTrue 31 = .ok (.iload_n 1, 1) := by decide +kernel
theorem dX7_comesTrue_32 : decode cX7_comesTrue 32 = .ok (.sipush 1000, 3) := by decide +kernel
theorem dX7_comesTrue_35 : decode cX7_comesTrue 35 = .ok (.idiv, 1) := by decide +kernel
theorem dX7_comesTrue_36 : decode cX7_comesTrue 36 = .ok (.tableswitch 235 1 7 #[44, 64, 103, 134, 143, 167, 212], 44) := by decide +kernel
theorem dX7_comesTrue_80 : decode cX7_comesTrue 80 = .ok (.iload_n 3, 1) := by decide +kernel
theorem dX7_comesTrue_81 : decode cX7_comesTrue 81 = .ok (.ifCond .ne 17, 3) := by decide +kernel
theorem dX7_comesTrue_84 : decode cX7_comesTrue 84 = .ok (.aload_n 0, 1) := by decide +kernel
theorem dX7_comesTrue_85 : decode cX7_comesTrue 85 = .ok (.iload_n 2, 1) := by decide +kernel
theorem dX7_comesTrue_86 : decode cX7_comesTrue 86 = .ok (.iload 4, 2) := by decide +kernel
theorem dX7_comesTrue_88 : decode cX7_comesTrue 88 = .ok (.invokevirtual 251, 3) := by decide +kernel
theorem dX7_comesTrue_91 : decode cX7_comesTrue 91 = .ok (.ifCond .eq 7, 3) := by decide +kernel
theorem dX7_comesTrue_94 : decode cX7_comesTrue 94 = .ok (.iconst 1, 1) := by decide +kernel
theorem dX7_comesTrue_95 : decode cX7_comesTrue 95 = .ok (.goto 4, 3) := by decide +kernel
theorem dX7_comesTrue_98 : decode cX7_comesTrue 98 = .ok (.iconst 0, 1) := by decide +kernel
theorem dX7_comesTrue_99 : decode cX7_comesTrue 99 = .ok (.ireturn, 1) := by decide +kernel
theorem dX7_comesTrue_100 : decode cX7_comesTrue 100 = .ok (.iload 5, 2) := by decide +kernel
theorem dX7_comesTrue_102 : decode cX7_comesTrue 102 = .ok (.invokestatic 132, 3) := by decide +kernel
theorem dX7_comesTrue_105 : decode cX7_comesTrue 105 = .ok (.ifCond .eq 32, 3) := by decide +kernel
theorem dX7_comesTrue_108 : decode cX7_comesTrue 108 = .ok (.aload_n 0, 1) := by decide +kernel
theorem dX7_comesTrue_109 : decode cX7_comesTrue 109 = .ok (.iload 4, 2) := by decide +kernel
theorem dX7_comesTrue_111 : decode cX7_comesTrue 111 = .ok (.invokevirtual 114, 3) := by decide +kernel
theorem dX7_comesTrue_114 : decode cX7_comesTrue 114 = .ok (.ifCond .eq 23, 3) := by decide +kernel
theorem dX7_comesTrue_117 : decode cX7_comesTrue 117 = .ok (.aload_n 0, 1) := by decide +kernel
theorem dX7_comesTrue_118 : decode cX7_comesTrue 118 = .ok (.getfield 23, 3) := by decide +kernel
theorem dX7_comesTrue_121 : decode cX7_comesTrue 121 = .ok (.iload 4, 2) := by decide +kernel
theorem dX7_comesTrue_123 : decode cX7_comesTrue 123 = .ok (.iload 5, 2) := by decide +kernel
theorem dX7_comesTrue_125 : decode cX7_comesTrue 125 = .ok (.invokevirtual 186, 3) := by decide +kernel
theorem dX7_comesTrue_128 : decode cX7_comesTrue 128 = .ok (.bipush (-9), 2) := by decide +kernel
theorem dX7_comesTrue_130 : decode cX7_comesTrue 130 = .ok (.if_icmp .eq 7, 3) := by decide +kernel
theorem dX7_comesTrue_133 : decode cX7_comesTrue 133 = .ok (.iconst 1, 1) := by decide +kernel
theorem dX7_comesTrue_134 : decode cX7_comesTrue 134 = .ok (.goto 4, 3) := by decide +kernel
theorem dX7_comesTrue_137 : decode cX7_comesTrue 137 = .ok (.iconst 0, 1) := by decide +kernel
theorem dX7_comesTrue_138 : decode cX7_comesTrue 138 = .ok (.ireturn, 1) := by decide +kernel
theorem dX7_comesTrue_139 : decode cX7_comesTrue 139 = .ok (.iload 5, 2) := by decide +kernel
theorem dX7_comesTrue_141 : decode cX7_comesTrue 141 = .ok (.invokestatic 132, 3) := by decide +kernel
theorem dX7_comesTrue_144 : decode cX7_comesTrue 144 = .ok (.ifCond .eq 24, 3) := by decide +kernel
theorem dX7_comesTrue_147 : decode cX7_comesTrue 147 = .ok (.aload_n 0, 1) := by decide +kernel
theorem dX7_comesTrue_148 : decode cX7_comesTrue 148 = .ok (.getfield 23, 3) := by decide +kernel
theorem dX7_comesTrue_151 : decode cX7_comesTrue 151 = .ok (.iload 5, 2) := by decide +kernel
theorem dX7_comesTrue_153 : decode cX7_comesTrue 153 = .ok (.iload 4, 2) := by decide +kernel
theorem dX7_comesTrue_155 : decode cX7_comesTrue 155 = .ok (.iconst (-1), 1) := by decide +kernel
theorem dX7_comesTrue_156 : decode cX7_comesTrue 156 = .ok (.invokevirtual 195, 3) := by decide +kernel
theorem dX7_comesTrue_159 : decode cX7_comesTrue 159 = .ok (.bipush (-9), 2) := by decide +kernel
theorem dX7_comesTrue_161 : decode cX7_comesTrue 161 = .ok (.if_icmp .eq 7, 3) := by decide +kernel
theorem dX7_comesTrue_164 : decode cX7_comesTrue 164 = .ok (.iconst 1, 1) := by decide +kernel
theorem dX7_comesTrue_165 : decode cX7_comesTrue 165 = .ok (.goto 4, 3) := by decide +kernel
theorem dX7_comesTrue_168 : decode cX7_comesTrue 168 = .ok (.iconst 0, 1) := by decide +kernel
theorem dX7_comesTrue_169 : decode cX7_comesTrue 169 = .ok (.ireturn, 1) := by decide +kernel
theorem dX7_comesTrue_170 : decode cX7_comesTrue 170 = .ok (.aload_n 0, 1) := by decide +kernel
theorem dX7_comesTrue_171 : decode cX7_comesTrue 171 = .ok (.iload_n 2, 1) := by decide +kernel
theorem dX7_comesTrue_172 : decode cX7_comesTrue 172 = .ok (.iload_n 3, 1) := by decide +kernel
theorem dX7_comesTrue_173 : decode cX7_comesTrue 173 = .ok (.iload 4, 2) := by decide +kernel
theorem dX7_comesTrue_175 : decode cX7_comesTrue 175 = .ok (.invokevirtual 255, 3) := by decide +kernel
theorem dX7_comesTrue_178 : decode cX7_comesTrue 178 = .ok (.ireturn, 1) := by decide +kernel
theorem dX7_comesTrue_179 : decode cX7_comesTrue 179 = .ok (.iload_n 2, 1) := by decide +kernel
theorem dX7_comesTrue_180 : decode cX7_comesTrue 180 = .ok (.ifCond .ne 21, 3) := by decide +kernel
theorem dX7_comesTrue_183 : decode cX7_comesTrue 183 = .ok (.aload_n 0, 1) := by decide +kernel
theorem dX7_comesTrue_184 : decode cX7_comesTrue 184 = .ok (.getfield 23, 3) := by decide +kernel
theorem dX7_comesTrue_187 : decode cX7_comesTrue 187 = .ok (.invokevirtual 203, 3) := by decide +kernel
theorem dX7_comesTrue_190 : decode cX7_comesTrue 190 = .ok (.iload_n 1, 1) := by decide +kernel
theorem dX7_comesTrue_191 : decode cX7_comesTrue 191 = .ok (.bipush 100, 2) := by decide +kernel
theorem dX7_comesTrue_193 : decode cX7_comesTrue 193 = .ok (.irem, 1) := by decide +kernel
theorem dX7_comesTrue_194 : decode cX7_comesTrue 194 = .ok (.if_icmp .ne 7, 3) := by decide +kernel
theorem dX7_comesTrue_197 : decode cX7_comesTrue 197 = .ok (.iconst 1, 1) := by decide +kernel
theorem dX7_comesTrue_198 : decode cX7_comesTrue 198 = .ok (.goto 4, 3) := by decide +kernel
theorem dX7_comesTrue_201 : decode cX7_comesTrue 201 = .ok (.iconst 0, 1) := by decide +kernel
theorem dX7_comesTrue_202 : decode cX7_comesTrue 202 = .ok (.ireturn, 1) := by decide +kernel
theorem dX7_comesTrue_203 : decode cX7_comesTrue 203 = .ok (.iload 5, 2) := by decide +kernel
theorem dX7_comesTrue_205 : decode cX7_comesTrue 205 = .ok (.invokestatic 132, 3) := by decide +kernel
theorem dX7_comesTrue_208 : decode cX7_comesTrue 208 = .ok (.ifCond .eq 38, 3) := by decide +kernel
theorem dX7_comesTrue_211 : decode cX7_comesTrue 211 = .ok (.aload_n 0, 1) := by decide +kernel
theorem dX7_comesTrue_212 : decode cX7_comesTrue 212 = .ok (.iload 4, 2) := by decide +kernel
theorem dX7_comesTrue_214 : decode cX7_comesTrue 214 = .ok (.invokevirtual 114, 3) := by decide +kernel
theorem dX7_comesTrue_217 : decode cX7_comesTrue 217 = .ok (.ifCond .eq 29, 3) := by decide +kernel
theorem dX7_comesTrue_220 : decode cX7_comesTrue 220 = .ok (.aload_n 0, 1) := by decide +kernel
theorem dX7_comesTrue_221 : decode cX7_comesTrue 221 = .ok (.getfield 23, 3) := by decide +kernel
theorem dX7_comesTrue_224 : decode cX7_comesTrue 224 = .ok (.aload_n 0, 1) := by decide +kernel
theorem dX7_comesTrue_225 : decode cX7_comesTrue 225 = .ok (.getfield 23, 3) := by decide +kernel
theorem dX7_comesTrue_228 : decode cX7_comesTrue 228 = .ok (.iload 5, 2) := by decide +kernel
theorem dX7_comesTrue_230 : decode cX7_comesTrue 230 = .ok (.invokevirtual 189, 3) := by decide +kernel
theorem dX7_comesTrue_233 : decode cX7_comesTrue 233 = .ok (.iconst 0, 1) := by decide +kernel
theorem dX7_comesTrue_234 : decode cX7_comesTrue 234 = .ok (.invokevirtual 259, 3) := by decide +kernel
theorem dX7_comesTrue_237 : decode cX7_comesTrue 237 = .ok (.iload 4, 2) := by decide +kernel
theorem dX7_comesTrue_239 : decode cX7_comesTrue 239 = .ok (.if_icmp .ne 7, 3) := by decide +kernel
theorem dX7_comesTrue_242 : decode cX7_comesTrue 242 = .ok (.iconst 1, 1) := by decide +kernel
theorem dX7_comesTrue_243 : decode cX7_comesTrue 243 = .ok (.goto 4, 3) := by decide +kernel
theorem dX7_comesTrue_246 : decode cX7_comesTrue 246 = .ok (.iconst 0, 1) := by decide +kernel
theorem dX7_comesTrue_247 : decode cX7_comesTrue 247 = .ok (.ireturn, 1) := by decide +kernel
theorem dX7_comesTrue_248 : decode cX7_comesTrue 248 = .ok (.iload_n 1, 1) := by decide +kernel
theorem dX7_comesTrue_249 : decode cX7_comesTrue 249 = .ok (.sipush 7000, 3) := by decide +kernel
theorem dX7_comesTrue_252 : decode cX7_comesTrue 252 = .ok (.if_icmp .ne 17, 3) := by decide +kernel
theorem dX7_comesTrue_255 : decode cX7_comesTrue 255 = .ok (.aload_n 0, 1) := by decide +kernel
theorem dX7_comesTrue_256 : decode cX7_comesTrue 256 = .ok (.getfield 38, 3) := by decide +kernel
theorem dX7_comesTrue_259 : decode cX7_comesTrue 259 = .ok (.invokevirtual 175, 3) := by decide +kernel
theorem dX7_comesTrue_262 : decode cX7_comesTrue 262 = .ok (.ifCond .eq 7, 3) := by decide +kernel
theorem dX7_comesTrue_265 : decode cX7_comesTrue 265 = .ok (.iconst 1, 1) := by decide +kernel
theorem dX7_comesTrue_266 : decode cX7_comesTrue 266 = .ok (.goto 4, 3) := by decide +kernel
theorem dX7_comesTrue_269 : decode cX7_comesTrue 269 = .ok (.iconst 0, 1) := by decide +kernel
theorem dX7_comesTrue_270 : decode cX7_comesTrue 270 = .ok (.ireturn, 1) := by decide +kernel
theorem dX7_comesTrue_271 : decode cX7_comesTrue 271 = .ok (.iconst 0, 1) := by decide +kernel
theorem dX7_comesTrue_272 : decode cX7_comesTrue 272 = .ok (.ireturn, 1) := by decide +kernel
theorem dX7_delayForNow_0 : decode cX7_delayForNow 0 = .ok (.aload_n 0, 1) := by decide +kernel
theorem dX7_delayForNow_1 : decode cX7_delayForNow 1 = .ok (.iload_n 1, 1) := by decide +kernel
theorem dX7_delayForNow_2 : decode cX7_delayForNow 2 = .ok (.invokevirtual 114, 3) := by decide +kernel
theorem dX7_delayForNow_5 : decode cX7_delayForNow 5 = .ok (.ifCond .ne 5, 3) := by decide +kernel
theorem dX7_delayForNow_8 : decode cX7_delayForNow 8 = .ok (.iconst 0, 1) := by decide +kernel
theorem dX7_delayForNow_9 : decode cX7_delayForNow 9 = .ok (.ireturn, 1) := by decide +kernel
theorem dX7_delayForNow_10 : decode cX7_delayForNow 10 = .ok (.aload_n 0, 1) := by decide +kernel
theorem dX7_delayForNow_11 : decode cX7_delayForNow 11 = .ok (.getfield 38, 3) := by decide +kernel
theorem dX7_delayForNow_14 : decode cX7_delayForNow 14 = .ok (.getfield 120, 3) := by decide +kernel
theorem dX7_delayForNow_17 : decode cX7_delayForNow 17 = .ok (.iload_n 1, 1) := by decide +kernel
theorem dX7_delayForNow_18 : decode cX7_delayForNow 18 = .ok (.iload_n 2, 1) := by decide +kernel
theorem dX7_delayForNow_19 : decode cX7_delayForNow 19 = .ok (.iastore, 1) := by decide +kernel
theorem dX7_delayForNow_20 : decode cX7_delayForNow 20 = .ok (.iconst 1, 1) := by decide +kernel
theorem dX7_delayForNow_21 : decode cX7_delayForNow 21 = .ok (.ireturn, 1) := by decide +kernel
theorem dX7_redrawForNow_0 : decode cX7_redrawForNow 0 = .ok (.aload_n 0, 1) := by decide +kernel
theorem dX7_redrawForNow_1 : decode cX7_redrawForNow 1 = .ok (.iload_n 1, 1) := by decide +kernel
theorem dX7_redrawForNow_2 : decode cX7_redrawForNow 2 = .ok (.invokevirtual 100, 3) := by decide +kernel
theorem dX7_redrawForNow_5 : decode cX7_redrawForNow 5 = .ok (.ifCond .eq 13, 3) := by decide +kernel
theorem dX7_redrawForNow_8 : decode cX7_redrawForNow 8 = .ok (.iload_n 3, 1) := by decide +kernel
theorem dX7_redrawForNow_9 : decode cX7_redrawForNow 9 = .ok (.iconst 1, 1) := by decide +kernel
theorem dX7_redrawForNow_10 : decode cX7_redrawForNow 10 = .ok (.if_icmp .lt 8, 3) := by decide +kernel
theorem dX7_redrawForNow_13 : decode cX7_redrawForNow 13 = .ok (.iload_n 3, 1) := by decide +kernel
theorem dX7_redrawForNow_14 : decode cX7_redrawForNow 14 = .ok (.iconst 5, 1) := by decide +kernel
theorem dX7_redrawForNow_15 : decode cX7_redrawForNow 15 = .ok (.if_icmp .le 5, 3) := by decide +kernel
theorem dX7_redrawForNow_18 : decode cX7_redrawForNow 18 = .ok (.iconst 0, 1) := by decide +kernel
theorem dX7_redrawForNow_19 : decode cX7_redrawForNow 19 = .ok (.ireturn, 1) := by decide +kernel
theorem dX7_redrawForNow_20 : decode cX7_redrawForNow 20 = .ok (.aload_n 0, 1) := by decide +kernel
theorem dX7_redrawForNow_21 : decode cX7_redrawForNow 21 = .ok (.getfield 38, 3) := by decide +kernel
theorem dX7_redrawForNow_24 : decode cX7_redrawForNow 24 = .ok (.getfield 104, 3) := by decide +kernel
theorem dX7_redrawForNow_27 : decode cX7_redrawForNow 27 = .ok (.iload_n 1, 1) := by decide +kernel
theorem dX7_redrawForNow_28 : decode cX7_redrawForNow 28 = .ok (.iload_n 2, 1) := by decide +kernel
theorem dX7_redrawForNow_29 : decode cX7_redrawForNow 29 = .ok (.iastore, 1) := by decide +kernel
theorem dX7_redrawForNow_30 : decode cX7_redrawForNow 30 = .ok (.aload_n 0, 1) := by decide +kernel
theorem dX7_redrawForNow_31 : decode cX7_redrawForNow 31 = .ok (.getfield 38, 3) := by decide +kernel
theorem dX7_redrawForNow_34 : decode cX7_redrawForNow 34 = .ok (.getfield 107, 3) := by decide +kernel
theorem dX7_redrawForNow_37 : decode cX7_redrawForNow 37 = .ok (.iload_n 1, 1) := by decide +kernel
theorem dX7_redrawForNow_38 : decode cX7_redrawForNow 38 = .ok (.iload_n 3, 1) := by decide +kernel
theorem dX7_redrawForNow_39 : decode cX7_redrawForNow 39 = .ok (.iastore, 1) := by decide +kernel
theorem dX7_redrawForNow_40 : decode cX7_redrawForNow 40 = .ok (.iconst 1, 1) := by decide +kernel
theorem dX7_redrawForNow_41 : decode cX7_redrawForNow 41 = .ok (.ireturn, 1) := by decide +kernel
theorem dX7_fractionPart_0 : decode cX7_fractionPart 0 = .ok (.iload_n 2, 1) := by decide +kernel
theorem dX7_fractionPart_1 : decode cX7_fractionPart 1 = .ok (.ifCond .eq 7, 3) := by decide +kernel
theorem dX7_fractionPart_4 : decode cX7_fractionPart 4 = .ok (.iload_n 0, 1) := by decide +kernel
theorem dX7_fractionPart_5 : decode cX7_fractionPart 5 = .ok (.goto 4, 3) := by decide +kernel
theorem dX7_fractionPart_8 : decode cX7_fractionPart 8 = .ok (.iload_n 1, 1) := by decide +kernel
theorem dX7_fractionPart_9 : decode cX7_fractionPart 9 = .ok (.istore_n 3, 1) := by decide +kernel
theorem dX7_fractionPart_10 : decode cX7_fractionPart 10 = .ok (.iload_n 0, 1) := by decide +kernel
theorem dX7_fractionPart_11 : decode cX7_fractionPart 11 = .ok (.iload_n 1, 1) := by decide +kernel
theorem dX7_fractionPart_12 : decode cX7_fractionPart 12 = .ok (.invokestatic 262, 3) := by decide +kernel
theorem dX7_fractionPart_15 : decode cX7_fractionPart 15 = .ok (.istore 4, 2) := by decide +kernel
theorem dX7_fractionPart_17 : decode cX7_fractionPart 17 = .ok (.iload 4, 2) := by decide +kernel
theorem dX7_fractionPart_19 : decode cX7_fractionPart 19 = .ok (.iconst 1, 1) := by decide +kernel
theorem dX7_fractionPart_20 : decode cX7_fractionPart 20 = .ok (.if_icmp .ge 7, 3) := by decide +kernel
theorem dX7_fractionPart_23 : decode cX7_fractionPart 23 = .ok (.iload_n 3, 1) := by decide +kernel
theorem dX7_fractionPart_24 : decode cX7_fractionPart 24 = .ok (.goto 7, 3) := by decide +kernel
theorem dX7_fractionPart_27 : decode cX7_fractionPart 27 = .ok (.iload_n 3, 1) := by decide +kernel
theorem dX7_fractionPart_28 : decode cX7_fractionPart 28 = .ok (.iload 4, 2) := by decide +kernel
theorem dX7_fractionPart_30 : decode cX7_fractionPart 30 = .ok (.idiv, 1) := by decide +kernel
theorem dX7_fractionPart_31 : decode cX7_fractionPart 31 = .ok (.ireturn, 1) := by decide +kernel
theorem dX7_commonDivisor_0 : decode cX7_commonDivisor 0 = .ok (.iload_n 0, 1) := by decide +kernel
theorem dX7_commonDivisor_1 : decode cX7_commonDivisor 1 = .ok (.istore_n 2, 1) := by decide +kernel
theorem dX7_commonDivisor_2 : decode cX7_commonDivisor 2 = .ok (.iload_n 1, 1) := by decide +kernel
theorem dX7_commonDivisor_3 : decode cX7_commonDivisor 3 = .ok (.istore_n 3, 1) := by decide +kernel
theorem dX7_commonDivisor_4 : decode cX7_commonDivisor 4 = .ok (.iconst 0, 1) := by decide +kernel
theorem dX7_commonDivisor_5 : decode cX7_commonDivisor 5 = .ok (.istore 4, 2) := by decide +kernel
theorem dX7_commonDivisor_7 : decode cX7_commonDivisor 7 = .ok (.iload 4, 2) := by decide +kernel
theorem dX7_commonDivisor_9 : decode cX7_commonDivisor 9 = .ok (.bipush 64, 2) := by decide +kernel
theorem dX7_commonDivisor_11 : decode cX7_commonDivisor 11 = .ok (.if_icmp .ge 23, 3) := by decide +kernel
theorem dX7_commonDivisor_14 : decode cX7_commonDivisor 14 = .ok (.iload_n 3, 1) := by decide +kernel
theorem dX7_commonDivisor_15 : decode cX7_commonDivisor 15 = .ok (.ifCond .eq 19, 3) := by decide +kernel
theorem dX7_commonDivisor_18 : decode cX7_commonDivisor 18 = .ok (.iload_n 2, 1) := by decide +kernel
theorem dX7_commonDivisor_19 : decode cX7_commonDivisor 19 = .ok (.iload_n 3, 1) := by decide +kernel
theorem dX7_commonDivisor_20 : decode cX7_commonDivisor 20 = .ok (.irem, 1) := by decide +kernel
theorem dX7_commonDivisor_21 : decode cX7_commonDivisor 21 = .ok (.istore 5, 2) := by decide +kernel
theorem dX7_commonDivisor_23 : decode cX7_commonDivisor 23 = .ok (.iload_n 3, 1) := by decide +kernel
theorem dX7_commonDivisor_24 : decode cX7_commonDivisor 24 = .ok (.istore_n 2, 1) := by decide +kernel
theorem dX7_commonDivisor_25 : decode cX7_commonDivisor 25 = .ok (.iload 5, 2) := by decide +kernel
theorem dX7_commonDivisor_27 : decode cX7_commonDivisor 27 = .ok (.istore_n 3, 1) := by decide +kernel
theorem dX7_commonDivisor_28 : decode cX7_commonDivisor 28 = .ok (.iinc 4 1, 3) := by decide +kernel
theorem dX7_commonDivisor_31 : decode cX7_commonDivisor 31 = .ok (.goto (-24), 3) := by decide +kernel
theorem dX7_commonDivisor_34 : decode cX7_commonDivisor 34 = .ok (.iload_n 2, 1) := by decide +kernel
theorem dX7_commonDivisor_35 : decode cX7_commonDivisor 35 = .ok (.ireturn, 1) := by decide +kernel
