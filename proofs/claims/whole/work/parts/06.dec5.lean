theorem dX8_bestDelay_9 : decode cX8_bestDelay 9 = .ok (.bipush 10, 2) := by decide +kernel
theorem dX8_bestDelay_11 : decode cX8_bestDelay 11 = .ok (.if_icmp .ge 51, 3) := by decide +kernel
theorem dX8_bestDelay_14 : decode cX8_bestDelay 14 = .ok (.aload_n 0, 1) := by decide +kernel
theorem dX8_bestDelay_15 : decode cX8_bestDelay 15 = .ok (.invokevirtual 162, 3) := by decide +kernel
theorem dX8_bestDelay_18 : decode cX8_bestDelay 18 = .ok (.aload_n 0, 1) := by decide +kernel
theorem dX8_bestDelay_19 : decode cX8_bestDelay 19 = .ok (.getfield 38, 3) := by decide +kernel
theorem dX8_bestDelay_22 : decode cX8_bestDelay 22 = .ok (.bipush 12, 2) := by decide +kernel
theorem dX8_bestDelay_24 : decode cX8_bestDelay 24 = .ok (.iload_n 1, 1) := by decide +kernel
theorem dX8_bestDelay_25 : decode cX8_bestDelay 25 = .ok (.iadd, 1) := by decide +kernel
theorem dX8_bestDelay_26 : decode cX8_bestDelay 26 = .ok (.iload 4, 2) := by decide +kernel
theorem dX8_bestDelay_28 : decode cX8_bestDelay 28 = .ok (.iastore, 1) := by decide +kernel
theorem dX8_bestDelay_29 : decode cX8_bestDelay 29 = .ok (.aload_n 0, 1) := by decide +kernel
theorem dX8_bestDelay_30 : decode cX8_bestDelay 30 = .ok (.aload_n 0, 1) := by decide +kernel
theorem dX8_bestDelay_31 : decode cX8_bestDelay 31 = .ok (.getfield 38, 3) := by decide +kernel
theorem dX8_bestDelay_34 : decode cX8_bestDelay 34 = .ok (.invokevirtual 165, 3) := by decide +kernel
theorem dX8_bestDelay_37 : decode cX8_bestDelay 37 = .ok (.istore 5, 2) := by decide +kernel
theorem dX8_bestDelay_39 : decode cX8_bestDelay 39 = .ok (.iload 4, 2) := by decide +kernel
theorem dX8_bestDelay_41 : decode cX8_bestDelay 41 = .ok (.ifCond .eq 9, 3) := by decide +kernel
theorem dX8_bestDelay_44 : decode cX8_bestDelay 44 = .ok (.iload 5, 2) := by decide +kernel
theorem dX8_bestDelay_46 : decode cX8_bestDelay 46 = .ok (.iload_n 3, 1) := by decide +kernel
theorem dX8_bestDelay_47 : decode cX8_bestDelay 47 = .ok (.if_icmp .ge 9, 3) := by decide +kernel
theorem dX8_bestDelay_50 : decode cX8_bestDelay 50 = .ok (.iload 4, 2) := by decide +kernel
theorem dX8_bestDelay_52 : decode cX8_bestDelay 52 = .ok (.istore_n 2, 1) := by decide +kernel
theorem dX8_bestDelay_53 : decode cX8_bestDelay 53 = .ok (.iload 5, 2) := by decide +kernel
theorem dX8_bestDelay_55 : decode cX8_bestDelay 55 = .ok (.istore_n 3, 1) := by decide +kernel
theorem dX8_bestDelay_56 : decode cX8_bestDelay 56 = .ok (.iinc 4 1, 3) := by decide +kernel
theorem dX8_bestDelay_59 : decode cX8_bestDelay 59 = .ok (.goto (-52), 3) := by decide +kernel
theorem dX8_bestDelay_62 : decode cX8_bestDelay 62 = .ok (.iload_n 2, 1) := by decide +kernel
theorem dX8_bestDelay_63 : decode cX8_bestDelay 63 = .ok (.ireturn, 1) := by decide +kernel
theorem dX8_drawing_0 : decode cX8_drawing 0 = .ok (.aload_n 0, 1) := by decide +kernel
theorem dX8_drawing_1 : decode cX8_drawing 1 = .ok (.iconst 0, 1) := by decide +kernel
theorem dX8_drawing_2 : decode cX8_drawing 2 = .ok (.putfield 69, 3) := by decide +kernel
theorem dX8_drawing_5 : decode cX8_drawing 5 = .ok (.aload_n 0, 1) := by decide +kernel
theorem dX8_drawing_6 : decode cX8_drawing 6 = .ok (.iload_n 1, 1) := by decide +kernel
theorem dX8_drawing_7 : decode cX8_drawing 7 = .ok (.invokevirtual 169, 3) := by decide +kernel
theorem dX8_drawing_10 : decode cX8_drawing 10 = .ok (.ifCond .eq 5, 3) := by decide +kernel
theorem dX8_drawing_13 : decode cX8_drawing 13 = .ok (.iconst (-1), 1) := by decide +kernel
theorem dX8_drawing_14 : decode cX8_drawing 14 = .ok (.ireturn, 1) := by decide +kernel
theorem dX8_drawing_15 : decode cX8_drawing 15 = .ok (.iload_n 2, 1) := by decide +kernel
theorem dX8_drawing_16 : decode cX8_drawing 16 = .ok (.tableswitch 57 0 2 #[28, 37, 47], 28) := by decide +kernel
theorem dX8_drawing_44 : decode cX8_drawing 44 = .ok (.aload_n 0, 1) := by decide +kernel
theorem dX8_drawing_45 : decode cX8_drawing 45 = .ok (.getfield 35, 3) := by decide +kernel
theorem dX8_drawing_48 : decode cX8_drawing 48 = .ok (.iconst 0, 1) := by decide +kernel
theorem dX8_drawing_49 : decode cX8_drawing 49 = .ok (.iload_n 1, 1) := by decide +kernel
theorem dX8_drawing_50 : decode cX8_drawing 50 = .ok (.iadd, 1) := by decide +kernel
theorem dX8_drawing_51 : decode cX8_drawing 51 = .ok (.iaload, 1) := by decide +kernel
theorem dX8_drawing_52 : decode cX8_drawing 52 = .ok (.ireturn, 1) := by decide +kernel
theorem dX8_drawing_53 : decode cX8_drawing 53 = .ok (.aload_n 0, 1) := by decide +kernel
theorem dX8_drawing_54 : decode cX8_drawing 54 = .ok (.getfield 35, 3) := by decide +kernel
theorem dX8_drawing_57 : decode cX8_drawing 57 = .ok (.bipush 6, 2) := by decide +kernel
theorem dX8_drawing_59 : decode cX8_drawing 59 = .ok (.iload_n 1, 1) := by decide +kernel
theorem dX8_drawing_60 : decode cX8_drawing 60 = .ok (.iadd, 1) := by decide +kernel
theorem dX8_drawing_61 : decode cX8_drawing 61 = .ok (.iaload, 1) := by decide +kernel
theorem dX8_drawing_62 : decode cX8_drawing 62 = .ok (.ireturn, 1) := by decide +kernel
theorem dX8_drawing_63 : decode cX8_drawing 63 = .ok (.aload_n 0, 1) := by decide +kernel
theorem dX8_drawing_64 : decode cX8_drawing 64 = .ok (.aload_n 0, 1) := by decide +kernel
theorem dX8_drawing_65 : decode cX8_drawing 65 = .ok (.getfield 35, 3) := by decide +kernel
theorem dX8_drawing_68 : decode cX8_drawing 68 = .ok (.iload_n 1, 1) := by decide +kernel
theorem dX8_drawing_69 : decode cX8_drawing 69 = .ok (.invokevirtual 144, 3) := by decide +kernel
theorem dX8_drawing_72 : decode cX8_drawing 72 = .ok (.ireturn, 1) := by decide +kernel
theorem dX8_drawing_73 : decode cX8_drawing 73 = .ok (.bipush (-2), 2) := by decide +kernel
theorem dX8_drawing_75 : decode cX8_drawing 75 = .ok (.ireturn, 1) := by decide +kernel
theorem dX8_level_0 : decode cX8_level 0 = .ok (.aload_n 0, 1) := by decide +kernel
theorem dX8_level_1 : decode cX8_level 1 = .ok (.iconst 0, 1) := by decide +kernel
theorem dX8_level_2 : decode cX8_level 2 = .ok (.putfield 69, 3) := by decide +kernel
theorem dX8_level_5 : decode cX8_level 5 = .ok (.aload_n 0, 1) := by decide +kernel
theorem dX8_level_6 : decode cX8_level 6 = .ok (.iload_n 1, 1) := by decide +kernel
theorem dX8_level_7 : decode cX8_level 7 = .ok (.invokevirtual 173, 3) := by decide +kernel
theorem dX8_level_10 : decode cX8_level 10 = .ok (.ifCond .eq 5, 3) := by decide +kernel
theorem dX8_level_13 : decode cX8_level 13 = .ok (.iconst (-1), 1) := by decide +kernel
theorem dX8_level_14 : decode cX8_level 14 = .ok (.ireturn, 1) := by decide +kernel
theorem dX8_level_15 : decode cX8_level 15 = .ok (.iload_n 2, 1) := by decide +kernel
theorem dX8_level_16 : decode cX8_level 16 = .ok (.tableswitch 61 0 3 #[32, 39, 49, 55], 32) := by decide +kernel
theorem dX8_level_48 : decode cX8_level 48 = .ok (.aload_n 0, 1) := by decide +kernel
theorem dX8_level_49 : decode cX8_level 49 = .ok (.getfield 16, 3) := by decide +kernel
theorem dX8_level_52 : decode cX8_level 52 = .ok (.iload_n 1, 1) := by decide +kernel
theorem dX8_level_53 : decode cX8_level 53 = .ok (.iaload, 1) := by decide +kernel
theorem dX8_level_54 : decode cX8_level 54 = .ok (.ireturn, 1) := by decide +kernel
theorem dX8_level_55 : decode cX8_level 55 = .ok (.aload_n 0, 1) := by decide +kernel
theorem dX8_level_56 : decode cX8_level 56 = .ok (.getfield 35, 3) := by decide +kernel
theorem dX8_level_59 : decode cX8_level 59 = .ok (.bipush 12, 2) := by decide +kernel
theorem dX8_level_61 : decode cX8_level 61 = .ok (.iload_n 1, 1) := by decide +kernel
theorem dX8_level_62 : decode cX8_level 62 = .ok (.iadd, 1) := by decide +kernel
theorem dX8_level_63 : decode cX8_level 63 = .ok (.iaload, 1) := by decide +kernel
theorem dX8_level_64 : decode cX8_level 64 = .ok (.ireturn, 1) := by decide +kernel
theorem dX8_level_65 : decode cX8_level 65 = .ok (.aload_n 0, 1) := by decide +kernel
theorem dX8_level_66 : decode cX8_level 66 = .ok (.iload_n 1, 1) := by decide +kernel
theorem dX8_level_67 : decode cX8_level 67 = .ok (.invokevirtual 176, 3) := by decide +kernel
theorem dX8_level_70 : decode cX8_level 70 = .ok (.ireturn, 1) := by decide +kernel
theorem dX8_level_71 : decode cX8_level 71 = .ok (.aload_n 0, 1) := by decide +kernel
theorem dX8_level_72 : decode cX8_level 72 = .ok (.iload_n 1, 1) := by decide +kernel
theorem dX8_level_73 : decode cX8_level 73 = .ok (.invokevirtual 180, 3) := by decide +kernel
theorem dX8_level_76 : decode cX8_level 76 = .ok (.ireturn, 1) := by decide +kernel
theorem dX8_level_77 : decode cX8_level 77 = .ok (.bipush (-2), 2) := by decide +kernel
theorem dX8_level_79 : decode cX8_level 79 = .ok (.ireturn, 1) := by decide +kernel
theorem dX8_where_0 : decode cX8_where 0 = .ok (.aload_n 0, 1) := by decide +kernel
theorem dX8_where_1 : decode cX8_where 1 = .ok (.iconst 0, 1) := by decide +kernel
theorem dX8_where_2 : decode cX8_where 2 = .ok (.putfield 69, 3) := by decide +kernel
theorem dX8_where_5 : decode cX8_where 5 = .ok (.iload_n 1, 1) := by decide +kernel
theorem dX8_where_6 : decode cX8_where 6 = .ok (.bipush 9, 2) := by decide +kernel
theorem dX8_where_8 : decode cX8_where 8 = .ok (.if_icmp .eq 13, 3) := by decide +kernel
theorem dX8_where_11 : decode cX8_where 11 = .ok (.aload_n 0, 1) := by decide +kernel
theorem dX8_where_12 : decode cX8_where 12 = .ok (.iload_n 1, 1) := by decide +kernel
theorem dX8_where_13 : decode cX8_where 13 = .ok (.invokevirtual 173, 3) := by decide +kernel
theorem dX8_where_16 : decode cX8_where 16 = .ok (.ifCond .eq 5, 3) := by decide +kernel
theorem dX8_where_19 : decode cX8_where 19 = .ok (.iconst (-1), 1) := by decide +kernel
theorem dX8_where_20 : decode cX8_where 20 = .ok (.ireturn, 1) := by decide +kernel
theorem dX8_where_21 : decode cX8_where 21 = .ok (.iload_n 2, 1) := by decide +kernel
theorem dX8_where_22 : decode cX8_where 22 = .ok (.invokestatic 183, 3) := by decide +kernel
theorem dX8_where_25 : decode cX8_where 25 = .ok (.ifCond .eq 29, 3) := by decide +kernel
theorem dX8_where_28 : decode cX8_where 28 = .ok (.aload_n 0, 1) := by decide +kernel
theorem dX8_where_29 : decode cX8_where 29 = .ok (.getfield 35, 3) := by decide +kernel
theorem dX8_where_32 : decode cX8_where 32 = .ok (.iload_n 1, 1) := by decide +kernel
theorem dX8_where_33 : decode cX8_where 33 = .ok (.bipush 9, 2) := by decide +kernel
theorem dX8_where_35 : decode cX8_where 35 = .ok (.if_icmp .ne 7, 3) := by decide +kernel
theorem dX8_where_38 : decode cX8_where 38 = .ok (.iconst 4, 1) := by decide +kernel
theorem dX8_where_39 : decode cX8_where 39 = .ok (.goto 4, 3) := by decide +kernel
theorem dX8_where_42 : decode cX8_where 42 = .ok (.iload_n 1, 1) := by decide +kernel
theorem dX8_where_43 : decode cX8_where 43 = .ok (.iload_n 2, 1) := by decide +kernel
theorem dX8_where_44 : decode cX8_where 44 = .ok (.invokestatic 131, 3) := by decide +kernel
theorem dX8_where_47 : decode cX8_where 47 = .ok (.sipush 1000, 3) := by decide +kernel
theorem dX8_where_50 : decode cX8_where 50 = .ok (.iadd, 1) := by decide +kernel
theorem dX8_where_51 : decode cX8_where 51 = .ok (.goto 5, 3) := by decide +kernel
theorem dX8_where_54 : decode cX8_where 54 = .ok (.bipush (-2), 2) := by decide +kernel
theorem dX8_where_56 : decode cX8_where 56 = .ok (.ireturn, 1) := by decide +kernel
theorem dX8_note_0 : decode cX8_note 0 = .ok (.aload_n 0, 1) := by decide +kernel
theorem dX8_note_1 : decode cX8_note 1 = .ok (.getfield 121, 3) := by decide +kernel
theorem dX8_note_4 : decode cX8_note 4 = .ok (.bipush 14, 2) := by decide +kernel
theorem dX8_note_6 : decode cX8_note 6 = .ok (.if_icmp .ne 43, 3) := by decide +kernel
theorem dX8_note_9 : decode cX8_note 9 = .ok (.iconst 0, 1) := by decide +kernel
theorem dX8_note_10 : decode cX8_note 10 = .ok (.istore_n 1, 1) := by decide +kernel
theorem dX8_note_11 : decode cX8_note 11 = .ok (.iload_n 1, 1) := by decide +kernel
theorem dX8_note_12 : decode cX8_note 12 = .ok (.sipush 520, 3) := by decide +kernel
theorem dX8_note_15 : decode cX8_note 15 = .ok (.if_icmp .ge 24, 3) := by decide +kernel
theorem dX8_note_18 : decode cX8_note 18 = .ok (.aload_n 0, 1) := by decide +kernel
theorem dX8_note_19 : decode cX8_note 19 = .ok (.getfield 41, 3) := by decide +kernel
theorem dX8_note_22 : decode cX8_note 22 = .ok (.iload_n 1, 1) := by decide +kernel
theorem dX8_note_23 : decode cX8_note 23 = .ok (.aload_n 0, 1) := by decide +kernel
theorem dX8_note_24 : decode cX8_note 24 = .ok (.getfield 41, 3) := by decide +kernel
theorem dX8_note_27 : decode cX8_note 27 = .ok (.iload_n 1, 1) := by decide +kernel
theorem dX8_note_28 : decode cX8_note 28 = .ok (.bipush 40, 2) := by decide +kernel
theorem dX8_note_30 : decode cX8_note 30 = .ok (.iadd, 1) := by decide +kernel
theorem dX8_note_31 : decode cX8_note 31 = .ok (.iaload, 1) := by decide +kernel
theorem dX8_note_32 : decode cX8_note 32 = .ok (.iastore, 1) := by decide +kernel
theorem dX8_note_33 : decode cX8_note 33 = .ok (.iinc 1 1, 3) := by decide +kernel
theorem dX8_note_36 : decode cX8_note 36 = .ok (.goto (-25), 3) := by decide +kernel
theorem dX8_note_39 : decode cX8_note 39 = .ok (.aload_n 0, 1) := by decide +kernel
theorem dX8_note_40 : decode cX8_note 40 = .ok (.dup, 1) := by decide +kernel
theorem dX8_note_41 : decode cX8_note 41 = .ok (.getfield 121, 3) := by decide +kernel
theorem dX8_note_44 : decode cX8_note 44 = .ok (.iconst 1, 1) := by decide +kernel
theorem dX8_note_45 : decode cX8_note 45 = .ok (.isub, 1) := by decide +kernel
theorem dX8_note_46 : decode cX8_note 46 = .ok (.putfield 121, 3) := by decide +kernel
theorem dX8_note_49 : decode cX8_note 49 = .ok (.iconst 0, 1) := by decide +kernel
theorem dX8_note_50 : decode cX8_note 50 = .ok (.istore_n 1, 1) := by decide +kernel
theorem dX8_note_51 : decode cX8_note 51 = .ok (.iload_n 1, 1) := by decide +kernel
theorem dX8_note_52 : decode cX8_note 52 = .ok (.bipush 40, 2) := by decide +kernel
theorem dX8_note_54 : decode cX8_note 54 = .ok (.if_icmp .ge 29, 3) := by decide +kernel
theorem dX8_note_57 : decode cX8_note 57 = .ok (.aload_n 0, 1) := by decide +kernel
theorem dX8_note_58 : decode cX8_note 58 = .ok (.getfield 41, 3) := by decide +kernel
theorem dX8_note_61 : decode cX8_note 61 = .ok (.bipush 40, 2) := by decide +kernel
theorem dX8_note_63 : decode cX8_note 63 = .ok (.aload_n 0, 1) := by decide +kernel
theorem dX8_note_64 : decode cX8_note 64 = .ok (.getfield 121, 3) := by decide +kernel
theorem dX8_note_67 : decode cX8_note 67 = .ok (.imul, 1) := by decide +kernel
theorem dX8_note_68 : decode cX8_note 68 = .ok (.iload_n 1, 1) := by decide +kernel
theorem dX8_note_69 : decode cX8_note 69 = .ok (.iadd, 1) := by decide +kernel
theorem dX8_note_70 : decode cX8_note 70 = .ok (.aload_n 0, 1) := by decide +kernel
theorem dX8_note_71 : decode cX8_note 71 = .ok (.getfield 35, 3) := by decide +kernel
theorem dX8_note_74 : decode cX8_note 74 = .ok (.iload_n 1, 1) := by decide +kernel
theorem dX8_note_75 : decode cX8_note 75 = .ok (.iaload, 1) := by decide +kernel
theorem dX8_note_76 : decode cX8_note 76 = .ok (.iastore, 1) := by decide +kernel
theorem dX8_note_77 : decode cX8_note 77 = .ok (.iinc 1 1, 3) := by decide +kernel
theorem dX8_note_80 : decode cX8_note 80 = .ok (.goto (-29), 3) := by decide +kernel
theorem dX8_note_83 : decode cX8_note 83 = .ok (.aload_n 0, 1) := by decide +kernel
theorem dX8_note_84 : decode cX8_note 84 = .ok (.dup, 1) := by decide +kernel
theorem dX8_note_85 : decode cX8_note 85 = .ok (.getfield 121, 3) := by decide +kernel
theorem dX8_note_88 : decode cX8_note 88 = .ok (.iconst 1, 1) := by decide +kernel
theorem dX8_note_89 : decode cX8_note 89 = .ok (.iadd, 1) := by decide +kernel
theorem dX8_note_90 : decode cX8_note 90 = .ok (.putfield 121, 3) := by decide +kernel
theorem dX8_note_93 : decode cX8_note 93 = .ok (.return_, 1) := by decide +kernel
theorem dX8_redraw_0 : decode cX8_redraw 0 = .ok (.aload_n 0, 1) := by decide +kernel
theorem dX8_redraw_1 : decode cX8_redraw 1 = .ok (.iconst 0, 1) := by decide +kernel
theorem dX8_redraw_2 : decode cX8_redraw 2 = .ok (.putfield 69, 3) := by decide +kernel
theorem dX8_redraw_5 : decode cX8_redraw 5 = .ok (.aload_n 0, 1) := by decide +kernel
theorem dX8_redraw_6 : decode cX8_redraw 6 = .ok (.iload_n 1, 1) := by decide +kernel
theorem dX8_redraw_7 : decode cX8_redraw 7 = .ok (.invokevirtual 169, 3) := by decide +kernel
theorem dX8_redraw_10 : decode cX8_redraw 10 = .ok (.ifCond .eq 5, 3) := by decide +kernel
theorem dX8_redraw_13 : decode cX8_redraw 13 = .ok (.iconst (-1), 1) := by decide +kernel
theorem dX8_redraw_14 : decode cX8_redraw 14 = .ok (.ireturn, 1) := by decide +kernel
theorem dX8_redraw_15 : decode cX8_redraw 15 = .ok (.iload_n 2, 1) := by decide +kernel
theorem dX8_redraw_16 : decode cX8_redraw 16 = .ok (.i2l, 1) := by decide +kernel
theorem dX8_redraw_17 : decode cX8_redraw 17 = .ok (.lconst 0, 1) := by decide +kernel
theorem dX8_redraw_18 : decode cX8_redraw 18 = .ok (.ldc2_w 186, 3) := by decide +kernel
theorem dX8_redraw_21 : decode cX8_redraw 21 = .ok (.invokestatic 76, 3) := by decide +kernel
theorem dX8_redraw_24 : decode cX8_redraw 24 = .ok (.ifCond .eq 15, 3) := by decide +kernel
theorem dX8_redraw_27 : decode cX8_redraw 27 = .ok (.iload_n 3, 1) := by decide +kernel
theorem dX8_redraw_28 : decode cX8_redraw 28 = .ok (.i2l, 1) := by decide +kernel
theorem dX8_redraw_29 : decode cX8_redraw 29 = .ok (.lconst 1, 1) := by decide +kernel
theorem dX8_redraw_30 : decode cX8_redraw 30 = .ok (.ldc2_w 188, 3) := by decide +kernel
theorem dX8_redraw_33 : decode cX8_redraw 33 = .ok (.invokestatic 76, 3) := by decide +kernel
theorem dX8_redraw_36 : decode cX8_redraw 36 = .ok (.ifCond .ne 6, 3) := by decide +kernel
theorem dX8_redraw_39 : decode cX8_redraw 39 = .ok (.bipush (-2), 2) := by decide +kernel
theorem dX8_redraw_41 : decode cX8_redraw 41 = .ok (.ireturn, 1) := by decide +kernel
theorem dX8_redraw_42 : decode cX8_redraw 42 = .ok (.aload_n 0, 1) := by decide +kernel
theorem dX8_redraw_43 : decode cX8_redraw 43 = .ok (.invokevirtual 190, 3) := by decide +kernel
theorem dX8_redraw_46 : decode cX8_redraw 46 = .ok (.bipush 10, 2) := by decide +kernel
theorem dX8_redraw_48 : decode cX8_redraw 48 = .ok (.aload_n 0, 1) := by decide +kernel
theorem dX8_redraw_49 : decode cX8_redraw 49 = .ok (.getfield 35, 3) := by decide +kernel
theorem dX8_redraw_52 : decode cX8_redraw 52 = .ok (.iconst 0, 1) := by decide +kernel
theorem dX8_redraw_53 : decode cX8_redraw 53 = .ok (.iload_n 1, 1) := by decide +kernel
theorem dX8_redraw_54 : decode cX8_redraw 54 = .ok (.iadd, 1) := by decide +kernel
theorem dX8_redraw_55 : decode cX8_redraw 55 = .ok (.iaload, 1) := by decide +kernel
theorem dX8_redraw_56 : decode cX8_redraw 56 = .ok (.imul, 1) := by decide +kernel
theorem dX8_redraw_57 : decode cX8_redraw 57 = .ok (.aload_n 0, 1) := by decide +kernel
theorem dX8_redraw_58 : decode cX8_redraw 58 = .ok (.getfield 35, 3) := by decide +kernel
theorem dX8_redraw_61 : decode cX8_redraw 61 = .ok (.bipush 6, 2) := by decide +kernel
theorem dX8_redraw_63 : decode cX8_redraw 63 = .ok (.iload_n 1, 1) := by decide +kernel
theorem dX8_redraw_64 : decode cX8_redraw 64 = .ok (.iadd, 1) := by decide +kernel
theorem dX8_redraw_65 : decode cX8_redraw 65 = .ok (.iaload, 1) := by decide +kernel
theorem dX8_redraw_66 : decode cX8_redraw 66 = .ok (.iadd, 1) := by decide +kernel
theorem dX8_redraw_67 : decode cX8_redraw 67 = .ok (.istore 4, 2) := by decide +kernel
theorem dX8_redraw_69 : decode cX8_redraw 69 = .ok (.aload_n 0, 1) := by decide +kernel
theorem dX8_redraw_70 : decode cX8_redraw 70 = .ok (.getfield 35, 3) := by decide +kernel
theorem dX8_redraw_73 : decode cX8_redraw 73 = .ok (.iconst 0, 1) := by decide +kernel
theorem dX8_redraw_74 : decode cX8_redraw 74 = .ok (.iload_n 1, 1) := by decide +kernel
theorem dX8_redraw_75 : decode cX8_redraw 75 = .ok (.iadd, 1) := by decide +kernel
theorem dX8_redraw_76 : decode cX8_redraw 76 = .ok (.iload_n 2, 1) := by decide +kernel
theorem dX8_redraw_77 : decode cX8_redraw 77 = .ok (.iastore, 1) := by decide +kernel
theorem dX8_redraw_78 : decode cX8_redraw 78 = .ok (.aload_n 0, 1) := by decide +kernel
theorem dX8_redraw_79 : decode cX8_redraw 79 = .ok (.getfield 35, 3) := by decide +kernel
theorem dX8_redraw_82 : decode cX8_redraw 82 = .ok (.bipush 6, 2) := by decide +kernel
theorem dX8_redraw_84 : decode cX8_redraw 84 = .ok (.iload_n 1, 1) := by decide +kernel
theorem dX8_redraw_85 : decode cX8_redraw 85 = .ok (.iadd, 1) := by decide +kernel
theorem dX8_redraw_86 : decode cX8_redraw 86 = .ok (.iload_n 3, 1) := by decide +kernel
theorem dX8_redraw_87 : decode cX8_redraw 87 = .ok (.iastore, 1) := by decide +kernel
theorem dX8_redraw_88 : decode cX8_redraw 88 = .ok (.iload 4, 2) := by decide +kernel
theorem dX8_redraw_90 : decode cX8_redraw 90 = .ok (.ireturn, 1) := by decide +kernel
theorem dX8_delay_0 : decode cX8_delay 0 = .ok (.aload_n 0, 1) := by decide +kernel
theorem dX8_delay_1 : decode cX8_delay 1 = .ok (.iconst 0, 1) := by decide +kernel
theorem dX8_delay_2 : decode cX8_delay 2 = .ok (.putfield 69, 3) := by decide +kernel
theorem dX8_delay_5 : decode cX8_delay 5 = .ok (.aload_n 0, 1) := by decide +kernel
theorem dX8_delay_6 : decode cX8_delay 6 = .ok (.iload_n 1, 1) := by decide +kernel
theorem dX8_delay_7 : decode cX8_delay 7 = .ok (.invokevirtual 173, 3) := by decide +kernel
theorem dX8_delay_10 : decode cX8_delay 10 = .ok (.ifCond .eq 5, 3) := by decide +kernel
theorem dX8_delay_13 : decode cX8_delay 13 = .ok (.iconst (-1), 1) := by decide +kernel
theorem dX8_delay_14 : decode cX8_delay 14 = .ok (.ireturn, 1) := by decide +kernel
theorem dX8_delay_15 : decode cX8_delay 15 = .ok (.iload_n 2, 1) := by decide +kernel
theorem dX8_delay_16 : decode cX8_delay 16 = .ok (.i2l, 1) := by decide +kernel
theorem dX8_delay_17 : decode cX8_delay 17 = .ok (.lconst 0, 1) := by decide +kernel
theorem dX8_delay_18 : decode cX8_delay 18 = .ok (.ldc2_w 186, 3) := by decide +kernel
theorem dX8_delay_21 : decode cX8_delay 21 = .ok (.invokestatic 76, 3) := by decide +kernel
theorem dX8_delay_24 : decode cX8_delay 24 = .ok (.ifCond .ne 6, 3) := by decide +kernel
theorem dX8_delay_27 : decode cX8_delay 27 = .ok (.bipush (-2), 2) := by decide +kernel
theorem dX8_delay_29 : decode cX8_delay 29 = .ok (.ireturn, 1) := by decide +kernel
theorem dX8_delay_30 : decode cX8_delay 30 = .ok (.aload_n 0, 1) := by decide +kernel
theorem dX8_delay_31 : decode cX8_delay 31 = .ok (.invokevirtual 190, 3) := by decide +kernel
theorem dX8_delay_34 : decode cX8_delay 34 = .ok (.aload_n 0, 1) := by decide +kernel
theorem dX8_delay_35 : decode cX8_delay 35 = .ok (.getfield 35, 3) := by decide +kernel
theorem dX8_delay_38 : decode cX8_delay 38 = .ok (.bipush 12, 2) := by decide +kernel
theorem dX8_delay_40 : decode cX8_delay 40 = .ok (.iload_n 1, 1) := by decide +kernel
theorem dX8_delay_41 : decode cX8_delay 41 = .ok (.iadd, 1) := by decide +kernel
theorem dX8_delay_42 : decode cX8_delay 42 = .ok (.iaload, 1) := by decide +kernel
theorem dX8_delay_43 : decode cX8_delay 43 = .ok (.istore_n 3, 1) := by decide +kernel
theorem dX8_delay_44 : decode cX8_delay 44 = .ok (.aload_n 0, 1) := by decide +kernel
theorem dX8_delay_45 : decode cX8_delay 45 = .ok (.getfield 35, 3) := by decide +kernel
theorem dX8_delay_48 : decode cX8_delay 48 = .ok (.bipush 12, 2) := by decide +kernel
theorem dX8_delay_50 : decode cX8_delay 50 = .ok (.iload_n 1, 1) := by decide +kernel
theorem dX8_delay_51 : decode cX8_delay 51 = .ok (.iadd, 1) := by decide +kernel
theorem dX8_delay_52 : decode cX8_delay 52 = .ok (.iload_n 2, 1) := by decide +kernel
theorem dX8_delay_53 : decode cX8_delay 53 = .ok (.iastore, 1) := by decide +kernel
theorem dX8_delay_54 : decode cX8_delay 54 = .ok (.iload_n 3, 1) := by decide +kernel
theorem dX8_delay_55 : decode cX8_delay 55 = .ok (.ireturn, 1) := by decide +kernel
theorem dX8_pan_0 : decode cX8_pan 0 = .ok (.aload_n 0, 1) := by decide +kernel
theorem dX8_pan_1 : decode cX8_pan 1 = .ok (.iconst 0, 1) := by decide +kernel
theorem dX8_pan_2 : decode cX8_pan 2 = .ok (.putfield 69, 3) := by decide +kernel
theorem dX8_pan_5 : decode cX8_pan 5 = .ok (.iload_n 1, 1) := by decide +kernel
theorem dX8_pan_6 : decode cX8_pan 6 = .ok (.bipush 9, 2) := by decide +kernel
theorem dX8_pan_8 : decode cX8_pan 8 = .ok (.if_icmp .eq 13, 3) := by decide +kernel
theorem dX8_pan_11 : decode cX8_pan 11 = .ok (.aload_n 0, 1) := by decide +kernel
theorem dX8_pan_12 : decode cX8_pan 12 = .ok (.iload_n 1, 1) := by decide +kernel
theorem dX8_pan_13 : decode cX8_pan 13 = .ok (.invokevirtual 173, 3) := by decide +kernel
theorem dX8_pan_16 : decode cX8_pan 16 = .ok (.ifCond .eq 5, 3) := by decide +kernel
theorem dX8_pan_19 : decode cX8_pan 19 = .ok (.iconst (-1), 1) := by decide +kernel
theorem dX8_pan_20 : decode cX8_pan 20 = .ok (.ireturn, 1) := by decide +kernel
theorem dX8_pan_21 : decode cX8_pan 21 = .ok (.iload_n 2, 1) := by decide +kernel
theorem dX8_pan_22 : decode cX8_pan 22 = .ok (.i2l, 1) := by decide +kernel
theorem dX8_pan_23 : decode cX8_pan 23 = .ok (.ldc2_w 193, 3) := by decide +kernel
theorem dX8_pan_26 : decode cX8_pan 26 = .ok (.ldc2_w 186, 3) := by decide +kernel
theorem dX8_pan_29 : decode cX8_pan 29 = .ok (.invokestatic 76, 3) := by decide +kernel
theorem dX8_pan_32 : decode cX8_pan 32 = .ok (.ifCond .eq 30, 3) := by decide +kernel
theorem dX8_pan_35 : decode cX8_pan 35 = .ok (.iload_n 3, 1) := by decide +kernel
theorem dX8_pan_36 : decode cX8_pan 36 = .ok (.i2l, 1) := by decide +kernel
theorem dX8_pan_37 : decode cX8_pan 37 = .ok (.ldc2_w 195, 3) := by decide +kernel
theorem dX8_pan_40 : decode cX8_pan 40 = .ok (.ldc2_w 197, 3) := by decide +kernel
theorem dX8_pan_43 : decode cX8_pan 43 = .ok (.invokestatic 76, 3) := by decide +kernel
theorem dX8_pan_46 : decode cX8_pan 46 = .ok (.ifCond .eq 16, 3) := by decide +kernel
theorem dX8_pan_49 : decode cX8_pan 49 = .ok (.iload 4, 2) := by decide +kernel
theorem dX8_pan_51 : decode cX8_pan 51 = .ok (.i2l, 1) := by decide +kernel
theorem dX8_pan_52 : decode cX8_pan 52 = .ok (.lconst 1, 1) := by decide +kernel
theorem dX8_pan_53 : decode cX8_pan 53 = .ok (.ldc2_w 186, 3) := by decide +kernel
theorem dX8_pan_56 : decode cX8_pan 56 = .ok (.invokestatic 76, 3) := by decide +kernel
theorem dX8_pan_59 : decode cX8_pan 59 = .ok (.ifCond .ne 6, 3) := by decide +kernel
theorem dX8_pan_62 : decode cX8_pan 62 = .ok (.bipush (-2), 2) := by decide +kernel
theorem dX8_pan_64 : decode cX8_pan 64 = .ok (.ireturn, 1) := by decide +kernel
theorem dX8_pan_65 : decode cX8_pan 65 = .ok (.aload_n 0, 1) := by decide +kernel
theorem dX8_pan_66 : decode cX8_pan 66 = .ok (.invokevirtual 190, 3) := by decide +kernel
theorem dX8_pan_69 : decode cX8_pan 69 = .ok (.iload_n 1, 1) := by decide +kernel
theorem dX8_pan_70 : decode cX8_pan 70 = .ok (.bipush 9, 2) := by decide +kernel
theorem dX8_pan_72 : decode cX8_pan 72 = .ok (.if_icmp .ne 7, 3) := by decide +kernel
theorem dX8_pan_75 : decode cX8_pan 75 = .ok (.iconst 4, 1) := by decide +kernel
theorem dX8_pan_76 : decode cX8_pan 76 = .ok (.goto 4, 3) := by decide +kernel
theorem dX8_pan_79 : decode cX8_pan 79 = .ok (.iload_n 1, 1) := by decide +kernel
theorem dX8_pan_80 : decode cX8_pan 80 = .ok (.istore 5, 2) := by decide +kernel
theorem dX8_pan_82 : decode cX8_pan 82 = .ok (.aload_n 0, 1) := by decide +kernel
theorem dX8_pan_83 : decode cX8_pan 83 = .ok (.getfield 35, 3) := by decide +kernel
theorem dX8_pan_86 : decode cX8_pan 86 = .ok (.bipush 16, 2) := by decide +kernel
theorem dX8_pan_88 : decode cX8_pan 88 = .ok (.iconst 3, 1) := by decide +kernel
theorem dX8_pan_89 : decode cX8_pan 89 = .ok (.iload 5, 2) := by decide +kernel
theorem dX8_pan_91 : decode cX8_pan 91 = .ok (.imul, 1) := by decide +kernel
theorem dX8_pan_92 : decode cX8_pan 92 = .ok (.iadd, 1) := by decide +kernel
theorem dX8_pan_93 : decode cX8_pan 93 = .ok (.iload_n 2, 1) := by decide +kernel
theorem dX8_pan_94 : decode cX8_pan 94 = .ok (.iastore, 1) := by decide +kernel
theorem dX8_pan_95 : decode cX8_pan 95 = .ok (.aload_n 0, 1) := by decide +kernel
theorem dX8_pan_96 : decode cX8_pan 96 = .ok (.getfield 35, 3) := by decide +kernel
theorem dX8_pan_99 : decode cX8_pan 99 = .ok (.bipush 16, 2) := by decide +kernel
theorem dX8_pan_101 : decode cX8_pan 101 = .ok (.iconst 3, 1) := by decide +kernel
theorem dX8_pan_102 : decode cX8_pan 102 = .ok (.iload 5, 2) := by decide +kernel
theorem dX8_pan_104 : decode cX8_pan 104 = .ok (.imul, 1) := by decide +kernel
theorem dX8_pan_105 : decode cX8_pan 105 = .ok (.iadd, 1) := by decide +kernel
theorem dX8_pan_106 : decode cX8_pan 106 = .ok (.iconst 1, 1) := by decide +kernel
theorem dX8_pan_107 : decode cX8_pan 107 = .ok (.iadd, 1) := by decide +kernel
theorem dX8_pan_108 : decode cX8_pan 108 = .ok (.iload_n 3, 1) := by decide +kernel
theorem dX8_pan_109 : decode cX8_pan 109 = .ok (.iastore, 1) := by decide +kernel
theorem dX8_pan_110 : decode cX8_pan 110 = .ok (.aload_n 0, 1) := by decide +kernel
theorem dX8_pan_111 : decode cX8_pan 111 = .ok (.getfield 35, 3) := by decide +kernel
theorem dX8_pan_114 : decode cX8_pan 114 = .ok (.bipush 16, 2) := by decide +kernel
theorem dX8_pan_116 : decode cX8_pan 116 = .ok (.iconst 3, 1) := by decide +kernel
theorem dX8_pan_117 : decode cX8_pan 117 = .ok (.iload 5, 2) := by decide +kernel
theorem dX8_pan_119 : decode cX8_pan 119 = .ok (.imul, 1) := by decide +kernel
theorem dX8_pan_120 : decode cX8_pan 120 = .ok (.iadd, 1) := by decide +kernel
theorem dX8_pan_121 : decode cX8_pan 121 = .ok (.iconst 2, 1) := by decide +kernel
theorem dX8_pan_122 : decode cX8_pan 122 = .ok (.iadd, 1) := by decide +kernel
theorem dX8_pan_123 : decode cX8_pan 123 = .ok (.iload 4, 2) := by decide +kernel
theorem dX8_pan_125 : decode cX8_pan 125 = .ok (.iastore, 1) := by decide +kernel
theorem dX8_pan_126 : decode cX8_pan 126 = .ok (.aload_n 0, 1) := by decide +kernel
theorem dX8_pan_127 : decode cX8_pan 127 = .ok (.getfield 35, 3) := by decide +kernel
theorem dX8_pan_130 : decode cX8_pan 130 = .ok (.iload 5, 2) := by decide +kernel
theorem dX8_pan_132 : decode cX8_pan 132 = .ok (.bipush 47, 2) := by decide +kernel
theorem dX8_pan_134 : decode cX8_pan 134 = .ok (.invokestatic 131, 3) := by decide +kernel
theorem dX8_pan_137 : decode cX8_pan 137 = .ok (.sipush 1000, 3) := by decide +kernel
theorem dX8_pan_140 : decode cX8_pan 140 = .ok (.iadd, 1) := by decide +kernel
theorem dX8_pan_141 : decode cX8_pan 141 = .ok (.ireturn, 1) := by decide +kernel
theorem dX8_isOrder_0 : decode cX8_isOrder 0 = .ok (.iload_n 1, 1) := by decide +kernel
theorem dX8_isOrder_1 : decode cX8_isOrder 1 = .ok (.i2l, 1) := by decide +kernel
theorem dX8_isOrder_2 : decode cX8_isOrder 2 = .ok (.lconst 0, 1) := by decide +kernel
theorem dX8_isOrder_3 : decode cX8_isOrder 3 = .ok (.bipush 10, 2) := by decide +kernel
theorem dX8_isOrder_5 : decode cX8_isOrder 5 = .ok (.aload_n 0, 1) := by decide +kernel
theorem dX8_isOrder_6 : decode cX8_isOrder 6 = .ok (.getfield 73, 3) := by decide +kernel
theorem dX8_isOrder_9 : decode cX8_isOrder 9 = .ok (.invokestatic 135, 3) := by decide +kernel
theorem dX8_isOrder_12 : decode cX8_isOrder 12 = .ok (.iconst 1, 1) := by decide +kernel
theorem dX8_isOrder_13 : decode cX8_isOrder 13 = .ok (.isub, 1) := by decide +kernel
theorem dX8_isOrder_14 : decode cX8_isOrder 14 = .ok (.i2l, 1) := by decide +kernel
theorem dX8_isOrder_15 : decode cX8_isOrder 15 = .ok (.invokestatic 76, 3) := by decide +kernel
theorem dX8_isOrder_18 : decode cX8_isOrder 18 = .ok (.ifCond .ne 5, 3) := by decide +kernel
theorem dX8_isOrder_21 : decode cX8_isOrder 21 = .ok (.iconst 0, 1) := by decide +kernel
theorem dX8_isOrder_22 : decode cX8_isOrder 22 = .ok (.ireturn, 1) := by decide +kernel
theorem dX8_isOrder_23 : decode cX8_isOrder 23 = .ok (.iconst 0, 1) := by decide +kernel
theorem dX8_isOrder_24 : decode cX8_isOrder 24 = .ok (.istore_n 2, 1) := by decide +kernel
theorem dX8_isOrder_25 : decode cX8_isOrder 25 = .ok (.iconst 0, 1) := by decide +kernel
theorem dX8_isOrder_26 : decode cX8_isOrder 26 = .ok (.istore_n 3, 1) := by decide +kernel
theorem dX8_isOrder_27 : decode cX8_isOrder 27 = .ok (.iload_n 3, 1) := by decide +kernel
theorem dX8_isOrder_28 : decode cX8_isOrder 28 = .ok (.aload_n 0, 1) := by decide +kernel
theorem dX8_isOrder_29 : decode cX8_isOrder 29 = .ok (.getfield 73, 3) := by decide +kernel
theorem dX8_isOrder_32 : decode cX8_isOrder 32 = .ok (.if_icmp .ge 25, 3) := by decide +kernel
theorem dX8_isOrder_35 : decode cX8_isOrder 35 = .ok (.iload_n 2, 1) := by decide +kernel
theorem dX8_isOrder_36 : decode cX8_isOrder 36 = .ok (.iconst 1, 1) := by decide +kernel
theorem dX8_isOrder_37 : decode cX8_isOrder 37 = .ok (.iload_n 1, 1) := by decide +kernel
theorem dX8_isOrder_38 : decode cX8_isOrder 38 = .ok (.bipush 10, 2) := by decide +kernel
theorem dX8_isOrder_40 : decode cX8_isOrder 40 = .ok (.iload_n 3, 1) := by decide +kernel
theorem dX8_isOrder_41 : decode cX8_isOrder 41 = .ok (.invokestatic 135, 3) := by decide +kernel
theorem dX8_isOrder_44 : decode cX8_isOrder 44 = .ok (.idiv, 1) := by decide +kernel
theorem dX8_isOrder_45 : decode cX8_isOrder 45 = .ok (.bipush 10, 2) := by decide +kernel
theorem dX8_isOrder_47 : decode cX8_isOrder 47 = .ok (.irem, 1) := by decide +kernel
theorem dX8_isOrder_48 : decode cX8_isOrder 48 = .ok (.ishl, 1) := by decide +kernel
theorem dX8_isOrder_49 : decode cX8_isOrder 49 = .ok (.ior, 1) := by decide +kernel
theorem dX8_isOrder_50 : decode cX8_isOrder 50 = .ok (.istore_n 2, 1) := by decide +kernel
theorem dX8_isOrder_51 : decode cX8_isOrder 51 = .ok (.iinc 3 1, 3) := by decide +kernel
theorem dX8_isOrder_54 : decode cX8_isOrder 54 = .ok (.goto (-27), 3) := by decide +kernel
theorem dX8_isOrder_57 : decode cX8_isOrder 57 = .ok (.iload_n 2, 1) := by decide +kernel
theorem dX8_isOrder_58 : decode cX8_isOrder 58 = .ok (.aload_n 0, 1) := by decide +kernel
theorem dX8_isOrder_59 : decode cX8_isOrder 59 = .ok (.invokevirtual 147, 3) := by decide +kernel
theorem dX8_isOrder_62 : decode cX8_isOrder 62 = .ok (.if_icmp .ne 7, 3) := by decide +kernel
theorem dX8_isOrder_65 : decode cX8_isOrder 65 = .ok (.iconst 1, 1) := by decide +kernel
theorem dX8_isOrder_66 : decode cX8_isOrder 66 = .ok (.goto 4, 3) := by decide +kernel
theorem dX8_isOrder_69 : decode cX8_isOrder 69 = .ok (.iconst 0, 1) := by decide +kernel
theorem dX8_isOrder_70 : decode cX8_isOrder 70 = .ok (.ireturn, 1) := by decide +kernel
theorem dX8_swap_0 : decode cX8_swap 0 = .ok (.aload_n 0, 1) := by decide +kernel
theorem dX8_swap_1 : decode cX8_swap 1 = .ok (.iconst 0, 1) := by decide +kernel
theorem dX8_swap_2 : decode cX8_swap 2 = .ok (.putfield 69, 3) := by decide +kernel
theorem dX8_swap_5 : decode cX8_swap 5 = .ok (.iload_n 1, 1) := by decide +kernel
theorem dX8_swap_6 : decode cX8_swap 6 = .ok (.invokestatic 183, 3) := by decide +kernel
theorem dX8_swap_9 : decode cX8_swap 9 = .ok (.ifCond .eq 11, 3) := by decide +kernel
theorem dX8_swap_12 : decode cX8_swap 12 = .ok (.aload_n 0, 1) := by decide +kernel
theorem dX8_swap_13 : decode cX8_swap 13 = .ok (.iload_n 2, 1) := by decide +kernel
theorem dX8_swap_14 : decode cX8_swap 14 = .ok (.invokevirtual 199, 3) := by decide +kernel
theorem dX8_swap_17 : decode cX8_swap 17 = .ok (.ifCond .ne 6, 3) := by decide +kernel
theorem dX8_swap_20 : decode cX8_swap 20 = .ok (.bipush (-2), 2) := by decide +kernel
theorem dX8_swap_22 : decode cX8_swap 22 = .ok (.ireturn, 1) := by decide +kernel
theorem dX8_swap_23 : decode cX8_swap 23 = .ok (.aload_n 0, 1) := by decide +kernel
theorem dX8_swap_24 : decode cX8_swap 24 = .ok (.getfield 35, 3) := by decide +kernel
theorem dX8_swap_27 : decode cX8_swap 27 = .ok (.bipush 31, 2) := by decide +kernel
theorem dX8_swap_29 : decode cX8_swap 29 = .ok (.iaload, 1) := by decide +kernel
theorem dX8_swap_30 : decode cX8_swap 30 = .ok (.iconst 4, 1) := by decide +kernel
theorem dX8_swap_31 : decode cX8_swap 31 = .ok (.if_icmp .ne 6, 3) := by decide +kernel
theorem dX8_swap_34 : decode cX8_swap 34 = .ok (.bipush (-4), 2) := by decide +kernel
theorem dX8_swap_36 : decode cX8_swap 36 = .ok (.ireturn, 1) := by decide +kernel
theorem dX8_swap_37 : decode cX8_swap 37 = .ok (.aload_n 0, 1) := by decide +kernel
theorem dX8_swap_38 : decode cX8_swap 38 = .ok (.invokevirtual 190, 3) := by decide +kernel
theorem dX8_swap_41 : decode cX8_swap 41 = .ok (.aload_n 0, 1) := by decide +kernel
theorem dX8_swap_42 : decode cX8_swap 42 = .ok (.getfield 35, 3) := by decide +kernel
theorem dX8_swap_45 : decode cX8_swap 45 = .ok (.bipush 32, 2) := by decide +kernel
theorem dX8_swap_47 : decode cX8_swap 47 = .ok (.aload_n 0, 1) := by decide +kernel
theorem dX8_swap_48 : decode cX8_swap 48 = .ok (.getfield 35, 3) := by decide +kernel
theorem dX8_swap_51 : decode cX8_swap 51 = .ok (.bipush 31, 2) := by decide +kernel
theorem dX8_swap_53 : decode cX8_swap 53 = .ok (.iaload, 1) := by decide +kernel
theorem dX8_swap_54 : decode cX8_swap 54 = .ok (.iadd, 1) := by decide +kernel
theorem dX8_swap_55 : decode cX8_swap 55 = .ok (.iload_n 1, 1) := by decide +kernel
theorem dX8_swap_56 : decode cX8_swap 56 = .ok (.iastore, 1) := by decide +kernel
theorem dX8_swap_57 : decode cX8_swap 57 = .ok (.aload_n 0, 1) := by decide +kernel
theorem dX8_swap_58 : decode cX8_swap 58 = .ok (.getfield 35, 3) := by decide +kernel
theorem dX8_swap_61 : decode cX8_swap 61 = .ok (.bipush 36, 2) := by decide +kernel
theorem dX8_swap_63 : decode cX8_swap 63 = .ok (.aload_n 0, 1) := by decide +kernel
theorem dX8_swap_64 : decode cX8_swap 64 = .ok (.getfield 35, 3) := by decide +kernel
theorem dX8_swap_67 : decode cX8_swap 67 = .ok (.bipush 31, 2) := by decide +kernel
theorem dX8_swap_69 : decode cX8_swap 69 = .ok (.iaload, 1) := by decide +kernel
theorem dX8_swap_70 : decode cX8_swap 70 = .ok (.iadd, 1) := by decide +kernel
theorem dX8_swap_71 : decode cX8_swap 71 = .ok (.iload_n 2, 1) := by decide +kernel
theorem dX8_swap_72 : decode cX8_swap 72 = .ok (.iastore, 1) := by decide +kernel
theorem dX8_swap_73 : decode cX8_swap 73 = .ok (.aload_n 0, 1) := by decide +kernel
theorem dX8_swap_74 : decode cX8_swap 74 = .ok (.getfield 35, 3) := by decide +kernel
theorem dX8_swap_77 : decode cX8_swap 77 = .ok (.bipush 31, 2) := by decide +kernel
theorem dX8_swap_79 : decode cX8_swap 79 = .ok (.dup2, 1) := by decide +kernel
theorem dX8_swap_80 : decode cX8_swap 80 = .ok (.iaload, 1) := by decide +kernel
theorem dX8_swap_81 : decode cX8_swap 81 = .ok (.iconst 1, 1) := by decide +kernel
theorem dX8_swap_82 : decode cX8_swap 82 = .ok (.iadd, 1) := by decide +kernel
theorem dX8_swap_83 : decode cX8_swap 83 = .ok (.iastore, 1) := by decide +kernel
theorem dX8_swap_84 : decode cX8_swap 84 = .ok (.aload_n 0, 1) := by decide +kernel
theorem dX8_swap_85 : decode cX8_swap 85 = .ok (.getfield 35, 3) := by decide +kernel
theorem dX8_swap_88 : decode cX8_swap 88 = .ok (.bipush 31, 2) := by decide +kernel
theorem dX8_swap_90 : decode cX8_swap 90 = .ok (.iaload, 1) := by decide +kernel
theorem dX8_swap_91 : decode cX8_swap 91 = .ok (.ireturn, 1) := by decide +kernel
theorem dX8_back_0 : decode cX8_back 0 = .ok (.aload_n 0, 1) := by decide +kernel
theorem dX8_back_1 : decode cX8_back 1 = .ok (.iconst 0, 1) := by decide +kernel
theorem dX8_back_2 : decode cX8_back 2 = .ok (.putfield 69, 3) := by decide +kernel
theorem dX8_back_5 : decode cX8_back 5 = .ok (.aload_n 0, 1) := by decide +kernel
theorem dX8_back_6 : decode cX8_back 6 = .ok (.getfield 35, 3) := by decide +kernel
theorem dX8_back_9 : decode cX8_back 9 = .ok (.bipush 31, 2) := by decide +kernel
theorem dX8_back_11 : decode cX8_back 11 = .ok (.iaload, 1) := by decide +kernel
theorem dX8_back_12 : decode cX8_back 12 = .ok (.ifCond .ne 6, 3) := by decide +kernel
theorem dX8_back_15 : decode cX8_back 15 = .ok (.bipush (-3), 2) := by decide +kernel
theorem dX8_back_17 : decode cX8_back 17 = .ok (.ireturn, 1) := by decide +kernel
theorem dX8_back_18 : decode cX8_back 18 = .ok (.aload_n 0, 1) := by decide +kernel
theorem dX8_back_19 : decode cX8_back 19 = .ok (.invokevirtual 190, 3) := by decide +kernel
theorem dX8_back_22 : decode cX8_back 22 = .ok (.aload_n 0, 1) := by decide +kernel
theorem dX8_back_23 : decode cX8_back 23 = .ok (.getfield 35, 3) := by decide +kernel
theorem dX8_back_26 : decode cX8_back 26 = .ok (.bipush 31, 2) := by decide +kernel
theorem dX8_back_28 : decode cX8_back 28 = .ok (.dup2, 1) := by decide +kernel
theorem dX8_back_29 : decode cX8_back 29 = .ok (.iaload, 1) := by decide +kernel
theorem dX8_back_30 : decode cX8_back 30 = .ok (.iconst 1, 1) := by decide +kernel
theorem dX8_back_31 : decode cX8_back 31 = .ok (.isub, 1) := by decide +kernel
theorem dX8_back_32 : decode cX8_back 32 = .ok (.iastore, 1) := by decide +kernel
theorem dX8_back_33 : decode cX8_back 33 = .ok (.aload_n 0, 1) := by decide +kernel
theorem dX8_back_34 : decode cX8_back 34 = .ok (.getfield 35, 3) := by decide +kernel
theorem dX8_back_37 : decode cX8_back 37 = .ok (.bipush 31, 2) := by decide +kernel
theorem dX8_back_39 : decode cX8_back 39 = .ok (.iaload, 1) := by decide +kernel
theorem dX8_back_40 : decode cX8_back 40 = .ok (.ireturn, 1) := by decide +kernel
theorem dX8_undo_0 : decode cX8_undo 0 = .ok (.aload_n 0, 1) := by decide +kernel
theorem dX8_undo_1 : decode cX8_undo 1 = .ok (.iconst 0, 1) := by decide +kernel
theorem dX8_undo_2 : decode cX8_undo 2 = .ok (.putfield 69, 3) := by decide +kernel
theorem dX8_undo_5 : decode cX8_undo 5 = .ok (.aload_n 0, 1) := by decide +kernel
theorem dX8_undo_6 : decode cX8_undo 6 = .ok (.getfield 121, 3) := by decide +kernel
theorem dX8_undo_9 : decode cX8_undo 9 = .ok (.ifCond .ne 6, 3) := by decide +kernel
theorem dX8_undo_12 : decode cX8_undo 12 = .ok (.bipush (-3), 2) := by decide +kernel
theorem dX8_undo_14 : decode cX8_undo 14 = .ok (.ireturn, 1) := by decide +kernel
theorem dX8_undo_15 : decode cX8_undo 15 = .ok (.aload_n 0, 1) := by decide +kernel
theorem dX8_undo_16 : decode cX8_undo 16 = .ok (.dup, 1) := by decide +kernel
theorem dX8_undo_17 : decode cX8_undo 17 = .ok (.getfield 121, 3) := by decide +kernel
theorem dX8_undo_20 : decode cX8_undo 20 = .ok (.iconst 1, 1) := by decide +kernel
theorem dX8_undo_21 : decode cX8_undo 21 = .ok (.isub, 1) := by decide +kernel
theorem dX8_undo_22 : decode cX8_undo 22 = .ok (.putfield 121, 3) := by decide +kernel
theorem dX8_undo_25 : decode cX8_undo 25 = .ok (.iconst 0, 1) := by decide +kernel
theorem dX8_undo_26 : decode cX8_undo 26 = .ok (.istore_n 1, 1) := by decide +kernel
theorem dX8_undo_27 : decode cX8_undo 27 = .ok (.iload_n 1, 1) := by decide +kernel
theorem dX8_undo_28 : decode cX8_undo 28 = .ok (.bipush 40, 2) := by decide +kernel
theorem dX8_undo_30 : decode cX8_undo 30 = .ok (.if_icmp .ge 29, 3) := by decide +kernel
theorem dX8_undo_33 : decode cX8_undo 33 = .ok (.aload_n 0, 1) := by decide +kernel
theorem dX8_undo_34 : decode cX8_undo 34 = .ok (.getfield 35, 3) := by decide +kernel
theorem dX8_undo_37 : decode cX8_undo 37 = .ok (.iload_n 1, 1) := by decide +kernel
theorem dX8_undo_38 : decode cX8_undo 38 = .ok (.aload_n 0, 1) := by decide +kernel
theorem dX8_undo_39 : decode cX8_undo 39 = .ok (.getfield 41, 3) := by decide +kernel
theorem dX8_undo_42 : decode cX8_undo 42 = .ok (.bipush 40, 2) := by decide +kernel
theorem dX8_undo_44 : decode cX8_undo 44 = .ok (.aload_n 0, 1) := by decide +kernel
theorem dX8_undo_45 : decode cX8_undo 45 = .ok (.getfield 121, 3) := by decide +kernel
theorem dX8_undo_48 : decode cX8_undo 48 = .ok (.imul, 1) := by decide +kernel
theorem dX8_undo_49 : decode cX8_undo 49 = .ok (.iload_n 1, 1) := by decide +kernel
theorem dX8_undo_50 : decode cX8_undo 50 = .ok (.iadd, 1) := by decide +kernel
theorem dX8_undo_51 : decode cX8_undo 51 = .ok (.iaload, 1) := by decide +kernel
theorem dX8_undo_52 : decode cX8_undo 52 = .ok (.iastore, 1) := by decide +kernel
theorem dX8_undo_53 : decode cX8_undo 53 = .ok (.iinc 1 1, 3) := by decide +kernel
theorem dX8_undo_56 : decode cX8_undo 56 = .ok (.goto (-29), 3) := by decide +kernel
theorem dX8_undo_59 : decode cX8_undo 59 = .ok (.aload_n 0, 1) := by decide +kernel
theorem dX8_undo_60 : decode cX8_undo 60 = .ok (.getfield 121, 3) := by decide +kernel
theorem dX8_undo_63 : decode cX8_undo 63 = .ok (.ireturn, 1) := by decide +kernel
theorem dX8_exposed_0 : decode cX8_exposed 0 = .ok (.aload_n 0, 1) := by decide +kernel
theorem dX8_exposed_1 : decode cX8_exposed 1 = .ok (.iconst 0, 1) := by decide +kernel
theorem dX8_exposed_2 : decode cX8_exposed 2 = .ok (.putfield 69, 3) := by decide +kernel
theorem dX8_exposed_5 : decode cX8_exposed 5 = .ok (.aload_n 0, 1) := by decide +kernel
theorem dX8_exposed_6 : decode cX8_exposed 6 = .ok (.iload_n 1, 1) := by decide +kernel
theorem dX8_exposed_7 : decode cX8_exposed 7 = .ok (.invokevirtual 173, 3) := by decide +kernel
theorem dX8_exposed_10 : decode cX8_exposed 10 = .ok (.ifCond .eq 5, 3) := by decide +kernel
theorem dX8_exposed_13 : decode cX8_exposed 13 = .ok (.iconst (-1), 1) := by decide +kernel
theorem dX8_exposed_14 : decode cX8_exposed 14 = .ok (.ireturn, 1) := by decide +kernel
theorem dX8_exposed_15 : decode cX8_exposed 15 = .ok (.iload_n 2, 1) := by decide +kernel
theorem dX8_exposed_16 : decode cX8_exposed 16 = .ok (.invokestatic 183, 3) := by decide +kernel
theorem dX8_exposed_19 : decode cX8_exposed 19 = .ok (.ifCond .eq 16, 3) := by decide +kernel
theorem dX8_exposed_22 : decode cX8_exposed 22 = .ok (.aload_n 0, 1) := by decide +kernel
theorem dX8_exposed_23 : decode cX8_exposed 23 = .ok (.aload_n 0, 1) := by decide +kernel
theorem dX8_exposed_24 : decode cX8_exposed 24 = .ok (.getfield 35, 3) := by decide +kernel
theorem dX8_exposed_27 : decode cX8_exposed 27 = .ok (.iload_n 1, 1) := by decide +kernel
theorem dX8_exposed_28 : decode cX8_exposed 28 = .ok (.iload_n 2, 1) := by decide +kernel
theorem dX8_exposed_29 : decode cX8_exposed 29 = .ok (.invokevirtual 138, 3) := by decide +kernel
theorem dX8_exposed_32 : decode cX8_exposed 32 = .ok (.goto 5, 3) := by decide +kernel
theorem dX8_exposed_35 : decode cX8_exposed 35 = .ok (.bipush (-2), 2) := by decide +kernel
theorem dX8_exposed_37 : decode cX8_exposed 37 = .ok (.ireturn, 1) := by decide +kernel
theorem dX8_order_0 : decode cX8_order 0 = .ok (.aload_n 0, 1) := by decide +kernel
theorem dX8_order_1 : decode cX8_order 1 = .ok (.iconst 0, 1) := by decide +kernel
theorem dX8_order_2 : decode cX8_order 2 = .ok (.putfield 69, 3) := by decide +kernel
theorem dX8_order_5 : decode cX8_order 5 = .ok (.iload_n 1, 1) := by decide +kernel
theorem dX8_order_6 : decode cX8_order 6 = .ok (.invokestatic 183, 3) := by decide +kernel
theorem dX8_order_9 : decode cX8_order 9 = .ok (.ifCond .eq 15, 3) := by decide +kernel
theorem dX8_order_12 : decode cX8_order 12 = .ok (.aload_n 0, 1) := by decide +kernel
theorem dX8_order_13 : decode cX8_order 13 = .ok (.aload_n 0, 1) := by decide +kernel
theorem dX8_order_14 : decode cX8_order 14 = .ok (.getfield 35, 3) := by decide +kernel
theorem dX8_order_17 : decode cX8_order 17 = .ok (.iload_n 1, 1) := by decide +kernel
theorem dX8_order_18 : decode cX8_order 18 = .ok (.invokevirtual 127, 3) := by decide +kernel
theorem dX8_order_21 : decode cX8_order 21 = .ok (.goto 5, 3) := by decide +kernel
theorem dX8_order_24 : decode cX8_order 24 = .ok (.bipush (-2), 2) := by decide +kernel
theorem dX8_order_26 : decode cX8_order 26 = .ok (.ireturn, 1) := by decide +kernel
theorem dX8_look_0 : decode cX8_look 0 = .ok (.aload_n 0, 1) := by decide +kernel
theorem dX8_look_1 : decode cX8_look 1 = .ok (.iconst 0, 1) := by decide +kernel
theorem dX8_look_2 : decode cX8_look 2 = .ok (.putfield 69, 3) := by decide +kernel
theorem dX8_look_5 : decode cX8_look 5 = .ok (.iload_n 1, 1) := by decide +kernel
theorem dX8_look_6 : decode cX8_look 6 = .ok (.invokestatic 183, 3) := by decide +kernel
theorem dX8_look_9 : decode cX8_look 9 = .ok (.ifCond .eq 34, 3) := by decide +kernel
theorem dX8_look_12 : decode cX8_look 12 = .ok (.iload_n 2, 1) := by decide +kernel
theorem dX8_look_13 : decode cX8_look 13 = .ok (.i2l, 1) := by decide +kernel
theorem dX8_look_14 : decode cX8_look 14 = .ok (.lconst 0, 1) := by decide +kernel
theorem dX8_look_15 : decode cX8_look 15 = .ok (.ldc2_w 186, 3) := by decide +kernel
theorem dX8_look_18 : decode cX8_look 18 = .ok (.invokestatic 76, 3) := by decide +kernel
theorem dX8_look_21 : decode cX8_look 21 = .ok (.ifCond .eq 22, 3) := by decide +kernel
theorem dX8_look_24 : decode cX8_look 24 = .ok (.aload_n 0, 1) := by decide +kernel
theorem dX8_look_25 : decode cX8_look 25 = .ok (.aload_n 0, 1) := by decide +kernel
theorem dX8_look_26 : decode cX8_look 26 = .ok (.getfield 35, 3) := by decide +kernel
theorem dX8_look_29 : decode cX8_look 29 = .ok (.iload_n 1, 1) := by decide +kernel
theorem dX8_look_30 : decode cX8_look 30 = .ok (.iload_n 2, 1) := by decide +kernel
theorem dX8_look_31 : decode cX8_look 31 = .ok (.aload_n 0, 1) := by decide +kernel
theorem dX8_look_32 : decode cX8_look 32 = .ok (.invokevirtual 147, 3) := by decide +kernel
theorem dX8_look_35 : decode cX8_look 35 = .ok (.bipush (-9), 2) := by decide +kernel
theorem dX8_look_37 : decode cX8_look 37 = .ok (.invokevirtual 150, 3) := by decide +kernel
theorem dX8_look_40 : decode cX8_look 40 = .ok (.goto 5, 3) := by decide +kernel
theorem dX8_look_43 : decode cX8_look 43 = .ok (.bipush (-2), 2) := by decide +kernel
theorem dX8_look_45 : decode cX8_look 45 = .ok (.ireturn, 1) := by decide +kernel
theorem dX8_ask_0 : decode cX8_ask 0 = .ok (.aload_n 0, 1) := by decide +kernel
theorem dX8_ask_1 : decode cX8_ask 1 = .ok (.iconst 0, 1) := by decide +kernel
theorem dX8_ask_2 : decode cX8_ask 2 = .ok (.putfield 69, 3) := by decide +kernel
theorem dX8_ask_5 : decode cX8_ask 5 = .ok (.iload_n 1, 1) := by decide +kernel
theorem dX8_ask_6 : decode cX8_ask 6 = .ok (.ifCond .ne 10, 3) := by decide +kernel
theorem dX8_ask_9 : decode cX8_ask 9 = .ok (.aload_n 0, 1) := by decide +kernel
theorem dX8_ask_10 : decode cX8_ask 10 = .ok (.invokevirtual 202, 3) := by decide +kernel
theorem dX8_ask_13 : decode cX8_ask 13 = .ok (.goto 21, 3) := by decide +kernel
theorem dX8_ask_16 : decode cX8_ask 16 = .ok (.iload_n 1, 1) := by decide +kernel
theorem dX8_ask_17 : decode cX8_ask 17 = .ok (.iconst 1, 1) := by decide +kernel
theorem dX8_ask_18 : decode cX8_ask 18 = .ok (.if_icmp .ne 14, 3) := by decide +kernel
theorem dX8_ask_21 : decode cX8_ask 21 = .ok (.aload_n 0, 1) := by decide +kernel
theorem dX8_ask_22 : decode cX8_ask 22 = .ok (.aload_n 0, 1) := by decide +kernel
theorem dX8_ask_23 : decode cX8_ask 23 = .ok (.getfield 35, 3) := by decide +kernel
theorem dX8_ask_26 : decode cX8_ask 26 = .ok (.invokevirtual 165, 3) := by decide +kernel
theorem dX8_ask_29 : decode cX8_ask 29 = .ok (.goto 5, 3) := by decide +kernel
theorem dX8_ask_32 : decode cX8_ask 32 = .ok (.bipush (-2), 2) := by decide +kernel
theorem dX8_ask_34 : decode cX8_ask 34 = .ok (.ireturn, 1) := by decide +kernel
theorem dX8_does_0 : decode cX8_does 0 = .ok (.bipush 10, 2) := by decide +kernel
theorem dX8_does_2 : decode cX8_does 2 = .ok (.iload_n 2, 1) := by decide +kernel
theorem dX8_does_3 : decode cX8_does 3 = .ok (.imul, 1) := by decide +kernel
theorem dX8_does_4 : decode cX8_does 4 = .ok (.iload_n 3, 1) := by decide +kernel
theorem dX8_does_5 : decode cX8_does 5 = .ok (.iadd, 1) := by decide +kernel
theorem dX8_does_6 : decode cX8_does 6 = .ok (.istore 5, 2) := by decide +kernel
theorem dX8_does_8 : decode cX8_does 8 = .ok (.iload_n 1, 1) := by decide +kernel
theorem dX8_does_9 : decode cX8_does 9 = .ok (.tableswitch 308 1 7 #[43, 70, 110, 147, 192, 220, 270], 43) := by decide +kernel
theorem dX8_does_52 : decode cX8_does 52 = .ok (.aload_n 0, 1) := by decide +kernel
theorem dX8_does_53 : decode cX8_does 53 = .ok (.iload_n 2, 1) := by decide +kernel
theorem dX8_does_54 : decode cX8_does 54 = .ok (.invokevirtual 173, 3) := by decide +kernel
theorem dX8_does_57 : decode cX8_does 57 = .ok (.ifCond .ne 7, 3) := by decide +kernel
theorem dX8_does_60 : decode cX8_does 60 = .ok (.iload_n 3, 1) := by decide +kernel
theorem dX8_does_61 : decode cX8_does 61 = .ok (.ifCond .eq 5, 3) := by decide +kernel
theorem dX8_does_64 : decode cX8_does 64 = .ok (.iconst 0, 1) := by decide +kernel
theorem dX8_does_65 : decode cX8_does 65 = .ok (.ireturn, 1) := by decide +kernel
theorem dX8_does_66 : decode cX8_does 66 = .ok (.aload_n 0, 1) := by decide +kernel
theorem dX8_does_67 : decode cX8_does 67 = .ok (.getfield 38, 3) := by decide +kernel
theorem dX8_does_70 : decode cX8_does 70 = .ok (.bipush 12, 2) := by decide +kernel
theorem dX8_does_72 : decode cX8_does 72 = .ok (.iload_n 2, 1) := by decide +kernel
theorem dX8_does_73 : decode cX8_does 73 = .ok (.iadd, 1) := by decide +kernel
theorem dX8_does_74 : decode cX8_does 74 = .ok (.iload 4, 2) := by decide +kernel
theorem dX8_does_76 : decode cX8_does 76 = .ok (.iastore, 1) := by decide +kernel
theorem dX8_does_77 : decode cX8_does 77 = .ok (.iconst 1, 1) := by decide +kernel
theorem dX8_does_78 : decode cX8_does 78 = .ok (.ireturn, 1) := by decide +kernel
theorem dX8_does_79 : decode cX8_does 79 = .ok (.iload 5, 2) := by decide +kernel
theorem dX8_does_81 : decode cX8_does 81 = .ok (.invokestatic 183, 3) := by decide +kernel
theorem dX8_does_84 : decode cX8_does 84 = .ok (.ifCond .eq 33, 3) := by decide +kernel
theorem dX8_does_87 : decode cX8_does 87 = .ok (.aload_n 0, 1) := by decide +kernel
theorem dX8_does_88 : decode cX8_does 88 = .ok (.iload 4, 2) := by decide +kernel
theorem dX8_does_90 : decode cX8_does 90 = .ok (.invokevirtual 173, 3) := by decide +kernel
theorem dX8_does_93 : decode cX8_does 93 = .ok (.ifCond .ne 24, 3) := by decide +kernel
theorem dX8_does_96 : decode cX8_does 96 = .ok (.aload_n 0, 1) := by decide +kernel
theorem dX8_does_97 : decode cX8_does 97 = .ok (.aload_n 0, 1) := by decide +kernel
theorem dX8_does_98 : decode cX8_does 98 = .ok (.getfield 38, 3) := by decide +kernel
theorem dX8_does_101 : decode cX8_does 101 = .ok (.iload 4, 2) := by decide +kernel
theorem dX8_does_103 : decode cX8_does 103 = .ok (.iload 5, 2) := by decide +kernel
theorem dX8_does_105 : decode cX8_does 105 = .ok (.invokevirtual 138, 3) := by decide +kernel
theorem dX8_does_108 : decode cX8_does 108 = .ok (.bipush (-9), 2) := by decide +kernel
theorem dX8_does_110 : decode cX8_does 110 = .ok (.if_icmp .eq 7, 3) := by decide +kernel
theorem dX8_does_113 : decode cX8_does 113 = .ok (.iconst 1, 1) := by decide +kernel
theorem dX8_does_114 : decode cX8_does 114 = .ok (.goto 4, 3) := by decide +kernel
theorem dX8_does_117 : decode cX8_does 117 = .ok (.iconst 0, 1) := by decide +kernel
theorem dX8_does_118 : decode cX8_does 118 = .ok (.ireturn, 1) := by decide +kernel
theorem dX8_does_119 : decode cX8_does 119 = .ok (.iload 5, 2) := by decide +kernel
theorem dX8_does_121 : decode cX8_does 121 = .ok (.invokestatic 183, 3) := by decide +kernel
theorem dX8_does_124 : decode cX8_does 124 = .ok (.ifCond .eq 30, 3) := by decide +kernel
theorem dX8_does_127 : decode cX8_does 127 = .ok (.aload_n 0, 1) := by decide +kernel
theorem dX8_does_128 : decode cX8_does 128 = .ok (.aload_n 0, 1) := by decide +kernel
theorem dX8_does_129 : decode cX8_does 129 = .ok (.getfield 38, 3) := by decide +kernel
theorem dX8_does_132 : decode cX8_does 132 = .ok (.iload 5, 2) := by decide +kernel
theorem dX8_does_134 : decode cX8_does 134 = .ok (.iload 4, 2) := by decide +kernel
theorem dX8_does_136 : decode cX8_does 136 = .ok (.aload_n 0, 1) := by decide +kernel
theorem dX8_does_137 : decode cX8_does 137 = .ok (.invokevirtual 147, 3) := by decide +kernel
theorem dX8_does_140 : decode cX8_does 140 = .ok (.bipush (-9), 2) := by decide +kernel
theorem dX8_does_142 : decode cX8_does 142 = .ok (.invokevirtual 150, 3) := by decide +kernel
theorem dX8_does_145 : decode cX8_does 145 = .ok (.bipush (-9), 2) := by decide +kernel
theorem dX8_does_147 : decode cX8_does 147 = .ok (.if_icmp .eq 7, 3) := by decide +kernel
theorem dX8_does_150 : decode cX8_does 150 = .ok (.iconst 1, 1) := by decide +kernel
theorem dX8_does_151 : decode cX8_does 151 = .ok (.goto 4, 3) := by decide +kernel
theorem dX8_does_154 : decode cX8_does 154 = .ok (.iconst 0, 1) := by decide +kernel
theorem dX8_does_155 : decode cX8_does 155 = .ok (.ireturn, 1) := by decide +kernel
theorem dX8_does_156 : decode cX8_does 156 = .ok (.aload_n 0, 1) := by decide +kernel
theorem dX8_does_157 : decode cX8_does 157 = .ok (.iload_n 2, 1) := by decide +kernel
theorem dX8_does_158 : decode cX8_does 158 = .ok (.invokevirtual 169, 3) := by decide +kernel
theorem dX8_does_161 : decode cX8_does 161 = .ok (.ifCond .ne 16, 3) := by decide +kernel
theorem dX8_does_164 : decode cX8_does 164 = .ok (.iload 4, 2) := by decide +kernel
theorem dX8_does_166 : decode cX8_does 166 = .ok (.i2l, 1) := by decide +kernel
theorem dX8_does_167 : decode cX8_does 167 = .ok (.lconst 1, 1) := by decide +kernel
theorem dX8_does_168 : decode cX8_does 168 = .ok (.ldc2_w 188, 3) := by decide +kernel
theorem dX8_does_171 : decode cX8_does 171 = .ok (.invokestatic 76, 3) := by decide +kernel
theorem dX8_does_174 : decode cX8_does 174 = .ok (.ifCond .ne 5, 3) := by decide +kernel
theorem dX8_does_177 : decode cX8_does 177 = .ok (.iconst 0, 1) := by decide +kernel
theorem dX8_does_178 : decode cX8_does 178 = .ok (.ireturn, 1) := by decide +kernel
theorem dX8_does_179 : decode cX8_does 179 = .ok (.aload_n 0, 1) := by decide +kernel
theorem dX8_does_180 : decode cX8_does 180 = .ok (.getfield 38, 3) := by decide +kernel
theorem dX8_does_183 : decode cX8_does 183 = .ok (.iconst 0, 1) := by decide +kernel
theorem dX8_does_184 : decode cX8_does 184 = .ok (.iload_n 2, 1) := by decide +kernel
theorem dX8_does_185 : decode cX8_does 185 = .ok (.iadd, 1) := by decide +kernel
theorem dX8_does_186 : decode cX8_does 186 = .ok (.iload_n 3, 1) := by decide +kernel
theorem dX8_does_187 : decode cX8_does 187 = .ok (.iastore, 1) := by decide +kernel
theorem dX8_does_188 : decode cX8_does 188 = .ok (.aload_n 0, 1) := by decide +kernel
theorem dX8_does_189 : decode cX8_does 189 = .ok (.getfield 38, 3) := by decide +kernel
theorem dX8_does_192 : decode cX8_does 192 = .ok (.bipush 6, 2) := by decide +kernel
theorem dX8_does_194 : decode cX8_does 194 = .ok (.iload_n 2, 1) := by decide +kernel
theorem dX8_does_195 : decode cX8_does 195 = .ok (.iadd, 1) := by decide +kernel
theorem dX8_does_196 : decode cX8_does 196 = .ok (.iload 4, 2) := by decide +kernel
theorem dX8_does_198 : decode cX8_does 198 = .ok (.iastore, 1) := by decide +kernel
theorem dX8_does_199 : decode cX8_does 199 = .ok (.iconst 1, 1) := by decide +kernel
theorem dX8_does_200 : decode cX8_does 200 = .ok (.ireturn, 1) := by decide +kernel
theorem dX8_does_201 : decode cX8_does 201 = .ok (.iload_n 2, 1) := by decide +kernel
theorem dX8_does_202 : decode cX8_does 202 = .ok (.ifCond .ne 25, 3) := by decide +kernel
theorem dX8_does_205 : decode cX8_does 205 = .ok (.aload_n 0, 1) := by decide +kernel
theorem dX8_does_206 : decode cX8_does 206 = .ok (.aload_n 0, 1) := by decide +kernel
theorem dX8_does_207 : decode cX8_does 207 = .ok (.getfield 38, 3) := by decide +kernel
theorem dX8_does_210 : decode cX8_does 210 = .ok (.invokevirtual 165, 3) := by decide +kernel
theorem dX8_does_213 : decode cX8_does 213 = .ok (.bipush 10, 2) := by decide +kernel
theorem dX8_does_215 : decode cX8_does 215 = .ok (.iload_n 3, 1) := by decide +kernel
theorem dX8_does_216 : decode cX8_does 216 = .ok (.imul, 1) := by decide +kernel
theorem dX8_does_217 : decode cX8_does 217 = .ok (.iload 4, 2) := by decide +kernel
theorem dX8_does_219 : decode cX8_does 219 = .ok (.iadd, 1) := by decide +kernel
theorem dX8_does_220 : decode cX8_does 220 = .ok (.if_icmp .ne 7, 3) := by decide +kernel
theorem dX8_does_223 : decode cX8_does 223 = .ok (.iconst 1, 1) := by decide +kernel
theorem dX8_does_224 : decode cX8_does 224 = .ok (.goto 4, 3) := by decide +kernel
theorem dX8_does_227 : decode cX8_does 227 = .ok (.iconst 0, 1) := by decide +kernel
theorem dX8_does_228 : decode cX8_does 228 = .ok (.ireturn, 1) := by decide +kernel
theorem dX8_does_229 : decode cX8_does 229 = .ok (.iload 5, 2) := by decide +kernel
theorem dX8_does_231 : decode cX8_does 231 = .ok (.invokestatic 183, 3) := by decide +kernel
theorem dX8_does_234 : decode cX8_does 234 = .ok (.ifCond .eq 43, 3) := by decide +kernel
theorem dX8_does_237 : decode cX8_does 237 = .ok (.aload_n 0, 1) := by decide +kernel
theorem dX8_does_238 : decode cX8_does 238 = .ok (.iload 4, 2) := by decide +kernel
theorem dX8_does_240 : decode cX8_does 240 = .ok (.invokevirtual 173, 3) := by decide +kernel
theorem dX8_does_243 : decode cX8_does 243 = .ok (.ifCond .ne 34, 3) := by decide +kernel
theorem dX8_does_246 : decode cX8_does 246 = .ok (.aload_n 0, 1) := by decide +kernel
theorem dX8_does_247 : decode cX8_does 247 = .ok (.aload_n 0, 1) := by decide +kernel
theorem dX8_does_248 : decode cX8_does 248 = .ok (.getfield 38, 3) := by decide +kernel
theorem dX8_does_251 : decode cX8_does 251 = .ok (.iload 5, 2) := by decide +kernel
theorem dX8_does_253 : decode cX8_does 253 = .ok (.invokevirtual 127, 3) := by decide +kernel
theorem dX8_does_256 : decode cX8_does 256 = .ok (.bipush 10, 2) := by decide +kernel
theorem dX8_does_258 : decode cX8_does 258 = .ok (.aload_n 0, 1) := by decide +kernel
theorem dX8_does_259 : decode cX8_does 259 = .ok (.getfield 73, 3) := by decide +kernel
theorem dX8_does_262 : decode cX8_does 262 = .ok (.iconst 1, 1) := by decide +kernel
theorem dX8_does_263 : decode cX8_does 263 = .ok (.isub, 1) := by decide +kernel
theorem dX8_does_264 : decode cX8_does 264 = .ok (.invokestatic 135, 3) := by decide +kernel
theorem dX8_does_267 : decode cX8_does 267 = .ok (.idiv, 1) := by decide +kernel
theorem dX8_does_268 : decode cX8_does 268 = .ok (.iload 4, 2) := by decide +kernel
theorem dX8_does_270 : decode cX8_does 270 = .ok (.if_icmp .ne 7, 3) := by decide +kernel
theorem dX8_does_273 : decode cX8_does 273 = .ok (.iconst 1, 1) := by decide +kernel
theorem dX8_does_274 : decode cX8_does 274 = .ok (.goto 4, 3) := by decide +kernel
theorem dX8_does_277 : decode cX8_does 277 = .ok (.iconst 0, 1) := by decide +kernel
theorem dX8_does_278 : decode cX8_does 278 = .ok (.ireturn, 1) := by decide +kernel
theorem dX8_does_279 : decode cX8_does 279 = .ok (.iload_n 2, 1) := by decide +kernel
theorem dX8_does_280 : decode cX8_does 280 = .ok (.ifCond .ne 22, 3) := by decide +kernel
theorem dX8_does_283 : decode cX8_does 283 = .ok (.iload_n 3, 1) := by decide +kernel
theorem dX8_does_284 : decode cX8_does 284 = .ok (.ifCond .ne 18, 3) := by decide +kernel
theorem dX8_does_287 : decode cX8_does 287 = .ok (.iload 4, 2) := by decide +kernel
theorem dX8_does_289 : decode cX8_does 289 = .ok (.ifCond .ne 13, 3) := by decide +kernel
theorem dX8_does_292 : decode cX8_does 292 = .ok (.aload_n 0, 1) := by decide +kernel
theorem dX8_does_293 : decode cX8_does 293 = .ok (.getfield 38, 3) := by decide +kernel
theorem dX8_does_296 : decode cX8_does 296 = .ok (.bipush 31, 2) := by decide +kernel
theorem dX8_does_298 : decode cX8_does 298 = .ok (.iaload, 1) := by decide +kernel
theorem dX8_does_299 : decode cX8_does 299 = .ok (.ifCond .ne 5, 3) := by decide +kernel
theorem dX8_does_302 : decode cX8_does 302 = .ok (.iconst 0, 1) := by decide +kernel
theorem dX8_does_303 : decode cX8_does 303 = .ok (.ireturn, 1) := by decide +kernel
theorem dX8_does_304 : decode cX8_does 304 = .ok (.aload_n 0, 1) := by decide +kernel
theorem dX8_does_305 : decode cX8_does 305 = .ok (.getfield 38, 3) := by decide +kernel
theorem dX8_does_308 : decode cX8_does 308 = .ok (.bipush 31, 2) := by decide +kernel
theorem dX8_does_310 : decode cX8_does 310 = .ok (.dup2, 1) := by decide +kernel
theorem dX8_does_311 : decode cX8_does 311 = .ok (.iaload, 1) := by decide +kernel
theorem dX8_does_312 : decode cX8_does 312 = .ok (.iconst 1, 1) := by decide +kernel
theorem dX8_does_313 : decode cX8_does 313 = .ok (.isub, 1) := by decide +kernel
theorem dX8_does_314 : decode cX8_does 314 = .ok (.iastore, 1) := by decide +kernel
theorem dX8_does_315 : decode cX8_does 315 = .ok (.iconst 1, 1) := by decide +kernel
theorem dX8_does_316 : decode cX8_does 316 = .ok (.ireturn, 1) := by decide +kernel
theorem dX8_does_317 : decode cX8_does 317 = .ok (.iconst 0, 1) := by decide +kernel
theorem dX8_does_318 : decode cX8_does 318 = .ok (.ireturn, 1) := by decide +kernel
theorem dX8_longPower_0 : decode cX8_longPower 0 = .ok (.lconst 1, 1) := by decide +kernel
theorem dX8_longPower_1 : decode cX8_longPower 1 = .ok (.lstore_n 3, 1) := by decide +kernel
theorem dX8_longPower_2 : decode cX8_longPower 2 = .ok (.iconst 0, 1) := by decide +kernel
theorem dX8_longPower_3 : decode cX8_longPower 3 = .ok (.istore 5, 2) := by decide +kernel
theorem dX8_longPower_5 : decode cX8_longPower 5 = .ok (.iload 5, 2) := by decide +kernel
theorem dX8_longPower_7 : decode cX8_longPower 7 = .ok (.iload_n 2, 1) := by decide +kernel
theorem dX8_longPower_8 : decode cX8_longPower 8 = .ok (.if_icmp .ge 13, 3) := by decide +kernel
theorem dX8_longPower_11 : decode cX8_longPower 11 = .ok (.lload_n 3, 1) := by decide +kernel
theorem dX8_longPower_12 : decode cX8_longPower 12 = .ok (.lload_n 0, 1) := by decide +kernel
theorem dX8_longPower_13 : decode cX8_longPower 13 = .ok (.lmul, 1) := by decide +kernel
theorem dX8_longPower_14 : decode cX8_longPower 14 = .ok (.lstore_n 3, 1) := by decide +kernel
theorem dX8_longPower_15 : decode cX8_longPower 15 = .ok (.iinc 5 1, 3) := by decide +kernel
theorem dX8_longPower_18 : decode cX8_longPower 18 = .ok (.goto (-13), 3) := by decide +kernel
theorem dX8_longPower_21 : decode cX8_longPower 21 = .ok (.lload_n 3, 1) := by decide +kernel
theorem dX8_longPower_22 : decode cX8_longPower 22 = .ok (.lreturn, 1) := by decide +kernel
theorem dX8_judge_0 : decode cX8_judge 0 = .ok (.aload_n 0, 1) := by decide +kernel
theorem dX8_judge_1 : decode cX8_judge 1 = .ok (.iconst 0, 1) := by decide +kernel
theorem dX8_judge_2 : decode cX8_judge 2 = .ok (.putfield 69, 3) := by decide +kernel
theorem dX8_judge_5 : decode cX8_judge 5 = .ok (.iload_n 1, 1) := by decide +kernel
theorem dX8_judge_6 : decode cX8_judge 6 = .ok (.i2l, 1) := by decide +kernel
theorem dX8_judge_7 : decode cX8_judge 7 = .ok (.lconst 1, 1) := by decide +kernel
theorem dX8_judge_8 : decode cX8_judge 8 = .ok (.ldc2_w 205, 3) := by decide +kernel
theorem dX8_judge_11 : decode cX8_judge 11 = .ok (.invokestatic 76, 3) := by decide +kernel
theorem dX8_judge_14 : decode cX8_judge 14 = .ok (.ifCond .eq 20, 3) := by decide +kernel
theorem dX8_judge_17 : decode cX8_judge 17 = .ok (.lload_n 2, 1) := by decide +kernel
theorem dX8_judge_18 : decode cX8_judge 18 = .ok (.lconst 0, 1) := by decide +kernel
theorem dX8_judge_19 : decode cX8_judge 19 = .ok (.ldc2_w 207, 3) := by decide +kernel
theorem dX8_judge_22 : decode cX8_judge 22 = .ok (.iload_n 1, 1) := by decide +kernel
theorem dX8_judge_23 : decode cX8_judge 23 = .ok (.invokestatic 209, 3) := by decide +kernel
theorem dX8_judge_26 : decode cX8_judge 26 = .ok (.lconst 1, 1) := by decide +kernel
theorem dX8_judge_27 : decode cX8_judge 27 = .ok (.lsub, 1) := by decide +kernel
theorem dX8_judge_28 : decode cX8_judge 28 = .ok (.invokestatic 76, 3) := by decide +kernel
theorem dX8_judge_31 : decode cX8_judge 31 = .ok (.ifCond .ne 6, 3) := by decide +kernel
theorem dX8_judge_34 : decode cX8_judge 34 = .ok (.bipush (-2), 2) := by decide +kernel
theorem dX8_judge_36 : decode cX8_judge 36 = .ok (.ireturn, 1) := by decide +kernel
theorem dX8_judge_37 : decode cX8_judge 37 = .ok (.aload_n 0, 1) := by decide +kernel
theorem dX8_judge_38 : decode cX8_judge 38 = .ok (.invokevirtual 162, 3) := by decide +kernel
theorem dX8_judge_41 : decode cX8_judge 41 = .ok (.iconst 0, 1) := by decide +kernel
theorem dX8_judge_42 : decode cX8_judge 42 = .ok (.istore 4, 2) := by decide +kernel
theorem dX8_judge_44 : decode cX8_judge 44 = .ok (.iload 4, 2) := by decide +kernel
theorem dX8_judge_46 : decode cX8_judge 46 = .ok (.iload_n 1, 1) := by decide +kernel
theorem dX8_judge_47 : decode cX8_judge 47 = .ok (.if_icmp .ge 67, 3) := by decide +kernel
theorem dX8_judge_50 : decode cX8_judge 50 = .ok (.lload_n 2, 1) := by decide +kernel
theorem dX8_judge_51 : decode cX8_judge 51 = .ok (.ldc2_w 207, 3) := by decide +kernel
theorem dX8_judge_54 : decode cX8_judge 54 = .ok (.iload_n 1, 1) := by decide +kernel
theorem dX8_judge_55 : decode cX8_judge 55 = .ok (.iconst 1, 1) := by decide +kernel
theorem dX8_judge_56 : decode cX8_judge 56 = .ok (.isub, 1) := by decide +kernel
theorem dX8_judge_57 : decode cX8_judge 57 = .ok (.iload 4, 2) := by decide +kernel
theorem dX8_judge_59 : decode cX8_judge 59 = .ok (.isub, 1) := by decide +kernel
theorem dX8_judge_60 : decode cX8_judge 60 = .ok (.invokestatic 209, 3) := by decide +kernel
theorem dX8_judge_63 : decode cX8_judge 63 = .ok (.ldiv, 1) := by decide +kernel
theorem dX8_judge_64 : decode cX8_judge 64 = .ok (.ldc2_w 207, 3) := by decide +kernel
theorem dX8_judge_67 : decode cX8_judge 67 = .ok (.lrem, 1) := by decide +kernel
theorem dX8_judge_68 : decode cX8_judge 68 = .ok (.l2i, 1) := by decide +kernel
theorem dX8_judge_69 : decode cX8_judge 69 = .ok (.istore 5, 2) := by decide +kernel
theorem dX8_judge_71 : decode cX8_judge 71 = .ok (.aload_n 0, 1) := by decide +kernel
theorem dX8_judge_72 : decode cX8_judge 72 = .ok (.iload 5, 2) := by decide +kernel
theorem dX8_judge_74 : decode cX8_judge 74 = .ok (.sipush 1000, 3) := by decide +kernel
theorem dX8_judge_77 : decode cX8_judge 77 = .ok (.idiv, 1) := by decide +kernel
theorem dX8_judge_78 : decode cX8_judge 78 = .ok (.iload 5, 2) := by decide +kernel
theorem dX8_judge_80 : decode cX8_judge 80 = .ok (.bipush 100, 2) := by decide +kernel
theorem dX8_judge_82 : decode cX8_judge 82 = .ok (.idiv, 1) := by decide +kernel
theorem dX8_judge_83 : decode cX8_judge 83 = .ok (.bipush 10, 2) := by decide +kernel
theorem dX8_judge_85 : decode cX8_judge 85 = .ok (.irem, 1) := by decide +kernel
theorem dX8_judge_86 : decode cX8_judge 86 = .ok (.iload 5, 2) := by decide +kernel
theorem dX8_judge_88 : decode cX8_judge 88 = .ok (.bipush 10, 2) := by decide +kernel
theorem dX8_judge_90 : decode cX8_judge 90 = .ok (.idiv, 1) := by decide +kernel
theorem dX8_judge_91 : decode cX8_judge 91 = .ok (.bipush 10, 2) := by decide +kernel
theorem dX8_judge_93 : decode cX8_judge 93 = .ok (.irem, 1) := by decide +kernel
theorem dX8_judge_94 : decode cX8_judge 94 = .ok (.iload 5, 2) := by decide +kernel
theorem dX8_judge_96 : decode cX8_judge 96 = .ok (.bipush 10, 2) := by decide +kernel
theorem dX8_judge_98 : decode cX8_judge 98 = .ok (.irem, 1) := by decide +kernel
theorem dX8_judge_99 : decode cX8_judge 99 = .ok (.invokevirtual 213, 3) := by decide +kernel
theorem dX8_judge_102 : decode cX8_judge 102 = .ok (.ifCond .ne 6, 3) := by decide +kernel
theorem dX8_judge_105 : decode cX8_judge 105 = .ok (.iload 4, 2) := by decide +kernel
theorem dX8_judge_107 : decode cX8_judge 107 = .ok (.ireturn, 1) := by decide +kernel
theorem dX8_judge_108 : decode cX8_judge 108 = .ok (.iinc 4 1, 3) := by decide +kernel
theorem dX8_judge_111 : decode cX8_judge 111 = .ok (.goto (-67), 3) := by decide +kernel
theorem dX8_judge_114 : decode cX8_judge 114 = .ok (.bipush (-9), 2) := by decide +kernel
theorem dX8_judge_116 : decode cX8_judge 116 = .ok (.ireturn, 1) := by decide +kernel
theorem dX8_see_0 : decode cX8_see 0 = .ok (.aload_n 0, 1) := by decide +kernel
theorem dX8_see_1 : decode cX8_see 1 = .ok (.iconst 0, 1) := by decide +kernel
theorem dX8_see_2 : decode cX8_see 2 = .ok (.putfield 69, 3) := by decide +kernel
theorem dX8_see_5 : decode cX8_see 5 = .ok (.iload_n 1, 1) := by decide +kernel
theorem dX8_see_6 : decode cX8_see 6 = .ok (.invokestatic 183, 3) := by decide +kernel
theorem dX8_see_9 : decode cX8_see 9 = .ok (.ifCond .eq 33, 3) := by decide +kernel
theorem dX8_see_12 : decode cX8_see 12 = .ok (.iload_n 2, 1) := by decide +kernel
theorem dX8_see_13 : decode cX8_see 13 = .ok (.i2l, 1) := by decide +kernel
theorem dX8_see_14 : decode cX8_see 14 = .ok (.lconst 0, 1) := by decide +kernel
theorem dX8_see_15 : decode cX8_see 15 = .ok (.ldc2_w 186, 3) := by decide +kernel
theorem dX8_see_18 : decode cX8_see 18 = .ok (.invokestatic 76, 3) := by decide +kernel
theorem dX8_see_21 : decode cX8_see 21 = .ok (.ifCond .eq 21, 3) := by decide +kernel
theorem dX8_see_24 : decode cX8_see 24 = .ok (.iload_n 3, 1) := by decide +kernel
theorem dX8_see_25 : decode cX8_see 25 = .ok (.bipush (-9), 2) := by decide +kernel
theorem dX8_see_27 : decode cX8_see 27 = .ok (.if_icmp .eq 18, 3) := by decide +kernel
theorem dX8_see_30 : decode cX8_see 30 = .ok (.iload_n 3, 1) := by decide +kernel
theorem dX8_see_31 : decode cX8_see 31 = .ok (.i2l, 1) := by decide +kernel
theorem dX8_see_32 : decode cX8_see 32 = .ok (.lconst 0, 1) := by decide +kernel
theorem dX8_see_33 : decode cX8_see 33 = .ok (.ldc2_w 217, 3) := by decide +kernel
theorem dX8_see_36 : decode cX8_see 36 = .ok (.invokestatic 76, 3) := by decide +kernel
theorem dX8_see_39 : decode cX8_see 39 = .ok (.ifCond .ne 6, 3) := by decide +kernel
theorem dX8_see_42 : decode cX8_see 42 = .ok (.bipush (-2), 2) := by decide +kernel
theorem dX8_see_44 : decode cX8_see 44 = .ok (.ireturn, 1) := by decide +kernel
theorem dX8_see_45 : decode cX8_see 45 = .ok (.aload_n 0, 1) := by decide +kernel
theorem dX8_see_46 : decode cX8_see 46 = .ok (.getfield 219, 3) := by decide +kernel
theorem dX8_see_49 : decode cX8_see 49 = .ok (.bipush 6, 2) := by decide +kernel
theorem dX8_see_51 : decode cX8_see 51 = .ok (.if_icmp .ne 6, 3) := by decide +kernel
theorem dX8_see_54 : decode cX8_see 54 = .ok (.bipush (-4), 2) := by decide +kernel
theorem dX8_see_56 : decode cX8_see 56 = .ok (.ireturn, 1) := by decide +kernel
theorem dX8_see_57 : decode cX8_see 57 = .ok (.aload_n 0, 1) := by decide +kernel
theorem dX8_see_58 : decode cX8_see 58 = .ok (.getfield 50, 3) := by decide +kernel
theorem dX8_see_61 : decode cX8_see 61 = .ok (.aload_n 0, 1) := by decide +kernel
theorem dX8_see_62 : decode cX8_see 62 = .ok (.getfield 219, 3) := by decide +kernel
theorem dX8_see_65 : decode cX8_see 65 = .ok (.iload_n 1, 1) := by decide +kernel
theorem dX8_see_66 : decode cX8_see 66 = .ok (.iastore, 1) := by decide +kernel
theorem dX8_see_67 : decode cX8_see 67 = .ok (.aload_n 0, 1) := by decide +kernel
theorem dX8_see_68 : decode cX8_see 68 = .ok (.getfield 53, 3) := by decide +kernel
theorem dX8_see_71 : decode cX8_see 71 = .ok (.aload_n 0, 1) := by decide +kernel
theorem dX8_see_72 : decode cX8_see 72 = .ok (.getfield 219, 3) := by decide +kernel
theorem dX8_see_75 : decode cX8_see 75 = .ok (.iload_n 2, 1) := by decide +kernel
theorem dX8_see_76 : decode cX8_see 76 = .ok (.iastore, 1) := by decide +kernel
theorem dX8_see_77 : decode cX8_see 77 = .ok (.aload_n 0, 1) := by decide +kernel
theorem dX8_see_78 : decode cX8_see 78 = .ok (.getfield 56, 3) := by decide +kernel
theorem dX8_see_81 : decode cX8_see 81 = .ok (.aload_n 0, 1) := by decide +kernel
theorem dX8_see_82 : decode cX8_see 82 = .ok (.getfield 219, 3) := by decide +kernel
theorem dX8_see_85 : decode cX8_see 85 = .ok (.iload_n 3, 1) := by decide +kernel
theorem dX8_see_86 : decode cX8_see 86 = .ok (.iastore, 1) := by decide +kernel
theorem dX8_see_87 : decode cX8_see 87 = .ok (.aload_n 0, 1) := by decide +kernel
theorem dX8_see_88 : decode cX8_see 88 = .ok (.dup, 1) := by decide +kernel
theorem dX8_see_89 : decode cX8_see 89 = .ok (.getfield 219, 3) := by decide +kernel
theorem dX8_see_92 : decode cX8_see 92 = .ok (.iconst 1, 1) := by decide +kernel
theorem dX8_see_93 : decode cX8_see 93 = .ok (.iadd, 1) := by decide +kernel
theorem dX8_see_94 : decode cX8_see 94 = .ok (.putfield 219, 3) := by decide +kernel
theorem dX8_see_97 : decode cX8_see 97 = .ok (.aload_n 0, 1) := by decide +kernel
theorem dX8_see_98 : decode cX8_see 98 = .ok (.getfield 219, 3) := by decide +kernel
theorem dX8_see_101 : decode cX8_see 101 = .ok (.ireturn, 1) := by decide +kernel
theorem dX8_unsee_0 : decode cX8_unsee 0 = .ok (.aload_n 0, 1) := by decide +kernel
theorem dX8_unsee_1 : decode cX8_unsee 1 = .ok (.iconst 0, 1) := by decide +kernel
theorem dX8_unsee_2 : decode cX8_unsee 2 = .ok (.putfield 69, 3) := by decide +kernel
theorem dX8_unsee_5 : decode cX8_unsee 5 = .ok (.aload_n 0, 1) := by decide +kernel
theorem dX8_unsee_6 : decode cX8_unsee 6 = .ok (.getfield 219, 3) := by decide +kernel
theorem dX8_unsee_9 : decode cX8_unsee 9 = .ok (.istore_n 1, 1) := by decide +kernel
theorem dX8_unsee_10 : decode cX8_unsee 10 = .ok (.aload_n 0, 1) := by decide +kernel
theorem dX8_unsee_11 : decode cX8_unsee 11 = .ok (.iconst 0, 1) := by decide +kernel
theorem dX8_unsee_12 : decode cX8_unsee 12 = .ok (.putfield 219, 3) := by decide +kernel
theorem dX8_unsee_15 : decode cX8_unsee 15 = .ok (.iload_n 1, 1) := by decide +kernel
theorem dX8_unsee_16 : decode cX8_unsee 16 = .ok (.ireturn, 1) := by decide +kernel
theorem dX8_which_0 : decode cX8_which 0 = .ok (.aload_n 0, 1) := by decide +kernel
theorem dX8_which_1 : decode cX8_which 1 = .ok (.iconst 0, 1) := by decide +kernel
theorem dX8_which_2 : decode cX8_which 2 = .ok (.putfield 69, 3) := by decide +kernel
theorem dX8_which_5 : decode cX8_which 5 = .ok (.iconst 0, 1) := by decide +kernel
theorem dX8_which_6 : decode cX8_which 6 = .ok (.istore_n 1, 1) := by decide +kernel
theorem dX8_which_7 : decode cX8_which 7 = .ok (.iconst 0, 1) := by decide +kernel
theorem dX8_which_8 : decode cX8_which 8 = .ok (.istore_n 2, 1) := by decide +kernel
theorem dX8_which_9 : decode cX8_which 9 = .ok (.iload_n 2, 1) := by decide +kernel
theorem dX8_which_10 : decode cX8_which 10 = .ok (.aload_n 0, 1) := by decide +kernel
theorem dX8_which_11 : decode cX8_which 11 = .ok (.getfield 80, 3) := by decide +kernel
theorem dX8_which_14 : decode cX8_which 14 = .ok (.if_icmp .ge 90, 3) := by decide +kernel
theorem dX8_which_17 : decode cX8_which 17 = .ok (.iconst 1, 1) := by decide +kernel
theorem dX8_which_18 : decode cX8_which 18 = .ok (.istore_n 3, 1) := by decide +kernel
theorem dX8_which_19 : decode cX8_which 19 = .ok (.iconst 0, 1) := by decide +kernel
theorem dX8_which_20 : decode cX8_which 20 = .ok (.istore 4, 2) := by decide +kernel
theorem dX8_which_22 : decode cX8_which 22 = .ok (.iload 4, 2) := by decide +kernel
theorem dX8_which_24 : decode cX8_which 24 = .ok (.aload_n 0, 1) := by decide +kernel
theorem dX8_which_25 : decode cX8_which 25 = .ok (.getfield 219, 3) := by decide +kernel
theorem dX8_which_28 : decode cX8_which 28 = .ok (.if_icmp .ge 56, 3) := by decide +kernel
theorem dX8_which_31 : decode cX8_which 31 = .ok (.iload_n 3, 1) := by decide +kernel
theorem dX8_which_32 : decode cX8_which 32 = .ok (.ifCond .eq 44, 3) := by decide +kernel
theorem dX8_which_35 : decode cX8_which 35 = .ok (.aload_n 0, 1) := by decide +kernel
theorem dX8_which_36 : decode cX8_which 36 = .ok (.aload_n 0, 1) := by decide +kernel
theorem dX8_which_37 : decode cX8_which 37 = .ok (.getfield 35, 3) := by decide +kernel
theorem dX8_which_40 : decode cX8_which 40 = .ok (.aload_n 0, 1) := by decide +kernel
theorem dX8_which_41 : decode cX8_which 41 = .ok (.getfield 50, 3) := by decide +kernel
theorem dX8_which_44 : decode cX8_which 44 = .ok (.iload 4, 2) := by decide +kernel
theorem dX8_which_46 : decode cX8_which 46 = .ok (.iaload, 1) := by decide +kernel
theorem dX8_which_47 : decode cX8_which 47 = .ok (.aload_n 0, 1) := by decide +kernel
theorem dX8_which_48 : decode cX8_which 48 = .ok (.getfield 53, 3) := by decide +kernel
theorem dX8_which_51 : decode cX8_which 51 = .ok (.iload 4, 2) := by decide +kernel
theorem dX8_which_53 : decode cX8_which 53 = .ok (.iaload, 1) := by decide +kernel
theorem dX8_which_54 : decode cX8_which 54 = .ok (.aload_n 0, 1) := by decide +kernel
theorem dX8_which_55 : decode cX8_which 55 = .ok (.invokevirtual 147, 3) := by decide +kernel
theorem dX8_which_58 : decode cX8_which 58 = .ok (.iload_n 2, 1) := by decide +kernel
theorem dX8_which_59 : decode cX8_which 59 = .ok (.invokevirtual 150, 3) := by decide +kernel
theorem dX8_which_62 : decode cX8_which 62 = .ok (.aload_n 0, 1) := by decide +kernel
theorem dX8_which_63 : decode cX8_which 63 = .ok (.getfield 56, 3) := by decide +kernel
theorem dX8_which_66 : decode cX8_which 66 = .ok (.iload 4, 2) := by decide +kernel
theorem dX8_which_68 : decode cX8_which 68 = .ok (.iaload, 1) := by decide +kernel
theorem dX8_which_69 : decode cX8_which 69 = .ok (.if_icmp .ne 7, 3) := by decide +kernel
theorem dX8_which_72 : decode cX8_which 72 = .ok (.iconst 1, 1) := by decide +kernel
theorem dX8_which_73 : decode cX8_which 73 = .ok (.goto 4, 3) := by decide +kernel
theorem dX8_which_76 : decode cX8_which 76 = .ok (.iconst 0, 1) := by decide +kernel
theorem dX8_which_77 : decode cX8_which 77 = .ok (.istore_n 3, 1) := by decide +kernel
theorem dX8_which_78 : decode cX8_which 78 = .ok (.iinc 4 1, 3) := by decide +kernel
theorem dX8_which_81 : decode cX8_which 81 = .ok (.goto (-59), 3) := by decide +kernel
theorem dX8_which_84 : decode cX8_which 84 = .ok (.iload_n 1, 1) := by decide +kernel
theorem dX8_which_85 : decode cX8_which 85 = .ok (.iload_n 3, 1) := by decide +kernel
theorem dX8_which_86 : decode cX8_which 86 = .ok (.ifCond .eq 9, 3) := by decide +kernel
theorem dX8_which_89 : decode cX8_which 89 = .ok (.iconst 1, 1) := by decide +kernel
theorem dX8_which_90 : decode cX8_which 90 = .ok (.iload_n 2, 1) := by decide +kernel
theorem dX8_which_91 : decode cX8_which 91 = .ok (.ishl, 1) := by decide +kernel
theorem dX8_which_92 : decode cX8_which 92 = .ok (.goto 4, 3) := by decide +kernel
theorem dX8_which_95 : decode cX8_which 95 = .ok (.iconst 0, 1) := by decide +kernel
theorem dX8_which_96 : decode cX8_which 96 = .ok (.ior, 1) := by decide +kernel
theorem dX8_which_97 : decode cX8_which 97 = .ok (.istore_n 1, 1) := by decide +kernel
theorem dX8_which_98 : decode cX8_which 98 = .ok (.iinc 2 1, 3) := by decide +kernel
theorem dX8_which_101 : decode cX8_which 101 = .ok (.goto (-92), 3) := by decide +kernel
theorem dX8_which_104 : decode cX8_which 104 = .ok (.iload_n 1, 1) := by decide +kernel
theorem dX8_which_105 : decode cX8_which 105 = .ok (.ireturn, 1) := by decide +kernel
theorem dX8_divisor_0 : decode cX8_divisor 0 = .ok (.iload_n 0, 1) := by decide +kernel
theorem dX8_divisor_1 : decode cX8_divisor 1 = .ok (.ifCond .ge 8, 3) := by decide +kernel
theorem dX8_divisor_4 : decode cX8_divisor 4 = .ok (.iload_n 0, 1) := by decide +kernel
theorem dX8_divisor_5 : decode cX8_divisor 5 = .ok (.ineg, 1) := by decide +kernel
theorem dX8_divisor_6 : decode cX8_divisor 6 = .ok (.goto 4, 3) := by decide +kernel
theorem dX8_divisor_9 : decode cX8_divisor 9 = .ok (.iload_n 0, 1) := by decide +kernel
theorem dX8_divisor_10 : decode cX8_divisor 10 = .ok (.istore_n 2, 1) := by decide +kernel
theorem dX8_divisor_11 : decode cX8_divisor 11 = .ok (.iload_n 1, 1) := by decide +kernel
theorem dX8_divisor_12 : decode cX8_divisor 12 = .ok (.istore_n 3, 1) := by decide +kernel
theorem dX8_divisor_13 : decode cX8_divisor 13 = .ok (.iload_n 3, 1) := by decide +kernel
theorem dX8_divisor_14 : decode cX8_divisor 14 = .ok (.ifCond .eq 16, 3) := by decide +kernel
theorem dX8_divisor_17 : decode cX8_divisor 17 = .ok (.iload_n 2, 1) := by decide +kernel
theorem dX8_divisor_18 : decode cX8_divisor 18 = .ok (.iload_n 3, 1) := by decide +kernel
theorem dX8_divisor_19 : decode cX8_divisor 19 = .ok (.irem, 1) := by decide +kernel
theorem dX8_divisor_20 : decode cX8_divisor 20 = .ok (.istore 4, 2) := by decide +kernel
theorem dX8_divisor_22 : decode cX8_divisor 22 = .ok (.iload_n 3, 1) := by decide +kernel
theorem dX8_divisor_23 : decode cX8_divisor 23 = .ok (.istore_n 2, 1) := by decide +kernel
theorem dX8_divisor_24 : decode cX8_divisor 24 = .ok (.iload 4, 2) := by decide +kernel
theorem dX8_divisor_26 : decode cX8_divisor 26 = .ok (.istore_n 3, 1) := by decide +kernel
theorem dX8_divisor_27 : decode cX8_divisor 27 = .ok (.goto (-14), 3) := by decide +kernel
theorem dX8_divisor_30 : decode cX8_divisor 30 = .ok (.iload_n 2, 1) := by decide +kernel
theorem dX8_divisor_31 : decode cX8_divisor 31 = .ok (.ireturn, 1) := by decide +kernel
theorem dX8_fraction_0 : decode cX8_fraction 0 = .ok (.iload_n 0, 1) := by decide +kernel
theorem dX8_fraction_1 : decode cX8_fraction 1 = .ok (.iload_n 1, 1) := by decide +kernel
theorem dX8_fraction_2 : decode cX8_fraction 2 = .ok (.invokestatic 222, 3) := by decide +kernel
theorem dX8_fraction_5 : decode cX8_fraction 5 = .ok (.istore_n 3, 1) := by decide +kernel
theorem dX8_fraction_6 : decode cX8_fraction 6 = .ok (.iload_n 2, 1) := by decide +kernel
theorem dX8_fraction_7 : decode cX8_fraction 7 = .ok (.ifCond .eq 9, 3) := by decide +kernel
theorem dX8_fraction_10 : decode cX8_fraction 10 = .ok (.iload_n 0, 1) := by decide +kernel
theorem dX8_fraction_11 : decode cX8_fraction 11 = .ok (.iload_n 3, 1) := by decide +kernel
theorem dX8_fraction_12 : decode cX8_fraction 12 = .ok (.idiv, 1) := by decide +kernel
theorem dX8_fraction_13 : decode cX8_fraction 13 = .ok (.goto 6, 3) := by decide +kernel
theorem dX8_fraction_16 : decode cX8_fraction 16 = .ok (.iload_n 1, 1) := by decide +kernel
theorem dX8_fraction_17 : decode cX8_fraction 17 = .ok (.iload_n 3, 1) := by decide +kernel
theorem dX8_fraction_18 : decode cX8_fraction 18 = .ok (.idiv, 1) := by decide +kernel
theorem dX8_fraction_19 : decode cX8_fraction 19 = .ok (.ireturn, 1) := by decide +kernel
theorem dX8_factorial_0 : decode cX8_factorial 0 = .ok (.iconst 1, 1) := by decide +kernel
theorem dX8_factorial_1 : decode cX8_factorial 1 = .ok (.istore_n 1, 1) := by decide +kernel
theorem dX8_factorial_2 : decode cX8_factorial 2 = .ok (.iconst 2, 1) := by decide +kernel
theorem dX8_factorial_3 : decode cX8_factorial 3 = .ok (.istore_n 2, 1) := by decide +kernel
theorem dX8_factorial_4 : decode cX8_factorial 4 = .ok (.iload_n 2, 1) := by decide +kernel
theorem dX8_factorial_5 : decode cX8_factorial 5 = .ok (.iload_n 0, 1) := by decide +kernel
theorem dX8_factorial_6 : decode cX8_factorial 6 = .ok (.if_icmp .gt 13, 3) := by decide +kernel
theorem dX8_factorial_9 : decode cX8_factorial 9 = .ok (.iload_n 1, 1) := by decide +kernel
theorem dX8_factorial_10 : decode cX8_factorial 10 = .ok (.iload_n 2, 1) := by decide +kernel
theorem dX8_factorial_11 : decode cX8_factorial 11 = .ok (.imul, 1) := by decide +kernel
theorem dX8_factorial_12 : decode cX8_factorial 12 = .ok (.istore_n 1, 1) := by decide +kernel
theorem dX8_factorial_13 : decode cX8_factorial 13 = .ok (.iinc 2 1, 3) := by decide +kernel
theorem dX8_factorial_16 : decode cX8_factorial 16 = .ok (.goto (-12), 3) := by decide +kernel
theorem dX8_factorial_19 : decode cX8_factorial 19 = .ok (.iload_n 1, 1) := by decide +kernel
theorem dX8_factorial_20 : decode cX8_factorial 20 = .ok (.ireturn, 1) := by decide +kernel
theorem dX8_coveredBy_0 : decode cX8_coveredBy 0 = .ok (.iconst 0, 1) := by decide +kernel
theorem dX8_coveredBy_1 : decode cX8_coveredBy 1 = .ok (.istore_n 2, 1) := by decide +kernel
theorem dX8_coveredBy_2 : decode cX8_coveredBy 2 = .ok (.iconst 0, 1) := by decide +kernel
theorem dX8_coveredBy_3 : decode cX8_coveredBy 3 = .ok (.istore_n 3, 1) := by decide +kernel
theorem dX8_coveredBy_4 : decode cX8_coveredBy 4 = .ok (.iload_n 3, 1) := by decide +kernel
theorem dX8_coveredBy_5 : decode cX8_coveredBy 5 = .ok (.bipush 24, 2) := by decide +kernel
theorem dX8_coveredBy_7 : decode cX8_coveredBy 7 = .ok (.if_icmp .ge 52, 3) := by decide +kernel
theorem dX8_coveredBy_10 : decode cX8_coveredBy 10 = .ok (.iconst 0, 1) := by decide +kernel
theorem dX8_coveredBy_11 : decode cX8_coveredBy 11 = .ok (.istore 4, 2) := by decide +kernel
theorem dX8_coveredBy_13 : decode cX8_coveredBy 13 = .ok (.iload 4, 2) := by decide +kernel
theorem dX8_coveredBy_15 : decode cX8_coveredBy 15 = .ok (.bipush 10, 2) := by decide +kernel
theorem dX8_coveredBy_17 : decode cX8_coveredBy 17 = .ok (.if_icmp .ge 36, 3) := by decide +kernel
theorem dX8_coveredBy_20 : decode cX8_coveredBy 20 = .ok (.iload_n 2, 1) := by decide +kernel
theorem dX8_coveredBy_21 : decode cX8_coveredBy 21 = .ok (.aload_n 0, 1) := by decide +kernel
theorem dX8_coveredBy_22 : decode cX8_coveredBy 22 = .ok (.aload_n 0, 1) := by decide +kernel
theorem dX8_coveredBy_23 : decode cX8_coveredBy 23 = .ok (.getfield 35, 3) := by decide +kernel
theorem dX8_coveredBy_26 : decode cX8_coveredBy 26 = .ok (.iload_n 3, 1) := by decide +kernel
theorem dX8_coveredBy_27 : decode cX8_coveredBy 27 = .ok (.iload 4, 2) := by decide +kernel
theorem dX8_coveredBy_29 : decode cX8_coveredBy 29 = .ok (.iload_n 1, 1) := by decide +kernel
theorem dX8_coveredBy_30 : decode cX8_coveredBy 30 = .ok (.bipush (-9), 2) := by decide +kernel
theorem dX8_coveredBy_32 : decode cX8_coveredBy 32 = .ok (.invokevirtual 150, 3) := by decide +kernel
theorem dX8_coveredBy_35 : decode cX8_coveredBy 35 = .ok (.bipush (-9), 2) := by decide +kernel
theorem dX8_coveredBy_37 : decode cX8_coveredBy 37 = .ok (.if_icmp .eq 7, 3) := by decide +kernel
theorem dX8_coveredBy_40 : decode cX8_coveredBy 40 = .ok (.iconst 1, 1) := by decide +kernel
theorem dX8_coveredBy_41 : decode cX8_coveredBy 41 = .ok (.goto 4, 3) := by decide +kernel
theorem dX8_coveredBy_44 : decode cX8_coveredBy 44 = .ok (.iconst 0, 1) := by decide +kernel
theorem dX8_coveredBy_45 : decode cX8_coveredBy 45 = .ok (.iadd, 1) := by decide +kernel
theorem dX8_coveredBy_46 : decode cX8_coveredBy 46 = .ok (.istore_n 2, 1) := by decide +kernel
theorem dX8_coveredBy_47 : decode cX8_coveredBy 47 = .ok (.iinc 4 1, 3) := by decide +kernel
theorem dX8_coveredBy_50 : decode cX8_coveredBy 50 = .ok (.goto (-37), 3) := by decide +kernel
theorem dX8_coveredBy_53 : decode cX8_coveredBy 53 = .ok (.iinc 3 1, 3) := by decide +kernel
theorem dX8_coveredBy_56 : decode cX8_coveredBy 56 = .ok (.goto (-52), 3) := by decide +kernel
theorem dX8_coveredBy_59 : decode cX8_coveredBy 59 = .ok (.iload_n 2, 1) := by decide +kernel
theorem dX8_coveredBy_60 : decode cX8_coveredBy 60 = .ok (.ireturn, 1) := by decide +kernel
theorem dX8_share_0 : decode cX8_share 0 = .ok (.aload_n 0, 1) := by decide +kernel
theorem dX8_share_1 : decode cX8_share 1 = .ok (.iconst 0, 1) := by decide +kernel
theorem dX8_share_2 : decode cX8_share 2 = .ok (.putfield 69, 3) := by decide +kernel
theorem dX8_share_5 : decode cX8_share 5 = .ok (.aload_n 0, 1) := by decide +kernel
theorem dX8_share_6 : decode cX8_share 6 = .ok (.iload_n 1, 1) := by decide +kernel
theorem dX8_share_7 : decode cX8_share 7 = .ok (.invokevirtual 173, 3) := by decide +kernel
theorem dX8_share_10 : decode cX8_share 10 = .ok (.ifCond .eq 5, 3) := by decide +kernel
theorem dX8_share_13 : decode cX8_share 13 = .ok (.iconst (-1), 1) := by decide +kernel
theorem dX8_share_14 : decode cX8_share 14 = .ok (.ireturn, 1) := by decide +kernel
theorem dX8_share_15 : decode cX8_share 15 = .ok (.iconst 0, 1) := by decide +kernel
theorem dX8_share_16 : decode cX8_share 16 = .ok (.istore_n 3, 1) := by decide +kernel
theorem dX8_share_17 : decode cX8_share 17 = .ok (.iconst 0, 1) := by decide +kernel
theorem dX8_share_18 : decode cX8_share 18 = .ok (.istore 4, 2) := by decide +kernel
theorem dX8_share_20 : decode cX8_share 20 = .ok (.iload 4, 2) := by decide +kernel
theorem dX8_share_22 : decode cX8_share 22 = .ok (.aload_n 0, 1) := by decide +kernel
theorem dX8_share_23 : decode cX8_share 23 = .ok (.invokevirtual 147, 3) := by decide +kernel
theorem dX8_share_26 : decode cX8_share 26 = .ok (.if_icmp .gt 68, 3) := by decide +kernel
theorem dX8_share_29 : decode cX8_share 29 = .ok (.iload 4, 2) := by decide +kernel
theorem dX8_share_31 : decode cX8_share 31 = .ok (.invokestatic 225, 3) := by decide +kernel
theorem dX8_share_34 : decode cX8_share 34 = .ok (.istore 5, 2) := by decide +kernel
theorem dX8_share_36 : decode cX8_share 36 = .ok (.iload_n 3, 1) := by decide +kernel
theorem dX8_share_37 : decode cX8_share 37 = .ok (.iload 4, 2) := by decide +kernel
theorem dX8_share_39 : decode cX8_share 39 = .ok (.iload_n 1, 1) := by decide +kernel
theorem dX8_share_40 : decode cX8_share 40 = .ok (.invokestatic 141, 3) := by decide +kernel
theorem dX8_share_43 : decode cX8_share 43 = .ok (.ifCond .eq 7, 3) := by decide +kernel
theorem dX8_share_46 : decode cX8_share 46 = .ok (.iconst 0, 1) := by decide +kernel
theorem dX8_share_47 : decode cX8_share 47 = .ok (.goto 39, 3) := by decide +kernel
theorem dX8_share_50 : decode cX8_share 50 = .ok (.iload 5, 2) := by decide +kernel
theorem dX8_share_52 : decode cX8_share 52 = .ok (.invokestatic 228, 3) := by decide +kernel
theorem dX8_share_55 : decode cX8_share 55 = .ok (.aload_n 0, 1) := by decide +kernel
theorem dX8_share_56 : decode cX8_share 56 = .ok (.getfield 73, 3) := by decide +kernel
theorem dX8_share_59 : decode cX8_share 59 = .ok (.iconst 1, 1) := by decide +kernel
theorem dX8_share_60 : decode cX8_share 60 = .ok (.isub, 1) := by decide +kernel
theorem dX8_share_61 : decode cX8_share 61 = .ok (.iload 5, 2) := by decide +kernel
theorem dX8_share_63 : decode cX8_share 63 = .ok (.isub, 1) := by decide +kernel
theorem dX8_share_64 : decode cX8_share 64 = .ok (.invokestatic 228, 3) := by decide +kernel
theorem dX8_share_67 : decode cX8_share 67 = .ok (.imul, 1) := by decide +kernel
theorem dX8_share_68 : decode cX8_share 68 = .ok (.aload_n 0, 1) := by decide +kernel
theorem dX8_share_69 : decode cX8_share 69 = .ok (.iload 4, 2) := by decide +kernel
theorem dX8_share_71 : decode cX8_share 71 = .ok (.iconst 1, 1) := by decide +kernel
theorem dX8_share_72 : decode cX8_share 72 = .ok (.iload_n 1, 1) := by decide +kernel
theorem dX8_share_73 : decode cX8_share 73 = .ok (.ishl, 1) := by decide +kernel
theorem dX8_share_74 : decode cX8_share 74 = .ok (.ior, 1) := by decide +kernel
theorem dX8_share_75 : decode cX8_share 75 = .ok (.invokevirtual 231, 3) := by decide +kernel
theorem dX8_share_78 : decode cX8_share 78 = .ok (.aload_n 0, 1) := by decide +kernel
theorem dX8_share_79 : decode cX8_share 79 = .ok (.iload 4, 2) := by decide +kernel
theorem dX8_share_81 : decode cX8_share 81 = .ok (.invokevirtual 231, 3) := by decide +kernel
theorem dX8_share_84 : decode cX8_share 84 = .ok (.isub, 1) := by decide +kernel
theorem dX8_share_85 : decode cX8_share 85 = .ok (.imul, 1) := by decide +kernel
theorem dX8_share_86 : decode cX8_share 86 = .ok (.iadd, 1) := by decide +kernel
theorem dX8_share_87 : decode cX8_share 87 = .ok (.istore_n 3, 1) := by decide +kernel
theorem dX8_share_88 : decode cX8_share 88 = .ok (.iinc 4 1, 3) := by decide +kernel
theorem dX8_share_91 : decode cX8_share 91 = .ok (.goto (-71), 3) := by decide +kernel
theorem dX8_share_94 : decode cX8_share 94 = .ok (.iload_n 3, 1) := by decide +kernel
theorem dX8_share_95 : decode cX8_share 95 = .ok (.aload_n 0, 1) := by decide +kernel
theorem dX8_share_96 : decode cX8_share 96 = .ok (.getfield 73, 3) := by decide +kernel
theorem dX8_share_99 : decode cX8_share 99 = .ok (.invokestatic 228, 3) := by decide +kernel
theorem dX8_share_102 : decode cX8_share 102 = .ok (.iload_n 2, 1) := by decide +kernel
theorem dX8_share_103 : decode cX8_share 103 = .ok (.invokestatic 234, 3) := by decide +kernel
theorem dX8_share_106 : decode cX8_share 106 = .ok (.ireturn, 1) := by decide +kernel
theorem dX8_lost_0 : decode cX8_lost 0 = .ok (.aload_n 0, 1) := by decide +kernel
theorem dX8_lost_1 : decode cX8_lost 1 = .ok (.iconst 0, 1) := by decide +kernel
theorem dX8_lost_2 : decode cX8_lost 2 = .ok (.putfield 69, 3) := by decide +kernel
theorem dX8_lost_5 : decode cX8_lost 5 = .ok (.iload_n 1, 1) := by decide +kernel
theorem dX8_lost_6 : decode cX8_lost 6 = .ok (.invokestatic 183, 3) := by decide +kernel
theorem dX8_lost_9 : decode cX8_lost 9 = .ok (.ifCond .eq 27, 3) := by decide +kernel
theorem dX8_lost_12 : decode cX8_lost 12 = .ok (.iload_n 2, 1) := by decide +kernel
theorem dX8_lost_13 : decode cX8_lost 13 = .ok (.i2l, 1) := by decide +kernel
theorem dX8_lost_14 : decode cX8_lost 14 = .ok (.lconst 0, 1) := by decide +kernel
theorem dX8_lost_15 : decode cX8_lost 15 = .ok (.ldc2_w 186, 3) := by decide +kernel
theorem dX8_lost_18 : decode cX8_lost 18 = .ok (.invokestatic 76, 3) := by decide +kernel
theorem dX8_lost_21 : decode cX8_lost 21 = .ok (.ifCond .eq 15, 3) := by decide +kernel
theorem dX8_lost_24 : decode cX8_lost 24 = .ok (.iload_n 3, 1) := by decide +kernel
theorem dX8_lost_25 : decode cX8_lost 25 = .ok (.i2l, 1) := by decide +kernel
theorem dX8_lost_26 : decode cX8_lost 26 = .ok (.lconst 0, 1) := by decide +kernel
theorem dX8_lost_27 : decode cX8_lost 27 = .ok (.ldc2_w 238, 3) := by decide +kernel
theorem dX8_lost_30 : decode cX8_lost 30 = .ok (.invokestatic 76, 3) := by decide +kernel
theorem dX8_lost_33 : decode cX8_lost 33 = .ok (.ifCond .ne 6, 3) := by decide +kernel
theorem dX8_lost_36 : decode cX8_lost 36 = .ok (.bipush (-2), 2) := by decide +kernel
theorem dX8_lost_38 : decode cX8_lost 38 = .ok (.ireturn, 1) := by decide +kernel
theorem dX8_lost_39 : decode cX8_lost 39 = .ok (.iconst 0, 1) := by decide +kernel
theorem dX8_lost_40 : decode cX8_lost 40 = .ok (.istore 5, 2) := by decide +kernel
theorem dX8_lost_42 : decode cX8_lost 42 = .ok (.iconst 0, 1) := by decide +kernel
theorem dX8_lost_43 : decode cX8_lost 43 = .ok (.istore 6, 2) := by decide +kernel
theorem dX8_lost_45 : decode cX8_lost 45 = .ok (.iload 6, 2) := by decide +kernel
theorem dX8_lost_47 : decode cX8_lost 47 = .ok (.aload_n 0, 1) := by decide +kernel
theorem dX8_lost_48 : decode cX8_lost 48 = .ok (.invokevirtual 147, 3) := by decide +kernel
theorem dX8_lost_51 : decode cX8_lost 51 = .ok (.if_icmp .gt 64, 3) := by decide +kernel
theorem dX8_lost_54 : decode cX8_lost 54 = .ok (.iload 5, 2) := by decide +kernel
theorem dX8_lost_56 : decode cX8_lost 56 = .ok (.aload_n 0, 1) := by decide +kernel
theorem dX8_lost_57 : decode cX8_lost 57 = .ok (.aload_n 0, 1) := by decide +kernel
theorem dX8_lost_58 : decode cX8_lost 58 = .ok (.getfield 35, 3) := by decide +kernel
theorem dX8_lost_61 : decode cX8_lost 61 = .ok (.iload_n 1, 1) := by decide +kernel
theorem dX8_lost_62 : decode cX8_lost 62 = .ok (.iload_n 2, 1) := by decide +kernel
theorem dX8_lost_63 : decode cX8_lost 63 = .ok (.iload 6, 2) := by decide +kernel
theorem dX8_lost_65 : decode cX8_lost 65 = .ok (.bipush (-9), 2) := by decide +kernel
theorem dX8_lost_67 : decode cX8_lost 67 = .ok (.invokevirtual 150, 3) := by decide +kernel
theorem dX8_lost_70 : decode cX8_lost 70 = .ok (.bipush (-9), 2) := by decide +kernel
theorem dX8_lost_72 : decode cX8_lost 72 = .ok (.if_icmp .eq 33, 3) := by decide +kernel
theorem dX8_lost_75 : decode cX8_lost 75 = .ok (.bipush 10, 2) := by decide +kernel
theorem dX8_lost_77 : decode cX8_lost 77 = .ok (.iload_n 3, 1) := by decide +kernel
theorem dX8_lost_78 : decode cX8_lost 78 = .ok (.isub, 1) := by decide +kernel
theorem dX8_lost_79 : decode cX8_lost 79 = .ok (.iload 6, 2) := by decide +kernel
theorem dX8_lost_81 : decode cX8_lost 81 = .ok (.invokestatic 225, 3) := by decide +kernel
theorem dX8_lost_84 : decode cX8_lost 84 = .ok (.invokestatic 135, 3) := by decide +kernel
theorem dX8_lost_87 : decode cX8_lost 87 = .ok (.iload_n 3, 1) := by decide +kernel
theorem dX8_lost_88 : decode cX8_lost 88 = .ok (.aload_n 0, 1) := by decide +kernel
theorem dX8_lost_89 : decode cX8_lost 89 = .ok (.getfield 73, 3) := by decide +kernel
theorem dX8_lost_92 : decode cX8_lost 92 = .ok (.iload 6, 2) := by decide +kernel
theorem dX8_lost_94 : decode cX8_lost 94 = .ok (.invokestatic 225, 3) := by decide +kernel
theorem dX8_lost_97 : decode cX8_lost 97 = .ok (.isub, 1) := by decide +kernel
theorem dX8_lost_98 : decode cX8_lost 98 = .ok (.invokestatic 135, 3) := by decide +kernel
theorem dX8_lost_101 : decode cX8_lost 101 = .ok (.imul, 1) := by decide +kernel
theorem dX8_lost_102 : decode cX8_lost 102 = .ok (.goto 4, 3) := by decide +kernel
theorem dX8_lost_105 : decode cX8_lost 105 = .ok (.iconst 0, 1) := by decide +kernel
theorem dX8_lost_106 : decode cX8_lost 106 = .ok (.iadd, 1) := by decide +kernel
theorem dX8_lost_107 : decode cX8_lost 107 = .ok (.istore 5, 2) := by decide +kernel
theorem dX8_lost_109 : decode cX8_lost 109 = .ok (.iinc 6 1, 3) := by decide +kernel
theorem dX8_lost_112 : decode cX8_lost 112 = .ok (.goto (-67), 3) := by decide +kernel
theorem dX8_lost_115 : decode cX8_lost 115 = .ok (.iload 5, 2) := by decide +kernel
theorem dX8_lost_117 : decode cX8_lost 117 = .ok (.bipush 10, 2) := by decide +kernel
theorem dX8_lost_119 : decode cX8_lost 119 = .ok (.aload_n 0, 1) := by decide +kernel
theorem dX8_lost_120 : decode cX8_lost 120 = .ok (.getfield 73, 3) := by decide +kernel
theorem dX8_lost_123 : decode cX8_lost 123 = .ok (.invokestatic 135, 3) := by decide +kernel
theorem dX8_lost_126 : decode cX8_lost 126 = .ok (.iload 4, 2) := by decide +kernel
theorem dX8_lost_128 : decode cX8_lost 128 = .ok (.invokestatic 234, 3) := by decide +kernel
theorem dX8_lost_131 : decode cX8_lost 131 = .ok (.ireturn, 1) := by decide +kernel
theorem dX8_seed_0 : decode cX8_seed 0 = .ok (.aload_n 0, 1) := by decide +kernel
theorem dX8_seed_1 : decode cX8_seed 1 = .ok (.iconst 0, 1) := by decide +kernel
theorem dX8_seed_2 : decode cX8_seed 2 = .ok (.putfield 69, 3) := by decide +kernel
theorem dX8_seed_5 : decode cX8_seed 5 = .ok (.aload_n 0, 1) := by decide +kernel
theorem dX8_seed_6 : decode cX8_seed 6 = .ok (.getfield 240, 3) := by decide +kernel
theorem dX8_seed_9 : decode cX8_seed 9 = .ok (.lstore_n 3, 1) := by decide +kernel
theorem dX8_seed_10 : decode cX8_seed 10 = .ok (.aload_n 0, 1) := by decide +kernel
theorem dX8_seed_11 : decode cX8_seed 11 = .ok (.lload_n 1, 1) := by decide +kernel
theorem dX8_seed_12 : decode cX8_seed 12 = .ok (.putfield 240, 3) := by decide +kernel
theorem dX8_seed_15 : decode cX8_seed 15 = .ok (.lload_n 3, 1) := by decide +kernel
theorem dX8_seed_16 : decode cX8_seed 16 = .ok (.lreturn, 1) := by decide +kernel
theorem dX8_looks_0 : decode cX8_looks 0 = .ok (.aload_n 0, 1) := by decide +kernel
theorem dX8_looks_1 : decode cX8_looks 1 = .ok (.iconst 0, 1) := by decide +kernel
theorem dX8_looks_2 : decode cX8_looks 2 = .ok (.putfield 69, 3) := by decide +kernel
theorem dX8_looks_5 : decode cX8_looks 5 = .ok (.iload_n 1, 1) := by decide +kernel
theorem dX8_looks_6 : decode cX8_looks 6 = .ok (.i2l, 1) := by decide +kernel
theorem dX8_looks_7 : decode cX8_looks 7 = .ok (.lconst 1, 1) := by decide +kernel
theorem dX8_looks_8 : decode cX8_looks 8 = .ok (.ldc2_w 244, 3) := by decide +kernel
theorem dX8_looks_11 : decode cX8_looks 11 = .ok (.invokestatic 76, 3) := by decide +kernel
theorem dX8_looks_14 : decode cX8_looks 14 = .ok (.ifCond .ne 6, 3) := by decide +kernel
theorem dX8_looks_17 : decode cX8_looks 17 = .ok (.bipush (-2), 2) := by decide +kernel
theorem dX8_looks_19 : decode cX8_looks 19 = .ok (.ireturn, 1) := by decide +kernel
theorem dX8_looks_20 : decode cX8_looks 20 = .ok (.iconst 0, 1) := by decide +kernel
theorem dX8_looks_21 : decode cX8_looks 21 = .ok (.istore_n 2, 1) := by decide +kernel
theorem dX8_looks_22 : decode cX8_looks 22 = .ok (.iconst 0, 1) := by decide +kernel
theorem dX8_looks_23 : decode cX8_looks 23 = .ok (.istore_n 3, 1) := by decide +kernel
theorem dX8_looks_24 : decode cX8_looks 24 = .ok (.iload_n 3, 1) := by decide +kernel
theorem dX8_looks_25 : decode cX8_looks 25 = .ok (.iload_n 1, 1) := by decide +kernel
theorem dX8_looks_26 : decode cX8_looks 26 = .ok (.if_icmp .ge 75, 3) := by decide +kernel
theorem dX8_looks_29 : decode cX8_looks 29 = .ok (.aload_n 0, 1) := by decide +kernel
theorem dX8_looks_30 : decode cX8_looks 30 = .ok (.aload_n 0, 1) := by decide +kernel
theorem dX8_looks_31 : decode cX8_looks 31 = .ok (.getfield 240, 3) := by decide +kernel
theorem dX8_looks_34 : decode cX8_looks 34 = .ok (.ldc2_w 246, 3) := by decide +kernel
theorem dX8_looks_37 : decode cX8_looks 37 = .ok (.lmul, 1) := by decide +kernel
theorem dX8_looks_38 : decode cX8_looks 38 = .ok (.ldc2_w 248, 3) := by decide +kernel
theorem dX8_looks_41 : decode cX8_looks 41 = .ok (.ladd, 1) := by decide +kernel
theorem dX8_looks_42 : decode cX8_looks 42 = .ok (.putfield 240, 3) := by decide +kernel
theorem dX8_looks_45 : decode cX8_looks 45 = .ok (.aload_n 0, 1) := by decide +kernel
theorem dX8_looks_46 : decode cX8_looks 46 = .ok (.getfield 240, 3) := by decide +kernel
theorem dX8_looks_49 : decode cX8_looks 49 = .ok (.bipush 33, 2) := by decide +kernel
theorem dX8_looks_51 : decode cX8_looks 51 = .ok (.lushr, 1) := by decide +kernel
theorem dX8_looks_52 : decode cX8_looks 52 = .ok (.l2i, 1) := by decide +kernel
theorem dX8_looks_53 : decode cX8_looks 53 = .ok (.istore 4, 2) := by decide +kernel
theorem dX8_looks_55 : decode cX8_looks 55 = .ok (.iload_n 2, 1) := by decide +kernel
theorem dX8_looks_56 : decode cX8_looks 56 = .ok (.aload_n 0, 1) := by decide +kernel
theorem dX8_looks_57 : decode cX8_looks 57 = .ok (.aload_n 0, 1) := by decide +kernel
theorem dX8_looks_58 : decode cX8_looks 58 = .ok (.getfield 35, 3) := by decide +kernel
theorem dX8_looks_61 : decode cX8_looks 61 = .ok (.iload 4, 2) := by decide +kernel
theorem dX8_looks_63 : decode cX8_looks 63 = .ok (.bipush 48, 2) := by decide +kernel
theorem dX8_looks_65 : decode cX8_looks 65 = .ok (.irem, 1) := by decide +kernel
theorem dX8_looks_66 : decode cX8_looks 66 = .ok (.iload 4, 2) := by decide +kernel
theorem dX8_looks_68 : decode cX8_looks 68 = .ok (.bipush 48, 2) := by decide +kernel
theorem dX8_looks_70 : decode cX8_looks 70 = .ok (.idiv, 1) := by decide +kernel
theorem dX8_looks_71 : decode cX8_looks 71 = .ok (.bipush 10, 2) := by decide +kernel
theorem dX8_looks_73 : decode cX8_looks 73 = .ok (.irem, 1) := by decide +kernel
theorem dX8_looks_74 : decode cX8_looks 74 = .ok (.aload_n 0, 1) := by decide +kernel
theorem dX8_looks_75 : decode cX8_looks 75 = .ok (.invokevirtual 147, 3) := by decide +kernel
theorem dX8_looks_78 : decode cX8_looks 78 = .ok (.bipush (-9), 2) := by decide +kernel
theorem dX8_looks_80 : decode cX8_looks 80 = .ok (.invokevirtual 150, 3) := by decide +kernel
theorem dX8_looks_83 : decode cX8_looks 83 = .ok (.bipush (-9), 2) := by decide +kernel
theorem dX8_looks_85 : decode cX8_looks 85 = .ok (.if_icmp .eq 7, 3) := by decide +kernel
theorem dX8_looks_88 : decode cX8_looks 88 = .ok (.iconst 1, 1) := by decide +kernel
theorem dX8_looks_89 : decode cX8_looks 89 = .ok (.goto 4, 3) := by decide +kernel
theorem dX8_looks_92 : decode cX8_looks 92 = .ok (.iconst 0, 1) := by decide +kernel
theorem dX8_looks_93 : decode cX8_looks 93 = .ok (.iadd, 1) := by decide +kernel
theorem dX8_looks_94 : decode cX8_looks 94 = .ok (.istore_n 2, 1) := by decide +kernel
theorem dX8_looks_95 : decode cX8_looks 95 = .ok (.iinc 3 1, 3) := by decide +kernel
theorem dX8_looks_98 : decode cX8_looks 98 = .ok (.goto (-74), 3) := by decide +kernel
theorem dX8_looks_101 : decode cX8_looks 101 = .ok (.iload_n 2, 1) := by decide +kernel
theorem dX8_looks_102 : decode cX8_looks 102 = .ok (.ireturn, 1) := by decide +kernel
theorem dX8_keep_0 : decode cX8_keep 0 = .ok (.aload_n 0, 1) := by decide +kernel
theorem dX8_keep_1 : decode cX8_keep 1 = .ok (.iconst 0, 1) := by decide +kernel
theorem dX8_keep_2 : decode cX8_keep 2 = .ok (.putfield 69, 3) := by decide +kernel
theorem dX8_keep_5 : decode cX8_keep 5 = .ok (.iload_n 1, 1) := by decide +kernel
theorem dX8_keep_6 : decode cX8_keep 6 = .ok (.i2l, 1) := by decide +kernel
theorem dX8_keep_7 : decode cX8_keep 7 = .ok (.lconst 0, 1) := by decide +kernel
theorem dX8_keep_8 : decode cX8_keep 8 = .ok (.lconst 1, 1) := by decide +kernel
theorem dX8_keep_9 : decode cX8_keep 9 = .ok (.invokestatic 76, 3) := by decide +kernel
theorem dX8_keep_12 : decode cX8_keep 12 = .ok (.ifCond .ne 5, 3) := by decide +kernel
theorem dX8_keep_15 : decode cX8_keep 15 = .ok (.iconst (-1), 1) := by decide +kernel
theorem dX8_keep_16 : decode cX8_keep 16 = .ok (.ireturn, 1) := by decide +kernel
theorem dX8_keep_17 : decode cX8_keep 17 = .ok (.aload_n 0, 1) := by decide +kernel
theorem dX8_keep_18 : decode cX8_keep 18 = .ok (.getfield 47, 3) := by decide +kernel
theorem dX8_keep_21 : decode cX8_keep 21 = .ok (.iload_n 1, 1) := by decide +kernel
theorem dX8_keep_22 : decode cX8_keep 22 = .ok (.iconst 1, 1) := by decide +kernel
theorem dX8_keep_23 : decode cX8_keep 23 = .ok (.bastore, 1) := by decide +kernel
theorem dX8_keep_24 : decode cX8_keep 24 = .ok (.iconst 0, 1) := by decide +kernel
theorem dX8_keep_25 : decode cX8_keep 25 = .ok (.istore_n 2, 1) := by decide +kernel
theorem dX8_keep_26 : decode cX8_keep 26 = .ok (.iload_n 2, 1) := by decide +kernel
theorem dX8_keep_27 : decode cX8_keep 27 = .ok (.bipush 40, 2) := by decide +kernel
theorem dX8_keep_29 : decode cX8_keep 29 = .ok (.if_icmp .ge 26, 3) := by decide +kernel
theorem dX8_keep_32 : decode cX8_keep 32 = .ok (.aload_n 0, 1) := by decide +kernel
theorem dX8_keep_33 : decode cX8_keep 33 = .ok (.getfield 44, 3) := by decide +kernel
theorem dX8_keep_36 : decode cX8_keep 36 = .ok (.bipush 40, 2) := by decide +kernel
theorem dX8_keep_38 : decode cX8_keep 38 = .ok (.iload_n 1, 1) := by decide +kernel
theorem dX8_keep_39 : decode cX8_keep 39 = .ok (.imul, 1) := by decide +kernel
theorem dX8_keep_40 : decode cX8_keep 40 = .ok (.iload_n 2, 1) := by decide +kernel
theorem dX8_keep_41 : decode cX8_keep 41 = .ok (.iadd, 1) := by decide +kernel
theorem dX8_keep_42 : decode cX8_keep 42 = .ok (.aload_n 0, 1) := by decide +kernel
theorem dX8_keep_43 : decode cX8_keep 43 = .ok (.getfield 35, 3) := by decide +kernel
theorem dX8_keep_46 : decode cX8_keep 46 = .ok (.iload_n 2, 1) := by decide +kernel
theorem dX8_keep_47 : decode cX8_keep 47 = .ok (.iaload, 1) := by decide +kernel
theorem dX8_keep_48 : decode cX8_keep 48 = .ok (.iastore, 1) := by decide +kernel
theorem dX8_keep_49 : decode cX8_keep 49 = .ok (.iinc 2 1, 3) := by decide +kernel
theorem dX8_keep_52 : decode cX8_keep 52 = .ok (.goto (-26), 3) := by decide +kernel
theorem dX8_keep_55 : decode cX8_keep 55 = .ok (.aload_n 0, 1) := by decide +kernel
theorem dX8_keep_56 : decode cX8_keep 56 = .ok (.getfield 35, 3) := by decide +kernel
theorem dX8_keep_59 : decode cX8_keep 59 = .ok (.bipush 31, 2) := by decide +kernel
theorem dX8_keep_61 : decode cX8_keep 61 = .ok (.iaload, 1) := by decide +kernel
theorem dX8_keep_62 : decode cX8_keep 62 = .ok (.ireturn, 1) := by decide +kernel
theorem dX8_again_0 : decode cX8_again 0 = .ok (.aload_n 0, 1) := by decide +kernel
theorem dX8_again_1 : decode cX8_again 1 = .ok (.iconst 0, 1) := by decide +kernel
theorem dX8_again_2 : decode cX8_again 2 = .ok (.putfield 69, 3) := by decide +kernel
theorem dX8_again_5 : decode cX8_again 5 = .ok (.iload_n 1, 1) := by decide +kernel
theorem dX8_again_6 : decode cX8_again 6 = .ok (.i2l, 1) := by decide +kernel
theorem dX8_again_7 : decode cX8_again 7 = .ok (.lconst 0, 1) := by decide +kernel
theorem dX8_again_8 : decode cX8_again 8 = .ok (.lconst 1, 1) := by decide +kernel
theorem dX8_again_9 : decode cX8_again 9 = .ok (.invokestatic 76, 3) := by decide +kernel
theorem dX8_again_12 : decode cX8_again 12 = .ok (.ifCond .ne 5, 3) := by decide +kernel
theorem dX8_again_15 : decode cX8_again 15 = .ok (.iconst (-1), 1) := by decide +kernel
theorem dX8_again_16 : decode cX8_again 16 = .ok (.ireturn, 1) := by decide +kernel
theorem dX8_again_17 : decode cX8_again 17 = .ok (.aload_n 0, 1) := by decide +kernel
theorem dX8_again_18 : decode cX8_again 18 = .ok (.getfield 47, 3) := by decide +kernel
theorem dX8_again_21 : decode cX8_again 21 = .ok (.iload_n 1, 1) := by decide +kernel
theorem dX8_again_22 : decode cX8_again 22 = .ok (.baload, 1) := by decide +kernel
theorem dX8_again_23 : decode cX8_again 23 = .ok (.ifCond .ne 6, 3) := by decide +kernel
theorem dX8_again_26 : decode cX8_again 26 = .ok (.bipush (-3), 2) := by decide +kernel
theorem dX8_again_28 : decode cX8_again 28 = .ok (.ireturn, 1) := by decide +kernel
theorem dX8_again_29 : decode cX8_again 29 = .ok (.iconst 0, 1) := by decide +kernel
theorem dX8_again_30 : decode cX8_again 30 = .ok (.istore_n 2, 1) := by decide +kernel
theorem dX8_again_31 : decode cX8_again 31 = .ok (.iload_n 2, 1) := by decide +kernel
theorem dX8_again_32 : decode cX8_again 32 = .ok (.bipush 40, 2) := by decide +kernel
theorem dX8_again_34 : decode cX8_again 34 = .ok (.if_icmp .ge 26, 3) := by decide +kernel
theorem dX8_again_37 : decode cX8_again 37 = .ok (.aload_n 0, 1) := by decide +kernel
theorem dX8_again_38 : decode cX8_again 38 = .ok (.getfield 35, 3) := by decide +kernel
theorem dX8_again_41 : decode cX8_again 41 = .ok (.iload_n 2, 1) := by decide +kernel
theorem dX8_again_42 : decode cX8_again 42 = .ok (.aload_n 0, 1) := by decide +kernel
theorem dX8_again_43 : decode cX8_again 43 = .ok (.getfield 44, 3) := by decide +kernel
theorem dX8_again_46 : decode cX8_again 46 = .ok (.bipush 40, 2) := by decide +kernel
theorem dX8_again_48 : decode cX8_again 48 = .ok (.iload_n 1, 1) := by decide +kernel
theorem dX8_again_49 : decode cX8_again 49 = .ok (.imul, 1) := by decide +kernel
theorem dX8_again_50 : decode cX8_again 50 = .ok (.iload_n 2, 1) := by decide +kernel
theorem dX8_again_51 : decode cX8_again 51 = .ok (.iadd, 1) := by decide +kernel
theorem dX8_again_52 : decode cX8_again 52 = .ok (.iaload, 1) := by decide +kernel
theorem dX8_again_53 : decode cX8_again 53 = .ok (.iastore, 1) := by decide +kernel
theorem dX8_again_54 : decode cX8_again 54 = .ok (.iinc 2 1, 3) := by decide +kernel
theorem dX8_again_57 : decode cX8_again 57 = .ok (.goto (-26), 3) := by decide +kernel
theorem dX8_again_60 : decode cX8_again 60 = .ok (.aload_n 0, 1) := by decide +kernel
theorem dX8_again_61 : decode cX8_again 61 = .ok (.iconst 0, 1) := by decide +kernel
theorem dX8_again_62 : decode cX8_again 62 = .ok (.putfield 121, 3) := by decide +kernel
theorem dX8_again_65 : decode cX8_again 65 = .ok (.aload_n 0, 1) := by decide +kernel
theorem dX8_again_66 : decode cX8_again 66 = .ok (.getfield 35, 3) := by decide +kernel
theorem dX8_again_69 : decode cX8_again 69 = .ok (.bipush 31, 2) := by decide +kernel
theorem dX8_again_71 : decode cX8_again 71 = .ok (.iaload, 1) := by decide +kernel
theorem dX8_again_72 : decode cX8_again 72 = .ok (.ireturn, 1) := by decide +kernel
theorem dX8_count_0 : decode cX8_count 0 = .ok (.aload_n 0, 1) := by decide +kernel
theorem dX8_count_1 : decode cX8_count 1 = .ok (.iconst 0, 1) := by decide +kernel
theorem dX8_count_2 : decode cX8_count 2 = .ok (.putfield 69, 3) := by decide +kernel
theorem dX8_count_5 : decode cX8_count 5 = .ok (.iload_n 1, 1) := by decide +kernel
theorem dX8_count_6 : decode cX8_count 6 = .ok (.tableswitch 71 0 5 #[38, 43, 48, 53, 61, 66], 38) := by decide +kernel
theorem dX8_count_44 : decode cX8_count 44 = .ok (.aload_n 0, 1) := by decide +kernel
theorem dX8_count_45 : decode cX8_count 45 = .ok (.getfield 87, 3) := by decide +kernel
theorem dX8_count_48 : decode cX8_count 48 = .ok (.ireturn, 1) := by decide +kernel
theorem dX8_count_49 : decode cX8_count 49 = .ok (.aload_n 0, 1) := by decide +kernel
theorem dX8_count_50 : decode cX8_count 50 = .ok (.getfield 80, 3) := by decide +kernel
theorem dX8_count_53 : decode cX8_count 53 = .ok (.ireturn, 1) := by decide +kernel
theorem dX8_count_54 : decode cX8_count 54 = .ok (.aload_n 0, 1) := by decide +kernel
theorem dX8_count_55 : decode cX8_count 55 = .ok (.getfield 73, 3) := by decide +kernel
theorem dX8_count_58 : decode cX8_count 58 = .ok (.ireturn, 1) := by decide +kernel
theorem dX8_count_59 : decode cX8_count 59 = .ok (.aload_n 0, 1) := by decide +kernel
theorem dX8_count_60 : decode cX8_count 60 = .ok (.getfield 35, 3) := by decide +kernel
theorem dX8_count_63 : decode cX8_count 63 = .ok (.bipush 31, 2) := by decide +kernel
theorem dX8_count_65 : decode cX8_count 65 = .ok (.iaload, 1) := by decide +kernel
theorem dX8_count_66 : decode cX8_count 66 = .ok (.ireturn, 1) := by decide +kernel
theorem dX8_count_67 : decode cX8_count 67 = .ok (.aload_n 0, 1) := by decide +kernel
theorem dX8_count_68 : decode cX8_count 68 = .ok (.getfield 121, 3) := by decide +kernel
theorem dX8_count_71 : decode cX8_count 71 = .ok (.ireturn, 1) := by decide +kernel
theorem dX8_count_72 : decode cX8_count 72 = .ok (.aload_n 0, 1) := by decide +kernel
theorem dX8_count_73 : decode cX8_count 73 = .ok (.getfield 219, 3) := by decide +kernel
theorem dX8_count_76 : decode cX8_count 76 = .ok (.ireturn, 1) := by decide +kernel
theorem dX8_count_77 : decode cX8_count 77 = .ok (.bipush (-2), 2) := by decide +kernel
theorem dX8_count_79 : decode cX8_count 79 = .ok (.ireturn, 1) := by decide +kernel
