theorem dX3_init_0 : decode cX3_init 0 = .ok (.aload_n 0, 1) := by decide +kernel
theorem dX3_init_1 : decode cX3_init 1 = .ok (.invokespecial 3, 3) := by decide +kernel
theorem dX3_init_4 : decode cX3_init 4 = .ok (.aload_n 0, 1) := by decide +kernel
theorem dX3_init_5 : decode cX3_init 5 = .ok (.new 9, 3) := by decide +kernel
theorem dX3_init_8 : decode cX3_init 8 = .ok (.dup, 1) := by decide +kernel
theorem dX3_init_9 : decode cX3_init 9 = .ok (.invokespecial 11, 3) := by decide +kernel
theorem dX3_init_12 : decode cX3_init 12 = .ok (.putfield 12, 3) := by decide +kernel
theorem dX3_init_15 : decode cX3_init 15 = .ok (.aload_n 0, 1) := by decide +kernel
theorem dX3_init_16 : decode cX3_init 16 = .ok (.new 18, 3) := by decide +kernel
theorem dX3_init_19 : decode cX3_init 19 = .ok (.dup, 1) := by decide +kernel
theorem dX3_init_20 : decode cX3_init 20 = .ok (.invokespecial 20, 3) := by decide +kernel
theorem dX3_init_23 : decode cX3_init 23 = .ok (.putfield 21, 3) := by decide +kernel
theorem dX3_init_26 : decode cX3_init 26 = .ok (.aload_n 0, 1) := by decide +kernel
theorem dX3_init_27 : decode cX3_init 27 = .ok (.new 25, 3) := by decide +kernel
theorem dX3_init_30 : decode cX3_init 30 = .ok (.dup, 1) := by decide +kernel
theorem dX3_init_31 : decode cX3_init 31 = .ok (.invokespecial 27, 3) := by decide +kernel
theorem dX3_init_34 : decode cX3_init 34 = .ok (.putfield 28, 3) := by decide +kernel
theorem dX3_init_37 : decode cX3_init 37 = .ok (.aload_n 0, 1) := by decide +kernel
theorem dX3_init_38 : decode cX3_init 38 = .ok (.iconst 4, 1) := by decide +kernel
theorem dX3_init_39 : decode cX3_init 39 = .ok (.newarray .int, 2) := by decide +kernel
theorem dX3_init_41 : decode cX3_init 41 = .ok (.putfield 32, 3) := by decide +kernel
theorem dX3_init_44 : decode cX3_init 44 = .ok (.aload_n 0, 1) := by decide +kernel
theorem dX3_init_45 : decode cX3_init 45 = .ok (.bipush 10, 2) := by decide +kernel
theorem dX3_init_47 : decode cX3_init 47 = .ok (.newarray .int, 2) := by decide +kernel
theorem dX3_init_49 : decode cX3_init 49 = .ok (.putfield 36, 3) := by decide +kernel
theorem dX3_init_52 : decode cX3_init 52 = .ok (.aload_n 0, 1) := by decide +kernel
theorem dX3_init_53 : decode cX3_init 53 = .ok (.bipush 6, 2) := by decide +kernel
theorem dX3_init_55 : decode cX3_init 55 = .ok (.newarray .int, 2) := by decide +kernel
theorem dX3_init_57 : decode cX3_init 57 = .ok (.putfield 39, 3) := by decide +kernel
theorem dX3_init_60 : decode cX3_init 60 = .ok (.aload_n 0, 1) := by decide +kernel
theorem dX3_init_61 : decode cX3_init 61 = .ok (.bipush 6, 2) := by decide +kernel
theorem dX3_init_63 : decode cX3_init 63 = .ok (.newarray .int, 2) := by decide +kernel
theorem dX3_init_65 : decode cX3_init 65 = .ok (.putfield 42, 3) := by decide +kernel
theorem dX3_init_68 : decode cX3_init 68 = .ok (.return_, 1) := by decide +kernel
theorem dX3_forgetShorts_0 : decode cX3_forgetShorts 0 = .ok (.iconst 0, 1) := by decide +kernel
theorem dX3_forgetShorts_1 : decode cX3_forgetShorts 1 = .ok (.istore_n 1, 1) := by decide +kernel
theorem dX3_forgetShorts_2 : decode cX3_forgetShorts 2 = .ok (.iload_n 1, 1) := by decide +kernel
theorem dX3_forgetShorts_3 : decode cX3_forgetShorts 3 = .ok (.iconst 4, 1) := by decide +kernel
theorem dX3_forgetShorts_4 : decode cX3_forgetShorts 4 = .ok (.if_icmp .ge 16, 3) := by decide +kernel
theorem dX3_forgetShorts_7 : decode cX3_forgetShorts 7 = .ok (.aload_n 0, 1) := by decide +kernel
theorem dX3_forgetShorts_8 : decode cX3_forgetShorts 8 = .ok (.getfield 32, 3) := by decide +kernel
theorem dX3_forgetShorts_11 : decode cX3_forgetShorts 11 = .ok (.iload_n 1, 1) := by decide +kernel
theorem dX3_forgetShorts_12 : decode cX3_forgetShorts 12 = .ok (.iconst 0, 1) := by decide +kernel
theorem dX3_forgetShorts_13 : decode cX3_forgetShorts 13 = .ok (.iastore, 1) := by decide +kernel
theorem dX3_forgetShorts_14 : decode cX3_forgetShorts 14 = .ok (.iinc 1 1, 3) := by decide +kernel
theorem dX3_forgetShorts_17 : decode cX3_forgetShorts 17 = .ok (.goto (-15), 3) := by decide +kernel
theorem dX3_forgetShorts_20 : decode cX3_forgetShorts 20 = .ok (.return_, 1) := by decide +kernel
theorem dX3_drawingOn_0 : decode cX3_drawingOn 0 = .ok (.iload_n 2, 1) := by decide +kernel
theorem dX3_drawingOn_1 : decode cX3_drawingOn 1 = .ok (.aload_n 0, 1) := by decide +kernel
theorem dX3_drawingOn_2 : decode cX3_drawingOn 2 = .ok (.getfield 21, 3) := by decide +kernel
theorem dX3_drawingOn_5 : decode cX3_drawingOn 5 = .ok (.getfield 45, 3) := by decide +kernel
theorem dX3_drawingOn_8 : decode cX3_drawingOn 8 = .ok (.iload_n 1, 1) := by decide +kernel
theorem dX3_drawingOn_9 : decode cX3_drawingOn 9 = .ok (.iaload, 1) := by decide +kernel
theorem dX3_drawingOn_10 : decode cX3_drawingOn 10 = .ok (.isub, 1) := by decide +kernel
theorem dX3_drawingOn_11 : decode cX3_drawingOn 11 = .ok (.istore_n 3, 1) := by decide +kernel
theorem dX3_drawingOn_12 : decode cX3_drawingOn 12 = .ok (.iload_n 3, 1) := by decide +kernel
theorem dX3_drawingOn_13 : decode cX3_drawingOn 13 = .ok (.ifCond .lt 16, 3) := by decide +kernel
theorem dX3_drawingOn_16 : decode cX3_drawingOn 16 = .ok (.iload_n 3, 1) := by decide +kernel
theorem dX3_drawingOn_17 : decode cX3_drawingOn 17 = .ok (.aload_n 0, 1) := by decide +kernel
theorem dX3_drawingOn_18 : decode cX3_drawingOn 18 = .ok (.getfield 12, 3) := by decide +kernel
theorem dX3_drawingOn_21 : decode cX3_drawingOn 21 = .ok (.getfield 48, 3) := by decide +kernel
theorem dX3_drawingOn_24 : decode cX3_drawingOn 24 = .ok (.iload_n 1, 1) := by decide +kernel
theorem dX3_drawingOn_25 : decode cX3_drawingOn 25 = .ok (.iaload, 1) := by decide +kernel
theorem dX3_drawingOn_26 : decode cX3_drawingOn 26 = .ok (.if_icmp .lt 6, 3) := by decide +kernel
theorem dX3_drawingOn_29 : decode cX3_drawingOn 29 = .ok (.bipush (-9), 2) := by decide +kernel
theorem dX3_drawingOn_31 : decode cX3_drawingOn 31 = .ok (.ireturn, 1) := by decide +kernel
theorem dX3_drawingOn_32 : decode cX3_drawingOn 32 = .ok (.aload_n 0, 1) := by decide +kernel
theorem dX3_drawingOn_33 : decode cX3_drawingOn 33 = .ok (.getfield 12, 3) := by decide +kernel
theorem dX3_drawingOn_36 : decode cX3_drawingOn 36 = .ok (.getfield 51, 3) := by decide +kernel
theorem dX3_drawingOn_39 : decode cX3_drawingOn 39 = .ok (.iload_n 1, 1) := by decide +kernel
theorem dX3_drawingOn_40 : decode cX3_drawingOn 40 = .ok (.bipush 48, 2) := by decide +kernel
theorem dX3_drawingOn_42 : decode cX3_drawingOn 42 = .ok (.imul, 1) := by decide +kernel
theorem dX3_drawingOn_43 : decode cX3_drawingOn 43 = .ok (.iload_n 3, 1) := by decide +kernel
theorem dX3_drawingOn_44 : decode cX3_drawingOn 44 = .ok (.iadd, 1) := by decide +kernel
theorem dX3_drawingOn_45 : decode cX3_drawingOn 45 = .ok (.iaload, 1) := by decide +kernel
theorem dX3_drawingOn_46 : decode cX3_drawingOn 46 = .ok (.ireturn, 1) := by decide +kernel
theorem dX3_isOrder_0 : decode cX3_isOrder 0 = .ok (.iload_n 1, 1) := by decide +kernel
theorem dX3_isOrder_1 : decode cX3_isOrder 1 = .ok (.ifCond .lt 18, 3) := by decide +kernel
theorem dX3_isOrder_4 : decode cX3_isOrder 4 = .ok (.iload_n 1, 1) := by decide +kernel
theorem dX3_isOrder_5 : decode cX3_isOrder 5 = .ok (.getstatic 54, 3) := by decide +kernel
theorem dX3_isOrder_8 : decode cX3_isOrder 8 = .ok (.aload_n 0, 1) := by decide +kernel
theorem dX3_isOrder_9 : decode cX3_isOrder 9 = .ok (.getfield 12, 3) := by decide +kernel
theorem dX3_isOrder_12 : decode cX3_isOrder 12 = .ok (.getfield 57, 3) := by decide +kernel
theorem dX3_isOrder_15 : decode cX3_isOrder 15 = .ok (.iaload, 1) := by decide +kernel
theorem dX3_isOrder_16 : decode cX3_isOrder 16 = .ok (.if_icmp .lt 5, 3) := by decide +kernel
theorem dX3_isOrder_19 : decode cX3_isOrder 19 = .ok (.iconst 0, 1) := by decide +kernel
theorem dX3_isOrder_20 : decode cX3_isOrder 20 = .ok (.ireturn, 1) := by decide +kernel
theorem dX3_isOrder_21 : decode cX3_isOrder 21 = .ok (.iconst 0, 1) := by decide +kernel
theorem dX3_isOrder_22 : decode cX3_isOrder 22 = .ok (.istore_n 2, 1) := by decide +kernel
theorem dX3_isOrder_23 : decode cX3_isOrder 23 = .ok (.iconst 0, 1) := by decide +kernel
theorem dX3_isOrder_24 : decode cX3_isOrder 24 = .ok (.istore_n 3, 1) := by decide +kernel
theorem dX3_isOrder_25 : decode cX3_isOrder 25 = .ok (.iload_n 3, 1) := by decide +kernel
theorem dX3_isOrder_26 : decode cX3_isOrder 26 = .ok (.aload_n 0, 1) := by decide +kernel
theorem dX3_isOrder_27 : decode cX3_isOrder 27 = .ok (.getfield 12, 3) := by decide +kernel
theorem dX3_isOrder_30 : decode cX3_isOrder 30 = .ok (.getfield 57, 3) := by decide +kernel
theorem dX3_isOrder_33 : decode cX3_isOrder 33 = .ok (.if_icmp .ge 20, 3) := by decide +kernel
theorem dX3_isOrder_36 : decode cX3_isOrder 36 = .ok (.iload_n 2, 1) := by decide +kernel
theorem dX3_isOrder_37 : decode cX3_isOrder 37 = .ok (.iconst 1, 1) := by decide +kernel
theorem dX3_isOrder_38 : decode cX3_isOrder 38 = .ok (.aload_n 0, 1) := by decide +kernel
theorem dX3_isOrder_39 : decode cX3_isOrder 39 = .ok (.iload_n 1, 1) := by decide +kernel
theorem dX3_isOrder_40 : decode cX3_isOrder 40 = .ok (.iload_n 3, 1) := by decide +kernel
theorem dX3_isOrder_41 : decode cX3_isOrder 41 = .ok (.invokevirtual 61, 3) := by decide +kernel
theorem dX3_isOrder_44 : decode cX3_isOrder 44 = .ok (.ishl, 1) := by decide +kernel
theorem dX3_isOrder_45 : decode cX3_isOrder 45 = .ok (.ior, 1) := by decide +kernel
theorem dX3_isOrder_46 : decode cX3_isOrder 46 = .ok (.istore_n 2, 1) := by decide +kernel
theorem dX3_isOrder_47 : decode cX3_isOrder 47 = .ok (.iinc 3 1, 3) := by decide +kernel
theorem dX3_isOrder_50 : decode cX3_isOrder 50 = .ok (.goto (-25), 3) := by decide +kernel
theorem dX3_isOrder_53 : decode cX3_isOrder 53 = .ok (.iload_n 2, 1) := by decide +kernel
theorem dX3_isOrder_54 : decode cX3_isOrder 54 = .ok (.iconst 1, 1) := by decide +kernel
theorem dX3_isOrder_55 : decode cX3_isOrder 55 = .ok (.aload_n 0, 1) := by decide +kernel
theorem dX3_isOrder_56 : decode cX3_isOrder 56 = .ok (.getfield 12, 3) := by decide +kernel
theorem dX3_isOrder_59 : decode cX3_isOrder 59 = .ok (.getfield 57, 3) := by decide +kernel
theorem dX3_isOrder_62 : decode cX3_isOrder 62 = .ok (.ishl, 1) := by decide +kernel
theorem dX3_isOrder_63 : decode cX3_isOrder 63 = .ok (.iconst 1, 1) := by decide +kernel
theorem dX3_isOrder_64 : decode cX3_isOrder 64 = .ok (.isub, 1) := by decide +kernel
theorem dX3_isOrder_65 : decode cX3_isOrder 65 = .ok (.if_icmp .ne 7, 3) := by decide +kernel
theorem dX3_isOrder_68 : decode cX3_isOrder 68 = .ok (.iconst 1, 1) := by decide +kernel
theorem dX3_isOrder_69 : decode cX3_isOrder 69 = .ok (.goto 4, 3) := by decide +kernel
theorem dX3_isOrder_72 : decode cX3_isOrder 72 = .ok (.iconst 0, 1) := by decide +kernel
theorem dX3_isOrder_73 : decode cX3_isOrder 73 = .ok (.ireturn, 1) := by decide +kernel
theorem dX3_levelInOrder_0 : decode cX3_levelInOrder 0 = .ok (.aload_n 0, 1) := by decide +kernel
theorem dX3_levelInOrder_1 : decode cX3_levelInOrder 1 = .ok (.getfield 12, 3) := by decide +kernel
theorem dX3_levelInOrder_4 : decode cX3_levelInOrder 4 = .ok (.getfield 57, 3) := by decide +kernel
theorem dX3_levelInOrder_7 : decode cX3_levelInOrder 7 = .ok (.iconst 1, 1) := by decide +kernel
theorem dX3_levelInOrder_8 : decode cX3_levelInOrder 8 = .ok (.isub, 1) := by decide +kernel
theorem dX3_levelInOrder_9 : decode cX3_levelInOrder 9 = .ok (.iload_n 2, 1) := by decide +kernel
theorem dX3_levelInOrder_10 : decode cX3_levelInOrder 10 = .ok (.isub, 1) := by decide +kernel
theorem dX3_levelInOrder_11 : decode cX3_levelInOrder 11 = .ok (.istore_n 3, 1) := by decide +kernel
theorem dX3_levelInOrder_12 : decode cX3_levelInOrder 12 = .ok (.iload_n 3, 1) := by decide +kernel
theorem dX3_levelInOrder_13 : decode cX3_levelInOrder 13 = .ok (.ifCond .lt 11, 3) := by decide +kernel
theorem dX3_levelInOrder_16 : decode cX3_levelInOrder 16 = .ok (.iload_n 3, 1) := by decide +kernel
theorem dX3_levelInOrder_17 : decode cX3_levelInOrder 17 = .ok (.getstatic 54, 3) := by decide +kernel
theorem dX3_levelInOrder_20 : decode cX3_levelInOrder 20 = .ok (.arraylength, 1) := by decide +kernel
theorem dX3_levelInOrder_21 : decode cX3_levelInOrder 21 = .ok (.if_icmp .lt 7, 3) := by decide +kernel
theorem dX3_levelInOrder_24 : decode cX3_levelInOrder 24 = .ok (.iconst 0, 1) := by decide +kernel
theorem dX3_levelInOrder_25 : decode cX3_levelInOrder 25 = .ok (.goto 13, 3) := by decide +kernel
theorem dX3_levelInOrder_28 : decode cX3_levelInOrder 28 = .ok (.iload_n 1, 1) := by decide +kernel
theorem dX3_levelInOrder_29 : decode cX3_levelInOrder 29 = .ok (.getstatic 54, 3) := by decide +kernel
theorem dX3_levelInOrder_32 : decode cX3_levelInOrder 32 = .ok (.iload_n 3, 1) := by decide +kernel
theorem dX3_levelInOrder_33 : decode cX3_levelInOrder 33 = .ok (.iaload, 1) := by decide +kernel
theorem dX3_levelInOrder_34 : decode cX3_levelInOrder 34 = .ok (.idiv, 1) := by decide +kernel
theorem dX3_levelInOrder_35 : decode cX3_levelInOrder 35 = .ok (.bipush 10, 2) := by decide +kernel
theorem dX3_levelInOrder_37 : decode cX3_levelInOrder 37 = .ok (.irem, 1) := by decide +kernel
theorem dX3_levelInOrder_38 : decode cX3_levelInOrder 38 = .ok (.ireturn, 1) := by decide +kernel
theorem dX3_orderAt_0 : decode cX3_orderAt 0 = .ok (.aload_n 0, 1) := by decide +kernel
theorem dX3_orderAt_1 : decode cX3_orderAt 1 = .ok (.getfield 21, 3) := by decide +kernel
theorem dX3_orderAt_4 : decode cX3_orderAt 4 = .ok (.iload_n 1, 1) := by decide +kernel
theorem dX3_orderAt_5 : decode cX3_orderAt 5 = .ok (.invokevirtual 65, 3) := by decide +kernel
theorem dX3_orderAt_8 : decode cX3_orderAt 8 = .ok (.istore_n 2, 1) := by decide +kernel
theorem dX3_orderAt_9 : decode cX3_orderAt 9 = .ok (.iload_n 2, 1) := by decide +kernel
theorem dX3_orderAt_10 : decode cX3_orderAt 10 = .ok (.ifCond .lt 13, 3) := by decide +kernel
theorem dX3_orderAt_13 : decode cX3_orderAt 13 = .ok (.aload_n 0, 1) := by decide +kernel
theorem dX3_orderAt_14 : decode cX3_orderAt 14 = .ok (.getfield 21, 3) := by decide +kernel
theorem dX3_orderAt_17 : decode cX3_orderAt 17 = .ok (.getfield 69, 3) := by decide +kernel
theorem dX3_orderAt_20 : decode cX3_orderAt 20 = .ok (.iload_n 2, 1) := by decide +kernel
theorem dX3_orderAt_21 : decode cX3_orderAt 21 = .ok (.iaload, 1) := by decide +kernel
theorem dX3_orderAt_22 : decode cX3_orderAt 22 = .ok (.ireturn, 1) := by decide +kernel
theorem dX3_orderAt_23 : decode cX3_orderAt 23 = .ok (.iconst 0, 1) := by decide +kernel
theorem dX3_orderAt_24 : decode cX3_orderAt 24 = .ok (.istore_n 3, 1) := by decide +kernel
theorem dX3_orderAt_25 : decode cX3_orderAt 25 = .ok (.iconst 0, 1) := by decide +kernel
theorem dX3_orderAt_26 : decode cX3_orderAt 26 = .ok (.istore 4, 2) := by decide +kernel
theorem dX3_orderAt_28 : decode cX3_orderAt 28 = .ok (.iload 4, 2) := by decide +kernel
theorem dX3_orderAt_30 : decode cX3_orderAt 30 = .ok (.aload_n 0, 1) := by decide +kernel
theorem dX3_orderAt_31 : decode cX3_orderAt 31 = .ok (.getfield 12, 3) := by decide +kernel
theorem dX3_orderAt_34 : decode cX3_orderAt 34 = .ok (.getfield 57, 3) := by decide +kernel
theorem dX3_orderAt_37 : decode cX3_orderAt 37 = .ok (.if_icmp .ge 17, 3) := by decide +kernel
theorem dX3_orderAt_40 : decode cX3_orderAt 40 = .ok (.iload_n 3, 1) := by decide +kernel
theorem dX3_orderAt_41 : decode cX3_orderAt 41 = .ok (.bipush 10, 2) := by decide +kernel
theorem dX3_orderAt_43 : decode cX3_orderAt 43 = .ok (.imul, 1) := by decide +kernel
theorem dX3_orderAt_44 : decode cX3_orderAt 44 = .ok (.iload 4, 2) := by decide +kernel
theorem dX3_orderAt_46 : decode cX3_orderAt 46 = .ok (.iadd, 1) := by decide +kernel
theorem dX3_orderAt_47 : decode cX3_orderAt 47 = .ok (.istore_n 3, 1) := by decide +kernel
theorem dX3_orderAt_48 : decode cX3_orderAt 48 = .ok (.iinc 4 1, 3) := by decide +kernel
theorem dX3_orderAt_51 : decode cX3_orderAt 51 = .ok (.goto (-23), 3) := by decide +kernel
theorem dX3_orderAt_54 : decode cX3_orderAt 54 = .ok (.iload_n 3, 1) := by decide +kernel
theorem dX3_orderAt_55 : decode cX3_orderAt 55 = .ok (.ireturn, 1) := by decide +kernel
theorem dX3_covers_0 : decode cX3_covers 0 = .ok (.iload_n 2, 1) := by decide +kernel
theorem dX3_covers_1 : decode cX3_covers 1 = .ok (.ifCond .lt 14, 3) := by decide +kernel
theorem dX3_covers_4 : decode cX3_covers 4 = .ok (.iload_n 2, 1) := by decide +kernel
theorem dX3_covers_5 : decode cX3_covers 5 = .ok (.aload_n 0, 1) := by decide +kernel
theorem dX3_covers_6 : decode cX3_covers 6 = .ok (.getfield 12, 3) := by decide +kernel
theorem dX3_covers_9 : decode cX3_covers 9 = .ok (.getfield 72, 3) := by decide +kernel
theorem dX3_covers_12 : decode cX3_covers 12 = .ok (.if_icmp .lt 5, 3) := by decide +kernel
theorem dX3_covers_15 : decode cX3_covers 15 = .ok (.iconst 0, 1) := by decide +kernel
theorem dX3_covers_16 : decode cX3_covers 16 = .ok (.ireturn, 1) := by decide +kernel
theorem dX3_covers_17 : decode cX3_covers 17 = .ok (.aload_n 0, 1) := by decide +kernel
theorem dX3_covers_18 : decode cX3_covers 18 = .ok (.getfield 21, 3) := by decide +kernel
theorem dX3_covers_21 : decode cX3_covers 21 = .ok (.getfield 75, 3) := by decide +kernel
theorem dX3_covers_24 : decode cX3_covers 24 = .ok (.iload_n 2, 1) := by decide +kernel
theorem dX3_covers_25 : decode cX3_covers 25 = .ok (.iaload, 1) := by decide +kernel
theorem dX3_covers_26 : decode cX3_covers 26 = .ok (.aload_n 0, 1) := by decide +kernel
theorem dX3_covers_27 : decode cX3_covers 27 = .ok (.getfield 21, 3) := by decide +kernel
theorem dX3_covers_30 : decode cX3_covers 30 = .ok (.iload_n 1, 1) := by decide +kernel
theorem dX3_covers_31 : decode cX3_covers 31 = .ok (.iload_n 3, 1) := by decide +kernel
theorem dX3_covers_32 : decode cX3_covers 32 = .ok (.invokevirtual 78, 3) := by decide +kernel
theorem dX3_covers_35 : decode cX3_covers 35 = .ok (.iadd, 1) := by decide +kernel
theorem dX3_covers_36 : decode cX3_covers 36 = .ok (.istore 5, 2) := by decide +kernel
theorem dX3_covers_38 : decode cX3_covers 38 = .ok (.iload 4, 2) := by decide +kernel
theorem dX3_covers_40 : decode cX3_covers 40 = .ok (.aload_n 0, 1) := by decide +kernel
theorem dX3_covers_41 : decode cX3_covers 41 = .ok (.getfield 21, 3) := by decide +kernel
theorem dX3_covers_44 : decode cX3_covers 44 = .ok (.iconst 4, 1) := by decide +kernel
theorem dX3_covers_45 : decode cX3_covers 45 = .ok (.iload_n 3, 1) := by decide +kernel
theorem dX3_covers_46 : decode cX3_covers 46 = .ok (.invokevirtual 78, 3) := by decide +kernel
theorem dX3_covers_49 : decode cX3_covers 49 = .ok (.iadd, 1) := by decide +kernel
theorem dX3_covers_50 : decode cX3_covers 50 = .ok (.istore 6, 2) := by decide +kernel
theorem dX3_covers_52 : decode cX3_covers 52 = .ok (.iload 6, 2) := by decide +kernel
theorem dX3_covers_54 : decode cX3_covers 54 = .ok (.iload 5, 2) := by decide +kernel
theorem dX3_covers_56 : decode cX3_covers 56 = .ok (.if_icmp .lt 24, 3) := by decide +kernel
theorem dX3_covers_59 : decode cX3_covers 59 = .ok (.iload 6, 2) := by decide +kernel
theorem dX3_covers_61 : decode cX3_covers 61 = .ok (.iload 5, 2) := by decide +kernel
theorem dX3_covers_63 : decode cX3_covers 63 = .ok (.aload_n 0, 1) := by decide +kernel
theorem dX3_covers_64 : decode cX3_covers 64 = .ok (.getfield 21, 3) := by decide +kernel
theorem dX3_covers_67 : decode cX3_covers 67 = .ok (.getfield 81, 3) := by decide +kernel
theorem dX3_covers_70 : decode cX3_covers 70 = .ok (.iload_n 2, 1) := by decide +kernel
theorem dX3_covers_71 : decode cX3_covers 71 = .ok (.iaload, 1) := by decide +kernel
theorem dX3_covers_72 : decode cX3_covers 72 = .ok (.iadd, 1) := by decide +kernel
theorem dX3_covers_73 : decode cX3_covers 73 = .ok (.if_icmp .ge 7, 3) := by decide +kernel
theorem dX3_covers_76 : decode cX3_covers 76 = .ok (.iconst 1, 1) := by decide +kernel
theorem dX3_covers_77 : decode cX3_covers 77 = .ok (.goto 4, 3) := by decide +kernel
theorem dX3_covers_80 : decode cX3_covers 80 = .ok (.iconst 0, 1) := by decide +kernel
theorem dX3_covers_81 : decode cX3_covers 81 = .ok (.ireturn, 1) := by decide +kernel
theorem dX3_levelCovers_0 : decode cX3_levelCovers 0 = .ok (.aload_n 0, 1) := by decide +kernel
theorem dX3_levelCovers_1 : decode cX3_levelCovers 1 = .ok (.iload_n 1, 1) := by decide +kernel
theorem dX3_levelCovers_2 : decode cX3_levelCovers 2 = .ok (.aload_n 0, 1) := by decide +kernel
theorem dX3_levelCovers_3 : decode cX3_levelCovers 3 = .ok (.iload_n 1, 1) := by decide +kernel
theorem dX3_levelCovers_4 : decode cX3_levelCovers 4 = .ok (.iload_n 2, 1) := by decide +kernel
theorem dX3_levelCovers_5 : decode cX3_levelCovers 5 = .ok (.invokevirtual 84, 3) := by decide +kernel
theorem dX3_levelCovers_8 : decode cX3_levelCovers 8 = .ok (.iload_n 2, 1) := by decide +kernel
theorem dX3_levelCovers_9 : decode cX3_levelCovers 9 = .ok (.iload_n 3, 1) := by decide +kernel
theorem dX3_levelCovers_10 : decode cX3_levelCovers 10 = .ok (.invokevirtual 87, 3) := by decide +kernel
theorem dX3_levelCovers_13 : decode cX3_levelCovers 13 = .ok (.ireturn, 1) := by decide +kernel
theorem dX3_seenAt_0 : decode cX3_seenAt 0 = .ok (.aload_n 0, 1) := by decide +kernel
theorem dX3_seenAt_1 : decode cX3_seenAt 1 = .ok (.iload_n 1, 1) := by decide +kernel
theorem dX3_seenAt_2 : decode cX3_seenAt 2 = .ok (.invokevirtual 91, 3) := by decide +kernel
theorem dX3_seenAt_5 : decode cX3_seenAt 5 = .ok (.istore 4, 2) := by decide +kernel
theorem dX3_seenAt_7 : decode cX3_seenAt 7 = .ok (.iconst 0, 1) := by decide +kernel
theorem dX3_seenAt_8 : decode cX3_seenAt 8 = .ok (.istore 5, 2) := by decide +kernel
theorem dX3_seenAt_10 : decode cX3_seenAt 10 = .ok (.iload 5, 2) := by decide +kernel
theorem dX3_seenAt_12 : decode cX3_seenAt 12 = .ok (.aload_n 0, 1) := by decide +kernel
theorem dX3_seenAt_13 : decode cX3_seenAt 13 = .ok (.getfield 12, 3) := by decide +kernel
theorem dX3_seenAt_16 : decode cX3_seenAt 16 = .ok (.getfield 57, 3) := by decide +kernel
theorem dX3_seenAt_19 : decode cX3_seenAt 19 = .ok (.if_icmp .ge 73, 3) := by decide +kernel
theorem dX3_seenAt_22 : decode cX3_seenAt 22 = .ok (.aload_n 0, 1) := by decide +kernel
theorem dX3_seenAt_23 : decode cX3_seenAt 23 = .ok (.iload 4, 2) := by decide +kernel
theorem dX3_seenAt_25 : decode cX3_seenAt 25 = .ok (.iload 5, 2) := by decide +kernel
theorem dX3_seenAt_27 : decode cX3_seenAt 27 = .ok (.invokevirtual 61, 3) := by decide +kernel
theorem dX3_seenAt_30 : decode cX3_seenAt 30 = .ok (.istore 6, 2) := by decide +kernel
theorem dX3_seenAt_32 : decode cX3_seenAt 32 = .ok (.iload 6, 2) := by decide +kernel
theorem dX3_seenAt_34 : decode cX3_seenAt 34 = .ok (.aload_n 0, 1) := by decide +kernel
theorem dX3_seenAt_35 : decode cX3_seenAt 35 = .ok (.getfield 12, 3) := by decide +kernel
theorem dX3_seenAt_38 : decode cX3_seenAt 38 = .ok (.getfield 57, 3) := by decide +kernel
theorem dX3_seenAt_41 : decode cX3_seenAt 41 = .ok (.if_icmp .ge 13, 3) := by decide +kernel
theorem dX3_seenAt_44 : decode cX3_seenAt 44 = .ok (.aload_n 0, 1) := by decide +kernel
theorem dX3_seenAt_45 : decode cX3_seenAt 45 = .ok (.iload 6, 2) := by decide +kernel
theorem dX3_seenAt_47 : decode cX3_seenAt 47 = .ok (.iload_n 1, 1) := by decide +kernel
theorem dX3_seenAt_48 : decode cX3_seenAt 48 = .ok (.invokevirtual 84, 3) := by decide +kernel
theorem dX3_seenAt_51 : decode cX3_seenAt 51 = .ok (.goto 5, 3) := by decide +kernel
theorem dX3_seenAt_54 : decode cX3_seenAt 54 = .ok (.bipush (-9), 2) := by decide +kernel
theorem dX3_seenAt_56 : decode cX3_seenAt 56 = .ok (.istore 7, 2) := by decide +kernel
theorem dX3_seenAt_58 : decode cX3_seenAt 58 = .ok (.iload 7, 2) := by decide +kernel
theorem dX3_seenAt_60 : decode cX3_seenAt 60 = .ok (.iload_n 3, 1) := by decide +kernel
theorem dX3_seenAt_61 : decode cX3_seenAt 61 = .ok (.if_icmp .eq 25, 3) := by decide +kernel
theorem dX3_seenAt_64 : decode cX3_seenAt 64 = .ok (.aload_n 0, 1) := by decide +kernel
theorem dX3_seenAt_65 : decode cX3_seenAt 65 = .ok (.iload 6, 2) := by decide +kernel
theorem dX3_seenAt_67 : decode cX3_seenAt 67 = .ok (.iload 7, 2) := by decide +kernel
theorem dX3_seenAt_69 : decode cX3_seenAt 69 = .ok (.iload_n 1, 1) := by decide +kernel
theorem dX3_seenAt_70 : decode cX3_seenAt 70 = .ok (.iload_n 2, 1) := by decide +kernel
theorem dX3_seenAt_71 : decode cX3_seenAt 71 = .ok (.invokevirtual 87, 3) := by decide +kernel
theorem dX3_seenAt_74 : decode cX3_seenAt 74 = .ok (.ifCond .eq 12, 3) := by decide +kernel
theorem dX3_seenAt_77 : decode cX3_seenAt 77 = .ok (.bipush 10, 2) := by decide +kernel
theorem dX3_seenAt_79 : decode cX3_seenAt 79 = .ok (.iload 6, 2) := by decide +kernel
theorem dX3_seenAt_81 : decode cX3_seenAt 81 = .ok (.imul, 1) := by decide +kernel
theorem dX3_seenAt_82 : decode cX3_seenAt 82 = .ok (.iload 7, 2) := by decide +kernel
theorem dX3_seenAt_84 : decode cX3_seenAt 84 = .ok (.iadd, 1) := by decide +kernel
theorem dX3_seenAt_85 : decode cX3_seenAt 85 = .ok (.ireturn, 1) := by decide +kernel
theorem dX3_seenAt_86 : decode cX3_seenAt 86 = .ok (.iinc 5 1, 3) := by decide +kernel
theorem dX3_seenAt_89 : decode cX3_seenAt 89 = .ok (.goto (-79), 3) := by decide +kernel
theorem dX3_seenAt_92 : decode cX3_seenAt 92 = .ok (.bipush (-9), 2) := by decide +kernel
theorem dX3_seenAt_94 : decode cX3_seenAt 94 = .ok (.ireturn, 1) := by decide +kernel
theorem dX3_levelsCovering_0 : decode cX3_levelsCovering 0 = .ok (.iconst 0, 1) := by decide +kernel
theorem dX3_levelsCovering_1 : decode cX3_levelsCovering 1 = .ok (.istore_n 3, 1) := by decide +kernel
theorem dX3_levelsCovering_2 : decode cX3_levelsCovering 2 = .ok (.iconst 0, 1) := by decide +kernel
theorem dX3_levelsCovering_3 : decode cX3_levelsCovering 3 = .ok (.istore 4, 2) := by decide +kernel
theorem dX3_levelsCovering_5 : decode cX3_levelsCovering 5 = .ok (.iload 4, 2) := by decide +kernel
theorem dX3_levelsCovering_7 : decode cX3_levelsCovering 7 = .ok (.aload_n 0, 1) := by decide +kernel
theorem dX3_levelsCovering_8 : decode cX3_levelsCovering 8 = .ok (.getfield 12, 3) := by decide +kernel
theorem dX3_levelsCovering_11 : decode cX3_levelsCovering 11 = .ok (.getfield 57, 3) := by decide +kernel
theorem dX3_levelsCovering_14 : decode cX3_levelsCovering 14 = .ok (.if_icmp .ge 23, 3) := by decide +kernel
theorem dX3_levelsCovering_17 : decode cX3_levelsCovering 17 = .ok (.aload_n 0, 1) := by decide +kernel
theorem dX3_levelsCovering_18 : decode cX3_levelsCovering 18 = .ok (.iload 4, 2) := by decide +kernel
theorem dX3_levelsCovering_20 : decode cX3_levelsCovering 20 = .ok (.iload_n 1, 1) := by decide +kernel
theorem dX3_levelsCovering_21 : decode cX3_levelsCovering 21 = .ok (.iload_n 2, 1) := by decide +kernel
theorem dX3_levelsCovering_22 : decode cX3_levelsCovering 22 = .ok (.invokevirtual 94, 3) := by decide +kernel
theorem dX3_levelsCovering_25 : decode cX3_levelsCovering 25 = .ok (.ifCond .eq 6, 3) := by decide +kernel
theorem dX3_levelsCovering_28 : decode cX3_levelsCovering 28 = .ok (.iinc 3 1, 3) := by decide +kernel
theorem dX3_levelsCovering_31 : decode cX3_levelsCovering 31 = .ok (.iinc 4 1, 3) := by decide +kernel
theorem dX3_levelsCovering_34 : decode cX3_levelsCovering 34 = .ok (.goto (-29), 3) := by decide +kernel
theorem dX3_levelsCovering_37 : decode cX3_levelsCovering 37 = .ok (.iload_n 3, 1) := by decide +kernel
theorem dX3_levelsCovering_38 : decode cX3_levelsCovering 38 = .ok (.ireturn, 1) := by decide +kernel
theorem dX3_changes_0 : decode cX3_changes 0 = .ok (.iconst 0, 1) := by decide +kernel
theorem dX3_changes_1 : decode cX3_changes 1 = .ok (.istore_n 1, 1) := by decide +kernel
theorem dX3_changes_2 : decode cX3_changes 2 = .ok (.aload_n 0, 1) := by decide +kernel
theorem dX3_changes_3 : decode cX3_changes 3 = .ok (.iconst 0, 1) := by decide +kernel
theorem dX3_changes_4 : decode cX3_changes 4 = .ok (.invokevirtual 98, 3) := by decide +kernel
theorem dX3_changes_7 : decode cX3_changes 7 = .ok (.pop, 1) := by decide +kernel
theorem dX3_changes_8 : decode cX3_changes 8 = .ok (.iconst 1, 1) := by decide +kernel
theorem dX3_changes_9 : decode cX3_changes 9 = .ok (.istore_n 2, 1) := by decide +kernel
theorem dX3_changes_10 : decode cX3_changes 10 = .ok (.iload_n 2, 1) := by decide +kernel
theorem dX3_changes_11 : decode cX3_changes 11 = .ok (.bipush 48, 2) := by decide +kernel
theorem dX3_changes_13 : decode cX3_changes 13 = .ok (.if_icmp .ge 20, 3) := by decide +kernel
theorem dX3_changes_16 : decode cX3_changes 16 = .ok (.aload_n 0, 1) := by decide +kernel
theorem dX3_changes_17 : decode cX3_changes 17 = .ok (.iload_n 2, 1) := by decide +kernel
theorem dX3_changes_18 : decode cX3_changes 18 = .ok (.invokevirtual 98, 3) := by decide +kernel
theorem dX3_changes_21 : decode cX3_changes 21 = .ok (.ifCond .eq 6, 3) := by decide +kernel
theorem dX3_changes_24 : decode cX3_changes 24 = .ok (.iinc 1 1, 3) := by decide +kernel
theorem dX3_changes_27 : decode cX3_changes 27 = .ok (.iinc 2 1, 3) := by decide +kernel
theorem dX3_changes_30 : decode cX3_changes 30 = .ok (.goto (-20), 3) := by decide +kernel
theorem dX3_changes_33 : decode cX3_changes 33 = .ok (.iload_n 1, 1) := by decide +kernel
theorem dX3_changes_34 : decode cX3_changes 34 = .ok (.ireturn, 1) := by decide +kernel
theorem dX3_viewBecomes_0 : decode cX3_viewBecomes 0 = .ok (.iconst 0, 1) := by decide +kernel
theorem dX3_viewBecomes_1 : decode cX3_viewBecomes 1 = .ok (.istore_n 2, 1) := by decide +kernel
theorem dX3_viewBecomes_2 : decode cX3_viewBecomes 2 = .ok (.iconst 0, 1) := by decide +kernel
theorem dX3_viewBecomes_3 : decode cX3_viewBecomes 3 = .ok (.istore_n 3, 1) := by decide +kernel
theorem dX3_viewBecomes_4 : decode cX3_viewBecomes 4 = .ok (.iload_n 3, 1) := by decide +kernel
theorem dX3_viewBecomes_5 : decode cX3_viewBecomes 5 = .ok (.bipush 10, 2) := by decide +kernel
theorem dX3_viewBecomes_7 : decode cX3_viewBecomes 7 = .ok (.if_icmp .ge 47, 3) := by decide +kernel
theorem dX3_viewBecomes_10 : decode cX3_viewBecomes 10 = .ok (.aload_n 0, 1) := by decide +kernel
theorem dX3_viewBecomes_11 : decode cX3_viewBecomes 11 = .ok (.iload_n 1, 1) := by decide +kernel
theorem dX3_viewBecomes_12 : decode cX3_viewBecomes 12 = .ok (.iload_n 3, 1) := by decide +kernel
theorem dX3_viewBecomes_13 : decode cX3_viewBecomes 13 = .ok (.iconst (-1), 1) := by decide +kernel
theorem dX3_viewBecomes_14 : decode cX3_viewBecomes 14 = .ok (.invokevirtual 102, 3) := by decide +kernel
theorem dX3_viewBecomes_17 : decode cX3_viewBecomes 17 = .ok (.istore 4, 2) := by decide +kernel
theorem dX3_viewBecomes_19 : decode cX3_viewBecomes 19 = .ok (.iload_n 2, 1) := by decide +kernel
theorem dX3_viewBecomes_20 : decode cX3_viewBecomes 20 = .ok (.ifCond .ne 14, 3) := by decide +kernel
theorem dX3_viewBecomes_23 : decode cX3_viewBecomes 23 = .ok (.iload 4, 2) := by decide +kernel
theorem dX3_viewBecomes_25 : decode cX3_viewBecomes 25 = .ok (.aload_n 0, 1) := by decide +kernel
theorem dX3_viewBecomes_26 : decode cX3_viewBecomes 26 = .ok (.getfield 36, 3) := by decide +kernel
theorem dX3_viewBecomes_29 : decode cX3_viewBecomes 29 = .ok (.iload_n 3, 1) := by decide +kernel
theorem dX3_viewBecomes_30 : decode cX3_viewBecomes 30 = .ok (.iaload, 1) := by decide +kernel
theorem dX3_viewBecomes_31 : decode cX3_viewBecomes 31 = .ok (.if_icmp .eq 7, 3) := by decide +kernel
theorem dX3_viewBecomes_34 : decode cX3_viewBecomes 34 = .ok (.iconst 1, 1) := by decide +kernel
theorem dX3_viewBecomes_35 : decode cX3_viewBecomes 35 = .ok (.goto 4, 3) := by decide +kernel
theorem dX3_viewBecomes_38 : decode cX3_viewBecomes 38 = .ok (.iconst 0, 1) := by decide +kernel
theorem dX3_viewBecomes_39 : decode cX3_viewBecomes 39 = .ok (.istore_n 2, 1) := by decide +kernel
theorem dX3_viewBecomes_40 : decode cX3_viewBecomes 40 = .ok (.aload_n 0, 1) := by decide +kernel
theorem dX3_viewBecomes_41 : decode cX3_viewBecomes 41 = .ok (.getfield 36, 3) := by decide +kernel
theorem dX3_viewBecomes_44 : decode cX3_viewBecomes 44 = .ok (.iload_n 3, 1) := by decide +kernel
theorem dX3_viewBecomes_45 : decode cX3_viewBecomes 45 = .ok (.iload 4, 2) := by decide +kernel
theorem dX3_viewBecomes_47 : decode cX3_viewBecomes 47 = .ok (.iastore, 1) := by decide +kernel
theorem dX3_viewBecomes_48 : decode cX3_viewBecomes 48 = .ok (.iinc 3 1, 3) := by decide +kernel
theorem dX3_viewBecomes_51 : decode cX3_viewBecomes 51 = .ok (.goto (-47), 3) := by decide +kernel
theorem dX3_viewBecomes_54 : decode cX3_viewBecomes 54 = .ok (.iload_n 2, 1) := by decide +kernel
theorem dX3_viewBecomes_55 : decode cX3_viewBecomes 55 = .ok (.ireturn, 1) := by decide +kernel
theorem dX3_cels_0 : decode cX3_cels 0 = .ok (.aload_n 0, 1) := by decide +kernel
theorem dX3_cels_1 : decode cX3_cels 1 = .ok (.invokevirtual 106, 3) := by decide +kernel
theorem dX3_cels_4 : decode cX3_cels 4 = .ok (.iconst 0, 1) := by decide +kernel
theorem dX3_cels_5 : decode cX3_cels 5 = .ok (.istore_n 1, 1) := by decide +kernel
theorem dX3_cels_6 : decode cX3_cels 6 = .ok (.iconst 0, 1) := by decide +kernel
theorem dX3_cels_7 : decode cX3_cels 7 = .ok (.istore_n 2, 1) := by decide +kernel
theorem dX3_cels_8 : decode cX3_cels 8 = .ok (.iload_n 2, 1) := by decide +kernel
theorem dX3_cels_9 : decode cX3_cels 9 = .ok (.aload_n 0, 1) := by decide +kernel
theorem dX3_cels_10 : decode cX3_cels 10 = .ok (.getfield 12, 3) := by decide +kernel
theorem dX3_cels_13 : decode cX3_cels 13 = .ok (.getfield 72, 3) := by decide +kernel
theorem dX3_cels_16 : decode cX3_cels 16 = .ok (.if_icmp .ge 18, 3) := by decide +kernel
theorem dX3_cels_19 : decode cX3_cels 19 = .ok (.iload_n 1, 1) := by decide +kernel
theorem dX3_cels_20 : decode cX3_cels 20 = .ok (.aload_n 0, 1) := by decide +kernel
theorem dX3_cels_21 : decode cX3_cels 21 = .ok (.getfield 42, 3) := by decide +kernel
theorem dX3_cels_24 : decode cX3_cels 24 = .ok (.iload_n 2, 1) := by decide +kernel
theorem dX3_cels_25 : decode cX3_cels 25 = .ok (.iaload, 1) := by decide +kernel
theorem dX3_cels_26 : decode cX3_cels 26 = .ok (.iadd, 1) := by decide +kernel
theorem dX3_cels_27 : decode cX3_cels 27 = .ok (.istore_n 1, 1) := by decide +kernel
theorem dX3_cels_28 : decode cX3_cels 28 = .ok (.iinc 2 1, 3) := by decide +kernel
theorem dX3_cels_31 : decode cX3_cels 31 = .ok (.goto (-23), 3) := by decide +kernel
theorem dX3_cels_34 : decode cX3_cels 34 = .ok (.iload_n 1, 1) := by decide +kernel
theorem dX3_cels_35 : decode cX3_cels 35 = .ok (.ireturn, 1) := by decide +kernel
theorem dX3_mostLevelsOf_0 : decode cX3_mostLevelsOf 0 = .ok (.aload_n 0, 1) := by decide +kernel
theorem dX3_mostLevelsOf_1 : decode cX3_mostLevelsOf 1 = .ok (.invokevirtual 106, 3) := by decide +kernel
theorem dX3_mostLevelsOf_4 : decode cX3_mostLevelsOf 4 = .ok (.aload_n 0, 1) := by decide +kernel
theorem dX3_mostLevelsOf_5 : decode cX3_mostLevelsOf 5 = .ok (.getfield 42, 3) := by decide +kernel
theorem dX3_mostLevelsOf_8 : decode cX3_mostLevelsOf 8 = .ok (.iload_n 1, 1) := by decide +kernel
theorem dX3_mostLevelsOf_9 : decode cX3_mostLevelsOf 9 = .ok (.iaload, 1) := by decide +kernel
theorem dX3_mostLevelsOf_10 : decode cX3_mostLevelsOf 10 = .ok (.ireturn, 1) := by decide +kernel
theorem dX3_findMost_0 : decode cX3_findMost 0 = .ok (.aload_n 0, 1) := by decide +kernel
theorem dX3_findMost_1 : decode cX3_findMost 1 = .ok (.getfield 42, 3) := by decide +kernel
theorem dX3_findMost_4 : decode cX3_findMost 4 = .ok (.invokestatic 109, 3) := by decide +kernel
theorem dX3_findMost_7 : decode cX3_findMost 7 = .ok (.iconst 0, 1) := by decide +kernel
theorem dX3_findMost_8 : decode cX3_findMost 8 = .ok (.istore_n 1, 1) := by decide +kernel
theorem dX3_findMost_9 : decode cX3_findMost 9 = .ok (.iload_n 1, 1) := by decide +kernel
theorem dX3_findMost_10 : decode cX3_findMost 10 = .ok (.bipush 48, 2) := by decide +kernel
theorem dX3_findMost_12 : decode cX3_findMost 12 = .ok (.if_icmp .ge 45, 3) := by decide +kernel
theorem dX3_findMost_15 : decode cX3_findMost 15 = .ok (.aload_n 0, 1) := by decide +kernel
theorem dX3_findMost_16 : decode cX3_findMost 16 = .ok (.getfield 39, 3) := by decide +kernel
theorem dX3_findMost_19 : decode cX3_findMost 19 = .ok (.invokestatic 109, 3) := by decide +kernel
theorem dX3_findMost_22 : decode cX3_findMost 22 = .ok (.iconst 0, 1) := by decide +kernel
theorem dX3_findMost_23 : decode cX3_findMost 23 = .ok (.istore_n 2, 1) := by decide +kernel
theorem dX3_findMost_24 : decode cX3_findMost 24 = .ok (.iload_n 2, 1) := by decide +kernel
theorem dX3_findMost_25 : decode cX3_findMost 25 = .ok (.aload_n 0, 1) := by decide +kernel
theorem dX3_findMost_26 : decode cX3_findMost 26 = .ok (.getfield 12, 3) := by decide +kernel
theorem dX3_findMost_29 : decode cX3_findMost 29 = .ok (.getfield 57, 3) := by decide +kernel
theorem dX3_findMost_32 : decode cX3_findMost 32 = .ok (.if_icmp .ge 19, 3) := by decide +kernel
theorem dX3_findMost_35 : decode cX3_findMost 35 = .ok (.aload_n 0, 1) := by decide +kernel
theorem dX3_findMost_36 : decode cX3_findMost 36 = .ok (.aload_n 0, 1) := by decide +kernel
theorem dX3_findMost_37 : decode cX3_findMost 37 = .ok (.iload_n 2, 1) := by decide +kernel
theorem dX3_findMost_38 : decode cX3_findMost 38 = .ok (.iload_n 1, 1) := by decide +kernel
theorem dX3_findMost_39 : decode cX3_findMost 39 = .ok (.invokevirtual 84, 3) := by decide +kernel
theorem dX3_findMost_42 : decode cX3_findMost 42 = .ok (.invokevirtual 113, 3) := by decide +kernel
theorem dX3_findMost_45 : decode cX3_findMost 45 = .ok (.iinc 2 1, 3) := by decide +kernel
theorem dX3_findMost_48 : decode cX3_findMost 48 = .ok (.goto (-24), 3) := by decide +kernel
theorem dX3_findMost_51 : decode cX3_findMost 51 = .ok (.iinc 1 1, 3) := by decide +kernel
theorem dX3_findMost_54 : decode cX3_findMost 54 = .ok (.goto (-45), 3) := by decide +kernel
theorem dX3_findMost_57 : decode cX3_findMost 57 = .ok (.return_, 1) := by decide +kernel
theorem dX3_countDrawing_0 : decode cX3_countDrawing 0 = .ok (.iload_n 1, 1) := by decide +kernel
theorem dX3_countDrawing_1 : decode cX3_countDrawing 1 = .ok (.ifCond .lt 40, 3) := by decide +kernel
theorem dX3_countDrawing_4 : decode cX3_countDrawing 4 = .ok (.iload_n 1, 1) := by decide +kernel
theorem dX3_countDrawing_5 : decode cX3_countDrawing 5 = .ok (.bipush 6, 2) := by decide +kernel
theorem dX3_countDrawing_7 : decode cX3_countDrawing 7 = .ok (.if_icmp .ge 34, 3) := by decide +kernel
theorem dX3_countDrawing_10 : decode cX3_countDrawing 10 = .ok (.aload_n 0, 1) := by decide +kernel
theorem dX3_countDrawing_11 : decode cX3_countDrawing 11 = .ok (.getfield 39, 3) := by decide +kernel
theorem dX3_countDrawing_14 : decode cX3_countDrawing 14 = .ok (.iload_n 1, 1) := by decide +kernel
theorem dX3_countDrawing_15 : decode cX3_countDrawing 15 = .ok (.dup2, 1) := by decide +kernel
theorem dX3_countDrawing_16 : decode cX3_countDrawing 16 = .ok (.iaload, 1) := by decide +kernel
theorem dX3_countDrawing_17 : decode cX3_countDrawing 17 = .ok (.iconst 1, 1) := by decide +kernel
theorem dX3_countDrawing_18 : decode cX3_countDrawing 18 = .ok (.iadd, 1) := by decide +kernel
theorem dX3_countDrawing_19 : decode cX3_countDrawing 19 = .ok (.iastore, 1) := by decide +kernel
theorem dX3_countDrawing_20 : decode cX3_countDrawing 20 = .ok (.aload_n 0, 1) := by decide +kernel
theorem dX3_countDrawing_21 : decode cX3_countDrawing 21 = .ok (.getfield 42, 3) := by decide +kernel
theorem dX3_countDrawing_24 : decode cX3_countDrawing 24 = .ok (.iload_n 1, 1) := by decide +kernel
theorem dX3_countDrawing_25 : decode cX3_countDrawing 25 = .ok (.aload_n 0, 1) := by decide +kernel
theorem dX3_countDrawing_26 : decode cX3_countDrawing 26 = .ok (.getfield 42, 3) := by decide +kernel
theorem dX3_countDrawing_29 : decode cX3_countDrawing 29 = .ok (.iload_n 1, 1) := by decide +kernel
theorem dX3_countDrawing_30 : decode cX3_countDrawing 30 = .ok (.iaload, 1) := by decide +kernel
theorem dX3_countDrawing_31 : decode cX3_countDrawing 31 = .ok (.aload_n 0, 1) := by decide +kernel
theorem dX3_countDrawing_32 : decode cX3_countDrawing 32 = .ok (.getfield 39, 3) := by decide +kernel
theorem dX3_countDrawing_35 : decode cX3_countDrawing 35 = .ok (.iload_n 1, 1) := by decide +kernel
theorem dX3_countDrawing_36 : decode cX3_countDrawing 36 = .ok (.iaload, 1) := by decide +kernel
theorem dX3_countDrawing_37 : decode cX3_countDrawing 37 = .ok (.invokestatic 117, 3) := by decide +kernel
theorem dX3_countDrawing_40 : decode cX3_countDrawing 40 = .ok (.iastore, 1) := by decide +kernel
theorem dX3_countDrawing_41 : decode cX3_countDrawing 41 = .ok (.return_, 1) := by decide +kernel
theorem dX3_clearDrawings_0 : decode cX3_clearDrawings 0 = .ok (.iconst 0, 1) := by decide +kernel
theorem dX3_clearDrawings_1 : decode cX3_clearDrawings 1 = .ok (.istore_n 1, 1) := by decide +kernel
theorem dX3_clearDrawings_2 : decode cX3_clearDrawings 2 = .ok (.iload_n 1, 1) := by decide +kernel
theorem dX3_clearDrawings_3 : decode cX3_clearDrawings 3 = .ok (.aload_n 0, 1) := by decide +kernel
theorem dX3_clearDrawings_4 : decode cX3_clearDrawings 4 = .ok (.arraylength, 1) := by decide +kernel
theorem dX3_clearDrawings_5 : decode cX3_clearDrawings 5 = .ok (.if_icmp .ge 13, 3) := by decide +kernel
theorem dX3_clearDrawings_8 : decode cX3_clearDrawings 8 = .ok (.aload_n 0, 1) := by decide +kernel
theorem dX3_clearDrawings_9 : decode cX3_clearDrawings 9 = .ok (.iload_n 1, 1) := by decide +kernel
theorem dX3_clearDrawings_10 : decode cX3_clearDrawings 10 = .ok (.iconst 0, 1) := by decide +kernel
theorem dX3_clearDrawings_11 : decode cX3_clearDrawings 11 = .ok (.iastore, 1) := by decide +kernel
theorem dX3_clearDrawings_12 : decode cX3_clearDrawings 12 = .ok (.iinc 1 1, 3) := by decide +kernel
theorem dX3_clearDrawings_15 : decode cX3_clearDrawings 15 = .ok (.goto (-13), 3) := by decide +kernel
theorem dX3_clearDrawings_18 : decode cX3_clearDrawings 18 = .ok (.return_, 1) := by decide +kernel
theorem dX3_shortOf_0 : decode cX3_shortOf 0 = .ok (.aload_n 0, 1) := by decide +kernel
theorem dX3_shortOf_1 : decode cX3_shortOf 1 = .ok (.getfield 32, 3) := by decide +kernel
theorem dX3_shortOf_4 : decode cX3_shortOf 4 = .ok (.iload_n 1, 1) := by decide +kernel
theorem dX3_shortOf_5 : decode cX3_shortOf 5 = .ok (.iaload, 1) := by decide +kernel
theorem dX3_shortOf_6 : decode cX3_shortOf 6 = .ok (.ifCond .ne 21, 3) := by decide +kernel
theorem dX3_shortOf_9 : decode cX3_shortOf 9 = .ok (.aload_n 0, 1) := by decide +kernel
theorem dX3_shortOf_10 : decode cX3_shortOf 10 = .ok (.getfield 32, 3) := by decide +kernel
theorem dX3_shortOf_13 : decode cX3_shortOf 13 = .ok (.iload_n 1, 1) := by decide +kernel
theorem dX3_shortOf_14 : decode cX3_shortOf 14 = .ok (.aload_n 0, 1) := by decide +kernel
theorem dX3_shortOf_15 : decode cX3_shortOf 15 = .ok (.getfield 28, 3) := by decide +kernel
theorem dX3_shortOf_18 : decode cX3_shortOf 18 = .ok (.aload_n 0, 1) := by decide +kernel
theorem dX3_shortOf_19 : decode cX3_shortOf 19 = .ok (.getfield 12, 3) := by decide +kernel
theorem dX3_shortOf_22 : decode cX3_shortOf 22 = .ok (.iload_n 1, 1) := by decide +kernel
theorem dX3_shortOf_23 : decode cX3_shortOf 23 = .ok (.invokevirtual 122, 3) := by decide +kernel
theorem dX3_shortOf_26 : decode cX3_shortOf 26 = .ok (.iastore, 1) := by decide +kernel
theorem dX3_shortOf_27 : decode cX3_shortOf 27 = .ok (.aload_n 0, 1) := by decide +kernel
theorem dX3_shortOf_28 : decode cX3_shortOf 28 = .ok (.getfield 32, 3) := by decide +kernel
theorem dX3_shortOf_31 : decode cX3_shortOf 31 = .ok (.iload_n 1, 1) := by decide +kernel
theorem dX3_shortOf_32 : decode cX3_shortOf 32 = .ok (.iaload, 1) := by decide +kernel
theorem dX3_shortOf_33 : decode cX3_shortOf 33 = .ok (.ireturn, 1) := by decide +kernel
theorem dX3_bestOf_0 : decode cX3_bestOf 0 = .ok (.aload_n 0, 1) := by decide +kernel
theorem dX3_bestOf_1 : decode cX3_bestOf 1 = .ok (.getfield 21, 3) := by decide +kernel
theorem dX3_bestOf_4 : decode cX3_bestOf 4 = .ok (.getfield 45, 3) := by decide +kernel
theorem dX3_bestOf_7 : decode cX3_bestOf 7 = .ok (.iload_n 1, 1) := by decide +kernel
theorem dX3_bestOf_8 : decode cX3_bestOf 8 = .ok (.iaload, 1) := by decide +kernel
theorem dX3_bestOf_9 : decode cX3_bestOf 9 = .ok (.istore_n 2, 1) := by decide +kernel
theorem dX3_bestOf_10 : decode cX3_bestOf 10 = .ok (.iconst 0, 1) := by decide +kernel
theorem dX3_bestOf_11 : decode cX3_bestOf 11 = .ok (.istore_n 3, 1) := by decide +kernel
theorem dX3_bestOf_12 : decode cX3_bestOf 12 = .ok (.iconst 0, 1) := by decide +kernel
theorem dX3_bestOf_13 : decode cX3_bestOf 13 = .ok (.istore 4, 2) := by decide +kernel
theorem dX3_bestOf_15 : decode cX3_bestOf 15 = .ok (.iconst 0, 1) := by decide +kernel
theorem dX3_bestOf_16 : decode cX3_bestOf 16 = .ok (.istore 5, 2) := by decide +kernel
theorem dX3_bestOf_18 : decode cX3_bestOf 18 = .ok (.iload 5, 2) := by decide +kernel
theorem dX3_bestOf_20 : decode cX3_bestOf 20 = .ok (.bipush 9, 2) := by decide +kernel
theorem dX3_bestOf_22 : decode cX3_bestOf 22 = .ok (.if_icmp .gt 45, 3) := by decide +kernel
theorem dX3_bestOf_25 : decode cX3_bestOf 25 = .ok (.aload_n 0, 1) := by decide +kernel
theorem dX3_bestOf_26 : decode cX3_bestOf 26 = .ok (.getfield 21, 3) := by decide +kernel
theorem dX3_bestOf_29 : decode cX3_bestOf 29 = .ok (.getfield 45, 3) := by decide +kernel
theorem dX3_bestOf_32 : decode cX3_bestOf 32 = .ok (.iload_n 1, 1) := by decide +kernel
theorem dX3_bestOf_33 : decode cX3_bestOf 33 = .ok (.iload 5, 2) := by decide +kernel
theorem dX3_bestOf_35 : decode cX3_bestOf 35 = .ok (.iastore, 1) := by decide +kernel
theorem dX3_bestOf_36 : decode cX3_bestOf 36 = .ok (.aload_n 0, 1) := by decide +kernel
theorem dX3_bestOf_37 : decode cX3_bestOf 37 = .ok (.invokevirtual 126, 3) := by decide +kernel
theorem dX3_bestOf_40 : decode cX3_bestOf 40 = .ok (.istore 6, 2) := by decide +kernel
theorem dX3_bestOf_42 : decode cX3_bestOf 42 = .ok (.iload 5, 2) := by decide +kernel
theorem dX3_bestOf_44 : decode cX3_bestOf 44 = .ok (.ifCond .eq 10, 3) := by decide +kernel
theorem dX3_bestOf_47 : decode cX3_bestOf 47 = .ok (.iload 6, 2) := by decide +kernel
theorem dX3_bestOf_49 : decode cX3_bestOf 49 = .ok (.iload 4, 2) := by decide +kernel
theorem dX3_bestOf_51 : decode cX3_bestOf 51 = .ok (.if_icmp .ge 10, 3) := by decide +kernel
theorem dX3_bestOf_54 : decode cX3_bestOf 54 = .ok (.iload 6, 2) := by decide +kernel
theorem dX3_bestOf_56 : decode cX3_bestOf 56 = .ok (.istore 4, 2) := by decide +kernel
theorem dX3_bestOf_58 : decode cX3_bestOf 58 = .ok (.iload 5, 2) := by decide +kernel
theorem dX3_bestOf_60 : decode cX3_bestOf 60 = .ok (.istore_n 3, 1) := by decide +kernel
theorem dX3_bestOf_61 : decode cX3_bestOf 61 = .ok (.iinc 5 1, 3) := by decide +kernel
theorem dX3_bestOf_64 : decode cX3_bestOf 64 = .ok (.goto (-46), 3) := by decide +kernel
theorem dX3_bestOf_67 : decode cX3_bestOf 67 = .ok (.aload_n 0, 1) := by decide +kernel
theorem dX3_bestOf_68 : decode cX3_bestOf 68 = .ok (.getfield 21, 3) := by decide +kernel
theorem dX3_bestOf_71 : decode cX3_bestOf 71 = .ok (.getfield 45, 3) := by decide +kernel
theorem dX3_bestOf_74 : decode cX3_bestOf 74 = .ok (.iload_n 1, 1) := by decide +kernel
theorem dX3_bestOf_75 : decode cX3_bestOf 75 = .ok (.iload_n 2, 1) := by decide +kernel
theorem dX3_bestOf_76 : decode cX3_bestOf 76 = .ok (.iastore, 1) := by decide +kernel
theorem dX3_bestOf_77 : decode cX3_bestOf 77 = .ok (.iload_n 3, 1) := by decide +kernel
theorem dX3_bestOf_78 : decode cX3_bestOf 78 = .ok (.ireturn, 1) := by decide +kernel
theorem dX3_shareInTwelfths_0 : decode cX3_shareInTwelfths 0 = .ok (.iconst 0, 1) := by decide +kernel
theorem dX3_shareInTwelfths_1 : decode cX3_shareInTwelfths 1 = .ok (.istore_n 2, 1) := by decide +kernel
theorem dX3_shareInTwelfths_2 : decode cX3_shareInTwelfths 2 = .ok (.iconst 0, 1) := by decide +kernel
theorem dX3_shareInTwelfths_3 : decode cX3_shareInTwelfths 3 = .ok (.istore_n 3, 1) := by decide +kernel
theorem dX3_shareInTwelfths_4 : decode cX3_shareInTwelfths 4 = .ok (.iload_n 3, 1) := by decide +kernel
theorem dX3_shareInTwelfths_5 : decode cX3_shareInTwelfths 5 = .ok (.bipush 24, 2) := by decide +kernel
theorem dX3_shareInTwelfths_7 : decode cX3_shareInTwelfths 7 = .ok (.if_icmp .ge 67, 3) := by decide +kernel
theorem dX3_shareInTwelfths_10 : decode cX3_shareInTwelfths 10 = .ok (.iconst 0, 1) := by decide +kernel
theorem dX3_shareInTwelfths_11 : decode cX3_shareInTwelfths 11 = .ok (.istore 4, 2) := by decide +kernel
theorem dX3_shareInTwelfths_13 : decode cX3_shareInTwelfths 13 = .ok (.iload 4, 2) := by decide +kernel
theorem dX3_shareInTwelfths_15 : decode cX3_shareInTwelfths 15 = .ok (.bipush 10, 2) := by decide +kernel
theorem dX3_shareInTwelfths_17 : decode cX3_shareInTwelfths 17 = .ok (.if_icmp .ge 51, 3) := by decide +kernel
theorem dX3_shareInTwelfths_20 : decode cX3_shareInTwelfths 20 = .ok (.aload_n 0, 1) := by decide +kernel
theorem dX3_shareInTwelfths_21 : decode cX3_shareInTwelfths 21 = .ok (.iload_n 1, 1) := by decide +kernel
theorem dX3_shareInTwelfths_22 : decode cX3_shareInTwelfths 22 = .ok (.iload_n 3, 1) := by decide +kernel
theorem dX3_shareInTwelfths_23 : decode cX3_shareInTwelfths 23 = .ok (.iload 4, 2) := by decide +kernel
theorem dX3_shareInTwelfths_25 : decode cX3_shareInTwelfths 25 = .ok (.invokevirtual 94, 3) := by decide +kernel
theorem dX3_shareInTwelfths_28 : decode cX3_shareInTwelfths 28 = .ok (.ifCond .eq 13, 3) := by decide +kernel
theorem dX3_shareInTwelfths_31 : decode cX3_shareInTwelfths 31 = .ok (.aload_n 0, 1) := by decide +kernel
theorem dX3_shareInTwelfths_32 : decode cX3_shareInTwelfths 32 = .ok (.iload_n 3, 1) := by decide +kernel
theorem dX3_shareInTwelfths_33 : decode cX3_shareInTwelfths 33 = .ok (.iload 4, 2) := by decide +kernel
theorem dX3_shareInTwelfths_35 : decode cX3_shareInTwelfths 35 = .ok (.invokevirtual 130, 3) := by decide +kernel
theorem dX3_shareInTwelfths_38 : decode cX3_shareInTwelfths 38 = .ok (.goto 4, 3) := by decide +kernel
theorem dX3_shareInTwelfths_41 : decode cX3_shareInTwelfths 41 = .ok (.iconst 0, 1) := by decide +kernel
theorem dX3_shareInTwelfths_42 : decode cX3_shareInTwelfths 42 = .ok (.istore 5, 2) := by decide +kernel
theorem dX3_shareInTwelfths_44 : decode cX3_shareInTwelfths 44 = .ok (.iload_n 2, 1) := by decide +kernel
theorem dX3_shareInTwelfths_45 : decode cX3_shareInTwelfths 45 = .ok (.iload 5, 2) := by decide +kernel
theorem dX3_shareInTwelfths_47 : decode cX3_shareInTwelfths 47 = .ok (.iconst 1, 1) := by decide +kernel
theorem dX3_shareInTwelfths_48 : decode cX3_shareInTwelfths 48 = .ok (.if_icmp .ge 7, 3) := by decide +kernel
theorem dX3_shareInTwelfths_51 : decode cX3_shareInTwelfths 51 = .ok (.iconst 0, 1) := by decide +kernel
theorem dX3_shareInTwelfths_52 : decode cX3_shareInTwelfths 52 = .ok (.goto 8, 3) := by decide +kernel
theorem dX3_shareInTwelfths_55 : decode cX3_shareInTwelfths 55 = .ok (.bipush 12, 2) := by decide +kernel
theorem dX3_shareInTwelfths_57 : decode cX3_shareInTwelfths 57 = .ok (.iload 5, 2) := by decide +kernel
theorem dX3_shareInTwelfths_59 : decode cX3_shareInTwelfths 59 = .ok (.idiv, 1) := by decide +kernel
theorem dX3_shareInTwelfths_60 : decode cX3_shareInTwelfths 60 = .ok (.iadd, 1) := by decide +kernel
theorem dX3_shareInTwelfths_61 : decode cX3_shareInTwelfths 61 = .ok (.istore_n 2, 1) := by decide +kernel
theorem dX3_shareInTwelfths_62 : decode cX3_shareInTwelfths 62 = .ok (.iinc 4 1, 3) := by decide +kernel
theorem dX3_shareInTwelfths_65 : decode cX3_shareInTwelfths 65 = .ok (.goto (-52), 3) := by decide +kernel
theorem dX3_shareInTwelfths_68 : decode cX3_shareInTwelfths 68 = .ok (.iinc 3 1, 3) := by decide +kernel
theorem dX3_shareInTwelfths_71 : decode cX3_shareInTwelfths 71 = .ok (.goto (-67), 3) := by decide +kernel
theorem dX3_shareInTwelfths_74 : decode cX3_shareInTwelfths 74 = .ok (.iload_n 2, 1) := by decide +kernel
theorem dX3_shareInTwelfths_75 : decode cX3_shareInTwelfths 75 = .ok (.ireturn, 1) := by decide +kernel
theorem dX5_init_0 : decode cX5_init 0 = .ok (.aload_n 0, 1) := by decide +kernel
theorem dX5_init_1 : decode cX5_init 1 = .ok (.invokespecial 3, 3) := by decide +kernel
theorem dX5_init_4 : decode cX5_init 4 = .ok (.aload_n 0, 1) := by decide +kernel
theorem dX5_init_5 : decode cX5_init 5 = .ok (.bipush 48, 2) := by decide +kernel
theorem dX5_init_7 : decode cX5_init 7 = .ok (.newarray .int, 2) := by decide +kernel
theorem dX5_init_9 : decode cX5_init 9 = .ok (.putfield 9, 3) := by decide +kernel
theorem dX5_init_12 : decode cX5_init 12 = .ok (.aload_n 0, 1) := by decide +kernel
theorem dX5_init_13 : decode cX5_init 13 = .ok (.bipush 49, 2) := by decide +kernel
theorem dX5_init_15 : decode cX5_init 15 = .ok (.newarray .int, 2) := by decide +kernel
theorem dX5_init_17 : decode cX5_init 17 = .ok (.putfield 15, 3) := by decide +kernel
theorem dX5_init_20 : decode cX5_init 20 = .ok (.aload_n 0, 1) := by decide +kernel
theorem dX5_init_21 : decode cX5_init 21 = .ok (.bipush 49, 2) := by decide +kernel
theorem dX5_init_23 : decode cX5_init 23 = .ok (.newarray .int, 2) := by decide +kernel
theorem dX5_init_25 : decode cX5_init 25 = .ok (.putfield 18, 3) := by decide +kernel
theorem dX5_init_28 : decode cX5_init 28 = .ok (.aload_n 0, 1) := by decide +kernel
theorem dX5_init_29 : decode cX5_init 29 = .ok (.bipush 49, 2) := by decide +kernel
theorem dX5_init_31 : decode cX5_init 31 = .ok (.newarray .int, 2) := by decide +kernel
theorem dX5_init_33 : decode cX5_init 33 = .ok (.putfield 21, 3) := by decide +kernel
theorem dX5_init_36 : decode cX5_init 36 = .ok (.aload_n 0, 1) := by decide +kernel
theorem dX5_init_37 : decode cX5_init 37 = .ok (.sipush 2401, 3) := by decide +kernel
theorem dX5_init_40 : decode cX5_init 40 = .ok (.newarray .int, 2) := by decide +kernel
theorem dX5_init_42 : decode cX5_init 42 = .ok (.putfield 24, 3) := by decide +kernel
theorem dX5_init_45 : decode cX5_init 45 = .ok (.aload_n 0, 1) := by decide +kernel
theorem dX5_init_46 : decode cX5_init 46 = .ok (.bipush 49, 2) := by decide +kernel
theorem dX5_init_48 : decode cX5_init 48 = .ok (.newarray .int, 2) := by decide +kernel
theorem dX5_init_50 : decode cX5_init 50 = .ok (.putfield 27, 3) := by decide +kernel
theorem dX5_init_53 : decode cX5_init 53 = .ok (.return_, 1) := by decide +kernel
theorem dX5_lettersFor_0 : decode cX5_lettersFor 0 = .ok (.aload_n 0, 1) := by decide +kernel
theorem dX5_lettersFor_1 : decode cX5_lettersFor 1 = .ok (.bipush 48, 2) := by decide +kernel
theorem dX5_lettersFor_3 : decode cX5_lettersFor 3 = .ok (.aload_n 1, 1) := by decide +kernel
theorem dX5_lettersFor_4 : decode cX5_lettersFor 4 = .ok (.getfield 30, 3) := by decide +kernel
theorem dX5_lettersFor_7 : decode cX5_lettersFor 7 = .ok (.iload_n 2, 1) := by decide +kernel
theorem dX5_lettersFor_8 : decode cX5_lettersFor 8 = .ok (.iaload, 1) := by decide +kernel
theorem dX5_lettersFor_9 : decode cX5_lettersFor 9 = .ok (.invokestatic 35, 3) := by decide +kernel
theorem dX5_lettersFor_12 : decode cX5_lettersFor 12 = .ok (.putfield 41, 3) := by decide +kernel
theorem dX5_lettersFor_15 : decode cX5_lettersFor 15 = .ok (.aload_n 1, 1) := by decide +kernel
theorem dX5_lettersFor_16 : decode cX5_lettersFor 16 = .ok (.getfield 45, 3) := by decide +kernel
theorem dX5_lettersFor_19 : decode cX5_lettersFor 19 = .ok (.iload_n 2, 1) := by decide +kernel
theorem dX5_lettersFor_20 : decode cX5_lettersFor 20 = .ok (.bipush 48, 2) := by decide +kernel
theorem dX5_lettersFor_22 : decode cX5_lettersFor 22 = .ok (.imul, 1) := by decide +kernel
theorem dX5_lettersFor_23 : decode cX5_lettersFor 23 = .ok (.aload_n 0, 1) := by decide +kernel
theorem dX5_lettersFor_24 : decode cX5_lettersFor 24 = .ok (.getfield 9, 3) := by decide +kernel
theorem dX5_lettersFor_27 : decode cX5_lettersFor 27 = .ok (.iconst 0, 1) := by decide +kernel
theorem dX5_lettersFor_28 : decode cX5_lettersFor 28 = .ok (.aload_n 0, 1) := by decide +kernel
theorem dX5_lettersFor_29 : decode cX5_lettersFor 29 = .ok (.getfield 41, 3) := by decide +kernel
theorem dX5_lettersFor_32 : decode cX5_lettersFor 32 = .ok (.invokestatic 48, 3) := by decide +kernel
theorem dX5_lettersFor_35 : decode cX5_lettersFor 35 = .ok (.iconst 0, 1) := by decide +kernel
theorem dX5_lettersFor_36 : decode cX5_lettersFor 36 = .ok (.istore_n 3, 1) := by decide +kernel
theorem dX5_lettersFor_37 : decode cX5_lettersFor 37 = .ok (.iload_n 3, 1) := by decide +kernel
theorem dX5_lettersFor_38 : decode cX5_lettersFor 38 = .ok (.bipush 49, 2) := by decide +kernel
theorem dX5_lettersFor_40 : decode cX5_lettersFor 40 = .ok (.if_icmp .ge 16, 3) := by decide +kernel
theorem dX5_lettersFor_43 : decode cX5_lettersFor 43 = .ok (.aload_n 0, 1) := by decide +kernel
theorem dX5_lettersFor_44 : decode cX5_lettersFor 44 = .ok (.getfield 15, 3) := by decide +kernel
theorem dX5_lettersFor_47 : decode cX5_lettersFor 47 = .ok (.iload_n 3, 1) := by decide +kernel
theorem dX5_lettersFor_48 : decode cX5_lettersFor 48 = .ok (.iconst 0, 1) := by decide +kernel
theorem dX5_lettersFor_49 : decode cX5_lettersFor 49 = .ok (.iastore, 1) := by decide +kernel
theorem dX5_lettersFor_50 : decode cX5_lettersFor 50 = .ok (.iinc 3 1, 3) := by decide +kernel
theorem dX5_lettersFor_53 : decode cX5_lettersFor 53 = .ok (.goto (-16), 3) := by decide +kernel
theorem dX5_lettersFor_56 : decode cX5_lettersFor 56 = .ok (.aload_n 0, 1) := by decide +kernel
theorem dX5_lettersFor_57 : decode cX5_lettersFor 57 = .ok (.getfield 27, 3) := by decide +kernel
theorem dX5_lettersFor_60 : decode cX5_lettersFor 60 = .ok (.aload_n 0, 1) := by decide +kernel
theorem dX5_lettersFor_61 : decode cX5_lettersFor 61 = .ok (.getfield 41, 3) := by decide +kernel
theorem dX5_lettersFor_64 : decode cX5_lettersFor 64 = .ok (.iconst 0, 1) := by decide +kernel
theorem dX5_lettersFor_65 : decode cX5_lettersFor 65 = .ok (.iastore, 1) := by decide +kernel
theorem dX5_lettersFor_66 : decode cX5_lettersFor 66 = .ok (.aload_n 0, 1) := by decide +kernel
theorem dX5_lettersFor_67 : decode cX5_lettersFor 67 = .ok (.getfield 24, 3) := by decide +kernel
theorem dX5_lettersFor_70 : decode cX5_lettersFor 70 = .ok (.bipush 49, 2) := by decide +kernel
theorem dX5_lettersFor_72 : decode cX5_lettersFor 72 = .ok (.aload_n 0, 1) := by decide +kernel
theorem dX5_lettersFor_73 : decode cX5_lettersFor 73 = .ok (.getfield 41, 3) := by decide +kernel
theorem dX5_lettersFor_76 : decode cX5_lettersFor 76 = .ok (.imul, 1) := by decide +kernel
theorem dX5_lettersFor_77 : decode cX5_lettersFor 77 = .ok (.iconst 0, 1) := by decide +kernel
theorem dX5_lettersFor_78 : decode cX5_lettersFor 78 = .ok (.iastore, 1) := by decide +kernel
theorem dX5_lettersFor_79 : decode cX5_lettersFor 79 = .ok (.aload_n 0, 1) := by decide +kernel
theorem dX5_lettersFor_80 : decode cX5_lettersFor 80 = .ok (.getfield 41, 3) := by decide +kernel
theorem dX5_lettersFor_83 : decode cX5_lettersFor 83 = .ok (.iconst 1, 1) := by decide +kernel
theorem dX5_lettersFor_84 : decode cX5_lettersFor 84 = .ok (.isub, 1) := by decide +kernel
theorem dX5_lettersFor_85 : decode cX5_lettersFor 85 = .ok (.istore_n 3, 1) := by decide +kernel
theorem dX5_lettersFor_86 : decode cX5_lettersFor 86 = .ok (.iload_n 3, 1) := by decide +kernel
theorem dX5_lettersFor_87 : decode cX5_lettersFor 87 = .ok (.ifCond .lt 62, 3) := by decide +kernel
theorem dX5_lettersFor_90 : decode cX5_lettersFor 90 = .ok (.aload_n 0, 1) := by decide +kernel
theorem dX5_lettersFor_91 : decode cX5_lettersFor 91 = .ok (.iload_n 3, 1) := by decide +kernel
theorem dX5_lettersFor_92 : decode cX5_lettersFor 92 = .ok (.invokevirtual 54, 3) := by decide +kernel
theorem dX5_lettersFor_95 : decode cX5_lettersFor 95 = .ok (.aload_n 0, 1) := by decide +kernel
theorem dX5_lettersFor_96 : decode cX5_lettersFor 96 = .ok (.iload_n 3, 1) := by decide +kernel
theorem dX5_lettersFor_97 : decode cX5_lettersFor 97 = .ok (.invokevirtual 58, 3) := by decide +kernel
theorem dX5_lettersFor_100 : decode cX5_lettersFor 100 = .ok (.aload_n 0, 1) := by decide +kernel
theorem dX5_lettersFor_101 : decode cX5_lettersFor 101 = .ok (.aload_n 0, 1) := by decide +kernel
theorem dX5_lettersFor_102 : decode cX5_lettersFor 102 = .ok (.getfield 18, 3) := by decide +kernel
theorem dX5_lettersFor_105 : decode cX5_lettersFor 105 = .ok (.iconst 0, 1) := by decide +kernel
theorem dX5_lettersFor_106 : decode cX5_lettersFor 106 = .ok (.aload_n 0, 1) := by decide +kernel
theorem dX5_lettersFor_107 : decode cX5_lettersFor 107 = .ok (.getfield 41, 3) := by decide +kernel
theorem dX5_lettersFor_110 : decode cX5_lettersFor 110 = .ok (.iload_n 3, 1) := by decide +kernel
theorem dX5_lettersFor_111 : decode cX5_lettersFor 111 = .ok (.isub, 1) := by decide +kernel
theorem dX5_lettersFor_112 : decode cX5_lettersFor 112 = .ok (.invokevirtual 61, 3) := by decide +kernel
theorem dX5_lettersFor_115 : decode cX5_lettersFor 115 = .ok (.aload_n 0, 1) := by decide +kernel
theorem dX5_lettersFor_116 : decode cX5_lettersFor 116 = .ok (.iload_n 3, 1) := by decide +kernel
theorem dX5_lettersFor_117 : decode cX5_lettersFor 117 = .ok (.invokevirtual 65, 3) := by decide +kernel
theorem dX5_lettersFor_120 : decode cX5_lettersFor 120 = .ok (.aload_n 0, 1) := by decide +kernel
theorem dX5_lettersFor_121 : decode cX5_lettersFor 121 = .ok (.aload_n 0, 1) := by decide +kernel
theorem dX5_lettersFor_122 : decode cX5_lettersFor 122 = .ok (.getfield 24, 3) := by decide +kernel
theorem dX5_lettersFor_125 : decode cX5_lettersFor 125 = .ok (.bipush 49, 2) := by decide +kernel
theorem dX5_lettersFor_127 : decode cX5_lettersFor 127 = .ok (.iload_n 3, 1) := by decide +kernel
theorem dX5_lettersFor_128 : decode cX5_lettersFor 128 = .ok (.imul, 1) := by decide +kernel
theorem dX5_lettersFor_129 : decode cX5_lettersFor 129 = .ok (.aload_n 0, 1) := by decide +kernel
theorem dX5_lettersFor_130 : decode cX5_lettersFor 130 = .ok (.getfield 41, 3) := by decide +kernel
theorem dX5_lettersFor_133 : decode cX5_lettersFor 133 = .ok (.iload_n 3, 1) := by decide +kernel
theorem dX5_lettersFor_134 : decode cX5_lettersFor 134 = .ok (.isub, 1) := by decide +kernel
theorem dX5_lettersFor_135 : decode cX5_lettersFor 135 = .ok (.invokevirtual 61, 3) := by decide +kernel
theorem dX5_lettersFor_138 : decode cX5_lettersFor 138 = .ok (.aload_n 0, 1) := by decide +kernel
theorem dX5_lettersFor_139 : decode cX5_lettersFor 139 = .ok (.iload_n 3, 1) := by decide +kernel
theorem dX5_lettersFor_140 : decode cX5_lettersFor 140 = .ok (.invokevirtual 68, 3) := by decide +kernel
theorem dX5_lettersFor_143 : decode cX5_lettersFor 143 = .ok (.iinc 3 (-1), 3) := by decide +kernel
theorem dX5_lettersFor_146 : decode cX5_lettersFor 146 = .ok (.goto (-60), 3) := by decide +kernel
theorem dX5_lettersFor_149 : decode cX5_lettersFor 149 = .ok (.aload_n 0, 1) := by decide +kernel
theorem dX5_lettersFor_150 : decode cX5_lettersFor 150 = .ok (.getfield 27, 3) := by decide +kernel
theorem dX5_lettersFor_153 : decode cX5_lettersFor 153 = .ok (.iconst 0, 1) := by decide +kernel
theorem dX5_lettersFor_154 : decode cX5_lettersFor 154 = .ok (.iaload, 1) := by decide +kernel
theorem dX5_lettersFor_155 : decode cX5_lettersFor 155 = .ok (.ireturn, 1) := by decide +kernel
theorem dX5_findLike_0 : decode cX5_findLike 0 = .ok (.iconst 1, 1) := by decide +kernel
theorem dX5_findLike_1 : decode cX5_findLike 1 = .ok (.istore_n 2, 1) := by decide +kernel
theorem dX5_findLike_2 : decode cX5_findLike 2 = .ok (.iload_n 1, 1) := by decide +kernel
theorem dX5_findLike_3 : decode cX5_findLike 3 = .ok (.iload_n 2, 1) := by decide +kernel
theorem dX5_findLike_4 : decode cX5_findLike 4 = .ok (.iadd, 1) := by decide +kernel
theorem dX5_findLike_5 : decode cX5_findLike 5 = .ok (.aload_n 0, 1) := by decide +kernel
theorem dX5_findLike_6 : decode cX5_findLike 6 = .ok (.getfield 41, 3) := by decide +kernel
theorem dX5_findLike_9 : decode cX5_findLike 9 = .ok (.if_icmp .ge 44, 3) := by decide +kernel
theorem dX5_findLike_12 : decode cX5_findLike 12 = .ok (.aload_n 0, 1) := by decide +kernel
theorem dX5_findLike_13 : decode cX5_findLike 13 = .ok (.getfield 15, 3) := by decide +kernel
theorem dX5_findLike_16 : decode cX5_findLike 16 = .ok (.iload_n 2, 1) := by decide +kernel
theorem dX5_findLike_17 : decode cX5_findLike 17 = .ok (.aload_n 0, 1) := by decide +kernel
theorem dX5_findLike_18 : decode cX5_findLike 18 = .ok (.getfield 9, 3) := by decide +kernel
theorem dX5_findLike_21 : decode cX5_findLike 21 = .ok (.iload_n 1, 1) := by decide +kernel
theorem dX5_findLike_22 : decode cX5_findLike 22 = .ok (.iaload, 1) := by decide +kernel
theorem dX5_findLike_23 : decode cX5_findLike 23 = .ok (.aload_n 0, 1) := by decide +kernel
theorem dX5_findLike_24 : decode cX5_findLike 24 = .ok (.getfield 9, 3) := by decide +kernel
theorem dX5_findLike_27 : decode cX5_findLike 27 = .ok (.iload_n 1, 1) := by decide +kernel
theorem dX5_findLike_28 : decode cX5_findLike 28 = .ok (.iload_n 2, 1) := by decide +kernel
theorem dX5_findLike_29 : decode cX5_findLike 29 = .ok (.iadd, 1) := by decide +kernel
theorem dX5_findLike_30 : decode cX5_findLike 30 = .ok (.iaload, 1) := by decide +kernel
theorem dX5_findLike_31 : decode cX5_findLike 31 = .ok (.if_icmp .ne 14, 3) := by decide +kernel
theorem dX5_findLike_34 : decode cX5_findLike 34 = .ok (.aload_n 0, 1) := by decide +kernel
theorem dX5_findLike_35 : decode cX5_findLike 35 = .ok (.getfield 15, 3) := by decide +kernel
theorem dX5_findLike_38 : decode cX5_findLike 38 = .ok (.iload_n 2, 1) := by decide +kernel
theorem dX5_findLike_39 : decode cX5_findLike 39 = .ok (.iaload, 1) := by decide +kernel
theorem dX5_findLike_40 : decode cX5_findLike 40 = .ok (.iconst 1, 1) := by decide +kernel
theorem dX5_findLike_41 : decode cX5_findLike 41 = .ok (.iadd, 1) := by decide +kernel
theorem dX5_findLike_42 : decode cX5_findLike 42 = .ok (.goto 4, 3) := by decide +kernel
theorem dX5_findLike_45 : decode cX5_findLike 45 = .ok (.iconst 0, 1) := by decide +kernel
theorem dX5_findLike_46 : decode cX5_findLike 46 = .ok (.iastore, 1) := by decide +kernel
theorem dX5_findLike_47 : decode cX5_findLike 47 = .ok (.iinc 2 1, 3) := by decide +kernel
theorem dX5_findLike_50 : decode cX5_findLike 50 = .ok (.goto (-48), 3) := by decide +kernel
theorem dX5_findLike_53 : decode cX5_findLike 53 = .ok (.return_, 1) := by decide +kernel
theorem dX5_findPlain_0 : decode cX5_findPlain 0 = .ok (.aload_n 0, 1) := by decide +kernel
theorem dX5_findPlain_1 : decode cX5_findPlain 1 = .ok (.getfield 18, 3) := by decide +kernel
theorem dX5_findPlain_4 : decode cX5_findPlain 4 = .ok (.iconst 0, 1) := by decide +kernel
theorem dX5_findPlain_5 : decode cX5_findPlain 5 = .ok (.iconst 0, 1) := by decide +kernel
theorem dX5_findPlain_6 : decode cX5_findPlain 6 = .ok (.iastore, 1) := by decide +kernel
theorem dX5_findPlain_7 : decode cX5_findPlain 7 = .ok (.iconst 0, 1) := by decide +kernel
theorem dX5_findPlain_8 : decode cX5_findPlain 8 = .ok (.istore_n 2, 1) := by decide +kernel
theorem dX5_findPlain_9 : decode cX5_findPlain 9 = .ok (.iconst 1, 1) := by decide +kernel
theorem dX5_findPlain_10 : decode cX5_findPlain 10 = .ok (.istore_n 3, 1) := by decide +kernel
theorem dX5_findPlain_11 : decode cX5_findPlain 11 = .ok (.iload_n 1, 1) := by decide +kernel
theorem dX5_findPlain_12 : decode cX5_findPlain 12 = .ok (.iload_n 3, 1) := by decide +kernel
theorem dX5_findPlain_13 : decode cX5_findPlain 13 = .ok (.iadd, 1) := by decide +kernel
theorem dX5_findPlain_14 : decode cX5_findPlain 14 = .ok (.aload_n 0, 1) := by decide +kernel
theorem dX5_findPlain_15 : decode cX5_findPlain 15 = .ok (.getfield 41, 3) := by decide +kernel
theorem dX5_findPlain_18 : decode cX5_findPlain 18 = .ok (.if_icmp .gt 98, 3) := by decide +kernel
theorem dX5_findPlain_21 : decode cX5_findPlain 21 = .ok (.iload_n 1, 1) := by decide +kernel
theorem dX5_findPlain_22 : decode cX5_findPlain 22 = .ok (.iload_n 3, 1) := by decide +kernel
theorem dX5_findPlain_23 : decode cX5_findPlain 23 = .ok (.iadd, 1) := by decide +kernel
theorem dX5_findPlain_24 : decode cX5_findPlain 24 = .ok (.iconst 1, 1) := by decide +kernel
theorem dX5_findPlain_25 : decode cX5_findPlain 25 = .ok (.isub, 1) := by decide +kernel
theorem dX5_findPlain_26 : decode cX5_findPlain 26 = .ok (.istore 4, 2) := by decide +kernel
theorem dX5_findPlain_28 : decode cX5_findPlain 28 = .ok (.iload_n 3, 1) := by decide +kernel
theorem dX5_findPlain_29 : decode cX5_findPlain 29 = .ok (.iconst 1, 1) := by decide +kernel
theorem dX5_findPlain_30 : decode cX5_findPlain 30 = .ok (.if_icmp .le 32, 3) := by decide +kernel
theorem dX5_findPlain_33 : decode cX5_findPlain 33 = .ok (.iload_n 2, 1) := by decide +kernel
theorem dX5_findPlain_34 : decode cX5_findPlain 34 = .ok (.bipush 9, 2) := by decide +kernel
theorem dX5_findPlain_36 : decode cX5_findPlain 36 = .ok (.if_icmp .ge 26, 3) := by decide +kernel
theorem dX5_findPlain_39 : decode cX5_findPlain 39 = .ok (.aload_n 0, 1) := by decide +kernel
theorem dX5_findPlain_40 : decode cX5_findPlain 40 = .ok (.getfield 9, 3) := by decide +kernel
theorem dX5_findPlain_43 : decode cX5_findPlain 43 = .ok (.iload 4, 2) := by decide +kernel
theorem dX5_findPlain_45 : decode cX5_findPlain 45 = .ok (.iaload, 1) := by decide +kernel
theorem dX5_findPlain_46 : decode cX5_findPlain 46 = .ok (.aload_n 0, 1) := by decide +kernel
theorem dX5_findPlain_47 : decode cX5_findPlain 47 = .ok (.getfield 9, 3) := by decide +kernel
theorem dX5_findPlain_50 : decode cX5_findPlain 50 = .ok (.iload 4, 2) := by decide +kernel
theorem dX5_findPlain_52 : decode cX5_findPlain 52 = .ok (.iconst 1, 1) := by decide +kernel
theorem dX5_findPlain_53 : decode cX5_findPlain 53 = .ok (.isub, 1) := by decide +kernel
theorem dX5_findPlain_54 : decode cX5_findPlain 54 = .ok (.iaload, 1) := by decide +kernel
theorem dX5_findPlain_55 : decode cX5_findPlain 55 = .ok (.if_icmp .ne 7, 3) := by decide +kernel
theorem dX5_findPlain_58 : decode cX5_findPlain 58 = .ok (.iconst 1, 1) := by decide +kernel
theorem dX5_findPlain_59 : decode cX5_findPlain 59 = .ok (.goto 4, 3) := by decide +kernel
theorem dX5_findPlain_62 : decode cX5_findPlain 62 = .ok (.iconst 0, 1) := by decide +kernel
theorem dX5_findPlain_63 : decode cX5_findPlain 63 = .ok (.istore 5, 2) := by decide +kernel
theorem dX5_findPlain_65 : decode cX5_findPlain 65 = .ok (.iload 5, 2) := by decide +kernel
theorem dX5_findPlain_67 : decode cX5_findPlain 67 = .ok (.ifCond .eq 9, 3) := by decide +kernel
theorem dX5_findPlain_70 : decode cX5_findPlain 70 = .ok (.iload_n 2, 1) := by decide +kernel
theorem dX5_findPlain_71 : decode cX5_findPlain 71 = .ok (.iconst 1, 1) := by decide +kernel
theorem dX5_findPlain_72 : decode cX5_findPlain 72 = .ok (.iadd, 1) := by decide +kernel
theorem dX5_findPlain_73 : decode cX5_findPlain 73 = .ok (.goto 4, 3) := by decide +kernel
theorem dX5_findPlain_76 : decode cX5_findPlain 76 = .ok (.iconst 1, 1) := by decide +kernel
theorem dX5_findPlain_77 : decode cX5_findPlain 77 = .ok (.istore_n 2, 1) := by decide +kernel
theorem dX5_findPlain_78 : decode cX5_findPlain 78 = .ok (.aload_n 0, 1) := by decide +kernel
theorem dX5_findPlain_79 : decode cX5_findPlain 79 = .ok (.getfield 18, 3) := by decide +kernel
theorem dX5_findPlain_82 : decode cX5_findPlain 82 = .ok (.iload_n 3, 1) := by decide +kernel
theorem dX5_findPlain_83 : decode cX5_findPlain 83 = .ok (.iload 5, 2) := by decide +kernel
theorem dX5_findPlain_85 : decode cX5_findPlain 85 = .ok (.ifCond .eq 14, 3) := by decide +kernel
theorem dX5_findPlain_88 : decode cX5_findPlain 88 = .ok (.aload_n 0, 1) := by decide +kernel
theorem dX5_findPlain_89 : decode cX5_findPlain 89 = .ok (.getfield 18, 3) := by decide +kernel
theorem dX5_findPlain_92 : decode cX5_findPlain 92 = .ok (.iload_n 3, 1) := by decide +kernel
theorem dX5_findPlain_93 : decode cX5_findPlain 93 = .ok (.iconst 1, 1) := by decide +kernel
theorem dX5_findPlain_94 : decode cX5_findPlain 94 = .ok (.isub, 1) := by decide +kernel
theorem dX5_findPlain_95 : decode cX5_findPlain 95 = .ok (.iaload, 1) := by decide +kernel
theorem dX5_findPlain_96 : decode cX5_findPlain 96 = .ok (.goto 13, 3) := by decide +kernel
theorem dX5_findPlain_99 : decode cX5_findPlain 99 = .ok (.aload_n 0, 1) := by decide +kernel
theorem dX5_findPlain_100 : decode cX5_findPlain 100 = .ok (.getfield 18, 3) := by decide +kernel
theorem dX5_findPlain_103 : decode cX5_findPlain 103 = .ok (.iload_n 3, 1) := by decide +kernel
theorem dX5_findPlain_104 : decode cX5_findPlain 104 = .ok (.iconst 1, 1) := by decide +kernel
theorem dX5_findPlain_105 : decode cX5_findPlain 105 = .ok (.isub, 1) := by decide +kernel
theorem dX5_findPlain_106 : decode cX5_findPlain 106 = .ok (.iaload, 1) := by decide +kernel
theorem dX5_findPlain_107 : decode cX5_findPlain 107 = .ok (.iconst 2, 1) := by decide +kernel
theorem dX5_findPlain_108 : decode cX5_findPlain 108 = .ok (.iadd, 1) := by decide +kernel
theorem dX5_findPlain_109 : decode cX5_findPlain 109 = .ok (.iastore, 1) := by decide +kernel
theorem dX5_findPlain_110 : decode cX5_findPlain 110 = .ok (.iinc 3 1, 3) := by decide +kernel
theorem dX5_findPlain_113 : decode cX5_findPlain 113 = .ok (.goto (-102), 3) := by decide +kernel
theorem dX5_findPlain_116 : decode cX5_findPlain 116 = .ok (.return_, 1) := by decide +kernel
theorem dX5_findItems_0 : decode cX5_findItems 0 = .ok (.iconst 1, 1) := by decide +kernel
theorem dX5_findItems_1 : decode cX5_findItems 1 = .ok (.istore 4, 2) := by decide +kernel
theorem dX5_findItems_3 : decode cX5_findItems 3 = .ok (.iload 4, 2) := by decide +kernel
theorem dX5_findItems_5 : decode cX5_findItems 5 = .ok (.iload_n 3, 1) := by decide +kernel
theorem dX5_findItems_6 : decode cX5_findItems 6 = .ok (.if_icmp .gt 43, 3) := by decide +kernel
theorem dX5_findItems_9 : decode cX5_findItems 9 = .ok (.aload_n 0, 1) := by decide +kernel
theorem dX5_findItems_10 : decode cX5_findItems 10 = .ok (.getfield 21, 3) := by decide +kernel
theorem dX5_findItems_13 : decode cX5_findItems 13 = .ok (.iload 4, 2) := by decide +kernel
theorem dX5_findItems_15 : decode cX5_findItems 15 = .ok (.iload 4, 2) := by decide +kernel
theorem dX5_findItems_17 : decode cX5_findItems 17 = .ok (.bipush 9, 2) := by decide +kernel
theorem dX5_findItems_19 : decode cX5_findItems 19 = .ok (.if_icmp .gt 20, 3) := by decide +kernel
theorem dX5_findItems_22 : decode cX5_findItems 22 = .ok (.aload_n 0, 1) := by decide +kernel
theorem dX5_findItems_23 : decode cX5_findItems 23 = .ok (.getfield 15, 3) := by decide +kernel
theorem dX5_findItems_26 : decode cX5_findItems 26 = .ok (.iconst 1, 1) := by decide +kernel
theorem dX5_findItems_27 : decode cX5_findItems 27 = .ok (.iaload, 1) := by decide +kernel
theorem dX5_findItems_28 : decode cX5_findItems 28 = .ok (.iload 4, 2) := by decide +kernel
theorem dX5_findItems_30 : decode cX5_findItems 30 = .ok (.iconst 1, 1) := by decide +kernel
theorem dX5_findItems_31 : decode cX5_findItems 31 = .ok (.isub, 1) := by decide +kernel
theorem dX5_findItems_32 : decode cX5_findItems 32 = .ok (.if_icmp .lt 7, 3) := by decide +kernel
theorem dX5_findItems_35 : decode cX5_findItems 35 = .ok (.iconst 2, 1) := by decide +kernel
theorem dX5_findItems_36 : decode cX5_findItems 36 = .ok (.goto 6, 3) := by decide +kernel
theorem dX5_findItems_39 : decode cX5_findItems 39 = .ok (.sipush 1000, 3) := by decide +kernel
theorem dX5_findItems_42 : decode cX5_findItems 42 = .ok (.iastore, 1) := by decide +kernel
theorem dX5_findItems_43 : decode cX5_findItems 43 = .ok (.iinc 4 1, 3) := by decide +kernel
theorem dX5_findItems_46 : decode cX5_findItems 46 = .ok (.goto (-43), 3) := by decide +kernel
theorem dX5_findItems_49 : decode cX5_findItems 49 = .ok (.iconst 1, 1) := by decide +kernel
theorem dX5_findItems_50 : decode cX5_findItems 50 = .ok (.istore 4, 2) := by decide +kernel
theorem dX5_findItems_52 : decode cX5_findItems 52 = .ok (.iconst 2, 1) := by decide +kernel
theorem dX5_findItems_53 : decode cX5_findItems 53 = .ok (.iload 4, 2) := by decide +kernel
theorem dX5_findItems_55 : decode cX5_findItems 55 = .ok (.imul, 1) := by decide +kernel
theorem dX5_findItems_56 : decode cX5_findItems 56 = .ok (.iload_n 3, 1) := by decide +kernel
theorem dX5_findItems_57 : decode cX5_findItems 57 = .ok (.if_icmp .gt 86, 3) := by decide +kernel
theorem dX5_findItems_60 : decode cX5_findItems 60 = .ok (.aload_n 1, 1) := by decide +kernel
theorem dX5_findItems_61 : decode cX5_findItems 61 = .ok (.iload_n 2, 1) := by decide +kernel
theorem dX5_findItems_62 : decode cX5_findItems 62 = .ok (.iload 4, 2) := by decide +kernel
theorem dX5_findItems_64 : decode cX5_findItems 64 = .ok (.iadd, 1) := by decide +kernel
theorem dX5_findItems_65 : decode cX5_findItems 65 = .ok (.iaload, 1) := by decide +kernel
theorem dX5_findItems_66 : decode cX5_findItems 66 = .ok (.iconst 3, 1) := by decide +kernel
theorem dX5_findItems_67 : decode cX5_findItems 67 = .ok (.iadd, 1) := by decide +kernel
theorem dX5_findItems_68 : decode cX5_findItems 68 = .ok (.istore 5, 2) := by decide +kernel
theorem dX5_findItems_70 : decode cX5_findItems 70 = .ok (.iconst 2, 1) := by decide +kernel
theorem dX5_findItems_71 : decode cX5_findItems 71 = .ok (.istore 6, 2) := by decide +kernel
theorem dX5_findItems_73 : decode cX5_findItems 73 = .ok (.iload 6, 2) := by decide +kernel
theorem dX5_findItems_75 : decode cX5_findItems 75 = .ok (.bipush 9, 2) := by decide +kernel
theorem dX5_findItems_77 : decode cX5_findItems 77 = .ok (.if_icmp .gt 60, 3) := by decide +kernel
theorem dX5_findItems_80 : decode cX5_findItems 80 = .ok (.iload 6, 2) := by decide +kernel
theorem dX5_findItems_82 : decode cX5_findItems 82 = .ok (.iload 4, 2) := by decide +kernel
theorem dX5_findItems_84 : decode cX5_findItems 84 = .ok (.imul, 1) := by decide +kernel
theorem dX5_findItems_85 : decode cX5_findItems 85 = .ok (.iload_n 3, 1) := by decide +kernel
theorem dX5_findItems_86 : decode cX5_findItems 86 = .ok (.if_icmp .gt 51, 3) := by decide +kernel
theorem dX5_findItems_89 : decode cX5_findItems 89 = .ok (.aload_n 0, 1) := by decide +kernel
theorem dX5_findItems_90 : decode cX5_findItems 90 = .ok (.getfield 15, 3) := by decide +kernel
theorem dX5_findItems_93 : decode cX5_findItems 93 = .ok (.iload 4, 2) := by decide +kernel
theorem dX5_findItems_95 : decode cX5_findItems 95 = .ok (.iaload, 1) := by decide +kernel
theorem dX5_findItems_96 : decode cX5_findItems 96 = .ok (.iload 6, 2) := by decide +kernel
theorem dX5_findItems_98 : decode cX5_findItems 98 = .ok (.iconst 1, 1) := by decide +kernel
theorem dX5_findItems_99 : decode cX5_findItems 99 = .ok (.isub, 1) := by decide +kernel
theorem dX5_findItems_100 : decode cX5_findItems 100 = .ok (.iload 4, 2) := by decide +kernel
theorem dX5_findItems_102 : decode cX5_findItems 102 = .ok (.imul, 1) := by decide +kernel
theorem dX5_findItems_103 : decode cX5_findItems 103 = .ok (.if_icmp .lt 34, 3) := by decide +kernel
theorem dX5_findItems_106 : decode cX5_findItems 106 = .ok (.aload_n 0, 1) := by decide +kernel
theorem dX5_findItems_107 : decode cX5_findItems 107 = .ok (.getfield 21, 3) := by decide +kernel
theorem dX5_findItems_110 : decode cX5_findItems 110 = .ok (.iload 6, 2) := by decide +kernel
theorem dX5_findItems_112 : decode cX5_findItems 112 = .ok (.iload 4, 2) := by decide +kernel
theorem dX5_findItems_114 : decode cX5_findItems 114 = .ok (.imul, 1) := by decide +kernel
theorem dX5_findItems_115 : decode cX5_findItems 115 = .ok (.aload_n 0, 1) := by decide +kernel
theorem dX5_findItems_116 : decode cX5_findItems 116 = .ok (.getfield 21, 3) := by decide +kernel
theorem dX5_findItems_119 : decode cX5_findItems 119 = .ok (.iload 6, 2) := by decide +kernel
theorem dX5_findItems_121 : decode cX5_findItems 121 = .ok (.iload 4, 2) := by decide +kernel
theorem dX5_findItems_123 : decode cX5_findItems 123 = .ok (.imul, 1) := by decide +kernel
theorem dX5_findItems_124 : decode cX5_findItems 124 = .ok (.iaload, 1) := by decide +kernel
theorem dX5_findItems_125 : decode cX5_findItems 125 = .ok (.iload 5, 2) := by decide +kernel
theorem dX5_findItems_127 : decode cX5_findItems 127 = .ok (.invokestatic 35, 3) := by decide +kernel
theorem dX5_findItems_130 : decode cX5_findItems 130 = .ok (.iastore, 1) := by decide +kernel
theorem dX5_findItems_131 : decode cX5_findItems 131 = .ok (.iinc 6 1, 3) := by decide +kernel
theorem dX5_findItems_134 : decode cX5_findItems 134 = .ok (.goto (-61), 3) := by decide +kernel
theorem dX5_findItems_137 : decode cX5_findItems 137 = .ok (.iinc 4 1, 3) := by decide +kernel
theorem dX5_findItems_140 : decode cX5_findItems 140 = .ok (.goto (-88), 3) := by decide +kernel
theorem dX5_findItems_143 : decode cX5_findItems 143 = .ok (.return_, 1) := by decide +kernel
theorem dX5_findOnce_0 : decode cX5_findOnce 0 = .ok (.aload_n 0, 1) := by decide +kernel
theorem dX5_findOnce_1 : decode cX5_findOnce 1 = .ok (.getfield 41, 3) := by decide +kernel
theorem dX5_findOnce_4 : decode cX5_findOnce 4 = .ok (.iload_n 1, 1) := by decide +kernel
theorem dX5_findOnce_5 : decode cX5_findOnce 5 = .ok (.isub, 1) := by decide +kernel
theorem dX5_findOnce_6 : decode cX5_findOnce 6 = .ok (.istore_n 2, 1) := by decide +kernel
theorem dX5_findOnce_7 : decode cX5_findOnce 7 = .ok (.bipush 49, 2) := by decide +kernel
theorem dX5_findOnce_9 : decode cX5_findOnce 9 = .ok (.iload_n 1, 1) := by decide +kernel
theorem dX5_findOnce_10 : decode cX5_findOnce 10 = .ok (.imul, 1) := by decide +kernel
theorem dX5_findOnce_11 : decode cX5_findOnce 11 = .ok (.istore_n 3, 1) := by decide +kernel
theorem dX5_findOnce_12 : decode cX5_findOnce 12 = .ok (.aload_n 0, 1) := by decide +kernel
theorem dX5_findOnce_13 : decode cX5_findOnce 13 = .ok (.getfield 24, 3) := by decide +kernel
theorem dX5_findOnce_16 : decode cX5_findOnce 16 = .ok (.iload_n 3, 1) := by decide +kernel
theorem dX5_findOnce_17 : decode cX5_findOnce 17 = .ok (.iconst 0, 1) := by decide +kernel
theorem dX5_findOnce_18 : decode cX5_findOnce 18 = .ok (.iastore, 1) := by decide +kernel
theorem dX5_findOnce_19 : decode cX5_findOnce 19 = .ok (.iconst 1, 1) := by decide +kernel
theorem dX5_findOnce_20 : decode cX5_findOnce 20 = .ok (.istore 4, 2) := by decide +kernel
theorem dX5_findOnce_22 : decode cX5_findOnce 22 = .ok (.iload 4, 2) := by decide +kernel
theorem dX5_findOnce_24 : decode cX5_findOnce 24 = .ok (.iload_n 2, 1) := by decide +kernel
theorem dX5_findOnce_25 : decode cX5_findOnce 25 = .ok (.if_icmp .gt 21, 3) := by decide +kernel
theorem dX5_findOnce_28 : decode cX5_findOnce 28 = .ok (.aload_n 0, 1) := by decide +kernel
theorem dX5_findOnce_29 : decode cX5_findOnce 29 = .ok (.getfield 24, 3) := by decide +kernel
theorem dX5_findOnce_32 : decode cX5_findOnce 32 = .ok (.iload_n 3, 1) := by decide +kernel
theorem dX5_findOnce_33 : decode cX5_findOnce 33 = .ok (.iload 4, 2) := by decide +kernel
theorem dX5_findOnce_35 : decode cX5_findOnce 35 = .ok (.iadd, 1) := by decide +kernel
theorem dX5_findOnce_36 : decode cX5_findOnce 36 = .ok (.sipush 1000, 3) := by decide +kernel
theorem dX5_findOnce_39 : decode cX5_findOnce 39 = .ok (.iastore, 1) := by decide +kernel
theorem dX5_findOnce_40 : decode cX5_findOnce 40 = .ok (.iinc 4 1, 3) := by decide +kernel
theorem dX5_findOnce_43 : decode cX5_findOnce 43 = .ok (.goto (-21), 3) := by decide +kernel
theorem dX5_findOnce_46 : decode cX5_findOnce 46 = .ok (.iconst 1, 1) := by decide +kernel
theorem dX5_findOnce_47 : decode cX5_findOnce 47 = .ok (.istore 4, 2) := by decide +kernel
theorem dX5_findOnce_49 : decode cX5_findOnce 49 = .ok (.iload 4, 2) := by decide +kernel
theorem dX5_findOnce_51 : decode cX5_findOnce 51 = .ok (.iload_n 2, 1) := by decide +kernel
theorem dX5_findOnce_52 : decode cX5_findOnce 52 = .ok (.if_icmp .gt 89, 3) := by decide +kernel
theorem dX5_findOnce_55 : decode cX5_findOnce 55 = .ok (.bipush 49, 2) := by decide +kernel
theorem dX5_findOnce_57 : decode cX5_findOnce 57 = .ok (.iload_n 1, 1) := by decide +kernel
theorem dX5_findOnce_58 : decode cX5_findOnce 58 = .ok (.iload 4, 2) := by decide +kernel
theorem dX5_findOnce_60 : decode cX5_findOnce 60 = .ok (.iadd, 1) := by decide +kernel
theorem dX5_findOnce_61 : decode cX5_findOnce 61 = .ok (.imul, 1) := by decide +kernel
theorem dX5_findOnce_62 : decode cX5_findOnce 62 = .ok (.istore 5, 2) := by decide +kernel
theorem dX5_findOnce_64 : decode cX5_findOnce 64 = .ok (.iload 4, 2) := by decide +kernel
theorem dX5_findOnce_66 : decode cX5_findOnce 66 = .ok (.istore 6, 2) := by decide +kernel
theorem dX5_findOnce_68 : decode cX5_findOnce 68 = .ok (.aload_n 0, 1) := by decide +kernel
theorem dX5_findOnce_69 : decode cX5_findOnce 69 = .ok (.getfield 21, 3) := by decide +kernel
theorem dX5_findOnce_72 : decode cX5_findOnce 72 = .ok (.iload 4, 2) := by decide +kernel
theorem dX5_findOnce_74 : decode cX5_findOnce 74 = .ok (.iaload, 1) := by decide +kernel
theorem dX5_findOnce_75 : decode cX5_findOnce 75 = .ok (.sipush 1000, 3) := by decide +kernel
theorem dX5_findOnce_78 : decode cX5_findOnce 78 = .ok (.if_icmp .ge 57, 3) := by decide +kernel
theorem dX5_findOnce_81 : decode cX5_findOnce 81 = .ok (.iload 6, 2) := by decide +kernel
theorem dX5_findOnce_83 : decode cX5_findOnce 83 = .ok (.iload_n 2, 1) := by decide +kernel
theorem dX5_findOnce_84 : decode cX5_findOnce 84 = .ok (.if_icmp .gt 51, 3) := by decide +kernel
theorem dX5_findOnce_87 : decode cX5_findOnce 87 = .ok (.aload_n 0, 1) := by decide +kernel
theorem dX5_findOnce_88 : decode cX5_findOnce 88 = .ok (.getfield 24, 3) := by decide +kernel
theorem dX5_findOnce_91 : decode cX5_findOnce 91 = .ok (.iload_n 3, 1) := by decide +kernel
theorem dX5_findOnce_92 : decode cX5_findOnce 92 = .ok (.iload 6, 2) := by decide +kernel
theorem dX5_findOnce_94 : decode cX5_findOnce 94 = .ok (.iadd, 1) := by decide +kernel
theorem dX5_findOnce_95 : decode cX5_findOnce 95 = .ok (.aload_n 0, 1) := by decide +kernel
theorem dX5_findOnce_96 : decode cX5_findOnce 96 = .ok (.getfield 24, 3) := by decide +kernel
theorem dX5_findOnce_99 : decode cX5_findOnce 99 = .ok (.iload_n 3, 1) := by decide +kernel
theorem dX5_findOnce_100 : decode cX5_findOnce 100 = .ok (.iload 6, 2) := by decide +kernel
theorem dX5_findOnce_102 : decode cX5_findOnce 102 = .ok (.iadd, 1) := by decide +kernel
theorem dX5_findOnce_103 : decode cX5_findOnce 103 = .ok (.iaload, 1) := by decide +kernel
theorem dX5_findOnce_104 : decode cX5_findOnce 104 = .ok (.aload_n 0, 1) := by decide +kernel
theorem dX5_findOnce_105 : decode cX5_findOnce 105 = .ok (.getfield 21, 3) := by decide +kernel
theorem dX5_findOnce_108 : decode cX5_findOnce 108 = .ok (.iload 4, 2) := by decide +kernel
theorem dX5_findOnce_110 : decode cX5_findOnce 110 = .ok (.iaload, 1) := by decide +kernel
theorem dX5_findOnce_111 : decode cX5_findOnce 111 = .ok (.aload_n 0, 1) := by decide +kernel
theorem dX5_findOnce_112 : decode cX5_findOnce 112 = .ok (.getfield 24, 3) := by decide +kernel
theorem dX5_findOnce_115 : decode cX5_findOnce 115 = .ok (.iload 5, 2) := by decide +kernel
theorem dX5_findOnce_117 : decode cX5_findOnce 117 = .ok (.iload 6, 2) := by decide +kernel
theorem dX5_findOnce_119 : decode cX5_findOnce 119 = .ok (.iadd, 1) := by decide +kernel
theorem dX5_findOnce_120 : decode cX5_findOnce 120 = .ok (.iload 4, 2) := by decide +kernel
theorem dX5_findOnce_122 : decode cX5_findOnce 122 = .ok (.isub, 1) := by decide +kernel
theorem dX5_findOnce_123 : decode cX5_findOnce 123 = .ok (.iaload, 1) := by decide +kernel
theorem dX5_findOnce_124 : decode cX5_findOnce 124 = .ok (.iadd, 1) := by decide +kernel
theorem dX5_findOnce_125 : decode cX5_findOnce 125 = .ok (.invokestatic 35, 3) := by decide +kernel
theorem dX5_findOnce_128 : decode cX5_findOnce 128 = .ok (.iastore, 1) := by decide +kernel
theorem dX5_findOnce_129 : decode cX5_findOnce 129 = .ok (.iinc 6 1, 3) := by decide +kernel
theorem dX5_findOnce_132 : decode cX5_findOnce 132 = .ok (.goto (-64), 3) := by decide +kernel
theorem dX5_findOnce_135 : decode cX5_findOnce 135 = .ok (.iinc 4 1, 3) := by decide +kernel
theorem dX5_findOnce_138 : decode cX5_findOnce 138 = .ok (.goto (-89), 3) := by decide +kernel
theorem dX5_findOnce_141 : decode cX5_findOnce 141 = .ok (.return_, 1) := by decide +kernel
theorem dX5_findTwice_0 : decode cX5_findTwice 0 = .ok (.aload_n 0, 1) := by decide +kernel
theorem dX5_findTwice_1 : decode cX5_findTwice 1 = .ok (.getfield 27, 3) := by decide +kernel
theorem dX5_findTwice_4 : decode cX5_findTwice 4 = .ok (.iload_n 1, 1) := by decide +kernel
theorem dX5_findTwice_5 : decode cX5_findTwice 5 = .ok (.sipush 1000, 3) := by decide +kernel
theorem dX5_findTwice_8 : decode cX5_findTwice 8 = .ok (.iastore, 1) := by decide +kernel
theorem dX5_findTwice_9 : decode cX5_findTwice 9 = .ok (.iconst 1, 1) := by decide +kernel
theorem dX5_findTwice_10 : decode cX5_findTwice 10 = .ok (.istore_n 2, 1) := by decide +kernel
theorem dX5_findTwice_11 : decode cX5_findTwice 11 = .ok (.iload_n 1, 1) := by decide +kernel
theorem dX5_findTwice_12 : decode cX5_findTwice 12 = .ok (.iload_n 2, 1) := by decide +kernel
theorem dX5_findTwice_13 : decode cX5_findTwice 13 = .ok (.iadd, 1) := by decide +kernel
theorem dX5_findTwice_14 : decode cX5_findTwice 14 = .ok (.aload_n 0, 1) := by decide +kernel
theorem dX5_findTwice_15 : decode cX5_findTwice 15 = .ok (.getfield 41, 3) := by decide +kernel
theorem dX5_findTwice_18 : decode cX5_findTwice 18 = .ok (.if_icmp .gt 39, 3) := by decide +kernel
theorem dX5_findTwice_21 : decode cX5_findTwice 21 = .ok (.aload_n 0, 1) := by decide +kernel
theorem dX5_findTwice_22 : decode cX5_findTwice 22 = .ok (.getfield 27, 3) := by decide +kernel
theorem dX5_findTwice_25 : decode cX5_findTwice 25 = .ok (.iload_n 1, 1) := by decide +kernel
theorem dX5_findTwice_26 : decode cX5_findTwice 26 = .ok (.aload_n 0, 1) := by decide +kernel
theorem dX5_findTwice_27 : decode cX5_findTwice 27 = .ok (.getfield 27, 3) := by decide +kernel
theorem dX5_findTwice_30 : decode cX5_findTwice 30 = .ok (.iload_n 1, 1) := by decide +kernel
theorem dX5_findTwice_31 : decode cX5_findTwice 31 = .ok (.iaload, 1) := by decide +kernel
theorem dX5_findTwice_32 : decode cX5_findTwice 32 = .ok (.aload_n 0, 1) := by decide +kernel
theorem dX5_findTwice_33 : decode cX5_findTwice 33 = .ok (.getfield 21, 3) := by decide +kernel
theorem dX5_findTwice_36 : decode cX5_findTwice 36 = .ok (.iload_n 2, 1) := by decide +kernel
theorem dX5_findTwice_37 : decode cX5_findTwice 37 = .ok (.iaload, 1) := by decide +kernel
theorem dX5_findTwice_38 : decode cX5_findTwice 38 = .ok (.aload_n 0, 1) := by decide +kernel
theorem dX5_findTwice_39 : decode cX5_findTwice 39 = .ok (.getfield 27, 3) := by decide +kernel
theorem dX5_findTwice_42 : decode cX5_findTwice 42 = .ok (.iload_n 1, 1) := by decide +kernel
theorem dX5_findTwice_43 : decode cX5_findTwice 43 = .ok (.iload_n 2, 1) := by decide +kernel
theorem dX5_findTwice_44 : decode cX5_findTwice 44 = .ok (.iadd, 1) := by decide +kernel
theorem dX5_findTwice_45 : decode cX5_findTwice 45 = .ok (.iaload, 1) := by decide +kernel
theorem dX5_findTwice_46 : decode cX5_findTwice 46 = .ok (.iadd, 1) := by decide +kernel
theorem dX5_findTwice_47 : decode cX5_findTwice 47 = .ok (.invokestatic 35, 3) := by decide +kernel
theorem dX5_findTwice_50 : decode cX5_findTwice 50 = .ok (.iastore, 1) := by decide +kernel
theorem dX5_findTwice_51 : decode cX5_findTwice 51 = .ok (.iinc 2 1, 3) := by decide +kernel
theorem dX5_findTwice_54 : decode cX5_findTwice 54 = .ok (.goto (-43), 3) := by decide +kernel
theorem dX5_findTwice_57 : decode cX5_findTwice 57 = .ok (.return_, 1) := by decide +kernel
