theorem d_Fo_evaluateWords_9 : decode b_Fo_evaluateWords 9 = .ok (.istore_n 3, 1) := by decide +kernel
theorem d_Fo_evaluateWords_10 : decode b_Fo_evaluateWords 10 = .ok (.iload_n 3, 1) := by decide +kernel
theorem d_Fo_evaluateWords_11 : decode b_Fo_evaluateWords 11 = .ok (.iconst 4, 1) := by decide +kernel
theorem d_Fo_evaluateWords_12 : decode b_Fo_evaluateWords 12 = .ok (.if_icmp .ge 103, 3) := by decide +kernel
theorem d_Fo_evaluateWords_15 : decode b_Fo_evaluateWords 15 = .ok (.aload_n 2, 1) := by decide +kernel
theorem d_Fo_evaluateWords_16 : decode b_Fo_evaluateWords 16 = .ok (.aload_n 0, 1) := by decide +kernel
theorem d_Fo_evaluateWords_17 : decode b_Fo_evaluateWords 17 = .ok (.getfield 31, 3) := by decide +kernel
theorem d_Fo_evaluateWords_20 : decode b_Fo_evaluateWords 20 = .ok (.iload_n 1, 1) := by decide +kernel
theorem d_Fo_evaluateWords_21 : decode b_Fo_evaluateWords 21 = .ok (.iaload, 1) := by decide +kernel
theorem d_Fo_evaluateWords_22 : decode b_Fo_evaluateWords 22 = .ok (.iconst 4, 1) := by decide +kernel
theorem d_Fo_evaluateWords_23 : decode b_Fo_evaluateWords 23 = .ok (.imul, 1) := by decide +kernel
theorem d_Fo_evaluateWords_24 : decode b_Fo_evaluateWords 24 = .ok (.iload_n 3, 1) := by decide +kernel
theorem d_Fo_evaluateWords_25 : decode b_Fo_evaluateWords 25 = .ok (.iadd, 1) := by decide +kernel
theorem d_Fo_evaluateWords_26 : decode b_Fo_evaluateWords 26 = .ok (.laload, 1) := by decide +kernel
theorem d_Fo_evaluateWords_27 : decode b_Fo_evaluateWords 27 = .ok (.lstore 4, 2) := by decide +kernel
theorem d_Fo_evaluateWords_29 : decode b_Fo_evaluateWords 29 = .ok (.aload_n 2, 1) := by decide +kernel
theorem d_Fo_evaluateWords_30 : decode b_Fo_evaluateWords 30 = .ok (.aload_n 0, 1) := by decide +kernel
theorem d_Fo_evaluateWords_31 : decode b_Fo_evaluateWords 31 = .ok (.getfield 34, 3) := by decide +kernel
theorem d_Fo_evaluateWords_34 : decode b_Fo_evaluateWords 34 = .ok (.iload_n 1, 1) := by decide +kernel
theorem d_Fo_evaluateWords_35 : decode b_Fo_evaluateWords 35 = .ok (.iaload, 1) := by decide +kernel
theorem d_Fo_evaluateWords_36 : decode b_Fo_evaluateWords 36 = .ok (.iconst 4, 1) := by decide +kernel
theorem d_Fo_evaluateWords_37 : decode b_Fo_evaluateWords 37 = .ok (.imul, 1) := by decide +kernel
theorem d_Fo_evaluateWords_38 : decode b_Fo_evaluateWords 38 = .ok (.iload_n 3, 1) := by decide +kernel
theorem d_Fo_evaluateWords_39 : decode b_Fo_evaluateWords 39 = .ok (.iadd, 1) := by decide +kernel
theorem d_Fo_evaluateWords_40 : decode b_Fo_evaluateWords 40 = .ok (.laload, 1) := by decide +kernel
theorem d_Fo_evaluateWords_41 : decode b_Fo_evaluateWords 41 = .ok (.lstore 6, 2) := by decide +kernel
theorem d_Fo_evaluateWords_43 : decode b_Fo_evaluateWords 43 = .ok (.aload_n 0, 1) := by decide +kernel
theorem d_Fo_evaluateWords_44 : decode b_Fo_evaluateWords 44 = .ok (.getfield 27, 3) := by decide +kernel
theorem d_Fo_evaluateWords_47 : decode b_Fo_evaluateWords 47 = .ok (.iload_n 1, 1) := by decide +kernel
theorem d_Fo_evaluateWords_48 : decode b_Fo_evaluateWords 48 = .ok (.iaload, 1) := by decide +kernel
theorem d_Fo_evaluateWords_49 : decode b_Fo_evaluateWords 49 = .ok (.iconst 2, 1) := by decide +kernel
theorem d_Fo_evaluateWords_50 : decode b_Fo_evaluateWords 50 = .ok (.if_icmp .ne 11, 3) := by decide +kernel
theorem d_Fo_evaluateWords_53 : decode b_Fo_evaluateWords 53 = .ok (.lload 4, 2) := by decide +kernel
theorem d_Fo_evaluateWords_55 : decode b_Fo_evaluateWords 55 = .ok (.lload 6, 2) := by decide +kernel
theorem d_Fo_evaluateWords_57 : decode b_Fo_evaluateWords 57 = .ok (.land, 1) := by decide +kernel
theorem d_Fo_evaluateWords_58 : decode b_Fo_evaluateWords 58 = .ok (.goto 8, 3) := by decide +kernel
theorem d_Fo_evaluateWords_61 : decode b_Fo_evaluateWords 61 = .ok (.lload 4, 2) := by decide +kernel
theorem d_Fo_evaluateWords_63 : decode b_Fo_evaluateWords 63 = .ok (.lload 6, 2) := by decide +kernel
theorem d_Fo_evaluateWords_65 : decode b_Fo_evaluateWords 65 = .ok (.lor, 1) := by decide +kernel
theorem d_Fo_evaluateWords_66 : decode b_Fo_evaluateWords 66 = .ok (.lstore 8, 2) := by decide +kernel
theorem d_Fo_evaluateWords_68 : decode b_Fo_evaluateWords 68 = .ok (.aload_n 2, 1) := by decide +kernel
theorem d_Fo_evaluateWords_69 : decode b_Fo_evaluateWords 69 = .ok (.iload_n 1, 1) := by decide +kernel
theorem d_Fo_evaluateWords_70 : decode b_Fo_evaluateWords 70 = .ok (.iconst 4, 1) := by decide +kernel
theorem d_Fo_evaluateWords_71 : decode b_Fo_evaluateWords 71 = .ok (.imul, 1) := by decide +kernel
theorem d_Fo_evaluateWords_72 : decode b_Fo_evaluateWords 72 = .ok (.iload_n 3, 1) := by decide +kernel
theorem d_Fo_evaluateWords_73 : decode b_Fo_evaluateWords 73 = .ok (.iadd, 1) := by decide +kernel
theorem d_Fo_evaluateWords_74 : decode b_Fo_evaluateWords 74 = .ok (.aload_n 0, 1) := by decide +kernel
theorem d_Fo_evaluateWords_75 : decode b_Fo_evaluateWords 75 = .ok (.getfield 27, 3) := by decide +kernel
theorem d_Fo_evaluateWords_78 : decode b_Fo_evaluateWords 78 = .ok (.iload_n 1, 1) := by decide +kernel
theorem d_Fo_evaluateWords_79 : decode b_Fo_evaluateWords 79 = .ok (.iaload, 1) := by decide +kernel
theorem d_Fo_evaluateWords_80 : decode b_Fo_evaluateWords 80 = .ok (.iconst 1, 1) := by decide +kernel
theorem d_Fo_evaluateWords_81 : decode b_Fo_evaluateWords 81 = .ok (.if_icmp .ne 25, 3) := by decide +kernel
theorem d_Fo_evaluateWords_84 : decode b_Fo_evaluateWords 84 = .ok (.aload_n 0, 1) := by decide +kernel
theorem d_Fo_evaluateWords_85 : decode b_Fo_evaluateWords 85 = .ok (.getfield 44, 3) := by decide +kernel
theorem d_Fo_evaluateWords_88 : decode b_Fo_evaluateWords 88 = .ok (.getfield 99, 3) := by decide +kernel
theorem d_Fo_evaluateWords_91 : decode b_Fo_evaluateWords 91 = .ok (.getfield 95, 3) := by decide +kernel
theorem d_Fo_evaluateWords_94 : decode b_Fo_evaluateWords 94 = .ok (.iload_n 3, 1) := by decide +kernel
theorem d_Fo_evaluateWords_95 : decode b_Fo_evaluateWords 95 = .ok (.laload, 1) := by decide +kernel
theorem d_Fo_evaluateWords_96 : decode b_Fo_evaluateWords 96 = .ok (.lload 4, 2) := by decide +kernel
theorem d_Fo_evaluateWords_98 : decode b_Fo_evaluateWords 98 = .ok (.ldc2_w 102, 3) := by decide +kernel
theorem d_Fo_evaluateWords_101 : decode b_Fo_evaluateWords 101 = .ok (.lxor, 1) := by decide +kernel
theorem d_Fo_evaluateWords_102 : decode b_Fo_evaluateWords 102 = .ok (.land, 1) := by decide +kernel
theorem d_Fo_evaluateWords_103 : decode b_Fo_evaluateWords 103 = .ok (.goto 5, 3) := by decide +kernel
theorem d_Fo_evaluateWords_106 : decode b_Fo_evaluateWords 106 = .ok (.lload 8, 2) := by decide +kernel
theorem d_Fo_evaluateWords_108 : decode b_Fo_evaluateWords 108 = .ok (.lastore, 1) := by decide +kernel
theorem d_Fo_evaluateWords_109 : decode b_Fo_evaluateWords 109 = .ok (.iinc 3 1, 3) := by decide +kernel
theorem d_Fo_evaluateWords_112 : decode b_Fo_evaluateWords 112 = .ok (.goto (-102), 3) := by decide +kernel
theorem d_Fo_evaluateWords_115 : decode b_Fo_evaluateWords 115 = .ok (.return_, 1) := by decide +kernel
theorem d_Fo_forgetAll_0 : decode b_Fo_forgetAll 0 = .ok (.aload_n 0, 1) := by decide +kernel
theorem d_Fo_forgetAll_1 : decode b_Fo_forgetAll 1 = .ok (.iconst 0, 1) := by decide +kernel
theorem d_Fo_forgetAll_2 : decode b_Fo_forgetAll 2 = .ok (.putfield 52, 3) := by decide +kernel
theorem d_Fo_forgetAll_5 : decode b_Fo_forgetAll 5 = .ok (.aload_n 0, 1) := by decide +kernel
theorem d_Fo_forgetAll_6 : decode b_Fo_forgetAll 6 = .ok (.iconst (-1), 1) := by decide +kernel
theorem d_Fo_forgetAll_7 : decode b_Fo_forgetAll 7 = .ok (.putfield 48, 3) := by decide +kernel
theorem d_Fo_forgetAll_10 : decode b_Fo_forgetAll 10 = .ok (.return_, 1) := by decide +kernel
theorem d_Fo_init_0 : decode b_Fo_init 0 = .ok (.aload_n 0, 1) := by decide +kernel
theorem d_Fo_init_1 : decode b_Fo_init 1 = .ok (.invokespecial 3, 3) := by decide +kernel
theorem d_Fo_init_4 : decode b_Fo_init 4 = .ok (.aload_n 0, 1) := by decide +kernel
theorem d_Fo_init_5 : decode b_Fo_init 5 = .ok (.new 9, 3) := by decide +kernel
theorem d_Fo_init_8 : decode b_Fo_init 8 = .ok (.dup, 1) := by decide +kernel
theorem d_Fo_init_9 : decode b_Fo_init 9 = .ok (.invokespecial 11, 3) := by decide +kernel
theorem d_Fo_init_12 : decode b_Fo_init 12 = .ok (.putfield 12, 3) := by decide +kernel
theorem d_Fo_init_15 : decode b_Fo_init 15 = .ok (.aload_n 0, 1) := by decide +kernel
theorem d_Fo_init_16 : decode b_Fo_init 16 = .ok (.new 18, 3) := by decide +kernel
theorem d_Fo_init_19 : decode b_Fo_init 19 = .ok (.dup, 1) := by decide +kernel
theorem d_Fo_init_20 : decode b_Fo_init 20 = .ok (.bipush 60, 2) := by decide +kernel
theorem d_Fo_init_22 : decode b_Fo_init 22 = .ok (.invokespecial 20, 3) := by decide +kernel
theorem d_Fo_init_25 : decode b_Fo_init 25 = .ok (.putfield 23, 3) := by decide +kernel
theorem d_Fo_init_28 : decode b_Fo_init 28 = .ok (.aload_n 0, 1) := by decide +kernel
theorem d_Fo_init_29 : decode b_Fo_init 29 = .ok (.bipush 60, 2) := by decide +kernel
theorem d_Fo_init_31 : decode b_Fo_init 31 = .ok (.newarray .int, 2) := by decide +kernel
theorem d_Fo_init_33 : decode b_Fo_init 33 = .ok (.putfield 27, 3) := by decide +kernel
theorem d_Fo_init_36 : decode b_Fo_init 36 = .ok (.aload_n 0, 1) := by decide +kernel
theorem d_Fo_init_37 : decode b_Fo_init 37 = .ok (.bipush 60, 2) := by decide +kernel
theorem d_Fo_init_39 : decode b_Fo_init 39 = .ok (.newarray .int, 2) := by decide +kernel
theorem d_Fo_init_41 : decode b_Fo_init 41 = .ok (.putfield 31, 3) := by decide +kernel
theorem d_Fo_init_44 : decode b_Fo_init 44 = .ok (.aload_n 0, 1) := by decide +kernel
theorem d_Fo_init_45 : decode b_Fo_init 45 = .ok (.bipush 60, 2) := by decide +kernel
theorem d_Fo_init_47 : decode b_Fo_init 47 = .ok (.newarray .int, 2) := by decide +kernel
theorem d_Fo_init_49 : decode b_Fo_init 49 = .ok (.putfield 34, 3) := by decide +kernel
theorem d_Fo_init_52 : decode b_Fo_init 52 = .ok (.aload_n 0, 1) := by decide +kernel
theorem d_Fo_init_53 : decode b_Fo_init 53 = .ok (.bipush 60, 2) := by decide +kernel
theorem d_Fo_init_55 : decode b_Fo_init 55 = .ok (.newarray .int, 2) := by decide +kernel
theorem d_Fo_init_57 : decode b_Fo_init 57 = .ok (.putfield 37, 3) := by decide +kernel
theorem d_Fo_init_60 : decode b_Fo_init 60 = .ok (.aload_n 0, 1) := by decide +kernel
theorem d_Fo_init_61 : decode b_Fo_init 61 = .ok (.bipush 60, 2) := by decide +kernel
theorem d_Fo_init_63 : decode b_Fo_init 63 = .ok (.newarray .boolean, 2) := by decide +kernel
theorem d_Fo_init_65 : decode b_Fo_init 65 = .ok (.putfield 40, 3) := by decide +kernel
theorem d_Fo_init_68 : decode b_Fo_init 68 = .ok (.aload_n 0, 1) := by decide +kernel
theorem d_Fo_init_69 : decode b_Fo_init 69 = .ok (.aload_n 1, 1) := by decide +kernel
theorem d_Fo_init_70 : decode b_Fo_init 70 = .ok (.putfield 44, 3) := by decide +kernel
theorem d_Fo_init_73 : decode b_Fo_init 73 = .ok (.aload_n 0, 1) := by decide +kernel
theorem d_Fo_init_74 : decode b_Fo_init 74 = .ok (.iconst (-1), 1) := by decide +kernel
theorem d_Fo_init_75 : decode b_Fo_init 75 = .ok (.putfield 48, 3) := by decide +kernel
theorem d_Fo_init_78 : decode b_Fo_init 78 = .ok (.return_, 1) := by decide +kernel
theorem d_Fo_isThere_0 : decode b_Fo_isThere 0 = .ok (.iload_n 1, 1) := by decide +kernel
theorem d_Fo_isThere_1 : decode b_Fo_isThere 1 = .ok (.ifCond .lt 15, 3) := by decide +kernel
theorem d_Fo_isThere_4 : decode b_Fo_isThere 4 = .ok (.iload_n 1, 1) := by decide +kernel
theorem d_Fo_isThere_5 : decode b_Fo_isThere 5 = .ok (.aload_n 0, 1) := by decide +kernel
theorem d_Fo_isThere_6 : decode b_Fo_isThere 6 = .ok (.getfield 52, 3) := by decide +kernel
theorem d_Fo_isThere_9 : decode b_Fo_isThere 9 = .ok (.if_icmp .ge 7, 3) := by decide +kernel
theorem d_Fo_isThere_12 : decode b_Fo_isThere 12 = .ok (.iconst 1, 1) := by decide +kernel
theorem d_Fo_isThere_13 : decode b_Fo_isThere 13 = .ok (.goto 4, 3) := by decide +kernel
theorem d_Fo_isThere_16 : decode b_Fo_isThere 16 = .ok (.iconst 0, 1) := by decide +kernel
theorem d_Fo_isThere_17 : decode b_Fo_isThere 17 = .ok (.ireturn, 1) := by decide +kernel
theorem d_Fo_nearerState_0 : decode b_Fo_nearerState 0 = .ok (.aload_n 0, 1) := by decide +kernel
theorem d_Fo_nearerState_1 : decode b_Fo_nearerState 1 = .ok (.getfield 12, 3) := by decide +kernel
theorem d_Fo_nearerState_4 : decode b_Fo_nearerState 4 = .ok (.getfield 115, 3) := by decide +kernel
theorem d_Fo_nearerState_7 : decode b_Fo_nearerState 7 = .ok (.iload_n 1, 1) := by decide +kernel
theorem d_Fo_nearerState_8 : decode b_Fo_nearerState 8 = .ok (.iaload, 1) := by decide +kernel
theorem d_Fo_nearerState_9 : decode b_Fo_nearerState 9 = .ok (.iconst 1, 1) := by decide +kernel
theorem d_Fo_nearerState_10 : decode b_Fo_nearerState 10 = .ok (.isub, 1) := by decide +kernel
theorem d_Fo_nearerState_11 : decode b_Fo_nearerState 11 = .ok (.istore_n 2, 1) := by decide +kernel
theorem d_Fo_nearerState_12 : decode b_Fo_nearerState 12 = .ok (.aload_n 0, 1) := by decide +kernel
theorem d_Fo_nearerState_13 : decode b_Fo_nearerState 13 = .ok (.getfield 44, 3) := by decide +kernel
theorem d_Fo_nearerState_16 : decode b_Fo_nearerState 16 = .ok (.getfield 104, 3) := by decide +kernel
theorem d_Fo_nearerState_19 : decode b_Fo_nearerState 19 = .ok (.iload_n 1, 1) := by decide +kernel
theorem d_Fo_nearerState_20 : decode b_Fo_nearerState 20 = .ok (.iconst 0, 1) := by decide +kernel
theorem d_Fo_nearerState_21 : decode b_Fo_nearerState 21 = .ok (.invokevirtual 161, 3) := by decide +kernel
theorem d_Fo_nearerState_24 : decode b_Fo_nearerState 24 = .ok (.istore_n 3, 1) := by decide +kernel
theorem d_Fo_nearerState_25 : decode b_Fo_nearerState 25 = .ok (.iconst 0, 1) := by decide +kernel
theorem d_Fo_nearerState_26 : decode b_Fo_nearerState 26 = .ok (.istore 4, 2) := by decide +kernel
theorem d_Fo_nearerState_28 : decode b_Fo_nearerState 28 = .ok (.iload_n 3, 1) := by decide +kernel
theorem d_Fo_nearerState_29 : decode b_Fo_nearerState 29 = .ok (.iconst (-1), 1) := by decide +kernel
theorem d_Fo_nearerState_30 : decode b_Fo_nearerState 30 = .ok (.if_icmp .eq 47, 3) := by decide +kernel
theorem d_Fo_nearerState_33 : decode b_Fo_nearerState 33 = .ok (.iload 4, 2) := by decide +kernel
theorem d_Fo_nearerState_35 : decode b_Fo_nearerState 35 = .ok (.sipush 256, 3) := by decide +kernel
theorem d_Fo_nearerState_38 : decode b_Fo_nearerState 38 = .ok (.if_icmp .ge 39, 3) := by decide +kernel
theorem d_Fo_nearerState_41 : decode b_Fo_nearerState 41 = .ok (.aload_n 0, 1) := by decide +kernel
theorem d_Fo_nearerState_42 : decode b_Fo_nearerState 42 = .ok (.getfield 12, 3) := by decide +kernel
theorem d_Fo_nearerState_45 : decode b_Fo_nearerState 45 = .ok (.getfield 115, 3) := by decide +kernel
theorem d_Fo_nearerState_48 : decode b_Fo_nearerState 48 = .ok (.iload_n 3, 1) := by decide +kernel
theorem d_Fo_nearerState_49 : decode b_Fo_nearerState 49 = .ok (.iaload, 1) := by decide +kernel
theorem d_Fo_nearerState_50 : decode b_Fo_nearerState 50 = .ok (.iload_n 2, 1) := by decide +kernel
theorem d_Fo_nearerState_51 : decode b_Fo_nearerState 51 = .ok (.if_icmp .ne 5, 3) := by decide +kernel
theorem d_Fo_nearerState_54 : decode b_Fo_nearerState 54 = .ok (.iload_n 3, 1) := by decide +kernel
theorem d_Fo_nearerState_55 : decode b_Fo_nearerState 55 = .ok (.ireturn, 1) := by decide +kernel
theorem d_Fo_nearerState_56 : decode b_Fo_nearerState 56 = .ok (.aload_n 0, 1) := by decide +kernel
theorem d_Fo_nearerState_57 : decode b_Fo_nearerState 57 = .ok (.getfield 44, 3) := by decide +kernel
theorem d_Fo_nearerState_60 : decode b_Fo_nearerState 60 = .ok (.getfield 104, 3) := by decide +kernel
theorem d_Fo_nearerState_63 : decode b_Fo_nearerState 63 = .ok (.iload_n 1, 1) := by decide +kernel
theorem d_Fo_nearerState_64 : decode b_Fo_nearerState 64 = .ok (.iload_n 3, 1) := by decide +kernel
theorem d_Fo_nearerState_65 : decode b_Fo_nearerState 65 = .ok (.iconst 1, 1) := by decide +kernel
theorem d_Fo_nearerState_66 : decode b_Fo_nearerState 66 = .ok (.iadd, 1) := by decide +kernel
theorem d_Fo_nearerState_67 : decode b_Fo_nearerState 67 = .ok (.invokevirtual 161, 3) := by decide +kernel
theorem d_Fo_nearerState_70 : decode b_Fo_nearerState 70 = .ok (.istore_n 3, 1) := by decide +kernel
theorem d_Fo_nearerState_71 : decode b_Fo_nearerState 71 = .ok (.iinc 4 1, 3) := by decide +kernel
theorem d_Fo_nearerState_74 : decode b_Fo_nearerState 74 = .ok (.goto (-46), 3) := by decide +kernel
theorem d_Fo_nearerState_77 : decode b_Fo_nearerState 77 = .ok (.iload_n 1, 1) := by decide +kernel
theorem d_Fo_nearerState_78 : decode b_Fo_nearerState 78 = .ok (.ireturn, 1) := by decide +kernel
theorem d_Fo_putFound_0 : decode b_Fo_putFound 0 = .ok (.iconst 0, 1) := by decide +kernel
theorem d_Fo_putFound_1 : decode b_Fo_putFound 1 = .ok (.istore_n 2, 1) := by decide +kernel
theorem d_Fo_putFound_2 : decode b_Fo_putFound 2 = .ok (.iload_n 2, 1) := by decide +kernel
theorem d_Fo_putFound_3 : decode b_Fo_putFound 3 = .ok (.aload_n 0, 1) := by decide +kernel
theorem d_Fo_putFound_4 : decode b_Fo_putFound 4 = .ok (.getfield 12, 3) := by decide +kernel
theorem d_Fo_putFound_7 : decode b_Fo_putFound 7 = .ok (.getfield 141, 3) := by decide +kernel
theorem d_Fo_putFound_10 : decode b_Fo_putFound 10 = .ok (.if_icmp .ge 26, 3) := by decide +kernel
theorem d_Fo_putFound_13 : decode b_Fo_putFound 13 = .ok (.aload_n 0, 1) := by decide +kernel
theorem d_Fo_putFound_14 : decode b_Fo_putFound 14 = .ok (.getfield 23, 3) := by decide +kernel
theorem d_Fo_putFound_17 : decode b_Fo_putFound 17 = .ok (.iload_n 1, 1) := by decide +kernel
theorem d_Fo_putFound_18 : decode b_Fo_putFound 18 = .ok (.aload_n 0, 1) := by decide +kernel
theorem d_Fo_putFound_19 : decode b_Fo_putFound 19 = .ok (.getfield 12, 3) := by decide +kernel
theorem d_Fo_putFound_22 : decode b_Fo_putFound 22 = .ok (.getfield 144, 3) := by decide +kernel
theorem d_Fo_putFound_25 : decode b_Fo_putFound 25 = .ok (.iload_n 2, 1) := by decide +kernel
theorem d_Fo_putFound_26 : decode b_Fo_putFound 26 = .ok (.iaload, 1) := by decide +kernel
theorem d_Fo_putFound_27 : decode b_Fo_putFound 27 = .ok (.invokevirtual 91, 3) := by decide +kernel
theorem d_Fo_putFound_30 : decode b_Fo_putFound 30 = .ok (.iinc 2 1, 3) := by decide +kernel
theorem d_Fo_putFound_33 : decode b_Fo_putFound 33 = .ok (.goto (-31), 3) := by decide +kernel
theorem d_Fo_putFound_36 : decode b_Fo_putFound 36 = .ok (.return_, 1) := by decide +kernel
theorem d_Fo_rowLength_0 : decode b_Fo_rowLength 0 = .ok (.aload_n 0, 1) := by decide +kernel
theorem d_Fo_rowLength_1 : decode b_Fo_rowLength 1 = .ok (.getfield 48, 3) := by decide +kernel
theorem d_Fo_rowLength_4 : decode b_Fo_rowLength 4 = .ok (.iload_n 1, 1) := by decide +kernel
theorem d_Fo_rowLength_5 : decode b_Fo_rowLength 5 = .ok (.if_icmp .eq 8, 3) := by decide +kernel
theorem d_Fo_rowLength_8 : decode b_Fo_rowLength 8 = .ok (.aload_n 0, 1) := by decide +kernel
theorem d_Fo_rowLength_9 : decode b_Fo_rowLength 9 = .ok (.iload_n 1, 1) := by decide +kernel
theorem d_Fo_rowLength_10 : decode b_Fo_rowLength 10 = .ok (.invokevirtual 82, 3) := by decide +kernel
theorem d_Fo_rowLength_13 : decode b_Fo_rowLength 13 = .ok (.aload_n 0, 1) := by decide +kernel
theorem d_Fo_rowLength_14 : decode b_Fo_rowLength 14 = .ok (.getfield 12, 3) := by decide +kernel
theorem d_Fo_rowLength_17 : decode b_Fo_rowLength 17 = .ok (.getfield 115, 3) := by decide +kernel
theorem d_Fo_rowLength_20 : decode b_Fo_rowLength 20 = .ok (.iload_n 2, 1) := by decide +kernel
theorem d_Fo_rowLength_21 : decode b_Fo_rowLength 21 = .ok (.iaload, 1) := by decide +kernel
theorem d_Fo_rowLength_22 : decode b_Fo_rowLength 22 = .ok (.istore_n 3, 1) := by decide +kernel
theorem d_Fo_rowLength_23 : decode b_Fo_rowLength 23 = .ok (.iload_n 3, 1) := by decide +kernel
theorem d_Fo_rowLength_24 : decode b_Fo_rowLength 24 = .ok (.iconst (-1), 1) := by decide +kernel
theorem d_Fo_rowLength_25 : decode b_Fo_rowLength 25 = .ok (.if_icmp .ne 7, 3) := by decide +kernel
theorem d_Fo_rowLength_28 : decode b_Fo_rowLength 28 = .ok (.iconst 0, 1) := by decide +kernel
theorem d_Fo_rowLength_29 : decode b_Fo_rowLength 29 = .ok (.goto 6, 3) := by decide +kernel
theorem d_Fo_rowLength_32 : decode b_Fo_rowLength 32 = .ok (.iload_n 3, 1) := by decide +kernel
theorem d_Fo_rowLength_33 : decode b_Fo_rowLength 33 = .ok (.iconst 1, 1) := by decide +kernel
theorem d_Fo_rowLength_34 : decode b_Fo_rowLength 34 = .ok (.iadd, 1) := by decide +kernel
theorem d_Fo_rowLength_35 : decode b_Fo_rowLength 35 = .ok (.ireturn, 1) := by decide +kernel
theorem d_Fo_rowState_0 : decode b_Fo_rowState 0 = .ok (.iload_n 1, 1) := by decide +kernel
theorem d_Fo_rowState_1 : decode b_Fo_rowState 1 = .ok (.istore_n 3, 1) := by decide +kernel
theorem d_Fo_rowState_2 : decode b_Fo_rowState 2 = .ok (.iconst 0, 1) := by decide +kernel
theorem d_Fo_rowState_3 : decode b_Fo_rowState 3 = .ok (.istore 4, 2) := by decide +kernel
theorem d_Fo_rowState_5 : decode b_Fo_rowState 5 = .ok (.iload 4, 2) := by decide +kernel
theorem d_Fo_rowState_7 : decode b_Fo_rowState 7 = .ok (.iload_n 2, 1) := by decide +kernel
theorem d_Fo_rowState_8 : decode b_Fo_rowState 8 = .ok (.if_icmp .ge 15, 3) := by decide +kernel
theorem d_Fo_rowState_11 : decode b_Fo_rowState 11 = .ok (.aload_n 0, 1) := by decide +kernel
theorem d_Fo_rowState_12 : decode b_Fo_rowState 12 = .ok (.iload_n 3, 1) := by decide +kernel
theorem d_Fo_rowState_13 : decode b_Fo_rowState 13 = .ok (.invokevirtual 157, 3) := by decide +kernel
theorem d_Fo_rowState_16 : decode b_Fo_rowState 16 = .ok (.istore_n 3, 1) := by decide +kernel
theorem d_Fo_rowState_17 : decode b_Fo_rowState 17 = .ok (.iinc 4 1, 3) := by decide +kernel
theorem d_Fo_rowState_20 : decode b_Fo_rowState 20 = .ok (.goto (-15), 3) := by decide +kernel
theorem d_Fo_rowState_23 : decode b_Fo_rowState 23 = .ok (.iload_n 3, 1) := by decide +kernel
theorem d_Fo_rowState_24 : decode b_Fo_rowState 24 = .ok (.ireturn, 1) := by decide +kernel
theorem d_Fo_settle_0 : decode b_Fo_settle 0 = .ok (.aload_n 0, 1) := by decide +kernel
theorem d_Fo_settle_1 : decode b_Fo_settle 1 = .ok (.iload_n 1, 1) := by decide +kernel
theorem d_Fo_settle_2 : decode b_Fo_settle 2 = .ok (.invokevirtual 59, 3) := by decide +kernel
theorem d_Fo_settle_5 : decode b_Fo_settle 5 = .ok (.iload_n 1, 1) := by decide +kernel
theorem d_Fo_settle_6 : decode b_Fo_settle 6 = .ok (.istore_n 2, 1) := by decide +kernel
theorem d_Fo_settle_7 : decode b_Fo_settle 7 = .ok (.iload_n 2, 1) := by decide +kernel
theorem d_Fo_settle_8 : decode b_Fo_settle 8 = .ok (.ifCond .lt 47, 3) := by decide +kernel
theorem d_Fo_settle_11 : decode b_Fo_settle 11 = .ok (.aload_n 0, 1) := by decide +kernel
theorem d_Fo_settle_12 : decode b_Fo_settle 12 = .ok (.getfield 40, 3) := by decide +kernel
theorem d_Fo_settle_15 : decode b_Fo_settle 15 = .ok (.iload_n 2, 1) := by decide +kernel
theorem d_Fo_settle_16 : decode b_Fo_settle 16 = .ok (.baload, 1) := by decide +kernel
theorem d_Fo_settle_17 : decode b_Fo_settle 17 = .ok (.ifCond .eq 32, 3) := by decide +kernel
theorem d_Fo_settle_20 : decode b_Fo_settle 20 = .ok (.aload_n 0, 1) := by decide +kernel
theorem d_Fo_settle_21 : decode b_Fo_settle 21 = .ok (.getfield 27, 3) := by decide +kernel
theorem d_Fo_settle_24 : decode b_Fo_settle 24 = .ok (.iload_n 2, 1) := by decide +kernel
theorem d_Fo_settle_25 : decode b_Fo_settle 25 = .ok (.iaload, 1) := by decide +kernel
theorem d_Fo_settle_26 : decode b_Fo_settle 26 = .ok (.ifCond .eq 23, 3) := by decide +kernel
theorem d_Fo_settle_29 : decode b_Fo_settle 29 = .ok (.aload_n 0, 1) := by decide +kernel
theorem d_Fo_settle_30 : decode b_Fo_settle 30 = .ok (.aload_n 0, 1) := by decide +kernel
theorem d_Fo_settle_31 : decode b_Fo_settle 31 = .ok (.getfield 31, 3) := by decide +kernel
theorem d_Fo_settle_34 : decode b_Fo_settle 34 = .ok (.iload_n 2, 1) := by decide +kernel
theorem d_Fo_settle_35 : decode b_Fo_settle 35 = .ok (.iaload, 1) := by decide +kernel
theorem d_Fo_settle_36 : decode b_Fo_settle 36 = .ok (.invokevirtual 59, 3) := by decide +kernel
theorem d_Fo_settle_39 : decode b_Fo_settle 39 = .ok (.aload_n 0, 1) := by decide +kernel
theorem d_Fo_settle_40 : decode b_Fo_settle 40 = .ok (.aload_n 0, 1) := by decide +kernel
theorem d_Fo_settle_41 : decode b_Fo_settle 41 = .ok (.getfield 34, 3) := by decide +kernel
theorem d_Fo_settle_44 : decode b_Fo_settle 44 = .ok (.iload_n 2, 1) := by decide +kernel
theorem d_Fo_settle_45 : decode b_Fo_settle 45 = .ok (.iaload, 1) := by decide +kernel
theorem d_Fo_settle_46 : decode b_Fo_settle 46 = .ok (.invokevirtual 59, 3) := by decide +kernel
theorem d_Fo_settle_49 : decode b_Fo_settle 49 = .ok (.iinc 2 (-1), 3) := by decide +kernel
theorem d_Fo_settle_52 : decode b_Fo_settle 52 = .ok (.goto (-45), 3) := by decide +kernel
theorem d_Fo_settle_55 : decode b_Fo_settle 55 = .ok (.iconst 0, 1) := by decide +kernel
theorem d_Fo_settle_56 : decode b_Fo_settle 56 = .ok (.istore_n 2, 1) := by decide +kernel
theorem d_Fo_settle_57 : decode b_Fo_settle 57 = .ok (.iload_n 2, 1) := by decide +kernel
theorem d_Fo_settle_58 : decode b_Fo_settle 58 = .ok (.iload_n 1, 1) := by decide +kernel
theorem d_Fo_settle_59 : decode b_Fo_settle 59 = .ok (.if_icmp .gt 43, 3) := by decide +kernel
theorem d_Fo_settle_62 : decode b_Fo_settle 62 = .ok (.aload_n 0, 1) := by decide +kernel
theorem d_Fo_settle_63 : decode b_Fo_settle 63 = .ok (.getfield 40, 3) := by decide +kernel
theorem d_Fo_settle_66 : decode b_Fo_settle 66 = .ok (.iload_n 2, 1) := by decide +kernel
theorem d_Fo_settle_67 : decode b_Fo_settle 67 = .ok (.baload, 1) := by decide +kernel
theorem d_Fo_settle_68 : decode b_Fo_settle 68 = .ok (.ifCond .eq 28, 3) := by decide +kernel
theorem d_Fo_settle_71 : decode b_Fo_settle 71 = .ok (.aload_n 0, 1) := by decide +kernel
theorem d_Fo_settle_72 : decode b_Fo_settle 72 = .ok (.getfield 40, 3) := by decide +kernel
theorem d_Fo_settle_75 : decode b_Fo_settle 75 = .ok (.iload_n 2, 1) := by decide +kernel
theorem d_Fo_settle_76 : decode b_Fo_settle 76 = .ok (.iconst 0, 1) := by decide +kernel
theorem d_Fo_settle_77 : decode b_Fo_settle 77 = .ok (.bastore, 1) := by decide +kernel
theorem d_Fo_settle_78 : decode b_Fo_settle 78 = .ok (.aload_n 0, 1) := by decide +kernel
theorem d_Fo_settle_79 : decode b_Fo_settle 79 = .ok (.iload_n 2, 1) := by decide +kernel
theorem d_Fo_settle_80 : decode b_Fo_settle 80 = .ok (.invokevirtual 62, 3) := by decide +kernel
theorem d_Fo_settle_83 : decode b_Fo_settle 83 = .ok (.aload_n 0, 1) := by decide +kernel
theorem d_Fo_settle_84 : decode b_Fo_settle 84 = .ok (.getfield 37, 3) := by decide +kernel
theorem d_Fo_settle_87 : decode b_Fo_settle 87 = .ok (.iload_n 2, 1) := by decide +kernel
theorem d_Fo_settle_88 : decode b_Fo_settle 88 = .ok (.aload_n 0, 1) := by decide +kernel
theorem d_Fo_settle_89 : decode b_Fo_settle 89 = .ok (.getfield 44, 3) := by decide +kernel
theorem d_Fo_settle_92 : decode b_Fo_settle 92 = .ok (.getfield 65, 3) := by decide +kernel
theorem d_Fo_settle_95 : decode b_Fo_settle 95 = .ok (.iastore, 1) := by decide +kernel
theorem d_Fo_settle_96 : decode b_Fo_settle 96 = .ok (.iinc 2 1, 3) := by decide +kernel
theorem d_Fo_settle_99 : decode b_Fo_settle 99 = .ok (.goto (-42), 3) := by decide +kernel
theorem d_Fo_settle_102 : decode b_Fo_settle 102 = .ok (.return_, 1) := by decide +kernel
theorem d_Fo_want_0 : decode b_Fo_want 0 = .ok (.aload_n 0, 1) := by decide +kernel
theorem d_Fo_want_1 : decode b_Fo_want 1 = .ok (.getfield 37, 3) := by decide +kernel
theorem d_Fo_want_4 : decode b_Fo_want 4 = .ok (.iload_n 1, 1) := by decide +kernel
theorem d_Fo_want_5 : decode b_Fo_want 5 = .ok (.iaload, 1) := by decide +kernel
theorem d_Fo_want_6 : decode b_Fo_want 6 = .ok (.aload_n 0, 1) := by decide +kernel
theorem d_Fo_want_7 : decode b_Fo_want 7 = .ok (.getfield 44, 3) := by decide +kernel
theorem d_Fo_want_10 : decode b_Fo_want 10 = .ok (.getfield 65, 3) := by decide +kernel
theorem d_Fo_want_13 : decode b_Fo_want 13 = .ok (.if_icmp .eq 10, 3) := by decide +kernel
theorem d_Fo_want_16 : decode b_Fo_want 16 = .ok (.aload_n 0, 1) := by decide +kernel
theorem d_Fo_want_17 : decode b_Fo_want 17 = .ok (.getfield 40, 3) := by decide +kernel
theorem d_Fo_want_20 : decode b_Fo_want 20 = .ok (.iload_n 1, 1) := by decide +kernel
theorem d_Fo_want_21 : decode b_Fo_want 21 = .ok (.iconst 1, 1) := by decide +kernel
theorem d_Fo_want_22 : decode b_Fo_want 22 = .ok (.bastore, 1) := by decide +kernel
theorem d_Fo_want_23 : decode b_Fo_want 23 = .ok (.return_, 1) := by decide +kernel
