theorem d_Ar_fill_0 : decode b_Ar_fill 0 = .ok (.iconst 0, 1) := by decide +kernel
theorem d_Ar_fill_1 : decode b_Ar_fill 1 = .ok (.istore_n 3, 1) := by decide +kernel
theorem d_Ar_fill_2 : decode b_Ar_fill 2 = .ok (.aload_n 0, 1) := by decide +kernel
theorem d_Ar_fill_3 : decode b_Ar_fill 3 = .ok (.arraylength, 1) := by decide +kernel
theorem d_Ar_fill_4 : decode b_Ar_fill 4 = .ok (.istore 4, 2) := by decide +kernel
theorem d_Ar_fill_6 : decode b_Ar_fill 6 = .ok (.iload_n 3, 1) := by decide +kernel
theorem d_Ar_fill_7 : decode b_Ar_fill 7 = .ok (.iload 4, 2) := by decide +kernel
theorem d_Ar_fill_9 : decode b_Ar_fill 9 = .ok (.if_icmp .ge 13, 3) := by decide +kernel
theorem d_Ar_fill_12 : decode b_Ar_fill 12 = .ok (.aload_n 0, 1) := by decide +kernel
theorem d_Ar_fill_13 : decode b_Ar_fill 13 = .ok (.iload_n 3, 1) := by decide +kernel
theorem d_Ar_fill_14 : decode b_Ar_fill 14 = .ok (.lload_n 1, 1) := by decide +kernel
theorem d_Ar_fill_15 : decode b_Ar_fill 15 = .ok (.lastore, 1) := by decide +kernel
theorem d_Ar_fill_16 : decode b_Ar_fill 16 = .ok (.iinc 3 1, 3) := by decide +kernel
theorem d_Ar_fill_19 : decode b_Ar_fill 19 = .ok (.goto (-13), 3) := by decide +kernel
theorem d_Ar_fill_22 : decode b_Ar_fill 22 = .ok (.return_, 1) := by decide +kernel
theorem d_Lo_bitCount_0 : decode b_Lo_bitCount 0 = .ok (.lload_n 0, 1) := by decide +kernel
theorem d_Lo_bitCount_1 : decode b_Lo_bitCount 1 = .ok (.lload_n 0, 1) := by decide +kernel
theorem d_Lo_bitCount_2 : decode b_Lo_bitCount 2 = .ok (.iconst 1, 1) := by decide +kernel
theorem d_Lo_bitCount_3 : decode b_Lo_bitCount 3 = .ok (.lushr, 1) := by decide +kernel
theorem d_Lo_bitCount_4 : decode b_Lo_bitCount 4 = .ok (.ldc2_w 314, 3) := by decide +kernel
theorem d_Lo_bitCount_7 : decode b_Lo_bitCount 7 = .ok (.land, 1) := by decide +kernel
theorem d_Lo_bitCount_8 : decode b_Lo_bitCount 8 = .ok (.lsub, 1) := by decide +kernel
theorem d_Lo_bitCount_9 : decode b_Lo_bitCount 9 = .ok (.lstore_n 0, 1) := by decide +kernel
theorem d_Lo_bitCount_10 : decode b_Lo_bitCount 10 = .ok (.lload_n 0, 1) := by decide +kernel
theorem d_Lo_bitCount_11 : decode b_Lo_bitCount 11 = .ok (.ldc2_w 316, 3) := by decide +kernel
theorem d_Lo_bitCount_14 : decode b_Lo_bitCount 14 = .ok (.land, 1) := by decide +kernel
theorem d_Lo_bitCount_15 : decode b_Lo_bitCount 15 = .ok (.lload_n 0, 1) := by decide +kernel
theorem d_Lo_bitCount_16 : decode b_Lo_bitCount 16 = .ok (.iconst 2, 1) := by decide +kernel
theorem d_Lo_bitCount_17 : decode b_Lo_bitCount 17 = .ok (.lushr, 1) := by decide +kernel
theorem d_Lo_bitCount_18 : decode b_Lo_bitCount 18 = .ok (.ldc2_w 316, 3) := by decide +kernel
theorem d_Lo_bitCount_21 : decode b_Lo_bitCount 21 = .ok (.land, 1) := by decide +kernel
theorem d_Lo_bitCount_22 : decode b_Lo_bitCount 22 = .ok (.ladd, 1) := by decide +kernel
theorem d_Lo_bitCount_23 : decode b_Lo_bitCount 23 = .ok (.lstore_n 0, 1) := by decide +kernel
theorem d_Lo_bitCount_24 : decode b_Lo_bitCount 24 = .ok (.lload_n 0, 1) := by decide +kernel
theorem d_Lo_bitCount_25 : decode b_Lo_bitCount 25 = .ok (.lload_n 0, 1) := by decide +kernel
theorem d_Lo_bitCount_26 : decode b_Lo_bitCount 26 = .ok (.iconst 4, 1) := by decide +kernel
theorem d_Lo_bitCount_27 : decode b_Lo_bitCount 27 = .ok (.lushr, 1) := by decide +kernel
theorem d_Lo_bitCount_28 : decode b_Lo_bitCount 28 = .ok (.ladd, 1) := by decide +kernel
theorem d_Lo_bitCount_29 : decode b_Lo_bitCount 29 = .ok (.ldc2_w 318, 3) := by decide +kernel
theorem d_Lo_bitCount_32 : decode b_Lo_bitCount 32 = .ok (.land, 1) := by decide +kernel
theorem d_Lo_bitCount_33 : decode b_Lo_bitCount 33 = .ok (.lstore_n 0, 1) := by decide +kernel
theorem d_Lo_bitCount_34 : decode b_Lo_bitCount 34 = .ok (.lload_n 0, 1) := by decide +kernel
theorem d_Lo_bitCount_35 : decode b_Lo_bitCount 35 = .ok (.lload_n 0, 1) := by decide +kernel
theorem d_Lo_bitCount_36 : decode b_Lo_bitCount 36 = .ok (.bipush 8, 2) := by decide +kernel
theorem d_Lo_bitCount_38 : decode b_Lo_bitCount 38 = .ok (.lushr, 1) := by decide +kernel
theorem d_Lo_bitCount_39 : decode b_Lo_bitCount 39 = .ok (.ladd, 1) := by decide +kernel
theorem d_Lo_bitCount_40 : decode b_Lo_bitCount 40 = .ok (.lstore_n 0, 1) := by decide +kernel
theorem d_Lo_bitCount_41 : decode b_Lo_bitCount 41 = .ok (.lload_n 0, 1) := by decide +kernel
theorem d_Lo_bitCount_42 : decode b_Lo_bitCount 42 = .ok (.lload_n 0, 1) := by decide +kernel
theorem d_Lo_bitCount_43 : decode b_Lo_bitCount 43 = .ok (.bipush 16, 2) := by decide +kernel
theorem d_Lo_bitCount_45 : decode b_Lo_bitCount 45 = .ok (.lushr, 1) := by decide +kernel
theorem d_Lo_bitCount_46 : decode b_Lo_bitCount 46 = .ok (.ladd, 1) := by decide +kernel
theorem d_Lo_bitCount_47 : decode b_Lo_bitCount 47 = .ok (.lstore_n 0, 1) := by decide +kernel
theorem d_Lo_bitCount_48 : decode b_Lo_bitCount 48 = .ok (.lload_n 0, 1) := by decide +kernel
theorem d_Lo_bitCount_49 : decode b_Lo_bitCount 49 = .ok (.lload_n 0, 1) := by decide +kernel
theorem d_Lo_bitCount_50 : decode b_Lo_bitCount 50 = .ok (.bipush 32, 2) := by decide +kernel
theorem d_Lo_bitCount_52 : decode b_Lo_bitCount 52 = .ok (.lushr, 1) := by decide +kernel
theorem d_Lo_bitCount_53 : decode b_Lo_bitCount 53 = .ok (.ladd, 1) := by decide +kernel
theorem d_Lo_bitCount_54 : decode b_Lo_bitCount 54 = .ok (.lstore_n 0, 1) := by decide +kernel
theorem d_Lo_bitCount_55 : decode b_Lo_bitCount 55 = .ok (.lload_n 0, 1) := by decide +kernel
theorem d_Lo_bitCount_56 : decode b_Lo_bitCount 56 = .ok (.l2i, 1) := by decide +kernel
theorem d_Lo_bitCount_57 : decode b_Lo_bitCount 57 = .ok (.bipush 127, 2) := by decide +kernel
theorem d_Lo_bitCount_59 : decode b_Lo_bitCount 59 = .ok (.iand, 1) := by decide +kernel
theorem d_Lo_bitCount_60 : decode b_Lo_bitCount 60 = .ok (.ireturn, 1) := by decide +kernel
theorem d_St_copy_0 : decode b_St_copy 0 = .ok (.aload_n 2, 1) := by decide +kernel
theorem d_St_copy_1 : decode b_St_copy 1 = .ok (.getfield 11, 3) := by decide +kernel
theorem d_St_copy_4 : decode b_St_copy 4 = .ok (.iload_n 3, 1) := by decide +kernel
theorem d_St_copy_5 : decode b_St_copy 5 = .ok (.iconst 4, 1) := by decide +kernel
theorem d_St_copy_6 : decode b_St_copy 6 = .ok (.imul, 1) := by decide +kernel
theorem d_St_copy_7 : decode b_St_copy 7 = .ok (.aload_n 0, 1) := by decide +kernel
theorem d_St_copy_8 : decode b_St_copy 8 = .ok (.getfield 11, 3) := by decide +kernel
theorem d_St_copy_11 : decode b_St_copy 11 = .ok (.iload_n 1, 1) := by decide +kernel
theorem d_St_copy_12 : decode b_St_copy 12 = .ok (.iconst 4, 1) := by decide +kernel
theorem d_St_copy_13 : decode b_St_copy 13 = .ok (.imul, 1) := by decide +kernel
theorem d_St_copy_14 : decode b_St_copy 14 = .ok (.iconst 4, 1) := by decide +kernel
theorem d_St_copy_15 : decode b_St_copy 15 = .ok (.invokestatic 21, 3) := by decide +kernel
theorem d_St_copy_18 : decode b_St_copy 18 = .ok (.return_, 1) := by decide +kernel
theorem d_St_drop_0 : decode b_St_drop 0 = .ok (.aload_n 0, 1) := by decide +kernel
theorem d_St_drop_1 : decode b_St_drop 1 = .ok (.getfield 11, 3) := by decide +kernel
theorem d_St_drop_4 : decode b_St_drop 4 = .ok (.iload_n 1, 1) := by decide +kernel
theorem d_St_drop_5 : decode b_St_drop 5 = .ok (.iconst 4, 1) := by decide +kernel
theorem d_St_drop_6 : decode b_St_drop 6 = .ok (.imul, 1) := by decide +kernel
theorem d_St_drop_7 : decode b_St_drop 7 = .ok (.iload_n 2, 1) := by decide +kernel
theorem d_St_drop_8 : decode b_St_drop 8 = .ok (.bipush 6, 2) := by decide +kernel
theorem d_St_drop_10 : decode b_St_drop 10 = .ok (.ishr, 1) := by decide +kernel
theorem d_St_drop_11 : decode b_St_drop 11 = .ok (.iadd, 1) := by decide +kernel
theorem d_St_drop_12 : decode b_St_drop 12 = .ok (.dup2, 1) := by decide +kernel
theorem d_St_drop_13 : decode b_St_drop 13 = .ok (.laload, 1) := by decide +kernel
theorem d_St_drop_14 : decode b_St_drop 14 = .ok (.lconst 1, 1) := by decide +kernel
theorem d_St_drop_15 : decode b_St_drop 15 = .ok (.iload_n 2, 1) := by decide +kernel
theorem d_St_drop_16 : decode b_St_drop 16 = .ok (.bipush 63, 2) := by decide +kernel
theorem d_St_drop_18 : decode b_St_drop 18 = .ok (.iand, 1) := by decide +kernel
theorem d_St_drop_19 : decode b_St_drop 19 = .ok (.lshl, 1) := by decide +kernel
theorem d_St_drop_20 : decode b_St_drop 20 = .ok (.ldc2_w 27, 3) := by decide +kernel
theorem d_St_drop_23 : decode b_St_drop 23 = .ok (.lxor, 1) := by decide +kernel
theorem d_St_drop_24 : decode b_St_drop 24 = .ok (.land, 1) := by decide +kernel
theorem d_St_drop_25 : decode b_St_drop 25 = .ok (.lastore, 1) := by decide +kernel
theorem d_St_drop_26 : decode b_St_drop 26 = .ok (.return_, 1) := by decide +kernel
theorem d_St_empty_0 : decode b_St_empty 0 = .ok (.iconst 0, 1) := by decide +kernel
theorem d_St_empty_1 : decode b_St_empty 1 = .ok (.istore_n 2, 1) := by decide +kernel
theorem d_St_empty_2 : decode b_St_empty 2 = .ok (.iload_n 2, 1) := by decide +kernel
theorem d_St_empty_3 : decode b_St_empty 3 = .ok (.iconst 4, 1) := by decide +kernel
theorem d_St_empty_4 : decode b_St_empty 4 = .ok (.if_icmp .ge 20, 3) := by decide +kernel
theorem d_St_empty_7 : decode b_St_empty 7 = .ok (.aload_n 0, 1) := by decide +kernel
theorem d_St_empty_8 : decode b_St_empty 8 = .ok (.getfield 11, 3) := by decide +kernel
theorem d_St_empty_11 : decode b_St_empty 11 = .ok (.iload_n 1, 1) := by decide +kernel
theorem d_St_empty_12 : decode b_St_empty 12 = .ok (.iconst 4, 1) := by decide +kernel
theorem d_St_empty_13 : decode b_St_empty 13 = .ok (.imul, 1) := by decide +kernel
theorem d_St_empty_14 : decode b_St_empty 14 = .ok (.iload_n 2, 1) := by decide +kernel
theorem d_St_empty_15 : decode b_St_empty 15 = .ok (.iadd, 1) := by decide +kernel
theorem d_St_empty_16 : decode b_St_empty 16 = .ok (.lconst 0, 1) := by decide +kernel
theorem d_St_empty_17 : decode b_St_empty 17 = .ok (.lastore, 1) := by decide +kernel
theorem d_St_empty_18 : decode b_St_empty 18 = .ok (.iinc 2 1, 3) := by decide +kernel
theorem d_St_empty_21 : decode b_St_empty 21 = .ok (.goto (-19), 3) := by decide +kernel
theorem d_St_empty_24 : decode b_St_empty 24 = .ok (.return_, 1) := by decide +kernel
theorem d_St_emptyAll_0 : decode b_St_emptyAll 0 = .ok (.aload_n 0, 1) := by decide +kernel
theorem d_St_emptyAll_1 : decode b_St_emptyAll 1 = .ok (.getfield 11, 3) := by decide +kernel
theorem d_St_emptyAll_4 : decode b_St_emptyAll 4 = .ok (.lconst 0, 1) := by decide +kernel
theorem d_St_emptyAll_5 : decode b_St_emptyAll 5 = .ok (.invokestatic 15, 3) := by decide +kernel
theorem d_St_emptyAll_8 : decode b_St_emptyAll 8 = .ok (.return_, 1) := by decide +kernel
theorem d_St_has_0 : decode b_St_has 0 = .ok (.aload_n 0, 1) := by decide +kernel
theorem d_St_has_1 : decode b_St_has 1 = .ok (.getfield 11, 3) := by decide +kernel
theorem d_St_has_4 : decode b_St_has 4 = .ok (.iload_n 1, 1) := by decide +kernel
theorem d_St_has_5 : decode b_St_has 5 = .ok (.iconst 4, 1) := by decide +kernel
theorem d_St_has_6 : decode b_St_has 6 = .ok (.imul, 1) := by decide +kernel
theorem d_St_has_7 : decode b_St_has 7 = .ok (.iload_n 2, 1) := by decide +kernel
theorem d_St_has_8 : decode b_St_has 8 = .ok (.bipush 6, 2) := by decide +kernel
theorem d_St_has_10 : decode b_St_has 10 = .ok (.ishr, 1) := by decide +kernel
theorem d_St_has_11 : decode b_St_has 11 = .ok (.iadd, 1) := by decide +kernel
theorem d_St_has_12 : decode b_St_has 12 = .ok (.laload, 1) := by decide +kernel
theorem d_St_has_13 : decode b_St_has 13 = .ok (.iload_n 2, 1) := by decide +kernel
theorem d_St_has_14 : decode b_St_has 14 = .ok (.bipush 63, 2) := by decide +kernel
theorem d_St_has_16 : decode b_St_has 16 = .ok (.iand, 1) := by decide +kernel
theorem d_St_has_17 : decode b_St_has 17 = .ok (.lushr, 1) := by decide +kernel
theorem d_St_has_18 : decode b_St_has 18 = .ok (.lconst 1, 1) := by decide +kernel
theorem d_St_has_19 : decode b_St_has 19 = .ok (.land, 1) := by decide +kernel
theorem d_St_has_20 : decode b_St_has 20 = .ok (.lconst 0, 1) := by decide +kernel
theorem d_St_has_21 : decode b_St_has 21 = .ok (.lcmp, 1) := by decide +kernel
theorem d_St_has_22 : decode b_St_has 22 = .ok (.ifCond .eq 7, 3) := by decide +kernel
theorem d_St_has_25 : decode b_St_has 25 = .ok (.iconst 1, 1) := by decide +kernel
theorem d_St_has_26 : decode b_St_has 26 = .ok (.goto 4, 3) := by decide +kernel
theorem d_St_has_29 : decode b_St_has 29 = .ok (.iconst 0, 1) := by decide +kernel
theorem d_St_has_30 : decode b_St_has 30 = .ok (.ireturn, 1) := by decide +kernel
theorem d_St_init_0 : decode b_St_init 0 = .ok (.aload_n 0, 1) := by decide +kernel
theorem d_St_init_1 : decode b_St_init 1 = .ok (.invokespecial 3, 3) := by decide +kernel
theorem d_St_init_4 : decode b_St_init 4 = .ok (.aload_n 0, 1) := by decide +kernel
theorem d_St_init_5 : decode b_St_init 5 = .ok (.iload_n 1, 1) := by decide +kernel
theorem d_St_init_6 : decode b_St_init 6 = .ok (.iconst 4, 1) := by decide +kernel
theorem d_St_init_7 : decode b_St_init 7 = .ok (.imul, 1) := by decide +kernel
theorem d_St_init_8 : decode b_St_init 8 = .ok (.newarray .long, 2) := by decide +kernel
theorem d_St_init_10 : decode b_St_init 10 = .ok (.putfield 11, 3) := by decide +kernel
theorem d_St_init_13 : decode b_St_init 13 = .ok (.return_, 1) := by decide +kernel
theorem d_St_leastFrom_0 : decode b_St_leastFrom 0 = .ok (.ldc2_w 27, 3) := by decide +kernel
theorem d_St_leastFrom_3 : decode b_St_leastFrom 3 = .ok (.iload_n 2, 1) := by decide +kernel
theorem d_St_leastFrom_4 : decode b_St_leastFrom 4 = .ok (.bipush 63, 2) := by decide +kernel
theorem d_St_leastFrom_6 : decode b_St_leastFrom 6 = .ok (.iand, 1) := by decide +kernel
theorem d_St_leastFrom_7 : decode b_St_leastFrom 7 = .ok (.lshl, 1) := by decide +kernel
theorem d_St_leastFrom_8 : decode b_St_leastFrom 8 = .ok (.lstore_n 3, 1) := by decide +kernel
theorem d_St_leastFrom_9 : decode b_St_leastFrom 9 = .ok (.iload_n 2, 1) := by decide +kernel
theorem d_St_leastFrom_10 : decode b_St_leastFrom 10 = .ok (.bipush 6, 2) := by decide +kernel
theorem d_St_leastFrom_12 : decode b_St_leastFrom 12 = .ok (.ishr, 1) := by decide +kernel
theorem d_St_leastFrom_13 : decode b_St_leastFrom 13 = .ok (.istore 5, 2) := by decide +kernel
theorem d_St_leastFrom_15 : decode b_St_leastFrom 15 = .ok (.iload 5, 2) := by decide +kernel
theorem d_St_leastFrom_17 : decode b_St_leastFrom 17 = .ok (.iconst 4, 1) := by decide +kernel
theorem d_St_leastFrom_18 : decode b_St_leastFrom 18 = .ok (.if_icmp .ge 53, 3) := by decide +kernel
theorem d_St_leastFrom_21 : decode b_St_leastFrom 21 = .ok (.aload_n 0, 1) := by decide +kernel
theorem d_St_leastFrom_22 : decode b_St_leastFrom 22 = .ok (.getfield 11, 3) := by decide +kernel
theorem d_St_leastFrom_25 : decode b_St_leastFrom 25 = .ok (.iload_n 1, 1) := by decide +kernel
theorem d_St_leastFrom_26 : decode b_St_leastFrom 26 = .ok (.iconst 4, 1) := by decide +kernel
theorem d_St_leastFrom_27 : decode b_St_leastFrom 27 = .ok (.imul, 1) := by decide +kernel
theorem d_St_leastFrom_28 : decode b_St_leastFrom 28 = .ok (.iload 5, 2) := by decide +kernel
theorem d_St_leastFrom_30 : decode b_St_leastFrom 30 = .ok (.iadd, 1) := by decide +kernel
theorem d_St_leastFrom_31 : decode b_St_leastFrom 31 = .ok (.laload, 1) := by decide +kernel
theorem d_St_leastFrom_32 : decode b_St_leastFrom 32 = .ok (.lload_n 3, 1) := by decide +kernel
theorem d_St_leastFrom_33 : decode b_St_leastFrom 33 = .ok (.land, 1) := by decide +kernel
theorem d_St_leastFrom_34 : decode b_St_leastFrom 34 = .ok (.lstore 6, 2) := by decide +kernel
theorem d_St_leastFrom_36 : decode b_St_leastFrom 36 = .ok (.lload 6, 2) := by decide +kernel
theorem d_St_leastFrom_38 : decode b_St_leastFrom 38 = .ok (.lconst 0, 1) := by decide +kernel
theorem d_St_leastFrom_39 : decode b_St_leastFrom 39 = .ok (.lcmp, 1) := by decide +kernel
theorem d_St_leastFrom_40 : decode b_St_leastFrom 40 = .ok (.ifCond .eq 21, 3) := by decide +kernel
theorem d_St_leastFrom_43 : decode b_St_leastFrom 43 = .ok (.iload 5, 2) := by decide +kernel
theorem d_St_leastFrom_45 : decode b_St_leastFrom 45 = .ok (.bipush 64, 2) := by decide +kernel
theorem d_St_leastFrom_47 : decode b_St_leastFrom 47 = .ok (.imul, 1) := by decide +kernel
theorem d_St_leastFrom_48 : decode b_St_leastFrom 48 = .ok (.lload 6, 2) := by decide +kernel
theorem d_St_leastFrom_50 : decode b_St_leastFrom 50 = .ok (.lload 6, 2) := by decide +kernel
theorem d_St_leastFrom_52 : decode b_St_leastFrom 52 = .ok (.lneg, 1) := by decide +kernel
theorem d_St_leastFrom_53 : decode b_St_leastFrom 53 = .ok (.land, 1) := by decide +kernel
theorem d_St_leastFrom_54 : decode b_St_leastFrom 54 = .ok (.lconst 1, 1) := by decide +kernel
theorem d_St_leastFrom_55 : decode b_St_leastFrom 55 = .ok (.lsub, 1) := by decide +kernel
theorem d_St_leastFrom_56 : decode b_St_leastFrom 56 = .ok (.invokestatic 29, 3) := by decide +kernel
theorem d_St_leastFrom_59 : decode b_St_leastFrom 59 = .ok (.iadd, 1) := by decide +kernel
theorem d_St_leastFrom_60 : decode b_St_leastFrom 60 = .ok (.ireturn, 1) := by decide +kernel
theorem d_St_leastFrom_61 : decode b_St_leastFrom 61 = .ok (.ldc2_w 27, 3) := by decide +kernel
theorem d_St_leastFrom_64 : decode b_St_leastFrom 64 = .ok (.lstore_n 3, 1) := by decide +kernel
theorem d_St_leastFrom_65 : decode b_St_leastFrom 65 = .ok (.iinc 5 1, 3) := by decide +kernel
theorem d_St_leastFrom_68 : decode b_St_leastFrom 68 = .ok (.goto (-53), 3) := by decide +kernel
theorem d_St_leastFrom_71 : decode b_St_leastFrom 71 = .ok (.iconst (-1), 1) := by decide +kernel
theorem d_St_leastFrom_72 : decode b_St_leastFrom 72 = .ok (.ireturn, 1) := by decide +kernel
theorem d_St_meets_0 : decode b_St_meets 0 = .ok (.iconst 0, 1) := by decide +kernel
theorem d_St_meets_1 : decode b_St_meets 1 = .ok (.istore 4, 2) := by decide +kernel
theorem d_St_meets_3 : decode b_St_meets 3 = .ok (.iload 4, 2) := by decide +kernel
theorem d_St_meets_5 : decode b_St_meets 5 = .ok (.iconst 4, 1) := by decide +kernel
theorem d_St_meets_6 : decode b_St_meets 6 = .ok (.if_icmp .ge 39, 3) := by decide +kernel
theorem d_St_meets_9 : decode b_St_meets 9 = .ok (.aload_n 0, 1) := by decide +kernel
theorem d_St_meets_10 : decode b_St_meets 10 = .ok (.getfield 11, 3) := by decide +kernel
theorem d_St_meets_13 : decode b_St_meets 13 = .ok (.iload_n 1, 1) := by decide +kernel
theorem d_St_meets_14 : decode b_St_meets 14 = .ok (.iconst 4, 1) := by decide +kernel
theorem d_St_meets_15 : decode b_St_meets 15 = .ok (.imul, 1) := by decide +kernel
theorem d_St_meets_16 : decode b_St_meets 16 = .ok (.iload 4, 2) := by decide +kernel
theorem d_St_meets_18 : decode b_St_meets 18 = .ok (.iadd, 1) := by decide +kernel
theorem d_St_meets_19 : decode b_St_meets 19 = .ok (.laload, 1) := by decide +kernel
theorem d_St_meets_20 : decode b_St_meets 20 = .ok (.aload_n 2, 1) := by decide +kernel
theorem d_St_meets_21 : decode b_St_meets 21 = .ok (.getfield 11, 3) := by decide +kernel
theorem d_St_meets_24 : decode b_St_meets 24 = .ok (.iload_n 3, 1) := by decide +kernel
theorem d_St_meets_25 : decode b_St_meets 25 = .ok (.iconst 4, 1) := by decide +kernel
theorem d_St_meets_26 : decode b_St_meets 26 = .ok (.imul, 1) := by decide +kernel
theorem d_St_meets_27 : decode b_St_meets 27 = .ok (.iload 4, 2) := by decide +kernel
theorem d_St_meets_29 : decode b_St_meets 29 = .ok (.iadd, 1) := by decide +kernel
theorem d_St_meets_30 : decode b_St_meets 30 = .ok (.laload, 1) := by decide +kernel
theorem d_St_meets_31 : decode b_St_meets 31 = .ok (.land, 1) := by decide +kernel
theorem d_St_meets_32 : decode b_St_meets 32 = .ok (.lconst 0, 1) := by decide +kernel
theorem d_St_meets_33 : decode b_St_meets 33 = .ok (.lcmp, 1) := by decide +kernel
theorem d_St_meets_34 : decode b_St_meets 34 = .ok (.ifCond .eq 5, 3) := by decide +kernel
theorem d_St_meets_37 : decode b_St_meets 37 = .ok (.iconst 1, 1) := by decide +kernel
theorem d_St_meets_38 : decode b_St_meets 38 = .ok (.ireturn, 1) := by decide +kernel
theorem d_St_meets_39 : decode b_St_meets 39 = .ok (.iinc 4 1, 3) := by decide +kernel
theorem d_St_meets_42 : decode b_St_meets 42 = .ok (.goto (-39), 3) := by decide +kernel
theorem d_St_meets_45 : decode b_St_meets 45 = .ok (.iconst 0, 1) := by decide +kernel
theorem d_St_meets_46 : decode b_St_meets 46 = .ok (.ireturn, 1) := by decide +kernel
theorem d_St_put_0 : decode b_St_put 0 = .ok (.aload_n 0, 1) := by decide +kernel
theorem d_St_put_1 : decode b_St_put 1 = .ok (.getfield 11, 3) := by decide +kernel
theorem d_St_put_4 : decode b_St_put 4 = .ok (.iload_n 1, 1) := by decide +kernel
theorem d_St_put_5 : decode b_St_put 5 = .ok (.iconst 4, 1) := by decide +kernel
theorem d_St_put_6 : decode b_St_put 6 = .ok (.imul, 1) := by decide +kernel
theorem d_St_put_7 : decode b_St_put 7 = .ok (.iload_n 2, 1) := by decide +kernel
theorem d_St_put_8 : decode b_St_put 8 = .ok (.bipush 6, 2) := by decide +kernel
theorem d_St_put_10 : decode b_St_put 10 = .ok (.ishr, 1) := by decide +kernel
theorem d_St_put_11 : decode b_St_put 11 = .ok (.iadd, 1) := by decide +kernel
theorem d_St_put_12 : decode b_St_put 12 = .ok (.dup2, 1) := by decide +kernel
theorem d_St_put_13 : decode b_St_put 13 = .ok (.laload, 1) := by decide +kernel
theorem d_St_put_14 : decode b_St_put 14 = .ok (.lconst 1, 1) := by decide +kernel
theorem d_St_put_15 : decode b_St_put 15 = .ok (.iload_n 2, 1) := by decide +kernel
theorem d_St_put_16 : decode b_St_put 16 = .ok (.bipush 63, 2) := by decide +kernel
theorem d_St_put_18 : decode b_St_put 18 = .ok (.iand, 1) := by decide +kernel
theorem d_St_put_19 : decode b_St_put 19 = .ok (.lshl, 1) := by decide +kernel
theorem d_St_put_20 : decode b_St_put 20 = .ok (.lor, 1) := by decide +kernel
theorem d_St_put_21 : decode b_St_put 21 = .ok (.lastore, 1) := by decide +kernel
theorem d_St_put_22 : decode b_St_put 22 = .ok (.return_, 1) := by decide +kernel
theorem d_St_size_0 : decode b_St_size 0 = .ok (.iconst 0, 1) := by decide +kernel
theorem d_St_size_1 : decode b_St_size 1 = .ok (.istore_n 2, 1) := by decide +kernel
theorem d_St_size_2 : decode b_St_size 2 = .ok (.iconst 0, 1) := by decide +kernel
theorem d_St_size_3 : decode b_St_size 3 = .ok (.istore_n 3, 1) := by decide +kernel
theorem d_St_size_4 : decode b_St_size 4 = .ok (.iload_n 3, 1) := by decide +kernel
theorem d_St_size_5 : decode b_St_size 5 = .ok (.iconst 4, 1) := by decide +kernel
theorem d_St_size_6 : decode b_St_size 6 = .ok (.if_icmp .ge 25, 3) := by decide +kernel
theorem d_St_size_9 : decode b_St_size 9 = .ok (.iload_n 2, 1) := by decide +kernel
theorem d_St_size_10 : decode b_St_size 10 = .ok (.aload_n 0, 1) := by decide +kernel
theorem d_St_size_11 : decode b_St_size 11 = .ok (.getfield 11, 3) := by decide +kernel
theorem d_St_size_14 : decode b_St_size 14 = .ok (.iload_n 1, 1) := by decide +kernel
theorem d_St_size_15 : decode b_St_size 15 = .ok (.iconst 4, 1) := by decide +kernel
theorem d_St_size_16 : decode b_St_size 16 = .ok (.imul, 1) := by decide +kernel
theorem d_St_size_17 : decode b_St_size 17 = .ok (.iload_n 3, 1) := by decide +kernel
theorem d_St_size_18 : decode b_St_size 18 = .ok (.iadd, 1) := by decide +kernel
theorem d_St_size_19 : decode b_St_size 19 = .ok (.laload, 1) := by decide +kernel
theorem d_St_size_20 : decode b_St_size 20 = .ok (.invokestatic 29, 3) := by decide +kernel
theorem d_St_size_23 : decode b_St_size 23 = .ok (.iadd, 1) := by decide +kernel
theorem d_St_size_24 : decode b_St_size 24 = .ok (.istore_n 2, 1) := by decide +kernel
theorem d_St_size_25 : decode b_St_size 25 = .ok (.iinc 3 1, 3) := by decide +kernel
theorem d_St_size_28 : decode b_St_size 28 = .ok (.goto (-24), 3) := by decide +kernel
theorem d_St_size_31 : decode b_St_size 31 = .ok (.iload_n 2, 1) := by decide +kernel
theorem d_St_size_32 : decode b_St_size 32 = .ok (.ireturn, 1) := by decide +kernel
theorem d_St_takeShared_0 : decode b_St_takeShared 0 = .ok (.iconst 0, 1) := by decide +kernel
theorem d_St_takeShared_1 : decode b_St_takeShared 1 = .ok (.istore 4, 2) := by decide +kernel
theorem d_St_takeShared_3 : decode b_St_takeShared 3 = .ok (.iload 4, 2) := by decide +kernel
theorem d_St_takeShared_5 : decode b_St_takeShared 5 = .ok (.iconst 4, 1) := by decide +kernel
theorem d_St_takeShared_6 : decode b_St_takeShared 6 = .ok (.if_icmp .ge 79, 3) := by decide +kernel
theorem d_St_takeShared_9 : decode b_St_takeShared 9 = .ok (.aload_n 0, 1) := by decide +kernel
theorem d_St_takeShared_10 : decode b_St_takeShared 10 = .ok (.getfield 11, 3) := by decide +kernel
theorem d_St_takeShared_13 : decode b_St_takeShared 13 = .ok (.iload_n 1, 1) := by decide +kernel
theorem d_St_takeShared_14 : decode b_St_takeShared 14 = .ok (.iconst 4, 1) := by decide +kernel
theorem d_St_takeShared_15 : decode b_St_takeShared 15 = .ok (.imul, 1) := by decide +kernel
theorem d_St_takeShared_16 : decode b_St_takeShared 16 = .ok (.iload 4, 2) := by decide +kernel
theorem d_St_takeShared_18 : decode b_St_takeShared 18 = .ok (.iadd, 1) := by decide +kernel
theorem d_St_takeShared_19 : decode b_St_takeShared 19 = .ok (.laload, 1) := by decide +kernel
theorem d_St_takeShared_20 : decode b_St_takeShared 20 = .ok (.aload_n 2, 1) := by decide +kernel
theorem d_St_takeShared_21 : decode b_St_takeShared 21 = .ok (.getfield 11, 3) := by decide +kernel
theorem d_St_takeShared_24 : decode b_St_takeShared 24 = .ok (.iload_n 3, 1) := by decide +kernel
theorem d_St_takeShared_25 : decode b_St_takeShared 25 = .ok (.iconst 4, 1) := by decide +kernel
theorem d_St_takeShared_26 : decode b_St_takeShared 26 = .ok (.imul, 1) := by decide +kernel
theorem d_St_takeShared_27 : decode b_St_takeShared 27 = .ok (.iload 4, 2) := by decide +kernel
theorem d_St_takeShared_29 : decode b_St_takeShared 29 = .ok (.iadd, 1) := by decide +kernel
theorem d_St_takeShared_30 : decode b_St_takeShared 30 = .ok (.laload, 1) := by decide +kernel
theorem d_St_takeShared_31 : decode b_St_takeShared 31 = .ok (.land, 1) := by decide +kernel
theorem d_St_takeShared_32 : decode b_St_takeShared 32 = .ok (.lstore 5, 2) := by decide +kernel
theorem d_St_takeShared_34 : decode b_St_takeShared 34 = .ok (.lload 5, 2) := by decide +kernel
theorem d_St_takeShared_36 : decode b_St_takeShared 36 = .ok (.lconst 0, 1) := by decide +kernel
theorem d_St_takeShared_37 : decode b_St_takeShared 37 = .ok (.lcmp, 1) := by decide +kernel
theorem d_St_takeShared_38 : decode b_St_takeShared 38 = .ok (.ifCond .eq 41, 3) := by decide +kernel
theorem d_St_takeShared_41 : decode b_St_takeShared 41 = .ok (.lload 5, 2) := by decide +kernel
theorem d_St_takeShared_43 : decode b_St_takeShared 43 = .ok (.lload 5, 2) := by decide +kernel
theorem d_St_takeShared_45 : decode b_St_takeShared 45 = .ok (.lneg, 1) := by decide +kernel
theorem d_St_takeShared_46 : decode b_St_takeShared 46 = .ok (.land, 1) := by decide +kernel
theorem d_St_takeShared_47 : decode b_St_takeShared 47 = .ok (.lstore 7, 2) := by decide +kernel
theorem d_St_takeShared_49 : decode b_St_takeShared 49 = .ok (.aload_n 0, 1) := by decide +kernel
theorem d_St_takeShared_50 : decode b_St_takeShared 50 = .ok (.getfield 11, 3) := by decide +kernel
theorem d_St_takeShared_53 : decode b_St_takeShared 53 = .ok (.iload_n 1, 1) := by decide +kernel
theorem d_St_takeShared_54 : decode b_St_takeShared 54 = .ok (.iconst 4, 1) := by decide +kernel
theorem d_St_takeShared_55 : decode b_St_takeShared 55 = .ok (.imul, 1) := by decide +kernel
theorem d_St_takeShared_56 : decode b_St_takeShared 56 = .ok (.iload 4, 2) := by decide +kernel
theorem d_St_takeShared_58 : decode b_St_takeShared 58 = .ok (.iadd, 1) := by decide +kernel
theorem d_St_takeShared_59 : decode b_St_takeShared 59 = .ok (.dup2, 1) := by decide +kernel
theorem d_St_takeShared_60 : decode b_St_takeShared 60 = .ok (.laload, 1) := by decide +kernel
theorem d_St_takeShared_61 : decode b_St_takeShared 61 = .ok (.lload 7, 2) := by decide +kernel
theorem d_St_takeShared_63 : decode b_St_takeShared 63 = .ok (.lxor, 1) := by decide +kernel
theorem d_St_takeShared_64 : decode b_St_takeShared 64 = .ok (.lastore, 1) := by decide +kernel
theorem d_St_takeShared_65 : decode b_St_takeShared 65 = .ok (.iload 4, 2) := by decide +kernel
theorem d_St_takeShared_67 : decode b_St_takeShared 67 = .ok (.bipush 64, 2) := by decide +kernel
theorem d_St_takeShared_69 : decode b_St_takeShared 69 = .ok (.imul, 1) := by decide +kernel
theorem d_St_takeShared_70 : decode b_St_takeShared 70 = .ok (.lload 7, 2) := by decide +kernel
theorem d_St_takeShared_72 : decode b_St_takeShared 72 = .ok (.lconst 1, 1) := by decide +kernel
theorem d_St_takeShared_73 : decode b_St_takeShared 73 = .ok (.lsub, 1) := by decide +kernel
theorem d_St_takeShared_74 : decode b_St_takeShared 74 = .ok (.invokestatic 29, 3) := by decide +kernel
theorem d_St_takeShared_77 : decode b_St_takeShared 77 = .ok (.iadd, 1) := by decide +kernel
theorem d_St_takeShared_78 : decode b_St_takeShared 78 = .ok (.ireturn, 1) := by decide +kernel
theorem d_St_takeShared_79 : decode b_St_takeShared 79 = .ok (.iinc 4 1, 3) := by decide +kernel
theorem d_St_takeShared_82 : decode b_St_takeShared 82 = .ok (.goto (-79), 3) := by decide +kernel
theorem d_St_takeShared_85 : decode b_St_takeShared 85 = .ok (.iconst (-1), 1) := by decide +kernel
theorem d_St_takeShared_86 : decode b_St_takeShared 86 = .ok (.ireturn, 1) := by decide +kernel
