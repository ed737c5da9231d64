theorem d_SL_begin_0 : decode b_SL_begin 0 = .ok (.iload_n 1, 1) := by decide +kernel
theorem d_SL_begin_1 : decode b_SL_begin 1 = .ok (.iconst 1, 1) := by decide +kernel
theorem d_SL_begin_2 : decode b_SL_begin 2 = .ok (.if_icmp .lt 9, 3) := by decide +kernel
theorem d_SL_begin_5 : decode b_SL_begin 5 = .ok (.iload_n 1, 1) := by decide +kernel
theorem d_SL_begin_6 : decode b_SL_begin 6 = .ok (.bipush 8, 2) := by decide +kernel
theorem d_SL_begin_8 : decode b_SL_begin 8 = .ok (.if_icmp .le 13, 3) := by decide +kernel
theorem d_SL_begin_11 : decode b_SL_begin 11 = .ok (.new 25, 3) := by decide +kernel
theorem d_SL_begin_14 : decode b_SL_begin 14 = .ok (.dup, 1) := by decide +kernel
theorem d_SL_begin_15 : decode b_SL_begin 15 = .ok (.ldc 27, 2) := by decide +kernel
theorem d_SL_begin_17 : decode b_SL_begin 17 = .ok (.invokespecial 29, 3) := by decide +kernel
theorem d_SL_begin_20 : decode b_SL_begin 20 = .ok (.athrow, 1) := by decide +kernel
theorem d_SL_begin_21 : decode b_SL_begin 21 = .ok (.aload_n 0, 1) := by decide +kernel
theorem d_SL_begin_22 : decode b_SL_begin 22 = .ok (.getfield 10, 3) := by decide +kernel
theorem d_SL_begin_25 : decode b_SL_begin 25 = .ok (.iload_n 1, 1) := by decide +kernel
theorem d_SL_begin_26 : decode b_SL_begin 26 = .ok (.invokevirtual 32, 3) := by decide +kernel
theorem d_SL_begin_29 : decode b_SL_begin 29 = .ok (.aload_n 0, 1) := by decide +kernel
theorem d_SL_begin_30 : decode b_SL_begin 30 = .ok (.getfield 21, 3) := by decide +kernel
theorem d_SL_begin_33 : decode b_SL_begin 33 = .ok (.invokevirtual 36, 3) := by decide +kernel
theorem d_SL_begin_36 : decode b_SL_begin 36 = .ok (.return_, 1) := by decide +kernel
theorem d_SL_count_0 : decode b_SL_count 0 = .ok (.aload_n 0, 1) := by decide +kernel
theorem d_SL_count_1 : decode b_SL_count 1 = .ok (.iload_n 1, 1) := by decide +kernel
theorem d_SL_count_2 : decode b_SL_count 2 = .ok (.invokevirtual 81, 3) := by decide +kernel
theorem d_SL_count_5 : decode b_SL_count 5 = .ok (.aload_n 0, 1) := by decide +kernel
theorem d_SL_count_6 : decode b_SL_count 6 = .ok (.getfield 21, 3) := by decide +kernel
theorem d_SL_count_9 : decode b_SL_count 9 = .ok (.iload_n 1, 1) := by decide +kernel
theorem d_SL_count_10 : decode b_SL_count 10 = .ok (.invokevirtual 87, 3) := by decide +kernel
theorem d_SL_count_13 : decode b_SL_count 13 = .ok (.aload_n 0, 1) := by decide +kernel
theorem d_SL_count_14 : decode b_SL_count 14 = .ok (.getfield 21, 3) := by decide +kernel
theorem d_SL_count_17 : decode b_SL_count 17 = .ok (.getfield 90, 3) := by decide +kernel
theorem d_SL_count_20 : decode b_SL_count 20 = .ok (.iload_n 1, 1) := by decide +kernel
theorem d_SL_count_21 : decode b_SL_count 21 = .ok (.invokevirtual 100, 3) := by decide +kernel
theorem d_SL_count_24 : decode b_SL_count 24 = .ok (.ireturn, 1) := by decide +kernel
theorem d_SL_first_0 : decode b_SL_first 0 = .ok (.aload_n 0, 1) := by decide +kernel
theorem d_SL_first_1 : decode b_SL_first 1 = .ok (.iload_n 1, 1) := by decide +kernel
theorem d_SL_first_2 : decode b_SL_first 2 = .ok (.invokevirtual 81, 3) := by decide +kernel
theorem d_SL_first_5 : decode b_SL_first 5 = .ok (.aload_n 0, 1) := by decide +kernel
theorem d_SL_first_6 : decode b_SL_first 6 = .ok (.iload_n 2, 1) := by decide +kernel
theorem d_SL_first_7 : decode b_SL_first 7 = .ok (.invokevirtual 84, 3) := by decide +kernel
theorem d_SL_first_10 : decode b_SL_first 10 = .ok (.aload_n 0, 1) := by decide +kernel
theorem d_SL_first_11 : decode b_SL_first 11 = .ok (.getfield 21, 3) := by decide +kernel
theorem d_SL_first_14 : decode b_SL_first 14 = .ok (.iload_n 1, 1) := by decide +kernel
theorem d_SL_first_15 : decode b_SL_first 15 = .ok (.invokevirtual 87, 3) := by decide +kernel
theorem d_SL_first_18 : decode b_SL_first 18 = .ok (.aload_n 0, 1) := by decide +kernel
theorem d_SL_first_19 : decode b_SL_first 19 = .ok (.getfield 21, 3) := by decide +kernel
theorem d_SL_first_22 : decode b_SL_first 22 = .ok (.getfield 90, 3) := by decide +kernel
theorem d_SL_first_25 : decode b_SL_first 25 = .ok (.iload_n 1, 1) := by decide +kernel
theorem d_SL_first_26 : decode b_SL_first 26 = .ok (.iload_n 2, 1) := by decide +kernel
theorem d_SL_first_27 : decode b_SL_first 27 = .ok (.invokevirtual 104, 3) := by decide +kernel
theorem d_SL_first_30 : decode b_SL_first 30 = .ok (.ireturn, 1) := by decide +kernel
theorem d_SL_formula_0 : decode b_SL_formula 0 = .ok (.iload_n 1, 1) := by decide +kernel
theorem d_SL_formula_1 : decode b_SL_formula 1 = .ok (.ifCond .lt 9, 3) := by decide +kernel
theorem d_SL_formula_4 : decode b_SL_formula 4 = .ok (.iload_n 1, 1) := by decide +kernel
theorem d_SL_formula_5 : decode b_SL_formula 5 = .ok (.bipush 7, 2) := by decide +kernel
theorem d_SL_formula_7 : decode b_SL_formula 7 = .ok (.if_icmp .le 13, 3) := by decide +kernel
theorem d_SL_formula_10 : decode b_SL_formula 10 = .ok (.new 25, 3) := by decide +kernel
theorem d_SL_formula_13 : decode b_SL_formula 13 = .ok (.dup, 1) := by decide +kernel
theorem d_SL_formula_14 : decode b_SL_formula 14 = .ok (.ldc 62, 2) := by decide +kernel
theorem d_SL_formula_16 : decode b_SL_formula 16 = .ok (.invokespecial 29, 3) := by decide +kernel
theorem d_SL_formula_19 : decode b_SL_formula 19 = .ok (.athrow, 1) := by decide +kernel
theorem d_SL_formula_20 : decode b_SL_formula 20 = .ok (.iload_n 1, 1) := by decide +kernel
theorem d_SL_formula_21 : decode b_SL_formula 21 = .ok (.ifCond .ne 12, 3) := by decide +kernel
theorem d_SL_formula_24 : decode b_SL_formula 24 = .ok (.aload_n 0, 1) := by decide +kernel
theorem d_SL_formula_25 : decode b_SL_formula 25 = .ok (.iload_n 2, 1) := by decide +kernel
theorem d_SL_formula_26 : decode b_SL_formula 26 = .ok (.iload_n 3, 1) := by decide +kernel
theorem d_SL_formula_27 : decode b_SL_formula 27 = .ok (.invokevirtual 39, 3) := by decide +kernel
theorem d_SL_formula_30 : decode b_SL_formula 30 = .ok (.goto 42, 3) := by decide +kernel
theorem d_SL_formula_33 : decode b_SL_formula 33 = .ok (.aload_n 0, 1) := by decide +kernel
theorem d_SL_formula_34 : decode b_SL_formula 34 = .ok (.getfield 21, 3) := by decide +kernel
theorem d_SL_formula_37 : decode b_SL_formula 37 = .ok (.iload_n 2, 1) := by decide +kernel
theorem d_SL_formula_38 : decode b_SL_formula 38 = .ok (.invokevirtual 64, 3) := by decide +kernel
theorem d_SL_formula_41 : decode b_SL_formula 41 = .ok (.ifCond .eq 21, 3) := by decide +kernel
theorem d_SL_formula_44 : decode b_SL_formula 44 = .ok (.iload_n 1, 1) := by decide +kernel
theorem d_SL_formula_45 : decode b_SL_formula 45 = .ok (.invokestatic 67, 3) := by decide +kernel
theorem d_SL_formula_48 : decode b_SL_formula 48 = .ok (.ifCond .eq 24, 3) := by decide +kernel
theorem d_SL_formula_51 : decode b_SL_formula 51 = .ok (.aload_n 0, 1) := by decide +kernel
theorem d_SL_formula_52 : decode b_SL_formula 52 = .ok (.getfield 21, 3) := by decide +kernel
theorem d_SL_formula_55 : decode b_SL_formula 55 = .ok (.iload_n 3, 1) := by decide +kernel
theorem d_SL_formula_56 : decode b_SL_formula 56 = .ok (.invokevirtual 64, 3) := by decide +kernel
theorem d_SL_formula_59 : decode b_SL_formula 59 = .ok (.ifCond .ne 13, 3) := by decide +kernel
theorem d_SL_formula_62 : decode b_SL_formula 62 = .ok (.new 25, 3) := by decide +kernel
theorem d_SL_formula_65 : decode b_SL_formula 65 = .ok (.dup, 1) := by decide +kernel
theorem d_SL_formula_66 : decode b_SL_formula 66 = .ok (.ldc 70, 2) := by decide +kernel
theorem d_SL_formula_68 : decode b_SL_formula 68 = .ok (.invokespecial 29, 3) := by decide +kernel
theorem d_SL_formula_71 : decode b_SL_formula 71 = .ok (.athrow, 1) := by decide +kernel
theorem d_SL_formula_72 : decode b_SL_formula 72 = .ok (.aload_n 0, 1) := by decide +kernel
theorem d_SL_formula_73 : decode b_SL_formula 73 = .ok (.getfield 21, 3) := by decide +kernel
theorem d_SL_formula_76 : decode b_SL_formula 76 = .ok (.getfield 72, 3) := by decide +kernel
theorem d_SL_formula_79 : decode b_SL_formula 79 = .ok (.bipush 60, 2) := by decide +kernel
theorem d_SL_formula_81 : decode b_SL_formula 81 = .ok (.if_icmp .lt 13, 3) := by decide +kernel
theorem d_SL_formula_84 : decode b_SL_formula 84 = .ok (.new 53, 3) := by decide +kernel
theorem d_SL_formula_87 : decode b_SL_formula 87 = .ok (.dup, 1) := by decide +kernel
theorem d_SL_formula_88 : decode b_SL_formula 88 = .ok (.ldc 75, 2) := by decide +kernel
theorem d_SL_formula_90 : decode b_SL_formula 90 = .ok (.invokespecial 57, 3) := by decide +kernel
theorem d_SL_formula_93 : decode b_SL_formula 93 = .ok (.athrow, 1) := by decide +kernel
theorem d_SL_formula_94 : decode b_SL_formula 94 = .ok (.aload_n 0, 1) := by decide +kernel
theorem d_SL_formula_95 : decode b_SL_formula 95 = .ok (.getfield 21, 3) := by decide +kernel
theorem d_SL_formula_98 : decode b_SL_formula 98 = .ok (.iload_n 1, 1) := by decide +kernel
theorem d_SL_formula_99 : decode b_SL_formula 99 = .ok (.iload_n 2, 1) := by decide +kernel
theorem d_SL_formula_100 : decode b_SL_formula 100 = .ok (.iload_n 3, 1) := by decide +kernel
theorem d_SL_formula_101 : decode b_SL_formula 101 = .ok (.invokevirtual 77, 3) := by decide +kernel
theorem d_SL_formula_104 : decode b_SL_formula 104 = .ok (.ireturn, 1) := by decide +kernel
theorem d_SL_hasTwoParts_0 : decode b_SL_hasTwoParts 0 = .ok (.iload_n 0, 1) := by decide +kernel
theorem d_SL_hasTwoParts_1 : decode b_SL_hasTwoParts 1 = .ok (.iconst 2, 1) := by decide +kernel
theorem d_SL_hasTwoParts_2 : decode b_SL_hasTwoParts 2 = .ok (.if_icmp .eq 19, 3) := by decide +kernel
theorem d_SL_hasTwoParts_5 : decode b_SL_hasTwoParts 5 = .ok (.iload_n 0, 1) := by decide +kernel
theorem d_SL_hasTwoParts_6 : decode b_SL_hasTwoParts 6 = .ok (.iconst 3, 1) := by decide +kernel
theorem d_SL_hasTwoParts_7 : decode b_SL_hasTwoParts 7 = .ok (.if_icmp .eq 14, 3) := by decide +kernel
theorem d_SL_hasTwoParts_10 : decode b_SL_hasTwoParts 10 = .ok (.iload_n 0, 1) := by decide +kernel
theorem d_SL_hasTwoParts_11 : decode b_SL_hasTwoParts 11 = .ok (.iconst 5, 1) := by decide +kernel
theorem d_SL_hasTwoParts_12 : decode b_SL_hasTwoParts 12 = .ok (.if_icmp .eq 9, 3) := by decide +kernel
theorem d_SL_hasTwoParts_15 : decode b_SL_hasTwoParts 15 = .ok (.iload_n 0, 1) := by decide +kernel
theorem d_SL_hasTwoParts_16 : decode b_SL_hasTwoParts 16 = .ok (.bipush 7, 2) := by decide +kernel
theorem d_SL_hasTwoParts_18 : decode b_SL_hasTwoParts 18 = .ok (.if_icmp .ne 7, 3) := by decide +kernel
theorem d_SL_hasTwoParts_21 : decode b_SL_hasTwoParts 21 = .ok (.iconst 1, 1) := by decide +kernel
theorem d_SL_hasTwoParts_22 : decode b_SL_hasTwoParts 22 = .ok (.goto 4, 3) := by decide +kernel
theorem d_SL_hasTwoParts_25 : decode b_SL_hasTwoParts 25 = .ok (.iconst 0, 1) := by decide +kernel
theorem d_SL_hasTwoParts_26 : decode b_SL_hasTwoParts 26 = .ok (.ireturn, 1) := by decide +kernel
theorem d_SL_holds_0 : decode b_SL_holds 0 = .ok (.aload_n 0, 1) := by decide +kernel
theorem d_SL_holds_1 : decode b_SL_holds 1 = .ok (.iload_n 1, 1) := by decide +kernel
theorem d_SL_holds_2 : decode b_SL_holds 2 = .ok (.invokevirtual 81, 3) := by decide +kernel
theorem d_SL_holds_5 : decode b_SL_holds 5 = .ok (.aload_n 0, 1) := by decide +kernel
theorem d_SL_holds_6 : decode b_SL_holds 6 = .ok (.iload_n 2, 1) := by decide +kernel
theorem d_SL_holds_7 : decode b_SL_holds 7 = .ok (.invokevirtual 84, 3) := by decide +kernel
theorem d_SL_holds_10 : decode b_SL_holds 10 = .ok (.aload_n 0, 1) := by decide +kernel
theorem d_SL_holds_11 : decode b_SL_holds 11 = .ok (.getfield 21, 3) := by decide +kernel
theorem d_SL_holds_14 : decode b_SL_holds 14 = .ok (.iload_n 1, 1) := by decide +kernel
theorem d_SL_holds_15 : decode b_SL_holds 15 = .ok (.invokevirtual 87, 3) := by decide +kernel
theorem d_SL_holds_18 : decode b_SL_holds 18 = .ok (.aload_n 0, 1) := by decide +kernel
theorem d_SL_holds_19 : decode b_SL_holds 19 = .ok (.getfield 21, 3) := by decide +kernel
theorem d_SL_holds_22 : decode b_SL_holds 22 = .ok (.getfield 90, 3) := by decide +kernel
theorem d_SL_holds_25 : decode b_SL_holds 25 = .ok (.iload_n 1, 1) := by decide +kernel
theorem d_SL_holds_26 : decode b_SL_holds 26 = .ok (.iload_n 2, 1) := by decide +kernel
theorem d_SL_holds_27 : decode b_SL_holds 27 = .ok (.invokevirtual 94, 3) := by decide +kernel
theorem d_SL_holds_30 : decode b_SL_holds 30 = .ok (.ireturn, 1) := by decide +kernel
theorem d_SL_init_0 : decode b_SL_init 0 = .ok (.aload_n 0, 1) := by decide +kernel
theorem d_SL_init_1 : decode b_SL_init 1 = .ok (.invokespecial 1, 3) := by decide +kernel
theorem d_SL_init_4 : decode b_SL_init 4 = .ok (.aload_n 0, 1) := by decide +kernel
theorem d_SL_init_5 : decode b_SL_init 5 = .ok (.new 7, 3) := by decide +kernel
theorem d_SL_init_8 : decode b_SL_init 8 = .ok (.dup, 1) := by decide +kernel
theorem d_SL_init_9 : decode b_SL_init 9 = .ok (.invokespecial 9, 3) := by decide +kernel
theorem d_SL_init_12 : decode b_SL_init 12 = .ok (.putfield 10, 3) := by decide +kernel
theorem d_SL_init_15 : decode b_SL_init 15 = .ok (.aload_n 0, 1) := by decide +kernel
theorem d_SL_init_16 : decode b_SL_init 16 = .ok (.new 16, 3) := by decide +kernel
theorem d_SL_init_19 : decode b_SL_init 19 = .ok (.dup, 1) := by decide +kernel
theorem d_SL_init_20 : decode b_SL_init 20 = .ok (.aload_n 0, 1) := by decide +kernel
theorem d_SL_init_21 : decode b_SL_init 21 = .ok (.getfield 10, 3) := by decide +kernel
theorem d_SL_init_24 : decode b_SL_init 24 = .ok (.invokespecial 18, 3) := by decide +kernel
theorem d_SL_init_27 : decode b_SL_init 27 = .ok (.putfield 21, 3) := by decide +kernel
theorem d_SL_init_30 : decode b_SL_init 30 = .ok (.return_, 1) := by decide +kernel
theorem d_SL_length_0 : decode b_SL_length 0 = .ok (.aload_n 0, 1) := by decide +kernel
theorem d_SL_length_1 : decode b_SL_length 1 = .ok (.iload_n 1, 1) := by decide +kernel
theorem d_SL_length_2 : decode b_SL_length 2 = .ok (.invokevirtual 81, 3) := by decide +kernel
theorem d_SL_length_5 : decode b_SL_length 5 = .ok (.aload_n 0, 1) := by decide +kernel
theorem d_SL_length_6 : decode b_SL_length 6 = .ok (.iload_n 2, 1) := by decide +kernel
theorem d_SL_length_7 : decode b_SL_length 7 = .ok (.invokevirtual 84, 3) := by decide +kernel
theorem d_SL_length_10 : decode b_SL_length 10 = .ok (.aload_n 0, 1) := by decide +kernel
theorem d_SL_length_11 : decode b_SL_length 11 = .ok (.iload_n 1, 1) := by decide +kernel
theorem d_SL_length_12 : decode b_SL_length 12 = .ok (.invokevirtual 108, 3) := by decide +kernel
theorem d_SL_length_15 : decode b_SL_length 15 = .ok (.aload_n 0, 1) := by decide +kernel
theorem d_SL_length_16 : decode b_SL_length 16 = .ok (.getfield 21, 3) := by decide +kernel
theorem d_SL_length_19 : decode b_SL_length 19 = .ok (.iload_n 1, 1) := by decide +kernel
theorem d_SL_length_20 : decode b_SL_length 20 = .ok (.invokevirtual 87, 3) := by decide +kernel
theorem d_SL_length_23 : decode b_SL_length 23 = .ok (.aload_n 0, 1) := by decide +kernel
theorem d_SL_length_24 : decode b_SL_length 24 = .ok (.getfield 21, 3) := by decide +kernel
theorem d_SL_length_27 : decode b_SL_length 27 = .ok (.iload_n 1, 1) := by decide +kernel
theorem d_SL_length_28 : decode b_SL_length 28 = .ok (.iload_n 2, 1) := by decide +kernel
theorem d_SL_length_29 : decode b_SL_length 29 = .ok (.invokevirtual 111, 3) := by decide +kernel
theorem d_SL_length_32 : decode b_SL_length 32 = .ok (.ireturn, 1) := by decide +kernel
theorem d_SL_requireFormula_0 : decode b_SL_requireFormula 0 = .ok (.aload_n 0, 1) := by decide +kernel
theorem d_SL_requireFormula_1 : decode b_SL_requireFormula 1 = .ok (.getfield 21, 3) := by decide +kernel
theorem d_SL_requireFormula_4 : decode b_SL_requireFormula 4 = .ok (.iload_n 1, 1) := by decide +kernel
theorem d_SL_requireFormula_5 : decode b_SL_requireFormula 5 = .ok (.invokevirtual 64, 3) := by decide +kernel
theorem d_SL_requireFormula_8 : decode b_SL_requireFormula 8 = .ok (.ifCond .ne 13, 3) := by decide +kernel
theorem d_SL_requireFormula_11 : decode b_SL_requireFormula 11 = .ok (.new 129, 3) := by decide +kernel
theorem d_SL_requireFormula_14 : decode b_SL_requireFormula 14 = .ok (.dup, 1) := by decide +kernel
theorem d_SL_requireFormula_15 : decode b_SL_requireFormula 15 = .ok (.ldc 131, 2) := by decide +kernel
theorem d_SL_requireFormula_17 : decode b_SL_requireFormula 17 = .ok (.invokespecial 133, 3) := by decide +kernel
theorem d_SL_requireFormula_20 : decode b_SL_requireFormula 20 = .ok (.athrow, 1) := by decide +kernel
theorem d_SL_requireFormula_21 : decode b_SL_requireFormula 21 = .ok (.return_, 1) := by decide +kernel
theorem d_SL_requirePattern_0 : decode b_SL_requirePattern 0 = .ok (.aload_n 0, 1) := by decide +kernel
theorem d_SL_requirePattern_1 : decode b_SL_requirePattern 1 = .ok (.getfield 10, 3) := by decide +kernel
theorem d_SL_requirePattern_4 : decode b_SL_requirePattern 4 = .ok (.iload_n 1, 1) := by decide +kernel
theorem d_SL_requirePattern_5 : decode b_SL_requirePattern 5 = .ok (.invokevirtual 43, 3) := by decide +kernel
theorem d_SL_requirePattern_8 : decode b_SL_requirePattern 8 = .ok (.ifCond .eq 14, 3) := by decide +kernel
theorem d_SL_requirePattern_11 : decode b_SL_requirePattern 11 = .ok (.aload_n 0, 1) := by decide +kernel
theorem d_SL_requirePattern_12 : decode b_SL_requirePattern 12 = .ok (.getfield 10, 3) := by decide +kernel
theorem d_SL_requirePattern_15 : decode b_SL_requirePattern 15 = .ok (.iload_n 2, 1) := by decide +kernel
theorem d_SL_requirePattern_16 : decode b_SL_requirePattern 16 = .ok (.invokevirtual 43, 3) := by decide +kernel
theorem d_SL_requirePattern_19 : decode b_SL_requirePattern 19 = .ok (.ifCond .ne 13, 3) := by decide +kernel
theorem d_SL_requirePattern_22 : decode b_SL_requirePattern 22 = .ok (.new 25, 3) := by decide +kernel
theorem d_SL_requirePattern_25 : decode b_SL_requirePattern 25 = .ok (.dup, 1) := by decide +kernel
theorem d_SL_requirePattern_26 : decode b_SL_requirePattern 26 = .ok (.ldc 125, 2) := by decide +kernel
theorem d_SL_requirePattern_28 : decode b_SL_requirePattern 28 = .ok (.invokespecial 29, 3) := by decide +kernel
theorem d_SL_requirePattern_31 : decode b_SL_requirePattern 31 = .ok (.athrow, 1) := by decide +kernel
theorem d_SL_requirePattern_32 : decode b_SL_requirePattern 32 = .ok (.iload_n 2, 1) := by decide +kernel
theorem d_SL_requirePattern_33 : decode b_SL_requirePattern 33 = .ok (.iload_n 1, 1) := by decide +kernel
theorem d_SL_requirePattern_34 : decode b_SL_requirePattern 34 = .ok (.iconst (-1), 1) := by decide +kernel
theorem d_SL_requirePattern_35 : decode b_SL_requirePattern 35 = .ok (.ixor, 1) := by decide +kernel
theorem d_SL_requirePattern_36 : decode b_SL_requirePattern 36 = .ok (.iand, 1) := by decide +kernel
theorem d_SL_requirePattern_37 : decode b_SL_requirePattern 37 = .ok (.ifCond .eq 13, 3) := by decide +kernel
theorem d_SL_requirePattern_40 : decode b_SL_requirePattern 40 = .ok (.new 25, 3) := by decide +kernel
theorem d_SL_requirePattern_43 : decode b_SL_requirePattern 43 = .ok (.dup, 1) := by decide +kernel
theorem d_SL_requirePattern_44 : decode b_SL_requirePattern 44 = .ok (.ldc 127, 2) := by decide +kernel
theorem d_SL_requirePattern_46 : decode b_SL_requirePattern 46 = .ok (.invokespecial 29, 3) := by decide +kernel
theorem d_SL_requirePattern_49 : decode b_SL_requirePattern 49 = .ok (.athrow, 1) := by decide +kernel
theorem d_SL_requirePattern_50 : decode b_SL_requirePattern 50 = .ok (.return_, 1) := by decide +kernel
theorem d_SL_requireState_0 : decode b_SL_requireState 0 = .ok (.aload_n 0, 1) := by decide +kernel
theorem d_SL_requireState_1 : decode b_SL_requireState 1 = .ok (.getfield 10, 3) := by decide +kernel
theorem d_SL_requireState_4 : decode b_SL_requireState 4 = .ok (.iload_n 1, 1) := by decide +kernel
theorem d_SL_requireState_5 : decode b_SL_requireState 5 = .ok (.invokevirtual 43, 3) := by decide +kernel
theorem d_SL_requireState_8 : decode b_SL_requireState 8 = .ok (.ifCond .ne 13, 3) := by decide +kernel
theorem d_SL_requireState_11 : decode b_SL_requireState 11 = .ok (.new 129, 3) := by decide +kernel
theorem d_SL_requireState_14 : decode b_SL_requireState 14 = .ok (.dup, 1) := by decide +kernel
theorem d_SL_requireState_15 : decode b_SL_requireState 15 = .ok (.ldc 134, 2) := by decide +kernel
theorem d_SL_requireState_17 : decode b_SL_requireState 17 = .ok (.invokespecial 133, 3) := by decide +kernel
theorem d_SL_requireState_20 : decode b_SL_requireState 20 = .ok (.athrow, 1) := by decide +kernel
theorem d_SL_requireState_21 : decode b_SL_requireState 21 = .ok (.return_, 1) := by decide +kernel
theorem d_SL_requireUntil_0 : decode b_SL_requireUntil 0 = .ok (.aload_n 0, 1) := by decide +kernel
theorem d_SL_requireUntil_1 : decode b_SL_requireUntil 1 = .ok (.getfield 21, 3) := by decide +kernel
theorem d_SL_requireUntil_4 : decode b_SL_requireUntil 4 = .ok (.getfield 136, 3) := by decide +kernel
theorem d_SL_requireUntil_7 : decode b_SL_requireUntil 7 = .ok (.iload_n 1, 1) := by decide +kernel
theorem d_SL_requireUntil_8 : decode b_SL_requireUntil 8 = .ok (.iaload, 1) := by decide +kernel
theorem d_SL_requireUntil_9 : decode b_SL_requireUntil 9 = .ok (.iconst 5, 1) := by decide +kernel
theorem d_SL_requireUntil_10 : decode b_SL_requireUntil 10 = .ok (.if_icmp .eq 13, 3) := by decide +kernel
theorem d_SL_requireUntil_13 : decode b_SL_requireUntil 13 = .ok (.new 25, 3) := by decide +kernel
theorem d_SL_requireUntil_16 : decode b_SL_requireUntil 16 = .ok (.dup, 1) := by decide +kernel
theorem d_SL_requireUntil_17 : decode b_SL_requireUntil 17 = .ok (.ldc 140, 2) := by decide +kernel
theorem d_SL_requireUntil_19 : decode b_SL_requireUntil 19 = .ok (.invokespecial 29, 3) := by decide +kernel
theorem d_SL_requireUntil_22 : decode b_SL_requireUntil 22 = .ok (.athrow, 1) := by decide +kernel
theorem d_SL_requireUntil_23 : decode b_SL_requireUntil 23 = .ok (.return_, 1) := by decide +kernel
theorem d_SL_rule_0 : decode b_SL_rule 0 = .ok (.aload_n 0, 1) := by decide +kernel
theorem d_SL_rule_1 : decode b_SL_rule 1 = .ok (.iload_n 1, 1) := by decide +kernel
theorem d_SL_rule_2 : decode b_SL_rule 2 = .ok (.iload_n 2, 1) := by decide +kernel
theorem d_SL_rule_3 : decode b_SL_rule 3 = .ok (.invokevirtual 39, 3) := by decide +kernel
theorem d_SL_rule_6 : decode b_SL_rule 6 = .ok (.aload_n 0, 1) := by decide +kernel
theorem d_SL_rule_7 : decode b_SL_rule 7 = .ok (.getfield 10, 3) := by decide +kernel
theorem d_SL_rule_10 : decode b_SL_rule 10 = .ok (.iload_n 3, 1) := by decide +kernel
theorem d_SL_rule_11 : decode b_SL_rule 11 = .ok (.invokevirtual 43, 3) := by decide +kernel
theorem d_SL_rule_14 : decode b_SL_rule 14 = .ok (.ifCond .eq 15, 3) := by decide +kernel
theorem d_SL_rule_17 : decode b_SL_rule 17 = .ok (.aload_n 0, 1) := by decide +kernel
theorem d_SL_rule_18 : decode b_SL_rule 18 = .ok (.getfield 10, 3) := by decide +kernel
theorem d_SL_rule_21 : decode b_SL_rule 21 = .ok (.iload 4, 2) := by decide +kernel
theorem d_SL_rule_23 : decode b_SL_rule 23 = .ok (.invokevirtual 43, 3) := by decide +kernel
theorem d_SL_rule_26 : decode b_SL_rule 26 = .ok (.ifCond .ne 13, 3) := by decide +kernel
theorem d_SL_rule_29 : decode b_SL_rule 29 = .ok (.new 25, 3) := by decide +kernel
theorem d_SL_rule_32 : decode b_SL_rule 32 = .ok (.dup, 1) := by decide +kernel
theorem d_SL_rule_33 : decode b_SL_rule 33 = .ok (.ldc 47, 2) := by decide +kernel
theorem d_SL_rule_35 : decode b_SL_rule 35 = .ok (.invokespecial 29, 3) := by decide +kernel
theorem d_SL_rule_38 : decode b_SL_rule 38 = .ok (.athrow, 1) := by decide +kernel
theorem d_SL_rule_39 : decode b_SL_rule 39 = .ok (.aload_n 0, 1) := by decide +kernel
theorem d_SL_rule_40 : decode b_SL_rule 40 = .ok (.getfield 10, 3) := by decide +kernel
theorem d_SL_rule_43 : decode b_SL_rule 43 = .ok (.getfield 49, 3) := by decide +kernel
theorem d_SL_rule_46 : decode b_SL_rule 46 = .ok (.bipush 40, 2) := by decide +kernel
theorem d_SL_rule_48 : decode b_SL_rule 48 = .ok (.if_icmp .lt 13, 3) := by decide +kernel
theorem d_SL_rule_51 : decode b_SL_rule 51 = .ok (.new 53, 3) := by decide +kernel
theorem d_SL_rule_54 : decode b_SL_rule 54 = .ok (.dup, 1) := by decide +kernel
theorem d_SL_rule_55 : decode b_SL_rule 55 = .ok (.ldc 55, 2) := by decide +kernel
theorem d_SL_rule_57 : decode b_SL_rule 57 = .ok (.invokespecial 57, 3) := by decide +kernel
theorem d_SL_rule_60 : decode b_SL_rule 60 = .ok (.athrow, 1) := by decide +kernel
theorem d_SL_rule_61 : decode b_SL_rule 61 = .ok (.aload_n 0, 1) := by decide +kernel
theorem d_SL_rule_62 : decode b_SL_rule 62 = .ok (.getfield 10, 3) := by decide +kernel
theorem d_SL_rule_65 : decode b_SL_rule 65 = .ok (.iload_n 1, 1) := by decide +kernel
theorem d_SL_rule_66 : decode b_SL_rule 66 = .ok (.iload_n 2, 1) := by decide +kernel
theorem d_SL_rule_67 : decode b_SL_rule 67 = .ok (.iload_n 3, 1) := by decide +kernel
theorem d_SL_rule_68 : decode b_SL_rule 68 = .ok (.iload 4, 2) := by decide +kernel
theorem d_SL_rule_70 : decode b_SL_rule 70 = .ok (.invokevirtual 58, 3) := by decide +kernel
theorem d_SL_rule_73 : decode b_SL_rule 73 = .ok (.ireturn, 1) := by decide +kernel
theorem d_SL_ways_0 : decode b_SL_ways 0 = .ok (.aload_n 0, 1) := by decide +kernel
theorem d_SL_ways_1 : decode b_SL_ways 1 = .ok (.iload_n 1, 1) := by decide +kernel
theorem d_SL_ways_2 : decode b_SL_ways 2 = .ok (.invokevirtual 84, 3) := by decide +kernel
theorem d_SL_ways_5 : decode b_SL_ways 5 = .ok (.aload_n 0, 1) := by decide +kernel
theorem d_SL_ways_6 : decode b_SL_ways 6 = .ok (.getfield 10, 3) := by decide +kernel
theorem d_SL_ways_9 : decode b_SL_ways 9 = .ok (.getfield 122, 3) := by decide +kernel
theorem d_SL_ways_12 : decode b_SL_ways 12 = .ok (.iload_n 1, 1) := by decide +kernel
theorem d_SL_ways_13 : decode b_SL_ways 13 = .ok (.invokevirtual 100, 3) := by decide +kernel
theorem d_SL_ways_16 : decode b_SL_ways 16 = .ok (.ireturn, 1) := by decide +kernel
theorem d_SL_witness_0 : decode b_SL_witness 0 = .ok (.aload_n 0, 1) := by decide +kernel
theorem d_SL_witness_1 : decode b_SL_witness 1 = .ok (.iload_n 1, 1) := by decide +kernel
theorem d_SL_witness_2 : decode b_SL_witness 2 = .ok (.invokevirtual 81, 3) := by decide +kernel
theorem d_SL_witness_5 : decode b_SL_witness 5 = .ok (.aload_n 0, 1) := by decide +kernel
theorem d_SL_witness_6 : decode b_SL_witness 6 = .ok (.iload_n 2, 1) := by decide +kernel
theorem d_SL_witness_7 : decode b_SL_witness 7 = .ok (.invokevirtual 84, 3) := by decide +kernel
theorem d_SL_witness_10 : decode b_SL_witness 10 = .ok (.aload_n 0, 1) := by decide +kernel
theorem d_SL_witness_11 : decode b_SL_witness 11 = .ok (.iload_n 1, 1) := by decide +kernel
theorem d_SL_witness_12 : decode b_SL_witness 12 = .ok (.invokevirtual 108, 3) := by decide +kernel
theorem d_SL_witness_15 : decode b_SL_witness 15 = .ok (.aload_n 0, 1) := by decide +kernel
theorem d_SL_witness_16 : decode b_SL_witness 16 = .ok (.getfield 21, 3) := by decide +kernel
theorem d_SL_witness_19 : decode b_SL_witness 19 = .ok (.iload_n 1, 1) := by decide +kernel
theorem d_SL_witness_20 : decode b_SL_witness 20 = .ok (.invokevirtual 87, 3) := by decide +kernel
theorem d_SL_witness_23 : decode b_SL_witness 23 = .ok (.iload_n 3, 1) := by decide +kernel
theorem d_SL_witness_24 : decode b_SL_witness 24 = .ok (.ifCond .lt 16, 3) := by decide +kernel
theorem d_SL_witness_27 : decode b_SL_witness 27 = .ok (.iload_n 3, 1) := by decide +kernel
theorem d_SL_witness_28 : decode b_SL_witness 28 = .ok (.aload_n 0, 1) := by decide +kernel
theorem d_SL_witness_29 : decode b_SL_witness 29 = .ok (.getfield 21, 3) := by decide +kernel
theorem d_SL_witness_32 : decode b_SL_witness 32 = .ok (.iload_n 1, 1) := by decide +kernel
theorem d_SL_witness_33 : decode b_SL_witness 33 = .ok (.iload_n 2, 1) := by decide +kernel
theorem d_SL_witness_34 : decode b_SL_witness 34 = .ok (.invokevirtual 111, 3) := by decide +kernel
theorem d_SL_witness_37 : decode b_SL_witness 37 = .ok (.if_icmp .lt 13, 3) := by decide +kernel
theorem d_SL_witness_40 : decode b_SL_witness 40 = .ok (.new 114, 3) := by decide +kernel
theorem d_SL_witness_43 : decode b_SL_witness 43 = .ok (.dup, 1) := by decide +kernel
theorem d_SL_witness_44 : decode b_SL_witness 44 = .ok (.ldc 116, 2) := by decide +kernel
theorem d_SL_witness_46 : decode b_SL_witness 46 = .ok (.invokespecial 118, 3) := by decide +kernel
theorem d_SL_witness_49 : decode b_SL_witness 49 = .ok (.athrow, 1) := by decide +kernel
theorem d_SL_witness_50 : decode b_SL_witness 50 = .ok (.aload_n 0, 1) := by decide +kernel
theorem d_SL_witness_51 : decode b_SL_witness 51 = .ok (.getfield 21, 3) := by decide +kernel
theorem d_SL_witness_54 : decode b_SL_witness 54 = .ok (.iload_n 2, 1) := by decide +kernel
theorem d_SL_witness_55 : decode b_SL_witness 55 = .ok (.iload_n 3, 1) := by decide +kernel
theorem d_SL_witness_56 : decode b_SL_witness 56 = .ok (.invokevirtual 119, 3) := by decide +kernel
theorem d_SL_witness_59 : decode b_SL_witness 59 = .ok (.ireturn, 1) := by decide +kernel
