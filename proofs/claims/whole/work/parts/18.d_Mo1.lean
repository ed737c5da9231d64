theorem d_Mo_formula_146 : decode b_Mo_formula 146 = .ok (.getfield 51, 3) := by decide +kernel
theorem d_Mo_formula_149 : decode b_Mo_formula 149 = .ok (.iload 4, 2) := by decide +kernel
theorem d_Mo_formula_151 : decode b_Mo_formula 151 = .ok (.ifCond .ne 7, 3) := by decide +kernel
theorem d_Mo_formula_154 : decode b_Mo_formula 154 = .ok (.iload_n 1, 1) := by decide +kernel
theorem d_Mo_formula_155 : decode b_Mo_formula 155 = .ok (.ifCond .ne 7, 3) := by decide +kernel
theorem d_Mo_formula_158 : decode b_Mo_formula 158 = .ok (.iload_n 3, 1) := by decide +kernel
theorem d_Mo_formula_159 : decode b_Mo_formula 159 = .ok (.goto 4, 3) := by decide +kernel
theorem d_Mo_formula_162 : decode b_Mo_formula 162 = .ok (.iconst 0, 1) := by decide +kernel
theorem d_Mo_formula_163 : decode b_Mo_formula 163 = .ok (.iastore, 1) := by decide +kernel
theorem d_Mo_formula_164 : decode b_Mo_formula 164 = .ok (.aload_n 0, 1) := by decide +kernel
theorem d_Mo_formula_165 : decode b_Mo_formula 165 = .ok (.dup, 1) := by decide +kernel
theorem d_Mo_formula_166 : decode b_Mo_formula 166 = .ok (.getfield 51, 3) := by decide +kernel
theorem d_Mo_formula_169 : decode b_Mo_formula 169 = .ok (.iconst 1, 1) := by decide +kernel
theorem d_Mo_formula_170 : decode b_Mo_formula 170 = .ok (.iadd, 1) := by decide +kernel
theorem d_Mo_formula_171 : decode b_Mo_formula 171 = .ok (.putfield 51, 3) := by decide +kernel
theorem d_Mo_formula_174 : decode b_Mo_formula 174 = .ok (.aload_n 0, 1) := by decide +kernel
theorem d_Mo_formula_175 : decode b_Mo_formula 175 = .ok (.getfield 51, 3) := by decide +kernel
theorem d_Mo_formula_178 : decode b_Mo_formula 178 = .ok (.iconst 1, 1) := by decide +kernel
theorem d_Mo_formula_179 : decode b_Mo_formula 179 = .ok (.isub, 1) := by decide +kernel
theorem d_Mo_formula_180 : decode b_Mo_formula 180 = .ok (.ireturn, 1) := by decide +kernel
theorem d_Mo_goes_0 : decode b_Mo_goes 0 = .ok (.iload_n 1, 1) := by decide +kernel
theorem d_Mo_goes_1 : decode b_Mo_goes 1 = .ok (.aload_n 0, 1) := by decide +kernel
theorem d_Mo_goes_2 : decode b_Mo_goes 2 = .ok (.getfield 13, 3) := by decide +kernel
theorem d_Mo_goes_5 : decode b_Mo_goes 5 = .ok (.iload_n 2, 1) := by decide +kernel
theorem d_Mo_goes_6 : decode b_Mo_goes 6 = .ok (.iaload, 1) := by decide +kernel
theorem d_Mo_goes_7 : decode b_Mo_goes 7 = .ok (.iand, 1) := by decide +kernel
theorem d_Mo_goes_8 : decode b_Mo_goes 8 = .ok (.aload_n 0, 1) := by decide +kernel
theorem d_Mo_goes_9 : decode b_Mo_goes 9 = .ok (.getfield 17, 3) := by decide +kernel
theorem d_Mo_goes_12 : decode b_Mo_goes 12 = .ok (.iload_n 2, 1) := by decide +kernel
theorem d_Mo_goes_13 : decode b_Mo_goes 13 = .ok (.iaload, 1) := by decide +kernel
theorem d_Mo_goes_14 : decode b_Mo_goes 14 = .ok (.if_icmp .ne 21, 3) := by decide +kernel
theorem d_Mo_goes_17 : decode b_Mo_goes 17 = .ok (.iload_n 1, 1) := by decide +kernel
theorem d_Mo_goes_18 : decode b_Mo_goes 18 = .ok (.aload_n 0, 1) := by decide +kernel
theorem d_Mo_goes_19 : decode b_Mo_goes 19 = .ok (.getfield 20, 3) := by decide +kernel
theorem d_Mo_goes_22 : decode b_Mo_goes 22 = .ok (.iload_n 2, 1) := by decide +kernel
theorem d_Mo_goes_23 : decode b_Mo_goes 23 = .ok (.iaload, 1) := by decide +kernel
theorem d_Mo_goes_24 : decode b_Mo_goes 24 = .ok (.iand, 1) := by decide +kernel
theorem d_Mo_goes_25 : decode b_Mo_goes 25 = .ok (.aload_n 0, 1) := by decide +kernel
theorem d_Mo_goes_26 : decode b_Mo_goes 26 = .ok (.getfield 23, 3) := by decide +kernel
theorem d_Mo_goes_29 : decode b_Mo_goes 29 = .ok (.iload_n 2, 1) := by decide +kernel
theorem d_Mo_goes_30 : decode b_Mo_goes 30 = .ok (.iaload, 1) := by decide +kernel
theorem d_Mo_goes_31 : decode b_Mo_goes 31 = .ok (.ixor, 1) := by decide +kernel
theorem d_Mo_goes_32 : decode b_Mo_goes 32 = .ok (.goto 4, 3) := by decide +kernel
theorem d_Mo_goes_35 : decode b_Mo_goes 35 = .ok (.iconst (-1), 1) := by decide +kernel
theorem d_Mo_goes_36 : decode b_Mo_goes 36 = .ok (.ireturn, 1) := by decide +kernel
theorem d_Mo_goesInto_0 : decode b_Mo_goesInto 0 = .ok (.iconst 0, 1) := by decide +kernel
theorem d_Mo_goesInto_1 : decode b_Mo_goesInto 1 = .ok (.istore 4, 2) := by decide +kernel
theorem d_Mo_goesInto_3 : decode b_Mo_goesInto 3 = .ok (.iconst 0, 1) := by decide +kernel
theorem d_Mo_goesInto_4 : decode b_Mo_goesInto 4 = .ok (.istore 5, 2) := by decide +kernel
theorem d_Mo_goesInto_6 : decode b_Mo_goesInto 6 = .ok (.iload 5, 2) := by decide +kernel
theorem d_Mo_goesInto_8 : decode b_Mo_goesInto 8 = .ok (.aload_n 0, 1) := by decide +kernel
theorem d_Mo_goesInto_9 : decode b_Mo_goesInto 9 = .ok (.getfield 58, 3) := by decide +kernel
theorem d_Mo_goesInto_12 : decode b_Mo_goesInto 12 = .ok (.if_icmp .ge 44, 3) := by decide +kernel
theorem d_Mo_goesInto_15 : decode b_Mo_goesInto 15 = .ok (.iload 4, 2) := by decide +kernel
theorem d_Mo_goesInto_17 : decode b_Mo_goesInto 17 = .ok (.ifCond .ne 39, 3) := by decide +kernel
theorem d_Mo_goesInto_20 : decode b_Mo_goesInto 20 = .ok (.aload_n 0, 1) := by decide +kernel
theorem d_Mo_goesInto_21 : decode b_Mo_goesInto 21 = .ok (.iload_n 1, 1) := by decide +kernel
theorem d_Mo_goesInto_22 : decode b_Mo_goesInto 22 = .ok (.iload 5, 2) := by decide +kernel
theorem d_Mo_goesInto_24 : decode b_Mo_goesInto 24 = .ok (.invokevirtual 75, 3) := by decide +kernel
theorem d_Mo_goesInto_27 : decode b_Mo_goesInto 27 = .ok (.istore 6, 2) := by decide +kernel
theorem d_Mo_goesInto_29 : decode b_Mo_goesInto 29 = .ok (.iload 6, 2) := by decide +kernel
theorem d_Mo_goesInto_31 : decode b_Mo_goesInto 31 = .ok (.ifCond .lt 16, 3) := by decide +kernel
theorem d_Mo_goesInto_34 : decode b_Mo_goesInto 34 = .ok (.aload_n 2, 1) := by decide +kernel
theorem d_Mo_goesInto_35 : decode b_Mo_goesInto 35 = .ok (.iload_n 3, 1) := by decide +kernel
theorem d_Mo_goesInto_36 : decode b_Mo_goesInto 36 = .ok (.iload 6, 2) := by decide +kernel
theorem d_Mo_goesInto_38 : decode b_Mo_goesInto 38 = .ok (.iadd, 1) := by decide +kernel
theorem d_Mo_goesInto_39 : decode b_Mo_goesInto 39 = .ok (.baload, 1) := by decide +kernel
theorem d_Mo_goesInto_40 : decode b_Mo_goesInto 40 = .ok (.ifCond .eq 7, 3) := by decide +kernel
theorem d_Mo_goesInto_43 : decode b_Mo_goesInto 43 = .ok (.iconst 1, 1) := by decide +kernel
theorem d_Mo_goesInto_44 : decode b_Mo_goesInto 44 = .ok (.goto 4, 3) := by decide +kernel
theorem d_Mo_goesInto_47 : decode b_Mo_goesInto 47 = .ok (.iconst 0, 1) := by decide +kernel
theorem d_Mo_goesInto_48 : decode b_Mo_goesInto 48 = .ok (.istore 4, 2) := by decide +kernel
theorem d_Mo_goesInto_50 : decode b_Mo_goesInto 50 = .ok (.iinc 5 1, 3) := by decide +kernel
theorem d_Mo_goesInto_53 : decode b_Mo_goesInto 53 = .ok (.goto (-47), 3) := by decide +kernel
theorem d_Mo_goesInto_56 : decode b_Mo_goesInto 56 = .ok (.iload 4, 2) := by decide +kernel
theorem d_Mo_goesInto_58 : decode b_Mo_goesInto 58 = .ok (.ireturn, 1) := by decide +kernel
theorem d_Mo_has_0 : decode b_Mo_has 0 = .ok (.aload_n 0, 1) := by decide +kernel
theorem d_Mo_has_1 : decode b_Mo_has 1 = .ok (.getfield 35, 3) := by decide +kernel
theorem d_Mo_has_4 : decode b_Mo_has 4 = .ok (.sipush 256, 3) := by decide +kernel
theorem d_Mo_has_7 : decode b_Mo_has 7 = .ok (.iload_n 1, 1) := by decide +kernel
theorem d_Mo_has_8 : decode b_Mo_has 8 = .ok (.imul, 1) := by decide +kernel
theorem d_Mo_has_9 : decode b_Mo_has 9 = .ok (.iload_n 2, 1) := by decide +kernel
theorem d_Mo_has_10 : decode b_Mo_has 10 = .ok (.iadd, 1) := by decide +kernel
theorem d_Mo_has_11 : decode b_Mo_has 11 = .ok (.baload, 1) := by decide +kernel
theorem d_Mo_has_12 : decode b_Mo_has 12 = .ok (.ireturn, 1) := by decide +kernel
theorem d_Mo_holds_0 : decode b_Mo_holds 0 = .ok (.aload_n 0, 1) := by decide +kernel
theorem d_Mo_holds_1 : decode b_Mo_holds 1 = .ok (.aload_n 0, 1) := by decide +kernel
theorem d_Mo_holds_2 : decode b_Mo_holds 2 = .ok (.iload_n 1, 1) := by decide +kernel
theorem d_Mo_holds_3 : decode b_Mo_holds 3 = .ok (.invokevirtual 72, 3) := by decide +kernel
theorem d_Mo_holds_6 : decode b_Mo_holds 6 = .ok (.ifCond .eq 11, 3) := by decide +kernel
theorem d_Mo_holds_9 : decode b_Mo_holds 9 = .ok (.aload_n 0, 1) := by decide +kernel
theorem d_Mo_holds_10 : decode b_Mo_holds 10 = .ok (.iload_n 2, 1) := by decide +kernel
theorem d_Mo_holds_11 : decode b_Mo_holds 11 = .ok (.invokevirtual 64, 3) := by decide +kernel
theorem d_Mo_holds_14 : decode b_Mo_holds 14 = .ok (.ifCond .ne 7, 3) := by decide +kernel
theorem d_Mo_holds_17 : decode b_Mo_holds 17 = .ok (.iconst 1, 1) := by decide +kernel
theorem d_Mo_holds_18 : decode b_Mo_holds 18 = .ok (.goto 4, 3) := by decide +kernel
theorem d_Mo_holds_21 : decode b_Mo_holds 21 = .ok (.iconst 0, 1) := by decide +kernel
theorem d_Mo_holds_22 : decode b_Mo_holds 22 = .ok (.iconst 0, 1) := by decide +kernel
theorem d_Mo_holds_23 : decode b_Mo_holds 23 = .ok (.iconst 0, 1) := by decide +kernel
theorem d_Mo_holds_24 : decode b_Mo_holds 24 = .ok (.invokevirtual 54, 3) := by decide +kernel
theorem d_Mo_holds_27 : decode b_Mo_holds 27 = .ok (.ifCond .eq 5, 3) := by decide +kernel
theorem d_Mo_holds_30 : decode b_Mo_holds 30 = .ok (.iconst 0, 1) := by decide +kernel
theorem d_Mo_holds_31 : decode b_Mo_holds 31 = .ok (.ireturn, 1) := by decide +kernel
theorem d_Mo_holds_32 : decode b_Mo_holds 32 = .ok (.aload_n 0, 1) := by decide +kernel
theorem d_Mo_holds_33 : decode b_Mo_holds 33 = .ok (.iload_n 1, 1) := by decide +kernel
theorem d_Mo_holds_34 : decode b_Mo_holds 34 = .ok (.invokevirtual 104, 3) := by decide +kernel
theorem d_Mo_holds_37 : decode b_Mo_holds 37 = .ok (.aload_n 0, 1) := by decide +kernel
theorem d_Mo_holds_38 : decode b_Mo_holds 38 = .ok (.iload_n 1, 1) := by decide +kernel
theorem d_Mo_holds_39 : decode b_Mo_holds 39 = .ok (.iload_n 2, 1) := by decide +kernel
theorem d_Mo_holds_40 : decode b_Mo_holds 40 = .ok (.invokevirtual 79, 3) := by decide +kernel
theorem d_Mo_holds_43 : decode b_Mo_holds 43 = .ok (.ireturn, 1) := by decide +kernel
theorem d_Mo_init_0 : decode b_Mo_init 0 = .ok (.aload_n 0, 1) := by decide +kernel
theorem d_Mo_init_1 : decode b_Mo_init 1 = .ok (.invokespecial 1, 3) := by decide +kernel
theorem d_Mo_init_4 : decode b_Mo_init 4 = .ok (.aload_n 0, 1) := by decide +kernel
theorem d_Mo_init_5 : decode b_Mo_init 5 = .ok (.iconst 1, 1) := by decide +kernel
theorem d_Mo_init_6 : decode b_Mo_init 6 = .ok (.putfield 7, 3) := by decide +kernel
theorem d_Mo_init_9 : decode b_Mo_init 9 = .ok (.aload_n 0, 1) := by decide +kernel
theorem d_Mo_init_10 : decode b_Mo_init 10 = .ok (.bipush 40, 2) := by decide +kernel
theorem d_Mo_init_12 : decode b_Mo_init 12 = .ok (.newarray .int, 2) := by decide +kernel
theorem d_Mo_init_14 : decode b_Mo_init 14 = .ok (.putfield 13, 3) := by decide +kernel
theorem d_Mo_init_17 : decode b_Mo_init 17 = .ok (.aload_n 0, 1) := by decide +kernel
theorem d_Mo_init_18 : decode b_Mo_init 18 = .ok (.bipush 40, 2) := by decide +kernel
theorem d_Mo_init_20 : decode b_Mo_init 20 = .ok (.newarray .int, 2) := by decide +kernel
theorem d_Mo_init_22 : decode b_Mo_init 22 = .ok (.putfield 17, 3) := by decide +kernel
theorem d_Mo_init_25 : decode b_Mo_init 25 = .ok (.aload_n 0, 1) := by decide +kernel
theorem d_Mo_init_26 : decode b_Mo_init 26 = .ok (.bipush 40, 2) := by decide +kernel
theorem d_Mo_init_28 : decode b_Mo_init 28 = .ok (.newarray .int, 2) := by decide +kernel
theorem d_Mo_init_30 : decode b_Mo_init 30 = .ok (.putfield 20, 3) := by decide +kernel
theorem d_Mo_init_33 : decode b_Mo_init 33 = .ok (.aload_n 0, 1) := by decide +kernel
theorem d_Mo_init_34 : decode b_Mo_init 34 = .ok (.bipush 40, 2) := by decide +kernel
theorem d_Mo_init_36 : decode b_Mo_init 36 = .ok (.newarray .int, 2) := by decide +kernel
theorem d_Mo_init_38 : decode b_Mo_init 38 = .ok (.putfield 23, 3) := by decide +kernel
theorem d_Mo_init_41 : decode b_Mo_init 41 = .ok (.aload_n 0, 1) := by decide +kernel
theorem d_Mo_init_42 : decode b_Mo_init 42 = .ok (.bipush 60, 2) := by decide +kernel
theorem d_Mo_init_44 : decode b_Mo_init 44 = .ok (.newarray .int, 2) := by decide +kernel
theorem d_Mo_init_46 : decode b_Mo_init 46 = .ok (.putfield 26, 3) := by decide +kernel
theorem d_Mo_init_49 : decode b_Mo_init 49 = .ok (.aload_n 0, 1) := by decide +kernel
theorem d_Mo_init_50 : decode b_Mo_init 50 = .ok (.bipush 60, 2) := by decide +kernel
theorem d_Mo_init_52 : decode b_Mo_init 52 = .ok (.newarray .int, 2) := by decide +kernel
theorem d_Mo_init_54 : decode b_Mo_init 54 = .ok (.putfield 29, 3) := by decide +kernel
theorem d_Mo_init_57 : decode b_Mo_init 57 = .ok (.aload_n 0, 1) := by decide +kernel
theorem d_Mo_init_58 : decode b_Mo_init 58 = .ok (.bipush 60, 2) := by decide +kernel
theorem d_Mo_init_60 : decode b_Mo_init 60 = .ok (.newarray .int, 2) := by decide +kernel
theorem d_Mo_init_62 : decode b_Mo_init 62 = .ok (.putfield 32, 3) := by decide +kernel
theorem d_Mo_init_65 : decode b_Mo_init 65 = .ok (.aload_n 0, 1) := by decide +kernel
theorem d_Mo_init_66 : decode b_Mo_init 66 = .ok (.sipush 15360, 3) := by decide +kernel
theorem d_Mo_init_69 : decode b_Mo_init 69 = .ok (.newarray .boolean, 2) := by decide +kernel
theorem d_Mo_init_71 : decode b_Mo_init 71 = .ok (.putfield 35, 3) := by decide +kernel
theorem d_Mo_init_74 : decode b_Mo_init 74 = .ok (.aload_n 0, 1) := by decide +kernel
theorem d_Mo_init_75 : decode b_Mo_init 75 = .ok (.sipush 256, 3) := by decide +kernel
theorem d_Mo_init_78 : decode b_Mo_init 78 = .ok (.newarray .boolean, 2) := by decide +kernel
theorem d_Mo_init_80 : decode b_Mo_init 80 = .ok (.putfield 39, 3) := by decide +kernel
theorem d_Mo_init_83 : decode b_Mo_init 83 = .ok (.aload_n 0, 1) := by decide +kernel
theorem d_Mo_init_84 : decode b_Mo_init 84 = .ok (.sipush 256, 3) := by decide +kernel
theorem d_Mo_init_87 : decode b_Mo_init 87 = .ok (.newarray .boolean, 2) := by decide +kernel
theorem d_Mo_init_89 : decode b_Mo_init 89 = .ok (.putfield 42, 3) := by decide +kernel
theorem d_Mo_init_92 : decode b_Mo_init 92 = .ok (.aload_n 0, 1) := by decide +kernel
theorem d_Mo_init_93 : decode b_Mo_init 93 = .ok (.sipush 256, 3) := by decide +kernel
theorem d_Mo_init_96 : decode b_Mo_init 96 = .ok (.newarray .int, 2) := by decide +kernel
theorem d_Mo_init_98 : decode b_Mo_init 98 = .ok (.putfield 45, 3) := by decide +kernel
theorem d_Mo_init_101 : decode b_Mo_init 101 = .ok (.return_, 1) := by decide +kernel
theorem d_Mo_isFormula_0 : decode b_Mo_isFormula 0 = .ok (.iload_n 1, 1) := by decide +kernel
theorem d_Mo_isFormula_1 : decode b_Mo_isFormula 1 = .ok (.ifCond .lt 15, 3) := by decide +kernel
theorem d_Mo_isFormula_4 : decode b_Mo_isFormula 4 = .ok (.iload_n 1, 1) := by decide +kernel
theorem d_Mo_isFormula_5 : decode b_Mo_isFormula 5 = .ok (.aload_n 0, 1) := by decide +kernel
theorem d_Mo_isFormula_6 : decode b_Mo_isFormula 6 = .ok (.getfield 51, 3) := by decide +kernel
theorem d_Mo_isFormula_9 : decode b_Mo_isFormula 9 = .ok (.if_icmp .ge 7, 3) := by decide +kernel
theorem d_Mo_isFormula_12 : decode b_Mo_isFormula 12 = .ok (.iconst 1, 1) := by decide +kernel
theorem d_Mo_isFormula_13 : decode b_Mo_isFormula 13 = .ok (.goto 4, 3) := by decide +kernel
theorem d_Mo_isFormula_16 : decode b_Mo_isFormula 16 = .ok (.iconst 0, 1) := by decide +kernel
theorem d_Mo_isFormula_17 : decode b_Mo_isFormula 17 = .ok (.ireturn, 1) := by decide +kernel
theorem d_Mo_isState_0 : decode b_Mo_isState 0 = .ok (.iload_n 1, 1) := by decide +kernel
theorem d_Mo_isState_1 : decode b_Mo_isState 1 = .ok (.ifCond .lt 17, 3) := by decide +kernel
theorem d_Mo_isState_4 : decode b_Mo_isState 4 = .ok (.iload_n 1, 1) := by decide +kernel
theorem d_Mo_isState_5 : decode b_Mo_isState 5 = .ok (.iconst 1, 1) := by decide +kernel
theorem d_Mo_isState_6 : decode b_Mo_isState 6 = .ok (.aload_n 0, 1) := by decide +kernel
theorem d_Mo_isState_7 : decode b_Mo_isState 7 = .ok (.getfield 7, 3) := by decide +kernel
theorem d_Mo_isState_10 : decode b_Mo_isState 10 = .ok (.ishl, 1) := by decide +kernel
theorem d_Mo_isState_11 : decode b_Mo_isState 11 = .ok (.if_icmp .ge 7, 3) := by decide +kernel
theorem d_Mo_isState_14 : decode b_Mo_isState 14 = .ok (.iconst 1, 1) := by decide +kernel
theorem d_Mo_isState_15 : decode b_Mo_isState 15 = .ok (.goto 4, 3) := by decide +kernel
theorem d_Mo_isState_18 : decode b_Mo_isState 18 = .ok (.iconst 0, 1) := by decide +kernel
theorem d_Mo_isState_19 : decode b_Mo_isState 19 = .ok (.ireturn, 1) := by decide +kernel
theorem d_Mo_isTest_0 : decode b_Mo_isTest 0 = .ok (.aload_n 0, 1) := by decide +kernel
theorem d_Mo_isTest_1 : decode b_Mo_isTest 1 = .ok (.iload_n 1, 1) := by decide +kernel
theorem d_Mo_isTest_2 : decode b_Mo_isTest 2 = .ok (.invokevirtual 64, 3) := by decide +kernel
theorem d_Mo_isTest_5 : decode b_Mo_isTest 5 = .ok (.ifCond .eq 23, 3) := by decide +kernel
theorem d_Mo_isTest_8 : decode b_Mo_isTest 8 = .ok (.aload_n 0, 1) := by decide +kernel
theorem d_Mo_isTest_9 : decode b_Mo_isTest 9 = .ok (.iload_n 2, 1) := by decide +kernel
theorem d_Mo_isTest_10 : decode b_Mo_isTest 10 = .ok (.invokevirtual 64, 3) := by decide +kernel
theorem d_Mo_isTest_13 : decode b_Mo_isTest 13 = .ok (.ifCond .eq 15, 3) := by decide +kernel
theorem d_Mo_isTest_16 : decode b_Mo_isTest 16 = .ok (.iload_n 2, 1) := by decide +kernel
theorem d_Mo_isTest_17 : decode b_Mo_isTest 17 = .ok (.iload_n 1, 1) := by decide +kernel
theorem d_Mo_isTest_18 : decode b_Mo_isTest 18 = .ok (.iconst (-1), 1) := by decide +kernel
theorem d_Mo_isTest_19 : decode b_Mo_isTest 19 = .ok (.ixor, 1) := by decide +kernel
theorem d_Mo_isTest_20 : decode b_Mo_isTest 20 = .ok (.iand, 1) := by decide +kernel
theorem d_Mo_isTest_21 : decode b_Mo_isTest 21 = .ok (.ifCond .ne 7, 3) := by decide +kernel
theorem d_Mo_isTest_24 : decode b_Mo_isTest 24 = .ok (.iconst 1, 1) := by decide +kernel
theorem d_Mo_isTest_25 : decode b_Mo_isTest 25 = .ok (.goto 4, 3) := by decide +kernel
theorem d_Mo_isTest_28 : decode b_Mo_isTest 28 = .ok (.iconst 0, 1) := by decide +kernel
theorem d_Mo_isTest_29 : decode b_Mo_isTest 29 = .ok (.ireturn, 1) := by decide +kernel
theorem d_Mo_know_0 : decode b_Mo_know 0 = .ok (.aload_n 0, 1) := by decide +kernel
theorem d_Mo_know_1 : decode b_Mo_know 1 = .ok (.getfield 61, 3) := by decide +kernel
theorem d_Mo_know_4 : decode b_Mo_know 4 = .ok (.iload_n 1, 1) := by decide +kernel
theorem d_Mo_know_5 : decode b_Mo_know 5 = .ok (.if_icmp .gt 24, 3) := by decide +kernel
theorem d_Mo_know_8 : decode b_Mo_know 8 = .ok (.aload_n 0, 1) := by decide +kernel
theorem d_Mo_know_9 : decode b_Mo_know 9 = .ok (.aload_n 0, 1) := by decide +kernel
theorem d_Mo_know_10 : decode b_Mo_know 10 = .ok (.getfield 61, 3) := by decide +kernel
theorem d_Mo_know_13 : decode b_Mo_know 13 = .ok (.invokevirtual 101, 3) := by decide +kernel
theorem d_Mo_know_16 : decode b_Mo_know 16 = .ok (.aload_n 0, 1) := by decide +kernel
theorem d_Mo_know_17 : decode b_Mo_know 17 = .ok (.dup, 1) := by decide +kernel
theorem d_Mo_know_18 : decode b_Mo_know 18 = .ok (.getfield 61, 3) := by decide +kernel
theorem d_Mo_know_21 : decode b_Mo_know 21 = .ok (.iconst 1, 1) := by decide +kernel
theorem d_Mo_know_22 : decode b_Mo_know 22 = .ok (.iadd, 1) := by decide +kernel
theorem d_Mo_know_23 : decode b_Mo_know 23 = .ok (.putfield 61, 3) := by decide +kernel
theorem d_Mo_know_26 : decode b_Mo_know 26 = .ok (.goto (-26), 3) := by decide +kernel
theorem d_Mo_know_29 : decode b_Mo_know 29 = .ok (.return_, 1) := by decide +kernel
theorem d_Mo_length_0 : decode b_Mo_length 0 = .ok (.aload_n 0, 1) := by decide +kernel
theorem d_Mo_length_1 : decode b_Mo_length 1 = .ok (.iload_n 1, 1) := by decide +kernel
theorem d_Mo_length_2 : decode b_Mo_length 2 = .ok (.invokevirtual 72, 3) := by decide +kernel
theorem d_Mo_length_5 : decode b_Mo_length 5 = .ok (.ifCond .eq 15, 3) := by decide +kernel
theorem d_Mo_length_8 : decode b_Mo_length 8 = .ok (.aload_n 0, 1) := by decide +kernel
theorem d_Mo_length_9 : decode b_Mo_length 9 = .ok (.iload_n 2, 1) := by decide +kernel
theorem d_Mo_length_10 : decode b_Mo_length 10 = .ok (.invokevirtual 64, 3) := by decide +kernel
theorem d_Mo_length_13 : decode b_Mo_length 13 = .ok (.ifCond .eq 7, 3) := by decide +kernel
theorem d_Mo_length_16 : decode b_Mo_length 16 = .ok (.iconst 1, 1) := by decide +kernel
theorem d_Mo_length_17 : decode b_Mo_length 17 = .ok (.goto 4, 3) := by decide +kernel
theorem d_Mo_length_20 : decode b_Mo_length 20 = .ok (.iconst 0, 1) := by decide +kernel
theorem d_Mo_length_21 : decode b_Mo_length 21 = .ok (.istore_n 3, 1) := by decide +kernel
theorem d_Mo_length_22 : decode b_Mo_length 22 = .ok (.aload_n 0, 1) := by decide +kernel
theorem d_Mo_length_23 : decode b_Mo_length 23 = .ok (.iload_n 3, 1) := by decide +kernel
theorem d_Mo_length_24 : decode b_Mo_length 24 = .ok (.ifCond .ne 7, 3) := by decide +kernel
theorem d_Mo_length_27 : decode b_Mo_length 27 = .ok (.iconst 1, 1) := by decide +kernel
theorem d_Mo_length_28 : decode b_Mo_length 28 = .ok (.goto 4, 3) := by decide +kernel
theorem d_Mo_length_31 : decode b_Mo_length 31 = .ok (.iconst 0, 1) := by decide +kernel
theorem d_Mo_length_32 : decode b_Mo_length 32 = .ok (.iload_n 3, 1) := by decide +kernel
theorem d_Mo_length_33 : decode b_Mo_length 33 = .ok (.ifCond .eq 25, 3) := by decide +kernel
theorem d_Mo_length_36 : decode b_Mo_length 36 = .ok (.aload_n 0, 1) := by decide +kernel
theorem d_Mo_length_37 : decode b_Mo_length 37 = .ok (.getfield 26, 3) := by decide +kernel
theorem d_Mo_length_40 : decode b_Mo_length 40 = .ok (.iload_n 3, 1) := by decide +kernel
theorem d_Mo_length_41 : decode b_Mo_length 41 = .ok (.ifCond .eq 7, 3) := by decide +kernel
theorem d_Mo_length_44 : decode b_Mo_length 44 = .ok (.iload_n 1, 1) := by decide +kernel
theorem d_Mo_length_45 : decode b_Mo_length 45 = .ok (.goto 4, 3) := by decide +kernel
theorem d_Mo_length_48 : decode b_Mo_length 48 = .ok (.iconst 0, 1) := by decide +kernel
theorem d_Mo_length_49 : decode b_Mo_length 49 = .ok (.iaload, 1) := by decide +kernel
theorem d_Mo_length_50 : decode b_Mo_length 50 = .ok (.iconst 5, 1) := by decide +kernel
theorem d_Mo_length_51 : decode b_Mo_length 51 = .ok (.if_icmp .eq 7, 3) := by decide +kernel
theorem d_Mo_length_54 : decode b_Mo_length 54 = .ok (.iconst 1, 1) := by decide +kernel
theorem d_Mo_length_55 : decode b_Mo_length 55 = .ok (.goto 4, 3) := by decide +kernel
theorem d_Mo_length_58 : decode b_Mo_length 58 = .ok (.iconst 0, 1) := by decide +kernel
theorem d_Mo_length_59 : decode b_Mo_length 59 = .ok (.iconst 0, 1) := by decide +kernel
theorem d_Mo_length_60 : decode b_Mo_length 60 = .ok (.invokevirtual 54, 3) := by decide +kernel
theorem d_Mo_length_63 : decode b_Mo_length 63 = .ok (.ifCond .eq 5, 3) := by decide +kernel
theorem d_Mo_length_66 : decode b_Mo_length 66 = .ok (.iconst 0, 1) := by decide +kernel
theorem d_Mo_length_67 : decode b_Mo_length 67 = .ok (.ireturn, 1) := by decide +kernel
theorem d_Mo_length_68 : decode b_Mo_length 68 = .ok (.aload_n 0, 1) := by decide +kernel
theorem d_Mo_length_69 : decode b_Mo_length 69 = .ok (.iload_n 1, 1) := by decide +kernel
theorem d_Mo_length_70 : decode b_Mo_length 70 = .ok (.invokevirtual 107, 3) := by decide +kernel
theorem d_Mo_length_73 : decode b_Mo_length 73 = .ok (.aload_n 0, 1) := by decide +kernel
theorem d_Mo_length_74 : decode b_Mo_length 74 = .ok (.getfield 45, 3) := by decide +kernel
theorem d_Mo_length_77 : decode b_Mo_length 77 = .ok (.iload_n 2, 1) := by decide +kernel
theorem d_Mo_length_78 : decode b_Mo_length 78 = .ok (.iaload, 1) := by decide +kernel
theorem d_Mo_length_79 : decode b_Mo_length 79 = .ok (.sipush 1000, 3) := by decide +kernel
theorem d_Mo_length_82 : decode b_Mo_length 82 = .ok (.if_icmp .ne 7, 3) := by decide +kernel
theorem d_Mo_length_85 : decode b_Mo_length 85 = .ok (.iconst 0, 1) := by decide +kernel
theorem d_Mo_length_86 : decode b_Mo_length 86 = .ok (.goto 9, 3) := by decide +kernel
theorem d_Mo_length_89 : decode b_Mo_length 89 = .ok (.aload_n 0, 1) := by decide +kernel
theorem d_Mo_length_90 : decode b_Mo_length 90 = .ok (.getfield 45, 3) := by decide +kernel
theorem d_Mo_length_93 : decode b_Mo_length 93 = .ok (.iload_n 2, 1) := by decide +kernel
theorem d_Mo_length_94 : decode b_Mo_length 94 = .ok (.iaload, 1) := by decide +kernel
theorem d_Mo_length_95 : decode b_Mo_length 95 = .ok (.ireturn, 1) := by decide +kernel
theorem d_Mo_measure_0 : decode b_Mo_measure 0 = .ok (.aload_n 0, 1) := by decide +kernel
theorem d_Mo_measure_1 : decode b_Mo_measure 1 = .ok (.iload_n 1, 1) := by decide +kernel
theorem d_Mo_measure_2 : decode b_Mo_measure 2 = .ok (.invokevirtual 104, 3) := by decide +kernel
theorem d_Mo_measure_5 : decode b_Mo_measure 5 = .ok (.iconst 1, 1) := by decide +kernel
theorem d_Mo_measure_6 : decode b_Mo_measure 6 = .ok (.aload_n 0, 1) := by decide +kernel
theorem d_Mo_measure_7 : decode b_Mo_measure 7 = .ok (.getfield 7, 3) := by decide +kernel
theorem d_Mo_measure_10 : decode b_Mo_measure 10 = .ok (.ishl, 1) := by decide +kernel
theorem d_Mo_measure_11 : decode b_Mo_measure 11 = .ok (.istore_n 2, 1) := by decide +kernel
theorem d_Mo_measure_12 : decode b_Mo_measure 12 = .ok (.iconst 0, 1) := by decide +kernel
theorem d_Mo_measure_13 : decode b_Mo_measure 13 = .ok (.istore_n 3, 1) := by decide +kernel
theorem d_Mo_measure_14 : decode b_Mo_measure 14 = .ok (.iload_n 3, 1) := by decide +kernel
theorem d_Mo_measure_15 : decode b_Mo_measure 15 = .ok (.iload_n 2, 1) := by decide +kernel
theorem d_Mo_measure_16 : decode b_Mo_measure 16 = .ok (.if_icmp .ge 36, 3) := by decide +kernel
theorem d_Mo_measure_19 : decode b_Mo_measure 19 = .ok (.aload_n 0, 1) := by decide +kernel
theorem d_Mo_measure_20 : decode b_Mo_measure 20 = .ok (.getfield 45, 3) := by decide +kernel
theorem d_Mo_measure_23 : decode b_Mo_measure 23 = .ok (.iload_n 3, 1) := by decide +kernel
theorem d_Mo_measure_24 : decode b_Mo_measure 24 = .ok (.aload_n 0, 1) := by decide +kernel
theorem d_Mo_measure_25 : decode b_Mo_measure 25 = .ok (.aload_n 0, 1) := by decide +kernel
theorem d_Mo_measure_26 : decode b_Mo_measure 26 = .ok (.getfield 32, 3) := by decide +kernel
theorem d_Mo_measure_29 : decode b_Mo_measure 29 = .ok (.iload_n 1, 1) := by decide +kernel
theorem d_Mo_measure_30 : decode b_Mo_measure 30 = .ok (.iaload, 1) := by decide +kernel
theorem d_Mo_measure_31 : decode b_Mo_measure 31 = .ok (.iload_n 3, 1) := by decide +kernel
theorem d_Mo_measure_32 : decode b_Mo_measure 32 = .ok (.invokevirtual 79, 3) := by decide +kernel
theorem d_Mo_measure_35 : decode b_Mo_measure 35 = .ok (.ifCond .eq 7, 3) := by decide +kernel
theorem d_Mo_measure_38 : decode b_Mo_measure 38 = .ok (.iconst 1, 1) := by decide +kernel
theorem d_Mo_measure_39 : decode b_Mo_measure 39 = .ok (.goto 6, 3) := by decide +kernel
theorem d_Mo_measure_42 : decode b_Mo_measure 42 = .ok (.sipush 1000, 3) := by decide +kernel
theorem d_Mo_measure_45 : decode b_Mo_measure 45 = .ok (.iastore, 1) := by decide +kernel
theorem d_Mo_measure_46 : decode b_Mo_measure 46 = .ok (.iinc 3 1, 3) := by decide +kernel
theorem d_Mo_measure_49 : decode b_Mo_measure 49 = .ok (.goto (-35), 3) := by decide +kernel
theorem d_Mo_measure_52 : decode b_Mo_measure 52 = .ok (.iconst 1, 1) := by decide +kernel
theorem d_Mo_measure_53 : decode b_Mo_measure 53 = .ok (.istore_n 3, 1) := by decide +kernel
theorem d_Mo_measure_54 : decode b_Mo_measure 54 = .ok (.iload_n 3, 1) := by decide +kernel
theorem d_Mo_measure_55 : decode b_Mo_measure 55 = .ok (.iload_n 2, 1) := by decide +kernel
theorem d_Mo_measure_56 : decode b_Mo_measure 56 = .ok (.if_icmp .gt 112, 3) := by decide +kernel
theorem d_Mo_measure_59 : decode b_Mo_measure 59 = .ok (.iconst 0, 1) := by decide +kernel
theorem d_Mo_measure_60 : decode b_Mo_measure 60 = .ok (.istore 4, 2) := by decide +kernel
theorem d_Mo_measure_62 : decode b_Mo_measure 62 = .ok (.iload 4, 2) := by decide +kernel
theorem d_Mo_measure_64 : decode b_Mo_measure 64 = .ok (.iload_n 2, 1) := by decide +kernel
theorem d_Mo_measure_65 : decode b_Mo_measure 65 = .ok (.if_icmp .ge 97, 3) := by decide +kernel
theorem d_Mo_measure_68 : decode b_Mo_measure 68 = .ok (.iconst 0, 1) := by decide +kernel
theorem d_Mo_measure_69 : decode b_Mo_measure 69 = .ok (.istore 5, 2) := by decide +kernel
theorem d_Mo_measure_71 : decode b_Mo_measure 71 = .ok (.iload 5, 2) := by decide +kernel
theorem d_Mo_measure_73 : decode b_Mo_measure 73 = .ok (.aload_n 0, 1) := by decide +kernel
theorem d_Mo_measure_74 : decode b_Mo_measure 74 = .ok (.getfield 58, 3) := by decide +kernel
theorem d_Mo_measure_77 : decode b_Mo_measure 77 = .ok (.if_icmp .ge 79, 3) := by decide +kernel
theorem d_Mo_measure_80 : decode b_Mo_measure 80 = .ok (.aload_n 0, 1) := by decide +kernel
theorem d_Mo_measure_81 : decode b_Mo_measure 81 = .ok (.getfield 45, 3) := by decide +kernel
theorem d_Mo_measure_84 : decode b_Mo_measure 84 = .ok (.iload 4, 2) := by decide +kernel
theorem d_Mo_measure_86 : decode b_Mo_measure 86 = .ok (.iaload, 1) := by decide +kernel
theorem d_Mo_measure_87 : decode b_Mo_measure 87 = .ok (.sipush 1000, 3) := by decide +kernel
theorem d_Mo_measure_90 : decode b_Mo_measure 90 = .ok (.if_icmp .ne 66, 3) := by decide +kernel
theorem d_Mo_measure_93 : decode b_Mo_measure 93 = .ok (.aload_n 0, 1) := by decide +kernel
theorem d_Mo_measure_94 : decode b_Mo_measure 94 = .ok (.aload_n 0, 1) := by decide +kernel
theorem d_Mo_measure_95 : decode b_Mo_measure 95 = .ok (.getfield 29, 3) := by decide +kernel
theorem d_Mo_measure_98 : decode b_Mo_measure 98 = .ok (.iload_n 1, 1) := by decide +kernel
theorem d_Mo_measure_99 : decode b_Mo_measure 99 = .ok (.iaload, 1) := by decide +kernel
theorem d_Mo_measure_100 : decode b_Mo_measure 100 = .ok (.iload 4, 2) := by decide +kernel
theorem d_Mo_measure_102 : decode b_Mo_measure 102 = .ok (.invokevirtual 79, 3) := by decide +kernel
theorem d_Mo_measure_105 : decode b_Mo_measure 105 = .ok (.ifCond .eq 51, 3) := by decide +kernel
theorem d_Mo_measure_108 : decode b_Mo_measure 108 = .ok (.aload_n 0, 1) := by decide +kernel
theorem d_Mo_measure_109 : decode b_Mo_measure 109 = .ok (.iload 4, 2) := by decide +kernel
theorem d_Mo_measure_111 : decode b_Mo_measure 111 = .ok (.iload 5, 2) := by decide +kernel
theorem d_Mo_measure_113 : decode b_Mo_measure 113 = .ok (.invokevirtual 75, 3) := by decide +kernel
theorem d_Mo_measure_116 : decode b_Mo_measure 116 = .ok (.istore 6, 2) := by decide +kernel
theorem d_Mo_measure_118 : decode b_Mo_measure 118 = .ok (.aload_n 0, 1) := by decide +kernel
theorem d_Mo_measure_119 : decode b_Mo_measure 119 = .ok (.getfield 45, 3) := by decide +kernel
theorem d_Mo_measure_122 : decode b_Mo_measure 122 = .ok (.iload 4, 2) := by decide +kernel
theorem d_Mo_measure_124 : decode b_Mo_measure 124 = .ok (.iload 6, 2) := by decide +kernel
