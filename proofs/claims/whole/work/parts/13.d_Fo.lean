theorem d_Fo_addFormula_0 : decode b_Fo_addFormula 0 = .ok (.aload_n 0, 1) := by decide +kernel
theorem d_Fo_addFormula_1 : decode b_Fo_addFormula 1 = .ok (.getfield 27, 3) := by decide +kernel
theorem d_Fo_addFormula_4 : decode b_Fo_addFormula 4 = .ok (.aload_n 0, 1) := by decide +kernel
theorem d_Fo_addFormula_5 : decode b_Fo_addFormula 5 = .ok (.getfield 52, 3) := by decide +kernel
theorem d_Fo_addFormula_8 : decode b_Fo_addFormula 8 = .ok (.iload_n 1, 1) := by decide +kernel
theorem d_Fo_addFormula_9 : decode b_Fo_addFormula 9 = .ok (.iastore, 1) := by decide +kernel
theorem d_Fo_addFormula_10 : decode b_Fo_addFormula 10 = .ok (.aload_n 0, 1) := by decide +kernel
theorem d_Fo_addFormula_11 : decode b_Fo_addFormula 11 = .ok (.getfield 31, 3) := by decide +kernel
theorem d_Fo_addFormula_14 : decode b_Fo_addFormula 14 = .ok (.aload_n 0, 1) := by decide +kernel
theorem d_Fo_addFormula_15 : decode b_Fo_addFormula 15 = .ok (.getfield 52, 3) := by decide +kernel
theorem d_Fo_addFormula_18 : decode b_Fo_addFormula 18 = .ok (.iload_n 2, 1) := by decide +kernel
theorem d_Fo_addFormula_19 : decode b_Fo_addFormula 19 = .ok (.iastore, 1) := by decide +kernel
theorem d_Fo_addFormula_20 : decode b_Fo_addFormula 20 = .ok (.aload_n 0, 1) := by decide +kernel
theorem d_Fo_addFormula_21 : decode b_Fo_addFormula 21 = .ok (.getfield 34, 3) := by decide +kernel
theorem d_Fo_addFormula_24 : decode b_Fo_addFormula 24 = .ok (.aload_n 0, 1) := by decide +kernel
theorem d_Fo_addFormula_25 : decode b_Fo_addFormula 25 = .ok (.getfield 52, 3) := by decide +kernel
theorem d_Fo_addFormula_28 : decode b_Fo_addFormula 28 = .ok (.iload_n 1, 1) := by decide +kernel
theorem d_Fo_addFormula_29 : decode b_Fo_addFormula 29 = .ok (.ifCond .eq 10, 3) := by decide +kernel
theorem d_Fo_addFormula_32 : decode b_Fo_addFormula 32 = .ok (.iload_n 1, 1) := by decide +kernel
theorem d_Fo_addFormula_33 : decode b_Fo_addFormula 33 = .ok (.invokestatic 55, 3) := by decide +kernel
theorem d_Fo_addFormula_36 : decode b_Fo_addFormula 36 = .ok (.ifCond .eq 7, 3) := by decide +kernel
theorem d_Fo_addFormula_39 : decode b_Fo_addFormula 39 = .ok (.iload_n 3, 1) := by decide +kernel
theorem d_Fo_addFormula_40 : decode b_Fo_addFormula 40 = .ok (.goto 4, 3) := by decide +kernel
theorem d_Fo_addFormula_43 : decode b_Fo_addFormula 43 = .ok (.iload_n 2, 1) := by decide +kernel
theorem d_Fo_addFormula_44 : decode b_Fo_addFormula 44 = .ok (.iastore, 1) := by decide +kernel
theorem d_Fo_addFormula_45 : decode b_Fo_addFormula 45 = .ok (.aload_n 0, 1) := by decide +kernel
theorem d_Fo_addFormula_46 : decode b_Fo_addFormula 46 = .ok (.getfield 37, 3) := by decide +kernel
theorem d_Fo_addFormula_49 : decode b_Fo_addFormula 49 = .ok (.aload_n 0, 1) := by decide +kernel
theorem d_Fo_addFormula_50 : decode b_Fo_addFormula 50 = .ok (.getfield 52, 3) := by decide +kernel
theorem d_Fo_addFormula_53 : decode b_Fo_addFormula 53 = .ok (.iconst (-1), 1) := by decide +kernel
theorem d_Fo_addFormula_54 : decode b_Fo_addFormula 54 = .ok (.iastore, 1) := by decide +kernel
theorem d_Fo_addFormula_55 : decode b_Fo_addFormula 55 = .ok (.aload_n 0, 1) := by decide +kernel
theorem d_Fo_addFormula_56 : decode b_Fo_addFormula 56 = .ok (.dup, 1) := by decide +kernel
theorem d_Fo_addFormula_57 : decode b_Fo_addFormula 57 = .ok (.getfield 52, 3) := by decide +kernel
theorem d_Fo_addFormula_60 : decode b_Fo_addFormula 60 = .ok (.iconst 1, 1) := by decide +kernel
theorem d_Fo_addFormula_61 : decode b_Fo_addFormula 61 = .ok (.iadd, 1) := by decide +kernel
theorem d_Fo_addFormula_62 : decode b_Fo_addFormula 62 = .ok (.putfield 52, 3) := by decide +kernel
theorem d_Fo_addFormula_65 : decode b_Fo_addFormula 65 = .ok (.aload_n 0, 1) := by decide +kernel
theorem d_Fo_addFormula_66 : decode b_Fo_addFormula 66 = .ok (.getfield 52, 3) := by decide +kernel
theorem d_Fo_addFormula_69 : decode b_Fo_addFormula 69 = .ok (.iconst 1, 1) := by decide +kernel
theorem d_Fo_addFormula_70 : decode b_Fo_addFormula 70 = .ok (.isub, 1) := by decide +kernel
theorem d_Fo_addFormula_71 : decode b_Fo_addFormula 71 = .ok (.ireturn, 1) := by decide +kernel
theorem d_Fo_evaluate_0 : decode b_Fo_evaluate 0 = .ok (.aload_n 0, 1) := by decide +kernel
theorem d_Fo_evaluate_1 : decode b_Fo_evaluate 1 = .ok (.getfield 23, 3) := by decide +kernel
theorem d_Fo_evaluate_4 : decode b_Fo_evaluate 4 = .ok (.iload_n 1, 1) := by decide +kernel
theorem d_Fo_evaluate_5 : decode b_Fo_evaluate 5 = .ok (.invokevirtual 70, 3) := by decide +kernel
theorem d_Fo_evaluate_8 : decode b_Fo_evaluate 8 = .ok (.aload_n 0, 1) := by decide +kernel
theorem d_Fo_evaluate_9 : decode b_Fo_evaluate 9 = .ok (.getfield 27, 3) := by decide +kernel
theorem d_Fo_evaluate_12 : decode b_Fo_evaluate 12 = .ok (.iload_n 1, 1) := by decide +kernel
theorem d_Fo_evaluate_13 : decode b_Fo_evaluate 13 = .ok (.iaload, 1) := by decide +kernel
theorem d_Fo_evaluate_14 : decode b_Fo_evaluate 14 = .ok (.tableswitch 86 0 7 #[46, 54, 54, 54, 62, 70, 78, 78], 46) := by decide +kernel
theorem d_Fo_evaluate_60 : decode b_Fo_evaluate 60 = .ok (.aload_n 0, 1) := by decide +kernel
theorem d_Fo_evaluate_61 : decode b_Fo_evaluate 61 = .ok (.iload_n 1, 1) := by decide +kernel
theorem d_Fo_evaluate_62 : decode b_Fo_evaluate 62 = .ok (.invokevirtual 73, 3) := by decide +kernel
theorem d_Fo_evaluate_65 : decode b_Fo_evaluate 65 = .ok (.goto 35, 3) := by decide +kernel
theorem d_Fo_evaluate_68 : decode b_Fo_evaluate 68 = .ok (.aload_n 0, 1) := by decide +kernel
theorem d_Fo_evaluate_69 : decode b_Fo_evaluate 69 = .ok (.iload_n 1, 1) := by decide +kernel
theorem d_Fo_evaluate_70 : decode b_Fo_evaluate 70 = .ok (.invokevirtual 76, 3) := by decide +kernel
theorem d_Fo_evaluate_73 : decode b_Fo_evaluate 73 = .ok (.goto 27, 3) := by decide +kernel
theorem d_Fo_evaluate_76 : decode b_Fo_evaluate 76 = .ok (.aload_n 0, 1) := by decide +kernel
theorem d_Fo_evaluate_77 : decode b_Fo_evaluate 77 = .ok (.iload_n 1, 1) := by decide +kernel
theorem d_Fo_evaluate_78 : decode b_Fo_evaluate 78 = .ok (.invokevirtual 79, 3) := by decide +kernel
theorem d_Fo_evaluate_81 : decode b_Fo_evaluate 81 = .ok (.goto 19, 3) := by decide +kernel
theorem d_Fo_evaluate_84 : decode b_Fo_evaluate 84 = .ok (.aload_n 0, 1) := by decide +kernel
theorem d_Fo_evaluate_85 : decode b_Fo_evaluate 85 = .ok (.iload_n 1, 1) := by decide +kernel
theorem d_Fo_evaluate_86 : decode b_Fo_evaluate 86 = .ok (.invokevirtual 82, 3) := by decide +kernel
theorem d_Fo_evaluate_89 : decode b_Fo_evaluate 89 = .ok (.goto 11, 3) := by decide +kernel
theorem d_Fo_evaluate_92 : decode b_Fo_evaluate 92 = .ok (.aload_n 0, 1) := by decide +kernel
theorem d_Fo_evaluate_93 : decode b_Fo_evaluate 93 = .ok (.iload_n 1, 1) := by decide +kernel
theorem d_Fo_evaluate_94 : decode b_Fo_evaluate 94 = .ok (.invokevirtual 85, 3) := by decide +kernel
theorem d_Fo_evaluate_97 : decode b_Fo_evaluate 97 = .ok (.goto 3, 3) := by decide +kernel
theorem d_Fo_evaluate_100 : decode b_Fo_evaluate 100 = .ok (.return_, 1) := by decide +kernel
theorem d_Fo_evaluateAgain_0 : decode b_Fo_evaluateAgain 0 = .ok (.aload_n 0, 1) := by decide +kernel
theorem d_Fo_evaluateAgain_1 : decode b_Fo_evaluateAgain 1 = .ok (.iconst (-1), 1) := by decide +kernel
theorem d_Fo_evaluateAgain_2 : decode b_Fo_evaluateAgain 2 = .ok (.putfield 48, 3) := by decide +kernel
theorem d_Fo_evaluateAgain_5 : decode b_Fo_evaluateAgain 5 = .ok (.aload_n 0, 1) := by decide +kernel
theorem d_Fo_evaluateAgain_6 : decode b_Fo_evaluateAgain 6 = .ok (.getfield 12, 3) := by decide +kernel
theorem d_Fo_evaluateAgain_9 : decode b_Fo_evaluateAgain 9 = .ok (.aload_n 0, 1) := by decide +kernel
theorem d_Fo_evaluateAgain_10 : decode b_Fo_evaluateAgain 10 = .ok (.getfield 23, 3) := by decide +kernel
theorem d_Fo_evaluateAgain_13 : decode b_Fo_evaluateAgain 13 = .ok (.aload_n 0, 1) := by decide +kernel
theorem d_Fo_evaluateAgain_14 : decode b_Fo_evaluateAgain 14 = .ok (.getfield 31, 3) := by decide +kernel
theorem d_Fo_evaluateAgain_17 : decode b_Fo_evaluateAgain 17 = .ok (.iload_n 1, 1) := by decide +kernel
theorem d_Fo_evaluateAgain_18 : decode b_Fo_evaluateAgain 18 = .ok (.iaload, 1) := by decide +kernel
theorem d_Fo_evaluateAgain_19 : decode b_Fo_evaluateAgain 19 = .ok (.invokevirtual 111, 3) := by decide +kernel
theorem d_Fo_evaluateAgain_22 : decode b_Fo_evaluateAgain 22 = .ok (.aload_n 0, 1) := by decide +kernel
theorem d_Fo_evaluateAgain_23 : decode b_Fo_evaluateAgain 23 = .ok (.getfield 12, 3) := by decide +kernel
theorem d_Fo_evaluateAgain_26 : decode b_Fo_evaluateAgain 26 = .ok (.aload_n 0, 1) := by decide +kernel
theorem d_Fo_evaluateAgain_27 : decode b_Fo_evaluateAgain 27 = .ok (.getfield 44, 3) := by decide +kernel
theorem d_Fo_evaluateAgain_30 : decode b_Fo_evaluateAgain 30 = .ok (.getfield 131, 3) := by decide +kernel
theorem d_Fo_evaluateAgain_33 : decode b_Fo_evaluateAgain 33 = .ok (.aload_n 0, 1) := by decide +kernel
theorem d_Fo_evaluateAgain_34 : decode b_Fo_evaluateAgain 34 = .ok (.getfield 44, 3) := by decide +kernel
theorem d_Fo_evaluateAgain_37 : decode b_Fo_evaluateAgain 37 = .ok (.getfield 88, 3) := by decide +kernel
theorem d_Fo_evaluateAgain_40 : decode b_Fo_evaluateAgain 40 = .ok (.invokevirtual 147, 3) := by decide +kernel
theorem d_Fo_evaluateAgain_43 : decode b_Fo_evaluateAgain 43 = .ok (.istore_n 2, 1) := by decide +kernel
theorem d_Fo_evaluateAgain_44 : decode b_Fo_evaluateAgain 44 = .ok (.aload_n 0, 1) := by decide +kernel
theorem d_Fo_evaluateAgain_45 : decode b_Fo_evaluateAgain 45 = .ok (.getfield 12, 3) := by decide +kernel
theorem d_Fo_evaluateAgain_48 : decode b_Fo_evaluateAgain 48 = .ok (.aload_n 0, 1) := by decide +kernel
theorem d_Fo_evaluateAgain_49 : decode b_Fo_evaluateAgain 49 = .ok (.getfield 23, 3) := by decide +kernel
theorem d_Fo_evaluateAgain_52 : decode b_Fo_evaluateAgain 52 = .ok (.aload_n 0, 1) := by decide +kernel
theorem d_Fo_evaluateAgain_53 : decode b_Fo_evaluateAgain 53 = .ok (.getfield 31, 3) := by decide +kernel
theorem d_Fo_evaluateAgain_56 : decode b_Fo_evaluateAgain 56 = .ok (.iload_n 1, 1) := by decide +kernel
theorem d_Fo_evaluateAgain_57 : decode b_Fo_evaluateAgain 57 = .ok (.iaload, 1) := by decide +kernel
theorem d_Fo_evaluateAgain_58 : decode b_Fo_evaluateAgain 58 = .ok (.invokevirtual 111, 3) := by decide +kernel
theorem d_Fo_evaluateAgain_61 : decode b_Fo_evaluateAgain 61 = .ok (.iload_n 2, 1) := by decide +kernel
theorem d_Fo_evaluateAgain_62 : decode b_Fo_evaluateAgain 62 = .ok (.iconst 1, 1) := by decide +kernel
theorem d_Fo_evaluateAgain_63 : decode b_Fo_evaluateAgain 63 = .ok (.isub, 1) := by decide +kernel
theorem d_Fo_evaluateAgain_64 : decode b_Fo_evaluateAgain 64 = .ok (.istore_n 3, 1) := by decide +kernel
theorem d_Fo_evaluateAgain_65 : decode b_Fo_evaluateAgain 65 = .ok (.iload_n 3, 1) := by decide +kernel
theorem d_Fo_evaluateAgain_66 : decode b_Fo_evaluateAgain 66 = .ok (.ifCond .lt 88, 3) := by decide +kernel
theorem d_Fo_evaluateAgain_69 : decode b_Fo_evaluateAgain 69 = .ok (.aload_n 0, 1) := by decide +kernel
theorem d_Fo_evaluateAgain_70 : decode b_Fo_evaluateAgain 70 = .ok (.getfield 12, 3) := by decide +kernel
theorem d_Fo_evaluateAgain_73 : decode b_Fo_evaluateAgain 73 = .ok (.getfield 151, 3) := by decide +kernel
theorem d_Fo_evaluateAgain_76 : decode b_Fo_evaluateAgain 76 = .ok (.iload_n 3, 1) := by decide +kernel
theorem d_Fo_evaluateAgain_77 : decode b_Fo_evaluateAgain 77 = .ok (.iaload, 1) := by decide +kernel
theorem d_Fo_evaluateAgain_78 : decode b_Fo_evaluateAgain 78 = .ok (.istore 4, 2) := by decide +kernel
theorem d_Fo_evaluateAgain_80 : decode b_Fo_evaluateAgain 80 = .ok (.aload_n 0, 1) := by decide +kernel
theorem d_Fo_evaluateAgain_81 : decode b_Fo_evaluateAgain 81 = .ok (.getfield 12, 3) := by decide +kernel
theorem d_Fo_evaluateAgain_84 : decode b_Fo_evaluateAgain 84 = .ok (.getfield 122, 3) := by decide +kernel
theorem d_Fo_evaluateAgain_87 : decode b_Fo_evaluateAgain 87 = .ok (.iconst 0, 1) := by decide +kernel
theorem d_Fo_evaluateAgain_88 : decode b_Fo_evaluateAgain 88 = .ok (.iload 4, 2) := by decide +kernel
theorem d_Fo_evaluateAgain_90 : decode b_Fo_evaluateAgain 90 = .ok (.invokevirtual 118, 3) := by decide +kernel
theorem d_Fo_evaluateAgain_93 : decode b_Fo_evaluateAgain 93 = .ok (.ifCond .eq 55, 3) := by decide +kernel
theorem d_Fo_evaluateAgain_96 : decode b_Fo_evaluateAgain 96 = .ok (.aload_n 0, 1) := by decide +kernel
theorem d_Fo_evaluateAgain_97 : decode b_Fo_evaluateAgain 97 = .ok (.getfield 12, 3) := by decide +kernel
theorem d_Fo_evaluateAgain_100 : decode b_Fo_evaluateAgain 100 = .ok (.getfield 122, 3) := by decide +kernel
theorem d_Fo_evaluateAgain_103 : decode b_Fo_evaluateAgain 103 = .ok (.iconst 0, 1) := by decide +kernel
theorem d_Fo_evaluateAgain_104 : decode b_Fo_evaluateAgain 104 = .ok (.iload 4, 2) := by decide +kernel
theorem d_Fo_evaluateAgain_106 : decode b_Fo_evaluateAgain 106 = .ok (.invokevirtual 125, 3) := by decide +kernel
theorem d_Fo_evaluateAgain_109 : decode b_Fo_evaluateAgain 109 = .ok (.aload_n 0, 1) := by decide +kernel
theorem d_Fo_evaluateAgain_110 : decode b_Fo_evaluateAgain 110 = .ok (.getfield 12, 3) := by decide +kernel
theorem d_Fo_evaluateAgain_113 : decode b_Fo_evaluateAgain 113 = .ok (.iconst 0, 1) := by decide +kernel
theorem d_Fo_evaluateAgain_114 : decode b_Fo_evaluateAgain 114 = .ok (.putfield 141, 3) := by decide +kernel
theorem d_Fo_evaluateAgain_117 : decode b_Fo_evaluateAgain 117 = .ok (.aload_n 0, 1) := by decide +kernel
theorem d_Fo_evaluateAgain_118 : decode b_Fo_evaluateAgain 118 = .ok (.getfield 12, 3) := by decide +kernel
theorem d_Fo_evaluateAgain_121 : decode b_Fo_evaluateAgain 121 = .ok (.iload 4, 2) := by decide +kernel
theorem d_Fo_evaluateAgain_123 : decode b_Fo_evaluateAgain 123 = .ok (.iconst 0, 1) := by decide +kernel
theorem d_Fo_evaluateAgain_124 : decode b_Fo_evaluateAgain 124 = .ok (.invokevirtual 128, 3) := by decide +kernel
theorem d_Fo_evaluateAgain_127 : decode b_Fo_evaluateAgain 127 = .ok (.aload_n 0, 1) := by decide +kernel
theorem d_Fo_evaluateAgain_128 : decode b_Fo_evaluateAgain 128 = .ok (.getfield 12, 3) := by decide +kernel
theorem d_Fo_evaluateAgain_131 : decode b_Fo_evaluateAgain 131 = .ok (.aload_n 0, 1) := by decide +kernel
theorem d_Fo_evaluateAgain_132 : decode b_Fo_evaluateAgain 132 = .ok (.getfield 44, 3) := by decide +kernel
theorem d_Fo_evaluateAgain_135 : decode b_Fo_evaluateAgain 135 = .ok (.getfield 104, 3) := by decide +kernel
theorem d_Fo_evaluateAgain_138 : decode b_Fo_evaluateAgain 138 = .ok (.invokevirtual 134, 3) := by decide +kernel
theorem d_Fo_evaluateAgain_141 : decode b_Fo_evaluateAgain 141 = .ok (.aload_n 0, 1) := by decide +kernel
theorem d_Fo_evaluateAgain_142 : decode b_Fo_evaluateAgain 142 = .ok (.iload_n 1, 1) := by decide +kernel
theorem d_Fo_evaluateAgain_143 : decode b_Fo_evaluateAgain 143 = .ok (.iload 4, 2) := by decide +kernel
theorem d_Fo_evaluateAgain_145 : decode b_Fo_evaluateAgain 145 = .ok (.invokevirtual 154, 3) := by decide +kernel
theorem d_Fo_evaluateAgain_148 : decode b_Fo_evaluateAgain 148 = .ok (.iinc 3 (-1), 3) := by decide +kernel
theorem d_Fo_evaluateAgain_151 : decode b_Fo_evaluateAgain 151 = .ok (.goto (-86), 3) := by decide +kernel
theorem d_Fo_evaluateAgain_154 : decode b_Fo_evaluateAgain 154 = .ok (.return_, 1) := by decide +kernel
theorem d_Fo_evaluateAtom_0 : decode b_Fo_evaluateAtom 0 = .ok (.iconst 0, 1) := by decide +kernel
theorem d_Fo_evaluateAtom_1 : decode b_Fo_evaluateAtom 1 = .ok (.istore_n 2, 1) := by decide +kernel
theorem d_Fo_evaluateAtom_2 : decode b_Fo_evaluateAtom 2 = .ok (.iload_n 2, 1) := by decide +kernel
theorem d_Fo_evaluateAtom_3 : decode b_Fo_evaluateAtom 3 = .ok (.aload_n 0, 1) := by decide +kernel
theorem d_Fo_evaluateAtom_4 : decode b_Fo_evaluateAtom 4 = .ok (.getfield 44, 3) := by decide +kernel
theorem d_Fo_evaluateAtom_7 : decode b_Fo_evaluateAtom 7 = .ok (.getfield 88, 3) := by decide +kernel
theorem d_Fo_evaluateAtom_10 : decode b_Fo_evaluateAtom 10 = .ok (.if_icmp .ge 35, 3) := by decide +kernel
theorem d_Fo_evaluateAtom_13 : decode b_Fo_evaluateAtom 13 = .ok (.iload_n 2, 1) := by decide +kernel
theorem d_Fo_evaluateAtom_14 : decode b_Fo_evaluateAtom 14 = .ok (.aload_n 0, 1) := by decide +kernel
theorem d_Fo_evaluateAtom_15 : decode b_Fo_evaluateAtom 15 = .ok (.getfield 31, 3) := by decide +kernel
theorem d_Fo_evaluateAtom_18 : decode b_Fo_evaluateAtom 18 = .ok (.iload_n 1, 1) := by decide +kernel
theorem d_Fo_evaluateAtom_19 : decode b_Fo_evaluateAtom 19 = .ok (.iaload, 1) := by decide +kernel
theorem d_Fo_evaluateAtom_20 : decode b_Fo_evaluateAtom 20 = .ok (.iand, 1) := by decide +kernel
theorem d_Fo_evaluateAtom_21 : decode b_Fo_evaluateAtom 21 = .ok (.aload_n 0, 1) := by decide +kernel
theorem d_Fo_evaluateAtom_22 : decode b_Fo_evaluateAtom 22 = .ok (.getfield 34, 3) := by decide +kernel
theorem d_Fo_evaluateAtom_25 : decode b_Fo_evaluateAtom 25 = .ok (.iload_n 1, 1) := by decide +kernel
theorem d_Fo_evaluateAtom_26 : decode b_Fo_evaluateAtom 26 = .ok (.iaload, 1) := by decide +kernel
theorem d_Fo_evaluateAtom_27 : decode b_Fo_evaluateAtom 27 = .ok (.if_icmp .ne 12, 3) := by decide +kernel
theorem d_Fo_evaluateAtom_30 : decode b_Fo_evaluateAtom 30 = .ok (.aload_n 0, 1) := by decide +kernel
theorem d_Fo_evaluateAtom_31 : decode b_Fo_evaluateAtom 31 = .ok (.getfield 23, 3) := by decide +kernel
theorem d_Fo_evaluateAtom_34 : decode b_Fo_evaluateAtom 34 = .ok (.iload_n 1, 1) := by decide +kernel
theorem d_Fo_evaluateAtom_35 : decode b_Fo_evaluateAtom 35 = .ok (.iload_n 2, 1) := by decide +kernel
theorem d_Fo_evaluateAtom_36 : decode b_Fo_evaluateAtom 36 = .ok (.invokevirtual 91, 3) := by decide +kernel
theorem d_Fo_evaluateAtom_39 : decode b_Fo_evaluateAtom 39 = .ok (.iinc 2 1, 3) := by decide +kernel
theorem d_Fo_evaluateAtom_42 : decode b_Fo_evaluateAtom 42 = .ok (.goto (-40), 3) := by decide +kernel
theorem d_Fo_evaluateAtom_45 : decode b_Fo_evaluateAtom 45 = .ok (.return_, 1) := by decide +kernel
theorem d_Fo_evaluateNext_0 : decode b_Fo_evaluateNext 0 = .ok (.iconst 0, 1) := by decide +kernel
theorem d_Fo_evaluateNext_1 : decode b_Fo_evaluateNext 1 = .ok (.istore_n 2, 1) := by decide +kernel
theorem d_Fo_evaluateNext_2 : decode b_Fo_evaluateNext 2 = .ok (.iload_n 2, 1) := by decide +kernel
theorem d_Fo_evaluateNext_3 : decode b_Fo_evaluateNext 3 = .ok (.aload_n 0, 1) := by decide +kernel
theorem d_Fo_evaluateNext_4 : decode b_Fo_evaluateNext 4 = .ok (.getfield 44, 3) := by decide +kernel
theorem d_Fo_evaluateNext_7 : decode b_Fo_evaluateNext 7 = .ok (.getfield 88, 3) := by decide +kernel
theorem d_Fo_evaluateNext_10 : decode b_Fo_evaluateNext 10 = .ok (.if_icmp .ge 42, 3) := by decide +kernel
theorem d_Fo_evaluateNext_13 : decode b_Fo_evaluateNext 13 = .ok (.aload_n 0, 1) := by decide +kernel
theorem d_Fo_evaluateNext_14 : decode b_Fo_evaluateNext 14 = .ok (.getfield 44, 3) := by decide +kernel
theorem d_Fo_evaluateNext_17 : decode b_Fo_evaluateNext 17 = .ok (.getfield 104, 3) := by decide +kernel
theorem d_Fo_evaluateNext_20 : decode b_Fo_evaluateNext 20 = .ok (.iload_n 2, 1) := by decide +kernel
theorem d_Fo_evaluateNext_21 : decode b_Fo_evaluateNext 21 = .ok (.aload_n 0, 1) := by decide +kernel
theorem d_Fo_evaluateNext_22 : decode b_Fo_evaluateNext 22 = .ok (.getfield 23, 3) := by decide +kernel
theorem d_Fo_evaluateNext_25 : decode b_Fo_evaluateNext 25 = .ok (.aload_n 0, 1) := by decide +kernel
theorem d_Fo_evaluateNext_26 : decode b_Fo_evaluateNext 26 = .ok (.getfield 31, 3) := by decide +kernel
theorem d_Fo_evaluateNext_29 : decode b_Fo_evaluateNext 29 = .ok (.iload_n 1, 1) := by decide +kernel
theorem d_Fo_evaluateNext_30 : decode b_Fo_evaluateNext 30 = .ok (.iaload, 1) := by decide +kernel
theorem d_Fo_evaluateNext_31 : decode b_Fo_evaluateNext 31 = .ok (.invokevirtual 107, 3) := by decide +kernel
theorem d_Fo_evaluateNext_34 : decode b_Fo_evaluateNext 34 = .ok (.ifCond .eq 12, 3) := by decide +kernel
theorem d_Fo_evaluateNext_37 : decode b_Fo_evaluateNext 37 = .ok (.aload_n 0, 1) := by decide +kernel
theorem d_Fo_evaluateNext_38 : decode b_Fo_evaluateNext 38 = .ok (.getfield 23, 3) := by decide +kernel
theorem d_Fo_evaluateNext_41 : decode b_Fo_evaluateNext 41 = .ok (.iload_n 1, 1) := by decide +kernel
theorem d_Fo_evaluateNext_42 : decode b_Fo_evaluateNext 42 = .ok (.iload_n 2, 1) := by decide +kernel
theorem d_Fo_evaluateNext_43 : decode b_Fo_evaluateNext 43 = .ok (.invokevirtual 91, 3) := by decide +kernel
theorem d_Fo_evaluateNext_46 : decode b_Fo_evaluateNext 46 = .ok (.iinc 2 1, 3) := by decide +kernel
theorem d_Fo_evaluateNext_49 : decode b_Fo_evaluateNext 49 = .ok (.goto (-47), 3) := by decide +kernel
theorem d_Fo_evaluateNext_52 : decode b_Fo_evaluateNext 52 = .ok (.return_, 1) := by decide +kernel
theorem d_Fo_evaluateRing_0 : decode b_Fo_evaluateRing 0 = .ok (.iconst 0, 1) := by decide +kernel
theorem d_Fo_evaluateRing_1 : decode b_Fo_evaluateRing 1 = .ok (.istore_n 3, 1) := by decide +kernel
theorem d_Fo_evaluateRing_2 : decode b_Fo_evaluateRing 2 = .ok (.iconst 0, 1) := by decide +kernel
theorem d_Fo_evaluateRing_3 : decode b_Fo_evaluateRing 3 = .ok (.istore 4, 2) := by decide +kernel
theorem d_Fo_evaluateRing_5 : decode b_Fo_evaluateRing 5 = .ok (.iconst 0, 1) := by decide +kernel
theorem d_Fo_evaluateRing_6 : decode b_Fo_evaluateRing 6 = .ok (.istore 5, 2) := by decide +kernel
theorem d_Fo_evaluateRing_8 : decode b_Fo_evaluateRing 8 = .ok (.iload 5, 2) := by decide +kernel
theorem d_Fo_evaluateRing_10 : decode b_Fo_evaluateRing 10 = .ok (.aload_n 0, 1) := by decide +kernel
theorem d_Fo_evaluateRing_11 : decode b_Fo_evaluateRing 11 = .ok (.getfield 12, 3) := by decide +kernel
theorem d_Fo_evaluateRing_14 : decode b_Fo_evaluateRing 14 = .ok (.getfield 141, 3) := by decide +kernel
theorem d_Fo_evaluateRing_17 : decode b_Fo_evaluateRing 17 = .ok (.if_icmp .ge 81, 3) := by decide +kernel
theorem d_Fo_evaluateRing_20 : decode b_Fo_evaluateRing 20 = .ok (.aload_n 0, 1) := by decide +kernel
theorem d_Fo_evaluateRing_21 : decode b_Fo_evaluateRing 21 = .ok (.getfield 12, 3) := by decide +kernel
theorem d_Fo_evaluateRing_24 : decode b_Fo_evaluateRing 24 = .ok (.getfield 144, 3) := by decide +kernel
theorem d_Fo_evaluateRing_27 : decode b_Fo_evaluateRing 27 = .ok (.iload 5, 2) := by decide +kernel
theorem d_Fo_evaluateRing_29 : decode b_Fo_evaluateRing 29 = .ok (.iaload, 1) := by decide +kernel
theorem d_Fo_evaluateRing_30 : decode b_Fo_evaluateRing 30 = .ok (.istore 6, 2) := by decide +kernel
theorem d_Fo_evaluateRing_32 : decode b_Fo_evaluateRing 32 = .ok (.iload_n 3, 1) := by decide +kernel
theorem d_Fo_evaluateRing_33 : decode b_Fo_evaluateRing 33 = .ok (.ifCond .ne 23, 3) := by decide +kernel
theorem d_Fo_evaluateRing_36 : decode b_Fo_evaluateRing 36 = .ok (.aload_n 0, 1) := by decide +kernel
theorem d_Fo_evaluateRing_37 : decode b_Fo_evaluateRing 37 = .ok (.getfield 44, 3) := by decide +kernel
theorem d_Fo_evaluateRing_40 : decode b_Fo_evaluateRing 40 = .ok (.getfield 104, 3) := by decide +kernel
theorem d_Fo_evaluateRing_43 : decode b_Fo_evaluateRing 43 = .ok (.iload 6, 2) := by decide +kernel
theorem d_Fo_evaluateRing_45 : decode b_Fo_evaluateRing 45 = .ok (.aload_n 0, 1) := by decide +kernel
theorem d_Fo_evaluateRing_46 : decode b_Fo_evaluateRing 46 = .ok (.getfield 23, 3) := by decide +kernel
theorem d_Fo_evaluateRing_49 : decode b_Fo_evaluateRing 49 = .ok (.iload_n 1, 1) := by decide +kernel
theorem d_Fo_evaluateRing_50 : decode b_Fo_evaluateRing 50 = .ok (.invokevirtual 107, 3) := by decide +kernel
theorem d_Fo_evaluateRing_53 : decode b_Fo_evaluateRing 53 = .ok (.ifCond .eq 7, 3) := by decide +kernel
theorem d_Fo_evaluateRing_56 : decode b_Fo_evaluateRing 56 = .ok (.iconst 1, 1) := by decide +kernel
theorem d_Fo_evaluateRing_57 : decode b_Fo_evaluateRing 57 = .ok (.goto 4, 3) := by decide +kernel
theorem d_Fo_evaluateRing_60 : decode b_Fo_evaluateRing 60 = .ok (.iconst 0, 1) := by decide +kernel
theorem d_Fo_evaluateRing_61 : decode b_Fo_evaluateRing 61 = .ok (.istore_n 3, 1) := by decide +kernel
theorem d_Fo_evaluateRing_62 : decode b_Fo_evaluateRing 62 = .ok (.iload 4, 2) := by decide +kernel
theorem d_Fo_evaluateRing_64 : decode b_Fo_evaluateRing 64 = .ok (.ifCond .ne 21, 3) := by decide +kernel
theorem d_Fo_evaluateRing_67 : decode b_Fo_evaluateRing 67 = .ok (.aload_n 0, 1) := by decide +kernel
theorem d_Fo_evaluateRing_68 : decode b_Fo_evaluateRing 68 = .ok (.getfield 23, 3) := by decide +kernel
theorem d_Fo_evaluateRing_71 : decode b_Fo_evaluateRing 71 = .ok (.aload_n 0, 1) := by decide +kernel
theorem d_Fo_evaluateRing_72 : decode b_Fo_evaluateRing 72 = .ok (.getfield 34, 3) := by decide +kernel
theorem d_Fo_evaluateRing_75 : decode b_Fo_evaluateRing 75 = .ok (.iload_n 1, 1) := by decide +kernel
theorem d_Fo_evaluateRing_76 : decode b_Fo_evaluateRing 76 = .ok (.iaload, 1) := by decide +kernel
theorem d_Fo_evaluateRing_77 : decode b_Fo_evaluateRing 77 = .ok (.iload 6, 2) := by decide +kernel
theorem d_Fo_evaluateRing_79 : decode b_Fo_evaluateRing 79 = .ok (.invokevirtual 118, 3) := by decide +kernel
theorem d_Fo_evaluateRing_82 : decode b_Fo_evaluateRing 82 = .ok (.ifCond .eq 7, 3) := by decide +kernel
theorem d_Fo_evaluateRing_85 : decode b_Fo_evaluateRing 85 = .ok (.iconst 1, 1) := by decide +kernel
theorem d_Fo_evaluateRing_86 : decode b_Fo_evaluateRing 86 = .ok (.goto 4, 3) := by decide +kernel
theorem d_Fo_evaluateRing_89 : decode b_Fo_evaluateRing 89 = .ok (.iconst 0, 1) := by decide +kernel
theorem d_Fo_evaluateRing_90 : decode b_Fo_evaluateRing 90 = .ok (.istore 4, 2) := by decide +kernel
theorem d_Fo_evaluateRing_92 : decode b_Fo_evaluateRing 92 = .ok (.iinc 5 1, 3) := by decide +kernel
theorem d_Fo_evaluateRing_95 : decode b_Fo_evaluateRing 95 = .ok (.goto (-87), 3) := by decide +kernel
theorem d_Fo_evaluateRing_98 : decode b_Fo_evaluateRing 98 = .ok (.aload_n 0, 1) := by decide +kernel
theorem d_Fo_evaluateRing_99 : decode b_Fo_evaluateRing 99 = .ok (.getfield 12, 3) := by decide +kernel
theorem d_Fo_evaluateRing_102 : decode b_Fo_evaluateRing 102 = .ok (.getfield 141, 3) := by decide +kernel
theorem d_Fo_evaluateRing_105 : decode b_Fo_evaluateRing 105 = .ok (.iconst 1, 1) := by decide +kernel
theorem d_Fo_evaluateRing_106 : decode b_Fo_evaluateRing 106 = .ok (.if_icmp .gt 18, 3) := by decide +kernel
theorem d_Fo_evaluateRing_109 : decode b_Fo_evaluateRing 109 = .ok (.aload_n 0, 1) := by decide +kernel
theorem d_Fo_evaluateRing_110 : decode b_Fo_evaluateRing 110 = .ok (.getfield 44, 3) := by decide +kernel
theorem d_Fo_evaluateRing_113 : decode b_Fo_evaluateRing 113 = .ok (.getfield 104, 3) := by decide +kernel
theorem d_Fo_evaluateRing_116 : decode b_Fo_evaluateRing 116 = .ok (.iload_n 2, 1) := by decide +kernel
theorem d_Fo_evaluateRing_117 : decode b_Fo_evaluateRing 117 = .ok (.iload_n 2, 1) := by decide +kernel
theorem d_Fo_evaluateRing_118 : decode b_Fo_evaluateRing 118 = .ok (.invokevirtual 118, 3) := by decide +kernel
theorem d_Fo_evaluateRing_121 : decode b_Fo_evaluateRing 121 = .ok (.ifCond .eq 7, 3) := by decide +kernel
theorem d_Fo_evaluateRing_124 : decode b_Fo_evaluateRing 124 = .ok (.iconst 1, 1) := by decide +kernel
theorem d_Fo_evaluateRing_125 : decode b_Fo_evaluateRing 125 = .ok (.goto 4, 3) := by decide +kernel
theorem d_Fo_evaluateRing_128 : decode b_Fo_evaluateRing 128 = .ok (.iconst 0, 1) := by decide +kernel
theorem d_Fo_evaluateRing_129 : decode b_Fo_evaluateRing 129 = .ok (.istore 5, 2) := by decide +kernel
theorem d_Fo_evaluateRing_131 : decode b_Fo_evaluateRing 131 = .ok (.iload_n 3, 1) := by decide +kernel
theorem d_Fo_evaluateRing_132 : decode b_Fo_evaluateRing 132 = .ok (.ifCond .ne 13, 3) := by decide +kernel
theorem d_Fo_evaluateRing_135 : decode b_Fo_evaluateRing 135 = .ok (.iload 4, 2) := by decide +kernel
theorem d_Fo_evaluateRing_137 : decode b_Fo_evaluateRing 137 = .ok (.ifCond .eq 13, 3) := by decide +kernel
theorem d_Fo_evaluateRing_140 : decode b_Fo_evaluateRing 140 = .ok (.iload 5, 2) := by decide +kernel
theorem d_Fo_evaluateRing_142 : decode b_Fo_evaluateRing 142 = .ok (.ifCond .eq 8, 3) := by decide +kernel
theorem d_Fo_evaluateRing_145 : decode b_Fo_evaluateRing 145 = .ok (.aload_n 0, 1) := by decide +kernel
theorem d_Fo_evaluateRing_146 : decode b_Fo_evaluateRing 146 = .ok (.iload_n 1, 1) := by decide +kernel
theorem d_Fo_evaluateRing_147 : decode b_Fo_evaluateRing 147 = .ok (.invokevirtual 138, 3) := by decide +kernel
theorem d_Fo_evaluateRing_150 : decode b_Fo_evaluateRing 150 = .ok (.return_, 1) := by decide +kernel
theorem d_Fo_evaluateUntil_0 : decode b_Fo_evaluateUntil 0 = .ok (.aload_n 0, 1) := by decide +kernel
theorem d_Fo_evaluateUntil_1 : decode b_Fo_evaluateUntil 1 = .ok (.getfield 12, 3) := by decide +kernel
theorem d_Fo_evaluateUntil_4 : decode b_Fo_evaluateUntil 4 = .ok (.aload_n 0, 1) := by decide +kernel
theorem d_Fo_evaluateUntil_5 : decode b_Fo_evaluateUntil 5 = .ok (.getfield 23, 3) := by decide +kernel
theorem d_Fo_evaluateUntil_8 : decode b_Fo_evaluateUntil 8 = .ok (.aload_n 0, 1) := by decide +kernel
theorem d_Fo_evaluateUntil_9 : decode b_Fo_evaluateUntil 9 = .ok (.getfield 31, 3) := by decide +kernel
theorem d_Fo_evaluateUntil_12 : decode b_Fo_evaluateUntil 12 = .ok (.iload_n 1, 1) := by decide +kernel
theorem d_Fo_evaluateUntil_13 : decode b_Fo_evaluateUntil 13 = .ok (.iaload, 1) := by decide +kernel
theorem d_Fo_evaluateUntil_14 : decode b_Fo_evaluateUntil 14 = .ok (.invokevirtual 111, 3) := by decide +kernel
theorem d_Fo_evaluateUntil_17 : decode b_Fo_evaluateUntil 17 = .ok (.iconst 0, 1) := by decide +kernel
theorem d_Fo_evaluateUntil_18 : decode b_Fo_evaluateUntil 18 = .ok (.istore_n 2, 1) := by decide +kernel
theorem d_Fo_evaluateUntil_19 : decode b_Fo_evaluateUntil 19 = .ok (.iload_n 2, 1) := by decide +kernel
theorem d_Fo_evaluateUntil_20 : decode b_Fo_evaluateUntil 20 = .ok (.aload_n 0, 1) := by decide +kernel
theorem d_Fo_evaluateUntil_21 : decode b_Fo_evaluateUntil 21 = .ok (.getfield 44, 3) := by decide +kernel
theorem d_Fo_evaluateUntil_24 : decode b_Fo_evaluateUntil 24 = .ok (.getfield 88, 3) := by decide +kernel
theorem d_Fo_evaluateUntil_27 : decode b_Fo_evaluateUntil 27 = .ok (.if_icmp .ge 57, 3) := by decide +kernel
theorem d_Fo_evaluateUntil_30 : decode b_Fo_evaluateUntil 30 = .ok (.aload_n 0, 1) := by decide +kernel
theorem d_Fo_evaluateUntil_31 : decode b_Fo_evaluateUntil 31 = .ok (.getfield 12, 3) := by decide +kernel
theorem d_Fo_evaluateUntil_34 : decode b_Fo_evaluateUntil 34 = .ok (.getfield 115, 3) := by decide +kernel
theorem d_Fo_evaluateUntil_37 : decode b_Fo_evaluateUntil 37 = .ok (.iload_n 2, 1) := by decide +kernel
theorem d_Fo_evaluateUntil_38 : decode b_Fo_evaluateUntil 38 = .ok (.iconst (-1), 1) := by decide +kernel
theorem d_Fo_evaluateUntil_39 : decode b_Fo_evaluateUntil 39 = .ok (.iastore, 1) := by decide +kernel
theorem d_Fo_evaluateUntil_40 : decode b_Fo_evaluateUntil 40 = .ok (.aload_n 0, 1) := by decide +kernel
theorem d_Fo_evaluateUntil_41 : decode b_Fo_evaluateUntil 41 = .ok (.getfield 23, 3) := by decide +kernel
theorem d_Fo_evaluateUntil_44 : decode b_Fo_evaluateUntil 44 = .ok (.aload_n 0, 1) := by decide +kernel
theorem d_Fo_evaluateUntil_45 : decode b_Fo_evaluateUntil 45 = .ok (.getfield 34, 3) := by decide +kernel
theorem d_Fo_evaluateUntil_48 : decode b_Fo_evaluateUntil 48 = .ok (.iload_n 1, 1) := by decide +kernel
theorem d_Fo_evaluateUntil_49 : decode b_Fo_evaluateUntil 49 = .ok (.iaload, 1) := by decide +kernel
theorem d_Fo_evaluateUntil_50 : decode b_Fo_evaluateUntil 50 = .ok (.iload_n 2, 1) := by decide +kernel
theorem d_Fo_evaluateUntil_51 : decode b_Fo_evaluateUntil 51 = .ok (.invokevirtual 118, 3) := by decide +kernel
theorem d_Fo_evaluateUntil_54 : decode b_Fo_evaluateUntil 54 = .ok (.ifCond .eq 24, 3) := by decide +kernel
theorem d_Fo_evaluateUntil_57 : decode b_Fo_evaluateUntil 57 = .ok (.aload_n 0, 1) := by decide +kernel
theorem d_Fo_evaluateUntil_58 : decode b_Fo_evaluateUntil 58 = .ok (.getfield 12, 3) := by decide +kernel
theorem d_Fo_evaluateUntil_61 : decode b_Fo_evaluateUntil 61 = .ok (.getfield 122, 3) := by decide +kernel
theorem d_Fo_evaluateUntil_64 : decode b_Fo_evaluateUntil 64 = .ok (.iconst 0, 1) := by decide +kernel
theorem d_Fo_evaluateUntil_65 : decode b_Fo_evaluateUntil 65 = .ok (.iload_n 2, 1) := by decide +kernel
theorem d_Fo_evaluateUntil_66 : decode b_Fo_evaluateUntil 66 = .ok (.invokevirtual 125, 3) := by decide +kernel
theorem d_Fo_evaluateUntil_69 : decode b_Fo_evaluateUntil 69 = .ok (.aload_n 0, 1) := by decide +kernel
theorem d_Fo_evaluateUntil_70 : decode b_Fo_evaluateUntil 70 = .ok (.getfield 12, 3) := by decide +kernel
theorem d_Fo_evaluateUntil_73 : decode b_Fo_evaluateUntil 73 = .ok (.iload_n 2, 1) := by decide +kernel
theorem d_Fo_evaluateUntil_74 : decode b_Fo_evaluateUntil 74 = .ok (.iconst 0, 1) := by decide +kernel
theorem d_Fo_evaluateUntil_75 : decode b_Fo_evaluateUntil 75 = .ok (.invokevirtual 128, 3) := by decide +kernel
theorem d_Fo_evaluateUntil_78 : decode b_Fo_evaluateUntil 78 = .ok (.iinc 2 1, 3) := by decide +kernel
theorem d_Fo_evaluateUntil_81 : decode b_Fo_evaluateUntil 81 = .ok (.goto (-62), 3) := by decide +kernel
theorem d_Fo_evaluateUntil_84 : decode b_Fo_evaluateUntil 84 = .ok (.aload_n 0, 1) := by decide +kernel
theorem d_Fo_evaluateUntil_85 : decode b_Fo_evaluateUntil 85 = .ok (.getfield 12, 3) := by decide +kernel
theorem d_Fo_evaluateUntil_88 : decode b_Fo_evaluateUntil 88 = .ok (.aload_n 0, 1) := by decide +kernel
theorem d_Fo_evaluateUntil_89 : decode b_Fo_evaluateUntil 89 = .ok (.getfield 44, 3) := by decide +kernel
theorem d_Fo_evaluateUntil_92 : decode b_Fo_evaluateUntil 92 = .ok (.getfield 131, 3) := by decide +kernel
theorem d_Fo_evaluateUntil_95 : decode b_Fo_evaluateUntil 95 = .ok (.invokevirtual 134, 3) := by decide +kernel
theorem d_Fo_evaluateUntil_98 : decode b_Fo_evaluateUntil 98 = .ok (.aload_n 0, 1) := by decide +kernel
theorem d_Fo_evaluateUntil_99 : decode b_Fo_evaluateUntil 99 = .ok (.iload_n 1, 1) := by decide +kernel
theorem d_Fo_evaluateUntil_100 : decode b_Fo_evaluateUntil 100 = .ok (.invokevirtual 138, 3) := by decide +kernel
theorem d_Fo_evaluateUntil_103 : decode b_Fo_evaluateUntil 103 = .ok (.aload_n 0, 1) := by decide +kernel
theorem d_Fo_evaluateUntil_104 : decode b_Fo_evaluateUntil 104 = .ok (.iload_n 1, 1) := by decide +kernel
theorem d_Fo_evaluateUntil_105 : decode b_Fo_evaluateUntil 105 = .ok (.putfield 48, 3) := by decide +kernel
theorem d_Fo_evaluateUntil_108 : decode b_Fo_evaluateUntil 108 = .ok (.return_, 1) := by decide +kernel
theorem d_Fo_evaluateWords_0 : decode b_Fo_evaluateWords 0 = .ok (.aload_n 0, 1) := by decide +kernel
theorem d_Fo_evaluateWords_1 : decode b_Fo_evaluateWords 1 = .ok (.getfield 23, 3) := by decide +kernel
theorem d_Fo_evaluateWords_4 : decode b_Fo_evaluateWords 4 = .ok (.getfield 95, 3) := by decide +kernel
theorem d_Fo_evaluateWords_7 : decode b_Fo_evaluateWords 7 = .ok (.astore_n 2, 1) := by decide +kernel
theorem d_Fo_evaluateWords_8 : decode b_Fo_evaluateWords 8 = .ok (.iconst 0, 1) := by decide +kernel
