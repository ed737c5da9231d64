theorem d_Mo_measure_126 : decode b_Mo_measure 126 = .ok (.ifCond .lt 20, 3) := by decide +kernel
theorem d_Mo_measure_129 : decode b_Mo_measure 129 = .ok (.aload_n 0, 1) := by decide +kernel
theorem d_Mo_measure_130 : decode b_Mo_measure 130 = .ok (.getfield 45, 3) := by decide +kernel
theorem d_Mo_measure_133 : decode b_Mo_measure 133 = .ok (.iload 6, 2) := by decide +kernel
theorem d_Mo_measure_135 : decode b_Mo_measure 135 = .ok (.iaload, 1) := by decide +kernel
theorem d_Mo_measure_136 : decode b_Mo_measure 136 = .ok (.iload_n 3, 1) := by decide +kernel
theorem d_Mo_measure_137 : decode b_Mo_measure 137 = .ok (.if_icmp .ne 9, 3) := by decide +kernel
theorem d_Mo_measure_140 : decode b_Mo_measure 140 = .ok (.iload_n 3, 1) := by decide +kernel
theorem d_Mo_measure_141 : decode b_Mo_measure 141 = .ok (.iconst 1, 1) := by decide +kernel
theorem d_Mo_measure_142 : decode b_Mo_measure 142 = .ok (.iadd, 1) := by decide +kernel
theorem d_Mo_measure_143 : decode b_Mo_measure 143 = .ok (.goto 6, 3) := by decide +kernel
theorem d_Mo_measure_146 : decode b_Mo_measure 146 = .ok (.sipush 1000, 3) := by decide +kernel
theorem d_Mo_measure_149 : decode b_Mo_measure 149 = .ok (.iastore, 1) := by decide +kernel
theorem d_Mo_measure_150 : decode b_Mo_measure 150 = .ok (.iinc 5 1, 3) := by decide +kernel
theorem d_Mo_measure_153 : decode b_Mo_measure 153 = .ok (.goto (-82), 3) := by decide +kernel
theorem d_Mo_measure_156 : decode b_Mo_measure 156 = .ok (.iinc 4 1, 3) := by decide +kernel
theorem d_Mo_measure_159 : decode b_Mo_measure 159 = .ok (.goto (-97), 3) := by decide +kernel
theorem d_Mo_measure_162 : decode b_Mo_measure 162 = .ok (.iinc 3 1, 3) := by decide +kernel
theorem d_Mo_measure_165 : decode b_Mo_measure 165 = .ok (.goto (-111), 3) := by decide +kernel
theorem d_Mo_measure_168 : decode b_Mo_measure 168 = .ok (.return_, 1) := by decide +kernel
theorem d_Mo_refuse_0 : decode b_Mo_refuse 0 = .ok (.aload_n 0, 1) := by decide +kernel
theorem d_Mo_refuse_1 : decode b_Mo_refuse 1 = .ok (.iload_n 1, 1) := by decide +kernel
theorem d_Mo_refuse_2 : decode b_Mo_refuse 2 = .ok (.ifCond .eq 7, 3) := by decide +kernel
theorem d_Mo_refuse_5 : decode b_Mo_refuse 5 = .ok (.iconst 1, 1) := by decide +kernel
theorem d_Mo_refuse_6 : decode b_Mo_refuse 6 = .ok (.goto 20, 3) := by decide +kernel
theorem d_Mo_refuse_9 : decode b_Mo_refuse 9 = .ok (.iload_n 2, 1) := by decide +kernel
theorem d_Mo_refuse_10 : decode b_Mo_refuse 10 = .ok (.ifCond .eq 7, 3) := by decide +kernel
theorem d_Mo_refuse_13 : decode b_Mo_refuse 13 = .ok (.iconst 2, 1) := by decide +kernel
theorem d_Mo_refuse_14 : decode b_Mo_refuse 14 = .ok (.goto 12, 3) := by decide +kernel
theorem d_Mo_refuse_17 : decode b_Mo_refuse 17 = .ok (.iload_n 3, 1) := by decide +kernel
theorem d_Mo_refuse_18 : decode b_Mo_refuse 18 = .ok (.ifCond .eq 7, 3) := by decide +kernel
theorem d_Mo_refuse_21 : decode b_Mo_refuse 21 = .ok (.iconst 3, 1) := by decide +kernel
theorem d_Mo_refuse_22 : decode b_Mo_refuse 22 = .ok (.goto 4, 3) := by decide +kernel
theorem d_Mo_refuse_25 : decode b_Mo_refuse 25 = .ok (.iconst 0, 1) := by decide +kernel
theorem d_Mo_refuse_26 : decode b_Mo_refuse 26 = .ok (.putfield 48, 3) := by decide +kernel
theorem d_Mo_refuse_29 : decode b_Mo_refuse 29 = .ok (.aload_n 0, 1) := by decide +kernel
theorem d_Mo_refuse_30 : decode b_Mo_refuse 30 = .ok (.getfield 48, 3) := by decide +kernel
theorem d_Mo_refuse_33 : decode b_Mo_refuse 33 = .ok (.ifCond .le 7, 3) := by decide +kernel
theorem d_Mo_refuse_36 : decode b_Mo_refuse 36 = .ok (.iconst 1, 1) := by decide +kernel
theorem d_Mo_refuse_37 : decode b_Mo_refuse 37 = .ok (.goto 4, 3) := by decide +kernel
theorem d_Mo_refuse_40 : decode b_Mo_refuse 40 = .ok (.iconst 0, 1) := by decide +kernel
theorem d_Mo_refuse_41 : decode b_Mo_refuse 41 = .ok (.ireturn, 1) := by decide +kernel
theorem d_Mo_rule_0 : decode b_Mo_rule 0 = .ok (.aload_n 0, 1) := by decide +kernel
theorem d_Mo_rule_1 : decode b_Mo_rule 1 = .ok (.iload_n 1, 1) := by decide +kernel
theorem d_Mo_rule_2 : decode b_Mo_rule 2 = .ok (.iload_n 2, 1) := by decide +kernel
theorem d_Mo_rule_3 : decode b_Mo_rule 3 = .ok (.invokevirtual 68, 3) := by decide +kernel
theorem d_Mo_rule_6 : decode b_Mo_rule 6 = .ok (.ifCond .eq 24, 3) := by decide +kernel
theorem d_Mo_rule_9 : decode b_Mo_rule 9 = .ok (.aload_n 0, 1) := by decide +kernel
theorem d_Mo_rule_10 : decode b_Mo_rule 10 = .ok (.iload_n 3, 1) := by decide +kernel
theorem d_Mo_rule_11 : decode b_Mo_rule 11 = .ok (.invokevirtual 64, 3) := by decide +kernel
theorem d_Mo_rule_14 : decode b_Mo_rule 14 = .ok (.ifCond .eq 16, 3) := by decide +kernel
theorem d_Mo_rule_17 : decode b_Mo_rule 17 = .ok (.aload_n 0, 1) := by decide +kernel
theorem d_Mo_rule_18 : decode b_Mo_rule 18 = .ok (.iload 4, 2) := by decide +kernel
theorem d_Mo_rule_20 : decode b_Mo_rule 20 = .ok (.invokevirtual 64, 3) := by decide +kernel
theorem d_Mo_rule_23 : decode b_Mo_rule 23 = .ok (.ifCond .eq 7, 3) := by decide +kernel
theorem d_Mo_rule_26 : decode b_Mo_rule 26 = .ok (.iconst 1, 1) := by decide +kernel
theorem d_Mo_rule_27 : decode b_Mo_rule 27 = .ok (.goto 4, 3) := by decide +kernel
theorem d_Mo_rule_30 : decode b_Mo_rule 30 = .ok (.iconst 0, 1) := by decide +kernel
theorem d_Mo_rule_31 : decode b_Mo_rule 31 = .ok (.istore 5, 2) := by decide +kernel
theorem d_Mo_rule_33 : decode b_Mo_rule 33 = .ok (.aload_n 0, 1) := by decide +kernel
theorem d_Mo_rule_34 : decode b_Mo_rule 34 = .ok (.iload 5, 2) := by decide +kernel
theorem d_Mo_rule_36 : decode b_Mo_rule 36 = .ok (.ifCond .ne 7, 3) := by decide +kernel
theorem d_Mo_rule_39 : decode b_Mo_rule 39 = .ok (.iconst 1, 1) := by decide +kernel
theorem d_Mo_rule_40 : decode b_Mo_rule 40 = .ok (.goto 4, 3) := by decide +kernel
theorem d_Mo_rule_43 : decode b_Mo_rule 43 = .ok (.iconst 0, 1) := by decide +kernel
theorem d_Mo_rule_44 : decode b_Mo_rule 44 = .ok (.iload 5, 2) := by decide +kernel
theorem d_Mo_rule_46 : decode b_Mo_rule 46 = .ok (.ifCond .eq 16, 3) := by decide +kernel
theorem d_Mo_rule_49 : decode b_Mo_rule 49 = .ok (.aload_n 0, 1) := by decide +kernel
theorem d_Mo_rule_50 : decode b_Mo_rule 50 = .ok (.getfield 58, 3) := by decide +kernel
theorem d_Mo_rule_53 : decode b_Mo_rule 53 = .ok (.bipush 40, 2) := by decide +kernel
theorem d_Mo_rule_55 : decode b_Mo_rule 55 = .ok (.if_icmp .ne 7, 3) := by decide +kernel
theorem d_Mo_rule_58 : decode b_Mo_rule 58 = .ok (.iconst 1, 1) := by decide +kernel
theorem d_Mo_rule_59 : decode b_Mo_rule 59 = .ok (.goto 4, 3) := by decide +kernel
theorem d_Mo_rule_62 : decode b_Mo_rule 62 = .ok (.iconst 0, 1) := by decide +kernel
theorem d_Mo_rule_63 : decode b_Mo_rule 63 = .ok (.iconst 0, 1) := by decide +kernel
theorem d_Mo_rule_64 : decode b_Mo_rule 64 = .ok (.invokevirtual 54, 3) := by decide +kernel
theorem d_Mo_rule_67 : decode b_Mo_rule 67 = .ok (.ifCond .eq 5, 3) := by decide +kernel
theorem d_Mo_rule_70 : decode b_Mo_rule 70 = .ok (.iconst 0, 1) := by decide +kernel
theorem d_Mo_rule_71 : decode b_Mo_rule 71 = .ok (.ireturn, 1) := by decide +kernel
theorem d_Mo_rule_72 : decode b_Mo_rule 72 = .ok (.aload_n 0, 1) := by decide +kernel
theorem d_Mo_rule_73 : decode b_Mo_rule 73 = .ok (.getfield 13, 3) := by decide +kernel
theorem d_Mo_rule_76 : decode b_Mo_rule 76 = .ok (.aload_n 0, 1) := by decide +kernel
theorem d_Mo_rule_77 : decode b_Mo_rule 77 = .ok (.getfield 58, 3) := by decide +kernel
theorem d_Mo_rule_80 : decode b_Mo_rule 80 = .ok (.iload_n 1, 1) := by decide +kernel
theorem d_Mo_rule_81 : decode b_Mo_rule 81 = .ok (.iastore, 1) := by decide +kernel
theorem d_Mo_rule_82 : decode b_Mo_rule 82 = .ok (.aload_n 0, 1) := by decide +kernel
theorem d_Mo_rule_83 : decode b_Mo_rule 83 = .ok (.getfield 17, 3) := by decide +kernel
theorem d_Mo_rule_86 : decode b_Mo_rule 86 = .ok (.aload_n 0, 1) := by decide +kernel
theorem d_Mo_rule_87 : decode b_Mo_rule 87 = .ok (.getfield 58, 3) := by decide +kernel
theorem d_Mo_rule_90 : decode b_Mo_rule 90 = .ok (.iload_n 2, 1) := by decide +kernel
theorem d_Mo_rule_91 : decode b_Mo_rule 91 = .ok (.iastore, 1) := by decide +kernel
theorem d_Mo_rule_92 : decode b_Mo_rule 92 = .ok (.aload_n 0, 1) := by decide +kernel
theorem d_Mo_rule_93 : decode b_Mo_rule 93 = .ok (.getfield 20, 3) := by decide +kernel
theorem d_Mo_rule_96 : decode b_Mo_rule 96 = .ok (.aload_n 0, 1) := by decide +kernel
theorem d_Mo_rule_97 : decode b_Mo_rule 97 = .ok (.getfield 58, 3) := by decide +kernel
theorem d_Mo_rule_100 : decode b_Mo_rule 100 = .ok (.iload_n 3, 1) := by decide +kernel
theorem d_Mo_rule_101 : decode b_Mo_rule 101 = .ok (.iastore, 1) := by decide +kernel
theorem d_Mo_rule_102 : decode b_Mo_rule 102 = .ok (.aload_n 0, 1) := by decide +kernel
theorem d_Mo_rule_103 : decode b_Mo_rule 103 = .ok (.getfield 23, 3) := by decide +kernel
theorem d_Mo_rule_106 : decode b_Mo_rule 106 = .ok (.aload_n 0, 1) := by decide +kernel
theorem d_Mo_rule_107 : decode b_Mo_rule 107 = .ok (.getfield 58, 3) := by decide +kernel
theorem d_Mo_rule_110 : decode b_Mo_rule 110 = .ok (.iload 4, 2) := by decide +kernel
theorem d_Mo_rule_112 : decode b_Mo_rule 112 = .ok (.iastore, 1) := by decide +kernel
theorem d_Mo_rule_113 : decode b_Mo_rule 113 = .ok (.aload_n 0, 1) := by decide +kernel
theorem d_Mo_rule_114 : decode b_Mo_rule 114 = .ok (.dup, 1) := by decide +kernel
theorem d_Mo_rule_115 : decode b_Mo_rule 115 = .ok (.getfield 58, 3) := by decide +kernel
theorem d_Mo_rule_118 : decode b_Mo_rule 118 = .ok (.iconst 1, 1) := by decide +kernel
theorem d_Mo_rule_119 : decode b_Mo_rule 119 = .ok (.iadd, 1) := by decide +kernel
theorem d_Mo_rule_120 : decode b_Mo_rule 120 = .ok (.putfield 58, 3) := by decide +kernel
theorem d_Mo_rule_123 : decode b_Mo_rule 123 = .ok (.aload_n 0, 1) := by decide +kernel
theorem d_Mo_rule_124 : decode b_Mo_rule 124 = .ok (.iconst 0, 1) := by decide +kernel
theorem d_Mo_rule_125 : decode b_Mo_rule 125 = .ok (.putfield 61, 3) := by decide +kernel
theorem d_Mo_rule_128 : decode b_Mo_rule 128 = .ok (.aload_n 0, 1) := by decide +kernel
theorem d_Mo_rule_129 : decode b_Mo_rule 129 = .ok (.getfield 58, 3) := by decide +kernel
theorem d_Mo_rule_132 : decode b_Mo_rule 132 = .ok (.iconst 1, 1) := by decide +kernel
theorem d_Mo_rule_133 : decode b_Mo_rule 133 = .ok (.isub, 1) := by decide +kernel
theorem d_Mo_rule_134 : decode b_Mo_rule 134 = .ok (.ireturn, 1) := by decide +kernel
theorem d_Mo_simple_0 : decode b_Mo_simple 0 = .ok (.aload_n 0, 1) := by decide +kernel
theorem d_Mo_simple_1 : decode b_Mo_simple 1 = .ok (.getfield 29, 3) := by decide +kernel
theorem d_Mo_simple_4 : decode b_Mo_simple 4 = .ok (.iload_n 1, 1) := by decide +kernel
theorem d_Mo_simple_5 : decode b_Mo_simple 5 = .ok (.iaload, 1) := by decide +kernel
theorem d_Mo_simple_6 : decode b_Mo_simple 6 = .ok (.istore_n 3, 1) := by decide +kernel
theorem d_Mo_simple_7 : decode b_Mo_simple 7 = .ok (.aload_n 0, 1) := by decide +kernel
theorem d_Mo_simple_8 : decode b_Mo_simple 8 = .ok (.getfield 32, 3) := by decide +kernel
theorem d_Mo_simple_11 : decode b_Mo_simple 11 = .ok (.iload_n 1, 1) := by decide +kernel
theorem d_Mo_simple_12 : decode b_Mo_simple 12 = .ok (.iaload, 1) := by decide +kernel
theorem d_Mo_simple_13 : decode b_Mo_simple 13 = .ok (.istore 4, 2) := by decide +kernel
theorem d_Mo_simple_15 : decode b_Mo_simple 15 = .ok (.aload_n 0, 1) := by decide +kernel
theorem d_Mo_simple_16 : decode b_Mo_simple 16 = .ok (.getfield 26, 3) := by decide +kernel
theorem d_Mo_simple_19 : decode b_Mo_simple 19 = .ok (.iload_n 1, 1) := by decide +kernel
theorem d_Mo_simple_20 : decode b_Mo_simple 20 = .ok (.iaload, 1) := by decide +kernel
theorem d_Mo_simple_21 : decode b_Mo_simple 21 = .ok (.tableswitch 110 0 3 #[31, 45, 60, 85], 31) := by decide +kernel
theorem d_Mo_simple_52 : decode b_Mo_simple 52 = .ok (.iload_n 2, 1) := by decide +kernel
theorem d_Mo_simple_53 : decode b_Mo_simple 53 = .ok (.iload_n 3, 1) := by decide +kernel
theorem d_Mo_simple_54 : decode b_Mo_simple 54 = .ok (.iand, 1) := by decide +kernel
theorem d_Mo_simple_55 : decode b_Mo_simple 55 = .ok (.iload 4, 2) := by decide +kernel
theorem d_Mo_simple_57 : decode b_Mo_simple 57 = .ok (.if_icmp .ne 7, 3) := by decide +kernel
theorem d_Mo_simple_60 : decode b_Mo_simple 60 = .ok (.iconst 1, 1) := by decide +kernel
theorem d_Mo_simple_61 : decode b_Mo_simple 61 = .ok (.goto 4, 3) := by decide +kernel
theorem d_Mo_simple_64 : decode b_Mo_simple 64 = .ok (.iconst 0, 1) := by decide +kernel
theorem d_Mo_simple_65 : decode b_Mo_simple 65 = .ok (.ireturn, 1) := by decide +kernel
theorem d_Mo_simple_66 : decode b_Mo_simple 66 = .ok (.aload_n 0, 1) := by decide +kernel
theorem d_Mo_simple_67 : decode b_Mo_simple 67 = .ok (.iload_n 3, 1) := by decide +kernel
theorem d_Mo_simple_68 : decode b_Mo_simple 68 = .ok (.iload_n 2, 1) := by decide +kernel
theorem d_Mo_simple_69 : decode b_Mo_simple 69 = .ok (.invokevirtual 79, 3) := by decide +kernel
theorem d_Mo_simple_72 : decode b_Mo_simple 72 = .ok (.ifCond .ne 7, 3) := by decide +kernel
theorem d_Mo_simple_75 : decode b_Mo_simple 75 = .ok (.iconst 1, 1) := by decide +kernel
theorem d_Mo_simple_76 : decode b_Mo_simple 76 = .ok (.goto 4, 3) := by decide +kernel
theorem d_Mo_simple_79 : decode b_Mo_simple 79 = .ok (.iconst 0, 1) := by decide +kernel
theorem d_Mo_simple_80 : decode b_Mo_simple 80 = .ok (.ireturn, 1) := by decide +kernel
theorem d_Mo_simple_81 : decode b_Mo_simple 81 = .ok (.aload_n 0, 1) := by decide +kernel
theorem d_Mo_simple_82 : decode b_Mo_simple 82 = .ok (.iload_n 3, 1) := by decide +kernel
theorem d_Mo_simple_83 : decode b_Mo_simple 83 = .ok (.iload_n 2, 1) := by decide +kernel
theorem d_Mo_simple_84 : decode b_Mo_simple 84 = .ok (.invokevirtual 79, 3) := by decide +kernel
theorem d_Mo_simple_87 : decode b_Mo_simple 87 = .ok (.ifCond .eq 17, 3) := by decide +kernel
theorem d_Mo_simple_90 : decode b_Mo_simple 90 = .ok (.aload_n 0, 1) := by decide +kernel
theorem d_Mo_simple_91 : decode b_Mo_simple 91 = .ok (.iload 4, 2) := by decide +kernel
theorem d_Mo_simple_93 : decode b_Mo_simple 93 = .ok (.iload_n 2, 1) := by decide +kernel
theorem d_Mo_simple_94 : decode b_Mo_simple 94 = .ok (.invokevirtual 79, 3) := by decide +kernel
theorem d_Mo_simple_97 : decode b_Mo_simple 97 = .ok (.ifCond .eq 7, 3) := by decide +kernel
theorem d_Mo_simple_100 : decode b_Mo_simple 100 = .ok (.iconst 1, 1) := by decide +kernel
theorem d_Mo_simple_101 : decode b_Mo_simple 101 = .ok (.goto 4, 3) := by decide +kernel
theorem d_Mo_simple_104 : decode b_Mo_simple 104 = .ok (.iconst 0, 1) := by decide +kernel
theorem d_Mo_simple_105 : decode b_Mo_simple 105 = .ok (.ireturn, 1) := by decide +kernel
theorem d_Mo_simple_106 : decode b_Mo_simple 106 = .ok (.aload_n 0, 1) := by decide +kernel
theorem d_Mo_simple_107 : decode b_Mo_simple 107 = .ok (.iload_n 3, 1) := by decide +kernel
theorem d_Mo_simple_108 : decode b_Mo_simple 108 = .ok (.iload_n 2, 1) := by decide +kernel
theorem d_Mo_simple_109 : decode b_Mo_simple 109 = .ok (.invokevirtual 79, 3) := by decide +kernel
theorem d_Mo_simple_112 : decode b_Mo_simple 112 = .ok (.ifCond .ne 13, 3) := by decide +kernel
theorem d_Mo_simple_115 : decode b_Mo_simple 115 = .ok (.aload_n 0, 1) := by decide +kernel
theorem d_Mo_simple_116 : decode b_Mo_simple 116 = .ok (.iload 4, 2) := by decide +kernel
theorem d_Mo_simple_118 : decode b_Mo_simple 118 = .ok (.iload_n 2, 1) := by decide +kernel
theorem d_Mo_simple_119 : decode b_Mo_simple 119 = .ok (.invokevirtual 79, 3) := by decide +kernel
theorem d_Mo_simple_122 : decode b_Mo_simple 122 = .ok (.ifCond .eq 7, 3) := by decide +kernel
theorem d_Mo_simple_125 : decode b_Mo_simple 125 = .ok (.iconst 1, 1) := by decide +kernel
theorem d_Mo_simple_126 : decode b_Mo_simple 126 = .ok (.goto 4, 3) := by decide +kernel
theorem d_Mo_simple_129 : decode b_Mo_simple 129 = .ok (.iconst 0, 1) := by decide +kernel
theorem d_Mo_simple_130 : decode b_Mo_simple 130 = .ok (.ireturn, 1) := by decide +kernel
theorem d_Mo_simple_131 : decode b_Mo_simple 131 = .ok (.aload_n 0, 1) := by decide +kernel
theorem d_Mo_simple_132 : decode b_Mo_simple 132 = .ok (.iload_n 2, 1) := by decide +kernel
theorem d_Mo_simple_133 : decode b_Mo_simple 133 = .ok (.aload_n 0, 1) := by decide +kernel
theorem d_Mo_simple_134 : decode b_Mo_simple 134 = .ok (.getfield 35, 3) := by decide +kernel
theorem d_Mo_simple_137 : decode b_Mo_simple 137 = .ok (.sipush 256, 3) := by decide +kernel
theorem d_Mo_simple_140 : decode b_Mo_simple 140 = .ok (.iload_n 3, 1) := by decide +kernel
theorem d_Mo_simple_141 : decode b_Mo_simple 141 = .ok (.imul, 1) := by decide +kernel
theorem d_Mo_simple_142 : decode b_Mo_simple 142 = .ok (.invokevirtual 82, 3) := by decide +kernel
theorem d_Mo_simple_145 : decode b_Mo_simple 145 = .ok (.ireturn, 1) := by decide +kernel
theorem d_Mo_thrown_0 : decode b_Mo_thrown 0 = .ok (.aload_n 0, 1) := by decide +kernel
theorem d_Mo_thrown_1 : decode b_Mo_thrown 1 = .ok (.getfield 48, 3) := by decide +kernel
theorem d_Mo_thrown_4 : decode b_Mo_thrown 4 = .ok (.ireturn, 1) := by decide +kernel
theorem d_Mo_until_0 : decode b_Mo_until 0 = .ok (.iconst 1, 1) := by decide +kernel
theorem d_Mo_until_1 : decode b_Mo_until 1 = .ok (.aload_n 0, 1) := by decide +kernel
theorem d_Mo_until_2 : decode b_Mo_until 2 = .ok (.getfield 7, 3) := by decide +kernel
theorem d_Mo_until_5 : decode b_Mo_until 5 = .ok (.ishl, 1) := by decide +kernel
theorem d_Mo_until_6 : decode b_Mo_until 6 = .ok (.istore_n 2, 1) := by decide +kernel
theorem d_Mo_until_7 : decode b_Mo_until 7 = .ok (.iconst 0, 1) := by decide +kernel
theorem d_Mo_until_8 : decode b_Mo_until 8 = .ok (.istore_n 3, 1) := by decide +kernel
theorem d_Mo_until_9 : decode b_Mo_until 9 = .ok (.iload_n 3, 1) := by decide +kernel
theorem d_Mo_until_10 : decode b_Mo_until 10 = .ok (.iload_n 2, 1) := by decide +kernel
theorem d_Mo_until_11 : decode b_Mo_until 11 = .ok (.if_icmp .ge 21, 3) := by decide +kernel
theorem d_Mo_until_14 : decode b_Mo_until 14 = .ok (.aload_n 0, 1) := by decide +kernel
theorem d_Mo_until_15 : decode b_Mo_until 15 = .ok (.getfield 39, 3) := by decide +kernel
theorem d_Mo_until_18 : decode b_Mo_until 18 = .ok (.iload_n 3, 1) := by decide +kernel
theorem d_Mo_until_19 : decode b_Mo_until 19 = .ok (.aload_n 0, 1) := by decide +kernel
theorem d_Mo_until_20 : decode b_Mo_until 20 = .ok (.getfield 42, 3) := by decide +kernel
theorem d_Mo_until_23 : decode b_Mo_until 23 = .ok (.iload_n 3, 1) := by decide +kernel
theorem d_Mo_until_24 : decode b_Mo_until 24 = .ok (.baload, 1) := by decide +kernel
theorem d_Mo_until_25 : decode b_Mo_until 25 = .ok (.bastore, 1) := by decide +kernel
theorem d_Mo_until_26 : decode b_Mo_until 26 = .ok (.iinc 3 1, 3) := by decide +kernel
theorem d_Mo_until_29 : decode b_Mo_until 29 = .ok (.goto (-20), 3) := by decide +kernel
theorem d_Mo_until_32 : decode b_Mo_until 32 = .ok (.iconst 1, 1) := by decide +kernel
theorem d_Mo_until_33 : decode b_Mo_until 33 = .ok (.istore_n 3, 1) := by decide +kernel
theorem d_Mo_until_34 : decode b_Mo_until 34 = .ok (.iload_n 3, 1) := by decide +kernel
theorem d_Mo_until_35 : decode b_Mo_until 35 = .ok (.ifCond .eq 67, 3) := by decide +kernel
theorem d_Mo_until_38 : decode b_Mo_until 38 = .ok (.iconst 0, 1) := by decide +kernel
theorem d_Mo_until_39 : decode b_Mo_until 39 = .ok (.istore_n 3, 1) := by decide +kernel
theorem d_Mo_until_40 : decode b_Mo_until 40 = .ok (.iconst 0, 1) := by decide +kernel
theorem d_Mo_until_41 : decode b_Mo_until 41 = .ok (.istore 4, 2) := by decide +kernel
theorem d_Mo_until_43 : decode b_Mo_until 43 = .ok (.iload 4, 2) := by decide +kernel
theorem d_Mo_until_45 : decode b_Mo_until 45 = .ok (.iload_n 2, 1) := by decide +kernel
theorem d_Mo_until_46 : decode b_Mo_until 46 = .ok (.if_icmp .ge 53, 3) := by decide +kernel
theorem d_Mo_until_49 : decode b_Mo_until 49 = .ok (.aload_n 0, 1) := by decide +kernel
theorem d_Mo_until_50 : decode b_Mo_until 50 = .ok (.getfield 39, 3) := by decide +kernel
theorem d_Mo_until_53 : decode b_Mo_until 53 = .ok (.iload 4, 2) := by decide +kernel
theorem d_Mo_until_55 : decode b_Mo_until 55 = .ok (.baload, 1) := by decide +kernel
theorem d_Mo_until_56 : decode b_Mo_until 56 = .ok (.ifCond .ne 37, 3) := by decide +kernel
theorem d_Mo_until_59 : decode b_Mo_until 59 = .ok (.aload_n 0, 1) := by decide +kernel
theorem d_Mo_until_60 : decode b_Mo_until 60 = .ok (.iload_n 1, 1) := by decide +kernel
theorem d_Mo_until_61 : decode b_Mo_until 61 = .ok (.iload 4, 2) := by decide +kernel
theorem d_Mo_until_63 : decode b_Mo_until 63 = .ok (.invokevirtual 79, 3) := by decide +kernel
theorem d_Mo_until_66 : decode b_Mo_until 66 = .ok (.ifCond .eq 27, 3) := by decide +kernel
theorem d_Mo_until_69 : decode b_Mo_until 69 = .ok (.aload_n 0, 1) := by decide +kernel
theorem d_Mo_until_70 : decode b_Mo_until 70 = .ok (.iload 4, 2) := by decide +kernel
theorem d_Mo_until_72 : decode b_Mo_until 72 = .ok (.aload_n 0, 1) := by decide +kernel
theorem d_Mo_until_73 : decode b_Mo_until 73 = .ok (.getfield 39, 3) := by decide +kernel
theorem d_Mo_until_76 : decode b_Mo_until 76 = .ok (.iconst 0, 1) := by decide +kernel
theorem d_Mo_until_77 : decode b_Mo_until 77 = .ok (.invokevirtual 82, 3) := by decide +kernel
theorem d_Mo_until_80 : decode b_Mo_until 80 = .ok (.ifCond .eq 13, 3) := by decide +kernel
theorem d_Mo_until_83 : decode b_Mo_until 83 = .ok (.aload_n 0, 1) := by decide +kernel
theorem d_Mo_until_84 : decode b_Mo_until 84 = .ok (.getfield 39, 3) := by decide +kernel
theorem d_Mo_until_87 : decode b_Mo_until 87 = .ok (.iload 4, 2) := by decide +kernel
theorem d_Mo_until_89 : decode b_Mo_until 89 = .ok (.iconst 1, 1) := by decide +kernel
theorem d_Mo_until_90 : decode b_Mo_until 90 = .ok (.bastore, 1) := by decide +kernel
theorem d_Mo_until_91 : decode b_Mo_until 91 = .ok (.iconst 1, 1) := by decide +kernel
theorem d_Mo_until_92 : decode b_Mo_until 92 = .ok (.istore_n 3, 1) := by decide +kernel
theorem d_Mo_until_93 : decode b_Mo_until 93 = .ok (.iinc 4 1, 3) := by decide +kernel
theorem d_Mo_until_96 : decode b_Mo_until 96 = .ok (.goto (-53), 3) := by decide +kernel
theorem d_Mo_until_99 : decode b_Mo_until 99 = .ok (.goto (-65), 3) := by decide +kernel
theorem d_Mo_until_102 : decode b_Mo_until 102 = .ok (.return_, 1) := by decide +kernel
theorem d_Mo_ways_0 : decode b_Mo_ways 0 = .ok (.aload_n 0, 1) := by decide +kernel
theorem d_Mo_ways_1 : decode b_Mo_ways 1 = .ok (.aload_n 0, 1) := by decide +kernel
theorem d_Mo_ways_2 : decode b_Mo_ways 2 = .ok (.iload_n 1, 1) := by decide +kernel
theorem d_Mo_ways_3 : decode b_Mo_ways 3 = .ok (.invokevirtual 64, 3) := by decide +kernel
theorem d_Mo_ways_6 : decode b_Mo_ways 6 = .ok (.ifCond .ne 7, 3) := by decide +kernel
theorem d_Mo_ways_9 : decode b_Mo_ways 9 = .ok (.iconst 1, 1) := by decide +kernel
theorem d_Mo_ways_10 : decode b_Mo_ways 10 = .ok (.goto 4, 3) := by decide +kernel
theorem d_Mo_ways_13 : decode b_Mo_ways 13 = .ok (.iconst 0, 1) := by decide +kernel
theorem d_Mo_ways_14 : decode b_Mo_ways 14 = .ok (.iconst 0, 1) := by decide +kernel
theorem d_Mo_ways_15 : decode b_Mo_ways 15 = .ok (.iconst 0, 1) := by decide +kernel
theorem d_Mo_ways_16 : decode b_Mo_ways 16 = .ok (.invokevirtual 54, 3) := by decide +kernel
theorem d_Mo_ways_19 : decode b_Mo_ways 19 = .ok (.ifCond .eq 5, 3) := by decide +kernel
theorem d_Mo_ways_22 : decode b_Mo_ways 22 = .ok (.iconst 0, 1) := by decide +kernel
theorem d_Mo_ways_23 : decode b_Mo_ways 23 = .ok (.ireturn, 1) := by decide +kernel
theorem d_Mo_ways_24 : decode b_Mo_ways 24 = .ok (.iconst 0, 1) := by decide +kernel
theorem d_Mo_ways_25 : decode b_Mo_ways 25 = .ok (.istore_n 2, 1) := by decide +kernel
theorem d_Mo_ways_26 : decode b_Mo_ways 26 = .ok (.iload_n 2, 1) := by decide +kernel
theorem d_Mo_ways_27 : decode b_Mo_ways 27 = .ok (.sipush 256, 3) := by decide +kernel
theorem d_Mo_ways_30 : decode b_Mo_ways 30 = .ok (.if_icmp .ge 16, 3) := by decide +kernel
theorem d_Mo_ways_33 : decode b_Mo_ways 33 = .ok (.aload_n 0, 1) := by decide +kernel
theorem d_Mo_ways_34 : decode b_Mo_ways 34 = .ok (.getfield 39, 3) := by decide +kernel
theorem d_Mo_ways_37 : decode b_Mo_ways 37 = .ok (.iload_n 2, 1) := by decide +kernel
theorem d_Mo_ways_38 : decode b_Mo_ways 38 = .ok (.iconst 0, 1) := by decide +kernel
theorem d_Mo_ways_39 : decode b_Mo_ways 39 = .ok (.bastore, 1) := by decide +kernel
theorem d_Mo_ways_40 : decode b_Mo_ways 40 = .ok (.iinc 2 1, 3) := by decide +kernel
theorem d_Mo_ways_43 : decode b_Mo_ways 43 = .ok (.goto (-17), 3) := by decide +kernel
theorem d_Mo_ways_46 : decode b_Mo_ways 46 = .ok (.iconst 0, 1) := by decide +kernel
theorem d_Mo_ways_47 : decode b_Mo_ways 47 = .ok (.istore_n 2, 1) := by decide +kernel
theorem d_Mo_ways_48 : decode b_Mo_ways 48 = .ok (.iconst 0, 1) := by decide +kernel
theorem d_Mo_ways_49 : decode b_Mo_ways 49 = .ok (.istore_n 3, 1) := by decide +kernel
theorem d_Mo_ways_50 : decode b_Mo_ways 50 = .ok (.iload_n 3, 1) := by decide +kernel
theorem d_Mo_ways_51 : decode b_Mo_ways 51 = .ok (.aload_n 0, 1) := by decide +kernel
theorem d_Mo_ways_52 : decode b_Mo_ways 52 = .ok (.getfield 58, 3) := by decide +kernel
theorem d_Mo_ways_55 : decode b_Mo_ways 55 = .ok (.if_icmp .ge 43, 3) := by decide +kernel
theorem d_Mo_ways_58 : decode b_Mo_ways 58 = .ok (.aload_n 0, 1) := by decide +kernel
theorem d_Mo_ways_59 : decode b_Mo_ways 59 = .ok (.iload_n 1, 1) := by decide +kernel
theorem d_Mo_ways_60 : decode b_Mo_ways 60 = .ok (.iload_n 3, 1) := by decide +kernel
theorem d_Mo_ways_61 : decode b_Mo_ways 61 = .ok (.invokevirtual 75, 3) := by decide +kernel
theorem d_Mo_ways_64 : decode b_Mo_ways 64 = .ok (.istore 4, 2) := by decide +kernel
theorem d_Mo_ways_66 : decode b_Mo_ways 66 = .ok (.iload 4, 2) := by decide +kernel
theorem d_Mo_ways_68 : decode b_Mo_ways 68 = .ok (.ifCond .lt 24, 3) := by decide +kernel
theorem d_Mo_ways_71 : decode b_Mo_ways 71 = .ok (.aload_n 0, 1) := by decide +kernel
theorem d_Mo_ways_72 : decode b_Mo_ways 72 = .ok (.getfield 39, 3) := by decide +kernel
theorem d_Mo_ways_75 : decode b_Mo_ways 75 = .ok (.iload 4, 2) := by decide +kernel
theorem d_Mo_ways_77 : decode b_Mo_ways 77 = .ok (.baload, 1) := by decide +kernel
theorem d_Mo_ways_78 : decode b_Mo_ways 78 = .ok (.ifCond .ne 14, 3) := by decide +kernel
theorem d_Mo_ways_81 : decode b_Mo_ways 81 = .ok (.aload_n 0, 1) := by decide +kernel
theorem d_Mo_ways_82 : decode b_Mo_ways 82 = .ok (.getfield 39, 3) := by decide +kernel
theorem d_Mo_ways_85 : decode b_Mo_ways 85 = .ok (.iload 4, 2) := by decide +kernel
theorem d_Mo_ways_87 : decode b_Mo_ways 87 = .ok (.iconst 1, 1) := by decide +kernel
theorem d_Mo_ways_88 : decode b_Mo_ways 88 = .ok (.bastore, 1) := by decide +kernel
theorem d_Mo_ways_89 : decode b_Mo_ways 89 = .ok (.iinc 2 1, 3) := by decide +kernel
theorem d_Mo_ways_92 : decode b_Mo_ways 92 = .ok (.iinc 3 1, 3) := by decide +kernel
theorem d_Mo_ways_95 : decode b_Mo_ways 95 = .ok (.goto (-45), 3) := by decide +kernel
theorem d_Mo_ways_98 : decode b_Mo_ways 98 = .ok (.iload_n 2, 1) := by decide +kernel
theorem d_Mo_ways_99 : decode b_Mo_ways 99 = .ok (.ireturn, 1) := by decide +kernel
theorem d_Mo_witness_0 : decode b_Mo_witness 0 = .ok (.aload_n 0, 1) := by decide +kernel
theorem d_Mo_witness_1 : decode b_Mo_witness 1 = .ok (.iload_n 1, 1) := by decide +kernel
theorem d_Mo_witness_2 : decode b_Mo_witness 2 = .ok (.invokevirtual 72, 3) := by decide +kernel
theorem d_Mo_witness_5 : decode b_Mo_witness 5 = .ok (.ifCond .eq 15, 3) := by decide +kernel
theorem d_Mo_witness_8 : decode b_Mo_witness 8 = .ok (.aload_n 0, 1) := by decide +kernel
theorem d_Mo_witness_9 : decode b_Mo_witness 9 = .ok (.iload_n 2, 1) := by decide +kernel
theorem d_Mo_witness_10 : decode b_Mo_witness 10 = .ok (.invokevirtual 64, 3) := by decide +kernel
theorem d_Mo_witness_13 : decode b_Mo_witness 13 = .ok (.ifCond .eq 7, 3) := by decide +kernel
theorem d_Mo_witness_16 : decode b_Mo_witness 16 = .ok (.iconst 1, 1) := by decide +kernel
theorem d_Mo_witness_17 : decode b_Mo_witness 17 = .ok (.goto 4, 3) := by decide +kernel
theorem d_Mo_witness_20 : decode b_Mo_witness 20 = .ok (.iconst 0, 1) := by decide +kernel
theorem d_Mo_witness_21 : decode b_Mo_witness 21 = .ok (.istore 4, 2) := by decide +kernel
theorem d_Mo_witness_23 : decode b_Mo_witness 23 = .ok (.iload 4, 2) := by decide +kernel
theorem d_Mo_witness_25 : decode b_Mo_witness 25 = .ok (.ifCond .eq 26, 3) := by decide +kernel
theorem d_Mo_witness_28 : decode b_Mo_witness 28 = .ok (.aload_n 0, 1) := by decide +kernel
theorem d_Mo_witness_29 : decode b_Mo_witness 29 = .ok (.getfield 26, 3) := by decide +kernel
theorem d_Mo_witness_32 : decode b_Mo_witness 32 = .ok (.iload 4, 2) := by decide +kernel
theorem d_Mo_witness_34 : decode b_Mo_witness 34 = .ok (.ifCond .eq 7, 3) := by decide +kernel
theorem d_Mo_witness_37 : decode b_Mo_witness 37 = .ok (.iload_n 1, 1) := by decide +kernel
theorem d_Mo_witness_38 : decode b_Mo_witness 38 = .ok (.goto 4, 3) := by decide +kernel
theorem d_Mo_witness_41 : decode b_Mo_witness 41 = .ok (.iconst 0, 1) := by decide +kernel
theorem d_Mo_witness_42 : decode b_Mo_witness 42 = .ok (.iaload, 1) := by decide +kernel
theorem d_Mo_witness_43 : decode b_Mo_witness 43 = .ok (.iconst 5, 1) := by decide +kernel
theorem d_Mo_witness_44 : decode b_Mo_witness 44 = .ok (.if_icmp .ne 7, 3) := by decide +kernel
theorem d_Mo_witness_47 : decode b_Mo_witness 47 = .ok (.iconst 1, 1) := by decide +kernel
theorem d_Mo_witness_48 : decode b_Mo_witness 48 = .ok (.goto 4, 3) := by decide +kernel
theorem d_Mo_witness_51 : decode b_Mo_witness 51 = .ok (.iconst 0, 1) := by decide +kernel
theorem d_Mo_witness_52 : decode b_Mo_witness 52 = .ok (.istore 5, 2) := by decide +kernel
theorem d_Mo_witness_54 : decode b_Mo_witness 54 = .ok (.iload 5, 2) := by decide +kernel
theorem d_Mo_witness_56 : decode b_Mo_witness 56 = .ok (.ifCond .eq 8, 3) := by decide +kernel
theorem d_Mo_witness_59 : decode b_Mo_witness 59 = .ok (.aload_n 0, 1) := by decide +kernel
theorem d_Mo_witness_60 : decode b_Mo_witness 60 = .ok (.iload_n 1, 1) := by decide +kernel
theorem d_Mo_witness_61 : decode b_Mo_witness 61 = .ok (.invokevirtual 107, 3) := by decide +kernel
theorem d_Mo_witness_64 : decode b_Mo_witness 64 = .ok (.iload 5, 2) := by decide +kernel
theorem d_Mo_witness_66 : decode b_Mo_witness 66 = .ok (.ifCond .eq 33, 3) := by decide +kernel
