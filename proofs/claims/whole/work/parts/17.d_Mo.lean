theorem d_Mo_again_0 : decode b_Mo_again 0 = .ok (.iconst 1, 1) := by decide +kernel
theorem d_Mo_again_1 : decode b_Mo_again 1 = .ok (.aload_n 0, 1) := by decide +kernel
theorem d_Mo_again_2 : decode b_Mo_again 2 = .ok (.getfield 7, 3) := by decide +kernel
theorem d_Mo_again_5 : decode b_Mo_again 5 = .ok (.ishl, 1) := by decide +kernel
theorem d_Mo_again_6 : decode b_Mo_again 6 = .ok (.istore 4, 2) := by decide +kernel
theorem d_Mo_again_8 : decode b_Mo_again 8 = .ok (.iconst 0, 1) := by decide +kernel
theorem d_Mo_again_9 : decode b_Mo_again 9 = .ok (.istore 5, 2) := by decide +kernel
theorem d_Mo_again_11 : decode b_Mo_again 11 = .ok (.iload 5, 2) := by decide +kernel
theorem d_Mo_again_13 : decode b_Mo_again 13 = .ok (.iload 4, 2) := by decide +kernel
theorem d_Mo_again_15 : decode b_Mo_again 15 = .ok (.if_icmp .ge 29, 3) := by decide +kernel
theorem d_Mo_again_18 : decode b_Mo_again 18 = .ok (.aload_n 0, 1) := by decide +kernel
theorem d_Mo_again_19 : decode b_Mo_again 19 = .ok (.getfield 35, 3) := by decide +kernel
theorem d_Mo_again_22 : decode b_Mo_again 22 = .ok (.sipush 256, 3) := by decide +kernel
theorem d_Mo_again_25 : decode b_Mo_again 25 = .ok (.iload_n 1, 1) := by decide +kernel
theorem d_Mo_again_26 : decode b_Mo_again 26 = .ok (.imul, 1) := by decide +kernel
theorem d_Mo_again_27 : decode b_Mo_again 27 = .ok (.iload 5, 2) := by decide +kernel
theorem d_Mo_again_29 : decode b_Mo_again 29 = .ok (.iadd, 1) := by decide +kernel
theorem d_Mo_again_30 : decode b_Mo_again 30 = .ok (.aload_n 0, 1) := by decide +kernel
theorem d_Mo_again_31 : decode b_Mo_again 31 = .ok (.iload_n 2, 1) := by decide +kernel
theorem d_Mo_again_32 : decode b_Mo_again 32 = .ok (.iload 5, 2) := by decide +kernel
theorem d_Mo_again_34 : decode b_Mo_again 34 = .ok (.invokevirtual 79, 3) := by decide +kernel
theorem d_Mo_again_37 : decode b_Mo_again 37 = .ok (.bastore, 1) := by decide +kernel
theorem d_Mo_again_38 : decode b_Mo_again 38 = .ok (.iinc 5 1, 3) := by decide +kernel
theorem d_Mo_again_41 : decode b_Mo_again 41 = .ok (.goto (-30), 3) := by decide +kernel
theorem d_Mo_again_44 : decode b_Mo_again 44 = .ok (.iconst 1, 1) := by decide +kernel
theorem d_Mo_again_45 : decode b_Mo_again 45 = .ok (.istore 5, 2) := by decide +kernel
theorem d_Mo_again_47 : decode b_Mo_again 47 = .ok (.iload 5, 2) := by decide +kernel
theorem d_Mo_again_49 : decode b_Mo_again 49 = .ok (.ifCond .eq 119, 3) := by decide +kernel
theorem d_Mo_again_52 : decode b_Mo_again 52 = .ok (.iconst 0, 1) := by decide +kernel
theorem d_Mo_again_53 : decode b_Mo_again 53 = .ok (.istore 5, 2) := by decide +kernel
theorem d_Mo_again_55 : decode b_Mo_again 55 = .ok (.iconst 0, 1) := by decide +kernel
theorem d_Mo_again_56 : decode b_Mo_again 56 = .ok (.istore 6, 2) := by decide +kernel
theorem d_Mo_again_58 : decode b_Mo_again 58 = .ok (.iload 6, 2) := by decide +kernel
theorem d_Mo_again_60 : decode b_Mo_again 60 = .ok (.iload 4, 2) := by decide +kernel
theorem d_Mo_again_62 : decode b_Mo_again 62 = .ok (.if_icmp .ge 41, 3) := by decide +kernel
theorem d_Mo_again_65 : decode b_Mo_again 65 = .ok (.aload_n 0, 1) := by decide +kernel
theorem d_Mo_again_66 : decode b_Mo_again 66 = .ok (.getfield 42, 3) := by decide +kernel
theorem d_Mo_again_69 : decode b_Mo_again 69 = .ok (.iload 6, 2) := by decide +kernel
theorem d_Mo_again_71 : decode b_Mo_again 71 = .ok (.aload_n 0, 1) := by decide +kernel
theorem d_Mo_again_72 : decode b_Mo_again 72 = .ok (.iload_n 1, 1) := by decide +kernel
theorem d_Mo_again_73 : decode b_Mo_again 73 = .ok (.iload 6, 2) := by decide +kernel
theorem d_Mo_again_75 : decode b_Mo_again 75 = .ok (.invokevirtual 79, 3) := by decide +kernel
theorem d_Mo_again_78 : decode b_Mo_again 78 = .ok (.ifCond .eq 17, 3) := by decide +kernel
theorem d_Mo_again_81 : decode b_Mo_again 81 = .ok (.aload_n 0, 1) := by decide +kernel
theorem d_Mo_again_82 : decode b_Mo_again 82 = .ok (.iload_n 3, 1) := by decide +kernel
theorem d_Mo_again_83 : decode b_Mo_again 83 = .ok (.iload 6, 2) := by decide +kernel
theorem d_Mo_again_85 : decode b_Mo_again 85 = .ok (.invokevirtual 79, 3) := by decide +kernel
theorem d_Mo_again_88 : decode b_Mo_again 88 = .ok (.ifCond .eq 7, 3) := by decide +kernel
theorem d_Mo_again_91 : decode b_Mo_again 91 = .ok (.iconst 1, 1) := by decide +kernel
theorem d_Mo_again_92 : decode b_Mo_again 92 = .ok (.goto 4, 3) := by decide +kernel
theorem d_Mo_again_95 : decode b_Mo_again 95 = .ok (.iconst 0, 1) := by decide +kernel
theorem d_Mo_again_96 : decode b_Mo_again 96 = .ok (.bastore, 1) := by decide +kernel
theorem d_Mo_again_97 : decode b_Mo_again 97 = .ok (.iinc 6 1, 3) := by decide +kernel
theorem d_Mo_again_100 : decode b_Mo_again 100 = .ok (.goto (-42), 3) := by decide +kernel
theorem d_Mo_again_103 : decode b_Mo_again 103 = .ok (.aload_n 0, 1) := by decide +kernel
theorem d_Mo_again_104 : decode b_Mo_again 104 = .ok (.iload_n 2, 1) := by decide +kernel
theorem d_Mo_again_105 : decode b_Mo_again 105 = .ok (.invokevirtual 86, 3) := by decide +kernel
theorem d_Mo_again_108 : decode b_Mo_again 108 = .ok (.iconst 0, 1) := by decide +kernel
theorem d_Mo_again_109 : decode b_Mo_again 109 = .ok (.istore 6, 2) := by decide +kernel
theorem d_Mo_again_111 : decode b_Mo_again 111 = .ok (.iload 6, 2) := by decide +kernel
theorem d_Mo_again_113 : decode b_Mo_again 113 = .ok (.iload 4, 2) := by decide +kernel
theorem d_Mo_again_115 : decode b_Mo_again 115 = .ok (.if_icmp .ge 50, 3) := by decide +kernel
theorem d_Mo_again_118 : decode b_Mo_again 118 = .ok (.aload_n 0, 1) := by decide +kernel
theorem d_Mo_again_119 : decode b_Mo_again 119 = .ok (.iload_n 1, 1) := by decide +kernel
theorem d_Mo_again_120 : decode b_Mo_again 120 = .ok (.iload 6, 2) := by decide +kernel
theorem d_Mo_again_122 : decode b_Mo_again 122 = .ok (.invokevirtual 79, 3) := by decide +kernel
theorem d_Mo_again_125 : decode b_Mo_again 125 = .ok (.ifCond .eq 34, 3) := by decide +kernel
theorem d_Mo_again_128 : decode b_Mo_again 128 = .ok (.aload_n 0, 1) := by decide +kernel
theorem d_Mo_again_129 : decode b_Mo_again 129 = .ok (.iload 6, 2) := by decide +kernel
theorem d_Mo_again_131 : decode b_Mo_again 131 = .ok (.aload_n 0, 1) := by decide +kernel
theorem d_Mo_again_132 : decode b_Mo_again 132 = .ok (.getfield 39, 3) := by decide +kernel
theorem d_Mo_again_135 : decode b_Mo_again 135 = .ok (.iconst 0, 1) := by decide +kernel
theorem d_Mo_again_136 : decode b_Mo_again 136 = .ok (.invokevirtual 82, 3) := by decide +kernel
theorem d_Mo_again_139 : decode b_Mo_again 139 = .ok (.ifCond .ne 20, 3) := by decide +kernel
theorem d_Mo_again_142 : decode b_Mo_again 142 = .ok (.aload_n 0, 1) := by decide +kernel
theorem d_Mo_again_143 : decode b_Mo_again 143 = .ok (.getfield 35, 3) := by decide +kernel
theorem d_Mo_again_146 : decode b_Mo_again 146 = .ok (.sipush 256, 3) := by decide +kernel
theorem d_Mo_again_149 : decode b_Mo_again 149 = .ok (.iload_n 1, 1) := by decide +kernel
theorem d_Mo_again_150 : decode b_Mo_again 150 = .ok (.imul, 1) := by decide +kernel
theorem d_Mo_again_151 : decode b_Mo_again 151 = .ok (.iload 6, 2) := by decide +kernel
theorem d_Mo_again_153 : decode b_Mo_again 153 = .ok (.iadd, 1) := by decide +kernel
theorem d_Mo_again_154 : decode b_Mo_again 154 = .ok (.iconst 0, 1) := by decide +kernel
theorem d_Mo_again_155 : decode b_Mo_again 155 = .ok (.bastore, 1) := by decide +kernel
theorem d_Mo_again_156 : decode b_Mo_again 156 = .ok (.iconst 1, 1) := by decide +kernel
theorem d_Mo_again_157 : decode b_Mo_again 157 = .ok (.istore 5, 2) := by decide +kernel
theorem d_Mo_again_159 : decode b_Mo_again 159 = .ok (.iinc 6 1, 3) := by decide +kernel
theorem d_Mo_again_162 : decode b_Mo_again 162 = .ok (.goto (-51), 3) := by decide +kernel
theorem d_Mo_again_165 : decode b_Mo_again 165 = .ok (.goto (-118), 3) := by decide +kernel
theorem d_Mo_again_168 : decode b_Mo_again 168 = .ok (.return_, 1) := by decide +kernel
theorem d_Mo_always_0 : decode b_Mo_always 0 = .ok (.iconst 1, 1) := by decide +kernel
theorem d_Mo_always_1 : decode b_Mo_always 1 = .ok (.aload_n 0, 1) := by decide +kernel
theorem d_Mo_always_2 : decode b_Mo_always 2 = .ok (.getfield 7, 3) := by decide +kernel
theorem d_Mo_always_5 : decode b_Mo_always 5 = .ok (.ishl, 1) := by decide +kernel
theorem d_Mo_always_6 : decode b_Mo_always 6 = .ok (.istore_n 3, 1) := by decide +kernel
theorem d_Mo_always_7 : decode b_Mo_always 7 = .ok (.iconst 0, 1) := by decide +kernel
theorem d_Mo_always_8 : decode b_Mo_always 8 = .ok (.istore 4, 2) := by decide +kernel
theorem d_Mo_always_10 : decode b_Mo_always 10 = .ok (.iload 4, 2) := by decide +kernel
theorem d_Mo_always_12 : decode b_Mo_always 12 = .ok (.iload_n 3, 1) := by decide +kernel
theorem d_Mo_always_13 : decode b_Mo_always 13 = .ok (.if_icmp .ge 29, 3) := by decide +kernel
theorem d_Mo_always_16 : decode b_Mo_always 16 = .ok (.aload_n 0, 1) := by decide +kernel
theorem d_Mo_always_17 : decode b_Mo_always 17 = .ok (.getfield 35, 3) := by decide +kernel
theorem d_Mo_always_20 : decode b_Mo_always 20 = .ok (.sipush 256, 3) := by decide +kernel
theorem d_Mo_always_23 : decode b_Mo_always 23 = .ok (.iload_n 1, 1) := by decide +kernel
theorem d_Mo_always_24 : decode b_Mo_always 24 = .ok (.imul, 1) := by decide +kernel
theorem d_Mo_always_25 : decode b_Mo_always 25 = .ok (.iload 4, 2) := by decide +kernel
theorem d_Mo_always_27 : decode b_Mo_always 27 = .ok (.iadd, 1) := by decide +kernel
theorem d_Mo_always_28 : decode b_Mo_always 28 = .ok (.aload_n 0, 1) := by decide +kernel
theorem d_Mo_always_29 : decode b_Mo_always 29 = .ok (.iload_n 2, 1) := by decide +kernel
theorem d_Mo_always_30 : decode b_Mo_always 30 = .ok (.iload 4, 2) := by decide +kernel
theorem d_Mo_always_32 : decode b_Mo_always 32 = .ok (.invokevirtual 79, 3) := by decide +kernel
theorem d_Mo_always_35 : decode b_Mo_always 35 = .ok (.bastore, 1) := by decide +kernel
theorem d_Mo_always_36 : decode b_Mo_always 36 = .ok (.iinc 4 1, 3) := by decide +kernel
theorem d_Mo_always_39 : decode b_Mo_always 39 = .ok (.goto (-29), 3) := by decide +kernel
theorem d_Mo_always_42 : decode b_Mo_always 42 = .ok (.iconst 1, 1) := by decide +kernel
theorem d_Mo_always_43 : decode b_Mo_always 43 = .ok (.istore 4, 2) := by decide +kernel
theorem d_Mo_always_45 : decode b_Mo_always 45 = .ok (.iload 4, 2) := by decide +kernel
theorem d_Mo_always_47 : decode b_Mo_always 47 = .ok (.ifCond .eq 69, 3) := by decide +kernel
theorem d_Mo_always_50 : decode b_Mo_always 50 = .ok (.iconst 0, 1) := by decide +kernel
theorem d_Mo_always_51 : decode b_Mo_always 51 = .ok (.istore 4, 2) := by decide +kernel
theorem d_Mo_always_53 : decode b_Mo_always 53 = .ok (.iconst 0, 1) := by decide +kernel
theorem d_Mo_always_54 : decode b_Mo_always 54 = .ok (.istore 5, 2) := by decide +kernel
theorem d_Mo_always_56 : decode b_Mo_always 56 = .ok (.iload 5, 2) := by decide +kernel
theorem d_Mo_always_58 : decode b_Mo_always 58 = .ok (.iload_n 3, 1) := by decide +kernel
theorem d_Mo_always_59 : decode b_Mo_always 59 = .ok (.if_icmp .ge 54, 3) := by decide +kernel
theorem d_Mo_always_62 : decode b_Mo_always 62 = .ok (.aload_n 0, 1) := by decide +kernel
theorem d_Mo_always_63 : decode b_Mo_always 63 = .ok (.iload_n 1, 1) := by decide +kernel
theorem d_Mo_always_64 : decode b_Mo_always 64 = .ok (.iload 5, 2) := by decide +kernel
theorem d_Mo_always_66 : decode b_Mo_always 66 = .ok (.invokevirtual 79, 3) := by decide +kernel
theorem d_Mo_always_69 : decode b_Mo_always 69 = .ok (.ifCond .eq 38, 3) := by decide +kernel
theorem d_Mo_always_72 : decode b_Mo_always 72 = .ok (.aload_n 0, 1) := by decide +kernel
theorem d_Mo_always_73 : decode b_Mo_always 73 = .ok (.iload 5, 2) := by decide +kernel
theorem d_Mo_always_75 : decode b_Mo_always 75 = .ok (.aload_n 0, 1) := by decide +kernel
theorem d_Mo_always_76 : decode b_Mo_always 76 = .ok (.getfield 35, 3) := by decide +kernel
theorem d_Mo_always_79 : decode b_Mo_always 79 = .ok (.sipush 256, 3) := by decide +kernel
theorem d_Mo_always_82 : decode b_Mo_always 82 = .ok (.iload_n 1, 1) := by decide +kernel
theorem d_Mo_always_83 : decode b_Mo_always 83 = .ok (.imul, 1) := by decide +kernel
theorem d_Mo_always_84 : decode b_Mo_always 84 = .ok (.invokevirtual 82, 3) := by decide +kernel
theorem d_Mo_always_87 : decode b_Mo_always 87 = .ok (.ifCond .ne 20, 3) := by decide +kernel
theorem d_Mo_always_90 : decode b_Mo_always 90 = .ok (.aload_n 0, 1) := by decide +kernel
theorem d_Mo_always_91 : decode b_Mo_always 91 = .ok (.getfield 35, 3) := by decide +kernel
theorem d_Mo_always_94 : decode b_Mo_always 94 = .ok (.sipush 256, 3) := by decide +kernel
theorem d_Mo_always_97 : decode b_Mo_always 97 = .ok (.iload_n 1, 1) := by decide +kernel
theorem d_Mo_always_98 : decode b_Mo_always 98 = .ok (.imul, 1) := by decide +kernel
theorem d_Mo_always_99 : decode b_Mo_always 99 = .ok (.iload 5, 2) := by decide +kernel
theorem d_Mo_always_101 : decode b_Mo_always 101 = .ok (.iadd, 1) := by decide +kernel
theorem d_Mo_always_102 : decode b_Mo_always 102 = .ok (.iconst 0, 1) := by decide +kernel
theorem d_Mo_always_103 : decode b_Mo_always 103 = .ok (.bastore, 1) := by decide +kernel
theorem d_Mo_always_104 : decode b_Mo_always 104 = .ok (.iconst 1, 1) := by decide +kernel
theorem d_Mo_always_105 : decode b_Mo_always 105 = .ok (.istore 4, 2) := by decide +kernel
theorem d_Mo_always_107 : decode b_Mo_always 107 = .ok (.iinc 5 1, 3) := by decide +kernel
theorem d_Mo_always_110 : decode b_Mo_always 110 = .ok (.goto (-54), 3) := by decide +kernel
theorem d_Mo_always_113 : decode b_Mo_always 113 = .ok (.goto (-68), 3) := by decide +kernel
theorem d_Mo_always_116 : decode b_Mo_always 116 = .ok (.return_, 1) := by decide +kernel
theorem d_Mo_begin_0 : decode b_Mo_begin 0 = .ok (.aload_n 0, 1) := by decide +kernel
theorem d_Mo_begin_1 : decode b_Mo_begin 1 = .ok (.iload_n 1, 1) := by decide +kernel
theorem d_Mo_begin_2 : decode b_Mo_begin 2 = .ok (.iconst 1, 1) := by decide +kernel
theorem d_Mo_begin_3 : decode b_Mo_begin 3 = .ok (.if_icmp .lt 9, 3) := by decide +kernel
theorem d_Mo_begin_6 : decode b_Mo_begin 6 = .ok (.iload_n 1, 1) := by decide +kernel
theorem d_Mo_begin_7 : decode b_Mo_begin 7 = .ok (.bipush 8, 2) := by decide +kernel
theorem d_Mo_begin_9 : decode b_Mo_begin 9 = .ok (.if_icmp .le 7, 3) := by decide +kernel
theorem d_Mo_begin_12 : decode b_Mo_begin 12 = .ok (.iconst 1, 1) := by decide +kernel
theorem d_Mo_begin_13 : decode b_Mo_begin 13 = .ok (.goto 4, 3) := by decide +kernel
theorem d_Mo_begin_16 : decode b_Mo_begin 16 = .ok (.iconst 0, 1) := by decide +kernel
theorem d_Mo_begin_17 : decode b_Mo_begin 17 = .ok (.iconst 0, 1) := by decide +kernel
theorem d_Mo_begin_18 : decode b_Mo_begin 18 = .ok (.iconst 0, 1) := by decide +kernel
theorem d_Mo_begin_19 : decode b_Mo_begin 19 = .ok (.invokevirtual 54, 3) := by decide +kernel
theorem d_Mo_begin_22 : decode b_Mo_begin 22 = .ok (.ifCond .ne 23, 3) := by decide +kernel
theorem d_Mo_begin_25 : decode b_Mo_begin 25 = .ok (.aload_n 0, 1) := by decide +kernel
theorem d_Mo_begin_26 : decode b_Mo_begin 26 = .ok (.iload_n 1, 1) := by decide +kernel
theorem d_Mo_begin_27 : decode b_Mo_begin 27 = .ok (.putfield 7, 3) := by decide +kernel
theorem d_Mo_begin_30 : decode b_Mo_begin 30 = .ok (.aload_n 0, 1) := by decide +kernel
theorem d_Mo_begin_31 : decode b_Mo_begin 31 = .ok (.iconst 0, 1) := by decide +kernel
theorem d_Mo_begin_32 : decode b_Mo_begin 32 = .ok (.putfield 58, 3) := by decide +kernel
theorem d_Mo_begin_35 : decode b_Mo_begin 35 = .ok (.aload_n 0, 1) := by decide +kernel
theorem d_Mo_begin_36 : decode b_Mo_begin 36 = .ok (.iconst 0, 1) := by decide +kernel
theorem d_Mo_begin_37 : decode b_Mo_begin 37 = .ok (.putfield 51, 3) := by decide +kernel
theorem d_Mo_begin_40 : decode b_Mo_begin 40 = .ok (.aload_n 0, 1) := by decide +kernel
theorem d_Mo_begin_41 : decode b_Mo_begin 41 = .ok (.iconst 0, 1) := by decide +kernel
theorem d_Mo_begin_42 : decode b_Mo_begin 42 = .ok (.putfield 61, 3) := by decide +kernel
theorem d_Mo_begin_45 : decode b_Mo_begin 45 = .ok (.return_, 1) := by decide +kernel
theorem d_Mo_count_0 : decode b_Mo_count 0 = .ok (.aload_n 0, 1) := by decide +kernel
theorem d_Mo_count_1 : decode b_Mo_count 1 = .ok (.aload_n 0, 1) := by decide +kernel
theorem d_Mo_count_2 : decode b_Mo_count 2 = .ok (.iload_n 1, 1) := by decide +kernel
theorem d_Mo_count_3 : decode b_Mo_count 3 = .ok (.invokevirtual 72, 3) := by decide +kernel
theorem d_Mo_count_6 : decode b_Mo_count 6 = .ok (.ifCond .ne 7, 3) := by decide +kernel
theorem d_Mo_count_9 : decode b_Mo_count 9 = .ok (.iconst 1, 1) := by decide +kernel
theorem d_Mo_count_10 : decode b_Mo_count 10 = .ok (.goto 4, 3) := by decide +kernel
theorem d_Mo_count_13 : decode b_Mo_count 13 = .ok (.iconst 0, 1) := by decide +kernel
theorem d_Mo_count_14 : decode b_Mo_count 14 = .ok (.iconst 0, 1) := by decide +kernel
theorem d_Mo_count_15 : decode b_Mo_count 15 = .ok (.iconst 0, 1) := by decide +kernel
theorem d_Mo_count_16 : decode b_Mo_count 16 = .ok (.invokevirtual 54, 3) := by decide +kernel
theorem d_Mo_count_19 : decode b_Mo_count 19 = .ok (.ifCond .eq 5, 3) := by decide +kernel
theorem d_Mo_count_22 : decode b_Mo_count 22 = .ok (.iconst 0, 1) := by decide +kernel
theorem d_Mo_count_23 : decode b_Mo_count 23 = .ok (.ireturn, 1) := by decide +kernel
theorem d_Mo_count_24 : decode b_Mo_count 24 = .ok (.aload_n 0, 1) := by decide +kernel
theorem d_Mo_count_25 : decode b_Mo_count 25 = .ok (.iload_n 1, 1) := by decide +kernel
theorem d_Mo_count_26 : decode b_Mo_count 26 = .ok (.invokevirtual 104, 3) := by decide +kernel
theorem d_Mo_count_29 : decode b_Mo_count 29 = .ok (.iconst 0, 1) := by decide +kernel
theorem d_Mo_count_30 : decode b_Mo_count 30 = .ok (.istore_n 2, 1) := by decide +kernel
theorem d_Mo_count_31 : decode b_Mo_count 31 = .ok (.iconst 0, 1) := by decide +kernel
theorem d_Mo_count_32 : decode b_Mo_count 32 = .ok (.istore_n 3, 1) := by decide +kernel
theorem d_Mo_count_33 : decode b_Mo_count 33 = .ok (.iload_n 3, 1) := by decide +kernel
theorem d_Mo_count_34 : decode b_Mo_count 34 = .ok (.iconst 1, 1) := by decide +kernel
theorem d_Mo_count_35 : decode b_Mo_count 35 = .ok (.aload_n 0, 1) := by decide +kernel
theorem d_Mo_count_36 : decode b_Mo_count 36 = .ok (.getfield 7, 3) := by decide +kernel
theorem d_Mo_count_39 : decode b_Mo_count 39 = .ok (.ishl, 1) := by decide +kernel
theorem d_Mo_count_40 : decode b_Mo_count 40 = .ok (.if_icmp .ge 26, 3) := by decide +kernel
theorem d_Mo_count_43 : decode b_Mo_count 43 = .ok (.aload_n 0, 1) := by decide +kernel
theorem d_Mo_count_44 : decode b_Mo_count 44 = .ok (.iload_n 1, 1) := by decide +kernel
theorem d_Mo_count_45 : decode b_Mo_count 45 = .ok (.iload_n 3, 1) := by decide +kernel
theorem d_Mo_count_46 : decode b_Mo_count 46 = .ok (.invokevirtual 79, 3) := by decide +kernel
theorem d_Mo_count_49 : decode b_Mo_count 49 = .ok (.ifCond .eq 9, 3) := by decide +kernel
theorem d_Mo_count_52 : decode b_Mo_count 52 = .ok (.iload_n 2, 1) := by decide +kernel
theorem d_Mo_count_53 : decode b_Mo_count 53 = .ok (.iconst 1, 1) := by decide +kernel
theorem d_Mo_count_54 : decode b_Mo_count 54 = .ok (.iadd, 1) := by decide +kernel
theorem d_Mo_count_55 : decode b_Mo_count 55 = .ok (.goto 4, 3) := by decide +kernel
theorem d_Mo_count_58 : decode b_Mo_count 58 = .ok (.iload_n 2, 1) := by decide +kernel
theorem d_Mo_count_59 : decode b_Mo_count 59 = .ok (.istore_n 2, 1) := by decide +kernel
theorem d_Mo_count_60 : decode b_Mo_count 60 = .ok (.iinc 3 1, 3) := by decide +kernel
theorem d_Mo_count_63 : decode b_Mo_count 63 = .ok (.goto (-30), 3) := by decide +kernel
theorem d_Mo_count_66 : decode b_Mo_count 66 = .ok (.iload_n 2, 1) := by decide +kernel
theorem d_Mo_count_67 : decode b_Mo_count 67 = .ok (.ireturn, 1) := by decide +kernel
theorem d_Mo_first_0 : decode b_Mo_first 0 = .ok (.aload_n 0, 1) := by decide +kernel
theorem d_Mo_first_1 : decode b_Mo_first 1 = .ok (.aload_n 0, 1) := by decide +kernel
theorem d_Mo_first_2 : decode b_Mo_first 2 = .ok (.iload_n 1, 1) := by decide +kernel
theorem d_Mo_first_3 : decode b_Mo_first 3 = .ok (.invokevirtual 72, 3) := by decide +kernel
theorem d_Mo_first_6 : decode b_Mo_first 6 = .ok (.ifCond .eq 11, 3) := by decide +kernel
theorem d_Mo_first_9 : decode b_Mo_first 9 = .ok (.aload_n 0, 1) := by decide +kernel
theorem d_Mo_first_10 : decode b_Mo_first 10 = .ok (.iload_n 2, 1) := by decide +kernel
theorem d_Mo_first_11 : decode b_Mo_first 11 = .ok (.invokevirtual 64, 3) := by decide +kernel
theorem d_Mo_first_14 : decode b_Mo_first 14 = .ok (.ifCond .ne 7, 3) := by decide +kernel
theorem d_Mo_first_17 : decode b_Mo_first 17 = .ok (.iconst 1, 1) := by decide +kernel
theorem d_Mo_first_18 : decode b_Mo_first 18 = .ok (.goto 4, 3) := by decide +kernel
theorem d_Mo_first_21 : decode b_Mo_first 21 = .ok (.iconst 0, 1) := by decide +kernel
theorem d_Mo_first_22 : decode b_Mo_first 22 = .ok (.iconst 0, 1) := by decide +kernel
theorem d_Mo_first_23 : decode b_Mo_first 23 = .ok (.iconst 0, 1) := by decide +kernel
theorem d_Mo_first_24 : decode b_Mo_first 24 = .ok (.invokevirtual 54, 3) := by decide +kernel
theorem d_Mo_first_27 : decode b_Mo_first 27 = .ok (.ifCond .eq 5, 3) := by decide +kernel
theorem d_Mo_first_30 : decode b_Mo_first 30 = .ok (.iconst 0, 1) := by decide +kernel
theorem d_Mo_first_31 : decode b_Mo_first 31 = .ok (.ireturn, 1) := by decide +kernel
theorem d_Mo_first_32 : decode b_Mo_first 32 = .ok (.aload_n 0, 1) := by decide +kernel
theorem d_Mo_first_33 : decode b_Mo_first 33 = .ok (.iload_n 1, 1) := by decide +kernel
theorem d_Mo_first_34 : decode b_Mo_first 34 = .ok (.invokevirtual 104, 3) := by decide +kernel
theorem d_Mo_first_37 : decode b_Mo_first 37 = .ok (.iload_n 2, 1) := by decide +kernel
theorem d_Mo_first_38 : decode b_Mo_first 38 = .ok (.istore_n 3, 1) := by decide +kernel
theorem d_Mo_first_39 : decode b_Mo_first 39 = .ok (.iload_n 3, 1) := by decide +kernel
theorem d_Mo_first_40 : decode b_Mo_first 40 = .ok (.iconst 1, 1) := by decide +kernel
theorem d_Mo_first_41 : decode b_Mo_first 41 = .ok (.aload_n 0, 1) := by decide +kernel
theorem d_Mo_first_42 : decode b_Mo_first 42 = .ok (.getfield 7, 3) := by decide +kernel
theorem d_Mo_first_45 : decode b_Mo_first 45 = .ok (.ishl, 1) := by decide +kernel
theorem d_Mo_first_46 : decode b_Mo_first 46 = .ok (.if_icmp .ge 20, 3) := by decide +kernel
theorem d_Mo_first_49 : decode b_Mo_first 49 = .ok (.aload_n 0, 1) := by decide +kernel
theorem d_Mo_first_50 : decode b_Mo_first 50 = .ok (.iload_n 1, 1) := by decide +kernel
theorem d_Mo_first_51 : decode b_Mo_first 51 = .ok (.iload_n 3, 1) := by decide +kernel
theorem d_Mo_first_52 : decode b_Mo_first 52 = .ok (.invokevirtual 79, 3) := by decide +kernel
theorem d_Mo_first_55 : decode b_Mo_first 55 = .ok (.ifCond .eq 5, 3) := by decide +kernel
theorem d_Mo_first_58 : decode b_Mo_first 58 = .ok (.iload_n 3, 1) := by decide +kernel
theorem d_Mo_first_59 : decode b_Mo_first 59 = .ok (.ireturn, 1) := by decide +kernel
theorem d_Mo_first_60 : decode b_Mo_first 60 = .ok (.iinc 3 1, 3) := by decide +kernel
theorem d_Mo_first_63 : decode b_Mo_first 63 = .ok (.goto (-24), 3) := by decide +kernel
theorem d_Mo_first_66 : decode b_Mo_first 66 = .ok (.iconst (-1), 1) := by decide +kernel
theorem d_Mo_first_67 : decode b_Mo_first 67 = .ok (.ireturn, 1) := by decide +kernel
theorem d_Mo_formula_0 : decode b_Mo_formula 0 = .ok (.iload_n 1, 1) := by decide +kernel
theorem d_Mo_formula_1 : decode b_Mo_formula 1 = .ok (.iconst 2, 1) := by decide +kernel
theorem d_Mo_formula_2 : decode b_Mo_formula 2 = .ok (.if_icmp .eq 19, 3) := by decide +kernel
theorem d_Mo_formula_5 : decode b_Mo_formula 5 = .ok (.iload_n 1, 1) := by decide +kernel
theorem d_Mo_formula_6 : decode b_Mo_formula 6 = .ok (.iconst 3, 1) := by decide +kernel
theorem d_Mo_formula_7 : decode b_Mo_formula 7 = .ok (.if_icmp .eq 14, 3) := by decide +kernel
theorem d_Mo_formula_10 : decode b_Mo_formula 10 = .ok (.iload_n 1, 1) := by decide +kernel
theorem d_Mo_formula_11 : decode b_Mo_formula 11 = .ok (.iconst 5, 1) := by decide +kernel
theorem d_Mo_formula_12 : decode b_Mo_formula 12 = .ok (.if_icmp .eq 9, 3) := by decide +kernel
theorem d_Mo_formula_15 : decode b_Mo_formula 15 = .ok (.iload_n 1, 1) := by decide +kernel
theorem d_Mo_formula_16 : decode b_Mo_formula 16 = .ok (.bipush 7, 2) := by decide +kernel
theorem d_Mo_formula_18 : decode b_Mo_formula 18 = .ok (.if_icmp .ne 7, 3) := by decide +kernel
theorem d_Mo_formula_21 : decode b_Mo_formula 21 = .ok (.iconst 1, 1) := by decide +kernel
theorem d_Mo_formula_22 : decode b_Mo_formula 22 = .ok (.goto 4, 3) := by decide +kernel
theorem d_Mo_formula_25 : decode b_Mo_formula 25 = .ok (.iconst 0, 1) := by decide +kernel
theorem d_Mo_formula_26 : decode b_Mo_formula 26 = .ok (.istore 4, 2) := by decide +kernel
theorem d_Mo_formula_28 : decode b_Mo_formula 28 = .ok (.iload_n 1, 1) := by decide +kernel
theorem d_Mo_formula_29 : decode b_Mo_formula 29 = .ok (.ifCond .lt 50, 3) := by decide +kernel
theorem d_Mo_formula_32 : decode b_Mo_formula 32 = .ok (.iload_n 1, 1) := by decide +kernel
theorem d_Mo_formula_33 : decode b_Mo_formula 33 = .ok (.bipush 7, 2) := by decide +kernel
theorem d_Mo_formula_35 : decode b_Mo_formula 35 = .ok (.if_icmp .gt 44, 3) := by decide +kernel
theorem d_Mo_formula_38 : decode b_Mo_formula 38 = .ok (.iload_n 1, 1) := by decide +kernel
theorem d_Mo_formula_39 : decode b_Mo_formula 39 = .ok (.ifCond .ne 15, 3) := by decide +kernel
theorem d_Mo_formula_42 : decode b_Mo_formula 42 = .ok (.aload_n 0, 1) := by decide +kernel
theorem d_Mo_formula_43 : decode b_Mo_formula 43 = .ok (.iload_n 2, 1) := by decide +kernel
theorem d_Mo_formula_44 : decode b_Mo_formula 44 = .ok (.iload_n 3, 1) := by decide +kernel
theorem d_Mo_formula_45 : decode b_Mo_formula 45 = .ok (.invokevirtual 68, 3) := by decide +kernel
theorem d_Mo_formula_48 : decode b_Mo_formula 48 = .ok (.ifCond .eq 31, 3) := by decide +kernel
theorem d_Mo_formula_51 : decode b_Mo_formula 51 = .ok (.goto 24, 3) := by decide +kernel
theorem d_Mo_formula_54 : decode b_Mo_formula 54 = .ok (.aload_n 0, 1) := by decide +kernel
theorem d_Mo_formula_55 : decode b_Mo_formula 55 = .ok (.iload_n 2, 1) := by decide +kernel
theorem d_Mo_formula_56 : decode b_Mo_formula 56 = .ok (.invokevirtual 72, 3) := by decide +kernel
theorem d_Mo_formula_59 : decode b_Mo_formula 59 = .ok (.ifCond .eq 20, 3) := by decide +kernel
theorem d_Mo_formula_62 : decode b_Mo_formula 62 = .ok (.iload 4, 2) := by decide +kernel
theorem d_Mo_formula_64 : decode b_Mo_formula 64 = .ok (.ifCond .eq 11, 3) := by decide +kernel
theorem d_Mo_formula_67 : decode b_Mo_formula 67 = .ok (.aload_n 0, 1) := by decide +kernel
theorem d_Mo_formula_68 : decode b_Mo_formula 68 = .ok (.iload_n 3, 1) := by decide +kernel
theorem d_Mo_formula_69 : decode b_Mo_formula 69 = .ok (.invokevirtual 72, 3) := by decide +kernel
theorem d_Mo_formula_72 : decode b_Mo_formula 72 = .ok (.ifCond .eq 7, 3) := by decide +kernel
theorem d_Mo_formula_75 : decode b_Mo_formula 75 = .ok (.iconst 1, 1) := by decide +kernel
theorem d_Mo_formula_76 : decode b_Mo_formula 76 = .ok (.goto 4, 3) := by decide +kernel
theorem d_Mo_formula_79 : decode b_Mo_formula 79 = .ok (.iconst 0, 1) := by decide +kernel
theorem d_Mo_formula_80 : decode b_Mo_formula 80 = .ok (.istore 5, 2) := by decide +kernel
theorem d_Mo_formula_82 : decode b_Mo_formula 82 = .ok (.aload_n 0, 1) := by decide +kernel
theorem d_Mo_formula_83 : decode b_Mo_formula 83 = .ok (.iload 5, 2) := by decide +kernel
theorem d_Mo_formula_85 : decode b_Mo_formula 85 = .ok (.ifCond .ne 7, 3) := by decide +kernel
theorem d_Mo_formula_88 : decode b_Mo_formula 88 = .ok (.iconst 1, 1) := by decide +kernel
theorem d_Mo_formula_89 : decode b_Mo_formula 89 = .ok (.goto 4, 3) := by decide +kernel
theorem d_Mo_formula_92 : decode b_Mo_formula 92 = .ok (.iconst 0, 1) := by decide +kernel
theorem d_Mo_formula_93 : decode b_Mo_formula 93 = .ok (.iload 5, 2) := by decide +kernel
theorem d_Mo_formula_95 : decode b_Mo_formula 95 = .ok (.ifCond .eq 16, 3) := by decide +kernel
theorem d_Mo_formula_98 : decode b_Mo_formula 98 = .ok (.aload_n 0, 1) := by decide +kernel
theorem d_Mo_formula_99 : decode b_Mo_formula 99 = .ok (.getfield 51, 3) := by decide +kernel
theorem d_Mo_formula_102 : decode b_Mo_formula 102 = .ok (.bipush 60, 2) := by decide +kernel
theorem d_Mo_formula_104 : decode b_Mo_formula 104 = .ok (.if_icmp .ne 7, 3) := by decide +kernel
theorem d_Mo_formula_107 : decode b_Mo_formula 107 = .ok (.iconst 1, 1) := by decide +kernel
theorem d_Mo_formula_108 : decode b_Mo_formula 108 = .ok (.goto 4, 3) := by decide +kernel
theorem d_Mo_formula_111 : decode b_Mo_formula 111 = .ok (.iconst 0, 1) := by decide +kernel
theorem d_Mo_formula_112 : decode b_Mo_formula 112 = .ok (.iconst 0, 1) := by decide +kernel
theorem d_Mo_formula_113 : decode b_Mo_formula 113 = .ok (.invokevirtual 54, 3) := by decide +kernel
theorem d_Mo_formula_116 : decode b_Mo_formula 116 = .ok (.ifCond .eq 5, 3) := by decide +kernel
theorem d_Mo_formula_119 : decode b_Mo_formula 119 = .ok (.iconst 0, 1) := by decide +kernel
theorem d_Mo_formula_120 : decode b_Mo_formula 120 = .ok (.ireturn, 1) := by decide +kernel
theorem d_Mo_formula_121 : decode b_Mo_formula 121 = .ok (.aload_n 0, 1) := by decide +kernel
theorem d_Mo_formula_122 : decode b_Mo_formula 122 = .ok (.getfield 26, 3) := by decide +kernel
theorem d_Mo_formula_125 : decode b_Mo_formula 125 = .ok (.aload_n 0, 1) := by decide +kernel
theorem d_Mo_formula_126 : decode b_Mo_formula 126 = .ok (.getfield 51, 3) := by decide +kernel
theorem d_Mo_formula_129 : decode b_Mo_formula 129 = .ok (.iload_n 1, 1) := by decide +kernel
theorem d_Mo_formula_130 : decode b_Mo_formula 130 = .ok (.iastore, 1) := by decide +kernel
theorem d_Mo_formula_131 : decode b_Mo_formula 131 = .ok (.aload_n 0, 1) := by decide +kernel
theorem d_Mo_formula_132 : decode b_Mo_formula 132 = .ok (.getfield 29, 3) := by decide +kernel
theorem d_Mo_formula_135 : decode b_Mo_formula 135 = .ok (.aload_n 0, 1) := by decide +kernel
theorem d_Mo_formula_136 : decode b_Mo_formula 136 = .ok (.getfield 51, 3) := by decide +kernel
theorem d_Mo_formula_139 : decode b_Mo_formula 139 = .ok (.iload_n 2, 1) := by decide +kernel
theorem d_Mo_formula_140 : decode b_Mo_formula 140 = .ok (.iastore, 1) := by decide +kernel
theorem d_Mo_formula_141 : decode b_Mo_formula 141 = .ok (.aload_n 0, 1) := by decide +kernel
theorem d_Mo_formula_142 : decode b_Mo_formula 142 = .ok (.getfield 32, 3) := by decide +kernel
theorem d_Mo_formula_145 : decode b_Mo_formula 145 = .ok (.aload_n 0, 1) := by decide +kernel
