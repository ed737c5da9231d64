theorem d_Mo_witness_69 : decode b_Mo_witness 69 = .ok (.aload_n 0, 1) := by decide +kernel
theorem d_Mo_witness_70 : decode b_Mo_witness 70 = .ok (.getfield 45, 3) := by decide +kernel
theorem d_Mo_witness_73 : decode b_Mo_witness 73 = .ok (.iload 5, 2) := by decide +kernel
theorem d_Mo_witness_75 : decode b_Mo_witness 75 = .ok (.ifCond .eq 7, 3) := by decide +kernel
theorem d_Mo_witness_78 : decode b_Mo_witness 78 = .ok (.iload_n 2, 1) := by decide +kernel
theorem d_Mo_witness_79 : decode b_Mo_witness 79 = .ok (.goto 4, 3) := by decide +kernel
theorem d_Mo_witness_82 : decode b_Mo_witness 82 = .ok (.iconst 0, 1) := by decide +kernel
theorem d_Mo_witness_83 : decode b_Mo_witness 83 = .ok (.iaload, 1) := by decide +kernel
theorem d_Mo_witness_84 : decode b_Mo_witness 84 = .ok (.sipush 1000, 3) := by decide +kernel
theorem d_Mo_witness_87 : decode b_Mo_witness 87 = .ok (.if_icmp .ge 12, 3) := by decide +kernel
theorem d_Mo_witness_90 : decode b_Mo_witness 90 = .ok (.aload_n 0, 1) := by decide +kernel
theorem d_Mo_witness_91 : decode b_Mo_witness 91 = .ok (.getfield 45, 3) := by decide +kernel
theorem d_Mo_witness_94 : decode b_Mo_witness 94 = .ok (.iload_n 2, 1) := by decide +kernel
theorem d_Mo_witness_95 : decode b_Mo_witness 95 = .ok (.iaload, 1) := by decide +kernel
theorem d_Mo_witness_96 : decode b_Mo_witness 96 = .ok (.goto 4, 3) := by decide +kernel
theorem d_Mo_witness_99 : decode b_Mo_witness 99 = .ok (.iconst 0, 1) := by decide +kernel
theorem d_Mo_witness_100 : decode b_Mo_witness 100 = .ok (.istore 6, 2) := by decide +kernel
theorem d_Mo_witness_102 : decode b_Mo_witness 102 = .ok (.aload_n 0, 1) := by decide +kernel
theorem d_Mo_witness_103 : decode b_Mo_witness 103 = .ok (.iload 4, 2) := by decide +kernel
theorem d_Mo_witness_105 : decode b_Mo_witness 105 = .ok (.ifCond .ne 7, 3) := by decide +kernel
theorem d_Mo_witness_108 : decode b_Mo_witness 108 = .ok (.iconst 1, 1) := by decide +kernel
theorem d_Mo_witness_109 : decode b_Mo_witness 109 = .ok (.goto 4, 3) := by decide +kernel
theorem d_Mo_witness_112 : decode b_Mo_witness 112 = .ok (.iconst 0, 1) := by decide +kernel
theorem d_Mo_witness_113 : decode b_Mo_witness 113 = .ok (.iload 4, 2) := by decide +kernel
theorem d_Mo_witness_115 : decode b_Mo_witness 115 = .ok (.ifCond .eq 12, 3) := by decide +kernel
theorem d_Mo_witness_118 : decode b_Mo_witness 118 = .ok (.iload 5, 2) := by decide +kernel
theorem d_Mo_witness_120 : decode b_Mo_witness 120 = .ok (.ifCond .ne 7, 3) := by decide +kernel
theorem d_Mo_witness_123 : decode b_Mo_witness 123 = .ok (.iconst 1, 1) := by decide +kernel
theorem d_Mo_witness_124 : decode b_Mo_witness 124 = .ok (.goto 4, 3) := by decide +kernel
theorem d_Mo_witness_127 : decode b_Mo_witness 127 = .ok (.iconst 0, 1) := by decide +kernel
theorem d_Mo_witness_128 : decode b_Mo_witness 128 = .ok (.iload 5, 2) := by decide +kernel
theorem d_Mo_witness_130 : decode b_Mo_witness 130 = .ok (.ifCond .eq 17, 3) := by decide +kernel
theorem d_Mo_witness_133 : decode b_Mo_witness 133 = .ok (.iload_n 3, 1) := by decide +kernel
theorem d_Mo_witness_134 : decode b_Mo_witness 134 = .ok (.ifCond .lt 9, 3) := by decide +kernel
theorem d_Mo_witness_137 : decode b_Mo_witness 137 = .ok (.iload_n 3, 1) := by decide +kernel
theorem d_Mo_witness_138 : decode b_Mo_witness 138 = .ok (.iload 6, 2) := by decide +kernel
theorem d_Mo_witness_140 : decode b_Mo_witness 140 = .ok (.if_icmp .lt 7, 3) := by decide +kernel
theorem d_Mo_witness_143 : decode b_Mo_witness 143 = .ok (.iconst 1, 1) := by decide +kernel
theorem d_Mo_witness_144 : decode b_Mo_witness 144 = .ok (.goto 4, 3) := by decide +kernel
theorem d_Mo_witness_147 : decode b_Mo_witness 147 = .ok (.iconst 0, 1) := by decide +kernel
theorem d_Mo_witness_148 : decode b_Mo_witness 148 = .ok (.invokevirtual 54, 3) := by decide +kernel
theorem d_Mo_witness_151 : decode b_Mo_witness 151 = .ok (.ifCond .eq 5, 3) := by decide +kernel
theorem d_Mo_witness_154 : decode b_Mo_witness 154 = .ok (.iconst 0, 1) := by decide +kernel
theorem d_Mo_witness_155 : decode b_Mo_witness 155 = .ok (.ireturn, 1) := by decide +kernel
theorem d_Mo_witness_156 : decode b_Mo_witness 156 = .ok (.iload_n 2, 1) := by decide +kernel
theorem d_Mo_witness_157 : decode b_Mo_witness 157 = .ok (.istore 7, 2) := by decide +kernel
theorem d_Mo_witness_159 : decode b_Mo_witness 159 = .ok (.iconst 0, 1) := by decide +kernel
theorem d_Mo_witness_160 : decode b_Mo_witness 160 = .ok (.istore 8, 2) := by decide +kernel
theorem d_Mo_witness_162 : decode b_Mo_witness 162 = .ok (.iload 8, 2) := by decide +kernel
theorem d_Mo_witness_164 : decode b_Mo_witness 164 = .ok (.iload_n 3, 1) := by decide +kernel
theorem d_Mo_witness_165 : decode b_Mo_witness 165 = .ok (.if_icmp .ge 101, 3) := by decide +kernel
theorem d_Mo_witness_168 : decode b_Mo_witness 168 = .ok (.iconst (-1), 1) := by decide +kernel
theorem d_Mo_witness_169 : decode b_Mo_witness 169 = .ok (.istore 9, 2) := by decide +kernel
theorem d_Mo_witness_171 : decode b_Mo_witness 171 = .ok (.iconst 0, 1) := by decide +kernel
theorem d_Mo_witness_172 : decode b_Mo_witness 172 = .ok (.istore 10, 2) := by decide +kernel
theorem d_Mo_witness_174 : decode b_Mo_witness 174 = .ok (.iload 10, 2) := by decide +kernel
theorem d_Mo_witness_176 : decode b_Mo_witness 176 = .ok (.aload_n 0, 1) := by decide +kernel
theorem d_Mo_witness_177 : decode b_Mo_witness 177 = .ok (.getfield 58, 3) := by decide +kernel
theorem d_Mo_witness_180 : decode b_Mo_witness 180 = .ok (.if_icmp .ge 76, 3) := by decide +kernel
theorem d_Mo_witness_183 : decode b_Mo_witness 183 = .ok (.aload_n 0, 1) := by decide +kernel
theorem d_Mo_witness_184 : decode b_Mo_witness 184 = .ok (.iload 7, 2) := by decide +kernel
theorem d_Mo_witness_186 : decode b_Mo_witness 186 = .ok (.iload 10, 2) := by decide +kernel
theorem d_Mo_witness_188 : decode b_Mo_witness 188 = .ok (.invokevirtual 75, 3) := by decide +kernel
theorem d_Mo_witness_191 : decode b_Mo_witness 191 = .ok (.istore 11, 2) := by decide +kernel
theorem d_Mo_witness_193 : decode b_Mo_witness 193 = .ok (.iload 11, 2) := by decide +kernel
theorem d_Mo_witness_195 : decode b_Mo_witness 195 = .ok (.ifCond .lt 26, 3) := by decide +kernel
theorem d_Mo_witness_198 : decode b_Mo_witness 198 = .ok (.aload_n 0, 1) := by decide +kernel
theorem d_Mo_witness_199 : decode b_Mo_witness 199 = .ok (.getfield 45, 3) := by decide +kernel
theorem d_Mo_witness_202 : decode b_Mo_witness 202 = .ok (.iload 11, 2) := by decide +kernel
theorem d_Mo_witness_204 : decode b_Mo_witness 204 = .ok (.iaload, 1) := by decide +kernel
theorem d_Mo_witness_205 : decode b_Mo_witness 205 = .ok (.aload_n 0, 1) := by decide +kernel
theorem d_Mo_witness_206 : decode b_Mo_witness 206 = .ok (.getfield 45, 3) := by decide +kernel
theorem d_Mo_witness_209 : decode b_Mo_witness 209 = .ok (.iload 7, 2) := by decide +kernel
theorem d_Mo_witness_211 : decode b_Mo_witness 211 = .ok (.iaload, 1) := by decide +kernel
theorem d_Mo_witness_212 : decode b_Mo_witness 212 = .ok (.iconst 1, 1) := by decide +kernel
theorem d_Mo_witness_213 : decode b_Mo_witness 213 = .ok (.isub, 1) := by decide +kernel
theorem d_Mo_witness_214 : decode b_Mo_witness 214 = .ok (.if_icmp .ne 7, 3) := by decide +kernel
theorem d_Mo_witness_217 : decode b_Mo_witness 217 = .ok (.iconst 1, 1) := by decide +kernel
theorem d_Mo_witness_218 : decode b_Mo_witness 218 = .ok (.goto 4, 3) := by decide +kernel
theorem d_Mo_witness_221 : decode b_Mo_witness 221 = .ok (.iconst 0, 1) := by decide +kernel
theorem d_Mo_witness_222 : decode b_Mo_witness 222 = .ok (.istore 12, 2) := by decide +kernel
theorem d_Mo_witness_224 : decode b_Mo_witness 224 = .ok (.iload 12, 2) := by decide +kernel
theorem d_Mo_witness_226 : decode b_Mo_witness 226 = .ok (.ifCond .eq 20, 3) := by decide +kernel
theorem d_Mo_witness_229 : decode b_Mo_witness 229 = .ok (.iload 9, 2) := by decide +kernel
theorem d_Mo_witness_231 : decode b_Mo_witness 231 = .ok (.ifCond .lt 10, 3) := by decide +kernel
theorem d_Mo_witness_234 : decode b_Mo_witness 234 = .ok (.iload 11, 2) := by decide +kernel
theorem d_Mo_witness_236 : decode b_Mo_witness 236 = .ok (.iload 9, 2) := by decide +kernel
theorem d_Mo_witness_238 : decode b_Mo_witness 238 = .ok (.if_icmp .ge 8, 3) := by decide +kernel
theorem d_Mo_witness_241 : decode b_Mo_witness 241 = .ok (.iload 11, 2) := by decide +kernel
theorem d_Mo_witness_243 : decode b_Mo_witness 243 = .ok (.goto 5, 3) := by decide +kernel
theorem d_Mo_witness_246 : decode b_Mo_witness 246 = .ok (.iload 9, 2) := by decide +kernel
theorem d_Mo_witness_248 : decode b_Mo_witness 248 = .ok (.istore 9, 2) := by decide +kernel
theorem d_Mo_witness_250 : decode b_Mo_witness 250 = .ok (.iinc 10 1, 3) := by decide +kernel
theorem d_Mo_witness_253 : decode b_Mo_witness 253 = .ok (.goto (-79), 3) := by decide +kernel
theorem d_Mo_witness_256 : decode b_Mo_witness 256 = .ok (.iload 9, 2) := by decide +kernel
theorem d_Mo_witness_258 : decode b_Mo_witness 258 = .ok (.istore 7, 2) := by decide +kernel
theorem d_Mo_witness_260 : decode b_Mo_witness 260 = .ok (.iinc 8 1, 3) := by decide +kernel
theorem d_Mo_witness_263 : decode b_Mo_witness 263 = .ok (.goto (-101), 3) := by decide +kernel
theorem d_Mo_witness_266 : decode b_Mo_witness 266 = .ok (.iload 7, 2) := by decide +kernel
theorem d_Mo_witness_268 : decode b_Mo_witness 268 = .ok (.ireturn, 1) := by decide +kernel
theorem d_Mo_workOut_0 : decode b_Mo_workOut 0 = .ok (.iconst 1, 1) := by decide +kernel
theorem d_Mo_workOut_1 : decode b_Mo_workOut 1 = .ok (.aload_n 0, 1) := by decide +kernel
theorem d_Mo_workOut_2 : decode b_Mo_workOut 2 = .ok (.getfield 7, 3) := by decide +kernel
theorem d_Mo_workOut_5 : decode b_Mo_workOut 5 = .ok (.ishl, 1) := by decide +kernel
theorem d_Mo_workOut_6 : decode b_Mo_workOut 6 = .ok (.istore_n 2, 1) := by decide +kernel
theorem d_Mo_workOut_7 : decode b_Mo_workOut 7 = .ok (.aload_n 0, 1) := by decide +kernel
theorem d_Mo_workOut_8 : decode b_Mo_workOut 8 = .ok (.getfield 26, 3) := by decide +kernel
theorem d_Mo_workOut_11 : decode b_Mo_workOut 11 = .ok (.iload_n 1, 1) := by decide +kernel
theorem d_Mo_workOut_12 : decode b_Mo_workOut 12 = .ok (.iaload, 1) := by decide +kernel
theorem d_Mo_workOut_13 : decode b_Mo_workOut 13 = .ok (.bipush 6, 2) := by decide +kernel
theorem d_Mo_workOut_15 : decode b_Mo_workOut 15 = .ok (.if_icmp .ne 17, 3) := by decide +kernel
theorem d_Mo_workOut_18 : decode b_Mo_workOut 18 = .ok (.aload_n 0, 1) := by decide +kernel
theorem d_Mo_workOut_19 : decode b_Mo_workOut 19 = .ok (.iload_n 1, 1) := by decide +kernel
theorem d_Mo_workOut_20 : decode b_Mo_workOut 20 = .ok (.aload_n 0, 1) := by decide +kernel
theorem d_Mo_workOut_21 : decode b_Mo_workOut 21 = .ok (.getfield 29, 3) := by decide +kernel
theorem d_Mo_workOut_24 : decode b_Mo_workOut 24 = .ok (.iload_n 1, 1) := by decide +kernel
theorem d_Mo_workOut_25 : decode b_Mo_workOut 25 = .ok (.iaload, 1) := by decide +kernel
theorem d_Mo_workOut_26 : decode b_Mo_workOut 26 = .ok (.invokevirtual 90, 3) := by decide +kernel
theorem d_Mo_workOut_29 : decode b_Mo_workOut 29 = .ok (.goto 149, 3) := by decide +kernel
theorem d_Mo_workOut_32 : decode b_Mo_workOut 32 = .ok (.aload_n 0, 1) := by decide +kernel
theorem d_Mo_workOut_33 : decode b_Mo_workOut 33 = .ok (.getfield 26, 3) := by decide +kernel
theorem d_Mo_workOut_36 : decode b_Mo_workOut 36 = .ok (.iload_n 1, 1) := by decide +kernel
theorem d_Mo_workOut_37 : decode b_Mo_workOut 37 = .ok (.iaload, 1) := by decide +kernel
theorem d_Mo_workOut_38 : decode b_Mo_workOut 38 = .ok (.bipush 7, 2) := by decide +kernel
theorem d_Mo_workOut_40 : decode b_Mo_workOut 40 = .ok (.if_icmp .ne 23, 3) := by decide +kernel
theorem d_Mo_workOut_43 : decode b_Mo_workOut 43 = .ok (.aload_n 0, 1) := by decide +kernel
theorem d_Mo_workOut_44 : decode b_Mo_workOut 44 = .ok (.iload_n 1, 1) := by decide +kernel
theorem d_Mo_workOut_45 : decode b_Mo_workOut 45 = .ok (.aload_n 0, 1) := by decide +kernel
theorem d_Mo_workOut_46 : decode b_Mo_workOut 46 = .ok (.getfield 29, 3) := by decide +kernel
theorem d_Mo_workOut_49 : decode b_Mo_workOut 49 = .ok (.iload_n 1, 1) := by decide +kernel
theorem d_Mo_workOut_50 : decode b_Mo_workOut 50 = .ok (.iaload, 1) := by decide +kernel
theorem d_Mo_workOut_51 : decode b_Mo_workOut 51 = .ok (.aload_n 0, 1) := by decide +kernel
theorem d_Mo_workOut_52 : decode b_Mo_workOut 52 = .ok (.getfield 32, 3) := by decide +kernel
theorem d_Mo_workOut_55 : decode b_Mo_workOut 55 = .ok (.iload_n 1, 1) := by decide +kernel
theorem d_Mo_workOut_56 : decode b_Mo_workOut 56 = .ok (.iaload, 1) := by decide +kernel
theorem d_Mo_workOut_57 : decode b_Mo_workOut 57 = .ok (.invokevirtual 94, 3) := by decide +kernel
theorem d_Mo_workOut_60 : decode b_Mo_workOut 60 = .ok (.goto 118, 3) := by decide +kernel
theorem d_Mo_workOut_63 : decode b_Mo_workOut 63 = .ok (.aload_n 0, 1) := by decide +kernel
theorem d_Mo_workOut_64 : decode b_Mo_workOut 64 = .ok (.getfield 26, 3) := by decide +kernel
theorem d_Mo_workOut_67 : decode b_Mo_workOut 67 = .ok (.iload_n 1, 1) := by decide +kernel
theorem d_Mo_workOut_68 : decode b_Mo_workOut 68 = .ok (.iaload, 1) := by decide +kernel
theorem d_Mo_workOut_69 : decode b_Mo_workOut 69 = .ok (.iconst 5, 1) := by decide +kernel
theorem d_Mo_workOut_70 : decode b_Mo_workOut 70 = .ok (.if_icmp .ne 77, 3) := by decide +kernel
theorem d_Mo_workOut_73 : decode b_Mo_workOut 73 = .ok (.iconst 0, 1) := by decide +kernel
theorem d_Mo_workOut_74 : decode b_Mo_workOut 74 = .ok (.istore_n 3, 1) := by decide +kernel
theorem d_Mo_workOut_75 : decode b_Mo_workOut 75 = .ok (.iload_n 3, 1) := by decide +kernel
theorem d_Mo_workOut_76 : decode b_Mo_workOut 76 = .ok (.iload_n 2, 1) := by decide +kernel
theorem d_Mo_workOut_77 : decode b_Mo_workOut 77 = .ok (.if_icmp .ge 26, 3) := by decide +kernel
theorem d_Mo_workOut_80 : decode b_Mo_workOut 80 = .ok (.aload_n 0, 1) := by decide +kernel
theorem d_Mo_workOut_81 : decode b_Mo_workOut 81 = .ok (.getfield 42, 3) := by decide +kernel
theorem d_Mo_workOut_84 : decode b_Mo_workOut 84 = .ok (.iload_n 3, 1) := by decide +kernel
theorem d_Mo_workOut_85 : decode b_Mo_workOut 85 = .ok (.aload_n 0, 1) := by decide +kernel
theorem d_Mo_workOut_86 : decode b_Mo_workOut 86 = .ok (.aload_n 0, 1) := by decide +kernel
theorem d_Mo_workOut_87 : decode b_Mo_workOut 87 = .ok (.getfield 32, 3) := by decide +kernel
theorem d_Mo_workOut_90 : decode b_Mo_workOut 90 = .ok (.iload_n 1, 1) := by decide +kernel
theorem d_Mo_workOut_91 : decode b_Mo_workOut 91 = .ok (.iaload, 1) := by decide +kernel
theorem d_Mo_workOut_92 : decode b_Mo_workOut 92 = .ok (.iload_n 3, 1) := by decide +kernel
theorem d_Mo_workOut_93 : decode b_Mo_workOut 93 = .ok (.invokevirtual 79, 3) := by decide +kernel
theorem d_Mo_workOut_96 : decode b_Mo_workOut 96 = .ok (.bastore, 1) := by decide +kernel
theorem d_Mo_workOut_97 : decode b_Mo_workOut 97 = .ok (.iinc 3 1, 3) := by decide +kernel
theorem d_Mo_workOut_100 : decode b_Mo_workOut 100 = .ok (.goto (-25), 3) := by decide +kernel
theorem d_Mo_workOut_103 : decode b_Mo_workOut 103 = .ok (.aload_n 0, 1) := by decide +kernel
theorem d_Mo_workOut_104 : decode b_Mo_workOut 104 = .ok (.aload_n 0, 1) := by decide +kernel
theorem d_Mo_workOut_105 : decode b_Mo_workOut 105 = .ok (.getfield 29, 3) := by decide +kernel
theorem d_Mo_workOut_108 : decode b_Mo_workOut 108 = .ok (.iload_n 1, 1) := by decide +kernel
theorem d_Mo_workOut_109 : decode b_Mo_workOut 109 = .ok (.iaload, 1) := by decide +kernel
theorem d_Mo_workOut_110 : decode b_Mo_workOut 110 = .ok (.invokevirtual 86, 3) := by decide +kernel
theorem d_Mo_workOut_113 : decode b_Mo_workOut 113 = .ok (.iconst 0, 1) := by decide +kernel
theorem d_Mo_workOut_114 : decode b_Mo_workOut 114 = .ok (.istore_n 3, 1) := by decide +kernel
theorem d_Mo_workOut_115 : decode b_Mo_workOut 115 = .ok (.iload_n 3, 1) := by decide +kernel
theorem d_Mo_workOut_116 : decode b_Mo_workOut 116 = .ok (.iload_n 2, 1) := by decide +kernel
theorem d_Mo_workOut_117 : decode b_Mo_workOut 117 = .ok (.if_icmp .ge 27, 3) := by decide +kernel
theorem d_Mo_workOut_120 : decode b_Mo_workOut 120 = .ok (.aload_n 0, 1) := by decide +kernel
theorem d_Mo_workOut_121 : decode b_Mo_workOut 121 = .ok (.getfield 35, 3) := by decide +kernel
theorem d_Mo_workOut_124 : decode b_Mo_workOut 124 = .ok (.sipush 256, 3) := by decide +kernel
theorem d_Mo_workOut_127 : decode b_Mo_workOut 127 = .ok (.iload_n 1, 1) := by decide +kernel
theorem d_Mo_workOut_128 : decode b_Mo_workOut 128 = .ok (.imul, 1) := by decide +kernel
theorem d_Mo_workOut_129 : decode b_Mo_workOut 129 = .ok (.iload_n 3, 1) := by decide +kernel
theorem d_Mo_workOut_130 : decode b_Mo_workOut 130 = .ok (.iadd, 1) := by decide +kernel
theorem d_Mo_workOut_131 : decode b_Mo_workOut 131 = .ok (.aload_n 0, 1) := by decide +kernel
theorem d_Mo_workOut_132 : decode b_Mo_workOut 132 = .ok (.getfield 39, 3) := by decide +kernel
theorem d_Mo_workOut_135 : decode b_Mo_workOut 135 = .ok (.iload_n 3, 1) := by decide +kernel
theorem d_Mo_workOut_136 : decode b_Mo_workOut 136 = .ok (.baload, 1) := by decide +kernel
theorem d_Mo_workOut_137 : decode b_Mo_workOut 137 = .ok (.bastore, 1) := by decide +kernel
theorem d_Mo_workOut_138 : decode b_Mo_workOut 138 = .ok (.iinc 3 1, 3) := by decide +kernel
theorem d_Mo_workOut_141 : decode b_Mo_workOut 141 = .ok (.goto (-26), 3) := by decide +kernel
theorem d_Mo_workOut_144 : decode b_Mo_workOut 144 = .ok (.goto 34, 3) := by decide +kernel
theorem d_Mo_workOut_147 : decode b_Mo_workOut 147 = .ok (.iconst 0, 1) := by decide +kernel
theorem d_Mo_workOut_148 : decode b_Mo_workOut 148 = .ok (.istore_n 3, 1) := by decide +kernel
theorem d_Mo_workOut_149 : decode b_Mo_workOut 149 = .ok (.iload_n 3, 1) := by decide +kernel
theorem d_Mo_workOut_150 : decode b_Mo_workOut 150 = .ok (.iload_n 2, 1) := by decide +kernel
theorem d_Mo_workOut_151 : decode b_Mo_workOut 151 = .ok (.if_icmp .ge 27, 3) := by decide +kernel
theorem d_Mo_workOut_154 : decode b_Mo_workOut 154 = .ok (.aload_n 0, 1) := by decide +kernel
theorem d_Mo_workOut_155 : decode b_Mo_workOut 155 = .ok (.getfield 35, 3) := by decide +kernel
theorem d_Mo_workOut_158 : decode b_Mo_workOut 158 = .ok (.sipush 256, 3) := by decide +kernel
theorem d_Mo_workOut_161 : decode b_Mo_workOut 161 = .ok (.iload_n 1, 1) := by decide +kernel
theorem d_Mo_workOut_162 : decode b_Mo_workOut 162 = .ok (.imul, 1) := by decide +kernel
theorem d_Mo_workOut_163 : decode b_Mo_workOut 163 = .ok (.iload_n 3, 1) := by decide +kernel
theorem d_Mo_workOut_164 : decode b_Mo_workOut 164 = .ok (.iadd, 1) := by decide +kernel
theorem d_Mo_workOut_165 : decode b_Mo_workOut 165 = .ok (.aload_n 0, 1) := by decide +kernel
theorem d_Mo_workOut_166 : decode b_Mo_workOut 166 = .ok (.iload_n 1, 1) := by decide +kernel
theorem d_Mo_workOut_167 : decode b_Mo_workOut 167 = .ok (.iload_n 3, 1) := by decide +kernel
theorem d_Mo_workOut_168 : decode b_Mo_workOut 168 = .ok (.invokevirtual 98, 3) := by decide +kernel
theorem d_Mo_workOut_171 : decode b_Mo_workOut 171 = .ok (.bastore, 1) := by decide +kernel
theorem d_Mo_workOut_172 : decode b_Mo_workOut 172 = .ok (.iinc 3 1, 3) := by decide +kernel
theorem d_Mo_workOut_175 : decode b_Mo_workOut 175 = .ok (.goto (-26), 3) := by decide +kernel
theorem d_Mo_workOut_178 : decode b_Mo_workOut 178 = .ok (.return_, 1) := by decide +kernel
