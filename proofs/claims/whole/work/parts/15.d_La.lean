theorem d_La_begin_0 : decode b_La_begin 0 = .ok (.aload_n 0, 1) := by decide +kernel
theorem d_La_begin_1 : decode b_La_begin 1 = .ok (.iload_n 1, 1) := by decide +kernel
theorem d_La_begin_2 : decode b_La_begin 2 = .ok (.invokevirtual 7, 3) := by decide +kernel
theorem d_La_begin_5 : decode b_La_begin 5 = .ok (.goto 6, 3) := by decide +kernel
theorem d_La_begin_8 : decode b_La_begin 8 = .ok (.astore_n 2, 1) := by decide +kernel
theorem d_La_begin_9 : decode b_La_begin 9 = .ok (.iconst 1, 1) := by decide +kernel
theorem d_La_begin_10 : decode b_La_begin 10 = .ok (.ireturn, 1) := by decide +kernel
theorem d_La_begin_11 : decode b_La_begin 11 = .ok (.iconst 0, 1) := by decide +kernel
theorem d_La_begin_12 : decode b_La_begin 12 = .ok (.ireturn, 1) := by decide +kernel
theorem d_La_count_0 : decode b_La_count 0 = .ok (.aload_n 2, 1) := by decide +kernel
theorem d_La_count_1 : decode b_La_count 1 = .ok (.iconst 0, 1) := by decide +kernel
theorem d_La_count_2 : decode b_La_count 2 = .ok (.aload_n 0, 1) := by decide +kernel
theorem d_La_count_3 : decode b_La_count 3 = .ok (.iload_n 1, 1) := by decide +kernel
theorem d_La_count_4 : decode b_La_count 4 = .ok (.invokevirtual 31, 3) := by decide +kernel
theorem d_La_count_7 : decode b_La_count 7 = .ok (.i2l, 1) := by decide +kernel
theorem d_La_count_8 : decode b_La_count 8 = .ok (.lastore, 1) := by decide +kernel
theorem d_La_count_9 : decode b_La_count 9 = .ok (.goto 6, 3) := by decide +kernel
theorem d_La_count_12 : decode b_La_count 12 = .ok (.astore_n 3, 1) := by decide +kernel
theorem d_La_count_13 : decode b_La_count 13 = .ok (.iconst 1, 1) := by decide +kernel
theorem d_La_count_14 : decode b_La_count 14 = .ok (.ireturn, 1) := by decide +kernel
theorem d_La_count_15 : decode b_La_count 15 = .ok (.iconst 0, 1) := by decide +kernel
theorem d_La_count_16 : decode b_La_count 16 = .ok (.ireturn, 1) := by decide +kernel
theorem d_La_first_0 : decode b_La_first 0 = .ok (.aload_n 3, 1) := by decide +kernel
theorem d_La_first_1 : decode b_La_first 1 = .ok (.iconst 0, 1) := by decide +kernel
theorem d_La_first_2 : decode b_La_first 2 = .ok (.aload_n 0, 1) := by decide +kernel
theorem d_La_first_3 : decode b_La_first 3 = .ok (.iload_n 1, 1) := by decide +kernel
theorem d_La_first_4 : decode b_La_first 4 = .ok (.iload_n 2, 1) := by decide +kernel
theorem d_La_first_5 : decode b_La_first 5 = .ok (.invokevirtual 35, 3) := by decide +kernel
theorem d_La_first_8 : decode b_La_first 8 = .ok (.i2l, 1) := by decide +kernel
theorem d_La_first_9 : decode b_La_first 9 = .ok (.lastore, 1) := by decide +kernel
theorem d_La_first_10 : decode b_La_first 10 = .ok (.goto 7, 3) := by decide +kernel
theorem d_La_first_13 : decode b_La_first 13 = .ok (.astore 4, 2) := by decide +kernel
theorem d_La_first_15 : decode b_La_first 15 = .ok (.iconst 1, 1) := by decide +kernel
theorem d_La_first_16 : decode b_La_first 16 = .ok (.ireturn, 1) := by decide +kernel
theorem d_La_first_17 : decode b_La_first 17 = .ok (.iconst 0, 1) := by decide +kernel
theorem d_La_first_18 : decode b_La_first 18 = .ok (.ireturn, 1) := by decide +kernel
theorem d_La_formula_0 : decode b_La_formula 0 = .ok (.aload 4, 2) := by decide +kernel
theorem d_La_formula_2 : decode b_La_formula 2 = .ok (.iconst 0, 1) := by decide +kernel
theorem d_La_formula_3 : decode b_La_formula 3 = .ok (.aload_n 0, 1) := by decide +kernel
theorem d_La_formula_4 : decode b_La_formula 4 = .ok (.iload_n 1, 1) := by decide +kernel
theorem d_La_formula_5 : decode b_La_formula 5 = .ok (.iload_n 2, 1) := by decide +kernel
theorem d_La_formula_6 : decode b_La_formula 6 = .ok (.iload_n 3, 1) := by decide +kernel
theorem d_La_formula_7 : decode b_La_formula 7 = .ok (.invokevirtual 21, 3) := by decide +kernel
theorem d_La_formula_10 : decode b_La_formula 10 = .ok (.i2l, 1) := by decide +kernel
theorem d_La_formula_11 : decode b_La_formula 11 = .ok (.lastore, 1) := by decide +kernel
theorem d_La_formula_12 : decode b_La_formula 12 = .ok (.goto 11, 3) := by decide +kernel
theorem d_La_formula_15 : decode b_La_formula 15 = .ok (.astore 5, 2) := by decide +kernel
theorem d_La_formula_17 : decode b_La_formula 17 = .ok (.iconst 1, 1) := by decide +kernel
theorem d_La_formula_18 : decode b_La_formula 18 = .ok (.ireturn, 1) := by decide +kernel
theorem d_La_formula_19 : decode b_La_formula 19 = .ok (.astore 5, 2) := by decide +kernel
theorem d_La_formula_21 : decode b_La_formula 21 = .ok (.iconst 2, 1) := by decide +kernel
theorem d_La_formula_22 : decode b_La_formula 22 = .ok (.ireturn, 1) := by decide +kernel
theorem d_La_formula_23 : decode b_La_formula 23 = .ok (.iconst 0, 1) := by decide +kernel
theorem d_La_formula_24 : decode b_La_formula 24 = .ok (.ireturn, 1) := by decide +kernel
theorem d_La_holds_0 : decode b_La_holds 0 = .ok (.aload_n 3, 1) := by decide +kernel
theorem d_La_holds_1 : decode b_La_holds 1 = .ok (.iconst 0, 1) := by decide +kernel
theorem d_La_holds_2 : decode b_La_holds 2 = .ok (.aload_n 0, 1) := by decide +kernel
theorem d_La_holds_3 : decode b_La_holds 3 = .ok (.iload_n 1, 1) := by decide +kernel
theorem d_La_holds_4 : decode b_La_holds 4 = .ok (.iload_n 2, 1) := by decide +kernel
theorem d_La_holds_5 : decode b_La_holds 5 = .ok (.invokevirtual 25, 3) := by decide +kernel
theorem d_La_holds_8 : decode b_La_holds 8 = .ok (.ifCond .eq 7, 3) := by decide +kernel
theorem d_La_holds_11 : decode b_La_holds 11 = .ok (.lconst 1, 1) := by decide +kernel
theorem d_La_holds_12 : decode b_La_holds 12 = .ok (.goto 4, 3) := by decide +kernel
theorem d_La_holds_15 : decode b_La_holds 15 = .ok (.lconst 0, 1) := by decide +kernel
theorem d_La_holds_16 : decode b_La_holds 16 = .ok (.lastore, 1) := by decide +kernel
theorem d_La_holds_17 : decode b_La_holds 17 = .ok (.goto 7, 3) := by decide +kernel
theorem d_La_holds_20 : decode b_La_holds 20 = .ok (.astore 4, 2) := by decide +kernel
theorem d_La_holds_22 : decode b_La_holds 22 = .ok (.iconst 1, 1) := by decide +kernel
theorem d_La_holds_23 : decode b_La_holds 23 = .ok (.ireturn, 1) := by decide +kernel
theorem d_La_holds_24 : decode b_La_holds 24 = .ok (.iconst 0, 1) := by decide +kernel
theorem d_La_holds_25 : decode b_La_holds 25 = .ok (.ireturn, 1) := by decide +kernel
theorem d_La_law_0 : decode code 0 = .ok (.new 8, 3) := by decide +kernel
theorem d_La_law_3 : decode code 3 = .ok (.dup, 1) := by decide +kernel
theorem d_La_law_4 : decode code 4 = .ok (.invokespecial 50, 3) := by decide +kernel
theorem d_La_law_7 : decode code 7 = .ok (.astore_n 1, 1) := by decide +kernel
theorem d_La_law_8 : decode code 8 = .ok (.new 51, 3) := by decide +kernel
theorem d_La_law_11 : decode code 11 = .ok (.dup, 1) := by decide +kernel
theorem d_La_law_12 : decode code 12 = .ok (.invokespecial 53, 3) := by decide +kernel
theorem d_La_law_15 : decode code 15 = .ok (.astore_n 2, 1) := by decide +kernel
theorem d_La_law_16 : decode code 16 = .ok (.iconst 1, 1) := by decide +kernel
theorem d_La_law_17 : decode code 17 = .ok (.newarray .long, 2) := by decide +kernel
theorem d_La_law_19 : decode code 19 = .ok (.astore_n 3, 1) := by decide +kernel
theorem d_La_law_20 : decode code 20 = .ok (.iconst 0, 1) := by decide +kernel
theorem d_La_law_21 : decode code 21 = .ok (.istore 4, 2) := by decide +kernel
theorem d_La_law_23 : decode code 23 = .ok (.iload 4, 2) := by decide +kernel
theorem d_La_law_25 : decode code 25 = .ok (.aload_n 0, 1) := by decide +kernel
theorem d_La_law_26 : decode code 26 = .ok (.arraylength, 1) := by decide +kernel
theorem d_La_law_27 : decode code 27 = .ok (.iconst 5, 1) := by decide +kernel
theorem d_La_law_28 : decode code 28 = .ok (.isub, 1) := by decide +kernel
theorem d_La_law_29 : decode code 29 = .ok (.if_icmp .gt 676, 3) := by decide +kernel
theorem d_La_law_32 : decode code 32 = .ok (.aload_n 0, 1) := by decide +kernel
theorem d_La_law_33 : decode code 33 = .ok (.iload 4, 2) := by decide +kernel
theorem d_La_law_35 : decode code 35 = .ok (.iaload, 1) := by decide +kernel
theorem d_La_law_36 : decode code 36 = .ok (.bipush 15, 2) := by decide +kernel
theorem d_La_law_38 : decode code 38 = .ok (.iand, 1) := by decide +kernel
theorem d_La_law_39 : decode code 39 = .ok (.tableswitch 660 0 8 #[49, 85, 177, 257, 332, 388, 456, 524, 604], 49) := by decide +kernel
theorem d_La_law_88 : decode code 88 = .ok (.aload_n 1, 1) := by decide +kernel
theorem d_La_law_89 : decode code 89 = .ok (.aload_n 0, 1) := by decide +kernel
theorem d_La_law_90 : decode code 90 = .ok (.iload 4, 2) := by decide +kernel
theorem d_La_law_92 : decode code 92 = .ok (.iconst 1, 1) := by decide +kernel
theorem d_La_law_93 : decode code 93 = .ok (.iadd, 1) := by decide +kernel
theorem d_La_law_94 : decode code 94 = .ok (.iaload, 1) := by decide +kernel
theorem d_La_law_95 : decode code 95 = .ok (.invokestatic 54, 3) := by decide +kernel
theorem d_La_law_98 : decode code 98 = .ok (.istore 5, 2) := by decide +kernel
theorem d_La_law_100 : decode code 100 = .ok (.aload_n 2, 1) := by decide +kernel
theorem d_La_law_101 : decode code 101 = .ok (.aload_n 0, 1) := by decide +kernel
theorem d_La_law_102 : decode code 102 = .ok (.iload 4, 2) := by decide +kernel
theorem d_La_law_104 : decode code 104 = .ok (.iconst 1, 1) := by decide +kernel
theorem d_La_law_105 : decode code 105 = .ok (.iadd, 1) := by decide +kernel
theorem d_La_law_106 : decode code 106 = .ok (.iaload, 1) := by decide +kernel
theorem d_La_law_107 : decode code 107 = .ok (.invokevirtual 59, 3) := by decide +kernel
theorem d_La_law_110 : decode code 110 = .ok (.aload_n 2, 1) := by decide +kernel
theorem d_La_law_111 : decode code 111 = .ok (.invokevirtual 60, 3) := by decide +kernel
theorem d_La_law_114 : decode code 114 = .ok (.iload 5, 2) := by decide +kernel
theorem d_La_law_116 : decode code 116 = .ok (.if_icmp .eq 5, 3) := by decide +kernel
theorem d_La_law_119 : decode code 119 = .ok (.iconst 0, 1) := by decide +kernel
theorem d_La_law_120 : decode code 120 = .ok (.ireturn, 1) := by decide +kernel
theorem d_La_law_121 : decode code 121 = .ok (.goto 578, 3) := by decide +kernel
theorem d_La_law_124 : decode code 124 = .ok (.aload_n 1, 1) := by decide +kernel
theorem d_La_law_125 : decode code 125 = .ok (.aload_n 0, 1) := by decide +kernel
theorem d_La_law_126 : decode code 126 = .ok (.iload 4, 2) := by decide +kernel
theorem d_La_law_128 : decode code 128 = .ok (.iconst 1, 1) := by decide +kernel
theorem d_La_law_129 : decode code 129 = .ok (.iadd, 1) := by decide +kernel
theorem d_La_law_130 : decode code 130 = .ok (.iaload, 1) := by decide +kernel
theorem d_La_law_131 : decode code 131 = .ok (.aload_n 0, 1) := by decide +kernel
theorem d_La_law_132 : decode code 132 = .ok (.iload 4, 2) := by decide +kernel
theorem d_La_law_134 : decode code 134 = .ok (.iconst 2, 1) := by decide +kernel
theorem d_La_law_135 : decode code 135 = .ok (.iadd, 1) := by decide +kernel
theorem d_La_law_136 : decode code 136 = .ok (.iaload, 1) := by decide +kernel
theorem d_La_law_137 : decode code 137 = .ok (.aload_n 0, 1) := by decide +kernel
theorem d_La_law_138 : decode code 138 = .ok (.iload 4, 2) := by decide +kernel
theorem d_La_law_140 : decode code 140 = .ok (.iconst 3, 1) := by decide +kernel
theorem d_La_law_141 : decode code 141 = .ok (.iadd, 1) := by decide +kernel
theorem d_La_law_142 : decode code 142 = .ok (.iaload, 1) := by decide +kernel
theorem d_La_law_143 : decode code 143 = .ok (.aload_n 0, 1) := by decide +kernel
theorem d_La_law_144 : decode code 144 = .ok (.iload 4, 2) := by decide +kernel
theorem d_La_law_146 : decode code 146 = .ok (.iconst 4, 1) := by decide +kernel
theorem d_La_law_147 : decode code 147 = .ok (.iadd, 1) := by decide +kernel
theorem d_La_law_148 : decode code 148 = .ok (.iaload, 1) := by decide +kernel
theorem d_La_law_149 : decode code 149 = .ok (.aload_n 3, 1) := by decide +kernel
theorem d_La_law_150 : decode code 150 = .ok (.invokestatic 64, 3) := by decide +kernel
theorem d_La_law_153 : decode code 153 = .ok (.istore 5, 2) := by decide +kernel
theorem d_La_law_155 : decode code 155 = .ok (.aload_n 2, 1) := by decide +kernel
theorem d_La_law_156 : decode code 156 = .ok (.aload_n 0, 1) := by decide +kernel
theorem d_La_law_157 : decode code 157 = .ok (.iload 4, 2) := by decide +kernel
theorem d_La_law_159 : decode code 159 = .ok (.iconst 1, 1) := by decide +kernel
theorem d_La_law_160 : decode code 160 = .ok (.iadd, 1) := by decide +kernel
theorem d_La_law_161 : decode code 161 = .ok (.iaload, 1) := by decide +kernel
theorem d_La_law_162 : decode code 162 = .ok (.aload_n 0, 1) := by decide +kernel
theorem d_La_law_163 : decode code 163 = .ok (.iload 4, 2) := by decide +kernel
theorem d_La_law_165 : decode code 165 = .ok (.iconst 2, 1) := by decide +kernel
theorem d_La_law_166 : decode code 166 = .ok (.iadd, 1) := by decide +kernel
theorem d_La_law_167 : decode code 167 = .ok (.iaload, 1) := by decide +kernel
theorem d_La_law_168 : decode code 168 = .ok (.aload_n 0, 1) := by decide +kernel
theorem d_La_law_169 : decode code 169 = .ok (.iload 4, 2) := by decide +kernel
theorem d_La_law_171 : decode code 171 = .ok (.iconst 3, 1) := by decide +kernel
theorem d_La_law_172 : decode code 172 = .ok (.iadd, 1) := by decide +kernel
theorem d_La_law_173 : decode code 173 = .ok (.iaload, 1) := by decide +kernel
theorem d_La_law_174 : decode code 174 = .ok (.aload_n 0, 1) := by decide +kernel
theorem d_La_law_175 : decode code 175 = .ok (.iload 4, 2) := by decide +kernel
theorem d_La_law_177 : decode code 177 = .ok (.iconst 4, 1) := by decide +kernel
theorem d_La_law_178 : decode code 178 = .ok (.iadd, 1) := by decide +kernel
theorem d_La_law_179 : decode code 179 = .ok (.iaload, 1) := by decide +kernel
theorem d_La_law_180 : decode code 180 = .ok (.invokevirtual 67, 3) := by decide +kernel
theorem d_La_law_183 : decode code 183 = .ok (.istore 6, 2) := by decide +kernel
theorem d_La_law_185 : decode code 185 = .ok (.aload_n 2, 1) := by decide +kernel
theorem d_La_law_186 : decode code 186 = .ok (.invokevirtual 60, 3) := by decide +kernel
theorem d_La_law_189 : decode code 189 = .ok (.iload 5, 2) := by decide +kernel
theorem d_La_law_191 : decode code 191 = .ok (.if_icmp .eq 5, 3) := by decide +kernel
theorem d_La_law_194 : decode code 194 = .ok (.iconst 0, 1) := by decide +kernel
theorem d_La_law_195 : decode code 195 = .ok (.ireturn, 1) := by decide +kernel
theorem d_La_law_196 : decode code 196 = .ok (.iload 5, 2) := by decide +kernel
theorem d_La_law_198 : decode code 198 = .ok (.ifCond .ne 15, 3) := by decide +kernel
theorem d_La_law_201 : decode code 201 = .ok (.aload_n 3, 1) := by decide +kernel
theorem d_La_law_202 : decode code 202 = .ok (.iconst 0, 1) := by decide +kernel
theorem d_La_law_203 : decode code 203 = .ok (.laload, 1) := by decide +kernel
theorem d_La_law_204 : decode code 204 = .ok (.iload 6, 2) := by decide +kernel
theorem d_La_law_206 : decode code 206 = .ok (.i2l, 1) := by decide +kernel
theorem d_La_law_207 : decode code 207 = .ok (.lcmp, 1) := by decide +kernel
theorem d_La_law_208 : decode code 208 = .ok (.ifCond .eq 5, 3) := by decide +kernel
theorem d_La_law_211 : decode code 211 = .ok (.iconst 0, 1) := by decide +kernel
theorem d_La_law_212 : decode code 212 = .ok (.ireturn, 1) := by decide +kernel
theorem d_La_law_213 : decode code 213 = .ok (.goto 486, 3) := by decide +kernel
theorem d_La_law_216 : decode code 216 = .ok (.aload_n 1, 1) := by decide +kernel
theorem d_La_law_217 : decode code 217 = .ok (.aload_n 0, 1) := by decide +kernel
theorem d_La_law_218 : decode code 218 = .ok (.iload 4, 2) := by decide +kernel
theorem d_La_law_220 : decode code 220 = .ok (.iconst 1, 1) := by decide +kernel
theorem d_La_law_221 : decode code 221 = .ok (.iadd, 1) := by decide +kernel
theorem d_La_law_222 : decode code 222 = .ok (.iaload, 1) := by decide +kernel
theorem d_La_law_223 : decode code 223 = .ok (.aload_n 0, 1) := by decide +kernel
theorem d_La_law_224 : decode code 224 = .ok (.iload 4, 2) := by decide +kernel
theorem d_La_law_226 : decode code 226 = .ok (.iconst 2, 1) := by decide +kernel
theorem d_La_law_227 : decode code 227 = .ok (.iadd, 1) := by decide +kernel
theorem d_La_law_228 : decode code 228 = .ok (.iaload, 1) := by decide +kernel
theorem d_La_law_229 : decode code 229 = .ok (.aload_n 0, 1) := by decide +kernel
theorem d_La_law_230 : decode code 230 = .ok (.iload 4, 2) := by decide +kernel
theorem d_La_law_232 : decode code 232 = .ok (.iconst 3, 1) := by decide +kernel
theorem d_La_law_233 : decode code 233 = .ok (.iadd, 1) := by decide +kernel
theorem d_La_law_234 : decode code 234 = .ok (.iaload, 1) := by decide +kernel
theorem d_La_law_235 : decode code 235 = .ok (.aload_n 3, 1) := by decide +kernel
theorem d_La_law_236 : decode code 236 = .ok (.invokestatic 68, 3) := by decide +kernel
theorem d_La_law_239 : decode code 239 = .ok (.istore 5, 2) := by decide +kernel
theorem d_La_law_241 : decode code 241 = .ok (.aload_n 2, 1) := by decide +kernel
theorem d_La_law_242 : decode code 242 = .ok (.aload_n 0, 1) := by decide +kernel
theorem d_La_law_243 : decode code 243 = .ok (.iload 4, 2) := by decide +kernel
theorem d_La_law_245 : decode code 245 = .ok (.iconst 1, 1) := by decide +kernel
theorem d_La_law_246 : decode code 246 = .ok (.iadd, 1) := by decide +kernel
theorem d_La_law_247 : decode code 247 = .ok (.iaload, 1) := by decide +kernel
theorem d_La_law_248 : decode code 248 = .ok (.aload_n 0, 1) := by decide +kernel
theorem d_La_law_249 : decode code 249 = .ok (.iload 4, 2) := by decide +kernel
theorem d_La_law_251 : decode code 251 = .ok (.iconst 2, 1) := by decide +kernel
theorem d_La_law_252 : decode code 252 = .ok (.iadd, 1) := by decide +kernel
theorem d_La_law_253 : decode code 253 = .ok (.iaload, 1) := by decide +kernel
theorem d_La_law_254 : decode code 254 = .ok (.aload_n 0, 1) := by decide +kernel
theorem d_La_law_255 : decode code 255 = .ok (.iload 4, 2) := by decide +kernel
theorem d_La_law_257 : decode code 257 = .ok (.iconst 3, 1) := by decide +kernel
theorem d_La_law_258 : decode code 258 = .ok (.iadd, 1) := by decide +kernel
theorem d_La_law_259 : decode code 259 = .ok (.iaload, 1) := by decide +kernel
theorem d_La_law_260 : decode code 260 = .ok (.invokevirtual 71, 3) := by decide +kernel
theorem d_La_law_263 : decode code 263 = .ok (.istore 6, 2) := by decide +kernel
theorem d_La_law_265 : decode code 265 = .ok (.aload_n 2, 1) := by decide +kernel
theorem d_La_law_266 : decode code 266 = .ok (.invokevirtual 60, 3) := by decide +kernel
theorem d_La_law_269 : decode code 269 = .ok (.iload 5, 2) := by decide +kernel
theorem d_La_law_271 : decode code 271 = .ok (.if_icmp .eq 5, 3) := by decide +kernel
theorem d_La_law_274 : decode code 274 = .ok (.iconst 0, 1) := by decide +kernel
theorem d_La_law_275 : decode code 275 = .ok (.ireturn, 1) := by decide +kernel
theorem d_La_law_276 : decode code 276 = .ok (.iload 5, 2) := by decide +kernel
theorem d_La_law_278 : decode code 278 = .ok (.ifCond .ne 15, 3) := by decide +kernel
theorem d_La_law_281 : decode code 281 = .ok (.aload_n 3, 1) := by decide +kernel
theorem d_La_law_282 : decode code 282 = .ok (.iconst 0, 1) := by decide +kernel
theorem d_La_law_283 : decode code 283 = .ok (.laload, 1) := by decide +kernel
theorem d_La_law_284 : decode code 284 = .ok (.iload 6, 2) := by decide +kernel
theorem d_La_law_286 : decode code 286 = .ok (.i2l, 1) := by decide +kernel
theorem d_La_law_287 : decode code 287 = .ok (.lcmp, 1) := by decide +kernel
theorem d_La_law_288 : decode code 288 = .ok (.ifCond .eq 5, 3) := by decide +kernel
theorem d_La_law_291 : decode code 291 = .ok (.iconst 0, 1) := by decide +kernel
theorem d_La_law_292 : decode code 292 = .ok (.ireturn, 1) := by decide +kernel
theorem d_La_law_293 : decode code 293 = .ok (.goto 406, 3) := by decide +kernel
theorem d_La_law_296 : decode code 296 = .ok (.aload_n 1, 1) := by decide +kernel
theorem d_La_law_297 : decode code 297 = .ok (.aload_n 0, 1) := by decide +kernel
theorem d_La_law_298 : decode code 298 = .ok (.iload 4, 2) := by decide +kernel
theorem d_La_law_300 : decode code 300 = .ok (.iconst 1, 1) := by decide +kernel
theorem d_La_law_301 : decode code 301 = .ok (.iadd, 1) := by decide +kernel
theorem d_La_law_302 : decode code 302 = .ok (.iaload, 1) := by decide +kernel
theorem d_La_law_303 : decode code 303 = .ok (.aload_n 0, 1) := by decide +kernel
theorem d_La_law_304 : decode code 304 = .ok (.iload 4, 2) := by decide +kernel
theorem d_La_law_306 : decode code 306 = .ok (.iconst 2, 1) := by decide +kernel
theorem d_La_law_307 : decode code 307 = .ok (.iadd, 1) := by decide +kernel
theorem d_La_law_308 : decode code 308 = .ok (.iaload, 1) := by decide +kernel
theorem d_La_law_309 : decode code 309 = .ok (.aload_n 3, 1) := by decide +kernel
theorem d_La_law_310 : decode code 310 = .ok (.invokestatic 72, 3) := by decide +kernel
theorem d_La_law_313 : decode code 313 = .ok (.istore 5, 2) := by decide +kernel
theorem d_La_law_315 : decode code 315 = .ok (.aload_n 2, 1) := by decide +kernel
theorem d_La_law_316 : decode code 316 = .ok (.aload_n 0, 1) := by decide +kernel
theorem d_La_law_317 : decode code 317 = .ok (.iload 4, 2) := by decide +kernel
theorem d_La_law_319 : decode code 319 = .ok (.iconst 1, 1) := by decide +kernel
theorem d_La_law_320 : decode code 320 = .ok (.iadd, 1) := by decide +kernel
theorem d_La_law_321 : decode code 321 = .ok (.iaload, 1) := by decide +kernel
theorem d_La_law_322 : decode code 322 = .ok (.aload_n 0, 1) := by decide +kernel
theorem d_La_law_323 : decode code 323 = .ok (.iload 4, 2) := by decide +kernel
theorem d_La_law_325 : decode code 325 = .ok (.iconst 2, 1) := by decide +kernel
theorem d_La_law_326 : decode code 326 = .ok (.iadd, 1) := by decide +kernel
theorem d_La_law_327 : decode code 327 = .ok (.iaload, 1) := by decide +kernel
theorem d_La_law_328 : decode code 328 = .ok (.invokevirtual 75, 3) := by decide +kernel
theorem d_La_law_331 : decode code 331 = .ok (.istore 6, 2) := by decide +kernel
theorem d_La_law_333 : decode code 333 = .ok (.aload_n 2, 1) := by decide +kernel
theorem d_La_law_334 : decode code 334 = .ok (.invokevirtual 60, 3) := by decide +kernel
theorem d_La_law_337 : decode code 337 = .ok (.iload 5, 2) := by decide +kernel
theorem d_La_law_339 : decode code 339 = .ok (.if_icmp .eq 5, 3) := by decide +kernel
theorem d_La_law_342 : decode code 342 = .ok (.iconst 0, 1) := by decide +kernel
theorem d_La_law_343 : decode code 343 = .ok (.ireturn, 1) := by decide +kernel
theorem d_La_law_344 : decode code 344 = .ok (.iload 5, 2) := by decide +kernel
theorem d_La_law_346 : decode code 346 = .ok (.ifCond .ne 22, 3) := by decide +kernel
theorem d_La_law_349 : decode code 349 = .ok (.aload_n 3, 1) := by decide +kernel
theorem d_La_law_350 : decode code 350 = .ok (.iconst 0, 1) := by decide +kernel
theorem d_La_law_351 : decode code 351 = .ok (.laload, 1) := by decide +kernel
theorem d_La_law_352 : decode code 352 = .ok (.iload 6, 2) := by decide +kernel
theorem d_La_law_354 : decode code 354 = .ok (.ifCond .eq 7, 3) := by decide +kernel
theorem d_La_law_357 : decode code 357 = .ok (.lconst 1, 1) := by decide +kernel
theorem d_La_law_358 : decode code 358 = .ok (.goto 4, 3) := by decide +kernel
theorem d_La_law_361 : decode code 361 = .ok (.lconst 0, 1) := by decide +kernel
theorem d_La_law_362 : decode code 362 = .ok (.lcmp, 1) := by decide +kernel
theorem d_La_law_363 : decode code 363 = .ok (.ifCond .eq 5, 3) := by decide +kernel
theorem d_La_law_366 : decode code 366 = .ok (.iconst 0, 1) := by decide +kernel
theorem d_La_law_367 : decode code 367 = .ok (.ireturn, 1) := by decide +kernel
theorem d_La_law_368 : decode code 368 = .ok (.goto 331, 3) := by decide +kernel
theorem d_La_law_371 : decode code 371 = .ok (.aload_n 1, 1) := by decide +kernel
theorem d_La_law_372 : decode code 372 = .ok (.aload_n 0, 1) := by decide +kernel
theorem d_La_law_373 : decode code 373 = .ok (.iload 4, 2) := by decide +kernel
theorem d_La_law_375 : decode code 375 = .ok (.iconst 1, 1) := by decide +kernel
theorem d_La_law_376 : decode code 376 = .ok (.iadd, 1) := by decide +kernel
theorem d_La_law_377 : decode code 377 = .ok (.iaload, 1) := by decide +kernel
theorem d_La_law_378 : decode code 378 = .ok (.aload_n 3, 1) := by decide +kernel
theorem d_La_law_379 : decode code 379 = .ok (.invokestatic 76, 3) := by decide +kernel
theorem d_La_law_382 : decode code 382 = .ok (.istore 5, 2) := by decide +kernel
theorem d_La_law_384 : decode code 384 = .ok (.aload_n 2, 1) := by decide +kernel
theorem d_La_law_385 : decode code 385 = .ok (.aload_n 0, 1) := by decide +kernel
theorem d_La_law_386 : decode code 386 = .ok (.iload 4, 2) := by decide +kernel
theorem d_La_law_388 : decode code 388 = .ok (.iconst 1, 1) := by decide +kernel
theorem d_La_law_389 : decode code 389 = .ok (.iadd, 1) := by decide +kernel
theorem d_La_law_390 : decode code 390 = .ok (.iaload, 1) := by decide +kernel
theorem d_La_law_391 : decode code 391 = .ok (.invokevirtual 79, 3) := by decide +kernel
theorem d_La_law_394 : decode code 394 = .ok (.istore 6, 2) := by decide +kernel
theorem d_La_law_396 : decode code 396 = .ok (.aload_n 2, 1) := by decide +kernel
theorem d_La_law_397 : decode code 397 = .ok (.invokevirtual 60, 3) := by decide +kernel
theorem d_La_law_400 : decode code 400 = .ok (.iload 5, 2) := by decide +kernel
theorem d_La_law_402 : decode code 402 = .ok (.if_icmp .eq 5, 3) := by decide +kernel
theorem d_La_law_405 : decode code 405 = .ok (.iconst 0, 1) := by decide +kernel
theorem d_La_law_406 : decode code 406 = .ok (.ireturn, 1) := by decide +kernel
theorem d_La_law_407 : decode code 407 = .ok (.iload 5, 2) := by decide +kernel
theorem d_La_law_409 : decode code 409 = .ok (.ifCond .ne 15, 3) := by decide +kernel
theorem d_La_law_412 : decode code 412 = .ok (.aload_n 3, 1) := by decide +kernel
theorem d_La_law_413 : decode code 413 = .ok (.iconst 0, 1) := by decide +kernel
theorem d_La_law_414 : decode code 414 = .ok (.laload, 1) := by decide +kernel
theorem d_La_law_415 : decode code 415 = .ok (.iload 6, 2) := by decide +kernel
theorem d_La_law_417 : decode code 417 = .ok (.i2l, 1) := by decide +kernel
theorem d_La_law_418 : decode code 418 = .ok (.lcmp, 1) := by decide +kernel
theorem d_La_law_419 : decode code 419 = .ok (.ifCond .eq 5, 3) := by decide +kernel
theorem d_La_law_422 : decode code 422 = .ok (.iconst 0, 1) := by decide +kernel
theorem d_La_law_423 : decode code 423 = .ok (.ireturn, 1) := by decide +kernel
theorem d_La_law_424 : decode code 424 = .ok (.goto 275, 3) := by decide +kernel
theorem d_La_law_427 : decode code 427 = .ok (.aload_n 1, 1) := by decide +kernel
theorem d_La_law_428 : decode code 428 = .ok (.aload_n 0, 1) := by decide +kernel
theorem d_La_law_429 : decode code 429 = .ok (.iload 4, 2) := by decide +kernel
theorem d_La_law_431 : decode code 431 = .ok (.iconst 1, 1) := by decide +kernel
theorem d_La_law_432 : decode code 432 = .ok (.iadd, 1) := by decide +kernel
theorem d_La_law_433 : decode code 433 = .ok (.iaload, 1) := by decide +kernel
theorem d_La_law_434 : decode code 434 = .ok (.aload_n 0, 1) := by decide +kernel
theorem d_La_law_435 : decode code 435 = .ok (.iload 4, 2) := by decide +kernel
theorem d_La_law_437 : decode code 437 = .ok (.iconst 2, 1) := by decide +kernel
theorem d_La_law_438 : decode code 438 = .ok (.iadd, 1) := by decide +kernel
theorem d_La_law_439 : decode code 439 = .ok (.iaload, 1) := by decide +kernel
theorem d_La_law_440 : decode code 440 = .ok (.aload_n 3, 1) := by decide +kernel
theorem d_La_law_441 : decode code 441 = .ok (.invokestatic 80, 3) := by decide +kernel
theorem d_La_law_444 : decode code 444 = .ok (.istore 5, 2) := by decide +kernel
theorem d_La_law_446 : decode code 446 = .ok (.aload_n 2, 1) := by decide +kernel
theorem d_La_law_447 : decode code 447 = .ok (.aload_n 0, 1) := by decide +kernel
theorem d_La_law_448 : decode code 448 = .ok (.iload 4, 2) := by decide +kernel
theorem d_La_law_450 : decode code 450 = .ok (.iconst 1, 1) := by decide +kernel
theorem d_La_law_451 : decode code 451 = .ok (.iadd, 1) := by decide +kernel
