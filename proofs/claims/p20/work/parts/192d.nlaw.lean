set_option maxRecDepth 20000 in
theorem ggL_isBag_X0_bag : GoodIn wsL_isBag wsX0_bag := goodIn_ca (goodIn_r _ [5, 6, 7, 8, 9, 4, 10, 11, 12, 13, 14, 15, 16, 17, 18, 19, 20, 21, 22, 23, 24, 25, 26, 27, 28, 29, 30, 31, 32, 33, 34, 35, 36, 37, 38, 39, 40, 41, 42, 43, 44, 45, 46, 47, 48, 49, 50, 51, 52, 53, 54, 55, 56, 57, 58, 59, 60, 61, 62, 63, 64, 65, 66, 67, 68, 69, 70, 71, 72, 73, 74, 75, 76, 77, 78, 79, 80, 81, 82, 83, 84, 85, 86, 87, 88, 89, 90, 91, 92, 93, 94, 115, 116, 117, 118, 119, 120, 121, 122, 123, 124, 125, 126] (by decide +kernel) (by decide +kernel)) (goodIn_sub (fun _ h => List.mem_cons_of_mem _ (List.mem_append_right _ h)) (by decide +kernel))
set_option maxRecDepth 20000 in
theorem gL_isBag_X0_bag : GoodIn wsL_isBag (wsV RL 59 RX0 yX0_bag wsX0_bag) := goodIn_app (goodIn_of _ (by decide +kernel)) ggL_isBag_X0_bag
set_option maxRecDepth 20000 in
theorem ggL_isBag_L_yes : GoodIn wsL_isBag wsL_yes := goodIn_ca (goodIn_r _ [98, 99, 100, 101, 102, 4, 103, 6, 7, 47, 104, 105, 106, 107, 11, 12, 13, 43, 44, 45, 46, 48, 49, 50, 108, 109, 110, 111, 37, 8, 9, 10, 14, 15, 16, 17, 18, 19, 20, 21, 22, 23, 24, 25, 26, 27, 28, 29, 30, 31, 32, 33, 34, 35, 36, 38, 39, 40, 41, 42, 51, 52, 53, 54, 55, 56, 57, 58, 59, 69, 70, 71, 72, 73, 74, 75, 76, 77, 78, 79, 80, 81, 82, 83, 84, 85, 86, 87, 68, 88, 89, 90, 91, 92, 93, 94, 115, 116, 117, 118, 119, 120, 121, 122, 123, 124, 125, 126] (by decide +kernel) (by decide +kernel)) (goodIn_sub (fun _ h => List.mem_cons_of_mem _ (List.mem_append_right _ h)) (by decide +kernel))
set_option maxRecDepth 20000 in
theorem gL_isBag_L_yes : GoodIn wsL_isBag (va_wsS RL 102 yL_yes wsL_yes) := goodIn_app (goodIn_of _ (by decide +kernel)) ggL_isBag_L_yes
set_option maxRecDepth 20000 in
theorem ggL_isBag_L_bits : GoodIn wsL_isBag wsL_bits := goodIn_r _ [114] (by decide +kernel) (by decide +kernel)
set_option maxRecDepth 20000 in
theorem gL_isBag_L_bits : GoodIn wsL_isBag (va_wsS RL 106 yL_bits wsL_bits) := goodIn_app (goodIn_of _ (by decide +kernel)) ggL_isBag_L_bits
theorem dL_isBag_0 : decode cL_isBag 0 = .ok (.iconst 0, 1) := by decide +kernel
theorem dL_isBag_1 : decode cL_isBag 1 = .ok (.istore 7, 2) := by decide +kernel
theorem dL_isBag_3 : decode cL_isBag 3 = .ok (.iconst 0, 1) := by decide +kernel
theorem dL_isBag_4 : decode cL_isBag 4 = .ok (.istore 8, 2) := by decide +kernel
theorem dL_isBag_6 : decode cL_isBag 6 = .ok (.iconst 0, 1) := by decide +kernel
theorem dL_isBag_7 : decode cL_isBag 7 = .ok (.istore 9, 2) := by decide +kernel
theorem dL_isBag_9 : decode cL_isBag 9 = .ok (.iload 9, 2) := by decide +kernel
theorem dL_isBag_11 : decode cL_isBag 11 = .ok (.aload_n 3, 1) := by decide +kernel
theorem dL_isBag_12 : decode cL_isBag 12 = .ok (.iconst 0, 1) := by decide +kernel
theorem dL_isBag_13 : decode cL_isBag 13 = .ok (.iaload, 1) := by decide +kernel
theorem dL_isBag_14 : decode cL_isBag 14 = .ok (.if_icmp .ge 54, 3) := by decide +kernel
theorem dL_isBag_17 : decode cL_isBag 17 = .ok (.iload 7, 2) := by decide +kernel
theorem dL_isBag_19 : decode cL_isBag 19 = .ok (.aload_n 1, 1) := by decide +kernel
theorem dL_isBag_20 : decode cL_isBag 20 = .ok (.iconst 5, 1) := by decide +kernel
theorem dL_isBag_21 : decode cL_isBag 21 = .ok (.iload 9, 2) := by decide +kernel
theorem dL_isBag_23 : decode cL_isBag 23 = .ok (.imul, 1) := by decide +kernel
theorem dL_isBag_24 : decode cL_isBag 24 = .ok (.iaload, 1) := by decide +kernel
theorem dL_isBag_25 : decode cL_isBag 25 = .ok (.ifCond .lt 10, 3) := by decide +kernel
theorem dL_isBag_28 : decode cL_isBag 28 = .ok (.iconst 1, 1) := by decide +kernel
theorem dL_isBag_29 : decode cL_isBag 29 = .ok (.iload 9, 2) := by decide +kernel
theorem dL_isBag_31 : decode cL_isBag 31 = .ok (.ishl, 1) := by decide +kernel
theorem dL_isBag_32 : decode cL_isBag 32 = .ok (.goto 4, 3) := by decide +kernel
theorem dL_isBag_35 : decode cL_isBag 35 = .ok (.iconst 0, 1) := by decide +kernel
theorem dL_isBag_36 : decode cL_isBag 36 = .ok (.ior, 1) := by decide +kernel
theorem dL_isBag_37 : decode cL_isBag 37 = .ok (.istore 7, 2) := by decide +kernel
theorem dL_isBag_39 : decode cL_isBag 39 = .ok (.iload 8, 2) := by decide +kernel
theorem dL_isBag_41 : decode cL_isBag 41 = .ok (.aload_n 1, 1) := by decide +kernel
theorem dL_isBag_42 : decode cL_isBag 42 = .ok (.iconst 5, 1) := by decide +kernel
theorem dL_isBag_43 : decode cL_isBag 43 = .ok (.iload 9, 2) := by decide +kernel
theorem dL_isBag_45 : decode cL_isBag 45 = .ok (.imul, 1) := by decide +kernel
theorem dL_isBag_46 : decode cL_isBag 46 = .ok (.iaload, 1) := by decide +kernel
theorem dL_isBag_47 : decode cL_isBag 47 = .ok (.iconst 2, 1) := by decide +kernel
theorem dL_isBag_48 : decode cL_isBag 48 = .ok (.if_icmp .ne 10, 3) := by decide +kernel
theorem dL_isBag_51 : decode cL_isBag 51 = .ok (.iconst 1, 1) := by decide +kernel
theorem dL_isBag_52 : decode cL_isBag 52 = .ok (.iload 9, 2) := by decide +kernel
theorem dL_isBag_54 : decode cL_isBag 54 = .ok (.ishl, 1) := by decide +kernel
theorem dL_isBag_55 : decode cL_isBag 55 = .ok (.goto 4, 3) := by decide +kernel
theorem dL_isBag_58 : decode cL_isBag 58 = .ok (.iconst 0, 1) := by decide +kernel
theorem dL_isBag_59 : decode cL_isBag 59 = .ok (.ior, 1) := by decide +kernel
theorem dL_isBag_60 : decode cL_isBag 60 = .ok (.istore 8, 2) := by decide +kernel
theorem dL_isBag_62 : decode cL_isBag 62 = .ok (.iinc 9 1, 3) := by decide +kernel
theorem dL_isBag_65 : decode cL_isBag 65 = .ok (.goto (-56), 3) := by decide +kernel
theorem dL_isBag_68 : decode cL_isBag 68 = .ok (.aload_n 0, 1) := by decide +kernel
theorem dL_isBag_69 : decode cL_isBag 69 = .ok (.iload 5, 2) := by decide +kernel
theorem dL_isBag_71 : decode cL_isBag 71 = .ok (.iload 6, 2) := by decide +kernel
theorem dL_isBag_73 : decode cL_isBag 73 = .ok (.invokevirtual 59, 3) := by decide +kernel
theorem dL_isBag_76 : decode cL_isBag 76 = .ok (.istore 9, 2) := by decide +kernel
theorem dL_isBag_78 : decode cL_isBag 78 = .ok (.iload 4, 2) := by decide +kernel
theorem dL_isBag_80 : decode cL_isBag 80 = .ok (.iload 7, 2) := by decide +kernel
theorem dL_isBag_82 : decode cL_isBag 82 = .ok (.iand, 1) := by decide +kernel
theorem dL_isBag_83 : decode cL_isBag 83 = .ok (.istore 10, 2) := by decide +kernel
theorem dL_isBag_85 : decode cL_isBag 85 = .ok (.aload_n 0, 1) := by decide +kernel
theorem dL_isBag_86 : decode cL_isBag 86 = .ok (.iconst 1, 1) := by decide +kernel
theorem dL_isBag_87 : decode cL_isBag 87 = .ok (.iload 7, 2) := by decide +kernel
theorem dL_isBag_89 : decode cL_isBag 89 = .ok (.iload 5, 2) := by decide +kernel
theorem dL_isBag_91 : decode cL_isBag 91 = .ok (.iload 6, 2) := by decide +kernel
theorem dL_isBag_93 : decode cL_isBag 93 = .ok (.invokestatic 102, 3) := by decide +kernel
theorem dL_isBag_96 : decode cL_isBag 96 = .ok (.iconst 1, 1) := by decide +kernel
theorem dL_isBag_97 : decode cL_isBag 97 = .ok (.if_icmp .ne 7, 3) := by decide +kernel
theorem dL_isBag_100 : decode cL_isBag 100 = .ok (.iconst 1, 1) := by decide +kernel
theorem dL_isBag_101 : decode cL_isBag 101 = .ok (.goto 4, 3) := by decide +kernel
theorem dL_isBag_104 : decode cL_isBag 104 = .ok (.iconst 0, 1) := by decide +kernel
theorem dL_isBag_105 : decode cL_isBag 105 = .ok (.istore 11, 2) := by decide +kernel
theorem dL_isBag_107 : decode cL_isBag 107 = .ok (.iload 9, 2) := by decide +kernel
theorem dL_isBag_109 : decode cL_isBag 109 = .ok (.ifCond .eq 7, 3) := by decide +kernel
theorem dL_isBag_112 : decode cL_isBag 112 = .ok (.iconst 1, 1) := by decide +kernel
theorem dL_isBag_113 : decode cL_isBag 113 = .ok (.goto 4, 3) := by decide +kernel
theorem dL_isBag_116 : decode cL_isBag 116 = .ok (.iconst 0, 1) := by decide +kernel
theorem dL_isBag_117 : decode cL_isBag 117 = .ok (.iload 11, 2) := by decide +kernel
theorem dL_isBag_119 : decode cL_isBag 119 = .ok (.if_icmp .ne 68, 3) := by decide +kernel
theorem dL_isBag_122 : decode cL_isBag 122 = .ok (.iload 9, 2) := by decide +kernel
theorem dL_isBag_124 : decode cL_isBag 124 = .ok (.iload 7, 2) := by decide +kernel
theorem dL_isBag_126 : decode cL_isBag 126 = .ok (.iconst (-1), 1) := by decide +kernel
theorem dL_isBag_127 : decode cL_isBag 127 = .ok (.ixor, 1) := by decide +kernel
theorem dL_isBag_128 : decode cL_isBag 128 = .ok (.iand, 1) := by decide +kernel
theorem dL_isBag_129 : decode cL_isBag 129 = .ok (.ifCond .ne 58, 3) := by decide +kernel
theorem dL_isBag_132 : decode cL_isBag 132 = .ok (.iload 9, 2) := by decide +kernel
theorem dL_isBag_134 : decode cL_isBag 134 = .ok (.iload 8, 2) := by decide +kernel
theorem dL_isBag_136 : decode cL_isBag 136 = .ok (.iand, 1) := by decide +kernel
theorem dL_isBag_137 : decode cL_isBag 137 = .ok (.ifCond .ne 50, 3) := by decide +kernel
theorem dL_isBag_140 : decode cL_isBag 140 = .ok (.iload 11, 2) := by decide +kernel
theorem dL_isBag_142 : decode cL_isBag 142 = .ok (.ifCond .eq 18, 3) := by decide +kernel
theorem dL_isBag_145 : decode cL_isBag 145 = .ok (.aload_n 0, 1) := by decide +kernel
theorem dL_isBag_146 : decode cL_isBag 146 = .ok (.iconst 1, 1) := by decide +kernel
theorem dL_isBag_147 : decode cL_isBag 147 = .ok (.iload 9, 2) := by decide +kernel
theorem dL_isBag_149 : decode cL_isBag 149 = .ok (.iload 5, 2) := by decide +kernel
theorem dL_isBag_151 : decode cL_isBag 151 = .ok (.iload 6, 2) := by decide +kernel
theorem dL_isBag_153 : decode cL_isBag 153 = .ok (.invokestatic 102, 3) := by decide +kernel
theorem dL_isBag_156 : decode cL_isBag 156 = .ok (.iconst 1, 1) := by decide +kernel
theorem dL_isBag_157 : decode cL_isBag 157 = .ok (.if_icmp .ne 30, 3) := by decide +kernel
theorem dL_isBag_160 : decode cL_isBag 160 = .ok (.iload 11, 2) := by decide +kernel
theorem dL_isBag_162 : decode cL_isBag 162 = .ok (.ifCond .eq 21, 3) := by decide +kernel
theorem dL_isBag_165 : decode cL_isBag 165 = .ok (.aload_n 0, 1) := by decide +kernel
theorem dL_isBag_166 : decode cL_isBag 166 = .ok (.iconst 1, 1) := by decide +kernel
theorem dL_isBag_167 : decode cL_isBag 167 = .ok (.iload 9, 2) := by decide +kernel
theorem dL_isBag_169 : decode cL_isBag 169 = .ok (.iload 10, 2) := by decide +kernel
theorem dL_isBag_171 : decode cL_isBag 171 = .ok (.ior, 1) := by decide +kernel
theorem dL_isBag_172 : decode cL_isBag 172 = .ok (.iload 5, 2) := by decide +kernel
theorem dL_isBag_174 : decode cL_isBag 174 = .ok (.iload 6, 2) := by decide +kernel
theorem dL_isBag_176 : decode cL_isBag 176 = .ok (.invokestatic 102, 3) := by decide +kernel
theorem dL_isBag_179 : decode cL_isBag 179 = .ok (.iconst 1, 1) := by decide +kernel
theorem dL_isBag_180 : decode cL_isBag 180 = .ok (.if_icmp .ne 7, 3) := by decide +kernel
theorem dL_isBag_183 : decode cL_isBag 183 = .ok (.iconst 1, 1) := by decide +kernel
theorem dL_isBag_184 : decode cL_isBag 184 = .ok (.goto 4, 3) := by decide +kernel
theorem dL_isBag_187 : decode cL_isBag 187 = .ok (.iconst 0, 1) := by decide +kernel
theorem dL_isBag_188 : decode cL_isBag 188 = .ok (.istore 12, 2) := by decide +kernel
theorem dL_isBag_190 : decode cL_isBag 190 = .ok (.iconst 0, 1) := by decide +kernel
theorem dL_isBag_191 : decode cL_isBag 191 = .ok (.istore 13, 2) := by decide +kernel
theorem dL_isBag_193 : decode cL_isBag 193 = .ok (.iconst 0, 1) := by decide +kernel
theorem dL_isBag_194 : decode cL_isBag 194 = .ok (.istore 14, 2) := by decide +kernel
theorem dL_isBag_196 : decode cL_isBag 196 = .ok (.iconst 0, 1) := by decide +kernel
theorem dL_isBag_197 : decode cL_isBag 197 = .ok (.istore 15, 2) := by decide +kernel
theorem dL_isBag_199 : decode cL_isBag 199 = .ok (.iload 15, 2) := by decide +kernel
theorem dL_isBag_201 : decode cL_isBag 201 = .ok (.aload_n 3, 1) := by decide +kernel
theorem dL_isBag_202 : decode cL_isBag 202 = .ok (.iconst 0, 1) := by decide +kernel
theorem dL_isBag_203 : decode cL_isBag 203 = .ok (.iaload, 1) := by decide +kernel
theorem dL_isBag_204 : decode cL_isBag 204 = .ok (.if_icmp .ge 143, 3) := by decide +kernel
theorem dL_isBag_207 : decode cL_isBag 207 = .ok (.iload 12, 2) := by decide +kernel
theorem dL_isBag_209 : decode cL_isBag 209 = .ok (.ifCond .eq 138, 3) := by decide +kernel
theorem dL_isBag_212 : decode cL_isBag 212 = .ok (.iload 10, 2) := by decide +kernel
theorem dL_isBag_214 : decode cL_isBag 214 = .ok (.iload 15, 2) := by decide +kernel
theorem dL_isBag_216 : decode cL_isBag 216 = .ok (.ishr, 1) := by decide +kernel
theorem dL_isBag_217 : decode cL_isBag 217 = .ok (.iconst 1, 1) := by decide +kernel
theorem dL_isBag_218 : decode cL_isBag 218 = .ok (.iand, 1) := by decide +kernel
theorem dL_isBag_219 : decode cL_isBag 219 = .ok (.iconst 1, 1) := by decide +kernel
theorem dL_isBag_220 : decode cL_isBag 220 = .ok (.if_icmp .ne 7, 3) := by decide +kernel
theorem dL_isBag_223 : decode cL_isBag 223 = .ok (.iconst 1, 1) := by decide +kernel
theorem dL_isBag_224 : decode cL_isBag 224 = .ok (.goto 4, 3) := by decide +kernel
theorem dL_isBag_227 : decode cL_isBag 227 = .ok (.iconst 0, 1) := by decide +kernel
theorem dL_isBag_228 : decode cL_isBag 228 = .ok (.istore 16, 2) := by decide +kernel
theorem dL_isBag_230 : decode cL_isBag 230 = .ok (.iload 13, 2) := by decide +kernel
theorem dL_isBag_232 : decode cL_isBag 232 = .ok (.iload 16, 2) := by decide +kernel
theorem dL_isBag_234 : decode cL_isBag 234 = .ok (.ifCond .eq 28, 3) := by decide +kernel
theorem dL_isBag_237 : decode cL_isBag 237 = .ok (.aload_n 1, 1) := by decide +kernel
theorem dL_isBag_238 : decode cL_isBag 238 = .ok (.iconst 5, 1) := by decide +kernel
theorem dL_isBag_239 : decode cL_isBag 239 = .ok (.iload 15, 2) := by decide +kernel
theorem dL_isBag_241 : decode cL_isBag 241 = .ok (.imul, 1) := by decide +kernel
theorem dL_isBag_242 : decode cL_isBag 242 = .ok (.iaload, 1) := by decide +kernel
theorem dL_isBag_243 : decode cL_isBag 243 = .ok (.ifCond .ne 19, 3) := by decide +kernel
theorem dL_isBag_246 : decode cL_isBag 246 = .ok (.aload_n 1, 1) := by decide +kernel
theorem dL_isBag_247 : decode cL_isBag 247 = .ok (.iconst 5, 1) := by decide +kernel
theorem dL_isBag_248 : decode cL_isBag 248 = .ok (.iload 15, 2) := by decide +kernel
theorem dL_isBag_250 : decode cL_isBag 250 = .ok (.imul, 1) := by decide +kernel
theorem dL_isBag_251 : decode cL_isBag 251 = .ok (.iconst 3, 1) := by decide +kernel
theorem dL_isBag_252 : decode cL_isBag 252 = .ok (.iadd, 1) := by decide +kernel
theorem dL_isBag_253 : decode cL_isBag 253 = .ok (.iaload, 1) := by decide +kernel
theorem dL_isBag_254 : decode cL_isBag 254 = .ok (.aload_n 2, 1) := by decide +kernel
theorem dL_isBag_255 : decode cL_isBag 255 = .ok (.iload 15, 2) := by decide +kernel
theorem dL_isBag_257 : decode cL_isBag 257 = .ok (.iaload, 1) := by decide +kernel
theorem dL_isBag_258 : decode cL_isBag 258 = .ok (.isub, 1) := by decide +kernel
theorem dL_isBag_259 : decode cL_isBag 259 = .ok (.goto 4, 3) := by decide +kernel
theorem dL_isBag_262 : decode cL_isBag 262 = .ok (.iconst 0, 1) := by decide +kernel
theorem dL_isBag_263 : decode cL_isBag 263 = .ok (.iadd, 1) := by decide +kernel
theorem dL_isBag_264 : decode cL_isBag 264 = .ok (.istore 13, 2) := by decide +kernel
theorem dL_isBag_266 : decode cL_isBag 266 = .ok (.iload 14, 2) := by decide +kernel
theorem dL_isBag_268 : decode cL_isBag 268 = .ok (.iload 16, 2) := by decide +kernel
theorem dL_isBag_270 : decode cL_isBag 270 = .ok (.ifCond .eq 29, 3) := by decide +kernel
theorem dL_isBag_273 : decode cL_isBag 273 = .ok (.aload_n 1, 1) := by decide +kernel
theorem dL_isBag_274 : decode cL_isBag 274 = .ok (.iconst 5, 1) := by decide +kernel
theorem dL_isBag_275 : decode cL_isBag 275 = .ok (.iload 15, 2) := by decide +kernel
theorem dL_isBag_277 : decode cL_isBag 277 = .ok (.imul, 1) := by decide +kernel
theorem dL_isBag_278 : decode cL_isBag 278 = .ok (.iaload, 1) := by decide +kernel
theorem dL_isBag_279 : decode cL_isBag 279 = .ok (.iconst 1, 1) := by decide +kernel
theorem dL_isBag_280 : decode cL_isBag 280 = .ok (.if_icmp .ne 19, 3) := by decide +kernel
theorem dL_isBag_283 : decode cL_isBag 283 = .ok (.aload_n 1, 1) := by decide +kernel
theorem dL_isBag_284 : decode cL_isBag 284 = .ok (.iconst 5, 1) := by decide +kernel
theorem dL_isBag_285 : decode cL_isBag 285 = .ok (.iload 15, 2) := by decide +kernel
theorem dL_isBag_287 : decode cL_isBag 287 = .ok (.imul, 1) := by decide +kernel
theorem dL_isBag_288 : decode cL_isBag 288 = .ok (.iconst 3, 1) := by decide +kernel
theorem dL_isBag_289 : decode cL_isBag 289 = .ok (.iadd, 1) := by decide +kernel
theorem dL_isBag_290 : decode cL_isBag 290 = .ok (.iaload, 1) := by decide +kernel
theorem dL_isBag_291 : decode cL_isBag 291 = .ok (.aload_n 2, 1) := by decide +kernel
theorem dL_isBag_292 : decode cL_isBag 292 = .ok (.iload 15, 2) := by decide +kernel
theorem dL_isBag_294 : decode cL_isBag 294 = .ok (.iaload, 1) := by decide +kernel
theorem dL_isBag_295 : decode cL_isBag 295 = .ok (.isub, 1) := by decide +kernel
theorem dL_isBag_296 : decode cL_isBag 296 = .ok (.goto 4, 3) := by decide +kernel
theorem dL_isBag_299 : decode cL_isBag 299 = .ok (.iconst 0, 1) := by decide +kernel
theorem dL_isBag_300 : decode cL_isBag 300 = .ok (.iadd, 1) := by decide +kernel
theorem dL_isBag_301 : decode cL_isBag 301 = .ok (.istore 14, 2) := by decide +kernel
theorem dL_isBag_303 : decode cL_isBag 303 = .ok (.iload 9, 2) := by decide +kernel
theorem dL_isBag_305 : decode cL_isBag 305 = .ok (.iload 15, 2) := by decide +kernel
theorem dL_isBag_307 : decode cL_isBag 307 = .ok (.ishr, 1) := by decide +kernel
theorem dL_isBag_308 : decode cL_isBag 308 = .ok (.iconst 1, 1) := by decide +kernel
theorem dL_isBag_309 : decode cL_isBag 309 = .ok (.iand, 1) := by decide +kernel
theorem dL_isBag_310 : decode cL_isBag 310 = .ok (.ifCond .eq 24, 3) := by decide +kernel
theorem dL_isBag_313 : decode cL_isBag 313 = .ok (.aload_n 0, 1) := by decide +kernel
theorem dL_isBag_314 : decode cL_isBag 314 = .ok (.iconst 1, 1) := by decide +kernel
theorem dL_isBag_315 : decode cL_isBag 315 = .ok (.iload 9, 2) := by decide +kernel
theorem dL_isBag_317 : decode cL_isBag 317 = .ok (.iconst 1, 1) := by decide +kernel
theorem dL_isBag_318 : decode cL_isBag 318 = .ok (.iload 15, 2) := by decide +kernel
theorem dL_isBag_320 : decode cL_isBag 320 = .ok (.ishl, 1) := by decide +kernel
theorem dL_isBag_321 : decode cL_isBag 321 = .ok (.iconst (-1), 1) := by decide +kernel
theorem dL_isBag_322 : decode cL_isBag 322 = .ok (.ixor, 1) := by decide +kernel
theorem dL_isBag_323 : decode cL_isBag 323 = .ok (.iand, 1) := by decide +kernel
theorem dL_isBag_324 : decode cL_isBag 324 = .ok (.iload 5, 2) := by decide +kernel
theorem dL_isBag_326 : decode cL_isBag 326 = .ok (.iload 6, 2) := by decide +kernel
theorem dL_isBag_328 : decode cL_isBag 328 = .ok (.invokestatic 102, 3) := by decide +kernel
theorem dL_isBag_331 : decode cL_isBag 331 = .ok (.ifCond .ne 7, 3) := by decide +kernel
theorem dL_isBag_334 : decode cL_isBag 334 = .ok (.iconst 1, 1) := by decide +kernel
theorem dL_isBag_335 : decode cL_isBag 335 = .ok (.goto 4, 3) := by decide +kernel
theorem dL_isBag_338 : decode cL_isBag 338 = .ok (.iconst 0, 1) := by decide +kernel
theorem dL_isBag_339 : decode cL_isBag 339 = .ok (.istore 12, 2) := by decide +kernel
theorem dL_isBag_341 : decode cL_isBag 341 = .ok (.iinc 15 1, 3) := by decide +kernel
theorem dL_isBag_344 : decode cL_isBag 344 = .ok (.goto (-145), 3) := by decide +kernel
theorem dL_isBag_347 : decode cL_isBag 347 = .ok (.aload_n 0, 1) := by decide +kernel
theorem dL_isBag_348 : decode cL_isBag 348 = .ok (.iconst 1, 1) := by decide +kernel
theorem dL_isBag_349 : decode cL_isBag 349 = .ok (.iload 10, 2) := by decide +kernel
theorem dL_isBag_351 : decode cL_isBag 351 = .ok (.iload 5, 2) := by decide +kernel
theorem dL_isBag_353 : decode cL_isBag 353 = .ok (.iload 6, 2) := by decide +kernel
theorem dL_isBag_355 : decode cL_isBag 355 = .ok (.invokestatic 102, 3) := by decide +kernel
theorem dL_isBag_358 : decode cL_isBag 358 = .ok (.iconst 1, 1) := by decide +kernel
theorem dL_isBag_359 : decode cL_isBag 359 = .ok (.if_icmp .ne 7, 3) := by decide +kernel
theorem dL_isBag_362 : decode cL_isBag 362 = .ok (.iconst 1, 1) := by decide +kernel
theorem dL_isBag_363 : decode cL_isBag 363 = .ok (.goto 4, 3) := by decide +kernel
theorem dL_isBag_366 : decode cL_isBag 366 = .ok (.iconst 0, 1) := by decide +kernel
theorem dL_isBag_367 : decode cL_isBag 367 = .ok (.istore 15, 2) := by decide +kernel
theorem dL_isBag_369 : decode cL_isBag 369 = .ok (.iload 12, 2) := by decide +kernel
theorem dL_isBag_371 : decode cL_isBag 371 = .ok (.ifCond .eq 91, 3) := by decide +kernel
theorem dL_isBag_374 : decode cL_isBag 374 = .ok (.iload 15, 2) := by decide +kernel
theorem dL_isBag_376 : decode cL_isBag 376 = .ok (.ifCond .eq 82, 3) := by decide +kernel
theorem dL_isBag_379 : decode cL_isBag 379 = .ok (.iload 13, 2) := by decide +kernel
theorem dL_isBag_381 : decode cL_isBag 381 = .ok (.iload 5, 2) := by decide +kernel
theorem dL_isBag_383 : decode cL_isBag 383 = .ok (.if_icmp .lt 79, 3) := by decide +kernel
theorem dL_isBag_386 : decode cL_isBag 386 = .ok (.iload 14, 2) := by decide +kernel
theorem dL_isBag_388 : decode cL_isBag 388 = .ok (.iload 5, 2) := by decide +kernel
theorem dL_isBag_390 : decode cL_isBag 390 = .ok (.if_icmp .lt 72, 3) := by decide +kernel
theorem dL_isBag_393 : decode cL_isBag 393 = .ok (.iload 11, 2) := by decide +kernel
theorem dL_isBag_395 : decode cL_isBag 395 = .ok (.ifCond .eq 67, 3) := by decide +kernel
theorem dL_isBag_398 : decode cL_isBag 398 = .ok (.aload_n 0, 1) := by decide +kernel
theorem dL_isBag_399 : decode cL_isBag 399 = .ok (.iconst 1, 1) := by decide +kernel
theorem dL_isBag_400 : decode cL_isBag 400 = .ok (.iload 10, 2) := by decide +kernel
theorem dL_isBag_402 : decode cL_isBag 402 = .ok (.iload 5, 2) := by decide +kernel
theorem dL_isBag_404 : decode cL_isBag 404 = .ok (.iconst 1, 1) := by decide +kernel
theorem dL_isBag_405 : decode cL_isBag 405 = .ok (.if_icmp .le 10, 3) := by decide +kernel
theorem dL_isBag_408 : decode cL_isBag 408 = .ok (.iload 5, 2) := by decide +kernel
theorem dL_isBag_410 : decode cL_isBag 410 = .ok (.iconst 1, 1) := by decide +kernel
theorem dL_isBag_411 : decode cL_isBag 411 = .ok (.isub, 1) := by decide +kernel
theorem dL_isBag_412 : decode cL_isBag 412 = .ok (.goto 4, 3) := by decide +kernel
theorem dL_isBag_415 : decode cL_isBag 415 = .ok (.iconst 1, 1) := by decide +kernel
theorem dL_isBag_416 : decode cL_isBag 416 = .ok (.iload 6, 2) := by decide +kernel
theorem dL_isBag_418 : decode cL_isBag 418 = .ok (.iconst 2, 1) := by decide +kernel
theorem dL_isBag_419 : decode cL_isBag 419 = .ok (.idiv, 1) := by decide +kernel
theorem dL_isBag_420 : decode cL_isBag 420 = .ok (.invokestatic 102, 3) := by decide +kernel
theorem dL_isBag_423 : decode cL_isBag 423 = .ok (.iconst 1, 1) := by decide +kernel
theorem dL_isBag_424 : decode cL_isBag 424 = .ok (.if_icmp .ne 38, 3) := by decide +kernel
theorem dL_isBag_427 : decode cL_isBag 427 = .ok (.aload_n 0, 1) := by decide +kernel
theorem dL_isBag_428 : decode cL_isBag 428 = .ok (.iconst 1, 1) := by decide +kernel
theorem dL_isBag_429 : decode cL_isBag 429 = .ok (.iload 10, 2) := by decide +kernel
theorem dL_isBag_431 : decode cL_isBag 431 = .ok (.iload 8, 2) := by decide +kernel
theorem dL_isBag_433 : decode cL_isBag 433 = .ok (.ior, 1) := by decide +kernel
theorem dL_isBag_434 : decode cL_isBag 434 = .ok (.iload 5, 2) := by decide +kernel
theorem dL_isBag_436 : decode cL_isBag 436 = .ok (.iload 6, 2) := by decide +kernel
theorem dL_isBag_438 : decode cL_isBag 438 = .ok (.invokestatic 102, 3) := by decide +kernel
theorem dL_isBag_441 : decode cL_isBag 441 = .ok (.iconst 1, 1) := by decide +kernel
theorem dL_isBag_442 : decode cL_isBag 442 = .ok (.if_icmp .ne 20, 3) := by decide +kernel
theorem dL_isBag_445 : decode cL_isBag 445 = .ok (.iload 9, 2) := by decide +kernel
theorem dL_isBag_447 : decode cL_isBag 447 = .ok (.invokestatic 106, 3) := by decide +kernel
theorem dL_isBag_450 : decode cL_isBag 450 = .ok (.iload 10, 2) := by decide +kernel
theorem dL_isBag_452 : decode cL_isBag 452 = .ok (.invokestatic 106, 3) := by decide +kernel
theorem dL_isBag_455 : decode cL_isBag 455 = .ok (.if_icmp .gt 7, 3) := by decide +kernel
theorem dL_isBag_458 : decode cL_isBag 458 = .ok (.iconst 1, 1) := by decide +kernel
theorem dL_isBag_459 : decode cL_isBag 459 = .ok (.goto 4, 3) := by decide +kernel
theorem dL_isBag_462 : decode cL_isBag 462 = .ok (.iconst 0, 1) := by decide +kernel
theorem dL_isBag_463 : decode cL_isBag 463 = .ok (.ireturn, 1) := by decide +kernel
