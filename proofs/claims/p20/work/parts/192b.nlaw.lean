set_option maxRecDepth 20000 in
theorem ggL_areThings_L_of : GoodIn wsL_areThings wsL_of := goodIn_ca (goodIn_ca (goodIn_ca (goodIn_r _ [4, 5, 6, 7, 8, 9, 10, 11, 12, 13, 14, 15, 16, 17, 18, 19, 20, 21, 22, 23, 24, 25, 26, 27, 28, 29, 30, 31, 32, 33, 34, 35, 36, 37, 38, 39, 40, 41, 42, 43, 44, 45, 46, 47, 48, 49, 50, 51, 52, 53, 54, 55, 56, 57, 58, 59, 60, 61, 62, 63, 64, 65, 66, 67, 68, 69, 70, 71, 72, 73, 74, 75, 76, 77, 78, 79, 80, 81, 82, 83, 84, 85, 86, 87, 88, 89, 90, 91, 92, 93, 94, 95, 96, 97, 98, 99, 100, 101, 102, 103, 104, 105, 106, 107, 108, 109, 110, 111, 112, 113, 114, 115, 116, 117, 118, 119, 120, 121, 122, 123, 124, 125, 126, 127, 128, 129, 130, 131, 132, 133, 134, 135, 136, 137, 138, 139, 140, 141, 142, 143, 144, 145, 146, 147, 148, 149, 150, 151, 152, 153, 154, 155, 156, 157, 158, 159, 160, 161, 162, 163, 164, 165, 166, 167, 168, 169, 170, 171, 172, 173, 174, 175, 176, 177, 178, 179, 180, 181, 182, 183, 184, 185, 186, 187, 188, 189, 194, 195, 196, 197, 198, 199, 200, 201, 202, 203, 204, 205] (by decide +kernel) (by decide +kernel)) (goodIn_sub (fun _ h => List.mem_cons_of_mem _ (List.mem_append_left _ (List.mem_append_left _ (List.mem_append_right _ h)))) (by decide +kernel))) (goodIn_sub (fun _ h => List.mem_cons_of_mem _ (List.mem_append_left _ (List.mem_append_right _ h))) (by decide +kernel))) (goodIn_sub (fun _ h => List.mem_cons_of_mem _ (List.mem_append_right _ h)) (by decide +kernel))
set_option maxRecDepth 20000 in
theorem gL_areThings_L_of : GoodIn wsL_areThings (va_wsS RL 81 yL_of wsL_of) := goodIn_app (goodIn_of _ (by decide +kernel)) ggL_areThings_L_of
set_option maxRecDepth 20000 in
theorem ggL_areThings_X0_load : GoodIn wsL_areThings wsX0_load := goodIn_ca (goodIn_r _ [111, 36, 37, 38, 112, 113, 11, 114, 42, 43, 44, 115, 116, 117, 118, 119, 62, 16, 17, 18, 19, 15, 120, 121, 122, 123, 31, 194, 195, 196, 197, 198, 199, 200, 201, 202, 203, 204, 205] (by decide +kernel) (by decide +kernel)) (goodIn_sub (fun _ h => List.mem_cons_of_mem _ (List.mem_append_left _ (List.mem_append_right _ h))) (by decide +kernel))
set_option maxRecDepth 20000 in
theorem gL_areThings_X0_load : GoodIn wsL_areThings (wsV RL 49 RX0 yX0_load wsX0_load) := goodIn_app (goodIn_of _ (by decide +kernel)) ggL_areThings_X0_load
set_option maxRecDepth 20000 in
theorem ggL_areThings_X0_things : GoodIn wsL_areThings wsX0_things := goodIn_r _ [193, 15, 20, 21, 22, 23, 24, 25, 26, 194, 195, 196, 197, 198, 199, 200, 201, 202, 203, 204, 205] (by decide +kernel) (by decide +kernel)
set_option maxRecDepth 20000 in
theorem gL_areThings_X0_things : GoodIn wsL_areThings (wsV RL 69 RX0 yX0_things wsX0_things) := goodIn_app (goodIn_of _ (by decide +kernel)) ggL_areThings_X0_things
theorem dL_areThings_0 : decode cL_areThings 0 = .ok (.iconst 0, 1) := by decide +kernel
theorem dL_areThings_1 : decode cL_areThings 1 = .ok (.istore 4, 2) := by decide +kernel
theorem dL_areThings_3 : decode cL_areThings 3 = .ok (.iconst 1, 1) := by decide +kernel
theorem dL_areThings_4 : decode cL_areThings 4 = .ok (.istore 5, 2) := by decide +kernel
theorem dL_areThings_6 : decode cL_areThings 6 = .ok (.iconst 0, 1) := by decide +kernel
theorem dL_areThings_7 : decode cL_areThings 7 = .ok (.istore 6, 2) := by decide +kernel
theorem dL_areThings_9 : decode cL_areThings 9 = .ok (.iload 6, 2) := by decide +kernel
theorem dL_areThings_11 : decode cL_areThings 11 = .ok (.aload_n 3, 1) := by decide +kernel
theorem dL_areThings_12 : decode cL_areThings 12 = .ok (.iconst 0, 1) := by decide +kernel
theorem dL_areThings_13 : decode cL_areThings 13 = .ok (.iaload, 1) := by decide +kernel
theorem dL_areThings_14 : decode cL_areThings 14 = .ok (.if_icmp .ge 79, 3) := by decide +kernel
theorem dL_areThings_17 : decode cL_areThings 17 = .ok (.iload 5, 2) := by decide +kernel
theorem dL_areThings_19 : decode cL_areThings 19 = .ok (.ifCond .eq 74, 3) := by decide +kernel
theorem dL_areThings_22 : decode cL_areThings 22 = .ok (.iload 4, 2) := by decide +kernel
theorem dL_areThings_24 : decode cL_areThings 24 = .ok (.aload_n 1, 1) := by decide +kernel
theorem dL_areThings_25 : decode cL_areThings 25 = .ok (.iconst 5, 1) := by decide +kernel
theorem dL_areThings_26 : decode cL_areThings 26 = .ok (.iload 6, 2) := by decide +kernel
theorem dL_areThings_28 : decode cL_areThings 28 = .ok (.imul, 1) := by decide +kernel
theorem dL_areThings_29 : decode cL_areThings 29 = .ok (.iaload, 1) := by decide +kernel
theorem dL_areThings_30 : decode cL_areThings 30 = .ok (.ifCond .ge 7, 3) := by decide +kernel
theorem dL_areThings_33 : decode cL_areThings 33 = .ok (.iconst 0, 1) := by decide +kernel
theorem dL_areThings_34 : decode cL_areThings 34 = .ok (.goto 4, 3) := by decide +kernel
theorem dL_areThings_37 : decode cL_areThings 37 = .ok (.iconst 1, 1) := by decide +kernel
theorem dL_areThings_38 : decode cL_areThings 38 = .ok (.iadd, 1) := by decide +kernel
theorem dL_areThings_39 : decode cL_areThings 39 = .ok (.istore 4, 2) := by decide +kernel
theorem dL_areThings_41 : decode cL_areThings 41 = .ok (.aload_n 0, 1) := by decide +kernel
theorem dL_areThings_42 : decode cL_areThings 42 = .ok (.iconst 1, 1) := by decide +kernel
theorem dL_areThings_43 : decode cL_areThings 43 = .ok (.iload 6, 2) := by decide +kernel
theorem dL_areThings_45 : decode cL_areThings 45 = .ok (.iconst 0, 1) := by decide +kernel
theorem dL_areThings_46 : decode cL_areThings 46 = .ok (.invokestatic 81, 3) := by decide +kernel
theorem dL_areThings_49 : decode cL_areThings 49 = .ok (.aload_n 1, 1) := by decide +kernel
theorem dL_areThings_50 : decode cL_areThings 50 = .ok (.iconst 5, 1) := by decide +kernel
theorem dL_areThings_51 : decode cL_areThings 51 = .ok (.iload 6, 2) := by decide +kernel
theorem dL_areThings_53 : decode cL_areThings 53 = .ok (.imul, 1) := by decide +kernel
theorem dL_areThings_54 : decode cL_areThings 54 = .ok (.iaload, 1) := by decide +kernel
theorem dL_areThings_55 : decode cL_areThings 55 = .ok (.ifCond .ge 9, 3) := by decide +kernel
theorem dL_areThings_58 : decode cL_areThings 58 = .ok (.sipush (-981), 3) := by decide +kernel
theorem dL_areThings_61 : decode cL_areThings 61 = .ok (.goto 16, 3) := by decide +kernel
theorem dL_areThings_64 : decode cL_areThings 64 = .ok (.aload_n 1, 1) := by decide +kernel
theorem dL_areThings_65 : decode cL_areThings 65 = .ok (.iconst 5, 1) := by decide +kernel
theorem dL_areThings_66 : decode cL_areThings 66 = .ok (.iload 6, 2) := by decide +kernel
theorem dL_areThings_68 : decode cL_areThings 68 = .ok (.imul, 1) := by decide +kernel
theorem dL_areThings_69 : decode cL_areThings 69 = .ok (.iconst 3, 1) := by decide +kernel
theorem dL_areThings_70 : decode cL_areThings 70 = .ok (.iadd, 1) := by decide +kernel
theorem dL_areThings_71 : decode cL_areThings 71 = .ok (.iaload, 1) := by decide +kernel
theorem dL_areThings_72 : decode cL_areThings 72 = .ok (.aload_n 2, 1) := by decide +kernel
theorem dL_areThings_73 : decode cL_areThings 73 = .ok (.iload 6, 2) := by decide +kernel
theorem dL_areThings_75 : decode cL_areThings 75 = .ok (.iaload, 1) := by decide +kernel
theorem dL_areThings_76 : decode cL_areThings 76 = .ok (.isub, 1) := by decide +kernel
theorem dL_areThings_77 : decode cL_areThings 77 = .ok (.if_icmp .ne 7, 3) := by decide +kernel
theorem dL_areThings_80 : decode cL_areThings 80 = .ok (.iconst 1, 1) := by decide +kernel
theorem dL_areThings_81 : decode cL_areThings 81 = .ok (.goto 4, 3) := by decide +kernel
theorem dL_areThings_84 : decode cL_areThings 84 = .ok (.iconst 0, 1) := by decide +kernel
theorem dL_areThings_85 : decode cL_areThings 85 = .ok (.istore 5, 2) := by decide +kernel
theorem dL_areThings_87 : decode cL_areThings 87 = .ok (.iinc 6 1, 3) := by decide +kernel
theorem dL_areThings_90 : decode cL_areThings 90 = .ok (.goto (-81), 3) := by decide +kernel
theorem dL_areThings_93 : decode cL_areThings 93 = .ok (.iconst 0, 1) := by decide +kernel
theorem dL_areThings_94 : decode cL_areThings 94 = .ok (.istore 6, 2) := by decide +kernel
theorem dL_areThings_96 : decode cL_areThings 96 = .ok (.iload 6, 2) := by decide +kernel
theorem dL_areThings_98 : decode cL_areThings 98 = .ok (.bipush 6, 2) := by decide +kernel
theorem dL_areThings_100 : decode cL_areThings 100 = .ok (.if_icmp .ge 149, 3) := by decide +kernel
theorem dL_areThings_103 : decode cL_areThings 103 = .ok (.iload 5, 2) := by decide +kernel
theorem dL_areThings_105 : decode cL_areThings 105 = .ok (.ifCond .eq 144, 3) := by decide +kernel
theorem dL_areThings_108 : decode cL_areThings 108 = .ok (.iconst 0, 1) := by decide +kernel
theorem dL_areThings_109 : decode cL_areThings 109 = .ok (.istore 7, 2) := by decide +kernel
theorem dL_areThings_111 : decode cL_areThings 111 = .ok (.iconst 0, 1) := by decide +kernel
theorem dL_areThings_112 : decode cL_areThings 112 = .ok (.istore 8, 2) := by decide +kernel
theorem dL_areThings_114 : decode cL_areThings 114 = .ok (.iload 8, 2) := by decide +kernel
theorem dL_areThings_116 : decode cL_areThings 116 = .ok (.aload_n 3, 1) := by decide +kernel
theorem dL_areThings_117 : decode cL_areThings 117 = .ok (.iconst 0, 1) := by decide +kernel
theorem dL_areThings_118 : decode cL_areThings 118 = .ok (.iaload, 1) := by decide +kernel
theorem dL_areThings_119 : decode cL_areThings 119 = .ok (.if_icmp .ge 91, 3) := by decide +kernel
theorem dL_areThings_122 : decode cL_areThings 122 = .ok (.iload 7, 2) := by decide +kernel
theorem dL_areThings_124 : decode cL_areThings 124 = .ok (.aload_n 1, 1) := by decide +kernel
theorem dL_areThings_125 : decode cL_areThings 125 = .ok (.iconst 5, 1) := by decide +kernel
theorem dL_areThings_126 : decode cL_areThings 126 = .ok (.iload 8, 2) := by decide +kernel
theorem dL_areThings_128 : decode cL_areThings 128 = .ok (.imul, 1) := by decide +kernel
theorem dL_areThings_129 : decode cL_areThings 129 = .ok (.iaload, 1) := by decide +kernel
theorem dL_areThings_130 : decode cL_areThings 130 = .ok (.ifCond .lt 70, 3) := by decide +kernel
theorem dL_areThings_133 : decode cL_areThings 133 = .ok (.aload_n 1, 1) := by decide +kernel
theorem dL_areThings_134 : decode cL_areThings 134 = .ok (.iconst 5, 1) := by decide +kernel
theorem dL_areThings_135 : decode cL_areThings 135 = .ok (.iload 8, 2) := by decide +kernel
theorem dL_areThings_137 : decode cL_areThings 137 = .ok (.imul, 1) := by decide +kernel
theorem dL_areThings_138 : decode cL_areThings 138 = .ok (.iconst 4, 1) := by decide +kernel
theorem dL_areThings_139 : decode cL_areThings 139 = .ok (.iadd, 1) := by decide +kernel
theorem dL_areThings_140 : decode cL_areThings 140 = .ok (.iaload, 1) := by decide +kernel
theorem dL_areThings_141 : decode cL_areThings 141 = .ok (.iload 6, 2) := by decide +kernel
theorem dL_areThings_143 : decode cL_areThings 143 = .ok (.iconst 2, 1) := by decide +kernel
theorem dL_areThings_144 : decode cL_areThings 144 = .ok (.idiv, 1) := by decide +kernel
theorem dL_areThings_145 : decode cL_areThings 145 = .ok (.if_icmp .ne 55, 3) := by decide +kernel
theorem dL_areThings_148 : decode cL_areThings 148 = .ok (.aload_n 1, 1) := by decide +kernel
theorem dL_areThings_149 : decode cL_areThings 149 = .ok (.iconst 5, 1) := by decide +kernel
theorem dL_areThings_150 : decode cL_areThings 150 = .ok (.iload 8, 2) := by decide +kernel
theorem dL_areThings_152 : decode cL_areThings 152 = .ok (.imul, 1) := by decide +kernel
theorem dL_areThings_153 : decode cL_areThings 153 = .ok (.iconst 1, 1) := by decide +kernel
theorem dL_areThings_154 : decode cL_areThings 154 = .ok (.iadd, 1) := by decide +kernel
theorem dL_areThings_155 : decode cL_areThings 155 = .ok (.iaload, 1) := by decide +kernel
theorem dL_areThings_156 : decode cL_areThings 156 = .ok (.iconst 3, 1) := by decide +kernel
theorem dL_areThings_157 : decode cL_areThings 157 = .ok (.if_icmp .le 7, 3) := by decide +kernel
theorem dL_areThings_160 : decode cL_areThings 160 = .ok (.iconst 1, 1) := by decide +kernel
theorem dL_areThings_161 : decode cL_areThings 161 = .ok (.goto 4, 3) := by decide +kernel
theorem dL_areThings_164 : decode cL_areThings 164 = .ok (.iconst 0, 1) := by decide +kernel
theorem dL_areThings_165 : decode cL_areThings 165 = .ok (.iload 6, 2) := by decide +kernel
theorem dL_areThings_167 : decode cL_areThings 167 = .ok (.iconst 2, 1) := by decide +kernel
theorem dL_areThings_168 : decode cL_areThings 168 = .ok (.irem, 1) := by decide +kernel
theorem dL_areThings_169 : decode cL_areThings 169 = .ok (.iconst 1, 1) := by decide +kernel
theorem dL_areThings_170 : decode cL_areThings 170 = .ok (.if_icmp .ne 7, 3) := by decide +kernel
theorem dL_areThings_173 : decode cL_areThings 173 = .ok (.iconst 1, 1) := by decide +kernel
theorem dL_areThings_174 : decode cL_areThings 174 = .ok (.goto 4, 3) := by decide +kernel
theorem dL_areThings_177 : decode cL_areThings 177 = .ok (.iconst 0, 1) := by decide +kernel
theorem dL_areThings_178 : decode cL_areThings 178 = .ok (.if_icmp .ne 22, 3) := by decide +kernel
theorem dL_areThings_181 : decode cL_areThings 181 = .ok (.aload_n 2, 1) := by decide +kernel
theorem dL_areThings_182 : decode cL_areThings 182 = .ok (.iload 8, 2) := by decide +kernel
theorem dL_areThings_184 : decode cL_areThings 184 = .ok (.iaload, 1) := by decide +kernel
theorem dL_areThings_185 : decode cL_areThings 185 = .ok (.aload_n 1, 1) := by decide +kernel
theorem dL_areThings_186 : decode cL_areThings 186 = .ok (.iconst 5, 1) := by decide +kernel
theorem dL_areThings_187 : decode cL_areThings 187 = .ok (.iload 8, 2) := by decide +kernel
theorem dL_areThings_189 : decode cL_areThings 189 = .ok (.imul, 1) := by decide +kernel
theorem dL_areThings_190 : decode cL_areThings 190 = .ok (.iconst 3, 1) := by decide +kernel
theorem dL_areThings_191 : decode cL_areThings 191 = .ok (.iadd, 1) := by decide +kernel
theorem dL_areThings_192 : decode cL_areThings 192 = .ok (.iaload, 1) := by decide +kernel
theorem dL_areThings_193 : decode cL_areThings 193 = .ok (.if_icmp .ne 7, 3) := by decide +kernel
theorem dL_areThings_196 : decode cL_areThings 196 = .ok (.iconst 1, 1) := by decide +kernel
theorem dL_areThings_197 : decode cL_areThings 197 = .ok (.goto 4, 3) := by decide +kernel
theorem dL_areThings_200 : decode cL_areThings 200 = .ok (.iconst 0, 1) := by decide +kernel
theorem dL_areThings_201 : decode cL_areThings 201 = .ok (.iadd, 1) := by decide +kernel
theorem dL_areThings_202 : decode cL_areThings 202 = .ok (.istore 7, 2) := by decide +kernel
theorem dL_areThings_204 : decode cL_areThings 204 = .ok (.iinc 8 1, 3) := by decide +kernel
theorem dL_areThings_207 : decode cL_areThings 207 = .ok (.goto (-93), 3) := by decide +kernel
theorem dL_areThings_210 : decode cL_areThings 210 = .ok (.aload_n 0, 1) := by decide +kernel
theorem dL_areThings_211 : decode cL_areThings 211 = .ok (.iload 6, 2) := by decide +kernel
theorem dL_areThings_213 : decode cL_areThings 213 = .ok (.iconst 2, 1) := by decide +kernel
theorem dL_areThings_214 : decode cL_areThings 214 = .ok (.idiv, 1) := by decide +kernel
theorem dL_areThings_215 : decode cL_areThings 215 = .ok (.iload 6, 2) := by decide +kernel
theorem dL_areThings_217 : decode cL_areThings 217 = .ok (.iconst 2, 1) := by decide +kernel
theorem dL_areThings_218 : decode cL_areThings 218 = .ok (.irem, 1) := by decide +kernel
theorem dL_areThings_219 : decode cL_areThings 219 = .ok (.iconst 1, 1) := by decide +kernel
theorem dL_areThings_220 : decode cL_areThings 220 = .ok (.if_icmp .ne 7, 3) := by decide +kernel
theorem dL_areThings_223 : decode cL_areThings 223 = .ok (.iconst 1, 1) := by decide +kernel
theorem dL_areThings_224 : decode cL_areThings 224 = .ok (.goto 4, 3) := by decide +kernel
theorem dL_areThings_227 : decode cL_areThings 227 = .ok (.iconst 0, 1) := by decide +kernel
theorem dL_areThings_228 : decode cL_areThings 228 = .ok (.invokevirtual 49, 3) := by decide +kernel
theorem dL_areThings_231 : decode cL_areThings 231 = .ok (.iload 7, 2) := by decide +kernel
theorem dL_areThings_233 : decode cL_areThings 233 = .ok (.if_icmp .ne 7, 3) := by decide +kernel
theorem dL_areThings_236 : decode cL_areThings 236 = .ok (.iconst 1, 1) := by decide +kernel
theorem dL_areThings_237 : decode cL_areThings 237 = .ok (.goto 4, 3) := by decide +kernel
theorem dL_areThings_240 : decode cL_areThings 240 = .ok (.iconst 0, 1) := by decide +kernel
theorem dL_areThings_241 : decode cL_areThings 241 = .ok (.istore 5, 2) := by decide +kernel
theorem dL_areThings_243 : decode cL_areThings 243 = .ok (.iinc 6 1, 3) := by decide +kernel
theorem dL_areThings_246 : decode cL_areThings 246 = .ok (.goto (-150), 3) := by decide +kernel
theorem dL_areThings_249 : decode cL_areThings 249 = .ok (.iload 5, 2) := by decide +kernel
theorem dL_areThings_251 : decode cL_areThings 251 = .ok (.ifCond .eq 16, 3) := by decide +kernel
theorem dL_areThings_254 : decode cL_areThings 254 = .ok (.aload_n 0, 1) := by decide +kernel
theorem dL_areThings_255 : decode cL_areThings 255 = .ok (.invokevirtual 69, 3) := by decide +kernel
theorem dL_areThings_258 : decode cL_areThings 258 = .ok (.iload 4, 2) := by decide +kernel
theorem dL_areThings_260 : decode cL_areThings 260 = .ok (.if_icmp .ne 7, 3) := by decide +kernel
theorem dL_areThings_263 : decode cL_areThings 263 = .ok (.iconst 1, 1) := by decide +kernel
theorem dL_areThings_264 : decode cL_areThings 264 = .ok (.goto 4, 3) := by decide +kernel
theorem dL_areThings_267 : decode cL_areThings 267 = .ok (.iconst 0, 1) := by decide +kernel
theorem dL_areThings_268 : decode cL_areThings 268 = .ok (.ireturn, 1) := by decide +kernel
set_option maxRecDepth 20000 in
theorem ggL_isMissing_X0_missingTop : GoodIn wsL_isMissing wsX0_missingTop := goodIn_r _ [5, 6, 7, 8, 4, 9, 10, 11, 12, 13, 14, 15, 16, 17, 18, 19, 20, 21, 22, 23, 24, 25, 26, 27, 28, 29, 30, 31, 32, 33, 34, 35, 36, 37, 38, 39, 40, 41, 42] (by decide +kernel) (by decide +kernel)
set_option maxRecDepth 20000 in
theorem gL_isMissing_X0_missingTop : GoodIn wsL_isMissing (wsV RL 99 RX0 yX0_missingTop wsX0_missingTop) := goodIn_app (goodIn_of _ (by decide +kernel)) ggL_isMissing_X0_missingTop
theorem dL_isMissing_0 : decode cL_isMissing 0 = .ok (.aload_n 0, 1) := by decide +kernel
theorem dL_isMissing_1 : decode cL_isMissing 1 = .ok (.invokevirtual 99, 3) := by decide +kernel
theorem dL_isMissing_4 : decode cL_isMissing 4 = .ok (.istore 5, 2) := by decide +kernel
theorem dL_isMissing_6 : decode cL_isMissing 6 = .ok (.iconst (-1), 1) := by decide +kernel
theorem dL_isMissing_7 : decode cL_isMissing 7 = .ok (.istore 6, 2) := by decide +kernel
theorem dL_isMissing_9 : decode cL_isMissing 9 = .ok (.iload 5, 2) := by decide +kernel
theorem dL_isMissing_11 : decode cL_isMissing 11 = .ok (.ifCond .lt 14, 3) := by decide +kernel
theorem dL_isMissing_14 : decode cL_isMissing 14 = .ok (.iload 5, 2) := by decide +kernel
theorem dL_isMissing_16 : decode cL_isMissing 16 = .ok (.bipush 8, 2) := by decide +kernel
theorem dL_isMissing_18 : decode cL_isMissing 18 = .ok (.if_icmp .ge 7, 3) := by decide +kernel
theorem dL_isMissing_21 : decode cL_isMissing 21 = .ok (.iconst 1, 1) := by decide +kernel
theorem dL_isMissing_22 : decode cL_isMissing 22 = .ok (.goto 4, 3) := by decide +kernel
theorem dL_isMissing_25 : decode cL_isMissing 25 = .ok (.iconst 0, 1) := by decide +kernel
theorem dL_isMissing_26 : decode cL_isMissing 26 = .ok (.istore 7, 2) := by decide +kernel
theorem dL_isMissing_28 : decode cL_isMissing 28 = .ok (.iconst 0, 1) := by decide +kernel
theorem dL_isMissing_29 : decode cL_isMissing 29 = .ok (.istore 8, 2) := by decide +kernel
theorem dL_isMissing_31 : decode cL_isMissing 31 = .ok (.iload 8, 2) := by decide +kernel
theorem dL_isMissing_33 : decode cL_isMissing 33 = .ok (.bipush 9, 2) := by decide +kernel
theorem dL_isMissing_35 : decode cL_isMissing 35 = .ok (.if_icmp .ge 146, 3) := by decide +kernel
theorem dL_isMissing_38 : decode cL_isMissing 38 = .ok (.iload 7, 2) := by decide +kernel
theorem dL_isMissing_40 : decode cL_isMissing 40 = .ok (.ifCond .eq 141, 3) := by decide +kernel
theorem dL_isMissing_43 : decode cL_isMissing 43 = .ok (.iload 8, 2) := by decide +kernel
theorem dL_isMissing_45 : decode cL_isMissing 45 = .ok (.ifCond .ne 8, 3) := by decide +kernel
theorem dL_isMissing_48 : decode cL_isMissing 48 = .ok (.iload 5, 2) := by decide +kernel
theorem dL_isMissing_50 : decode cL_isMissing 50 = .ok (.goto 7, 3) := by decide +kernel
theorem dL_isMissing_53 : decode cL_isMissing 53 = .ok (.iload 8, 2) := by decide +kernel
theorem dL_isMissing_55 : decode cL_isMissing 55 = .ok (.iconst 1, 1) := by decide +kernel
theorem dL_isMissing_56 : decode cL_isMissing 56 = .ok (.isub, 1) := by decide +kernel
theorem dL_isMissing_57 : decode cL_isMissing 57 = .ok (.istore 9, 2) := by decide +kernel
theorem dL_isMissing_59 : decode cL_isMissing 59 = .ok (.iconst 0, 1) := by decide +kernel
theorem dL_isMissing_60 : decode cL_isMissing 60 = .ok (.istore 10, 2) := by decide +kernel
theorem dL_isMissing_62 : decode cL_isMissing 62 = .ok (.iconst 0, 1) := by decide +kernel
theorem dL_isMissing_63 : decode cL_isMissing 63 = .ok (.istore 11, 2) := by decide +kernel
theorem dL_isMissing_65 : decode cL_isMissing 65 = .ok (.iload 11, 2) := by decide +kernel
theorem dL_isMissing_67 : decode cL_isMissing 67 = .ok (.aload 4, 2) := by decide +kernel
theorem dL_isMissing_69 : decode cL_isMissing 69 = .ok (.iconst 0, 1) := by decide +kernel
theorem dL_isMissing_70 : decode cL_isMissing 70 = .ok (.iaload, 1) := by decide +kernel
theorem dL_isMissing_71 : decode cL_isMissing 71 = .ok (.if_icmp .ge 62, 3) := by decide +kernel
theorem dL_isMissing_74 : decode cL_isMissing 74 = .ok (.iload 10, 2) := by decide +kernel
theorem dL_isMissing_76 : decode cL_isMissing 76 = .ok (.aload_n 1, 1) := by decide +kernel
theorem dL_isMissing_77 : decode cL_isMissing 77 = .ok (.iconst 5, 1) := by decide +kernel
theorem dL_isMissing_78 : decode cL_isMissing 78 = .ok (.iload 11, 2) := by decide +kernel
theorem dL_isMissing_80 : decode cL_isMissing 80 = .ok (.imul, 1) := by decide +kernel
theorem dL_isMissing_81 : decode cL_isMissing 81 = .ok (.iaload, 1) := by decide +kernel
theorem dL_isMissing_82 : decode cL_isMissing 82 = .ok (.iconst 1, 1) := by decide +kernel
theorem dL_isMissing_83 : decode cL_isMissing 83 = .ok (.if_icmp .ne 40, 3) := by decide +kernel
theorem dL_isMissing_86 : decode cL_isMissing 86 = .ok (.aload_n 2, 1) := by decide +kernel
theorem dL_isMissing_87 : decode cL_isMissing 87 = .ok (.iload 11, 2) := by decide +kernel
theorem dL_isMissing_89 : decode cL_isMissing 89 = .ok (.iaload, 1) := by decide +kernel
theorem dL_isMissing_90 : decode cL_isMissing 90 = .ok (.aload_n 1, 1) := by decide +kernel
theorem dL_isMissing_91 : decode cL_isMissing 91 = .ok (.iconst 5, 1) := by decide +kernel
theorem dL_isMissing_92 : decode cL_isMissing 92 = .ok (.iload 11, 2) := by decide +kernel
theorem dL_isMissing_94 : decode cL_isMissing 94 = .ok (.imul, 1) := by decide +kernel
theorem dL_isMissing_95 : decode cL_isMissing 95 = .ok (.iconst 3, 1) := by decide +kernel
theorem dL_isMissing_96 : decode cL_isMissing 96 = .ok (.iadd, 1) := by decide +kernel
theorem dL_isMissing_97 : decode cL_isMissing 97 = .ok (.iaload, 1) := by decide +kernel
theorem dL_isMissing_98 : decode cL_isMissing 98 = .ok (.if_icmp .ge 25, 3) := by decide +kernel
theorem dL_isMissing_101 : decode cL_isMissing 101 = .ok (.aload_n 3, 1) := by decide +kernel
theorem dL_isMissing_102 : decode cL_isMissing 102 = .ok (.iload 9, 2) := by decide +kernel
theorem dL_isMissing_104 : decode cL_isMissing 104 = .ok (.iaload, 1) := by decide +kernel
theorem dL_isMissing_105 : decode cL_isMissing 105 = .ok (.aload_n 1, 1) := by decide +kernel
theorem dL_isMissing_106 : decode cL_isMissing 106 = .ok (.iconst 5, 1) := by decide +kernel
theorem dL_isMissing_107 : decode cL_isMissing 107 = .ok (.iload 11, 2) := by decide +kernel
theorem dL_isMissing_109 : decode cL_isMissing 109 = .ok (.imul, 1) := by decide +kernel
theorem dL_isMissing_110 : decode cL_isMissing 110 = .ok (.iconst 1, 1) := by decide +kernel
theorem dL_isMissing_111 : decode cL_isMissing 111 = .ok (.iadd, 1) := by decide +kernel
theorem dL_isMissing_112 : decode cL_isMissing 112 = .ok (.iaload, 1) := by decide +kernel
theorem dL_isMissing_113 : decode cL_isMissing 113 = .ok (.ishr, 1) := by decide +kernel
theorem dL_isMissing_114 : decode cL_isMissing 114 = .ok (.iconst 1, 1) := by decide +kernel
theorem dL_isMissing_115 : decode cL_isMissing 115 = .ok (.iand, 1) := by decide +kernel
theorem dL_isMissing_116 : decode cL_isMissing 116 = .ok (.ifCond .ne 7, 3) := by decide +kernel
theorem dL_isMissing_119 : decode cL_isMissing 119 = .ok (.iconst 1, 1) := by decide +kernel
theorem dL_isMissing_120 : decode cL_isMissing 120 = .ok (.goto 4, 3) := by decide +kernel
theorem dL_isMissing_123 : decode cL_isMissing 123 = .ok (.iconst 0, 1) := by decide +kernel
theorem dL_isMissing_124 : decode cL_isMissing 124 = .ok (.iadd, 1) := by decide +kernel
theorem dL_isMissing_125 : decode cL_isMissing 125 = .ok (.istore 10, 2) := by decide +kernel
theorem dL_isMissing_127 : decode cL_isMissing 127 = .ok (.iinc 11 1, 3) := by decide +kernel
theorem dL_isMissing_130 : decode cL_isMissing 130 = .ok (.goto (-65), 3) := by decide +kernel
theorem dL_isMissing_133 : decode cL_isMissing 133 = .ok (.iload 8, 2) := by decide +kernel
theorem dL_isMissing_135 : decode cL_isMissing 135 = .ok (.ifCond .ne 8, 3) := by decide +kernel
theorem dL_isMissing_138 : decode cL_isMissing 138 = .ok (.iload 10, 2) := by decide +kernel
theorem dL_isMissing_140 : decode cL_isMissing 140 = .ok (.goto 5, 3) := by decide +kernel
theorem dL_isMissing_143 : decode cL_isMissing 143 = .ok (.iload 6, 2) := by decide +kernel
theorem dL_isMissing_145 : decode cL_isMissing 145 = .ok (.istore 6, 2) := by decide +kernel
theorem dL_isMissing_147 : decode cL_isMissing 147 = .ok (.iload 10, 2) := by decide +kernel
theorem dL_isMissing_149 : decode cL_isMissing 149 = .ok (.iload 6, 2) := by decide +kernel
theorem dL_isMissing_151 : decode cL_isMissing 151 = .ok (.if_icmp .lt 17, 3) := by decide +kernel
theorem dL_isMissing_154 : decode cL_isMissing 154 = .ok (.iload 10, 2) := by decide +kernel
theorem dL_isMissing_156 : decode cL_isMissing 156 = .ok (.iload 6, 2) := by decide +kernel
theorem dL_isMissing_158 : decode cL_isMissing 158 = .ok (.if_icmp .ne 14, 3) := by decide +kernel
theorem dL_isMissing_161 : decode cL_isMissing 161 = .ok (.iload 9, 2) := by decide +kernel
theorem dL_isMissing_163 : decode cL_isMissing 163 = .ok (.iload 5, 2) := by decide +kernel
theorem dL_isMissing_165 : decode cL_isMissing 165 = .ok (.if_icmp .lt 7, 3) := by decide +kernel
theorem dL_isMissing_168 : decode cL_isMissing 168 = .ok (.iconst 1, 1) := by decide +kernel
theorem dL_isMissing_169 : decode cL_isMissing 169 = .ok (.goto 4, 3) := by decide +kernel
theorem dL_isMissing_172 : decode cL_isMissing 172 = .ok (.iconst 0, 1) := by decide +kernel
theorem dL_isMissing_173 : decode cL_isMissing 173 = .ok (.istore 7, 2) := by decide +kernel
theorem dL_isMissing_175 : decode cL_isMissing 175 = .ok (.iinc 8 1, 3) := by decide +kernel
theorem dL_isMissing_178 : decode cL_isMissing 178 = .ok (.goto (-147), 3) := by decide +kernel
theorem dL_isMissing_181 : decode cL_isMissing 181 = .ok (.iload 7, 2) := by decide +kernel
theorem dL_isMissing_183 : decode cL_isMissing 183 = .ok (.ireturn, 1) := by decide +kernel
set_option maxRecDepth 20000 in
theorem ggL_isWrong_L_isThing : GoodIn wsL_isWrong wsL_isThing := goodIn_r _ [4] (by decide +kernel) (by decide +kernel)
set_option maxRecDepth 20000 in
theorem gL_isWrong_L_isThing : GoodIn wsL_isWrong (va_wsS RL 115 yL_isThing wsL_isThing) := goodIn_app (goodIn_of _ (by decide +kernel)) ggL_isWrong_L_isThing
set_option maxRecDepth 20000 in
theorem ggL_isWrong_L_outfit : GoodIn wsL_isWrong wsL_outfit := goodIn_ca (goodIn_ca (goodIn_ca (goodIn_r _ [7, 8, 9, 10, 11, 12, 13, 14, 15, 16, 17, 18, 19, 20, 21, 22, 23, 24, 25, 26, 27, 28, 29, 30, 31, 32, 33, 34, 35, 36, 37, 38, 39, 40, 41, 42, 43, 44, 45, 46, 47, 48, 49, 50, 51, 52, 53, 54, 55, 56, 57, 58, 59, 60, 61, 62, 63, 64, 65, 66, 67, 68, 69, 70, 71, 72, 73, 74, 75, 76, 77, 78, 79, 80, 81, 82, 83, 84, 85, 86, 87, 88, 89, 90, 91, 92, 93, 94, 95, 96, 97, 98, 99, 100, 101, 102, 103, 104, 105, 106, 107, 108, 109, 110, 111, 112, 113, 114, 115, 116, 117, 118, 119, 120, 121] (by decide +kernel) (by decide +kernel)) (goodIn_sub (fun _ h => List.mem_cons_of_mem _ (List.mem_append_left _ (List.mem_append_left _ (List.mem_append_right _ h)))) (by decide +kernel))) (goodIn_sub (fun _ h => List.mem_cons_of_mem _ (List.mem_append_left _ (List.mem_append_right _ h))) (by decide +kernel))) (goodIn_sub (fun _ h => List.mem_cons_of_mem _ (List.mem_append_right _ h)) (by decide +kernel))
set_option maxRecDepth 20000 in
theorem gL_isWrong_L_outfit : GoodIn wsL_isWrong (va_wsS RL 91 yL_outfit wsL_outfit) := goodIn_app (goodIn_of _ (by decide +kernel)) ggL_isWrong_L_outfit
theorem dL_isWrong_0 : decode cL_isWrong 0 = .ok (.aload_n 1, 1) := by decide +kernel
theorem dL_isWrong_1 : decode cL_isWrong 1 = .ok (.aload_n 2, 1) := by decide +kernel
theorem dL_isWrong_2 : decode cL_isWrong 2 = .ok (.iload_n 3, 1) := by decide +kernel
theorem dL_isWrong_3 : decode cL_isWrong 3 = .ok (.invokestatic 115, 3) := by decide +kernel
theorem dL_isWrong_6 : decode cL_isWrong 6 = .ok (.ifCond .eq 33, 3) := by decide +kernel
theorem dL_isWrong_9 : decode cL_isWrong 9 = .ok (.aload_n 1, 1) := by decide +kernel
theorem dL_isWrong_10 : decode cL_isWrong 10 = .ok (.aload_n 2, 1) := by decide +kernel
theorem dL_isWrong_11 : decode cL_isWrong 11 = .ok (.iload 4, 2) := by decide +kernel
theorem dL_isWrong_13 : decode cL_isWrong 13 = .ok (.invokestatic 115, 3) := by decide +kernel
theorem dL_isWrong_16 : decode cL_isWrong 16 = .ok (.ifCond .eq 23, 3) := by decide +kernel
theorem dL_isWrong_19 : decode cL_isWrong 19 = .ok (.iload 5, 2) := by decide +kernel
theorem dL_isWrong_21 : decode cL_isWrong 21 = .ok (.iconst (-1), 1) := by decide +kernel
theorem dL_isWrong_22 : decode cL_isWrong 22 = .ok (.if_icmp .eq 13, 3) := by decide +kernel
theorem dL_isWrong_25 : decode cL_isWrong 25 = .ok (.aload_n 1, 1) := by decide +kernel
theorem dL_isWrong_26 : decode cL_isWrong 26 = .ok (.aload_n 2, 1) := by decide +kernel
theorem dL_isWrong_27 : decode cL_isWrong 27 = .ok (.iload 5, 2) := by decide +kernel
theorem dL_isWrong_29 : decode cL_isWrong 29 = .ok (.invokestatic 115, 3) := by decide +kernel
theorem dL_isWrong_32 : decode cL_isWrong 32 = .ok (.ifCond .eq 7, 3) := by decide +kernel
theorem dL_isWrong_35 : decode cL_isWrong 35 = .ok (.iconst 1, 1) := by decide +kernel
theorem dL_isWrong_36 : decode cL_isWrong 36 = .ok (.goto 4, 3) := by decide +kernel
theorem dL_isWrong_39 : decode cL_isWrong 39 = .ok (.iconst 0, 1) := by decide +kernel
theorem dL_isWrong_40 : decode cL_isWrong 40 = .ok (.istore 6, 2) := by decide +kernel
theorem dL_isWrong_42 : decode cL_isWrong 42 = .ok (.iload 6, 2) := by decide +kernel
theorem dL_isWrong_44 : decode cL_isWrong 44 = .ok (.ifCond .eq 40, 3) := by decide +kernel
theorem dL_isWrong_47 : decode cL_isWrong 47 = .ok (.aload_n 1, 1) := by decide +kernel
theorem dL_isWrong_48 : decode cL_isWrong 48 = .ok (.iconst 5, 1) := by decide +kernel
theorem dL_isWrong_49 : decode cL_isWrong 49 = .ok (.iload_n 3, 1) := by decide +kernel
theorem dL_isWrong_50 : decode cL_isWrong 50 = .ok (.imul, 1) := by decide +kernel
theorem dL_isWrong_51 : decode cL_isWrong 51 = .ok (.iaload, 1) := by decide +kernel
theorem dL_isWrong_52 : decode cL_isWrong 52 = .ok (.ifCond .ne 32, 3) := by decide +kernel
theorem dL_isWrong_55 : decode cL_isWrong 55 = .ok (.aload_n 1, 1) := by decide +kernel
theorem dL_isWrong_56 : decode cL_isWrong 56 = .ok (.iconst 5, 1) := by decide +kernel
theorem dL_isWrong_57 : decode cL_isWrong 57 = .ok (.iload 4, 2) := by decide +kernel
theorem dL_isWrong_59 : decode cL_isWrong 59 = .ok (.imul, 1) := by decide +kernel
theorem dL_isWrong_60 : decode cL_isWrong 60 = .ok (.iaload, 1) := by decide +kernel
theorem dL_isWrong_61 : decode cL_isWrong 61 = .ok (.iconst 1, 1) := by decide +kernel
theorem dL_isWrong_62 : decode cL_isWrong 62 = .ok (.if_icmp .ne 22, 3) := by decide +kernel
theorem dL_isWrong_65 : decode cL_isWrong 65 = .ok (.iload 5, 2) := by decide +kernel
theorem dL_isWrong_67 : decode cL_isWrong 67 = .ok (.ifCond .lt 13, 3) := by decide +kernel
theorem dL_isWrong_70 : decode cL_isWrong 70 = .ok (.aload_n 1, 1) := by decide +kernel
theorem dL_isWrong_71 : decode cL_isWrong 71 = .ok (.iconst 5, 1) := by decide +kernel
theorem dL_isWrong_72 : decode cL_isWrong 72 = .ok (.iload 5, 2) := by decide +kernel
theorem dL_isWrong_74 : decode cL_isWrong 74 = .ok (.imul, 1) := by decide +kernel
theorem dL_isWrong_75 : decode cL_isWrong 75 = .ok (.iaload, 1) := by decide +kernel
theorem dL_isWrong_76 : decode cL_isWrong 76 = .ok (.iconst 2, 1) := by decide +kernel
theorem dL_isWrong_77 : decode cL_isWrong 77 = .ok (.if_icmp .ne 7, 3) := by decide +kernel
theorem dL_isWrong_80 : decode cL_isWrong 80 = .ok (.iconst 1, 1) := by decide +kernel
theorem dL_isWrong_81 : decode cL_isWrong 81 = .ok (.goto 4, 3) := by decide +kernel
theorem dL_isWrong_84 : decode cL_isWrong 84 = .ok (.iconst 0, 1) := by decide +kernel
theorem dL_isWrong_85 : decode cL_isWrong 85 = .ok (.istore 7, 2) := by decide +kernel
theorem dL_isWrong_87 : decode cL_isWrong 87 = .ok (.iload 6, 2) := by decide +kernel
theorem dL_isWrong_89 : decode cL_isWrong 89 = .ok (.ifCond .eq 9, 3) := by decide +kernel
theorem dL_isWrong_92 : decode cL_isWrong 92 = .ok (.sipush (-982), 3) := by decide +kernel
theorem dL_isWrong_95 : decode cL_isWrong 95 = .ok (.goto 6, 3) := by decide +kernel
theorem dL_isWrong_98 : decode cL_isWrong 98 = .ok (.sipush (-981), 3) := by decide +kernel
theorem dL_isWrong_101 : decode cL_isWrong 101 = .ok (.istore 8, 2) := by decide +kernel
theorem dL_isWrong_103 : decode cL_isWrong 103 = .ok (.iload 7, 2) := by decide +kernel
theorem dL_isWrong_105 : decode cL_isWrong 105 = .ok (.ifCond .eq 66, 3) := by decide +kernel
theorem dL_isWrong_108 : decode cL_isWrong 108 = .ok (.aload_n 0, 1) := by decide +kernel
theorem dL_isWrong_109 : decode cL_isWrong 109 = .ok (.iconst 2, 1) := by decide +kernel
theorem dL_isWrong_110 : decode cL_isWrong 110 = .ok (.iload_n 3, 1) := by decide +kernel
theorem dL_isWrong_111 : decode cL_isWrong 111 = .ok (.iload 4, 2) := by decide +kernel
theorem dL_isWrong_113 : decode cL_isWrong 113 = .ok (.iload 5, 2) := by decide +kernel
theorem dL_isWrong_115 : decode cL_isWrong 115 = .ok (.iconst (-1), 1) := by decide +kernel
theorem dL_isWrong_116 : decode cL_isWrong 116 = .ok (.invokestatic 91, 3) := by decide +kernel
theorem dL_isWrong_119 : decode cL_isWrong 119 = .ok (.sipush (-982), 3) := by decide +kernel
theorem dL_isWrong_122 : decode cL_isWrong 122 = .ok (.if_icmp .ne 45, 3) := by decide +kernel
theorem dL_isWrong_125 : decode cL_isWrong 125 = .ok (.aload_n 0, 1) := by decide +kernel
theorem dL_isWrong_126 : decode cL_isWrong 126 = .ok (.iconst 2, 1) := by decide +kernel
theorem dL_isWrong_127 : decode cL_isWrong 127 = .ok (.iload_n 3, 1) := by decide +kernel
theorem dL_isWrong_128 : decode cL_isWrong 128 = .ok (.iload 4, 2) := by decide +kernel
theorem dL_isWrong_130 : decode cL_isWrong 130 = .ok (.iload 5, 2) := by decide +kernel
theorem dL_isWrong_132 : decode cL_isWrong 132 = .ok (.sipush 256, 3) := by decide +kernel
theorem dL_isWrong_135 : decode cL_isWrong 135 = .ok (.invokestatic 91, 3) := by decide +kernel
theorem dL_isWrong_138 : decode cL_isWrong 138 = .ok (.sipush (-982), 3) := by decide +kernel
theorem dL_isWrong_141 : decode cL_isWrong 141 = .ok (.if_icmp .ne 26, 3) := by decide +kernel
theorem dL_isWrong_144 : decode cL_isWrong 144 = .ok (.aload_n 0, 1) := by decide +kernel
theorem dL_isWrong_145 : decode cL_isWrong 145 = .ok (.iconst 1, 1) := by decide +kernel
theorem dL_isWrong_146 : decode cL_isWrong 146 = .ok (.iload_n 3, 1) := by decide +kernel
theorem dL_isWrong_147 : decode cL_isWrong 147 = .ok (.iload 4, 2) := by decide +kernel
theorem dL_isWrong_149 : decode cL_isWrong 149 = .ok (.iload 5, 2) := by decide +kernel
theorem dL_isWrong_151 : decode cL_isWrong 151 = .ok (.sipush 256, 3) := by decide +kernel
theorem dL_isWrong_154 : decode cL_isWrong 154 = .ok (.invokestatic 91, 3) := by decide +kernel
theorem dL_isWrong_157 : decode cL_isWrong 157 = .ok (.sipush (-982), 3) := by decide +kernel
theorem dL_isWrong_160 : decode cL_isWrong 160 = .ok (.if_icmp .ne 7, 3) := by decide +kernel
theorem dL_isWrong_163 : decode cL_isWrong 163 = .ok (.iconst 1, 1) := by decide +kernel
theorem dL_isWrong_164 : decode cL_isWrong 164 = .ok (.goto 44, 3) := by decide +kernel
theorem dL_isWrong_167 : decode cL_isWrong 167 = .ok (.iconst 0, 1) := by decide +kernel
theorem dL_isWrong_168 : decode cL_isWrong 168 = .ok (.goto 40, 3) := by decide +kernel
theorem dL_isWrong_171 : decode cL_isWrong 171 = .ok (.aload_n 0, 1) := by decide +kernel
theorem dL_isWrong_172 : decode cL_isWrong 172 = .ok (.iconst 0, 1) := by decide +kernel
theorem dL_isWrong_173 : decode cL_isWrong 173 = .ok (.iload_n 3, 1) := by decide +kernel
theorem dL_isWrong_174 : decode cL_isWrong 174 = .ok (.iload 4, 2) := by decide +kernel
theorem dL_isWrong_176 : decode cL_isWrong 176 = .ok (.iload 5, 2) := by decide +kernel
theorem dL_isWrong_178 : decode cL_isWrong 178 = .ok (.iconst 0, 1) := by decide +kernel
theorem dL_isWrong_179 : decode cL_isWrong 179 = .ok (.invokestatic 91, 3) := by decide +kernel
theorem dL_isWrong_182 : decode cL_isWrong 182 = .ok (.iload 8, 2) := by decide +kernel
theorem dL_isWrong_184 : decode cL_isWrong 184 = .ok (.if_icmp .ne 23, 3) := by decide +kernel
theorem dL_isWrong_187 : decode cL_isWrong 187 = .ok (.aload_n 0, 1) := by decide +kernel
theorem dL_isWrong_188 : decode cL_isWrong 188 = .ok (.iconst 2, 1) := by decide +kernel
theorem dL_isWrong_189 : decode cL_isWrong 189 = .ok (.iload_n 3, 1) := by decide +kernel
theorem dL_isWrong_190 : decode cL_isWrong 190 = .ok (.iload 4, 2) := by decide +kernel
theorem dL_isWrong_192 : decode cL_isWrong 192 = .ok (.iload 5, 2) := by decide +kernel
theorem dL_isWrong_194 : decode cL_isWrong 194 = .ok (.iconst 0, 1) := by decide +kernel
theorem dL_isWrong_195 : decode cL_isWrong 195 = .ok (.invokestatic 91, 3) := by decide +kernel
theorem dL_isWrong_198 : decode cL_isWrong 198 = .ok (.iload 8, 2) := by decide +kernel
theorem dL_isWrong_200 : decode cL_isWrong 200 = .ok (.if_icmp .ne 7, 3) := by decide +kernel
theorem dL_isWrong_203 : decode cL_isWrong 203 = .ok (.iconst 1, 1) := by decide +kernel
theorem dL_isWrong_204 : decode cL_isWrong 204 = .ok (.goto 4, 3) := by decide +kernel
theorem dL_isWrong_207 : decode cL_isWrong 207 = .ok (.iconst 0, 1) := by decide +kernel
theorem dL_isWrong_208 : decode cL_isWrong 208 = .ok (.ireturn, 1) := by decide +kernel
