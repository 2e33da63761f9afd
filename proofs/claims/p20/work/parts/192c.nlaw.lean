set_option maxRecDepth 20000 in
theorem ggL_areOutfits_X0_outfitFor : GoodIn wsL_areOutfits wsX0_outfitFor := goodIn_ca (goodIn_r _ [5, 6, 7, 8, 9, 10, 4, 11, 12, 13, 14, 15, 16, 17, 18, 19, 20, 21, 22, 23, 24, 25, 26, 27, 28, 29, 30, 31, 32, 33, 34, 35, 36, 37, 38, 39, 40, 41, 42, 43, 44, 45, 46, 47, 48, 49, 50, 51, 52, 53, 54, 55, 56, 57, 58, 59, 60, 61, 62, 63, 64, 65, 66, 67, 68, 69, 70, 71, 137, 138, 139, 140, 141, 142, 143, 144, 145, 146, 147, 148] (by decide +kernel) (by decide +kernel)) (goodIn_sub (fun _ h => List.mem_cons_of_mem _ (List.mem_append_left _ (List.mem_append_left _ (List.mem_append_right _ h)))) (by decide +kernel))
set_option maxRecDepth 20000 in
theorem gL_areOutfits_X0_outfitFor : GoodIn wsL_areOutfits (wsV RL 46 RX0 yX0_outfitFor wsX0_outfitFor) := goodIn_app (goodIn_of _ (by decide +kernel)) ggL_areOutfits_X0_outfitFor
set_option maxRecDepth 20000 in
theorem ggL_areOutfits_L_doClash : GoodIn wsL_areOutfits wsL_doClash := goodIn_r _ [75] (by decide +kernel) (by decide +kernel)
set_option maxRecDepth 20000 in
theorem gL_areOutfits_L_doClash : GoodIn wsL_areOutfits (va_wsS RL 87 yL_doClash wsL_doClash) := goodIn_app (goodIn_of _ (by decide +kernel)) ggL_areOutfits_L_doClash
set_option maxRecDepth 20000 in
theorem ggL_areOutfits_L_outfit : GoodIn wsL_areOutfits wsL_outfit := goodIn_ca (goodIn_ca (goodIn_ca (goodIn_r _ [78, 79, 80, 81, 82, 83, 84, 4, 85, 86, 87, 6, 7, 88, 89, 90, 91, 28, 29, 30, 31, 32, 92, 93, 94, 95, 96, 97, 98, 99, 26, 18, 19, 20, 21, 22, 23, 24, 25, 27, 33, 34, 35, 36, 37, 38, 39, 40, 41, 42, 43, 44, 45, 46, 47, 48, 49, 100, 101, 102, 103, 15, 16, 17, 12, 13, 14, 50, 51, 52, 53, 54, 55, 56, 57, 58, 104, 105, 106, 107, 108, 109, 110, 111, 112, 113, 114, 115, 116, 117, 118, 119, 120, 121, 59, 60, 61, 62, 63, 64, 65, 66, 67, 137, 138, 139, 140, 141, 142, 143, 144, 145, 146, 147, 148] (by decide +kernel) (by decide +kernel)) (goodIn_sub (fun _ h => List.mem_cons_of_mem _ (List.mem_append_left _ (List.mem_append_right _ h))) (by decide +kernel))) (goodIn_sub (fun _ h => List.mem_cons_of_mem _ (List.mem_append_left _ (List.mem_append_left _ (List.mem_append_right _ h)))) (by decide +kernel))) (goodIn_sub (fun _ h => List.mem_cons_of_mem _ (List.mem_append_right _ h)) (by decide +kernel))
set_option maxRecDepth 20000 in
theorem gL_areOutfits_L_outfit : GoodIn wsL_areOutfits (va_wsS RL 91 yL_outfit wsL_outfit) := goodIn_app (goodIn_of _ (by decide +kernel)) ggL_areOutfits_L_outfit
set_option maxRecDepth 20000 in
theorem ggL_areOutfits_L_warmthOf : GoodIn wsL_areOutfits wsL_warmthOf := goodIn_r _ [124] (by decide +kernel) (by decide +kernel)
set_option maxRecDepth 20000 in
theorem gL_areOutfits_L_warmthOf : GoodIn wsL_areOutfits (va_wsS RL 95 yL_warmthOf wsL_warmthOf) := goodIn_app (goodIn_of _ (by decide +kernel)) ggL_areOutfits_L_warmthOf
set_option maxRecDepth 20000 in
theorem ggL_areOutfits_X0_adds : GoodIn wsL_areOutfits wsX0_adds := goodIn_ca (goodIn_ca (goodIn_r _ [128, 86, 87, 6, 7, 8, 28, 29, 30, 4, 31, 32, 9, 10, 11, 12, 13, 14, 129, 130, 131, 132, 18, 19, 20, 21, 22, 23, 24, 25, 26, 27, 33, 34, 35, 36, 37, 38, 39, 40, 41, 42, 43, 44, 45, 46, 47, 48, 49, 68, 69, 70, 71, 59, 60, 61, 62, 63, 64, 65, 66, 67, 137, 138, 139, 140, 141, 142, 143, 144, 145, 146, 147, 148] (by decide +kernel) (by decide +kernel)) (goodIn_sub (fun _ h => List.mem_cons_of_mem _ (List.mem_append_left _ (List.mem_append_right _ h))) (by decide +kernel))) (goodIn_sub (fun _ h => List.mem_cons_of_mem _ (List.mem_append_left _ (List.mem_append_left _ (List.mem_append_right _ h)))) (by decide +kernel))
set_option maxRecDepth 20000 in
theorem gL_areOutfits_X0_adds : GoodIn wsL_areOutfits (wsV RL 42 RX0 yX0_adds wsX0_adds) := goodIn_app (goodIn_of _ (by decide +kernel)) ggL_areOutfits_X0_adds
set_option maxRecDepth 20000 in
theorem ggL_areOutfits_X0_outfits : GoodIn wsL_areOutfits wsX0_outfits := goodIn_ca (goodIn_r _ [136, 6, 7, 8, 9, 10, 4, 11, 12, 13, 14, 129, 130, 131, 132, 18, 19, 20, 21, 22, 23, 24, 25, 26, 27, 28, 29, 30, 31, 32, 33, 34, 35, 36, 37, 38, 39, 40, 41, 42, 43, 44, 45, 46, 47, 48, 49, 68, 69, 70, 71, 59, 60, 61, 62, 63, 64, 65, 66, 67, 137, 138, 139, 140, 141, 142, 143, 144, 145, 146, 147, 148] (by decide +kernel) (by decide +kernel)) (goodIn_sub (fun _ h => List.mem_cons_of_mem _ (List.mem_append_left _ (List.mem_append_left _ (List.mem_append_right _ h)))) (by decide +kernel))
set_option maxRecDepth 20000 in
theorem gL_areOutfits_X0_outfits : GoodIn wsL_areOutfits (wsV RL 39 RX0 yX0_outfits wsX0_outfits) := goodIn_app (goodIn_of _ (by decide +kernel)) ggL_areOutfits_X0_outfits
theorem dL_areOutfits_0 : decode cL_areOutfits 0 = .ok (.iconst 0, 1) := by decide +kernel
theorem dL_areOutfits_1 : decode cL_areOutfits 1 = .ok (.istore 7, 2) := by decide +kernel
theorem dL_areOutfits_3 : decode cL_areOutfits 3 = .ok (.iconst 0, 1) := by decide +kernel
theorem dL_areOutfits_4 : decode cL_areOutfits 4 = .ok (.istore 8, 2) := by decide +kernel
theorem dL_areOutfits_6 : decode cL_areOutfits 6 = .ok (.aload_n 0, 1) := by decide +kernel
theorem dL_areOutfits_7 : decode cL_areOutfits 7 = .ok (.iload 5, 2) := by decide +kernel
theorem dL_areOutfits_9 : decode cL_areOutfits 9 = .ok (.iload 6, 2) := by decide +kernel
theorem dL_areOutfits_11 : decode cL_areOutfits 11 = .ok (.invokevirtual 46, 3) := by decide +kernel
theorem dL_areOutfits_14 : decode cL_areOutfits 14 = .ok (.istore 9, 2) := by decide +kernel
theorem dL_areOutfits_16 : decode cL_areOutfits 16 = .ok (.iload 9, 2) := by decide +kernel
theorem dL_areOutfits_18 : decode cL_areOutfits 18 = .ok (.iconst (-1), 1) := by decide +kernel
theorem dL_areOutfits_19 : decode cL_areOutfits 19 = .ok (.if_icmp .ne 7, 3) := by decide +kernel
theorem dL_areOutfits_22 : decode cL_areOutfits 22 = .ok (.iconst 1, 1) := by decide +kernel
theorem dL_areOutfits_23 : decode cL_areOutfits 23 = .ok (.goto 4, 3) := by decide +kernel
theorem dL_areOutfits_26 : decode cL_areOutfits 26 = .ok (.iconst 0, 1) := by decide +kernel
theorem dL_areOutfits_27 : decode cL_areOutfits 27 = .ok (.istore 10, 2) := by decide +kernel
theorem dL_areOutfits_29 : decode cL_areOutfits 29 = .ok (.iconst 1, 1) := by decide +kernel
theorem dL_areOutfits_30 : decode cL_areOutfits 30 = .ok (.istore 11, 2) := by decide +kernel
theorem dL_areOutfits_32 : decode cL_areOutfits 32 = .ok (.iconst 0, 1) := by decide +kernel
theorem dL_areOutfits_33 : decode cL_areOutfits 33 = .ok (.istore 12, 2) := by decide +kernel
theorem dL_areOutfits_35 : decode cL_areOutfits 35 = .ok (.iload 12, 2) := by decide +kernel
theorem dL_areOutfits_37 : decode cL_areOutfits 37 = .ok (.aload 4, 2) := by decide +kernel
theorem dL_areOutfits_39 : decode cL_areOutfits 39 = .ok (.iconst 0, 1) := by decide +kernel
theorem dL_areOutfits_40 : decode cL_areOutfits 40 = .ok (.iaload, 1) := by decide +kernel
theorem dL_areOutfits_41 : decode cL_areOutfits 41 = .ok (.if_icmp .ge 435, 3) := by decide +kernel
theorem dL_areOutfits_44 : decode cL_areOutfits 44 = .ok (.iload 11, 2) := by decide +kernel
theorem dL_areOutfits_46 : decode cL_areOutfits 46 = .ok (.ifCond .eq 430, 3) := by decide +kernel
theorem dL_areOutfits_49 : decode cL_areOutfits 49 = .ok (.iconst 0, 1) := by decide +kernel
theorem dL_areOutfits_50 : decode cL_areOutfits 50 = .ok (.istore 13, 2) := by decide +kernel
theorem dL_areOutfits_52 : decode cL_areOutfits 52 = .ok (.iload 13, 2) := by decide +kernel
theorem dL_areOutfits_54 : decode cL_areOutfits 54 = .ok (.aload 4, 2) := by decide +kernel
theorem dL_areOutfits_56 : decode cL_areOutfits 56 = .ok (.iconst 0, 1) := by decide +kernel
theorem dL_areOutfits_57 : decode cL_areOutfits 57 = .ok (.iaload, 1) := by decide +kernel
theorem dL_areOutfits_58 : decode cL_areOutfits 58 = .ok (.if_icmp .ge 412, 3) := by decide +kernel
theorem dL_areOutfits_61 : decode cL_areOutfits 61 = .ok (.iload 11, 2) := by decide +kernel
theorem dL_areOutfits_63 : decode cL_areOutfits 63 = .ok (.ifCond .eq 407, 3) := by decide +kernel
theorem dL_areOutfits_66 : decode cL_areOutfits 66 = .ok (.aload_n 1, 1) := by decide +kernel
theorem dL_areOutfits_67 : decode cL_areOutfits 67 = .ok (.iconst 5, 1) := by decide +kernel
theorem dL_areOutfits_68 : decode cL_areOutfits 68 = .ok (.iload 12, 2) := by decide +kernel
theorem dL_areOutfits_70 : decode cL_areOutfits 70 = .ok (.imul, 1) := by decide +kernel
theorem dL_areOutfits_71 : decode cL_areOutfits 71 = .ok (.iaload, 1) := by decide +kernel
theorem dL_areOutfits_72 : decode cL_areOutfits 72 = .ok (.ifCond .ne 398, 3) := by decide +kernel
theorem dL_areOutfits_75 : decode cL_areOutfits 75 = .ok (.iconst (-1), 1) := by decide +kernel
theorem dL_areOutfits_76 : decode cL_areOutfits 76 = .ok (.istore 14, 2) := by decide +kernel
theorem dL_areOutfits_78 : decode cL_areOutfits 78 = .ok (.iload 14, 2) := by decide +kernel
theorem dL_areOutfits_80 : decode cL_areOutfits 80 = .ok (.aload 4, 2) := by decide +kernel
theorem dL_areOutfits_82 : decode cL_areOutfits 82 = .ok (.iconst 0, 1) := by decide +kernel
theorem dL_areOutfits_83 : decode cL_areOutfits 83 = .ok (.iaload, 1) := by decide +kernel
theorem dL_areOutfits_84 : decode cL_areOutfits 84 = .ok (.if_icmp .ge 380, 3) := by decide +kernel
theorem dL_areOutfits_87 : decode cL_areOutfits 87 = .ok (.iload 11, 2) := by decide +kernel
theorem dL_areOutfits_89 : decode cL_areOutfits 89 = .ok (.ifCond .eq 375, 3) := by decide +kernel
theorem dL_areOutfits_92 : decode cL_areOutfits 92 = .ok (.aload_n 1, 1) := by decide +kernel
theorem dL_areOutfits_93 : decode cL_areOutfits 93 = .ok (.iconst 5, 1) := by decide +kernel
theorem dL_areOutfits_94 : decode cL_areOutfits 94 = .ok (.iload 13, 2) := by decide +kernel
theorem dL_areOutfits_96 : decode cL_areOutfits 96 = .ok (.imul, 1) := by decide +kernel
theorem dL_areOutfits_97 : decode cL_areOutfits 97 = .ok (.iaload, 1) := by decide +kernel
theorem dL_areOutfits_98 : decode cL_areOutfits 98 = .ok (.iconst 1, 1) := by decide +kernel
theorem dL_areOutfits_99 : decode cL_areOutfits 99 = .ok (.if_icmp .ne 365, 3) := by decide +kernel
theorem dL_areOutfits_102 : decode cL_areOutfits 102 = .ok (.iload 14, 2) := by decide +kernel
theorem dL_areOutfits_104 : decode cL_areOutfits 104 = .ok (.ifCond .lt 13, 3) := by decide +kernel
theorem dL_areOutfits_107 : decode cL_areOutfits 107 = .ok (.aload_n 1, 1) := by decide +kernel
theorem dL_areOutfits_108 : decode cL_areOutfits 108 = .ok (.iconst 5, 1) := by decide +kernel
theorem dL_areOutfits_109 : decode cL_areOutfits 109 = .ok (.iload 14, 2) := by decide +kernel
theorem dL_areOutfits_111 : decode cL_areOutfits 111 = .ok (.imul, 1) := by decide +kernel
theorem dL_areOutfits_112 : decode cL_areOutfits 112 = .ok (.iaload, 1) := by decide +kernel
theorem dL_areOutfits_113 : decode cL_areOutfits 113 = .ok (.iconst 2, 1) := by decide +kernel
theorem dL_areOutfits_114 : decode cL_areOutfits 114 = .ok (.if_icmp .ne 344, 3) := by decide +kernel
theorem dL_areOutfits_117 : decode cL_areOutfits 117 = .ok (.aload_n 2, 1) := by decide +kernel
theorem dL_areOutfits_118 : decode cL_areOutfits 118 = .ok (.iload 12, 2) := by decide +kernel
theorem dL_areOutfits_120 : decode cL_areOutfits 120 = .ok (.iaload, 1) := by decide +kernel
theorem dL_areOutfits_121 : decode cL_areOutfits 121 = .ok (.aload_n 1, 1) := by decide +kernel
theorem dL_areOutfits_122 : decode cL_areOutfits 122 = .ok (.iconst 5, 1) := by decide +kernel
theorem dL_areOutfits_123 : decode cL_areOutfits 123 = .ok (.iload 12, 2) := by decide +kernel
theorem dL_areOutfits_125 : decode cL_areOutfits 125 = .ok (.imul, 1) := by decide +kernel
theorem dL_areOutfits_126 : decode cL_areOutfits 126 = .ok (.iconst 3, 1) := by decide +kernel
theorem dL_areOutfits_127 : decode cL_areOutfits 127 = .ok (.iadd, 1) := by decide +kernel
theorem dL_areOutfits_128 : decode cL_areOutfits 128 = .ok (.iaload, 1) := by decide +kernel
theorem dL_areOutfits_129 : decode cL_areOutfits 129 = .ok (.if_icmp .ge 78, 3) := by decide +kernel
theorem dL_areOutfits_132 : decode cL_areOutfits 132 = .ok (.aload_n 2, 1) := by decide +kernel
theorem dL_areOutfits_133 : decode cL_areOutfits 133 = .ok (.iload 13, 2) := by decide +kernel
theorem dL_areOutfits_135 : decode cL_areOutfits 135 = .ok (.iaload, 1) := by decide +kernel
theorem dL_areOutfits_136 : decode cL_areOutfits 136 = .ok (.aload_n 1, 1) := by decide +kernel
theorem dL_areOutfits_137 : decode cL_areOutfits 137 = .ok (.iconst 5, 1) := by decide +kernel
theorem dL_areOutfits_138 : decode cL_areOutfits 138 = .ok (.iload 13, 2) := by decide +kernel
theorem dL_areOutfits_140 : decode cL_areOutfits 140 = .ok (.imul, 1) := by decide +kernel
theorem dL_areOutfits_141 : decode cL_areOutfits 141 = .ok (.iconst 3, 1) := by decide +kernel
theorem dL_areOutfits_142 : decode cL_areOutfits 142 = .ok (.iadd, 1) := by decide +kernel
theorem dL_areOutfits_143 : decode cL_areOutfits 143 = .ok (.iaload, 1) := by decide +kernel
theorem dL_areOutfits_144 : decode cL_areOutfits 144 = .ok (.if_icmp .ge 63, 3) := by decide +kernel
theorem dL_areOutfits_147 : decode cL_areOutfits 147 = .ok (.aload_n 1, 1) := by decide +kernel
theorem dL_areOutfits_148 : decode cL_areOutfits 148 = .ok (.aload_n 3, 1) := by decide +kernel
theorem dL_areOutfits_149 : decode cL_areOutfits 149 = .ok (.iload 12, 2) := by decide +kernel
theorem dL_areOutfits_151 : decode cL_areOutfits 151 = .ok (.iload 13, 2) := by decide +kernel
theorem dL_areOutfits_153 : decode cL_areOutfits 153 = .ok (.invokestatic 87, 3) := by decide +kernel
theorem dL_areOutfits_156 : decode cL_areOutfits 156 = .ok (.ifCond .ne 51, 3) := by decide +kernel
theorem dL_areOutfits_159 : decode cL_areOutfits 159 = .ok (.iload 14, 2) := by decide +kernel
theorem dL_areOutfits_161 : decode cL_areOutfits 161 = .ok (.ifCond .lt 42, 3) := by decide +kernel
theorem dL_areOutfits_164 : decode cL_areOutfits 164 = .ok (.aload_n 2, 1) := by decide +kernel
theorem dL_areOutfits_165 : decode cL_areOutfits 165 = .ok (.iload 14, 2) := by decide +kernel
theorem dL_areOutfits_167 : decode cL_areOutfits 167 = .ok (.iaload, 1) := by decide +kernel
theorem dL_areOutfits_168 : decode cL_areOutfits 168 = .ok (.aload_n 1, 1) := by decide +kernel
theorem dL_areOutfits_169 : decode cL_areOutfits 169 = .ok (.iconst 5, 1) := by decide +kernel
theorem dL_areOutfits_170 : decode cL_areOutfits 170 = .ok (.iload 14, 2) := by decide +kernel
theorem dL_areOutfits_172 : decode cL_areOutfits 172 = .ok (.imul, 1) := by decide +kernel
theorem dL_areOutfits_173 : decode cL_areOutfits 173 = .ok (.iconst 3, 1) := by decide +kernel
theorem dL_areOutfits_174 : decode cL_areOutfits 174 = .ok (.iadd, 1) := by decide +kernel
theorem dL_areOutfits_175 : decode cL_areOutfits 175 = .ok (.iaload, 1) := by decide +kernel
theorem dL_areOutfits_176 : decode cL_areOutfits 176 = .ok (.if_icmp .ge 31, 3) := by decide +kernel
theorem dL_areOutfits_179 : decode cL_areOutfits 179 = .ok (.aload_n 1, 1) := by decide +kernel
theorem dL_areOutfits_180 : decode cL_areOutfits 180 = .ok (.aload_n 3, 1) := by decide +kernel
theorem dL_areOutfits_181 : decode cL_areOutfits 181 = .ok (.iload 12, 2) := by decide +kernel
theorem dL_areOutfits_183 : decode cL_areOutfits 183 = .ok (.iload 14, 2) := by decide +kernel
theorem dL_areOutfits_185 : decode cL_areOutfits 185 = .ok (.invokestatic 87, 3) := by decide +kernel
theorem dL_areOutfits_188 : decode cL_areOutfits 188 = .ok (.ifCond .ne 19, 3) := by decide +kernel
theorem dL_areOutfits_191 : decode cL_areOutfits 191 = .ok (.aload_n 1, 1) := by decide +kernel
theorem dL_areOutfits_192 : decode cL_areOutfits 192 = .ok (.aload_n 3, 1) := by decide +kernel
theorem dL_areOutfits_193 : decode cL_areOutfits 193 = .ok (.iload 13, 2) := by decide +kernel
theorem dL_areOutfits_195 : decode cL_areOutfits 195 = .ok (.iload 14, 2) := by decide +kernel
theorem dL_areOutfits_197 : decode cL_areOutfits 197 = .ok (.invokestatic 87, 3) := by decide +kernel
theorem dL_areOutfits_200 : decode cL_areOutfits 200 = .ok (.ifCond .ne 7, 3) := by decide +kernel
theorem dL_areOutfits_203 : decode cL_areOutfits 203 = .ok (.iconst 1, 1) := by decide +kernel
theorem dL_areOutfits_204 : decode cL_areOutfits 204 = .ok (.goto 4, 3) := by decide +kernel
theorem dL_areOutfits_207 : decode cL_areOutfits 207 = .ok (.iconst 0, 1) := by decide +kernel
theorem dL_areOutfits_208 : decode cL_areOutfits 208 = .ok (.istore 15, 2) := by decide +kernel
theorem dL_areOutfits_210 : decode cL_areOutfits 210 = .ok (.aload_n 1, 1) := by decide +kernel
theorem dL_areOutfits_211 : decode cL_areOutfits 211 = .ok (.iconst 5, 1) := by decide +kernel
theorem dL_areOutfits_212 : decode cL_areOutfits 212 = .ok (.iload 12, 2) := by decide +kernel
theorem dL_areOutfits_214 : decode cL_areOutfits 214 = .ok (.imul, 1) := by decide +kernel
theorem dL_areOutfits_215 : decode cL_areOutfits 215 = .ok (.iconst 2, 1) := by decide +kernel
theorem dL_areOutfits_216 : decode cL_areOutfits 216 = .ok (.iadd, 1) := by decide +kernel
theorem dL_areOutfits_217 : decode cL_areOutfits 217 = .ok (.iaload, 1) := by decide +kernel
theorem dL_areOutfits_218 : decode cL_areOutfits 218 = .ok (.aload_n 1, 1) := by decide +kernel
theorem dL_areOutfits_219 : decode cL_areOutfits 219 = .ok (.iconst 5, 1) := by decide +kernel
theorem dL_areOutfits_220 : decode cL_areOutfits 220 = .ok (.iload 13, 2) := by decide +kernel
theorem dL_areOutfits_222 : decode cL_areOutfits 222 = .ok (.imul, 1) := by decide +kernel
theorem dL_areOutfits_223 : decode cL_areOutfits 223 = .ok (.iconst 2, 1) := by decide +kernel
theorem dL_areOutfits_224 : decode cL_areOutfits 224 = .ok (.iadd, 1) := by decide +kernel
theorem dL_areOutfits_225 : decode cL_areOutfits 225 = .ok (.iaload, 1) := by decide +kernel
theorem dL_areOutfits_226 : decode cL_areOutfits 226 = .ok (.iadd, 1) := by decide +kernel
theorem dL_areOutfits_227 : decode cL_areOutfits 227 = .ok (.iload 14, 2) := by decide +kernel
theorem dL_areOutfits_229 : decode cL_areOutfits 229 = .ok (.ifCond .ge 7, 3) := by decide +kernel
theorem dL_areOutfits_232 : decode cL_areOutfits 232 = .ok (.iconst 0, 1) := by decide +kernel
theorem dL_areOutfits_233 : decode cL_areOutfits 233 = .ok (.goto 11, 3) := by decide +kernel
theorem dL_areOutfits_236 : decode cL_areOutfits 236 = .ok (.aload_n 1, 1) := by decide +kernel
theorem dL_areOutfits_237 : decode cL_areOutfits 237 = .ok (.iconst 5, 1) := by decide +kernel
theorem dL_areOutfits_238 : decode cL_areOutfits 238 = .ok (.iload 14, 2) := by decide +kernel
theorem dL_areOutfits_240 : decode cL_areOutfits 240 = .ok (.imul, 1) := by decide +kernel
theorem dL_areOutfits_241 : decode cL_areOutfits 241 = .ok (.iconst 2, 1) := by decide +kernel
theorem dL_areOutfits_242 : decode cL_areOutfits 242 = .ok (.iadd, 1) := by decide +kernel
theorem dL_areOutfits_243 : decode cL_areOutfits 243 = .ok (.iaload, 1) := by decide +kernel
theorem dL_areOutfits_244 : decode cL_areOutfits 244 = .ok (.iadd, 1) := by decide +kernel
theorem dL_areOutfits_245 : decode cL_areOutfits 245 = .ok (.istore 16, 2) := by decide +kernel
theorem dL_areOutfits_247 : decode cL_areOutfits 247 = .ok (.iload 15, 2) := by decide +kernel
theorem dL_areOutfits_249 : decode cL_areOutfits 249 = .ok (.ifCond .eq 14, 3) := by decide +kernel
theorem dL_areOutfits_252 : decode cL_areOutfits 252 = .ok (.iload 16, 2) := by decide +kernel
theorem dL_areOutfits_254 : decode cL_areOutfits 254 = .ok (.iload 5, 2) := by decide +kernel
theorem dL_areOutfits_256 : decode cL_areOutfits 256 = .ok (.if_icmp .lt 7, 3) := by decide +kernel
theorem dL_areOutfits_259 : decode cL_areOutfits 259 = .ok (.iconst 1, 1) := by decide +kernel
theorem dL_areOutfits_260 : decode cL_areOutfits 260 = .ok (.goto 4, 3) := by decide +kernel
theorem dL_areOutfits_263 : decode cL_areOutfits 263 = .ok (.iconst 0, 1) := by decide +kernel
theorem dL_areOutfits_264 : decode cL_areOutfits 264 = .ok (.istore 17, 2) := by decide +kernel
theorem dL_areOutfits_266 : decode cL_areOutfits 266 = .ok (.iload 7, 2) := by decide +kernel
theorem dL_areOutfits_268 : decode cL_areOutfits 268 = .ok (.iload 17, 2) := by decide +kernel
theorem dL_areOutfits_270 : decode cL_areOutfits 270 = .ok (.ifCond .eq 7, 3) := by decide +kernel
theorem dL_areOutfits_273 : decode cL_areOutfits 273 = .ok (.iconst 1, 1) := by decide +kernel
theorem dL_areOutfits_274 : decode cL_areOutfits 274 = .ok (.goto 4, 3) := by decide +kernel
theorem dL_areOutfits_277 : decode cL_areOutfits 277 = .ok (.iconst 0, 1) := by decide +kernel
theorem dL_areOutfits_278 : decode cL_areOutfits 278 = .ok (.iadd, 1) := by decide +kernel
theorem dL_areOutfits_279 : decode cL_areOutfits 279 = .ok (.istore 7, 2) := by decide +kernel
theorem dL_areOutfits_281 : decode cL_areOutfits 281 = .ok (.iload 8, 2) := by decide +kernel
theorem dL_areOutfits_283 : decode cL_areOutfits 283 = .ok (.iload 17, 2) := by decide +kernel
theorem dL_areOutfits_285 : decode cL_areOutfits 285 = .ok (.ifCond .eq 16, 3) := by decide +kernel
theorem dL_areOutfits_288 : decode cL_areOutfits 288 = .ok (.iload 14, 2) := by decide +kernel
theorem dL_areOutfits_290 : decode cL_areOutfits 290 = .ok (.ifCond .ge 7, 3) := by decide +kernel
theorem dL_areOutfits_293 : decode cL_areOutfits 293 = .ok (.iconst 2, 1) := by decide +kernel
theorem dL_areOutfits_294 : decode cL_areOutfits 294 = .ok (.goto 8, 3) := by decide +kernel
theorem dL_areOutfits_297 : decode cL_areOutfits 297 = .ok (.iconst 3, 1) := by decide +kernel
theorem dL_areOutfits_298 : decode cL_areOutfits 298 = .ok (.goto 4, 3) := by decide +kernel
theorem dL_areOutfits_301 : decode cL_areOutfits 301 = .ok (.iconst 0, 1) := by decide +kernel
theorem dL_areOutfits_302 : decode cL_areOutfits 302 = .ok (.iadd, 1) := by decide +kernel
theorem dL_areOutfits_303 : decode cL_areOutfits 303 = .ok (.istore 8, 2) := by decide +kernel
theorem dL_areOutfits_305 : decode cL_areOutfits 305 = .ok (.aload_n 0, 1) := by decide +kernel
theorem dL_areOutfits_306 : decode cL_areOutfits 306 = .ok (.iconst 0, 1) := by decide +kernel
theorem dL_areOutfits_307 : decode cL_areOutfits 307 = .ok (.iload 12, 2) := by decide +kernel
theorem dL_areOutfits_309 : decode cL_areOutfits 309 = .ok (.iload 13, 2) := by decide +kernel
theorem dL_areOutfits_311 : decode cL_areOutfits 311 = .ok (.iload 14, 2) := by decide +kernel
theorem dL_areOutfits_313 : decode cL_areOutfits 313 = .ok (.iconst 0, 1) := by decide +kernel
theorem dL_areOutfits_314 : decode cL_areOutfits 314 = .ok (.invokestatic 91, 3) := by decide +kernel
theorem dL_areOutfits_317 : decode cL_areOutfits 317 = .ok (.iload 15, 2) := by decide +kernel
theorem dL_areOutfits_319 : decode cL_areOutfits 319 = .ok (.ifCond .eq 7, 3) := by decide +kernel
theorem dL_areOutfits_322 : decode cL_areOutfits 322 = .ok (.iconst 1, 1) := by decide +kernel
theorem dL_areOutfits_323 : decode cL_areOutfits 323 = .ok (.goto 4, 3) := by decide +kernel
theorem dL_areOutfits_326 : decode cL_areOutfits 326 = .ok (.iconst 0, 1) := by decide +kernel
theorem dL_areOutfits_327 : decode cL_areOutfits 327 = .ok (.if_icmp .ne 7, 3) := by decide +kernel
theorem dL_areOutfits_330 : decode cL_areOutfits 330 = .ok (.iconst 1, 1) := by decide +kernel
theorem dL_areOutfits_331 : decode cL_areOutfits 331 = .ok (.goto 4, 3) := by decide +kernel
theorem dL_areOutfits_334 : decode cL_areOutfits 334 = .ok (.iconst 0, 1) := by decide +kernel
theorem dL_areOutfits_335 : decode cL_areOutfits 335 = .ok (.istore 11, 2) := by decide +kernel
theorem dL_areOutfits_337 : decode cL_areOutfits 337 = .ok (.iload 17, 2) := by decide +kernel
theorem dL_areOutfits_339 : decode cL_areOutfits 339 = .ok (.ifCond .eq 22, 3) := by decide +kernel
theorem dL_areOutfits_342 : decode cL_areOutfits 342 = .ok (.aload_n 0, 1) := by decide +kernel
theorem dL_areOutfits_343 : decode cL_areOutfits 343 = .ok (.iconst 1, 1) := by decide +kernel
theorem dL_areOutfits_344 : decode cL_areOutfits 344 = .ok (.iload 12, 2) := by decide +kernel
theorem dL_areOutfits_346 : decode cL_areOutfits 346 = .ok (.iload 13, 2) := by decide +kernel
theorem dL_areOutfits_348 : decode cL_areOutfits 348 = .ok (.iconst 0, 1) := by decide +kernel
theorem dL_areOutfits_349 : decode cL_areOutfits 349 = .ok (.iload 6, 2) := by decide +kernel
theorem dL_areOutfits_351 : decode cL_areOutfits 351 = .ok (.invokestatic 91, 3) := by decide +kernel
theorem dL_areOutfits_354 : decode cL_areOutfits 354 = .ok (.ifCond .ne 7, 3) := by decide +kernel
theorem dL_areOutfits_357 : decode cL_areOutfits 357 = .ok (.iconst 1, 1) := by decide +kernel
theorem dL_areOutfits_358 : decode cL_areOutfits 358 = .ok (.goto 4, 3) := by decide +kernel
theorem dL_areOutfits_361 : decode cL_areOutfits 361 = .ok (.iconst 0, 1) := by decide +kernel
theorem dL_areOutfits_362 : decode cL_areOutfits 362 = .ok (.istore 18, 2) := by decide +kernel
theorem dL_areOutfits_364 : decode cL_areOutfits 364 = .ok (.sipush 10000, 3) := by decide +kernel
theorem dL_areOutfits_367 : decode cL_areOutfits 367 = .ok (.iload 12, 2) := by decide +kernel
theorem dL_areOutfits_369 : decode cL_areOutfits 369 = .ok (.imul, 1) := by decide +kernel
theorem dL_areOutfits_370 : decode cL_areOutfits 370 = .ok (.bipush 100, 2) := by decide +kernel
theorem dL_areOutfits_372 : decode cL_areOutfits 372 = .ok (.iload 13, 2) := by decide +kernel
theorem dL_areOutfits_374 : decode cL_areOutfits 374 = .ok (.imul, 1) := by decide +kernel
theorem dL_areOutfits_375 : decode cL_areOutfits 375 = .ok (.iadd, 1) := by decide +kernel
theorem dL_areOutfits_376 : decode cL_areOutfits 376 = .ok (.iload 14, 2) := by decide +kernel
theorem dL_areOutfits_378 : decode cL_areOutfits 378 = .ok (.iadd, 1) := by decide +kernel
theorem dL_areOutfits_379 : decode cL_areOutfits 379 = .ok (.iconst 1, 1) := by decide +kernel
theorem dL_areOutfits_380 : decode cL_areOutfits 380 = .ok (.iadd, 1) := by decide +kernel
theorem dL_areOutfits_381 : decode cL_areOutfits 381 = .ok (.istore 19, 2) := by decide +kernel
theorem dL_areOutfits_383 : decode cL_areOutfits 383 = .ok (.iload 10, 2) := by decide +kernel
theorem dL_areOutfits_385 : decode cL_areOutfits 385 = .ok (.ifCond .ne 15, 3) := by decide +kernel
theorem dL_areOutfits_388 : decode cL_areOutfits 388 = .ok (.iload 18, 2) := by decide +kernel
theorem dL_areOutfits_390 : decode cL_areOutfits 390 = .ok (.ifCond .eq 14, 3) := by decide +kernel
theorem dL_areOutfits_393 : decode cL_areOutfits 393 = .ok (.iload 19, 2) := by decide +kernel
theorem dL_areOutfits_395 : decode cL_areOutfits 395 = .ok (.iload 9, 2) := by decide +kernel
theorem dL_areOutfits_397 : decode cL_areOutfits 397 = .ok (.if_icmp .ne 7, 3) := by decide +kernel
theorem dL_areOutfits_400 : decode cL_areOutfits 400 = .ok (.iconst 1, 1) := by decide +kernel
theorem dL_areOutfits_401 : decode cL_areOutfits 401 = .ok (.goto 4, 3) := by decide +kernel
theorem dL_areOutfits_404 : decode cL_areOutfits 404 = .ok (.iconst 0, 1) := by decide +kernel
theorem dL_areOutfits_405 : decode cL_areOutfits 405 = .ok (.istore 10, 2) := by decide +kernel
theorem dL_areOutfits_407 : decode cL_areOutfits 407 = .ok (.iload 11, 2) := by decide +kernel
theorem dL_areOutfits_409 : decode cL_areOutfits 409 = .ok (.ifCond .eq 46, 3) := by decide +kernel
theorem dL_areOutfits_412 : decode cL_areOutfits 412 = .ok (.iload 18, 2) := by decide +kernel
theorem dL_areOutfits_414 : decode cL_areOutfits 414 = .ok (.ifCond .eq 37, 3) := by decide +kernel
theorem dL_areOutfits_417 : decode cL_areOutfits 417 = .ok (.iload 9, 2) := by decide +kernel
theorem dL_areOutfits_419 : decode cL_areOutfits 419 = .ok (.ifCond .lt 36, 3) := by decide +kernel
theorem dL_areOutfits_422 : decode cL_areOutfits 422 = .ok (.iload 16, 2) := by decide +kernel
theorem dL_areOutfits_424 : decode cL_areOutfits 424 = .ok (.aload_n 1, 1) := by decide +kernel
theorem dL_areOutfits_425 : decode cL_areOutfits 425 = .ok (.iload 9, 2) := by decide +kernel
theorem dL_areOutfits_427 : decode cL_areOutfits 427 = .ok (.invokestatic 95, 3) := by decide +kernel
theorem dL_areOutfits_430 : decode cL_areOutfits 430 = .ok (.if_icmp .gt 21, 3) := by decide +kernel
theorem dL_areOutfits_433 : decode cL_areOutfits 433 = .ok (.iload 16, 2) := by decide +kernel
theorem dL_areOutfits_435 : decode cL_areOutfits 435 = .ok (.aload_n 1, 1) := by decide +kernel
theorem dL_areOutfits_436 : decode cL_areOutfits 436 = .ok (.iload 9, 2) := by decide +kernel
theorem dL_areOutfits_438 : decode cL_areOutfits 438 = .ok (.invokestatic 95, 3) := by decide +kernel
theorem dL_areOutfits_441 : decode cL_areOutfits 441 = .ok (.if_icmp .ne 14, 3) := by decide +kernel
theorem dL_areOutfits_444 : decode cL_areOutfits 444 = .ok (.iload 19, 2) := by decide +kernel
theorem dL_areOutfits_446 : decode cL_areOutfits 446 = .ok (.iload 9, 2) := by decide +kernel
theorem dL_areOutfits_448 : decode cL_areOutfits 448 = .ok (.if_icmp .lt 7, 3) := by decide +kernel
theorem dL_areOutfits_451 : decode cL_areOutfits 451 = .ok (.iconst 1, 1) := by decide +kernel
theorem dL_areOutfits_452 : decode cL_areOutfits 452 = .ok (.goto 4, 3) := by decide +kernel
theorem dL_areOutfits_455 : decode cL_areOutfits 455 = .ok (.iconst 0, 1) := by decide +kernel
theorem dL_areOutfits_456 : decode cL_areOutfits 456 = .ok (.istore 11, 2) := by decide +kernel
theorem dL_areOutfits_458 : decode cL_areOutfits 458 = .ok (.iinc 14 1, 3) := by decide +kernel
theorem dL_areOutfits_461 : decode cL_areOutfits 461 = .ok (.goto (-383), 3) := by decide +kernel
theorem dL_areOutfits_464 : decode cL_areOutfits 464 = .ok (.iinc 13 1, 3) := by decide +kernel
theorem dL_areOutfits_467 : decode cL_areOutfits 467 = .ok (.goto (-415), 3) := by decide +kernel
theorem dL_areOutfits_470 : decode cL_areOutfits 470 = .ok (.iinc 12 1, 3) := by decide +kernel
theorem dL_areOutfits_473 : decode cL_areOutfits 473 = .ok (.goto (-438), 3) := by decide +kernel
theorem dL_areOutfits_476 : decode cL_areOutfits 476 = .ok (.iconst 0, 1) := by decide +kernel
theorem dL_areOutfits_477 : decode cL_areOutfits 477 = .ok (.istore 12, 2) := by decide +kernel
theorem dL_areOutfits_479 : decode cL_areOutfits 479 = .ok (.iconst 0, 1) := by decide +kernel
theorem dL_areOutfits_480 : decode cL_areOutfits 480 = .ok (.istore 13, 2) := by decide +kernel
theorem dL_areOutfits_482 : decode cL_areOutfits 482 = .ok (.iload 13, 2) := by decide +kernel
theorem dL_areOutfits_484 : decode cL_areOutfits 484 = .ok (.aload 4, 2) := by decide +kernel
theorem dL_areOutfits_486 : decode cL_areOutfits 486 = .ok (.iconst 0, 1) := by decide +kernel
theorem dL_areOutfits_487 : decode cL_areOutfits 487 = .ok (.iaload, 1) := by decide +kernel
theorem dL_areOutfits_488 : decode cL_areOutfits 488 = .ok (.if_icmp .ge 40, 3) := by decide +kernel
theorem dL_areOutfits_491 : decode cL_areOutfits 491 = .ok (.iload 11, 2) := by decide +kernel
theorem dL_areOutfits_493 : decode cL_areOutfits 493 = .ok (.ifCond .eq 35, 3) := by decide +kernel
theorem dL_areOutfits_496 : decode cL_areOutfits 496 = .ok (.iload 12, 2) := by decide +kernel
theorem dL_areOutfits_498 : decode cL_areOutfits 498 = .ok (.aload_n 1, 1) := by decide +kernel
theorem dL_areOutfits_499 : decode cL_areOutfits 499 = .ok (.iconst 5, 1) := by decide +kernel
theorem dL_areOutfits_500 : decode cL_areOutfits 500 = .ok (.iload 13, 2) := by decide +kernel
theorem dL_areOutfits_502 : decode cL_areOutfits 502 = .ok (.imul, 1) := by decide +kernel
theorem dL_areOutfits_503 : decode cL_areOutfits 503 = .ok (.iaload, 1) := by decide +kernel
theorem dL_areOutfits_504 : decode cL_areOutfits 504 = .ok (.ifCond .ge 7, 3) := by decide +kernel
theorem dL_areOutfits_507 : decode cL_areOutfits 507 = .ok (.iconst 0, 1) := by decide +kernel
theorem dL_areOutfits_508 : decode cL_areOutfits 508 = .ok (.goto 11, 3) := by decide +kernel
theorem dL_areOutfits_511 : decode cL_areOutfits 511 = .ok (.aload_n 0, 1) := by decide +kernel
theorem dL_areOutfits_512 : decode cL_areOutfits 512 = .ok (.iload 13, 2) := by decide +kernel
theorem dL_areOutfits_514 : decode cL_areOutfits 514 = .ok (.iload 5, 2) := by decide +kernel
theorem dL_areOutfits_516 : decode cL_areOutfits 516 = .ok (.invokevirtual 42, 3) := by decide +kernel
theorem dL_areOutfits_519 : decode cL_areOutfits 519 = .ok (.iadd, 1) := by decide +kernel
theorem dL_areOutfits_520 : decode cL_areOutfits 520 = .ok (.istore 12, 2) := by decide +kernel
theorem dL_areOutfits_522 : decode cL_areOutfits 522 = .ok (.iinc 13 1, 3) := by decide +kernel
theorem dL_areOutfits_525 : decode cL_areOutfits 525 = .ok (.goto (-43), 3) := by decide +kernel
theorem dL_areOutfits_528 : decode cL_areOutfits 528 = .ok (.iload 11, 2) := by decide +kernel
theorem dL_areOutfits_530 : decode cL_areOutfits 530 = .ok (.ifCond .eq 30, 3) := by decide +kernel
theorem dL_areOutfits_533 : decode cL_areOutfits 533 = .ok (.iload 10, 2) := by decide +kernel
theorem dL_areOutfits_535 : decode cL_areOutfits 535 = .ok (.ifCond .eq 25, 3) := by decide +kernel
theorem dL_areOutfits_538 : decode cL_areOutfits 538 = .ok (.aload_n 0, 1) := by decide +kernel
theorem dL_areOutfits_539 : decode cL_areOutfits 539 = .ok (.iload 5, 2) := by decide +kernel
theorem dL_areOutfits_541 : decode cL_areOutfits 541 = .ok (.invokevirtual 39, 3) := by decide +kernel
theorem dL_areOutfits_544 : decode cL_areOutfits 544 = .ok (.iload 7, 2) := by decide +kernel
theorem dL_areOutfits_546 : decode cL_areOutfits 546 = .ok (.if_icmp .ne 14, 3) := by decide +kernel
theorem dL_areOutfits_549 : decode cL_areOutfits 549 = .ok (.iload 12, 2) := by decide +kernel
theorem dL_areOutfits_551 : decode cL_areOutfits 551 = .ok (.iload 8, 2) := by decide +kernel
theorem dL_areOutfits_553 : decode cL_areOutfits 553 = .ok (.if_icmp .ne 7, 3) := by decide +kernel
theorem dL_areOutfits_556 : decode cL_areOutfits 556 = .ok (.iconst 1, 1) := by decide +kernel
theorem dL_areOutfits_557 : decode cL_areOutfits 557 = .ok (.goto 4, 3) := by decide +kernel
theorem dL_areOutfits_560 : decode cL_areOutfits 560 = .ok (.iconst 0, 1) := by decide +kernel
theorem dL_areOutfits_561 : decode cL_areOutfits 561 = .ok (.ireturn, 1) := by decide +kernel
