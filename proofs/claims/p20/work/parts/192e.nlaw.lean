set_option maxRecDepth 20000 in
theorem ggL_isRefused_L_all : GoodIn wsL_isRefused wsL_all := goodIn_ca (goodIn_ca (goodIn_ca (goodIn_r _ [4, 5, 6, 7, 8, 9, 10, 11, 12, 13, 14, 15, 16, 17, 18, 19, 20, 21, 22, 23, 24, 25, 26, 27, 28, 29, 30, 31, 32, 33, 34, 35, 36, 37, 38, 39, 40, 41, 42, 43, 44, 45, 46, 47, 48, 49, 50, 51, 52, 53, 54, 55, 56, 57, 58, 59, 60, 61, 62, 63, 64, 65, 66, 67, 68, 69, 70, 71, 72, 73, 74, 75, 76, 77, 78, 79, 80, 81, 82, 83, 84, 85, 86, 87, 88, 89, 90, 91, 92, 93, 94, 95, 96, 97, 98, 99, 100, 3, 101, 102, 103, 104, 105, 106, 107, 108, 109, 110, 111, 112, 113, 114, 115, 116, 117, 118, 119, 120, 121, 122, 123, 124, 125, 126, 127, 128, 129, 130, 131, 132, 133, 134, 135, 136, 137, 138, 139, 140, 141, 142, 143, 144, 145, 146, 147, 148, 149, 150, 151, 152, 153, 154, 155, 156, 157, 158, 159, 160, 161, 162, 163, 164, 165, 166, 167, 168, 169, 170, 171, 172, 173, 174, 175, 176, 177, 178, 179, 180, 181, 182, 183, 184, 185, 186, 187, 188, 189, 190, 191, 192, 193, 194, 195, 196, 197, 198, 199, 200, 250, 251, 252, 253, 254, 255, 256, 257, 258, 259, 260, 261] (by decide +kernel) (by decide +kernel)) (goodIn_sub (fun _ h => List.mem_cons_of_mem _ (List.mem_append_left _ (List.mem_append_left _ (List.mem_append_right _ h)))) (by decide +kernel))) (goodIn_sub (fun _ h => List.mem_cons_of_mem _ (List.mem_append_left _ (List.mem_append_right _ h))) (by decide +kernel))) (goodIn_sub (fun _ h => List.mem_cons_of_mem _ (List.mem_append_right _ h)) (by decide +kernel))
set_option maxRecDepth 20000 in
theorem gL_isRefused_L_all : GoodIn wsL_isRefused (va_wsS RL 109 yL_all wsL_all) := goodIn_app (goodIn_of _ (by decide +kernel)) ggL_isRefused_L_all
set_option maxRecDepth 20000 in
theorem ggL_isRefused_L_add : GoodIn wsL_isRefused wsL_add := goodIn_ca (goodIn_ca (goodIn_r _ [203, 103, 104, 204, 205, 206, 12, 207, 26, 27, 152, 153, 28, 47, 57, 82, 143, 130, 48, 14, 32, 33, 34, 208, 209, 210, 123, 124, 125, 250, 251, 252, 253, 254, 255, 256, 257, 258, 259, 260, 261] (by decide +kernel) (by decide +kernel)) (goodIn_sub (fun _ h => List.mem_cons_of_mem _ (List.mem_append_left _ (List.mem_append_left _ (List.mem_append_right _ h)))) (by decide +kernel))) (goodIn_sub (fun _ h => List.mem_cons_of_mem _ (List.mem_append_right _ h)) (by decide +kernel))
set_option maxRecDepth 20000 in
theorem gL_isRefused_L_add : GoodIn wsL_isRefused (va_wsS RL 113 yL_add wsL_add) := goodIn_app (goodIn_of _ (by decide +kernel)) ggL_isRefused_L_add
set_option maxRecDepth 20000 in
theorem ggL_isRefused_L_of : GoodIn wsL_isRefused wsL_of := goodIn_ca (goodIn_ca (goodIn_ca (goodIn_r _ [101, 102, 103, 104, 105, 106, 107, 12, 108, 109, 110, 14, 49, 50, 51, 52, 15, 16, 17, 18, 19, 20, 21, 111, 112, 113, 114, 48, 22, 23, 24, 25, 26, 27, 28, 29, 30, 31, 32, 33, 34, 35, 36, 37, 38, 39, 40, 41, 42, 43, 44, 45, 46, 47, 53, 54, 55, 56, 57, 58, 59, 60, 61, 62, 63, 64, 65, 66, 67, 68, 69, 70, 71, 72, 73, 74, 75, 76, 77, 78, 79, 80, 81, 82, 115, 116, 117, 118, 83, 84, 85, 86, 87, 88, 89, 90, 91, 92, 93, 94, 95, 96, 97, 98, 119, 120, 121, 122, 123, 124, 125, 126, 127, 128, 129, 130, 131, 132, 133, 134, 135, 136, 137, 138, 139, 140, 141, 142, 143, 144, 145, 146, 147, 148, 149, 150, 151, 152, 153, 154, 155, 156, 157, 158, 159, 160, 161, 162, 163, 164, 165, 166, 167, 168, 169, 170, 171, 172, 173, 174, 175, 176, 177, 178, 179, 180, 181, 182, 183, 184, 185, 186, 187, 188, 189, 190, 191, 192, 193, 194, 195, 196, 197, 198, 199, 200, 250, 251, 252, 253, 254, 255, 256, 257, 258, 259, 260, 261] (by decide +kernel) (by decide +kernel)) (goodIn_sub (fun _ h => List.mem_cons_of_mem _ (List.mem_append_left _ (List.mem_append_right _ h))) (by decide +kernel))) (goodIn_sub (fun _ h => List.mem_cons_of_mem _ (List.mem_append_left _ (List.mem_append_left _ (List.mem_append_right _ h)))) (by decide +kernel))) (goodIn_sub (fun _ h => List.mem_cons_of_mem _ (List.mem_append_right _ h)) (by decide +kernel))
set_option maxRecDepth 20000 in
theorem gL_isRefused_L_of : GoodIn wsL_isRefused (va_wsS RL 81 yL_of wsL_of) := goodIn_app (goodIn_of _ (by decide +kernel)) ggL_isRefused_L_of
set_option maxRecDepth 20000 in
theorem ggL_isRefused_L_yes : GoodIn wsL_isRefused wsL_yes := goodIn_ca (goodIn_r _ [213, 103, 214, 215, 216, 12, 217, 26, 27, 62, 218, 208, 209, 210, 32, 33, 34, 58, 59, 60, 61, 63, 64, 65, 219, 220, 221, 222, 14, 158, 159, 160, 161, 162, 163, 164, 165, 28, 166, 167, 168, 169, 170, 171, 172, 173, 174, 175, 176, 177, 47, 49, 50, 51, 52, 53, 54, 55, 56, 57, 74, 75, 76, 77, 78, 79, 80, 81, 82, 182, 183, 184, 185, 186, 187, 188, 189, 15, 16, 17, 18, 19, 20, 21, 190, 191, 192, 193, 48, 194, 195, 196, 197, 198, 199, 200, 250, 251, 252, 253, 254, 255, 256, 257, 258, 259, 260, 261] (by decide +kernel) (by decide +kernel)) (goodIn_sub (fun _ h => List.mem_cons_of_mem _ (List.mem_append_left _ (List.mem_append_left _ (List.mem_append_right _ h)))) (by decide +kernel))
set_option maxRecDepth 20000 in
theorem gL_isRefused_L_yes : GoodIn wsL_isRefused (va_wsS RL 102 yL_yes wsL_yes) := goodIn_app (goodIn_of _ (by decide +kernel)) ggL_isRefused_L_yes
set_option maxRecDepth 20000 in
theorem ggL_isRefused_L_outfit : GoodIn wsL_isRefused wsL_outfit := goodIn_ca (goodIn_ca (goodIn_ca (goodIn_r _ [225, 102, 103, 104, 226, 227, 228, 12, 229, 109, 110, 26, 27, 230, 231, 232, 233, 49, 50, 51, 52, 14, 170, 171, 172, 173, 174, 175, 176, 177, 47, 39, 40, 41, 42, 43, 44, 45, 46, 48, 53, 54, 55, 56, 57, 58, 59, 60, 61, 62, 63, 64, 65, 66, 67, 68, 69, 234, 235, 236, 237, 87, 88, 89, 32, 33, 34, 90, 91, 92, 93, 94, 95, 96, 97, 98, 238, 239, 240, 241, 152, 153, 242, 243, 244, 245, 131, 132, 133, 134, 246, 247, 248, 249, 74, 75, 76, 77, 78, 79, 80, 81, 82, 250, 251, 252, 253, 254, 255, 256, 257, 258, 259, 260, 261] (by decide +kernel) (by decide +kernel)) (goodIn_sub (fun _ h => List.mem_cons_of_mem _ (List.mem_append_left _ (List.mem_append_right _ h))) (by decide +kernel))) (goodIn_sub (fun _ h => List.mem_cons_of_mem _ (List.mem_append_left _ (List.mem_append_left _ (List.mem_append_right _ h)))) (by decide +kernel))) (goodIn_sub (fun _ h => List.mem_cons_of_mem _ (List.mem_append_right _ h)) (by decide +kernel))
set_option maxRecDepth 20000 in
theorem gL_isRefused_L_outfit : GoodIn wsL_isRefused (va_wsS RL 91 yL_outfit wsL_outfit) := goodIn_app (goodIn_of _ (by decide +kernel)) ggL_isRefused_L_outfit
theorem dL_isRefused_0 : decode cL_isRefused 0 = .ok (.iload_n 2, 1) := by decide +kernel
theorem dL_isRefused_1 : decode cL_isRefused 1 = .ok (.iconst 2, 1) := by decide +kernel
theorem dL_isRefused_2 : decode cL_isRefused 2 = .ok (.irem, 1) := by decide +kernel
theorem dL_isRefused_3 : decode cL_isRefused 3 = .ok (.ifCond .ne 7, 3) := by decide +kernel
theorem dL_isRefused_6 : decode cL_isRefused 6 = .ok (.iconst 1, 1) := by decide +kernel
theorem dL_isRefused_7 : decode cL_isRefused 7 = .ok (.goto 4, 3) := by decide +kernel
theorem dL_isRefused_10 : decode cL_isRefused 10 = .ok (.iconst 0, 1) := by decide +kernel
theorem dL_isRefused_11 : decode cL_isRefused 11 = .ok (.istore_n 3, 1) := by decide +kernel
theorem dL_isRefused_12 : decode cL_isRefused 12 = .ok (.iload_n 3, 1) := by decide +kernel
theorem dL_isRefused_13 : decode cL_isRefused 13 = .ok (.ifCond .eq 12, 3) := by decide +kernel
theorem dL_isRefused_16 : decode cL_isRefused 16 = .ok (.iconst (-1), 1) := by decide +kernel
theorem dL_isRefused_17 : decode cL_isRefused 17 = .ok (.iload_n 2, 1) := by decide +kernel
theorem dL_isRefused_18 : decode cL_isRefused 18 = .ok (.bipush 30, 2) := by decide +kernel
theorem dL_isRefused_20 : decode cL_isRefused 20 = .ok (.irem, 1) := by decide +kernel
theorem dL_isRefused_21 : decode cL_isRefused 21 = .ok (.isub, 1) := by decide +kernel
theorem dL_isRefused_22 : decode cL_isRefused 22 = .ok (.goto 11, 3) := by decide +kernel
theorem dL_isRefused_25 : decode cL_isRefused 25 = .ok (.aload_n 1, 1) := by decide +kernel
theorem dL_isRefused_26 : decode cL_isRefused 26 = .ok (.iconst 0, 1) := by decide +kernel
theorem dL_isRefused_27 : decode cL_isRefused 27 = .ok (.iaload, 1) := by decide +kernel
theorem dL_isRefused_28 : decode cL_isRefused 28 = .ok (.iload_n 2, 1) := by decide +kernel
theorem dL_isRefused_29 : decode cL_isRefused 29 = .ok (.bipush 30, 2) := by decide +kernel
theorem dL_isRefused_31 : decode cL_isRefused 31 = .ok (.irem, 1) := by decide +kernel
theorem dL_isRefused_32 : decode cL_isRefused 32 = .ok (.iadd, 1) := by decide +kernel
theorem dL_isRefused_33 : decode cL_isRefused 33 = .ok (.istore 4, 2) := by decide +kernel
theorem dL_isRefused_35 : decode cL_isRefused 35 = .ok (.iload_n 3, 1) := by decide +kernel
theorem dL_isRefused_36 : decode cL_isRefused 36 = .ok (.ifCond .eq 13, 3) := by decide +kernel
theorem dL_isRefused_39 : decode cL_isRefused 39 = .ok (.bipush (-2), 2) := by decide +kernel
theorem dL_isRefused_41 : decode cL_isRefused 41 = .ok (.iload_n 2, 1) := by decide +kernel
theorem dL_isRefused_42 : decode cL_isRefused 42 = .ok (.bipush 30, 2) := by decide +kernel
theorem dL_isRefused_44 : decode cL_isRefused 44 = .ok (.irem, 1) := by decide +kernel
theorem dL_isRefused_45 : decode cL_isRefused 45 = .ok (.isub, 1) := by decide +kernel
theorem dL_isRefused_46 : decode cL_isRefused 46 = .ok (.goto 5, 3) := by decide +kernel
theorem dL_isRefused_49 : decode cL_isRefused 49 = .ok (.iload 4, 2) := by decide +kernel
theorem dL_isRefused_51 : decode cL_isRefused 51 = .ok (.istore 5, 2) := by decide +kernel
theorem dL_isRefused_53 : decode cL_isRefused 53 = .ok (.aload_n 0, 1) := by decide +kernel
theorem dL_isRefused_54 : decode cL_isRefused 54 = .ok (.aload_n 1, 1) := by decide +kernel
theorem dL_isRefused_55 : decode cL_isRefused 55 = .ok (.invokestatic 109, 3) := by decide +kernel
theorem dL_isRefused_58 : decode cL_isRefused 58 = .ok (.lstore 6, 2) := by decide +kernel
theorem dL_isRefused_60 : decode cL_isRefused 60 = .ok (.aload_n 0, 1) := by decide +kernel
theorem dL_isRefused_61 : decode cL_isRefused 61 = .ok (.iload_n 3, 1) := by decide +kernel
theorem dL_isRefused_62 : decode cL_isRefused 62 = .ok (.ifCond .eq 7, 3) := by decide +kernel
theorem dL_isRefused_65 : decode cL_isRefused 65 = .ok (.iconst (-1), 1) := by decide +kernel
theorem dL_isRefused_66 : decode cL_isRefused 66 = .ok (.goto 4, 3) := by decide +kernel
theorem dL_isRefused_69 : decode cL_isRefused 69 = .ok (.iconst 3, 1) := by decide +kernel
theorem dL_isRefused_70 : decode cL_isRefused 70 = .ok (.iconst 0, 1) := by decide +kernel
theorem dL_isRefused_71 : decode cL_isRefused 71 = .ok (.iconst 0, 1) := by decide +kernel
theorem dL_isRefused_72 : decode cL_isRefused 72 = .ok (.iconst 1, 1) := by decide +kernel
theorem dL_isRefused_73 : decode cL_isRefused 73 = .ok (.iconst 0, 1) := by decide +kernel
theorem dL_isRefused_74 : decode cL_isRefused 74 = .ok (.invokestatic 113, 3) := by decide +kernel
theorem dL_isRefused_77 : decode cL_isRefused 77 = .ok (.sipush (-982), 3) := by decide +kernel
theorem dL_isRefused_80 : decode cL_isRefused 80 = .ok (.if_icmp .ne 372, 3) := by decide +kernel
theorem dL_isRefused_83 : decode cL_isRefused 83 = .ok (.aload_n 0, 1) := by decide +kernel
theorem dL_isRefused_84 : decode cL_isRefused 84 = .ok (.iconst 0, 1) := by decide +kernel
theorem dL_isRefused_85 : decode cL_isRefused 85 = .ok (.iload_n 3, 1) := by decide +kernel
theorem dL_isRefused_86 : decode cL_isRefused 86 = .ok (.ifCond .eq 7, 3) := by decide +kernel
theorem dL_isRefused_89 : decode cL_isRefused 89 = .ok (.iconst (-1), 1) := by decide +kernel
theorem dL_isRefused_90 : decode cL_isRefused 90 = .ok (.goto 5, 3) := by decide +kernel
theorem dL_isRefused_93 : decode cL_isRefused 93 = .ok (.bipush 8, 2) := by decide +kernel
theorem dL_isRefused_95 : decode cL_isRefused 95 = .ok (.iconst 0, 1) := by decide +kernel
theorem dL_isRefused_96 : decode cL_isRefused 96 = .ok (.iconst 1, 1) := by decide +kernel
theorem dL_isRefused_97 : decode cL_isRefused 97 = .ok (.iconst 0, 1) := by decide +kernel
theorem dL_isRefused_98 : decode cL_isRefused 98 = .ok (.invokestatic 113, 3) := by decide +kernel
theorem dL_isRefused_101 : decode cL_isRefused 101 = .ok (.sipush (-982), 3) := by decide +kernel
theorem dL_isRefused_104 : decode cL_isRefused 104 = .ok (.if_icmp .ne 348, 3) := by decide +kernel
theorem dL_isRefused_107 : decode cL_isRefused 107 = .ok (.aload_n 0, 1) := by decide +kernel
theorem dL_isRefused_108 : decode cL_isRefused 108 = .ok (.iconst 0, 1) := by decide +kernel
theorem dL_isRefused_109 : decode cL_isRefused 109 = .ok (.iconst 0, 1) := by decide +kernel
theorem dL_isRefused_110 : decode cL_isRefused 110 = .ok (.iload_n 3, 1) := by decide +kernel
theorem dL_isRefused_111 : decode cL_isRefused 111 = .ok (.ifCond .eq 7, 3) := by decide +kernel
theorem dL_isRefused_114 : decode cL_isRefused 114 = .ok (.iconst (-1), 1) := by decide +kernel
theorem dL_isRefused_115 : decode cL_isRefused 115 = .ok (.goto 5, 3) := by decide +kernel
theorem dL_isRefused_118 : decode cL_isRefused 118 = .ok (.bipush 11, 2) := by decide +kernel
theorem dL_isRefused_120 : decode cL_isRefused 120 = .ok (.iconst 1, 1) := by decide +kernel
theorem dL_isRefused_121 : decode cL_isRefused 121 = .ok (.iconst 0, 1) := by decide +kernel
theorem dL_isRefused_122 : decode cL_isRefused 122 = .ok (.invokestatic 113, 3) := by decide +kernel
theorem dL_isRefused_125 : decode cL_isRefused 125 = .ok (.sipush (-982), 3) := by decide +kernel
theorem dL_isRefused_128 : decode cL_isRefused 128 = .ok (.if_icmp .ne 324, 3) := by decide +kernel
theorem dL_isRefused_131 : decode cL_isRefused 131 = .ok (.aload_n 0, 1) := by decide +kernel
theorem dL_isRefused_132 : decode cL_isRefused 132 = .ok (.iconst 0, 1) := by decide +kernel
theorem dL_isRefused_133 : decode cL_isRefused 133 = .ok (.iconst 0, 1) := by decide +kernel
theorem dL_isRefused_134 : decode cL_isRefused 134 = .ok (.iconst 0, 1) := by decide +kernel
theorem dL_isRefused_135 : decode cL_isRefused 135 = .ok (.iload_n 3, 1) := by decide +kernel
theorem dL_isRefused_136 : decode cL_isRefused 136 = .ok (.ifCond .eq 7, 3) := by decide +kernel
theorem dL_isRefused_139 : decode cL_isRefused 139 = .ok (.iconst 0, 1) := by decide +kernel
theorem dL_isRefused_140 : decode cL_isRefused 140 = .ok (.goto 5, 3) := by decide +kernel
theorem dL_isRefused_143 : decode cL_isRefused 143 = .ok (.bipush 10, 2) := by decide +kernel
theorem dL_isRefused_145 : decode cL_isRefused 145 = .ok (.iconst 0, 1) := by decide +kernel
theorem dL_isRefused_146 : decode cL_isRefused 146 = .ok (.invokestatic 113, 3) := by decide +kernel
theorem dL_isRefused_149 : decode cL_isRefused 149 = .ok (.sipush (-982), 3) := by decide +kernel
theorem dL_isRefused_152 : decode cL_isRefused 152 = .ok (.if_icmp .ne 300, 3) := by decide +kernel
theorem dL_isRefused_155 : decode cL_isRefused 155 = .ok (.aload_n 0, 1) := by decide +kernel
theorem dL_isRefused_156 : decode cL_isRefused 156 = .ok (.iconst 0, 1) := by decide +kernel
theorem dL_isRefused_157 : decode cL_isRefused 157 = .ok (.iconst 0, 1) := by decide +kernel
theorem dL_isRefused_158 : decode cL_isRefused 158 = .ok (.iconst 0, 1) := by decide +kernel
theorem dL_isRefused_159 : decode cL_isRefused 159 = .ok (.iconst 1, 1) := by decide +kernel
theorem dL_isRefused_160 : decode cL_isRefused 160 = .ok (.iload_n 3, 1) := by decide +kernel
theorem dL_isRefused_161 : decode cL_isRefused 161 = .ok (.ifCond .eq 7, 3) := by decide +kernel
theorem dL_isRefused_164 : decode cL_isRefused 164 = .ok (.iconst (-1), 1) := by decide +kernel
theorem dL_isRefused_165 : decode cL_isRefused 165 = .ok (.goto 4, 3) := by decide +kernel
theorem dL_isRefused_168 : decode cL_isRefused 168 = .ok (.iconst 3, 1) := by decide +kernel
theorem dL_isRefused_169 : decode cL_isRefused 169 = .ok (.invokestatic 113, 3) := by decide +kernel
theorem dL_isRefused_172 : decode cL_isRefused 172 = .ok (.sipush (-982), 3) := by decide +kernel
theorem dL_isRefused_175 : decode cL_isRefused 175 = .ok (.if_icmp .ne 277, 3) := by decide +kernel
theorem dL_isRefused_178 : decode cL_isRefused 178 = .ok (.aload_n 1, 1) := by decide +kernel
theorem dL_isRefused_179 : decode cL_isRefused 179 = .ok (.iconst 0, 1) := by decide +kernel
theorem dL_isRefused_180 : decode cL_isRefused 180 = .ok (.iaload, 1) := by decide +kernel
theorem dL_isRefused_181 : decode cL_isRefused 181 = .ok (.bipush 12, 2) := by decide +kernel
theorem dL_isRefused_183 : decode cL_isRefused 183 = .ok (.if_icmp .lt 18, 3) := by decide +kernel
theorem dL_isRefused_186 : decode cL_isRefused 186 = .ok (.aload_n 0, 1) := by decide +kernel
theorem dL_isRefused_187 : decode cL_isRefused 187 = .ok (.iconst 0, 1) := by decide +kernel
theorem dL_isRefused_188 : decode cL_isRefused 188 = .ok (.iconst 0, 1) := by decide +kernel
theorem dL_isRefused_189 : decode cL_isRefused 189 = .ok (.iconst 0, 1) := by decide +kernel
theorem dL_isRefused_190 : decode cL_isRefused 190 = .ok (.iconst 1, 1) := by decide +kernel
theorem dL_isRefused_191 : decode cL_isRefused 191 = .ok (.iconst 0, 1) := by decide +kernel
theorem dL_isRefused_192 : decode cL_isRefused 192 = .ok (.invokestatic 113, 3) := by decide +kernel
theorem dL_isRefused_195 : decode cL_isRefused 195 = .ok (.sipush (-983), 3) := by decide +kernel
theorem dL_isRefused_198 : decode cL_isRefused 198 = .ok (.if_icmp .ne 254, 3) := by decide +kernel
theorem dL_isRefused_201 : decode cL_isRefused 201 = .ok (.aload_n 0, 1) := by decide +kernel
theorem dL_isRefused_202 : decode cL_isRefused 202 = .ok (.iconst 0, 1) := by decide +kernel
theorem dL_isRefused_203 : decode cL_isRefused 203 = .ok (.iload 4, 2) := by decide +kernel
theorem dL_isRefused_205 : decode cL_isRefused 205 = .ok (.iconst 0, 1) := by decide +kernel
theorem dL_isRefused_206 : decode cL_isRefused 206 = .ok (.invokestatic 81, 3) := by decide +kernel
theorem dL_isRefused_209 : decode cL_isRefused 209 = .ok (.sipush (-981), 3) := by decide +kernel
theorem dL_isRefused_212 : decode cL_isRefused 212 = .ok (.if_icmp .ne 240, 3) := by decide +kernel
theorem dL_isRefused_215 : decode cL_isRefused 215 = .ok (.aload_n 0, 1) := by decide +kernel
theorem dL_isRefused_216 : decode cL_isRefused 216 = .ok (.iconst 1, 1) := by decide +kernel
theorem dL_isRefused_217 : decode cL_isRefused 217 = .ok (.iload 4, 2) := by decide +kernel
theorem dL_isRefused_219 : decode cL_isRefused 219 = .ok (.iconst 0, 1) := by decide +kernel
theorem dL_isRefused_220 : decode cL_isRefused 220 = .ok (.invokestatic 81, 3) := by decide +kernel
theorem dL_isRefused_223 : decode cL_isRefused 223 = .ok (.sipush (-981), 3) := by decide +kernel
theorem dL_isRefused_226 : decode cL_isRefused 226 = .ok (.if_icmp .ne 226, 3) := by decide +kernel
theorem dL_isRefused_229 : decode cL_isRefused 229 = .ok (.aload_n 0, 1) := by decide +kernel
theorem dL_isRefused_230 : decode cL_isRefused 230 = .ok (.iconst 2, 1) := by decide +kernel
theorem dL_isRefused_231 : decode cL_isRefused 231 = .ok (.iload_n 3, 1) := by decide +kernel
theorem dL_isRefused_232 : decode cL_isRefused 232 = .ok (.ifCond .eq 12, 3) := by decide +kernel
theorem dL_isRefused_235 : decode cL_isRefused 235 = .ok (.iconst (-1), 1) := by decide +kernel
theorem dL_isRefused_236 : decode cL_isRefused 236 = .ok (.iload_n 2, 1) := by decide +kernel
theorem dL_isRefused_237 : decode cL_isRefused 237 = .ok (.bipush 30, 2) := by decide +kernel
theorem dL_isRefused_239 : decode cL_isRefused 239 = .ok (.irem, 1) := by decide +kernel
theorem dL_isRefused_240 : decode cL_isRefused 240 = .ok (.isub, 1) := by decide +kernel
theorem dL_isRefused_241 : decode cL_isRefused 241 = .ok (.goto 10, 3) := by decide +kernel
theorem dL_isRefused_244 : decode cL_isRefused 244 = .ok (.bipush 31, 2) := by decide +kernel
theorem dL_isRefused_246 : decode cL_isRefused 246 = .ok (.iload_n 2, 1) := by decide +kernel
theorem dL_isRefused_247 : decode cL_isRefused 247 = .ok (.bipush 30, 2) := by decide +kernel
theorem dL_isRefused_249 : decode cL_isRefused 249 = .ok (.irem, 1) := by decide +kernel
theorem dL_isRefused_250 : decode cL_isRefused 250 = .ok (.iadd, 1) := by decide +kernel
theorem dL_isRefused_251 : decode cL_isRefused 251 = .ok (.iconst 0, 1) := by decide +kernel
theorem dL_isRefused_252 : decode cL_isRefused 252 = .ok (.invokestatic 81, 3) := by decide +kernel
theorem dL_isRefused_255 : decode cL_isRefused 255 = .ok (.sipush (-982), 3) := by decide +kernel
theorem dL_isRefused_258 : decode cL_isRefused 258 = .ok (.if_icmp .ne 194, 3) := by decide +kernel
theorem dL_isRefused_261 : decode cL_isRefused 261 = .ok (.aload_n 0, 1) := by decide +kernel
theorem dL_isRefused_262 : decode cL_isRefused 262 = .ok (.iconst 3, 1) := by decide +kernel
theorem dL_isRefused_263 : decode cL_isRefused 263 = .ok (.iload 4, 2) := by decide +kernel
theorem dL_isRefused_265 : decode cL_isRefused 265 = .ok (.iconst (-1), 1) := by decide +kernel
theorem dL_isRefused_266 : decode cL_isRefused 266 = .ok (.invokestatic 81, 3) := by decide +kernel
theorem dL_isRefused_269 : decode cL_isRefused 269 = .ok (.sipush (-981), 3) := by decide +kernel
theorem dL_isRefused_272 : decode cL_isRefused 272 = .ok (.if_icmp .ne 180, 3) := by decide +kernel
theorem dL_isRefused_275 : decode cL_isRefused 275 = .ok (.aload_n 0, 1) := by decide +kernel
theorem dL_isRefused_276 : decode cL_isRefused 276 = .ok (.iconst 4, 1) := by decide +kernel
theorem dL_isRefused_277 : decode cL_isRefused 277 = .ok (.iload_n 3, 1) := by decide +kernel
theorem dL_isRefused_278 : decode cL_isRefused 278 = .ok (.ifCond .eq 7, 3) := by decide +kernel
theorem dL_isRefused_281 : decode cL_isRefused 281 = .ok (.iconst (-1), 1) := by decide +kernel
theorem dL_isRefused_282 : decode cL_isRefused 282 = .ok (.goto 5, 3) := by decide +kernel
theorem dL_isRefused_285 : decode cL_isRefused 285 = .ok (.bipush 31, 2) := by decide +kernel
theorem dL_isRefused_287 : decode cL_isRefused 287 = .ok (.iconst 0, 1) := by decide +kernel
theorem dL_isRefused_288 : decode cL_isRefused 288 = .ok (.invokestatic 81, 3) := by decide +kernel
theorem dL_isRefused_291 : decode cL_isRefused 291 = .ok (.sipush (-982), 3) := by decide +kernel
theorem dL_isRefused_294 : decode cL_isRefused 294 = .ok (.if_icmp .ne 158, 3) := by decide +kernel
theorem dL_isRefused_297 : decode cL_isRefused 297 = .ok (.aload_n 0, 1) := by decide +kernel
theorem dL_isRefused_298 : decode cL_isRefused 298 = .ok (.iconst 4, 1) := by decide +kernel
theorem dL_isRefused_299 : decode cL_isRefused 299 = .ok (.iconst 0, 1) := by decide +kernel
theorem dL_isRefused_300 : decode cL_isRefused 300 = .ok (.iload_n 3, 1) := by decide +kernel
theorem dL_isRefused_301 : decode cL_isRefused 301 = .ok (.ifCond .eq 12, 3) := by decide +kernel
theorem dL_isRefused_304 : decode cL_isRefused 304 = .ok (.iconst (-1), 1) := by decide +kernel
theorem dL_isRefused_305 : decode cL_isRefused 305 = .ok (.iload_n 2, 1) := by decide +kernel
theorem dL_isRefused_306 : decode cL_isRefused 306 = .ok (.bipush 30, 2) := by decide +kernel
theorem dL_isRefused_308 : decode cL_isRefused 308 = .ok (.irem, 1) := by decide +kernel
theorem dL_isRefused_309 : decode cL_isRefused 309 = .ok (.isub, 1) := by decide +kernel
theorem dL_isRefused_310 : decode cL_isRefused 310 = .ok (.goto 11, 3) := by decide +kernel
theorem dL_isRefused_313 : decode cL_isRefused 313 = .ok (.sipush 256, 3) := by decide +kernel
theorem dL_isRefused_316 : decode cL_isRefused 316 = .ok (.iload_n 2, 1) := by decide +kernel
theorem dL_isRefused_317 : decode cL_isRefused 317 = .ok (.bipush 30, 2) := by decide +kernel
theorem dL_isRefused_319 : decode cL_isRefused 319 = .ok (.irem, 1) := by decide +kernel
theorem dL_isRefused_320 : decode cL_isRefused 320 = .ok (.iadd, 1) := by decide +kernel
theorem dL_isRefused_321 : decode cL_isRefused 321 = .ok (.invokestatic 81, 3) := by decide +kernel
theorem dL_isRefused_324 : decode cL_isRefused 324 = .ok (.sipush (-982), 3) := by decide +kernel
theorem dL_isRefused_327 : decode cL_isRefused 327 = .ok (.if_icmp .ne 125, 3) := by decide +kernel
theorem dL_isRefused_330 : decode cL_isRefused 330 = .ok (.aload_n 0, 1) := by decide +kernel
theorem dL_isRefused_331 : decode cL_isRefused 331 = .ok (.iconst 5, 1) := by decide +kernel
theorem dL_isRefused_332 : decode cL_isRefused 332 = .ok (.iload_n 3, 1) := by decide +kernel
theorem dL_isRefused_333 : decode cL_isRefused 333 = .ok (.ifCond .eq 7, 3) := by decide +kernel
theorem dL_isRefused_336 : decode cL_isRefused 336 = .ok (.iconst (-1), 1) := by decide +kernel
theorem dL_isRefused_337 : decode cL_isRefused 337 = .ok (.goto 4, 3) := by decide +kernel
theorem dL_isRefused_340 : decode cL_isRefused 340 = .ok (.iconst 3, 1) := by decide +kernel
theorem dL_isRefused_341 : decode cL_isRefused 341 = .ok (.iconst 0, 1) := by decide +kernel
theorem dL_isRefused_342 : decode cL_isRefused 342 = .ok (.invokestatic 81, 3) := by decide +kernel
theorem dL_isRefused_345 : decode cL_isRefused 345 = .ok (.sipush (-982), 3) := by decide +kernel
theorem dL_isRefused_348 : decode cL_isRefused 348 = .ok (.if_icmp .ne 104, 3) := by decide +kernel
theorem dL_isRefused_351 : decode cL_isRefused 351 = .ok (.aload_n 0, 1) := by decide +kernel
theorem dL_isRefused_352 : decode cL_isRefused 352 = .ok (.bipush 6, 2) := by decide +kernel
theorem dL_isRefused_354 : decode cL_isRefused 354 = .ok (.iload_n 3, 1) := by decide +kernel
theorem dL_isRefused_355 : decode cL_isRefused 355 = .ok (.ifCond .eq 7, 3) := by decide +kernel
theorem dL_isRefused_358 : decode cL_isRefused 358 = .ok (.iconst (-1), 1) := by decide +kernel
theorem dL_isRefused_359 : decode cL_isRefused 359 = .ok (.goto 4, 3) := by decide +kernel
theorem dL_isRefused_362 : decode cL_isRefused 362 = .ok (.iconst 3, 1) := by decide +kernel
theorem dL_isRefused_363 : decode cL_isRefused 363 = .ok (.iconst 0, 1) := by decide +kernel
theorem dL_isRefused_364 : decode cL_isRefused 364 = .ok (.invokestatic 81, 3) := by decide +kernel
theorem dL_isRefused_367 : decode cL_isRefused 367 = .ok (.sipush (-982), 3) := by decide +kernel
theorem dL_isRefused_370 : decode cL_isRefused 370 = .ok (.if_icmp .ne 82, 3) := by decide +kernel
theorem dL_isRefused_373 : decode cL_isRefused 373 = .ok (.aload_n 0, 1) := by decide +kernel
theorem dL_isRefused_374 : decode cL_isRefused 374 = .ok (.bipush 7, 2) := by decide +kernel
theorem dL_isRefused_376 : decode cL_isRefused 376 = .ok (.iload_n 3, 1) := by decide +kernel
theorem dL_isRefused_377 : decode cL_isRefused 377 = .ok (.ifCond .eq 12, 3) := by decide +kernel
theorem dL_isRefused_380 : decode cL_isRefused 380 = .ok (.iconst 0, 1) := by decide +kernel
theorem dL_isRefused_381 : decode cL_isRefused 381 = .ok (.iload_n 2, 1) := by decide +kernel
theorem dL_isRefused_382 : decode cL_isRefused 382 = .ok (.bipush 30, 2) := by decide +kernel
theorem dL_isRefused_384 : decode cL_isRefused 384 = .ok (.irem, 1) := by decide +kernel
theorem dL_isRefused_385 : decode cL_isRefused 385 = .ok (.isub, 1) := by decide +kernel
theorem dL_isRefused_386 : decode cL_isRefused 386 = .ok (.goto 6, 3) := by decide +kernel
theorem dL_isRefused_389 : decode cL_isRefused 389 = .ok (.sipush 366, 3) := by decide +kernel
theorem dL_isRefused_392 : decode cL_isRefused 392 = .ok (.iconst 0, 1) := by decide +kernel
theorem dL_isRefused_393 : decode cL_isRefused 393 = .ok (.invokestatic 81, 3) := by decide +kernel
theorem dL_isRefused_396 : decode cL_isRefused 396 = .ok (.sipush (-982), 3) := by decide +kernel
theorem dL_isRefused_399 : decode cL_isRefused 399 = .ok (.if_icmp .ne 53, 3) := by decide +kernel
theorem dL_isRefused_402 : decode cL_isRefused 402 = .ok (.aload_n 0, 1) := by decide +kernel
theorem dL_isRefused_403 : decode cL_isRefused 403 = .ok (.bipush 8, 2) := by decide +kernel
theorem dL_isRefused_405 : decode cL_isRefused 405 = .ok (.iload_n 3, 1) := by decide +kernel
theorem dL_isRefused_406 : decode cL_isRefused 406 = .ok (.ifCond .eq 7, 3) := by decide +kernel
theorem dL_isRefused_409 : decode cL_isRefused 409 = .ok (.iconst 0, 1) := by decide +kernel
theorem dL_isRefused_410 : decode cL_isRefused 410 = .ok (.goto 5, 3) := by decide +kernel
theorem dL_isRefused_413 : decode cL_isRefused 413 = .ok (.bipush 21, 2) := by decide +kernel
theorem dL_isRefused_415 : decode cL_isRefused 415 = .ok (.iconst 0, 1) := by decide +kernel
theorem dL_isRefused_416 : decode cL_isRefused 416 = .ok (.invokestatic 81, 3) := by decide +kernel
theorem dL_isRefused_419 : decode cL_isRefused 419 = .ok (.sipush (-982), 3) := by decide +kernel
theorem dL_isRefused_422 : decode cL_isRefused 422 = .ok (.if_icmp .ne 30, 3) := by decide +kernel
theorem dL_isRefused_425 : decode cL_isRefused 425 = .ok (.aload_n 0, 1) := by decide +kernel
theorem dL_isRefused_426 : decode cL_isRefused 426 = .ok (.bipush 8, 2) := by decide +kernel
theorem dL_isRefused_428 : decode cL_isRefused 428 = .ok (.iconst 1, 1) := by decide +kernel
theorem dL_isRefused_429 : decode cL_isRefused 429 = .ok (.iload_n 3, 1) := by decide +kernel
theorem dL_isRefused_430 : decode cL_isRefused 430 = .ok (.ifCond .eq 7, 3) := by decide +kernel
theorem dL_isRefused_433 : decode cL_isRefused 433 = .ok (.iconst (-1), 1) := by decide +kernel
theorem dL_isRefused_434 : decode cL_isRefused 434 = .ok (.goto 5, 3) := by decide +kernel
theorem dL_isRefused_437 : decode cL_isRefused 437 = .ok (.bipush 21, 2) := by decide +kernel
theorem dL_isRefused_439 : decode cL_isRefused 439 = .ok (.invokestatic 81, 3) := by decide +kernel
theorem dL_isRefused_442 : decode cL_isRefused 442 = .ok (.sipush (-982), 3) := by decide +kernel
theorem dL_isRefused_445 : decode cL_isRefused 445 = .ok (.if_icmp .ne 7, 3) := by decide +kernel
theorem dL_isRefused_448 : decode cL_isRefused 448 = .ok (.iconst 1, 1) := by decide +kernel
theorem dL_isRefused_449 : decode cL_isRefused 449 = .ok (.goto 4, 3) := by decide +kernel
theorem dL_isRefused_452 : decode cL_isRefused 452 = .ok (.iconst 0, 1) := by decide +kernel
theorem dL_isRefused_453 : decode cL_isRefused 453 = .ok (.istore 8, 2) := by decide +kernel
theorem dL_isRefused_455 : decode cL_isRefused 455 = .ok (.iload 8, 2) := by decide +kernel
theorem dL_isRefused_457 : decode cL_isRefused 457 = .ok (.ifCond .eq 208, 3) := by decide +kernel
theorem dL_isRefused_460 : decode cL_isRefused 460 = .ok (.aload_n 0, 1) := by decide +kernel
theorem dL_isRefused_461 : decode cL_isRefused 461 = .ok (.iconst 0, 1) := by decide +kernel
theorem dL_isRefused_462 : decode cL_isRefused 462 = .ok (.iload_n 3, 1) := by decide +kernel
theorem dL_isRefused_463 : decode cL_isRefused 463 = .ok (.ifCond .eq 7, 3) := by decide +kernel
theorem dL_isRefused_466 : decode cL_isRefused 466 = .ok (.iconst (-1), 1) := by decide +kernel
theorem dL_isRefused_467 : decode cL_isRefused 467 = .ok (.goto 5, 3) := by decide +kernel
theorem dL_isRefused_470 : decode cL_isRefused 470 = .ok (.bipush 8, 2) := by decide +kernel
theorem dL_isRefused_472 : decode cL_isRefused 472 = .ok (.iconst 0, 1) := by decide +kernel
theorem dL_isRefused_473 : decode cL_isRefused 473 = .ok (.iconst 1, 1) := by decide +kernel
theorem dL_isRefused_474 : decode cL_isRefused 474 = .ok (.invokestatic 102, 3) := by decide +kernel
theorem dL_isRefused_477 : decode cL_isRefused 477 = .ok (.sipush (-982), 3) := by decide +kernel
theorem dL_isRefused_480 : decode cL_isRefused 480 = .ok (.if_icmp .ne 185, 3) := by decide +kernel
theorem dL_isRefused_483 : decode cL_isRefused 483 = .ok (.aload_n 0, 1) := by decide +kernel
theorem dL_isRefused_484 : decode cL_isRefused 484 = .ok (.iconst 0, 1) := by decide +kernel
theorem dL_isRefused_485 : decode cL_isRefused 485 = .ok (.iconst 0, 1) := by decide +kernel
theorem dL_isRefused_486 : decode cL_isRefused 486 = .ok (.iload_n 3, 1) := by decide +kernel
theorem dL_isRefused_487 : decode cL_isRefused 487 = .ok (.ifCond .eq 7, 3) := by decide +kernel
theorem dL_isRefused_490 : decode cL_isRefused 490 = .ok (.iconst (-1), 1) := by decide +kernel
theorem dL_isRefused_491 : decode cL_isRefused 491 = .ok (.goto 5, 3) := by decide +kernel
theorem dL_isRefused_494 : decode cL_isRefused 494 = .ok (.bipush 8, 2) := by decide +kernel
theorem dL_isRefused_496 : decode cL_isRefused 496 = .ok (.iconst 1, 1) := by decide +kernel
theorem dL_isRefused_497 : decode cL_isRefused 497 = .ok (.invokestatic 102, 3) := by decide +kernel
theorem dL_isRefused_500 : decode cL_isRefused 500 = .ok (.sipush (-982), 3) := by decide +kernel
theorem dL_isRefused_503 : decode cL_isRefused 503 = .ok (.if_icmp .ne 162, 3) := by decide +kernel
theorem dL_isRefused_506 : decode cL_isRefused 506 = .ok (.aload_n 0, 1) := by decide +kernel
theorem dL_isRefused_507 : decode cL_isRefused 507 = .ok (.iconst 1, 1) := by decide +kernel
theorem dL_isRefused_508 : decode cL_isRefused 508 = .ok (.iconst 0, 1) := by decide +kernel
theorem dL_isRefused_509 : decode cL_isRefused 509 = .ok (.iload_n 3, 1) := by decide +kernel
theorem dL_isRefused_510 : decode cL_isRefused 510 = .ok (.ifCond .eq 7, 3) := by decide +kernel
theorem dL_isRefused_513 : decode cL_isRefused 513 = .ok (.iconst 0, 1) := by decide +kernel
theorem dL_isRefused_514 : decode cL_isRefused 514 = .ok (.goto 5, 3) := by decide +kernel
theorem dL_isRefused_517 : decode cL_isRefused 517 = .ok (.bipush 21, 2) := by decide +kernel
theorem dL_isRefused_519 : decode cL_isRefused 519 = .ok (.iconst 0, 1) := by decide +kernel
theorem dL_isRefused_520 : decode cL_isRefused 520 = .ok (.invokestatic 102, 3) := by decide +kernel
theorem dL_isRefused_523 : decode cL_isRefused 523 = .ok (.sipush (-982), 3) := by decide +kernel
theorem dL_isRefused_526 : decode cL_isRefused 526 = .ok (.if_icmp .ne 139, 3) := by decide +kernel
theorem dL_isRefused_529 : decode cL_isRefused 529 = .ok (.aload_n 0, 1) := by decide +kernel
theorem dL_isRefused_530 : decode cL_isRefused 530 = .ok (.iconst 1, 1) := by decide +kernel
theorem dL_isRefused_531 : decode cL_isRefused 531 = .ok (.iconst 0, 1) := by decide +kernel
theorem dL_isRefused_532 : decode cL_isRefused 532 = .ok (.iconst 1, 1) := by decide +kernel
theorem dL_isRefused_533 : decode cL_isRefused 533 = .ok (.iload_n 3, 1) := by decide +kernel
theorem dL_isRefused_534 : decode cL_isRefused 534 = .ok (.ifCond .eq 7, 3) := by decide +kernel
theorem dL_isRefused_537 : decode cL_isRefused 537 = .ok (.iconst (-1), 1) := by decide +kernel
theorem dL_isRefused_538 : decode cL_isRefused 538 = .ok (.goto 5, 3) := by decide +kernel
theorem dL_isRefused_541 : decode cL_isRefused 541 = .ok (.bipush 21, 2) := by decide +kernel
theorem dL_isRefused_543 : decode cL_isRefused 543 = .ok (.invokestatic 102, 3) := by decide +kernel
theorem dL_isRefused_546 : decode cL_isRefused 546 = .ok (.sipush (-982), 3) := by decide +kernel
theorem dL_isRefused_549 : decode cL_isRefused 549 = .ok (.if_icmp .ne 116, 3) := by decide +kernel
theorem dL_isRefused_552 : decode cL_isRefused 552 = .ok (.aload_n 0, 1) := by decide +kernel
theorem dL_isRefused_553 : decode cL_isRefused 553 = .ok (.iconst 1, 1) := by decide +kernel
theorem dL_isRefused_554 : decode cL_isRefused 554 = .ok (.iconst 1, 1) := by decide +kernel
theorem dL_isRefused_555 : decode cL_isRefused 555 = .ok (.bipush 12, 2) := by decide +kernel
theorem dL_isRefused_557 : decode cL_isRefused 557 = .ok (.iload_n 2, 1) := by decide +kernel
theorem dL_isRefused_558 : decode cL_isRefused 558 = .ok (.bipush 19, 2) := by decide +kernel
theorem dL_isRefused_560 : decode cL_isRefused 560 = .ok (.irem, 1) := by decide +kernel
theorem dL_isRefused_561 : decode cL_isRefused 561 = .ok (.iadd, 1) := by decide +kernel
theorem dL_isRefused_562 : decode cL_isRefused 562 = .ok (.ishl, 1) := by decide +kernel
theorem dL_isRefused_563 : decode cL_isRefused 563 = .ok (.iconst 1, 1) := by decide +kernel
theorem dL_isRefused_564 : decode cL_isRefused 564 = .ok (.iconst 1, 1) := by decide +kernel
theorem dL_isRefused_565 : decode cL_isRefused 565 = .ok (.invokestatic 102, 3) := by decide +kernel
theorem dL_isRefused_568 : decode cL_isRefused 568 = .ok (.sipush (-982), 3) := by decide +kernel
theorem dL_isRefused_571 : decode cL_isRefused 571 = .ok (.if_icmp .ne 94, 3) := by decide +kernel
theorem dL_isRefused_574 : decode cL_isRefused 574 = .ok (.aload_n 0, 1) := by decide +kernel
theorem dL_isRefused_575 : decode cL_isRefused 575 = .ok (.iconst 1, 1) := by decide +kernel
theorem dL_isRefused_576 : decode cL_isRefused 576 = .ok (.iconst (-1), 1) := by decide +kernel
theorem dL_isRefused_577 : decode cL_isRefused 577 = .ok (.iload_n 2, 1) := by decide +kernel
theorem dL_isRefused_578 : decode cL_isRefused 578 = .ok (.bipush 30, 2) := by decide +kernel
theorem dL_isRefused_580 : decode cL_isRefused 580 = .ok (.irem, 1) := by decide +kernel
theorem dL_isRefused_581 : decode cL_isRefused 581 = .ok (.isub, 1) := by decide +kernel
theorem dL_isRefused_582 : decode cL_isRefused 582 = .ok (.iconst 1, 1) := by decide +kernel
theorem dL_isRefused_583 : decode cL_isRefused 583 = .ok (.iconst 1, 1) := by decide +kernel
theorem dL_isRefused_584 : decode cL_isRefused 584 = .ok (.invokestatic 102, 3) := by decide +kernel
theorem dL_isRefused_587 : decode cL_isRefused 587 = .ok (.sipush (-982), 3) := by decide +kernel
theorem dL_isRefused_590 : decode cL_isRefused 590 = .ok (.if_icmp .ne 75, 3) := by decide +kernel
theorem dL_isRefused_593 : decode cL_isRefused 593 = .ok (.aload_n 0, 1) := by decide +kernel
theorem dL_isRefused_594 : decode cL_isRefused 594 = .ok (.iconst 0, 1) := by decide +kernel
theorem dL_isRefused_595 : decode cL_isRefused 595 = .ok (.iload 4, 2) := by decide +kernel
theorem dL_isRefused_597 : decode cL_isRefused 597 = .ok (.iconst 0, 1) := by decide +kernel
theorem dL_isRefused_598 : decode cL_isRefused 598 = .ok (.iconst (-1), 1) := by decide +kernel
theorem dL_isRefused_599 : decode cL_isRefused 599 = .ok (.iconst 0, 1) := by decide +kernel
theorem dL_isRefused_600 : decode cL_isRefused 600 = .ok (.invokestatic 91, 3) := by decide +kernel
theorem dL_isRefused_603 : decode cL_isRefused 603 = .ok (.sipush (-981), 3) := by decide +kernel
theorem dL_isRefused_606 : decode cL_isRefused 606 = .ok (.if_icmp .ne 59, 3) := by decide +kernel
theorem dL_isRefused_609 : decode cL_isRefused 609 = .ok (.aload_n 0, 1) := by decide +kernel
theorem dL_isRefused_610 : decode cL_isRefused 610 = .ok (.iconst 0, 1) := by decide +kernel
theorem dL_isRefused_611 : decode cL_isRefused 611 = .ok (.iload 4, 2) := by decide +kernel
theorem dL_isRefused_613 : decode cL_isRefused 613 = .ok (.iload 4, 2) := by decide +kernel
theorem dL_isRefused_615 : decode cL_isRefused 615 = .ok (.iload 5, 2) := by decide +kernel
theorem dL_isRefused_617 : decode cL_isRefused 617 = .ok (.iconst 0, 1) := by decide +kernel
theorem dL_isRefused_618 : decode cL_isRefused 618 = .ok (.invokestatic 91, 3) := by decide +kernel
theorem dL_isRefused_621 : decode cL_isRefused 621 = .ok (.sipush (-981), 3) := by decide +kernel
theorem dL_isRefused_624 : decode cL_isRefused 624 = .ok (.if_icmp .ne 41, 3) := by decide +kernel
theorem dL_isRefused_627 : decode cL_isRefused 627 = .ok (.aload_n 0, 1) := by decide +kernel
theorem dL_isRefused_628 : decode cL_isRefused 628 = .ok (.iconst 1, 1) := by decide +kernel
theorem dL_isRefused_629 : decode cL_isRefused 629 = .ok (.iload 4, 2) := by decide +kernel
theorem dL_isRefused_631 : decode cL_isRefused 631 = .ok (.iconst 0, 1) := by decide +kernel
theorem dL_isRefused_632 : decode cL_isRefused 632 = .ok (.iconst 0, 1) := by decide +kernel
theorem dL_isRefused_633 : decode cL_isRefused 633 = .ok (.iconst (-1), 1) := by decide +kernel
theorem dL_isRefused_634 : decode cL_isRefused 634 = .ok (.invokestatic 91, 3) := by decide +kernel
theorem dL_isRefused_637 : decode cL_isRefused 637 = .ok (.sipush (-981), 3) := by decide +kernel
theorem dL_isRefused_640 : decode cL_isRefused 640 = .ok (.if_icmp .ne 25, 3) := by decide +kernel
theorem dL_isRefused_643 : decode cL_isRefused 643 = .ok (.aload_n 0, 1) := by decide +kernel
theorem dL_isRefused_644 : decode cL_isRefused 644 = .ok (.iconst 2, 1) := by decide +kernel
theorem dL_isRefused_645 : decode cL_isRefused 645 = .ok (.iload 4, 2) := by decide +kernel
theorem dL_isRefused_647 : decode cL_isRefused 647 = .ok (.iload 4, 2) := by decide +kernel
theorem dL_isRefused_649 : decode cL_isRefused 649 = .ok (.iload 5, 2) := by decide +kernel
theorem dL_isRefused_651 : decode cL_isRefused 651 = .ok (.iconst (-1), 1) := by decide +kernel
theorem dL_isRefused_652 : decode cL_isRefused 652 = .ok (.invokestatic 91, 3) := by decide +kernel
theorem dL_isRefused_655 : decode cL_isRefused 655 = .ok (.sipush (-981), 3) := by decide +kernel
theorem dL_isRefused_658 : decode cL_isRefused 658 = .ok (.if_icmp .ne 7, 3) := by decide +kernel
theorem dL_isRefused_661 : decode cL_isRefused 661 = .ok (.iconst 1, 1) := by decide +kernel
theorem dL_isRefused_662 : decode cL_isRefused 662 = .ok (.goto 4, 3) := by decide +kernel
theorem dL_isRefused_665 : decode cL_isRefused 665 = .ok (.iconst 0, 1) := by decide +kernel
theorem dL_isRefused_666 : decode cL_isRefused 666 = .ok (.istore 8, 2) := by decide +kernel
theorem dL_isRefused_668 : decode cL_isRefused 668 = .ok (.iload 8, 2) := by decide +kernel
theorem dL_isRefused_670 : decode cL_isRefused 670 = .ok (.ifCond .eq 18, 3) := by decide +kernel
theorem dL_isRefused_673 : decode cL_isRefused 673 = .ok (.aload_n 0, 1) := by decide +kernel
theorem dL_isRefused_674 : decode cL_isRefused 674 = .ok (.aload_n 1, 1) := by decide +kernel
theorem dL_isRefused_675 : decode cL_isRefused 675 = .ok (.invokestatic 109, 3) := by decide +kernel
theorem dL_isRefused_678 : decode cL_isRefused 678 = .ok (.lload 6, 2) := by decide +kernel
theorem dL_isRefused_680 : decode cL_isRefused 680 = .ok (.lcmp, 1) := by decide +kernel
theorem dL_isRefused_681 : decode cL_isRefused 681 = .ok (.ifCond .ne 7, 3) := by decide +kernel
theorem dL_isRefused_684 : decode cL_isRefused 684 = .ok (.iconst 1, 1) := by decide +kernel
theorem dL_isRefused_685 : decode cL_isRefused 685 = .ok (.goto 4, 3) := by decide +kernel
theorem dL_isRefused_688 : decode cL_isRefused 688 = .ok (.iconst 0, 1) := by decide +kernel
theorem dL_isRefused_689 : decode cL_isRefused 689 = .ok (.ireturn, 1) := by decide +kernel
