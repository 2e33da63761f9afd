theorem dL_dice_0 : decode cL_dice 0 = .ok (.iload_n 1, 1) := by decide +kernel
theorem dL_dice_1 : decode cL_dice 1 = .ok (.aload_n 0, 1) := by decide +kernel
theorem dL_dice_2 : decode cL_dice 2 = .ok (.arraylength, 1) := by decide +kernel
theorem dL_dice_3 : decode cL_dice 3 = .ok (.if_icmp .ge 9, 3) := by decide +kernel
theorem dL_dice_6 : decode cL_dice 6 = .ok (.aload_n 0, 1) := by decide +kernel
theorem dL_dice_7 : decode cL_dice 7 = .ok (.iload_n 1, 1) := by decide +kernel
theorem dL_dice_8 : decode cL_dice 8 = .ok (.iaload, 1) := by decide +kernel
theorem dL_dice_9 : decode cL_dice 9 = .ok (.goto 22, 3) := by decide +kernel
theorem dL_dice_12 : decode cL_dice 12 = .ok (.ldc 7, 2) := by decide +kernel
theorem dL_dice_14 : decode cL_dice 14 = .ok (.iload_n 1, 1) := by decide +kernel
theorem dL_dice_15 : decode cL_dice 15 = .ok (.sipush 157, 3) := by decide +kernel
theorem dL_dice_18 : decode cL_dice 18 = .ok (.iadd, 1) := by decide +kernel
theorem dL_dice_19 : decode cL_dice 19 = .ok (.imul, 1) := by decide +kernel
theorem dL_dice_20 : decode cL_dice 20 = .ok (.sipush 555, 3) := by decide +kernel
theorem dL_dice_23 : decode cL_dice 23 = .ok (.iload_n 1, 1) := by decide +kernel
theorem dL_dice_24 : decode cL_dice 24 = .ok (.imul, 1) := by decide +kernel
theorem dL_dice_25 : decode cL_dice 25 = .ok (.iload_n 1, 1) := by decide +kernel
theorem dL_dice_26 : decode cL_dice 26 = .ok (.imul, 1) := by decide +kernel
theorem dL_dice_27 : decode cL_dice 27 = .ok (.iadd, 1) := by decide +kernel
theorem dL_dice_28 : decode cL_dice 28 = .ok (.bipush 61, 2) := by decide +kernel
theorem dL_dice_30 : decode cL_dice 30 = .ok (.iadd, 1) := by decide +kernel
theorem dL_dice_31 : decode cL_dice 31 = .ok (.ldc 8, 2) := by decide +kernel
theorem dL_dice_33 : decode cL_dice 33 = .ok (.iand, 1) := by decide +kernel
theorem dL_dice_34 : decode cL_dice 34 = .ok (.ireturn, 1) := by decide +kernel
set_option maxRecDepth 20000 in
theorem ggL_add_X0_add : GoodIn wsL_add wsX0_add := goodIn_ca (goodIn_ca (goodIn_r _ [7, 8, 9, 10, 11, 12, 13, 14, 15, 16, 17, 18, 19, 20, 21, 6, 22, 23, 24, 25, 26, 27, 28, 29, 30, 31, 32, 33, 34, 35, 36, 37, 38, 39, 40] (by decide +kernel) (by decide +kernel)) (goodIn_sub (fun _ h => List.mem_cons_of_mem _ (List.mem_append_left _ (List.mem_append_right _ h))) (by decide +kernel))) (goodIn_sub (fun _ h => List.mem_cons_of_mem _ (List.mem_append_right _ h)) (by decide +kernel))
set_option maxRecDepth 20000 in
theorem gL_add_X0_add : GoodIn wsL_add (wsV RL 9 RX0 yX0_add wsX0_add) := goodIn_app (goodIn_of _ (by decide +kernel)) ggL_add_X0_add
theorem dL_add_0 : decode cL_add 0 = .ok (.aload_n 0, 1) := by decide +kernel
theorem dL_add_1 : decode cL_add 1 = .ok (.iload_n 1, 1) := by decide +kernel
theorem dL_add_2 : decode cL_add 2 = .ok (.iload_n 2, 1) := by decide +kernel
theorem dL_add_3 : decode cL_add 3 = .ok (.iload_n 3, 1) := by decide +kernel
theorem dL_add_4 : decode cL_add 4 = .ok (.iload 4, 2) := by decide +kernel
theorem dL_add_6 : decode cL_add 6 = .ok (.iload 5, 2) := by decide +kernel
theorem dL_add_8 : decode cL_add 8 = .ok (.invokevirtual 9, 3) := by decide +kernel
theorem dL_add_11 : decode cL_add 11 = .ok (.ireturn, 1) := by decide +kernel
theorem dL_add_12 : decode cL_add 12 = .ok (.astore 6, 2) := by decide +kernel
theorem dL_add_14 : decode cL_add 14 = .ok (.sipush (-982), 3) := by decide +kernel
theorem dL_add_17 : decode cL_add 17 = .ok (.ireturn, 1) := by decide +kernel
theorem dL_add_18 : decode cL_add 18 = .ok (.astore 6, 2) := by decide +kernel
theorem dL_add_20 : decode cL_add 20 = .ok (.sipush (-983), 3) := by decide +kernel
theorem dL_add_23 : decode cL_add 23 = .ok (.ireturn, 1) := by decide +kernel
set_option maxRecDepth 20000 in
theorem ggL_outfit_X0_isPossible : GoodIn wsL_outfit wsX0_isPossible := goodIn_ca (goodIn_ca (goodIn_r _ [8, 9, 10, 11, 12, 13, 14, 15, 7, 16, 17, 18, 19, 20, 21, 22, 23, 24, 25, 26, 27, 28, 29, 30, 31, 32, 33, 34, 35, 36, 37, 38, 39, 40, 41, 42, 43, 44, 45, 46, 47, 48, 49, 50, 51, 52, 53, 54, 55, 56, 103, 104, 105, 106, 107, 108, 109, 110, 111, 112, 113, 114] (by decide +kernel) (by decide +kernel)) (goodIn_sub (fun _ h => List.mem_cons_of_mem _ (List.mem_append_left _ (List.mem_append_left _ (List.mem_append_right _ h)))) (by decide +kernel))) (goodIn_sub (fun _ h => List.mem_cons_of_mem _ (List.mem_append_left _ (List.mem_append_right _ h))) (by decide +kernel))
set_option maxRecDepth 20000 in
theorem gL_outfit_X0_isPossible : GoodIn wsL_outfit (wsV RL 19 RX0 yX0_isPossible wsX0_isPossible) := goodIn_app (goodIn_of _ (by decide +kernel)) ggL_outfit_X0_isPossible
set_option maxRecDepth 20000 in
theorem ggL_outfit_X0_isTooSoon : GoodIn wsL_outfit wsX0_isTooSoon := goodIn_ca (goodIn_ca (goodIn_r _ [60, 9, 10, 11, 12, 13, 14, 15, 7, 16, 17, 18, 19, 20, 21, 22, 23, 24, 25, 26, 27, 28, 29, 30, 61, 62, 63, 64, 65, 66, 67, 68, 69, 70, 71, 72, 73, 74, 75, 103, 104, 105, 106, 107, 108, 109, 110, 111, 112, 113, 114] (by decide +kernel) (by decide +kernel)) (goodIn_sub (fun _ h => List.mem_cons_of_mem _ (List.mem_append_left _ (List.mem_append_left _ (List.mem_append_right _ h)))) (by decide +kernel))) (goodIn_sub (fun _ h => List.mem_cons_of_mem _ (List.mem_append_left _ (List.mem_append_right _ h))) (by decide +kernel))
set_option maxRecDepth 20000 in
theorem gL_outfit_X0_isTooSoon : GoodIn wsL_outfit (wsV RL 23 RX0 yX0_isTooSoon wsX0_isTooSoon) := goodIn_app (goodIn_of _ (by decide +kernel)) ggL_outfit_X0_isTooSoon
set_option maxRecDepth 20000 in
theorem ggL_outfit_X0_wear : GoodIn wsL_outfit wsX0_wear := goodIn_ca (goodIn_ca (goodIn_ca (goodIn_r _ [79, 9, 10, 11, 12, 80, 81, 13, 14, 15, 7, 16, 17, 18, 19, 20, 21, 22, 23, 24, 25, 26, 27, 28, 29, 30, 61, 62, 63, 64, 65, 66, 31, 32, 33, 34, 35, 36, 37, 38, 39, 40, 41, 42, 43, 44, 45, 46, 47, 48, 49, 50, 51, 52, 53, 54, 55, 56, 67, 68, 69, 70, 71, 72, 73, 74, 75, 82, 83, 84, 85, 86, 87, 88, 89, 90, 91, 92, 93, 94, 95, 96, 97, 98, 99, 100, 101, 102, 103, 104, 105, 106, 107, 108, 109, 110, 111, 112, 113, 114] (by decide +kernel) (by decide +kernel)) (goodIn_sub (fun _ h => List.mem_cons_of_mem _ (List.mem_append_left _ (List.mem_append_left _ (List.mem_append_right _ h)))) (by decide +kernel))) (goodIn_sub (fun _ h => List.mem_cons_of_mem _ (List.mem_append_left _ (List.mem_append_right _ h))) (by decide +kernel))) (goodIn_sub (fun _ h => List.mem_cons_of_mem _ (List.mem_append_right _ h)) (by decide +kernel))
set_option maxRecDepth 20000 in
theorem gL_outfit_X0_wear : GoodIn wsL_outfit (wsV RL 26 RX0 yX0_wear wsX0_wear) := goodIn_app (goodIn_of _ (by decide +kernel)) ggL_outfit_X0_wear
theorem dL_outfit_0 : decode cL_outfit 0 = .ok (.iload_n 1, 1) := by decide +kernel
theorem dL_outfit_1 : decode cL_outfit 1 = .ok (.ifCond .ne 22, 3) := by decide +kernel
theorem dL_outfit_4 : decode cL_outfit 4 = .ok (.aload_n 0, 1) := by decide +kernel
theorem dL_outfit_5 : decode cL_outfit 5 = .ok (.iload_n 2, 1) := by decide +kernel
theorem dL_outfit_6 : decode cL_outfit 6 = .ok (.iload_n 3, 1) := by decide +kernel
theorem dL_outfit_7 : decode cL_outfit 7 = .ok (.iload 4, 2) := by decide +kernel
theorem dL_outfit_9 : decode cL_outfit 9 = .ok (.invokevirtual 19, 3) := by decide +kernel
theorem dL_outfit_12 : decode cL_outfit 12 = .ok (.ifCond .eq 7, 3) := by decide +kernel
theorem dL_outfit_15 : decode cL_outfit 15 = .ok (.iconst 1, 1) := by decide +kernel
theorem dL_outfit_16 : decode cL_outfit 16 = .ok (.goto 41, 3) := by decide +kernel
theorem dL_outfit_19 : decode cL_outfit 19 = .ok (.iconst 0, 1) := by decide +kernel
theorem dL_outfit_20 : decode cL_outfit 20 = .ok (.goto 37, 3) := by decide +kernel
theorem dL_outfit_23 : decode cL_outfit 23 = .ok (.iload_n 1, 1) := by decide +kernel
theorem dL_outfit_24 : decode cL_outfit 24 = .ok (.iconst 1, 1) := by decide +kernel
theorem dL_outfit_25 : decode cL_outfit 25 = .ok (.if_icmp .ne 22, 3) := by decide +kernel
theorem dL_outfit_28 : decode cL_outfit 28 = .ok (.aload_n 0, 1) := by decide +kernel
theorem dL_outfit_29 : decode cL_outfit 29 = .ok (.iload_n 2, 1) := by decide +kernel
theorem dL_outfit_30 : decode cL_outfit 30 = .ok (.iload_n 3, 1) := by decide +kernel
theorem dL_outfit_31 : decode cL_outfit 31 = .ok (.iload 5, 2) := by decide +kernel
theorem dL_outfit_33 : decode cL_outfit 33 = .ok (.invokevirtual 23, 3) := by decide +kernel
theorem dL_outfit_36 : decode cL_outfit 36 = .ok (.ifCond .eq 7, 3) := by decide +kernel
theorem dL_outfit_39 : decode cL_outfit 39 = .ok (.iconst 1, 1) := by decide +kernel
theorem dL_outfit_40 : decode cL_outfit 40 = .ok (.goto 17, 3) := by decide +kernel
theorem dL_outfit_43 : decode cL_outfit 43 = .ok (.iconst 0, 1) := by decide +kernel
theorem dL_outfit_44 : decode cL_outfit 44 = .ok (.goto 13, 3) := by decide +kernel
theorem dL_outfit_47 : decode cL_outfit 47 = .ok (.aload_n 0, 1) := by decide +kernel
theorem dL_outfit_48 : decode cL_outfit 48 = .ok (.iload_n 2, 1) := by decide +kernel
theorem dL_outfit_49 : decode cL_outfit 49 = .ok (.iload_n 3, 1) := by decide +kernel
theorem dL_outfit_50 : decode cL_outfit 50 = .ok (.iload 4, 2) := by decide +kernel
theorem dL_outfit_52 : decode cL_outfit 52 = .ok (.iload 5, 2) := by decide +kernel
theorem dL_outfit_54 : decode cL_outfit 54 = .ok (.invokevirtual 26, 3) := by decide +kernel
theorem dL_outfit_57 : decode cL_outfit 57 = .ok (.ireturn, 1) := by decide +kernel
theorem dL_outfit_58 : decode cL_outfit 58 = .ok (.astore 6, 2) := by decide +kernel
theorem dL_outfit_60 : decode cL_outfit 60 = .ok (.sipush (-981), 3) := by decide +kernel
theorem dL_outfit_63 : decode cL_outfit 63 = .ok (.ireturn, 1) := by decide +kernel
theorem dL_outfit_64 : decode cL_outfit 64 = .ok (.astore 6, 2) := by decide +kernel
theorem dL_outfit_66 : decode cL_outfit 66 = .ok (.sipush (-982), 3) := by decide +kernel
theorem dL_outfit_69 : decode cL_outfit 69 = .ok (.ireturn, 1) := by decide +kernel
theorem dL_outfit_70 : decode cL_outfit 70 = .ok (.astore 6, 2) := by decide +kernel
theorem dL_outfit_72 : decode cL_outfit 72 = .ok (.sipush (-983), 3) := by decide +kernel
theorem dL_outfit_75 : decode cL_outfit 75 = .ok (.ireturn, 1) := by decide +kernel
set_option maxRecDepth 20000 in
theorem ggL_of_X0_giveAway : GoodIn wsL_of wsX0_giveAway := goodIn_ca (goodIn_r _ [8, 9, 10, 11, 12, 13, 14, 7, 15, 16, 17, 18, 19, 20, 21, 22, 186, 187, 188, 189, 190, 191, 192, 193, 194, 195, 196, 197] (by decide +kernel) (by decide +kernel)) (goodIn_sub (fun _ h => List.mem_cons_of_mem _ (List.mem_append_left _ (List.mem_append_left _ (List.mem_append_right _ h)))) (by decide +kernel))
set_option maxRecDepth 20000 in
theorem gL_of_X0_giveAway : GoodIn wsL_of (wsV RL 32 RX0 yX0_giveAway wsX0_giveAway) := goodIn_app (goodIn_of _ (by decide +kernel)) ggL_of_X0_giveAway
set_option maxRecDepth 20000 in
theorem ggL_of_X0_left : GoodIn wsL_of wsX0_left := goodIn_ca (goodIn_r _ [26, 9, 10, 27, 12, 13, 14, 7, 15, 11, 186, 187, 188, 189, 190, 191, 192, 193, 194, 195, 196, 197] (by decide +kernel) (by decide +kernel)) (goodIn_sub (fun _ h => List.mem_cons_of_mem _ (List.mem_append_left _ (List.mem_append_left _ (List.mem_append_right _ h)))) (by decide +kernel))
set_option maxRecDepth 20000 in
theorem gL_of_X0_left : GoodIn wsL_of (wsV RL 36 RX0 yX0_left wsX0_left) := goodIn_app (goodIn_of _ (by decide +kernel)) ggL_of_X0_left
set_option maxRecDepth 20000 in
theorem ggL_of_X0_outfits : GoodIn wsL_of wsX0_outfits := goodIn_ca (goodIn_r _ [31, 32, 33, 34, 35, 36, 7, 37, 38, 39, 40, 41, 42, 43, 44, 45, 46, 47, 48, 49, 50, 51, 52, 53, 27, 12, 13, 14, 15, 11, 54, 55, 56, 57, 58, 59, 60, 61, 62, 63, 64, 65, 66, 67, 68, 69, 70, 71, 72, 73, 74, 75, 76, 77, 78, 79, 80, 81, 82, 83, 186, 187, 188, 189, 190, 191, 192, 193, 194, 195, 196, 197] (by decide +kernel) (by decide +kernel)) (goodIn_sub (fun _ h => List.mem_cons_of_mem _ (List.mem_append_left _ (List.mem_append_right _ h))) (by decide +kernel))
set_option maxRecDepth 20000 in
theorem gL_of_X0_outfits : GoodIn wsL_of (wsV RL 39 RX0 yX0_outfits wsX0_outfits) := goodIn_app (goodIn_of _ (by decide +kernel)) ggL_of_X0_outfits
set_option maxRecDepth 20000 in
theorem ggL_of_X0_adds : GoodIn wsL_of wsX0_adds := goodIn_ca (goodIn_ca (goodIn_r _ [87, 9, 10, 32, 33, 34, 12, 13, 14, 7, 15, 11, 35, 36, 37, 38, 39, 40, 41, 42, 43, 44, 45, 46, 47, 48, 49, 50, 51, 52, 53, 27, 54, 55, 56, 57, 58, 59, 60, 61, 62, 63, 64, 65, 66, 67, 68, 69, 70, 71, 72, 73, 74, 75, 76, 77, 78, 79, 80, 81, 82, 83, 186, 187, 188, 189, 190, 191, 192, 193, 194, 195, 196, 197] (by decide +kernel) (by decide +kernel)) (goodIn_sub (fun _ h => List.mem_cons_of_mem _ (List.mem_append_left _ (List.mem_append_left _ (List.mem_append_right _ h)))) (by decide +kernel))) (goodIn_sub (fun _ h => List.mem_cons_of_mem _ (List.mem_append_left _ (List.mem_append_right _ h))) (by decide +kernel))
set_option maxRecDepth 20000 in
theorem gL_of_X0_adds : GoodIn wsL_of (wsV RL 42 RX0 yX0_adds wsX0_adds) := goodIn_app (goodIn_of _ (by decide +kernel)) ggL_of_X0_adds
set_option maxRecDepth 20000 in
theorem ggL_of_X0_outfitFor : GoodIn wsL_of wsX0_outfitFor := goodIn_ca (goodIn_r _ [91, 32, 33, 34, 35, 36, 7, 37, 38, 39, 40, 92, 93, 94, 45, 46, 47, 48, 49, 50, 51, 52, 53, 27, 12, 13, 14, 15, 11, 54, 55, 56, 57, 58, 59, 60, 61, 62, 63, 64, 65, 66, 67, 68, 69, 70, 95, 96, 97, 98, 99, 100, 101, 102, 103, 75, 76, 77, 78, 79, 80, 81, 82, 83, 71, 72, 73, 74, 186, 187, 188, 189, 190, 191, 192, 193, 194, 195, 196, 197] (by decide +kernel) (by decide +kernel)) (goodIn_sub (fun _ h => List.mem_cons_of_mem _ (List.mem_append_left _ (List.mem_append_right _ h))) (by decide +kernel))
set_option maxRecDepth 20000 in
theorem gL_of_X0_outfitFor : GoodIn wsL_of (wsV RL 46 RX0 yX0_outfitFor wsX0_outfitFor) := goodIn_app (goodIn_of _ (by decide +kernel)) ggL_of_X0_outfitFor
set_option maxRecDepth 20000 in
theorem ggL_of_X0_load : GoodIn wsL_of wsX0_load := goodIn_ca (goodIn_r _ [107, 32, 33, 34, 108, 109, 7, 110, 38, 39, 40, 111, 112, 113, 114, 115, 58, 12, 13, 14, 15, 11, 116, 117, 118, 119, 27, 186, 187, 188, 189, 190, 191, 192, 193, 194, 195, 196, 197] (by decide +kernel) (by decide +kernel)) (goodIn_sub (fun _ h => List.mem_cons_of_mem _ (List.mem_append_left _ (List.mem_append_right _ h))) (by decide +kernel))
set_option maxRecDepth 20000 in
theorem gL_of_X0_load : GoodIn wsL_of (wsV RL 49 RX0 yX0_load wsX0_load) := goodIn_app (goodIn_of _ (by decide +kernel)) ggL_of_X0_load
set_option maxRecDepth 20000 in
theorem ggL_of_X0_wash : GoodIn wsL_of wsX0_wash := goodIn_ca (goodIn_r _ [123, 32, 33, 108, 109, 7, 110, 38, 39, 40, 124, 125, 126, 127, 34, 27, 128, 111, 112, 113, 114, 115, 58, 12, 13, 14, 15, 11, 116, 117, 118, 119, 129, 130, 131, 132, 186, 187, 188, 189, 190, 191, 192, 193, 194, 195, 196, 197] (by decide +kernel) (by decide +kernel)) (goodIn_sub (fun _ h => List.mem_cons_of_mem _ (List.mem_append_left _ (List.mem_append_right _ h))) (by decide +kernel))
set_option maxRecDepth 20000 in
theorem gL_of_X0_wash : GoodIn wsL_of (wsV RL 53 RX0 yX0_wash wsX0_wash) := goodIn_app (goodIn_of _ (by decide +kernel)) ggL_of_X0_wash
set_option maxRecDepth 20000 in
theorem ggL_of_X0_pass : GoodIn wsL_of wsX0_pass := goodIn_ca (goodIn_ca (goodIn_r _ [136, 32, 33, 137, 138, 99, 38, 39, 7, 40, 186, 187, 188, 189, 190, 191, 192, 193, 194, 195, 196, 197] (by decide +kernel) (by decide +kernel)) (goodIn_sub (fun _ h => List.mem_cons_of_mem _ (List.mem_append_left _ (List.mem_append_right _ h))) (by decide +kernel))) (goodIn_sub (fun _ h => List.mem_cons_of_mem _ (List.mem_append_right _ h)) (by decide +kernel))
set_option maxRecDepth 20000 in
theorem gL_of_X0_pass : GoodIn wsL_of (wsV RL 56 RX0 yX0_pass wsX0_pass) := goodIn_app (goodIn_of _ (by decide +kernel)) ggL_of_X0_pass
set_option maxRecDepth 20000 in
theorem ggL_of_X0_bag : GoodIn wsL_of wsX0_bag := goodIn_ca (goodIn_r _ [142, 32, 33, 143, 144, 7, 145, 38, 39, 40, 146, 147, 148, 149, 150, 34, 151, 152, 153, 154, 155, 156, 157, 158, 159, 160, 161, 162, 53, 12, 13, 14, 15, 11, 54, 55, 56, 57, 58, 59, 60, 61, 62, 63, 64, 65, 66, 75, 76, 77, 78, 79, 80, 81, 82, 83, 163, 164, 165, 166, 116, 117, 118, 119, 27, 167, 168, 169, 170, 171, 172, 173, 174, 16, 17, 18, 19, 20, 21, 22, 175, 176, 177, 178, 179, 180, 181, 182, 183, 184, 185, 186, 187, 188, 189, 190, 191, 192, 193, 194, 195, 196, 197] (by decide +kernel) (by decide +kernel)) (goodIn_sub (fun _ h => List.mem_cons_of_mem _ (List.mem_append_left _ (List.mem_append_right _ h))) (by decide +kernel))
set_option maxRecDepth 20000 in
theorem gL_of_X0_bag : GoodIn wsL_of (wsV RL 59 RX0 yX0_bag wsX0_bag) := goodIn_app (goodIn_of _ (by decide +kernel)) ggL_of_X0_bag
theorem dL_of_0 : decode cL_of 0 = .ok (.iload_n 1, 1) := by decide +kernel
theorem dL_of_1 : decode cL_of 1 = .ok (.ifCond .ne 11, 3) := by decide +kernel
theorem dL_of_4 : decode cL_of 4 = .ok (.aload_n 0, 1) := by decide +kernel
theorem dL_of_5 : decode cL_of 5 = .ok (.iload_n 2, 1) := by decide +kernel
theorem dL_of_6 : decode cL_of 6 = .ok (.invokevirtual 32, 3) := by decide +kernel
theorem dL_of_9 : decode cL_of 9 = .ok (.goto 124, 3) := by decide +kernel
theorem dL_of_12 : decode cL_of 12 = .ok (.iload_n 1, 1) := by decide +kernel
theorem dL_of_13 : decode cL_of 13 = .ok (.iconst 1, 1) := by decide +kernel
theorem dL_of_14 : decode cL_of 14 = .ok (.if_icmp .ne 11, 3) := by decide +kernel
theorem dL_of_17 : decode cL_of 17 = .ok (.aload_n 0, 1) := by decide +kernel
theorem dL_of_18 : decode cL_of 18 = .ok (.iload_n 2, 1) := by decide +kernel
theorem dL_of_19 : decode cL_of 19 = .ok (.invokevirtual 36, 3) := by decide +kernel
theorem dL_of_22 : decode cL_of 22 = .ok (.goto 111, 3) := by decide +kernel
theorem dL_of_25 : decode cL_of 25 = .ok (.iload_n 1, 1) := by decide +kernel
theorem dL_of_26 : decode cL_of 26 = .ok (.iconst 2, 1) := by decide +kernel
theorem dL_of_27 : decode cL_of 27 = .ok (.if_icmp .ne 11, 3) := by decide +kernel
theorem dL_of_30 : decode cL_of 30 = .ok (.aload_n 0, 1) := by decide +kernel
theorem dL_of_31 : decode cL_of 31 = .ok (.iload_n 2, 1) := by decide +kernel
theorem dL_of_32 : decode cL_of 32 = .ok (.invokevirtual 39, 3) := by decide +kernel
theorem dL_of_35 : decode cL_of 35 = .ok (.goto 98, 3) := by decide +kernel
theorem dL_of_38 : decode cL_of 38 = .ok (.iload_n 1, 1) := by decide +kernel
theorem dL_of_39 : decode cL_of 39 = .ok (.iconst 3, 1) := by decide +kernel
theorem dL_of_40 : decode cL_of 40 = .ok (.if_icmp .ne 12, 3) := by decide +kernel
theorem dL_of_43 : decode cL_of 43 = .ok (.aload_n 0, 1) := by decide +kernel
theorem dL_of_44 : decode cL_of 44 = .ok (.iload_n 2, 1) := by decide +kernel
theorem dL_of_45 : decode cL_of 45 = .ok (.iload_n 3, 1) := by decide +kernel
theorem dL_of_46 : decode cL_of 46 = .ok (.invokevirtual 42, 3) := by decide +kernel
theorem dL_of_49 : decode cL_of 49 = .ok (.goto 84, 3) := by decide +kernel
theorem dL_of_52 : decode cL_of 52 = .ok (.iload_n 1, 1) := by decide +kernel
theorem dL_of_53 : decode cL_of 53 = .ok (.iconst 4, 1) := by decide +kernel
theorem dL_of_54 : decode cL_of 54 = .ok (.if_icmp .ne 12, 3) := by decide +kernel
theorem dL_of_57 : decode cL_of 57 = .ok (.aload_n 0, 1) := by decide +kernel
theorem dL_of_58 : decode cL_of 58 = .ok (.iload_n 2, 1) := by decide +kernel
theorem dL_of_59 : decode cL_of 59 = .ok (.iload_n 3, 1) := by decide +kernel
theorem dL_of_60 : decode cL_of 60 = .ok (.invokevirtual 46, 3) := by decide +kernel
theorem dL_of_63 : decode cL_of 63 = .ok (.goto 70, 3) := by decide +kernel
theorem dL_of_66 : decode cL_of 66 = .ok (.iload_n 1, 1) := by decide +kernel
theorem dL_of_67 : decode cL_of 67 = .ok (.iconst 5, 1) := by decide +kernel
theorem dL_of_68 : decode cL_of 68 = .ok (.if_icmp .ne 21, 3) := by decide +kernel
theorem dL_of_71 : decode cL_of 71 = .ok (.aload_n 0, 1) := by decide +kernel
theorem dL_of_72 : decode cL_of 72 = .ok (.iload_n 2, 1) := by decide +kernel
theorem dL_of_73 : decode cL_of 73 = .ok (.iload_n 3, 1) := by decide +kernel
theorem dL_of_74 : decode cL_of 74 = .ok (.iconst 1, 1) := by decide +kernel
theorem dL_of_75 : decode cL_of 75 = .ok (.if_icmp .ne 7, 3) := by decide +kernel
theorem dL_of_78 : decode cL_of 78 = .ok (.iconst 1, 1) := by decide +kernel
theorem dL_of_79 : decode cL_of 79 = .ok (.goto 4, 3) := by decide +kernel
theorem dL_of_82 : decode cL_of 82 = .ok (.iconst 0, 1) := by decide +kernel
theorem dL_of_83 : decode cL_of 83 = .ok (.invokevirtual 49, 3) := by decide +kernel
theorem dL_of_86 : decode cL_of 86 = .ok (.goto 47, 3) := by decide +kernel
theorem dL_of_89 : decode cL_of 89 = .ok (.iload_n 1, 1) := by decide +kernel
theorem dL_of_90 : decode cL_of 90 = .ok (.bipush 6, 2) := by decide +kernel
theorem dL_of_92 : decode cL_of 92 = .ok (.if_icmp .ne 21, 3) := by decide +kernel
theorem dL_of_95 : decode cL_of 95 = .ok (.aload_n 0, 1) := by decide +kernel
theorem dL_of_96 : decode cL_of 96 = .ok (.iload_n 2, 1) := by decide +kernel
theorem dL_of_97 : decode cL_of 97 = .ok (.iload_n 3, 1) := by decide +kernel
theorem dL_of_98 : decode cL_of 98 = .ok (.iconst 1, 1) := by decide +kernel
theorem dL_of_99 : decode cL_of 99 = .ok (.if_icmp .ne 7, 3) := by decide +kernel
theorem dL_of_102 : decode cL_of 102 = .ok (.iconst 1, 1) := by decide +kernel
theorem dL_of_103 : decode cL_of 103 = .ok (.goto 4, 3) := by decide +kernel
theorem dL_of_106 : decode cL_of 106 = .ok (.iconst 0, 1) := by decide +kernel
theorem dL_of_107 : decode cL_of 107 = .ok (.invokevirtual 53, 3) := by decide +kernel
theorem dL_of_110 : decode cL_of 110 = .ok (.goto 23, 3) := by decide +kernel
theorem dL_of_113 : decode cL_of 113 = .ok (.iload_n 1, 1) := by decide +kernel
theorem dL_of_114 : decode cL_of 114 = .ok (.bipush 7, 2) := by decide +kernel
theorem dL_of_116 : decode cL_of 116 = .ok (.if_icmp .ne 11, 3) := by decide +kernel
theorem dL_of_119 : decode cL_of 119 = .ok (.aload_n 0, 1) := by decide +kernel
theorem dL_of_120 : decode cL_of 120 = .ok (.iload_n 2, 1) := by decide +kernel
theorem dL_of_121 : decode cL_of 121 = .ok (.invokevirtual 56, 3) := by decide +kernel
theorem dL_of_124 : decode cL_of 124 = .ok (.goto 9, 3) := by decide +kernel
theorem dL_of_127 : decode cL_of 127 = .ok (.aload_n 0, 1) := by decide +kernel
theorem dL_of_128 : decode cL_of 128 = .ok (.iload_n 2, 1) := by decide +kernel
theorem dL_of_129 : decode cL_of 129 = .ok (.iload_n 3, 1) := by decide +kernel
theorem dL_of_130 : decode cL_of 130 = .ok (.invokevirtual 59, 3) := by decide +kernel
theorem dL_of_133 : decode cL_of 133 = .ok (.ireturn, 1) := by decide +kernel
theorem dL_of_134 : decode cL_of 134 = .ok (.astore 4, 2) := by decide +kernel
theorem dL_of_136 : decode cL_of 136 = .ok (.sipush (-981), 3) := by decide +kernel
theorem dL_of_139 : decode cL_of 139 = .ok (.ireturn, 1) := by decide +kernel
theorem dL_of_140 : decode cL_of 140 = .ok (.astore 4, 2) := by decide +kernel
theorem dL_of_142 : decode cL_of 142 = .ok (.sipush (-982), 3) := by decide +kernel
theorem dL_of_145 : decode cL_of 145 = .ok (.ireturn, 1) := by decide +kernel
theorem dL_of_146 : decode cL_of 146 = .ok (.astore 4, 2) := by decide +kernel
theorem dL_of_148 : decode cL_of 148 = .ok (.sipush (-983), 3) := by decide +kernel
theorem dL_of_151 : decode cL_of 151 = .ok (.ireturn, 1) := by decide +kernel
set_option maxRecDepth 20000 in
theorem ggL_yes_X0_setClash : GoodIn wsL_yes wsX0_setClash := goodIn_ca (goodIn_r _ [6, 7, 8, 9, 10, 11, 12, 5, 13, 14, 15, 16, 17, 18, 19, 20, 21, 22, 23, 96, 97, 98, 99, 100, 101, 102, 103, 104, 105, 106, 107] (by decide +kernel) (by decide +kernel)) (goodIn_sub (fun _ h => List.mem_cons_of_mem _ (List.mem_append_right _ h)) (by decide +kernel))
set_option maxRecDepth 20000 in
theorem gL_yes_X0_setClash : GoodIn wsL_yes (wsV RL 62 RX0 yX0_setClash wsX0_setClash) := goodIn_app (goodIn_of _ (by decide +kernel)) ggL_yes_X0_setClash
set_option maxRecDepth 20000 in
theorem ggL_yes_X0_isEnough : GoodIn wsL_yes wsX0_isEnough := goodIn_ca (goodIn_r _ [27, 7, 8, 28, 29, 30, 5, 31, 14, 15, 16, 32, 33, 34, 35, 36, 37, 38, 39, 40, 41, 42, 43, 44, 45, 46, 47, 48, 49, 50, 51, 52, 53, 54, 55, 56, 57, 58, 59, 17, 18, 19, 20, 9, 21, 22, 23, 60, 61, 62, 63, 64, 65, 66, 67, 68, 69, 70, 71, 72, 73, 74, 75, 76, 77, 78, 79, 80, 81, 82, 83, 84, 85, 86, 87, 88, 89, 90, 91, 92, 93, 94, 95, 96, 97, 98, 99, 100, 101, 102, 103, 104, 105, 106, 107] (by decide +kernel) (by decide +kernel)) (goodIn_sub (fun _ h => List.mem_cons_of_mem _ (List.mem_append_right _ h)) (by decide +kernel))
set_option maxRecDepth 20000 in
theorem gL_yes_X0_isEnough : GoodIn wsL_yes (wsV RL 66 RX0 yX0_isEnough wsX0_isEnough) := goodIn_app (goodIn_of _ (by decide +kernel)) ggL_yes_X0_isEnough
theorem dL_yes_0 : decode cL_yes 0 = .ok (.iload_n 1, 1) := by decide +kernel
theorem dL_yes_1 : decode cL_yes 1 = .ok (.ifCond .ne 26, 3) := by decide +kernel
theorem dL_yes_4 : decode cL_yes 4 = .ok (.aload_n 0, 1) := by decide +kernel
theorem dL_yes_5 : decode cL_yes 5 = .ok (.iload_n 2, 1) := by decide +kernel
theorem dL_yes_6 : decode cL_yes 6 = .ok (.iload_n 3, 1) := by decide +kernel
theorem dL_yes_7 : decode cL_yes 7 = .ok (.iload 4, 2) := by decide +kernel
theorem dL_yes_9 : decode cL_yes 9 = .ok (.iconst 1, 1) := by decide +kernel
theorem dL_yes_10 : decode cL_yes 10 = .ok (.if_icmp .ne 7, 3) := by decide +kernel
theorem dL_yes_13 : decode cL_yes 13 = .ok (.iconst 1, 1) := by decide +kernel
theorem dL_yes_14 : decode cL_yes 14 = .ok (.goto 4, 3) := by decide +kernel
theorem dL_yes_17 : decode cL_yes 17 = .ok (.iconst 0, 1) := by decide +kernel
theorem dL_yes_18 : decode cL_yes 18 = .ok (.invokevirtual 62, 3) := by decide +kernel
theorem dL_yes_21 : decode cL_yes 21 = .ok (.ifCond .eq 21, 3) := by decide +kernel
theorem dL_yes_24 : decode cL_yes 24 = .ok (.goto 14, 3) := by decide +kernel
theorem dL_yes_27 : decode cL_yes 27 = .ok (.aload_n 0, 1) := by decide +kernel
theorem dL_yes_28 : decode cL_yes 28 = .ok (.iload_n 2, 1) := by decide +kernel
theorem dL_yes_29 : decode cL_yes 29 = .ok (.iload_n 3, 1) := by decide +kernel
theorem dL_yes_30 : decode cL_yes 30 = .ok (.iload 4, 2) := by decide +kernel
theorem dL_yes_32 : decode cL_yes 32 = .ok (.invokevirtual 66, 3) := by decide +kernel
theorem dL_yes_35 : decode cL_yes 35 = .ok (.ifCond .eq 7, 3) := by decide +kernel
theorem dL_yes_38 : decode cL_yes 38 = .ok (.iconst 1, 1) := by decide +kernel
theorem dL_yes_39 : decode cL_yes 39 = .ok (.goto 4, 3) := by decide +kernel
theorem dL_yes_42 : decode cL_yes 42 = .ok (.iconst 0, 1) := by decide +kernel
theorem dL_yes_43 : decode cL_yes 43 = .ok (.ireturn, 1) := by decide +kernel
theorem dL_yes_44 : decode cL_yes 44 = .ok (.astore 5, 2) := by decide +kernel
theorem dL_yes_46 : decode cL_yes 46 = .ok (.sipush (-982), 3) := by decide +kernel
theorem dL_yes_49 : decode cL_yes 49 = .ok (.ireturn, 1) := by decide +kernel
set_option maxRecDepth 20000 in
theorem ggL_all_X0_things : GoodIn wsL_all wsX0_things := goodIn_r _ [9, 10, 11, 12, 13, 14, 15, 16, 17, 198, 199, 200, 201, 202, 203, 204, 205, 206, 207, 208, 209] (by decide +kernel) (by decide +kernel)
set_option maxRecDepth 20000 in
theorem gL_all_X0_things : GoodIn wsL_all (wsV RL 69 RX0 yX0_things wsX0_things) := goodIn_app (goodIn_of _ (by decide +kernel)) ggL_all_X0_things
set_option maxRecDepth 20000 in
theorem ggL_all_X0_outfits : GoodIn wsL_all wsX0_outfits := goodIn_ca (goodIn_r _ [21, 22, 23, 24, 25, 26, 8, 27, 28, 29, 30, 31, 32, 33, 34, 35, 36, 37, 38, 39, 40, 41, 42, 43, 44, 45, 46, 47, 48, 10, 49, 50, 51, 52, 53, 54, 55, 56, 57, 58, 59, 60, 61, 62, 63, 64, 65, 66, 67, 68, 69, 70, 71, 72, 73, 74, 75, 76, 77, 78, 198, 199, 200, 201, 202, 203, 204, 205, 206, 207, 208, 209] (by decide +kernel) (by decide +kernel)) (goodIn_sub (fun _ h => List.mem_cons_of_mem _ (List.mem_append_left _ (List.mem_append_left _ (List.mem_append_right _ h)))) (by decide +kernel))
set_option maxRecDepth 20000 in
theorem gL_all_X0_outfits : GoodIn wsL_all (wsV RL 39 RX0 yX0_outfits wsX0_outfits) := goodIn_app (goodIn_of _ (by decide +kernel)) ggL_all_X0_outfits
set_option maxRecDepth 20000 in
theorem ggL_all_X0_outfitFor : GoodIn wsL_all wsX0_outfitFor := goodIn_ca (goodIn_r _ [82, 22, 23, 24, 25, 26, 8, 27, 28, 29, 30, 83, 84, 85, 35, 36, 37, 38, 39, 40, 41, 42, 43, 44, 45, 46, 47, 48, 10, 49, 50, 51, 52, 53, 54, 55, 56, 57, 58, 59, 60, 61, 62, 63, 64, 65, 86, 87, 88, 89, 90, 91, 92, 93, 94, 70, 71, 72, 73, 74, 75, 76, 77, 78, 66, 67, 68, 69, 198, 199, 200, 201, 202, 203, 204, 205, 206, 207, 208, 209] (by decide +kernel) (by decide +kernel)) (goodIn_sub (fun _ h => List.mem_cons_of_mem _ (List.mem_append_left _ (List.mem_append_left _ (List.mem_append_right _ h)))) (by decide +kernel))
set_option maxRecDepth 20000 in
theorem gL_all_X0_outfitFor : GoodIn wsL_all (wsV RL 46 RX0 yX0_outfitFor wsX0_outfitFor) := goodIn_app (goodIn_of _ (by decide +kernel)) ggL_all_X0_outfitFor
set_option maxRecDepth 20000 in
theorem ggL_all_L_of : GoodIn wsL_all wsL_of := goodIn_ca (goodIn_ca (goodIn_ca (goodIn_r _ [98, 99, 100, 101, 102, 103, 104, 8, 105, 106, 107, 10, 45, 46, 47, 48, 11, 12, 13, 14, 15, 16, 17, 108, 109, 110, 111, 44, 18, 19, 20, 21, 22, 23, 24, 25, 26, 27, 28, 29, 30, 31, 32, 33, 34, 35, 36, 37, 38, 39, 40, 41, 42, 43, 49, 50, 51, 52, 53, 54, 55, 56, 57, 58, 59, 60, 61, 62, 63, 64, 65, 66, 67, 68, 69, 70, 71, 72, 73, 74, 75, 76, 77, 78, 112, 113, 114, 115, 79, 80, 81, 82, 83, 84, 85, 86, 87, 88, 89, 90, 91, 92, 93, 94, 116, 117, 118, 119, 120, 121, 122, 123, 124, 125, 126, 127, 128, 129, 130, 131, 132, 133, 134, 135, 136, 137, 138, 139, 140, 141, 142, 143, 144, 145, 146, 147, 148, 149, 150, 151, 152, 153, 154, 155, 156, 157, 158, 159, 160, 161, 162, 163, 164, 165, 166, 167, 168, 169, 170, 171, 172, 173, 174, 175, 176, 177, 178, 179, 180, 181, 182, 183, 184, 185, 186, 187, 188, 189, 190, 191, 192, 193, 194, 195, 196, 197, 198, 199, 200, 201, 202, 203, 204, 205, 206, 207, 208, 209] (by decide +kernel) (by decide +kernel)) (goodIn_sub (fun _ h => List.mem_cons_of_mem _ (List.mem_append_left _ (List.mem_append_right _ h))) (by decide +kernel))) (goodIn_sub (fun _ h => List.mem_cons_of_mem _ (List.mem_append_left _ (List.mem_append_left _ (List.mem_append_right _ h)))) (by decide +kernel))) (goodIn_sub (fun _ h => List.mem_cons_of_mem _ (List.mem_append_right _ h)) (by decide +kernel))
set_option maxRecDepth 20000 in
theorem gL_all_L_of : GoodIn wsL_all (va_wsS RL 81 yL_of wsL_of) := goodIn_app (goodIn_of _ (by decide +kernel)) ggL_all_L_of
theorem dL_all_0 : decode cL_all 0 = .ok (.aload_n 0, 1) := by decide +kernel
theorem dL_all_1 : decode cL_all 1 = .ok (.invokevirtual 69, 3) := by decide +kernel
theorem dL_all_4 : decode cL_all 4 = .ok (.i2l, 1) := by decide +kernel
theorem dL_all_5 : decode cL_all 5 = .ok (.ldc2_w 73, 3) := by decide +kernel
theorem dL_all_8 : decode cL_all 8 = .ok (.aload_n 0, 1) := by decide +kernel
theorem dL_all_9 : decode cL_all 9 = .ok (.iconst 0, 1) := by decide +kernel
theorem dL_all_10 : decode cL_all 10 = .ok (.invokevirtual 39, 3) := by decide +kernel
theorem dL_all_13 : decode cL_all 13 = .ok (.i2l, 1) := by decide +kernel
theorem dL_all_14 : decode cL_all 14 = .ok (.lmul, 1) := by decide +kernel
theorem dL_all_15 : decode cL_all 15 = .ok (.ladd, 1) := by decide +kernel
theorem dL_all_16 : decode cL_all 16 = .ok (.ldc2_w 75, 3) := by decide +kernel
theorem dL_all_19 : decode cL_all 19 = .ok (.aload_n 0, 1) := by decide +kernel
theorem dL_all_20 : decode cL_all 20 = .ok (.bipush 9, 2) := by decide +kernel
theorem dL_all_22 : decode cL_all 22 = .ok (.invokevirtual 39, 3) := by decide +kernel
theorem dL_all_25 : decode cL_all 25 = .ok (.i2l, 1) := by decide +kernel
theorem dL_all_26 : decode cL_all 26 = .ok (.lmul, 1) := by decide +kernel
theorem dL_all_27 : decode cL_all 27 = .ok (.ladd, 1) := by decide +kernel
theorem dL_all_28 : decode cL_all 28 = .ok (.ldc2_w 77, 3) := by decide +kernel
theorem dL_all_31 : decode cL_all 31 = .ok (.aload_n 0, 1) := by decide +kernel
theorem dL_all_32 : decode cL_all 32 = .ok (.iconst 0, 1) := by decide +kernel
theorem dL_all_33 : decode cL_all 33 = .ok (.sipush 255, 3) := by decide +kernel
theorem dL_all_36 : decode cL_all 36 = .ok (.invokevirtual 46, 3) := by decide +kernel
theorem dL_all_39 : decode cL_all 39 = .ok (.i2l, 1) := by decide +kernel
theorem dL_all_40 : decode cL_all 40 = .ok (.lmul, 1) := by decide +kernel
theorem dL_all_41 : decode cL_all 41 = .ok (.ladd, 1) := by decide +kernel
theorem dL_all_42 : decode cL_all 42 = .ok (.lstore_n 2, 1) := by decide +kernel
theorem dL_all_43 : decode cL_all 43 = .ok (.iconst 0, 1) := by decide +kernel
theorem dL_all_44 : decode cL_all 44 = .ok (.istore 4, 2) := by decide +kernel
theorem dL_all_46 : decode cL_all 46 = .ok (.iload 4, 2) := by decide +kernel
theorem dL_all_48 : decode cL_all 48 = .ok (.aload_n 1, 1) := by decide +kernel
theorem dL_all_49 : decode cL_all 49 = .ok (.iconst 0, 1) := by decide +kernel
theorem dL_all_50 : decode cL_all 50 = .ok (.iaload, 1) := by decide +kernel
theorem dL_all_51 : decode cL_all 51 = .ok (.if_icmp .ge 25, 3) := by decide +kernel
theorem dL_all_54 : decode cL_all 54 = .ok (.ldc2_w 79, 3) := by decide +kernel
theorem dL_all_57 : decode cL_all 57 = .ok (.lload_n 2, 1) := by decide +kernel
theorem dL_all_58 : decode cL_all 58 = .ok (.lmul, 1) := by decide +kernel
theorem dL_all_59 : decode cL_all 59 = .ok (.aload_n 0, 1) := by decide +kernel
theorem dL_all_60 : decode cL_all 60 = .ok (.iconst 1, 1) := by decide +kernel
theorem dL_all_61 : decode cL_all 61 = .ok (.iload 4, 2) := by decide +kernel
theorem dL_all_63 : decode cL_all 63 = .ok (.iconst 0, 1) := by decide +kernel
theorem dL_all_64 : decode cL_all 64 = .ok (.invokestatic 81, 3) := by decide +kernel
theorem dL_all_67 : decode cL_all 67 = .ok (.i2l, 1) := by decide +kernel
theorem dL_all_68 : decode cL_all 68 = .ok (.ladd, 1) := by decide +kernel
theorem dL_all_69 : decode cL_all 69 = .ok (.lstore_n 2, 1) := by decide +kernel
theorem dL_all_70 : decode cL_all 70 = .ok (.iinc 4 1, 3) := by decide +kernel
theorem dL_all_73 : decode cL_all 73 = .ok (.goto (-27), 3) := by decide +kernel
theorem dL_all_76 : decode cL_all 76 = .ok (.lload_n 2, 1) := by decide +kernel
theorem dL_all_77 : decode cL_all 77 = .ok (.lreturn, 1) := by decide +kernel
theorem dL_isThing_0 : decode cL_isThing 0 = .ok (.iload_n 2, 1) := by decide +kernel
theorem dL_isThing_1 : decode cL_isThing 1 = .ok (.ifCond .lt 22, 3) := by decide +kernel
theorem dL_isThing_4 : decode cL_isThing 4 = .ok (.iload_n 2, 1) := by decide +kernel
theorem dL_isThing_5 : decode cL_isThing 5 = .ok (.aload_n 1, 1) := by decide +kernel
theorem dL_isThing_6 : decode cL_isThing 6 = .ok (.iconst 0, 1) := by decide +kernel
theorem dL_isThing_7 : decode cL_isThing 7 = .ok (.iaload, 1) := by decide +kernel
theorem dL_isThing_8 : decode cL_isThing 8 = .ok (.if_icmp .ge 15, 3) := by decide +kernel
theorem dL_isThing_11 : decode cL_isThing 11 = .ok (.aload_n 0, 1) := by decide +kernel
theorem dL_isThing_12 : decode cL_isThing 12 = .ok (.iconst 5, 1) := by decide +kernel
theorem dL_isThing_13 : decode cL_isThing 13 = .ok (.iload_n 2, 1) := by decide +kernel
theorem dL_isThing_14 : decode cL_isThing 14 = .ok (.imul, 1) := by decide +kernel
theorem dL_isThing_15 : decode cL_isThing 15 = .ok (.iaload, 1) := by decide +kernel
theorem dL_isThing_16 : decode cL_isThing 16 = .ok (.ifCond .lt 7, 3) := by decide +kernel
theorem dL_isThing_19 : decode cL_isThing 19 = .ok (.iconst 1, 1) := by decide +kernel
theorem dL_isThing_20 : decode cL_isThing 20 = .ok (.goto 4, 3) := by decide +kernel
theorem dL_isThing_23 : decode cL_isThing 23 = .ok (.iconst 0, 1) := by decide +kernel
theorem dL_isThing_24 : decode cL_isThing 24 = .ok (.ireturn, 1) := by decide +kernel
set_option maxRecDepth 20000 in
theorem ggL_areThings_L_of : GoodIn wsL_areThings wsL_of := goodIn_ca (goodIn_ca (goodIn_ca (goodIn_r _ [4, 5, 6, 7, 8, 9, 10, 11, 12, 13, 14, 15, 16, 17, 18, 19, 20, 21, 22, 23, 24, 25, 26, 27, 28, 29, 30, 31, 32, 33, 34, 35, 36, 37, 38, 39, 40, 41, 42, 43, 44, 45, 46, 47, 48, 49, 50, 51, 52, 53, 54, 55, 56, 57, 58, 59, 60, 61, 62, 63, 64, 65, 66, 67, 68, 69, 70, 71, 72, 73, 74, 75, 76, 77, 78, 79, 80, 81, 82, 83, 84, 85, 86, 87, 88, 89, 90, 91, 92, 93, 94, 95, 96, 97, 98, 99, 100, 101, 102, 103, 104, 105, 106, 107, 108, 109, 110, 111, 112, 113, 114, 115, 116, 117, 118, 119, 120, 121, 122, 123, 124, 125, 126, 127, 128, 129, 130, 131, 132, 133, 134, 135, 136, 137, 138, 139, 140, 141, 142, 143, 144, 145, 146, 147, 148, 149, 150, 151, 152, 153, 154, 155, 156, 157, 158, 159, 160, 161, 162, 163, 164, 165, 166, 167, 168, 169, 170, 171, 172, 173, 174, 175, 176, 177, 178, 179, 180, 181, 182, 183, 184, 185, 186, 187, 188, 189, 194, 195, 196, 197, 198, 199, 200, 201, 202, 203, 204, 205] (by decide +kernel) (by decide +kernel)) (goodIn_sub (fun _ h => List.mem_cons_of_mem _ (List.mem_append_left _ (List.mem_append_left _ (List.mem_append_right _ h)))) (by decide +kernel))) (goodIn_sub (fun _ h => List.mem_cons_of_mem _ (List.mem_append_left _ (List.mem_append_right _ h))) (by decide +kernel))) (goodIn_sub (fun _ h => List.mem_cons_of_mem _ (List.mem_append_right _ h)) (by decide +kernel))
set_option maxRecDepth 20000 in
theorem gL_areThings_L_of : GoodIn wsL_areThings (va_wsS RL 81 yL_of wsL_of) := goodIn_app (goodIn_of _ (by decide +kernel)) ggL_areThings_L_of
set_option maxRecDepth 20000 in
theorem ggL_areThings_X0_load : GoodIn wsL_areThings wsX0_load := goodIn_ca (goodIn_r _ [111, 36, 37, 38, 112, 113, 11, 114, 42, 43, 44, 115, 116, 117, 118, 119, 62, 16, 17, 18, 19, 15, 120, 121, 122, 123, 31, 194, 195, 196, 197, 198, 199, 200, 201, 202, 203, 204, 205] (by decide +kernel) (by decide +kernel)) (goodIn_sub (fun _ h => List.mem_cons_of_mem _ (List.mem_append_left _ (List.mem_append_right _ h))) (by decide +kernel))
set_option maxRecDepth 20000 in
theorem gL_areThings_X0_load : GoodIn wsL_areThings (wsV RL 49 RX0 yX0_load wsX0_load) := goodIn_app (goodIn_of _ (by decide +kernel)) ggL_areThings_X0_load
set_option maxRecDepth 20000 in
theorem ggL_areThings_X0_things : GoodIn wsL_areThings wsX0_things := goodIn_r _ [193, 15, 20, 21, 22, 23, 24, 25, 26, 194, 195, 196, 197, 198, 199, 200, 201, 202, 203, 204, 205] (by decide +kernel) (by decide +kernel)
set_option maxRecDepth 20000 in
theorem gL_areThings_X0_things : GoodIn wsL_areThings (wsV RL 69 RX0 yX0_things wsX0_things) := goodIn_app (goodIn_of _ (by decide +kernel)) ggL_areThings_X0_things
theorem dL_areThings_0 : decode cL_areThings 0 = .ok (.iconst 0, 1) := by decide +kernel
theorem dL_areThings_1 : decode cL_areThings 1 = .ok (.istore 4, 2) := by decide +kernel
theorem dL_areThings_3 : decode cL_areThings 3 = .ok (.iconst 1, 1) := by decide +kernel
theorem dL_areThings_4 : decode cL_areThings 4 = .ok (.istore 5, 2) := by decide +kernel
theorem dL_areThings_6 : decode cL_areThings 6 = .ok (.iconst 0, 1) := by decide +kernel
theorem dL_areThings_7 : decode cL_areThings 7 = .ok (.istore 6, 2) := by decide +kernel
theorem dL_areThings_9 : decode cL_areThings 9 = .ok (.iload 6, 2) := by decide +kernel
theorem dL_areThings_11 : decode cL_areThings 11 = .ok (.aload_n 3, 1) := by decide +kernel
theorem dL_areThings_12 : decode cL_areThings 12 = .ok (.iconst 0, 1) := by decide +kernel
theorem dL_areThings_13 : decode cL_areThings 13 = .ok (.iaload, 1) := by decide +kernel
theorem dL_areThings_14 : decode cL_areThings 14 = .ok (.if_icmp .ge 79, 3) := by decide +kernel
theorem dL_areThings_17 : decode cL_areThings 17 = .ok (.iload 5, 2) := by decide +kernel
theorem dL_areThings_19 : decode cL_areThings 19 = .ok (.ifCond .eq 74, 3) := by decide +kernel
theorem dL_areThings_22 : decode cL_areThings 22 = .ok (.iload 4, 2) := by decide +kernel
theorem dL_areThings_24 : decode cL_areThings 24 = .ok (.aload_n 1, 1) := by decide +kernel
theorem dL_areThings_25 : decode cL_areThings 25 = .ok (.iconst 5, 1) := by decide +kernel
theorem dL_areThings_26 : decode cL_areThings 26 = .ok (.iload 6, 2) := by decide +kernel
theorem dL_areThings_28 : decode cL_areThings 28 = .ok (.imul, 1) := by decide +kernel
theorem dL_areThings_29 : decode cL_areThings 29 = .ok (.iaload, 1) := by decide +kernel
theorem dL_areThings_30 : decode cL_areThings 30 = .ok (.ifCond .ge 7, 3) := by decide +kernel
theorem dL_areThings_33 : decode cL_areThings 33 = .ok (.iconst 0, 1) := by decide +kernel
theorem dL_areThings_34 : decode cL_areThings 34 = .ok (.goto 4, 3) := by decide +kernel
theorem dL_areThings_37 : decode cL_areThings 37 = .ok (.iconst 1, 1) := by decide +kernel
theorem dL_areThings_38 : decode cL_areThings 38 = .ok (.iadd, 1) := by decide +kernel
theorem dL_areThings_39 : decode cL_areThings 39 = .ok (.istore 4, 2) := by decide +kernel
theorem dL_areThings_41 : decode cL_areThings 41 = .ok (.aload_n 0, 1) := by decide +kernel
theorem dL_areThings_42 : decode cL_areThings 42 = .ok (.iconst 1, 1) := by decide +kernel
theorem dL_areThings_43 : decode cL_areThings 43 = .ok (.iload 6, 2) := by decide +kernel
theorem dL_areThings_45 : decode cL_areThings 45 = .ok (.iconst 0, 1) := by decide +kernel
theorem dL_areThings_46 : decode cL_areThings 46 = .ok (.invokestatic 81, 3) := by decide +kernel
theorem dL_areThings_49 : decode cL_areThings 49 = .ok (.aload_n 1, 1) := by decide +kernel
theorem dL_areThings_50 : decode cL_areThings 50 = .ok (.iconst 5, 1) := by decide +kernel
theorem dL_areThings_51 : decode cL_areThings 51 = .ok (.iload 6, 2) := by decide +kernel
theorem dL_areThings_53 : decode cL_areThings 53 = .ok (.imul, 1) := by decide +kernel
theorem dL_areThings_54 : decode cL_areThings 54 = .ok (.iaload, 1) := by decide +kernel
theorem dL_areThings_55 : decode cL_areThings 55 = .ok (.ifCond .ge 9, 3) := by decide +kernel
theorem dL_areThings_58 : decode cL_areThings 58 = .ok (.sipush (-981), 3) := by decide +kernel
theorem dL_areThings_61 : decode cL_areThings 61 = .ok (.goto 16, 3) := by decide +kernel
theorem dL_areThings_64 : decode cL_areThings 64 = .ok (.aload_n 1, 1) := by decide +kernel
theorem dL_areThings_65 : decode cL_areThings 65 = .ok (.iconst 5, 1) := by decide +kernel
theorem dL_areThings_66 : decode cL_areThings 66 = .ok (.iload 6, 2) := by decide +kernel
theorem dL_areThings_68 : decode cL_areThings 68 = .ok (.imul, 1) := by decide +kernel
theorem dL_areThings_69 : decode cL_areThings 69 = .ok (.iconst 3, 1) := by decide +kernel
theorem dL_areThings_70 : decode cL_areThings 70 = .ok (.iadd, 1) := by decide +kernel
theorem dL_areThings_71 : decode cL_areThings 71 = .ok (.iaload, 1) := by decide +kernel
theorem dL_areThings_72 : decode cL_areThings 72 = .ok (.aload_n 2, 1) := by decide +kernel
theorem dL_areThings_73 : decode cL_areThings 73 = .ok (.iload 6, 2) := by decide +kernel
theorem dL_areThings_75 : decode cL_areThings 75 = .ok (.iaload, 1) := by decide +kernel
theorem dL_areThings_76 : decode cL_areThings 76 = .ok (.isub, 1) := by decide +kernel
theorem dL_areThings_77 : decode cL_areThings 77 = .ok (.if_icmp .ne 7, 3) := by decide +kernel
theorem dL_areThings_80 : decode cL_areThings 80 = .ok (.iconst 1, 1) := by decide +kernel
theorem dL_areThings_81 : decode cL_areThings 81 = .ok (.goto 4, 3) := by decide +kernel
theorem dL_areThings_84 : decode cL_areThings 84 = .ok (.iconst 0, 1) := by decide +kernel
theorem dL_areThings_85 : decode cL_areThings 85 = .ok (.istore 5, 2) := by decide +kernel
theorem dL_areThings_87 : decode cL_areThings 87 = .ok (.iinc 6 1, 3) := by decide +kernel
theorem dL_areThings_90 : decode cL_areThings 90 = .ok (.goto (-81), 3) := by decide +kernel
theorem dL_areThings_93 : decode cL_areThings 93 = .ok (.iconst 0, 1) := by decide +kernel
theorem dL_areThings_94 : decode cL_areThings 94 = .ok (.istore 6, 2) := by decide +kernel
theorem dL_areThings_96 : decode cL_areThings 96 = .ok (.iload 6, 2) := by decide +kernel
theorem dL_areThings_98 : decode cL_areThings 98 = .ok (.bipush 6, 2) := by decide +kernel
theorem dL_areThings_100 : decode cL_areThings 100 = .ok (.if_icmp .ge 149, 3) := by decide +kernel
theorem dL_areThings_103 : decode cL_areThings 103 = .ok (.iload 5, 2) := by decide +kernel
theorem dL_areThings_105 : decode cL_areThings 105 = .ok (.ifCond .eq 144, 3) := by decide +kernel
theorem dL_areThings_108 : decode cL_areThings 108 = .ok (.iconst 0, 1) := by decide +kernel
theorem dL_areThings_109 : decode cL_areThings 109 = .ok (.istore 7, 2) := by decide +kernel
theorem dL_areThings_111 : decode cL_areThings 111 = .ok (.iconst 0, 1) := by decide +kernel
theorem dL_areThings_112 : decode cL_areThings 112 = .ok (.istore 8, 2) := by decide +kernel
theorem dL_areThings_114 : decode cL_areThings 114 = .ok (.iload 8, 2) := by decide +kernel
theorem dL_areThings_116 : decode cL_areThings 116 = .ok (.aload_n 3, 1) := by decide +kernel
theorem dL_areThings_117 : decode cL_areThings 117 = .ok (.iconst 0, 1) := by decide +kernel
theorem dL_areThings_118 : decode cL_areThings 118 = .ok (.iaload, 1) := by decide +kernel
theorem dL_areThings_119 : decode cL_areThings 119 = .ok (.if_icmp .ge 91, 3) := by decide +kernel
theorem dL_areThings_122 : decode cL_areThings 122 = .ok (.iload 7, 2) := by decide +kernel
theorem dL_areThings_124 : decode cL_areThings 124 = .ok (.aload_n 1, 1) := by decide +kernel
theorem dL_areThings_125 : decode cL_areThings 125 = .ok (.iconst 5, 1) := by decide +kernel
theorem dL_areThings_126 : decode cL_areThings 126 = .ok (.iload 8, 2) := by decide +kernel
theorem dL_areThings_128 : decode cL_areThings 128 = .ok (.imul, 1) := by decide +kernel
theorem dL_areThings_129 : decode cL_areThings 129 = .ok (.iaload, 1) := by decide +kernel
theorem dL_areThings_130 : decode cL_areThings 130 = .ok (.ifCond .lt 70, 3) := by decide +kernel
theorem dL_areThings_133 : decode cL_areThings 133 = .ok (.aload_n 1, 1) := by decide +kernel
theorem dL_areThings_134 : decode cL_areThings 134 = .ok (.iconst 5, 1) := by decide +kernel
theorem dL_areThings_135 : decode cL_areThings 135 = .ok (.iload 8, 2) := by decide +kernel
theorem dL_areThings_137 : decode cL_areThings 137 = .ok (.imul, 1) := by decide +kernel
theorem dL_areThings_138 : decode cL_areThings 138 = .ok (.iconst 4, 1) := by decide +kernel
theorem dL_areThings_139 : decode cL_areThings 139 = .ok (.iadd, 1) := by decide +kernel
theorem dL_areThings_140 : decode cL_areThings 140 = .ok (.iaload, 1) := by decide +kernel
theorem dL_areThings_141 : decode cL_areThings 141 = .ok (.iload 6, 2) := by decide +kernel
theorem dL_areThings_143 : decode cL_areThings 143 = .ok (.iconst 2, 1) := by decide +kernel
theorem dL_areThings_144 : decode cL_areThings 144 = .ok (.idiv, 1) := by decide +kernel
theorem dL_areThings_145 : decode cL_areThings 145 = .ok (.if_icmp .ne 55, 3) := by decide +kernel
theorem dL_areThings_148 : decode cL_areThings 148 = .ok (.aload_n 1, 1) := by decide +kernel
theorem dL_areThings_149 : decode cL_areThings 149 = .ok (.iconst 5, 1) := by decide +kernel
theorem dL_areThings_150 : decode cL_areThings 150 = .ok (.iload 8, 2) := by decide +kernel
theorem dL_areThings_152 : decode cL_areThings 152 = .ok (.imul, 1) := by decide +kernel
theorem dL_areThings_153 : decode cL_areThings 153 = .ok (.iconst 1, 1) := by decide +kernel
theorem dL_areThings_154 : decode cL_areThings 154 = .ok (.iadd, 1) := by decide +kernel
theorem dL_areThings_155 : decode cL_areThings 155 = .ok (.iaload, 1) := by decide +kernel
theorem dL_areThings_156 : decode cL_areThings 156 = .ok (.iconst 3, 1) := by decide +kernel
theorem dL_areThings_157 : decode cL_areThings 157 = .ok (.if_icmp .le 7, 3) := by decide +kernel
theorem dL_areThings_160 : decode cL_areThings 160 = .ok (.iconst 1, 1) := by decide +kernel
theorem dL_areThings_161 : decode cL_areThings 161 = .ok (.goto 4, 3) := by decide +kernel
theorem dL_areThings_164 : decode cL_areThings 164 = .ok (.iconst 0, 1) := by decide +kernel
theorem dL_areThings_165 : decode cL_areThings 165 = .ok (.iload 6, 2) := by decide +kernel
theorem dL_areThings_167 : decode cL_areThings 167 = .ok (.iconst 2, 1) := by decide +kernel
theorem dL_areThings_168 : decode cL_areThings 168 = .ok (.irem, 1) := by decide +kernel
theorem dL_areThings_169 : decode cL_areThings 169 = .ok (.iconst 1, 1) := by decide +kernel
theorem dL_areThings_170 : decode cL_areThings 170 = .ok (.if_icmp .ne 7, 3) := by decide +kernel
theorem dL_areThings_173 : decode cL_areThings 173 = .ok (.iconst 1, 1) := by decide +kernel
theorem dL_areThings_174 : decode cL_areThings 174 = .ok (.goto 4, 3) := by decide +kernel
theorem dL_areThings_177 : decode cL_areThings 177 = .ok (.iconst 0, 1) := by decide +kernel
theorem dL_areThings_178 : decode cL_areThings 178 = .ok (.if_icmp .ne 22, 3) := by decide +kernel
theorem dL_areThings_181 : decode cL_areThings 181 = .ok (.aload_n 2, 1) := by decide +kernel
theorem dL_areThings_182 : decode cL_areThings 182 = .ok (.iload 8, 2) := by decide +kernel
theorem dL_areThings_184 : decode cL_areThings 184 = .ok (.iaload, 1) := by decide +kernel
theorem dL_areThings_185 : decode cL_areThings 185 = .ok (.aload_n 1, 1) := by decide +kernel
theorem dL_areThings_186 : decode cL_areThings 186 = .ok (.iconst 5, 1) := by decide +kernel
theorem dL_areThings_187 : decode cL_areThings 187 = .ok (.iload 8, 2) := by decide +kernel
theorem dL_areThings_189 : decode cL_areThings 189 = .ok (.imul, 1) := by decide +kernel
theorem dL_areThings_190 : decode cL_areThings 190 = .ok (.iconst 3, 1) := by decide +kernel
theorem dL_areThings_191 : decode cL_areThings 191 = .ok (.iadd, 1) := by decide +kernel
theorem dL_areThings_192 : decode cL_areThings 192 = .ok (.iaload, 1) := by decide +kernel
theorem dL_areThings_193 : decode cL_areThings 193 = .ok (.if_icmp .ne 7, 3) := by decide +kernel
theorem dL_areThings_196 : decode cL_areThings 196 = .ok (.iconst 1, 1) := by decide +kernel
theorem dL_areThings_197 : decode cL_areThings 197 = .ok (.goto 4, 3) := by decide +kernel
theorem dL_areThings_200 : decode cL_areThings 200 = .ok (.iconst 0, 1) := by decide +kernel
theorem dL_areThings_201 : decode cL_areThings 201 = .ok (.iadd, 1) := by decide +kernel
theorem dL_areThings_202 : decode cL_areThings 202 = .ok (.istore 7, 2) := by decide +kernel
theorem dL_areThings_204 : decode cL_areThings 204 = .ok (.iinc 8 1, 3) := by decide +kernel
theorem dL_areThings_207 : decode cL_areThings 207 = .ok (.goto (-93), 3) := by decide +kernel
theorem dL_areThings_210 : decode cL_areThings 210 = .ok (.aload_n 0, 1) := by decide +kernel
theorem dL_areThings_211 : decode cL_areThings 211 = .ok (.iload 6, 2) := by decide +kernel
theorem dL_areThings_213 : decode cL_areThings 213 = .ok (.iconst 2, 1) := by decide +kernel
theorem dL_areThings_214 : decode cL_areThings 214 = .ok (.idiv, 1) := by decide +kernel
theorem dL_areThings_215 : decode cL_areThings 215 = .ok (.iload 6, 2) := by decide +kernel
theorem dL_areThings_217 : decode cL_areThings 217 = .ok (.iconst 2, 1) := by decide +kernel
theorem dL_areThings_218 : decode cL_areThings 218 = .ok (.irem, 1) := by decide +kernel
theorem dL_areThings_219 : decode cL_areThings 219 = .ok (.iconst 1, 1) := by decide +kernel
theorem dL_areThings_220 : decode cL_areThings 220 = .ok (.if_icmp .ne 7, 3) := by decide +kernel
theorem dL_areThings_223 : decode cL_areThings 223 = .ok (.iconst 1, 1) := by decide +kernel
theorem dL_areThings_224 : decode cL_areThings 224 = .ok (.goto 4, 3) := by decide +kernel
theorem dL_areThings_227 : decode cL_areThings 227 = .ok (.iconst 0, 1) := by decide +kernel
theorem dL_areThings_228 : decode cL_areThings 228 = .ok (.invokevirtual 49, 3) := by decide +kernel
theorem dL_areThings_231 : decode cL_areThings 231 = .ok (.iload 7, 2) := by decide +kernel
theorem dL_areThings_233 : decode cL_areThings 233 = .ok (.if_icmp .ne 7, 3) := by decide +kernel
theorem dL_areThings_236 : decode cL_areThings 236 = .ok (.iconst 1, 1) := by decide +kernel
theorem dL_areThings_237 : decode cL_areThings 237 = .ok (.goto 4, 3) := by decide +kernel
theorem dL_areThings_240 : decode cL_areThings 240 = .ok (.iconst 0, 1) := by decide +kernel
theorem dL_areThings_241 : decode cL_areThings 241 = .ok (.istore 5, 2) := by decide +kernel
theorem dL_areThings_243 : decode cL_areThings 243 = .ok (.iinc 6 1, 3) := by decide +kernel
theorem dL_areThings_246 : decode cL_areThings 246 = .ok (.goto (-150), 3) := by decide +kernel
theorem dL_areThings_249 : decode cL_areThings 249 = .ok (.iload 5, 2) := by decide +kernel
theorem dL_areThings_251 : decode cL_areThings 251 = .ok (.ifCond .eq 16, 3) := by decide +kernel
theorem dL_areThings_254 : decode cL_areThings 254 = .ok (.aload_n 0, 1) := by decide +kernel
theorem dL_areThings_255 : decode cL_areThings 255 = .ok (.invokevirtual 69, 3) := by decide +kernel
theorem dL_areThings_258 : decode cL_areThings 258 = .ok (.iload 4, 2) := by decide +kernel
theorem dL_areThings_260 : decode cL_areThings 260 = .ok (.if_icmp .ne 7, 3) := by decide +kernel
theorem dL_areThings_263 : decode cL_areThings 263 = .ok (.iconst 1, 1) := by decide +kernel
theorem dL_areThings_264 : decode cL_areThings 264 = .ok (.goto 4, 3) := by decide +kernel
theorem dL_areThings_267 : decode cL_areThings 267 = .ok (.iconst 0, 1) := by decide +kernel
theorem dL_areThings_268 : decode cL_areThings 268 = .ok (.ireturn, 1) := by decide +kernel
theorem dL_doClash_0 : decode cL_doClash 0 = .ok (.aload_n 1, 1) := by decide +kernel
theorem dL_doClash_1 : decode cL_doClash 1 = .ok (.aload_n 0, 1) := by decide +kernel
theorem dL_doClash_2 : decode cL_doClash 2 = .ok (.iconst 5, 1) := by decide +kernel
theorem dL_doClash_3 : decode cL_doClash 3 = .ok (.iload_n 2, 1) := by decide +kernel
theorem dL_doClash_4 : decode cL_doClash 4 = .ok (.imul, 1) := by decide +kernel
theorem dL_doClash_5 : decode cL_doClash 5 = .ok (.iconst 1, 1) := by decide +kernel
theorem dL_doClash_6 : decode cL_doClash 6 = .ok (.iadd, 1) := by decide +kernel
theorem dL_doClash_7 : decode cL_doClash 7 = .ok (.iaload, 1) := by decide +kernel
theorem dL_doClash_8 : decode cL_doClash 8 = .ok (.iaload, 1) := by decide +kernel
theorem dL_doClash_9 : decode cL_doClash 9 = .ok (.aload_n 0, 1) := by decide +kernel
theorem dL_doClash_10 : decode cL_doClash 10 = .ok (.iconst 5, 1) := by decide +kernel
theorem dL_doClash_11 : decode cL_doClash 11 = .ok (.iload_n 3, 1) := by decide +kernel
theorem dL_doClash_12 : decode cL_doClash 12 = .ok (.imul, 1) := by decide +kernel
theorem dL_doClash_13 : decode cL_doClash 13 = .ok (.iconst 1, 1) := by decide +kernel
theorem dL_doClash_14 : decode cL_doClash 14 = .ok (.iadd, 1) := by decide +kernel
theorem dL_doClash_15 : decode cL_doClash 15 = .ok (.iaload, 1) := by decide +kernel
theorem dL_doClash_16 : decode cL_doClash 16 = .ok (.ishr, 1) := by decide +kernel
theorem dL_doClash_17 : decode cL_doClash 17 = .ok (.iconst 1, 1) := by decide +kernel
theorem dL_doClash_18 : decode cL_doClash 18 = .ok (.iand, 1) := by decide +kernel
theorem dL_doClash_19 : decode cL_doClash 19 = .ok (.iconst 1, 1) := by decide +kernel
theorem dL_doClash_20 : decode cL_doClash 20 = .ok (.if_icmp .ne 7, 3) := by decide +kernel
theorem dL_doClash_23 : decode cL_doClash 23 = .ok (.iconst 1, 1) := by decide +kernel
theorem dL_doClash_24 : decode cL_doClash 24 = .ok (.goto 4, 3) := by decide +kernel
theorem dL_doClash_27 : decode cL_doClash 27 = .ok (.iconst 0, 1) := by decide +kernel
theorem dL_doClash_28 : decode cL_doClash 28 = .ok (.ireturn, 1) := by decide +kernel
set_option maxRecDepth 20000 in
theorem ggL_areOutfits_X0_outfitFor : GoodIn wsL_areOutfits wsX0_outfitFor := goodIn_ca (goodIn_r _ [5, 6, 7, 8, 9, 10, 4, 11, 12, 13, 14, 15, 16, 17, 18, 19, 20, 21, 22, 23, 24, 25, 26, 27, 28, 29, 30, 31, 32, 33, 34, 35, 36, 37, 38, 39, 40, 41, 42, 43, 44, 45, 46, 47, 48, 49, 50, 51, 52, 53, 54, 55, 56, 57, 58, 59, 60, 61, 62, 63, 64, 65, 66, 67, 68, 69, 70, 71, 137, 138, 139, 140, 141, 142, 143, 144, 145, 146, 147, 148] (by decide +kernel) (by decide +kernel)) (goodIn_sub (fun _ h => List.mem_cons_of_mem _ (List.mem_append_left _ (List.mem_append_left _ (List.mem_append_right _ h)))) (by decide +kernel))
set_option maxRecDepth 20000 in
theorem gL_areOutfits_X0_outfitFor : GoodIn wsL_areOutfits (wsV RL 46 RX0 yX0_outfitFor wsX0_outfitFor) := goodIn_app (goodIn_of _ (by decide +kernel)) ggL_areOutfits_X0_outfitFor
set_option maxRecDepth 20000 in
theorem ggL_areOutfits_L_doClash : GoodIn wsL_areOutfits wsL_doClash := goodIn_r _ [75] (by decide +kernel) (by decide +kernel)
set_option maxRecDepth 20000 in
theorem gL_areOutfits_L_doClash : GoodIn wsL_areOutfits (va_wsS RL 87 yL_doClash wsL_doClash) := goodIn_app (goodIn_of _ (by decide +kernel)) ggL_areOutfits_L_doClash
set_option maxRecDepth 20000 in
theorem ggL_areOutfits_L_outfit : GoodIn wsL_areOutfits wsL_outfit := goodIn_ca (goodIn_ca (goodIn_ca (goodIn_r _ [78, 79, 80, 81, 82, 83, 84, 4, 85, 86, 87, 6, 7, 88, 89, 90, 91, 28, 29, 30, 31, 32, 92, 93, 94, 95, 96, 97, 98, 99, 26, 18, 19, 20, 21, 22, 23, 24, 25, 27, 33, 34, 35, 36, 37, 38, 39, 40, 41, 42, 43, 44, 45, 46, 47, 48, 49, 100, 101, 102, 103, 15, 16, 17, 12, 13, 14, 50, 51, 52, 53, 54, 55, 56, 57, 58, 104, 105, 106, 107, 108, 109, 110, 111, 112, 113, 114, 115, 116, 117, 118, 119, 120, 121, 59, 60, 61, 62, 63, 64, 65, 66, 67, 137, 138, 139, 140, 141, 142, 143, 144, 145, 146, 147, 148] (by decide +kernel) (by decide +kernel)) (goodIn_sub (fun _ h => List.mem_cons_of_mem _ (List.mem_append_left _ (List.mem_append_right _ h))) (by decide +kernel))) (goodIn_sub (fun _ h => List.mem_cons_of_mem _ (List.mem_append_left _ (List.mem_append_left _ (List.mem_append_right _ h)))) (by decide +kernel))) (goodIn_sub (fun _ h => List.mem_cons_of_mem _ (List.mem_append_right _ h)) (by decide +kernel))
set_option maxRecDepth 20000 in
theorem gL_areOutfits_L_outfit : GoodIn wsL_areOutfits (va_wsS RL 91 yL_outfit wsL_outfit) := goodIn_app (goodIn_of _ (by decide +kernel)) ggL_areOutfits_L_outfit
set_option maxRecDepth 20000 in
theorem ggL_areOutfits_L_warmthOf : GoodIn wsL_areOutfits wsL_warmthOf := goodIn_r _ [124] (by decide +kernel) (by decide +kernel)
set_option maxRecDepth 20000 in
theorem gL_areOutfits_L_warmthOf : GoodIn wsL_areOutfits (va_wsS RL 95 yL_warmthOf wsL_warmthOf) := goodIn_app (goodIn_of _ (by decide +kernel)) ggL_areOutfits_L_warmthOf
set_option maxRecDepth 20000 in
theorem ggL_areOutfits_X0_adds : GoodIn wsL_areOutfits wsX0_adds := goodIn_ca (goodIn_ca (goodIn_r _ [128, 86, 87, 6, 7, 8, 28, 29, 30, 4, 31, 32, 9, 10, 11, 12, 13, 14, 129, 130, 131, 132, 18, 19, 20, 21, 22, 23, 24, 25, 26, 27, 33, 34, 35, 36, 37, 38, 39, 40, 41, 42, 43, 44, 45, 46, 47, 48, 49, 68, 69, 70, 71, 59, 60, 61, 62, 63, 64, 65, 66, 67, 137, 138, 139, 140, 141, 142, 143, 144, 145, 146, 147, 148] (by decide +kernel) (by decide +kernel)) (goodIn_sub (fun _ h => List.mem_cons_of_mem _ (List.mem_append_left _ (List.mem_append_right _ h))) (by decide +kernel))) (goodIn_sub (fun _ h => List.mem_cons_of_mem _ (List.mem_append_left _ (List.mem_append_left _ (List.mem_append_right _ h)))) (by decide +kernel))
set_option maxRecDepth 20000 in
theorem gL_areOutfits_X0_adds : GoodIn wsL_areOutfits (wsV RL 42 RX0 yX0_adds wsX0_adds) := goodIn_app (goodIn_of _ (by decide +kernel)) ggL_areOutfits_X0_adds
set_option maxRecDepth 20000 in
theorem ggL_areOutfits_X0_outfits : GoodIn wsL_areOutfits wsX0_outfits := goodIn_ca (goodIn_r _ [136, 6, 7, 8, 9, 10, 4, 11, 12, 13, 14, 129, 130, 131, 132, 18, 19, 20, 21, 22, 23, 24, 25, 26, 27, 28, 29, 30, 31, 32, 33, 34, 35, 36, 37, 38, 39, 40, 41, 42, 43, 44, 45, 46, 47, 48, 49, 68, 69, 70, 71, 59, 60, 61, 62, 63, 64, 65, 66, 67, 137, 138, 139, 140, 141, 142, 143, 144, 145, 146, 147, 148] (by decide +kernel) (by decide +kernel)) (goodIn_sub (fun _ h => List.mem_cons_of_mem _ (List.mem_append_left _ (List.mem_append_left _ (List.mem_append_right _ h)))) (by decide +kernel))
set_option maxRecDepth 20000 in
theorem gL_areOutfits_X0_outfits : GoodIn wsL_areOutfits (wsV RL 39 RX0 yX0_outfits wsX0_outfits) := goodIn_app (goodIn_of _ (by decide +kernel)) ggL_areOutfits_X0_outfits
theorem dL_areOutfits_0 : decode cL_areOutfits 0 = .ok (.iconst 0, 1) := by decide +kernel
theorem dL_areOutfits_1 : decode cL_areOutfits 1 = .ok (.istore 7, 2) := by decide +kernel
theorem dL_areOutfits_3 : decode cL_areOutfits 3 = .ok (.iconst 0, 1) := by decide +kernel
theorem dL_areOutfits_4 : decode cL_areOutfits 4 = .ok (.istore 8, 2) := by decide +kernel
theorem dL_areOutfits_6 : decode cL_areOutfits 6 = .ok (.aload_n 0, 1) := by decide +kernel
theorem dL_areOutfits_7 : decode cL_areOutfits 7 = .ok (.iload 5, 2) := by decide +kernel
theorem dL_areOutfits_9 : decode cL_areOutfits 9 = .ok (.iload 6, 2) := by decide +kernel
theorem dL_areOutfits_11 : decode cL_areOutfits 11 = .ok (.invokevirtual 46, 3) := by decide +kernel
theorem dL_areOutfits_14 : decode cL_areOutfits 14 = .ok (.istore 9, 2) := by decide +kernel
theorem dL_areOutfits_16 : decode cL_areOutfits 16 = .ok (.iload 9, 2) := by decide +kernel
theorem dL_areOutfits_18 : decode cL_areOutfits 18 = .ok (.iconst (-1), 1) := by decide +kernel
theorem dL_areOutfits_19 : decode cL_areOutfits 19 = .ok (.if_icmp .ne 7, 3) := by decide +kernel
theorem dL_areOutfits_22 : decode cL_areOutfits 22 = .ok (.iconst 1, 1) := by decide +kernel
theorem dL_areOutfits_23 : decode cL_areOutfits 23 = .ok (.goto 4, 3) := by decide +kernel
theorem dL_areOutfits_26 : decode cL_areOutfits 26 = .ok (.iconst 0, 1) := by decide +kernel
theorem dL_areOutfits_27 : decode cL_areOutfits 27 = .ok (.istore 10, 2) := by decide +kernel
theorem dL_areOutfits_29 : decode cL_areOutfits 29 = .ok (.iconst 1, 1) := by decide +kernel
theorem dL_areOutfits_30 : decode cL_areOutfits 30 = .ok (.istore 11, 2) := by decide +kernel
theorem dL_areOutfits_32 : decode cL_areOutfits 32 = .ok (.iconst 0, 1) := by decide +kernel
theorem dL_areOutfits_33 : decode cL_areOutfits 33 = .ok (.istore 12, 2) := by decide +kernel
theorem dL_areOutfits_35 : decode cL_areOutfits 35 = .ok (.iload 12, 2) := by decide +kernel
theorem dL_areOutfits_37 : decode cL_areOutfits 37 = .ok (.aload 4, 2) := by decide +kernel
theorem dL_areOutfits_39 : decode cL_areOutfits 39 = .ok (.iconst 0, 1) := by decide +kernel
theorem dL_areOutfits_40 : decode cL_areOutfits 40 = .ok (.iaload, 1) := by decide +kernel
theorem dL_areOutfits_41 : decode cL_areOutfits 41 = .ok (.if_icmp .ge 435, 3) := by decide +kernel
theorem dL_areOutfits_44 : decode cL_areOutfits 44 = .ok (.iload 11, 2) := by decide +kernel
theorem dL_areOutfits_46 : decode cL_areOutfits 46 = .ok (.ifCond .eq 430, 3) := by decide +kernel
theorem dL_areOutfits_49 : decode cL_areOutfits 49 = .ok (.iconst 0, 1) := by decide +kernel
theorem dL_areOutfits_50 : decode cL_areOutfits 50 = .ok (.istore 13, 2) := by decide +kernel
theorem dL_areOutfits_52 : decode cL_areOutfits 52 = .ok (.iload 13, 2) := by decide +kernel
theorem dL_areOutfits_54 : decode cL_areOutfits 54 = .ok (.aload 4, 2) := by decide +kernel
theorem dL_areOutfits_56 : decode cL_areOutfits 56 = .ok (.iconst 0, 1) := by decide +kernel
theorem dL_areOutfits_57 : decode cL_areOutfits 57 = .ok (.iaload, 1) := by decide +kernel
theorem dL_areOutfits_58 : decode cL_areOutfits 58 = .ok (.if_icmp .ge 412, 3) := by decide +kernel
theorem dL_areOutfits_61 : decode cL_areOutfits 61 = .ok (.iload 11, 2) := by decide +kernel
theorem dL_areOutfits_63 : decode cL_areOutfits 63 = .ok (.ifCond .eq 407, 3) := by decide +kernel
theorem dL_areOutfits_66 : decode cL_areOutfits 66 = .ok (.aload_n 1, 1) := by decide +kernel
theorem dL_areOutfits_67 : decode cL_areOutfits 67 = .ok (.iconst 5, 1) := by decide +kernel
theorem dL_areOutfits_68 : decode cL_areOutfits 68 = .ok (.iload 12, 2) := by decide +kernel
theorem dL_areOutfits_70 : decode cL_areOutfits 70 = .ok (.imul, 1) := by decide +kernel
theorem dL_areOutfits_71 : decode cL_areOutfits 71 = .ok (.iaload, 1) := by decide +kernel
theorem dL_areOutfits_72 : decode cL_areOutfits 72 = .ok (.ifCond .ne 398, 3) := by decide +kernel
theorem dL_areOutfits_75 : decode cL_areOutfits 75 = .ok (.iconst (-1), 1) := by decide +kernel
theorem dL_areOutfits_76 : decode cL_areOutfits 76 = .ok (.istore 14, 2) := by decide +kernel
theorem dL_areOutfits_78 : decode cL_areOutfits 78 = .ok (.iload 14, 2) := by decide +kernel
theorem dL_areOutfits_80 : decode cL_areOutfits 80 = .ok (.aload 4, 2) := by decide +kernel
theorem dL_areOutfits_82 : decode cL_areOutfits 82 = .ok (.iconst 0, 1) := by decide +kernel
theorem dL_areOutfits_83 : decode cL_areOutfits 83 = .ok (.iaload, 1) := by decide +kernel
theorem dL_areOutfits_84 : decode cL_areOutfits 84 = .ok (.if_icmp .ge 380, 3) := by decide +kernel
theorem dL_areOutfits_87 : decode cL_areOutfits 87 = .ok (.iload 11, 2) := by decide +kernel
theorem dL_areOutfits_89 : decode cL_areOutfits 89 = .ok (.ifCond .eq 375, 3) := by decide +kernel
theorem dL_areOutfits_92 : decode cL_areOutfits 92 = .ok (.aload_n 1, 1) := by decide +kernel
theorem dL_areOutfits_93 : decode cL_areOutfits 93 = .ok (.iconst 5, 1) := by decide +kernel
theorem dL_areOutfits_94 : decode cL_areOutfits 94 = .ok (.iload 13, 2) := by decide +kernel
theorem dL_areOutfits_96 : decode cL_areOutfits 96 = .ok (.imul, 1) := by decide +kernel
theorem dL_areOutfits_97 : decode cL_areOutfits 97 = .ok (.iaload, 1) := by decide +kernel
theorem dL_areOutfits_98 : decode cL_areOutfits 98 = .ok (.iconst 1, 1) := by decide +kernel
theorem dL_areOutfits_99 : decode cL_areOutfits 99 = .ok (.if_icmp .ne 365, 3) := by decide +kernel
theorem dL_areOutfits_102 : decode cL_areOutfits 102 = .ok (.iload 14, 2) := by decide +kernel
theorem dL_areOutfits_104 : decode cL_areOutfits 104 = .ok (.ifCond .lt 13, 3) := by decide +kernel
theorem dL_areOutfits_107 : decode cL_areOutfits 107 = .ok (.aload_n 1, 1) := by decide +kernel
theorem dL_areOutfits_108 : decode cL_areOutfits 108 = .ok (.iconst 5, 1) := by decide +kernel
theorem dL_areOutfits_109 : decode cL_areOutfits 109 = .ok (.iload 14, 2) := by decide +kernel
theorem dL_areOutfits_111 : decode cL_areOutfits 111 = .ok (.imul, 1) := by decide +kernel
theorem dL_areOutfits_112 : decode cL_areOutfits 112 = .ok (.iaload, 1) := by decide +kernel
theorem dL_areOutfits_113 : decode cL_areOutfits 113 = .ok (.iconst 2, 1) := by decide +kernel
theorem dL_areOutfits_114 : decode cL_areOutfits 114 = .ok (.if_icmp .ne 344, 3) := by decide +kernel
theorem dL_areOutfits_117 : decode cL_areOutfits 117 = .ok (.aload_n 2, 1) := by decide +kernel
theorem dL_areOutfits_118 : decode cL_areOutfits 118 = .ok (.iload 12, 2) := by decide +kernel
theorem dL_areOutfits_120 : decode cL_areOutfits 120 = .ok (.iaload, 1) := by decide +kernel
theorem dL_areOutfits_121 : decode cL_areOutfits 121 = .ok (.aload_n 1, 1) := by decide +kernel
theorem dL_areOutfits_122 : decode cL_areOutfits 122 = .ok (.iconst 5, 1) := by decide +kernel
theorem dL_areOutfits_123 : decode cL_areOutfits 123 = .ok (.iload 12, 2) := by decide +kernel
theorem dL_areOutfits_125 : decode cL_areOutfits 125 = .ok (.imul, 1) := by decide +kernel
theorem dL_areOutfits_126 : decode cL_areOutfits 126 = .ok (.iconst 3, 1) := by decide +kernel
theorem dL_areOutfits_127 : decode cL_areOutfits 127 = .ok (.iadd, 1) := by decide +kernel
theorem dL_areOutfits_128 : decode cL_areOutfits 128 = .ok (.iaload, 1) := by decide +kernel
theorem dL_areOutfits_129 : decode cL_areOutfits 129 = .ok (.if_icmp .ge 78, 3) := by decide +kernel
theorem dL_areOutfits_132 : decode cL_areOutfits 132 = .ok (.aload_n 2, 1) := by decide +kernel
theorem dL_areOutfits_133 : decode cL_areOutfits 133 = .ok (.iload 13, 2) := by decide +kernel
theorem dL_areOutfits_135 : decode cL_areOutfits 135 = .ok (.iaload, 1) := by decide +kernel
theorem dL_areOutfits_136 : decode cL_areOutfits 136 = .ok (.aload_n 1, 1) := by decide +kernel
theorem dL_areOutfits_137 : decode cL_areOutfits 137 = .ok (.iconst 5, 1) := by decide +kernel
theorem dL_areOutfits_138 : decode cL_areOutfits 138 = .ok (.iload 13, 2) := by decide +kernel
theorem dL_areOutfits_140 : decode cL_areOutfits 140 = .ok (.imul, 1) := by decide +kernel
theorem dL_areOutfits_141 : decode cL_areOutfits 141 = .ok (.iconst 3, 1) := by decide +kernel
theorem dL_areOutfits_142 : decode cL_areOutfits 142 = .ok (.iadd, 1) := by decide +kernel
theorem dL_areOutfits_143 : decode cL_areOutfits 143 = .ok (.iaload, 1) := by decide +kernel
theorem dL_areOutfits_144 : decode cL_areOutfits 144 = .ok (.if_icmp .ge 63, 3) := by decide +kernel
theorem dL_areOutfits_147 : decode cL_areOutfits 147 = .ok (.aload_n 1, 1) := by decide +kernel
theorem dL_areOutfits_148 : decode cL_areOutfits 148 = .ok (.aload_n 3, 1) := by decide +kernel
theorem dL_areOutfits_149 : decode cL_areOutfits 149 = .ok (.iload 12, 2) := by decide +kernel
theorem dL_areOutfits_151 : decode cL_areOutfits 151 = .ok (.iload 13, 2) := by decide +kernel
theorem dL_areOutfits_153 : decode cL_areOutfits 153 = .ok (.invokestatic 87, 3) := by decide +kernel
theorem dL_areOutfits_156 : decode cL_areOutfits 156 = .ok (.ifCond .ne 51, 3) := by decide +kernel
theorem dL_areOutfits_159 : decode cL_areOutfits 159 = .ok (.iload 14, 2) := by decide +kernel
theorem dL_areOutfits_161 : decode cL_areOutfits 161 = .ok (.ifCond .lt 42, 3) := by decide +kernel
theorem dL_areOutfits_164 : decode cL_areOutfits 164 = .ok (.aload_n 2, 1) := by decide +kernel
theorem dL_areOutfits_165 : decode cL_areOutfits 165 = .ok (.iload 14, 2) := by decide +kernel
theorem dL_areOutfits_167 : decode cL_areOutfits 167 = .ok (.iaload, 1) := by decide +kernel
theorem dL_areOutfits_168 : decode cL_areOutfits 168 = .ok (.aload_n 1, 1) := by decide +kernel
theorem dL_areOutfits_169 : decode cL_areOutfits 169 = .ok (.iconst 5, 1) := by decide +kernel
theorem dL_areOutfits_170 : decode cL_areOutfits 170 = .ok (.iload 14, 2) := by decide +kernel
theorem dL_areOutfits_172 : decode cL_areOutfits 172 = .ok (.imul, 1) := by decide +kernel
theorem dL_areOutfits_173 : decode cL_areOutfits 173 = .ok (.iconst 3, 1) := by decide +kernel
theorem dL_areOutfits_174 : decode cL_areOutfits 174 = .ok (.iadd, 1) := by decide +kernel
theorem dL_areOutfits_175 : decode cL_areOutfits 175 = .ok (.iaload, 1) := by decide +kernel
theorem dL_areOutfits_176 : decode cL_areOutfits 176 = .ok (.if_icmp .ge 31, 3) := by decide +kernel
theorem dL_areOutfits_179 : decode cL_areOutfits 179 = .ok (.aload_n 1, 1) := by decide +kernel
theorem dL_areOutfits_180 : decode cL_areOutfits 180 = .ok (.aload_n 3, 1) := by decide +kernel
theorem dL_areOutfits_181 : decode cL_areOutfits 181 = .ok (.iload 12, 2) := by decide +kernel
theorem dL_areOutfits_183 : decode cL_areOutfits 183 = .ok (.iload 14, 2) := by decide +kernel
theorem dL_areOutfits_185 : decode cL_areOutfits 185 = .ok (.invokestatic 87, 3) := by decide +kernel
theorem dL_areOutfits_188 : decode cL_areOutfits 188 = .ok (.ifCond .ne 19, 3) := by decide +kernel
theorem dL_areOutfits_191 : decode cL_areOutfits 191 = .ok (.aload_n 1, 1) := by decide +kernel
theorem dL_areOutfits_192 : decode cL_areOutfits 192 = .ok (.aload_n 3, 1) := by decide +kernel
theorem dL_areOutfits_193 : decode cL_areOutfits 193 = .ok (.iload 13, 2) := by decide +kernel
theorem dL_areOutfits_195 : decode cL_areOutfits 195 = .ok (.iload 14, 2) := by decide +kernel
theorem dL_areOutfits_197 : decode cL_areOutfits 197 = .ok (.invokestatic 87, 3) := by decide +kernel
theorem dL_areOutfits_200 : decode cL_areOutfits 200 = .ok (.ifCond .ne 7, 3) := by decide +kernel
theorem dL_areOutfits_203 : decode cL_areOutfits 203 = .ok (.iconst 1, 1) := by decide +kernel
theorem dL_areOutfits_204 : decode cL_areOutfits 204 = .ok (.goto 4, 3) := by decide +kernel
theorem dL_areOutfits_207 : decode cL_areOutfits 207 = .ok (.iconst 0, 1) := by decide +kernel
theorem dL_areOutfits_208 : decode cL_areOutfits 208 = .ok (.istore 15, 2) := by decide +kernel
theorem dL_areOutfits_210 : decode cL_areOutfits 210 = .ok (.aload_n 1, 1) := by decide +kernel
theorem dL_areOutfits_211 : decode cL_areOutfits 211 = .ok (.iconst 5, 1) := by decide +kernel
theorem dL_areOutfits_212 : decode cL_areOutfits 212 = .ok (.iload 12, 2) := by decide +kernel
theorem dL_areOutfits_214 : decode cL_areOutfits 214 = .ok (.imul, 1) := by decide +kernel
theorem dL_areOutfits_215 : decode cL_areOutfits 215 = .ok (.iconst 2, 1) := by decide +kernel
theorem dL_areOutfits_216 : decode cL_areOutfits 216 = .ok (.iadd, 1) := by decide +kernel
theorem dL_areOutfits_217 : decode cL_areOutfits 217 = .ok (.iaload, 1) := by decide +kernel
theorem dL_areOutfits_218 : decode cL_areOutfits 218 = .ok (.aload_n 1, 1) := by decide +kernel
theorem dL_areOutfits_219 : decode cL_areOutfits 219 = .ok (.iconst 5, 1) := by decide +kernel
theorem dL_areOutfits_220 : decode cL_areOutfits 220 = .ok (.iload 13, 2) := by decide +kernel
theorem dL_areOutfits_222 : decode cL_areOutfits 222 = .ok (.imul, 1) := by decide +kernel
theorem dL_areOutfits_223 : decode cL_areOutfits 223 = .ok (.iconst 2, 1) := by decide +kernel
theorem dL_areOutfits_224 : decode cL_areOutfits 224 = .ok (.iadd, 1) := by decide +kernel
theorem dL_areOutfits_225 : decode cL_areOutfits 225 = .ok (.iaload, 1) := by decide +kernel
theorem dL_areOutfits_226 : decode cL_areOutfits 226 = .ok (.iadd, 1) := by decide +kernel
theorem dL_areOutfits_227 : decode cL_areOutfits 227 = .ok (.iload 14, 2) := by decide +kernel
theorem dL_areOutfits_229 : decode cL_areOutfits 229 = .ok (.ifCond .ge 7, 3) := by decide +kernel
theorem dL_areOutfits_232 : decode cL_areOutfits 232 = .ok (.iconst 0, 1) := by decide +kernel
theorem dL_areOutfits_233 : decode cL_areOutfits 233 = .ok (.goto 11, 3) := by decide +kernel
theorem dL_areOutfits_236 : decode cL_areOutfits 236 = .ok (.aload_n 1, 1) := by decide +kernel
theorem dL_areOutfits_237 : decode cL_areOutfits 237 = .ok (.iconst 5, 1) := by decide +kernel
theorem dL_areOutfits_238 : decode cL_areOutfits 238 = .ok (.iload 14, 2) := by decide +kernel
theorem dL_areOutfits_240 : decode cL_areOutfits 240 = .ok (.imul, 1) := by decide +kernel
theorem dL_areOutfits_241 : decode cL_areOutfits 241 = .ok (.iconst 2, 1) := by decide +kernel
theorem dL_areOutfits_242 : decode cL_areOutfits 242 = .ok (.iadd, 1) := by decide +kernel
theorem dL_areOutfits_243 : decode cL_areOutfits 243 = .ok (.iaload, 1) := by decide +kernel
theorem dL_areOutfits_244 : decode cL_areOutfits 244 = .ok (.iadd, 1) := by decide +kernel
theorem dL_areOutfits_245 : decode cL_areOutfits 245 = .ok (.istore 16, 2) := by decide +kernel
theorem dL_areOutfits_247 : decode cL_areOutfits 247 = .ok (.iload 15, 2) := by decide +kernel
theorem dL_areOutfits_249 : decode cL_areOutfits 249 = .ok (.ifCond .eq 14, 3) := by decide +kernel
theorem dL_areOutfits_252 : decode cL_areOutfits 252 = .ok (.iload 16, 2) := by decide +kernel
theorem dL_areOutfits_254 : decode cL_areOutfits 254 = .ok (.iload 5, 2) := by decide +kernel
theorem dL_areOutfits_256 : decode cL_areOutfits 256 = .ok (.if_icmp .lt 7, 3) := by decide +kernel
theorem dL_areOutfits_259 : decode cL_areOutfits 259 = .ok (.iconst 1, 1) := by decide +kernel
theorem dL_areOutfits_260 : decode cL_areOutfits 260 = .ok (.goto 4, 3) := by decide +kernel
theorem dL_areOutfits_263 : decode cL_areOutfits 263 = .ok (.iconst 0, 1) := by decide +kernel
theorem dL_areOutfits_264 : decode cL_areOutfits 264 = .ok (.istore 17, 2) := by decide +kernel
theorem dL_areOutfits_266 : decode cL_areOutfits 266 = .ok (.iload 7, 2) := by decide +kernel
theorem dL_areOutfits_268 : decode cL_areOutfits 268 = .ok (.iload 17, 2) := by decide +kernel
theorem dL_areOutfits_270 : decode cL_areOutfits 270 = .ok (.ifCond .eq 7, 3) := by decide +kernel
theorem dL_areOutfits_273 : decode cL_areOutfits 273 = .ok (.iconst 1, 1) := by decide +kernel
theorem dL_areOutfits_274 : decode cL_areOutfits 274 = .ok (.goto 4, 3) := by decide +kernel
theorem dL_areOutfits_277 : decode cL_areOutfits 277 = .ok (.iconst 0, 1) := by decide +kernel
theorem dL_areOutfits_278 : decode cL_areOutfits 278 = .ok (.iadd, 1) := by decide +kernel
theorem dL_areOutfits_279 : decode cL_areOutfits 279 = .ok (.istore 7, 2) := by decide +kernel
theorem dL_areOutfits_281 : decode cL_areOutfits 281 = .ok (.iload 8, 2) := by decide +kernel
theorem dL_areOutfits_283 : decode cL_areOutfits 283 = .ok (.iload 17, 2) := by decide +kernel
theorem dL_areOutfits_285 : decode cL_areOutfits 285 = .ok (.ifCond .eq 16, 3) := by decide +kernel
theorem dL_areOutfits_288 : decode cL_areOutfits 288 = .ok (.iload 14, 2) := by decide +kernel
theorem dL_areOutfits_290 : decode cL_areOutfits 290 = .ok (.ifCond .ge 7, 3) := by decide +kernel
theorem dL_areOutfits_293 : decode cL_areOutfits 293 = .ok (.iconst 2, 1) := by decide +kernel
theorem dL_areOutfits_294 : decode cL_areOutfits 294 = .ok (.goto 8, 3) := by decide +kernel
theorem dL_areOutfits_297 : decode cL_areOutfits 297 = .ok (.iconst 3, 1) := by decide +kernel
theorem dL_areOutfits_298 : decode cL_areOutfits 298 = .ok (.goto 4, 3) := by decide +kernel
theorem dL_areOutfits_301 : decode cL_areOutfits 301 = .ok (.iconst 0, 1) := by decide +kernel
theorem dL_areOutfits_302 : decode cL_areOutfits 302 = .ok (.iadd, 1) := by decide +kernel
theorem dL_areOutfits_303 : decode cL_areOutfits 303 = .ok (.istore 8, 2) := by decide +kernel
theorem dL_areOutfits_305 : decode cL_areOutfits 305 = .ok (.aload_n 0, 1) := by decide +kernel
theorem dL_areOutfits_306 : decode cL_areOutfits 306 = .ok (.iconst 0, 1) := by decide +kernel
theorem dL_areOutfits_307 : decode cL_areOutfits 307 = .ok (.iload 12, 2) := by decide +kernel
theorem dL_areOutfits_309 : decode cL_areOutfits 309 = .ok (.iload 13, 2) := by decide +kernel
theorem dL_areOutfits_311 : decode cL_areOutfits 311 = .ok (.iload 14, 2) := by decide +kernel
theorem dL_areOutfits_313 : decode cL_areOutfits 313 = .ok (.iconst 0, 1) := by decide +kernel
theorem dL_areOutfits_314 : decode cL_areOutfits 314 = .ok (.invokestatic 91, 3) := by decide +kernel
theorem dL_areOutfits_317 : decode cL_areOutfits 317 = .ok (.iload 15, 2) := by decide +kernel
theorem dL_areOutfits_319 : decode cL_areOutfits 319 = .ok (.ifCond .eq 7, 3) := by decide +kernel
theorem dL_areOutfits_322 : decode cL_areOutfits 322 = .ok (.iconst 1, 1) := by decide +kernel
theorem dL_areOutfits_323 : decode cL_areOutfits 323 = .ok (.goto 4, 3) := by decide +kernel
theorem dL_areOutfits_326 : decode cL_areOutfits 326 = .ok (.iconst 0, 1) := by decide +kernel
theorem dL_areOutfits_327 : decode cL_areOutfits 327 = .ok (.if_icmp .ne 7, 3) := by decide +kernel
theorem dL_areOutfits_330 : decode cL_areOutfits 330 = .ok (.iconst 1, 1) := by decide +kernel
theorem dL_areOutfits_331 : decode cL_areOutfits 331 = .ok (.goto 4, 3) := by decide +kernel
theorem dL_areOutfits_334 : decode cL_areOutfits 334 = .ok (.iconst 0, 1) := by decide +kernel
theorem dL_areOutfits_335 : decode cL_areOutfits 335 = .ok (.istore 11, 2) := by decide +kernel
theorem dL_areOutfits_337 : decode cL_areOutfits 337 = .ok (.iload 17, 2) := by decide +kernel
theorem dL_areOutfits_339 : decode cL_areOutfits 339 = .ok (.ifCond .eq 22, 3) := by decide +kernel
theorem dL_areOutfits_342 : decode cL_areOutfits 342 = .ok (.aload_n 0, 1) := by decide +kernel
theorem dL_areOutfits_343 : decode cL_areOutfits 343 = .ok (.iconst 1, 1) := by decide +kernel
theorem dL_areOutfits_344 : decode cL_areOutfits 344 = .ok (.iload 12, 2) := by decide +kernel
theorem dL_areOutfits_346 : decode cL_areOutfits 346 = .ok (.iload 13, 2) := by decide +kernel
theorem dL_areOutfits_348 : decode cL_areOutfits 348 = .ok (.iconst 0, 1) := by decide +kernel
theorem dL_areOutfits_349 : decode cL_areOutfits 349 = .ok (.iload 6, 2) := by decide +kernel
theorem dL_areOutfits_351 : decode cL_areOutfits 351 = .ok (.invokestatic 91, 3) := by decide +kernel
theorem dL_areOutfits_354 : decode cL_areOutfits 354 = .ok (.ifCond .ne 7, 3) := by decide +kernel
theorem dL_areOutfits_357 : decode cL_areOutfits 357 = .ok (.iconst 1, 1) := by decide +kernel
theorem dL_areOutfits_358 : decode cL_areOutfits 358 = .ok (.goto 4, 3) := by decide +kernel
theorem dL_areOutfits_361 : decode cL_areOutfits 361 = .ok (.iconst 0, 1) := by decide +kernel
theorem dL_areOutfits_362 : decode cL_areOutfits 362 = .ok (.istore 18, 2) := by decide +kernel
theorem dL_areOutfits_364 : decode cL_areOutfits 364 = .ok (.sipush 10000, 3) := by decide +kernel
theorem dL_areOutfits_367 : decode cL_areOutfits 367 = .ok (.iload 12, 2) := by decide +kernel
theorem dL_areOutfits_369 : decode cL_areOutfits 369 = .ok (.imul, 1) := by decide +kernel
theorem dL_areOutfits_370 : decode cL_areOutfits 370 = .ok (.bipush 100, 2) := by decide +kernel
theorem dL_areOutfits_372 : decode cL_areOutfits 372 = .ok (.iload 13, 2) := by decide +kernel
theorem dL_areOutfits_374 : decode cL_areOutfits 374 = .ok (.imul, 1) := by decide +kernel
theorem dL_areOutfits_375 : decode cL_areOutfits 375 = .ok (.iadd, 1) := by decide +kernel
theorem dL_areOutfits_376 : decode cL_areOutfits 376 = .ok (.iload 14, 2) := by decide +kernel
theorem dL_areOutfits_378 : decode cL_areOutfits 378 = .ok (.iadd, 1) := by decide +kernel
theorem dL_areOutfits_379 : decode cL_areOutfits 379 = .ok (.iconst 1, 1) := by decide +kernel
theorem dL_areOutfits_380 : decode cL_areOutfits 380 = .ok (.iadd, 1) := by decide +kernel
theorem dL_areOutfits_381 : decode cL_areOutfits 381 = .ok (.istore 19, 2) := by decide +kernel
theorem dL_areOutfits_383 : decode cL_areOutfits 383 = .ok (.iload 10, 2) := by decide +kernel
theorem dL_areOutfits_385 : decode cL_areOutfits 385 = .ok (.ifCond .ne 15, 3) := by decide +kernel
theorem dL_areOutfits_388 : decode cL_areOutfits 388 = .ok (.iload 18, 2) := by decide +kernel
theorem dL_areOutfits_390 : decode cL_areOutfits 390 = .ok (.ifCond .eq 14, 3) := by decide +kernel
theorem dL_areOutfits_393 : decode cL_areOutfits 393 = .ok (.iload 19, 2) := by decide +kernel
theorem dL_areOutfits_395 : decode cL_areOutfits 395 = .ok (.iload 9, 2) := by decide +kernel
theorem dL_areOutfits_397 : decode cL_areOutfits 397 = .ok (.if_icmp .ne 7, 3) := by decide +kernel
theorem dL_areOutfits_400 : decode cL_areOutfits 400 = .ok (.iconst 1, 1) := by decide +kernel
theorem dL_areOutfits_401 : decode cL_areOutfits 401 = .ok (.goto 4, 3) := by decide +kernel
theorem dL_areOutfits_404 : decode cL_areOutfits 404 = .ok (.iconst 0, 1) := by decide +kernel
theorem dL_areOutfits_405 : decode cL_areOutfits 405 = .ok (.istore 10, 2) := by decide +kernel
theorem dL_areOutfits_407 : decode cL_areOutfits 407 = .ok (.iload 11, 2) := by decide +kernel
theorem dL_areOutfits_409 : decode cL_areOutfits 409 = .ok (.ifCond .eq 46, 3) := by decide +kernel
theorem dL_areOutfits_412 : decode cL_areOutfits 412 = .ok (.iload 18, 2) := by decide +kernel
theorem dL_areOutfits_414 : decode cL_areOutfits 414 = .ok (.ifCond .eq 37, 3) := by decide +kernel
theorem dL_areOutfits_417 : decode cL_areOutfits 417 = .ok (.iload 9, 2) := by decide +kernel
theorem dL_areOutfits_419 : decode cL_areOutfits 419 = .ok (.ifCond .lt 36, 3) := by decide +kernel
theorem dL_areOutfits_422 : decode cL_areOutfits 422 = .ok (.iload 16, 2) := by decide +kernel
theorem dL_areOutfits_424 : decode cL_areOutfits 424 = .ok (.aload_n 1, 1) := by decide +kernel
theorem dL_areOutfits_425 : decode cL_areOutfits 425 = .ok (.iload 9, 2) := by decide +kernel
theorem dL_areOutfits_427 : decode cL_areOutfits 427 = .ok (.invokestatic 95, 3) := by decide +kernel
theorem dL_areOutfits_430 : decode cL_areOutfits 430 = .ok (.if_icmp .gt 21, 3) := by decide +kernel
theorem dL_areOutfits_433 : decode cL_areOutfits 433 = .ok (.iload 16, 2) := by decide +kernel
theorem dL_areOutfits_435 : decode cL_areOutfits 435 = .ok (.aload_n 1, 1) := by decide +kernel
theorem dL_areOutfits_436 : decode cL_areOutfits 436 = .ok (.iload 9, 2) := by decide +kernel
theorem dL_areOutfits_438 : decode cL_areOutfits 438 = .ok (.invokestatic 95, 3) := by decide +kernel
theorem dL_areOutfits_441 : decode cL_areOutfits 441 = .ok (.if_icmp .ne 14, 3) := by decide +kernel
theorem dL_areOutfits_444 : decode cL_areOutfits 444 = .ok (.iload 19, 2) := by decide +kernel
theorem dL_areOutfits_446 : decode cL_areOutfits 446 = .ok (.iload 9, 2) := by decide +kernel
theorem dL_areOutfits_448 : decode cL_areOutfits 448 = .ok (.if_icmp .lt 7, 3) := by decide +kernel
theorem dL_areOutfits_451 : decode cL_areOutfits 451 = .ok (.iconst 1, 1) := by decide +kernel
theorem dL_areOutfits_452 : decode cL_areOutfits 452 = .ok (.goto 4, 3) := by decide +kernel
theorem dL_areOutfits_455 : decode cL_areOutfits 455 = .ok (.iconst 0, 1) := by decide +kernel
theorem dL_areOutfits_456 : decode cL_areOutfits 456 = .ok (.istore 11, 2) := by decide +kernel
theorem dL_areOutfits_458 : decode cL_areOutfits 458 = .ok (.iinc 14 1, 3) := by decide +kernel
theorem dL_areOutfits_461 : decode cL_areOutfits 461 = .ok (.goto (-383), 3) := by decide +kernel
theorem dL_areOutfits_464 : decode cL_areOutfits 464 = .ok (.iinc 13 1, 3) := by decide +kernel
theorem dL_areOutfits_467 : decode cL_areOutfits 467 = .ok (.goto (-415), 3) := by decide +kernel
theorem dL_areOutfits_470 : decode cL_areOutfits 470 = .ok (.iinc 12 1, 3) := by decide +kernel
theorem dL_areOutfits_473 : decode cL_areOutfits 473 = .ok (.goto (-438), 3) := by decide +kernel
theorem dL_areOutfits_476 : decode cL_areOutfits 476 = .ok (.iconst 0, 1) := by decide +kernel
theorem dL_areOutfits_477 : decode cL_areOutfits 477 = .ok (.istore 12, 2) := by decide +kernel
theorem dL_areOutfits_479 : decode cL_areOutfits 479 = .ok (.iconst 0, 1) := by decide +kernel
theorem dL_areOutfits_480 : decode cL_areOutfits 480 = .ok (.istore 13, 2) := by decide +kernel
theorem dL_areOutfits_482 : decode cL_areOutfits 482 = .ok (.iload 13, 2) := by decide +kernel
theorem dL_areOutfits_484 : decode cL_areOutfits 484 = .ok (.aload 4, 2) := by decide +kernel
theorem dL_areOutfits_486 : decode cL_areOutfits 486 = .ok (.iconst 0, 1) := by decide +kernel
theorem dL_areOutfits_487 : decode cL_areOutfits 487 = .ok (.iaload, 1) := by decide +kernel
theorem dL_areOutfits_488 : decode cL_areOutfits 488 = .ok (.if_icmp .ge 40, 3) := by decide +kernel
theorem dL_areOutfits_491 : decode cL_areOutfits 491 = .ok (.iload 11, 2) := by decide +kernel
theorem dL_areOutfits_493 : decode cL_areOutfits 493 = .ok (.ifCond .eq 35, 3) := by decide +kernel
theorem dL_areOutfits_496 : decode cL_areOutfits 496 = .ok (.iload 12, 2) := by decide +kernel
theorem dL_areOutfits_498 : decode cL_areOutfits 498 = .ok (.aload_n 1, 1) := by decide +kernel
theorem dL_areOutfits_499 : decode cL_areOutfits 499 = .ok (.iconst 5, 1) := by decide +kernel
theorem dL_areOutfits_500 : decode cL_areOutfits 500 = .ok (.iload 13, 2) := by decide +kernel
theorem dL_areOutfits_502 : decode cL_areOutfits 502 = .ok (.imul, 1) := by decide +kernel
theorem dL_areOutfits_503 : decode cL_areOutfits 503 = .ok (.iaload, 1) := by decide +kernel
theorem dL_areOutfits_504 : decode cL_areOutfits 504 = .ok (.ifCond .ge 7, 3) := by decide +kernel
theorem dL_areOutfits_507 : decode cL_areOutfits 507 = .ok (.iconst 0, 1) := by decide +kernel
theorem dL_areOutfits_508 : decode cL_areOutfits 508 = .ok (.goto 11, 3) := by decide +kernel
theorem dL_areOutfits_511 : decode cL_areOutfits 511 = .ok (.aload_n 0, 1) := by decide +kernel
theorem dL_areOutfits_512 : decode cL_areOutfits 512 = .ok (.iload 13, 2) := by decide +kernel
theorem dL_areOutfits_514 : decode cL_areOutfits 514 = .ok (.iload 5, 2) := by decide +kernel
theorem dL_areOutfits_516 : decode cL_areOutfits 516 = .ok (.invokevirtual 42, 3) := by decide +kernel
theorem dL_areOutfits_519 : decode cL_areOutfits 519 = .ok (.iadd, 1) := by decide +kernel
theorem dL_areOutfits_520 : decode cL_areOutfits 520 = .ok (.istore 12, 2) := by decide +kernel
theorem dL_areOutfits_522 : decode cL_areOutfits 522 = .ok (.iinc 13 1, 3) := by decide +kernel
theorem dL_areOutfits_525 : decode cL_areOutfits 525 = .ok (.goto (-43), 3) := by decide +kernel
theorem dL_areOutfits_528 : decode cL_areOutfits 528 = .ok (.iload 11, 2) := by decide +kernel
theorem dL_areOutfits_530 : decode cL_areOutfits 530 = .ok (.ifCond .eq 30, 3) := by decide +kernel
theorem dL_areOutfits_533 : decode cL_areOutfits 533 = .ok (.iload 10, 2) := by decide +kernel
theorem dL_areOutfits_535 : decode cL_areOutfits 535 = .ok (.ifCond .eq 25, 3) := by decide +kernel
theorem dL_areOutfits_538 : decode cL_areOutfits 538 = .ok (.aload_n 0, 1) := by decide +kernel
theorem dL_areOutfits_539 : decode cL_areOutfits 539 = .ok (.iload 5, 2) := by decide +kernel
theorem dL_areOutfits_541 : decode cL_areOutfits 541 = .ok (.invokevirtual 39, 3) := by decide +kernel
theorem dL_areOutfits_544 : decode cL_areOutfits 544 = .ok (.iload 7, 2) := by decide +kernel
theorem dL_areOutfits_546 : decode cL_areOutfits 546 = .ok (.if_icmp .ne 14, 3) := by decide +kernel
theorem dL_areOutfits_549 : decode cL_areOutfits 549 = .ok (.iload 12, 2) := by decide +kernel
theorem dL_areOutfits_551 : decode cL_areOutfits 551 = .ok (.iload 8, 2) := by decide +kernel
theorem dL_areOutfits_553 : decode cL_areOutfits 553 = .ok (.if_icmp .ne 7, 3) := by decide +kernel
theorem dL_areOutfits_556 : decode cL_areOutfits 556 = .ok (.iconst 1, 1) := by decide +kernel
theorem dL_areOutfits_557 : decode cL_areOutfits 557 = .ok (.goto 4, 3) := by decide +kernel
theorem dL_areOutfits_560 : decode cL_areOutfits 560 = .ok (.iconst 0, 1) := by decide +kernel
theorem dL_areOutfits_561 : decode cL_areOutfits 561 = .ok (.ireturn, 1) := by decide +kernel
theorem dL_warmthOf_0 : decode cL_warmthOf 0 = .ok (.iload_n 1, 1) := by decide +kernel
theorem dL_warmthOf_1 : decode cL_warmthOf 1 = .ok (.bipush 100, 2) := by decide +kernel
theorem dL_warmthOf_3 : decode cL_warmthOf 3 = .ok (.irem, 1) := by decide +kernel
theorem dL_warmthOf_4 : decode cL_warmthOf 4 = .ok (.iconst 1, 1) := by decide +kernel
theorem dL_warmthOf_5 : decode cL_warmthOf 5 = .ok (.isub, 1) := by decide +kernel
theorem dL_warmthOf_6 : decode cL_warmthOf 6 = .ok (.istore_n 2, 1) := by decide +kernel
theorem dL_warmthOf_7 : decode cL_warmthOf 7 = .ok (.aload_n 0, 1) := by decide +kernel
theorem dL_warmthOf_8 : decode cL_warmthOf 8 = .ok (.iconst 5, 1) := by decide +kernel
theorem dL_warmthOf_9 : decode cL_warmthOf 9 = .ok (.iload_n 1, 1) := by decide +kernel
theorem dL_warmthOf_10 : decode cL_warmthOf 10 = .ok (.sipush 10000, 3) := by decide +kernel
theorem dL_warmthOf_13 : decode cL_warmthOf 13 = .ok (.idiv, 1) := by decide +kernel
theorem dL_warmthOf_14 : decode cL_warmthOf 14 = .ok (.imul, 1) := by decide +kernel
theorem dL_warmthOf_15 : decode cL_warmthOf 15 = .ok (.iconst 2, 1) := by decide +kernel
theorem dL_warmthOf_16 : decode cL_warmthOf 16 = .ok (.iadd, 1) := by decide +kernel
theorem dL_warmthOf_17 : decode cL_warmthOf 17 = .ok (.iaload, 1) := by decide +kernel
theorem dL_warmthOf_18 : decode cL_warmthOf 18 = .ok (.aload_n 0, 1) := by decide +kernel
theorem dL_warmthOf_19 : decode cL_warmthOf 19 = .ok (.iconst 5, 1) := by decide +kernel
theorem dL_warmthOf_20 : decode cL_warmthOf 20 = .ok (.iload_n 1, 1) := by decide +kernel
theorem dL_warmthOf_21 : decode cL_warmthOf 21 = .ok (.bipush 100, 2) := by decide +kernel
theorem dL_warmthOf_23 : decode cL_warmthOf 23 = .ok (.idiv, 1) := by decide +kernel
theorem dL_warmthOf_24 : decode cL_warmthOf 24 = .ok (.bipush 100, 2) := by decide +kernel
theorem dL_warmthOf_26 : decode cL_warmthOf 26 = .ok (.irem, 1) := by decide +kernel
theorem dL_warmthOf_27 : decode cL_warmthOf 27 = .ok (.imul, 1) := by decide +kernel
theorem dL_warmthOf_28 : decode cL_warmthOf 28 = .ok (.iconst 2, 1) := by decide +kernel
theorem dL_warmthOf_29 : decode cL_warmthOf 29 = .ok (.iadd, 1) := by decide +kernel
theorem dL_warmthOf_30 : decode cL_warmthOf 30 = .ok (.iaload, 1) := by decide +kernel
theorem dL_warmthOf_31 : decode cL_warmthOf 31 = .ok (.iadd, 1) := by decide +kernel
theorem dL_warmthOf_32 : decode cL_warmthOf 32 = .ok (.iload_n 2, 1) := by decide +kernel
theorem dL_warmthOf_33 : decode cL_warmthOf 33 = .ok (.ifCond .ge 7, 3) := by decide +kernel
theorem dL_warmthOf_36 : decode cL_warmthOf 36 = .ok (.iconst 0, 1) := by decide +kernel
theorem dL_warmthOf_37 : decode cL_warmthOf 37 = .ok (.goto 10, 3) := by decide +kernel
theorem dL_warmthOf_40 : decode cL_warmthOf 40 = .ok (.aload_n 0, 1) := by decide +kernel
theorem dL_warmthOf_41 : decode cL_warmthOf 41 = .ok (.iconst 5, 1) := by decide +kernel
theorem dL_warmthOf_42 : decode cL_warmthOf 42 = .ok (.iload_n 2, 1) := by decide +kernel
theorem dL_warmthOf_43 : decode cL_warmthOf 43 = .ok (.imul, 1) := by decide +kernel
theorem dL_warmthOf_44 : decode cL_warmthOf 44 = .ok (.iconst 2, 1) := by decide +kernel
theorem dL_warmthOf_45 : decode cL_warmthOf 45 = .ok (.iadd, 1) := by decide +kernel
theorem dL_warmthOf_46 : decode cL_warmthOf 46 = .ok (.iaload, 1) := by decide +kernel
theorem dL_warmthOf_47 : decode cL_warmthOf 47 = .ok (.iadd, 1) := by decide +kernel
theorem dL_warmthOf_48 : decode cL_warmthOf 48 = .ok (.ireturn, 1) := by decide +kernel
set_option maxRecDepth 20000 in
theorem ggL_isMissing_X0_missingTop : GoodIn wsL_isMissing wsX0_missingTop := goodIn_r _ [5, 6, 7, 8, 4, 9, 10, 11, 12, 13, 14, 15, 16, 17, 18, 19, 20, 21, 22, 23, 24, 25, 26, 27, 28, 29, 30, 31, 32, 33, 34, 35, 36, 37, 38, 39, 40, 41, 42] (by decide +kernel) (by decide +kernel)
set_option maxRecDepth 20000 in
theorem gL_isMissing_X0_missingTop : GoodIn wsL_isMissing (wsV RL 99 RX0 yX0_missingTop wsX0_missingTop) := goodIn_app (goodIn_of _ (by decide +kernel)) ggL_isMissing_X0_missingTop
theorem dL_isMissing_0 : decode cL_isMissing 0 = .ok (.aload_n 0, 1) := by decide +kernel
theorem dL_isMissing_1 : decode cL_isMissing 1 = .ok (.invokevirtual 99, 3) := by decide +kernel
theorem dL_isMissing_4 : decode cL_isMissing 4 = .ok (.istore 5, 2) := by decide +kernel
theorem dL_isMissing_6 : decode cL_isMissing 6 = .ok (.iconst (-1), 1) := by decide +kernel
theorem dL_isMissing_7 : decode cL_isMissing 7 = .ok (.istore 6, 2) := by decide +kernel
theorem dL_isMissing_9 : decode cL_isMissing 9 = .ok (.iload 5, 2) := by decide +kernel
theorem dL_isMissing_11 : decode cL_isMissing 11 = .ok (.ifCond .lt 14, 3) := by decide +kernel
theorem dL_isMissing_14 : decode cL_isMissing 14 = .ok (.iload 5, 2) := by decide +kernel
theorem dL_isMissing_16 : decode cL_isMissing 16 = .ok (.bipush 8, 2) := by decide +kernel
theorem dL_isMissing_18 : decode cL_isMissing 18 = .ok (.if_icmp .ge 7, 3) := by decide +kernel
theorem dL_isMissing_21 : decode cL_isMissing 21 = .ok (.iconst 1, 1) := by decide +kernel
theorem dL_isMissing_22 : decode cL_isMissing 22 = .ok (.goto 4, 3) := by decide +kernel
theorem dL_isMissing_25 : decode cL_isMissing 25 = .ok (.iconst 0, 1) := by decide +kernel
theorem dL_isMissing_26 : decode cL_isMissing 26 = .ok (.istore 7, 2) := by decide +kernel
theorem dL_isMissing_28 : decode cL_isMissing 28 = .ok (.iconst 0, 1) := by decide +kernel
theorem dL_isMissing_29 : decode cL_isMissing 29 = .ok (.istore 8, 2) := by decide +kernel
theorem dL_isMissing_31 : decode cL_isMissing 31 = .ok (.iload 8, 2) := by decide +kernel
theorem dL_isMissing_33 : decode cL_isMissing 33 = .ok (.bipush 9, 2) := by decide +kernel
theorem dL_isMissing_35 : decode cL_isMissing 35 = .ok (.if_icmp .ge 146, 3) := by decide +kernel
theorem dL_isMissing_38 : decode cL_isMissing 38 = .ok (.iload 7, 2) := by decide +kernel
theorem dL_isMissing_40 : decode cL_isMissing 40 = .ok (.ifCond .eq 141, 3) := by decide +kernel
theorem dL_isMissing_43 : decode cL_isMissing 43 = .ok (.iload 8, 2) := by decide +kernel
theorem dL_isMissing_45 : decode cL_isMissing 45 = .ok (.ifCond .ne 8, 3) := by decide +kernel
theorem dL_isMissing_48 : decode cL_isMissing 48 = .ok (.iload 5, 2) := by decide +kernel
theorem dL_isMissing_50 : decode cL_isMissing 50 = .ok (.goto 7, 3) := by decide +kernel
theorem dL_isMissing_53 : decode cL_isMissing 53 = .ok (.iload 8, 2) := by decide +kernel
theorem dL_isMissing_55 : decode cL_isMissing 55 = .ok (.iconst 1, 1) := by decide +kernel
theorem dL_isMissing_56 : decode cL_isMissing 56 = .ok (.isub, 1) := by decide +kernel
theorem dL_isMissing_57 : decode cL_isMissing 57 = .ok (.istore 9, 2) := by decide +kernel
theorem dL_isMissing_59 : decode cL_isMissing 59 = .ok (.iconst 0, 1) := by decide +kernel
theorem dL_isMissing_60 : decode cL_isMissing 60 = .ok (.istore 10, 2) := by decide +kernel
theorem dL_isMissing_62 : decode cL_isMissing 62 = .ok (.iconst 0, 1) := by decide +kernel
theorem dL_isMissing_63 : decode cL_isMissing 63 = .ok (.istore 11, 2) := by decide +kernel
theorem dL_isMissing_65 : decode cL_isMissing 65 = .ok (.iload 11, 2) := by decide +kernel
theorem dL_isMissing_67 : decode cL_isMissing 67 = .ok (.aload 4, 2) := by decide +kernel
theorem dL_isMissing_69 : decode cL_isMissing 69 = .ok (.iconst 0, 1) := by decide +kernel
theorem dL_isMissing_70 : decode cL_isMissing 70 = .ok (.iaload, 1) := by decide +kernel
theorem dL_isMissing_71 : decode cL_isMissing 71 = .ok (.if_icmp .ge 62, 3) := by decide +kernel
theorem dL_isMissing_74 : decode cL_isMissing 74 = .ok (.iload 10, 2) := by decide +kernel
theorem dL_isMissing_76 : decode cL_isMissing 76 = .ok (.aload_n 1, 1) := by decide +kernel
theorem dL_isMissing_77 : decode cL_isMissing 77 = .ok (.iconst 5, 1) := by decide +kernel
theorem dL_isMissing_78 : decode cL_isMissing 78 = .ok (.iload 11, 2) := by decide +kernel
theorem dL_isMissing_80 : decode cL_isMissing 80 = .ok (.imul, 1) := by decide +kernel
theorem dL_isMissing_81 : decode cL_isMissing 81 = .ok (.iaload, 1) := by decide +kernel
theorem dL_isMissing_82 : decode cL_isMissing 82 = .ok (.iconst 1, 1) := by decide +kernel
theorem dL_isMissing_83 : decode cL_isMissing 83 = .ok (.if_icmp .ne 40, 3) := by decide +kernel
theorem dL_isMissing_86 : decode cL_isMissing 86 = .ok (.aload_n 2, 1) := by decide +kernel
theorem dL_isMissing_87 : decode cL_isMissing 87 = .ok (.iload 11, 2) := by decide +kernel
theorem dL_isMissing_89 : decode cL_isMissing 89 = .ok (.iaload, 1) := by decide +kernel
theorem dL_isMissing_90 : decode cL_isMissing 90 = .ok (.aload_n 1, 1) := by decide +kernel
theorem dL_isMissing_91 : decode cL_isMissing 91 = .ok (.iconst 5, 1) := by decide +kernel
theorem dL_isMissing_92 : decode cL_isMissing 92 = .ok (.iload 11, 2) := by decide +kernel
theorem dL_isMissing_94 : decode cL_isMissing 94 = .ok (.imul, 1) := by decide +kernel
theorem dL_isMissing_95 : decode cL_isMissing 95 = .ok (.iconst 3, 1) := by decide +kernel
theorem dL_isMissing_96 : decode cL_isMissing 96 = .ok (.iadd, 1) := by decide +kernel
theorem dL_isMissing_97 : decode cL_isMissing 97 = .ok (.iaload, 1) := by decide +kernel
theorem dL_isMissing_98 : decode cL_isMissing 98 = .ok (.if_icmp .ge 25, 3) := by decide +kernel
theorem dL_isMissing_101 : decode cL_isMissing 101 = .ok (.aload_n 3, 1) := by decide +kernel
theorem dL_isMissing_102 : decode cL_isMissing 102 = .ok (.iload 9, 2) := by decide +kernel
theorem dL_isMissing_104 : decode cL_isMissing 104 = .ok (.iaload, 1) := by decide +kernel
theorem dL_isMissing_105 : decode cL_isMissing 105 = .ok (.aload_n 1, 1) := by decide +kernel
theorem dL_isMissing_106 : decode cL_isMissing 106 = .ok (.iconst 5, 1) := by decide +kernel
theorem dL_isMissing_107 : decode cL_isMissing 107 = .ok (.iload 11, 2) := by decide +kernel
theorem dL_isMissing_109 : decode cL_isMissing 109 = .ok (.imul, 1) := by decide +kernel
theorem dL_isMissing_110 : decode cL_isMissing 110 = .ok (.iconst 1, 1) := by decide +kernel
theorem dL_isMissing_111 : decode cL_isMissing 111 = .ok (.iadd, 1) := by decide +kernel
theorem dL_isMissing_112 : decode cL_isMissing 112 = .ok (.iaload, 1) := by decide +kernel
theorem dL_isMissing_113 : decode cL_isMissing 113 = .ok (.ishr, 1) := by decide +kernel
theorem dL_isMissing_114 : decode cL_isMissing 114 = .ok (.iconst 1, 1) := by decide +kernel
theorem dL_isMissing_115 : decode cL_isMissing 115 = .ok (.iand, 1) := by decide +kernel
theorem dL_isMissing_116 : decode cL_isMissing 116 = .ok (.ifCond .ne 7, 3) := by decide +kernel
theorem dL_isMissing_119 : decode cL_isMissing 119 = .ok (.iconst 1, 1) := by decide +kernel
theorem dL_isMissing_120 : decode cL_isMissing 120 = .ok (.goto 4, 3) := by decide +kernel
theorem dL_isMissing_123 : decode cL_isMissing 123 = .ok (.iconst 0, 1) := by decide +kernel
theorem dL_isMissing_124 : decode cL_isMissing 124 = .ok (.iadd, 1) := by decide +kernel
theorem dL_isMissing_125 : decode cL_isMissing 125 = .ok (.istore 10, 2) := by decide +kernel
theorem dL_isMissing_127 : decode cL_isMissing 127 = .ok (.iinc 11 1, 3) := by decide +kernel
theorem dL_isMissing_130 : decode cL_isMissing 130 = .ok (.goto (-65), 3) := by decide +kernel
theorem dL_isMissing_133 : decode cL_isMissing 133 = .ok (.iload 8, 2) := by decide +kernel
theorem dL_isMissing_135 : decode cL_isMissing 135 = .ok (.ifCond .ne 8, 3) := by decide +kernel
theorem dL_isMissing_138 : decode cL_isMissing 138 = .ok (.iload 10, 2) := by decide +kernel
theorem dL_isMissing_140 : decode cL_isMissing 140 = .ok (.goto 5, 3) := by decide +kernel
theorem dL_isMissing_143 : decode cL_isMissing 143 = .ok (.iload 6, 2) := by decide +kernel
theorem dL_isMissing_145 : decode cL_isMissing 145 = .ok (.istore 6, 2) := by decide +kernel
theorem dL_isMissing_147 : decode cL_isMissing 147 = .ok (.iload 10, 2) := by decide +kernel
theorem dL_isMissing_149 : decode cL_isMissing 149 = .ok (.iload 6, 2) := by decide +kernel
theorem dL_isMissing_151 : decode cL_isMissing 151 = .ok (.if_icmp .lt 17, 3) := by decide +kernel
theorem dL_isMissing_154 : decode cL_isMissing 154 = .ok (.iload 10, 2) := by decide +kernel
theorem dL_isMissing_156 : decode cL_isMissing 156 = .ok (.iload 6, 2) := by decide +kernel
theorem dL_isMissing_158 : decode cL_isMissing 158 = .ok (.if_icmp .ne 14, 3) := by decide +kernel
theorem dL_isMissing_161 : decode cL_isMissing 161 = .ok (.iload 9, 2) := by decide +kernel
theorem dL_isMissing_163 : decode cL_isMissing 163 = .ok (.iload 5, 2) := by decide +kernel
theorem dL_isMissing_165 : decode cL_isMissing 165 = .ok (.if_icmp .lt 7, 3) := by decide +kernel
theorem dL_isMissing_168 : decode cL_isMissing 168 = .ok (.iconst 1, 1) := by decide +kernel
theorem dL_isMissing_169 : decode cL_isMissing 169 = .ok (.goto 4, 3) := by decide +kernel
theorem dL_isMissing_172 : decode cL_isMissing 172 = .ok (.iconst 0, 1) := by decide +kernel
theorem dL_isMissing_173 : decode cL_isMissing 173 = .ok (.istore 7, 2) := by decide +kernel
theorem dL_isMissing_175 : decode cL_isMissing 175 = .ok (.iinc 8 1, 3) := by decide +kernel
theorem dL_isMissing_178 : decode cL_isMissing 178 = .ok (.goto (-147), 3) := by decide +kernel
theorem dL_isMissing_181 : decode cL_isMissing 181 = .ok (.iload 7, 2) := by decide +kernel
theorem dL_isMissing_183 : decode cL_isMissing 183 = .ok (.ireturn, 1) := by decide +kernel
set_option maxRecDepth 20000 in
theorem ggL_isBag_X0_bag : GoodIn wsL_isBag wsX0_bag := goodIn_ca (goodIn_r _ [5, 6, 7, 8, 9, 4, 10, 11, 12, 13, 14, 15, 16, 17, 18, 19, 20, 21, 22, 23, 24, 25, 26, 27, 28, 29, 30, 31, 32, 33, 34, 35, 36, 37, 38, 39, 40, 41, 42, 43, 44, 45, 46, 47, 48, 49, 50, 51, 52, 53, 54, 55, 56, 57, 58, 59, 60, 61, 62, 63, 64, 65, 66, 67, 68, 69, 70, 71, 72, 73, 74, 75, 76, 77, 78, 79, 80, 81, 82, 83, 84, 85, 86, 87, 88, 89, 90, 91, 92, 93, 94, 115, 116, 117, 118, 119, 120, 121, 122, 123, 124, 125, 126] (by decide +kernel) (by decide +kernel)) (goodIn_sub (fun _ h => List.mem_cons_of_mem _ (List.mem_append_right _ h)) (by decide +kernel))
set_option maxRecDepth 20000 in
theorem gL_isBag_X0_bag : GoodIn wsL_isBag (wsV RL 59 RX0 yX0_bag wsX0_bag) := goodIn_app (goodIn_of _ (by decide +kernel)) ggL_isBag_X0_bag
set_option maxRecDepth 20000 in
theorem ggL_isBag_L_yes : GoodIn wsL_isBag wsL_yes := goodIn_ca (goodIn_r _ [98, 99, 100, 101, 102, 4, 103, 6, 7, 47, 104, 105, 106, 107, 11, 12, 13, 43, 44, 45, 46, 48, 49, 50, 108, 109, 110, 111, 37, 8, 9, 10, 14, 15, 16, 17, 18, 19, 20, 21, 22, 23, 24, 25, 26, 27, 28, 29, 30, 31, 32, 33, 34, 35, 36, 38, 39, 40, 41, 42, 51, 52, 53, 54, 55, 56, 57, 58, 59, 69, 70, 71, 72, 73, 74, 75, 76, 77, 78, 79, 80, 81, 82, 83, 84, 85, 86, 87, 68, 88, 89, 90, 91, 92, 93, 94, 115, 116, 117, 118, 119, 120, 121, 122, 123, 124, 125, 126] (by decide +kernel) (by decide +kernel)) (goodIn_sub (fun _ h => List.mem_cons_of_mem _ (List.mem_append_right _ h)) (by decide +kernel))
set_option maxRecDepth 20000 in
theorem gL_isBag_L_yes : GoodIn wsL_isBag (va_wsS RL 102 yL_yes wsL_yes) := goodIn_app (goodIn_of _ (by decide +kernel)) ggL_isBag_L_yes
set_option maxRecDepth 20000 in
theorem ggL_isBag_L_bits : GoodIn wsL_isBag wsL_bits := goodIn_r _ [114] (by decide +kernel) (by decide +kernel)
set_option maxRecDepth 20000 in
theorem gL_isBag_L_bits : GoodIn wsL_isBag (va_wsS RL 106 yL_bits wsL_bits) := goodIn_app (goodIn_of _ (by decide +kernel)) ggL_isBag_L_bits
theorem dL_isBag_0 : decode cL_isBag 0 = .ok (.iconst 0, 1) := by decide +kernel
theorem dL_isBag_1 : decode cL_isBag 1 = .ok (.istore 7, 2) := by decide +kernel
theorem dL_isBag_3 : decode cL_isBag 3 = .ok (.iconst 0, 1) := by decide +kernel
theorem dL_isBag_4 : decode cL_isBag 4 = .ok (.istore 8, 2) := by decide +kernel
theorem dL_isBag_6 : decode cL_isBag 6 = .ok (.iconst 0, 1) := by decide +kernel
theorem dL_isBag_7 : decode cL_isBag 7 = .ok (.istore 9, 2) := by decide +kernel
theorem dL_isBag_9 : decode cL_isBag 9 = .ok (.iload 9, 2) := by decide +kernel
theorem dL_isBag_11 : decode cL_isBag 11 = .ok (.aload_n 3, 1) := by decide +kernel
theorem dL_isBag_12 : decode cL_isBag 12 = .ok (.iconst 0, 1) := by decide +kernel
theorem dL_isBag_13 : decode cL_isBag 13 = .ok (.iaload, 1) := by decide +kernel
theorem dL_isBag_14 : decode cL_isBag 14 = .ok (.if_icmp .ge 54, 3) := by decide +kernel
theorem dL_isBag_17 : decode cL_isBag 17 = .ok (.iload 7, 2) := by decide +kernel
theorem dL_isBag_19 : decode cL_isBag 19 = .ok (.aload_n 1, 1) := by decide +kernel
theorem dL_isBag_20 : decode cL_isBag 20 = .ok (.iconst 5, 1) := by decide +kernel
theorem dL_isBag_21 : decode cL_isBag 21 = .ok (.iload 9, 2) := by decide +kernel
theorem dL_isBag_23 : decode cL_isBag 23 = .ok (.imul, 1) := by decide +kernel
theorem dL_isBag_24 : decode cL_isBag 24 = .ok (.iaload, 1) := by decide +kernel
theorem dL_isBag_25 : decode cL_isBag 25 = .ok (.ifCond .lt 10, 3) := by decide +kernel
theorem dL_isBag_28 : decode cL_isBag 28 = .ok (.iconst 1, 1) := by decide +kernel
theorem dL_isBag_29 : decode cL_isBag 29 = .ok (.iload 9, 2) := by decide +kernel
theorem dL_isBag_31 : decode cL_isBag 31 = .ok (.ishl, 1) := by decide +kernel
theorem dL_isBag_32 : decode cL_isBag 32 = .ok (.goto 4, 3) := by decide +kernel
theorem dL_isBag_35 : decode cL_isBag 35 = .ok (.iconst 0, 1) := by decide +kernel
theorem dL_isBag_36 : decode cL_isBag 36 = .ok (.ior, 1) := by decide +kernel
theorem dL_isBag_37 : decode cL_isBag 37 = .ok (.istore 7, 2) := by decide +kernel
theorem dL_isBag_39 : decode cL_isBag 39 = .ok (.iload 8, 2) := by decide +kernel
theorem dL_isBag_41 : decode cL_isBag 41 = .ok (.aload_n 1, 1) := by decide +kernel
theorem dL_isBag_42 : decode cL_isBag 42 = .ok (.iconst 5, 1) := by decide +kernel
theorem dL_isBag_43 : decode cL_isBag 43 = .ok (.iload 9, 2) := by decide +kernel
theorem dL_isBag_45 : decode cL_isBag 45 = .ok (.imul, 1) := by decide +kernel
theorem dL_isBag_46 : decode cL_isBag 46 = .ok (.iaload, 1) := by decide +kernel
theorem dL_isBag_47 : decode cL_isBag 47 = .ok (.iconst 2, 1) := by decide +kernel
theorem dL_isBag_48 : decode cL_isBag 48 = .ok (.if_icmp .ne 10, 3) := by decide +kernel
theorem dL_isBag_51 : decode cL_isBag 51 = .ok (.iconst 1, 1) := by decide +kernel
theorem dL_isBag_52 : decode cL_isBag 52 = .ok (.iload 9, 2) := by decide +kernel
theorem dL_isBag_54 : decode cL_isBag 54 = .ok (.ishl, 1) := by decide +kernel
theorem dL_isBag_55 : decode cL_isBag 55 = .ok (.goto 4, 3) := by decide +kernel
theorem dL_isBag_58 : decode cL_isBag 58 = .ok (.iconst 0, 1) := by decide +kernel
theorem dL_isBag_59 : decode cL_isBag 59 = .ok (.ior, 1) := by decide +kernel
theorem dL_isBag_60 : decode cL_isBag 60 = .ok (.istore 8, 2) := by decide +kernel
theorem dL_isBag_62 : decode cL_isBag 62 = .ok (.iinc 9 1, 3) := by decide +kernel
theorem dL_isBag_65 : decode cL_isBag 65 = .ok (.goto (-56), 3) := by decide +kernel
theorem dL_isBag_68 : decode cL_isBag 68 = .ok (.aload_n 0, 1) := by decide +kernel
theorem dL_isBag_69 : decode cL_isBag 69 = .ok (.iload 5, 2) := by decide +kernel
theorem dL_isBag_71 : decode cL_isBag 71 = .ok (.iload 6, 2) := by decide +kernel
theorem dL_isBag_73 : decode cL_isBag 73 = .ok (.invokevirtual 59, 3) := by decide +kernel
theorem dL_isBag_76 : decode cL_isBag 76 = .ok (.istore 9, 2) := by decide +kernel
theorem dL_isBag_78 : decode cL_isBag 78 = .ok (.iload 4, 2) := by decide +kernel
theorem dL_isBag_80 : decode cL_isBag 80 = .ok (.iload 7, 2) := by decide +kernel
theorem dL_isBag_82 : decode cL_isBag 82 = .ok (.iand, 1) := by decide +kernel
theorem dL_isBag_83 : decode cL_isBag 83 = .ok (.istore 10, 2) := by decide +kernel
theorem dL_isBag_85 : decode cL_isBag 85 = .ok (.aload_n 0, 1) := by decide +kernel
theorem dL_isBag_86 : decode cL_isBag 86 = .ok (.iconst 1, 1) := by decide +kernel
theorem dL_isBag_87 : decode cL_isBag 87 = .ok (.iload 7, 2) := by decide +kernel
theorem dL_isBag_89 : decode cL_isBag 89 = .ok (.iload 5, 2) := by decide +kernel
theorem dL_isBag_91 : decode cL_isBag 91 = .ok (.iload 6, 2) := by decide +kernel
theorem dL_isBag_93 : decode cL_isBag 93 = .ok (.invokestatic 102, 3) := by decide +kernel
theorem dL_isBag_96 : decode cL_isBag 96 = .ok (.iconst 1, 1) := by decide +kernel
theorem dL_isBag_97 : decode cL_isBag 97 = .ok (.if_icmp .ne 7, 3) := by decide +kernel
theorem dL_isBag_100 : decode cL_isBag 100 = .ok (.iconst 1, 1) := by decide +kernel
theorem dL_isBag_101 : decode cL_isBag 101 = .ok (.goto 4, 3) := by decide +kernel
theorem dL_isBag_104 : decode cL_isBag 104 = .ok (.iconst 0, 1) := by decide +kernel
theorem dL_isBag_105 : decode cL_isBag 105 = .ok (.istore 11, 2) := by decide +kernel
theorem dL_isBag_107 : decode cL_isBag 107 = .ok (.iload 9, 2) := by decide +kernel
theorem dL_isBag_109 : decode cL_isBag 109 = .ok (.ifCond .eq 7, 3) := by decide +kernel
theorem dL_isBag_112 : decode cL_isBag 112 = .ok (.iconst 1, 1) := by decide +kernel
theorem dL_isBag_113 : decode cL_isBag 113 = .ok (.goto 4, 3) := by decide +kernel
theorem dL_isBag_116 : decode cL_isBag 116 = .ok (.iconst 0, 1) := by decide +kernel
theorem dL_isBag_117 : decode cL_isBag 117 = .ok (.iload 11, 2) := by decide +kernel
theorem dL_isBag_119 : decode cL_isBag 119 = .ok (.if_icmp .ne 68, 3) := by decide +kernel
theorem dL_isBag_122 : decode cL_isBag 122 = .ok (.iload 9, 2) := by decide +kernel
theorem dL_isBag_124 : decode cL_isBag 124 = .ok (.iload 7, 2) := by decide +kernel
theorem dL_isBag_126 : decode cL_isBag 126 = .ok (.iconst (-1), 1) := by decide +kernel
theorem dL_isBag_127 : decode cL_isBag 127 = .ok (.ixor, 1) := by decide +kernel
theorem dL_isBag_128 : decode cL_isBag 128 = .ok (.iand, 1) := by decide +kernel
theorem dL_isBag_129 : decode cL_isBag 129 = .ok (.ifCond .ne 58, 3) := by decide +kernel
theorem dL_isBag_132 : decode cL_isBag 132 = .ok (.iload 9, 2) := by decide +kernel
theorem dL_isBag_134 : decode cL_isBag 134 = .ok (.iload 8, 2) := by decide +kernel
theorem dL_isBag_136 : decode cL_isBag 136 = .ok (.iand, 1) := by decide +kernel
theorem dL_isBag_137 : decode cL_isBag 137 = .ok (.ifCond .ne 50, 3) := by decide +kernel
theorem dL_isBag_140 : decode cL_isBag 140 = .ok (.iload 11, 2) := by decide +kernel
theorem dL_isBag_142 : decode cL_isBag 142 = .ok (.ifCond .eq 18, 3) := by decide +kernel
theorem dL_isBag_145 : decode cL_isBag 145 = .ok (.aload_n 0, 1) := by decide +kernel
theorem dL_isBag_146 : decode cL_isBag 146 = .ok (.iconst 1, 1) := by decide +kernel
theorem dL_isBag_147 : decode cL_isBag 147 = .ok (.iload 9, 2) := by decide +kernel
theorem dL_isBag_149 : decode cL_isBag 149 = .ok (.iload 5, 2) := by decide +kernel
theorem dL_isBag_151 : decode cL_isBag 151 = .ok (.iload 6, 2) := by decide +kernel
theorem dL_isBag_153 : decode cL_isBag 153 = .ok (.invokestatic 102, 3) := by decide +kernel
theorem dL_isBag_156 : decode cL_isBag 156 = .ok (.iconst 1, 1) := by decide +kernel
theorem dL_isBag_157 : decode cL_isBag 157 = .ok (.if_icmp .ne 30, 3) := by decide +kernel
theorem dL_isBag_160 : decode cL_isBag 160 = .ok (.iload 11, 2) := by decide +kernel
theorem dL_isBag_162 : decode cL_isBag 162 = .ok (.ifCond .eq 21, 3) := by decide +kernel
theorem dL_isBag_165 : decode cL_isBag 165 = .ok (.aload_n 0, 1) := by decide +kernel
theorem dL_isBag_166 : decode cL_isBag 166 = .ok (.iconst 1, 1) := by decide +kernel
theorem dL_isBag_167 : decode cL_isBag 167 = .ok (.iload 9, 2) := by decide +kernel
theorem dL_isBag_169 : decode cL_isBag 169 = .ok (.iload 10, 2) := by decide +kernel
theorem dL_isBag_171 : decode cL_isBag 171 = .ok (.ior, 1) := by decide +kernel
theorem dL_isBag_172 : decode cL_isBag 172 = .ok (.iload 5, 2) := by decide +kernel
theorem dL_isBag_174 : decode cL_isBag 174 = .ok (.iload 6, 2) := by decide +kernel
theorem dL_isBag_176 : decode cL_isBag 176 = .ok (.invokestatic 102, 3) := by decide +kernel
theorem dL_isBag_179 : decode cL_isBag 179 = .ok (.iconst 1, 1) := by decide +kernel
theorem dL_isBag_180 : decode cL_isBag 180 = .ok (.if_icmp .ne 7, 3) := by decide +kernel
theorem dL_isBag_183 : decode cL_isBag 183 = .ok (.iconst 1, 1) := by decide +kernel
theorem dL_isBag_184 : decode cL_isBag 184 = .ok (.goto 4, 3) := by decide +kernel
theorem dL_isBag_187 : decode cL_isBag 187 = .ok (.iconst 0, 1) := by decide +kernel
theorem dL_isBag_188 : decode cL_isBag 188 = .ok (.istore 12, 2) := by decide +kernel
theorem dL_isBag_190 : decode cL_isBag 190 = .ok (.iconst 0, 1) := by decide +kernel
theorem dL_isBag_191 : decode cL_isBag 191 = .ok (.istore 13, 2) := by decide +kernel
theorem dL_isBag_193 : decode cL_isBag 193 = .ok (.iconst 0, 1) := by decide +kernel
theorem dL_isBag_194 : decode cL_isBag 194 = .ok (.istore 14, 2) := by decide +kernel
theorem dL_isBag_196 : decode cL_isBag 196 = .ok (.iconst 0, 1) := by decide +kernel
theorem dL_isBag_197 : decode cL_isBag 197 = .ok (.istore 15, 2) := by decide +kernel
theorem dL_isBag_199 : decode cL_isBag 199 = .ok (.iload 15, 2) := by decide +kernel
theorem dL_isBag_201 : decode cL_isBag 201 = .ok (.aload_n 3, 1) := by decide +kernel
theorem dL_isBag_202 : decode cL_isBag 202 = .ok (.iconst 0, 1) := by decide +kernel
theorem dL_isBag_203 : decode cL_isBag 203 = .ok (.iaload, 1) := by decide +kernel
theorem dL_isBag_204 : decode cL_isBag 204 = .ok (.if_icmp .ge 143, 3) := by decide +kernel
theorem dL_isBag_207 : decode cL_isBag 207 = .ok (.iload 12, 2) := by decide +kernel
theorem dL_isBag_209 : decode cL_isBag 209 = .ok (.ifCond .eq 138, 3) := by decide +kernel
theorem dL_isBag_212 : decode cL_isBag 212 = .ok (.iload 10, 2) := by decide +kernel
theorem dL_isBag_214 : decode cL_isBag 214 = .ok (.iload 15, 2) := by decide +kernel
theorem dL_isBag_216 : decode cL_isBag 216 = .ok (.ishr, 1) := by decide +kernel
theorem dL_isBag_217 : decode cL_isBag 217 = .ok (.iconst 1, 1) := by decide +kernel
theorem dL_isBag_218 : decode cL_isBag 218 = .ok (.iand, 1) := by decide +kernel
theorem dL_isBag_219 : decode cL_isBag 219 = .ok (.iconst 1, 1) := by decide +kernel
theorem dL_isBag_220 : decode cL_isBag 220 = .ok (.if_icmp .ne 7, 3) := by decide +kernel
theorem dL_isBag_223 : decode cL_isBag 223 = .ok (.iconst 1, 1) := by decide +kernel
theorem dL_isBag_224 : decode cL_isBag 224 = .ok (.goto 4, 3) := by decide +kernel
theorem dL_isBag_227 : decode cL_isBag 227 = .ok (.iconst 0, 1) := by decide +kernel
theorem dL_isBag_228 : decode cL_isBag 228 = .ok (.istore 16, 2) := by decide +kernel
theorem dL_isBag_230 : decode cL_isBag 230 = .ok (.iload 13, 2) := by decide +kernel
theorem dL_isBag_232 : decode cL_isBag 232 = .ok (.iload 16, 2) := by decide +kernel
theorem dL_isBag_234 : decode cL_isBag 234 = .ok (.ifCond .eq 28, 3) := by decide +kernel
theorem dL_isBag_237 : decode cL_isBag 237 = .ok (.aload_n 1, 1) := by decide +kernel
theorem dL_isBag_238 : decode cL_isBag 238 = .ok (.iconst 5, 1) := by decide +kernel
theorem dL_isBag_239 : decode cL_isBag 239 = .ok (.iload 15, 2) := by decide +kernel
theorem dL_isBag_241 : decode cL_isBag 241 = .ok (.imul, 1) := by decide +kernel
theorem dL_isBag_242 : decode cL_isBag 242 = .ok (.iaload, 1) := by decide +kernel
theorem dL_isBag_243 : decode cL_isBag 243 = .ok (.ifCond .ne 19, 3) := by decide +kernel
theorem dL_isBag_246 : decode cL_isBag 246 = .ok (.aload_n 1, 1) := by decide +kernel
theorem dL_isBag_247 : decode cL_isBag 247 = .ok (.iconst 5, 1) := by decide +kernel
theorem dL_isBag_248 : decode cL_isBag 248 = .ok (.iload 15, 2) := by decide +kernel
theorem dL_isBag_250 : decode cL_isBag 250 = .ok (.imul, 1) := by decide +kernel
theorem dL_isBag_251 : decode cL_isBag 251 = .ok (.iconst 3, 1) := by decide +kernel
theorem dL_isBag_252 : decode cL_isBag 252 = .ok (.iadd, 1) := by decide +kernel
theorem dL_isBag_253 : decode cL_isBag 253 = .ok (.iaload, 1) := by decide +kernel
theorem dL_isBag_254 : decode cL_isBag 254 = .ok (.aload_n 2, 1) := by decide +kernel
theorem dL_isBag_255 : decode cL_isBag 255 = .ok (.iload 15, 2) := by decide +kernel
theorem dL_isBag_257 : decode cL_isBag 257 = .ok (.iaload, 1) := by decide +kernel
theorem dL_isBag_258 : decode cL_isBag 258 = .ok (.isub, 1) := by decide +kernel
theorem dL_isBag_259 : decode cL_isBag 259 = .ok (.goto 4, 3) := by decide +kernel
theorem dL_isBag_262 : decode cL_isBag 262 = .ok (.iconst 0, 1) := by decide +kernel
theorem dL_isBag_263 : decode cL_isBag 263 = .ok (.iadd, 1) := by decide +kernel
theorem dL_isBag_264 : decode cL_isBag 264 = .ok (.istore 13, 2) := by decide +kernel
theorem dL_isBag_266 : decode cL_isBag 266 = .ok (.iload 14, 2) := by decide +kernel
theorem dL_isBag_268 : decode cL_isBag 268 = .ok (.iload 16, 2) := by decide +kernel
theorem dL_isBag_270 : decode cL_isBag 270 = .ok (.ifCond .eq 29, 3) := by decide +kernel
theorem dL_isBag_273 : decode cL_isBag 273 = .ok (.aload_n 1, 1) := by decide +kernel
theorem dL_isBag_274 : decode cL_isBag 274 = .ok (.iconst 5, 1) := by decide +kernel
theorem dL_isBag_275 : decode cL_isBag 275 = .ok (.iload 15, 2) := by decide +kernel
theorem dL_isBag_277 : decode cL_isBag 277 = .ok (.imul, 1) := by decide +kernel
theorem dL_isBag_278 : decode cL_isBag 278 = .ok (.iaload, 1) := by decide +kernel
theorem dL_isBag_279 : decode cL_isBag 279 = .ok (.iconst 1, 1) := by decide +kernel
theorem dL_isBag_280 : decode cL_isBag 280 = .ok (.if_icmp .ne 19, 3) := by decide +kernel
theorem dL_isBag_283 : decode cL_isBag 283 = .ok (.aload_n 1, 1) := by decide +kernel
theorem dL_isBag_284 : decode cL_isBag 284 = .ok (.iconst 5, 1) := by decide +kernel
theorem dL_isBag_285 : decode cL_isBag 285 = .ok (.iload 15, 2) := by decide +kernel
theorem dL_isBag_287 : decode cL_isBag 287 = .ok (.imul, 1) := by decide +kernel
theorem dL_isBag_288 : decode cL_isBag 288 = .ok (.iconst 3, 1) := by decide +kernel
theorem dL_isBag_289 : decode cL_isBag 289 = .ok (.iadd, 1) := by decide +kernel
theorem dL_isBag_290 : decode cL_isBag 290 = .ok (.iaload, 1) := by decide +kernel
theorem dL_isBag_291 : decode cL_isBag 291 = .ok (.aload_n 2, 1) := by decide +kernel
theorem dL_isBag_292 : decode cL_isBag 292 = .ok (.iload 15, 2) := by decide +kernel
theorem dL_isBag_294 : decode cL_isBag 294 = .ok (.iaload, 1) := by decide +kernel
theorem dL_isBag_295 : decode cL_isBag 295 = .ok (.isub, 1) := by decide +kernel
theorem dL_isBag_296 : decode cL_isBag 296 = .ok (.goto 4, 3) := by decide +kernel
theorem dL_isBag_299 : decode cL_isBag 299 = .ok (.iconst 0, 1) := by decide +kernel
theorem dL_isBag_300 : decode cL_isBag 300 = .ok (.iadd, 1) := by decide +kernel
theorem dL_isBag_301 : decode cL_isBag 301 = .ok (.istore 14, 2) := by decide +kernel
theorem dL_isBag_303 : decode cL_isBag 303 = .ok (.iload 9, 2) := by decide +kernel
theorem dL_isBag_305 : decode cL_isBag 305 = .ok (.iload 15, 2) := by decide +kernel
theorem dL_isBag_307 : decode cL_isBag 307 = .ok (.ishr, 1) := by decide +kernel
theorem dL_isBag_308 : decode cL_isBag 308 = .ok (.iconst 1, 1) := by decide +kernel
theorem dL_isBag_309 : decode cL_isBag 309 = .ok (.iand, 1) := by decide +kernel
theorem dL_isBag_310 : decode cL_isBag 310 = .ok (.ifCond .eq 24, 3) := by decide +kernel
theorem dL_isBag_313 : decode cL_isBag 313 = .ok (.aload_n 0, 1) := by decide +kernel
theorem dL_isBag_314 : decode cL_isBag 314 = .ok (.iconst 1, 1) := by decide +kernel
theorem dL_isBag_315 : decode cL_isBag 315 = .ok (.iload 9, 2) := by decide +kernel
theorem dL_isBag_317 : decode cL_isBag 317 = .ok (.iconst 1, 1) := by decide +kernel
theorem dL_isBag_318 : decode cL_isBag 318 = .ok (.iload 15, 2) := by decide +kernel
theorem dL_isBag_320 : decode cL_isBag 320 = .ok (.ishl, 1) := by decide +kernel
theorem dL_isBag_321 : decode cL_isBag 321 = .ok (.iconst (-1), 1) := by decide +kernel
theorem dL_isBag_322 : decode cL_isBag 322 = .ok (.ixor, 1) := by decide +kernel
theorem dL_isBag_323 : decode cL_isBag 323 = .ok (.iand, 1) := by decide +kernel
theorem dL_isBag_324 : decode cL_isBag 324 = .ok (.iload 5, 2) := by decide +kernel
theorem dL_isBag_326 : decode cL_isBag 326 = .ok (.iload 6, 2) := by decide +kernel
theorem dL_isBag_328 : decode cL_isBag 328 = .ok (.invokestatic 102, 3) := by decide +kernel
theorem dL_isBag_331 : decode cL_isBag 331 = .ok (.ifCond .ne 7, 3) := by decide +kernel
theorem dL_isBag_334 : decode cL_isBag 334 = .ok (.iconst 1, 1) := by decide +kernel
theorem dL_isBag_335 : decode cL_isBag 335 = .ok (.goto 4, 3) := by decide +kernel
theorem dL_isBag_338 : decode cL_isBag 338 = .ok (.iconst 0, 1) := by decide +kernel
theorem dL_isBag_339 : decode cL_isBag 339 = .ok (.istore 12, 2) := by decide +kernel
theorem dL_isBag_341 : decode cL_isBag 341 = .ok (.iinc 15 1, 3) := by decide +kernel
theorem dL_isBag_344 : decode cL_isBag 344 = .ok (.goto (-145), 3) := by decide +kernel
theorem dL_isBag_347 : decode cL_isBag 347 = .ok (.aload_n 0, 1) := by decide +kernel
theorem dL_isBag_348 : decode cL_isBag 348 = .ok (.iconst 1, 1) := by decide +kernel
theorem dL_isBag_349 : decode cL_isBag 349 = .ok (.iload 10, 2) := by decide +kernel
theorem dL_isBag_351 : decode cL_isBag 351 = .ok (.iload 5, 2) := by decide +kernel
theorem dL_isBag_353 : decode cL_isBag 353 = .ok (.iload 6, 2) := by decide +kernel
theorem dL_isBag_355 : decode cL_isBag 355 = .ok (.invokestatic 102, 3) := by decide +kernel
theorem dL_isBag_358 : decode cL_isBag 358 = .ok (.iconst 1, 1) := by decide +kernel
theorem dL_isBag_359 : decode cL_isBag 359 = .ok (.if_icmp .ne 7, 3) := by decide +kernel
theorem dL_isBag_362 : decode cL_isBag 362 = .ok (.iconst 1, 1) := by decide +kernel
theorem dL_isBag_363 : decode cL_isBag 363 = .ok (.goto 4, 3) := by decide +kernel
theorem dL_isBag_366 : decode cL_isBag 366 = .ok (.iconst 0, 1) := by decide +kernel
theorem dL_isBag_367 : decode cL_isBag 367 = .ok (.istore 15, 2) := by decide +kernel
theorem dL_isBag_369 : decode cL_isBag 369 = .ok (.iload 12, 2) := by decide +kernel
theorem dL_isBag_371 : decode cL_isBag 371 = .ok (.ifCond .eq 91, 3) := by decide +kernel
theorem dL_isBag_374 : decode cL_isBag 374 = .ok (.iload 15, 2) := by decide +kernel
theorem dL_isBag_376 : decode cL_isBag 376 = .ok (.ifCond .eq 82, 3) := by decide +kernel
theorem dL_isBag_379 : decode cL_isBag 379 = .ok (.iload 13, 2) := by decide +kernel
theorem dL_isBag_381 : decode cL_isBag 381 = .ok (.iload 5, 2) := by decide +kernel
theorem dL_isBag_383 : decode cL_isBag 383 = .ok (.if_icmp .lt 79, 3) := by decide +kernel
theorem dL_isBag_386 : decode cL_isBag 386 = .ok (.iload 14, 2) := by decide +kernel
theorem dL_isBag_388 : decode cL_isBag 388 = .ok (.iload 5, 2) := by decide +kernel
theorem dL_isBag_390 : decode cL_isBag 390 = .ok (.if_icmp .lt 72, 3) := by decide +kernel
theorem dL_isBag_393 : decode cL_isBag 393 = .ok (.iload 11, 2) := by decide +kernel
theorem dL_isBag_395 : decode cL_isBag 395 = .ok (.ifCond .eq 67, 3) := by decide +kernel
theorem dL_isBag_398 : decode cL_isBag 398 = .ok (.aload_n 0, 1) := by decide +kernel
theorem dL_isBag_399 : decode cL_isBag 399 = .ok (.iconst 1, 1) := by decide +kernel
theorem dL_isBag_400 : decode cL_isBag 400 = .ok (.iload 10, 2) := by decide +kernel
theorem dL_isBag_402 : decode cL_isBag 402 = .ok (.iload 5, 2) := by decide +kernel
theorem dL_isBag_404 : decode cL_isBag 404 = .ok (.iconst 1, 1) := by decide +kernel
theorem dL_isBag_405 : decode cL_isBag 405 = .ok (.if_icmp .le 10, 3) := by decide +kernel
theorem dL_isBag_408 : decode cL_isBag 408 = .ok (.iload 5, 2) := by decide +kernel
theorem dL_isBag_410 : decode cL_isBag 410 = .ok (.iconst 1, 1) := by decide +kernel
theorem dL_isBag_411 : decode cL_isBag 411 = .ok (.isub, 1) := by decide +kernel
theorem dL_isBag_412 : decode cL_isBag 412 = .ok (.goto 4, 3) := by decide +kernel
theorem dL_isBag_415 : decode cL_isBag 415 = .ok (.iconst 1, 1) := by decide +kernel
theorem dL_isBag_416 : decode cL_isBag 416 = .ok (.iload 6, 2) := by decide +kernel
theorem dL_isBag_418 : decode cL_isBag 418 = .ok (.iconst 2, 1) := by decide +kernel
theorem dL_isBag_419 : decode cL_isBag 419 = .ok (.idiv, 1) := by decide +kernel
theorem dL_isBag_420 : decode cL_isBag 420 = .ok (.invokestatic 102, 3) := by decide +kernel
theorem dL_isBag_423 : decode cL_isBag 423 = .ok (.iconst 1, 1) := by decide +kernel
theorem dL_isBag_424 : decode cL_isBag 424 = .ok (.if_icmp .ne 38, 3) := by decide +kernel
theorem dL_isBag_427 : decode cL_isBag 427 = .ok (.aload_n 0, 1) := by decide +kernel
theorem dL_isBag_428 : decode cL_isBag 428 = .ok (.iconst 1, 1) := by decide +kernel
theorem dL_isBag_429 : decode cL_isBag 429 = .ok (.iload 10, 2) := by decide +kernel
theorem dL_isBag_431 : decode cL_isBag 431 = .ok (.iload 8, 2) := by decide +kernel
theorem dL_isBag_433 : decode cL_isBag 433 = .ok (.ior, 1) := by decide +kernel
theorem dL_isBag_434 : decode cL_isBag 434 = .ok (.iload 5, 2) := by decide +kernel
theorem dL_isBag_436 : decode cL_isBag 436 = .ok (.iload 6, 2) := by decide +kernel
theorem dL_isBag_438 : decode cL_isBag 438 = .ok (.invokestatic 102, 3) := by decide +kernel
theorem dL_isBag_441 : decode cL_isBag 441 = .ok (.iconst 1, 1) := by decide +kernel
theorem dL_isBag_442 : decode cL_isBag 442 = .ok (.if_icmp .ne 20, 3) := by decide +kernel
theorem dL_isBag_445 : decode cL_isBag 445 = .ok (.iload 9, 2) := by decide +kernel
theorem dL_isBag_447 : decode cL_isBag 447 = .ok (.invokestatic 106, 3) := by decide +kernel
theorem dL_isBag_450 : decode cL_isBag 450 = .ok (.iload 10, 2) := by decide +kernel
theorem dL_isBag_452 : decode cL_isBag 452 = .ok (.invokestatic 106, 3) := by decide +kernel
theorem dL_isBag_455 : decode cL_isBag 455 = .ok (.if_icmp .gt 7, 3) := by decide +kernel
theorem dL_isBag_458 : decode cL_isBag 458 = .ok (.iconst 1, 1) := by decide +kernel
theorem dL_isBag_459 : decode cL_isBag 459 = .ok (.goto 4, 3) := by decide +kernel
theorem dL_isBag_462 : decode cL_isBag 462 = .ok (.iconst 0, 1) := by decide +kernel
theorem dL_isBag_463 : decode cL_isBag 463 = .ok (.ireturn, 1) := by decide +kernel
theorem dL_bits_0 : decode cL_bits 0 = .ok (.iconst 0, 1) := by decide +kernel
theorem dL_bits_1 : decode cL_bits 1 = .ok (.istore_n 1, 1) := by decide +kernel
theorem dL_bits_2 : decode cL_bits 2 = .ok (.iconst 0, 1) := by decide +kernel
theorem dL_bits_3 : decode cL_bits 3 = .ok (.istore_n 2, 1) := by decide +kernel
theorem dL_bits_4 : decode cL_bits 4 = .ok (.iload_n 2, 1) := by decide +kernel
theorem dL_bits_5 : decode cL_bits 5 = .ok (.bipush 12, 2) := by decide +kernel
theorem dL_bits_7 : decode cL_bits 7 = .ok (.if_icmp .ge 17, 3) := by decide +kernel
theorem dL_bits_10 : decode cL_bits 10 = .ok (.iload_n 1, 1) := by decide +kernel
theorem dL_bits_11 : decode cL_bits 11 = .ok (.iload_n 0, 1) := by decide +kernel
theorem dL_bits_12 : decode cL_bits 12 = .ok (.iload_n 2, 1) := by decide +kernel
theorem dL_bits_13 : decode cL_bits 13 = .ok (.ishr, 1) := by decide +kernel
theorem dL_bits_14 : decode cL_bits 14 = .ok (.iconst 1, 1) := by decide +kernel
theorem dL_bits_15 : decode cL_bits 15 = .ok (.iand, 1) := by decide +kernel
theorem dL_bits_16 : decode cL_bits 16 = .ok (.iadd, 1) := by decide +kernel
theorem dL_bits_17 : decode cL_bits 17 = .ok (.istore_n 1, 1) := by decide +kernel
theorem dL_bits_18 : decode cL_bits 18 = .ok (.iinc 2 1, 3) := by decide +kernel
theorem dL_bits_21 : decode cL_bits 21 = .ok (.goto (-17), 3) := by decide +kernel
theorem dL_bits_24 : decode cL_bits 24 = .ok (.iload_n 1, 1) := by decide +kernel
theorem dL_bits_25 : decode cL_bits 25 = .ok (.ireturn, 1) := by decide +kernel
set_option maxRecDepth 20000 in
theorem ggL_isRefused_L_all : GoodIn wsL_isRefused wsL_all := goodIn_ca (goodIn_ca (goodIn_ca (goodIn_r _ [4, 5, 6, 7, 8, 9, 10, 11, 12, 13, 14, 15, 16, 17, 18, 19, 20, 21, 22, 23, 24, 25, 26, 27, 28, 29, 30, 31, 32, 33, 34, 35, 36, 37, 38, 39, 40, 41, 42, 43, 44, 45, 46, 47, 48, 49, 50, 51, 52, 53, 54, 55, 56, 57, 58, 59, 60, 61, 62, 63, 64, 65, 66, 67, 68, 69, 70, 71, 72, 73, 74, 75, 76, 77, 78, 79, 80, 81, 82, 83, 84, 85, 86, 87, 88, 89, 90, 91, 92, 93, 94, 95, 96, 97, 98, 99, 100, 3, 101, 102, 103, 104, 105, 106, 107, 108, 109, 110, 111, 112, 113, 114, 115, 116, 117, 118, 119, 120, 121, 122, 123, 124, 125, 126, 127, 128, 129, 130, 131, 132, 133, 134, 135, 136, 137, 138, 139, 140, 141, 142, 143, 144, 145, 146, 147, 148, 149, 150, 151, 152, 153, 154, 155, 156, 157, 158, 159, 160, 161, 162, 163, 164, 165, 166, 167, 168, 169, 170, 171, 172, 173, 174, 175, 176, 177, 178, 179, 180, 181, 182, 183, 184, 185, 186, 187, 188, 189, 190, 191, 192, 193, 194, 195, 196, 197, 198, 199, 200, 250, 251, 252, 253, 254, 255, 256, 257, 258, 259, 260, 261] (by decide +kernel) (by decide +kernel)) (goodIn_sub (fun _ h => List.mem_cons_of_mem _ (List.mem_append_left _ (List.mem_append_left _ (List.mem_append_right _ h)))) (by decide +kernel))) (goodIn_sub (fun _ h => List.mem_cons_of_mem _ (List.mem_append_left _ (List.mem_append_right _ h))) (by decide +kernel))) (goodIn_sub (fun _ h => List.mem_cons_of_mem _ (List.mem_append_right _ h)) (by decide +kernel))
set_option maxRecDepth 20000 in
theorem gL_isRefused_L_all : GoodIn wsL_isRefused (va_wsS RL 109 yL_all wsL_all) := goodIn_app (goodIn_of _ (by decide +kernel)) ggL_isRefused_L_all
set_option maxRecDepth 20000 in
theorem ggL_isRefused_L_add : GoodIn wsL_isRefused wsL_add := goodIn_ca (goodIn_ca (goodIn_r _ [203, 103, 104, 204, 205, 206, 12, 207, 26, 27, 152, 153, 28, 47, 57, 82, 143, 130, 48, 14, 32, 33, 34, 208, 209, 210, 123, 124, 125, 250, 251, 252, 253, 254, 255, 256, 257, 258, 259, 260, 261] (by decide +kernel) (by decide +kernel)) (goodIn_sub (fun _ h => List.mem_cons_of_mem _ (List.mem_append_left _ (List.mem_append_left _ (List.mem_append_right _ h)))) (by decide +kernel))) (goodIn_sub (fun _ h => List.mem_cons_of_mem _ (List.mem_append_right _ h)) (by decide +kernel))
set_option maxRecDepth 20000 in
theorem gL_isRefused_L_add : GoodIn wsL_isRefused (va_wsS RL 113 yL_add wsL_add) := goodIn_app (goodIn_of _ (by decide +kernel)) ggL_isRefused_L_add
set_option maxRecDepth 20000 in
theorem ggL_isRefused_L_of : GoodIn wsL_isRefused wsL_of := goodIn_ca (goodIn_ca (goodIn_ca (goodIn_r _ [101, 102, 103, 104, 105, 106, 107, 12, 108, 109, 110, 14, 49, 50, 51, 52, 15, 16, 17, 18, 19, 20, 21, 111, 112, 113, 114, 48, 22, 23, 24, 25, 26, 27, 28, 29, 30, 31, 32, 33, 34, 35, 36, 37, 38, 39, 40, 41, 42, 43, 44, 45, 46, 47, 53, 54, 55, 56, 57, 58, 59, 60, 61, 62, 63, 64, 65, 66, 67, 68, 69, 70, 71, 72, 73, 74, 75, 76, 77, 78, 79, 80, 81, 82, 115, 116, 117, 118, 83, 84, 85, 86, 87, 88, 89, 90, 91, 92, 93, 94, 95, 96, 97, 98, 119, 120, 121, 122, 123, 124, 125, 126, 127, 128, 129, 130, 131, 132, 133, 134, 135, 136, 137, 138, 139, 140, 141, 142, 143, 144, 145, 146, 147, 148, 149, 150, 151, 152, 153, 154, 155, 156, 157, 158, 159, 160, 161, 162, 163, 164, 165, 166, 167, 168, 169, 170, 171, 172, 173, 174, 175, 176, 177, 178, 179, 180, 181, 182, 183, 184, 185, 186, 187, 188, 189, 190, 191, 192, 193, 194, 195, 196, 197, 198, 199, 200, 250, 251, 252, 253, 254, 255, 256, 257, 258, 259, 260, 261] (by decide +kernel) (by decide +kernel)) (goodIn_sub (fun _ h => List.mem_cons_of_mem _ (List.mem_append_left _ (List.mem_append_right _ h))) (by decide +kernel))) (goodIn_sub (fun _ h => List.mem_cons_of_mem _ (List.mem_append_left _ (List.mem_append_left _ (List.mem_append_right _ h)))) (by decide +kernel))) (goodIn_sub (fun _ h => List.mem_cons_of_mem _ (List.mem_append_right _ h)) (by decide +kernel))
set_option maxRecDepth 20000 in
theorem gL_isRefused_L_of : GoodIn wsL_isRefused (va_wsS RL 81 yL_of wsL_of) := goodIn_app (goodIn_of _ (by decide +kernel)) ggL_isRefused_L_of
set_option maxRecDepth 20000 in
theorem ggL_isRefused_L_yes : GoodIn wsL_isRefused wsL_yes := goodIn_ca (goodIn_r _ [213, 103, 214, 215, 216, 12, 217, 26, 27, 62, 218, 208, 209, 210, 32, 33, 34, 58, 59, 60, 61, 63, 64, 65, 219, 220, 221, 222, 14, 158, 159, 160, 161, 162, 163, 164, 165, 28, 166, 167, 168, 169, 170, 171, 172, 173, 174, 175, 176, 177, 47, 49, 50, 51, 52, 53, 54, 55, 56, 57, 74, 75, 76, 77, 78, 79, 80, 81, 82, 182, 183, 184, 185, 186, 187, 188, 189, 15, 16, 17, 18, 19, 20, 21, 190, 191, 192, 193, 48, 194, 195, 196, 197, 198, 199, 200, 250, 251, 252, 253, 254, 255, 256, 257, 258, 259, 260, 261] (by decide +kernel) (by decide +kernel)) (goodIn_sub (fun _ h => List.mem_cons_of_mem _ (List.mem_append_left _ (List.mem_append_left _ (List.mem_append_right _ h)))) (by decide +kernel))
set_option maxRecDepth 20000 in
theorem gL_isRefused_L_yes : GoodIn wsL_isRefused (va_wsS RL 102 yL_yes wsL_yes) := goodIn_app (goodIn_of _ (by decide +kernel)) ggL_isRefused_L_yes
set_option maxRecDepth 20000 in
theorem ggL_isRefused_L_outfit : GoodIn wsL_isRefused wsL_outfit := goodIn_ca (goodIn_ca (goodIn_ca (goodIn_r _ [225, 102, 103, 104, 226, 227, 228, 12, 229, 109, 110, 26, 27, 230, 231, 232, 233, 49, 50, 51, 52, 14, 170, 171, 172, 173, 174, 175, 176, 177, 47, 39, 40, 41, 42, 43, 44, 45, 46, 48, 53, 54, 55, 56, 57, 58, 59, 60, 61, 62, 63, 64, 65, 66, 67, 68, 69, 234, 235, 236, 237, 87, 88, 89, 32, 33, 34, 90, 91, 92, 93, 94, 95, 96, 97, 98, 238, 239, 240, 241, 152, 153, 242, 243, 244, 245, 131, 132, 133, 134, 246, 247, 248, 249, 74, 75, 76, 77, 78, 79, 80, 81, 82, 250, 251, 252, 253, 254, 255, 256, 257, 258, 259, 260, 261] (by decide +kernel) (by decide +kernel)) (goodIn_sub (fun _ h => List.mem_cons_of_mem _ (List.mem_append_left _ (List.mem_append_right _ h))) (by decide +kernel))) (goodIn_sub (fun _ h => List.mem_cons_of_mem _ (List.mem_append_left _ (List.mem_append_left _ (List.mem_append_right _ h)))) (by decide +kernel))) (goodIn_sub (fun _ h => List.mem_cons_of_mem _ (List.mem_append_right _ h)) (by decide +kernel))
set_option maxRecDepth 20000 in
theorem gL_isRefused_L_outfit : GoodIn wsL_isRefused (va_wsS RL 91 yL_outfit wsL_outfit) := goodIn_app (goodIn_of _ (by decide +kernel)) ggL_isRefused_L_outfit
theorem dL_isRefused_0 : decode cL_isRefused 0 = .ok (.iload_n 2, 1) := by decide +kernel
theorem dL_isRefused_1 : decode cL_isRefused 1 = .ok (.iconst 2, 1) := by decide +kernel
theorem dL_isRefused_2 : decode cL_isRefused 2 = .ok (.irem, 1) := by decide +kernel
theorem dL_isRefused_3 : decode cL_isRefused 3 = .ok (.ifCond .ne 7, 3) := by decide +kernel
theorem dL_isRefused_6 : decode cL_isRefused 6 = .ok (.iconst 1, 1) := by decide +kernel
theorem dL_isRefused_7 : decode cL_isRefused 7 = .ok (.goto 4, 3) := by decide +kernel
theorem dL_isRefused_10 : decode cL_isRefused 10 = .ok (.iconst 0, 1) := by decide +kernel
theorem dL_isRefused_11 : decode cL_isRefused 11 = .ok (.istore_n 3, 1) := by decide +kernel
theorem dL_isRefused_12 : decode cL_isRefused 12 = .ok (.iload_n 3, 1) := by decide +kernel
theorem dL_isRefused_13 : decode cL_isRefused 13 = .ok (.ifCond .eq 12, 3) := by decide +kernel
theorem dL_isRefused_16 : decode cL_isRefused 16 = .ok (.iconst (-1), 1) := by decide +kernel
theorem dL_isRefused_17 : decode cL_isRefused 17 = .ok (.iload_n 2, 1) := by decide +kernel
theorem dL_isRefused_18 : decode cL_isRefused 18 = .ok (.bipush 30, 2) := by decide +kernel
theorem dL_isRefused_20 : decode cL_isRefused 20 = .ok (.irem, 1) := by decide +kernel
theorem dL_isRefused_21 : decode cL_isRefused 21 = .ok (.isub, 1) := by decide +kernel
theorem dL_isRefused_22 : decode cL_isRefused 22 = .ok (.goto 11, 3) := by decide +kernel
theorem dL_isRefused_25 : decode cL_isRefused 25 = .ok (.aload_n 1, 1) := by decide +kernel
theorem dL_isRefused_26 : decode cL_isRefused 26 = .ok (.iconst 0, 1) := by decide +kernel
theorem dL_isRefused_27 : decode cL_isRefused 27 = .ok (.iaload, 1) := by decide +kernel
theorem dL_isRefused_28 : decode cL_isRefused 28 = .ok (.iload_n 2, 1) := by decide +kernel
theorem dL_isRefused_29 : decode cL_isRefused 29 = .ok (.bipush 30, 2) := by decide +kernel
theorem dL_isRefused_31 : decode cL_isRefused 31 = .ok (.irem, 1) := by decide +kernel
theorem dL_isRefused_32 : decode cL_isRefused 32 = .ok (.iadd, 1) := by decide +kernel
theorem dL_isRefused_33 : decode cL_isRefused 33 = .ok (.istore 4, 2) := by decide +kernel
theorem dL_isRefused_35 : decode cL_isRefused 35 = .ok (.iload_n 3, 1) := by decide +kernel
theorem dL_isRefused_36 : decode cL_isRefused 36 = .ok (.ifCond .eq 13, 3) := by decide +kernel
theorem dL_isRefused_39 : decode cL_isRefused 39 = .ok (.bipush (-2), 2) := by decide +kernel
theorem dL_isRefused_41 : decode cL_isRefused 41 = .ok (.iload_n 2, 1) := by decide +kernel
theorem dL_isRefused_42 : decode cL_isRefused 42 = .ok (.bipush 30, 2) := by decide +kernel
theorem dL_isRefused_44 : decode cL_isRefused 44 = .ok (.irem, 1) := by decide +kernel
theorem dL_isRefused_45 : decode cL_isRefused 45 = .ok (.isub, 1) := by decide +kernel
theorem dL_isRefused_46 : decode cL_isRefused 46 = .ok (.goto 5, 3) := by decide +kernel
theorem dL_isRefused_49 : decode cL_isRefused 49 = .ok (.iload 4, 2) := by decide +kernel
theorem dL_isRefused_51 : decode cL_isRefused 51 = .ok (.istore 5, 2) := by decide +kernel
theorem dL_isRefused_53 : decode cL_isRefused 53 = .ok (.aload_n 0, 1) := by decide +kernel
theorem dL_isRefused_54 : decode cL_isRefused 54 = .ok (.aload_n 1, 1) := by decide +kernel
theorem dL_isRefused_55 : decode cL_isRefused 55 = .ok (.invokestatic 109, 3) := by decide +kernel
theorem dL_isRefused_58 : decode cL_isRefused 58 = .ok (.lstore 6, 2) := by decide +kernel
theorem dL_isRefused_60 : decode cL_isRefused 60 = .ok (.aload_n 0, 1) := by decide +kernel
theorem dL_isRefused_61 : decode cL_isRefused 61 = .ok (.iload_n 3, 1) := by decide +kernel
theorem dL_isRefused_62 : decode cL_isRefused 62 = .ok (.ifCond .eq 7, 3) := by decide +kernel
theorem dL_isRefused_65 : decode cL_isRefused 65 = .ok (.iconst (-1), 1) := by decide +kernel
theorem dL_isRefused_66 : decode cL_isRefused 66 = .ok (.goto 4, 3) := by decide +kernel
theorem dL_isRefused_69 : decode cL_isRefused 69 = .ok (.iconst 3, 1) := by decide +kernel
theorem dL_isRefused_70 : decode cL_isRefused 70 = .ok (.iconst 0, 1) := by decide +kernel
theorem dL_isRefused_71 : decode cL_isRefused 71 = .ok (.iconst 0, 1) := by decide +kernel
theorem dL_isRefused_72 : decode cL_isRefused 72 = .ok (.iconst 1, 1) := by decide +kernel
theorem dL_isRefused_73 : decode cL_isRefused 73 = .ok (.iconst 0, 1) := by decide +kernel
theorem dL_isRefused_74 : decode cL_isRefused 74 = .ok (.invokestatic 113, 3) := by decide +kernel
theorem dL_isRefused_77 : decode cL_isRefused 77 = .ok (.sipush (-982), 3) := by decide +kernel
theorem dL_isRefused_80 : decode cL_isRefused 80 = .ok (.if_icmp .ne 372, 3) := by decide +kernel
theorem dL_isRefused_83 : decode cL_isRefused 83 = .ok (.aload_n 0, 1) := by decide +kernel
theorem dL_isRefused_84 : decode cL_isRefused 84 = .ok (.iconst 0, 1) := by decide +kernel
theorem dL_isRefused_85 : decode cL_isRefused 85 = .ok (.iload_n 3, 1) := by decide +kernel
theorem dL_isRefused_86 : decode cL_isRefused 86 = .ok (.ifCond .eq 7, 3) := by decide +kernel
theorem dL_isRefused_89 : decode cL_isRefused 89 = .ok (.iconst (-1), 1) := by decide +kernel
theorem dL_isRefused_90 : decode cL_isRefused 90 = .ok (.goto 5, 3) := by decide +kernel
theorem dL_isRefused_93 : decode cL_isRefused 93 = .ok (.bipush 8, 2) := by decide +kernel
theorem dL_isRefused_95 : decode cL_isRefused 95 = .ok (.iconst 0, 1) := by decide +kernel
theorem dL_isRefused_96 : decode cL_isRefused 96 = .ok (.iconst 1, 1) := by decide +kernel
theorem dL_isRefused_97 : decode cL_isRefused 97 = .ok (.iconst 0, 1) := by decide +kernel
theorem dL_isRefused_98 : decode cL_isRefused 98 = .ok (.invokestatic 113, 3) := by decide +kernel
theorem dL_isRefused_101 : decode cL_isRefused 101 = .ok (.sipush (-982), 3) := by decide +kernel
theorem dL_isRefused_104 : decode cL_isRefused 104 = .ok (.if_icmp .ne 348, 3) := by decide +kernel
theorem dL_isRefused_107 : decode cL_isRefused 107 = .ok (.aload_n 0, 1) := by decide +kernel
theorem dL_isRefused_108 : decode cL_isRefused 108 = .ok (.iconst 0, 1) := by decide +kernel
theorem dL_isRefused_109 : decode cL_isRefused 109 = .ok (.iconst 0, 1) := by decide +kernel
theorem dL_isRefused_110 : decode cL_isRefused 110 = .ok (.iload_n 3, 1) := by decide +kernel
theorem dL_isRefused_111 : decode cL_isRefused 111 = .ok (.ifCond .eq 7, 3) := by decide +kernel
theorem dL_isRefused_114 : decode cL_isRefused 114 = .ok (.iconst (-1), 1) := by decide +kernel
theorem dL_isRefused_115 : decode cL_isRefused 115 = .ok (.goto 5, 3) := by decide +kernel
theorem dL_isRefused_118 : decode cL_isRefused 118 = .ok (.bipush 11, 2) := by decide +kernel
theorem dL_isRefused_120 : decode cL_isRefused 120 = .ok (.iconst 1, 1) := by decide +kernel
theorem dL_isRefused_121 : decode cL_isRefused 121 = .ok (.iconst 0, 1) := by decide +kernel
theorem dL_isRefused_122 : decode cL_isRefused 122 = .ok (.invokestatic 113, 3) := by decide +kernel
theorem dL_isRefused_125 : decode cL_isRefused 125 = .ok (.sipush (-982), 3) := by decide +kernel
theorem dL_isRefused_128 : decode cL_isRefused 128 = .ok (.if_icmp .ne 324, 3) := by decide +kernel
theorem dL_isRefused_131 : decode cL_isRefused 131 = .ok (.aload_n 0, 1) := by decide +kernel
theorem dL_isRefused_132 : decode cL_isRefused 132 = .ok (.iconst 0, 1) := by decide +kernel
theorem dL_isRefused_133 : decode cL_isRefused 133 = .ok (.iconst 0, 1) := by decide +kernel
theorem dL_isRefused_134 : decode cL_isRefused 134 = .ok (.iconst 0, 1) := by decide +kernel
theorem dL_isRefused_135 : decode cL_isRefused 135 = .ok (.iload_n 3, 1) := by decide +kernel
theorem dL_isRefused_136 : decode cL_isRefused 136 = .ok (.ifCond .eq 7, 3) := by decide +kernel
theorem dL_isRefused_139 : decode cL_isRefused 139 = .ok (.iconst 0, 1) := by decide +kernel
theorem dL_isRefused_140 : decode cL_isRefused 140 = .ok (.goto 5, 3) := by decide +kernel
theorem dL_isRefused_143 : decode cL_isRefused 143 = .ok (.bipush 10, 2) := by decide +kernel
theorem dL_isRefused_145 : decode cL_isRefused 145 = .ok (.iconst 0, 1) := by decide +kernel
theorem dL_isRefused_146 : decode cL_isRefused 146 = .ok (.invokestatic 113, 3) := by decide +kernel
theorem dL_isRefused_149 : decode cL_isRefused 149 = .ok (.sipush (-982), 3) := by decide +kernel
theorem dL_isRefused_152 : decode cL_isRefused 152 = .ok (.if_icmp .ne 300, 3) := by decide +kernel
theorem dL_isRefused_155 : decode cL_isRefused 155 = .ok (.aload_n 0, 1) := by decide +kernel
theorem dL_isRefused_156 : decode cL_isRefused 156 = .ok (.iconst 0, 1) := by decide +kernel
theorem dL_isRefused_157 : decode cL_isRefused 157 = .ok (.iconst 0, 1) := by decide +kernel
theorem dL_isRefused_158 : decode cL_isRefused 158 = .ok (.iconst 0, 1) := by decide +kernel
theorem dL_isRefused_159 : decode cL_isRefused 159 = .ok (.iconst 1, 1) := by decide +kernel
theorem dL_isRefused_160 : decode cL_isRefused 160 = .ok (.iload_n 3, 1) := by decide +kernel
theorem dL_isRefused_161 : decode cL_isRefused 161 = .ok (.ifCond .eq 7, 3) := by decide +kernel
theorem dL_isRefused_164 : decode cL_isRefused 164 = .ok (.iconst (-1), 1) := by decide +kernel
theorem dL_isRefused_165 : decode cL_isRefused 165 = .ok (.goto 4, 3) := by decide +kernel
theorem dL_isRefused_168 : decode cL_isRefused 168 = .ok (.iconst 3, 1) := by decide +kernel
theorem dL_isRefused_169 : decode cL_isRefused 169 = .ok (.invokestatic 113, 3) := by decide +kernel
theorem dL_isRefused_172 : decode cL_isRefused 172 = .ok (.sipush (-982), 3) := by decide +kernel
theorem dL_isRefused_175 : decode cL_isRefused 175 = .ok (.if_icmp .ne 277, 3) := by decide +kernel
theorem dL_isRefused_178 : decode cL_isRefused 178 = .ok (.aload_n 1, 1) := by decide +kernel
theorem dL_isRefused_179 : decode cL_isRefused 179 = .ok (.iconst 0, 1) := by decide +kernel
theorem dL_isRefused_180 : decode cL_isRefused 180 = .ok (.iaload, 1) := by decide +kernel
theorem dL_isRefused_181 : decode cL_isRefused 181 = .ok (.bipush 12, 2) := by decide +kernel
theorem dL_isRefused_183 : decode cL_isRefused 183 = .ok (.if_icmp .lt 18, 3) := by decide +kernel
theorem dL_isRefused_186 : decode cL_isRefused 186 = .ok (.aload_n 0, 1) := by decide +kernel
theorem dL_isRefused_187 : decode cL_isRefused 187 = .ok (.iconst 0, 1) := by decide +kernel
theorem dL_isRefused_188 : decode cL_isRefused 188 = .ok (.iconst 0, 1) := by decide +kernel
theorem dL_isRefused_189 : decode cL_isRefused 189 = .ok (.iconst 0, 1) := by decide +kernel
theorem dL_isRefused_190 : decode cL_isRefused 190 = .ok (.iconst 1, 1) := by decide +kernel
theorem dL_isRefused_191 : decode cL_isRefused 191 = .ok (.iconst 0, 1) := by decide +kernel
theorem dL_isRefused_192 : decode cL_isRefused 192 = .ok (.invokestatic 113, 3) := by decide +kernel
theorem dL_isRefused_195 : decode cL_isRefused 195 = .ok (.sipush (-983), 3) := by decide +kernel
theorem dL_isRefused_198 : decode cL_isRefused 198 = .ok (.if_icmp .ne 254, 3) := by decide +kernel
theorem dL_isRefused_201 : decode cL_isRefused 201 = .ok (.aload_n 0, 1) := by decide +kernel
theorem dL_isRefused_202 : decode cL_isRefused 202 = .ok (.iconst 0, 1) := by decide +kernel
theorem dL_isRefused_203 : decode cL_isRefused 203 = .ok (.iload 4, 2) := by decide +kernel
theorem dL_isRefused_205 : decode cL_isRefused 205 = .ok (.iconst 0, 1) := by decide +kernel
theorem dL_isRefused_206 : decode cL_isRefused 206 = .ok (.invokestatic 81, 3) := by decide +kernel
theorem dL_isRefused_209 : decode cL_isRefused 209 = .ok (.sipush (-981), 3) := by decide +kernel
theorem dL_isRefused_212 : decode cL_isRefused 212 = .ok (.if_icmp .ne 240, 3) := by decide +kernel
theorem dL_isRefused_215 : decode cL_isRefused 215 = .ok (.aload_n 0, 1) := by decide +kernel
theorem dL_isRefused_216 : decode cL_isRefused 216 = .ok (.iconst 1, 1) := by decide +kernel
theorem dL_isRefused_217 : decode cL_isRefused 217 = .ok (.iload 4, 2) := by decide +kernel
theorem dL_isRefused_219 : decode cL_isRefused 219 = .ok (.iconst 0, 1) := by decide +kernel
theorem dL_isRefused_220 : decode cL_isRefused 220 = .ok (.invokestatic 81, 3) := by decide +kernel
theorem dL_isRefused_223 : decode cL_isRefused 223 = .ok (.sipush (-981), 3) := by decide +kernel
theorem dL_isRefused_226 : decode cL_isRefused 226 = .ok (.if_icmp .ne 226, 3) := by decide +kernel
theorem dL_isRefused_229 : decode cL_isRefused 229 = .ok (.aload_n 0, 1) := by decide +kernel
theorem dL_isRefused_230 : decode cL_isRefused 230 = .ok (.iconst 2, 1) := by decide +kernel
theorem dL_isRefused_231 : decode cL_isRefused 231 = .ok (.iload_n 3, 1) := by decide +kernel
theorem dL_isRefused_232 : decode cL_isRefused 232 = .ok (.ifCond .eq 12, 3) := by decide +kernel
theorem dL_isRefused_235 : decode cL_isRefused 235 = .ok (.iconst (-1), 1) := by decide +kernel
theorem dL_isRefused_236 : decode cL_isRefused 236 = .ok (.iload_n 2, 1) := by decide +kernel
theorem dL_isRefused_237 : decode cL_isRefused 237 = .ok (.bipush 30, 2) := by decide +kernel
theorem dL_isRefused_239 : decode cL_isRefused 239 = .ok (.irem, 1) := by decide +kernel
theorem dL_isRefused_240 : decode cL_isRefused 240 = .ok (.isub, 1) := by decide +kernel
theorem dL_isRefused_241 : decode cL_isRefused 241 = .ok (.goto 10, 3) := by decide +kernel
theorem dL_isRefused_244 : decode cL_isRefused 244 = .ok (.bipush 31, 2) := by decide +kernel
theorem dL_isRefused_246 : decode cL_isRefused 246 = .ok (.iload_n 2, 1) := by decide +kernel
theorem dL_isRefused_247 : decode cL_isRefused 247 = .ok (.bipush 30, 2) := by decide +kernel
theorem dL_isRefused_249 : decode cL_isRefused 249 = .ok (.irem, 1) := by decide +kernel
theorem dL_isRefused_250 : decode cL_isRefused 250 = .ok (.iadd, 1) := by decide +kernel
theorem dL_isRefused_251 : decode cL_isRefused 251 = .ok (.iconst 0, 1) := by decide +kernel
theorem dL_isRefused_252 : decode cL_isRefused 252 = .ok (.invokestatic 81, 3) := by decide +kernel
theorem dL_isRefused_255 : decode cL_isRefused 255 = .ok (.sipush (-982), 3) := by decide +kernel
theorem dL_isRefused_258 : decode cL_isRefused 258 = .ok (.if_icmp .ne 194, 3) := by decide +kernel
theorem dL_isRefused_261 : decode cL_isRefused 261 = .ok (.aload_n 0, 1) := by decide +kernel
theorem dL_isRefused_262 : decode cL_isRefused 262 = .ok (.iconst 3, 1) := by decide +kernel
theorem dL_isRefused_263 : decode cL_isRefused 263 = .ok (.iload 4, 2) := by decide +kernel
theorem dL_isRefused_265 : decode cL_isRefused 265 = .ok (.iconst (-1), 1) := by decide +kernel
theorem dL_isRefused_266 : decode cL_isRefused 266 = .ok (.invokestatic 81, 3) := by decide +kernel
theorem dL_isRefused_269 : decode cL_isRefused 269 = .ok (.sipush (-981), 3) := by decide +kernel
theorem dL_isRefused_272 : decode cL_isRefused 272 = .ok (.if_icmp .ne 180, 3) := by decide +kernel
theorem dL_isRefused_275 : decode cL_isRefused 275 = .ok (.aload_n 0, 1) := by decide +kernel
theorem dL_isRefused_276 : decode cL_isRefused 276 = .ok (.iconst 4, 1) := by decide +kernel
theorem dL_isRefused_277 : decode cL_isRefused 277 = .ok (.iload_n 3, 1) := by decide +kernel
theorem dL_isRefused_278 : decode cL_isRefused 278 = .ok (.ifCond .eq 7, 3) := by decide +kernel
theorem dL_isRefused_281 : decode cL_isRefused 281 = .ok (.iconst (-1), 1) := by decide +kernel
theorem dL_isRefused_282 : decode cL_isRefused 282 = .ok (.goto 5, 3) := by decide +kernel
theorem dL_isRefused_285 : decode cL_isRefused 285 = .ok (.bipush 31, 2) := by decide +kernel
theorem dL_isRefused_287 : decode cL_isRefused 287 = .ok (.iconst 0, 1) := by decide +kernel
theorem dL_isRefused_288 : decode cL_isRefused 288 = .ok (.invokestatic 81, 3) := by decide +kernel
theorem dL_isRefused_291 : decode cL_isRefused 291 = .ok (.sipush (-982), 3) := by decide +kernel
theorem dL_isRefused_294 : decode cL_isRefused 294 = .ok (.if_icmp .ne 158, 3) := by decide +kernel
theorem dL_isRefused_297 : decode cL_isRefused 297 = .ok (.aload_n 0, 1) := by decide +kernel
theorem dL_isRefused_298 : decode cL_isRefused 298 = .ok (.iconst 4, 1) := by decide +kernel
theorem dL_isRefused_299 : decode cL_isRefused 299 = .ok (.iconst 0, 1) := by decide +kernel
theorem dL_isRefused_300 : decode cL_isRefused 300 = .ok (.iload_n 3, 1) := by decide +kernel
theorem dL_isRefused_301 : decode cL_isRefused 301 = .ok (.ifCond .eq 12, 3) := by decide +kernel
theorem dL_isRefused_304 : decode cL_isRefused 304 = .ok (.iconst (-1), 1) := by decide +kernel
theorem dL_isRefused_305 : decode cL_isRefused 305 = .ok (.iload_n 2, 1) := by decide +kernel
theorem dL_isRefused_306 : decode cL_isRefused 306 = .ok (.bipush 30, 2) := by decide +kernel
theorem dL_isRefused_308 : decode cL_isRefused 308 = .ok (.irem, 1) := by decide +kernel
theorem dL_isRefused_309 : decode cL_isRefused 309 = .ok (.isub, 1) := by decide +kernel
theorem dL_isRefused_310 : decode cL_isRefused 310 = .ok (.goto 11, 3) := by decide +kernel
theorem dL_isRefused_313 : decode cL_isRefused 313 = .ok (.sipush 256, 3) := by decide +kernel
theorem dL_isRefused_316 : decode cL_isRefused 316 = .ok (.iload_n 2, 1) := by decide +kernel
theorem dL_isRefused_317 : decode cL_isRefused 317 = .ok (.bipush 30, 2) := by decide +kernel
theorem dL_isRefused_319 : decode cL_isRefused 319 = .ok (.irem, 1) := by decide +kernel
theorem dL_isRefused_320 : decode cL_isRefused 320 = .ok (.iadd, 1) := by decide +kernel
theorem dL_isRefused_321 : decode cL_isRefused 321 = .ok (.invokestatic 81, 3) := by decide +kernel
theorem dL_isRefused_324 : decode cL_isRefused 324 = .ok (.sipush (-982), 3) := by decide +kernel
theorem dL_isRefused_327 : decode cL_isRefused 327 = .ok (.if_icmp .ne 125, 3) := by decide +kernel
theorem dL_isRefused_330 : decode cL_isRefused 330 = .ok (.aload_n 0, 1) := by decide +kernel
theorem dL_isRefused_331 : decode cL_isRefused 331 = .ok (.iconst 5, 1) := by decide +kernel
theorem dL_isRefused_332 : decode cL_isRefused 332 = .ok (.iload_n 3, 1) := by decide +kernel
theorem dL_isRefused_333 : decode cL_isRefused 333 = .ok (.ifCond .eq 7, 3) := by decide +kernel
theorem dL_isRefused_336 : decode cL_isRefused 336 = .ok (.iconst (-1), 1) := by decide +kernel
theorem dL_isRefused_337 : decode cL_isRefused 337 = .ok (.goto 4, 3) := by decide +kernel
theorem dL_isRefused_340 : decode cL_isRefused 340 = .ok (.iconst 3, 1) := by decide +kernel
theorem dL_isRefused_341 : decode cL_isRefused 341 = .ok (.iconst 0, 1) := by decide +kernel
theorem dL_isRefused_342 : decode cL_isRefused 342 = .ok (.invokestatic 81, 3) := by decide +kernel
theorem dL_isRefused_345 : decode cL_isRefused 345 = .ok (.sipush (-982), 3) := by decide +kernel
theorem dL_isRefused_348 : decode cL_isRefused 348 = .ok (.if_icmp .ne 104, 3) := by decide +kernel
theorem dL_isRefused_351 : decode cL_isRefused 351 = .ok (.aload_n 0, 1) := by decide +kernel
theorem dL_isRefused_352 : decode cL_isRefused 352 = .ok (.bipush 6, 2) := by decide +kernel
theorem dL_isRefused_354 : decode cL_isRefused 354 = .ok (.iload_n 3, 1) := by decide +kernel
theorem dL_isRefused_355 : decode cL_isRefused 355 = .ok (.ifCond .eq 7, 3) := by decide +kernel
theorem dL_isRefused_358 : decode cL_isRefused 358 = .ok (.iconst (-1), 1) := by decide +kernel
theorem dL_isRefused_359 : decode cL_isRefused 359 = .ok (.goto 4, 3) := by decide +kernel
theorem dL_isRefused_362 : decode cL_isRefused 362 = .ok (.iconst 3, 1) := by decide +kernel
theorem dL_isRefused_363 : decode cL_isRefused 363 = .ok (.iconst 0, 1) := by decide +kernel
theorem dL_isRefused_364 : decode cL_isRefused 364 = .ok (.invokestatic 81, 3) := by decide +kernel
theorem dL_isRefused_367 : decode cL_isRefused 367 = .ok (.sipush (-982), 3) := by decide +kernel
theorem dL_isRefused_370 : decode cL_isRefused 370 = .ok (.if_icmp .ne 82, 3) := by decide +kernel
theorem dL_isRefused_373 : decode cL_isRefused 373 = .ok (.aload_n 0, 1) := by decide +kernel
theorem dL_isRefused_374 : decode cL_isRefused 374 = .ok (.bipush 7, 2) := by decide +kernel
theorem dL_isRefused_376 : decode cL_isRefused 376 = .ok (.iload_n 3, 1) := by decide +kernel
theorem dL_isRefused_377 : decode cL_isRefused 377 = .ok (.ifCond .eq 12, 3) := by decide +kernel
theorem dL_isRefused_380 : decode cL_isRefused 380 = .ok (.iconst 0, 1) := by decide +kernel
theorem dL_isRefused_381 : decode cL_isRefused 381 = .ok (.iload_n 2, 1) := by decide +kernel
theorem dL_isRefused_382 : decode cL_isRefused 382 = .ok (.bipush 30, 2) := by decide +kernel
theorem dL_isRefused_384 : decode cL_isRefused 384 = .ok (.irem, 1) := by decide +kernel
theorem dL_isRefused_385 : decode cL_isRefused 385 = .ok (.isub, 1) := by decide +kernel
theorem dL_isRefused_386 : decode cL_isRefused 386 = .ok (.goto 6, 3) := by decide +kernel
theorem dL_isRefused_389 : decode cL_isRefused 389 = .ok (.sipush 366, 3) := by decide +kernel
theorem dL_isRefused_392 : decode cL_isRefused 392 = .ok (.iconst 0, 1) := by decide +kernel
theorem dL_isRefused_393 : decode cL_isRefused 393 = .ok (.invokestatic 81, 3) := by decide +kernel
theorem dL_isRefused_396 : decode cL_isRefused 396 = .ok (.sipush (-982), 3) := by decide +kernel
theorem dL_isRefused_399 : decode cL_isRefused 399 = .ok (.if_icmp .ne 53, 3) := by decide +kernel
theorem dL_isRefused_402 : decode cL_isRefused 402 = .ok (.aload_n 0, 1) := by decide +kernel
theorem dL_isRefused_403 : decode cL_isRefused 403 = .ok (.bipush 8, 2) := by decide +kernel
theorem dL_isRefused_405 : decode cL_isRefused 405 = .ok (.iload_n 3, 1) := by decide +kernel
theorem dL_isRefused_406 : decode cL_isRefused 406 = .ok (.ifCond .eq 7, 3) := by decide +kernel
theorem dL_isRefused_409 : decode cL_isRefused 409 = .ok (.iconst 0, 1) := by decide +kernel
theorem dL_isRefused_410 : decode cL_isRefused 410 = .ok (.goto 5, 3) := by decide +kernel
theorem dL_isRefused_413 : decode cL_isRefused 413 = .ok (.bipush 21, 2) := by decide +kernel
theorem dL_isRefused_415 : decode cL_isRefused 415 = .ok (.iconst 0, 1) := by decide +kernel
theorem dL_isRefused_416 : decode cL_isRefused 416 = .ok (.invokestatic 81, 3) := by decide +kernel
theorem dL_isRefused_419 : decode cL_isRefused 419 = .ok (.sipush (-982), 3) := by decide +kernel
theorem dL_isRefused_422 : decode cL_isRefused 422 = .ok (.if_icmp .ne 30, 3) := by decide +kernel
theorem dL_isRefused_425 : decode cL_isRefused 425 = .ok (.aload_n 0, 1) := by decide +kernel
theorem dL_isRefused_426 : decode cL_isRefused 426 = .ok (.bipush 8, 2) := by decide +kernel
theorem dL_isRefused_428 : decode cL_isRefused 428 = .ok (.iconst 1, 1) := by decide +kernel
theorem dL_isRefused_429 : decode cL_isRefused 429 = .ok (.iload_n 3, 1) := by decide +kernel
theorem dL_isRefused_430 : decode cL_isRefused 430 = .ok (.ifCond .eq 7, 3) := by decide +kernel
theorem dL_isRefused_433 : decode cL_isRefused 433 = .ok (.iconst (-1), 1) := by decide +kernel
theorem dL_isRefused_434 : decode cL_isRefused 434 = .ok (.goto 5, 3) := by decide +kernel
theorem dL_isRefused_437 : decode cL_isRefused 437 = .ok (.bipush 21, 2) := by decide +kernel
theorem dL_isRefused_439 : decode cL_isRefused 439 = .ok (.invokestatic 81, 3) := by decide +kernel
theorem dL_isRefused_442 : decode cL_isRefused 442 = .ok (.sipush (-982), 3) := by decide +kernel
theorem dL_isRefused_445 : decode cL_isRefused 445 = .ok (.if_icmp .ne 7, 3) := by decide +kernel
theorem dL_isRefused_448 : decode cL_isRefused 448 = .ok (.iconst 1, 1) := by decide +kernel
theorem dL_isRefused_449 : decode cL_isRefused 449 = .ok (.goto 4, 3) := by decide +kernel
theorem dL_isRefused_452 : decode cL_isRefused 452 = .ok (.iconst 0, 1) := by decide +kernel
theorem dL_isRefused_453 : decode cL_isRefused 453 = .ok (.istore 8, 2) := by decide +kernel
theorem dL_isRefused_455 : decode cL_isRefused 455 = .ok (.iload 8, 2) := by decide +kernel
theorem dL_isRefused_457 : decode cL_isRefused 457 = .ok (.ifCond .eq 208, 3) := by decide +kernel
theorem dL_isRefused_460 : decode cL_isRefused 460 = .ok (.aload_n 0, 1) := by decide +kernel
theorem dL_isRefused_461 : decode cL_isRefused 461 = .ok (.iconst 0, 1) := by decide +kernel
theorem dL_isRefused_462 : decode cL_isRefused 462 = .ok (.iload_n 3, 1) := by decide +kernel
theorem dL_isRefused_463 : decode cL_isRefused 463 = .ok (.ifCond .eq 7, 3) := by decide +kernel
theorem dL_isRefused_466 : decode cL_isRefused 466 = .ok (.iconst (-1), 1) := by decide +kernel
theorem dL_isRefused_467 : decode cL_isRefused 467 = .ok (.goto 5, 3) := by decide +kernel
theorem dL_isRefused_470 : decode cL_isRefused 470 = .ok (.bipush 8, 2) := by decide +kernel
theorem dL_isRefused_472 : decode cL_isRefused 472 = .ok (.iconst 0, 1) := by decide +kernel
theorem dL_isRefused_473 : decode cL_isRefused 473 = .ok (.iconst 1, 1) := by decide +kernel
theorem dL_isRefused_474 : decode cL_isRefused 474 = .ok (.invokestatic 102, 3) := by decide +kernel
theorem dL_isRefused_477 : decode cL_isRefused 477 = .ok (.sipush (-982), 3) := by decide +kernel
theorem dL_isRefused_480 : decode cL_isRefused 480 = .ok (.if_icmp .ne 185, 3) := by decide +kernel
theorem dL_isRefused_483 : decode cL_isRefused 483 = .ok (.aload_n 0, 1) := by decide +kernel
theorem dL_isRefused_484 : decode cL_isRefused 484 = .ok (.iconst 0, 1) := by decide +kernel
theorem dL_isRefused_485 : decode cL_isRefused 485 = .ok (.iconst 0, 1) := by decide +kernel
theorem dL_isRefused_486 : decode cL_isRefused 486 = .ok (.iload_n 3, 1) := by decide +kernel
theorem dL_isRefused_487 : decode cL_isRefused 487 = .ok (.ifCond .eq 7, 3) := by decide +kernel
theorem dL_isRefused_490 : decode cL_isRefused 490 = .ok (.iconst (-1), 1) := by decide +kernel
theorem dL_isRefused_491 : decode cL_isRefused 491 = .ok (.goto 5, 3) := by decide +kernel
theorem dL_isRefused_494 : decode cL_isRefused 494 = .ok (.bipush 8, 2) := by decide +kernel
theorem dL_isRefused_496 : decode cL_isRefused 496 = .ok (.iconst 1, 1) := by decide +kernel
theorem dL_isRefused_497 : decode cL_isRefused 497 = .ok (.invokestatic 102, 3) := by decide +kernel
theorem dL_isRefused_500 : decode cL_isRefused 500 = .ok (.sipush (-982), 3) := by decide +kernel
theorem dL_isRefused_503 : decode cL_isRefused 503 = .ok (.if_icmp .ne 162, 3) := by decide +kernel
theorem dL_isRefused_506 : decode cL_isRefused 506 = .ok (.aload_n 0, 1) := by decide +kernel
theorem dL_isRefused_507 : decode cL_isRefused 507 = .ok (.iconst 1, 1) := by decide +kernel
theorem dL_isRefused_508 : decode cL_isRefused 508 = .ok (.iconst 0, 1) := by decide +kernel
theorem dL_isRefused_509 : decode cL_isRefused 509 = .ok (.iload_n 3, 1) := by decide +kernel
theorem dL_isRefused_510 : decode cL_isRefused 510 = .ok (.ifCond .eq 7, 3) := by decide +kernel
theorem dL_isRefused_513 : decode cL_isRefused 513 = .ok (.iconst 0, 1) := by decide +kernel
theorem dL_isRefused_514 : decode cL_isRefused 514 = .ok (.goto 5, 3) := by decide +kernel
theorem dL_isRefused_517 : decode cL_isRefused 517 = .ok (.bipush 21, 2) := by decide +kernel
theorem dL_isRefused_519 : decode cL_isRefused 519 = .ok (.iconst 0, 1) := by decide +kernel
theorem dL_isRefused_520 : decode cL_isRefused 520 = .ok (.invokestatic 102, 3) := by decide +kernel
theorem dL_isRefused_523 : decode cL_isRefused 523 = .ok (.sipush (-982), 3) := by decide +kernel
theorem dL_isRefused_526 : decode cL_isRefused 526 = .ok (.if_icmp .ne 139, 3) := by decide +kernel
theorem dL_isRefused_529 : decode cL_isRefused 529 = .ok (.aload_n 0, 1) := by decide +kernel
theorem dL_isRefused_530 : decode cL_isRefused 530 = .ok (.iconst 1, 1) := by decide +kernel
theorem dL_isRefused_531 : decode cL_isRefused 531 = .ok (.iconst 0, 1) := by decide +kernel
theorem dL_isRefused_532 : decode cL_isRefused 532 = .ok (.iconst 1, 1) := by decide +kernel
theorem dL_isRefused_533 : decode cL_isRefused 533 = .ok (.iload_n 3, 1) := by decide +kernel
theorem dL_isRefused_534 : decode cL_isRefused 534 = .ok (.ifCond .eq 7, 3) := by decide +kernel
theorem dL_isRefused_537 : decode cL_isRefused 537 = .ok (.iconst (-1), 1) := by decide +kernel
theorem dL_isRefused_538 : decode cL_isRefused 538 = .ok (.goto 5, 3) := by decide +kernel
theorem dL_isRefused_541 : decode cL_isRefused 541 = .ok (.bipush 21, 2) := by decide +kernel
theorem dL_isRefused_543 : decode cL_isRefused 543 = .ok (.invokestatic 102, 3) := by decide +kernel
theorem dL_isRefused_546 : decode cL_isRefused 546 = .ok (.sipush (-982), 3) := by decide +kernel
theorem dL_isRefused_549 : decode cL_isRefused 549 = .ok (.if_icmp .ne 116, 3) := by decide +kernel
theorem dL_isRefused_552 : decode cL_isRefused 552 = .ok (.aload_n 0, 1) := by decide +kernel
theorem dL_isRefused_553 : decode cL_isRefused 553 = .ok (.iconst 1, 1) := by decide +kernel
theorem dL_isRefused_554 : decode cL_isRefused 554 = .ok (.iconst 1, 1) := by decide +kernel
theorem dL_isRefused_555 : decode cL_isRefused 555 = .ok (.bipush 12, 2) := by decide +kernel
theorem dL_isRefused_557 : decode cL_isRefused 557 = .ok (.iload_n 2, 1) := by decide +kernel
theorem dL_isRefused_558 : decode cL_isRefused 558 = .ok (.bipush 19, 2) := by decide +kernel
theorem dL_isRefused_560 : decode cL_isRefused 560 = .ok (.irem, 1) := by decide +kernel
theorem dL_isRefused_561 : decode cL_isRefused 561 = .ok (.iadd, 1) := by decide +kernel
theorem dL_isRefused_562 : decode cL_isRefused 562 = .ok (.ishl, 1) := by decide +kernel
theorem dL_isRefused_563 : decode cL_isRefused 563 = .ok (.iconst 1, 1) := by decide +kernel
theorem dL_isRefused_564 : decode cL_isRefused 564 = .ok (.iconst 1, 1) := by decide +kernel
theorem dL_isRefused_565 : decode cL_isRefused 565 = .ok (.invokestatic 102, 3) := by decide +kernel
theorem dL_isRefused_568 : decode cL_isRefused 568 = .ok (.sipush (-982), 3) := by decide +kernel
theorem dL_isRefused_571 : decode cL_isRefused 571 = .ok (.if_icmp .ne 94, 3) := by decide +kernel
theorem dL_isRefused_574 : decode cL_isRefused 574 = .ok (.aload_n 0, 1) := by decide +kernel
theorem dL_isRefused_575 : decode cL_isRefused 575 = .ok (.iconst 1, 1) := by decide +kernel
theorem dL_isRefused_576 : decode cL_isRefused 576 = .ok (.iconst (-1), 1) := by decide +kernel
theorem dL_isRefused_577 : decode cL_isRefused 577 = .ok (.iload_n 2, 1) := by decide +kernel
theorem dL_isRefused_578 : decode cL_isRefused 578 = .ok (.bipush 30, 2) := by decide +kernel
theorem dL_isRefused_580 : decode cL_isRefused 580 = .ok (.irem, 1) := by decide +kernel
theorem dL_isRefused_581 : decode cL_isRefused 581 = .ok (.isub, 1) := by decide +kernel
theorem dL_isRefused_582 : decode cL_isRefused 582 = .ok (.iconst 1, 1) := by decide +kernel
theorem dL_isRefused_583 : decode cL_isRefused 583 = .ok (.iconst 1, 1) := by decide +kernel
theorem dL_isRefused_584 : decode cL_isRefused 584 = .ok (.invokestatic 102, 3) := by decide +kernel
theorem dL_isRefused_587 : decode cL_isRefused 587 = .ok (.sipush (-982), 3) := by decide +kernel
theorem dL_isRefused_590 : decode cL_isRefused 590 = .ok (.if_icmp .ne 75, 3) := by decide +kernel
theorem dL_isRefused_593 : decode cL_isRefused 593 = .ok (.aload_n 0, 1) := by decide +kernel
theorem dL_isRefused_594 : decode cL_isRefused 594 = .ok (.iconst 0, 1) := by decide +kernel
theorem dL_isRefused_595 : decode cL_isRefused 595 = .ok (.iload 4, 2) := by decide +kernel
theorem dL_isRefused_597 : decode cL_isRefused 597 = .ok (.iconst 0, 1) := by decide +kernel
theorem dL_isRefused_598 : decode cL_isRefused 598 = .ok (.iconst (-1), 1) := by decide +kernel
theorem dL_isRefused_599 : decode cL_isRefused 599 = .ok (.iconst 0, 1) := by decide +kernel
theorem dL_isRefused_600 : decode cL_isRefused 600 = .ok (.invokestatic 91, 3) := by decide +kernel
theorem dL_isRefused_603 : decode cL_isRefused 603 = .ok (.sipush (-981), 3) := by decide +kernel
theorem dL_isRefused_606 : decode cL_isRefused 606 = .ok (.if_icmp .ne 59, 3) := by decide +kernel
theorem dL_isRefused_609 : decode cL_isRefused 609 = .ok (.aload_n 0, 1) := by decide +kernel
theorem dL_isRefused_610 : decode cL_isRefused 610 = .ok (.iconst 0, 1) := by decide +kernel
theorem dL_isRefused_611 : decode cL_isRefused 611 = .ok (.iload 4, 2) := by decide +kernel
theorem dL_isRefused_613 : decode cL_isRefused 613 = .ok (.iload 4, 2) := by decide +kernel
theorem dL_isRefused_615 : decode cL_isRefused 615 = .ok (.iload 5, 2) := by decide +kernel
theorem dL_isRefused_617 : decode cL_isRefused 617 = .ok (.iconst 0, 1) := by decide +kernel
theorem dL_isRefused_618 : decode cL_isRefused 618 = .ok (.invokestatic 91, 3) := by decide +kernel
theorem dL_isRefused_621 : decode cL_isRefused 621 = .ok (.sipush (-981), 3) := by decide +kernel
theorem dL_isRefused_624 : decode cL_isRefused 624 = .ok (.if_icmp .ne 41, 3) := by decide +kernel
theorem dL_isRefused_627 : decode cL_isRefused 627 = .ok (.aload_n 0, 1) := by decide +kernel
theorem dL_isRefused_628 : decode cL_isRefused 628 = .ok (.iconst 1, 1) := by decide +kernel
theorem dL_isRefused_629 : decode cL_isRefused 629 = .ok (.iload 4, 2) := by decide +kernel
theorem dL_isRefused_631 : decode cL_isRefused 631 = .ok (.iconst 0, 1) := by decide +kernel
theorem dL_isRefused_632 : decode cL_isRefused 632 = .ok (.iconst 0, 1) := by decide +kernel
theorem dL_isRefused_633 : decode cL_isRefused 633 = .ok (.iconst (-1), 1) := by decide +kernel
theorem dL_isRefused_634 : decode cL_isRefused 634 = .ok (.invokestatic 91, 3) := by decide +kernel
theorem dL_isRefused_637 : decode cL_isRefused 637 = .ok (.sipush (-981), 3) := by decide +kernel
theorem dL_isRefused_640 : decode cL_isRefused 640 = .ok (.if_icmp .ne 25, 3) := by decide +kernel
theorem dL_isRefused_643 : decode cL_isRefused 643 = .ok (.aload_n 0, 1) := by decide +kernel
theorem dL_isRefused_644 : decode cL_isRefused 644 = .ok (.iconst 2, 1) := by decide +kernel
theorem dL_isRefused_645 : decode cL_isRefused 645 = .ok (.iload 4, 2) := by decide +kernel
theorem dL_isRefused_647 : decode cL_isRefused 647 = .ok (.iload 4, 2) := by decide +kernel
theorem dL_isRefused_649 : decode cL_isRefused 649 = .ok (.iload 5, 2) := by decide +kernel
theorem dL_isRefused_651 : decode cL_isRefused 651 = .ok (.iconst (-1), 1) := by decide +kernel
theorem dL_isRefused_652 : decode cL_isRefused 652 = .ok (.invokestatic 91, 3) := by decide +kernel
theorem dL_isRefused_655 : decode cL_isRefused 655 = .ok (.sipush (-981), 3) := by decide +kernel
theorem dL_isRefused_658 : decode cL_isRefused 658 = .ok (.if_icmp .ne 7, 3) := by decide +kernel
theorem dL_isRefused_661 : decode cL_isRefused 661 = .ok (.iconst 1, 1) := by decide +kernel
theorem dL_isRefused_662 : decode cL_isRefused 662 = .ok (.goto 4, 3) := by decide +kernel
theorem dL_isRefused_665 : decode cL_isRefused 665 = .ok (.iconst 0, 1) := by decide +kernel
theorem dL_isRefused_666 : decode cL_isRefused 666 = .ok (.istore 8, 2) := by decide +kernel
theorem dL_isRefused_668 : decode cL_isRefused 668 = .ok (.iload 8, 2) := by decide +kernel
theorem dL_isRefused_670 : decode cL_isRefused 670 = .ok (.ifCond .eq 18, 3) := by decide +kernel
theorem dL_isRefused_673 : decode cL_isRefused 673 = .ok (.aload_n 0, 1) := by decide +kernel
theorem dL_isRefused_674 : decode cL_isRefused 674 = .ok (.aload_n 1, 1) := by decide +kernel
theorem dL_isRefused_675 : decode cL_isRefused 675 = .ok (.invokestatic 109, 3) := by decide +kernel
theorem dL_isRefused_678 : decode cL_isRefused 678 = .ok (.lload 6, 2) := by decide +kernel
theorem dL_isRefused_680 : decode cL_isRefused 680 = .ok (.lcmp, 1) := by decide +kernel
theorem dL_isRefused_681 : decode cL_isRefused 681 = .ok (.ifCond .ne 7, 3) := by decide +kernel
theorem dL_isRefused_684 : decode cL_isRefused 684 = .ok (.iconst 1, 1) := by decide +kernel
theorem dL_isRefused_685 : decode cL_isRefused 685 = .ok (.goto 4, 3) := by decide +kernel
theorem dL_isRefused_688 : decode cL_isRefused 688 = .ok (.iconst 0, 1) := by decide +kernel
theorem dL_isRefused_689 : decode cL_isRefused 689 = .ok (.ireturn, 1) := by decide +kernel
set_option maxRecDepth 20000 in
theorem ggL_isWrong_L_isThing : GoodIn wsL_isWrong wsL_isThing := goodIn_r _ [4] (by decide +kernel) (by decide +kernel)
set_option maxRecDepth 20000 in
theorem gL_isWrong_L_isThing : GoodIn wsL_isWrong (va_wsS RL 115 yL_isThing wsL_isThing) := goodIn_app (goodIn_of _ (by decide +kernel)) ggL_isWrong_L_isThing
set_option maxRecDepth 20000 in
theorem ggL_isWrong_L_outfit : GoodIn wsL_isWrong wsL_outfit := goodIn_ca (goodIn_ca (goodIn_ca (goodIn_r _ [7, 8, 9, 10, 11, 12, 13, 14, 15, 16, 17, 18, 19, 20, 21, 22, 23, 24, 25, 26, 27, 28, 29, 30, 31, 32, 33, 34, 35, 36, 37, 38, 39, 40, 41, 42, 43, 44, 45, 46, 47, 48, 49, 50, 51, 52, 53, 54, 55, 56, 57, 58, 59, 60, 61, 62, 63, 64, 65, 66, 67, 68, 69, 70, 71, 72, 73, 74, 75, 76, 77, 78, 79, 80, 81, 82, 83, 84, 85, 86, 87, 88, 89, 90, 91, 92, 93, 94, 95, 96, 97, 98, 99, 100, 101, 102, 103, 104, 105, 106, 107, 108, 109, 110, 111, 112, 113, 114, 115, 116, 117, 118, 119, 120, 121] (by decide +kernel) (by decide +kernel)) (goodIn_sub (fun _ h => List.mem_cons_of_mem _ (List.mem_append_left _ (List.mem_append_left _ (List.mem_append_right _ h)))) (by decide +kernel))) (goodIn_sub (fun _ h => List.mem_cons_of_mem _ (List.mem_append_left _ (List.mem_append_right _ h))) (by decide +kernel))) (goodIn_sub (fun _ h => List.mem_cons_of_mem _ (List.mem_append_right _ h)) (by decide +kernel))
set_option maxRecDepth 20000 in
theorem gL_isWrong_L_outfit : GoodIn wsL_isWrong (va_wsS RL 91 yL_outfit wsL_outfit) := goodIn_app (goodIn_of _ (by decide +kernel)) ggL_isWrong_L_outfit
theorem dL_isWrong_0 : decode cL_isWrong 0 = .ok (.aload_n 1, 1) := by decide +kernel
theorem dL_isWrong_1 : decode cL_isWrong 1 = .ok (.aload_n 2, 1) := by decide +kernel
theorem dL_isWrong_2 : decode cL_isWrong 2 = .ok (.iload_n 3, 1) := by decide +kernel
theorem dL_isWrong_3 : decode cL_isWrong 3 = .ok (.invokestatic 115, 3) := by decide +kernel
theorem dL_isWrong_6 : decode cL_isWrong 6 = .ok (.ifCond .eq 33, 3) := by decide +kernel
theorem dL_isWrong_9 : decode cL_isWrong 9 = .ok (.aload_n 1, 1) := by decide +kernel
theorem dL_isWrong_10 : decode cL_isWrong 10 = .ok (.aload_n 2, 1) := by decide +kernel
theorem dL_isWrong_11 : decode cL_isWrong 11 = .ok (.iload 4, 2) := by decide +kernel
theorem dL_isWrong_13 : decode cL_isWrong 13 = .ok (.invokestatic 115, 3) := by decide +kernel
theorem dL_isWrong_16 : decode cL_isWrong 16 = .ok (.ifCond .eq 23, 3) := by decide +kernel
theorem dL_isWrong_19 : decode cL_isWrong 19 = .ok (.iload 5, 2) := by decide +kernel
theorem dL_isWrong_21 : decode cL_isWrong 21 = .ok (.iconst (-1), 1) := by decide +kernel
theorem dL_isWrong_22 : decode cL_isWrong 22 = .ok (.if_icmp .eq 13, 3) := by decide +kernel
theorem dL_isWrong_25 : decode cL_isWrong 25 = .ok (.aload_n 1, 1) := by decide +kernel
theorem dL_isWrong_26 : decode cL_isWrong 26 = .ok (.aload_n 2, 1) := by decide +kernel
theorem dL_isWrong_27 : decode cL_isWrong 27 = .ok (.iload 5, 2) := by decide +kernel
theorem dL_isWrong_29 : decode cL_isWrong 29 = .ok (.invokestatic 115, 3) := by decide +kernel
theorem dL_isWrong_32 : decode cL_isWrong 32 = .ok (.ifCond .eq 7, 3) := by decide +kernel
theorem dL_isWrong_35 : decode cL_isWrong 35 = .ok (.iconst 1, 1) := by decide +kernel
theorem dL_isWrong_36 : decode cL_isWrong 36 = .ok (.goto 4, 3) := by decide +kernel
theorem dL_isWrong_39 : decode cL_isWrong 39 = .ok (.iconst 0, 1) := by decide +kernel
theorem dL_isWrong_40 : decode cL_isWrong 40 = .ok (.istore 6, 2) := by decide +kernel
theorem dL_isWrong_42 : decode cL_isWrong 42 = .ok (.iload 6, 2) := by decide +kernel
theorem dL_isWrong_44 : decode cL_isWrong 44 = .ok (.ifCond .eq 40, 3) := by decide +kernel
theorem dL_isWrong_47 : decode cL_isWrong 47 = .ok (.aload_n 1, 1) := by decide +kernel
theorem dL_isWrong_48 : decode cL_isWrong 48 = .ok (.iconst 5, 1) := by decide +kernel
theorem dL_isWrong_49 : decode cL_isWrong 49 = .ok (.iload_n 3, 1) := by decide +kernel
theorem dL_isWrong_50 : decode cL_isWrong 50 = .ok (.imul, 1) := by decide +kernel
theorem dL_isWrong_51 : decode cL_isWrong 51 = .ok (.iaload, 1) := by decide +kernel
theorem dL_isWrong_52 : decode cL_isWrong 52 = .ok (.ifCond .ne 32, 3) := by decide +kernel
theorem dL_isWrong_55 : decode cL_isWrong 55 = .ok (.aload_n 1, 1) := by decide +kernel
theorem dL_isWrong_56 : decode cL_isWrong 56 = .ok (.iconst 5, 1) := by decide +kernel
theorem dL_isWrong_57 : decode cL_isWrong 57 = .ok (.iload 4, 2) := by decide +kernel
theorem dL_isWrong_59 : decode cL_isWrong 59 = .ok (.imul, 1) := by decide +kernel
theorem dL_isWrong_60 : decode cL_isWrong 60 = .ok (.iaload, 1) := by decide +kernel
theorem dL_isWrong_61 : decode cL_isWrong 61 = .ok (.iconst 1, 1) := by decide +kernel
theorem dL_isWrong_62 : decode cL_isWrong 62 = .ok (.if_icmp .ne 22, 3) := by decide +kernel
theorem dL_isWrong_65 : decode cL_isWrong 65 = .ok (.iload 5, 2) := by decide +kernel
theorem dL_isWrong_67 : decode cL_isWrong 67 = .ok (.ifCond .lt 13, 3) := by decide +kernel
theorem dL_isWrong_70 : decode cL_isWrong 70 = .ok (.aload_n 1, 1) := by decide +kernel
theorem dL_isWrong_71 : decode cL_isWrong 71 = .ok (.iconst 5, 1) := by decide +kernel
theorem dL_isWrong_72 : decode cL_isWrong 72 = .ok (.iload 5, 2) := by decide +kernel
theorem dL_isWrong_74 : decode cL_isWrong 74 = .ok (.imul, 1) := by decide +kernel
theorem dL_isWrong_75 : decode cL_isWrong 75 = .ok (.iaload, 1) := by decide +kernel
theorem dL_isWrong_76 : decode cL_isWrong 76 = .ok (.iconst 2, 1) := by decide +kernel
theorem dL_isWrong_77 : decode cL_isWrong 77 = .ok (.if_icmp .ne 7, 3) := by decide +kernel
theorem dL_isWrong_80 : decode cL_isWrong 80 = .ok (.iconst 1, 1) := by decide +kernel
theorem dL_isWrong_81 : decode cL_isWrong 81 = .ok (.goto 4, 3) := by decide +kernel
theorem dL_isWrong_84 : decode cL_isWrong 84 = .ok (.iconst 0, 1) := by decide +kernel
theorem dL_isWrong_85 : decode cL_isWrong 85 = .ok (.istore 7, 2) := by decide +kernel
theorem dL_isWrong_87 : decode cL_isWrong 87 = .ok (.iload 6, 2) := by decide +kernel
theorem dL_isWrong_89 : decode cL_isWrong 89 = .ok (.ifCond .eq 9, 3) := by decide +kernel
theorem dL_isWrong_92 : decode cL_isWrong 92 = .ok (.sipush (-982), 3) := by decide +kernel
theorem dL_isWrong_95 : decode cL_isWrong 95 = .ok (.goto 6, 3) := by decide +kernel
theorem dL_isWrong_98 : decode cL_isWrong 98 = .ok (.sipush (-981), 3) := by decide +kernel
theorem dL_isWrong_101 : decode cL_isWrong 101 = .ok (.istore 8, 2) := by decide +kernel
theorem dL_isWrong_103 : decode cL_isWrong 103 = .ok (.iload 7, 2) := by decide +kernel
theorem dL_isWrong_105 : decode cL_isWrong 105 = .ok (.ifCond .eq 66, 3) := by decide +kernel
theorem dL_isWrong_108 : decode cL_isWrong 108 = .ok (.aload_n 0, 1) := by decide +kernel
theorem dL_isWrong_109 : decode cL_isWrong 109 = .ok (.iconst 2, 1) := by decide +kernel
theorem dL_isWrong_110 : decode cL_isWrong 110 = .ok (.iload_n 3, 1) := by decide +kernel
theorem dL_isWrong_111 : decode cL_isWrong 111 = .ok (.iload 4, 2) := by decide +kernel
theorem dL_isWrong_113 : decode cL_isWrong 113 = .ok (.iload 5, 2) := by decide +kernel
theorem dL_isWrong_115 : decode cL_isWrong 115 = .ok (.iconst (-1), 1) := by decide +kernel
theorem dL_isWrong_116 : decode cL_isWrong 116 = .ok (.invokestatic 91, 3) := by decide +kernel
theorem dL_isWrong_119 : decode cL_isWrong 119 = .ok (.sipush (-982), 3) := by decide +kernel
theorem dL_isWrong_122 : decode cL_isWrong 122 = .ok (.if_icmp .ne 45, 3) := by decide +kernel
theorem dL_isWrong_125 : decode cL_isWrong 125 = .ok (.aload_n 0, 1) := by decide +kernel
theorem dL_isWrong_126 : decode cL_isWrong 126 = .ok (.iconst 2, 1) := by decide +kernel
theorem dL_isWrong_127 : decode cL_isWrong 127 = .ok (.iload_n 3, 1) := by decide +kernel
theorem dL_isWrong_128 : decode cL_isWrong 128 = .ok (.iload 4, 2) := by decide +kernel
theorem dL_isWrong_130 : decode cL_isWrong 130 = .ok (.iload 5, 2) := by decide +kernel
theorem dL_isWrong_132 : decode cL_isWrong 132 = .ok (.sipush 256, 3) := by decide +kernel
theorem dL_isWrong_135 : decode cL_isWrong 135 = .ok (.invokestatic 91, 3) := by decide +kernel
theorem dL_isWrong_138 : decode cL_isWrong 138 = .ok (.sipush (-982), 3) := by decide +kernel
theorem dL_isWrong_141 : decode cL_isWrong 141 = .ok (.if_icmp .ne 26, 3) := by decide +kernel
theorem dL_isWrong_144 : decode cL_isWrong 144 = .ok (.aload_n 0, 1) := by decide +kernel
theorem dL_isWrong_145 : decode cL_isWrong 145 = .ok (.iconst 1, 1) := by decide +kernel
theorem dL_isWrong_146 : decode cL_isWrong 146 = .ok (.iload_n 3, 1) := by decide +kernel
theorem dL_isWrong_147 : decode cL_isWrong 147 = .ok (.iload 4, 2) := by decide +kernel
theorem dL_isWrong_149 : decode cL_isWrong 149 = .ok (.iload 5, 2) := by decide +kernel
theorem dL_isWrong_151 : decode cL_isWrong 151 = .ok (.sipush 256, 3) := by decide +kernel
theorem dL_isWrong_154 : decode cL_isWrong 154 = .ok (.invokestatic 91, 3) := by decide +kernel
theorem dL_isWrong_157 : decode cL_isWrong 157 = .ok (.sipush (-982), 3) := by decide +kernel
theorem dL_isWrong_160 : decode cL_isWrong 160 = .ok (.if_icmp .ne 7, 3) := by decide +kernel
theorem dL_isWrong_163 : decode cL_isWrong 163 = .ok (.iconst 1, 1) := by decide +kernel
theorem dL_isWrong_164 : decode cL_isWrong 164 = .ok (.goto 44, 3) := by decide +kernel
theorem dL_isWrong_167 : decode cL_isWrong 167 = .ok (.iconst 0, 1) := by decide +kernel
theorem dL_isWrong_168 : decode cL_isWrong 168 = .ok (.goto 40, 3) := by decide +kernel
theorem dL_isWrong_171 : decode cL_isWrong 171 = .ok (.aload_n 0, 1) := by decide +kernel
theorem dL_isWrong_172 : decode cL_isWrong 172 = .ok (.iconst 0, 1) := by decide +kernel
theorem dL_isWrong_173 : decode cL_isWrong 173 = .ok (.iload_n 3, 1) := by decide +kernel
theorem dL_isWrong_174 : decode cL_isWrong 174 = .ok (.iload 4, 2) := by decide +kernel
theorem dL_isWrong_176 : decode cL_isWrong 176 = .ok (.iload 5, 2) := by decide +kernel
theorem dL_isWrong_178 : decode cL_isWrong 178 = .ok (.iconst 0, 1) := by decide +kernel
theorem dL_isWrong_179 : decode cL_isWrong 179 = .ok (.invokestatic 91, 3) := by decide +kernel
theorem dL_isWrong_182 : decode cL_isWrong 182 = .ok (.iload 8, 2) := by decide +kernel
theorem dL_isWrong_184 : decode cL_isWrong 184 = .ok (.if_icmp .ne 23, 3) := by decide +kernel
theorem dL_isWrong_187 : decode cL_isWrong 187 = .ok (.aload_n 0, 1) := by decide +kernel
theorem dL_isWrong_188 : decode cL_isWrong 188 = .ok (.iconst 2, 1) := by decide +kernel
theorem dL_isWrong_189 : decode cL_isWrong 189 = .ok (.iload_n 3, 1) := by decide +kernel
theorem dL_isWrong_190 : decode cL_isWrong 190 = .ok (.iload 4, 2) := by decide +kernel
theorem dL_isWrong_192 : decode cL_isWrong 192 = .ok (.iload 5, 2) := by decide +kernel
theorem dL_isWrong_194 : decode cL_isWrong 194 = .ok (.iconst 0, 1) := by decide +kernel
theorem dL_isWrong_195 : decode cL_isWrong 195 = .ok (.invokestatic 91, 3) := by decide +kernel
theorem dL_isWrong_198 : decode cL_isWrong 198 = .ok (.iload 8, 2) := by decide +kernel
theorem dL_isWrong_200 : decode cL_isWrong 200 = .ok (.if_icmp .ne 7, 3) := by decide +kernel
theorem dL_isWrong_203 : decode cL_isWrong 203 = .ok (.iconst 1, 1) := by decide +kernel
theorem dL_isWrong_204 : decode cL_isWrong 204 = .ok (.goto 4, 3) := by decide +kernel
theorem dL_isWrong_207 : decode cL_isWrong 207 = .ok (.iconst 0, 1) := by decide +kernel
theorem dL_isWrong_208 : decode cL_isWrong 208 = .ok (.ireturn, 1) := by decide +kernel
set_option maxRecDepth 20000 in
theorem ggL_law_X0_init : GoodIn wsL_law wsX0_init := goodIn_r _ [6, 7, 8, 9, 3, 10, 11, 12, 13, 14, 15, 16, 17, 310, 311, 312, 313, 314, 315, 316, 317, 318, 319, 320, 321] (by decide +kernel) (by decide +kernel)
set_option maxRecDepth 20000 in
theorem gL_law_X0_init : GoodIn wsL_law (wsX0_init) := ggL_law_X0_init
set_option maxRecDepth 20000 in
theorem ggL_law_L_isRefused : GoodIn wsL_law wsL_isRefused := goodIn_ca (goodIn_ca (goodIn_ca (goodIn_r _ [21, 22, 23, 20, 24, 25, 26, 27, 28, 29, 30, 31, 2, 32, 33, 34, 35, 36, 37, 38, 39, 40, 41, 42, 43, 44, 45, 46, 47, 48, 49, 50, 51, 52, 53, 54, 55, 56, 57, 58, 59, 60, 61, 62, 63, 64, 65, 10, 15, 66, 67, 68, 69, 70, 71, 72, 73, 11, 74, 75, 76, 77, 78, 79, 80, 81, 82, 83, 84, 85, 86, 87, 88, 89, 90, 91, 92, 93, 94, 95, 96, 97, 12, 98, 99, 100, 101, 102, 103, 104, 105, 106, 107, 108, 109, 16, 110, 111, 112, 113, 114, 115, 116, 117, 118, 119, 120, 121, 122, 123, 124, 125, 126, 127, 128, 129, 130, 131, 132, 133, 134, 135, 136, 137, 138, 139, 140, 141, 142, 143, 14, 144, 145, 146, 147, 148, 149, 150, 151, 152, 153, 154, 155, 13, 156, 157, 158, 159, 160, 161, 162, 163, 164, 165, 166, 167, 168, 169, 170, 171, 172, 173, 174, 175, 176, 17, 177, 178, 179, 180, 181, 182, 183, 184, 185, 186, 187, 188, 189, 190, 191, 192, 193, 194, 195, 196, 197, 198, 199, 200, 201, 202, 203, 204, 205, 206, 207, 208, 209, 210, 211, 212, 213, 214, 215, 216, 217, 218, 219, 220, 221, 222, 223, 224, 225, 226, 227, 228, 229, 230, 231, 232, 233, 234, 235, 236, 237, 238, 239, 240, 241, 242, 243, 244, 245, 246, 247, 248, 249, 250, 251, 252, 253, 254, 255, 256, 257, 258, 259, 260, 310, 311, 312, 313, 314, 315, 316, 317, 318, 319, 320, 321] (by decide +kernel) (by decide +kernel)) (goodIn_sub (fun _ h => List.mem_append_left _ (List.mem_append_left _ (List.mem_append_right _ h))) (by decide +kernel))) (goodIn_sub (fun _ h => List.mem_append_left _ (List.mem_append_right _ h)) (by decide +kernel))) (goodIn_sub (fun _ h => List.mem_append_right _ h) (by decide +kernel))
set_option maxRecDepth 20000 in
theorem gL_law_L_isRefused : GoodIn wsL_law (va_wsS RL 120 yL_isRefused wsL_isRefused) := goodIn_app (goodIn_of _ (by decide +kernel)) ggL_law_L_isRefused
set_option maxRecDepth 20000 in
theorem ggL_law_L_dice : GoodIn wsL_law wsL_dice := goodIn_r _ [263, 264, 265] (by decide +kernel) (by decide +kernel)
set_option maxRecDepth 20000 in
theorem gL_law_L_dice : GoodIn wsL_law (va_wsS RL 124 yL_dice wsL_dice) := goodIn_app (goodIn_of _ (by decide +kernel)) ggL_law_L_dice
set_option maxRecDepth 20000 in
theorem ggL_law_L_add : GoodIn wsL_law wsL_add := goodIn_ca (goodIn_ca (goodIn_r _ [214, 117, 118, 215, 216, 217, 2, 218, 45, 46, 164, 165, 47, 10, 11, 12, 13, 14, 15, 33, 51, 52, 53, 219, 220, 221, 137, 138, 139, 310, 311, 312, 313, 314, 315, 316, 317, 318, 319, 320, 321] (by decide +kernel) (by decide +kernel)) (goodIn_sub (fun _ h => List.mem_append_left _ (List.mem_append_left _ (List.mem_append_right _ h))) (by decide +kernel))) (goodIn_sub (fun _ h => List.mem_append_right _ h) (by decide +kernel))
set_option maxRecDepth 20000 in
theorem gL_law_L_add : GoodIn wsL_law (va_wsS RL 113 yL_add wsL_add) := goodIn_app (goodIn_of _ (by decide +kernel)) ggL_law_L_add
set_option maxRecDepth 20000 in
theorem ggL_law_L_yes : GoodIn wsL_law wsL_yes := goodIn_ca (goodIn_r _ [224, 117, 225, 226, 227, 2, 228, 45, 46, 78, 229, 219, 220, 221, 51, 52, 53, 74, 75, 76, 77, 79, 80, 81, 230, 231, 232, 233, 33, 170, 171, 172, 173, 174, 175, 176, 17, 47, 177, 178, 179, 180, 181, 182, 183, 184, 185, 186, 187, 188, 10, 66, 67, 68, 69, 70, 71, 72, 73, 11, 90, 91, 92, 93, 94, 95, 96, 97, 12, 193, 194, 195, 196, 197, 198, 199, 200, 34, 35, 36, 37, 38, 39, 40, 201, 202, 203, 204, 15, 205, 206, 207, 208, 209, 210, 211, 310, 311, 312, 313, 314, 315, 316, 317, 318, 319, 320, 321] (by decide +kernel) (by decide +kernel)) (goodIn_sub (fun _ h => List.mem_append_left _ (List.mem_append_left _ (List.mem_append_right _ h))) (by decide +kernel))
set_option maxRecDepth 20000 in
theorem gL_law_L_yes : GoodIn wsL_law (va_wsS RL 102 yL_yes wsL_yes) := goodIn_app (goodIn_of _ (by decide +kernel)) ggL_law_L_yes
set_option maxRecDepth 20000 in
theorem ggL_law_X0_outfitFor : GoodIn wsL_law wsX0_outfitFor := goodIn_ca (goodIn_r _ [101, 45, 46, 47, 48, 49, 2, 50, 51, 52, 53, 102, 103, 104, 58, 59, 60, 61, 62, 63, 64, 65, 10, 15, 66, 67, 68, 69, 33, 70, 71, 72, 73, 11, 74, 75, 76, 77, 78, 79, 80, 81, 82, 83, 84, 85, 105, 106, 107, 108, 109, 16, 110, 111, 112, 90, 91, 92, 93, 94, 95, 96, 97, 12, 86, 87, 88, 89, 310, 311, 312, 313, 314, 315, 316, 317, 318, 319, 320, 321] (by decide +kernel) (by decide +kernel)) (goodIn_sub (fun _ h => List.mem_append_left _ (List.mem_append_left _ (List.mem_append_right _ h))) (by decide +kernel))
set_option maxRecDepth 20000 in
theorem gL_law_X0_outfitFor : GoodIn wsL_law (wsV RL 46 RX0 yX0_outfitFor wsX0_outfitFor) := goodIn_app (goodIn_of _ (by decide +kernel)) ggL_law_X0_outfitFor
set_option maxRecDepth 20000 in
theorem ggL_law_L_isWorn : GoodIn wsL_law wsL_isWorn := goodIn_ca (goodIn_ca (goodIn_ca (goodIn_r _ [268, 234, 235, 20, 236, 116, 117, 118, 237, 238, 239, 2, 240, 123, 124, 45, 46, 241, 242, 243, 244, 66, 67, 68, 69, 33, 181, 182, 183, 184, 185, 186, 187, 188, 10, 58, 59, 60, 61, 62, 63, 64, 65, 15, 70, 71, 72, 73, 11, 74, 75, 76, 77, 78, 79, 80, 81, 82, 83, 84, 85, 245, 246, 247, 248, 102, 103, 104, 51, 52, 53, 105, 106, 107, 108, 109, 16, 110, 111, 112, 249, 250, 251, 252, 164, 165, 253, 254, 255, 256, 144, 145, 146, 147, 257, 258, 259, 260, 90, 91, 92, 93, 94, 95, 96, 97, 12, 310, 311, 312, 313, 314, 315, 316, 317, 318, 319, 320, 321] (by decide +kernel) (by decide +kernel)) (goodIn_sub (fun _ h => List.mem_append_left _ (List.mem_append_right _ h)) (by decide +kernel))) (goodIn_sub (fun _ h => List.mem_append_left _ (List.mem_append_left _ (List.mem_append_right _ h))) (by decide +kernel))) (goodIn_sub (fun _ h => List.mem_append_right _ h) (by decide +kernel))
set_option maxRecDepth 20000 in
theorem gL_law_L_isWorn : GoodIn wsL_law (va_wsS RL 127 yL_isWorn wsL_isWorn) := goodIn_app (goodIn_of _ (by decide +kernel)) ggL_law_L_isWorn
set_option maxRecDepth 20000 in
theorem ggL_law_L_isWashed : GoodIn wsL_law wsL_isWashed := goodIn_ca (goodIn_ca (goodIn_ca (goodIn_r _ [271, 113, 114, 20, 115, 116, 117, 118, 119, 120, 121, 2, 122, 123, 124, 33, 66, 67, 68, 69, 34, 35, 36, 37, 38, 39, 40, 125, 126, 127, 128, 15, 41, 42, 43, 44, 45, 46, 47, 48, 49, 50, 51, 52, 53, 54, 55, 56, 57, 58, 59, 60, 61, 62, 63, 64, 65, 10, 70, 71, 72, 73, 11, 74, 75, 76, 77, 78, 79, 80, 81, 82, 83, 84, 85, 86, 87, 88, 89, 90, 91, 92, 93, 94, 95, 96, 97, 12, 129, 130, 131, 132, 98, 99, 100, 101, 102, 103, 104, 105, 106, 107, 108, 109, 16, 110, 111, 112, 133, 134, 135, 136, 137, 138, 139, 140, 141, 142, 143, 14, 144, 145, 146, 147, 148, 149, 150, 151, 152, 153, 154, 155, 13, 156, 157, 158, 159, 160, 161, 162, 163, 164, 165, 166, 167, 168, 169, 170, 171, 172, 173, 174, 175, 176, 17, 177, 178, 179, 180, 181, 182, 183, 184, 185, 186, 187, 188, 189, 190, 191, 192, 193, 194, 195, 196, 197, 198, 199, 200, 201, 202, 203, 204, 205, 206, 207, 208, 209, 210, 211, 310, 311, 312, 313, 314, 315, 316, 317, 318, 319, 320, 321] (by decide +kernel) (by decide +kernel)) (goodIn_sub (fun _ h => List.mem_append_left _ (List.mem_append_right _ h)) (by decide +kernel))) (goodIn_sub (fun _ h => List.mem_append_left _ (List.mem_append_left _ (List.mem_append_right _ h))) (by decide +kernel))) (goodIn_sub (fun _ h => List.mem_append_right _ h) (by decide +kernel))
set_option maxRecDepth 20000 in
theorem gL_law_L_isWashed : GoodIn wsL_law (va_wsS RL 131 yL_isWashed wsL_isWashed) := goodIn_app (goodIn_of _ (by decide +kernel)) ggL_law_L_isWashed
set_option maxRecDepth 20000 in
theorem ggL_law_L_isPassed : GoodIn wsL_law wsL_isPassed := goodIn_ca (goodIn_ca (goodIn_ca (goodIn_r _ [274, 113, 114, 20, 115, 116, 117, 118, 119, 120, 121, 2, 122, 123, 124, 33, 66, 67, 68, 69, 34, 35, 36, 37, 38, 39, 40, 125, 126, 127, 128, 15, 41, 42, 43, 44, 45, 46, 47, 48, 49, 50, 51, 52, 53, 54, 55, 56, 57, 58, 59, 60, 61, 62, 63, 64, 65, 10, 70, 71, 72, 73, 11, 74, 75, 76, 77, 78, 79, 80, 81, 82, 83, 84, 85, 86, 87, 88, 89, 90, 91, 92, 93, 94, 95, 96, 97, 12, 129, 130, 131, 132, 98, 99, 100, 101, 102, 103, 104, 105, 106, 107, 108, 109, 16, 110, 111, 112, 133, 134, 135, 136, 137, 138, 139, 140, 141, 142, 143, 14, 144, 145, 146, 147, 148, 149, 150, 151, 152, 153, 154, 155, 13, 156, 157, 158, 159, 160, 161, 162, 163, 164, 165, 166, 167, 168, 169, 170, 171, 172, 173, 174, 175, 176, 17, 177, 178, 179, 180, 181, 182, 183, 184, 185, 186, 187, 188, 189, 190, 191, 192, 193, 194, 195, 196, 197, 198, 199, 200, 201, 202, 203, 204, 205, 206, 207, 208, 209, 210, 211, 234, 235, 236, 237, 238, 239, 240, 241, 242, 243, 244, 245, 246, 247, 248, 249, 250, 251, 252, 253, 254, 255, 256, 257, 258, 259, 260, 310, 311, 312, 313, 314, 315, 316, 317, 318, 319, 320, 321] (by decide +kernel) (by decide +kernel)) (goodIn_sub (fun _ h => List.mem_append_left _ (List.mem_append_right _ h)) (by decide +kernel))) (goodIn_sub (fun _ h => List.mem_append_left _ (List.mem_append_left _ (List.mem_append_right _ h))) (by decide +kernel))) (goodIn_sub (fun _ h => List.mem_append_right _ h) (by decide +kernel))
set_option maxRecDepth 20000 in
theorem gL_law_L_isPassed : GoodIn wsL_law (va_wsS RL 135 yL_isPassed wsL_isPassed) := goodIn_app (goodIn_of _ (by decide +kernel)) ggL_law_L_isPassed
set_option maxRecDepth 20000 in
theorem ggL_law_X0_things : GoodIn wsL_law wsX0_things := goodIn_r _ [32, 33, 34, 35, 36, 37, 38, 39, 40, 310, 311, 312, 313, 314, 315, 316, 317, 318, 319, 320, 321] (by decide +kernel) (by decide +kernel)
set_option maxRecDepth 20000 in
theorem gL_law_X0_things : GoodIn wsL_law (wsV RL 69 RX0 yX0_things wsX0_things) := goodIn_app (goodIn_of _ (by decide +kernel)) ggL_law_X0_things
set_option maxRecDepth 20000 in
theorem ggL_law_L_of : GoodIn wsL_law wsL_of := goodIn_ca (goodIn_ca (goodIn_ca (goodIn_r _ [115, 116, 117, 118, 119, 120, 121, 2, 122, 123, 124, 33, 66, 67, 68, 69, 34, 35, 36, 37, 38, 39, 40, 125, 126, 127, 128, 15, 41, 42, 43, 44, 45, 46, 47, 48, 49, 50, 51, 52, 53, 54, 55, 56, 57, 58, 59, 60, 61, 62, 63, 64, 65, 10, 70, 71, 72, 73, 11, 74, 75, 76, 77, 78, 79, 80, 81, 82, 83, 84, 85, 86, 87, 88, 89, 90, 91, 92, 93, 94, 95, 96, 97, 12, 129, 130, 131, 132, 98, 99, 100, 101, 102, 103, 104, 105, 106, 107, 108, 109, 16, 110, 111, 112, 133, 134, 135, 136, 137, 138, 139, 140, 141, 142, 143, 14, 144, 145, 146, 147, 148, 149, 150, 151, 152, 153, 154, 155, 13, 156, 157, 158, 159, 160, 161, 162, 163, 164, 165, 166, 167, 168, 169, 170, 171, 172, 173, 174, 175, 176, 17, 177, 178, 179, 180, 181, 182, 183, 184, 185, 186, 187, 188, 189, 190, 191, 192, 193, 194, 195, 196, 197, 198, 199, 200, 201, 202, 203, 204, 205, 206, 207, 208, 209, 210, 211, 310, 311, 312, 313, 314, 315, 316, 317, 318, 319, 320, 321] (by decide +kernel) (by decide +kernel)) (goodIn_sub (fun _ h => List.mem_append_left _ (List.mem_append_right _ h)) (by decide +kernel))) (goodIn_sub (fun _ h => List.mem_append_left _ (List.mem_append_left _ (List.mem_append_right _ h))) (by decide +kernel))) (goodIn_sub (fun _ h => List.mem_append_right _ h) (by decide +kernel))
set_option maxRecDepth 20000 in
theorem gL_law_L_of : GoodIn wsL_law (va_wsS RL 81 yL_of wsL_of) := goodIn_app (goodIn_of _ (by decide +kernel)) ggL_law_L_of
set_option maxRecDepth 20000 in
theorem ggL_law_L_areThings : GoodIn wsL_law wsL_areThings := goodIn_ca (goodIn_ca (goodIn_ca (goodIn_r _ [277, 113, 114, 20, 115, 116, 117, 118, 119, 120, 121, 2, 122, 123, 124, 33, 66, 67, 68, 69, 34, 35, 36, 37, 38, 39, 40, 125, 126, 127, 128, 15, 41, 42, 43, 44, 45, 46, 47, 48, 49, 50, 51, 52, 53, 54, 55, 56, 57, 58, 59, 60, 61, 62, 63, 64, 65, 10, 70, 71, 72, 73, 11, 74, 75, 76, 77, 78, 79, 80, 81, 82, 83, 84, 85, 86, 87, 88, 89, 90, 91, 92, 93, 94, 95, 96, 97, 12, 129, 130, 131, 132, 98, 99, 100, 101, 102, 103, 104, 105, 106, 107, 108, 109, 16, 110, 111, 112, 133, 134, 135, 136, 137, 138, 139, 140, 141, 142, 143, 14, 144, 145, 146, 147, 148, 149, 150, 151, 152, 153, 154, 155, 13, 156, 157, 158, 159, 160, 161, 162, 163, 164, 165, 166, 167, 168, 169, 170, 171, 172, 173, 174, 175, 176, 17, 177, 178, 179, 180, 181, 182, 183, 184, 185, 186, 187, 188, 189, 190, 191, 192, 193, 194, 195, 196, 197, 198, 199, 200, 201, 202, 203, 204, 205, 206, 207, 208, 209, 210, 211, 29, 30, 31, 32, 310, 311, 312, 313, 314, 315, 316, 317, 318, 319, 320, 321] (by decide +kernel) (by decide +kernel)) (goodIn_sub (fun _ h => List.mem_append_left _ (List.mem_append_right _ h)) (by decide +kernel))) (goodIn_sub (fun _ h => List.mem_append_left _ (List.mem_append_left _ (List.mem_append_right _ h))) (by decide +kernel))) (goodIn_sub (fun _ h => List.mem_append_right _ h) (by decide +kernel))
set_option maxRecDepth 20000 in
theorem gL_law_L_areThings : GoodIn wsL_law (va_wsS RL 139 yL_areThings wsL_areThings) := goodIn_app (goodIn_of _ (by decide +kernel)) ggL_law_L_areThings
set_option maxRecDepth 20000 in
theorem ggL_law_L_areOutfits : GoodIn wsL_law wsL_areOutfits := goodIn_ca (goodIn_ca (goodIn_ca (goodIn_r _ [280, 98, 99, 100, 2, 101, 45, 46, 47, 48, 49, 50, 51, 52, 53, 102, 103, 104, 58, 59, 60, 61, 62, 63, 64, 65, 10, 15, 66, 67, 68, 69, 33, 70, 71, 72, 73, 11, 74, 75, 76, 77, 78, 79, 80, 81, 82, 83, 84, 85, 105, 106, 107, 108, 109, 16, 110, 111, 112, 90, 91, 92, 93, 94, 95, 96, 97, 12, 86, 87, 88, 89, 281, 282, 20, 283, 234, 235, 236, 116, 117, 118, 237, 238, 239, 240, 123, 124, 241, 242, 243, 244, 181, 182, 183, 184, 185, 186, 187, 188, 245, 246, 247, 248, 249, 250, 251, 252, 164, 165, 253, 254, 255, 256, 144, 145, 146, 147, 257, 258, 259, 260, 284, 285, 286, 129, 130, 131, 132, 54, 55, 56, 57, 41, 42, 43, 44, 310, 311, 312, 313, 314, 315, 316, 317, 318, 319, 320, 321] (by decide +kernel) (by decide +kernel)) (goodIn_sub (fun _ h => List.mem_append_left _ (List.mem_append_left _ (List.mem_append_right _ h))) (by decide +kernel))) (goodIn_sub (fun _ h => List.mem_append_left _ (List.mem_append_right _ h)) (by decide +kernel))) (goodIn_sub (fun _ h => List.mem_append_right _ h) (by decide +kernel))
set_option maxRecDepth 20000 in
theorem gL_law_L_areOutfits : GoodIn wsL_law (va_wsS RL 143 yL_areOutfits wsL_areOutfits) := goodIn_app (goodIn_of _ (by decide +kernel)) ggL_law_L_areOutfits
set_option maxRecDepth 20000 in
theorem ggL_law_L_isMissing : GoodIn wsL_law wsL_isMissing := goodIn_r _ [289, 290, 291, 292, 2, 293, 294, 295, 296, 297, 47, 11, 62, 63, 64, 65, 10, 15, 66, 67, 68, 69, 33, 74, 75, 76, 77, 78, 79, 80, 81, 310, 311, 312, 313, 314, 315, 316, 317, 318, 319, 320, 321] (by decide +kernel) (by decide +kernel)
set_option maxRecDepth 20000 in
theorem gL_law_L_isMissing : GoodIn wsL_law (va_wsS RL 147 yL_isMissing wsL_isMissing) := goodIn_app (goodIn_of _ (by decide +kernel)) ggL_law_L_isMissing
set_option maxRecDepth 20000 in
theorem ggL_law_L_isWrong : GoodIn wsL_law wsL_isWrong := goodIn_ca (goodIn_ca (goodIn_ca (goodIn_r _ [300, 301, 302, 20, 303, 234, 235, 236, 116, 117, 118, 237, 238, 239, 2, 240, 123, 124, 45, 46, 241, 242, 243, 244, 66, 67, 68, 69, 33, 181, 182, 183, 184, 185, 186, 187, 188, 10, 58, 59, 60, 61, 62, 63, 64, 65, 15, 70, 71, 72, 73, 11, 74, 75, 76, 77, 78, 79, 80, 81, 82, 83, 84, 85, 245, 246, 247, 248, 102, 103, 104, 51, 52, 53, 105, 106, 107, 108, 109, 16, 110, 111, 112, 249, 250, 251, 252, 164, 165, 253, 254, 255, 256, 144, 145, 146, 147, 257, 258, 259, 260, 90, 91, 92, 93, 94, 95, 96, 97, 12, 310, 311, 312, 313, 314, 315, 316, 317, 318, 319, 320, 321] (by decide +kernel) (by decide +kernel)) (goodIn_sub (fun _ h => List.mem_append_left _ (List.mem_append_right _ h)) (by decide +kernel))) (goodIn_sub (fun _ h => List.mem_append_left _ (List.mem_append_left _ (List.mem_append_right _ h))) (by decide +kernel))) (goodIn_sub (fun _ h => List.mem_append_right _ h) (by decide +kernel))
set_option maxRecDepth 20000 in
theorem gL_law_L_isWrong : GoodIn wsL_law (va_wsS RL 151 yL_isWrong wsL_isWrong) := goodIn_app (goodIn_of _ (by decide +kernel)) ggL_law_L_isWrong
set_option maxRecDepth 20000 in
theorem ggL_law_L_isBag : GoodIn wsL_law wsL_isBag := goodIn_ca (goodIn_r _ [306, 166, 167, 168, 2, 169, 45, 46, 170, 171, 172, 51, 52, 53, 173, 174, 175, 176, 17, 47, 177, 178, 179, 180, 181, 182, 183, 184, 185, 186, 187, 188, 10, 66, 67, 68, 69, 33, 70, 71, 72, 73, 11, 74, 75, 76, 77, 78, 79, 80, 81, 90, 91, 92, 93, 94, 95, 96, 97, 12, 189, 190, 191, 192, 144, 145, 146, 147, 15, 193, 194, 195, 196, 197, 198, 199, 200, 34, 35, 36, 37, 38, 39, 40, 201, 202, 203, 204, 205, 206, 207, 208, 209, 210, 211, 222, 223, 20, 224, 117, 225, 226, 227, 228, 229, 219, 220, 221, 230, 231, 232, 233, 307, 308, 309, 310, 311, 312, 313, 314, 315, 316, 317, 318, 319, 320, 321] (by decide +kernel) (by decide +kernel)) (goodIn_sub (fun _ h => List.mem_append_left _ (List.mem_append_left _ (List.mem_append_right _ h))) (by decide +kernel))
set_option maxRecDepth 20000 in
theorem gL_law_L_isBag : GoodIn wsL_law (va_wsS RL 155 yL_isBag wsL_isBag) := goodIn_app (goodIn_of _ (by decide +kernel)) ggL_law_L_isBag
theorem dL_law_0 : decode cL_law 0 = .ok (.new 10, 3) := by decide +kernel
theorem dL_law_3 : decode cL_law 3 = .ok (.dup, 1) := by decide +kernel
theorem dL_law_4 : decode cL_law 4 = .ok (.invokespecial 119, 3) := by decide +kernel
theorem dL_law_7 : decode cL_law 7 = .ok (.astore_n 1, 1) := by decide +kernel
theorem dL_law_8 : decode cL_law 8 = .ok (.bipush 60, 2) := by decide +kernel
theorem dL_law_10 : decode cL_law 10 = .ok (.newarray .int, 2) := by decide +kernel
theorem dL_law_12 : decode cL_law 12 = .ok (.astore_n 2, 1) := by decide +kernel
theorem dL_law_13 : decode cL_law 13 = .ok (.bipush 12, 2) := by decide +kernel
theorem dL_law_15 : decode cL_law 15 = .ok (.newarray .int, 2) := by decide +kernel
theorem dL_law_17 : decode cL_law 17 = .ok (.astore_n 3, 1) := by decide +kernel
theorem dL_law_18 : decode cL_law 18 = .ok (.bipush 8, 2) := by decide +kernel
theorem dL_law_20 : decode cL_law 20 = .ok (.newarray .int, 2) := by decide +kernel
theorem dL_law_22 : decode cL_law 22 = .ok (.astore 4, 2) := by decide +kernel
theorem dL_law_24 : decode cL_law 24 = .ok (.iconst 4, 1) := by decide +kernel
theorem dL_law_25 : decode cL_law 25 = .ok (.newarray .int, 2) := by decide +kernel
theorem dL_law_27 : decode cL_law 27 = .ok (.astore 5, 2) := by decide +kernel
theorem dL_law_29 : decode cL_law 29 = .ok (.iconst 2, 1) := by decide +kernel
theorem dL_law_30 : decode cL_law 30 = .ok (.newarray .int, 2) := by decide +kernel
theorem dL_law_32 : decode cL_law 32 = .ok (.astore 6, 2) := by decide +kernel
theorem dL_law_34 : decode cL_law 34 = .ok (.aload_n 1, 1) := by decide +kernel
theorem dL_law_35 : decode cL_law 35 = .ok (.aload 6, 2) := by decide +kernel
theorem dL_law_37 : decode cL_law 37 = .ok (.iconst 0, 1) := by decide +kernel
theorem dL_law_38 : decode cL_law 38 = .ok (.invokestatic 120, 3) := by decide +kernel
theorem dL_law_41 : decode cL_law 41 = .ok (.ifCond .eq 17, 3) := by decide +kernel
theorem dL_law_44 : decode cL_law 44 = .ok (.aload_n 1, 1) := by decide +kernel
theorem dL_law_45 : decode cL_law 45 = .ok (.aload 6, 2) := by decide +kernel
theorem dL_law_47 : decode cL_law 47 = .ok (.iconst 1, 1) := by decide +kernel
theorem dL_law_48 : decode cL_law 48 = .ok (.invokestatic 120, 3) := by decide +kernel
theorem dL_law_51 : decode cL_law 51 = .ok (.ifCond .eq 7, 3) := by decide +kernel
theorem dL_law_54 : decode cL_law 54 = .ok (.iconst 1, 1) := by decide +kernel
theorem dL_law_55 : decode cL_law 55 = .ok (.goto 4, 3) := by decide +kernel
theorem dL_law_58 : decode cL_law 58 = .ok (.iconst 0, 1) := by decide +kernel
theorem dL_law_59 : decode cL_law 59 = .ok (.istore 7, 2) := by decide +kernel
theorem dL_law_61 : decode cL_law 61 = .ok (.iconst 0, 1) := by decide +kernel
theorem dL_law_62 : decode cL_law 62 = .ok (.istore 8, 2) := by decide +kernel
theorem dL_law_64 : decode cL_law 64 = .ok (.iload 8, 2) := by decide +kernel
theorem dL_law_66 : decode cL_law 66 = .ok (.bipush 80, 2) := by decide +kernel
theorem dL_law_68 : decode cL_law 68 = .ok (.if_icmp .ge 909, 3) := by decide +kernel
theorem dL_law_71 : decode cL_law 71 = .ok (.iload 7, 2) := by decide +kernel
theorem dL_law_73 : decode cL_law 73 = .ok (.ifCond .eq 904, 3) := by decide +kernel
theorem dL_law_76 : decode cL_law 76 = .ok (.aload_n 0, 1) := by decide +kernel
theorem dL_law_77 : decode cL_law 77 = .ok (.iload 8, 2) := by decide +kernel
theorem dL_law_79 : decode cL_law 79 = .ok (.invokestatic 124, 3) := by decide +kernel
theorem dL_law_82 : decode cL_law 82 = .ok (.istore 9, 2) := by decide +kernel
theorem dL_law_84 : decode cL_law 84 = .ok (.iload 9, 2) := by decide +kernel
theorem dL_law_86 : decode cL_law 86 = .ok (.bipush 32, 2) := by decide +kernel
theorem dL_law_88 : decode cL_law 88 = .ok (.idiv, 1) := by decide +kernel
theorem dL_law_89 : decode cL_law 89 = .ok (.istore 10, 2) := by decide +kernel
theorem dL_law_91 : decode cL_law 91 = .ok (.iload 9, 2) := by decide +kernel
theorem dL_law_93 : decode cL_law 93 = .ok (.bipush 32, 2) := by decide +kernel
theorem dL_law_95 : decode cL_law 95 = .ok (.irem, 1) := by decide +kernel
theorem dL_law_96 : decode cL_law 96 = .ok (.istore 11, 2) := by decide +kernel
theorem dL_law_98 : decode cL_law 98 = .ok (.aload 6, 2) := by decide +kernel
theorem dL_law_100 : decode cL_law 100 = .ok (.iconst 0, 1) := by decide +kernel
theorem dL_law_101 : decode cL_law 101 = .ok (.iaload, 1) := by decide +kernel
theorem dL_law_102 : decode cL_law 102 = .ok (.ifCond .ne 7, 3) := by decide +kernel
theorem dL_law_105 : decode cL_law 105 = .ok (.iconst 0, 1) := by decide +kernel
theorem dL_law_106 : decode cL_law 106 = .ok (.goto 10, 3) := by decide +kernel
theorem dL_law_109 : decode cL_law 109 = .ok (.iload 10, 2) := by decide +kernel
theorem dL_law_111 : decode cL_law 111 = .ok (.aload 6, 2) := by decide +kernel
theorem dL_law_113 : decode cL_law 113 = .ok (.iconst 0, 1) := by decide +kernel
theorem dL_law_114 : decode cL_law 114 = .ok (.iaload, 1) := by decide +kernel
theorem dL_law_115 : decode cL_law 115 = .ok (.irem, 1) := by decide +kernel
theorem dL_law_116 : decode cL_law 116 = .ok (.istore 12, 2) := by decide +kernel
theorem dL_law_118 : decode cL_law 118 = .ok (.aload 6, 2) := by decide +kernel
theorem dL_law_120 : decode cL_law 120 = .ok (.iconst 0, 1) := by decide +kernel
theorem dL_law_121 : decode cL_law 121 = .ok (.iaload, 1) := by decide +kernel
theorem dL_law_122 : decode cL_law 122 = .ok (.iconst 4, 1) := by decide +kernel
theorem dL_law_123 : decode cL_law 123 = .ok (.if_icmp .lt 18, 3) := by decide +kernel
theorem dL_law_126 : decode cL_law 126 = .ok (.iload 11, 2) := by decide +kernel
theorem dL_law_128 : decode cL_law 128 = .ok (.iconst 3, 1) := by decide +kernel
theorem dL_law_129 : decode cL_law 129 = .ok (.if_icmp .ge 197, 3) := by decide +kernel
theorem dL_law_132 : decode cL_law 132 = .ok (.aload 6, 2) := by decide +kernel
theorem dL_law_134 : decode cL_law 134 = .ok (.iconst 0, 1) := by decide +kernel
theorem dL_law_135 : decode cL_law 135 = .ok (.iaload, 1) := by decide +kernel
theorem dL_law_136 : decode cL_law 136 = .ok (.bipush 12, 2) := by decide +kernel
theorem dL_law_138 : decode cL_law 138 = .ok (.if_icmp .ge 188, 3) := by decide +kernel
theorem dL_law_141 : decode cL_law 141 = .ok (.iconst 5, 1) := by decide +kernel
theorem dL_law_142 : decode cL_law 142 = .ok (.aload 6, 2) := by decide +kernel
theorem dL_law_144 : decode cL_law 144 = .ok (.iconst 0, 1) := by decide +kernel
theorem dL_law_145 : decode cL_law 145 = .ok (.iaload, 1) := by decide +kernel
theorem dL_law_146 : decode cL_law 146 = .ok (.imul, 1) := by decide +kernel
theorem dL_law_147 : decode cL_law 147 = .ok (.istore 13, 2) := by decide +kernel
theorem dL_law_149 : decode cL_law 149 = .ok (.aload_n 2, 1) := by decide +kernel
theorem dL_law_150 : decode cL_law 150 = .ok (.iload 13, 2) := by decide +kernel
theorem dL_law_152 : decode cL_law 152 = .ok (.aload 6, 2) := by decide +kernel
theorem dL_law_154 : decode cL_law 154 = .ok (.iconst 0, 1) := by decide +kernel
theorem dL_law_155 : decode cL_law 155 = .ok (.iaload, 1) := by decide +kernel
theorem dL_law_156 : decode cL_law 156 = .ok (.iconst 4, 1) := by decide +kernel
theorem dL_law_157 : decode cL_law 157 = .ok (.if_icmp .ge 12, 3) := by decide +kernel
theorem dL_law_160 : decode cL_law 160 = .ok (.aload 6, 2) := by decide +kernel
theorem dL_law_162 : decode cL_law 162 = .ok (.iconst 0, 1) := by decide +kernel
theorem dL_law_163 : decode cL_law 163 = .ok (.iaload, 1) := by decide +kernel
theorem dL_law_164 : decode cL_law 164 = .ok (.iconst 2, 1) := by decide +kernel
theorem dL_law_165 : decode cL_law 165 = .ok (.irem, 1) := by decide +kernel
theorem dL_law_166 : decode cL_law 166 = .ok (.goto 31, 3) := by decide +kernel
theorem dL_law_169 : decode cL_law 169 = .ok (.iload 10, 2) := by decide +kernel
theorem dL_law_171 : decode cL_law 171 = .ok (.bipush 9, 2) := by decide +kernel
theorem dL_law_173 : decode cL_law 173 = .ok (.irem, 1) := by decide +kernel
theorem dL_law_174 : decode cL_law 174 = .ok (.iconst 4, 1) := by decide +kernel
theorem dL_law_175 : decode cL_law 175 = .ok (.if_icmp .ge 7, 3) := by decide +kernel
theorem dL_law_178 : decode cL_law 178 = .ok (.iconst 0, 1) := by decide +kernel
theorem dL_law_179 : decode cL_law 179 = .ok (.goto 18, 3) := by decide +kernel
theorem dL_law_182 : decode cL_law 182 = .ok (.iload 10, 2) := by decide +kernel
theorem dL_law_184 : decode cL_law 184 = .ok (.bipush 9, 2) := by decide +kernel
theorem dL_law_186 : decode cL_law 186 = .ok (.irem, 1) := by decide +kernel
theorem dL_law_187 : decode cL_law 187 = .ok (.bipush 8, 2) := by decide +kernel
theorem dL_law_189 : decode cL_law 189 = .ok (.if_icmp .ge 7, 3) := by decide +kernel
theorem dL_law_192 : decode cL_law 192 = .ok (.iconst 1, 1) := by decide +kernel
theorem dL_law_193 : decode cL_law 193 = .ok (.goto 4, 3) := by decide +kernel
theorem dL_law_196 : decode cL_law 196 = .ok (.iconst 2, 1) := by decide +kernel
theorem dL_law_197 : decode cL_law 197 = .ok (.iastore, 1) := by decide +kernel
theorem dL_law_198 : decode cL_law 198 = .ok (.aload_n 2, 1) := by decide +kernel
theorem dL_law_199 : decode cL_law 199 = .ok (.iload 13, 2) := by decide +kernel
theorem dL_law_201 : decode cL_law 201 = .ok (.iconst 1, 1) := by decide +kernel
theorem dL_law_202 : decode cL_law 202 = .ok (.iadd, 1) := by decide +kernel
theorem dL_law_203 : decode cL_law 203 = .ok (.iload 10, 2) := by decide +kernel
theorem dL_law_205 : decode cL_law 205 = .ok (.bipush 9, 2) := by decide +kernel
theorem dL_law_207 : decode cL_law 207 = .ok (.idiv, 1) := by decide +kernel
theorem dL_law_208 : decode cL_law 208 = .ok (.bipush 8, 2) := by decide +kernel
theorem dL_law_210 : decode cL_law 210 = .ok (.irem, 1) := by decide +kernel
theorem dL_law_211 : decode cL_law 211 = .ok (.iastore, 1) := by decide +kernel
theorem dL_law_212 : decode cL_law 212 = .ok (.aload_n 2, 1) := by decide +kernel
theorem dL_law_213 : decode cL_law 213 = .ok (.iload 13, 2) := by decide +kernel
theorem dL_law_215 : decode cL_law 215 = .ok (.iconst 2, 1) := by decide +kernel
theorem dL_law_216 : decode cL_law 216 = .ok (.iadd, 1) := by decide +kernel
theorem dL_law_217 : decode cL_law 217 = .ok (.iload 10, 2) := by decide +kernel
theorem dL_law_219 : decode cL_law 219 = .ok (.bipush 72, 2) := by decide +kernel
theorem dL_law_221 : decode cL_law 221 = .ok (.idiv, 1) := by decide +kernel
theorem dL_law_222 : decode cL_law 222 = .ok (.bipush 11, 2) := by decide +kernel
theorem dL_law_224 : decode cL_law 224 = .ok (.irem, 1) := by decide +kernel
theorem dL_law_225 : decode cL_law 225 = .ok (.iastore, 1) := by decide +kernel
theorem dL_law_226 : decode cL_law 226 = .ok (.aload_n 2, 1) := by decide +kernel
theorem dL_law_227 : decode cL_law 227 = .ok (.iload 13, 2) := by decide +kernel
theorem dL_law_229 : decode cL_law 229 = .ok (.iconst 3, 1) := by decide +kernel
theorem dL_law_230 : decode cL_law 230 = .ok (.iadd, 1) := by decide +kernel
theorem dL_law_231 : decode cL_law 231 = .ok (.iconst 1, 1) := by decide +kernel
theorem dL_law_232 : decode cL_law 232 = .ok (.iload 10, 2) := by decide +kernel
theorem dL_law_234 : decode cL_law 234 = .ok (.sipush 792, 3) := by decide +kernel
theorem dL_law_237 : decode cL_law 237 = .ok (.idiv, 1) := by decide +kernel
theorem dL_law_238 : decode cL_law 238 = .ok (.iload 10, 2) := by decide +kernel
theorem dL_law_240 : decode cL_law 240 = .ok (.iconst 3, 1) := by decide +kernel
theorem dL_law_241 : decode cL_law 241 = .ok (.irem, 1) := by decide +kernel
theorem dL_law_242 : decode cL_law 242 = .ok (.ifCond .ne 8, 3) := by decide +kernel
theorem dL_law_245 : decode cL_law 245 = .ok (.bipush 9, 2) := by decide +kernel
theorem dL_law_247 : decode cL_law 247 = .ok (.goto 4, 3) := by decide +kernel
theorem dL_law_250 : decode cL_law 250 = .ok (.iconst 4, 1) := by decide +kernel
theorem dL_law_251 : decode cL_law 251 = .ok (.irem, 1) := by decide +kernel
theorem dL_law_252 : decode cL_law 252 = .ok (.iadd, 1) := by decide +kernel
theorem dL_law_253 : decode cL_law 253 = .ok (.iastore, 1) := by decide +kernel
theorem dL_law_254 : decode cL_law 254 = .ok (.aload_n 2, 1) := by decide +kernel
theorem dL_law_255 : decode cL_law 255 = .ok (.iload 13, 2) := by decide +kernel
theorem dL_law_257 : decode cL_law 257 = .ok (.iconst 4, 1) := by decide +kernel
theorem dL_law_258 : decode cL_law 258 = .ok (.iadd, 1) := by decide +kernel
theorem dL_law_259 : decode cL_law 259 = .ok (.iload 10, 2) := by decide +kernel
theorem dL_law_261 : decode cL_law 261 = .ok (.bipush 7, 2) := by decide +kernel
theorem dL_law_263 : decode cL_law 263 = .ok (.idiv, 1) := by decide +kernel
theorem dL_law_264 : decode cL_law 264 = .ok (.iconst 3, 1) := by decide +kernel
theorem dL_law_265 : decode cL_law 265 = .ok (.irem, 1) := by decide +kernel
theorem dL_law_266 : decode cL_law 266 = .ok (.iastore, 1) := by decide +kernel
theorem dL_law_267 : decode cL_law 267 = .ok (.aload 6, 2) := by decide +kernel
theorem dL_law_269 : decode cL_law 269 = .ok (.iconst 0, 1) := by decide +kernel
theorem dL_law_270 : decode cL_law 270 = .ok (.dup2, 1) := by decide +kernel
theorem dL_law_271 : decode cL_law 271 = .ok (.iaload, 1) := by decide +kernel
theorem dL_law_272 : decode cL_law 272 = .ok (.iconst 1, 1) := by decide +kernel
theorem dL_law_273 : decode cL_law 273 = .ok (.iadd, 1) := by decide +kernel
theorem dL_law_274 : decode cL_law 274 = .ok (.iastore, 1) := by decide +kernel
theorem dL_law_275 : decode cL_law 275 = .ok (.aload_n 1, 1) := by decide +kernel
theorem dL_law_276 : decode cL_law 276 = .ok (.aload_n 2, 1) := by decide +kernel
theorem dL_law_277 : decode cL_law 277 = .ok (.iload 13, 2) := by decide +kernel
theorem dL_law_279 : decode cL_law 279 = .ok (.iaload, 1) := by decide +kernel
theorem dL_law_280 : decode cL_law 280 = .ok (.aload_n 2, 1) := by decide +kernel
theorem dL_law_281 : decode cL_law 281 = .ok (.iload 13, 2) := by decide +kernel
theorem dL_law_283 : decode cL_law 283 = .ok (.iconst 1, 1) := by decide +kernel
theorem dL_law_284 : decode cL_law 284 = .ok (.iadd, 1) := by decide +kernel
theorem dL_law_285 : decode cL_law 285 = .ok (.iaload, 1) := by decide +kernel
theorem dL_law_286 : decode cL_law 286 = .ok (.aload_n 2, 1) := by decide +kernel
theorem dL_law_287 : decode cL_law 287 = .ok (.iload 13, 2) := by decide +kernel
theorem dL_law_289 : decode cL_law 289 = .ok (.iconst 2, 1) := by decide +kernel
theorem dL_law_290 : decode cL_law 290 = .ok (.iadd, 1) := by decide +kernel
theorem dL_law_291 : decode cL_law 291 = .ok (.iaload, 1) := by decide +kernel
theorem dL_law_292 : decode cL_law 292 = .ok (.aload_n 2, 1) := by decide +kernel
theorem dL_law_293 : decode cL_law 293 = .ok (.iload 13, 2) := by decide +kernel
theorem dL_law_295 : decode cL_law 295 = .ok (.iconst 3, 1) := by decide +kernel
theorem dL_law_296 : decode cL_law 296 = .ok (.iadd, 1) := by decide +kernel
theorem dL_law_297 : decode cL_law 297 = .ok (.iaload, 1) := by decide +kernel
theorem dL_law_298 : decode cL_law 298 = .ok (.aload_n 2, 1) := by decide +kernel
theorem dL_law_299 : decode cL_law 299 = .ok (.iload 13, 2) := by decide +kernel
theorem dL_law_301 : decode cL_law 301 = .ok (.iconst 4, 1) := by decide +kernel
theorem dL_law_302 : decode cL_law 302 = .ok (.iadd, 1) := by decide +kernel
theorem dL_law_303 : decode cL_law 303 = .ok (.iaload, 1) := by decide +kernel
theorem dL_law_304 : decode cL_law 304 = .ok (.invokestatic 113, 3) := by decide +kernel
theorem dL_law_307 : decode cL_law 307 = .ok (.aload 6, 2) := by decide +kernel
theorem dL_law_309 : decode cL_law 309 = .ok (.iconst 0, 1) := by decide +kernel
theorem dL_law_310 : decode cL_law 310 = .ok (.iaload, 1) := by decide +kernel
theorem dL_law_311 : decode cL_law 311 = .ok (.iconst 1, 1) := by decide +kernel
theorem dL_law_312 : decode cL_law 312 = .ok (.isub, 1) := by decide +kernel
theorem dL_law_313 : decode cL_law 313 = .ok (.if_icmp .ne 7, 3) := by decide +kernel
theorem dL_law_316 : decode cL_law 316 = .ok (.iconst 1, 1) := by decide +kernel
theorem dL_law_317 : decode cL_law 317 = .ok (.goto 4, 3) := by decide +kernel
theorem dL_law_320 : decode cL_law 320 = .ok (.iconst 0, 1) := by decide +kernel
theorem dL_law_321 : decode cL_law 321 = .ok (.istore 7, 2) := by decide +kernel
theorem dL_law_323 : decode cL_law 323 = .ok (.goto 460, 3) := by decide +kernel
theorem dL_law_326 : decode cL_law 326 = .ok (.iload 11, 2) := by decide +kernel
theorem dL_law_328 : decode cL_law 328 = .ok (.bipush 8, 2) := by decide +kernel
theorem dL_law_330 : decode cL_law 330 = .ok (.if_icmp .ge 121, 3) := by decide +kernel
theorem dL_law_333 : decode cL_law 333 = .ok (.iload 10, 2) := by decide +kernel
theorem dL_law_335 : decode cL_law 335 = .ok (.bipush 8, 2) := by decide +kernel
theorem dL_law_337 : decode cL_law 337 = .ok (.irem, 1) := by decide +kernel
theorem dL_law_338 : decode cL_law 338 = .ok (.istore 13, 2) := by decide +kernel
theorem dL_law_340 : decode cL_law 340 = .ok (.iload 10, 2) := by decide +kernel
theorem dL_law_342 : decode cL_law 342 = .ok (.bipush 8, 2) := by decide +kernel
theorem dL_law_344 : decode cL_law 344 = .ok (.idiv, 1) := by decide +kernel
theorem dL_law_345 : decode cL_law 345 = .ok (.bipush 8, 2) := by decide +kernel
theorem dL_law_347 : decode cL_law 347 = .ok (.irem, 1) := by decide +kernel
theorem dL_law_348 : decode cL_law 348 = .ok (.istore 14, 2) := by decide +kernel
theorem dL_law_350 : decode cL_law 350 = .ok (.aload 4, 2) := by decide +kernel
theorem dL_law_352 : decode cL_law 352 = .ok (.iload 13, 2) := by decide +kernel
theorem dL_law_354 : decode cL_law 354 = .ok (.iaload, 1) := by decide +kernel
theorem dL_law_355 : decode cL_law 355 = .ok (.iload 14, 2) := by decide +kernel
theorem dL_law_357 : decode cL_law 357 = .ok (.ishr, 1) := by decide +kernel
theorem dL_law_358 : decode cL_law 358 = .ok (.iconst 1, 1) := by decide +kernel
theorem dL_law_359 : decode cL_law 359 = .ok (.iand, 1) := by decide +kernel
theorem dL_law_360 : decode cL_law 360 = .ok (.istore 15, 2) := by decide +kernel
theorem dL_law_362 : decode cL_law 362 = .ok (.iload 10, 2) := by decide +kernel
theorem dL_law_364 : decode cL_law 364 = .ok (.bipush 64, 2) := by decide +kernel
theorem dL_law_366 : decode cL_law 366 = .ok (.idiv, 1) := by decide +kernel
theorem dL_law_367 : decode cL_law 367 = .ok (.iconst 3, 1) := by decide +kernel
theorem dL_law_368 : decode cL_law 368 = .ok (.irem, 1) := by decide +kernel
theorem dL_law_369 : decode cL_law 369 = .ok (.ifCond .ne 7, 3) := by decide +kernel
theorem dL_law_372 : decode cL_law 372 = .ok (.iconst 1, 1) := by decide +kernel
theorem dL_law_373 : decode cL_law 373 = .ok (.goto 4, 3) := by decide +kernel
theorem dL_law_376 : decode cL_law 376 = .ok (.iconst 0, 1) := by decide +kernel
theorem dL_law_377 : decode cL_law 377 = .ok (.istore 16, 2) := by decide +kernel
theorem dL_law_379 : decode cL_law 379 = .ok (.aload 4, 2) := by decide +kernel
theorem dL_law_381 : decode cL_law 381 = .ok (.iload 13, 2) := by decide +kernel
theorem dL_law_383 : decode cL_law 383 = .ok (.aload 4, 2) := by decide +kernel
theorem dL_law_385 : decode cL_law 385 = .ok (.iload 13, 2) := by decide +kernel
theorem dL_law_387 : decode cL_law 387 = .ok (.iaload, 1) := by decide +kernel
theorem dL_law_388 : decode cL_law 388 = .ok (.iconst 1, 1) := by decide +kernel
theorem dL_law_389 : decode cL_law 389 = .ok (.iload 14, 2) := by decide +kernel
theorem dL_law_391 : decode cL_law 391 = .ok (.ishl, 1) := by decide +kernel
theorem dL_law_392 : decode cL_law 392 = .ok (.iconst (-1), 1) := by decide +kernel
theorem dL_law_393 : decode cL_law 393 = .ok (.ixor, 1) := by decide +kernel
theorem dL_law_394 : decode cL_law 394 = .ok (.iand, 1) := by decide +kernel
theorem dL_law_395 : decode cL_law 395 = .ok (.iload 16, 2) := by decide +kernel
theorem dL_law_397 : decode cL_law 397 = .ok (.iload 14, 2) := by decide +kernel
theorem dL_law_399 : decode cL_law 399 = .ok (.ishl, 1) := by decide +kernel
theorem dL_law_400 : decode cL_law 400 = .ok (.ior, 1) := by decide +kernel
theorem dL_law_401 : decode cL_law 401 = .ok (.iastore, 1) := by decide +kernel
theorem dL_law_402 : decode cL_law 402 = .ok (.aload 4, 2) := by decide +kernel
theorem dL_law_404 : decode cL_law 404 = .ok (.iload 14, 2) := by decide +kernel
theorem dL_law_406 : decode cL_law 406 = .ok (.aload 4, 2) := by decide +kernel
theorem dL_law_408 : decode cL_law 408 = .ok (.iload 14, 2) := by decide +kernel
theorem dL_law_410 : decode cL_law 410 = .ok (.iaload, 1) := by decide +kernel
theorem dL_law_411 : decode cL_law 411 = .ok (.iconst 1, 1) := by decide +kernel
theorem dL_law_412 : decode cL_law 412 = .ok (.iload 13, 2) := by decide +kernel
theorem dL_law_414 : decode cL_law 414 = .ok (.ishl, 1) := by decide +kernel
theorem dL_law_415 : decode cL_law 415 = .ok (.iconst (-1), 1) := by decide +kernel
theorem dL_law_416 : decode cL_law 416 = .ok (.ixor, 1) := by decide +kernel
theorem dL_law_417 : decode cL_law 417 = .ok (.iand, 1) := by decide +kernel
theorem dL_law_418 : decode cL_law 418 = .ok (.iload 16, 2) := by decide +kernel
theorem dL_law_420 : decode cL_law 420 = .ok (.iload 13, 2) := by decide +kernel
theorem dL_law_422 : decode cL_law 422 = .ok (.ishl, 1) := by decide +kernel
theorem dL_law_423 : decode cL_law 423 = .ok (.ior, 1) := by decide +kernel
theorem dL_law_424 : decode cL_law 424 = .ok (.iastore, 1) := by decide +kernel
theorem dL_law_425 : decode cL_law 425 = .ok (.aload_n 1, 1) := by decide +kernel
theorem dL_law_426 : decode cL_law 426 = .ok (.iconst 0, 1) := by decide +kernel
theorem dL_law_427 : decode cL_law 427 = .ok (.iload 13, 2) := by decide +kernel
theorem dL_law_429 : decode cL_law 429 = .ok (.iload 14, 2) := by decide +kernel
theorem dL_law_431 : decode cL_law 431 = .ok (.iload 16, 2) := by decide +kernel
theorem dL_law_433 : decode cL_law 433 = .ok (.invokestatic 102, 3) := by decide +kernel
theorem dL_law_436 : decode cL_law 436 = .ok (.iload 15, 2) := by decide +kernel
theorem dL_law_438 : decode cL_law 438 = .ok (.if_icmp .ne 7, 3) := by decide +kernel
theorem dL_law_441 : decode cL_law 441 = .ok (.iconst 1, 1) := by decide +kernel
theorem dL_law_442 : decode cL_law 442 = .ok (.goto 4, 3) := by decide +kernel
theorem dL_law_445 : decode cL_law 445 = .ok (.iconst 0, 1) := by decide +kernel
theorem dL_law_446 : decode cL_law 446 = .ok (.istore 7, 2) := by decide +kernel
theorem dL_law_448 : decode cL_law 448 = .ok (.goto 335, 3) := by decide +kernel
theorem dL_law_451 : decode cL_law 451 = .ok (.iload 11, 2) := by decide +kernel
theorem dL_law_453 : decode cL_law 453 = .ok (.bipush 20, 2) := by decide +kernel
theorem dL_law_455 : decode cL_law 455 = .ok (.if_icmp .ge 148, 3) := by decide +kernel
theorem dL_law_458 : decode cL_law 458 = .ok (.iload 10, 2) := by decide +kernel
theorem dL_law_460 : decode cL_law 460 = .ok (.bipush 31, 2) := by decide +kernel
theorem dL_law_462 : decode cL_law 462 = .ok (.idiv, 1) := by decide +kernel
theorem dL_law_463 : decode cL_law 463 = .ok (.iload 10, 2) := by decide +kernel
theorem dL_law_465 : decode cL_law 465 = .ok (.iconst 2, 1) := by decide +kernel
theorem dL_law_466 : decode cL_law 466 = .ok (.irem, 1) := by decide +kernel
theorem dL_law_467 : decode cL_law 467 = .ok (.ifCond .ne 9, 3) := by decide +kernel
theorem dL_law_470 : decode cL_law 470 = .ok (.sipush 256, 3) := by decide +kernel
theorem dL_law_473 : decode cL_law 473 = .ok (.goto 4, 3) := by decide +kernel
theorem dL_law_476 : decode cL_law 476 = .ok (.iconst 4, 1) := by decide +kernel
theorem dL_law_477 : decode cL_law 477 = .ok (.irem, 1) := by decide +kernel
theorem dL_law_478 : decode cL_law 478 = .ok (.istore 13, 2) := by decide +kernel
theorem dL_law_480 : decode cL_law 480 = .ok (.aload_n 1, 1) := by decide +kernel
theorem dL_law_481 : decode cL_law 481 = .ok (.iload 10, 2) := by decide +kernel
theorem dL_law_483 : decode cL_law 483 = .ok (.bipush 13, 2) := by decide +kernel
theorem dL_law_485 : decode cL_law 485 = .ok (.irem, 1) := by decide +kernel
theorem dL_law_486 : decode cL_law 486 = .ok (.iload 13, 2) := by decide +kernel
theorem dL_law_488 : decode cL_law 488 = .ok (.invokevirtual 46, 3) := by decide +kernel
theorem dL_law_491 : decode cL_law 491 = .ok (.istore 14, 2) := by decide +kernel
theorem dL_law_493 : decode cL_law 493 = .ok (.iload 14, 2) := by decide +kernel
theorem dL_law_495 : decode cL_law 495 = .ok (.ifCond .lt 105, 3) := by decide +kernel
theorem dL_law_498 : decode cL_law 498 = .ok (.iload 14, 2) := by decide +kernel
theorem dL_law_500 : decode cL_law 500 = .ok (.sipush 10000, 3) := by decide +kernel
theorem dL_law_503 : decode cL_law 503 = .ok (.idiv, 1) := by decide +kernel
theorem dL_law_504 : decode cL_law 504 = .ok (.istore 15, 2) := by decide +kernel
theorem dL_law_506 : decode cL_law 506 = .ok (.iload 14, 2) := by decide +kernel
theorem dL_law_508 : decode cL_law 508 = .ok (.bipush 100, 2) := by decide +kernel
theorem dL_law_510 : decode cL_law 510 = .ok (.idiv, 1) := by decide +kernel
theorem dL_law_511 : decode cL_law 511 = .ok (.bipush 100, 2) := by decide +kernel
theorem dL_law_513 : decode cL_law 513 = .ok (.irem, 1) := by decide +kernel
theorem dL_law_514 : decode cL_law 514 = .ok (.istore 16, 2) := by decide +kernel
theorem dL_law_516 : decode cL_law 516 = .ok (.aload 5, 2) := by decide +kernel
theorem dL_law_518 : decode cL_law 518 = .ok (.iconst 0, 1) := by decide +kernel
theorem dL_law_519 : decode cL_law 519 = .ok (.iload 15, 2) := by decide +kernel
theorem dL_law_521 : decode cL_law 521 = .ok (.iastore, 1) := by decide +kernel
theorem dL_law_522 : decode cL_law 522 = .ok (.aload 5, 2) := by decide +kernel
theorem dL_law_524 : decode cL_law 524 = .ok (.iconst 1, 1) := by decide +kernel
theorem dL_law_525 : decode cL_law 525 = .ok (.iload 16, 2) := by decide +kernel
theorem dL_law_527 : decode cL_law 527 = .ok (.iastore, 1) := by decide +kernel
theorem dL_law_528 : decode cL_law 528 = .ok (.aload 5, 2) := by decide +kernel
theorem dL_law_530 : decode cL_law 530 = .ok (.iconst 2, 1) := by decide +kernel
theorem dL_law_531 : decode cL_law 531 = .ok (.aload 6, 2) := by decide +kernel
theorem dL_law_533 : decode cL_law 533 = .ok (.iconst 1, 1) := by decide +kernel
theorem dL_law_534 : decode cL_law 534 = .ok (.iaload, 1) := by decide +kernel
theorem dL_law_535 : decode cL_law 535 = .ok (.iastore, 1) := by decide +kernel
theorem dL_law_536 : decode cL_law 536 = .ok (.aload 5, 2) := by decide +kernel
theorem dL_law_538 : decode cL_law 538 = .ok (.iconst 3, 1) := by decide +kernel
theorem dL_law_539 : decode cL_law 539 = .ok (.iload 13, 2) := by decide +kernel
theorem dL_law_541 : decode cL_law 541 = .ok (.iastore, 1) := by decide +kernel
theorem dL_law_542 : decode cL_law 542 = .ok (.aload_n 1, 1) := by decide +kernel
theorem dL_law_543 : decode cL_law 543 = .ok (.aload_n 2, 1) := by decide +kernel
theorem dL_law_544 : decode cL_law 544 = .ok (.aload_n 3, 1) := by decide +kernel
theorem dL_law_545 : decode cL_law 545 = .ok (.aload 6, 2) := by decide +kernel
theorem dL_law_547 : decode cL_law 547 = .ok (.iload 15, 2) := by decide +kernel
theorem dL_law_549 : decode cL_law 549 = .ok (.iload 16, 2) := by decide +kernel
theorem dL_law_551 : decode cL_law 551 = .ok (.iload 14, 2) := by decide +kernel
theorem dL_law_553 : decode cL_law 553 = .ok (.bipush 100, 2) := by decide +kernel
theorem dL_law_555 : decode cL_law 555 = .ok (.irem, 1) := by decide +kernel
theorem dL_law_556 : decode cL_law 556 = .ok (.iconst 1, 1) := by decide +kernel
theorem dL_law_557 : decode cL_law 557 = .ok (.isub, 1) := by decide +kernel
theorem dL_law_558 : decode cL_law 558 = .ok (.iload 13, 2) := by decide +kernel
theorem dL_law_560 : decode cL_law 560 = .ok (.invokestatic 127, 3) := by decide +kernel
theorem dL_law_563 : decode cL_law 563 = .ok (.ifCond .eq 34, 3) := by decide +kernel
theorem dL_law_566 : decode cL_law 566 = .ok (.iload 10, 2) := by decide +kernel
theorem dL_law_568 : decode cL_law 568 = .ok (.iconst 5, 1) := by decide +kernel
theorem dL_law_569 : decode cL_law 569 = .ok (.irem, 1) := by decide +kernel
theorem dL_law_570 : decode cL_law 570 = .ok (.ifCond .gt 23, 3) := by decide +kernel
theorem dL_law_573 : decode cL_law 573 = .ok (.aload_n 1, 1) := by decide +kernel
theorem dL_law_574 : decode cL_law 574 = .ok (.aload_n 2, 1) := by decide +kernel
theorem dL_law_575 : decode cL_law 575 = .ok (.aload_n 3, 1) := by decide +kernel
theorem dL_law_576 : decode cL_law 576 = .ok (.aload 6, 2) := by decide +kernel
theorem dL_law_578 : decode cL_law 578 = .ok (.iload 15, 2) := by decide +kernel
theorem dL_law_580 : decode cL_law 580 = .ok (.iload 16, 2) := by decide +kernel
theorem dL_law_582 : decode cL_law 582 = .ok (.iconst (-1), 1) := by decide +kernel
theorem dL_law_583 : decode cL_law 583 = .ok (.iload 13, 2) := by decide +kernel
theorem dL_law_585 : decode cL_law 585 = .ok (.iconst 1, 1) := by decide +kernel
theorem dL_law_586 : decode cL_law 586 = .ok (.ior, 1) := by decide +kernel
theorem dL_law_587 : decode cL_law 587 = .ok (.invokestatic 127, 3) := by decide +kernel
theorem dL_law_590 : decode cL_law 590 = .ok (.ifCond .eq 7, 3) := by decide +kernel
theorem dL_law_593 : decode cL_law 593 = .ok (.iconst 1, 1) := by decide +kernel
theorem dL_law_594 : decode cL_law 594 = .ok (.goto 4, 3) := by decide +kernel
theorem dL_law_597 : decode cL_law 597 = .ok (.iconst 0, 1) := by decide +kernel
theorem dL_law_598 : decode cL_law 598 = .ok (.istore 7, 2) := by decide +kernel
theorem dL_law_600 : decode cL_law 600 = .ok (.goto 183, 3) := by decide +kernel
theorem dL_law_603 : decode cL_law 603 = .ok (.iload 11, 2) := by decide +kernel
theorem dL_law_605 : decode cL_law 605 = .ok (.bipush 25, 2) := by decide +kernel
theorem dL_law_607 : decode cL_law 607 = .ok (.if_icmp .ge 26, 3) := by decide +kernel
theorem dL_law_610 : decode cL_law 610 = .ok (.aload_n 1, 1) := by decide +kernel
theorem dL_law_611 : decode cL_law 611 = .ok (.aload_n 2, 1) := by decide +kernel
theorem dL_law_612 : decode cL_law 612 = .ok (.aload_n 3, 1) := by decide +kernel
theorem dL_law_613 : decode cL_law 613 = .ok (.aload 6, 2) := by decide +kernel
theorem dL_law_615 : decode cL_law 615 = .ok (.iload 10, 2) := by decide +kernel
theorem dL_law_617 : decode cL_law 617 = .ok (.iconst 3, 1) := by decide +kernel
theorem dL_law_618 : decode cL_law 618 = .ok (.irem, 1) := by decide +kernel
theorem dL_law_619 : decode cL_law 619 = .ok (.iload 10, 2) := by decide +kernel
theorem dL_law_621 : decode cL_law 621 = .ok (.iconst 3, 1) := by decide +kernel
theorem dL_law_622 : decode cL_law 622 = .ok (.idiv, 1) := by decide +kernel
theorem dL_law_623 : decode cL_law 623 = .ok (.iconst 2, 1) := by decide +kernel
theorem dL_law_624 : decode cL_law 624 = .ok (.irem, 1) := by decide +kernel
theorem dL_law_625 : decode cL_law 625 = .ok (.invokestatic 131, 3) := by decide +kernel
theorem dL_law_628 : decode cL_law 628 = .ok (.istore 7, 2) := by decide +kernel
theorem dL_law_630 : decode cL_law 630 = .ok (.goto 153, 3) := by decide +kernel
theorem dL_law_633 : decode cL_law 633 = .ok (.iload 11, 2) := by decide +kernel
theorem dL_law_635 : decode cL_law 635 = .ok (.bipush 30, 2) := by decide +kernel
theorem dL_law_637 : decode cL_law 637 = .ok (.if_icmp .ge 40, 3) := by decide +kernel
theorem dL_law_640 : decode cL_law 640 = .ok (.aload_n 1, 1) := by decide +kernel
theorem dL_law_641 : decode cL_law 641 = .ok (.aload 6, 2) := by decide +kernel
theorem dL_law_643 : decode cL_law 643 = .ok (.aload 5, 2) := by decide +kernel
theorem dL_law_645 : decode cL_law 645 = .ok (.iload 11, 2) := by decide +kernel
theorem dL_law_647 : decode cL_law 647 = .ok (.bipush 29, 2) := by decide +kernel
theorem dL_law_649 : decode cL_law 649 = .ok (.if_icmp .ge 12, 3) := by decide +kernel
theorem dL_law_652 : decode cL_law 652 = .ok (.iconst 1, 1) := by decide +kernel
theorem dL_law_653 : decode cL_law 653 = .ok (.iload 10, 2) := by decide +kernel
theorem dL_law_655 : decode cL_law 655 = .ok (.iconst 4, 1) := by decide +kernel
theorem dL_law_656 : decode cL_law 656 = .ok (.irem, 1) := by decide +kernel
theorem dL_law_657 : decode cL_law 657 = .ok (.iadd, 1) := by decide +kernel
theorem dL_law_658 : decode cL_law 658 = .ok (.goto 11, 3) := by decide +kernel
theorem dL_law_661 : decode cL_law 661 = .ok (.iconst 1, 1) := by decide +kernel
theorem dL_law_662 : decode cL_law 662 = .ok (.iload 10, 2) := by decide +kernel
theorem dL_law_664 : decode cL_law 664 = .ok (.sipush 365, 3) := by decide +kernel
theorem dL_law_667 : decode cL_law 667 = .ok (.irem, 1) := by decide +kernel
theorem dL_law_668 : decode cL_law 668 = .ok (.iadd, 1) := by decide +kernel
theorem dL_law_669 : decode cL_law 669 = .ok (.invokestatic 135, 3) := by decide +kernel
theorem dL_law_672 : decode cL_law 672 = .ok (.istore 7, 2) := by decide +kernel
theorem dL_law_674 : decode cL_law 674 = .ok (.goto 109, 3) := by decide +kernel
theorem dL_law_677 : decode cL_law 677 = .ok (.iload 11, 2) := by decide +kernel
theorem dL_law_679 : decode cL_law 679 = .ok (.bipush 30, 2) := by decide +kernel
theorem dL_law_681 : decode cL_law 681 = .ok (.if_icmp .ne 102, 3) := by decide +kernel
theorem dL_law_684 : decode cL_law 684 = .ok (.iload 10, 2) := by decide +kernel
theorem dL_law_686 : decode cL_law 686 = .ok (.iconst 4, 1) := by decide +kernel
theorem dL_law_687 : decode cL_law 687 = .ok (.irem, 1) := by decide +kernel
theorem dL_law_688 : decode cL_law 688 = .ok (.ifCond .ne 95, 3) := by decide +kernel
theorem dL_law_691 : decode cL_law 691 = .ok (.aload_n 1, 1) := by decide +kernel
theorem dL_law_692 : decode cL_law 692 = .ok (.invokevirtual 69, 3) := by decide +kernel
theorem dL_law_695 : decode cL_law 695 = .ok (.istore 13, 2) := by decide +kernel
theorem dL_law_697 : decode cL_law 697 = .ok (.aload_n 2, 1) := by decide +kernel
theorem dL_law_698 : decode cL_law 698 = .ok (.iconst 5, 1) := by decide +kernel
theorem dL_law_699 : decode cL_law 699 = .ok (.iload 12, 2) := by decide +kernel
theorem dL_law_701 : decode cL_law 701 = .ok (.imul, 1) := by decide +kernel
theorem dL_law_702 : decode cL_law 702 = .ok (.iaload, 1) := by decide +kernel
theorem dL_law_703 : decode cL_law 703 = .ok (.ifCond .lt 7, 3) := by decide +kernel
theorem dL_law_706 : decode cL_law 706 = .ok (.iconst 1, 1) := by decide +kernel
theorem dL_law_707 : decode cL_law 707 = .ok (.goto 4, 3) := by decide +kernel
theorem dL_law_710 : decode cL_law 710 = .ok (.iconst 0, 1) := by decide +kernel
theorem dL_law_711 : decode cL_law 711 = .ok (.istore 14, 2) := by decide +kernel
theorem dL_law_713 : decode cL_law 713 = .ok (.aload_n 2, 1) := by decide +kernel
theorem dL_law_714 : decode cL_law 714 = .ok (.iconst 5, 1) := by decide +kernel
theorem dL_law_715 : decode cL_law 715 = .ok (.iload 12, 2) := by decide +kernel
theorem dL_law_717 : decode cL_law 717 = .ok (.imul, 1) := by decide +kernel
theorem dL_law_718 : decode cL_law 718 = .ok (.iconst (-1), 1) := by decide +kernel
theorem dL_law_719 : decode cL_law 719 = .ok (.iastore, 1) := by decide +kernel
theorem dL_law_720 : decode cL_law 720 = .ok (.aload 5, 2) := by decide +kernel
theorem dL_law_722 : decode cL_law 722 = .ok (.iconst 3, 1) := by decide +kernel
theorem dL_law_723 : decode cL_law 723 = .ok (.aload 5, 2) := by decide +kernel
theorem dL_law_725 : decode cL_law 725 = .ok (.iconst 0, 1) := by decide +kernel
theorem dL_law_726 : decode cL_law 726 = .ok (.iaload, 1) := by decide +kernel
theorem dL_law_727 : decode cL_law 727 = .ok (.iload 12, 2) := by decide +kernel
theorem dL_law_729 : decode cL_law 729 = .ok (.if_icmp .eq 12, 3) := by decide +kernel
theorem dL_law_732 : decode cL_law 732 = .ok (.aload 5, 2) := by decide +kernel
theorem dL_law_734 : decode cL_law 734 = .ok (.iconst 1, 1) := by decide +kernel
theorem dL_law_735 : decode cL_law 735 = .ok (.iaload, 1) := by decide +kernel
theorem dL_law_736 : decode cL_law 736 = .ok (.iload 12, 2) := by decide +kernel
theorem dL_law_738 : decode cL_law 738 = .ok (.if_icmp .ne 7, 3) := by decide +kernel
theorem dL_law_741 : decode cL_law 741 = .ok (.iconst 0, 1) := by decide +kernel
theorem dL_law_742 : decode cL_law 742 = .ok (.goto 7, 3) := by decide +kernel
theorem dL_law_745 : decode cL_law 745 = .ok (.aload 5, 2) := by decide +kernel
theorem dL_law_747 : decode cL_law 747 = .ok (.iconst 3, 1) := by decide +kernel
theorem dL_law_748 : decode cL_law 748 = .ok (.iaload, 1) := by decide +kernel
theorem dL_law_749 : decode cL_law 749 = .ok (.iastore, 1) := by decide +kernel
theorem dL_law_750 : decode cL_law 750 = .ok (.aload_n 1, 1) := by decide +kernel
theorem dL_law_751 : decode cL_law 751 = .ok (.iconst 0, 1) := by decide +kernel
theorem dL_law_752 : decode cL_law 752 = .ok (.iload 12, 2) := by decide +kernel
theorem dL_law_754 : decode cL_law 754 = .ok (.iconst 0, 1) := by decide +kernel
theorem dL_law_755 : decode cL_law 755 = .ok (.invokestatic 81, 3) := by decide +kernel
theorem dL_law_758 : decode cL_law 758 = .ok (.iload 14, 2) := by decide +kernel
theorem dL_law_760 : decode cL_law 760 = .ok (.ifCond .eq 10, 3) := by decide +kernel
theorem dL_law_763 : decode cL_law 763 = .ok (.iload 13, 2) := by decide +kernel
theorem dL_law_765 : decode cL_law 765 = .ok (.iconst 1, 1) := by decide +kernel
theorem dL_law_766 : decode cL_law 766 = .ok (.isub, 1) := by decide +kernel
theorem dL_law_767 : decode cL_law 767 = .ok (.goto 6, 3) := by decide +kernel
theorem dL_law_770 : decode cL_law 770 = .ok (.sipush (-981), 3) := by decide +kernel
theorem dL_law_773 : decode cL_law 773 = .ok (.if_icmp .ne 7, 3) := by decide +kernel
theorem dL_law_776 : decode cL_law 776 = .ok (.iconst 1, 1) := by decide +kernel
theorem dL_law_777 : decode cL_law 777 = .ok (.goto 4, 3) := by decide +kernel
theorem dL_law_780 : decode cL_law 780 = .ok (.iconst 0, 1) := by decide +kernel
theorem dL_law_781 : decode cL_law 781 = .ok (.istore 7, 2) := by decide +kernel
theorem dL_law_783 : decode cL_law 783 = .ok (.iload 7, 2) := by decide +kernel
theorem dL_law_785 : decode cL_law 785 = .ok (.ifCond .eq 183, 3) := by decide +kernel
theorem dL_law_788 : decode cL_law 788 = .ok (.aload_n 1, 1) := by decide +kernel
theorem dL_law_789 : decode cL_law 789 = .ok (.aload_n 2, 1) := by decide +kernel
theorem dL_law_790 : decode cL_law 790 = .ok (.aload_n 3, 1) := by decide +kernel
theorem dL_law_791 : decode cL_law 791 = .ok (.aload 6, 2) := by decide +kernel
theorem dL_law_793 : decode cL_law 793 = .ok (.invokestatic 139, 3) := by decide +kernel
theorem dL_law_796 : decode cL_law 796 = .ok (.ifCond .eq 172, 3) := by decide +kernel
theorem dL_law_799 : decode cL_law 799 = .ok (.iload 8, 2) := by decide +kernel
theorem dL_law_801 : decode cL_law 801 = .ok (.iconst 2, 1) := by decide +kernel
theorem dL_law_802 : decode cL_law 802 = .ok (.irem, 1) := by decide +kernel
theorem dL_law_803 : decode cL_law 803 = .ok (.ifCond .gt 30, 3) := by decide +kernel
theorem dL_law_806 : decode cL_law 806 = .ok (.aload_n 1, 1) := by decide +kernel
theorem dL_law_807 : decode cL_law 807 = .ok (.aload_n 2, 1) := by decide +kernel
theorem dL_law_808 : decode cL_law 808 = .ok (.aload_n 3, 1) := by decide +kernel
theorem dL_law_809 : decode cL_law 809 = .ok (.aload 4, 2) := by decide +kernel
theorem dL_law_811 : decode cL_law 811 = .ok (.aload 6, 2) := by decide +kernel
theorem dL_law_813 : decode cL_law 813 = .ok (.iload 10, 2) := by decide +kernel
theorem dL_law_815 : decode cL_law 815 = .ok (.bipush 31, 2) := by decide +kernel
theorem dL_law_817 : decode cL_law 817 = .ok (.irem, 1) := by decide +kernel
theorem dL_law_818 : decode cL_law 818 = .ok (.iload 10, 2) := by decide +kernel
theorem dL_law_820 : decode cL_law 820 = .ok (.bipush 31, 2) := by decide +kernel
theorem dL_law_822 : decode cL_law 822 = .ok (.idiv, 1) := by decide +kernel
theorem dL_law_823 : decode cL_law 823 = .ok (.sipush 256, 3) := by decide +kernel
theorem dL_law_826 : decode cL_law 826 = .ok (.irem, 1) := by decide +kernel
theorem dL_law_827 : decode cL_law 827 = .ok (.invokestatic 143, 3) := by decide +kernel
theorem dL_law_830 : decode cL_law 830 = .ok (.ifCond .eq 138, 3) := by decide +kernel
theorem dL_law_833 : decode cL_law 833 = .ok (.aload_n 1, 1) := by decide +kernel
theorem dL_law_834 : decode cL_law 834 = .ok (.aload_n 2, 1) := by decide +kernel
theorem dL_law_835 : decode cL_law 835 = .ok (.aload_n 3, 1) := by decide +kernel
theorem dL_law_836 : decode cL_law 836 = .ok (.aload 4, 2) := by decide +kernel
theorem dL_law_838 : decode cL_law 838 = .ok (.aload 6, 2) := by decide +kernel
theorem dL_law_840 : decode cL_law 840 = .ok (.invokestatic 147, 3) := by decide +kernel
theorem dL_law_843 : decode cL_law 843 = .ok (.ifCond .eq 125, 3) := by decide +kernel
theorem dL_law_846 : decode cL_law 846 = .ok (.aload_n 1, 1) := by decide +kernel
theorem dL_law_847 : decode cL_law 847 = .ok (.aload_n 2, 1) := by decide +kernel
theorem dL_law_848 : decode cL_law 848 = .ok (.aload 6, 2) := by decide +kernel
theorem dL_law_850 : decode cL_law 850 = .ok (.iload 10, 2) := by decide +kernel
theorem dL_law_852 : decode cL_law 852 = .ok (.aload 6, 2) := by decide +kernel
theorem dL_law_854 : decode cL_law 854 = .ok (.iconst 0, 1) := by decide +kernel
theorem dL_law_855 : decode cL_law 855 = .ok (.iaload, 1) := by decide +kernel
theorem dL_law_856 : decode cL_law 856 = .ok (.iconst 1, 1) := by decide +kernel
theorem dL_law_857 : decode cL_law 857 = .ok (.iadd, 1) := by decide +kernel
theorem dL_law_858 : decode cL_law 858 = .ok (.irem, 1) := by decide +kernel
theorem dL_law_859 : decode cL_law 859 = .ok (.iload 10, 2) := by decide +kernel
theorem dL_law_861 : decode cL_law 861 = .ok (.bipush 13, 2) := by decide +kernel
theorem dL_law_863 : decode cL_law 863 = .ok (.idiv, 1) := by decide +kernel
theorem dL_law_864 : decode cL_law 864 = .ok (.aload 6, 2) := by decide +kernel
theorem dL_law_866 : decode cL_law 866 = .ok (.iconst 0, 1) := by decide +kernel
theorem dL_law_867 : decode cL_law 867 = .ok (.iaload, 1) := by decide +kernel
theorem dL_law_868 : decode cL_law 868 = .ok (.iconst 1, 1) := by decide +kernel
theorem dL_law_869 : decode cL_law 869 = .ok (.iadd, 1) := by decide +kernel
theorem dL_law_870 : decode cL_law 870 = .ok (.irem, 1) := by decide +kernel
theorem dL_law_871 : decode cL_law 871 = .ok (.iload 10, 2) := by decide +kernel
theorem dL_law_873 : decode cL_law 873 = .ok (.sipush 169, 3) := by decide +kernel
theorem dL_law_876 : decode cL_law 876 = .ok (.idiv, 1) := by decide +kernel
theorem dL_law_877 : decode cL_law 877 = .ok (.aload 6, 2) := by decide +kernel
theorem dL_law_879 : decode cL_law 879 = .ok (.iconst 0, 1) := by decide +kernel
theorem dL_law_880 : decode cL_law 880 = .ok (.iaload, 1) := by decide +kernel
theorem dL_law_881 : decode cL_law 881 = .ok (.iconst 2, 1) := by decide +kernel
theorem dL_law_882 : decode cL_law 882 = .ok (.iadd, 1) := by decide +kernel
theorem dL_law_883 : decode cL_law 883 = .ok (.irem, 1) := by decide +kernel
theorem dL_law_884 : decode cL_law 884 = .ok (.iconst 1, 1) := by decide +kernel
theorem dL_law_885 : decode cL_law 885 = .ok (.isub, 1) := by decide +kernel
theorem dL_law_886 : decode cL_law 886 = .ok (.invokestatic 151, 3) := by decide +kernel
theorem dL_law_889 : decode cL_law 889 = .ok (.ifCond .eq 79, 3) := by decide +kernel
theorem dL_law_892 : decode cL_law 892 = .ok (.iload 8, 2) := by decide +kernel
theorem dL_law_894 : decode cL_law 894 = .ok (.bipush 16, 2) := by decide +kernel
theorem dL_law_896 : decode cL_law 896 = .ok (.irem, 1) := by decide +kernel
theorem dL_law_897 : decode cL_law 897 = .ok (.ifCond .gt 46, 3) := by decide +kernel
theorem dL_law_900 : decode cL_law 900 = .ok (.aload_n 1, 1) := by decide +kernel
theorem dL_law_901 : decode cL_law 901 = .ok (.aload_n 2, 1) := by decide +kernel
theorem dL_law_902 : decode cL_law 902 = .ok (.aload_n 3, 1) := by decide +kernel
theorem dL_law_903 : decode cL_law 903 = .ok (.aload 6, 2) := by decide +kernel
theorem dL_law_905 : decode cL_law 905 = .ok (.iload 10, 2) := by decide +kernel
theorem dL_law_907 : decode cL_law 907 = .ok (.bipush 13, 2) := by decide +kernel
theorem dL_law_909 : decode cL_law 909 = .ok (.idiv, 1) := by decide +kernel
theorem dL_law_910 : decode cL_law 910 = .ok (.iconst 1, 1) := by decide +kernel
theorem dL_law_911 : decode cL_law 911 = .ok (.iload 10, 2) := by decide +kernel
theorem dL_law_913 : decode cL_law 913 = .ok (.bipush 20, 2) := by decide +kernel
theorem dL_law_915 : decode cL_law 915 = .ok (.irem, 1) := by decide +kernel
theorem dL_law_916 : decode cL_law 916 = .ok (.iadd, 1) := by decide +kernel
theorem dL_law_917 : decode cL_law 917 = .ok (.iload 10, 2) := by decide +kernel
theorem dL_law_919 : decode cL_law 919 = .ok (.bipush 20, 2) := by decide +kernel
theorem dL_law_921 : decode cL_law 921 = .ok (.idiv, 1) := by decide +kernel
theorem dL_law_922 : decode cL_law 922 = .ok (.iload 10, 2) := by decide +kernel
theorem dL_law_924 : decode cL_law 924 = .ok (.iconst 3, 1) := by decide +kernel
theorem dL_law_925 : decode cL_law 925 = .ok (.irem, 1) := by decide +kernel
theorem dL_law_926 : decode cL_law 926 = .ok (.ifCond .ne 8, 3) := by decide +kernel
theorem dL_law_929 : decode cL_law 929 = .ok (.bipush 21, 2) := by decide +kernel
theorem dL_law_931 : decode cL_law 931 = .ok (.goto 5, 3) := by decide +kernel
theorem dL_law_934 : decode cL_law 934 = .ok (.bipush 9, 2) := by decide +kernel
theorem dL_law_936 : decode cL_law 936 = .ok (.irem, 1) := by decide +kernel
theorem dL_law_937 : decode cL_law 937 = .ok (.invokestatic 155, 3) := by decide +kernel
theorem dL_law_940 : decode cL_law 940 = .ok (.ifCond .eq 28, 3) := by decide +kernel
theorem dL_law_943 : decode cL_law 943 = .ok (.iload 8, 2) := by decide +kernel
theorem dL_law_945 : decode cL_law 945 = .ok (.bipush 20, 2) := by decide +kernel
theorem dL_law_947 : decode cL_law 947 = .ok (.irem, 1) := by decide +kernel
theorem dL_law_948 : decode cL_law 948 = .ok (.ifCond .gt 16, 3) := by decide +kernel
theorem dL_law_951 : decode cL_law 951 = .ok (.aload_n 1, 1) := by decide +kernel
theorem dL_law_952 : decode cL_law 952 = .ok (.aload 6, 2) := by decide +kernel
theorem dL_law_954 : decode cL_law 954 = .ok (.iload 9, 2) := by decide +kernel
theorem dL_law_956 : decode cL_law 956 = .ok (.iconst 3, 1) := by decide +kernel
theorem dL_law_957 : decode cL_law 957 = .ok (.idiv, 1) := by decide +kernel
theorem dL_law_958 : decode cL_law 958 = .ok (.invokestatic 120, 3) := by decide +kernel
theorem dL_law_961 : decode cL_law 961 = .ok (.ifCond .eq 7, 3) := by decide +kernel
theorem dL_law_964 : decode cL_law 964 = .ok (.iconst 1, 1) := by decide +kernel
theorem dL_law_965 : decode cL_law 965 = .ok (.goto 4, 3) := by decide +kernel
theorem dL_law_968 : decode cL_law 968 = .ok (.iconst 0, 1) := by decide +kernel
theorem dL_law_969 : decode cL_law 969 = .ok (.istore 7, 2) := by decide +kernel
theorem dL_law_971 : decode cL_law 971 = .ok (.iinc 8 1, 3) := by decide +kernel
theorem dL_law_974 : decode cL_law 974 = .ok (.goto (-910), 3) := by decide +kernel
theorem dL_law_977 : decode cL_law 977 = .ok (.iload 7, 2) := by decide +kernel
theorem dL_law_979 : decode cL_law 979 = .ok (.ireturn, 1) := by decide +kernel
