theorem dL_dice_0 : decode cL_dice 0 = .ok (.iload_n 1, 1) := by decide +kernel
theorem dL_dice_1 : decode cL_dice 1 = .ok (.aload_n 0, 1) := by decide +kernel
theorem dL_dice_2 : decode cL_dice 2 = .ok (.arraylength, 1) := by decide +kernel
theorem dL_dice_3 : decode cL_dice 3 = .ok (.if_icmp .ge 9, 3) := by decide +kernel
theorem dL_dice_6 : decode cL_dice 6 = .ok (.aload_n 0, 1) := by decide +kernel
theorem dL_dice_7 : decode cL_dice 7 = .ok (.iload_n 1, 1) := by decide +kernel
theorem dL_dice_8 : decode cL_dice 8 = .ok (.iaload, 1) := by decide +kernel
theorem dL_dice_9 : decode cL_dice 9 = .ok (.goto 22, 3) := by decide +kernel
theorem dL_dice_12 : decode cL_dice 12 = .ok (.ldc 7, 2) := by decide +kernel
theorem dL_dice_14 : decode cL_dice 14 = .ok (.iload_n 1, 1) := by decide +kernel
theorem dL_dice_15 : decode cL_dice 15 = .ok (.sipush 157, 3) := by decide +kernel
theorem dL_dice_18 : decode cL_dice 18 = .ok (.iadd, 1) := by decide +kernel
theorem dL_dice_19 : decode cL_dice 19 = .ok (.imul, 1) := by decide +kernel
theorem dL_dice_20 : decode cL_dice 20 = .ok (.sipush 555, 3) := by decide +kernel
theorem dL_dice_23 : decode cL_dice 23 = .ok (.iload_n 1, 1) := by decide +kernel
theorem dL_dice_24 : decode cL_dice 24 = .ok (.imul, 1) := by decide +kernel
theorem dL_dice_25 : decode cL_dice 25 = .ok (.iload_n 1, 1) := by decide +kernel
theorem dL_dice_26 : decode cL_dice 26 = .ok (.imul, 1) := by decide +kernel
theorem dL_dice_27 : decode cL_dice 27 = .ok (.iadd, 1) := by decide +kernel
theorem dL_dice_28 : decode cL_dice 28 = .ok (.bipush 61, 2) := by decide +kernel
theorem dL_dice_30 : decode cL_dice 30 = .ok (.iadd, 1) := by decide +kernel
theorem dL_dice_31 : decode cL_dice 31 = .ok (.ldc 8, 2) := by decide +kernel
theorem dL_dice_33 : decode cL_dice 33 = .ok (.iand, 1) := by decide +kernel
theorem dL_dice_34 : decode cL_dice 34 = .ok (.ireturn, 1) := by decide +kernel
set_option maxRecDepth 20000 in
theorem ggL_add_X0_add : GoodIn wsL_add wsX0_add := goodIn_ca (goodIn_ca (goodIn_r _ [7, 8, 9, 10, 11, 12, 13, 14, 15, 16, 17, 18, 19, 20, 21, 6, 22, 23, 24, 25, 26, 27, 28, 29, 30, 31, 32, 33, 34, 35, 36, 37, 38, 39, 40] (by decide +kernel) (by decide +kernel)) (goodIn_sub (fun _ h => List.mem_cons_of_mem _ (List.mem_append_left _ (List.mem_append_right _ h))) (by decide +kernel))) (goodIn_sub (fun _ h => List.mem_cons_of_mem _ (List.mem_append_right _ h)) (by decide +kernel))
set_option maxRecDepth 20000 in
theorem gL_add_X0_add : GoodIn wsL_add (wsV RL 9 RX0 yX0_add wsX0_add) := goodIn_app (goodIn_of _ (by decide +kernel)) ggL_add_X0_add
theorem dL_add_0 : decode cL_add 0 = .ok (.aload_n 0, 1) := by decide +kernel
theorem dL_add_1 : decode cL_add 1 = .ok (.iload_n 1, 1) := by decide +kernel
theorem dL_add_2 : decode cL_add 2 = .ok (.iload_n 2, 1) := by decide +kernel
theorem dL_add_3 : decode cL_add 3 = .ok (.iload_n 3, 1) := by decide +kernel
theorem dL_add_4 : decode cL_add 4 = .ok (.iload 4, 2) := by decide +kernel
theorem dL_add_6 : decode cL_add 6 = .ok (.iload 5, 2) := by decide +kernel
theorem dL_add_8 : decode cL_add 8 = .ok (.invokevirtual 9, 3) := by decide +kernel
theorem dL_add_11 : decode cL_add 11 = .ok (.ireturn, 1) := by decide +kernel
theorem dL_add_12 : decode cL_add 12 = .ok (.astore 6, 2) := by decide +kernel
theorem dL_add_14 : decode cL_add 14 = .ok (.sipush (-982), 3) := by decide +kernel
theorem dL_add_17 : decode cL_add 17 = .ok (.ireturn, 1) := by decide +kernel
theorem dL_add_18 : decode cL_add 18 = .ok (.astore 6, 2) := by decide +kernel
theorem dL_add_20 : decode cL_add 20 = .ok (.sipush (-983), 3) := by decide +kernel
theorem dL_add_23 : decode cL_add 23 = .ok (.ireturn, 1) := by decide +kernel
set_option maxRecDepth 20000 in
theorem ggL_outfit_X0_isPossible : GoodIn wsL_outfit wsX0_isPossible := goodIn_ca (goodIn_ca (goodIn_r _ [8, 9, 10, 11, 12, 13, 14, 15, 7, 16, 17, 18, 19, 20, 21, 22, 23, 24, 25, 26, 27, 28, 29, 30, 31, 32, 33, 34, 35, 36, 37, 38, 39, 40, 41, 42, 43, 44, 45, 46, 47, 48, 49, 50, 51, 52, 53, 54, 55, 56, 103, 104, 105, 106, 107, 108, 109, 110, 111, 112, 113, 114] (by decide +kernel) (by decide +kernel)) (goodIn_sub (fun _ h => List.mem_cons_of_mem _ (List.mem_append_left _ (List.mem_append_left _ (List.mem_append_right _ h)))) (by decide +kernel))) (goodIn_sub (fun _ h => List.mem_cons_of_mem _ (List.mem_append_left _ (List.mem_append_right _ h))) (by decide +kernel))
set_option maxRecDepth 20000 in
theorem gL_outfit_X0_isPossible : GoodIn wsL_outfit (wsV RL 19 RX0 yX0_isPossible wsX0_isPossible) := goodIn_app (goodIn_of _ (by decide +kernel)) ggL_outfit_X0_isPossible
set_option maxRecDepth 20000 in
theorem ggL_outfit_X0_isTooSoon : GoodIn wsL_outfit wsX0_isTooSoon := goodIn_ca (goodIn_ca (goodIn_r _ [60, 9, 10, 11, 12, 13, 14, 15, 7, 16, 17, 18, 19, 20, 21, 22, 23, 24, 25, 26, 27, 28, 29, 30, 61, 62, 63, 64, 65, 66, 67, 68, 69, 70, 71, 72, 73, 74, 75, 103, 104, 105, 106, 107, 108, 109, 110, 111, 112, 113, 114] (by decide +kernel) (by decide +kernel)) (goodIn_sub (fun _ h => List.mem_cons_of_mem _ (List.mem_append_left _ (List.mem_append_left _ (List.mem_append_right _ h)))) (by decide +kernel))) (goodIn_sub (fun _ h => List.mem_cons_of_mem _ (List.mem_append_left _ (List.mem_append_right _ h))) (by decide +kernel))
set_option maxRecDepth 20000 in
theorem gL_outfit_X0_isTooSoon : GoodIn wsL_outfit (wsV RL 23 RX0 yX0_isTooSoon wsX0_isTooSoon) := goodIn_app (goodIn_of _ (by decide +kernel)) ggL_outfit_X0_isTooSoon
set_option maxRecDepth 20000 in
theorem ggL_outfit_X0_wear : GoodIn wsL_outfit wsX0_wear := goodIn_ca (goodIn_ca (goodIn_ca (goodIn_r _ [79, 9, 10, 11, 12, 80, 81, 13, 14, 15, 7, 16, 17, 18, 19, 20, 21, 22, 23, 24, 25, 26, 27, 28, 29, 30, 61, 62, 63, 64, 65, 66, 31, 32, 33, 34, 35, 36, 37, 38, 39, 40, 41, 42, 43, 44, 45, 46, 47, 48, 49, 50, 51, 52, 53, 54, 55, 56, 67, 68, 69, 70, 71, 72, 73, 74, 75, 82, 83, 84, 85, 86, 87, 88, 89, 90, 91, 92, 93, 94, 95, 96, 97, 98, 99, 100, 101, 102, 103, 104, 105, 106, 107, 108, 109, 110, 111, 112, 113, 114] (by decide +kernel) (by decide +kernel)) (goodIn_sub (fun _ h => List.mem_cons_of_mem _ (List.mem_append_left _ (List.mem_append_left _ (List.mem_append_right _ h)))) (by decide +kernel))) (goodIn_sub (fun _ h => List.mem_cons_of_mem _ (List.mem_append_left _ (List.mem_append_right _ h))) (by decide +kernel))) (goodIn_sub (fun _ h => List.mem_cons_of_mem _ (List.mem_append_right _ h)) (by decide +kernel))
set_option maxRecDepth 20000 in
theorem gL_outfit_X0_wear : GoodIn wsL_outfit (wsV RL 26 RX0 yX0_wear wsX0_wear) := goodIn_app (goodIn_of _ (by decide +kernel)) ggL_outfit_X0_wear
theorem dL_outfit_0 : decode cL_outfit 0 = .ok (.iload_n 1, 1) := by decide +kernel
theorem dL_outfit_1 : decode cL_outfit 1 = .ok (.ifCond .ne 22, 3) := by decide +kernel
theorem dL_outfit_4 : decode cL_outfit 4 = .ok (.aload_n 0, 1) := by decide +kernel
theorem dL_outfit_5 : decode cL_outfit 5 = .ok (.iload_n 2, 1) := by decide +kernel
theorem dL_outfit_6 : decode cL_outfit 6 = .ok (.iload_n 3, 1) := by decide +kernel
theorem dL_outfit_7 : decode cL_outfit 7 = .ok (.iload 4, 2) := by decide +kernel
theorem dL_outfit_9 : decode cL_outfit 9 = .ok (.invokevirtual 19, 3) := by decide +kernel
theorem dL_outfit_12 : decode cL_outfit 12 = .ok (.ifCond .eq 7, 3) := by decide +kernel
theorem dL_outfit_15 : decode cL_outfit 15 = .ok (.iconst 1, 1) := by decide +kernel
theorem dL_outfit_16 : decode cL_outfit 16 = .ok (.goto 41, 3) := by decide +kernel
theorem dL_outfit_19 : decode cL_outfit 19 = .ok (.iconst 0, 1) := by decide +kernel
theorem dL_outfit_20 : decode cL_outfit 20 = .ok (.goto 37, 3) := by decide +kernel
theorem dL_outfit_23 : decode cL_outfit 23 = .ok (.iload_n 1, 1) := by decide +kernel
theorem dL_outfit_24 : decode cL_outfit 24 = .ok (.iconst 1, 1) := by decide +kernel
theorem dL_outfit_25 : decode cL_outfit 25 = .ok (.if_icmp .ne 22, 3) := by decide +kernel
theorem dL_outfit_28 : decode cL_outfit 28 = .ok (.aload_n 0, 1) := by decide +kernel
theorem dL_outfit_29 : decode cL_outfit 29 = .ok (.iload_n 2, 1) := by decide +kernel
theorem dL_outfit_30 : decode cL_outfit 30 = .ok (.iload_n 3, 1) := by decide +kernel
theorem dL_outfit_31 : decode cL_outfit 31 = .ok (.iload 5, 2) := by decide +kernel
theorem dL_outfit_33 : decode cL_outfit 33 = .ok (.invokevirtual 23, 3) := by decide +kernel
theorem dL_outfit_36 : decode cL_outfit 36 = .ok (.ifCond .eq 7, 3) := by decide +kernel
theorem dL_outfit_39 : decode cL_outfit 39 = .ok (.iconst 1, 1) := by decide +kernel
theorem dL_outfit_40 : decode cL_outfit 40 = .ok (.goto 17, 3) := by decide +kernel
theorem dL_outfit_43 : decode cL_outfit 43 = .ok (.iconst 0, 1) := by decide +kernel
theorem dL_outfit_44 : decode cL_outfit 44 = .ok (.goto 13, 3) := by decide +kernel
theorem dL_outfit_47 : decode cL_outfit 47 = .ok (.aload_n 0, 1) := by decide +kernel
theorem dL_outfit_48 : decode cL_outfit 48 = .ok (.iload_n 2, 1) := by decide +kernel
theorem dL_outfit_49 : decode cL_outfit 49 = .ok (.iload_n 3, 1) := by decide +kernel
theorem dL_outfit_50 : decode cL_outfit 50 = .ok (.iload 4, 2) := by decide +kernel
theorem dL_outfit_52 : decode cL_outfit 52 = .ok (.iload 5, 2) := by decide +kernel
theorem dL_outfit_54 : decode cL_outfit 54 = .ok (.invokevirtual 26, 3) := by decide +kernel
theorem dL_outfit_57 : decode cL_outfit 57 = .ok (.ireturn, 1) := by decide +kernel
theorem dL_outfit_58 : decode cL_outfit 58 = .ok (.astore 6, 2) := by decide +kernel
theorem dL_outfit_60 : decode cL_outfit 60 = .ok (.sipush (-981), 3) := by decide +kernel
theorem dL_outfit_63 : decode cL_outfit 63 = .ok (.ireturn, 1) := by decide +kernel
theorem dL_outfit_64 : decode cL_outfit 64 = .ok (.astore 6, 2) := by decide +kernel
theorem dL_outfit_66 : decode cL_outfit 66 = .ok (.sipush (-982), 3) := by decide +kernel
theorem dL_outfit_69 : decode cL_outfit 69 = .ok (.ireturn, 1) := by decide +kernel
theorem dL_outfit_70 : decode cL_outfit 70 = .ok (.astore 6, 2) := by decide +kernel
theorem dL_outfit_72 : decode cL_outfit 72 = .ok (.sipush (-983), 3) := by decide +kernel
theorem dL_outfit_75 : decode cL_outfit 75 = .ok (.ireturn, 1) := by decide +kernel
set_option maxRecDepth 20000 in
theorem ggL_of_X0_giveAway : GoodIn wsL_of wsX0_giveAway := goodIn_ca (goodIn_r _ [8, 9, 10, 11, 12, 13, 14, 7, 15, 16, 17, 18, 19, 20, 21, 22, 186, 187, 188, 189, 190, 191, 192, 193, 194, 195, 196, 197] (by decide +kernel) (by decide +kernel)) (goodIn_sub (fun _ h => List.mem_cons_of_mem _ (List.mem_append_left _ (List.mem_append_left _ (List.mem_append_right _ h)))) (by decide +kernel))
set_option maxRecDepth 20000 in
theorem gL_of_X0_giveAway : GoodIn wsL_of (wsV RL 32 RX0 yX0_giveAway wsX0_giveAway) := goodIn_app (goodIn_of _ (by decide +kernel)) ggL_of_X0_giveAway
set_option maxRecDepth 20000 in
theorem ggL_of_X0_left : GoodIn wsL_of wsX0_left := goodIn_ca (goodIn_r _ [26, 9, 10, 27, 12, 13, 14, 7, 15, 11, 186, 187, 188, 189, 190, 191, 192, 193, 194, 195, 196, 197] (by decide +kernel) (by decide +kernel)) (goodIn_sub (fun _ h => List.mem_cons_of_mem _ (List.mem_append_left _ (List.mem_append_left _ (List.mem_append_right _ h)))) (by decide +kernel))
set_option maxRecDepth 20000 in
theorem gL_of_X0_left : GoodIn wsL_of (wsV RL 36 RX0 yX0_left wsX0_left) := goodIn_app (goodIn_of _ (by decide +kernel)) ggL_of_X0_left
set_option maxRecDepth 20000 in
theorem ggL_of_X0_outfits : GoodIn wsL_of wsX0_outfits := goodIn_ca (goodIn_r _ [31, 32, 33, 34, 35, 36, 7, 37, 38, 39, 40, 41, 42, 43, 44, 45, 46, 47, 48, 49, 50, 51, 52, 53, 27, 12, 13, 14, 15, 11, 54, 55, 56, 57, 58, 59, 60, 61, 62, 63, 64, 65, 66, 67, 68, 69, 70, 71, 72, 73, 74, 75, 76, 77, 78, 79, 80, 81, 82, 83, 186, 187, 188, 189, 190, 191, 192, 193, 194, 195, 196, 197] (by decide +kernel) (by decide +kernel)) (goodIn_sub (fun _ h => List.mem_cons_of_mem _ (List.mem_append_left _ (List.mem_append_right _ h))) (by decide +kernel))
set_option maxRecDepth 20000 in
theorem gL_of_X0_outfits : GoodIn wsL_of (wsV RL 39 RX0 yX0_outfits wsX0_outfits) := goodIn_app (goodIn_of _ (by decide +kernel)) ggL_of_X0_outfits
set_option maxRecDepth 20000 in
theorem ggL_of_X0_adds : GoodIn wsL_of wsX0_adds := goodIn_ca (goodIn_ca (goodIn_r _ [87, 9, 10, 32, 33, 34, 12, 13, 14, 7, 15, 11, 35, 36, 37, 38, 39, 40, 41, 42, 43, 44, 45, 46, 47, 48, 49, 50, 51, 52, 53, 27, 54, 55, 56, 57, 58, 59, 60, 61, 62, 63, 64, 65, 66, 67, 68, 69, 70, 71, 72, 73, 74, 75, 76, 77, 78, 79, 80, 81, 82, 83, 186, 187, 188, 189, 190, 191, 192, 193, 194, 195, 196, 197] (by decide +kernel) (by decide +kernel)) (goodIn_sub (fun _ h => List.mem_cons_of_mem _ (List.mem_append_left _ (List.mem_append_left _ (List.mem_append_right _ h)))) (by decide +kernel))) (goodIn_sub (fun _ h => List.mem_cons_of_mem _ (List.mem_append_left _ (List.mem_append_right _ h))) (by decide +kernel))
set_option maxRecDepth 20000 in
theorem gL_of_X0_adds : GoodIn wsL_of (wsV RL 42 RX0 yX0_adds wsX0_adds) := goodIn_app (goodIn_of _ (by decide +kernel)) ggL_of_X0_adds
set_option maxRecDepth 20000 in
theorem ggL_of_X0_outfitFor : GoodIn wsL_of wsX0_outfitFor := goodIn_ca (goodIn_r _ [91, 32, 33, 34, 35, 36, 7, 37, 38, 39, 40, 92, 93, 94, 45, 46, 47, 48, 49, 50, 51, 52, 53, 27, 12, 13, 14, 15, 11, 54, 55, 56, 57, 58, 59, 60, 61, 62, 63, 64, 65, 66, 67, 68, 69, 70, 95, 96, 97, 98, 99, 100, 101, 102, 103, 75, 76, 77, 78, 79, 80, 81, 82, 83, 71, 72, 73, 74, 186, 187, 188, 189, 190, 191, 192, 193, 194, 195, 196, 197] (by decide +kernel) (by decide +kernel)) (goodIn_sub (fun _ h => List.mem_cons_of_mem _ (List.mem_append_left _ (List.mem_append_right _ h))) (by decide +kernel))
set_option maxRecDepth 20000 in
theorem gL_of_X0_outfitFor : GoodIn wsL_of (wsV RL 46 RX0 yX0_outfitFor wsX0_outfitFor) := goodIn_app (goodIn_of _ (by decide +kernel)) ggL_of_X0_outfitFor
set_option maxRecDepth 20000 in
theorem ggL_of_X0_load : GoodIn wsL_of wsX0_load := goodIn_ca (goodIn_r _ [107, 32, 33, 34, 108, 109, 7, 110, 38, 39, 40, 111, 112, 113, 114, 115, 58, 12, 13, 14, 15, 11, 116, 117, 118, 119, 27, 186, 187, 188, 189, 190, 191, 192, 193, 194, 195, 196, 197] (by decide +kernel) (by decide +kernel)) (goodIn_sub (fun _ h => List.mem_cons_of_mem _ (List.mem_append_left _ (List.mem_append_right _ h))) (by decide +kernel))
set_option maxRecDepth 20000 in
theorem gL_of_X0_load : GoodIn wsL_of (wsV RL 49 RX0 yX0_load wsX0_load) := goodIn_app (goodIn_of _ (by decide +kernel)) ggL_of_X0_load
set_option maxRecDepth 20000 in
theorem ggL_of_X0_wash : GoodIn wsL_of wsX0_wash := goodIn_ca (goodIn_r _ [123, 32, 33, 108, 109, 7, 110, 38, 39, 40, 124, 125, 126, 127, 34, 27, 128, 111, 112, 113, 114, 115, 58, 12, 13, 14, 15, 11, 116, 117, 118, 119, 129, 130, 131, 132, 186, 187, 188, 189, 190, 191, 192, 193, 194, 195, 196, 197] (by decide +kernel) (by decide +kernel)) (goodIn_sub (fun _ h => List.mem_cons_of_mem _ (List.mem_append_left _ (List.mem_append_right _ h))) (by decide +kernel))
set_option maxRecDepth 20000 in
theorem gL_of_X0_wash : GoodIn wsL_of (wsV RL 53 RX0 yX0_wash wsX0_wash) := goodIn_app (goodIn_of _ (by decide +kernel)) ggL_of_X0_wash
set_option maxRecDepth 20000 in
theorem ggL_of_X0_pass : GoodIn wsL_of wsX0_pass := goodIn_ca (goodIn_ca (goodIn_r _ [136, 32, 33, 137, 138, 99, 38, 39, 7, 40, 186, 187, 188, 189, 190, 191, 192, 193, 194, 195, 196, 197] (by decide +kernel) (by decide +kernel)) (goodIn_sub (fun _ h => List.mem_cons_of_mem _ (List.mem_append_left _ (List.mem_append_right _ h))) (by decide +kernel))) (goodIn_sub (fun _ h => List.mem_cons_of_mem _ (List.mem_append_right _ h)) (by decide +kernel))
set_option maxRecDepth 20000 in
theorem gL_of_X0_pass : GoodIn wsL_of (wsV RL 56 RX0 yX0_pass wsX0_pass) := goodIn_app (goodIn_of _ (by decide +kernel)) ggL_of_X0_pass
set_option maxRecDepth 20000 in
theorem ggL_of_X0_bag : GoodIn wsL_of wsX0_bag := goodIn_ca (goodIn_r _ [142, 32, 33, 143, 144, 7, 145, 38, 39, 40, 146, 147, 148, 149, 150, 34, 151, 152, 153, 154, 155, 156, 157, 158, 159, 160, 161, 162, 53, 12, 13, 14, 15, 11, 54, 55, 56, 57, 58, 59, 60, 61, 62, 63, 64, 65, 66, 75, 76, 77, 78, 79, 80, 81, 82, 83, 163, 164, 165, 166, 116, 117, 118, 119, 27, 167, 168, 169, 170, 171, 172, 173, 174, 16, 17, 18, 19, 20, 21, 22, 175, 176, 177, 178, 179, 180, 181, 182, 183, 184, 185, 186, 187, 188, 189, 190, 191, 192, 193, 194, 195, 196, 197] (by decide +kernel) (by decide +kernel)) (goodIn_sub (fun _ h => List.mem_cons_of_mem _ (List.mem_append_left _ (List.mem_append_right _ h))) (by decide +kernel))
set_option maxRecDepth 20000 in
theorem gL_of_X0_bag : GoodIn wsL_of (wsV RL 59 RX0 yX0_bag wsX0_bag) := goodIn_app (goodIn_of _ (by decide +kernel)) ggL_of_X0_bag
theorem dL_of_0 : decode cL_of 0 = .ok (.iload_n 1, 1) := by decide +kernel
theorem dL_of_1 : decode cL_of 1 = .ok (.ifCond .ne 11, 3) := by decide +kernel
theorem dL_of_4 : decode cL_of 4 = .ok (.aload_n 0, 1) := by decide +kernel
theorem dL_of_5 : decode cL_of 5 = .ok (.iload_n 2, 1) := by decide +kernel
theorem dL_of_6 : decode cL_of 6 = .ok (.invokevirtual 32, 3) := by decide +kernel
theorem dL_of_9 : decode cL_of 9 = .ok (.goto 124, 3) := by decide +kernel
theorem dL_of_12 : decode cL_of 12 = .ok (.iload_n 1, 1) := by decide +kernel
theorem dL_of_13 : decode cL_of 13 = .ok (.iconst 1, 1) := by decide +kernel
theorem dL_of_14 : decode cL_of 14 = .ok (.if_icmp .ne 11, 3) := by decide +kernel
theorem dL_of_17 : decode cL_of 17 = .ok (.aload_n 0, 1) := by decide +kernel
theorem dL_of_18 : decode cL_of 18 = .ok (.iload_n 2, 1) := by decide +kernel
theorem dL_of_19 : decode cL_of 19 = .ok (.invokevirtual 36, 3) := by decide +kernel
theorem dL_of_22 : decode cL_of 22 = .ok (.goto 111, 3) := by decide +kernel
theorem dL_of_25 : decode cL_of 25 = .ok (.iload_n 1, 1) := by decide +kernel
theorem dL_of_26 : decode cL_of 26 = .ok (.iconst 2, 1) := by decide +kernel
theorem dL_of_27 : decode cL_of 27 = .ok (.if_icmp .ne 11, 3) := by decide +kernel
theorem dL_of_30 : decode cL_of 30 = .ok (.aload_n 0, 1) := by decide +kernel
theorem dL_of_31 : decode cL_of 31 = .ok (.iload_n 2, 1) := by decide +kernel
theorem dL_of_32 : decode cL_of 32 = .ok (.invokevirtual 39, 3) := by decide +kernel
theorem dL_of_35 : decode cL_of 35 = .ok (.goto 98, 3) := by decide +kernel
theorem dL_of_38 : decode cL_of 38 = .ok (.iload_n 1, 1) := by decide +kernel
theorem dL_of_39 : decode cL_of 39 = .ok (.iconst 3, 1) := by decide +kernel
theorem dL_of_40 : decode cL_of 40 = .ok (.if_icmp .ne 12, 3) := by decide +kernel
theorem dL_of_43 : decode cL_of 43 = .ok (.aload_n 0, 1) := by decide +kernel
theorem dL_of_44 : decode cL_of 44 = .ok (.iload_n 2, 1) := by decide +kernel
theorem dL_of_45 : decode cL_of 45 = .ok (.iload_n 3, 1) := by decide +kernel
theorem dL_of_46 : decode cL_of 46 = .ok (.invokevirtual 42, 3) := by decide +kernel
theorem dL_of_49 : decode cL_of 49 = .ok (.goto 84, 3) := by decide +kernel
theorem dL_of_52 : decode cL_of 52 = .ok (.iload_n 1, 1) := by decide +kernel
theorem dL_of_53 : decode cL_of 53 = .ok (.iconst 4, 1) := by decide +kernel
theorem dL_of_54 : decode cL_of 54 = .ok (.if_icmp .ne 12, 3) := by decide +kernel
theorem dL_of_57 : decode cL_of 57 = .ok (.aload_n 0, 1) := by decide +kernel
theorem dL_of_58 : decode cL_of 58 = .ok (.iload_n 2, 1) := by decide +kernel
theorem dL_of_59 : decode cL_of 59 = .ok (.iload_n 3, 1) := by decide +kernel
theorem dL_of_60 : decode cL_of 60 = .ok (.invokevirtual 46, 3) := by decide +kernel
theorem dL_of_63 : decode cL_of 63 = .ok (.goto 70, 3) := by decide +kernel
theorem dL_of_66 : decode cL_of 66 = .ok (.iload_n 1, 1) := by decide +kernel
theorem dL_of_67 : decode cL_of 67 = .ok (.iconst 5, 1) := by decide +kernel
theorem dL_of_68 : decode cL_of 68 = .ok (.if_icmp .ne 21, 3) := by decide +kernel
theorem dL_of_71 : decode cL_of 71 = .ok (.aload_n 0, 1) := by decide +kernel
theorem dL_of_72 : decode cL_of 72 = .ok (.iload_n 2, 1) := by decide +kernel
theorem dL_of_73 : decode cL_of 73 = .ok (.iload_n 3, 1) := by decide +kernel
theorem dL_of_74 : decode cL_of 74 = .ok (.iconst 1, 1) := by decide +kernel
theorem dL_of_75 : decode cL_of 75 = .ok (.if_icmp .ne 7, 3) := by decide +kernel
theorem dL_of_78 : decode cL_of 78 = .ok (.iconst 1, 1) := by decide +kernel
theorem dL_of_79 : decode cL_of 79 = .ok (.goto 4, 3) := by decide +kernel
theorem dL_of_82 : decode cL_of 82 = .ok (.iconst 0, 1) := by decide +kernel
theorem dL_of_83 : decode cL_of 83 = .ok (.invokevirtual 49, 3) := by decide +kernel
theorem dL_of_86 : decode cL_of 86 = .ok (.goto 47, 3) := by decide +kernel
theorem dL_of_89 : decode cL_of 89 = .ok (.iload_n 1, 1) := by decide +kernel
theorem dL_of_90 : decode cL_of 90 = .ok (.bipush 6, 2) := by decide +kernel
theorem dL_of_92 : decode cL_of 92 = .ok (.if_icmp .ne 21, 3) := by decide +kernel
theorem dL_of_95 : decode cL_of 95 = .ok (.aload_n 0, 1) := by decide +kernel
theorem dL_of_96 : decode cL_of 96 = .ok (.iload_n 2, 1) := by decide +kernel
theorem dL_of_97 : decode cL_of 97 = .ok (.iload_n 3, 1) := by decide +kernel
theorem dL_of_98 : decode cL_of 98 = .ok (.iconst 1, 1) := by decide +kernel
theorem dL_of_99 : decode cL_of 99 = .ok (.if_icmp .ne 7, 3) := by decide +kernel
theorem dL_of_102 : decode cL_of 102 = .ok (.iconst 1, 1) := by decide +kernel
theorem dL_of_103 : decode cL_of 103 = .ok (.goto 4, 3) := by decide +kernel
theorem dL_of_106 : decode cL_of 106 = .ok (.iconst 0, 1) := by decide +kernel
theorem dL_of_107 : decode cL_of 107 = .ok (.invokevirtual 53, 3) := by decide +kernel
theorem dL_of_110 : decode cL_of 110 = .ok (.goto 23, 3) := by decide +kernel
theorem dL_of_113 : decode cL_of 113 = .ok (.iload_n 1, 1) := by decide +kernel
theorem dL_of_114 : decode cL_of 114 = .ok (.bipush 7, 2) := by decide +kernel
theorem dL_of_116 : decode cL_of 116 = .ok (.if_icmp .ne 11, 3) := by decide +kernel
theorem dL_of_119 : decode cL_of 119 = .ok (.aload_n 0, 1) := by decide +kernel
theorem dL_of_120 : decode cL_of 120 = .ok (.iload_n 2, 1) := by decide +kernel
theorem dL_of_121 : decode cL_of 121 = .ok (.invokevirtual 56, 3) := by decide +kernel
theorem dL_of_124 : decode cL_of 124 = .ok (.goto 9, 3) := by decide +kernel
theorem dL_of_127 : decode cL_of 127 = .ok (.aload_n 0, 1) := by decide +kernel
theorem dL_of_128 : decode cL_of 128 = .ok (.iload_n 2, 1) := by decide +kernel
theorem dL_of_129 : decode cL_of 129 = .ok (.iload_n 3, 1) := by decide +kernel
theorem dL_of_130 : decode cL_of 130 = .ok (.invokevirtual 59, 3) := by decide +kernel
theorem dL_of_133 : decode cL_of 133 = .ok (.ireturn, 1) := by decide +kernel
theorem dL_of_134 : decode cL_of 134 = .ok (.astore 4, 2) := by decide +kernel
theorem dL_of_136 : decode cL_of 136 = .ok (.sipush (-981), 3) := by decide +kernel
theorem dL_of_139 : decode cL_of 139 = .ok (.ireturn, 1) := by decide +kernel
theorem dL_of_140 : decode cL_of 140 = .ok (.astore 4, 2) := by decide +kernel
theorem dL_of_142 : decode cL_of 142 = .ok (.sipush (-982), 3) := by decide +kernel
theorem dL_of_145 : decode cL_of 145 = .ok (.ireturn, 1) := by decide +kernel
theorem dL_of_146 : decode cL_of 146 = .ok (.astore 4, 2) := by decide +kernel
theorem dL_of_148 : decode cL_of 148 = .ok (.sipush (-983), 3) := by decide +kernel
theorem dL_of_151 : decode cL_of 151 = .ok (.ireturn, 1) := by decide +kernel
set_option maxRecDepth 20000 in
theorem ggL_yes_X0_setClash : GoodIn wsL_yes wsX0_setClash := goodIn_ca (goodIn_r _ [6, 7, 8, 9, 10, 11, 12, 5, 13, 14, 15, 16, 17, 18, 19, 20, 21, 22, 23, 96, 97, 98, 99, 100, 101, 102, 103, 104, 105, 106, 107] (by decide +kernel) (by decide +kernel)) (goodIn_sub (fun _ h => List.mem_cons_of_mem _ (List.mem_append_right _ h)) (by decide +kernel))
set_option maxRecDepth 20000 in
theorem gL_yes_X0_setClash : GoodIn wsL_yes (wsV RL 62 RX0 yX0_setClash wsX0_setClash) := goodIn_app (goodIn_of _ (by decide +kernel)) ggL_yes_X0_setClash
set_option maxRecDepth 20000 in
theorem ggL_yes_X0_isEnough : GoodIn wsL_yes wsX0_isEnough := goodIn_ca (goodIn_r _ [27, 7, 8, 28, 29, 30, 5, 31, 14, 15, 16, 32, 33, 34, 35, 36, 37, 38, 39, 40, 41, 42, 43, 44, 45, 46, 47, 48, 49, 50, 51, 52, 53, 54, 55, 56, 57, 58, 59, 17, 18, 19, 20, 9, 21, 22, 23, 60, 61, 62, 63, 64, 65, 66, 67, 68, 69, 70, 71, 72, 73, 74, 75, 76, 77, 78, 79, 80, 81, 82, 83, 84, 85, 86, 87, 88, 89, 90, 91, 92, 93, 94, 95, 96, 97, 98, 99, 100, 101, 102, 103, 104, 105, 106, 107] (by decide +kernel) (by decide +kernel)) (goodIn_sub (fun _ h => List.mem_cons_of_mem _ (List.mem_append_right _ h)) (by decide +kernel))
set_option maxRecDepth 20000 in
theorem gL_yes_X0_isEnough : GoodIn wsL_yes (wsV RL 66 RX0 yX0_isEnough wsX0_isEnough) := goodIn_app (goodIn_of _ (by decide +kernel)) ggL_yes_X0_isEnough
theorem dL_yes_0 : decode cL_yes 0 = .ok (.iload_n 1, 1) := by decide +kernel
theorem dL_yes_1 : decode cL_yes 1 = .ok (.ifCond .ne 26, 3) := by decide +kernel
theorem dL_yes_4 : decode cL_yes 4 = .ok (.aload_n 0, 1) := by decide +kernel
theorem dL_yes_5 : decode cL_yes 5 = .ok (.iload_n 2, 1) := by decide +kernel
theorem dL_yes_6 : decode cL_yes 6 = .ok (.iload_n 3, 1) := by decide +kernel
theorem dL_yes_7 : decode cL_yes 7 = .ok (.iload 4, 2) := by decide +kernel
theorem dL_yes_9 : decode cL_yes 9 = .ok (.iconst 1, 1) := by decide +kernel
theorem dL_yes_10 : decode cL_yes 10 = .ok (.if_icmp .ne 7, 3) := by decide +kernel
theorem dL_yes_13 : decode cL_yes 13 = .ok (.iconst 1, 1) := by decide +kernel
theorem dL_yes_14 : decode cL_yes 14 = .ok (.goto 4, 3) := by decide +kernel
theorem dL_yes_17 : decode cL_yes 17 = .ok (.iconst 0, 1) := by decide +kernel
theorem dL_yes_18 : decode cL_yes 18 = .ok (.invokevirtual 62, 3) := by decide +kernel
theorem dL_yes_21 : decode cL_yes 21 = .ok (.ifCond .eq 21, 3) := by decide +kernel
theorem dL_yes_24 : decode cL_yes 24 = .ok (.goto 14, 3) := by decide +kernel
theorem dL_yes_27 : decode cL_yes 27 = .ok (.aload_n 0, 1) := by decide +kernel
theorem dL_yes_28 : decode cL_yes 28 = .ok (.iload_n 2, 1) := by decide +kernel
theorem dL_yes_29 : decode cL_yes 29 = .ok (.iload_n 3, 1) := by decide +kernel
theorem dL_yes_30 : decode cL_yes 30 = .ok (.iload 4, 2) := by decide +kernel
theorem dL_yes_32 : decode cL_yes 32 = .ok (.invokevirtual 66, 3) := by decide +kernel
theorem dL_yes_35 : decode cL_yes 35 = .ok (.ifCond .eq 7, 3) := by decide +kernel
theorem dL_yes_38 : decode cL_yes 38 = .ok (.iconst 1, 1) := by decide +kernel
theorem dL_yes_39 : decode cL_yes 39 = .ok (.goto 4, 3) := by decide +kernel
theorem dL_yes_42 : decode cL_yes 42 = .ok (.iconst 0, 1) := by decide +kernel
theorem dL_yes_43 : decode cL_yes 43 = .ok (.ireturn, 1) := by decide +kernel
theorem dL_yes_44 : decode cL_yes 44 = .ok (.astore 5, 2) := by decide +kernel
theorem dL_yes_46 : decode cL_yes 46 = .ok (.sipush (-982), 3) := by decide +kernel
theorem dL_yes_49 : decode cL_yes 49 = .ok (.ireturn, 1) := by decide +kernel
set_option maxRecDepth 20000 in
theorem ggL_all_X0_things : GoodIn wsL_all wsX0_things := goodIn_r _ [9, 10, 11, 12, 13, 14, 15, 16, 17, 198, 199, 200, 201, 202, 203, 204, 205, 206, 207, 208, 209] (by decide +kernel) (by decide +kernel)
set_option maxRecDepth 20000 in
theorem gL_all_X0_things : GoodIn wsL_all (wsV RL 69 RX0 yX0_things wsX0_things) := goodIn_app (goodIn_of _ (by decide +kernel)) ggL_all_X0_things
set_option maxRecDepth 20000 in
theorem ggL_all_X0_outfits : GoodIn wsL_all wsX0_outfits := goodIn_ca (goodIn_r _ [21, 22, 23, 24, 25, 26, 8, 27, 28, 29, 30, 31, 32, 33, 34, 35, 36, 37, 38, 39, 40, 41, 42, 43, 44, 45, 46, 47, 48, 10, 49, 50, 51, 52, 53, 54, 55, 56, 57, 58, 59, 60, 61, 62, 63, 64, 65, 66, 67, 68, 69, 70, 71, 72, 73, 74, 75, 76, 77, 78, 198, 199, 200, 201, 202, 203, 204, 205, 206, 207, 208, 209] (by decide +kernel) (by decide +kernel)) (goodIn_sub (fun _ h => List.mem_cons_of_mem _ (List.mem_append_left _ (List.mem_append_left _ (List.mem_append_right _ h)))) (by decide +kernel))
set_option maxRecDepth 20000 in
theorem gL_all_X0_outfits : GoodIn wsL_all (wsV RL 39 RX0 yX0_outfits wsX0_outfits) := goodIn_app (goodIn_of _ (by decide +kernel)) ggL_all_X0_outfits
set_option maxRecDepth 20000 in
theorem ggL_all_X0_outfitFor : GoodIn wsL_all wsX0_outfitFor := goodIn_ca (goodIn_r _ [82, 22, 23, 24, 25, 26, 8, 27, 28, 29, 30, 83, 84, 85, 35, 36, 37, 38, 39, 40, 41, 42, 43, 44, 45, 46, 47, 48, 10, 49, 50, 51, 52, 53, 54, 55, 56, 57, 58, 59, 60, 61, 62, 63, 64, 65, 86, 87, 88, 89, 90, 91, 92, 93, 94, 70, 71, 72, 73, 74, 75, 76, 77, 78, 66, 67, 68, 69, 198, 199, 200, 201, 202, 203, 204, 205, 206, 207, 208, 209] (by decide +kernel) (by decide +kernel)) (goodIn_sub (fun _ h => List.mem_cons_of_mem _ (List.mem_append_left _ (List.mem_append_left _ (List.mem_append_right _ h)))) (by decide +kernel))
set_option maxRecDepth 20000 in
theorem gL_all_X0_outfitFor : GoodIn wsL_all (wsV RL 46 RX0 yX0_outfitFor wsX0_outfitFor) := goodIn_app (goodIn_of _ (by decide +kernel)) ggL_all_X0_outfitFor
set_option maxRecDepth 20000 in
theorem ggL_all_L_of : GoodIn wsL_all wsL_of := goodIn_ca (goodIn_ca (goodIn_ca (goodIn_r _ [98, 99, 100, 101, 102, 103, 104, 8, 105, 106, 107, 10, 45, 46, 47, 48, 11, 12, 13, 14, 15, 16, 17, 108, 109, 110, 111, 44, 18, 19, 20, 21, 22, 23, 24, 25, 26, 27, 28, 29, 30, 31, 32, 33, 34, 35, 36, 37, 38, 39, 40, 41, 42, 43, 49, 50, 51, 52, 53, 54, 55, 56, 57, 58, 59, 60, 61, 62, 63, 64, 65, 66, 67, 68, 69, 70, 71, 72, 73, 74, 75, 76, 77, 78, 112, 113, 114, 115, 79, 80, 81, 82, 83, 84, 85, 86, 87, 88, 89, 90, 91, 92, 93, 94, 116, 117, 118, 119, 120, 121, 122, 123, 124, 125, 126, 127, 128, 129, 130, 131, 132, 133, 134, 135, 136, 137, 138, 139, 140, 141, 142, 143, 144, 145, 146, 147, 148, 149, 150, 151, 152, 153, 154, 155, 156, 157, 158, 159, 160, 161, 162, 163, 164, 165, 166, 167, 168, 169, 170, 171, 172, 173, 174, 175, 176, 177, 178, 179, 180, 181, 182, 183, 184, 185, 186, 187, 188, 189, 190, 191, 192, 193, 194, 195, 196, 197, 198, 199, 200, 201, 202, 203, 204, 205, 206, 207, 208, 209] (by decide +kernel) (by decide +kernel)) (goodIn_sub (fun _ h => List.mem_cons_of_mem _ (List.mem_append_left _ (List.mem_append_right _ h))) (by decide +kernel))) (goodIn_sub (fun _ h => List.mem_cons_of_mem _ (List.mem_append_left _ (List.mem_append_left _ (List.mem_append_right _ h)))) (by decide +kernel))) (goodIn_sub (fun _ h => List.mem_cons_of_mem _ (List.mem_append_right _ h)) (by decide +kernel))
set_option maxRecDepth 20000 in
theorem gL_all_L_of : GoodIn wsL_all (va_wsS RL 81 yL_of wsL_of) := goodIn_app (goodIn_of _ (by decide +kernel)) ggL_all_L_of
theorem dL_all_0 : decode cL_all 0 = .ok (.aload_n 0, 1) := by decide +kernel
theorem dL_all_1 : decode cL_all 1 = .ok (.invokevirtual 69, 3) := by decide +kernel
theorem dL_all_4 : decode cL_all 4 = .ok (.i2l, 1) := by decide +kernel
theorem dL_all_5 : decode cL_all 5 = .ok (.ldc2_w 73, 3) := by decide +kernel
theorem dL_all_8 : decode cL_all 8 = .ok (.aload_n 0, 1) := by decide +kernel
theorem dL_all_9 : decode cL_all 9 = .ok (.iconst 0, 1) := by decide +kernel
theorem dL_all_10 : decode cL_all 10 = .ok (.invokevirtual 39, 3) := by decide +kernel
theorem dL_all_13 : decode cL_all 13 = .ok (.i2l, 1) := by decide +kernel
theorem dL_all_14 : decode cL_all 14 = .ok (.lmul, 1) := by decide +kernel
theorem dL_all_15 : decode cL_all 15 = .ok (.ladd, 1) := by decide +kernel
theorem dL_all_16 : decode cL_all 16 = .ok (.ldc2_w 75, 3) := by decide +kernel
theorem dL_all_19 : decode cL_all 19 = .ok (.aload_n 0, 1) := by decide +kernel
theorem dL_all_20 : decode cL_all 20 = .ok (.bipush 9, 2) := by decide +kernel
theorem dL_all_22 : decode cL_all 22 = .ok (.invokevirtual 39, 3) := by decide +kernel
theorem dL_all_25 : decode cL_all 25 = .ok (.i2l, 1) := by decide +kernel
theorem dL_all_26 : decode cL_all 26 = .ok (.lmul, 1) := by decide +kernel
theorem dL_all_27 : decode cL_all 27 = .ok (.ladd, 1) := by decide +kernel
theorem dL_all_28 : decode cL_all 28 = .ok (.ldc2_w 77, 3) := by decide +kernel
theorem dL_all_31 : decode cL_all 31 = .ok (.aload_n 0, 1) := by decide +kernel
theorem dL_all_32 : decode cL_all 32 = .ok (.iconst 0, 1) := by decide +kernel
theorem dL_all_33 : decode cL_all 33 = .ok (.sipush 255, 3) := by decide +kernel
theorem dL_all_36 : decode cL_all 36 = .ok (.invokevirtual 46, 3) := by decide +kernel
theorem dL_all_39 : decode cL_all 39 = .ok (.i2l, 1) := by decide +kernel
theorem dL_all_40 : decode cL_all 40 = .ok (.lmul, 1) := by decide +kernel
theorem dL_all_41 : decode cL_all 41 = .ok (.ladd, 1) := by decide +kernel
theorem dL_all_42 : decode cL_all 42 = .ok (.lstore_n 2, 1) := by decide +kernel
theorem dL_all_43 : decode cL_all 43 = .ok (.iconst 0, 1) := by decide +kernel
theorem dL_all_44 : decode cL_all 44 = .ok (.istore 4, 2) := by decide +kernel
theorem dL_all_46 : decode cL_all 46 = .ok (.iload 4, 2) := by decide +kernel
theorem dL_all_48 : decode cL_all 48 = .ok (.aload_n 1, 1) := by decide +kernel
theorem dL_all_49 : decode cL_all 49 = .ok (.iconst 0, 1) := by decide +kernel
theorem dL_all_50 : decode cL_all 50 = .ok (.iaload, 1) := by decide +kernel
theorem dL_all_51 : decode cL_all 51 = .ok (.if_icmp .ge 25, 3) := by decide +kernel
theorem dL_all_54 : decode cL_all 54 = .ok (.ldc2_w 79, 3) := by decide +kernel
theorem dL_all_57 : decode cL_all 57 = .ok (.lload_n 2, 1) := by decide +kernel
theorem dL_all_58 : decode cL_all 58 = .ok (.lmul, 1) := by decide +kernel
theorem dL_all_59 : decode cL_all 59 = .ok (.aload_n 0, 1) := by decide +kernel
theorem dL_all_60 : decode cL_all 60 = .ok (.iconst 1, 1) := by decide +kernel
theorem dL_all_61 : decode cL_all 61 = .ok (.iload 4, 2) := by decide +kernel
theorem dL_all_63 : decode cL_all 63 = .ok (.iconst 0, 1) := by decide +kernel
theorem dL_all_64 : decode cL_all 64 = .ok (.invokestatic 81, 3) := by decide +kernel
theorem dL_all_67 : decode cL_all 67 = .ok (.i2l, 1) := by decide +kernel
theorem dL_all_68 : decode cL_all 68 = .ok (.ladd, 1) := by decide +kernel
theorem dL_all_69 : decode cL_all 69 = .ok (.lstore_n 2, 1) := by decide +kernel
theorem dL_all_70 : decode cL_all 70 = .ok (.iinc 4 1, 3) := by decide +kernel
theorem dL_all_73 : decode cL_all 73 = .ok (.goto (-27), 3) := by decide +kernel
theorem dL_all_76 : decode cL_all 76 = .ok (.lload_n 2, 1) := by decide +kernel
theorem dL_all_77 : decode cL_all 77 = .ok (.lreturn, 1) := by decide +kernel
theorem dL_isThing_0 : decode cL_isThing 0 = .ok (.iload_n 2, 1) := by decide +kernel
theorem dL_isThing_1 : decode cL_isThing 1 = .ok (.ifCond .lt 22, 3) := by decide +kernel
theorem dL_isThing_4 : decode cL_isThing 4 = .ok (.iload_n 2, 1) := by decide +kernel
theorem dL_isThing_5 : decode cL_isThing 5 = .ok (.aload_n 1, 1) := by decide +kernel
theorem dL_isThing_6 : decode cL_isThing 6 = .ok (.iconst 0, 1) := by decide +kernel
theorem dL_isThing_7 : decode cL_isThing 7 = .ok (.iaload, 1) := by decide +kernel
theorem dL_isThing_8 : decode cL_isThing 8 = .ok (.if_icmp .ge 15, 3) := by decide +kernel
theorem dL_isThing_11 : decode cL_isThing 11 = .ok (.aload_n 0, 1) := by decide +kernel
theorem dL_isThing_12 : decode cL_isThing 12 = .ok (.iconst 5, 1) := by decide +kernel
theorem dL_isThing_13 : decode cL_isThing 13 = .ok (.iload_n 2, 1) := by decide +kernel
theorem dL_isThing_14 : decode cL_isThing 14 = .ok (.imul, 1) := by decide +kernel
theorem dL_isThing_15 : decode cL_isThing 15 = .ok (.iaload, 1) := by decide +kernel
theorem dL_isThing_16 : decode cL_isThing 16 = .ok (.ifCond .lt 7, 3) := by decide +kernel
theorem dL_isThing_19 : decode cL_isThing 19 = .ok (.iconst 1, 1) := by decide +kernel
theorem dL_isThing_20 : decode cL_isThing 20 = .ok (.goto 4, 3) := by decide +kernel
theorem dL_isThing_23 : decode cL_isThing 23 = .ok (.iconst 0, 1) := by decide +kernel
theorem dL_isThing_24 : decode cL_isThing 24 = .ok (.ireturn, 1) := by decide +kernel
theorem dL_doClash_0 : decode cL_doClash 0 = .ok (.aload_n 1, 1) := by decide +kernel
theorem dL_doClash_1 : decode cL_doClash 1 = .ok (.aload_n 0, 1) := by decide +kernel
theorem dL_doClash_2 : decode cL_doClash 2 = .ok (.iconst 5, 1) := by decide +kernel
theorem dL_doClash_3 : decode cL_doClash 3 = .ok (.iload_n 2, 1) := by decide +kernel
theorem dL_doClash_4 : decode cL_doClash 4 = .ok (.imul, 1) := by decide +kernel
theorem dL_doClash_5 : decode cL_doClash 5 = .ok (.iconst 1, 1) := by decide +kernel
theorem dL_doClash_6 : decode cL_doClash 6 = .ok (.iadd, 1) := by decide +kernel
theorem dL_doClash_7 : decode cL_doClash 7 = .ok (.iaload, 1) := by decide +kernel
theorem dL_doClash_8 : decode cL_doClash 8 = .ok (.iaload, 1) := by decide +kernel
theorem dL_doClash_9 : decode cL_doClash 9 = .ok (.aload_n 0, 1) := by decide +kernel
theorem dL_doClash_10 : decode cL_doClash 10 = .ok (.iconst 5, 1) := by decide +kernel
theorem dL_doClash_11 : decode cL_doClash 11 = .ok (.iload_n 3, 1) := by decide +kernel
theorem dL_doClash_12 : decode cL_doClash 12 = .ok (.imul, 1) := by decide +kernel
theorem dL_doClash_13 : decode cL_doClash 13 = .ok (.iconst 1, 1) := by decide +kernel
theorem dL_doClash_14 : decode cL_doClash 14 = .ok (.iadd, 1) := by decide +kernel
theorem dL_doClash_15 : decode cL_doClash 15 = .ok (.iaload, 1) := by decide +kernel
theorem dL_doClash_16 : decode cL_doClash 16 = .ok (.ishr, 1) := by decide +kernel
theorem dL_doClash_17 : decode cL_doClash 17 = .ok (.iconst 1, 1) := by decide +kernel
theorem dL_doClash_18 : decode cL_doClash 18 = .ok (.iand, 1) := by decide +kernel
theorem dL_doClash_19 : decode cL_doClash 19 = .ok (.iconst 1, 1) := by decide +kernel
theorem dL_doClash_20 : decode cL_doClash 20 = .ok (.if_icmp .ne 7, 3) := by decide +kernel
theorem dL_doClash_23 : decode cL_doClash 23 = .ok (.iconst 1, 1) := by decide +kernel
theorem dL_doClash_24 : decode cL_doClash 24 = .ok (.goto 4, 3) := by decide +kernel
theorem dL_doClash_27 : decode cL_doClash 27 = .ok (.iconst 0, 1) := by decide +kernel
theorem dL_doClash_28 : decode cL_doClash 28 = .ok (.ireturn, 1) := by decide +kernel
theorem dL_warmthOf_0 : decode cL_warmthOf 0 = .ok (.iload_n 1, 1) := by decide +kernel
theorem dL_warmthOf_1 : decode cL_warmthOf 1 = .ok (.bipush 100, 2) := by decide +kernel
theorem dL_warmthOf_3 : decode cL_warmthOf 3 = .ok (.irem, 1) := by decide +kernel
theorem dL_warmthOf_4 : decode cL_warmthOf 4 = .ok (.iconst 1, 1) := by decide +kernel
theorem dL_warmthOf_5 : decode cL_warmthOf 5 = .ok (.isub, 1) := by decide +kernel
theorem dL_warmthOf_6 : decode cL_warmthOf 6 = .ok (.istore_n 2, 1) := by decide +kernel
theorem dL_warmthOf_7 : decode cL_warmthOf 7 = .ok (.aload_n 0, 1) := by decide +kernel
theorem dL_warmthOf_8 : decode cL_warmthOf 8 = .ok (.iconst 5, 1) := by decide +kernel
theorem dL_warmthOf_9 : decode cL_warmthOf 9 = .ok (.iload_n 1, 1) := by decide +kernel
theorem dL_warmthOf_10 : decode cL_warmthOf 10 = .ok (.sipush 10000, 3) := by decide +kernel
theorem dL_warmthOf_13 : decode cL_warmthOf 13 = .ok (.idiv, 1) := by decide +kernel
theorem dL_warmthOf_14 : decode cL_warmthOf 14 = .ok (.imul, 1) := by decide +kernel
theorem dL_warmthOf_15 : decode cL_warmthOf 15 = .ok (.iconst 2, 1) := by decide +kernel
theorem dL_warmthOf_16 : decode cL_warmthOf 16 = .ok (.iadd, 1) := by decide +kernel
theorem dL_warmthOf_17 : decode cL_warmthOf 17 = .ok (.iaload, 1) := by decide +kernel
theorem dL_warmthOf_18 : decode cL_warmthOf 18 = .ok (.aload_n 0, 1) := by decide +kernel
theorem dL_warmthOf_19 : decode cL_warmthOf 19 = .ok (.iconst 5, 1) := by decide +kernel
theorem dL_warmthOf_20 : decode cL_warmthOf 20 = .ok (.iload_n 1, 1) := by decide +kernel
theorem dL_warmthOf_21 : decode cL_warmthOf 21 = .ok (.bipush 100, 2) := by decide +kernel
theorem dL_warmthOf_23 : decode cL_warmthOf 23 = .ok (.idiv, 1) := by decide +kernel
theorem dL_warmthOf_24 : decode cL_warmthOf 24 = .ok (.bipush 100, 2) := by decide +kernel
theorem dL_warmthOf_26 : decode cL_warmthOf 26 = .ok (.irem, 1) := by decide +kernel
theorem dL_warmthOf_27 : decode cL_warmthOf 27 = .ok (.imul, 1) := by decide +kernel
theorem dL_warmthOf_28 : decode cL_warmthOf 28 = .ok (.iconst 2, 1) := by decide +kernel
theorem dL_warmthOf_29 : decode cL_warmthOf 29 = .ok (.iadd, 1) := by decide +kernel
theorem dL_warmthOf_30 : decode cL_warmthOf 30 = .ok (.iaload, 1) := by decide +kernel
theorem dL_warmthOf_31 : decode cL_warmthOf 31 = .ok (.iadd, 1) := by decide +kernel
theorem dL_warmthOf_32 : decode cL_warmthOf 32 = .ok (.iload_n 2, 1) := by decide +kernel
theorem dL_warmthOf_33 : decode cL_warmthOf 33 = .ok (.ifCond .ge 7, 3) := by decide +kernel
theorem dL_warmthOf_36 : decode cL_warmthOf 36 = .ok (.iconst 0, 1) := by decide +kernel
theorem dL_warmthOf_37 : decode cL_warmthOf 37 = .ok (.goto 10, 3) := by decide +kernel
theorem dL_warmthOf_40 : decode cL_warmthOf 40 = .ok (.aload_n 0, 1) := by decide +kernel
theorem dL_warmthOf_41 : decode cL_warmthOf 41 = .ok (.iconst 5, 1) := by decide +kernel
theorem dL_warmthOf_42 : decode cL_warmthOf 42 = .ok (.iload_n 2, 1) := by decide +kernel
theorem dL_warmthOf_43 : decode cL_warmthOf 43 = .ok (.imul, 1) := by decide +kernel
theorem dL_warmthOf_44 : decode cL_warmthOf 44 = .ok (.iconst 2, 1) := by decide +kernel
theorem dL_warmthOf_45 : decode cL_warmthOf 45 = .ok (.iadd, 1) := by decide +kernel
theorem dL_warmthOf_46 : decode cL_warmthOf 46 = .ok (.iaload, 1) := by decide +kernel
theorem dL_warmthOf_47 : decode cL_warmthOf 47 = .ok (.iadd, 1) := by decide +kernel
theorem dL_warmthOf_48 : decode cL_warmthOf 48 = .ok (.ireturn, 1) := by decide +kernel
theorem dL_bits_0 : decode cL_bits 0 = .ok (.iconst 0, 1) := by decide +kernel
theorem dL_bits_1 : decode cL_bits 1 = .ok (.istore_n 1, 1) := by decide +kernel
theorem dL_bits_2 : decode cL_bits 2 = .ok (.iconst 0, 1) := by decide +kernel
theorem dL_bits_3 : decode cL_bits 3 = .ok (.istore_n 2, 1) := by decide +kernel
theorem dL_bits_4 : decode cL_bits 4 = .ok (.iload_n 2, 1) := by decide +kernel
theorem dL_bits_5 : decode cL_bits 5 = .ok (.bipush 12, 2) := by decide +kernel
theorem dL_bits_7 : decode cL_bits 7 = .ok (.if_icmp .ge 17, 3) := by decide +kernel
theorem dL_bits_10 : decode cL_bits 10 = .ok (.iload_n 1, 1) := by decide +kernel
theorem dL_bits_11 : decode cL_bits 11 = .ok (.iload_n 0, 1) := by decide +kernel
theorem dL_bits_12 : decode cL_bits 12 = .ok (.iload_n 2, 1) := by decide +kernel
theorem dL_bits_13 : decode cL_bits 13 = .ok (.ishr, 1) := by decide +kernel
theorem dL_bits_14 : decode cL_bits 14 = .ok (.iconst 1, 1) := by decide +kernel
theorem dL_bits_15 : decode cL_bits 15 = .ok (.iand, 1) := by decide +kernel
theorem dL_bits_16 : decode cL_bits 16 = .ok (.iadd, 1) := by decide +kernel
theorem dL_bits_17 : decode cL_bits 17 = .ok (.istore_n 1, 1) := by decide +kernel
theorem dL_bits_18 : decode cL_bits 18 = .ok (.iinc 2 1, 3) := by decide +kernel
theorem dL_bits_21 : decode cL_bits 21 = .ok (.goto (-17), 3) := by decide +kernel
theorem dL_bits_24 : decode cL_bits 24 = .ok (.iload_n 1, 1) := by decide +kernel
theorem dL_bits_25 : decode cL_bits 25 = .ok (.ireturn, 1) := by decide +kernel
