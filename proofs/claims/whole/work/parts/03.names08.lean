theorem dL_offer_11 : decode cL_offer 11 = .ok (.invokevirtual 30, 3) := by decide +kernel
theorem dL_offer_14 : decode cL_offer 14 = .ok (.i2l, 1) := by decide +kernel
theorem dL_offer_15 : decode cL_offer 15 = .ok (.lastore, 1) := by decide +kernel
theorem dL_offer_16 : decode cL_offer 16 = .ok (.goto 11, 3) := by decide +kernel
theorem dL_offer_19 : decode cL_offer 19 = .ok (.astore 7, 2) := by decide +kernel
theorem dL_offer_21 : decode cL_offer 21 = .ok (.iconst 1, 1) := by decide +kernel
theorem dL_offer_22 : decode cL_offer 22 = .ok (.ireturn, 1) := by decide +kernel
theorem dL_offer_23 : decode cL_offer 23 = .ok (.astore 7, 2) := by decide +kernel
theorem dL_offer_25 : decode cL_offer 25 = .ok (.iconst 2, 1) := by decide +kernel
theorem dL_offer_26 : decode cL_offer 26 = .ok (.ireturn, 1) := by decide +kernel
theorem dL_offer_27 : decode cL_offer 27 = .ok (.iconst 0, 1) := by decide +kernel
theorem dL_offer_28 : decode cL_offer 28 = .ok (.ireturn, 1) := by decide +kernel
set_option maxRecDepth 20000 in
theorem ggL_moor_X4_moor : GoodIn wsL_moor wsX4_moor := goodIn_ca (goodIn_ca (goodIn_r _ [7, 8, 9, 10, 11, 12, 13, 14, 15, 16, 6, 17, 18, 19, 20, 21, 22, 23, 24, 25, 26, 27, 28, 29, 30, 31, 32, 33, 34, 35, 36, 37, 38, 39, 40, 41, 42, 43, 44, 45, 46, 47, 48, 49, 50, 51, 52, 53, 54, 55, 56, 57, 58, 59, 60, 61, 62, 63, 64, 65, 66, 67, 68, 69, 70, 71, 72, 73, 74, 75, 76, 77, 78, 79] (by decide +kernel) (by decide +kernel)) (goodIn_sub (fun _ h => List.mem_cons_of_mem _ (List.mem_append_left _ (List.mem_append_right _ h))) (by decide +kernel))) (goodIn_sub (fun _ h => List.mem_cons_of_mem _ (List.mem_append_right _ h)) (by decide +kernel))
set_option maxRecDepth 20000 in
theorem gL_moor_X4_moor : GoodIn wsL_moor (wsV RL 34 RX4 yX4_moor wsX4_moor) := goodIn_app (goodIn_of _ (by decide +kernel)) ggL_moor_X4_moor
theorem dL_moor_0 : decode cL_moor 0 = .ok (.aload_n 3, 1) := by decide +kernel
theorem dL_moor_1 : decode cL_moor 1 = .ok (.iconst 0, 1) := by decide +kernel
theorem dL_moor_2 : decode cL_moor 2 = .ok (.aload_n 0, 1) := by decide +kernel
theorem dL_moor_3 : decode cL_moor 3 = .ok (.iload_n 1, 1) := by decide +kernel
theorem dL_moor_4 : decode cL_moor 4 = .ok (.iload_n 2, 1) := by decide +kernel
theorem dL_moor_5 : decode cL_moor 5 = .ok (.invokevirtual 34, 3) := by decide +kernel
theorem dL_moor_8 : decode cL_moor 8 = .ok (.i2l, 1) := by decide +kernel
theorem dL_moor_9 : decode cL_moor 9 = .ok (.lastore, 1) := by decide +kernel
theorem dL_moor_10 : decode cL_moor 10 = .ok (.goto 11, 3) := by decide +kernel
theorem dL_moor_13 : decode cL_moor 13 = .ok (.astore 4, 2) := by decide +kernel
theorem dL_moor_15 : decode cL_moor 15 = .ok (.iconst 1, 1) := by decide +kernel
theorem dL_moor_16 : decode cL_moor 16 = .ok (.ireturn, 1) := by decide +kernel
theorem dL_moor_17 : decode cL_moor 17 = .ok (.astore 4, 2) := by decide +kernel
theorem dL_moor_19 : decode cL_moor 19 = .ok (.iconst 2, 1) := by decide +kernel
theorem dL_moor_20 : decode cL_moor 20 = .ok (.ireturn, 1) := by decide +kernel
theorem dL_moor_21 : decode cL_moor 21 = .ok (.iconst 0, 1) := by decide +kernel
theorem dL_moor_22 : decode cL_moor 22 = .ok (.ireturn, 1) := by decide +kernel
set_option maxRecDepth 20000 in
theorem ggL_castOff_X4_castOff : GoodIn wsL_castOff wsX4_castOff := goodIn_ca (goodIn_ca (goodIn_r _ [7, 8, 9, 10, 11, 12, 13, 6, 14, 15, 16, 17, 18, 19, 20, 21, 22, 23, 24, 25, 26, 27, 28, 29, 30, 31, 32, 33, 34, 35, 36, 37, 38, 39, 40, 41, 42, 43, 44, 45, 46, 47, 48, 49, 50, 51, 52, 53, 54, 55, 56, 57, 58, 59, 60, 61, 62, 63, 64, 65, 66, 67, 68, 69, 70, 71, 72, 73, 74, 75, 76, 77, 78, 79, 80, 81, 82, 83, 84, 85, 86, 87, 88, 89, 90, 91, 92] (by decide +kernel) (by decide +kernel)) (goodIn_sub (fun _ h => List.mem_cons_of_mem _ (List.mem_append_left _ (List.mem_append_right _ h))) (by decide +kernel))) (goodIn_sub (fun _ h => List.mem_cons_of_mem _ (List.mem_append_right _ h)) (by decide +kernel))
set_option maxRecDepth 20000 in
theorem gL_castOff_X4_castOff : GoodIn wsL_castOff (wsV RL 37 RX4 yX4_castOff wsX4_castOff) := goodIn_app (goodIn_of _ (by decide +kernel)) ggL_castOff_X4_castOff
theorem dL_castOff_0 : decode cL_castOff 0 = .ok (.aload_n 2, 1) := by decide +kernel
theorem dL_castOff_1 : decode cL_castOff 1 = .ok (.iconst 0, 1) := by decide +kernel
theorem dL_castOff_2 : decode cL_castOff 2 = .ok (.aload_n 0, 1) := by decide +kernel
theorem dL_castOff_3 : decode cL_castOff 3 = .ok (.iload_n 1, 1) := by decide +kernel
theorem dL_castOff_4 : decode cL_castOff 4 = .ok (.invokevirtual 37, 3) := by decide +kernel
theorem dL_castOff_7 : decode cL_castOff 7 = .ok (.i2l, 1) := by decide +kernel
theorem dL_castOff_8 : decode cL_castOff 8 = .ok (.lastore, 1) := by decide +kernel
theorem dL_castOff_9 : decode cL_castOff 9 = .ok (.goto 9, 3) := by decide +kernel
theorem dL_castOff_12 : decode cL_castOff 12 = .ok (.astore_n 3, 1) := by decide +kernel
theorem dL_castOff_13 : decode cL_castOff 13 = .ok (.iconst 1, 1) := by decide +kernel
theorem dL_castOff_14 : decode cL_castOff 14 = .ok (.ireturn, 1) := by decide +kernel
theorem dL_castOff_15 : decode cL_castOff 15 = .ok (.astore_n 3, 1) := by decide +kernel
theorem dL_castOff_16 : decode cL_castOff 16 = .ok (.iconst 2, 1) := by decide +kernel
theorem dL_castOff_17 : decode cL_castOff 17 = .ok (.ireturn, 1) := by decide +kernel
theorem dL_castOff_18 : decode cL_castOff 18 = .ok (.iconst 0, 1) := by decide +kernel
theorem dL_castOff_19 : decode cL_castOff 19 = .ok (.ireturn, 1) := by decide +kernel
set_option maxRecDepth 20000 in
theorem ggL_leaveIn_X4_leaveIn : GoodIn wsL_leaveIn wsX4_leaveIn := goodIn_ca (goodIn_ca (goodIn_ca (goodIn_r _ [8, 9, 10, 11, 12, 13, 14, 15, 16, 17, 7, 18, 19, 20, 21, 22, 23, 24, 25, 26, 27, 28, 29, 30, 31, 32, 33, 34, 35, 36, 37, 38, 39, 40, 41, 42, 43, 44, 45, 46, 47, 48, 49, 50, 51, 52, 53, 54, 55, 56, 57, 58, 59] (by decide +kernel) (by decide +kernel)) (goodIn_sub (fun _ h => List.mem_cons_of_mem _ (List.mem_append_left _ (List.mem_append_left _ (List.mem_append_right _ h)))) (by decide +kernel))) (goodIn_sub (fun _ h => List.mem_cons_of_mem _ (List.mem_append_left _ (List.mem_append_right _ h))) (by decide +kernel))) (goodIn_sub (fun _ h => List.mem_cons_of_mem _ (List.mem_append_right _ h)) (by decide +kernel))
set_option maxRecDepth 20000 in
theorem gL_leaveIn_X4_leaveIn : GoodIn wsL_leaveIn (wsV RL 40 RX4 yX4_leaveIn wsX4_leaveIn) := goodIn_app (goodIn_of _ (by decide +kernel)) ggL_leaveIn_X4_leaveIn
theorem dL_leaveIn_0 : decode cL_leaveIn 0 = .ok (.aload_n 3, 1) := by decide +kernel
theorem dL_leaveIn_1 : decode cL_leaveIn 1 = .ok (.iconst 0, 1) := by decide +kernel
theorem dL_leaveIn_2 : decode cL_leaveIn 2 = .ok (.aload_n 0, 1) := by decide +kernel
theorem dL_leaveIn_3 : decode cL_leaveIn 3 = .ok (.iload_n 1, 1) := by decide +kernel
theorem dL_leaveIn_4 : decode cL_leaveIn 4 = .ok (.iload_n 2, 1) := by decide +kernel
theorem dL_leaveIn_5 : decode cL_leaveIn 5 = .ok (.invokevirtual 40, 3) := by decide +kernel
theorem dL_leaveIn_8 : decode cL_leaveIn 8 = .ok (.i2l, 1) := by decide +kernel
theorem dL_leaveIn_9 : decode cL_leaveIn 9 = .ok (.lastore, 1) := by decide +kernel
theorem dL_leaveIn_10 : decode cL_leaveIn 10 = .ok (.goto 15, 3) := by decide +kernel
theorem dL_leaveIn_13 : decode cL_leaveIn 13 = .ok (.astore 4, 2) := by decide +kernel
theorem dL_leaveIn_15 : decode cL_leaveIn 15 = .ok (.iconst 1, 1) := by decide +kernel
theorem dL_leaveIn_16 : decode cL_leaveIn 16 = .ok (.ireturn, 1) := by decide +kernel
theorem dL_leaveIn_17 : decode cL_leaveIn 17 = .ok (.astore 4, 2) := by decide +kernel
theorem dL_leaveIn_19 : decode cL_leaveIn 19 = .ok (.iconst 2, 1) := by decide +kernel
theorem dL_leaveIn_20 : decode cL_leaveIn 20 = .ok (.ireturn, 1) := by decide +kernel
theorem dL_leaveIn_21 : decode cL_leaveIn 21 = .ok (.astore 4, 2) := by decide +kernel
theorem dL_leaveIn_23 : decode cL_leaveIn 23 = .ok (.iconst 3, 1) := by decide +kernel
theorem dL_leaveIn_24 : decode cL_leaveIn 24 = .ok (.ireturn, 1) := by decide +kernel
theorem dL_leaveIn_25 : decode cL_leaveIn 25 = .ok (.iconst 0, 1) := by decide +kernel
theorem dL_leaveIn_26 : decode cL_leaveIn 26 = .ok (.ireturn, 1) := by decide +kernel
set_option maxRecDepth 20000 in
theorem ggL_canoe_X4_canoe : GoodIn wsL_canoe wsX4_canoe := goodIn_ca (goodIn_r _ [6, 7, 8, 9, 10, 11, 5, 12, 13, 14, 15, 16, 17, 18, 19, 20, 21, 22, 23, 24, 25, 26, 27, 28, 29, 30, 31, 32, 33, 34, 35, 36, 37, 38, 39, 40, 41, 42, 43, 44, 45, 46, 47, 48, 49, 50, 51, 52, 53, 54, 55, 56, 57, 58, 59, 60, 61, 62, 63, 64, 65, 66, 67, 68, 69, 70, 71, 72] (by decide +kernel) (by decide +kernel)) (goodIn_sub (fun _ h => List.mem_cons_of_mem _ (List.mem_append_right _ h)) (by decide +kernel))
set_option maxRecDepth 20000 in
theorem gL_canoe_X4_canoe : GoodIn wsL_canoe (wsV RL 43 RX4 yX4_canoe wsX4_canoe) := goodIn_app (goodIn_of _ (by decide +kernel)) ggL_canoe_X4_canoe
theorem dL_canoe_0 : decode cL_canoe 0 = .ok (.aload_n 3, 1) := by decide +kernel
theorem dL_canoe_1 : decode cL_canoe 1 = .ok (.iconst 0, 1) := by decide +kernel
theorem dL_canoe_2 : decode cL_canoe 2 = .ok (.aload_n 0, 1) := by decide +kernel
theorem dL_canoe_3 : decode cL_canoe 3 = .ok (.iload_n 1, 1) := by decide +kernel
theorem dL_canoe_4 : decode cL_canoe 4 = .ok (.iload_n 2, 1) := by decide +kernel
theorem dL_canoe_5 : decode cL_canoe 5 = .ok (.invokevirtual 43, 3) := by decide +kernel
theorem dL_canoe_8 : decode cL_canoe 8 = .ok (.i2l, 1) := by decide +kernel
theorem dL_canoe_9 : decode cL_canoe 9 = .ok (.lastore, 1) := by decide +kernel
theorem dL_canoe_10 : decode cL_canoe 10 = .ok (.goto 7, 3) := by decide +kernel
theorem dL_canoe_13 : decode cL_canoe 13 = .ok (.astore 4, 2) := by decide +kernel
theorem dL_canoe_15 : decode cL_canoe 15 = .ok (.iconst 1, 1) := by decide +kernel
theorem dL_canoe_16 : decode cL_canoe 16 = .ok (.ireturn, 1) := by decide +kernel
theorem dL_canoe_17 : decode cL_canoe 17 = .ok (.iconst 0, 1) := by decide +kernel
theorem dL_canoe_18 : decode cL_canoe 18 = .ok (.ireturn, 1) := by decide +kernel
set_option maxRecDepth 20000 in
theorem ggL_good_X4_good : GoodIn wsL_good wsX4_good := goodIn_ca (goodIn_r _ [6, 7, 8, 9, 10, 11, 5, 12, 13, 14, 15, 16, 17, 18, 19, 20, 21, 22, 23, 24, 25, 26, 27, 28, 29, 30, 31, 32, 33, 34, 35, 36, 37, 38, 39, 40, 41, 42, 43, 44, 45, 46, 47, 48, 49, 50, 51, 52] (by decide +kernel) (by decide +kernel)) (goodIn_sub (fun _ h => List.mem_cons_of_mem _ (List.mem_append_right _ h)) (by decide +kernel))
set_option maxRecDepth 20000 in
theorem gL_good_X4_good : GoodIn wsL_good (wsV RL 46 RX4 yX4_good wsX4_good) := goodIn_app (goodIn_of _ (by decide +kernel)) ggL_good_X4_good
theorem dL_good_0 : decode cL_good 0 = .ok (.aload 4, 2) := by decide +kernel
theorem dL_good_2 : decode cL_good 2 = .ok (.iconst 0, 1) := by decide +kernel
theorem dL_good_3 : decode cL_good 3 = .ok (.aload_n 0, 1) := by decide +kernel
theorem dL_good_4 : decode cL_good 4 = .ok (.iload_n 1, 1) := by decide +kernel
theorem dL_good_5 : decode cL_good 5 = .ok (.iload_n 2, 1) := by decide +kernel
theorem dL_good_6 : decode cL_good 6 = .ok (.iload_n 3, 1) := by decide +kernel
theorem dL_good_7 : decode cL_good 7 = .ok (.invokevirtual 46, 3) := by decide +kernel
theorem dL_good_10 : decode cL_good 10 = .ok (.i2l, 1) := by decide +kernel
theorem dL_good_11 : decode cL_good 11 = .ok (.lastore, 1) := by decide +kernel
theorem dL_good_12 : decode cL_good 12 = .ok (.goto 7, 3) := by decide +kernel
theorem dL_good_15 : decode cL_good 15 = .ok (.astore 5, 2) := by decide +kernel
theorem dL_good_17 : decode cL_good 17 = .ok (.iconst 1, 1) := by decide +kernel
theorem dL_good_18 : decode cL_good 18 = .ok (.ireturn, 1) := by decide +kernel
theorem dL_good_19 : decode cL_good 19 = .ok (.iconst 0, 1) := by decide +kernel
theorem dL_good_20 : decode cL_good 20 = .ok (.ireturn, 1) := by decide +kernel
set_option maxRecDepth 20000 in
theorem ggL_at_X4_at : GoodIn wsL_at wsX4_at := goodIn_ca (goodIn_r _ [6, 7, 8, 9, 10, 11, 12, 5, 13, 14, 15, 16, 17, 18, 19, 20, 21, 22, 23, 24, 25, 26, 27, 28, 29, 30, 31, 32, 33, 34, 35, 36, 37, 38] (by decide +kernel) (by decide +kernel)) (goodIn_sub (fun _ h => List.mem_cons_of_mem _ (List.mem_append_right _ h)) (by decide +kernel))
set_option maxRecDepth 20000 in
theorem gL_at_X4_at : GoodIn wsL_at (wsV RL 49 RX4 yX4_at wsX4_at) := goodIn_app (goodIn_of _ (by decide +kernel)) ggL_at_X4_at
theorem dL_at_0 : decode cL_at 0 = .ok (.aload_n 3, 1) := by decide +kernel
theorem dL_at_1 : decode cL_at 1 = .ok (.iconst 0, 1) := by decide +kernel
theorem dL_at_2 : decode cL_at 2 = .ok (.aload_n 0, 1) := by decide +kernel
theorem dL_at_3 : decode cL_at 3 = .ok (.iload_n 1, 1) := by decide +kernel
theorem dL_at_4 : decode cL_at 4 = .ok (.iload_n 2, 1) := by decide +kernel
theorem dL_at_5 : decode cL_at 5 = .ok (.invokevirtual 49, 3) := by decide +kernel
theorem dL_at_8 : decode cL_at 8 = .ok (.i2l, 1) := by decide +kernel
theorem dL_at_9 : decode cL_at 9 = .ok (.lastore, 1) := by decide +kernel
theorem dL_at_10 : decode cL_at 10 = .ok (.goto 7, 3) := by decide +kernel
theorem dL_at_13 : decode cL_at 13 = .ok (.astore 4, 2) := by decide +kernel
theorem dL_at_15 : decode cL_at 15 = .ok (.iconst 1, 1) := by decide +kernel
theorem dL_at_16 : decode cL_at 16 = .ok (.ireturn, 1) := by decide +kernel
theorem dL_at_17 : decode cL_at 17 = .ok (.iconst 0, 1) := by decide +kernel
theorem dL_at_18 : decode cL_at 18 = .ok (.ireturn, 1) := by decide +kernel
set_option maxRecDepth 20000 in
theorem ggL_beside_X4_beside : GoodIn wsL_beside wsX4_beside := goodIn_ca (goodIn_r _ [6, 7, 8, 9, 10, 11, 5, 12, 13, 14, 15, 16, 17, 18, 19, 20, 21, 22, 23, 24, 25, 26, 27, 28, 29, 30, 31, 32, 33, 34, 35, 36, 37, 38, 39, 40, 41, 42, 43, 44, 45, 46, 47, 48, 49, 50, 51, 52, 53, 54, 55] (by decide +kernel) (by decide +kernel)) (goodIn_sub (fun _ h => List.mem_cons_of_mem _ (List.mem_append_right _ h)) (by decide +kernel))
set_option maxRecDepth 20000 in
theorem gL_beside_X4_beside : GoodIn wsL_beside (wsV RL 52 RX4 yX4_beside wsX4_beside) := goodIn_app (goodIn_of _ (by decide +kernel)) ggL_beside_X4_beside
theorem dL_beside_0 : decode cL_beside 0 = .ok (.aload_n 3, 1) := by decide +kernel
theorem dL_beside_1 : decode cL_beside 1 = .ok (.iconst 0, 1) := by decide +kernel
theorem dL_beside_2 : decode cL_beside 2 = .ok (.aload_n 0, 1) := by decide +kernel
theorem dL_beside_3 : decode cL_beside 3 = .ok (.iload_n 1, 1) := by decide +kernel
theorem dL_beside_4 : decode cL_beside 4 = .ok (.iload_n 2, 1) := by decide +kernel
theorem dL_beside_5 : decode cL_beside 5 = .ok (.invokevirtual 52, 3) := by decide +kernel
theorem dL_beside_8 : decode cL_beside 8 = .ok (.ifCond .eq 7, 3) := by decide +kernel
theorem dL_beside_11 : decode cL_beside 11 = .ok (.lconst 1, 1) := by decide +kernel
theorem dL_beside_12 : decode cL_beside 12 = .ok (.goto 4, 3) := by decide +kernel
theorem dL_beside_15 : decode cL_beside 15 = .ok (.lconst 0, 1) := by decide +kernel
theorem dL_beside_16 : decode cL_beside 16 = .ok (.lastore, 1) := by decide +kernel
theorem dL_beside_17 : decode cL_beside 17 = .ok (.goto 7, 3) := by decide +kernel
theorem dL_beside_20 : decode cL_beside 20 = .ok (.astore 4, 2) := by decide +kernel
theorem dL_beside_22 : decode cL_beside 22 = .ok (.iconst 1, 1) := by decide +kernel
theorem dL_beside_23 : decode cL_beside 23 = .ok (.ireturn, 1) := by decide +kernel
theorem dL_beside_24 : decode cL_beside 24 = .ok (.iconst 0, 1) := by decide +kernel
theorem dL_beside_25 : decode cL_beside 25 = .ok (.ireturn, 1) := by decide +kernel
set_option maxRecDepth 20000 in
theorem ggL_pass_X4_pass : GoodIn wsL_pass wsX4_pass := goodIn_ca (goodIn_r _ [6, 7, 8, 9, 10, 5, 11, 12, 13, 14, 15, 16, 17, 18, 19, 20, 21, 22, 23, 24, 25, 26, 27, 28, 29, 30, 31, 32, 33, 34, 35, 36, 37, 38, 39, 40, 41, 42, 43, 44, 45, 46, 47, 48, 49, 50, 51, 52, 53, 54, 55, 56, 57, 58, 59, 60, 61, 62, 63, 64, 65, 66, 67, 68, 69, 70, 71, 72, 73, 74, 75, 76, 77, 78, 79, 80, 81, 82, 83, 84, 85, 86, 87, 88, 89, 90, 91, 92, 93, 94, 95, 96, 97, 98, 99, 100, 101, 102, 103, 104, 105, 106, 107, 108, 109, 110, 111, 112, 113, 114, 115, 116, 117, 118, 119, 120, 121, 122, 123, 124, 125, 126, 127, 128, 129, 130, 131, 132, 133, 134, 135, 136, 137, 138, 139, 140, 141, 142, 143, 144, 145, 146, 147, 148, 149, 150, 151, 152, 153, 154, 155, 156, 157, 158, 159, 160, 161, 162, 163, 164, 165, 166, 167, 168, 169, 170, 171, 172, 173, 174, 175, 176, 177, 178, 179, 180, 181, 182, 183, 184, 185] (by decide +kernel) (by decide +kernel)) (goodIn_sub (fun _ h => List.mem_cons_of_mem _ (List.mem_append_right _ h)) (by decide +kernel))
set_option maxRecDepth 20000 in
theorem gL_pass_X4_pass : GoodIn wsL_pass (wsV RL 56 RX4 yX4_pass wsX4_pass) := goodIn_app (goodIn_of _ (by decide +kernel)) ggL_pass_X4_pass
theorem dL_pass_0 : decode cL_pass 0 = .ok (.aload_n 2, 1) := by decide +kernel
theorem dL_pass_1 : decode cL_pass 1 = .ok (.iconst 0, 1) := by decide +kernel
theorem dL_pass_2 : decode cL_pass 2 = .ok (.aload_n 0, 1) := by decide +kernel
theorem dL_pass_3 : decode cL_pass 3 = .ok (.iload_n 1, 1) := by decide +kernel
theorem dL_pass_4 : decode cL_pass 4 = .ok (.invokevirtual 56, 3) := by decide +kernel
theorem dL_pass_7 : decode cL_pass 7 = .ok (.i2l, 1) := by decide +kernel
theorem dL_pass_8 : decode cL_pass 8 = .ok (.lastore, 1) := by decide +kernel
theorem dL_pass_9 : decode cL_pass 9 = .ok (.goto 6, 3) := by decide +kernel
theorem dL_pass_12 : decode cL_pass 12 = .ok (.astore_n 3, 1) := by decide +kernel
theorem dL_pass_13 : decode cL_pass 13 = .ok (.iconst 1, 1) := by decide +kernel
theorem dL_pass_14 : decode cL_pass 14 = .ok (.ireturn, 1) := by decide +kernel
theorem dL_pass_15 : decode cL_pass 15 = .ok (.iconst 0, 1) := by decide +kernel
theorem dL_pass_16 : decode cL_pass 16 = .ok (.ireturn, 1) := by decide +kernel
set_option maxRecDepth 20000 in
theorem ggL_count_X4_count : GoodIn wsL_count wsX4_count := goodIn_ca (goodIn_r _ [6, 7, 8, 9, 5, 10, 11, 12, 13, 14, 15, 16, 17, 18, 19, 20, 21, 22, 23, 24, 25, 26, 27, 28, 29, 30, 31, 32, 33, 34, 35, 36, 37, 38, 39, 40, 41, 42, 43, 44, 45, 46, 47, 48, 49, 50, 51, 52, 53, 54, 55, 56, 57, 58, 59, 60, 61, 62, 63, 64, 65, 66, 67, 68, 69, 70, 71, 72, 73, 74, 75, 76, 77, 78, 79, 80, 81, 82, 83, 84, 85, 86, 87, 88, 89, 90, 91, 92, 93, 94, 95, 96] (by decide +kernel) (by decide +kernel)) (goodIn_sub (fun _ h => List.mem_cons_of_mem _ (List.mem_append_right _ h)) (by decide +kernel))
set_option maxRecDepth 20000 in
theorem gL_count_X4_count : GoodIn wsL_count (wsV RL 59 RX4 yX4_count wsX4_count) := goodIn_app (goodIn_of _ (by decide +kernel)) ggL_count_X4_count
theorem dL_count_0 : decode cL_count 0 = .ok (.aload_n 2, 1) := by decide +kernel
theorem dL_count_1 : decode cL_count 1 = .ok (.iconst 0, 1) := by decide +kernel
theorem dL_count_2 : decode cL_count 2 = .ok (.aload_n 0, 1) := by decide +kernel
theorem dL_count_3 : decode cL_count 3 = .ok (.iload_n 1, 1) := by decide +kernel
theorem dL_count_4 : decode cL_count 4 = .ok (.invokevirtual 59, 3) := by decide +kernel
theorem dL_count_7 : decode cL_count 7 = .ok (.i2l, 1) := by decide +kernel
theorem dL_count_8 : decode cL_count 8 = .ok (.lastore, 1) := by decide +kernel
theorem dL_count_9 : decode cL_count 9 = .ok (.goto 6, 3) := by decide +kernel
theorem dL_count_12 : decode cL_count 12 = .ok (.astore_n 3, 1) := by decide +kernel
theorem dL_count_13 : decode cL_count 13 = .ok (.iconst 1, 1) := by decide +kernel
theorem dL_count_14 : decode cL_count 14 = .ok (.ireturn, 1) := by decide +kernel
theorem dL_count_15 : decode cL_count 15 = .ok (.iconst 0, 1) := by decide +kernel
theorem dL_count_16 : decode cL_count 16 = .ok (.ireturn, 1) := by decide +kernel
set_option maxRecDepth 20000 in
theorem ggL_foresee_X4_foresee : GoodIn wsL_foresee wsX4_foresee := goodIn_ca (goodIn_ca (goodIn_r _ [7, 8, 9, 10, 11, 12, 13, 14, 15, 6, 16, 17, 18, 19, 20, 21, 22, 23, 24, 25, 26, 27, 28, 29, 30, 31, 32, 33, 34, 35, 36, 37, 38, 39, 40, 41, 42, 43, 44, 45, 46, 47, 48, 49, 50, 51, 52, 53, 54, 55, 56, 57, 58, 59, 60, 61, 62, 63, 64, 65, 66, 67, 68, 69, 70, 71, 72, 73, 74, 75, 76, 77, 78, 79, 80, 81, 82, 83, 84, 85, 86, 87, 88, 89, 90, 91, 92, 93, 94, 95, 96, 97, 98, 99, 100, 101, 102, 103, 104, 105, 106, 107, 108, 109, 110, 111, 112, 113, 114, 115, 116, 117, 118, 119, 120, 121, 122, 123, 124, 125, 126, 127, 128, 129, 130, 131, 132, 133, 134, 135, 136, 137, 138, 139, 140, 141, 142, 143, 144, 145, 146, 147, 148, 149, 150, 151, 152, 153, 154, 155, 156, 157, 158, 159, 160, 161, 162, 163, 164, 165, 166, 167, 168, 169, 170, 171, 172, 173, 174, 175, 176, 177, 178, 179, 180, 181, 182, 183, 184, 185, 186, 187, 188, 189, 190, 191, 192, 193, 194, 195, 196, 197, 198, 199, 200, 201, 202, 203, 204, 205, 206, 207, 208, 209, 210, 211, 212, 213, 214, 215, 216, 217, 218, 219, 220, 221, 222, 223, 224, 225, 226, 227, 228] (by decide +kernel) (by decide +kernel)) (goodIn_sub (fun _ h => List.mem_cons_of_mem _ (List.mem_append_left _ (List.mem_append_right _ h))) (by decide +kernel))) (goodIn_sub (fun _ h => List.mem_cons_of_mem _ (List.mem_append_right _ h)) (by decide +kernel))
set_option maxRecDepth 20000 in
theorem gL_foresee_X4_foresee : GoodIn wsL_foresee (wsV RL 62 RX4 yX4_foresee wsX4_foresee) := goodIn_app (goodIn_of _ (by decide +kernel)) ggL_foresee_X4_foresee
theorem dL_foresee_0 : decode cL_foresee 0 = .ok (.aload 4, 2) := by decide +kernel
theorem dL_foresee_2 : decode cL_foresee 2 = .ok (.iconst 0, 1) := by decide +kernel
theorem dL_foresee_3 : decode cL_foresee 3 = .ok (.aload_n 0, 1) := by decide +kernel
theorem dL_foresee_4 : decode cL_foresee 4 = .ok (.iload_n 1, 1) := by decide +kernel
theorem dL_foresee_5 : decode cL_foresee 5 = .ok (.iload_n 2, 1) := by decide +kernel
theorem dL_foresee_6 : decode cL_foresee 6 = .ok (.iload_n 3, 1) := by decide +kernel
theorem dL_foresee_7 : decode cL_foresee 7 = .ok (.invokevirtual 62, 3) := by decide +kernel
theorem dL_foresee_10 : decode cL_foresee 10 = .ok (.i2l, 1) := by decide +kernel
theorem dL_foresee_11 : decode cL_foresee 11 = .ok (.lastore, 1) := by decide +kernel
theorem dL_foresee_12 : decode cL_foresee 12 = .ok (.goto 11, 3) := by decide +kernel
theorem dL_foresee_15 : decode cL_foresee 15 = .ok (.astore 5, 2) := by decide +kernel
theorem dL_foresee_17 : decode cL_foresee 17 = .ok (.iconst 1, 1) := by decide +kernel
theorem dL_foresee_18 : decode cL_foresee 18 = .ok (.ireturn, 1) := by decide +kernel
theorem dL_foresee_19 : decode cL_foresee 19 = .ok (.astore 5, 2) := by decide +kernel
theorem dL_foresee_21 : decode cL_foresee 21 = .ok (.iconst 2, 1) := by decide +kernel
theorem dL_foresee_22 : decode cL_foresee 22 = .ok (.ireturn, 1) := by decide +kernel
theorem dL_foresee_23 : decode cL_foresee 23 = .ok (.iconst 0, 1) := by decide +kernel
theorem dL_foresee_24 : decode cL_foresee 24 = .ok (.ireturn, 1) := by decide +kernel
set_option maxRecDepth 20000 in
theorem ggL_full_X4_full : GoodIn wsL_full wsX4_full := goodIn_ca (goodIn_r _ [6, 7, 8, 9, 10, 5, 11, 12, 13, 14, 15, 16, 17, 18, 19, 20, 21, 22, 23, 24, 25, 26, 27, 28, 29, 30, 31, 32, 33, 34, 35, 36, 37, 38, 39, 40, 41, 42, 43, 44, 45, 46, 47, 48, 49, 50, 51, 52, 53, 54, 55, 56, 57, 58, 59, 60, 61, 62, 63, 64, 65, 66, 67, 68, 69, 70, 71, 72, 73, 74, 75, 76, 77, 78, 79, 80, 81, 82, 83, 84, 85, 86, 87, 88, 89, 90, 91, 92, 93, 94, 95, 96, 97, 98, 99, 100, 101, 102, 103, 104, 105, 106, 107, 108, 109, 110, 111, 112, 113, 114, 115, 116, 117, 118, 119, 120, 121, 122, 123, 124, 125, 126, 127, 128, 129, 130, 131, 132, 133, 134, 135, 136, 137, 138, 139, 140, 141, 142, 143, 144, 145, 146, 147, 148, 149, 150, 151, 152, 153, 154, 155, 156, 157, 158, 159, 160, 161, 162, 163, 164, 165, 166, 167, 168, 169, 170, 171, 172, 173, 174, 175, 176, 177, 178, 179, 180, 181, 182, 183, 184, 185, 186, 187, 188, 189, 190, 191, 192, 193, 194, 195, 196, 197, 198, 199, 200, 201, 202, 203, 204, 205, 206, 207, 208, 209, 210, 211, 212, 213, 214, 215, 216, 217, 218, 219, 220, 221, 222, 223, 224, 225, 226, 227, 228] (by decide +kernel) (by decide +kernel)) (goodIn_sub (fun _ h => List.mem_cons_of_mem _ (List.mem_append_right _ h)) (by decide +kernel))
set_option maxRecDepth 20000 in
theorem gL_full_X4_full : GoodIn wsL_full (wsV RL 65 RX4 yX4_full wsX4_full) := goodIn_app (goodIn_of _ (by decide +kernel)) ggL_full_X4_full
theorem dL_full_0 : decode cL_full 0 = .ok (.aload_n 2, 1) := by decide +kernel
theorem dL_full_1 : decode cL_full 1 = .ok (.iconst 0, 1) := by decide +kernel
theorem dL_full_2 : decode cL_full 2 = .ok (.aload_n 0, 1) := by decide +kernel
theorem dL_full_3 : decode cL_full 3 = .ok (.iload_n 1, 1) := by decide +kernel
theorem dL_full_4 : decode cL_full 4 = .ok (.invokevirtual 65, 3) := by decide +kernel
theorem dL_full_7 : decode cL_full 7 = .ok (.i2l, 1) := by decide +kernel
theorem dL_full_8 : decode cL_full 8 = .ok (.lastore, 1) := by decide +kernel
theorem dL_full_9 : decode cL_full 9 = .ok (.goto 6, 3) := by decide +kernel
theorem dL_full_12 : decode cL_full 12 = .ok (.astore_n 3, 1) := by decide +kernel
theorem dL_full_13 : decode cL_full 13 = .ok (.iconst 1, 1) := by decide +kernel
theorem dL_full_14 : decode cL_full 14 = .ok (.ireturn, 1) := by decide +kernel
theorem dL_full_15 : decode cL_full 15 = .ok (.iconst 0, 1) := by decide +kernel
theorem dL_full_16 : decode cL_full 16 = .ok (.ireturn, 1) := by decide +kernel
set_option maxRecDepth 20000 in
theorem ggL_gone_X4_gone : GoodIn wsL_gone wsX4_gone := goodIn_ca (goodIn_r _ [6, 7, 8, 9, 10, 5, 11, 12, 13, 14, 15, 16, 17, 18, 19, 20, 21, 22, 23, 24, 25, 26, 27, 28, 29, 30, 31, 32, 33, 34, 35, 36, 37, 38, 39, 40, 41, 42, 43, 44, 45, 46, 47, 48, 49, 50, 51, 52, 53, 54, 55, 56, 57, 58, 59, 60, 61, 62, 63, 64, 65, 66, 67, 68, 69, 70, 71, 72, 73, 74, 75, 76, 77, 78, 79, 80, 81, 82, 83, 84, 85, 86, 87, 88, 89, 90, 91, 92, 93, 94, 95, 96, 97, 98, 99, 100, 101, 102, 103, 104, 105, 106, 107, 108, 109, 110, 111, 112, 113, 114, 115, 116, 117, 118, 119, 120, 121, 122, 123, 124, 125, 126, 127, 128, 129, 130, 131, 132, 133, 134, 135, 136, 137, 138, 139, 140, 141, 142, 143, 144, 145, 146, 147, 148, 149, 150, 151, 152, 153, 154, 155, 156, 157, 158, 159, 160, 161, 162, 163, 164, 165, 166, 167, 168, 169, 170, 171, 172, 173, 174, 175, 176, 177, 178, 179, 180, 181, 182, 183, 184, 185, 186, 187, 188, 189, 190, 191, 192, 193, 194, 195, 196, 197, 198, 199, 200, 201, 202, 203, 204, 205, 206, 207, 208, 209, 210, 211, 212, 213, 214, 215, 216, 217, 218, 219, 220, 221, 222, 223, 224, 225, 226, 227, 228] (by decide +kernel) (by decide +kernel)) (goodIn_sub (fun _ h => List.mem_cons_of_mem _ (List.mem_append_right _ h)) (by decide +kernel))
set_option maxRecDepth 20000 in
theorem gL_gone_X4_gone : GoodIn wsL_gone (wsV RL 68 RX4 yX4_gone wsX4_gone) := goodIn_app (goodIn_of _ (by decide +kernel)) ggL_gone_X4_gone
theorem dL_gone_0 : decode cL_gone 0 = .ok (.aload_n 2, 1) := by decide +kernel
theorem dL_gone_1 : decode cL_gone 1 = .ok (.iconst 0, 1) := by decide +kernel
theorem dL_gone_2 : decode cL_gone 2 = .ok (.aload_n 0, 1) := by decide +kernel
theorem dL_gone_3 : decode cL_gone 3 = .ok (.iload_n 1, 1) := by decide +kernel
theorem dL_gone_4 : decode cL_gone 4 = .ok (.invokevirtual 68, 3) := by decide +kernel
theorem dL_gone_7 : decode cL_gone 7 = .ok (.i2l, 1) := by decide +kernel
theorem dL_gone_8 : decode cL_gone 8 = .ok (.lastore, 1) := by decide +kernel
theorem dL_gone_9 : decode cL_gone 9 = .ok (.goto 6, 3) := by decide +kernel
theorem dL_gone_12 : decode cL_gone 12 = .ok (.astore_n 3, 1) := by decide +kernel
theorem dL_gone_13 : decode cL_gone 13 = .ok (.iconst 1, 1) := by decide +kernel
theorem dL_gone_14 : decode cL_gone 14 = .ok (.ireturn, 1) := by decide +kernel
theorem dL_gone_15 : decode cL_gone 15 = .ok (.iconst 0, 1) := by decide +kernel
theorem dL_gone_16 : decode cL_gone 16 = .ok (.ireturn, 1) := by decide +kernel
set_option maxRecDepth 20000 in
theorem ggL_advise_X4_advise : GoodIn wsL_advise wsX4_advise := goodIn_ca (goodIn_ca (goodIn_ca (goodIn_r _ [8, 9, 10, 11, 12, 13, 14, 15, 16, 7, 17, 18, 19, 20, 21, 22, 23, 24, 25, 26, 27, 28, 29, 30, 31, 32, 33, 34, 35, 36, 37, 38, 39, 40, 41, 42, 43, 44, 45, 46, 47, 48, 49, 50, 51, 52, 53, 54, 55, 56, 57, 58, 59, 60, 61, 62, 63, 64, 65, 66, 67, 68, 69, 70, 71, 72, 73, 74, 75, 76, 77, 78, 79, 80, 81, 82, 83, 84, 85, 86, 87, 88, 89, 90, 91, 92, 93, 94, 95, 96, 97, 98, 99, 100, 101, 102, 103, 104, 105, 106, 107, 108, 109, 110, 111, 112, 113, 114, 115, 116, 117, 118, 119, 120, 121, 122, 123, 124, 125, 126, 127, 128, 129, 130, 131, 132, 133, 134, 135, 136, 137, 138, 139, 140, 141, 142, 143, 144, 145, 146, 147, 148, 149, 150, 151, 152, 153, 154, 155, 156, 157, 158, 159, 160, 161, 162, 163, 164, 165, 166, 167, 168, 169, 170, 171, 172, 173, 174, 175, 176, 177, 178, 179, 180, 181, 182, 183, 184, 185, 186, 187, 188, 189, 190, 191, 192, 193, 194, 195, 196, 197, 198, 199, 200, 201, 202, 203, 204, 205, 206, 207, 208, 209, 210, 211, 212, 213, 214, 215, 216, 217, 218, 219, 220, 221, 222, 223, 224, 225, 226, 227, 228, 229, 230, 231, 232, 233, 234, 235, 236, 237] (by decide +kernel) (by decide +kernel)) (goodIn_sub (fun _ h => List.mem_cons_of_mem _ (List.mem_append_left _ (List.mem_append_left _ (List.mem_append_right _ h)))) (by decide +kernel))) (goodIn_sub (fun _ h => List.mem_cons_of_mem _ (List.mem_append_left _ (List.mem_append_right _ h))) (by decide +kernel))) (goodIn_sub (fun _ h => List.mem_cons_of_mem _ (List.mem_append_right _ h)) (by decide +kernel))
set_option maxRecDepth 20000 in
theorem gL_advise_X4_advise : GoodIn wsL_advise (wsV RL 71 RX4 yX4_advise wsX4_advise) := goodIn_app (goodIn_of _ (by decide +kernel)) ggL_advise_X4_advise
theorem dL_advise_0 : decode cL_advise 0 = .ok (.aload_n 3, 1) := by decide +kernel
theorem dL_advise_1 : decode cL_advise 1 = .ok (.iconst 0, 1) := by decide +kernel
theorem dL_advise_2 : decode cL_advise 2 = .ok (.aload_n 0, 1) := by decide +kernel
theorem dL_advise_3 : decode cL_advise 3 = .ok (.iload_n 1, 1) := by decide +kernel
theorem dL_advise_4 : decode cL_advise 4 = .ok (.iload_n 2, 1) := by decide +kernel
theorem dL_advise_5 : decode cL_advise 5 = .ok (.invokevirtual 71, 3) := by decide +kernel
theorem dL_advise_8 : decode cL_advise 8 = .ok (.i2l, 1) := by decide +kernel
theorem dL_advise_9 : decode cL_advise 9 = .ok (.lastore, 1) := by decide +kernel
theorem dL_advise_10 : decode cL_advise 10 = .ok (.goto 15, 3) := by decide +kernel
theorem dL_advise_13 : decode cL_advise 13 = .ok (.astore 4, 2) := by decide +kernel
theorem dL_advise_15 : decode cL_advise 15 = .ok (.iconst 1, 1) := by decide +kernel
theorem dL_advise_16 : decode cL_advise 16 = .ok (.ireturn, 1) := by decide +kernel
theorem dL_advise_17 : decode cL_advise 17 = .ok (.astore 4, 2) := by decide +kernel
theorem dL_advise_19 : decode cL_advise 19 = .ok (.iconst 2, 1) := by decide +kernel
theorem dL_advise_20 : decode cL_advise 20 = .ok (.ireturn, 1) := by decide +kernel
theorem dL_advise_21 : decode cL_advise 21 = .ok (.astore 4, 2) := by decide +kernel
theorem dL_advise_23 : decode cL_advise 23 = .ok (.iconst 3, 1) := by decide +kernel
theorem dL_advise_24 : decode cL_advise 24 = .ok (.ireturn, 1) := by decide +kernel
theorem dL_advise_25 : decode cL_advise 25 = .ok (.iconst 0, 1) := by decide +kernel
theorem dL_advise_26 : decode cL_advise 26 = .ok (.ireturn, 1) := by decide +kernel
set_option maxRecDepth 20000 in
theorem ggL_price_X4_price : GoodIn wsL_price wsX4_price := goodIn_ca (goodIn_ca (goodIn_r _ [7, 8, 9, 10, 11, 6, 12, 13, 14, 15, 16, 17, 18, 19, 20, 21, 22, 23, 24, 25, 26, 27, 28, 29, 30, 31, 32, 33, 34, 35, 36, 37, 38, 39, 40, 41, 42, 43, 44, 45, 46, 47, 48, 49, 50, 51, 52, 53, 54, 55, 56, 57, 58, 59, 60, 61, 62, 63, 64, 65, 66, 67, 68, 69, 70, 71, 72, 73, 74, 75, 76, 77, 78, 79, 80, 81, 82, 83, 84, 85, 86, 87, 88, 89, 90, 91, 92, 93, 94, 95, 96, 97, 98, 99, 100, 101, 102, 103, 104, 105, 106, 107, 108, 109, 110, 111, 112, 113, 114, 115, 116, 117, 118, 119, 120, 121, 122, 123, 124, 125, 126, 127, 128, 129, 130, 131, 132, 133, 134, 135, 136, 137, 138, 139, 140, 141, 142, 143, 144, 145, 146, 147, 148, 149, 150, 151, 152, 153, 154, 155, 156, 157, 158, 159, 160, 161, 162, 163, 164, 165, 166, 167, 168, 169, 170, 171, 172, 173, 174, 175, 176, 177, 178, 179, 180, 181, 182, 183, 184, 185, 186, 187, 188, 189, 190, 191, 192, 193, 194, 195, 196, 197, 198, 199, 200, 201, 202, 203, 204, 205, 206, 207, 208, 209, 210, 211, 212, 213, 214, 215, 216, 217, 218, 219, 220, 221, 222, 223, 224, 225, 226, 227] (by decide +kernel) (by decide +kernel)) (goodIn_sub (fun _ h => List.mem_cons_of_mem _ (List.mem_append_left _ (List.mem_append_right _ h))) (by decide +kernel))) (goodIn_sub (fun _ h => List.mem_cons_of_mem _ (List.mem_append_right _ h)) (by decide +kernel))
set_option maxRecDepth 20000 in
theorem gL_price_X4_price : GoodIn wsL_price (wsV RL 74 RX4 yX4_price wsX4_price) := goodIn_app (goodIn_of _ (by decide +kernel)) ggL_price_X4_price
theorem dL_price_0 : decode cL_price 0 = .ok (.aload 4, 2) := by decide +kernel
theorem dL_price_2 : decode cL_price 2 = .ok (.iconst 0, 1) := by decide +kernel
theorem dL_price_3 : decode cL_price 3 = .ok (.aload_n 0, 1) := by decide +kernel
theorem dL_price_4 : decode cL_price 4 = .ok (.iload_n 1, 1) := by decide +kernel
theorem dL_price_5 : decode cL_price 5 = .ok (.iload_n 2, 1) := by decide +kernel
theorem dL_price_6 : decode cL_price 6 = .ok (.iload_n 3, 1) := by decide +kernel
theorem dL_price_7 : decode cL_price 7 = .ok (.invokevirtual 74, 3) := by decide +kernel
theorem dL_price_10 : decode cL_price 10 = .ok (.i2l, 1) := by decide +kernel
theorem dL_price_11 : decode cL_price 11 = .ok (.lastore, 1) := by decide +kernel
theorem dL_price_12 : decode cL_price 12 = .ok (.goto 11, 3) := by decide +kernel
theorem dL_price_15 : decode cL_price 15 = .ok (.astore 5, 2) := by decide +kernel
theorem dL_price_17 : decode cL_price 17 = .ok (.iconst 1, 1) := by decide +kernel
theorem dL_price_18 : decode cL_price 18 = .ok (.ireturn, 1) := by decide +kernel
theorem dL_price_19 : decode cL_price 19 = .ok (.astore 5, 2) := by decide +kernel
theorem dL_price_21 : decode cL_price 21 = .ok (.iconst 2, 1) := by decide +kernel
theorem dL_price_22 : decode cL_price 22 = .ok (.ireturn, 1) := by decide +kernel
theorem dL_price_23 : decode cL_price 23 = .ok (.iconst 0, 1) := by decide +kernel
theorem dL_price_24 : decode cL_price 24 = .ok (.ireturn, 1) := by decide +kernel
set_option maxRecDepth 20000 in
theorem ggL_law_X4_init : GoodIn wsL_law wsX4_init := goodIn_r _ [9, 10, 11, 12, 13, 14, 15, 16, 17, 18, 19, 20, 21, 22, 23, 24, 25, 26, 27, 28, 29, 30, 31, 32, 33, 34, 35, 36, 37, 38, 39, 40, 41, 42, 43, 44, 45, 46, 47, 48, 49, 50, 51, 52, 53, 54, 55, 56, 57, 58, 59, 60, 61, 62, 63, 64, 742, 743, 726, 727, 728, 744, 745, 746, 747, 748, 749, 750, 751, 752, 753, 754, 755, 756, 757, 758, 759, 760, 761, 762, 763, 764, 765, 766, 767, 768, 769, 770, 771, 772] (by decide +kernel) (by decide +kernel)
set_option maxRecDepth 20000 in
theorem gL_law_X4_init : GoodIn wsL_law (wsX4_init) := ggL_law_X4_init
set_option maxRecDepth 20000 in
theorem ggL_law_X6_init : GoodIn wsL_law wsX6_init := goodIn_r _ [67, 68, 11, 12, 26, 69, 70, 71, 72, 73, 74, 75, 76, 77, 78, 79, 80, 81, 82, 83, 84, 85, 86, 87, 88, 89, 90, 91, 92, 93, 94, 95, 96, 729, 730, 731, 732, 733, 734, 735, 736, 737, 738, 739, 740, 741, 773, 774, 775, 776, 777, 778, 779, 780, 781, 782, 783, 784, 785, 786] (by decide +kernel) (by decide +kernel)
set_option maxRecDepth 20000 in
theorem gL_law_X6_init : GoodIn wsL_law (wsX6_init) := ggL_law_X6_init
set_option maxRecDepth 20000 in
theorem ggL_law_L_addRow : GoodIn wsL_law wsL_addRow := goodIn_ca (goodIn_ca (goodIn_r _ [100, 101, 102, 103, 104, 105, 2, 106, 20, 107, 108, 109, 110, 111, 112, 113, 114, 115, 116, 117, 118, 119, 120, 19, 121, 122, 39, 123, 726, 727, 728, 744, 745, 746, 747, 748, 749, 750, 751, 752, 753, 754, 755, 756] (by decide +kernel) (by decide +kernel)) (goodIn_sub (fun _ h => List.mem_append_left _ (List.mem_append_left _ (List.mem_append_right _ h))) (by decide +kernel))) (goodIn_sub (fun _ h => List.mem_append_left _ (List.mem_append_right _ h)) (by decide +kernel))
set_option maxRecDepth 20000 in
theorem gL_law_L_addRow : GoodIn wsL_law (va_wsS RL 81 yL_addRow wsL_addRow) := goodIn_app (goodIn_of _ (by decide +kernel)) ggL_law_L_addRow
set_option maxRecDepth 20000 in
theorem ggL_law_X6_addRow : GoodIn wsL_law wsX6_addRow := goodIn_r _ [127, 128, 129, 69, 130, 131, 5, 132, 133, 134, 135, 136, 729, 730, 731, 732, 733, 734, 735, 736, 737, 738, 739, 740, 741] (by decide +kernel) (by decide +kernel)
set_option maxRecDepth 20000 in
theorem gL_law_X6_addRow : GoodIn wsL_law (wsV RL 86 RX6 yX6_addRow wsX6_addRow) := goodIn_app (goodIn_of _ (by decide +kernel)) ggL_law_X6_addRow
set_option maxRecDepth 20000 in
theorem ggL_law_X6_thrown : GoodIn wsL_law wsX6_thrown := goodIn_r _ [140, 128, 729, 730, 731, 732, 733, 734, 735, 736, 737, 738, 739, 740, 741] (by decide +kernel) (by decide +kernel)
set_option maxRecDepth 20000 in
theorem gL_law_X6_thrown : GoodIn wsL_law (wsV RL 87 RX6 yX6_thrown wsX6_thrown) := goodIn_app (goodIn_of _ (by decide +kernel)) ggL_law_X6_thrown
set_option maxRecDepth 20000 in
theorem ggL_law_L_setWater : GoodIn wsL_law wsL_setWater := goodIn_ca (goodIn_ca (goodIn_r _ [143, 144, 101, 145, 146, 147, 2, 148, 16, 149, 150, 151, 152, 153, 154, 155, 108, 109, 110, 111, 112, 156, 157, 158, 15, 159, 160, 161, 162, 163, 27, 164, 165, 166, 167, 168, 169, 170, 171, 28, 726, 727, 728, 742, 743] (by decide +kernel) (by decide +kernel)) (goodIn_sub (fun _ h => List.mem_append_right _ h) (by decide +kernel))) (goodIn_sub (fun _ h => List.mem_append_left _ (List.mem_append_left _ (List.mem_append_right _ h))) (by decide +kernel))
set_option maxRecDepth 20000 in
theorem gL_law_L_setWater : GoodIn wsL_law (va_wsS RL 91 yL_setWater wsL_setWater) := goodIn_app (goodIn_of _ (by decide +kernel)) ggL_law_L_setWater
set_option maxRecDepth 20000 in
theorem ggL_law_X6_setWater : GoodIn wsL_law wsX6_setWater := goodIn_r _ [175, 128, 70, 71, 130, 131, 5, 132, 133, 134, 135, 136, 729, 730, 731, 732, 733, 734, 735, 736, 737, 738, 739, 740, 741] (by decide +kernel) (by decide +kernel)
set_option maxRecDepth 20000 in
theorem gL_law_X6_setWater : GoodIn wsL_law (wsV RL 94 RX6 yX6_setWater wsX6_setWater) := goodIn_app (goodIn_of _ (by decide +kernel)) ggL_law_X6_setWater
set_option maxRecDepth 20000 in
theorem ggL_law_L_addCanoe : GoodIn wsL_law wsL_addCanoe := goodIn_ca (goodIn_ca (goodIn_r _ [178, 101, 102, 179, 180, 181, 2, 182, 20, 183, 108, 109, 110, 111, 112, 113, 114, 115, 116, 117, 184, 185, 186, 19, 187, 188, 43, 189, 190, 726, 727, 728, 744, 745, 746, 747, 748, 749, 750, 751, 752, 753, 757, 758, 759, 760, 761, 762, 763, 764, 765, 766, 767, 768, 769, 770, 771, 772] (by decide +kernel) (by decide +kernel)) (goodIn_sub (fun _ h => List.mem_append_left _ (List.mem_append_left _ (List.mem_append_right _ h))) (by decide +kernel))) (goodIn_sub (fun _ h => List.mem_append_left _ (List.mem_append_right _ h)) (by decide +kernel))
set_option maxRecDepth 20000 in
theorem gL_law_L_addCanoe : GoodIn wsL_law (va_wsS RL 95 yL_addCanoe wsL_addCanoe) := goodIn_app (goodIn_of _ (by decide +kernel)) ggL_law_L_addCanoe
set_option maxRecDepth 20000 in
theorem ggL_law_X6_addCanoe : GoodIn wsL_law wsX6_addCanoe := goodIn_r _ [194, 128, 195, 79, 72, 130, 131, 5, 132, 133, 134, 135, 136, 729, 730, 731, 732, 733, 734, 735, 736, 737, 738, 739, 740, 741, 773, 774, 775, 776, 777, 778, 779, 780, 781, 782, 783, 784, 785, 786] (by decide +kernel) (by decide +kernel)
set_option maxRecDepth 20000 in
theorem gL_law_X6_addCanoe : GoodIn wsL_law (wsV RL 98 RX6 yX6_addCanoe wsX6_addCanoe) := goodIn_app (goodIn_of _ (by decide +kernel)) ggL_law_X6_addCanoe
set_option maxRecDepth 20000 in
theorem ggL_law_L_load : GoodIn wsL_law wsL_load := goodIn_ca (goodIn_ca (goodIn_ca (goodIn_r _ [198, 144, 101, 102, 199, 200, 201, 2, 202, 20, 183, 203, 204, 205, 151, 152, 153, 154, 155, 108, 109, 110, 111, 112, 113, 114, 115, 116, 117, 726, 727, 728, 744, 745, 746, 747, 748, 749, 750, 751, 752, 753, 757, 758, 759, 760, 761, 762, 763, 764, 765, 766, 767, 768, 769, 770, 771, 772] (by decide +kernel) (by decide +kernel)) (goodIn_sub (fun _ h => List.mem_append_right _ h) (by decide +kernel))) (goodIn_sub (fun _ h => List.mem_append_left _ (List.mem_append_left _ (List.mem_append_right _ h))) (by decide +kernel))) (goodIn_sub (fun _ h => List.mem_append_left _ (List.mem_append_right _ h)) (by decide +kernel))
set_option maxRecDepth 20000 in
theorem gL_law_L_load : GoodIn wsL_law (va_wsS RL 99 yL_load wsL_load) := goodIn_app (goodIn_of _ (by decide +kernel)) ggL_law_L_load
set_option maxRecDepth 20000 in
theorem ggL_law_X6_load : GoodIn wsL_law wsX6_load := goodIn_r _ [209, 128, 79, 210, 211, 212, 5, 213, 195, 130, 131, 132, 214, 215, 216, 133, 134, 135, 136, 729, 730, 731, 732, 733, 734, 735, 736, 737, 738, 739, 740, 741, 773, 774, 775, 776, 777, 778, 779, 780, 781, 782, 783, 784, 785, 786] (by decide +kernel) (by decide +kernel)
set_option maxRecDepth 20000 in
theorem gL_law_X6_load : GoodIn wsL_law (wsV RL 101 RX6 yX6_load wsX6_load) := goodIn_app (goodIn_of _ (by decide +kernel)) ggL_law_X6_load
set_option maxRecDepth 20000 in
theorem ggL_law_L_offer : GoodIn wsL_law wsL_offer := goodIn_ca (goodIn_ca (goodIn_r _ [219, 144, 101, 220, 221, 222, 2, 223, 20, 183, 203, 224, 225, 226, 151, 152, 153, 154, 155, 108, 109, 110, 111, 112, 227, 228, 229, 45, 230, 58, 56, 231, 232, 233, 234, 726, 727, 728, 744, 745, 746, 747, 748, 749, 750, 751, 752, 753, 757, 758, 759, 760, 761, 762, 763, 764, 765, 766, 767, 768, 769, 770, 771, 772] (by decide +kernel) (by decide +kernel)) (goodIn_sub (fun _ h => List.mem_append_right _ h) (by decide +kernel))) (goodIn_sub (fun _ h => List.mem_append_left _ (List.mem_append_left _ (List.mem_append_right _ h))) (by decide +kernel))
set_option maxRecDepth 20000 in
theorem gL_law_L_offer : GoodIn wsL_law (va_wsS RL 102 yL_offer wsL_offer) := goodIn_app (goodIn_of _ (by decide +kernel)) ggL_law_L_offer
set_option maxRecDepth 20000 in
theorem ggL_law_X6_offer : GoodIn wsL_law wsX6_offer := goodIn_r _ [238, 128, 73, 74, 75, 79, 210, 211, 212, 5, 213, 195, 130, 131, 132, 214, 215, 216, 133, 134, 135, 136, 239, 240, 241, 78, 242, 85, 88, 243, 232, 233, 234, 729, 730, 731, 732, 733, 734, 735, 736, 737, 738, 739, 740, 741, 773, 774, 775, 776, 777, 778, 779, 780, 781, 782, 783, 784, 785, 786] (by decide +kernel) (by decide +kernel)
set_option maxRecDepth 20000 in
theorem gL_law_X6_offer : GoodIn wsL_law (wsV RL 105 RX6 yX6_offer wsX6_offer) := goodIn_app (goodIn_of _ (by decide +kernel)) ggL_law_X6_offer
set_option maxRecDepth 20000 in
theorem ggL_law_L_moor : GoodIn wsL_law wsL_moor := goodIn_ca (goodIn_ca (goodIn_r _ [246, 144, 102, 247, 248, 249, 2, 250, 20, 183, 107, 203, 204, 251, 252, 151, 152, 153, 154, 155, 253, 254, 255, 41, 256, 257, 258, 113, 114, 115, 116, 117, 259, 260, 261, 19, 262, 263, 264, 39, 265, 266, 267, 268, 269, 270, 271, 50, 726, 727, 728, 744, 745, 746, 747, 748, 749, 750, 751, 752, 753, 757, 758, 759, 760, 761, 762, 763, 764, 765, 766, 767, 768, 769, 770, 771, 772, 754, 755, 756] (by decide +kernel) (by decide +kernel)) (goodIn_sub (fun _ h => List.mem_append_right _ h) (by decide +kernel))) (goodIn_sub (fun _ h => List.mem_append_left _ (List.mem_append_right _ h)) (by decide +kernel))
set_option maxRecDepth 20000 in
theorem gL_law_L_moor : GoodIn wsL_law (va_wsS RL 106 yL_moor wsL_moor) := goodIn_app (goodIn_of _ (by decide +kernel)) ggL_law_L_moor
set_option maxRecDepth 20000 in
theorem ggL_law_X6_moor : GoodIn wsL_law wsX6_moor := goodIn_r _ [275, 128, 79, 210, 211, 212, 5, 213, 195, 130, 131, 132, 276, 277, 278, 279, 129, 133, 134, 135, 136, 280, 281, 282, 78, 283, 85, 284, 285, 286, 287, 89, 90, 288, 289, 290, 291, 91, 729, 730, 731, 732, 733, 734, 735, 736, 737, 738, 739, 740, 741, 773, 774, 775, 776, 777, 778, 779, 780, 781, 782, 783, 784, 785, 786] (by decide +kernel) (by decide +kernel)
set_option maxRecDepth 20000 in
theorem gL_law_X6_moor : GoodIn wsL_law (wsV RL 108 RX6 yX6_moor wsX6_moor) := goodIn_app (goodIn_of _ (by decide +kernel)) ggL_law_X6_moor
set_option maxRecDepth 20000 in
theorem ggL_law_L_castOff : GoodIn wsL_law wsL_castOff := goodIn_ca (goodIn_ca (goodIn_r _ [294, 144, 102, 295, 296, 297, 2, 298, 20, 183, 203, 204, 151, 152, 153, 154, 155, 299, 300, 301, 19, 302, 263, 266, 37, 303, 304, 161, 162, 15, 163, 27, 164, 165, 166, 167, 113, 114, 115, 116, 117, 305, 306, 307, 308, 39, 264, 265, 43, 309, 310, 311, 312, 313, 314, 41, 315, 257, 50, 726, 727, 728, 744, 745, 746, 747, 748, 749, 750, 751, 752, 753, 757, 758, 759, 760, 761, 762, 763, 764, 765, 766, 767, 768, 769, 770, 771, 772, 742, 743, 754, 755, 756] (by decide +kernel) (by decide +kernel)) (goodIn_sub (fun _ h => List.mem_append_right _ h) (by decide +kernel))) (goodIn_sub (fun _ h => List.mem_append_left _ (List.mem_append_right _ h)) (by decide +kernel))
set_option maxRecDepth 20000 in
theorem gL_law_L_castOff : GoodIn wsL_law (va_wsS RL 109 yL_castOff wsL_castOff) := goodIn_app (goodIn_of _ (by decide +kernel)) ggL_law_L_castOff
set_option maxRecDepth 20000 in
theorem ggL_law_X6_castOff : GoodIn wsL_law wsX6_castOff := goodIn_r _ [319, 128, 79, 210, 211, 212, 5, 213, 195, 130, 131, 132, 133, 134, 135, 136, 320, 321, 322, 78, 323, 91, 85, 324, 325, 326, 327, 328, 89, 90, 93, 729, 730, 731, 732, 733, 734, 735, 736, 737, 738, 739, 740, 741, 773, 774, 775, 776, 777, 778, 779, 780, 781, 782, 783, 784, 785, 786] (by decide +kernel) (by decide +kernel)
set_option maxRecDepth 20000 in
theorem gL_law_X6_castOff : GoodIn wsL_law (wsV RL 111 RX6 yX6_castOff wsX6_castOff) := goodIn_app (goodIn_of _ (by decide +kernel)) ggL_law_X6_castOff
set_option maxRecDepth 20000 in
theorem ggL_law_L_leaveIn : GoodIn wsL_law wsL_leaveIn := goodIn_ca (goodIn_ca (goodIn_ca (goodIn_r _ [331, 144, 101, 102, 332, 333, 334, 2, 335, 20, 183, 336, 337, 203, 204, 338, 151, 152, 153, 154, 155, 108, 109, 110, 111, 112, 113, 114, 115, 116, 117, 726, 727, 728, 744, 745, 746, 747, 748, 749, 750, 751, 752, 753, 757, 758, 759, 760, 761, 762, 763, 764, 765, 766, 767, 768, 769, 770, 771, 772] (by decide +kernel) (by decide +kernel)) (goodIn_sub (fun _ h => List.mem_append_right _ h) (by decide +kernel))) (goodIn_sub (fun _ h => List.mem_append_left _ (List.mem_append_left _ (List.mem_append_right _ h))) (by decide +kernel))) (goodIn_sub (fun _ h => List.mem_append_left _ (List.mem_append_right _ h)) (by decide +kernel))
set_option maxRecDepth 20000 in
theorem gL_law_L_leaveIn : GoodIn wsL_law (va_wsS RL 112 yL_leaveIn wsL_leaveIn) := goodIn_app (goodIn_of _ (by decide +kernel)) ggL_law_L_leaveIn
set_option maxRecDepth 20000 in
theorem ggL_law_X6_leaveIn : GoodIn wsL_law wsX6_leaveIn := goodIn_r _ [342, 128, 79, 210, 211, 212, 5, 213, 195, 130, 131, 132, 133, 134, 135, 136, 729, 730, 731, 732, 733, 734, 735, 736, 737, 738, 739, 740, 741, 773, 774, 775, 776, 777, 778, 779, 780, 781, 782, 783, 784, 785, 786] (by decide +kernel) (by decide +kernel)
set_option maxRecDepth 20000 in
theorem gL_law_X6_leaveIn : GoodIn wsL_law (wsV RL 114 RX6 yX6_leaveIn wsX6_leaveIn) := goodIn_app (goodIn_of _ (by decide +kernel)) ggL_law_X6_leaveIn
set_option maxRecDepth 20000 in
theorem ggL_law_L_canoe : GoodIn wsL_law wsL_canoe := goodIn_ca (goodIn_r _ [345, 144, 346, 347, 348, 2, 349, 20, 183, 203, 151, 152, 153, 154, 155, 350, 351, 352, 45, 353, 354, 355, 60, 61, 62, 63, 356, 357, 358, 359, 360, 361, 362, 363, 364, 228, 229, 230, 58, 56, 231, 232, 233, 234, 726, 727, 728, 744, 745, 746, 747, 748, 749, 750, 751, 752, 753, 757, 758, 759, 760, 761, 762, 763, 764, 765, 766, 767, 768, 769, 770, 771, 772] (by decide +kernel) (by decide +kernel)) (goodIn_sub (fun _ h => List.mem_append_right _ h) (by decide +kernel))
set_option maxRecDepth 20000 in
theorem gL_law_L_canoe : GoodIn wsL_law (va_wsS RL 115 yL_canoe wsL_canoe) := goodIn_app (goodIn_of _ (by decide +kernel)) ggL_law_L_canoe
set_option maxRecDepth 20000 in
theorem ggL_law_X6_canoe : GoodIn wsL_law wsX6_canoe := goodIn_r _ [368, 128, 210, 211, 212, 5, 213, 195, 130, 131, 132, 369, 370, 371, 372, 79, 26, 72, 373, 374, 375, 78, 376, 377, 240, 241, 242, 85, 88, 243, 232, 233, 234, 133, 134, 135, 136, 729, 730, 731, 732, 733, 734, 735, 736, 737, 738, 739, 740, 741, 773, 774, 775, 776, 777, 778, 779, 780, 781, 782, 783, 784, 785, 786] (by decide +kernel) (by decide +kernel)
set_option maxRecDepth 20000 in
theorem gL_law_X6_canoe : GoodIn wsL_law (wsV RL 117 RX6 yX6_canoe wsX6_canoe) := goodIn_app (goodIn_of _ (by decide +kernel)) ggL_law_X6_canoe
set_option maxRecDepth 20000 in
theorem ggL_law_L_good : GoodIn wsL_law wsL_good := goodIn_ca (goodIn_r _ [380, 144, 381, 382, 383, 2, 384, 20, 183, 203, 151, 152, 153, 154, 155, 385, 386, 387, 45, 388, 56, 57, 58, 59, 726, 727, 728, 744, 745, 746, 747, 748, 749, 750, 751, 752, 753, 757, 758, 759, 760, 761, 762, 763, 764, 765, 766, 767, 768, 769, 770, 771, 772] (by decide +kernel) (by decide +kernel)) (goodIn_sub (fun _ h => List.mem_append_right _ h) (by decide +kernel))
set_option maxRecDepth 20000 in
theorem gL_law_L_good : GoodIn wsL_law (va_wsS RL 118 yL_good wsL_good) := goodIn_app (goodIn_of _ (by decide +kernel)) ggL_law_L_good
set_option maxRecDepth 20000 in
theorem ggL_law_X6_good : GoodIn wsL_law wsX6_good := goodIn_r _ [392, 128, 210, 211, 212, 5, 213, 195, 130, 131, 132, 214, 215, 216, 393, 394, 395, 396, 79, 73, 74, 75, 133, 134, 135, 136, 729, 730, 731, 732, 733, 734, 735, 736, 737, 738, 739, 740, 741, 773, 774, 775, 776, 777, 778, 779, 780, 781, 782, 783, 784, 785, 786] (by decide +kernel) (by decide +kernel)
set_option maxRecDepth 20000 in
theorem gL_law_X6_good : GoodIn wsL_law (wsV RL 120 RX6 yX6_good wsX6_good) := goodIn_app (goodIn_of _ (by decide +kernel)) ggL_law_X6_good
set_option maxRecDepth 20000 in
theorem ggL_law_L_at : GoodIn wsL_law wsL_at := goodIn_ca (goodIn_r _ [399, 144, 400, 401, 402, 2, 403, 20, 107, 251, 404, 151, 152, 153, 154, 155, 405, 406, 407, 41, 408, 257, 50, 726, 727, 728, 744, 745, 746, 747, 748, 749, 750, 751, 752, 753, 754, 755, 756] (by decide +kernel) (by decide +kernel)) (goodIn_sub (fun _ h => List.mem_append_right _ h) (by decide +kernel))
set_option maxRecDepth 20000 in
theorem gL_law_L_at : GoodIn wsL_law (va_wsS RL 121 yL_at wsL_at) := goodIn_app (goodIn_of _ (by decide +kernel)) ggL_law_L_at
set_option maxRecDepth 20000 in
theorem ggL_law_X6_at : GoodIn wsL_law wsX6_at := goodIn_r _ [412, 128, 69, 79, 276, 277, 278, 5, 279, 129, 130, 131, 132, 413, 414, 415, 78, 416, 85, 89, 90, 91, 133, 134, 135, 136, 729, 730, 731, 732, 733, 734, 735, 736, 737, 738, 739, 740, 741, 773, 774, 775, 776, 777, 778, 779, 780, 781, 782, 783, 784, 785, 786] (by decide +kernel) (by decide +kernel)
set_option maxRecDepth 20000 in
theorem gL_law_X6_at : GoodIn wsL_law (wsV RL 123 RX6 yX6_at wsX6_at) := goodIn_app (goodIn_of _ (by decide +kernel)) ggL_law_X6_at
set_option maxRecDepth 20000 in
theorem ggL_law_L_beside : GoodIn wsL_law wsL_beside := goodIn_ca (goodIn_r _ [419, 144, 420, 421, 422, 2, 423, 20, 183, 203, 151, 152, 153, 154, 155, 424, 425, 426, 45, 427, 60, 61, 428, 429, 233, 430, 62, 726, 727, 728, 744, 745, 746, 747, 748, 749, 750, 751, 752, 753, 757, 758, 759, 760, 761, 762, 763, 764, 765, 766, 767, 768, 769, 770, 771, 772] (by decide +kernel) (by decide +kernel)) (goodIn_sub (fun _ h => List.mem_append_right _ h) (by decide +kernel))
set_option maxRecDepth 20000 in
theorem gL_law_L_beside : GoodIn wsL_law (va_wsS RL 124 yL_beside wsL_beside) := goodIn_app (goodIn_of _ (by decide +kernel)) ggL_law_L_beside
set_option maxRecDepth 20000 in
theorem ggL_law_X6_beside : GoodIn wsL_law wsX6_beside := goodIn_r _ [434, 128, 79, 210, 211, 212, 5, 213, 195, 130, 131, 132, 435, 436, 437, 78, 438, 89, 90, 439, 429, 233, 430, 91, 133, 134, 135, 136, 729, 730, 731, 732, 733, 734, 735, 736, 737, 738, 739, 740, 741, 773, 774, 775, 776, 777, 778, 779, 780, 781, 782, 783, 784, 785, 786] (by decide +kernel) (by decide +kernel)
set_option maxRecDepth 20000 in
theorem gL_law_X6_beside : GoodIn wsL_law (wsV RL 126 RX6 yX6_beside wsX6_beside) := goodIn_app (goodIn_of _ (by decide +kernel)) ggL_law_X6_beside
set_option maxRecDepth 20000 in
theorem ggL_law_L_pass : GoodIn wsL_law wsL_pass := goodIn_ca (goodIn_r _ [442, 101, 443, 444, 445, 2, 446, 20, 447, 108, 109, 110, 111, 112, 448, 449, 450, 19, 451, 303, 452, 453, 454, 455, 37, 122, 39, 265, 190, 456, 457, 169, 170, 15, 171, 28, 164, 165, 166, 167, 458, 459, 460, 461, 43, 462, 406, 407, 41, 408, 257, 50, 463, 464, 465, 466, 467, 468, 469, 306, 307, 308, 263, 264, 266, 309, 310, 311, 312, 313, 314, 315, 470, 471, 472, 473, 474, 254, 255, 256, 258, 475, 260, 261, 262, 267, 268, 269, 270, 271, 476, 477, 478, 479, 188, 480, 481, 482, 45, 483, 63, 484, 300, 301, 302, 304, 161, 162, 163, 27, 485, 486, 487, 488, 489, 228, 229, 230, 58, 56, 231, 232, 233, 234, 490, 491, 492, 493, 494, 189, 495, 496, 497, 498, 499, 500, 501, 502, 503, 504, 505, 506, 57, 507, 508, 509, 510, 511, 512, 513, 514, 515, 726, 727, 728, 744, 745, 746, 747, 748, 749, 750, 751, 752, 753, 754, 755, 756, 757, 758, 759, 760, 761, 762, 763, 764, 765, 766, 767, 768, 769, 770, 771, 772, 742, 743] (by decide +kernel) (by decide +kernel)) (goodIn_sub (fun _ h => List.mem_append_left _ (List.mem_append_left _ (List.mem_append_right _ h))) (by decide +kernel))
set_option maxRecDepth 20000 in
theorem gL_law_L_pass : GoodIn wsL_law (va_wsS RL 127 yL_pass wsL_pass) := goodIn_app (goodIn_of _ (by decide +kernel)) ggL_law_L_pass
set_option maxRecDepth 20000 in
theorem ggL_law_X6_pass_ : GoodIn wsL_law wsX6_pass_ := goodIn_r _ [519, 128, 79, 130, 131, 5, 132, 520, 521, 522, 523, 82, 524, 525, 526, 78, 527, 528, 85, 89, 92, 324, 529, 530, 531, 532, 94, 284, 285, 286, 287, 90, 533, 414, 415, 416, 91, 534, 281, 282, 283, 535, 289, 290, 291, 536, 321, 322, 323, 537, 326, 327, 328, 93, 538, 539, 540, 541, 87, 88, 96, 95, 542, 377, 240, 241, 242, 243, 232, 233, 234, 543, 436, 437, 438, 439, 429, 430, 133, 134, 135, 136, 729, 730, 731, 732, 733, 734, 735, 736, 737, 738, 739, 740, 741, 773, 774, 775, 776, 777, 778, 779, 780, 781, 782, 783, 784, 785, 786] (by decide +kernel) (by decide +kernel)
set_option maxRecDepth 20000 in
theorem gL_law_X6_pass_ : GoodIn wsL_law (wsV RL 129 RX6 yX6_pass_ wsX6_pass_) := goodIn_app (goodIn_of _ (by decide +kernel)) ggL_law_X6_pass_
set_option maxRecDepth 20000 in
theorem ggL_law_L_count : GoodIn wsL_law wsL_count := goodIn_ca (goodIn_r _ [546, 144, 547, 548, 549, 2, 550, 20, 151, 152, 153, 154, 155, 551, 552, 553, 19, 554, 303, 122, 188, 514, 515, 311, 468, 555, 556, 557, 558, 43, 263, 559, 560, 561, 562, 189, 563, 564, 565, 566, 567, 568, 569, 45, 570, 56, 571, 572, 573, 574, 484, 300, 301, 302, 266, 37, 304, 161, 162, 15, 163, 27, 164, 165, 166, 167, 726, 727, 728, 744, 745, 746, 747, 748, 749, 750, 751, 752, 753, 757, 758, 759, 760, 761, 762, 763, 764, 765, 766, 767, 768, 769, 770, 771, 772, 742, 743] (by decide +kernel) (by decide +kernel)) (goodIn_sub (fun _ h => List.mem_append_right _ h) (by decide +kernel))
set_option maxRecDepth 20000 in
theorem gL_law_L_count : GoodIn wsL_law (va_wsS RL 130 yL_count wsL_count) := goodIn_app (goodIn_of _ (by decide +kernel)) ggL_law_L_count
set_option maxRecDepth 20000 in
theorem ggL_law_X6_count : GoodIn wsL_law wsX6_count := goodIn_r _ [578, 128, 130, 131, 5, 132, 579, 580, 581, 582, 195, 79, 26, 129, 320, 321, 322, 78, 323, 91, 85, 324, 583, 584, 585, 586, 89, 587, 588, 589, 590, 133, 134, 135, 136, 729, 730, 731, 732, 733, 734, 735, 736, 737, 738, 739, 740, 741, 773, 774, 775, 776, 777, 778, 779, 780, 781, 782, 783, 784, 785, 786] (by decide +kernel) (by decide +kernel)
set_option maxRecDepth 20000 in
theorem gL_law_X6_count : GoodIn wsL_law (wsV RL 132 RX6 yX6_count wsX6_count) := goodIn_app (goodIn_of _ (by decide +kernel)) ggL_law_X6_count
