theorem dL_offer_11 : decode cL_offer 11 = .ok (.invokevirtual 30, 3) := by decide +kernel
theorem dL_offer_14 : decode cL_offer 14 = .ok (.i2l, 1) := by decide +kernel
theorem dL_offer_15 : decode cL_offer 15 = .ok (.lastore, 1) := by decide +kernel
theorem dL_offer_16 : decode cL_offer 16 = .ok (.goto 11, 3) := by decide +kernel
theorem dL_offer_19 : decode cL_offer 19 = .ok (.astore 7, 2) := by decide +kernel
theorem dL_offer_21 : decode cL_offer 21 = .ok (.iconst 1, 1) := by decide +kernel
theorem dL_offer_22 : decode cL_offer 22 = .ok (.ireturn, 1) := by decide +kernel
theorem dL_offer_23 : decode cL_offer 23 = .ok (.astore 7, 2) := by decide +kernel
theorem dL_offer_25 : decode cL_offer 25 = .ok (.iconst 2, 1) := by decide +kernel
theorem dL_offer_26 : decode cL_offer 26 = .ok (.ireturn, 1) := by decide +kernel
theorem dL_offer_27 : decode cL_offer 27 = .ok (.iconst 0, 1) := by decide +kernel
theorem dL_offer_28 : decode cL_offer 28 = .ok (.ireturn, 1) := by decide +kernel
set_option maxRecDepth 20000 in
theorem ggL_moor_X4_moor : GoodIn wsL_moor wsX4_moor := goodIn_ca (goodIn_ca (goodIn_r _ [7, 8, 9, 10, 11, 12, 13, 14, 15, 16, 6, 17, 18, 19, 20, 21, 22, 23, 24, 25, 26, 27, 28, 29, 30, 31, 32, 33, 34, 35, 36, 37, 38, 39, 40, 41, 42, 43, 44, 45, 46, 47, 48, 49, 50, 51, 52, 53, 54, 55, 56, 57, 58, 59, 60, 61, 62, 63, 64, 65, 66, 67, 68, 69, 70, 71, 72, 73, 74, 75, 76, 77, 78, 79] (by decide +kernel) (by decide +kernel)) (goodIn_sub (fun _ h => List.mem_cons_of_mem _ (List.mem_append_left _ (List.mem_append_right _ h))) (by decide +kernel))) (goodIn_sub (fun _ h => List.mem_cons_of_mem _ (List.mem_append_right _ h)) (by decide +kernel))
set_option maxRecDepth 20000 in
theorem gL_moor_X4_moor : GoodIn wsL_moor (wsV RL 34 RX4 yX4_moor wsX4_moor) := goodIn_app (goodIn_of _ (by decide +kernel)) ggL_moor_X4_moor
theorem dL_moor_0 : decode cL_moor 0 = .ok (.aload_n 3, 1) := by decide +kernel
theorem dL_moor_1 : decode cL_moor 1 = .ok (.iconst 0, 1) := by decide +kernel
theorem dL_moor_2 : decode cL_moor 2 = .ok (.aload_n 0, 1) := by decide +kernel
theorem dL_moor_3 : decode cL_moor 3 = .ok (.iload_n 1, 1) := by decide +kernel
theorem dL_moor_4 : decode cL_moor 4 = .ok (.iload_n 2, 1) := by decide +kernel
theorem dL_moor_5 : decode cL_moor 5 = .ok (.invokevirtual 34, 3) := by decide +kernel
theorem dL_moor_8 : decode cL_moor 8 = .ok (.i2l, 1) := by decide +kernel
theorem dL_moor_9 : decode cL_moor 9 = .ok (.lastore, 1) := by decide +kernel
theorem dL_moor_10 : decode cL_moor 10 = .ok (.goto 11, 3) := by decide +kernel
theorem dL_moor_13 : decode cL_moor 13 = .ok (.astore 4, 2) := by decide +kernel
theorem dL_moor_15 : decode cL_moor 15 = .ok (.iconst 1, 1) := by decide +kernel
theorem dL_moor_16 : decode cL_moor 16 = .ok (.ireturn, 1) := by decide +kernel
theorem dL_moor_17 : decode cL_moor 17 = .ok (.astore 4, 2) := by decide +kernel
theorem dL_moor_19 : decode cL_moor 19 = .ok (.iconst 2, 1) := by decide +kernel
theorem dL_moor_20 : decode cL_moor 20 = .ok (.ireturn, 1) := by decide +kernel
theorem dL_moor_21 : decode cL_moor 21 = .ok (.iconst 0, 1) := by decide +kernel
theorem dL_moor_22 : decode cL_moor 22 = .ok (.ireturn, 1) := by decide +kernel
set_option maxRecDepth 20000 in
theorem ggL_castOff_X4_castOff : GoodIn wsL_castOff wsX4_castOff := goodIn_ca (goodIn_ca (goodIn_r _ [7, 8, 9, 10, 11, 12, 13, 6, 14, 15, 16, 17, 18, 19, 20, 21, 22, 23, 24, 25, 26, 27, 28, 29, 30, 31, 32, 33, 34, 35, 36, 37, 38, 39, 40, 41, 42, 43, 44, 45, 46, 47, 48, 49, 50, 51, 52, 53, 54, 55, 56, 57, 58, 59, 60, 61, 62, 63, 64, 65, 66, 67, 68, 69, 70, 71, 72, 73, 74, 75, 76, 77, 78, 79, 80, 81, 82, 83, 84, 85, 86, 87, 88, 89, 90, 91, 92] (by decide +kernel) (by decide +kernel)) (goodIn_sub (fun _ h => List.mem_cons_of_mem _ (List.mem_append_left _ (List.mem_append_right _ h))) (by decide +kernel))) (goodIn_sub (fun _ h => List.mem_cons_of_mem _ (List.mem_append_right _ h)) (by decide +kernel))
set_option maxRecDepth 20000 in
theorem gL_castOff_X4_castOff : GoodIn wsL_castOff (wsV RL 37 RX4 yX4_castOff wsX4_castOff) := goodIn_app (goodIn_of _ (by decide +kernel)) ggL_castOff_X4_castOff
theorem dL_castOff_0 : decode cL_castOff 0 = .ok (.aload_n 2, 1) := by decide +kernel
theorem dL_castOff_1 : decode cL_castOff 1 = .ok (.iconst 0, 1) := by decide +kernel
theorem dL_castOff_2 : decode cL_castOff 2 = .ok (.aload_n 0, 1) := by decide +kernel
theorem dL_castOff_3 : decode cL_castOff 3 = .ok (.iload_n 1, 1) := by decide +kernel
theorem dL_castOff_4 : decode cL_castOff 4 = .ok (.invokevirtual 37, 3) := by decide +kernel
theorem dL_castOff_7 : decode cL_castOff 7 = .ok (.i2l, 1) := by decide +kernel
theorem dL_castOff_8 : decode cL_castOff 8 = .ok (.lastore, 1) := by decide +kernel
theorem dL_castOff_9 : decode cL_castOff 9 = .ok (.goto 9, 3) := by decide +kernel
theorem dL_castOff_12 : decode cL_castOff 12 = .ok (.astore_n 3, 1) := by decide +kernel
theorem dL_castOff_13 : decode cL_castOff 13 = .ok (.iconst 1, 1) := by decide +kernel
theorem dL_castOff_14 : decode cL_castOff 14 = .ok (.ireturn, 1) := by decide +kernel
theorem dL_castOff_15 : decode cL_castOff 15 = .ok (.astore_n 3, 1) := by decide +kernel
theorem dL_castOff_16 : decode cL_castOff 16 = .ok (.iconst 2, 1) := by decide +kernel
theorem dL_castOff_17 : decode cL_castOff 17 = .ok (.ireturn, 1) := by decide +kernel
theorem dL_castOff_18 : decode cL_castOff 18 = .ok (.iconst 0, 1) := by decide +kernel
theorem dL_castOff_19 : decode cL_castOff 19 = .ok (.ireturn, 1) := by decide +kernel
set_option maxRecDepth 20000 in
theorem ggL_leaveIn_X4_leaveIn : GoodIn wsL_leaveIn wsX4_leaveIn := goodIn_ca (goodIn_ca (goodIn_ca (goodIn_r _ [8, 9, 10, 11, 12, 13, 14, 15, 16, 17, 7, 18, 19, 20, 21, 22, 23, 24, 25, 26, 27, 28, 29, 30, 31, 32, 33, 34, 35, 36, 37, 38, 39, 40, 41, 42, 43, 44, 45, 46, 47, 48, 49, 50, 51, 52, 53, 54, 55, 56, 57, 58, 59] (by decide +kernel) (by decide +kernel)) (goodIn_sub (fun _ h => List.mem_cons_of_mem _ (List.mem_append_left _ (List.mem_append_left _ (List.mem_append_right _ h)))) (by decide +kernel))) (goodIn_sub (fun _ h => List.mem_cons_of_mem _ (List.mem_append_left _ (List.mem_append_right _ h))) (by decide +kernel))) (goodIn_sub (fun _ h => List.mem_cons_of_mem _ (List.mem_append_right _ h)) (by decide +kernel))
set_option maxRecDepth 20000 in
theorem gL_leaveIn_X4_leaveIn : GoodIn wsL_leaveIn (wsV RL 40 RX4 yX4_leaveIn wsX4_leaveIn) := goodIn_app (goodIn_of _ (by decide +kernel)) ggL_leaveIn_X4_leaveIn
theorem dL_leaveIn_0 : decode cL_leaveIn 0 = .ok (.aload_n 3, 1) := by decide +kernel
theorem dL_leaveIn_1 : decode cL_leaveIn 1 = .ok (.iconst 0, 1) := by decide +kernel
theorem dL_leaveIn_2 : decode cL_leaveIn 2 = .ok (.aload_n 0, 1) := by decide +kernel
theorem dL_leaveIn_3 : decode cL_leaveIn 3 = .ok (.iload_n 1, 1) := by decide +kernel
theorem dL_leaveIn_4 : decode cL_leaveIn 4 = .ok (.iload_n 2, 1) := by decide +kernel
theorem dL_leaveIn_5 : decode cL_leaveIn 5 = .ok (.invokevirtual 40, 3) := by decide +kernel
theorem dL_leaveIn_8 : decode cL_leaveIn 8 = .ok (.i2l, 1) := by decide +kernel
theorem dL_leaveIn_9 : decode cL_leaveIn 9 = .ok (.lastore, 1) := by decide +kernel
theorem dL_leaveIn_10 : decode cL_leaveIn 10 = .ok (.goto 15, 3) := by decide +kernel
theorem dL_leaveIn_13 : decode cL_leaveIn 13 = .ok (.astore 4, 2) := by decide +kernel
theorem dL_leaveIn_15 : decode cL_leaveIn 15 = .ok (.iconst 1, 1) := by decide +kernel
theorem dL_leaveIn_16 : decode cL_leaveIn 16 = .ok (.ireturn, 1) := by decide +kernel
theorem dL_leaveIn_17 : decode cL_leaveIn 17 = .ok (.astore 4, 2) := by decide +kernel
theorem dL_leaveIn_19 : decode cL_leaveIn 19 = .ok (.iconst 2, 1) := by decide +kernel
theorem dL_leaveIn_20 : decode cL_leaveIn 20 = .ok (.ireturn, 1) := by decide +kernel
theorem dL_leaveIn_21 : decode cL_leaveIn 21 = .ok (.astore 4, 2) := by decide +kernel
theorem dL_leaveIn_23 : decode cL_leaveIn 23 = .ok (.iconst 3, 1) := by decide +kernel
theorem dL_leaveIn_24 : decode cL_leaveIn 24 = .ok (.ireturn, 1) := by decide +kernel
theorem dL_leaveIn_25 : decode cL_leaveIn 25 = .ok (.iconst 0, 1) := by decide +kernel
theorem dL_leaveIn_26 : decode cL_leaveIn 26 = .ok (.ireturn, 1) := by decide +kernel
set_option maxRecDepth 20000 in
theorem ggL_canoe_X4_canoe : GoodIn wsL_canoe wsX4_canoe := goodIn_ca (goodIn_r _ [6, 7, 8, 9, 10, 11, 5, 12, 13, 14, 15, 16, 17, 18, 19, 20, 21, 22, 23, 24, 25, 26, 27, 28, 29, 30, 31, 32, 33, 34, 35, 36, 37, 38, 39, 40, 41, 42, 43, 44, 45, 46, 47, 48, 49, 50, 51, 52, 53, 54, 55, 56, 57, 58, 59, 60, 61, 62, 63, 64, 65, 66, 67, 68, 69, 70, 71, 72] (by decide +kernel) (by decide +kernel)) (goodIn_sub (fun _ h => List.mem_cons_of_mem _ (List.mem_append_right _ h)) (by decide +kernel))
set_option maxRecDepth 20000 in
theorem gL_canoe_X4_canoe : GoodIn wsL_canoe (wsV RL 43 RX4 yX4_canoe wsX4_canoe) := goodIn_app (goodIn_of _ (by decide +kernel)) ggL_canoe_X4_canoe
theorem dL_canoe_0 : decode cL_canoe 0 = .ok (.aload_n 3, 1) := by decide +kernel
theorem dL_canoe_1 : decode cL_canoe 1 = .ok (.iconst 0, 1) := by decide +kernel
theorem dL_canoe_2 : decode cL_canoe 2 = .ok (.aload_n 0, 1) := by decide +kernel
theorem dL_canoe_3 : decode cL_canoe 3 = .ok (.iload_n 1, 1) := by decide +kernel
theorem dL_canoe_4 : decode cL_canoe 4 = .ok (.iload_n 2, 1) := by decide +kernel
theorem dL_canoe_5 : decode cL_canoe 5 = .ok (.invokevirtual 43, 3) := by decide +kernel
theorem dL_canoe_8 : decode cL_canoe 8 = .ok (.i2l, 1) := by decide +kernel
theorem dL_canoe_9 : decode cL_canoe 9 = .ok (.lastore, 1) := by decide +kernel
theorem dL_canoe_10 : decode cL_canoe 10 = .ok (.goto 7, 3) := by decide +kernel
theorem dL_canoe_13 : decode cL_canoe 13 = .ok (.astore 4, 2) := by decide +kernel
theorem dL_canoe_15 : decode cL_canoe 15 = .ok (.iconst 1, 1) := by decide +kernel
theorem dL_canoe_16 : decode cL_canoe 16 = .ok (.ireturn, 1) := by decide +kernel
theorem dL_canoe_17 : decode cL_canoe 17 = .ok (.iconst 0, 1) := by decide +kernel
theorem dL_canoe_18 : decode cL_canoe 18 = .ok (.ireturn, 1) := by decide +kernel
set_option maxRecDepth 20000 in
theorem ggL_good_X4_good : GoodIn wsL_good wsX4_good := goodIn_ca (goodIn_r _ [6, 7, 8, 9, 10, 11, 5, 12, 13, 14, 15, 16, 17, 18, 19, 20, 21, 22, 23, 24, 25, 26, 27, 28, 29, 30, 31, 32, 33, 34, 35, 36, 37, 38, 39, 40, 41, 42, 43, 44, 45, 46, 47, 48, 49, 50, 51, 52] (by decide +kernel) (by decide +kernel)) (goodIn_sub (fun _ h => List.mem_cons_of_mem _ (List.mem_append_right _ h)) (by decide +kernel))
set_option maxRecDepth 20000 in
theorem gL_good_X4_good : GoodIn wsL_good (wsV RL 46 RX4 yX4_good wsX4_good) := goodIn_app (goodIn_of _ (by decide +kernel)) ggL_good_X4_good
theorem dL_good_0 : decode cL_good 0 = .ok (.aload 4, 2) := by decide +kernel
theorem dL_good_2 : decode cL_good 2 = .ok (.iconst 0, 1) := by decide +kernel
theorem dL_good_3 : decode cL_good 3 = .ok (.aload_n 0, 1) := by decide +kernel
theorem dL_good_4 : decode cL_good 4 = .ok (.iload_n 1, 1) := by decide +kernel
theorem dL_good_5 : decode cL_good 5 = .ok (.iload_n 2, 1) := by decide +kernel
theorem dL_good_6 : decode cL_good 6 = .ok (.iload_n 3, 1) := by decide +kernel
theorem dL_good_7 : decode cL_good 7 = .ok (.invokevirtual 46, 3) := by decide +kernel
theorem dL_good_10 : decode cL_good 10 = .ok (.i2l, 1) := by decide +kernel
theorem dL_good_11 : decode cL_good 11 = .ok (.lastore, 1) := by decide +kernel
theorem dL_good_12 : decode cL_good 12 = .ok (.goto 7, 3) := by decide +kernel
theorem dL_good_15 : decode cL_good 15 = .ok (.astore 5, 2) := by decide +kernel
theorem dL_good_17 : decode cL_good 17 = .ok (.iconst 1, 1) := by decide +kernel
theorem dL_good_18 : decode cL_good 18 = .ok (.ireturn, 1) := by decide +kernel
theorem dL_good_19 : decode cL_good 19 = .ok (.iconst 0, 1) := by decide +kernel
theorem dL_good_20 : decode cL_good 20 = .ok (.ireturn, 1) := by decide +kernel
set_option maxRecDepth 20000 in
theorem ggL_at_X4_at : GoodIn wsL_at wsX4_at := goodIn_ca (goodIn_r _ [6, 7, 8, 9, 10, 11, 12, 5, 13, 14, 15, 16, 17, 18, 19, 20, 21, 22, 23, 24, 25, 26, 27, 28, 29, 30, 31, 32, 33, 34, 35, 36, 37, 38] (by decide +kernel) (by decide +kernel)) (goodIn_sub (fun _ h => List.mem_cons_of_mem _ (List.mem_append_right _ h)) (by decide +kernel))
set_option maxRecDepth 20000 in
theorem gL_at_X4_at : GoodIn wsL_at (wsV RL 49 RX4 yX4_at wsX4_at) := goodIn_app (goodIn_of _ (by decide +kernel)) ggL_at_X4_at
theorem dL_at_0 : decode cL_at 0 = .ok (.aload_n 3, 1) := by decide +kernel
theorem dL_at_1 : decode cL_at 1 = .ok (.iconst 0, 1) := by decide +kernel
theorem dL_at_2 : decode cL_at 2 = .ok (.aload_n 0, 1) := by decide +kernel
theorem dL_at_3 : decode cL_at 3 = .ok (.iload_n 1, 1) := by decide +kernel
theorem dL_at_4 : decode cL_at 4 = .ok (.iload_n 2, 1) := by decide +kernel
theorem dL_at_5 : decode cL_at 5 = .ok (.invokevirtual 49, 3) := by decide +kernel
theorem dL_at_8 : decode cL_at 8 = .ok (.i2l, 1) := by decide +kernel
theorem dL_at_9 : decode cL_at 9 = .ok (.lastore, 1) := by decide +kernel
theorem dL_at_10 : decode cL_at 10 = .ok (.goto 7, 3) := by decide +kernel
theorem dL_at_13 : decode cL_at 13 = .ok (.astore 4, 2) := by decide +kernel
theorem dL_at_15 : decode cL_at 15 = .ok (.iconst 1, 1) := by decide +kernel
theorem dL_at_16 : decode cL_at 16 = .ok (.ireturn, 1) := by decide +kernel
theorem dL_at_17 : decode cL_at 17 = .ok (.iconst 0, 1) := by decide +kernel
theorem dL_at_18 : decode cL_at 18 = .ok (.ireturn, 1) := by decide +kernel
set_option maxRecDepth 20000 in
theorem ggL_beside_X4_beside : GoodIn wsL_beside wsX4_beside := goodIn_ca (goodIn_r _ [6, 7, 8, 9, 10, 11, 5, 12, 13, 14, 15, 16, 17, 18, 19, 20, 21, 22, 23, 24, 25, 26, 27, 28, 29, 30, 31, 32, 33, 34, 35, 36, 37, 38, 39, 40, 41, 42, 43, 44, 45, 46, 47, 48, 49, 50, 51, 52, 53, 54, 55] (by decide +kernel) (by decide +kernel)) (goodIn_sub (fun _ h => List.mem_cons_of_mem _ (List.mem_append_right _ h)) (by decide +kernel))
set_option maxRecDepth 20000 in
theorem gL_beside_X4_beside : GoodIn wsL_beside (wsV RL 52 RX4 yX4_beside wsX4_beside) := goodIn_app (goodIn_of _ (by decide +kernel)) ggL_beside_X4_beside
theorem dL_beside_0 : decode cL_beside 0 = .ok (.aload_n 3, 1) := by decide +kernel
theorem dL_beside_1 : decode cL_beside 1 = .ok (.iconst 0, 1) := by decide +kernel
theorem dL_beside_2 : decode cL_beside 2 = .ok (.aload_n 0, 1) := by decide +kernel
theorem dL_beside_3 : decode cL_beside 3 = .ok (.iload_n 1, 1) := by decide +kernel
theorem dL_beside_4 : decode cL_beside 4 = .ok (.iload_n 2, 1) := by decide +kernel
theorem dL_beside_5 : decode cL_beside 5 = .ok (.invokevirtual 52, 3) := by decide +kernel
theorem dL_beside_8 : decode cL_beside 8 = .ok (.ifCond .eq 7, 3) := by decide +kernel
theorem dL_beside_11 : decode cL_beside 11 = .ok (.lconst 1, 1) := by decide +kernel
theorem dL_beside_12 : decode cL_beside 12 = .ok (.goto 4, 3) := by decide +kernel
theorem dL_beside_15 : decode cL_beside 15 = .ok (.lconst 0, 1) := by decide +kernel
theorem dL_beside_16 : decode cL_beside 16 = .ok (.lastore, 1) := by decide +kernel
theorem dL_beside_17 : decode cL_beside 17 = .ok (.goto 7, 3) := by decide +kernel
theorem dL_beside_20 : decode cL_beside 20 = .ok (.astore 4, 2) := by decide +kernel
theorem dL_beside_22 : decode cL_beside 22 = .ok (.iconst 1, 1) := by decide +kernel
theorem dL_beside_23 : decode cL_beside 23 = .ok (.ireturn, 1) := by decide +kernel
theorem dL_beside_24 : decode cL_beside 24 = .ok (.iconst 0, 1) := by decide +kernel
theorem dL_beside_25 : decode cL_beside 25 = .ok (.ireturn, 1) := by decide +kernel
set_option maxRecDepth 20000 in
theorem ggL_pass_X4_pass : GoodIn wsL_pass wsX4_pass := goodIn_ca (goodIn_r _ [6, 7, 8, 9, 10, 5, 11, 12, 13, 14, 15, 16, 17, 18, 19, 20, 21, 22, 23, 24, 25, 26, 27, 28, 29, 30, 31, 32, 33, 34, 35, 36, 37, 38, 39, 40, 41, 42, 43, 44, 45, 46, 47, 48, 49, 50, 51, 52, 53, 54, 55, 56, 57, 58, 59, 60, 61, 62, 63, 64, 65, 66, 67, 68, 69, 70, 71, 72, 73, 74, 75, 76, 77, 78, 79, 80, 81, 82, 83, 84, 85, 86, 87, 88, 89, 90, 91, 92, 93, 94, 95, 96, 97, 98, 99, 100, 101, 102, 103, 104, 105, 106, 107, 108, 109, 110, 111, 112, 113, 114, 115, 116, 117, 118, 119, 120, 121, 122, 123, 124, 125, 126, 127, 128, 129, 130, 131, 132, 133, 134, 135, 136, 137, 138, 139, 140, 141, 142, 143, 144, 145, 146, 147, 148, 149, 150, 151, 152, 153, 154, 155, 156, 157, 158, 159, 160, 161, 162, 163, 164, 165, 166, 167, 168, 169, 170, 171, 172, 173, 174, 175, 176, 177, 178, 179, 180, 181, 182, 183, 184, 185] (by decide +kernel) (by decide +kernel)) (goodIn_sub (fun _ h => List.mem_cons_of_mem _ (List.mem_append_right _ h)) (by decide +kernel))
set_option maxRecDepth 20000 in
theorem gL_pass_X4_pass : GoodIn wsL_pass (wsV RL 56 RX4 yX4_pass wsX4_pass) := goodIn_app (goodIn_of _ (by decide +kernel)) ggL_pass_X4_pass
theorem dL_pass_0 : decode cL_pass 0 = .ok (.aload_n 2, 1) := by decide +kernel
theorem dL_pass_1 : decode cL_pass 1 = .ok (.iconst 0, 1) := by decide +kernel
theorem dL_pass_2 : decode cL_pass 2 = .ok (.aload_n 0, 1) := by decide +kernel
theorem dL_pass_3 : decode cL_pass 3 = .ok (.iload_n 1, 1) := by decide +kernel
theorem dL_pass_4 : decode cL_pass 4 = .ok (.invokevirtual 56, 3) := by decide +kernel
theorem dL_pass_7 : decode cL_pass 7 = .ok (.i2l, 1) := by decide +kernel
theorem dL_pass_8 : decode cL_pass 8 = .ok (.lastore, 1) := by decide +kernel
theorem dL_pass_9 : decode cL_pass 9 = .ok (.goto 6, 3) := by decide +kernel
theorem dL_pass_12 : decode cL_pass 12 = .ok (.astore_n 3, 1) := by decide +kernel
theorem dL_pass_13 : decode cL_pass 13 = .ok (.iconst 1, 1) := by decide +kernel
theorem dL_pass_14 : decode cL_pass 14 = .ok (.ireturn, 1) := by decide +kernel
theorem dL_pass_15 : decode cL_pass 15 = .ok (.iconst 0, 1) := by decide +kernel
theorem dL_pass_16 : decode cL_pass 16 = .ok (.ireturn, 1) := by decide +kernel
set_option maxRecDepth 20000 in
theorem ggL_count_X4_count : GoodIn wsL_count wsX4_count := goodIn_ca (goodIn_r _ [6, 7, 8, 9, 5, 10, 11, 12, 13, 14, 15, 16, 17, 18, 19, 20, 21, 22, 23, 24, 25, 26, 27, 28, 29, 30, 31, 32, 33, 34, 35, 36, 37, 38, 39, 40, 41, 42, 43, 44, 45, 46, 47, 48, 49, 50, 51, 52, 53, 54, 55, 56, 57, 58, 59, 60, 61, 62, 63, 64, 65, 66, 67, 68, 69, 70, 71, 72, 73, 74, 75, 76, 77, 78, 79, 80, 81, 82, 83, 84, 85, 86, 87, 88, 89, 90, 91, 92, 93, 94, 95, 96] (by decide +kernel) (by decide +kernel)) (goodIn_sub (fun _ h => List.mem_cons_of_mem _ (List.mem_append_right _ h)) (by decide +kernel))
set_option maxRecDepth 20000 in
theorem gL_count_X4_count : GoodIn wsL_count (wsV RL 59 RX4 yX4_count wsX4_count) := goodIn_app (goodIn_of _ (by decide +kernel)) ggL_count_X4_count
theorem dL_count_0 : decode cL_count 0 = .ok (.aload_n 2, 1) := by decide +kernel
theorem dL_count_1 : decode cL_count 1 = .ok (.iconst 0, 1) := by decide +kernel
theorem dL_count_2 : decode cL_count 2 = .ok (.aload_n 0, 1) := by decide +kernel
theorem dL_count_3 : decode cL_count 3 = .ok (.iload_n 1, 1) := by decide +kernel
theorem dL_count_4 : decode cL_count 4 = .ok (.invokevirtual 59, 3) := by decide +kernel
theorem dL_count_7 : decode cL_count 7 = .ok (.i2l, 1) := by decide +kernel
theorem dL_count_8 : decode cL_count 8 = .ok (.lastore, 1) := by decide +kernel
theorem dL_count_9 : decode cL_count 9 = .ok (.goto 6, 3) := by decide +kernel
theorem dL_count_12 : decode cL_count 12 = .ok (.astore_n 3, 1) := by decide +kernel
theorem dL_count_13 : decode cL_count 13 = .ok (.iconst 1, 1) := by decide +kernel
theorem dL_count_14 : decode cL_count 14 = .ok (.ireturn, 1) := by decide +kernel
theorem dL_count_15 : decode cL_count 15 = .ok (.iconst 0, 1) := by decide +kernel
theorem dL_count_16 : decode cL_count 16 = .ok (.ireturn, 1) := by decide +kernel
set_option maxRecDepth 20000 in
theorem ggL_foresee_X4_foresee : GoodIn wsL_foresee wsX4_foresee := goodIn_ca (goodIn_ca (goodIn_r _ [7, 8, 9, 10, 11, 12, 13, 14, 15, 6, 16, 17, 18, 19, 20, 21, 22, 23, 24, 25, 26, 27, 28, 29, 30, 31, 32, 33, 34, 35, 36, 37, 38, 39, 40, 41, 42, 43, 44, 45, 46, 47, 48, 49, 50, 51, 52, 53, 54, 55, 56, 57, 58, 59, 60, 61, 62, 63, 64, 65, 66, 67, 68, 69, 70, 71, 72, 73, 74, 75, 76, 77, 78, 79, 80, 81, 82, 83, 84, 85, 86, 87, 88, 89, 90, 91, 92, 93, 94, 95, 96, 97, 98, 99, 100, 101, 102, 103, 104, 105, 106, 107, 108, 109, 110, 111, 112, 113, 114, 115, 116, 117, 118, 119, 120, 121, 122, 123, 124, 125, 126, 127, 128, 129, 130, 131, 132, 133, 134, 135, 136, 137, 138, 139, 140, 141, 142, 143, 144, 145, 146, 147, 148, 149, 150, 151, 152, 153, 154, 155, 156, 157, 158, 159, 160, 161, 162, 163, 164, 165, 166, 167, 168, 169, 170, 171, 172, 173, 174, 175, 176, 177, 178, 179, 180, 181, 182, 183, 184, 185, 186, 187, 188, 189, 190, 191, 192, 193, 194, 195, 196, 197, 198, 199, 200, 201, 202, 203, 204, 205, 206, 207, 208, 209, 210, 211, 212, 213, 214, 215, 216, 217, 218, 219, 220, 221, 222, 223, 224, 225, 226, 227, 228] (by decide +kernel) (by decide +kernel)) (goodIn_sub (fun _ h => List.mem_cons_of_mem _ (List.mem_append_left _ (List.mem_append_right _ h))) (by decide +kernel))) (goodIn_sub (fun _ h => List.mem_cons_of_mem _ (List.mem_append_right _ h)) (by decide +kernel))
set_option maxRecDepth 20000 in
theorem gL_foresee_X4_foresee : GoodIn wsL_foresee (wsV RL 62 RX4 yX4_foresee wsX4_foresee) := goodIn_app (goodIn_of _ (by decide +kernel)) ggL_foresee_X4_foresee
theorem dL_foresee_0 : decode cL_foresee 0 = .ok (.aload 4, 2) := by decide +kernel
theorem dL_foresee_2 : decode cL_foresee 2 = .ok (.iconst 0, 1) := by decide +kernel
theorem dL_foresee_3 : decode cL_foresee 3 = .ok (.aload_n 0, 1) := by decide +kernel
theorem dL_foresee_4 : decode cL_foresee 4 = .ok (.iload_n 1, 1) := by decide +kernel
theorem dL_foresee_5 : decode cL_foresee 5 = .ok (.iload_n 2, 1) := by decide +kernel
theorem dL_foresee_6 : decode cL_foresee 6 = .ok (.iload_n 3, 1) := by decide +kernel
theorem dL_foresee_7 : decode cL_foresee 7 = .ok (.invokevirtual 62, 3) := by decide +kernel
theorem dL_foresee_10 : decode cL_foresee 10 = .ok (.i2l, 1) := by decide +kernel
theorem dL_foresee_11 : decode cL_foresee 11 = .ok (.lastore, 1) := by decide +kernel
theorem dL_foresee_12 : decode cL_foresee 12 = .ok (.goto 11, 3) := by decide +kernel
theorem dL_foresee_15 : decode cL_foresee 15 = .ok (.astore 5, 2) := by decide +kernel
theorem dL_foresee_17 : decode cL_foresee 17 = .ok (.iconst 1, 1) := by decide +kernel
theorem dL_foresee_18 : decode cL_foresee 18 = .ok (.ireturn, 1) := by decide +kernel
theorem dL_foresee_19 : decode cL_foresee 19 = .ok (.astore 5, 2) := by decide +kernel
theorem dL_foresee_21 : decode cL_foresee 21 = .ok (.iconst 2, 1) := by decide +kernel
theorem dL_foresee_22 : decode cL_foresee 22 = .ok (.ireturn, 1) := by decide +kernel
theorem dL_foresee_23 : decode cL_foresee 23 = .ok (.iconst 0, 1) := by decide +kernel
theorem dL_foresee_24 : decode cL_foresee 24 = .ok (.ireturn, 1) := by decide +kernel
set_option maxRecDepth 20000 in
theorem ggL_full_X4_full : GoodIn wsL_full wsX4_full := goodIn_ca (goodIn_r _ [6, 7, 8, 9, 10, 5, 11, 12, 13, 14, 15, 16, 17, 18, 19, 20, 21, 22, 23, 24, 25, 26, 27, 28, 29, 30, 31, 32, 33, 34, 35, 36, 37, 38, 39, 40, 41, 42, 43, 44, 45, 46, 47, 48, 49, 50, 51, 52, 53, 54, 55, 56, 57, 58, 59, 60, 61, 62, 63, 64, 65, 66, 67, 68, 69, 70, 71, 72, 73, 74, 75, 76, 77, 78, 79, 80, 81, 82, 83, 84, 85, 86, 87, 88, 89, 90, 91, 92, 93, 94, 95, 96, 97, 98, 99, 100, 101, 102, 103, 104, 105, 106, 107, 108, 109, 110, 111, 112, 113, 114, 115, 116, 117, 118, 119, 120, 121, 122, 123, 124, 125, 126, 127, 128, 129, 130, 131, 132, 133, 134, 135, 136, 137, 138, 139, 140, 141, 142, 143, 144, 145, 146, 147, 148, 149, 150, 151, 152, 153, 154, 155, 156, 157, 158, 159, 160, 161, 162, 163, 164, 165, 166, 167, 168, 169, 170, 171, 172, 173, 174, 175, 176, 177, 178, 179, 180, 181, 182, 183, 184, 185, 186, 187, 188, 189, 190, 191, 192, 193, 194, 195, 196, 197, 198, 199, 200, 201, 202, 203, 204, 205, 206, 207, 208, 209, 210, 211, 212, 213, 214, 215, 216, 217, 218, 219, 220, 221, 222, 223, 224, 225, 226, 227, 228] (by decide +kernel) (by decide +kernel)) (goodIn_sub (fun _ h => List.mem_cons_of_mem _ (List.mem_append_right _ h)) (by decide +kernel))
set_option maxRecDepth 20000 in
theorem gL_full_X4_full : GoodIn wsL_full (wsV RL 65 RX4 yX4_full wsX4_full) := goodIn_app (goodIn_of _ (by decide +kernel)) ggL_full_X4_full
theorem dL_full_0 : decode cL_full 0 = .ok (.aload_n 2, 1) := by decide +kernel
theorem dL_full_1 : decode cL_full 1 = .ok (.iconst 0, 1) := by decide +kernel
theorem dL_full_2 : decode cL_full 2 = .ok (.aload_n 0, 1) := by decide +kernel
theorem dL_full_3 : decode cL_full 3 = .ok (.iload_n 1, 1) := by decide +kernel
theorem dL_full_4 : decode cL_full 4 = .ok (.invokevirtual 65, 3) := by decide +kernel
theorem dL_full_7 : decode cL_full 7 = .ok (.i2l, 1) := by decide +kernel
theorem dL_full_8 : decode cL_full 8 = .ok (.lastore, 1) := by decide +kernel
theorem dL_full_9 : decode cL_full 9 = .ok (.goto 6, 3) := by decide +kernel
theorem dL_full_12 : decode cL_full 12 = .ok (.astore_n 3, 1) := by decide +kernel
theorem dL_full_13 : decode cL_full 13 = .ok (.iconst 1, 1) := by decide +kernel
theorem dL_full_14 : decode cL_full 14 = .ok (.ireturn, 1) := by decide +kernel
theorem dL_full_15 : decode cL_full 15 = .ok (.iconst 0, 1) := by decide +kernel
theorem dL_full_16 : decode cL_full 16 = .ok (.ireturn, 1) := by decide +kernel
set_option maxRecDepth 20000 in
theorem ggL_gone_X4_gone : GoodIn wsL_gone wsX4_gone := goodIn_ca (goodIn_r _ [6, 7, 8, 9, 10, 5, 11, 12, 13, 14, 15, 16, 17, 18, 19, 20, 21, 22, 23, 24, 25, 26, 27, 28, 29, 30, 31, 32, 33, 34, 35, 36, 37, 38, 39, 40, 41, 42, 43, 44, 45, 46, 47, 48, 49, 50, 51, 52, 53, 54, 55, 56, 57, 58, 59, 60, 61, 62, 63, 64, 65, 66, 67, 68, 69, 70, 71, 72, 73, 74, 75, 76, 77, 78, 79, 80, 81, 82, 83, 84, 85, 86, 87, 88, 89, 90, 91, 92, 93, 94, 95, 96, 97, 98, 99, 100, 101, 102, 103, 104, 105, 106, 107, 108, 109, 110, 111, 112, 113, 114, 115, 116, 117, 118, 119, 120, 121, 122, 123, 124, 125, 126, 127, 128, 129, 130, 131, 132, 133, 134, 135, 136, 137, 138, 139, 140, 141, 142, 143, 144, 145, 146, 147, 148, 149, 150, 151, 152, 153, 154, 155, 156, 157, 158, 159, 160, 161, 162, 163, 164, 165, 166, 167, 168, 169, 170, 171, 172, 173, 174, 175, 176, 177, 178, 179, 180, 181, 182, 183, 184, 185, 186, 187, 188, 189, 190, 191, 192, 193, 194, 195, 196, 197, 198, 199, 200, 201, 202, 203, 204, 205, 206, 207, 208, 209, 210, 211, 212, 213, 214, 215, 216, 217, 218, 219, 220, 221, 222, 223, 224, 225, 226, 227, 228] (by decide +kernel) (by decide +kernel)) (goodIn_sub (fun _ h => List.mem_cons_of_mem _ (List.mem_append_right _ h)) (by decide +kernel))
set_option maxRecDepth 20000 in
theorem gL_gone_X4_gone : GoodIn wsL_gone (wsV RL 68 RX4 yX4_gone wsX4_gone) := goodIn_app (goodIn_of _ (by decide +kernel)) ggL_gone_X4_gone
theorem dL_gone_0 : decode cL_gone 0 = .ok (.aload_n 2, 1) := by decide +kernel
theorem dL_gone_1 : decode cL_gone 1 = .ok (.iconst 0, 1) := by decide +kernel
theorem dL_gone_2 : decode cL_gone 2 = .ok (.aload_n 0, 1) := by decide +kernel
theorem dL_gone_3 : decode cL_gone 3 = .ok (.iload_n 1, 1) := by decide +kernel
theorem dL_gone_4 : decode cL_gone 4 = .ok (.invokevirtual 68, 3) := by decide +kernel
theorem dL_gone_7 : decode cL_gone 7 = .ok (.i2l, 1) := by decide +kernel
theorem dL_gone_8 : decode cL_gone 8 = .ok (.lastore, 1) := by decide +kernel
theorem dL_gone_9 : decode cL_gone 9 = .ok (.goto 6, 3) := by decide +kernel
theorem dL_gone_12 : decode cL_gone 12 = .ok (.astore_n 3, 1) := by decide +kernel
theorem dL_gone_13 : decode cL_gone 13 = .ok (.iconst 1, 1) := by decide +kernel
theorem dL_gone_14 : decode cL_gone 14 = .ok (.ireturn, 1) := by decide +kernel
theorem dL_gone_15 : decode cL_gone 15 = .ok (.iconst 0, 1) := by decide +kernel
theorem dL_gone_16 : decode cL_gone 16 = .ok (.ireturn, 1) := by decide +kernel
set_option maxRecDepth 20000 in
theorem ggL_advise_X4_advise : GoodIn wsL_advise wsX4_advise := goodIn_ca (goodIn_ca (goodIn_ca (goodIn_r _ [8, 9, 10, 11, 12, 13, 14, 15, 16, 7, 17, 18, 19, 20, 21, 22, 23, 24, 25, 26, 27, 28, 29, 30, 31, 32, 33, 34, 35, 36, 37, 38, 39, 40, 41, 42, 43, 44, 45, 46, 47, 48, 49, 50, 51, 52, 53, 54, 55, 56, 57, 58, 59, 60, 61, 62, 63, 64, 65, 66, 67, 68, 69, 70, 71, 72, 73, 74, 75, 76, 77, 78, 79, 80, 81, 82, 83, 84, 85, 86, 87, 88, 89, 90, 91, 92, 93, 94, 95, 96, 97, 98, 99, 100, 101, 102, 103, 104, 105, 106, 107, 108, 109, 110, 111, 112, 113, 114, 115, 116, 117, 118, 119, 120, 121, 122, 123, 124, 125, 126, 127, 128, 129, 130, 131, 132, 133, 134, 135, 136, 137, 138, 139, 140, 141, 142, 143, 144, 145, 146, 147, 148, 149, 150, 151, 152, 153, 154, 155, 156, 157, 158, 159, 160, 161, 162, 163, 164, 165, 166, 167, 168, 169, 170, 171, 172, 173, 174, 175, 176, 177, 178, 179, 180, 181, 182, 183, 184, 185, 186, 187, 188, 189, 190, 191, 192, 193, 194, 195, 196, 197, 198, 199, 200, 201, 202, 203, 204, 205, 206, 207, 208, 209, 210, 211, 212, 213, 214, 215, 216, 217, 218, 219, 220, 221, 222, 223, 224, 225, 226, 227, 228, 229, 230, 231, 232, 233, 234, 235, 236, 237] (by decide +kernel) (by decide +kernel)) (goodIn_sub (fun _ h => List.mem_cons_of_mem _ (List.mem_append_left _ (List.mem_append_left _ (List.mem_append_right _ h)))) (by decide +kernel))) (goodIn_sub (fun _ h => List.mem_cons_of_mem _ (List.mem_append_left _ (List.mem_append_right _ h))) (by decide +kernel))) (goodIn_sub (fun _ h => List.mem_cons_of_mem _ (List.mem_append_right _ h)) (by decide +kernel))
set_option maxRecDepth 20000 in
theorem gL_advise_X4_advise : GoodIn wsL_advise (wsV RL 71 RX4 yX4_advise wsX4_advise) := goodIn_app (goodIn_of _ (by decide +kernel)) ggL_advise_X4_advise
theorem dL_advise_0 : decode cL_advise 0 = .ok (.aload_n 3, 1) := by decide +kernel
theorem dL_advise_1 : decode cL_advise 1 = .ok (.iconst 0, 1) := by decide +kernel
theorem dL_advise_2 : decode cL_advise 2 = .ok (.aload_n 0, 1) := by decide +kernel
theorem dL_advise_3 : decode cL_advise 3 = .ok (.iload_n 1, 1) := by decide +kernel
theorem dL_advise_4 : decode cL_advise 4 = .ok (.iload_n 2, 1) := by decide +kernel
theorem dL_advise_5 : decode cL_advise 5 = .ok (.invokevirtual 71, 3) := by decide +kernel
theorem dL_advise_8 : decode cL_advise 8 = .ok (.i2l, 1) := by decide +kernel
theorem dL_advise_9 : decode cL_advise 9 = .ok (.lastore, 1) := by decide +kernel
theorem dL_advise_10 : decode cL_advise 10 = .ok (.goto 15, 3) := by decide +kernel
theorem dL_advise_13 : decode cL_advise 13 = .ok (.astore 4, 2) := by decide +kernel
theorem dL_advise_15 : decode cL_advise 15 = .ok (.iconst 1, 1) := by decide +kernel
theorem dL_advise_16 : decode cL_advise 16 = .ok (.ireturn, 1) := by decide +kernel
theorem dL_advise_17 : decode cL_advise 17 = .ok (.astore 4, 2) := by decide +kernel
theorem dL_advise_19 : decode cL_advise 19 = .ok (.iconst 2, 1) := by decide +kernel
theorem dL_advise_20 : decode cL_advise 20 = .ok (.ireturn, 1) := by decide +kernel
theorem dL_advise_21 : decode cL_advise 21 = .ok (.astore 4, 2) := by decide +kernel
theorem dL_advise_23 : decode cL_advise 23 = .ok (.iconst 3, 1) := by decide +kernel
theorem dL_advise_24 : decode cL_advise 24 = .ok (.ireturn, 1) := by decide +kernel
theorem dL_advise_25 : decode cL_advise 25 = .ok (.iconst 0, 1) := by decide +kernel
theorem dL_advise_26 : decode cL_advise 26 = .ok (.ireturn, 1) := by decide +kernel
set_option maxRecDepth 20000 in
theorem ggL_price_X4_price : GoodIn wsL_price wsX4_price := goodIn_ca (goodIn_ca (goodIn_r _ [7, 8, 9, 10, 11, 6, 12, 13, 14, 15, 16, 17, 18, 19, 20, 21, 22, 23, 24, 25, 26, 27, 28, 29, 30, 31, 32, 33, 34, 35, 36, 37, 38, 39, 40, 41, 42, 43, 44, 45, 46, 47, 48, 49, 50, 51, 52, 53, 54, 55, 56, 57, 58, 59, 60, 61, 62, 63, 64, 65, 66, 67, 68, 69, 70, 71, 72, 73, 74, 75, 76, 77, 78, 79, 80, 81, 82, 83, 84, 85, 86, 87, 88, 89, 90, 91, 92, 93, 94, 95, 96, 97, 98, 99, 100, 101, 102, 103, 104, 105, 106, 107, 108, 109, 110, 111, 112, 113, 114, 115, 116, 117, 118, 119, 120, 121, 122, 123, 124, 125, 126, 127, 128, 129, 130, 131, 132, 133, 134, 135, 136, 137, 138, 139, 140, 141, 142, 143, 144, 145, 146, 147, 148, 149, 150, 151, 152, 153, 154, 155, 156, 157, 158, 159, 160, 161, 162, 163, 164, 165, 166, 167, 168, 169, 170, 171, 172, 173, 174, 175, 176, 177, 178, 179, 180, 181, 182, 183, 184, 185, 186, 187, 188, 189, 190, 191, 192, 193, 194, 195, 196, 197, 198, 199, 200, 201, 202, 203, 204, 205, 206, 207, 208, 209, 210, 211, 212, 213, 214, 215, 216, 217, 218, 219, 220, 221, 222, 223, 224, 225, 226, 227] (by decide +kernel) (by decide +kernel)) (goodIn_sub (fun _ h => List.mem_cons_of_mem _ (List.mem_append_left _ (List.mem_append_right _ h))) (by decide +kernel))) (goodIn_sub (fun _ h => List.mem_cons_of_mem _ (List.mem_append_right _ h)) (by decide +kernel))
set_option maxRecDepth 20000 in
theorem gL_price_X4_price : GoodIn wsL_price (wsV RL 74 RX4 yX4_price wsX4_price) := goodIn_app (goodIn_of _ (by decide +kernel)) ggL_price_X4_price
theorem dL_price_0 : decode cL_price 0 = .ok (.aload 4, 2) := by decide +kernel
theorem dL_price_2 : decode cL_price 2 = .ok (.iconst 0, 1) := by decide +kernel
theorem dL_price_3 : decode cL_price 3 = .ok (.aload_n 0, 1) := by decide +kernel
theorem dL_price_4 : decode cL_price 4 = .ok (.iload_n 1, 1) := by decide +kernel
theorem dL_price_5 : decode cL_price 5 = .ok (.iload_n 2, 1) := by decide +kernel
theorem dL_price_6 : decode cL_price 6 = .ok (.iload_n 3, 1) := by decide +kernel
theorem dL_price_7 : decode cL_price 7 = .ok (.invokevirtual 74, 3) := by decide +kernel
theorem dL_price_10 : decode cL_price 10 = .ok (.i2l, 1) := by decide +kernel
theorem dL_price_11 : decode cL_price 11 = .ok (.lastore, 1) := by decide +kernel
theorem dL_price_12 : decode cL_price 12 = .ok (.goto 11, 3) := by decide +kernel
theorem dL_price_15 : decode cL_price 15 = .ok (.astore 5, 2) := by decide +kernel
theorem dL_price_17 : decode cL_price 17 = .ok (.iconst 1, 1) := by decide +kernel
theorem dL_price_18 : decode cL_price 18 = .ok (.ireturn, 1) := by decide +kernel
theorem dL_price_19 : decode cL_price 19 = .ok (.astore 5, 2) := by decide +kernel
theorem dL_price_21 : decode cL_price 21 = .ok (.iconst 2, 1) := by decide +kernel
theorem dL_price_22 : decode cL_price 22 = .ok (.ireturn, 1) := by decide +kernel
theorem dL_price_23 : decode cL_price 23 = .ok (.iconst 0, 1) := by decide +kernel
theorem dL_price_24 : decode cL_price 24 = .ok (.ireturn, 1) := by decide +kernel
