theorem dX4_digest_94 : decode cX4_digest 94 = .ok (.goto (-28), 3) := by decide +kernel
theorem dX4_digest_97 : decode cX4_digest 97 = .ok (.iconst 0, 1) := by decide +kernel
theorem dX4_digest_98 : decode cX4_digest 98 = .ok (.istore_n 3, 1) := by decide +kernel
theorem dX4_digest_99 : decode cX4_digest 99 = .ok (.iload_n 3, 1) := by decide +kernel
theorem dX4_digest_100 : decode cX4_digest 100 = .ok (.aload_n 0, 1) := by decide +kernel
theorem dX4_digest_101 : decode cX4_digest 101 = .ok (.getfield 21, 3) := by decide +kernel
theorem dX4_digest_104 : decode cX4_digest 104 = .ok (.getfield 58, 3) := by decide +kernel
theorem dX4_digest_107 : decode cX4_digest 107 = .ok (.if_icmp .ge 23, 3) := by decide +kernel
theorem dX4_digest_110 : decode cX4_digest 110 = .ok (.aload_n 0, 1) := by decide +kernel
theorem dX4_digest_111 : decode cX4_digest 111 = .ok (.getfield 21, 3) := by decide +kernel
theorem dX4_digest_114 : decode cX4_digest 114 = .ok (.getfield 65, 3) := by decide +kernel
theorem dX4_digest_117 : decode cX4_digest 117 = .ok (.iload_n 3, 1) := by decide +kernel
theorem dX4_digest_118 : decode cX4_digest 118 = .ok (.aaload, 1) := by decide +kernel
theorem dX4_digest_119 : decode cX4_digest 119 = .ok (.lload_n 1, 1) := by decide +kernel
theorem dX4_digest_120 : decode cX4_digest 120 = .ok (.invokevirtual 182, 3) := by decide +kernel
theorem dX4_digest_123 : decode cX4_digest 123 = .ok (.lstore_n 1, 1) := by decide +kernel
theorem dX4_digest_124 : decode cX4_digest 124 = .ok (.iinc 3 1, 3) := by decide +kernel
theorem dX4_digest_127 : decode cX4_digest 127 = .ok (.goto (-28), 3) := by decide +kernel
theorem dX4_digest_130 : decode cX4_digest 130 = .ok (.lload_n 1, 1) := by decide +kernel
theorem dX4_digest_131 : decode cX4_digest 131 = .ok (.lreturn, 1) := by decide +kernel
set_option maxRecDepth 20000 in
theorem ggX4_stepsUntil_X1_copyFrom : GoodIn wsX4_stepsUntil wsX1_copyFrom := goodIn_r _ [8, 9, 10, 11, 12, 13, 14, 15, 16, 17, 18, 19, 20, 21, 22, 23, 24, 25, 26, 27, 28, 29, 30, 31, 32, 33, 34, 35, 36, 37, 38, 39, 40, 41, 42, 43, 44, 45, 46, 47, 48, 49, 50, 182, 183, 184, 185, 186, 187, 188, 189, 190, 191, 192, 193, 194, 195, 196, 197, 198, 199, 200, 201, 202, 203, 204, 205, 206, 207, 208, 209, 210] (by decide +kernel) (by decide +kernel)
set_option maxRecDepth 20000 in
theorem gX4_stepsUntil_X1_copyFrom : GoodIn wsX4_stepsUntil (wsV RX4 146 RX1 yX1_copyFrom wsX1_copyFrom) := goodIn_app (goodIn_of _ (by decide +kernel)) ggX4_stepsUntil_X1_copyFrom
set_option maxRecDepth 20000 in
theorem ggX4_stepsUntil_X1_passSteps : GoodIn wsX4_stepsUntil wsX1_passSteps := goodIn_r _ [54, 11, 55, 56, 57, 7, 58, 59, 9, 16, 60, 61, 62, 63, 64, 65, 66, 67, 68, 69, 70, 71, 72, 73, 74, 75, 76, 17, 77, 78, 79, 21, 80, 24, 25, 81, 82, 83, 84, 85, 15, 86, 87, 88, 89, 90, 91, 92, 93, 94, 14, 95, 96, 97, 98, 99, 100, 101, 102, 103, 104, 105, 106, 23, 107, 108, 109, 110, 111, 112, 113, 114, 115, 116, 117, 118, 119, 10, 120, 121, 122, 33, 123, 40, 124, 125, 126, 127, 128, 129, 130, 131, 132, 133, 134, 135, 136, 137, 138, 139, 140, 49, 46, 141, 142, 143, 144, 145, 146, 147, 148, 149, 150, 151, 152, 153, 154, 155, 156, 157, 158, 159, 160, 161, 162, 48, 163, 164, 165, 166, 167, 168, 169, 12, 13, 182, 183, 184, 185, 186, 187, 188, 189, 190, 191, 192, 193, 194, 195, 196, 197, 198, 199, 200, 201, 202, 203, 204, 205, 206, 207, 208, 209, 210, 211, 212] (by decide +kernel) (by decide +kernel)
set_option maxRecDepth 20000 in
theorem gX4_stepsUntil_X1_passSteps : GoodIn wsX4_stepsUntil (wsV RX4 141 RX1 yX1_passSteps wsX1_passSteps) := goodIn_app (goodIn_of _ (by decide +kernel)) ggX4_stepsUntil_X1_passSteps
set_option maxRecDepth 20000 in
theorem ggX4_stepsUntil_X0_hasReached : GoodIn wsX4_stepsUntil wsX0_hasReached := goodIn_r _ [173, 37, 174, 175, 176, 33, 177, 178, 138, 139, 140, 49, 46, 141, 142, 143, 144, 195, 196, 197, 198, 199, 200, 201, 202, 203, 204, 205, 206, 207, 208, 209, 210] (by decide +kernel) (by decide +kernel)
set_option maxRecDepth 20000 in
theorem gX4_stepsUntil_X0_hasReached : GoodIn wsX4_stepsUntil (wsV RX4 183 RX0 yX0_hasReached wsX0_hasReached) := goodIn_app (goodIn_of _ (by decide +kernel)) ggX4_stepsUntil_X0_hasReached
theorem dX4_stepsUntil_0 : decode cX4_stepsUntil 0 = .ok (.aload_n 0, 1) := by decide +kernel
theorem dX4_stepsUntil_1 : decode cX4_stepsUntil 1 = .ok (.getfield 25, 3) := by decide +kernel
theorem dX4_stepsUntil_4 : decode cX4_stepsUntil 4 = .ok (.aload_n 0, 1) := by decide +kernel
theorem dX4_stepsUntil_5 : decode cX4_stepsUntil 5 = .ok (.getfield 21, 3) := by decide +kernel
theorem dX4_stepsUntil_8 : decode cX4_stepsUntil 8 = .ok (.invokevirtual 146, 3) := by decide +kernel
theorem dX4_stepsUntil_11 : decode cX4_stepsUntil 11 = .ok (.aload_n 0, 1) := by decide +kernel
theorem dX4_stepsUntil_12 : decode cX4_stepsUntil 12 = .ok (.getfield 25, 3) := by decide +kernel
theorem dX4_stepsUntil_15 : decode cX4_stepsUntil 15 = .ok (.getfield 65, 3) := by decide +kernel
theorem dX4_stepsUntil_18 : decode cX4_stepsUntil 18 = .ok (.iload_n 1, 1) := by decide +kernel
theorem dX4_stepsUntil_19 : decode cX4_stepsUntil 19 = .ok (.aaload, 1) := by decide +kernel
theorem dX4_stepsUntil_20 : decode cX4_stepsUntil 20 = .ok (.astore_n 3, 1) := by decide +kernel
theorem dX4_stepsUntil_21 : decode cX4_stepsUntil 21 = .ok (.iconst 0, 1) := by decide +kernel
theorem dX4_stepsUntil_22 : decode cX4_stepsUntil 22 = .ok (.istore 4, 2) := by decide +kernel
theorem dX4_stepsUntil_24 : decode cX4_stepsUntil 24 = .ok (.iload 4, 2) := by decide +kernel
theorem dX4_stepsUntil_26 : decode cX4_stepsUntil 26 = .ok (.sipush 150, 3) := by decide +kernel
theorem dX4_stepsUntil_29 : decode cX4_stepsUntil 29 = .ok (.if_icmp .gt 33, 3) := by decide +kernel
theorem dX4_stepsUntil_32 : decode cX4_stepsUntil 32 = .ok (.iload 4, 2) := by decide +kernel
theorem dX4_stepsUntil_34 : decode cX4_stepsUntil 34 = .ok (.ifCond .le 11, 3) := by decide +kernel
theorem dX4_stepsUntil_37 : decode cX4_stepsUntil 37 = .ok (.aload_n 0, 1) := by decide +kernel
theorem dX4_stepsUntil_38 : decode cX4_stepsUntil 38 = .ok (.getfield 25, 3) := by decide +kernel
theorem dX4_stepsUntil_41 : decode cX4_stepsUntil 41 = .ok (.iconst 1, 1) := by decide +kernel
theorem dX4_stepsUntil_42 : decode cX4_stepsUntil 42 = .ok (.invokevirtual 141, 3) := by decide +kernel
theorem dX4_stepsUntil_45 : decode cX4_stepsUntil 45 = .ok (.aload_n 3, 1) := by decide +kernel
theorem dX4_stepsUntil_46 : decode cX4_stepsUntil 46 = .ok (.iload_n 2, 1) := by decide +kernel
theorem dX4_stepsUntil_47 : decode cX4_stepsUntil 47 = .ok (.invokevirtual 183, 3) := by decide +kernel
theorem dX4_stepsUntil_50 : decode cX4_stepsUntil 50 = .ok (.ifCond .eq 6, 3) := by decide +kernel
theorem dX4_stepsUntil_53 : decode cX4_stepsUntil 53 = .ok (.iload 4, 2) := by decide +kernel
theorem dX4_stepsUntil_55 : decode cX4_stepsUntil 55 = .ok (.ireturn, 1) := by decide +kernel
theorem dX4_stepsUntil_56 : decode cX4_stepsUntil 56 = .ok (.iinc 4 1, 3) := by decide +kernel
theorem dX4_stepsUntil_59 : decode cX4_stepsUntil 59 = .ok (.goto (-35), 3) := by decide +kernel
theorem dX4_stepsUntil_62 : decode cX4_stepsUntil 62 = .ok (.iconst (-1), 1) := by decide +kernel
theorem dX4_stepsUntil_63 : decode cX4_stepsUntil 63 = .ok (.ireturn, 1) := by decide +kernel
set_option maxRecDepth 20000 in
theorem ggX4_coinsIfMoored_X1_copyFrom : GoodIn wsX4_coinsIfMoored wsX1_copyFrom := goodIn_r _ [9, 10, 11, 12, 13, 14, 15, 16, 17, 18, 19, 20, 21, 22, 23, 24, 25, 26, 27, 28, 29, 30, 31, 32, 33, 34, 35, 36, 37, 38, 39, 40, 41, 42, 43, 44, 45, 46, 47, 48, 49, 50, 51, 175, 176, 177, 178, 179, 180, 181, 182, 183, 184, 201, 202, 203, 185, 186, 187, 188, 189, 190, 191, 192, 193, 194, 195, 196, 197, 198, 199, 200] (by decide +kernel) (by decide +kernel)
set_option maxRecDepth 20000 in
theorem gX4_coinsIfMoored_X1_copyFrom : GoodIn wsX4_coinsIfMoored (wsV RX4 146 RX1 yX1_copyFrom wsX1_copyFrom) := goodIn_app (goodIn_of _ (by decide +kernel)) ggX4_coinsIfMoored_X1_copyFrom
set_option maxRecDepth 20000 in
theorem ggX4_coinsIfMoored_X1_fasten : GoodIn wsX4_coinsIfMoored wsX1_fasten := goodIn_r _ [55, 56, 57, 17, 58, 59, 60, 61, 62, 63, 22, 64, 25, 24, 26, 185, 186, 187, 188, 189, 190, 191, 192, 193, 194, 195, 196, 197, 198, 199, 200, 175, 176, 177, 178, 179, 180, 181, 182, 183, 184, 201, 202, 203] (by decide +kernel) (by decide +kernel)
set_option maxRecDepth 20000 in
theorem gX4_coinsIfMoored_X1_fasten : GoodIn wsX4_coinsIfMoored (wsV RX4 99 RX1 yX1_fasten wsX1_fasten) := goodIn_app (goodIn_of _ (by decide +kernel)) ggX4_coinsIfMoored_X1_fasten
set_option maxRecDepth 20000 in
theorem ggX4_coinsIfMoored_X1_passSteps : GoodIn wsX4_coinsIfMoored wsX1_passSteps := goodIn_r _ [68, 12, 69, 70, 71, 8, 72, 73, 10, 17, 58, 74, 75, 76, 77, 78, 79, 80, 81, 82, 83, 84, 85, 86, 87, 88, 89, 18, 90, 91, 92, 22, 93, 25, 26, 94, 95, 96, 97, 98, 16, 99, 100, 101, 102, 56, 57, 59, 103, 104, 15, 105, 106, 107, 108, 109, 110, 111, 112, 113, 114, 115, 116, 24, 117, 53, 54, 55, 60, 61, 62, 63, 64, 118, 119, 120, 121, 11, 122, 123, 124, 34, 125, 41, 126, 127, 128, 129, 130, 131, 132, 133, 134, 135, 136, 137, 138, 139, 140, 141, 142, 50, 47, 143, 144, 145, 146, 147, 148, 149, 150, 151, 152, 153, 154, 155, 156, 157, 158, 159, 160, 161, 162, 163, 164, 49, 165, 166, 167, 168, 169, 170, 171, 13, 14, 175, 176, 177, 178, 179, 180, 181, 182, 183, 184, 201, 202, 203, 185, 186, 187, 188, 189, 190, 191, 192, 193, 194, 195, 196, 197, 198, 199, 200, 204, 205] (by decide +kernel) (by decide +kernel)
set_option maxRecDepth 20000 in
theorem gX4_coinsIfMoored_X1_passSteps : GoodIn wsX4_coinsIfMoored (wsV RX4 141 RX1 yX1_passSteps wsX1_passSteps) := goodIn_app (goodIn_of _ (by decide +kernel)) ggX4_coinsIfMoored_X1_passSteps
theorem dX4_coinsIfMoored_0 : decode cX4_coinsIfMoored 0 = .ok (.aload_n 0, 1) := by decide +kernel
theorem dX4_coinsIfMoored_1 : decode cX4_coinsIfMoored 1 = .ok (.getfield 25, 3) := by decide +kernel
theorem dX4_coinsIfMoored_4 : decode cX4_coinsIfMoored 4 = .ok (.aload_n 0, 1) := by decide +kernel
theorem dX4_coinsIfMoored_5 : decode cX4_coinsIfMoored 5 = .ok (.getfield 21, 3) := by decide +kernel
theorem dX4_coinsIfMoored_8 : decode cX4_coinsIfMoored 8 = .ok (.invokevirtual 146, 3) := by decide +kernel
theorem dX4_coinsIfMoored_11 : decode cX4_coinsIfMoored 11 = .ok (.aload_n 0, 1) := by decide +kernel
theorem dX4_coinsIfMoored_12 : decode cX4_coinsIfMoored 12 = .ok (.getfield 25, 3) := by decide +kernel
theorem dX4_coinsIfMoored_15 : decode cX4_coinsIfMoored 15 = .ok (.getfield 65, 3) := by decide +kernel
theorem dX4_coinsIfMoored_18 : decode cX4_coinsIfMoored 18 = .ok (.iload_n 1, 1) := by decide +kernel
theorem dX4_coinsIfMoored_19 : decode cX4_coinsIfMoored 19 = .ok (.aaload, 1) := by decide +kernel
theorem dX4_coinsIfMoored_20 : decode cX4_coinsIfMoored 20 = .ok (.astore 4, 2) := by decide +kernel
theorem dX4_coinsIfMoored_22 : decode cX4_coinsIfMoored 22 = .ok (.aload_n 0, 1) := by decide +kernel
theorem dX4_coinsIfMoored_23 : decode cX4_coinsIfMoored 23 = .ok (.getfield 25, 3) := by decide +kernel
theorem dX4_coinsIfMoored_26 : decode cX4_coinsIfMoored 26 = .ok (.aload 4, 2) := by decide +kernel
theorem dX4_coinsIfMoored_28 : decode cX4_coinsIfMoored 28 = .ok (.iload_n 2, 1) := by decide +kernel
theorem dX4_coinsIfMoored_29 : decode cX4_coinsIfMoored 29 = .ok (.invokevirtual 99, 3) := by decide +kernel
theorem dX4_coinsIfMoored_32 : decode cX4_coinsIfMoored 32 = .ok (.aload_n 0, 1) := by decide +kernel
theorem dX4_coinsIfMoored_33 : decode cX4_coinsIfMoored 33 = .ok (.getfield 25, 3) := by decide +kernel
theorem dX4_coinsIfMoored_36 : decode cX4_coinsIfMoored 36 = .ok (.iload_n 3, 1) := by decide +kernel
theorem dX4_coinsIfMoored_37 : decode cX4_coinsIfMoored 37 = .ok (.invokevirtual 141, 3) := by decide +kernel
theorem dX4_coinsIfMoored_40 : decode cX4_coinsIfMoored 40 = .ok (.aload 4, 2) := by decide +kernel
theorem dX4_coinsIfMoored_42 : decode cX4_coinsIfMoored 42 = .ok (.getfield 150, 3) := by decide +kernel
theorem dX4_coinsIfMoored_45 : decode cX4_coinsIfMoored 45 = .ok (.ireturn, 1) := by decide +kernel
set_option maxRecDepth 20000 in
theorem ggX4_soldIfAsking_X1_copyFrom : GoodIn wsX4_soldIfAsking wsX1_copyFrom := goodIn_r _ [10, 11, 12, 13, 14, 15, 16, 17, 18, 19, 20, 21, 22, 23, 24, 25, 26, 27, 28, 29, 30, 31, 32, 33, 34, 35, 36, 37, 38, 39, 40, 41, 42, 43, 44, 45, 46, 47, 48, 49, 50, 51, 52, 175, 176, 177, 178, 179, 180, 181, 182, 183, 184, 201, 202, 203, 185, 186, 187, 188, 189, 190, 191, 192, 193, 194, 195, 196, 197, 198, 199, 200] (by decide +kernel) (by decide +kernel)
set_option maxRecDepth 20000 in
theorem gX4_soldIfAsking_X1_copyFrom : GoodIn wsX4_soldIfAsking (wsV RX4 146 RX1 yX1_copyFrom wsX1_copyFrom) := goodIn_app (goodIn_of _ (by decide +kernel)) ggX4_soldIfAsking_X1_copyFrom
set_option maxRecDepth 20000 in
theorem ggX4_soldIfAsking_X1_passSteps : GoodIn wsX4_soldIfAsking wsX1_passSteps := goodIn_r _ [56, 13, 57, 58, 59, 9, 60, 61, 11, 18, 62, 63, 64, 65, 66, 67, 68, 69, 70, 71, 72, 73, 74, 75, 76, 77, 78, 19, 79, 80, 81, 23, 82, 26, 27, 83, 84, 85, 86, 87, 17, 88, 89, 90, 91, 92, 93, 94, 95, 96, 16, 97, 98, 99, 100, 101, 102, 103, 104, 105, 106, 107, 108, 25, 109, 110, 111, 112, 113, 114, 115, 116, 117, 118, 119, 120, 121, 12, 122, 123, 124, 35, 125, 42, 126, 127, 128, 129, 130, 131, 132, 133, 134, 135, 136, 137, 138, 139, 140, 141, 142, 51, 48, 143, 144, 145, 146, 147, 148, 149, 150, 151, 152, 153, 154, 155, 156, 157, 158, 159, 160, 161, 162, 163, 164, 50, 165, 166, 167, 168, 169, 170, 171, 14, 15, 175, 176, 177, 178, 179, 180, 181, 182, 183, 184, 201, 202, 203, 185, 186, 187, 188, 189, 190, 191, 192, 193, 194, 195, 196, 197, 198, 199, 200, 204, 205] (by decide +kernel) (by decide +kernel)
set_option maxRecDepth 20000 in
theorem gX4_soldIfAsking_X1_passSteps : GoodIn wsX4_soldIfAsking (wsV RX4 141 RX1 yX1_passSteps wsX1_passSteps) := goodIn_app (goodIn_of _ (by decide +kernel)) ggX4_soldIfAsking_X1_passSteps
theorem dX4_soldIfAsking_0 : decode cX4_soldIfAsking 0 = .ok (.aload_n 0, 1) := by decide +kernel
theorem dX4_soldIfAsking_1 : decode cX4_soldIfAsking 1 = .ok (.getfield 25, 3) := by decide +kernel
theorem dX4_soldIfAsking_4 : decode cX4_soldIfAsking 4 = .ok (.aload_n 0, 1) := by decide +kernel
theorem dX4_soldIfAsking_5 : decode cX4_soldIfAsking 5 = .ok (.getfield 21, 3) := by decide +kernel
theorem dX4_soldIfAsking_8 : decode cX4_soldIfAsking 8 = .ok (.invokevirtual 146, 3) := by decide +kernel
theorem dX4_soldIfAsking_11 : decode cX4_soldIfAsking 11 = .ok (.aload_n 0, 1) := by decide +kernel
theorem dX4_soldIfAsking_12 : decode cX4_soldIfAsking 12 = .ok (.getfield 25, 3) := by decide +kernel
theorem dX4_soldIfAsking_15 : decode cX4_soldIfAsking 15 = .ok (.getfield 65, 3) := by decide +kernel
theorem dX4_soldIfAsking_18 : decode cX4_soldIfAsking 18 = .ok (.iload_n 1, 1) := by decide +kernel
theorem dX4_soldIfAsking_19 : decode cX4_soldIfAsking 19 = .ok (.aaload, 1) := by decide +kernel
theorem dX4_soldIfAsking_20 : decode cX4_soldIfAsking 20 = .ok (.astore 5, 2) := by decide +kernel
theorem dX4_soldIfAsking_22 : decode cX4_soldIfAsking 22 = .ok (.aload 5, 2) := by decide +kernel
theorem dX4_soldIfAsking_24 : decode cX4_soldIfAsking 24 = .ok (.getfield 77, 3) := by decide +kernel
theorem dX4_soldIfAsking_27 : decode cX4_soldIfAsking 27 = .ok (.iload_n 2, 1) := by decide +kernel
theorem dX4_soldIfAsking_28 : decode cX4_soldIfAsking 28 = .ok (.iload_n 3, 1) := by decide +kernel
theorem dX4_soldIfAsking_29 : decode cX4_soldIfAsking 29 = .ok (.iastore, 1) := by decide +kernel
theorem dX4_soldIfAsking_30 : decode cX4_soldIfAsking 30 = .ok (.aload_n 0, 1) := by decide +kernel
theorem dX4_soldIfAsking_31 : decode cX4_soldIfAsking 31 = .ok (.getfield 25, 3) := by decide +kernel
theorem dX4_soldIfAsking_34 : decode cX4_soldIfAsking 34 = .ok (.iload 4, 2) := by decide +kernel
theorem dX4_soldIfAsking_36 : decode cX4_soldIfAsking 36 = .ok (.invokevirtual 141, 3) := by decide +kernel
theorem dX4_soldIfAsking_39 : decode cX4_soldIfAsking 39 = .ok (.aload 5, 2) := by decide +kernel
theorem dX4_soldIfAsking_41 : decode cX4_soldIfAsking 41 = .ok (.getfield 187, 3) := by decide +kernel
theorem dX4_soldIfAsking_44 : decode cX4_soldIfAsking 44 = .ok (.ireturn, 1) := by decide +kernel
theorem dX4_needIndex_0 : decode cX4_needIndex 0 = .ok (.iload_n 0, 1) := by decide +kernel
theorem dX4_needIndex_1 : decode cX4_needIndex 1 = .ok (.ifCond .lt 8, 3) := by decide +kernel
theorem dX4_needIndex_4 : decode cX4_needIndex 4 = .ok (.iload_n 0, 1) := by decide +kernel
theorem dX4_needIndex_5 : decode cX4_needIndex 5 = .ok (.iload_n 1, 1) := by decide +kernel
theorem dX4_needIndex_6 : decode cX4_needIndex 6 = .ok (.if_icmp .lt 13, 3) := by decide +kernel
theorem dX4_needIndex_9 : decode cX4_needIndex 9 = .ok (.new 188, 3) := by decide +kernel
theorem dX4_needIndex_12 : decode cX4_needIndex 12 = .ok (.dup, 1) := by decide +kernel
theorem dX4_needIndex_13 : decode cX4_needIndex 13 = .ok (.ldc 190, 2) := by decide +kernel
theorem dX4_needIndex_15 : decode cX4_needIndex 15 = .ok (.invokespecial 192, 3) := by decide +kernel
theorem dX4_needIndex_18 : decode cX4_needIndex 18 = .ok (.athrow, 1) := by decide +kernel
theorem dX4_needIndex_19 : decode cX4_needIndex 19 = .ok (.return_, 1) := by decide +kernel
theorem dX4_needRange_0 : decode cX4_needRange 0 = .ok (.iload_n 0, 1) := by decide +kernel
theorem dX4_needRange_1 : decode cX4_needRange 1 = .ok (.iload_n 1, 1) := by decide +kernel
theorem dX4_needRange_2 : decode cX4_needRange 2 = .ok (.if_icmp .lt 8, 3) := by decide +kernel
theorem dX4_needRange_5 : decode cX4_needRange 5 = .ok (.iload_n 0, 1) := by decide +kernel
theorem dX4_needRange_6 : decode cX4_needRange 6 = .ok (.iload_n 2, 1) := by decide +kernel
theorem dX4_needRange_7 : decode cX4_needRange 7 = .ok (.if_icmp .le 13, 3) := by decide +kernel
theorem dX4_needRange_10 : decode cX4_needRange 10 = .ok (.new 195, 3) := by decide +kernel
theorem dX4_needRange_13 : decode cX4_needRange 13 = .ok (.dup, 1) := by decide +kernel
theorem dX4_needRange_14 : decode cX4_needRange 14 = .ok (.ldc 197, 2) := by decide +kernel
theorem dX4_needRange_16 : decode cX4_needRange 16 = .ok (.invokespecial 199, 3) := by decide +kernel
theorem dX4_needRange_19 : decode cX4_needRange 19 = .ok (.athrow, 1) := by decide +kernel
theorem dX4_needRange_20 : decode cX4_needRange 20 = .ok (.return_, 1) := by decide +kernel
theorem dX4_needState_0 : decode cX4_needState 0 = .ok (.iload_n 0, 1) := by decide +kernel
theorem dX4_needState_1 : decode cX4_needState 1 = .ok (.ifCond .ne 13, 3) := by decide +kernel
theorem dX4_needState_4 : decode cX4_needState 4 = .ok (.new 200, 3) := by decide +kernel
theorem dX4_needState_7 : decode cX4_needState 7 = .ok (.dup, 1) := by decide +kernel
theorem dX4_needState_8 : decode cX4_needState 8 = .ok (.ldc 202, 2) := by decide +kernel
theorem dX4_needState_10 : decode cX4_needState 10 = .ok (.invokespecial 204, 3) := by decide +kernel
theorem dX4_needState_13 : decode cX4_needState 13 = .ok (.athrow, 1) := by decide +kernel
theorem dX4_needState_14 : decode cX4_needState 14 = .ok (.return_, 1) := by decide +kernel
theorem dX5_init_0 : decode cX5_init 0 = .ok (.aload_n 0, 1) := by decide +kernel
theorem dX5_init_1 : decode cX5_init 1 = .ok (.aload_n 1, 1) := by decide +kernel
theorem dX5_init_2 : decode cX5_init 2 = .ok (.putfield 3, 3) := by decide +kernel
theorem dX5_init_5 : decode cX5_init 5 = .ok (.aload_n 0, 1) := by decide +kernel
theorem dX5_init_6 : decode cX5_init 6 = .ok (.invokespecial 9, 3) := by decide +kernel
theorem dX5_init_9 : decode cX5_init 9 = .ok (.aload_n 0, 1) := by decide +kernel
theorem dX5_init_10 : decode cX5_init 10 = .ok (.bipush 14, 2) := by decide +kernel
theorem dX5_init_12 : decode cX5_init 12 = .ok (.newarray .int, 2) := by decide +kernel
theorem dX5_init_14 : decode cX5_init 14 = .ok (.putfield 15, 3) := by decide +kernel
theorem dX5_init_17 : decode cX5_init 17 = .ok (.aload_n 0, 1) := by decide +kernel
theorem dX5_init_18 : decode cX5_init 18 = .ok (.bipush 56, 2) := by decide +kernel
theorem dX5_init_20 : decode cX5_init 20 = .ok (.newarray .int, 2) := by decide +kernel
theorem dX5_init_22 : decode cX5_init 22 = .ok (.putfield 19, 3) := by decide +kernel
theorem dX5_init_25 : decode cX5_init 25 = .ok (.aload_n 0, 1) := by decide +kernel
theorem dX5_init_26 : decode cX5_init 26 = .ok (.bipush 14, 2) := by decide +kernel
theorem dX5_init_28 : decode cX5_init 28 = .ok (.newarray .int, 2) := by decide +kernel
theorem dX5_init_30 : decode cX5_init 30 = .ok (.putfield 22, 3) := by decide +kernel
theorem dX5_init_33 : decode cX5_init 33 = .ok (.aload_n 0, 1) := by decide +kernel
theorem dX5_init_34 : decode cX5_init 34 = .ok (.bipush 14, 2) := by decide +kernel
theorem dX5_init_36 : decode cX5_init 36 = .ok (.newarray .int, 2) := by decide +kernel
theorem dX5_init_38 : decode cX5_init 38 = .ok (.putfield 25, 3) := by decide +kernel
theorem dX5_init_41 : decode cX5_init 41 = .ok (.aload_n 0, 1) := by decide +kernel
theorem dX5_init_42 : decode cX5_init 42 = .ok (.bipush 14, 2) := by decide +kernel
theorem dX5_init_44 : decode cX5_init 44 = .ok (.newarray .int, 2) := by decide +kernel
theorem dX5_init_46 : decode cX5_init 46 = .ok (.putfield 28, 3) := by decide +kernel
theorem dX5_init_49 : decode cX5_init 49 = .ok (.aload_n 0, 1) := by decide +kernel
theorem dX5_init_50 : decode cX5_init 50 = .ok (.bipush 14, 2) := by decide +kernel
theorem dX5_init_52 : decode cX5_init 52 = .ok (.newarray .int, 2) := by decide +kernel
theorem dX5_init_54 : decode cX5_init 54 = .ok (.putfield 31, 3) := by decide +kernel
theorem dX5_init_57 : decode cX5_init 57 = .ok (.aload_n 0, 1) := by decide +kernel
theorem dX5_init_58 : decode cX5_init 58 = .ok (.bipush 14, 2) := by decide +kernel
theorem dX5_init_60 : decode cX5_init 60 = .ok (.newarray .int, 2) := by decide +kernel
theorem dX5_init_62 : decode cX5_init 62 = .ok (.putfield 34, 3) := by decide +kernel
theorem dX5_init_65 : decode cX5_init 65 = .ok (.aload_n 0, 1) := by decide +kernel
theorem dX5_init_66 : decode cX5_init 66 = .ok (.bipush 14, 2) := by decide +kernel
theorem dX5_init_68 : decode cX5_init 68 = .ok (.newarray .int, 2) := by decide +kernel
theorem dX5_init_70 : decode cX5_init 70 = .ok (.putfield 37, 3) := by decide +kernel
theorem dX5_init_73 : decode cX5_init 73 = .ok (.aload_n 0, 1) := by decide +kernel
theorem dX5_init_74 : decode cX5_init 74 = .ok (.bipush 14, 2) := by decide +kernel
theorem dX5_init_76 : decode cX5_init 76 = .ok (.newarray .int, 2) := by decide +kernel
theorem dX5_init_78 : decode cX5_init 78 = .ok (.putfield 40, 3) := by decide +kernel
theorem dX5_init_81 : decode cX5_init 81 = .ok (.aload_n 0, 1) := by decide +kernel
theorem dX5_init_82 : decode cX5_init 82 = .ok (.bipush 14, 2) := by decide +kernel
theorem dX5_init_84 : decode cX5_init 84 = .ok (.newarray .int, 2) := by decide +kernel
theorem dX5_init_86 : decode cX5_init 86 = .ok (.putfield 43, 3) := by decide +kernel
theorem dX5_init_89 : decode cX5_init 89 = .ok (.return_, 1) := by decide +kernel
theorem dX5_copy_0 : decode cX5_copy 0 = .ok (.aload_n 1, 1) := by decide +kernel
theorem dX5_copy_1 : decode cX5_copy 1 = .ok (.iconst 0, 1) := by decide +kernel
theorem dX5_copy_2 : decode cX5_copy 2 = .ok (.aload_n 2, 1) := by decide +kernel
theorem dX5_copy_3 : decode cX5_copy 3 = .ok (.iconst 0, 1) := by decide +kernel
theorem dX5_copy_4 : decode cX5_copy 4 = .ok (.aload_n 1, 1) := by decide +kernel
theorem dX5_copy_5 : decode cX5_copy 5 = .ok (.arraylength, 1) := by decide +kernel
theorem dX5_copy_6 : decode cX5_copy 6 = .ok (.invokestatic 46, 3) := by decide +kernel
theorem dX5_copy_9 : decode cX5_copy 9 = .ok (.return_, 1) := by decide +kernel
set_option maxRecDepth 20000 in
theorem ggX5_become_X5_copy : GoodIn wsX5_become wsX5_copy := goodIn_r _ [18, 19, 20, 21, 22] (by decide +kernel) (by decide +kernel)
set_option maxRecDepth 20000 in
theorem gX5_become_X5_copy : GoodIn wsX5_become (wsV RX5 62 RX5 yX5_copy wsX5_copy) := goodIn_app (goodIn_of _ (by decide +kernel)) ggX5_become_X5_copy
theorem dX5_become_0 : decode cX5_become 0 = .ok (.aload_n 0, 1) := by decide +kernel
theorem dX5_become_1 : decode cX5_become 1 = .ok (.aload_n 1, 1) := by decide +kernel
theorem dX5_become_2 : decode cX5_become 2 = .ok (.getfield 52, 3) := by decide +kernel
theorem dX5_become_5 : decode cX5_become 5 = .ok (.putfield 52, 3) := by decide +kernel
theorem dX5_become_8 : decode cX5_become 8 = .ok (.aload_n 0, 1) := by decide +kernel
theorem dX5_become_9 : decode cX5_become 9 = .ok (.aload_n 1, 1) := by decide +kernel
theorem dX5_become_10 : decode cX5_become 10 = .ok (.getfield 56, 3) := by decide +kernel
theorem dX5_become_13 : decode cX5_become 13 = .ok (.putfield 56, 3) := by decide +kernel
theorem dX5_become_16 : decode cX5_become 16 = .ok (.aload_n 0, 1) := by decide +kernel
theorem dX5_become_17 : decode cX5_become 17 = .ok (.aload_n 1, 1) := by decide +kernel
theorem dX5_become_18 : decode cX5_become 18 = .ok (.getfield 59, 3) := by decide +kernel
theorem dX5_become_21 : decode cX5_become 21 = .ok (.putfield 59, 3) := by decide +kernel
theorem dX5_become_24 : decode cX5_become 24 = .ok (.aload_n 0, 1) := by decide +kernel
theorem dX5_become_25 : decode cX5_become 25 = .ok (.aload_n 1, 1) := by decide +kernel
theorem dX5_become_26 : decode cX5_become 26 = .ok (.getfield 15, 3) := by decide +kernel
theorem dX5_become_29 : decode cX5_become 29 = .ok (.aload_n 0, 1) := by decide +kernel
theorem dX5_become_30 : decode cX5_become 30 = .ok (.getfield 15, 3) := by decide +kernel
theorem dX5_become_33 : decode cX5_become 33 = .ok (.invokevirtual 62, 3) := by decide +kernel
theorem dX5_become_36 : decode cX5_become 36 = .ok (.aload_n 0, 1) := by decide +kernel
theorem dX5_become_37 : decode cX5_become 37 = .ok (.aload_n 1, 1) := by decide +kernel
theorem dX5_become_38 : decode cX5_become 38 = .ok (.getfield 19, 3) := by decide +kernel
theorem dX5_become_41 : decode cX5_become 41 = .ok (.aload_n 0, 1) := by decide +kernel
theorem dX5_become_42 : decode cX5_become 42 = .ok (.getfield 19, 3) := by decide +kernel
theorem dX5_become_45 : decode cX5_become 45 = .ok (.invokevirtual 62, 3) := by decide +kernel
theorem dX5_become_48 : decode cX5_become 48 = .ok (.aload_n 0, 1) := by decide +kernel
theorem dX5_become_49 : decode cX5_become 49 = .ok (.aload_n 1, 1) := by decide +kernel
theorem dX5_become_50 : decode cX5_become 50 = .ok (.getfield 22, 3) := by decide +kernel
theorem dX5_become_53 : decode cX5_become 53 = .ok (.aload_n 0, 1) := by decide +kernel
theorem dX5_become_54 : decode cX5_become 54 = .ok (.getfield 22, 3) := by decide +kernel
theorem dX5_become_57 : decode cX5_become 57 = .ok (.invokevirtual 62, 3) := by decide +kernel
theorem dX5_become_60 : decode cX5_become 60 = .ok (.aload_n 0, 1) := by decide +kernel
theorem dX5_become_61 : decode cX5_become 61 = .ok (.aload_n 1, 1) := by decide +kernel
theorem dX5_become_62 : decode cX5_become 62 = .ok (.getfield 25, 3) := by decide +kernel
theorem dX5_become_65 : decode cX5_become 65 = .ok (.aload_n 0, 1) := by decide +kernel
theorem dX5_become_66 : decode cX5_become 66 = .ok (.getfield 25, 3) := by decide +kernel
theorem dX5_become_69 : decode cX5_become 69 = .ok (.invokevirtual 62, 3) := by decide +kernel
theorem dX5_become_72 : decode cX5_become 72 = .ok (.aload_n 0, 1) := by decide +kernel
theorem dX5_become_73 : decode cX5_become 73 = .ok (.aload_n 1, 1) := by decide +kernel
theorem dX5_become_74 : decode cX5_become 74 = .ok (.getfield 28, 3) := by decide +kernel
theorem dX5_become_77 : decode cX5_become 77 = .ok (.aload_n 0, 1) := by decide +kernel
theorem dX5_become_78 : decode cX5_become 78 = .ok (.getfield 28, 3) := by decide +kernel
theorem dX5_become_81 : decode cX5_become 81 = .ok (.invokevirtual 62, 3) := by decide +kernel
theorem dX5_become_84 : decode cX5_become 84 = .ok (.aload_n 0, 1) := by decide +kernel
theorem dX5_become_85 : decode cX5_become 85 = .ok (.aload_n 1, 1) := by decide +kernel
theorem dX5_become_86 : decode cX5_become 86 = .ok (.getfield 31, 3) := by decide +kernel
theorem dX5_become_89 : decode cX5_become 89 = .ok (.aload_n 0, 1) := by decide +kernel
theorem dX5_become_90 : decode cX5_become 90 = .ok (.getfield 31, 3) := by decide +kernel
theorem dX5_become_93 : decode cX5_become 93 = .ok (.invokevirtual 62, 3) := by decide +kernel
theorem dX5_become_96 : decode cX5_become 96 = .ok (.aload_n 0, 1) := by decide +kernel
theorem dX5_become_97 : decode cX5_become 97 = .ok (.aload_n 1, 1) := by decide +kernel
theorem dX5_become_98 : decode cX5_become 98 = .ok (.getfield 34, 3) := by decide +kernel
theorem dX5_become_101 : decode cX5_become 101 = .ok (.aload_n 0, 1) := by decide +kernel
theorem dX5_become_102 : decode cX5_become 102 = .ok (.getfield 34, 3) := by decide +kernel
theorem dX5_become_105 : decode cX5_become 105 = .ok (.invokevirtual 62, 3) := by decide +kernel
theorem dX5_become_108 : decode cX5_become 108 = .ok (.aload_n 0, 1) := by decide +kernel
theorem dX5_become_109 : decode cX5_become 109 = .ok (.aload_n 1, 1) := by decide +kernel
theorem dX5_become_110 : decode cX5_become 110 = .ok (.getfield 37, 3) := by decide +kernel
theorem dX5_become_113 : decode cX5_become 113 = .ok (.aload_n 0, 1) := by decide +kernel
theorem dX5_become_114 : decode cX5_become 114 = .ok (.getfield 37, 3) := by decide +kernel
theorem dX5_become_117 : decode cX5_become 117 = .ok (.invokevirtual 62, 3) := by decide +kernel
theorem dX5_become_120 : decode cX5_become 120 = .ok (.aload_n 0, 1) := by decide +kernel
theorem dX5_become_121 : decode cX5_become 121 = .ok (.aload_n 1, 1) := by decide +kernel
theorem dX5_become_122 : decode cX5_become 122 = .ok (.getfield 40, 3) := by decide +kernel
theorem dX5_become_125 : decode cX5_become 125 = .ok (.aload_n 0, 1) := by decide +kernel
theorem dX5_become_126 : decode cX5_become 126 = .ok (.getfield 40, 3) := by decide +kernel
theorem dX5_become_129 : decode cX5_become 129 = .ok (.invokevirtual 62, 3) := by decide +kernel
theorem dX5_become_132 : decode cX5_become 132 = .ok (.aload_n 0, 1) := by decide +kernel
theorem dX5_become_133 : decode cX5_become 133 = .ok (.aload_n 1, 1) := by decide +kernel
theorem dX5_become_134 : decode cX5_become 134 = .ok (.getfield 43, 3) := by decide +kernel
theorem dX5_become_137 : decode cX5_become 137 = .ok (.aload_n 0, 1) := by decide +kernel
theorem dX5_become_138 : decode cX5_become 138 = .ok (.getfield 43, 3) := by decide +kernel
theorem dX5_become_141 : decode cX5_become 141 = .ok (.invokevirtual 62, 3) := by decide +kernel
theorem dX5_become_144 : decode cX5_become 144 = .ok (.return_, 1) := by decide +kernel
theorem dX5_at_0 : decode cX5_at 0 = .ok (.iconst 0, 1) := by decide +kernel
theorem dX5_at_1 : decode cX5_at 1 = .ok (.istore_n 3, 1) := by decide +kernel
theorem dX5_at_2 : decode cX5_at 2 = .ok (.iload_n 3, 1) := by decide +kernel
theorem dX5_at_3 : decode cX5_at 3 = .ok (.aload_n 0, 1) := by decide +kernel
theorem dX5_at_4 : decode cX5_at 4 = .ok (.getfield 3, 3) := by decide +kernel
theorem dX5_at_7 : decode cX5_at 7 = .ok (.getfield 66, 3) := by decide +kernel
theorem dX5_at_10 : decode cX5_at 10 = .ok (.if_icmp .ge 41, 3) := by decide +kernel
theorem dX5_at_13 : decode cX5_at 13 = .ok (.aload_n 0, 1) := by decide +kernel
theorem dX5_at_14 : decode cX5_at 14 = .ok (.getfield 22, 3) := by decide +kernel
theorem dX5_at_17 : decode cX5_at 17 = .ok (.iload_n 3, 1) := by decide +kernel
theorem dX5_at_18 : decode cX5_at 18 = .ok (.iaload, 1) := by decide +kernel
theorem dX5_at_19 : decode cX5_at 19 = .ok (.iconst 1, 1) := by decide +kernel
theorem dX5_at_20 : decode cX5_at 20 = .ok (.if_icmp .ne 25, 3) := by decide +kernel
theorem dX5_at_23 : decode cX5_at 23 = .ok (.aload_n 0, 1) := by decide +kernel
theorem dX5_at_24 : decode cX5_at 24 = .ok (.getfield 25, 3) := by decide +kernel
theorem dX5_at_27 : decode cX5_at 27 = .ok (.iload_n 3, 1) := by decide +kernel
theorem dX5_at_28 : decode cX5_at 28 = .ok (.iaload, 1) := by decide +kernel
theorem dX5_at_29 : decode cX5_at 29 = .ok (.iload_n 1, 1) := by decide +kernel
theorem dX5_at_30 : decode cX5_at 30 = .ok (.if_icmp .ne 15, 3) := by decide +kernel
theorem dX5_at_33 : decode cX5_at 33 = .ok (.aload_n 0, 1) := by decide +kernel
theorem dX5_at_34 : decode cX5_at 34 = .ok (.getfield 28, 3) := by decide +kernel
theorem dX5_at_37 : decode cX5_at 37 = .ok (.iload_n 3, 1) := by decide +kernel
theorem dX5_at_38 : decode cX5_at 38 = .ok (.iaload, 1) := by decide +kernel
theorem dX5_at_39 : decode cX5_at 39 = .ok (.iload_n 2, 1) := by decide +kernel
theorem dX5_at_40 : decode cX5_at 40 = .ok (.if_icmp .ne 5, 3) := by decide +kernel
theorem dX5_at_43 : decode cX5_at 43 = .ok (.iload_n 3, 1) := by decide +kernel
theorem dX5_at_44 : decode cX5_at 44 = .ok (.ireturn, 1) := by decide +kernel
theorem dX5_at_45 : decode cX5_at 45 = .ok (.iinc 3 1, 3) := by decide +kernel
theorem dX5_at_48 : decode cX5_at 48 = .ok (.goto (-46), 3) := by decide +kernel
theorem dX5_at_51 : decode cX5_at 51 = .ok (.iconst (-1), 1) := by decide +kernel
theorem dX5_at_52 : decode cX5_at 52 = .ok (.ireturn, 1) := by decide +kernel
theorem dX5_in_0 : decode cX5_in 0 = .ok (.iconst 0, 1) := by decide +kernel
theorem dX5_in_1 : decode cX5_in 1 = .ok (.istore_n 2, 1) := by decide +kernel
theorem dX5_in_2 : decode cX5_in 2 = .ok (.iconst 0, 1) := by decide +kernel
theorem dX5_in_3 : decode cX5_in 3 = .ok (.istore_n 3, 1) := by decide +kernel
theorem dX5_in_4 : decode cX5_in 4 = .ok (.iload_n 3, 1) := by decide +kernel
theorem dX5_in_5 : decode cX5_in 5 = .ok (.aload_n 0, 1) := by decide +kernel
theorem dX5_in_6 : decode cX5_in 6 = .ok (.getfield 3, 3) := by decide +kernel
theorem dX5_in_9 : decode cX5_in 9 = .ok (.getfield 66, 3) := by decide +kernel
theorem dX5_in_12 : decode cX5_in 12 = .ok (.if_icmp .ge 37, 3) := by decide +kernel
theorem dX5_in_15 : decode cX5_in 15 = .ok (.iload_n 2, 1) := by decide +kernel
theorem dX5_in_16 : decode cX5_in 16 = .ok (.aload_n 0, 1) := by decide +kernel
theorem dX5_in_17 : decode cX5_in 17 = .ok (.getfield 22, 3) := by decide +kernel
theorem dX5_in_20 : decode cX5_in 20 = .ok (.iload_n 3, 1) := by decide +kernel
theorem dX5_in_21 : decode cX5_in 21 = .ok (.iaload, 1) := by decide +kernel
theorem dX5_in_22 : decode cX5_in 22 = .ok (.iconst 1, 1) := by decide +kernel
theorem dX5_in_23 : decode cX5_in 23 = .ok (.if_icmp .ne 17, 3) := by decide +kernel
theorem dX5_in_26 : decode cX5_in 26 = .ok (.aload_n 0, 1) := by decide +kernel
theorem dX5_in_27 : decode cX5_in 27 = .ok (.getfield 25, 3) := by decide +kernel
theorem dX5_in_30 : decode cX5_in 30 = .ok (.iload_n 3, 1) := by decide +kernel
theorem dX5_in_31 : decode cX5_in 31 = .ok (.iaload, 1) := by decide +kernel
theorem dX5_in_32 : decode cX5_in 32 = .ok (.iload_n 1, 1) := by decide +kernel
theorem dX5_in_33 : decode cX5_in 33 = .ok (.if_icmp .ne 7, 3) := by decide +kernel
theorem dX5_in_36 : decode cX5_in 36 = .ok (.iconst 1, 1) := by decide +kernel
theorem dX5_in_37 : decode cX5_in 37 = .ok (.goto 4, 3) := by decide +kernel
theorem dX5_in_40 : decode cX5_in 40 = .ok (.iconst 0, 1) := by decide +kernel
theorem dX5_in_41 : decode cX5_in 41 = .ok (.iadd, 1) := by decide +kernel
theorem dX5_in_42 : decode cX5_in 42 = .ok (.istore_n 2, 1) := by decide +kernel
theorem dX5_in_43 : decode cX5_in 43 = .ok (.iinc 3 1, 3) := by decide +kernel
theorem dX5_in_46 : decode cX5_in 46 = .ok (.goto (-42), 3) := by decide +kernel
theorem dX5_in_49 : decode cX5_in 49 = .ok (.iload_n 2, 1) := by decide +kernel
theorem dX5_in_50 : decode cX5_in 50 = .ok (.ireturn, 1) := by decide +kernel
set_option maxRecDepth 20000 in
theorem ggX5_isFull_X5_in : GoodIn wsX5_isFull wsX5_in := goodIn_r _ [6, 1, 7, 8, 9, 10, 11, 12, 13, 14, 15, 16, 17, 18, 19, 20, 21, 22, 23, 24, 25, 26, 27, 28, 29, 30, 31, 32, 33, 34, 35] (by decide +kernel) (by decide +kernel)
set_option maxRecDepth 20000 in
theorem gX5_isFull_X5_in : GoodIn wsX5_isFull (wsV RX5 69 RX5 yX5_in wsX5_in) := goodIn_app (goodIn_of _ (by decide +kernel)) ggX5_isFull_X5_in
theorem dX5_isFull_0 : decode cX5_isFull 0 = .ok (.aload_n 0, 1) := by decide +kernel
theorem dX5_isFull_1 : decode cX5_isFull 1 = .ok (.iload_n 1, 1) := by decide +kernel
theorem dX5_isFull_2 : decode cX5_isFull 2 = .ok (.invokevirtual 69, 3) := by decide +kernel
theorem dX5_isFull_5 : decode cX5_isFull 5 = .ok (.aload_n 0, 1) := by decide +kernel
theorem dX5_isFull_6 : decode cX5_isFull 6 = .ok (.getfield 3, 3) := by decide +kernel
theorem dX5_isFull_9 : decode cX5_isFull 9 = .ok (.getfield 73, 3) := by decide +kernel
theorem dX5_isFull_12 : decode cX5_isFull 12 = .ok (.iload_n 1, 1) := by decide +kernel
theorem dX5_isFull_13 : decode cX5_isFull 13 = .ok (.iaload, 1) := by decide +kernel
theorem dX5_isFull_14 : decode cX5_isFull 14 = .ok (.if_icmp .ne 7, 3) := by decide +kernel
theorem dX5_isFull_17 : decode cX5_isFull 17 = .ok (.iconst 1, 1) := by decide +kernel
theorem dX5_isFull_18 : decode cX5_isFull 18 = .ok (.goto 4, 3) := by decide +kernel
theorem dX5_isFull_21 : decode cX5_isFull 21 = .ok (.iconst 0, 1) := by decide +kernel
theorem dX5_isFull_22 : decode cX5_isFull 22 = .ok (.ireturn, 1) := by decide +kernel
theorem dX5_isDry_0 : decode cX5_isDry 0 = .ok (.aload_n 0, 1) := by decide +kernel
theorem dX5_isDry_1 : decode cX5_isDry 1 = .ok (.getfield 28, 3) := by decide +kernel
theorem dX5_isDry_4 : decode cX5_isDry 4 = .ok (.iload_n 1, 1) := by decide +kernel
theorem dX5_isDry_5 : decode cX5_isDry 5 = .ok (.iaload, 1) := by decide +kernel
theorem dX5_isDry_6 : decode cX5_isDry 6 = .ok (.aload_n 0, 1) := by decide +kernel
theorem dX5_isDry_7 : decode cX5_isDry 7 = .ok (.getfield 3, 3) := by decide +kernel
theorem dX5_isDry_10 : decode cX5_isDry 10 = .ok (.getfield 76, 3) := by decide +kernel
theorem dX5_isDry_13 : decode cX5_isDry 13 = .ok (.aload_n 0, 1) := by decide +kernel
theorem dX5_isDry_14 : decode cX5_isDry 14 = .ok (.getfield 52, 3) := by decide +kernel
theorem dX5_isDry_17 : decode cX5_isDry 17 = .ok (.bipush 24, 2) := by decide +kernel
theorem dX5_isDry_19 : decode cX5_isDry 19 = .ok (.irem, 1) := by decide +kernel
theorem dX5_isDry_20 : decode cX5_isDry 20 = .ok (.iaload, 1) := by decide +kernel
theorem dX5_isDry_21 : decode cX5_isDry 21 = .ok (.iadd, 1) := by decide +kernel
theorem dX5_isDry_22 : decode cX5_isDry 22 = .ok (.iconst 4, 1) := by decide +kernel
theorem dX5_isDry_23 : decode cX5_isDry 23 = .ok (.if_icmp .ge 7, 3) := by decide +kernel
theorem dX5_isDry_26 : decode cX5_isDry 26 = .ok (.iconst 1, 1) := by decide +kernel
theorem dX5_isDry_27 : decode cX5_isDry 27 = .ok (.goto 4, 3) := by decide +kernel
theorem dX5_isDry_30 : decode cX5_isDry 30 = .ok (.iconst 0, 1) := by decide +kernel
theorem dX5_isDry_31 : decode cX5_isDry 31 = .ok (.ireturn, 1) := by decide +kernel
set_option maxRecDepth 20000 in
theorem ggX5_moor_X5_in : GoodIn wsX5_moor wsX5_in := goodIn_r _ [8, 9, 3, 2, 10, 11, 12, 13, 14, 15, 16, 17, 18, 19, 20, 21, 22, 23, 24, 25, 26, 27, 28, 29, 30, 31, 32, 33, 34, 35, 36] (by decide +kernel) (by decide +kernel)
set_option maxRecDepth 20000 in
theorem gX5_moor_X5_in : GoodIn wsX5_moor (wsV RX5 69 RX5 yX5_in wsX5_in) := goodIn_app (goodIn_of _ (by decide +kernel)) ggX5_moor_X5_in
theorem dX5_moor_0 : decode cX5_moor 0 = .ok (.aload_n 0, 1) := by decide +kernel
theorem dX5_moor_1 : decode cX5_moor 1 = .ok (.getfield 28, 3) := by decide +kernel
theorem dX5_moor_4 : decode cX5_moor 4 = .ok (.iload_n 1, 1) := by decide +kernel
theorem dX5_moor_5 : decode cX5_moor 5 = .ok (.aload_n 0, 1) := by decide +kernel
theorem dX5_moor_6 : decode cX5_moor 6 = .ok (.iload_n 2, 1) := by decide +kernel
theorem dX5_moor_7 : decode cX5_moor 7 = .ok (.invokevirtual 69, 3) := by decide +kernel
theorem dX5_moor_10 : decode cX5_moor 10 = .ok (.iastore, 1) := by decide +kernel
theorem dX5_moor_11 : decode cX5_moor 11 = .ok (.aload_n 0, 1) := by decide +kernel
theorem dX5_moor_12 : decode cX5_moor 12 = .ok (.getfield 25, 3) := by decide +kernel
theorem dX5_moor_15 : decode cX5_moor 15 = .ok (.iload_n 1, 1) := by decide +kernel
theorem dX5_moor_16 : decode cX5_moor 16 = .ok (.iload_n 2, 1) := by decide +kernel
theorem dX5_moor_17 : decode cX5_moor 17 = .ok (.iastore, 1) := by decide +kernel
theorem dX5_moor_18 : decode cX5_moor 18 = .ok (.aload_n 0, 1) := by decide +kernel
theorem dX5_moor_19 : decode cX5_moor 19 = .ok (.getfield 22, 3) := by decide +kernel
theorem dX5_moor_22 : decode cX5_moor 22 = .ok (.iload_n 1, 1) := by decide +kernel
theorem dX5_moor_23 : decode cX5_moor 23 = .ok (.iconst 1, 1) := by decide +kernel
theorem dX5_moor_24 : decode cX5_moor 24 = .ok (.iastore, 1) := by decide +kernel
theorem dX5_moor_25 : decode cX5_moor 25 = .ok (.return_, 1) := by decide +kernel
theorem dX5_castOff_0 : decode cX5_castOff 0 = .ok (.iconst 0, 1) := by decide +kernel
theorem dX5_castOff_1 : decode cX5_castOff 1 = .ok (.istore_n 2, 1) := by decide +kernel
theorem dX5_castOff_2 : decode cX5_castOff 2 = .ok (.aload_n 0, 1) := by decide +kernel
theorem dX5_castOff_3 : decode cX5_castOff 3 = .ok (.getfield 22, 3) := by decide +kernel
theorem dX5_castOff_6 : decode cX5_castOff 6 = .ok (.iload_n 1, 1) := by decide +kernel
theorem dX5_castOff_7 : decode cX5_castOff 7 = .ok (.iconst 0, 1) := by decide +kernel
theorem dX5_castOff_8 : decode cX5_castOff 8 = .ok (.iastore, 1) := by decide +kernel
theorem dX5_castOff_9 : decode cX5_castOff 9 = .ok (.iconst 0, 1) := by decide +kernel
theorem dX5_castOff_10 : decode cX5_castOff 10 = .ok (.istore_n 3, 1) := by decide +kernel
theorem dX5_castOff_11 : decode cX5_castOff 11 = .ok (.iload_n 3, 1) := by decide +kernel
theorem dX5_castOff_12 : decode cX5_castOff 12 = .ok (.aload_n 0, 1) := by decide +kernel
theorem dX5_castOff_13 : decode cX5_castOff 13 = .ok (.getfield 3, 3) := by decide +kernel
theorem dX5_castOff_16 : decode cX5_castOff 16 = .ok (.getfield 66, 3) := by decide +kernel
theorem dX5_castOff_19 : decode cX5_castOff 19 = .ok (.if_icmp .ge 75, 3) := by decide +kernel
theorem dX5_castOff_22 : decode cX5_castOff 22 = .ok (.aload_n 0, 1) := by decide +kernel
theorem dX5_castOff_23 : decode cX5_castOff 23 = .ok (.getfield 22, 3) := by decide +kernel
theorem dX5_castOff_26 : decode cX5_castOff 26 = .ok (.iload_n 3, 1) := by decide +kernel
theorem dX5_castOff_27 : decode cX5_castOff 27 = .ok (.iaload, 1) := by decide +kernel
theorem dX5_castOff_28 : decode cX5_castOff 28 = .ok (.iconst 1, 1) := by decide +kernel
theorem dX5_castOff_29 : decode cX5_castOff 29 = .ok (.if_icmp .ne 59, 3) := by decide +kernel
theorem dX5_castOff_32 : decode cX5_castOff 32 = .ok (.aload_n 0, 1) := by decide +kernel
theorem dX5_castOff_33 : decode cX5_castOff 33 = .ok (.getfield 25, 3) := by decide +kernel
theorem dX5_castOff_36 : decode cX5_castOff 36 = .ok (.iload_n 3, 1) := by decide +kernel
theorem dX5_castOff_37 : decode cX5_castOff 37 = .ok (.iaload, 1) := by decide +kernel
theorem dX5_castOff_38 : decode cX5_castOff 38 = .ok (.aload_n 0, 1) := by decide +kernel
theorem dX5_castOff_39 : decode cX5_castOff 39 = .ok (.getfield 25, 3) := by decide +kernel
theorem dX5_castOff_42 : decode cX5_castOff 42 = .ok (.iload_n 1, 1) := by decide +kernel
theorem dX5_castOff_43 : decode cX5_castOff 43 = .ok (.iaload, 1) := by decide +kernel
theorem dX5_castOff_44 : decode cX5_castOff 44 = .ok (.if_icmp .ne 44, 3) := by decide +kernel
theorem dX5_castOff_47 : decode cX5_castOff 47 = .ok (.aload_n 0, 1) := by decide +kernel
theorem dX5_castOff_48 : decode cX5_castOff 48 = .ok (.getfield 28, 3) := by decide +kernel
theorem dX5_castOff_51 : decode cX5_castOff 51 = .ok (.iload_n 3, 1) := by decide +kernel
theorem dX5_castOff_52 : decode cX5_castOff 52 = .ok (.iaload, 1) := by decide +kernel
theorem dX5_castOff_53 : decode cX5_castOff 53 = .ok (.aload_n 0, 1) := by decide +kernel
theorem dX5_castOff_54 : decode cX5_castOff 54 = .ok (.getfield 28, 3) := by decide +kernel
theorem dX5_castOff_57 : decode cX5_castOff 57 = .ok (.iload_n 1, 1) := by decide +kernel
theorem dX5_castOff_58 : decode cX5_castOff 58 = .ok (.iaload, 1) := by decide +kernel
theorem dX5_castOff_59 : decode cX5_castOff 59 = .ok (.if_icmp .ge 6, 3) := by decide +kernel
theorem dX5_castOff_62 : decode cX5_castOff 62 = .ok (.goto 26, 3) := by decide +kernel
theorem dX5_castOff_65 : decode cX5_castOff 65 = .ok (.aload_n 0, 1) := by decide +kernel
theorem dX5_castOff_66 : decode cX5_castOff 66 = .ok (.getfield 28, 3) := by decide +kernel
theorem dX5_castOff_69 : decode cX5_castOff 69 = .ok (.iload_n 3, 1) := by decide +kernel
theorem dX5_castOff_70 : decode cX5_castOff 70 = .ok (.dup2, 1) := by decide +kernel
theorem dX5_castOff_71 : decode cX5_castOff 71 = .ok (.iaload, 1) := by decide +kernel
theorem dX5_castOff_72 : decode cX5_castOff 72 = .ok (.iconst 1, 1) := by decide +kernel
theorem dX5_castOff_73 : decode cX5_castOff 73 = .ok (.isub, 1) := by decide +kernel
theorem dX5_castOff_74 : decode cX5_castOff 74 = .ok (.iastore, 1) := by decide +kernel
theorem dX5_castOff_75 : decode cX5_castOff 75 = .ok (.aload_n 0, 1) := by decide +kernel
theorem dX5_castOff_76 : decode cX5_castOff 76 = .ok (.getfield 34, 3) := by decide +kernel
theorem dX5_castOff_79 : decode cX5_castOff 79 = .ok (.iload_n 3, 1) := by decide +kernel
theorem dX5_castOff_80 : decode cX5_castOff 80 = .ok (.dup2, 1) := by decide +kernel
theorem dX5_castOff_81 : decode cX5_castOff 81 = .ok (.iaload, 1) := by decide +kernel
theorem dX5_castOff_82 : decode cX5_castOff 82 = .ok (.iconst 1, 1) := by decide +kernel
theorem dX5_castOff_83 : decode cX5_castOff 83 = .ok (.iadd, 1) := by decide +kernel
theorem dX5_castOff_84 : decode cX5_castOff 84 = .ok (.iastore, 1) := by decide +kernel
theorem dX5_castOff_85 : decode cX5_castOff 85 = .ok (.iinc 2 1, 3) := by decide +kernel
theorem dX5_castOff_88 : decode cX5_castOff 88 = .ok (.iinc 3 1, 3) := by decide +kernel
theorem dX5_castOff_91 : decode cX5_castOff 91 = .ok (.goto (-80), 3) := by decide +kernel
theorem dX5_castOff_94 : decode cX5_castOff 94 = .ok (.iload_n 2, 1) := by decide +kernel
theorem dX5_castOff_95 : decode cX5_castOff 95 = .ok (.ireturn, 1) := by decide +kernel
theorem dX5_beside_0 : decode cX5_beside 0 = .ok (.aload_n 0, 1) := by decide +kernel
theorem dX5_beside_1 : decode cX5_beside 1 = .ok (.getfield 22, 3) := by decide +kernel
theorem dX5_beside_4 : decode cX5_beside 4 = .ok (.iload_n 1, 1) := by decide +kernel
theorem dX5_beside_5 : decode cX5_beside 5 = .ok (.iaload, 1) := by decide +kernel
theorem dX5_beside_6 : decode cX5_beside 6 = .ok (.iconst 1, 1) := by decide +kernel
theorem dX5_beside_7 : decode cX5_beside 7 = .ok (.if_icmp .ne 13, 3) := by decide +kernel
theorem dX5_beside_10 : decode cX5_beside 10 = .ok (.aload_n 0, 1) := by decide +kernel
theorem dX5_beside_11 : decode cX5_beside 11 = .ok (.getfield 22, 3) := by decide +kernel
theorem dX5_beside_14 : decode cX5_beside 14 = .ok (.iload_n 2, 1) := by decide +kernel
theorem dX5_beside_15 : decode cX5_beside 15 = .ok (.iaload, 1) := by decide +kernel
theorem dX5_beside_16 : decode cX5_beside 16 = .ok (.iconst 1, 1) := by decide +kernel
theorem dX5_beside_17 : decode cX5_beside 17 = .ok (.if_icmp .eq 5, 3) := by decide +kernel
theorem dX5_beside_20 : decode cX5_beside 20 = .ok (.iconst 0, 1) := by decide +kernel
theorem dX5_beside_21 : decode cX5_beside 21 = .ok (.ireturn, 1) := by decide +kernel
theorem dX5_beside_22 : decode cX5_beside 22 = .ok (.aload_n 0, 1) := by decide +kernel
theorem dX5_beside_23 : decode cX5_beside 23 = .ok (.getfield 25, 3) := by decide +kernel
theorem dX5_beside_26 : decode cX5_beside 26 = .ok (.iload_n 1, 1) := by decide +kernel
theorem dX5_beside_27 : decode cX5_beside 27 = .ok (.iaload, 1) := by decide +kernel
theorem dX5_beside_28 : decode cX5_beside 28 = .ok (.aload_n 0, 1) := by decide +kernel
theorem dX5_beside_29 : decode cX5_beside 29 = .ok (.getfield 25, 3) := by decide +kernel
theorem dX5_beside_32 : decode cX5_beside 32 = .ok (.iload_n 2, 1) := by decide +kernel
theorem dX5_beside_33 : decode cX5_beside 33 = .ok (.iaload, 1) := by decide +kernel
theorem dX5_beside_34 : decode cX5_beside 34 = .ok (.isub, 1) := by decide +kernel
theorem dX5_beside_35 : decode cX5_beside 35 = .ok (.invokestatic 79, 3) := by decide +kernel
theorem dX5_beside_38 : decode cX5_beside 38 = .ok (.aload_n 0, 1) := by decide +kernel
theorem dX5_beside_39 : decode cX5_beside 39 = .ok (.getfield 28, 3) := by decide +kernel
theorem dX5_beside_42 : decode cX5_beside 42 = .ok (.iload_n 1, 1) := by decide +kernel
theorem dX5_beside_43 : decode cX5_beside 43 = .ok (.iaload, 1) := by decide +kernel
theorem dX5_beside_44 : decode cX5_beside 44 = .ok (.aload_n 0, 1) := by decide +kernel
theorem dX5_beside_45 : decode cX5_beside 45 = .ok (.getfield 28, 3) := by decide +kernel
theorem dX5_beside_48 : decode cX5_beside 48 = .ok (.iload_n 2, 1) := by decide +kernel
theorem dX5_beside_49 : decode cX5_beside 49 = .ok (.iaload, 1) := by decide +kernel
theorem dX5_beside_50 : decode cX5_beside 50 = .ok (.isub, 1) := by decide +kernel
theorem dX5_beside_51 : decode cX5_beside 51 = .ok (.invokestatic 79, 3) := by decide +kernel
theorem dX5_beside_54 : decode cX5_beside 54 = .ok (.iadd, 1) := by decide +kernel
theorem dX5_beside_55 : decode cX5_beside 55 = .ok (.iconst 1, 1) := by decide +kernel
theorem dX5_beside_56 : decode cX5_beside 56 = .ok (.if_icmp .ne 7, 3) := by decide +kernel
theorem dX5_beside_59 : decode cX5_beside 59 = .ok (.iconst 1, 1) := by decide +kernel
theorem dX5_beside_60 : decode cX5_beside 60 = .ok (.goto 4, 3) := by decide +kernel
theorem dX5_beside_63 : decode cX5_beside 63 = .ok (.iconst 0, 1) := by decide +kernel
theorem dX5_beside_64 : decode cX5_beside 64 = .ok (.ireturn, 1) := by decide +kernel
theorem dX5_misses_0 : decode cX5_misses 0 = .ok (.iconst 0, 1) := by decide +kernel
theorem dX5_misses_1 : decode cX5_misses 1 = .ok (.aload_n 0, 1) := by decide +kernel
theorem dX5_misses_2 : decode cX5_misses 2 = .ok (.getfield 3, 3) := by decide +kernel
theorem dX5_misses_5 : decode cX5_misses 5 = .ok (.getfield 84, 3) := by decide +kernel
theorem dX5_misses_8 : decode cX5_misses 8 = .ok (.iconst 4, 1) := by decide +kernel
theorem dX5_misses_9 : decode cX5_misses 9 = .ok (.iload_n 1, 1) := by decide +kernel
theorem dX5_misses_10 : decode cX5_misses 10 = .ok (.imul, 1) := by decide +kernel
theorem dX5_misses_11 : decode cX5_misses 11 = .ok (.iload_n 2, 1) := by decide +kernel
theorem dX5_misses_12 : decode cX5_misses 12 = .ok (.iadd, 1) := by decide +kernel
theorem dX5_misses_13 : decode cX5_misses 13 = .ok (.iaload, 1) := by decide +kernel
theorem dX5_misses_14 : decode cX5_misses 14 = .ok (.aload_n 0, 1) := by decide +kernel
theorem dX5_misses_15 : decode cX5_misses 15 = .ok (.getfield 19, 3) := by decide +kernel
theorem dX5_misses_18 : decode cX5_misses 18 = .ok (.iconst 4, 1) := by decide +kernel
theorem dX5_misses_19 : decode cX5_misses 19 = .ok (.iload_n 1, 1) := by decide +kernel
theorem dX5_misses_20 : decode cX5_misses 20 = .ok (.imul, 1) := by decide +kernel
theorem dX5_misses_21 : decode cX5_misses 21 = .ok (.iload_n 2, 1) := by decide +kernel
theorem dX5_misses_22 : decode cX5_misses 22 = .ok (.iadd, 1) := by decide +kernel
theorem dX5_misses_23 : decode cX5_misses 23 = .ok (.iaload, 1) := by decide +kernel
theorem dX5_misses_24 : decode cX5_misses 24 = .ok (.isub, 1) := by decide +kernel
theorem dX5_misses_25 : decode cX5_misses 25 = .ok (.invokestatic 87, 3) := by decide +kernel
theorem dX5_misses_28 : decode cX5_misses 28 = .ok (.ireturn, 1) := by decide +kernel
set_option maxRecDepth 20000 in
theorem ggX5_misses__X5_misses : GoodIn wsX5_misses_ wsX5_misses := goodIn_r _ [5, 6, 7, 8, 9, 10, 11, 12, 13, 14, 15, 16, 17, 18, 19, 20, 21, 22, 23, 24, 25, 26, 27, 28, 29, 30, 31, 32, 33, 34, 35, 36, 37, 38] (by decide +kernel) (by decide +kernel)
set_option maxRecDepth 20000 in
theorem gX5_misses__X5_misses : GoodIn wsX5_misses_ (wsV RX5 91 RX5 yX5_misses wsX5_misses) := goodIn_app (goodIn_of _ (by decide +kernel)) ggX5_misses__X5_misses
theorem dX5_misses__0 : decode cX5_misses_ 0 = .ok (.iconst 0, 1) := by decide +kernel
theorem dX5_misses__1 : decode cX5_misses_ 1 = .ok (.istore_n 2, 1) := by decide +kernel
theorem dX5_misses__2 : decode cX5_misses_ 2 = .ok (.iconst 0, 1) := by decide +kernel
theorem dX5_misses__3 : decode cX5_misses_ 3 = .ok (.istore_n 3, 1) := by decide +kernel
theorem dX5_misses__4 : decode cX5_misses_ 4 = .ok (.iload_n 3, 1) := by decide +kernel
theorem dX5_misses__5 : decode cX5_misses_ 5 = .ok (.iconst 4, 1) := by decide +kernel
theorem dX5_misses__6 : decode cX5_misses_ 6 = .ok (.if_icmp .ge 18, 3) := by decide +kernel
theorem dX5_misses__9 : decode cX5_misses_ 9 = .ok (.iload_n 2, 1) := by decide +kernel
theorem dX5_misses__10 : decode cX5_misses_ 10 = .ok (.aload_n 0, 1) := by decide +kernel
theorem dX5_misses__11 : decode cX5_misses_ 11 = .ok (.iload_n 1, 1) := by decide +kernel
theorem dX5_misses__12 : decode cX5_misses_ 12 = .ok (.iload_n 3, 1) := by decide +kernel
theorem dX5_misses__13 : decode cX5_misses_ 13 = .ok (.invokevirtual 91, 3) := by decide +kernel
theorem dX5_misses__16 : decode cX5_misses_ 16 = .ok (.iadd, 1) := by decide +kernel
theorem dX5_misses__17 : decode cX5_misses_ 17 = .ok (.istore_n 2, 1) := by decide +kernel
theorem dX5_misses__18 : decode cX5_misses_ 18 = .ok (.iinc 3 1, 3) := by decide +kernel
theorem dX5_misses__21 : decode cX5_misses_ 21 = .ok (.goto (-17), 3) := by decide +kernel
theorem dX5_misses__24 : decode cX5_misses_ 24 = .ok (.iload_n 2, 1) := by decide +kernel
theorem dX5_misses__25 : decode cX5_misses_ 25 = .ok (.ireturn, 1) := by decide +kernel
set_option maxRecDepth 20000 in
theorem ggX5_drift_X5_in : GoodIn wsX5_drift wsX5_in := goodIn_r _ [9, 1, 4, 10, 24, 25, 26, 27, 28, 29, 30, 31, 32, 33, 34, 35, 36, 37, 38, 39, 40, 41, 42, 43, 44, 45, 46, 47, 48, 49, 50] (by decide +kernel) (by decide +kernel)
set_option maxRecDepth 20000 in
theorem gX5_drift_X5_in : GoodIn wsX5_drift (wsV RX5 69 RX5 yX5_in wsX5_in) := goodIn_app (goodIn_of _ (by decide +kernel)) ggX5_drift_X5_in
set_option maxRecDepth 20000 in
theorem ggX5_drift_X5_at : GoodIn wsX5_drift wsX5_at := goodIn_r _ [14, 1, 4, 10, 15, 24, 25, 26, 27, 28, 29, 30, 31, 32, 33, 34, 35, 36, 37, 38, 39, 40, 41, 42, 43, 44, 45, 46, 47, 48, 49, 50] (by decide +kernel) (by decide +kernel)
set_option maxRecDepth 20000 in
theorem gX5_drift_X5_at : GoodIn wsX5_drift (wsV RX5 94 RX5 yX5_at wsX5_at) := goodIn_app (goodIn_of _ (by decide +kernel)) ggX5_drift_X5_at
set_option maxRecDepth 20000 in
theorem ggX5_drift_X5_isFull : GoodIn wsX5_drift wsX5_isFull := goodIn_r _ [19, 1, 5, 6, 7, 8, 9, 4, 10, 24, 25, 26, 27, 28, 29, 30, 31, 32, 33, 34, 35, 36, 37, 38, 39, 40, 41, 42, 43, 44, 45, 46, 47, 48, 49, 50] (by decide +kernel) (by decide +kernel)
set_option maxRecDepth 20000 in
theorem gX5_drift_X5_isFull : GoodIn wsX5_drift (wsV RX5 106 RX5 yX5_isFull wsX5_isFull) := goodIn_app (goodIn_of _ (by decide +kernel)) ggX5_drift_X5_isFull
set_option maxRecDepth 20000 in
theorem ggX5_drift_X5_moor : GoodIn wsX5_drift wsX5_moor := goodIn_r _ [23, 15, 10, 4, 5, 6, 7, 8, 9, 1, 24, 25, 26, 27, 28, 29, 30, 31, 32, 33, 34, 35, 36, 37, 38, 39, 40, 41, 42, 43, 44, 45, 46, 47, 48, 49, 50] (by decide +kernel) (by decide +kernel)
set_option maxRecDepth 20000 in
theorem gX5_drift_X5_moor : GoodIn wsX5_drift (wsV RX5 110 RX5 yX5_moor wsX5_moor) := goodIn_app (goodIn_of _ (by decide +kernel)) ggX5_drift_X5_moor
theorem dX5_drift_0 : decode cX5_drift 0 = .ok (.aload_n 0, 1) := by decide +kernel
theorem dX5_drift_1 : decode cX5_drift 1 = .ok (.iload_n 1, 1) := by decide +kernel
theorem dX5_drift_2 : decode cX5_drift 2 = .ok (.invokevirtual 69, 3) := by decide +kernel
theorem dX5_drift_5 : decode cX5_drift 5 = .ok (.ifCond .ne 7, 3) := by decide +kernel
theorem dX5_drift_8 : decode cX5_drift 8 = .ok (.iconst (-1), 1) := by decide +kernel
theorem dX5_drift_9 : decode cX5_drift 9 = .ok (.goto 15, 3) := by decide +kernel
theorem dX5_drift_12 : decode cX5_drift 12 = .ok (.aload_n 0, 1) := by decide +kernel
theorem dX5_drift_13 : decode cX5_drift 13 = .ok (.iload_n 1, 1) := by decide +kernel
theorem dX5_drift_14 : decode cX5_drift 14 = .ok (.aload_n 0, 1) := by decide +kernel
theorem dX5_drift_15 : decode cX5_drift 15 = .ok (.iload_n 1, 1) := by decide +kernel
theorem dX5_drift_16 : decode cX5_drift 16 = .ok (.invokevirtual 69, 3) := by decide +kernel
theorem dX5_drift_19 : decode cX5_drift 19 = .ok (.iconst 1, 1) := by decide +kernel
theorem dX5_drift_20 : decode cX5_drift 20 = .ok (.isub, 1) := by decide +kernel
theorem dX5_drift_21 : decode cX5_drift 21 = .ok (.invokevirtual 94, 3) := by decide +kernel
theorem dX5_drift_24 : decode cX5_drift 24 = .ok (.istore_n 3, 1) := by decide +kernel
theorem dX5_drift_25 : decode cX5_drift 25 = .ok (.iload_n 3, 1) := by decide +kernel
theorem dX5_drift_26 : decode cX5_drift 26 = .ok (.iconst (-1), 1) := by decide +kernel
theorem dX5_drift_27 : decode cX5_drift 27 = .ok (.if_icmp .eq 36, 3) := by decide +kernel
theorem dX5_drift_30 : decode cX5_drift 30 = .ok (.aload_n 2, 1) := by decide +kernel
theorem dX5_drift_31 : decode cX5_drift 31 = .ok (.iload_n 3, 1) := by decide +kernel
theorem dX5_drift_32 : decode cX5_drift 32 = .ok (.baload, 1) := by decide +kernel
theorem dX5_drift_33 : decode cX5_drift 33 = .ok (.ifCond .ne 30, 3) := by decide +kernel
theorem dX5_drift_36 : decode cX5_drift 36 = .ok (.aload_n 0, 1) := by decide +kernel
theorem dX5_drift_37 : decode cX5_drift 37 = .ok (.getfield 3, 3) := by decide +kernel
theorem dX5_drift_40 : decode cX5_drift 40 = .ok (.getfield 97, 3) := by decide +kernel
theorem dX5_drift_43 : decode cX5_drift 43 = .ok (.iload_n 3, 1) := by decide +kernel
theorem dX5_drift_44 : decode cX5_drift 44 = .ok (.iaload, 1) := by decide +kernel
theorem dX5_drift_45 : decode cX5_drift 45 = .ok (.aload_n 0, 1) := by decide +kernel
theorem dX5_drift_46 : decode cX5_drift 46 = .ok (.getfield 3, 3) := by decide +kernel
theorem dX5_drift_49 : decode cX5_drift 49 = .ok (.getfield 100, 3) := by decide +kernel
theorem dX5_drift_52 : decode cX5_drift 52 = .ok (.aload_n 0, 1) := by decide +kernel
theorem dX5_drift_53 : decode cX5_drift 53 = .ok (.getfield 52, 3) := by decide +kernel
theorem dX5_drift_56 : decode cX5_drift 56 = .ok (.bipush 24, 2) := by decide +kernel
theorem dX5_drift_58 : decode cX5_drift 58 = .ok (.irem, 1) := by decide +kernel
theorem dX5_drift_59 : decode cX5_drift 59 = .ok (.iaload, 1) := by decide +kernel
theorem dX5_drift_60 : decode cX5_drift 60 = .ok (.if_icmp .lt 4, 3) := by decide +kernel
theorem dX5_drift_63 : decode cX5_drift 63 = .ok (.return_, 1) := by decide +kernel
theorem dX5_drift_64 : decode cX5_drift 64 = .ok (.aload_n 2, 1) := by decide +kernel
theorem dX5_drift_65 : decode cX5_drift 65 = .ok (.iload_n 3, 1) := by decide +kernel
theorem dX5_drift_66 : decode cX5_drift 66 = .ok (.iconst 1, 1) := by decide +kernel
theorem dX5_drift_67 : decode cX5_drift 67 = .ok (.bastore, 1) := by decide +kernel
theorem dX5_drift_68 : decode cX5_drift 68 = .ok (.aload_n 0, 1) := by decide +kernel
theorem dX5_drift_69 : decode cX5_drift 69 = .ok (.getfield 37, 3) := by decide +kernel
theorem dX5_drift_72 : decode cX5_drift 72 = .ok (.iload_n 3, 1) := by decide +kernel
theorem dX5_drift_73 : decode cX5_drift 73 = .ok (.dup2, 1) := by decide +kernel
theorem dX5_drift_74 : decode cX5_drift 74 = .ok (.iaload, 1) := by decide +kernel
theorem dX5_drift_75 : decode cX5_drift 75 = .ok (.iconst 1, 1) := by decide +kernel
theorem dX5_drift_76 : decode cX5_drift 76 = .ok (.iadd, 1) := by decide +kernel
theorem dX5_drift_77 : decode cX5_drift 77 = .ok (.iastore, 1) := by decide +kernel
theorem dX5_drift_78 : decode cX5_drift 78 = .ok (.aload_n 0, 1) := by decide +kernel
theorem dX5_drift_79 : decode cX5_drift 79 = .ok (.getfield 22, 3) := by decide +kernel
theorem dX5_drift_82 : decode cX5_drift 82 = .ok (.iload_n 3, 1) := by decide +kernel
theorem dX5_drift_83 : decode cX5_drift 83 = .ok (.iconst 0, 1) := by decide +kernel
theorem dX5_drift_84 : decode cX5_drift 84 = .ok (.iastore, 1) := by decide +kernel
theorem dX5_drift_85 : decode cX5_drift 85 = .ok (.iconst 1, 1) := by decide +kernel
theorem dX5_drift_86 : decode cX5_drift 86 = .ok (.istore 4, 2) := by decide +kernel
theorem dX5_drift_88 : decode cX5_drift 88 = .ok (.iload 4, 2) := by decide +kernel
theorem dX5_drift_90 : decode cX5_drift 90 = .ok (.aload_n 0, 1) := by decide +kernel
theorem dX5_drift_91 : decode cX5_drift 91 = .ok (.getfield 3, 3) := by decide +kernel
theorem dX5_drift_94 : decode cX5_drift 94 = .ok (.getfield 103, 3) := by decide +kernel
theorem dX5_drift_97 : decode cX5_drift 97 = .ok (.if_icmp .ge 54, 3) := by decide +kernel
theorem dX5_drift_100 : decode cX5_drift 100 = .ok (.aload_n 0, 1) := by decide +kernel
theorem dX5_drift_101 : decode cX5_drift 101 = .ok (.getfield 22, 3) := by decide +kernel
theorem dX5_drift_104 : decode cX5_drift 104 = .ok (.iload_n 3, 1) := by decide +kernel
theorem dX5_drift_105 : decode cX5_drift 105 = .ok (.iaload, 1) := by decide +kernel
theorem dX5_drift_106 : decode cX5_drift 106 = .ok (.ifCond .ne 45, 3) := by decide +kernel
theorem dX5_drift_109 : decode cX5_drift 109 = .ok (.aload_n 0, 1) := by decide +kernel
theorem dX5_drift_110 : decode cX5_drift 110 = .ok (.iload_n 1, 1) := by decide +kernel
theorem dX5_drift_111 : decode cX5_drift 111 = .ok (.iload 4, 2) := by decide +kernel
theorem dX5_drift_113 : decode cX5_drift 113 = .ok (.iadd, 1) := by decide +kernel
theorem dX5_drift_114 : decode cX5_drift 114 = .ok (.aload_n 0, 1) := by decide +kernel
theorem dX5_drift_115 : decode cX5_drift 115 = .ok (.getfield 3, 3) := by decide +kernel
theorem dX5_drift_118 : decode cX5_drift 118 = .ok (.getfield 103, 3) := by decide +kernel
theorem dX5_drift_121 : decode cX5_drift 121 = .ok (.irem, 1) := by decide +kernel
theorem dX5_drift_122 : decode cX5_drift 122 = .ok (.invokevirtual 106, 3) := by decide +kernel
theorem dX5_drift_125 : decode cX5_drift 125 = .ok (.ifCond .ne 20, 3) := by decide +kernel
theorem dX5_drift_128 : decode cX5_drift 128 = .ok (.aload_n 0, 1) := by decide +kernel
theorem dX5_drift_129 : decode cX5_drift 129 = .ok (.iload_n 3, 1) := by decide +kernel
theorem dX5_drift_130 : decode cX5_drift 130 = .ok (.iload_n 1, 1) := by decide +kernel
theorem dX5_drift_131 : decode cX5_drift 131 = .ok (.iload 4, 2) := by decide +kernel
theorem dX5_drift_133 : decode cX5_drift 133 = .ok (.iadd, 1) := by decide +kernel
theorem dX5_drift_134 : decode cX5_drift 134 = .ok (.aload_n 0, 1) := by decide +kernel
theorem dX5_drift_135 : decode cX5_drift 135 = .ok (.getfield 3, 3) := by decide +kernel
theorem dX5_drift_138 : decode cX5_drift 138 = .ok (.getfield 103, 3) := by decide +kernel
theorem dX5_drift_141 : decode cX5_drift 141 = .ok (.irem, 1) := by decide +kernel
theorem dX5_drift_142 : decode cX5_drift 142 = .ok (.invokevirtual 110, 3) := by decide +kernel
theorem dX5_drift_145 : decode cX5_drift 145 = .ok (.iinc 4 1, 3) := by decide +kernel
theorem dX5_drift_148 : decode cX5_drift 148 = .ok (.goto (-60), 3) := by decide +kernel
theorem dX5_drift_151 : decode cX5_drift 151 = .ok (.return_, 1) := by decide +kernel
set_option maxRecDepth 20000 in
theorem ggX5_trade_X5_misses : GoodIn wsX5_trade wsX5_misses := goodIn_r _ [12, 1, 3, 13, 14, 15, 16, 27, 28, 29, 30, 31, 32, 33, 34, 35, 36, 37, 38, 39, 40, 41, 42, 43, 44, 45, 46, 47, 48, 49, 50, 51, 52, 53] (by decide +kernel) (by decide +kernel)
set_option maxRecDepth 20000 in
theorem gX5_trade_X5_misses : GoodIn wsX5_trade (wsV RX5 91 RX5 yX5_misses wsX5_misses) := goodIn_app (goodIn_of _ (by decide +kernel)) ggX5_trade_X5_misses
set_option maxRecDepth 20000 in
theorem ggX5_trade_X5_beside : GoodIn wsX5_trade wsX5_beside := goodIn_r _ [20, 21, 22, 23, 24, 15, 25, 26, 27, 28, 29, 30, 31, 32, 33, 34, 35, 36, 37, 38, 39, 40] (by decide +kernel) (by decide +kernel)
set_option maxRecDepth 20000 in
theorem gX5_trade_X5_beside : GoodIn wsX5_trade (wsV RX5 114 RX5 yX5_beside wsX5_beside) := goodIn_app (goodIn_of _ (by decide +kernel)) ggX5_trade_X5_beside
theorem dX5_trade_0 : decode cX5_trade 0 = .ok (.aload_n 0, 1) := by decide +kernel
theorem dX5_trade_1 : decode cX5_trade 1 = .ok (.iload_n 1, 1) := by decide +kernel
theorem dX5_trade_2 : decode cX5_trade 2 = .ok (.iload_n 2, 1) := by decide +kernel
theorem dX5_trade_3 : decode cX5_trade 3 = .ok (.invokevirtual 91, 3) := by decide +kernel
theorem dX5_trade_6 : decode cX5_trade 6 = .ok (.ifCond .ne 4, 3) := by decide +kernel
theorem dX5_trade_9 : decode cX5_trade 9 = .ok (.return_, 1) := by decide +kernel
theorem dX5_trade_10 : decode cX5_trade 10 = .ok (.iconst (-1), 1) := by decide +kernel
theorem dX5_trade_11 : decode cX5_trade 11 = .ok (.istore_n 3, 1) := by decide +kernel
theorem dX5_trade_12 : decode cX5_trade 12 = .ok (.iconst 0, 1) := by decide +kernel
theorem dX5_trade_13 : decode cX5_trade 13 = .ok (.istore 4, 2) := by decide +kernel
theorem dX5_trade_15 : decode cX5_trade 15 = .ok (.iload 4, 2) := by decide +kernel
theorem dX5_trade_17 : decode cX5_trade 17 = .ok (.aload_n 0, 1) := by decide +kernel
theorem dX5_trade_18 : decode cX5_trade 18 = .ok (.getfield 3, 3) := by decide +kernel
theorem dX5_trade_21 : decode cX5_trade 21 = .ok (.getfield 66, 3) := by decide +kernel
theorem dX5_trade_24 : decode cX5_trade 24 = .ok (.if_icmp .ge 142, 3) := by decide +kernel
theorem dX5_trade_27 : decode cX5_trade 27 = .ok (.iconst 4, 1) := by decide +kernel
theorem dX5_trade_28 : decode cX5_trade 28 = .ok (.iload 4, 2) := by decide +kernel
theorem dX5_trade_30 : decode cX5_trade 30 = .ok (.imul, 1) := by decide +kernel
theorem dX5_trade_31 : decode cX5_trade 31 = .ok (.iload_n 2, 1) := by decide +kernel
theorem dX5_trade_32 : decode cX5_trade 32 = .ok (.iadd, 1) := by decide +kernel
theorem dX5_trade_33 : decode cX5_trade 33 = .ok (.istore 5, 2) := by decide +kernel
theorem dX5_trade_35 : decode cX5_trade 35 = .ok (.aload_n 0, 1) := by decide +kernel
theorem dX5_trade_36 : decode cX5_trade 36 = .ok (.iload_n 1, 1) := by decide +kernel
theorem dX5_trade_37 : decode cX5_trade 37 = .ok (.iload 4, 2) := by decide +kernel
theorem dX5_trade_39 : decode cX5_trade 39 = .ok (.invokevirtual 114, 3) := by decide +kernel
theorem dX5_trade_42 : decode cX5_trade 42 = .ok (.ifCond .eq 118, 3) := by decide +kernel
theorem dX5_trade_45 : decode cX5_trade 45 = .ok (.aload_n 0, 1) := by decide +kernel
theorem dX5_trade_46 : decode cX5_trade 46 = .ok (.getfield 3, 3) := by decide +kernel
theorem dX5_trade_49 : decode cX5_trade 49 = .ok (.getfield 118, 3) := by decide +kernel
theorem dX5_trade_52 : decode cX5_trade 52 = .ok (.iload 5, 2) := by decide +kernel
theorem dX5_trade_54 : decode cX5_trade 54 = .ok (.iaload, 1) := by decide +kernel
theorem dX5_trade_55 : decode cX5_trade 55 = .ok (.ifCond .eq 105, 3) := by decide +kernel
theorem dX5_trade_58 : decode cX5_trade 58 = .ok (.aload_n 0, 1) := by decide +kernel
theorem dX5_trade_59 : decode cX5_trade 59 = .ok (.getfield 3, 3) := by decide +kernel
theorem dX5_trade_62 : decode cX5_trade 62 = .ok (.getfield 118, 3) := by decide +kernel
theorem dX5_trade_65 : decode cX5_trade 65 = .ok (.iload 5, 2) := by decide +kernel
theorem dX5_trade_67 : decode cX5_trade 67 = .ok (.iaload, 1) := by decide +kernel
theorem dX5_trade_68 : decode cX5_trade 68 = .ok (.aload_n 0, 1) := by decide +kernel
theorem dX5_trade_69 : decode cX5_trade 69 = .ok (.getfield 3, 3) := by decide +kernel
theorem dX5_trade_72 : decode cX5_trade 72 = .ok (.getfield 121, 3) := by decide +kernel
theorem dX5_trade_75 : decode cX5_trade 75 = .ok (.iconst 4, 1) := by decide +kernel
theorem dX5_trade_76 : decode cX5_trade 76 = .ok (.iload_n 1, 1) := by decide +kernel
theorem dX5_trade_77 : decode cX5_trade 77 = .ok (.imul, 1) := by decide +kernel
theorem dX5_trade_78 : decode cX5_trade 78 = .ok (.iload_n 2, 1) := by decide +kernel
theorem dX5_trade_79 : decode cX5_trade 79 = .ok (.iadd, 1) := by decide +kernel
theorem dX5_trade_80 : decode cX5_trade 80 = .ok (.iaload, 1) := by decide +kernel
theorem dX5_trade_81 : decode cX5_trade 81 = .ok (.if_icmp .gt 79, 3) := by decide +kernel
theorem dX5_trade_84 : decode cX5_trade 84 = .ok (.aload_n 0, 1) := by decide +kernel
theorem dX5_trade_85 : decode cX5_trade 85 = .ok (.getfield 3, 3) := by decide +kernel
theorem dX5_trade_88 : decode cX5_trade 88 = .ok (.getfield 118, 3) := by decide +kernel
theorem dX5_trade_91 : decode cX5_trade 91 = .ok (.iload 5, 2) := by decide +kernel
theorem dX5_trade_93 : decode cX5_trade 93 = .ok (.iaload, 1) := by decide +kernel
theorem dX5_trade_94 : decode cX5_trade 94 = .ok (.aload_n 0, 1) := by decide +kernel
theorem dX5_trade_95 : decode cX5_trade 95 = .ok (.getfield 15, 3) := by decide +kernel
theorem dX5_trade_98 : decode cX5_trade 98 = .ok (.iload_n 1, 1) := by decide +kernel
theorem dX5_trade_99 : decode cX5_trade 99 = .ok (.iaload, 1) := by decide +kernel
theorem dX5_trade_100 : decode cX5_trade 100 = .ok (.if_icmp .gt 60, 3) := by decide +kernel
theorem dX5_trade_103 : decode cX5_trade 103 = .ok (.aload_n 0, 1) := by decide +kernel
theorem dX5_trade_104 : decode cX5_trade 104 = .ok (.getfield 19, 3) := by decide +kernel
theorem dX5_trade_107 : decode cX5_trade 107 = .ok (.iload 5, 2) := by decide +kernel
theorem dX5_trade_109 : decode cX5_trade 109 = .ok (.iaload, 1) := by decide +kernel
theorem dX5_trade_110 : decode cX5_trade 110 = .ok (.aload_n 0, 1) := by decide +kernel
theorem dX5_trade_111 : decode cX5_trade 111 = .ok (.getfield 3, 3) := by decide +kernel
theorem dX5_trade_114 : decode cX5_trade 114 = .ok (.getfield 84, 3) := by decide +kernel
theorem dX5_trade_117 : decode cX5_trade 117 = .ok (.iload 5, 2) := by decide +kernel
theorem dX5_trade_119 : decode cX5_trade 119 = .ok (.iaload, 1) := by decide +kernel
theorem dX5_trade_120 : decode cX5_trade 120 = .ok (.if_icmp .gt 6, 3) := by decide +kernel
theorem dX5_trade_123 : decode cX5_trade 123 = .ok (.goto 37, 3) := by decide +kernel
theorem dX5_trade_126 : decode cX5_trade 126 = .ok (.iload_n 3, 1) := by decide +kernel
theorem dX5_trade_127 : decode cX5_trade 127 = .ok (.iconst (-1), 1) := by decide +kernel
theorem dX5_trade_128 : decode cX5_trade 128 = .ok (.if_icmp .eq 29, 3) := by decide +kernel
theorem dX5_trade_131 : decode cX5_trade 131 = .ok (.aload_n 0, 1) := by decide +kernel
theorem dX5_trade_132 : decode cX5_trade 132 = .ok (.getfield 3, 3) := by decide +kernel
theorem dX5_trade_135 : decode cX5_trade 135 = .ok (.getfield 118, 3) := by decide +kernel
theorem dX5_trade_138 : decode cX5_trade 138 = .ok (.iload 5, 2) := by decide +kernel
theorem dX5_trade_140 : decode cX5_trade 140 = .ok (.iaload, 1) := by decide +kernel
theorem dX5_trade_141 : decode cX5_trade 141 = .ok (.aload_n 0, 1) := by decide +kernel
theorem dX5_trade_142 : decode cX5_trade 142 = .ok (.getfield 3, 3) := by decide +kernel
theorem dX5_trade_145 : decode cX5_trade 145 = .ok (.getfield 118, 3) := by decide +kernel
theorem dX5_trade_148 : decode cX5_trade 148 = .ok (.iconst 4, 1) := by decide +kernel
theorem dX5_trade_149 : decode cX5_trade 149 = .ok (.iload_n 3, 1) := by decide +kernel
theorem dX5_trade_150 : decode cX5_trade 150 = .ok (.imul, 1) := by decide +kernel
theorem dX5_trade_151 : decode cX5_trade 151 = .ok (.iload_n 2, 1) := by decide +kernel
theorem dX5_trade_152 : decode cX5_trade 152 = .ok (.iadd, 1) := by decide +kernel
theorem dX5_trade_153 : decode cX5_trade 153 = .ok (.iaload, 1) := by decide +kernel
theorem dX5_trade_154 : decode cX5_trade 154 = .ok (.if_icmp .ge 6, 3) := by decide +kernel
theorem dX5_trade_157 : decode cX5_trade 157 = .ok (.iload 4, 2) := by decide +kernel
theorem dX5_trade_159 : decode cX5_trade 159 = .ok (.istore_n 3, 1) := by decide +kernel
theorem dX5_trade_160 : decode cX5_trade 160 = .ok (.iinc 4 1, 3) := by decide +kernel
theorem dX5_trade_163 : decode cX5_trade 163 = .ok (.goto (-148), 3) := by decide +kernel
theorem dX5_trade_166 : decode cX5_trade 166 = .ok (.iload_n 3, 1) := by decide +kernel
theorem dX5_trade_167 : decode cX5_trade 167 = .ok (.iconst (-1), 1) := by decide +kernel
theorem dX5_trade_168 : decode cX5_trade 168 = .ok (.if_icmp .ne 4, 3) := by decide +kernel
theorem dX5_trade_171 : decode cX5_trade 171 = .ok (.return_, 1) := by decide +kernel
theorem dX5_trade_172 : decode cX5_trade 172 = .ok (.aload_n 0, 1) := by decide +kernel
theorem dX5_trade_173 : decode cX5_trade 173 = .ok (.getfield 3, 3) := by decide +kernel
theorem dX5_trade_176 : decode cX5_trade 176 = .ok (.getfield 118, 3) := by decide +kernel
theorem dX5_trade_179 : decode cX5_trade 179 = .ok (.iconst 4, 1) := by decide +kernel
theorem dX5_trade_180 : decode cX5_trade 180 = .ok (.iload_n 3, 1) := by decide +kernel
theorem dX5_trade_181 : decode cX5_trade 181 = .ok (.imul, 1) := by decide +kernel
theorem dX5_trade_182 : decode cX5_trade 182 = .ok (.iload_n 2, 1) := by decide +kernel
theorem dX5_trade_183 : decode cX5_trade 183 = .ok (.iadd, 1) := by decide +kernel
theorem dX5_trade_184 : decode cX5_trade 184 = .ok (.iaload, 1) := by decide +kernel
theorem dX5_trade_185 : decode cX5_trade 185 = .ok (.istore 4, 2) := by decide +kernel
theorem dX5_trade_187 : decode cX5_trade 187 = .ok (.aload_n 0, 1) := by decide +kernel
theorem dX5_trade_188 : decode cX5_trade 188 = .ok (.getfield 15, 3) := by decide +kernel
theorem dX5_trade_191 : decode cX5_trade 191 = .ok (.iload_n 1, 1) := by decide +kernel
theorem dX5_trade_192 : decode cX5_trade 192 = .ok (.dup2, 1) := by decide +kernel
theorem dX5_trade_193 : decode cX5_trade 193 = .ok (.iaload, 1) := by decide +kernel
theorem dX5_trade_194 : decode cX5_trade 194 = .ok (.iload 4, 2) := by decide +kernel
theorem dX5_trade_196 : decode cX5_trade 196 = .ok (.isub, 1) := by decide +kernel
theorem dX5_trade_197 : decode cX5_trade 197 = .ok (.iastore, 1) := by decide +kernel
theorem dX5_trade_198 : decode cX5_trade 198 = .ok (.aload_n 0, 1) := by decide +kernel
theorem dX5_trade_199 : decode cX5_trade 199 = .ok (.getfield 15, 3) := by decide +kernel
theorem dX5_trade_202 : decode cX5_trade 202 = .ok (.iload_n 3, 1) := by decide +kernel
theorem dX5_trade_203 : decode cX5_trade 203 = .ok (.dup2, 1) := by decide +kernel
theorem dX5_trade_204 : decode cX5_trade 204 = .ok (.iaload, 1) := by decide +kernel
theorem dX5_trade_205 : decode cX5_trade 205 = .ok (.iload 4, 2) := by decide +kernel
theorem dX5_trade_207 : decode cX5_trade 207 = .ok (.iadd, 1) := by decide +kernel
theorem dX5_trade_208 : decode cX5_trade 208 = .ok (.iastore, 1) := by decide +kernel
theorem dX5_trade_209 : decode cX5_trade 209 = .ok (.aload_n 0, 1) := by decide +kernel
theorem dX5_trade_210 : decode cX5_trade 210 = .ok (.getfield 19, 3) := by decide +kernel
theorem dX5_trade_213 : decode cX5_trade 213 = .ok (.iconst 4, 1) := by decide +kernel
theorem dX5_trade_214 : decode cX5_trade 214 = .ok (.iload_n 1, 1) := by decide +kernel
theorem dX5_trade_215 : decode cX5_trade 215 = .ok (.imul, 1) := by decide +kernel
theorem dX5_trade_216 : decode cX5_trade 216 = .ok (.iload_n 2, 1) := by decide +kernel
theorem dX5_trade_217 : decode cX5_trade 217 = .ok (.iadd, 1) := by decide +kernel
theorem dX5_trade_218 : decode cX5_trade 218 = .ok (.dup2, 1) := by decide +kernel
theorem dX5_trade_219 : decode cX5_trade 219 = .ok (.iaload, 1) := by decide +kernel
theorem dX5_trade_220 : decode cX5_trade 220 = .ok (.iconst 1, 1) := by decide +kernel
theorem dX5_trade_221 : decode cX5_trade 221 = .ok (.iadd, 1) := by decide +kernel
theorem dX5_trade_222 : decode cX5_trade 222 = .ok (.iastore, 1) := by decide +kernel
theorem dX5_trade_223 : decode cX5_trade 223 = .ok (.aload_n 0, 1) := by decide +kernel
theorem dX5_trade_224 : decode cX5_trade 224 = .ok (.getfield 19, 3) := by decide +kernel
theorem dX5_trade_227 : decode cX5_trade 227 = .ok (.iconst 4, 1) := by decide +kernel
theorem dX5_trade_228 : decode cX5_trade 228 = .ok (.iload_n 3, 1) := by decide +kernel
theorem dX5_trade_229 : decode cX5_trade 229 = .ok (.imul, 1) := by decide +kernel
theorem dX5_trade_230 : decode cX5_trade 230 = .ok (.iload_n 2, 1) := by decide +kernel
theorem dX5_trade_231 : decode cX5_trade 231 = .ok (.iadd, 1) := by decide +kernel
theorem dX5_trade_232 : decode cX5_trade 232 = .ok (.dup2, 1) := by decide +kernel
theorem dX5_trade_233 : decode cX5_trade 233 = .ok (.iaload, 1) := by decide +kernel
theorem dX5_trade_234 : decode cX5_trade 234 = .ok (.iconst 1, 1) := by decide +kernel
theorem dX5_trade_235 : decode cX5_trade 235 = .ok (.isub, 1) := by decide +kernel
theorem dX5_trade_236 : decode cX5_trade 236 = .ok (.iastore, 1) := by decide +kernel
theorem dX5_trade_237 : decode cX5_trade 237 = .ok (.aload_n 0, 1) := by decide +kernel
theorem dX5_trade_238 : decode cX5_trade 238 = .ok (.getfield 43, 3) := by decide +kernel
theorem dX5_trade_241 : decode cX5_trade 241 = .ok (.iload_n 1, 1) := by decide +kernel
theorem dX5_trade_242 : decode cX5_trade 242 = .ok (.dup2, 1) := by decide +kernel
theorem dX5_trade_243 : decode cX5_trade 243 = .ok (.iaload, 1) := by decide +kernel
theorem dX5_trade_244 : decode cX5_trade 244 = .ok (.iconst 1, 1) := by decide +kernel
theorem dX5_trade_245 : decode cX5_trade 245 = .ok (.iadd, 1) := by decide +kernel
theorem dX5_trade_246 : decode cX5_trade 246 = .ok (.iastore, 1) := by decide +kernel
theorem dX5_trade_247 : decode cX5_trade 247 = .ok (.aload_n 0, 1) := by decide +kernel
theorem dX5_trade_248 : decode cX5_trade 248 = .ok (.getfield 40, 3) := by decide +kernel
theorem dX5_trade_251 : decode cX5_trade 251 = .ok (.iload_n 3, 1) := by decide +kernel
theorem dX5_trade_252 : decode cX5_trade 252 = .ok (.dup2, 1) := by decide +kernel
theorem dX5_trade_253 : decode cX5_trade 253 = .ok (.iaload, 1) := by decide +kernel
theorem dX5_trade_254 : decode cX5_trade 254 = .ok (.iconst 1, 1) := by decide +kernel
theorem dX5_trade_255 : decode cX5_trade 255 = .ok (.iadd, 1) := by decide +kernel
theorem dX5_trade_256 : decode cX5_trade 256 = .ok (.iastore, 1) := by decide +kernel
theorem dX5_trade_257 : decode cX5_trade 257 = .ok (.aload_n 0, 1) := by decide +kernel
theorem dX5_trade_258 : decode cX5_trade 258 = .ok (.dup, 1) := by decide +kernel
theorem dX5_trade_259 : decode cX5_trade 259 = .ok (.getfield 56, 3) := by decide +kernel
theorem dX5_trade_262 : decode cX5_trade 262 = .ok (.iconst 1, 1) := by decide +kernel
theorem dX5_trade_263 : decode cX5_trade 263 = .ok (.iadd, 1) := by decide +kernel
theorem dX5_trade_264 : decode cX5_trade 264 = .ok (.putfield 56, 3) := by decide +kernel
theorem dX5_trade_267 : decode cX5_trade 267 = .ok (.aload_n 0, 1) := by decide +kernel
theorem dX5_trade_268 : decode cX5_trade 268 = .ok (.dup, 1) := by decide +kernel
theorem dX5_trade_269 : decode cX5_trade 269 = .ok (.getfield 59, 3) := by decide +kernel
theorem dX5_trade_272 : decode cX5_trade 272 = .ok (.iload 4, 2) := by decide +kernel
theorem dX5_trade_274 : decode cX5_trade 274 = .ok (.iadd, 1) := by decide +kernel
theorem dX5_trade_275 : decode cX5_trade 275 = .ok (.putfield 59, 3) := by decide +kernel
theorem dX5_trade_278 : decode cX5_trade 278 = .ok (.return_, 1) := by decide +kernel
set_option maxRecDepth 20000 in
theorem ggX5_pass_X5_drift : GoodIn wsX5_pass wsX5_drift := goodIn_r _ [10, 2, 5, 11, 3, 12, 13, 14, 9, 15, 16, 17, 18, 19, 20, 21, 22, 23, 24, 25, 26, 27, 28, 29, 63, 64, 65, 66, 67, 68, 69, 70, 71, 72, 73, 74, 75, 76, 77, 78, 79, 80, 81, 82, 83, 84, 85, 86, 87, 88, 89] (by decide +kernel) (by decide +kernel)
set_option maxRecDepth 20000 in
theorem gX5_pass_X5_drift : GoodIn wsX5_pass (wsV RX5 124 RX5 yX5_drift wsX5_drift) := goodIn_app (goodIn_of _ (by decide +kernel)) ggX5_pass_X5_drift
set_option maxRecDepth 20000 in
theorem ggX5_pass_X5_isDry : GoodIn wsX5_pass wsX5_isDry := goodIn_r _ [33, 21, 2, 5, 63, 64, 65, 66, 67, 68, 69, 70, 71, 72, 73, 74, 75, 76, 77, 78, 79, 80, 81, 82, 83, 84, 85, 86, 87, 88, 89] (by decide +kernel) (by decide +kernel)
set_option maxRecDepth 20000 in
theorem gX5_pass_X5_isDry : GoodIn wsX5_pass (wsV RX5 128 RX5 yX5_isDry wsX5_isDry) := goodIn_app (goodIn_of _ (by decide +kernel)) ggX5_pass_X5_isDry
set_option maxRecDepth 20000 in
theorem ggX5_pass_X5_castOff : GoodIn wsX5_pass wsX5_castOff := goodIn_r _ [37, 3, 2, 16, 21, 38, 63, 64, 65, 66, 67, 68, 69, 70, 71, 72, 73, 74, 75, 76, 77, 78, 79, 80, 81, 82, 83, 84, 85, 86, 87, 88, 89] (by decide +kernel) (by decide +kernel)
set_option maxRecDepth 20000 in
theorem gX5_pass_X5_castOff : GoodIn wsX5_pass (wsV RX5 131 RX5 yX5_castOff wsX5_castOff) := goodIn_app (goodIn_of _ (by decide +kernel)) ggX5_pass_X5_castOff
set_option maxRecDepth 20000 in
theorem ggX5_pass_X5_trade : GoodIn wsX5_pass wsX5_trade := goodIn_r _ [42, 2, 43, 44, 45, 46, 1, 47, 48, 49, 50, 9, 51, 52, 53, 54, 55, 56, 57, 58, 59, 3, 16, 60, 61, 62, 21, 63, 64, 65, 66, 67, 68, 69, 70, 71, 72, 73, 74, 75, 76, 77, 78, 79, 80, 81, 82, 83, 84, 85, 86, 87, 88, 89] (by decide +kernel) (by decide +kernel)
set_option maxRecDepth 20000 in
theorem gX5_pass_X5_trade : GoodIn wsX5_pass (wsV RX5 134 RX5 yX5_trade wsX5_trade) := goodIn_app (goodIn_of _ (by decide +kernel)) ggX5_pass_X5_trade
theorem dX5_pass_0 : decode cX5_pass 0 = .ok (.aload_n 0, 1) := by decide +kernel
theorem dX5_pass_1 : decode cX5_pass 1 = .ok (.getfield 56, 3) := by decide +kernel
theorem dX5_pass_4 : decode cX5_pass 4 = .ok (.istore_n 2, 1) := by decide +kernel
theorem dX5_pass_5 : decode cX5_pass 5 = .ok (.iconst 0, 1) := by decide +kernel
theorem dX5_pass_6 : decode cX5_pass 6 = .ok (.istore_n 3, 1) := by decide +kernel
