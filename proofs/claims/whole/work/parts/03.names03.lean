set_option maxRecDepth 20000 in
theorem ggX4_castOff_X4_needState : GoodIn wsX4_castOff wsX4_needState := goodIn_ca (goodIn_r _ [32, 33, 34] (by decide +kernel) (by decide +kernel)) (goodIn_sub (fun _ h => List.mem_cons_of_mem _ (List.mem_append_right _ h)) (by decide +kernel))
set_option maxRecDepth 20000 in
theorem gX4_castOff_X4_needState : GoodIn wsX4_castOff (va_wsS RX4 36 yX4_needState wsX4_needState) := goodIn_app (goodIn_of _ (by decide +kernel)) ggX4_castOff_X4_needState
set_option maxRecDepth 20000 in
theorem ggX4_castOff_X1_unfasten : GoodIn wsX4_castOff wsX1_unfasten := goodIn_r _ [38, 16, 39, 40, 17, 41, 42, 43, 44, 45, 46, 47, 48, 49, 50, 51, 52, 66, 67, 68, 69, 70, 71, 72, 73, 74, 75, 76, 77, 78, 79, 80, 81, 56, 57, 58, 59, 60, 61, 62, 63, 64, 65, 84, 85, 86] (by decide +kernel) (by decide +kernel)
set_option maxRecDepth 20000 in
theorem gX4_castOff_X1_unfasten : GoodIn wsX4_castOff (wsV RX4 110 RX1 yX1_unfasten wsX1_unfasten) := goodIn_app (goodIn_of _ (by decide +kernel)) ggX4_castOff_X1_unfasten
theorem dX4_castOff_0 : decode cX4_castOff 0 = .ok (.iload_n 1, 1) := by decide +kernel
theorem dX4_castOff_1 : decode cX4_castOff 1 = .ok (.aload_n 0, 1) := by decide +kernel
theorem dX4_castOff_2 : decode cX4_castOff 2 = .ok (.getfield 21, 3) := by decide +kernel
theorem dX4_castOff_5 : decode cX4_castOff 5 = .ok (.getfield 58, 3) := by decide +kernel
theorem dX4_castOff_8 : decode cX4_castOff 8 = .ok (.invokestatic 44, 3) := by decide +kernel
theorem dX4_castOff_11 : decode cX4_castOff 11 = .ok (.aload_n 0, 1) := by decide +kernel
theorem dX4_castOff_12 : decode cX4_castOff 12 = .ok (.getfield 21, 3) := by decide +kernel
theorem dX4_castOff_15 : decode cX4_castOff 15 = .ok (.getfield 65, 3) := by decide +kernel
theorem dX4_castOff_18 : decode cX4_castOff 18 = .ok (.iload_n 1, 1) := by decide +kernel
theorem dX4_castOff_19 : decode cX4_castOff 19 = .ok (.aaload, 1) := by decide +kernel
theorem dX4_castOff_20 : decode cX4_castOff 20 = .ok (.astore_n 2, 1) := by decide +kernel
theorem dX4_castOff_21 : decode cX4_castOff 21 = .ok (.aload_n 2, 1) := by decide +kernel
theorem dX4_castOff_22 : decode cX4_castOff 22 = .ok (.getfield 69, 3) := by decide +kernel
theorem dX4_castOff_25 : decode cX4_castOff 25 = .ok (.iconst 1, 1) := by decide +kernel
theorem dX4_castOff_26 : decode cX4_castOff 26 = .ok (.if_icmp .ne 18, 3) := by decide +kernel
theorem dX4_castOff_29 : decode cX4_castOff 29 = .ok (.aload_n 0, 1) := by decide +kernel
theorem dX4_castOff_30 : decode cX4_castOff 30 = .ok (.getfield 21, 3) := by decide +kernel
theorem dX4_castOff_33 : decode cX4_castOff 33 = .ok (.aload_n 2, 1) := by decide +kernel
theorem dX4_castOff_34 : decode cX4_castOff 34 = .ok (.invokevirtual 106, 3) := by decide +kernel
theorem dX4_castOff_37 : decode cX4_castOff 37 = .ok (.ifCond .ne 7, 3) := by decide +kernel
theorem dX4_castOff_40 : decode cX4_castOff 40 = .ok (.iconst 1, 1) := by decide +kernel
theorem dX4_castOff_41 : decode cX4_castOff 41 = .ok (.goto 4, 3) := by decide +kernel
theorem dX4_castOff_44 : decode cX4_castOff 44 = .ok (.iconst 0, 1) := by decide +kernel
theorem dX4_castOff_45 : decode cX4_castOff 45 = .ok (.invokestatic 36, 3) := by decide +kernel
theorem dX4_castOff_48 : decode cX4_castOff 48 = .ok (.aload_n 0, 1) := by decide +kernel
theorem dX4_castOff_49 : decode cX4_castOff 49 = .ok (.getfield 21, 3) := by decide +kernel
theorem dX4_castOff_52 : decode cX4_castOff 52 = .ok (.aload_n 2, 1) := by decide +kernel
theorem dX4_castOff_53 : decode cX4_castOff 53 = .ok (.iconst 0, 1) := by decide +kernel
theorem dX4_castOff_54 : decode cX4_castOff 54 = .ok (.invokevirtual 110, 3) := by decide +kernel
theorem dX4_castOff_57 : decode cX4_castOff 57 = .ok (.ireturn, 1) := by decide +kernel
set_option maxRecDepth 20000 in
theorem ggX4_leaveIn_X4_needIndex : GoodIn wsX4_leaveIn wsX4_needIndex := goodIn_ca (goodIn_r _ [11, 12, 13] (by decide +kernel) (by decide +kernel)) (goodIn_sub (fun _ h => List.mem_cons_of_mem _ (List.mem_append_left _ (List.mem_append_left _ (List.mem_append_right _ h)))) (by decide +kernel))
set_option maxRecDepth 20000 in
theorem gX4_leaveIn_X4_needIndex : GoodIn wsX4_leaveIn (va_wsS RX4 44 yX4_needIndex wsX4_needIndex) := goodIn_app (goodIn_of _ (by decide +kernel)) ggX4_leaveIn_X4_needIndex
set_option maxRecDepth 20000 in
theorem ggX4_leaveIn_X4_needRange : GoodIn wsX4_leaveIn wsX4_needRange := goodIn_ca (goodIn_r _ [16, 17, 18] (by decide +kernel) (by decide +kernel)) (goodIn_sub (fun _ h => List.mem_cons_of_mem _ (List.mem_append_left _ (List.mem_append_right _ h))) (by decide +kernel))
set_option maxRecDepth 20000 in
theorem gX4_leaveIn_X4_needRange : GoodIn wsX4_leaveIn (va_wsS RX4 28 yX4_needRange wsX4_needRange) := goodIn_app (goodIn_of _ (by decide +kernel)) ggX4_leaveIn_X4_needRange
set_option maxRecDepth 20000 in
theorem ggX4_leaveIn_X4_needState : GoodIn wsX4_leaveIn wsX4_needState := goodIn_ca (goodIn_r _ [21, 22, 23] (by decide +kernel) (by decide +kernel)) (goodIn_sub (fun _ h => List.mem_cons_of_mem _ (List.mem_append_right _ h)) (by decide +kernel))
set_option maxRecDepth 20000 in
theorem gX4_leaveIn_X4_needState : GoodIn wsX4_leaveIn (va_wsS RX4 36 yX4_needState wsX4_needState) := goodIn_app (goodIn_of _ (by decide +kernel)) ggX4_leaveIn_X4_needState
theorem dX4_leaveIn_0 : decode cX4_leaveIn 0 = .ok (.iload_n 1, 1) := by decide +kernel
theorem dX4_leaveIn_1 : decode cX4_leaveIn 1 = .ok (.aload_n 0, 1) := by decide +kernel
theorem dX4_leaveIn_2 : decode cX4_leaveIn 2 = .ok (.getfield 21, 3) := by decide +kernel
theorem dX4_leaveIn_5 : decode cX4_leaveIn 5 = .ok (.getfield 58, 3) := by decide +kernel
theorem dX4_leaveIn_8 : decode cX4_leaveIn 8 = .ok (.invokestatic 44, 3) := by decide +kernel
theorem dX4_leaveIn_11 : decode cX4_leaveIn 11 = .ok (.iload_n 2, 1) := by decide +kernel
theorem dX4_leaveIn_12 : decode cX4_leaveIn 12 = .ok (.iconst (-1), 1) := by decide +kernel
theorem dX4_leaveIn_13 : decode cX4_leaveIn 13 = .ok (.if_icmp .eq 16, 3) := by decide +kernel
theorem dX4_leaveIn_16 : decode cX4_leaveIn 16 = .ok (.iload_n 2, 1) := by decide +kernel
theorem dX4_leaveIn_17 : decode cX4_leaveIn 17 = .ok (.aload_n 0, 1) := by decide +kernel
theorem dX4_leaveIn_18 : decode cX4_leaveIn 18 = .ok (.getfield 21, 3) := by decide +kernel
theorem dX4_leaveIn_21 : decode cX4_leaveIn 21 = .ok (.getfield 114, 3) := by decide +kernel
theorem dX4_leaveIn_24 : decode cX4_leaveIn 24 = .ok (.ldc 119, 2) := by decide +kernel
theorem dX4_leaveIn_26 : decode cX4_leaveIn 26 = .ok (.invokestatic 28, 3) := by decide +kernel
theorem dX4_leaveIn_29 : decode cX4_leaveIn 29 = .ok (.aload_n 0, 1) := by decide +kernel
theorem dX4_leaveIn_30 : decode cX4_leaveIn 30 = .ok (.getfield 21, 3) := by decide +kernel
theorem dX4_leaveIn_33 : decode cX4_leaveIn 33 = .ok (.getfield 65, 3) := by decide +kernel
theorem dX4_leaveIn_36 : decode cX4_leaveIn 36 = .ok (.iload_n 1, 1) := by decide +kernel
theorem dX4_leaveIn_37 : decode cX4_leaveIn 37 = .ok (.aaload, 1) := by decide +kernel
theorem dX4_leaveIn_38 : decode cX4_leaveIn 38 = .ok (.astore_n 3, 1) := by decide +kernel
theorem dX4_leaveIn_39 : decode cX4_leaveIn 39 = .ok (.aload_n 3, 1) := by decide +kernel
theorem dX4_leaveIn_40 : decode cX4_leaveIn 40 = .ok (.getfield 69, 3) := by decide +kernel
theorem dX4_leaveIn_43 : decode cX4_leaveIn 43 = .ok (.iconst 2, 1) := by decide +kernel
theorem dX4_leaveIn_44 : decode cX4_leaveIn 44 = .ok (.if_icmp .eq 7, 3) := by decide +kernel
theorem dX4_leaveIn_47 : decode cX4_leaveIn 47 = .ok (.iconst 1, 1) := by decide +kernel
theorem dX4_leaveIn_48 : decode cX4_leaveIn 48 = .ok (.goto 4, 3) := by decide +kernel
theorem dX4_leaveIn_51 : decode cX4_leaveIn 51 = .ok (.iconst 0, 1) := by decide +kernel
theorem dX4_leaveIn_52 : decode cX4_leaveIn 52 = .ok (.invokestatic 36, 3) := by decide +kernel
theorem dX4_leaveIn_55 : decode cX4_leaveIn 55 = .ok (.aload_n 3, 1) := by decide +kernel
theorem dX4_leaveIn_56 : decode cX4_leaveIn 56 = .ok (.getfield 120, 3) := by decide +kernel
theorem dX4_leaveIn_59 : decode cX4_leaveIn 59 = .ok (.istore 4, 2) := by decide +kernel
theorem dX4_leaveIn_61 : decode cX4_leaveIn 61 = .ok (.aload_n 3, 1) := by decide +kernel
theorem dX4_leaveIn_62 : decode cX4_leaveIn 62 = .ok (.iload_n 2, 1) := by decide +kernel
theorem dX4_leaveIn_63 : decode cX4_leaveIn 63 = .ok (.putfield 120, 3) := by decide +kernel
theorem dX4_leaveIn_66 : decode cX4_leaveIn 66 = .ok (.iload 4, 2) := by decide +kernel
theorem dX4_leaveIn_68 : decode cX4_leaveIn 68 = .ok (.ireturn, 1) := by decide +kernel
set_option maxRecDepth 20000 in
theorem ggX4_canoe_X4_needIndex : GoodIn wsX4_canoe wsX4_needIndex := goodIn_ca (goodIn_r _ [7, 8, 9] (by decide +kernel) (by decide +kernel)) (goodIn_sub (fun _ h => List.mem_cons_of_mem _ (List.mem_append_right _ h)) (by decide +kernel))
set_option maxRecDepth 20000 in
theorem gX4_canoe_X4_needIndex : GoodIn wsX4_canoe (va_wsS RX4 44 yX4_needIndex wsX4_needIndex) := goodIn_app (goodIn_of _ (by decide +kernel)) ggX4_canoe_X4_needIndex
set_option maxRecDepth 20000 in
theorem ggX4_canoe_X0_figure : GoodIn wsX4_canoe wsX0_figure := goodIn_r _ [14, 15, 16, 17, 18, 19, 20, 21, 22, 23, 24, 25, 26, 27, 13, 28, 29, 30, 31, 32, 33, 34, 35, 36, 37, 38, 52, 53, 54, 55, 56, 57, 58, 59, 60, 61, 62, 63, 64, 65, 66, 67] (by decide +kernel) (by decide +kernel)
set_option maxRecDepth 20000 in
theorem gX4_canoe_X0_figure : GoodIn wsX4_canoe (wsV RX4 123 RX0 yX0_figure wsX0_figure) := goodIn_app (goodIn_of _ (by decide +kernel)) ggX4_canoe_X0_figure
theorem dX4_canoe_0 : decode cX4_canoe 0 = .ok (.iload_n 1, 1) := by decide +kernel
theorem dX4_canoe_1 : decode cX4_canoe 1 = .ok (.aload_n 0, 1) := by decide +kernel
theorem dX4_canoe_2 : decode cX4_canoe 2 = .ok (.getfield 21, 3) := by decide +kernel
theorem dX4_canoe_5 : decode cX4_canoe 5 = .ok (.getfield 58, 3) := by decide +kernel
theorem dX4_canoe_8 : decode cX4_canoe 8 = .ok (.invokestatic 44, 3) := by decide +kernel
theorem dX4_canoe_11 : decode cX4_canoe 11 = .ok (.iload_n 2, 1) := by decide +kernel
theorem dX4_canoe_12 : decode cX4_canoe 12 = .ok (.bipush 11, 2) := by decide +kernel
theorem dX4_canoe_14 : decode cX4_canoe 14 = .ok (.invokestatic 44, 3) := by decide +kernel
theorem dX4_canoe_17 : decode cX4_canoe 17 = .ok (.aload_n 0, 1) := by decide +kernel
theorem dX4_canoe_18 : decode cX4_canoe 18 = .ok (.getfield 21, 3) := by decide +kernel
theorem dX4_canoe_21 : decode cX4_canoe 21 = .ok (.getfield 65, 3) := by decide +kernel
theorem dX4_canoe_24 : decode cX4_canoe 24 = .ok (.iload_n 1, 1) := by decide +kernel
theorem dX4_canoe_25 : decode cX4_canoe 25 = .ok (.aaload, 1) := by decide +kernel
theorem dX4_canoe_26 : decode cX4_canoe 26 = .ok (.iload_n 2, 1) := by decide +kernel
theorem dX4_canoe_27 : decode cX4_canoe 27 = .ok (.invokevirtual 123, 3) := by decide +kernel
theorem dX4_canoe_30 : decode cX4_canoe 30 = .ok (.ireturn, 1) := by decide +kernel
set_option maxRecDepth 20000 in
theorem ggX4_good_X4_needIndex : GoodIn wsX4_good wsX4_needIndex := goodIn_ca (goodIn_r _ [7, 8, 9] (by decide +kernel) (by decide +kernel)) (goodIn_sub (fun _ h => List.mem_cons_of_mem _ (List.mem_append_right _ h)) (by decide +kernel))
set_option maxRecDepth 20000 in
theorem gX4_good_X4_needIndex : GoodIn wsX4_good (va_wsS RX4 44 yX4_needIndex wsX4_needIndex) := goodIn_app (goodIn_of _ (by decide +kernel)) ggX4_good_X4_needIndex
set_option maxRecDepth 20000 in
theorem ggX4_good_X0_goodFigure : GoodIn wsX4_good wsX0_goodFigure := goodIn_r _ [14, 15, 16, 17, 18, 32, 33, 34, 35, 36, 37, 38, 39, 40, 41, 42, 43, 44, 45, 46, 47] (by decide +kernel) (by decide +kernel)
set_option maxRecDepth 20000 in
theorem gX4_good_X0_goodFigure : GoodIn wsX4_good (wsV RX4 126 RX0 yX0_goodFigure wsX0_goodFigure) := goodIn_app (goodIn_of _ (by decide +kernel)) ggX4_good_X0_goodFigure
theorem dX4_good_0 : decode cX4_good 0 = .ok (.iload_n 1, 1) := by decide +kernel
theorem dX4_good_1 : decode cX4_good 1 = .ok (.aload_n 0, 1) := by decide +kernel
theorem dX4_good_2 : decode cX4_good 2 = .ok (.getfield 21, 3) := by decide +kernel
theorem dX4_good_5 : decode cX4_good 5 = .ok (.getfield 58, 3) := by decide +kernel
theorem dX4_good_8 : decode cX4_good 8 = .ok (.invokestatic 44, 3) := by decide +kernel
theorem dX4_good_11 : decode cX4_good 11 = .ok (.iload_n 2, 1) := by decide +kernel
theorem dX4_good_12 : decode cX4_good 12 = .ok (.iconst 4, 1) := by decide +kernel
theorem dX4_good_13 : decode cX4_good 13 = .ok (.invokestatic 44, 3) := by decide +kernel
theorem dX4_good_16 : decode cX4_good 16 = .ok (.iload_n 3, 1) := by decide +kernel
theorem dX4_good_17 : decode cX4_good 17 = .ok (.iconst 4, 1) := by decide +kernel
theorem dX4_good_18 : decode cX4_good 18 = .ok (.invokestatic 44, 3) := by decide +kernel
theorem dX4_good_21 : decode cX4_good 21 = .ok (.aload_n 0, 1) := by decide +kernel
theorem dX4_good_22 : decode cX4_good 22 = .ok (.getfield 21, 3) := by decide +kernel
theorem dX4_good_25 : decode cX4_good 25 = .ok (.getfield 65, 3) := by decide +kernel
theorem dX4_good_28 : decode cX4_good 28 = .ok (.iload_n 1, 1) := by decide +kernel
theorem dX4_good_29 : decode cX4_good 29 = .ok (.aaload, 1) := by decide +kernel
theorem dX4_good_30 : decode cX4_good 30 = .ok (.iload_n 2, 1) := by decide +kernel
theorem dX4_good_31 : decode cX4_good 31 = .ok (.iload_n 3, 1) := by decide +kernel
theorem dX4_good_32 : decode cX4_good 32 = .ok (.invokevirtual 126, 3) := by decide +kernel
theorem dX4_good_35 : decode cX4_good 35 = .ok (.ireturn, 1) := by decide +kernel
set_option maxRecDepth 20000 in
theorem ggX4_at_X4_needIndex : GoodIn wsX4_at wsX4_needIndex := goodIn_ca (goodIn_r _ [8, 9, 10] (by decide +kernel) (by decide +kernel)) (goodIn_sub (fun _ h => List.mem_cons_of_mem _ (List.mem_append_right _ h)) (by decide +kernel))
set_option maxRecDepth 20000 in
theorem gX4_at_X4_needIndex : GoodIn wsX4_at (va_wsS RX4 44 yX4_needIndex wsX4_needIndex) := goodIn_app (goodIn_of _ (by decide +kernel)) ggX4_at_X4_needIndex
set_option maxRecDepth 20000 in
theorem ggX4_at_X2_canoeAt : GoodIn wsX4_at wsX2_canoeAt := goodIn_r _ [15, 16, 17, 31, 32, 33] (by decide +kernel) (by decide +kernel)
set_option maxRecDepth 20000 in
theorem gX4_at_X2_canoeAt : GoodIn wsX4_at (wsV RX4 132 RX2 yX2_canoeAt wsX2_canoeAt) := goodIn_app (goodIn_of _ (by decide +kernel)) ggX4_at_X2_canoeAt
theorem dX4_at_0 : decode cX4_at 0 = .ok (.iload_n 1, 1) := by decide +kernel
theorem dX4_at_1 : decode cX4_at 1 = .ok (.aload_n 0, 1) := by decide +kernel
theorem dX4_at_2 : decode cX4_at 2 = .ok (.getfield 21, 3) := by decide +kernel
theorem dX4_at_5 : decode cX4_at 5 = .ok (.getfield 32, 3) := by decide +kernel
theorem dX4_at_8 : decode cX4_at 8 = .ok (.invokestatic 44, 3) := by decide +kernel
theorem dX4_at_11 : decode cX4_at 11 = .ok (.iload_n 2, 1) := by decide +kernel
theorem dX4_at_12 : decode cX4_at 12 = .ok (.aload_n 0, 1) := by decide +kernel
theorem dX4_at_13 : decode cX4_at 13 = .ok (.getfield 21, 3) := by decide +kernel
theorem dX4_at_16 : decode cX4_at 16 = .ok (.getfield 89, 3) := by decide +kernel
theorem dX4_at_19 : decode cX4_at 19 = .ok (.iload_n 1, 1) := by decide +kernel
theorem dX4_at_20 : decode cX4_at 20 = .ok (.aaload, 1) := by decide +kernel
theorem dX4_at_21 : decode cX4_at 21 = .ok (.getfield 129, 3) := by decide +kernel
theorem dX4_at_24 : decode cX4_at 24 = .ok (.invokestatic 44, 3) := by decide +kernel
theorem dX4_at_27 : decode cX4_at 27 = .ok (.aload_n 0, 1) := by decide +kernel
theorem dX4_at_28 : decode cX4_at 28 = .ok (.getfield 21, 3) := by decide +kernel
theorem dX4_at_31 : decode cX4_at 31 = .ok (.getfield 89, 3) := by decide +kernel
theorem dX4_at_34 : decode cX4_at 34 = .ok (.iload_n 1, 1) := by decide +kernel
theorem dX4_at_35 : decode cX4_at 35 = .ok (.aaload, 1) := by decide +kernel
theorem dX4_at_36 : decode cX4_at 36 = .ok (.iload_n 2, 1) := by decide +kernel
theorem dX4_at_37 : decode cX4_at 37 = .ok (.invokevirtual 132, 3) := by decide +kernel
theorem dX4_at_40 : decode cX4_at 40 = .ok (.ireturn, 1) := by decide +kernel
set_option maxRecDepth 20000 in
theorem ggX4_beside_X4_needIndex : GoodIn wsX4_beside wsX4_needIndex := goodIn_ca (goodIn_r _ [7, 8, 9] (by decide +kernel) (by decide +kernel)) (goodIn_sub (fun _ h => List.mem_cons_of_mem _ (List.mem_append_right _ h)) (by decide +kernel))
set_option maxRecDepth 20000 in
theorem gX4_beside_X4_needIndex : GoodIn wsX4_beside (va_wsS RX4 44 yX4_needIndex wsX4_needIndex) := goodIn_app (goodIn_of _ (by decide +kernel)) ggX4_beside_X4_needIndex
set_option maxRecDepth 20000 in
theorem ggX4_beside_X0_isBeside : GoodIn wsX4_beside wsX0_isBeside := goodIn_r _ [14, 15, 16, 17, 18, 19, 20, 21, 35, 36, 37, 38, 39, 40, 41, 42, 43, 44, 45, 46, 47, 48, 49, 50] (by decide +kernel) (by decide +kernel)
set_option maxRecDepth 20000 in
theorem gX4_beside_X0_isBeside : GoodIn wsX4_beside (wsV RX4 135 RX0 yX0_isBeside wsX0_isBeside) := goodIn_app (goodIn_of _ (by decide +kernel)) ggX4_beside_X0_isBeside
theorem dX4_beside_0 : decode cX4_beside 0 = .ok (.iload_n 1, 1) := by decide +kernel
theorem dX4_beside_1 : decode cX4_beside 1 = .ok (.aload_n 0, 1) := by decide +kernel
theorem dX4_beside_2 : decode cX4_beside 2 = .ok (.getfield 21, 3) := by decide +kernel
theorem dX4_beside_5 : decode cX4_beside 5 = .ok (.getfield 58, 3) := by decide +kernel
theorem dX4_beside_8 : decode cX4_beside 8 = .ok (.invokestatic 44, 3) := by decide +kernel
theorem dX4_beside_11 : decode cX4_beside 11 = .ok (.iload_n 2, 1) := by decide +kernel
theorem dX4_beside_12 : decode cX4_beside 12 = .ok (.aload_n 0, 1) := by decide +kernel
theorem dX4_beside_13 : decode cX4_beside 13 = .ok (.getfield 21, 3) := by decide +kernel
theorem dX4_beside_16 : decode cX4_beside 16 = .ok (.getfield 58, 3) := by decide +kernel
theorem dX4_beside_19 : decode cX4_beside 19 = .ok (.invokestatic 44, 3) := by decide +kernel
theorem dX4_beside_22 : decode cX4_beside 22 = .ok (.aload_n 0, 1) := by decide +kernel
theorem dX4_beside_23 : decode cX4_beside 23 = .ok (.getfield 21, 3) := by decide +kernel
theorem dX4_beside_26 : decode cX4_beside 26 = .ok (.getfield 65, 3) := by decide +kernel
theorem dX4_beside_29 : decode cX4_beside 29 = .ok (.iload_n 1, 1) := by decide +kernel
theorem dX4_beside_30 : decode cX4_beside 30 = .ok (.aaload, 1) := by decide +kernel
theorem dX4_beside_31 : decode cX4_beside 31 = .ok (.aload_n 0, 1) := by decide +kernel
theorem dX4_beside_32 : decode cX4_beside 32 = .ok (.getfield 21, 3) := by decide +kernel
theorem dX4_beside_35 : decode cX4_beside 35 = .ok (.getfield 65, 3) := by decide +kernel
theorem dX4_beside_38 : decode cX4_beside 38 = .ok (.iload_n 2, 1) := by decide +kernel
theorem dX4_beside_39 : decode cX4_beside 39 = .ok (.aaload, 1) := by decide +kernel
theorem dX4_beside_40 : decode cX4_beside 40 = .ok (.invokevirtual 135, 3) := by decide +kernel
theorem dX4_beside_43 : decode cX4_beside 43 = .ok (.ireturn, 1) := by decide +kernel
set_option maxRecDepth 20000 in
theorem ggX4_pass_X4_needRange : GoodIn wsX4_pass wsX4_needRange := goodIn_ca (goodIn_r _ [6, 7, 8] (by decide +kernel) (by decide +kernel)) (goodIn_sub (fun _ h => List.mem_cons_of_mem _ (List.mem_append_right _ h)) (by decide +kernel))
set_option maxRecDepth 20000 in
theorem gX4_pass_X4_needRange : GoodIn wsX4_pass (va_wsS RX4 28 yX4_needRange wsX4_needRange) := goodIn_app (goodIn_of _ (by decide +kernel)) ggX4_pass_X4_needRange
set_option maxRecDepth 20000 in
theorem ggX4_pass_X1_passSteps : GoodIn wsX4_pass wsX1_passSteps := goodIn_r _ [13, 14, 15, 16, 17, 12, 18, 19, 20, 21, 22, 23, 24, 25, 26, 27, 28, 29, 30, 31, 32, 33, 34, 35, 36, 37, 38, 39, 40, 41, 42, 43, 44, 45, 46, 47, 48, 49, 50, 51, 52, 53, 54, 55, 56, 57, 58, 59, 60, 61, 62, 63, 64, 65, 66, 67, 68, 69, 70, 71, 72, 73, 74, 75, 76, 77, 78, 79, 80, 81, 82, 83, 84, 85, 86, 87, 88, 89, 90, 91, 92, 93, 94, 95, 96, 97, 98, 99, 100, 101, 102, 103, 104, 105, 106, 107, 108, 109, 110, 111, 112, 113, 114, 115, 116, 117, 118, 119, 120, 121, 122, 123, 124, 125, 126, 127, 128, 129, 130, 131, 132, 133, 134, 135, 136, 137, 138, 139, 140, 141, 142, 143, 144, 145, 146, 150, 151, 152, 153, 154, 155, 156, 157, 158, 159, 160, 161, 162, 163, 164, 165, 166, 167, 168, 169, 170, 171, 172, 173, 174, 175, 176, 177, 178, 179, 180] (by decide +kernel) (by decide +kernel)
set_option maxRecDepth 20000 in
theorem gX4_pass_X1_passSteps : GoodIn wsX4_pass (wsV RX4 141 RX1 yX1_passSteps wsX1_passSteps) := goodIn_app (goodIn_of _ (by decide +kernel)) ggX4_pass_X1_passSteps
theorem dX4_pass_0 : decode cX4_pass 0 = .ok (.iload_n 1, 1) := by decide +kernel
theorem dX4_pass_1 : decode cX4_pass 1 = .ok (.iconst 1, 1) := by decide +kernel
theorem dX4_pass_2 : decode cX4_pass 2 = .ok (.sipush 200, 3) := by decide +kernel
theorem dX4_pass_5 : decode cX4_pass 5 = .ok (.invokestatic 28, 3) := by decide +kernel
theorem dX4_pass_8 : decode cX4_pass 8 = .ok (.aload_n 0, 1) := by decide +kernel
theorem dX4_pass_9 : decode cX4_pass 9 = .ok (.getfield 21, 3) := by decide +kernel
theorem dX4_pass_12 : decode cX4_pass 12 = .ok (.getfield 138, 3) := by decide +kernel
theorem dX4_pass_15 : decode cX4_pass 15 = .ok (.istore_n 2, 1) := by decide +kernel
theorem dX4_pass_16 : decode cX4_pass 16 = .ok (.aload_n 0, 1) := by decide +kernel
theorem dX4_pass_17 : decode cX4_pass 17 = .ok (.getfield 21, 3) := by decide +kernel
theorem dX4_pass_20 : decode cX4_pass 20 = .ok (.iload_n 1, 1) := by decide +kernel
theorem dX4_pass_21 : decode cX4_pass 21 = .ok (.invokevirtual 141, 3) := by decide +kernel
theorem dX4_pass_24 : decode cX4_pass 24 = .ok (.aload_n 0, 1) := by decide +kernel
theorem dX4_pass_25 : decode cX4_pass 25 = .ok (.getfield 21, 3) := by decide +kernel
theorem dX4_pass_28 : decode cX4_pass 28 = .ok (.getfield 138, 3) := by decide +kernel
theorem dX4_pass_31 : decode cX4_pass 31 = .ok (.iload_n 2, 1) := by decide +kernel
theorem dX4_pass_32 : decode cX4_pass 32 = .ok (.isub, 1) := by decide +kernel
theorem dX4_pass_33 : decode cX4_pass 33 = .ok (.ireturn, 1) := by decide +kernel
set_option maxRecDepth 20000 in
theorem ggX4_count_X4_needIndex : GoodIn wsX4_count wsX4_needIndex := goodIn_ca (goodIn_r _ [5, 6, 7] (by decide +kernel) (by decide +kernel)) (goodIn_sub (fun _ h => List.mem_cons_of_mem _ (List.mem_append_right _ h)) (by decide +kernel))
set_option maxRecDepth 20000 in
theorem gX4_count_X4_needIndex : GoodIn wsX4_count (va_wsS RX4 44 yX4_needIndex wsX4_needIndex) := goodIn_app (goodIn_of _ (by decide +kernel)) ggX4_count_X4_needIndex
set_option maxRecDepth 20000 in
theorem ggX4_count_X1_figure : GoodIn wsX4_count wsX1_figure := goodIn_r _ [12, 13, 14, 15, 16, 17, 18, 19, 20, 21, 22, 11, 23, 24, 25, 26, 27, 28, 29, 30, 31, 32, 33, 34, 35, 36, 37, 38, 39, 40, 41, 42, 43, 44, 45, 46, 47, 48, 49, 50, 51, 52, 53, 54, 55, 56, 57, 58, 59, 60, 64, 65, 66, 67, 68, 69, 70, 71, 72, 73, 74, 75, 76, 77, 78, 79, 80, 81, 82, 83, 84, 85, 86, 87, 88, 89, 90, 91] (by decide +kernel) (by decide +kernel)
set_option maxRecDepth 20000 in
theorem gX4_count_X1_figure : GoodIn wsX4_count (wsV RX4 145 RX1 yX1_figure wsX1_figure) := goodIn_app (goodIn_of _ (by decide +kernel)) ggX4_count_X1_figure
theorem dX4_count_0 : decode cX4_count 0 = .ok (.iload_n 1, 1) := by decide +kernel
theorem dX4_count_1 : decode cX4_count 1 = .ok (.bipush 12, 2) := by decide +kernel
theorem dX4_count_3 : decode cX4_count 3 = .ok (.invokestatic 44, 3) := by decide +kernel
theorem dX4_count_6 : decode cX4_count 6 = .ok (.aload_n 0, 1) := by decide +kernel
theorem dX4_count_7 : decode cX4_count 7 = .ok (.getfield 21, 3) := by decide +kernel
theorem dX4_count_10 : decode cX4_count 10 = .ok (.iload_n 1, 1) := by decide +kernel
theorem dX4_count_11 : decode cX4_count 11 = .ok (.invokevirtual 145, 3) := by decide +kernel
theorem dX4_count_14 : decode cX4_count 14 = .ok (.ireturn, 1) := by decide +kernel
set_option maxRecDepth 20000 in
theorem ggX4_foresee_X4_needIndex : GoodIn wsX4_foresee wsX4_needIndex := goodIn_ca (goodIn_r _ [10, 11, 12] (by decide +kernel) (by decide +kernel)) (goodIn_sub (fun _ h => List.mem_cons_of_mem _ (List.mem_append_left _ (List.mem_append_right _ h))) (by decide +kernel))
set_option maxRecDepth 20000 in
theorem gX4_foresee_X4_needIndex : GoodIn wsX4_foresee (va_wsS RX4 44 yX4_needIndex wsX4_needIndex) := goodIn_app (goodIn_of _ (by decide +kernel)) ggX4_foresee_X4_needIndex
set_option maxRecDepth 20000 in
theorem ggX4_foresee_X4_needRange : GoodIn wsX4_foresee wsX4_needRange := goodIn_ca (goodIn_r _ [15, 16, 17] (by decide +kernel) (by decide +kernel)) (goodIn_sub (fun _ h => List.mem_cons_of_mem _ (List.mem_append_right _ h)) (by decide +kernel))
set_option maxRecDepth 20000 in
theorem gX4_foresee_X4_needRange : GoodIn wsX4_foresee (va_wsS RX4 28 yX4_needRange wsX4_needRange) := goodIn_app (goodIn_of _ (by decide +kernel)) ggX4_foresee_X4_needRange
set_option maxRecDepth 20000 in
theorem ggX4_foresee_X1_copyFrom : GoodIn wsX4_foresee wsX1_copyFrom := goodIn_r _ [22, 23, 24, 25, 26, 27, 28, 29, 30, 31, 32, 33, 34, 35, 36, 37, 38, 39, 40, 41, 42, 43, 44, 45, 46, 47, 48, 49, 50, 51, 52, 53, 54, 55, 56, 57, 58, 59, 60, 61, 62, 63, 64, 192, 193, 194, 195, 196, 197, 198, 199, 200, 201, 218, 219, 220, 202, 203, 204, 205, 206, 207, 208, 209, 210, 211, 212, 213, 214, 215, 216, 217] (by decide +kernel) (by decide +kernel)
set_option maxRecDepth 20000 in
theorem gX4_foresee_X1_copyFrom : GoodIn wsX4_foresee (wsV RX4 146 RX1 yX1_copyFrom wsX1_copyFrom) := goodIn_app (goodIn_of _ (by decide +kernel)) ggX4_foresee_X1_copyFrom
set_option maxRecDepth 20000 in
theorem ggX4_foresee_X1_passSteps : GoodIn wsX4_foresee wsX1_passSteps := goodIn_r _ [68, 25, 69, 70, 71, 21, 72, 73, 23, 30, 74, 75, 76, 77, 78, 79, 80, 81, 82, 83, 84, 85, 86, 87, 88, 89, 90, 31, 91, 92, 93, 35, 94, 38, 39, 95, 96, 97, 98, 99, 29, 100, 101, 102, 103, 104, 105, 106, 107, 108, 28, 109, 110, 111, 112, 113, 114, 115, 116, 117, 118, 119, 120, 37, 121, 122, 123, 124, 125, 126, 127, 128, 129, 130, 131, 132, 133, 24, 134, 135, 136, 47, 137, 54, 138, 139, 140, 141, 142, 143, 144, 145, 146, 147, 148, 149, 150, 151, 152, 153, 154, 63, 60, 155, 156, 157, 158, 159, 160, 161, 162, 163, 164, 165, 166, 167, 168, 169, 170, 171, 172, 173, 174, 175, 176, 62, 177, 178, 179, 180, 181, 182, 183, 26, 27, 192, 193, 194, 195, 196, 197, 198, 199, 200, 201, 218, 219, 220, 202, 203, 204, 205, 206, 207, 208, 209, 210, 211, 212, 213, 214, 215, 216, 217, 221, 222] (by decide +kernel) (by decide +kernel)
set_option maxRecDepth 20000 in
theorem gX4_foresee_X1_passSteps : GoodIn wsX4_foresee (wsV RX4 141 RX1 yX1_passSteps wsX1_passSteps) := goodIn_app (goodIn_of _ (by decide +kernel)) ggX4_foresee_X1_passSteps
set_option maxRecDepth 20000 in
theorem ggX4_foresee_X0_missesInAll : GoodIn wsX4_foresee wsX0_missesInAll := goodIn_r _ [187, 188, 152, 153, 47, 154, 63, 60, 155, 156, 157, 158, 202, 203, 204, 205, 206, 207, 208, 209, 210, 211, 212, 213, 214, 215, 216, 217] (by decide +kernel) (by decide +kernel)
set_option maxRecDepth 20000 in
theorem gX4_foresee_X0_missesInAll : GoodIn wsX4_foresee (wsV RX4 153 RX0 yX0_missesInAll wsX0_missesInAll) := goodIn_app (goodIn_of _ (by decide +kernel)) ggX4_foresee_X0_missesInAll
theorem dX4_foresee_0 : decode cX4_foresee 0 = .ok (.iload_n 1, 1) := by decide +kernel
theorem dX4_foresee_1 : decode cX4_foresee 1 = .ok (.aload_n 0, 1) := by decide +kernel
theorem dX4_foresee_2 : decode cX4_foresee 2 = .ok (.getfield 21, 3) := by decide +kernel
theorem dX4_foresee_5 : decode cX4_foresee 5 = .ok (.getfield 58, 3) := by decide +kernel
theorem dX4_foresee_8 : decode cX4_foresee 8 = .ok (.invokestatic 44, 3) := by decide +kernel
theorem dX4_foresee_11 : decode cX4_foresee 11 = .ok (.iload_n 3, 1) := by decide +kernel
theorem dX4_foresee_12 : decode cX4_foresee 12 = .ok (.iconst 3, 1) := by decide +kernel
theorem dX4_foresee_13 : decode cX4_foresee 13 = .ok (.invokestatic 44, 3) := by decide +kernel
theorem dX4_foresee_16 : decode cX4_foresee 16 = .ok (.iload_n 2, 1) := by decide +kernel
theorem dX4_foresee_17 : decode cX4_foresee 17 = .ok (.iconst 1, 1) := by decide +kernel
theorem dX4_foresee_18 : decode cX4_foresee 18 = .ok (.sipush 150, 3) := by decide +kernel
theorem dX4_foresee_21 : decode cX4_foresee 21 = .ok (.invokestatic 28, 3) := by decide +kernel
theorem dX4_foresee_24 : decode cX4_foresee 24 = .ok (.aload_n 0, 1) := by decide +kernel
theorem dX4_foresee_25 : decode cX4_foresee 25 = .ok (.getfield 25, 3) := by decide +kernel
theorem dX4_foresee_28 : decode cX4_foresee 28 = .ok (.aload_n 0, 1) := by decide +kernel
theorem dX4_foresee_29 : decode cX4_foresee 29 = .ok (.getfield 21, 3) := by decide +kernel
theorem dX4_foresee_32 : decode cX4_foresee 32 = .ok (.invokevirtual 146, 3) := by decide +kernel
theorem dX4_foresee_35 : decode cX4_foresee 35 = .ok (.aload_n 0, 1) := by decide +kernel
theorem dX4_foresee_36 : decode cX4_foresee 36 = .ok (.getfield 25, 3) := by decide +kernel
theorem dX4_foresee_39 : decode cX4_foresee 39 = .ok (.iload_n 2, 1) := by decide +kernel
theorem dX4_foresee_40 : decode cX4_foresee 40 = .ok (.invokevirtual 141, 3) := by decide +kernel
theorem dX4_foresee_43 : decode cX4_foresee 43 = .ok (.aload_n 0, 1) := by decide +kernel
theorem dX4_foresee_44 : decode cX4_foresee 44 = .ok (.getfield 25, 3) := by decide +kernel
theorem dX4_foresee_47 : decode cX4_foresee 47 = .ok (.getfield 65, 3) := by decide +kernel
theorem dX4_foresee_50 : decode cX4_foresee 50 = .ok (.iload_n 1, 1) := by decide +kernel
theorem dX4_foresee_51 : decode cX4_foresee 51 = .ok (.aaload, 1) := by decide +kernel
theorem dX4_foresee_52 : decode cX4_foresee 52 = .ok (.astore 4, 2) := by decide +kernel
theorem dX4_foresee_54 : decode cX4_foresee 54 = .ok (.iload_n 3, 1) := by decide +kernel
theorem dX4_foresee_55 : decode cX4_foresee 55 = .ok (.lookupswitch 37 #[(0, 25), (1, 31)], 25) := by decide +kernel
theorem dX4_foresee_80 : decode cX4_foresee 80 = .ok (.aload 4, 2) := by decide +kernel
theorem dX4_foresee_82 : decode cX4_foresee 82 = .ok (.getfield 150, 3) := by decide +kernel
theorem dX4_foresee_85 : decode cX4_foresee 85 = .ok (.ireturn, 1) := by decide +kernel
theorem dX4_foresee_86 : decode cX4_foresee 86 = .ok (.aload 4, 2) := by decide +kernel
theorem dX4_foresee_88 : decode cX4_foresee 88 = .ok (.invokevirtual 153, 3) := by decide +kernel
theorem dX4_foresee_91 : decode cX4_foresee 91 = .ok (.ireturn, 1) := by decide +kernel
theorem dX4_foresee_92 : decode cX4_foresee 92 = .ok (.aload 4, 2) := by decide +kernel
theorem dX4_foresee_94 : decode cX4_foresee 94 = .ok (.getfield 157, 3) := by decide +kernel
theorem dX4_foresee_97 : decode cX4_foresee 97 = .ok (.ireturn, 1) := by decide +kernel
set_option maxRecDepth 20000 in
theorem ggX4_full_X4_needIndex : GoodIn wsX4_full wsX4_needIndex := goodIn_ca (goodIn_r _ [6, 7, 8] (by decide +kernel) (by decide +kernel)) (goodIn_sub (fun _ h => List.mem_cons_of_mem _ (List.mem_append_right _ h)) (by decide +kernel))
set_option maxRecDepth 20000 in
theorem gX4_full_X4_needIndex : GoodIn wsX4_full (va_wsS RX4 44 yX4_needIndex wsX4_needIndex) := goodIn_app (goodIn_of _ (by decide +kernel)) ggX4_full_X4_needIndex
set_option maxRecDepth 20000 in
theorem ggX4_full_X4_stepsUntil : GoodIn wsX4_full wsX4_stepsUntil := goodIn_r _ [12, 13, 1, 14, 15, 16, 17, 18, 19, 20, 21, 22, 23, 24, 25, 26, 27, 28, 29, 30, 31, 32, 33, 34, 35, 36, 37, 38, 39, 40, 41, 42, 43, 44, 45, 46, 47, 48, 49, 50, 51, 52, 53, 54, 55, 56, 57, 58, 59, 60, 61, 62, 63, 64, 65, 66, 67, 68, 69, 70, 71, 72, 73, 74, 75, 76, 77, 78, 79, 80, 81, 82, 83, 84, 85, 86, 87, 88, 89, 90, 91, 92, 93, 94, 95, 96, 97, 98, 99, 100, 101, 102, 103, 104, 105, 106, 107, 108, 109, 110, 111, 112, 113, 114, 115, 116, 117, 118, 119, 120, 121, 122, 123, 124, 125, 126, 127, 128, 129, 130, 131, 132, 133, 134, 135, 136, 137, 138, 139, 140, 141, 142, 143, 144, 145, 146, 147, 148, 149, 150, 151, 152, 153, 154, 155, 156, 157, 158, 159, 160, 161, 162, 163, 164, 165, 166, 167, 168, 169, 170, 171, 172, 173, 174, 175, 176, 177, 178, 179, 180, 181, 182, 183, 184, 185, 186, 187, 188, 189, 190, 191, 192, 193, 194, 195, 196, 197, 198, 199, 200, 201, 202, 203, 204, 205, 206, 207, 208, 209, 210, 211, 212, 213, 214, 215, 216, 217, 218, 219, 220, 221, 222, 223] (by decide +kernel) (by decide +kernel)
set_option maxRecDepth 20000 in
theorem gX4_full_X4_stepsUntil : GoodIn wsX4_full (wsV RX4 160 RX4 yX4_stepsUntil wsX4_stepsUntil) := goodIn_app (goodIn_of _ (by decide +kernel)) ggX4_full_X4_stepsUntil
theorem dX4_full_0 : decode cX4_full 0 = .ok (.iload_n 1, 1) := by decide +kernel
theorem dX4_full_1 : decode cX4_full 1 = .ok (.aload_n 0, 1) := by decide +kernel
theorem dX4_full_2 : decode cX4_full 2 = .ok (.getfield 21, 3) := by decide +kernel
theorem dX4_full_5 : decode cX4_full 5 = .ok (.getfield 58, 3) := by decide +kernel
theorem dX4_full_8 : decode cX4_full 8 = .ok (.invokestatic 44, 3) := by decide +kernel
theorem dX4_full_11 : decode cX4_full 11 = .ok (.aload_n 0, 1) := by decide +kernel
theorem dX4_full_12 : decode cX4_full 12 = .ok (.iload_n 1, 1) := by decide +kernel
theorem dX4_full_13 : decode cX4_full 13 = .ok (.iconst 0, 1) := by decide +kernel
theorem dX4_full_14 : decode cX4_full 14 = .ok (.invokevirtual 160, 3) := by decide +kernel
theorem dX4_full_17 : decode cX4_full 17 = .ok (.ireturn, 1) := by decide +kernel
set_option maxRecDepth 20000 in
theorem ggX4_gone_X4_needIndex : GoodIn wsX4_gone wsX4_needIndex := goodIn_ca (goodIn_r _ [6, 7, 8] (by decide +kernel) (by decide +kernel)) (goodIn_sub (fun _ h => List.mem_cons_of_mem _ (List.mem_append_right _ h)) (by decide +kernel))
set_option maxRecDepth 20000 in
theorem gX4_gone_X4_needIndex : GoodIn wsX4_gone (va_wsS RX4 44 yX4_needIndex wsX4_needIndex) := goodIn_app (goodIn_of _ (by decide +kernel)) ggX4_gone_X4_needIndex
set_option maxRecDepth 20000 in
theorem ggX4_gone_X4_stepsUntil : GoodIn wsX4_gone wsX4_stepsUntil := goodIn_r _ [12, 13, 1, 14, 15, 16, 17, 18, 19, 20, 21, 22, 23, 24, 25, 26, 27, 28, 29, 30, 31, 32, 33, 34, 35, 36, 37, 38, 39, 40, 41, 42, 43, 44, 45, 46, 47, 48, 49, 50, 51, 52, 53, 54, 55, 56, 57, 58, 59, 60, 61, 62, 63, 64, 65, 66, 67, 68, 69, 70, 71, 72, 73, 74, 75, 76, 77, 78, 79, 80, 81, 82, 83, 84, 85, 86, 87, 88, 89, 90, 91, 92, 93, 94, 95, 96, 97, 98, 99, 100, 101, 102, 103, 104, 105, 106, 107, 108, 109, 110, 111, 112, 113, 114, 115, 116, 117, 118, 119, 120, 121, 122, 123, 124, 125, 126, 127, 128, 129, 130, 131, 132, 133, 134, 135, 136, 137, 138, 139, 140, 141, 142, 143, 144, 145, 146, 147, 148, 149, 150, 151, 152, 153, 154, 155, 156, 157, 158, 159, 160, 161, 162, 163, 164, 165, 166, 167, 168, 169, 170, 171, 172, 173, 174, 175, 176, 177, 178, 179, 180, 181, 182, 183, 184, 185, 186, 187, 188, 189, 190, 191, 192, 193, 194, 195, 196, 197, 198, 199, 200, 201, 202, 203, 204, 205, 206, 207, 208, 209, 210, 211, 212, 213, 214, 215, 216, 217, 218, 219, 220, 221, 222, 223] (by decide +kernel) (by decide +kernel)
set_option maxRecDepth 20000 in
theorem gX4_gone_X4_stepsUntil : GoodIn wsX4_gone (wsV RX4 160 RX4 yX4_stepsUntil wsX4_stepsUntil) := goodIn_app (goodIn_of _ (by decide +kernel)) ggX4_gone_X4_stepsUntil
theorem dX4_gone_0 : decode cX4_gone 0 = .ok (.iload_n 1, 1) := by decide +kernel
theorem dX4_gone_1 : decode cX4_gone 1 = .ok (.aload_n 0, 1) := by decide +kernel
theorem dX4_gone_2 : decode cX4_gone 2 = .ok (.getfield 21, 3) := by decide +kernel
theorem dX4_gone_5 : decode cX4_gone 5 = .ok (.getfield 58, 3) := by decide +kernel
theorem dX4_gone_8 : decode cX4_gone 8 = .ok (.invokestatic 44, 3) := by decide +kernel
theorem dX4_gone_11 : decode cX4_gone 11 = .ok (.aload_n 0, 1) := by decide +kernel
theorem dX4_gone_12 : decode cX4_gone 12 = .ok (.iload_n 1, 1) := by decide +kernel
theorem dX4_gone_13 : decode cX4_gone 13 = .ok (.iconst 1, 1) := by decide +kernel
theorem dX4_gone_14 : decode cX4_gone 14 = .ok (.invokevirtual 160, 3) := by decide +kernel
theorem dX4_gone_17 : decode cX4_gone 17 = .ok (.ireturn, 1) := by decide +kernel
set_option maxRecDepth 20000 in
theorem ggX4_advise_X4_needIndex : GoodIn wsX4_advise wsX4_needIndex := goodIn_ca (goodIn_r _ [10, 11, 12] (by decide +kernel) (by decide +kernel)) (goodIn_sub (fun _ h => List.mem_cons_of_mem _ (List.mem_append_left _ (List.mem_append_left _ (List.mem_append_right _ h)))) (by decide +kernel))
set_option maxRecDepth 20000 in
theorem gX4_advise_X4_needIndex : GoodIn wsX4_advise (va_wsS RX4 44 yX4_needIndex wsX4_needIndex) := goodIn_app (goodIn_of _ (by decide +kernel)) ggX4_advise_X4_needIndex
set_option maxRecDepth 20000 in
theorem ggX4_advise_X4_needRange : GoodIn wsX4_advise wsX4_needRange := goodIn_ca (goodIn_r _ [15, 16, 17] (by decide +kernel) (by decide +kernel)) (goodIn_sub (fun _ h => List.mem_cons_of_mem _ (List.mem_append_left _ (List.mem_append_right _ h))) (by decide +kernel))
set_option maxRecDepth 20000 in
theorem gX4_advise_X4_needRange : GoodIn wsX4_advise (va_wsS RX4 28 yX4_needRange wsX4_needRange) := goodIn_app (goodIn_of _ (by decide +kernel)) ggX4_advise_X4_needRange
set_option maxRecDepth 20000 in
theorem ggX4_advise_X4_needState : GoodIn wsX4_advise wsX4_needState := goodIn_ca (goodIn_r _ [20, 21, 22] (by decide +kernel) (by decide +kernel)) (goodIn_sub (fun _ h => List.mem_cons_of_mem _ (List.mem_append_right _ h)) (by decide +kernel))
set_option maxRecDepth 20000 in
theorem gX4_advise_X4_needState : GoodIn wsX4_advise (va_wsS RX4 36 yX4_needState wsX4_needState) := goodIn_app (goodIn_of _ (by decide +kernel)) ggX4_advise_X4_needState
set_option maxRecDepth 20000 in
theorem ggX4_advise_X2_isFull : GoodIn wsX4_advise wsX2_isFull := goodIn_r _ [27, 28, 29, 226, 227, 228] (by decide +kernel) (by decide +kernel)
set_option maxRecDepth 20000 in
theorem gX4_advise_X2_isFull : GoodIn wsX4_advise (wsV RX4 93 RX2 yX2_isFull wsX2_isFull) := goodIn_app (goodIn_of _ (by decide +kernel)) ggX4_advise_X2_isFull
set_option maxRecDepth 20000 in
theorem ggX4_advise_X4_coinsIfMoored : GoodIn wsX4_advise wsX4_coinsIfMoored := goodIn_r _ [33, 34, 1, 3, 35, 36, 37, 38, 39, 40, 41, 42, 43, 44, 45, 46, 47, 48, 49, 50, 51, 52, 26, 53, 29, 28, 54, 55, 56, 57, 58, 59, 60, 61, 62, 63, 64, 65, 66, 67, 68, 69, 70, 71, 72, 73, 74, 75, 76, 77, 78, 79, 80, 81, 82, 83, 84, 85, 86, 87, 88, 89, 90, 91, 92, 93, 94, 95, 96, 97, 98, 99, 100, 101, 102, 103, 104, 105, 106, 107, 108, 109, 110, 111, 112, 113, 114, 115, 116, 117, 118, 119, 120, 121, 122, 123, 124, 125, 126, 127, 128, 129, 130, 131, 132, 133, 134, 135, 136, 137, 138, 139, 140, 141, 24, 25, 27, 142, 143, 144, 145, 146, 147, 148, 149, 150, 151, 152, 153, 154, 155, 156, 157, 158, 159, 160, 161, 162, 163, 164, 165, 166, 167, 168, 169, 170, 171, 172, 173, 174, 175, 176, 177, 178, 179, 180, 181, 182, 183, 184, 185, 186, 187, 188, 189, 190, 191, 192, 193, 194, 195, 196, 197, 198, 199, 200, 201, 202, 203, 204, 205, 206, 207, 208, 209, 210, 211, 212, 213, 214, 215, 216, 217, 218, 219, 220, 221, 222, 223, 224, 225, 226, 227, 228, 229, 230] (by decide +kernel) (by decide +kernel)
set_option maxRecDepth 20000 in
theorem gX4_advise_X4_coinsIfMoored : GoodIn wsX4_advise (wsV RX4 163 RX4 yX4_coinsIfMoored wsX4_coinsIfMoored) := goodIn_app (goodIn_of _ (by decide +kernel)) ggX4_advise_X4_coinsIfMoored
theorem dX4_advise_0 : decode cX4_advise 0 = .ok (.iload_n 1, 1) := by decide +kernel
theorem dX4_advise_1 : decode cX4_advise 1 = .ok (.aload_n 0, 1) := by decide +kernel
theorem dX4_advise_2 : decode cX4_advise 2 = .ok (.getfield 21, 3) := by decide +kernel
theorem dX4_advise_5 : decode cX4_advise 5 = .ok (.getfield 58, 3) := by decide +kernel
theorem dX4_advise_8 : decode cX4_advise 8 = .ok (.invokestatic 44, 3) := by decide +kernel
theorem dX4_advise_11 : decode cX4_advise 11 = .ok (.iload_n 2, 1) := by decide +kernel
theorem dX4_advise_12 : decode cX4_advise 12 = .ok (.iconst 1, 1) := by decide +kernel
theorem dX4_advise_13 : decode cX4_advise 13 = .ok (.bipush 60, 2) := by decide +kernel
theorem dX4_advise_15 : decode cX4_advise 15 = .ok (.invokestatic 28, 3) := by decide +kernel
theorem dX4_advise_18 : decode cX4_advise 18 = .ok (.aload_n 0, 1) := by decide +kernel
theorem dX4_advise_19 : decode cX4_advise 19 = .ok (.getfield 21, 3) := by decide +kernel
theorem dX4_advise_22 : decode cX4_advise 22 = .ok (.getfield 65, 3) := by decide +kernel
theorem dX4_advise_25 : decode cX4_advise 25 = .ok (.iload_n 1, 1) := by decide +kernel
theorem dX4_advise_26 : decode cX4_advise 26 = .ok (.aaload, 1) := by decide +kernel
theorem dX4_advise_27 : decode cX4_advise 27 = .ok (.getfield 69, 3) := by decide +kernel
theorem dX4_advise_30 : decode cX4_advise 30 = .ok (.ifCond .ne 7, 3) := by decide +kernel
theorem dX4_advise_33 : decode cX4_advise 33 = .ok (.iconst 1, 1) := by decide +kernel
theorem dX4_advise_34 : decode cX4_advise 34 = .ok (.goto 4, 3) := by decide +kernel
theorem dX4_advise_37 : decode cX4_advise 37 = .ok (.iconst 0, 1) := by decide +kernel
theorem dX4_advise_38 : decode cX4_advise 38 = .ok (.invokestatic 36, 3) := by decide +kernel
theorem dX4_advise_41 : decode cX4_advise 41 = .ok (.iconst (-1), 1) := by decide +kernel
theorem dX4_advise_42 : decode cX4_advise 42 = .ok (.istore_n 3, 1) := by decide +kernel
theorem dX4_advise_43 : decode cX4_advise 43 = .ok (.iconst (-1), 1) := by decide +kernel
theorem dX4_advise_44 : decode cX4_advise 44 = .ok (.istore 4, 2) := by decide +kernel
theorem dX4_advise_46 : decode cX4_advise 46 = .ok (.iconst 0, 1) := by decide +kernel
theorem dX4_advise_47 : decode cX4_advise 47 = .ok (.istore 5, 2) := by decide +kernel
theorem dX4_advise_49 : decode cX4_advise 49 = .ok (.iload 5, 2) := by decide +kernel
theorem dX4_advise_51 : decode cX4_advise 51 = .ok (.aload_n 0, 1) := by decide +kernel
theorem dX4_advise_52 : decode cX4_advise 52 = .ok (.getfield 21, 3) := by decide +kernel
theorem dX4_advise_55 : decode cX4_advise 55 = .ok (.getfield 32, 3) := by decide +kernel
theorem dX4_advise_58 : decode cX4_advise 58 = .ok (.if_icmp .ge 49, 3) := by decide +kernel
theorem dX4_advise_61 : decode cX4_advise 61 = .ok (.aload_n 0, 1) := by decide +kernel
theorem dX4_advise_62 : decode cX4_advise 62 = .ok (.getfield 21, 3) := by decide +kernel
theorem dX4_advise_65 : decode cX4_advise 65 = .ok (.getfield 89, 3) := by decide +kernel
theorem dX4_advise_68 : decode cX4_advise 68 = .ok (.iload 5, 2) := by decide +kernel
theorem dX4_advise_70 : decode cX4_advise 70 = .ok (.aaload, 1) := by decide +kernel
theorem dX4_advise_71 : decode cX4_advise 71 = .ok (.invokevirtual 93, 3) := by decide +kernel
theorem dX4_advise_74 : decode cX4_advise 74 = .ok (.ifCond .ne 27, 3) := by decide +kernel
theorem dX4_advise_77 : decode cX4_advise 77 = .ok (.aload_n 0, 1) := by decide +kernel
theorem dX4_advise_78 : decode cX4_advise 78 = .ok (.iload_n 1, 1) := by decide +kernel
theorem dX4_advise_79 : decode cX4_advise 79 = .ok (.iload 5, 2) := by decide +kernel
theorem dX4_advise_81 : decode cX4_advise 81 = .ok (.iload_n 2, 1) := by decide +kernel
theorem dX4_advise_82 : decode cX4_advise 82 = .ok (.invokevirtual 163, 3) := by decide +kernel
theorem dX4_advise_85 : decode cX4_advise 85 = .ok (.istore 6, 2) := by decide +kernel
theorem dX4_advise_87 : decode cX4_advise 87 = .ok (.iload 6, 2) := by decide +kernel
theorem dX4_advise_89 : decode cX4_advise 89 = .ok (.iload 4, 2) := by decide +kernel
theorem dX4_advise_91 : decode cX4_advise 91 = .ok (.if_icmp .le 10, 3) := by decide +kernel
theorem dX4_advise_94 : decode cX4_advise 94 = .ok (.iload 5, 2) := by decide +kernel
theorem dX4_advise_96 : decode cX4_advise 96 = .ok (.istore_n 3, 1) := by decide +kernel
theorem dX4_advise_97 : decode cX4_advise 97 = .ok (.iload 6, 2) := by decide +kernel
theorem dX4_advise_99 : decode cX4_advise 99 = .ok (.istore 4, 2) := by decide +kernel
theorem dX4_advise_101 : decode cX4_advise 101 = .ok (.iinc 5 1, 3) := by decide +kernel
theorem dX4_advise_104 : decode cX4_advise 104 = .ok (.goto (-55), 3) := by decide +kernel
theorem dX4_advise_107 : decode cX4_advise 107 = .ok (.iload_n 3, 1) := by decide +kernel
theorem dX4_advise_108 : decode cX4_advise 108 = .ok (.ireturn, 1) := by decide +kernel
set_option maxRecDepth 20000 in
theorem ggX4_price_X4_needIndex : GoodIn wsX4_price wsX4_needIndex := goodIn_ca (goodIn_r _ [6, 7, 8] (by decide +kernel) (by decide +kernel)) (goodIn_sub (fun _ h => List.mem_cons_of_mem _ (List.mem_append_left _ (List.mem_append_right _ h))) (by decide +kernel))
set_option maxRecDepth 20000 in
theorem gX4_price_X4_needIndex : GoodIn wsX4_price (va_wsS RX4 44 yX4_needIndex wsX4_needIndex) := goodIn_app (goodIn_of _ (by decide +kernel)) ggX4_price_X4_needIndex
set_option maxRecDepth 20000 in
theorem ggX4_price_X4_needRange : GoodIn wsX4_price wsX4_needRange := goodIn_ca (goodIn_r _ [11, 12, 13] (by decide +kernel) (by decide +kernel)) (goodIn_sub (fun _ h => List.mem_cons_of_mem _ (List.mem_append_right _ h)) (by decide +kernel))
set_option maxRecDepth 20000 in
theorem gX4_price_X4_needRange : GoodIn wsX4_price (va_wsS RX4 28 yX4_needRange wsX4_needRange) := goodIn_app (goodIn_of _ (by decide +kernel)) ggX4_price_X4_needRange
set_option maxRecDepth 20000 in
theorem ggX4_price_X4_soldIfAsking : GoodIn wsX4_price wsX4_soldIfAsking := goodIn_r _ [17, 18, 1, 19, 20, 21, 22, 23, 24, 25, 26, 27, 28, 29, 30, 31, 32, 33, 34, 35, 36, 37, 38, 39, 40, 41, 42, 43, 44, 45, 46, 47, 48, 49, 50, 51, 52, 53, 54, 55, 56, 57, 58, 59, 60, 61, 62, 63, 64, 65, 66, 67, 68, 69, 70, 71, 72, 73, 74, 75, 76, 77, 78, 79, 80, 81, 82, 83, 84, 85, 86, 87, 88, 89, 90, 91, 92, 93, 94, 95, 96, 97, 98, 99, 100, 101, 102, 103, 104, 105, 106, 107, 108, 109, 110, 111, 112, 113, 114, 115, 116, 117, 118, 119, 120, 121, 122, 123, 124, 125, 126, 127, 128, 129, 130, 131, 132, 133, 134, 135, 136, 137, 138, 139, 140, 141, 142, 143, 144, 145, 146, 147, 148, 149, 150, 151, 152, 153, 154, 155, 156, 157, 158, 159, 160, 161, 162, 163, 164, 165, 166, 167, 168, 169, 170, 171, 172, 173, 174, 175, 176, 177, 178, 179, 180, 181, 182, 183, 184, 185, 186, 187, 188, 189, 190, 191, 192, 193, 194, 195, 196, 197, 198, 199, 200, 201, 202, 203, 204, 205, 206, 207, 208, 209, 210, 211, 212, 213, 214, 215, 216, 217, 218, 219, 220, 221] (by decide +kernel) (by decide +kernel)
set_option maxRecDepth 20000 in
theorem gX4_price_X4_soldIfAsking : GoodIn wsX4_price (wsV RX4 167 RX4 yX4_soldIfAsking wsX4_soldIfAsking) := goodIn_app (goodIn_of _ (by decide +kernel)) ggX4_price_X4_soldIfAsking
theorem dX4_price_0 : decode cX4_price 0 = .ok (.iload_n 1, 1) := by decide +kernel
theorem dX4_price_1 : decode cX4_price 1 = .ok (.aload_n 0, 1) := by decide +kernel
theorem dX4_price_2 : decode cX4_price 2 = .ok (.getfield 21, 3) := by decide +kernel
theorem dX4_price_5 : decode cX4_price 5 = .ok (.getfield 58, 3) := by decide +kernel
theorem dX4_price_8 : decode cX4_price 8 = .ok (.invokestatic 44, 3) := by decide +kernel
theorem dX4_price_11 : decode cX4_price 11 = .ok (.iload_n 2, 1) := by decide +kernel
theorem dX4_price_12 : decode cX4_price 12 = .ok (.iconst 4, 1) := by decide +kernel
theorem dX4_price_13 : decode cX4_price 13 = .ok (.invokestatic 44, 3) := by decide +kernel
theorem dX4_price_16 : decode cX4_price 16 = .ok (.iload_n 3, 1) := by decide +kernel
theorem dX4_price_17 : decode cX4_price 17 = .ok (.iconst 1, 1) := by decide +kernel
theorem dX4_price_18 : decode cX4_price 18 = .ok (.bipush 40, 2) := by decide +kernel
theorem dX4_price_20 : decode cX4_price 20 = .ok (.invokestatic 28, 3) := by decide +kernel
theorem dX4_price_23 : decode cX4_price 23 = .ok (.iconst (-1), 1) := by decide +kernel
theorem dX4_price_24 : decode cX4_price 24 = .ok (.istore 4, 2) := by decide +kernel
theorem dX4_price_26 : decode cX4_price 26 = .ok (.iconst (-1), 1) := by decide +kernel
theorem dX4_price_27 : decode cX4_price 27 = .ok (.istore 5, 2) := by decide +kernel
theorem dX4_price_29 : decode cX4_price 29 = .ok (.iconst 1, 1) := by decide +kernel
theorem dX4_price_30 : decode cX4_price 30 = .ok (.istore 6, 2) := by decide +kernel
theorem dX4_price_32 : decode cX4_price 32 = .ok (.iload 6, 2) := by decide +kernel
theorem dX4_price_34 : decode cX4_price 34 = .ok (.bipush 20, 2) := by decide +kernel
theorem dX4_price_36 : decode cX4_price 36 = .ok (.if_icmp .gt 35, 3) := by decide +kernel
theorem dX4_price_39 : decode cX4_price 39 = .ok (.aload_n 0, 1) := by decide +kernel
theorem dX4_price_40 : decode cX4_price 40 = .ok (.iload_n 1, 1) := by decide +kernel
theorem dX4_price_41 : decode cX4_price 41 = .ok (.iload_n 2, 1) := by decide +kernel
theorem dX4_price_42 : decode cX4_price 42 = .ok (.iload 6, 2) := by decide +kernel
theorem dX4_price_44 : decode cX4_price 44 = .ok (.iload_n 3, 1) := by decide +kernel
theorem dX4_price_45 : decode cX4_price 45 = .ok (.invokevirtual 167, 3) := by decide +kernel
theorem dX4_price_48 : decode cX4_price 48 = .ok (.istore 7, 2) := by decide +kernel
theorem dX4_price_50 : decode cX4_price 50 = .ok (.iload 7, 2) := by decide +kernel
theorem dX4_price_52 : decode cX4_price 52 = .ok (.iload 5, 2) := by decide +kernel
theorem dX4_price_54 : decode cX4_price 54 = .ok (.if_icmp .le 11, 3) := by decide +kernel
theorem dX4_price_57 : decode cX4_price 57 = .ok (.iload 6, 2) := by decide +kernel
theorem dX4_price_59 : decode cX4_price 59 = .ok (.istore 4, 2) := by decide +kernel
theorem dX4_price_61 : decode cX4_price 61 = .ok (.iload 7, 2) := by decide +kernel
theorem dX4_price_63 : decode cX4_price 63 = .ok (.istore 5, 2) := by decide +kernel
theorem dX4_price_65 : decode cX4_price 65 = .ok (.iinc 6 1, 3) := by decide +kernel
theorem dX4_price_68 : decode cX4_price 68 = .ok (.goto (-36), 3) := by decide +kernel
theorem dX4_price_71 : decode cX4_price 71 = .ok (.iload 4, 2) := by decide +kernel
theorem dX4_price_73 : decode cX4_price 73 = .ok (.ireturn, 1) := by decide +kernel
theorem dX4_mean_0 : decode cX4_mean 0 = .ok (.aload_n 0, 1) := by decide +kernel
theorem dX4_mean_1 : decode cX4_mean 1 = .ok (.getfield 21, 3) := by decide +kernel
theorem dX4_mean_4 : decode cX4_mean 4 = .ok (.getfield 138, 3) := by decide +kernel
theorem dX4_mean_7 : decode cX4_mean 7 = .ok (.ifCond .ne 5, 3) := by decide +kernel
theorem dX4_mean_10 : decode cX4_mean 10 = .ok (.dconst 0, 1) := by decide +kernel
theorem dX4_mean_11 : decode cX4_mean 11 = .ok (.dreturn, 1) := by decide +kernel
theorem dX4_mean_12 : decode cX4_mean 12 = .ok (.aload_n 0, 1) := by decide +kernel
theorem dX4_mean_13 : decode cX4_mean 13 = .ok (.getfield 21, 3) := by decide +kernel
theorem dX4_mean_16 : decode cX4_mean 16 = .ok (.getfield 171, 3) := by decide +kernel
theorem dX4_mean_19 : decode cX4_mean 19 = .ok (.i2d, 1) := by decide +kernel
theorem dX4_mean_20 : decode cX4_mean 20 = .ok (.aload_n 0, 1) := by decide +kernel
theorem dX4_mean_21 : decode cX4_mean 21 = .ok (.getfield 21, 3) := by decide +kernel
theorem dX4_mean_24 : decode cX4_mean 24 = .ok (.getfield 138, 3) := by decide +kernel
theorem dX4_mean_27 : decode cX4_mean 27 = .ok (.i2d, 1) := by decide +kernel
theorem dX4_mean_28 : decode cX4_mean 28 = .ok (.ddiv, 1) := by decide +kernel
theorem dX4_mean_29 : decode cX4_mean 29 = .ok (.dreturn, 1) := by decide +kernel
set_option maxRecDepth 20000 in
theorem ggX4_digest_X1_figure : GoodIn wsX4_digest wsX1_figure := goodIn_r _ [13, 14, 15, 16, 17, 18, 19, 20, 21, 22, 23, 12, 24, 25, 26, 27, 28, 29, 30, 31, 32, 33, 34, 35, 36, 37, 38, 39, 40, 41, 42, 43, 44, 45, 46, 47, 48, 49, 50, 51, 52, 53, 54, 55, 56, 57, 58, 59, 60, 61, 126, 127, 128, 129, 130, 131, 132, 133, 134, 135, 136, 137, 138, 139, 140, 141, 142, 143, 144, 145, 146, 147, 148, 149, 150, 151, 152, 153] (by decide +kernel) (by decide +kernel)
set_option maxRecDepth 20000 in
theorem gX4_digest_X1_figure : GoodIn wsX4_digest (wsV RX4 145 RX1 yX1_figure wsX1_figure) := goodIn_app (goodIn_of _ (by decide +kernel)) ggX4_digest_X1_figure
set_option maxRecDepth 20000 in
theorem ggX4_digest_X3_entry : GoodIn wsX4_digest wsX3_entry := goodIn_r _ [65, 66, 53, 54, 55, 56, 57, 58, 59, 60, 61, 67, 68, 69, 70, 71, 152, 153] (by decide +kernel) (by decide +kernel)
set_option maxRecDepth 20000 in
theorem gX4_digest_X3_entry : GoodIn wsX4_digest (wsV RX4 48 RX3 yX3_entry wsX3_entry) := goodIn_app (goodIn_of _ (by decide +kernel)) ggX4_digest_X3_entry
set_option maxRecDepth 20000 in
theorem ggX4_digest_X2_addTo : GoodIn wsX4_digest wsX2_addTo := goodIn_r _ [76, 77, 78, 79, 80, 81, 75, 82, 83, 84, 154, 155, 156] (by decide +kernel) (by decide +kernel)
set_option maxRecDepth 20000 in
theorem gX4_digest_X2_addTo : GoodIn wsX4_digest (wsV RX4 178 RX2 yX2_addTo wsX2_addTo) := goodIn_app (goodIn_of _ (by decide +kernel)) ggX4_digest_X2_addTo
set_option maxRecDepth 20000 in
theorem ggX4_digest_X0_addTo : GoodIn wsX4_digest wsX0_addTo := goodIn_r _ [88, 89, 90, 91, 92, 39, 93, 94, 95, 96, 97, 98, 99, 100, 101, 102, 103, 104, 105, 106, 107, 108, 109, 110, 111, 112, 41, 113, 114, 115, 116, 117, 118, 119, 120, 121, 122, 136, 137, 138, 139, 140, 141, 142, 143, 144, 145, 146, 147, 148, 149, 150, 151] (by decide +kernel) (by decide +kernel)
set_option maxRecDepth 20000 in
theorem gX4_digest_X0_addTo : GoodIn wsX4_digest (wsV RX4 182 RX0 yX0_addTo wsX0_addTo) := goodIn_app (goodIn_of _ (by decide +kernel)) ggX4_digest_X0_addTo
theorem dX4_digest_0 : decode cX4_digest 0 = .ok (.ldc2_w 174, 3) := by decide +kernel
theorem dX4_digest_3 : decode cX4_digest 3 = .ok (.lstore_n 1, 1) := by decide +kernel
theorem dX4_digest_4 : decode cX4_digest 4 = .ok (.iconst 0, 1) := by decide +kernel
theorem dX4_digest_5 : decode cX4_digest 5 = .ok (.istore_n 3, 1) := by decide +kernel
theorem dX4_digest_6 : decode cX4_digest 6 = .ok (.iload_n 3, 1) := by decide +kernel
theorem dX4_digest_7 : decode cX4_digest 7 = .ok (.bipush 12, 2) := by decide +kernel
theorem dX4_digest_9 : decode cX4_digest 9 = .ok (.if_icmp .ge 25, 3) := by decide +kernel
theorem dX4_digest_12 : decode cX4_digest 12 = .ok (.lload_n 1, 1) := by decide +kernel
theorem dX4_digest_13 : decode cX4_digest 13 = .ok (.ldc2_w 176, 3) := by decide +kernel
theorem dX4_digest_16 : decode cX4_digest 16 = .ok (.lmul, 1) := by decide +kernel
theorem dX4_digest_17 : decode cX4_digest 17 = .ok (.aload_n 0, 1) := by decide +kernel
theorem dX4_digest_18 : decode cX4_digest 18 = .ok (.getfield 21, 3) := by decide +kernel
theorem dX4_digest_21 : decode cX4_digest 21 = .ok (.iload_n 3, 1) := by decide +kernel
theorem dX4_digest_22 : decode cX4_digest 22 = .ok (.invokevirtual 145, 3) := by decide +kernel
theorem dX4_digest_25 : decode cX4_digest 25 = .ok (.i2l, 1) := by decide +kernel
theorem dX4_digest_26 : decode cX4_digest 26 = .ok (.ladd, 1) := by decide +kernel
theorem dX4_digest_27 : decode cX4_digest 27 = .ok (.lstore_n 1, 1) := by decide +kernel
theorem dX4_digest_28 : decode cX4_digest 28 = .ok (.iinc 3 1, 3) := by decide +kernel
theorem dX4_digest_31 : decode cX4_digest 31 = .ok (.goto (-25), 3) := by decide +kernel
theorem dX4_digest_34 : decode cX4_digest 34 = .ok (.iconst 0, 1) := by decide +kernel
theorem dX4_digest_35 : decode cX4_digest 35 = .ok (.istore_n 3, 1) := by decide +kernel
theorem dX4_digest_36 : decode cX4_digest 36 = .ok (.iload_n 3, 1) := by decide +kernel
theorem dX4_digest_37 : decode cX4_digest 37 = .ok (.bipush 24, 2) := by decide +kernel
theorem dX4_digest_39 : decode cX4_digest 39 = .ok (.if_icmp .ge 25, 3) := by decide +kernel
theorem dX4_digest_42 : decode cX4_digest 42 = .ok (.lload_n 1, 1) := by decide +kernel
theorem dX4_digest_43 : decode cX4_digest 43 = .ok (.ldc2_w 176, 3) := by decide +kernel
theorem dX4_digest_46 : decode cX4_digest 46 = .ok (.lmul, 1) := by decide +kernel
theorem dX4_digest_47 : decode cX4_digest 47 = .ok (.aload_n 0, 1) := by decide +kernel
theorem dX4_digest_48 : decode cX4_digest 48 = .ok (.getfield 10, 3) := by decide +kernel
theorem dX4_digest_51 : decode cX4_digest 51 = .ok (.iload_n 3, 1) := by decide +kernel
theorem dX4_digest_52 : decode cX4_digest 52 = .ok (.invokevirtual 48, 3) := by decide +kernel
theorem dX4_digest_55 : decode cX4_digest 55 = .ok (.i2l, 1) := by decide +kernel
theorem dX4_digest_56 : decode cX4_digest 56 = .ok (.ladd, 1) := by decide +kernel
theorem dX4_digest_57 : decode cX4_digest 57 = .ok (.lstore_n 1, 1) := by decide +kernel
theorem dX4_digest_58 : decode cX4_digest 58 = .ok (.iinc 3 1, 3) := by decide +kernel
theorem dX4_digest_61 : decode cX4_digest 61 = .ok (.goto (-25), 3) := by decide +kernel
theorem dX4_digest_64 : decode cX4_digest 64 = .ok (.iconst 0, 1) := by decide +kernel
theorem dX4_digest_65 : decode cX4_digest 65 = .ok (.istore_n 3, 1) := by decide +kernel
theorem dX4_digest_66 : decode cX4_digest 66 = .ok (.iload_n 3, 1) := by decide +kernel
theorem dX4_digest_67 : decode cX4_digest 67 = .ok (.aload_n 0, 1) := by decide +kernel
theorem dX4_digest_68 : decode cX4_digest 68 = .ok (.getfield 21, 3) := by decide +kernel
theorem dX4_digest_71 : decode cX4_digest 71 = .ok (.getfield 32, 3) := by decide +kernel
theorem dX4_digest_74 : decode cX4_digest 74 = .ok (.if_icmp .ge 23, 3) := by decide +kernel
theorem dX4_digest_77 : decode cX4_digest 77 = .ok (.aload_n 0, 1) := by decide +kernel
theorem dX4_digest_78 : decode cX4_digest 78 = .ok (.getfield 21, 3) := by decide +kernel
theorem dX4_digest_81 : decode cX4_digest 81 = .ok (.getfield 89, 3) := by decide +kernel
theorem dX4_digest_84 : decode cX4_digest 84 = .ok (.iload_n 3, 1) := by decide +kernel
theorem dX4_digest_85 : decode cX4_digest 85 = .ok (.aaload, 1) := by decide +kernel
theorem dX4_digest_86 : decode cX4_digest 86 = .ok (.lload_n 1, 1) := by decide +kernel
theorem dX4_digest_87 : decode cX4_digest 87 = .ok (.invokevirtual 178, 3) := by decide +kernel
theorem dX4_digest_90 : decode cX4_digest 90 = .ok (.lstore_n 1, 1) := by decide +kernel
theorem dX4_digest_91 : decode cX4_digest 91 = .ok (.iinc 3 1, 3) := by decide +kernel
