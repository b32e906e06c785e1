set_option maxRecDepth 20000 in
theorem gX1_figure_X1_coinsInAll : GoodIn wsX1_figure (wsV RX1 190 RX1 yX1_coinsInAll wsX1_coinsInAll) := goodIn_app (goodIn_of _ (by decide +kernel)) ggX1_figure_X1_coinsInAll
set_option maxRecDepth 20000 in
theorem ggX1_figure_X1_goodsInAll : GoodIn wsX1_figure wsX1_goodsInAll := goodIn_r _ [23, 3, 13, 24, 25, 26, 27, 28, 29, 50, 51, 52, 53, 54, 55, 56, 57, 58, 59, 60, 61, 62, 63, 64, 65, 66, 67, 68, 69, 70, 71, 72, 73, 74, 75] (by decide +kernel) (by decide +kernel)
set_option maxRecDepth 20000 in
theorem gX1_figure_X1_goodsInAll : GoodIn wsX1_figure (wsV RX1 194 RX1 yX1_goodsInAll wsX1_goodsInAll) := goodIn_app (goodIn_of _ (by decide +kernel)) ggX1_figure_X1_goodsInAll
set_option maxRecDepth 20000 in
theorem ggX1_figure_X1_dryCanoes : GoodIn wsX1_figure wsX1_dryCanoes := goodIn_r _ [33, 3, 13, 34, 35, 36, 11, 37, 14, 38, 39, 1, 40, 41, 42, 43, 44, 45, 46, 47, 48, 49, 50, 51, 52, 53, 54, 55, 56, 57, 58, 59, 60, 61, 62, 63, 64, 65, 66, 67, 68, 69, 70, 71, 72, 73, 74, 75, 76, 77] (by decide +kernel) (by decide +kernel)
set_option maxRecDepth 20000 in
theorem gX1_figure_X1_dryCanoes : GoodIn wsX1_figure (wsV RX1 197 RX1 yX1_dryCanoes wsX1_dryCanoes) := goodIn_app (goodIn_of _ (by decide +kernel)) ggX1_figure_X1_dryCanoes
theorem dX1_figure_0 : decode cX1_figure 0 = .ok (.iload_n 1, 1) := by decide +kernel
theorem dX1_figure_1 : decode cX1_figure 1 = .ok (.tableswitch 116 0 10 #[59, 64, 69, 74, 80, 86, 91, 96, 101, 106, 111], 59) := by decide +kernel
theorem dX1_figure_60 : decode cX1_figure 60 = .ok (.aload_n 0, 1) := by decide +kernel
theorem dX1_figure_61 : decode cX1_figure 61 = .ok (.getfield 38, 3) := by decide +kernel
theorem dX1_figure_64 : decode cX1_figure 64 = .ok (.ireturn, 1) := by decide +kernel
theorem dX1_figure_65 : decode cX1_figure 65 = .ok (.aload_n 0, 1) := by decide +kernel
theorem dX1_figure_66 : decode cX1_figure 66 = .ok (.getfield 31, 3) := by decide +kernel
theorem dX1_figure_69 : decode cX1_figure 69 = .ok (.ireturn, 1) := by decide +kernel
theorem dX1_figure_70 : decode cX1_figure 70 = .ok (.aload_n 0, 1) := by decide +kernel
theorem dX1_figure_71 : decode cX1_figure 71 = .ok (.getfield 35, 3) := by decide +kernel
theorem dX1_figure_74 : decode cX1_figure 74 = .ok (.ireturn, 1) := by decide +kernel
theorem dX1_figure_75 : decode cX1_figure 75 = .ok (.aload_n 0, 1) := by decide +kernel
theorem dX1_figure_76 : decode cX1_figure 76 = .ok (.iconst 1, 1) := by decide +kernel
theorem dX1_figure_77 : decode cX1_figure 77 = .ok (.invokevirtual 187, 3) := by decide +kernel
theorem dX1_figure_80 : decode cX1_figure 80 = .ok (.ireturn, 1) := by decide +kernel
theorem dX1_figure_81 : decode cX1_figure 81 = .ok (.aload_n 0, 1) := by decide +kernel
theorem dX1_figure_82 : decode cX1_figure 82 = .ok (.iconst 2, 1) := by decide +kernel
theorem dX1_figure_83 : decode cX1_figure 83 = .ok (.invokevirtual 187, 3) := by decide +kernel
theorem dX1_figure_86 : decode cX1_figure 86 = .ok (.ireturn, 1) := by decide +kernel
theorem dX1_figure_87 : decode cX1_figure 87 = .ok (.aload_n 0, 1) := by decide +kernel
theorem dX1_figure_88 : decode cX1_figure 88 = .ok (.invokevirtual 190, 3) := by decide +kernel
theorem dX1_figure_91 : decode cX1_figure 91 = .ok (.ireturn, 1) := by decide +kernel
theorem dX1_figure_92 : decode cX1_figure 92 = .ok (.aload_n 0, 1) := by decide +kernel
theorem dX1_figure_93 : decode cX1_figure 93 = .ok (.invokevirtual 194, 3) := by decide +kernel
theorem dX1_figure_96 : decode cX1_figure 96 = .ok (.ireturn, 1) := by decide +kernel
theorem dX1_figure_97 : decode cX1_figure 97 = .ok (.aload_n 0, 1) := by decide +kernel
theorem dX1_figure_98 : decode cX1_figure 98 = .ok (.getfield 41, 3) := by decide +kernel
theorem dX1_figure_101 : decode cX1_figure 101 = .ok (.ireturn, 1) := by decide +kernel
theorem dX1_figure_102 : decode cX1_figure 102 = .ok (.aload_n 0, 1) := by decide +kernel
theorem dX1_figure_103 : decode cX1_figure 103 = .ok (.getfield 44, 3) := by decide +kernel
theorem dX1_figure_106 : decode cX1_figure 106 = .ok (.ireturn, 1) := by decide +kernel
theorem dX1_figure_107 : decode cX1_figure 107 = .ok (.aload_n 0, 1) := by decide +kernel
theorem dX1_figure_108 : decode cX1_figure 108 = .ok (.getfield 47, 3) := by decide +kernel
theorem dX1_figure_111 : decode cX1_figure 111 = .ok (.ireturn, 1) := by decide +kernel
theorem dX1_figure_112 : decode cX1_figure 112 = .ok (.aload_n 0, 1) := by decide +kernel
theorem dX1_figure_113 : decode cX1_figure 113 = .ok (.getfield 50, 3) := by decide +kernel
theorem dX1_figure_116 : decode cX1_figure 116 = .ok (.ireturn, 1) := by decide +kernel
theorem dX1_figure_117 : decode cX1_figure 117 = .ok (.aload_n 0, 1) := by decide +kernel
theorem dX1_figure_118 : decode cX1_figure 118 = .ok (.invokevirtual 197, 3) := by decide +kernel
theorem dX1_figure_121 : decode cX1_figure 121 = .ok (.ireturn, 1) := by decide +kernel
theorem dX1_coinsInAll_0 : decode cX1_coinsInAll 0 = .ok (.iconst 0, 1) := by decide +kernel
theorem dX1_coinsInAll_1 : decode cX1_coinsInAll 1 = .ok (.istore_n 1, 1) := by decide +kernel
theorem dX1_coinsInAll_2 : decode cX1_coinsInAll 2 = .ok (.iconst 0, 1) := by decide +kernel
theorem dX1_coinsInAll_3 : decode cX1_coinsInAll 3 = .ok (.istore_n 2, 1) := by decide +kernel
theorem dX1_coinsInAll_4 : decode cX1_coinsInAll 4 = .ok (.iload_n 2, 1) := by decide +kernel
theorem dX1_coinsInAll_5 : decode cX1_coinsInAll 5 = .ok (.aload_n 0, 1) := by decide +kernel
theorem dX1_coinsInAll_6 : decode cX1_coinsInAll 6 = .ok (.getfield 35, 3) := by decide +kernel
theorem dX1_coinsInAll_9 : decode cX1_coinsInAll 9 = .ok (.if_icmp .ge 21, 3) := by decide +kernel
theorem dX1_coinsInAll_12 : decode cX1_coinsInAll 12 = .ok (.iload_n 1, 1) := by decide +kernel
theorem dX1_coinsInAll_13 : decode cX1_coinsInAll 13 = .ok (.aload_n 0, 1) := by decide +kernel
theorem dX1_coinsInAll_14 : decode cX1_coinsInAll 14 = .ok (.getfield 24, 3) := by decide +kernel
theorem dX1_coinsInAll_17 : decode cX1_coinsInAll 17 = .ok (.iload_n 2, 1) := by decide +kernel
theorem dX1_coinsInAll_18 : decode cX1_coinsInAll 18 = .ok (.aaload, 1) := by decide +kernel
theorem dX1_coinsInAll_19 : decode cX1_coinsInAll 19 = .ok (.getfield 63, 3) := by decide +kernel
theorem dX1_coinsInAll_22 : decode cX1_coinsInAll 22 = .ok (.iadd, 1) := by decide +kernel
theorem dX1_coinsInAll_23 : decode cX1_coinsInAll 23 = .ok (.istore_n 1, 1) := by decide +kernel
theorem dX1_coinsInAll_24 : decode cX1_coinsInAll 24 = .ok (.iinc 2 1, 3) := by decide +kernel
theorem dX1_coinsInAll_27 : decode cX1_coinsInAll 27 = .ok (.goto (-23), 3) := by decide +kernel
theorem dX1_coinsInAll_30 : decode cX1_coinsInAll 30 = .ok (.iload_n 1, 1) := by decide +kernel
theorem dX1_coinsInAll_31 : decode cX1_coinsInAll 31 = .ok (.ireturn, 1) := by decide +kernel
set_option maxRecDepth 20000 in
theorem ggX1_goodsInAll_X0_goodsInAll : GoodIn wsX1_goodsInAll wsX0_goodsInAll := goodIn_r _ [7, 8, 19, 20, 21, 22, 23, 24, 25, 26, 27, 28, 29, 30, 31, 32, 33, 34] (by decide +kernel) (by decide +kernel)
set_option maxRecDepth 20000 in
theorem gX1_goodsInAll_X0_goodsInAll : GoodIn wsX1_goodsInAll (wsV RX1 200 RX0 yX0_goodsInAll wsX0_goodsInAll) := goodIn_app (goodIn_of _ (by decide +kernel)) ggX1_goodsInAll_X0_goodsInAll
theorem dX1_goodsInAll_0 : decode cX1_goodsInAll 0 = .ok (.iconst 0, 1) := by decide +kernel
theorem dX1_goodsInAll_1 : decode cX1_goodsInAll 1 = .ok (.istore_n 1, 1) := by decide +kernel
theorem dX1_goodsInAll_2 : decode cX1_goodsInAll 2 = .ok (.iconst 0, 1) := by decide +kernel
theorem dX1_goodsInAll_3 : decode cX1_goodsInAll 3 = .ok (.istore_n 2, 1) := by decide +kernel
theorem dX1_goodsInAll_4 : decode cX1_goodsInAll 4 = .ok (.iload_n 2, 1) := by decide +kernel
theorem dX1_goodsInAll_5 : decode cX1_goodsInAll 5 = .ok (.aload_n 0, 1) := by decide +kernel
theorem dX1_goodsInAll_6 : decode cX1_goodsInAll 6 = .ok (.getfield 35, 3) := by decide +kernel
theorem dX1_goodsInAll_9 : decode cX1_goodsInAll 9 = .ok (.if_icmp .ge 21, 3) := by decide +kernel
theorem dX1_goodsInAll_12 : decode cX1_goodsInAll 12 = .ok (.iload_n 1, 1) := by decide +kernel
theorem dX1_goodsInAll_13 : decode cX1_goodsInAll 13 = .ok (.aload_n 0, 1) := by decide +kernel
theorem dX1_goodsInAll_14 : decode cX1_goodsInAll 14 = .ok (.getfield 24, 3) := by decide +kernel
theorem dX1_goodsInAll_17 : decode cX1_goodsInAll 17 = .ok (.iload_n 2, 1) := by decide +kernel
theorem dX1_goodsInAll_18 : decode cX1_goodsInAll 18 = .ok (.aaload, 1) := by decide +kernel
theorem dX1_goodsInAll_19 : decode cX1_goodsInAll 19 = .ok (.invokevirtual 200, 3) := by decide +kernel
theorem dX1_goodsInAll_22 : decode cX1_goodsInAll 22 = .ok (.iadd, 1) := by decide +kernel
theorem dX1_goodsInAll_23 : decode cX1_goodsInAll 23 = .ok (.istore_n 1, 1) := by decide +kernel
theorem dX1_goodsInAll_24 : decode cX1_goodsInAll 24 = .ok (.iinc 2 1, 3) := by decide +kernel
theorem dX1_goodsInAll_27 : decode cX1_goodsInAll 27 = .ok (.goto (-23), 3) := by decide +kernel
theorem dX1_goodsInAll_30 : decode cX1_goodsInAll 30 = .ok (.iload_n 1, 1) := by decide +kernel
theorem dX1_goodsInAll_31 : decode cX1_goodsInAll 31 = .ok (.ireturn, 1) := by decide +kernel
theorem dX1_canoesBeing_0 : decode cX1_canoesBeing 0 = .ok (.iconst 0, 1) := by decide +kernel
theorem dX1_canoesBeing_1 : decode cX1_canoesBeing 1 = .ok (.istore_n 2, 1) := by decide +kernel
theorem dX1_canoesBeing_2 : decode cX1_canoesBeing 2 = .ok (.iconst 0, 1) := by decide +kernel
theorem dX1_canoesBeing_3 : decode cX1_canoesBeing 3 = .ok (.istore_n 3, 1) := by decide +kernel
theorem dX1_canoesBeing_4 : decode cX1_canoesBeing 4 = .ok (.iload_n 3, 1) := by decide +kernel
theorem dX1_canoesBeing_5 : decode cX1_canoesBeing 5 = .ok (.aload_n 0, 1) := by decide +kernel
theorem dX1_canoesBeing_6 : decode cX1_canoesBeing 6 = .ok (.getfield 35, 3) := by decide +kernel
theorem dX1_canoesBeing_9 : decode cX1_canoesBeing 9 = .ok (.if_icmp .ge 25, 3) := by decide +kernel
theorem dX1_canoesBeing_12 : decode cX1_canoesBeing 12 = .ok (.aload_n 0, 1) := by decide +kernel
theorem dX1_canoesBeing_13 : decode cX1_canoesBeing 13 = .ok (.getfield 24, 3) := by decide +kernel
theorem dX1_canoesBeing_16 : decode cX1_canoesBeing 16 = .ok (.iload_n 3, 1) := by decide +kernel
theorem dX1_canoesBeing_17 : decode cX1_canoesBeing 17 = .ok (.aaload, 1) := by decide +kernel
theorem dX1_canoesBeing_18 : decode cX1_canoesBeing 18 = .ok (.getfield 69, 3) := by decide +kernel
theorem dX1_canoesBeing_21 : decode cX1_canoesBeing 21 = .ok (.iload_n 1, 1) := by decide +kernel
theorem dX1_canoesBeing_22 : decode cX1_canoesBeing 22 = .ok (.if_icmp .ne 6, 3) := by decide +kernel
theorem dX1_canoesBeing_25 : decode cX1_canoesBeing 25 = .ok (.iinc 2 1, 3) := by decide +kernel
theorem dX1_canoesBeing_28 : decode cX1_canoesBeing 28 = .ok (.iinc 3 1, 3) := by decide +kernel
theorem dX1_canoesBeing_31 : decode cX1_canoesBeing 31 = .ok (.goto (-27), 3) := by decide +kernel
theorem dX1_canoesBeing_34 : decode cX1_canoesBeing 34 = .ok (.iload_n 2, 1) := by decide +kernel
theorem dX1_canoesBeing_35 : decode cX1_canoesBeing 35 = .ok (.ireturn, 1) := by decide +kernel
set_option maxRecDepth 20000 in
theorem ggX1_dryCanoes_X1_liesDry : GoodIn wsX1_dryCanoes wsX1_liesDry := goodIn_r _ [7, 8, 9, 10, 11, 12, 13, 14, 15, 16, 17, 18, 19, 20, 21, 32, 33, 34, 35, 36, 37, 38, 39, 40, 41, 42, 43, 44, 45, 46, 47, 22, 23, 24, 25, 26, 27, 28, 29, 30, 31, 48, 49] (by decide +kernel) (by decide +kernel)
set_option maxRecDepth 20000 in
theorem gX1_dryCanoes_X1_liesDry : GoodIn wsX1_dryCanoes (wsV RX1 143 RX1 yX1_liesDry wsX1_liesDry) := goodIn_app (goodIn_of _ (by decide +kernel)) ggX1_dryCanoes_X1_liesDry
theorem dX1_dryCanoes_0 : decode cX1_dryCanoes 0 = .ok (.iconst 0, 1) := by decide +kernel
theorem dX1_dryCanoes_1 : decode cX1_dryCanoes 1 = .ok (.istore_n 1, 1) := by decide +kernel
theorem dX1_dryCanoes_2 : decode cX1_dryCanoes 2 = .ok (.iconst 0, 1) := by decide +kernel
theorem dX1_dryCanoes_3 : decode cX1_dryCanoes 3 = .ok (.istore_n 2, 1) := by decide +kernel
theorem dX1_dryCanoes_4 : decode cX1_dryCanoes 4 = .ok (.iload_n 2, 1) := by decide +kernel
theorem dX1_dryCanoes_5 : decode cX1_dryCanoes 5 = .ok (.aload_n 0, 1) := by decide +kernel
theorem dX1_dryCanoes_6 : decode cX1_dryCanoes 6 = .ok (.getfield 35, 3) := by decide +kernel
theorem dX1_dryCanoes_9 : decode cX1_dryCanoes 9 = .ok (.if_icmp .ge 25, 3) := by decide +kernel
theorem dX1_dryCanoes_12 : decode cX1_dryCanoes 12 = .ok (.aload_n 0, 1) := by decide +kernel
theorem dX1_dryCanoes_13 : decode cX1_dryCanoes 13 = .ok (.aload_n 0, 1) := by decide +kernel
theorem dX1_dryCanoes_14 : decode cX1_dryCanoes 14 = .ok (.getfield 24, 3) := by decide +kernel
theorem dX1_dryCanoes_17 : decode cX1_dryCanoes 17 = .ok (.iload_n 2, 1) := by decide +kernel
theorem dX1_dryCanoes_18 : decode cX1_dryCanoes 18 = .ok (.aaload, 1) := by decide +kernel
theorem dX1_dryCanoes_19 : decode cX1_dryCanoes 19 = .ok (.invokevirtual 143, 3) := by decide +kernel
theorem dX1_dryCanoes_22 : decode cX1_dryCanoes 22 = .ok (.ifCond .eq 6, 3) := by decide +kernel
theorem dX1_dryCanoes_25 : decode cX1_dryCanoes 25 = .ok (.iinc 1 1, 3) := by decide +kernel
theorem dX1_dryCanoes_28 : decode cX1_dryCanoes 28 = .ok (.iinc 2 1, 3) := by decide +kernel
theorem dX1_dryCanoes_31 : decode cX1_dryCanoes 31 = .ok (.goto (-27), 3) := by decide +kernel
theorem dX1_dryCanoes_34 : decode cX1_dryCanoes 34 = .ok (.iload_n 1, 1) := by decide +kernel
theorem dX1_dryCanoes_35 : decode cX1_dryCanoes 35 = .ok (.ireturn, 1) := by decide +kernel
theorem dX2_init_0 : decode cX2_init 0 = .ok (.aload_n 0, 1) := by decide +kernel
theorem dX2_init_1 : decode cX2_init 1 = .ok (.invokespecial 3, 3) := by decide +kernel
theorem dX2_init_4 : decode cX2_init 4 = .ok (.aload_n 0, 1) := by decide +kernel
theorem dX2_init_5 : decode cX2_init 5 = .ok (.bipush 6, 2) := by decide +kernel
theorem dX2_init_7 : decode cX2_init 7 = .ok (.newarray .int, 2) := by decide +kernel
theorem dX2_init_9 : decode cX2_init 9 = .ok (.putfield 9, 3) := by decide +kernel
theorem dX2_init_12 : decode cX2_init 12 = .ok (.return_, 1) := by decide +kernel
theorem dX2_copyFrom_0 : decode cX2_copyFrom 0 = .ok (.aload_n 0, 1) := by decide +kernel
theorem dX2_copyFrom_1 : decode cX2_copyFrom 1 = .ok (.aload_n 1, 1) := by decide +kernel
theorem dX2_copyFrom_2 : decode cX2_copyFrom 2 = .ok (.getfield 15, 3) := by decide +kernel
theorem dX2_copyFrom_5 : decode cX2_copyFrom 5 = .ok (.putfield 15, 3) := by decide +kernel
theorem dX2_copyFrom_8 : decode cX2_copyFrom 8 = .ok (.aload_n 0, 1) := by decide +kernel
theorem dX2_copyFrom_9 : decode cX2_copyFrom 9 = .ok (.aload_n 1, 1) := by decide +kernel
theorem dX2_copyFrom_10 : decode cX2_copyFrom 10 = .ok (.getfield 19, 3) := by decide +kernel
theorem dX2_copyFrom_13 : decode cX2_copyFrom 13 = .ok (.putfield 19, 3) := by decide +kernel
theorem dX2_copyFrom_16 : decode cX2_copyFrom 16 = .ok (.aload_n 1, 1) := by decide +kernel
theorem dX2_copyFrom_17 : decode cX2_copyFrom 17 = .ok (.getfield 9, 3) := by decide +kernel
theorem dX2_copyFrom_20 : decode cX2_copyFrom 20 = .ok (.iconst 0, 1) := by decide +kernel
theorem dX2_copyFrom_21 : decode cX2_copyFrom 21 = .ok (.aload_n 0, 1) := by decide +kernel
theorem dX2_copyFrom_22 : decode cX2_copyFrom 22 = .ok (.getfield 9, 3) := by decide +kernel
theorem dX2_copyFrom_25 : decode cX2_copyFrom 25 = .ok (.iconst 0, 1) := by decide +kernel
theorem dX2_copyFrom_26 : decode cX2_copyFrom 26 = .ok (.bipush 6, 2) := by decide +kernel
theorem dX2_copyFrom_28 : decode cX2_copyFrom 28 = .ok (.invokestatic 22, 3) := by decide +kernel
theorem dX2_copyFrom_31 : decode cX2_copyFrom 31 = .ok (.return_, 1) := by decide +kernel
theorem dX2_isFull_0 : decode cX2_isFull 0 = .ok (.aload_n 0, 1) := by decide +kernel
theorem dX2_isFull_1 : decode cX2_isFull 1 = .ok (.getfield 19, 3) := by decide +kernel
theorem dX2_isFull_4 : decode cX2_isFull 4 = .ok (.aload_n 0, 1) := by decide +kernel
theorem dX2_isFull_5 : decode cX2_isFull 5 = .ok (.getfield 15, 3) := by decide +kernel
theorem dX2_isFull_8 : decode cX2_isFull 8 = .ok (.if_icmp .lt 7, 3) := by decide +kernel
theorem dX2_isFull_11 : decode cX2_isFull 11 = .ok (.iconst 1, 1) := by decide +kernel
theorem dX2_isFull_12 : decode cX2_isFull 12 = .ok (.goto 4, 3) := by decide +kernel
theorem dX2_isFull_15 : decode cX2_isFull 15 = .ok (.iconst 0, 1) := by decide +kernel
theorem dX2_isFull_16 : decode cX2_isFull 16 = .ok (.ireturn, 1) := by decide +kernel
theorem dX2_canoeAt_0 : decode cX2_canoeAt 0 = .ok (.iload_n 1, 1) := by decide +kernel
theorem dX2_canoeAt_1 : decode cX2_canoeAt 1 = .ok (.ifCond .lt 20, 3) := by decide +kernel
theorem dX2_canoeAt_4 : decode cX2_canoeAt 4 = .ok (.iload_n 1, 1) := by decide +kernel
theorem dX2_canoeAt_5 : decode cX2_canoeAt 5 = .ok (.aload_n 0, 1) := by decide +kernel
theorem dX2_canoeAt_6 : decode cX2_canoeAt 6 = .ok (.getfield 19, 3) := by decide +kernel
theorem dX2_canoeAt_9 : decode cX2_canoeAt 9 = .ok (.if_icmp .ge 12, 3) := by decide +kernel
theorem dX2_canoeAt_12 : decode cX2_canoeAt 12 = .ok (.aload_n 0, 1) := by decide +kernel
theorem dX2_canoeAt_13 : decode cX2_canoeAt 13 = .ok (.getfield 9, 3) := by decide +kernel
theorem dX2_canoeAt_16 : decode cX2_canoeAt 16 = .ok (.iload_n 1, 1) := by decide +kernel
theorem dX2_canoeAt_17 : decode cX2_canoeAt 17 = .ok (.iaload, 1) := by decide +kernel
theorem dX2_canoeAt_18 : decode cX2_canoeAt 18 = .ok (.goto 4, 3) := by decide +kernel
theorem dX2_canoeAt_21 : decode cX2_canoeAt 21 = .ok (.iconst (-1), 1) := by decide +kernel
theorem dX2_canoeAt_22 : decode cX2_canoeAt 22 = .ok (.ireturn, 1) := by decide +kernel
theorem dX2_append_0 : decode cX2_append 0 = .ok (.aload_n 0, 1) := by decide +kernel
theorem dX2_append_1 : decode cX2_append 1 = .ok (.getfield 19, 3) := by decide +kernel
theorem dX2_append_4 : decode cX2_append 4 = .ok (.aload_n 0, 1) := by decide +kernel
theorem dX2_append_5 : decode cX2_append 5 = .ok (.getfield 15, 3) := by decide +kernel
theorem dX2_append_8 : decode cX2_append 8 = .ok (.if_icmp .ge 23, 3) := by decide +kernel
theorem dX2_append_11 : decode cX2_append 11 = .ok (.aload_n 0, 1) := by decide +kernel
theorem dX2_append_12 : decode cX2_append 12 = .ok (.getfield 9, 3) := by decide +kernel
theorem dX2_append_15 : decode cX2_append 15 = .ok (.aload_n 0, 1) := by decide +kernel
theorem dX2_append_16 : decode cX2_append 16 = .ok (.getfield 19, 3) := by decide +kernel
theorem dX2_append_19 : decode cX2_append 19 = .ok (.iload_n 1, 1) := by decide +kernel
theorem dX2_append_20 : decode cX2_append 20 = .ok (.iastore, 1) := by decide +kernel
theorem dX2_append_21 : decode cX2_append 21 = .ok (.aload_n 0, 1) := by decide +kernel
theorem dX2_append_22 : decode cX2_append 22 = .ok (.dup, 1) := by decide +kernel
theorem dX2_append_23 : decode cX2_append 23 = .ok (.getfield 19, 3) := by decide +kernel
theorem dX2_append_26 : decode cX2_append 26 = .ok (.iconst 1, 1) := by decide +kernel
theorem dX2_append_27 : decode cX2_append 27 = .ok (.iadd, 1) := by decide +kernel
theorem dX2_append_28 : decode cX2_append 28 = .ok (.putfield 19, 3) := by decide +kernel
theorem dX2_append_31 : decode cX2_append 31 = .ok (.return_, 1) := by decide +kernel
theorem dX2_closeGap_0 : decode cX2_closeGap 0 = .ok (.iload_n 1, 1) := by decide +kernel
theorem dX2_closeGap_1 : decode cX2_closeGap 1 = .ok (.ifCond .lt 11, 3) := by decide +kernel
theorem dX2_closeGap_4 : decode cX2_closeGap 4 = .ok (.iload_n 1, 1) := by decide +kernel
theorem dX2_closeGap_5 : decode cX2_closeGap 5 = .ok (.aload_n 0, 1) := by decide +kernel
theorem dX2_closeGap_6 : decode cX2_closeGap 6 = .ok (.getfield 19, 3) := by decide +kernel
theorem dX2_closeGap_9 : decode cX2_closeGap 9 = .ok (.if_icmp .lt 4, 3) := by decide +kernel
theorem dX2_closeGap_12 : decode cX2_closeGap 12 = .ok (.return_, 1) := by decide +kernel
theorem dX2_closeGap_13 : decode cX2_closeGap 13 = .ok (.iload_n 1, 1) := by decide +kernel
theorem dX2_closeGap_14 : decode cX2_closeGap 14 = .ok (.iconst 1, 1) := by decide +kernel
theorem dX2_closeGap_15 : decode cX2_closeGap 15 = .ok (.iadd, 1) := by decide +kernel
theorem dX2_closeGap_16 : decode cX2_closeGap 16 = .ok (.istore_n 2, 1) := by decide +kernel
theorem dX2_closeGap_17 : decode cX2_closeGap 17 = .ok (.iload_n 2, 1) := by decide +kernel
theorem dX2_closeGap_18 : decode cX2_closeGap 18 = .ok (.aload_n 0, 1) := by decide +kernel
theorem dX2_closeGap_19 : decode cX2_closeGap 19 = .ok (.getfield 19, 3) := by decide +kernel
theorem dX2_closeGap_22 : decode cX2_closeGap 22 = .ok (.if_icmp .ge 23, 3) := by decide +kernel
theorem dX2_closeGap_25 : decode cX2_closeGap 25 = .ok (.aload_n 0, 1) := by decide +kernel
theorem dX2_closeGap_26 : decode cX2_closeGap 26 = .ok (.getfield 9, 3) := by decide +kernel
theorem dX2_closeGap_29 : decode cX2_closeGap 29 = .ok (.iload_n 2, 1) := by decide +kernel
theorem dX2_closeGap_30 : decode cX2_closeGap 30 = .ok (.iconst 1, 1) := by decide +kernel
theorem dX2_closeGap_31 : decode cX2_closeGap 31 = .ok (.isub, 1) := by decide +kernel
theorem dX2_closeGap_32 : decode cX2_closeGap 32 = .ok (.aload_n 0, 1) := by decide +kernel
theorem dX2_closeGap_33 : decode cX2_closeGap 33 = .ok (.getfield 9, 3) := by decide +kernel
theorem dX2_closeGap_36 : decode cX2_closeGap 36 = .ok (.iload_n 2, 1) := by decide +kernel
theorem dX2_closeGap_37 : decode cX2_closeGap 37 = .ok (.iaload, 1) := by decide +kernel
theorem dX2_closeGap_38 : decode cX2_closeGap 38 = .ok (.iastore, 1) := by decide +kernel
theorem dX2_closeGap_39 : decode cX2_closeGap 39 = .ok (.iinc 2 1, 3) := by decide +kernel
theorem dX2_closeGap_42 : decode cX2_closeGap 42 = .ok (.goto (-25), 3) := by decide +kernel
theorem dX2_closeGap_45 : decode cX2_closeGap 45 = .ok (.aload_n 0, 1) := by decide +kernel
theorem dX2_closeGap_46 : decode cX2_closeGap 46 = .ok (.dup, 1) := by decide +kernel
theorem dX2_closeGap_47 : decode cX2_closeGap 47 = .ok (.getfield 19, 3) := by decide +kernel
theorem dX2_closeGap_50 : decode cX2_closeGap 50 = .ok (.iconst 1, 1) := by decide +kernel
theorem dX2_closeGap_51 : decode cX2_closeGap 51 = .ok (.isub, 1) := by decide +kernel
theorem dX2_closeGap_52 : decode cX2_closeGap 52 = .ok (.putfield 19, 3) := by decide +kernel
theorem dX2_closeGap_55 : decode cX2_closeGap 55 = .ok (.return_, 1) := by decide +kernel
set_option maxRecDepth 20000 in
theorem ggX2_addTo_X2_canoeAt : GoodIn wsX2_addTo wsX2_canoeAt := goodIn_r _ [7, 8, 9, 10, 11, 12] (by decide +kernel) (by decide +kernel)
set_option maxRecDepth 20000 in
theorem gX2_addTo_X2_canoeAt : GoodIn wsX2_addTo (wsV RX2 30 RX2 yX2_canoeAt wsX2_canoeAt) := goodIn_app (goodIn_of _ (by decide +kernel)) ggX2_addTo_X2_canoeAt
theorem dX2_addTo_0 : decode cX2_addTo 0 = .ok (.lload_n 1, 1) := by decide +kernel
theorem dX2_addTo_1 : decode cX2_addTo 1 = .ok (.ldc2_w 28, 3) := by decide +kernel
theorem dX2_addTo_4 : decode cX2_addTo 4 = .ok (.lmul, 1) := by decide +kernel
theorem dX2_addTo_5 : decode cX2_addTo 5 = .ok (.aload_n 0, 1) := by decide +kernel
theorem dX2_addTo_6 : decode cX2_addTo 6 = .ok (.getfield 15, 3) := by decide +kernel
theorem dX2_addTo_9 : decode cX2_addTo 9 = .ok (.i2l, 1) := by decide +kernel
theorem dX2_addTo_10 : decode cX2_addTo 10 = .ok (.ladd, 1) := by decide +kernel
theorem dX2_addTo_11 : decode cX2_addTo 11 = .ok (.lstore_n 3, 1) := by decide +kernel
theorem dX2_addTo_12 : decode cX2_addTo 12 = .ok (.iconst 0, 1) := by decide +kernel
theorem dX2_addTo_13 : decode cX2_addTo 13 = .ok (.istore 5, 2) := by decide +kernel
theorem dX2_addTo_15 : decode cX2_addTo 15 = .ok (.iload 5, 2) := by decide +kernel
theorem dX2_addTo_17 : decode cX2_addTo 17 = .ok (.aload_n 0, 1) := by decide +kernel
theorem dX2_addTo_18 : decode cX2_addTo 18 = .ok (.getfield 15, 3) := by decide +kernel
theorem dX2_addTo_21 : decode cX2_addTo 21 = .ok (.if_icmp .ge 23, 3) := by decide +kernel
theorem dX2_addTo_24 : decode cX2_addTo 24 = .ok (.lload_n 3, 1) := by decide +kernel
theorem dX2_addTo_25 : decode cX2_addTo 25 = .ok (.ldc2_w 28, 3) := by decide +kernel
theorem dX2_addTo_28 : decode cX2_addTo 28 = .ok (.lmul, 1) := by decide +kernel
theorem dX2_addTo_29 : decode cX2_addTo 29 = .ok (.aload_n 0, 1) := by decide +kernel
theorem dX2_addTo_30 : decode cX2_addTo 30 = .ok (.iload 5, 2) := by decide +kernel
theorem dX2_addTo_32 : decode cX2_addTo 32 = .ok (.invokevirtual 30, 3) := by decide +kernel
theorem dX2_addTo_35 : decode cX2_addTo 35 = .ok (.i2l, 1) := by decide +kernel
theorem dX2_addTo_36 : decode cX2_addTo 36 = .ok (.ladd, 1) := by decide +kernel
theorem dX2_addTo_37 : decode cX2_addTo 37 = .ok (.lstore_n 3, 1) := by decide +kernel
theorem dX2_addTo_38 : decode cX2_addTo 38 = .ok (.iinc 5 1, 3) := by decide +kernel
theorem dX2_addTo_41 : decode cX2_addTo 41 = .ok (.goto (-26), 3) := by decide +kernel
theorem dX2_addTo_44 : decode cX2_addTo 44 = .ok (.lload_n 3, 1) := by decide +kernel
theorem dX2_addTo_45 : decode cX2_addTo 45 = .ok (.lreturn, 1) := by decide +kernel
set_option maxRecDepth 20000 in
theorem ggX3_init_J7_fill_53178 : GoodIn wsX3_init wsJ7_fill_53178 := goodIn_r _ [10] (by decide +kernel) (by decide +kernel)
set_option maxRecDepth 20000 in
theorem gX3_init_J7_fill_53178 : GoodIn wsX3_init (va_wsS RX3 18 yJ7_fill_53178 wsJ7_fill_53178) := goodIn_app (goodIn_of _ (by decide +kernel)) ggX3_init_J7_fill_53178
theorem dX3_init_0 : decode cX3_init 0 = .ok (.aload_n 0, 1) := by decide +kernel
theorem dX3_init_1 : decode cX3_init 1 = .ok (.invokespecial 3, 3) := by decide +kernel
theorem dX3_init_4 : decode cX3_init 4 = .ok (.aload_n 0, 1) := by decide +kernel
theorem dX3_init_5 : decode cX3_init 5 = .ok (.bipush 24, 2) := by decide +kernel
theorem dX3_init_7 : decode cX3_init 7 = .ok (.newarray .int, 2) := by decide +kernel
theorem dX3_init_9 : decode cX3_init 9 = .ok (.putfield 9, 3) := by decide +kernel
theorem dX3_init_12 : decode cX3_init 12 = .ok (.aload_n 0, 1) := by decide +kernel
theorem dX3_init_13 : decode cX3_init 13 = .ok (.bipush 24, 2) := by decide +kernel
theorem dX3_init_15 : decode cX3_init 15 = .ok (.newarray .int, 2) := by decide +kernel
theorem dX3_init_17 : decode cX3_init 17 = .ok (.putfield 15, 3) := by decide +kernel
theorem dX3_init_20 : decode cX3_init 20 = .ok (.aload_n 0, 1) := by decide +kernel
theorem dX3_init_21 : decode cX3_init 21 = .ok (.getfield 9, 3) := by decide +kernel
theorem dX3_init_24 : decode cX3_init 24 = .ok (.bipush 9, 2) := by decide +kernel
theorem dX3_init_26 : decode cX3_init 26 = .ok (.invokestatic 18, 3) := by decide +kernel
theorem dX3_init_29 : decode cX3_init 29 = .ok (.return_, 1) := by decide +kernel
set_option maxRecDepth 20000 in
theorem ggX3_tideIn_J9_floorMod_7cf53 : GoodIn wsX3_tideIn wsJ9_floorMod_7cf53 := goodIn_r _ [5] (by decide +kernel) (by decide +kernel)
set_option maxRecDepth 20000 in
theorem gX3_tideIn_J9_floorMod_7cf53 : GoodIn wsX3_tideIn (va_wsS RX3 24 yJ9_floorMod_7cf53 wsJ9_floorMod_7cf53) := goodIn_app (goodIn_of _ (by decide +kernel)) ggX3_tideIn_J9_floorMod_7cf53
theorem dX3_tideIn_0 : decode cX3_tideIn 0 = .ok (.aload_n 0, 1) := by decide +kernel
theorem dX3_tideIn_1 : decode cX3_tideIn 1 = .ok (.getfield 9, 3) := by decide +kernel
theorem dX3_tideIn_4 : decode cX3_tideIn 4 = .ok (.iload_n 1, 1) := by decide +kernel
theorem dX3_tideIn_5 : decode cX3_tideIn 5 = .ok (.bipush 24, 2) := by decide +kernel
theorem dX3_tideIn_7 : decode cX3_tideIn 7 = .ok (.invokestatic 24, 3) := by decide +kernel
theorem dX3_tideIn_10 : decode cX3_tideIn 10 = .ok (.iaload, 1) := by decide +kernel
theorem dX3_tideIn_11 : decode cX3_tideIn 11 = .ok (.ireturn, 1) := by decide +kernel
set_option maxRecDepth 20000 in
theorem ggX3_wakeIn_J9_floorMod_7cf53 : GoodIn wsX3_wakeIn wsJ9_floorMod_7cf53 := goodIn_r _ [5] (by decide +kernel) (by decide +kernel)
set_option maxRecDepth 20000 in
theorem gX3_wakeIn_J9_floorMod_7cf53 : GoodIn wsX3_wakeIn (va_wsS RX3 24 yJ9_floorMod_7cf53 wsJ9_floorMod_7cf53) := goodIn_app (goodIn_of _ (by decide +kernel)) ggX3_wakeIn_J9_floorMod_7cf53
theorem dX3_wakeIn_0 : decode cX3_wakeIn 0 = .ok (.aload_n 0, 1) := by decide +kernel
theorem dX3_wakeIn_1 : decode cX3_wakeIn 1 = .ok (.getfield 15, 3) := by decide +kernel
theorem dX3_wakeIn_4 : decode cX3_wakeIn 4 = .ok (.iload_n 1, 1) := by decide +kernel
theorem dX3_wakeIn_5 : decode cX3_wakeIn 5 = .ok (.bipush 24, 2) := by decide +kernel
theorem dX3_wakeIn_7 : decode cX3_wakeIn 7 = .ok (.invokestatic 24, 3) := by decide +kernel
theorem dX3_wakeIn_10 : decode cX3_wakeIn 10 = .ok (.iaload, 1) := by decide +kernel
theorem dX3_wakeIn_11 : decode cX3_wakeIn 11 = .ok (.ireturn, 1) := by decide +kernel
set_option maxRecDepth 20000 in
theorem ggX3_entry_X3_tideIn : GoodIn wsX3_entry wsX3_tideIn := goodIn_r _ [5, 6, 7, 8, 9, 10, 16, 17] (by decide +kernel) (by decide +kernel)
set_option maxRecDepth 20000 in
theorem gX3_entry_X3_tideIn : GoodIn wsX3_entry (wsV RX3 30 RX3 yX3_tideIn wsX3_tideIn) := goodIn_app (goodIn_of _ (by decide +kernel)) ggX3_entry_X3_tideIn
set_option maxRecDepth 20000 in
theorem ggX3_entry_X3_wakeIn : GoodIn wsX3_entry wsX3_wakeIn := goodIn_r _ [14, 15, 7, 8, 9, 10, 16, 17] (by decide +kernel) (by decide +kernel)
set_option maxRecDepth 20000 in
theorem gX3_entry_X3_wakeIn : GoodIn wsX3_entry (wsV RX3 34 RX3 yX3_wakeIn wsX3_wakeIn) := goodIn_app (goodIn_of _ (by decide +kernel)) ggX3_entry_X3_wakeIn
theorem dX3_entry_0 : decode cX3_entry 0 = .ok (.bipush 10, 2) := by decide +kernel
theorem dX3_entry_2 : decode cX3_entry 2 = .ok (.aload_n 0, 1) := by decide +kernel
theorem dX3_entry_3 : decode cX3_entry 3 = .ok (.iload_n 1, 1) := by decide +kernel
theorem dX3_entry_4 : decode cX3_entry 4 = .ok (.invokevirtual 30, 3) := by decide +kernel
theorem dX3_entry_7 : decode cX3_entry 7 = .ok (.imul, 1) := by decide +kernel
theorem dX3_entry_8 : decode cX3_entry 8 = .ok (.aload_n 0, 1) := by decide +kernel
theorem dX3_entry_9 : decode cX3_entry 9 = .ok (.iload_n 1, 1) := by decide +kernel
theorem dX3_entry_10 : decode cX3_entry 10 = .ok (.invokevirtual 34, 3) := by decide +kernel
theorem dX3_entry_13 : decode cX3_entry 13 = .ok (.iadd, 1) := by decide +kernel
theorem dX3_entry_14 : decode cX3_entry 14 = .ok (.ireturn, 1) := by decide +kernel
set_option maxRecDepth 20000 in
theorem ggX4_init_X3_init : GoodIn wsX4_init wsX3_init := goodIn_r _ [15, 16, 2, 3, 17, 18, 19, 20, 21, 22, 23, 56, 57] (by decide +kernel) (by decide +kernel)
set_option maxRecDepth 20000 in
theorem gX4_init_X3_init : GoodIn wsX4_init (wsX3_init) := ggX4_init_X3_init
set_option maxRecDepth 20000 in
theorem ggX4_init_X1_init : GoodIn wsX4_init wsX1_init := goodIn_r _ [26, 27, 2, 3, 28, 29, 30, 31, 32, 33, 34, 35, 36, 37, 38, 39, 40, 17, 41, 42, 43, 44, 45, 46, 47, 48, 49, 50, 51, 52, 53, 54, 55, 61, 62, 63, 64, 65, 66, 67, 68, 69, 70, 71, 72, 73, 74, 75, 76, 77, 78, 79, 80, 81, 82, 83, 84, 85, 86, 87, 88, 89] (by decide +kernel) (by decide +kernel)
set_option maxRecDepth 20000 in
theorem gX4_init_X1_init : GoodIn wsX4_init (wsX1_init) := ggX4_init_X1_init
theorem dX4_init_0 : decode cX4_init 0 = .ok (.aload_n 0, 1) := by decide +kernel
theorem dX4_init_1 : decode cX4_init 1 = .ok (.invokespecial 1, 3) := by decide +kernel
theorem dX4_init_4 : decode cX4_init 4 = .ok (.aload_n 0, 1) := by decide +kernel
theorem dX4_init_5 : decode cX4_init 5 = .ok (.new 7, 3) := by decide +kernel
theorem dX4_init_8 : decode cX4_init 8 = .ok (.dup, 1) := by decide +kernel
theorem dX4_init_9 : decode cX4_init 9 = .ok (.invokespecial 9, 3) := by decide +kernel
theorem dX4_init_12 : decode cX4_init 12 = .ok (.putfield 10, 3) := by decide +kernel
theorem dX4_init_15 : decode cX4_init 15 = .ok (.aload_n 0, 1) := by decide +kernel
theorem dX4_init_16 : decode cX4_init 16 = .ok (.new 16, 3) := by decide +kernel
theorem dX4_init_19 : decode cX4_init 19 = .ok (.dup, 1) := by decide +kernel
theorem dX4_init_20 : decode cX4_init 20 = .ok (.aload_n 0, 1) := by decide +kernel
theorem dX4_init_21 : decode cX4_init 21 = .ok (.getfield 10, 3) := by decide +kernel
theorem dX4_init_24 : decode cX4_init 24 = .ok (.invokespecial 18, 3) := by decide +kernel
theorem dX4_init_27 : decode cX4_init 27 = .ok (.putfield 21, 3) := by decide +kernel
theorem dX4_init_30 : decode cX4_init 30 = .ok (.aload_n 0, 1) := by decide +kernel
theorem dX4_init_31 : decode cX4_init 31 = .ok (.new 16, 3) := by decide +kernel
theorem dX4_init_34 : decode cX4_init 34 = .ok (.dup, 1) := by decide +kernel
theorem dX4_init_35 : decode cX4_init 35 = .ok (.aload_n 0, 1) := by decide +kernel
theorem dX4_init_36 : decode cX4_init 36 = .ok (.getfield 10, 3) := by decide +kernel
theorem dX4_init_39 : decode cX4_init 39 = .ok (.invokespecial 18, 3) := by decide +kernel
theorem dX4_init_42 : decode cX4_init 42 = .ok (.putfield 25, 3) := by decide +kernel
theorem dX4_init_45 : decode cX4_init 45 = .ok (.return_, 1) := by decide +kernel
set_option maxRecDepth 20000 in
theorem ggX4_addRow_X4_needRange : GoodIn wsX4_addRow wsX4_needRange := goodIn_ca (goodIn_r _ [6, 7, 8] (by decide +kernel) (by decide +kernel)) (goodIn_sub (fun _ h => List.mem_cons_of_mem _ (List.mem_append_left _ (List.mem_append_right _ h))) (by decide +kernel))
set_option maxRecDepth 20000 in
theorem gX4_addRow_X4_needRange : GoodIn wsX4_addRow (va_wsS RX4 28 yX4_needRange wsX4_needRange) := goodIn_app (goodIn_of _ (by decide +kernel)) ggX4_addRow_X4_needRange
set_option maxRecDepth 20000 in
theorem ggX4_addRow_X4_needState : GoodIn wsX4_addRow wsX4_needState := goodIn_ca (goodIn_r _ [11, 12, 13] (by decide +kernel) (by decide +kernel)) (goodIn_sub (fun _ h => List.mem_cons_of_mem _ (List.mem_append_right _ h)) (by decide +kernel))
set_option maxRecDepth 20000 in
theorem gX4_addRow_X4_needState : GoodIn wsX4_addRow (va_wsS RX4 36 yX4_needState wsX4_needState) := goodIn_app (goodIn_of _ (by decide +kernel)) ggX4_addRow_X4_needState
set_option maxRecDepth 20000 in
theorem ggX4_addRow_X1_openRow : GoodIn wsX4_addRow wsX1_openRow := goodIn_r _ [18, 19, 20, 21, 25, 26, 27, 28, 29, 30, 31, 32, 33, 34, 35, 36, 37] (by decide +kernel) (by decide +kernel)
set_option maxRecDepth 20000 in
theorem gX4_addRow_X1_openRow : GoodIn wsX4_addRow (wsV RX4 40 RX1 yX1_openRow wsX1_openRow) := goodIn_app (goodIn_of _ (by decide +kernel)) ggX4_addRow_X1_openRow
theorem dX4_addRow_0 : decode cX4_addRow 0 = .ok (.iload_n 1, 1) := by decide +kernel
theorem dX4_addRow_1 : decode cX4_addRow 1 = .ok (.iconst 1, 1) := by decide +kernel
theorem dX4_addRow_2 : decode cX4_addRow 2 = .ok (.bipush 6, 2) := by decide +kernel
theorem dX4_addRow_4 : decode cX4_addRow 4 = .ok (.invokestatic 28, 3) := by decide +kernel
theorem dX4_addRow_7 : decode cX4_addRow 7 = .ok (.aload_n 0, 1) := by decide +kernel
theorem dX4_addRow_8 : decode cX4_addRow 8 = .ok (.getfield 21, 3) := by decide +kernel
theorem dX4_addRow_11 : decode cX4_addRow 11 = .ok (.getfield 32, 3) := by decide +kernel
theorem dX4_addRow_14 : decode cX4_addRow 14 = .ok (.iconst 4, 1) := by decide +kernel
theorem dX4_addRow_15 : decode cX4_addRow 15 = .ok (.if_icmp .ge 7, 3) := by decide +kernel
theorem dX4_addRow_18 : decode cX4_addRow 18 = .ok (.iconst 1, 1) := by decide +kernel
theorem dX4_addRow_19 : decode cX4_addRow 19 = .ok (.goto 4, 3) := by decide +kernel
theorem dX4_addRow_22 : decode cX4_addRow 22 = .ok (.iconst 0, 1) := by decide +kernel
theorem dX4_addRow_23 : decode cX4_addRow 23 = .ok (.invokestatic 36, 3) := by decide +kernel
theorem dX4_addRow_26 : decode cX4_addRow 26 = .ok (.aload_n 0, 1) := by decide +kernel
theorem dX4_addRow_27 : decode cX4_addRow 27 = .ok (.getfield 21, 3) := by decide +kernel
theorem dX4_addRow_30 : decode cX4_addRow 30 = .ok (.iload_n 1, 1) := by decide +kernel
theorem dX4_addRow_31 : decode cX4_addRow 31 = .ok (.invokevirtual 40, 3) := by decide +kernel
theorem dX4_addRow_34 : decode cX4_addRow 34 = .ok (.ireturn, 1) := by decide +kernel
set_option maxRecDepth 20000 in
theorem ggX4_setWater_X4_needIndex : GoodIn wsX4_setWater wsX4_needIndex := goodIn_ca (goodIn_r _ [7, 8, 9] (by decide +kernel) (by decide +kernel)) (goodIn_sub (fun _ h => List.mem_cons_of_mem _ (List.mem_append_left _ (List.mem_append_right _ h))) (by decide +kernel))
set_option maxRecDepth 20000 in
theorem gX4_setWater_X4_needIndex : GoodIn wsX4_setWater (va_wsS RX4 44 yX4_needIndex wsX4_needIndex) := goodIn_app (goodIn_of _ (by decide +kernel)) ggX4_setWater_X4_needIndex
set_option maxRecDepth 20000 in
theorem ggX4_setWater_X4_needRange : GoodIn wsX4_setWater wsX4_needRange := goodIn_ca (goodIn_r _ [12, 13, 14] (by decide +kernel) (by decide +kernel)) (goodIn_sub (fun _ h => List.mem_cons_of_mem _ (List.mem_append_right _ h)) (by decide +kernel))
set_option maxRecDepth 20000 in
theorem gX4_setWater_X4_needRange : GoodIn wsX4_setWater (va_wsS RX4 28 yX4_needRange wsX4_needRange) := goodIn_app (goodIn_of _ (by decide +kernel)) ggX4_setWater_X4_needRange
set_option maxRecDepth 20000 in
theorem ggX4_setWater_X3_entry : GoodIn wsX4_setWater wsX3_entry := goodIn_r _ [19, 20, 21, 22, 18, 23, 24, 25, 26, 27, 28, 29, 30, 31, 32, 33, 37, 38] (by decide +kernel) (by decide +kernel)
set_option maxRecDepth 20000 in
theorem gX4_setWater_X3_entry : GoodIn wsX4_setWater (wsV RX4 48 RX3 yX3_entry wsX3_entry) := goodIn_app (goodIn_of _ (by decide +kernel)) ggX4_setWater_X3_entry
theorem dX4_setWater_0 : decode cX4_setWater 0 = .ok (.iload_n 1, 1) := by decide +kernel
theorem dX4_setWater_1 : decode cX4_setWater 1 = .ok (.bipush 24, 2) := by decide +kernel
theorem dX4_setWater_3 : decode cX4_setWater 3 = .ok (.invokestatic 44, 3) := by decide +kernel
theorem dX4_setWater_6 : decode cX4_setWater 6 = .ok (.iload_n 2, 1) := by decide +kernel
theorem dX4_setWater_7 : decode cX4_setWater 7 = .ok (.iconst 0, 1) := by decide +kernel
theorem dX4_setWater_8 : decode cX4_setWater 8 = .ok (.bipush 9, 2) := by decide +kernel
theorem dX4_setWater_10 : decode cX4_setWater 10 = .ok (.invokestatic 28, 3) := by decide +kernel
theorem dX4_setWater_13 : decode cX4_setWater 13 = .ok (.iload_n 3, 1) := by decide +kernel
theorem dX4_setWater_14 : decode cX4_setWater 14 = .ok (.iconst 0, 1) := by decide +kernel
theorem dX4_setWater_15 : decode cX4_setWater 15 = .ok (.bipush 9, 2) := by decide +kernel
theorem dX4_setWater_17 : decode cX4_setWater 17 = .ok (.invokestatic 28, 3) := by decide +kernel
theorem dX4_setWater_20 : decode cX4_setWater 20 = .ok (.aload_n 0, 1) := by decide +kernel
theorem dX4_setWater_21 : decode cX4_setWater 21 = .ok (.getfield 10, 3) := by decide +kernel
theorem dX4_setWater_24 : decode cX4_setWater 24 = .ok (.iload_n 1, 1) := by decide +kernel
theorem dX4_setWater_25 : decode cX4_setWater 25 = .ok (.invokevirtual 48, 3) := by decide +kernel
theorem dX4_setWater_28 : decode cX4_setWater 28 = .ok (.istore 4, 2) := by decide +kernel
theorem dX4_setWater_30 : decode cX4_setWater 30 = .ok (.aload_n 0, 1) := by decide +kernel
theorem dX4_setWater_31 : decode cX4_setWater 31 = .ok (.getfield 10, 3) := by decide +kernel
theorem dX4_setWater_34 : decode cX4_setWater 34 = .ok (.getfield 51, 3) := by decide +kernel
theorem dX4_setWater_37 : decode cX4_setWater 37 = .ok (.iload_n 1, 1) := by decide +kernel
theorem dX4_setWater_38 : decode cX4_setWater 38 = .ok (.iload_n 2, 1) := by decide +kernel
theorem dX4_setWater_39 : decode cX4_setWater 39 = .ok (.iastore, 1) := by decide +kernel
theorem dX4_setWater_40 : decode cX4_setWater 40 = .ok (.aload_n 0, 1) := by decide +kernel
theorem dX4_setWater_41 : decode cX4_setWater 41 = .ok (.getfield 10, 3) := by decide +kernel
theorem dX4_setWater_44 : decode cX4_setWater 44 = .ok (.getfield 55, 3) := by decide +kernel
theorem dX4_setWater_47 : decode cX4_setWater 47 = .ok (.iload_n 1, 1) := by decide +kernel
theorem dX4_setWater_48 : decode cX4_setWater 48 = .ok (.iload_n 3, 1) := by decide +kernel
theorem dX4_setWater_49 : decode cX4_setWater 49 = .ok (.iastore, 1) := by decide +kernel
theorem dX4_setWater_50 : decode cX4_setWater 50 = .ok (.iload 4, 2) := by decide +kernel
theorem dX4_setWater_52 : decode cX4_setWater 52 = .ok (.ireturn, 1) := by decide +kernel
set_option maxRecDepth 20000 in
theorem ggX4_addCanoe_X4_needRange : GoodIn wsX4_addCanoe wsX4_needRange := goodIn_ca (goodIn_r _ [6, 7, 8] (by decide +kernel) (by decide +kernel)) (goodIn_sub (fun _ h => List.mem_cons_of_mem _ (List.mem_append_left _ (List.mem_append_right _ h))) (by decide +kernel))
set_option maxRecDepth 20000 in
theorem gX4_addCanoe_X4_needRange : GoodIn wsX4_addCanoe (va_wsS RX4 28 yX4_needRange wsX4_needRange) := goodIn_app (goodIn_of _ (by decide +kernel)) ggX4_addCanoe_X4_needRange
set_option maxRecDepth 20000 in
theorem ggX4_addCanoe_X4_needState : GoodIn wsX4_addCanoe wsX4_needState := goodIn_ca (goodIn_r _ [11, 12, 13] (by decide +kernel) (by decide +kernel)) (goodIn_sub (fun _ h => List.mem_cons_of_mem _ (List.mem_append_right _ h)) (by decide +kernel))
set_option maxRecDepth 20000 in
theorem gX4_addCanoe_X4_needState : GoodIn wsX4_addCanoe (va_wsS RX4 36 yX4_needState wsX4_needState) := goodIn_app (goodIn_of _ (by decide +kernel)) ggX4_addCanoe_X4_needState
set_option maxRecDepth 20000 in
theorem ggX4_addCanoe_X1_launch : GoodIn wsX4_addCanoe wsX1_launch := goodIn_r _ [18, 19, 20, 21, 22, 26, 27, 28, 29, 30, 31, 32, 33, 34, 35, 36, 37, 38, 39, 40, 41, 42, 43, 44, 45, 46, 47, 48, 49, 50, 51] (by decide +kernel) (by decide +kernel)
set_option maxRecDepth 20000 in
theorem gX4_addCanoe_X1_launch : GoodIn wsX4_addCanoe (wsV RX4 61 RX1 yX1_launch wsX1_launch) := goodIn_app (goodIn_of _ (by decide +kernel)) ggX4_addCanoe_X1_launch
theorem dX4_addCanoe_0 : decode cX4_addCanoe 0 = .ok (.iload_n 1, 1) := by decide +kernel
theorem dX4_addCanoe_1 : decode cX4_addCanoe 1 = .ok (.iconst 0, 1) := by decide +kernel
theorem dX4_addCanoe_2 : decode cX4_addCanoe 2 = .ok (.sipush 500, 3) := by decide +kernel
theorem dX4_addCanoe_5 : decode cX4_addCanoe 5 = .ok (.invokestatic 28, 3) := by decide +kernel
theorem dX4_addCanoe_8 : decode cX4_addCanoe 8 = .ok (.iload_n 2, 1) := by decide +kernel
theorem dX4_addCanoe_9 : decode cX4_addCanoe 9 = .ok (.iconst 0, 1) := by decide +kernel
theorem dX4_addCanoe_10 : decode cX4_addCanoe 10 = .ok (.bipush 9, 2) := by decide +kernel
theorem dX4_addCanoe_12 : decode cX4_addCanoe 12 = .ok (.invokestatic 28, 3) := by decide +kernel
theorem dX4_addCanoe_15 : decode cX4_addCanoe 15 = .ok (.aload_n 0, 1) := by decide +kernel
theorem dX4_addCanoe_16 : decode cX4_addCanoe 16 = .ok (.getfield 21, 3) := by decide +kernel
theorem dX4_addCanoe_19 : decode cX4_addCanoe 19 = .ok (.getfield 58, 3) := by decide +kernel
theorem dX4_addCanoe_22 : decode cX4_addCanoe 22 = .ok (.bipush 14, 2) := by decide +kernel
theorem dX4_addCanoe_24 : decode cX4_addCanoe 24 = .ok (.if_icmp .ge 7, 3) := by decide +kernel
theorem dX4_addCanoe_27 : decode cX4_addCanoe 27 = .ok (.iconst 1, 1) := by decide +kernel
theorem dX4_addCanoe_28 : decode cX4_addCanoe 28 = .ok (.goto 4, 3) := by decide +kernel
theorem dX4_addCanoe_31 : decode cX4_addCanoe 31 = .ok (.iconst 0, 1) := by decide +kernel
theorem dX4_addCanoe_32 : decode cX4_addCanoe 32 = .ok (.invokestatic 36, 3) := by decide +kernel
theorem dX4_addCanoe_35 : decode cX4_addCanoe 35 = .ok (.aload_n 0, 1) := by decide +kernel
theorem dX4_addCanoe_36 : decode cX4_addCanoe 36 = .ok (.getfield 21, 3) := by decide +kernel
theorem dX4_addCanoe_39 : decode cX4_addCanoe 39 = .ok (.iload_n 1, 1) := by decide +kernel
theorem dX4_addCanoe_40 : decode cX4_addCanoe 40 = .ok (.iload_n 2, 1) := by decide +kernel
theorem dX4_addCanoe_41 : decode cX4_addCanoe 41 = .ok (.invokevirtual 61, 3) := by decide +kernel
theorem dX4_addCanoe_44 : decode cX4_addCanoe 44 = .ok (.ireturn, 1) := by decide +kernel
set_option maxRecDepth 20000 in
theorem ggX4_load_X4_needIndex : GoodIn wsX4_load wsX4_needIndex := goodIn_ca (goodIn_r _ [9, 10, 11] (by decide +kernel) (by decide +kernel)) (goodIn_sub (fun _ h => List.mem_cons_of_mem _ (List.mem_append_left _ (List.mem_append_left _ (List.mem_append_right _ h)))) (by decide +kernel))
set_option maxRecDepth 20000 in
theorem gX4_load_X4_needIndex : GoodIn wsX4_load (va_wsS RX4 44 yX4_needIndex wsX4_needIndex) := goodIn_app (goodIn_of _ (by decide +kernel)) ggX4_load_X4_needIndex
set_option maxRecDepth 20000 in
theorem ggX4_load_X4_needRange : GoodIn wsX4_load wsX4_needRange := goodIn_ca (goodIn_r _ [14, 15, 16] (by decide +kernel) (by decide +kernel)) (goodIn_sub (fun _ h => List.mem_cons_of_mem _ (List.mem_append_left _ (List.mem_append_right _ h))) (by decide +kernel))
set_option maxRecDepth 20000 in
theorem gX4_load_X4_needRange : GoodIn wsX4_load (va_wsS RX4 28 yX4_needRange wsX4_needRange) := goodIn_app (goodIn_of _ (by decide +kernel)) ggX4_load_X4_needRange
set_option maxRecDepth 20000 in
theorem ggX4_load_X4_needState : GoodIn wsX4_load wsX4_needState := goodIn_ca (goodIn_r _ [19, 20, 21] (by decide +kernel) (by decide +kernel)) (goodIn_sub (fun _ h => List.mem_cons_of_mem _ (List.mem_append_right _ h)) (by decide +kernel))
set_option maxRecDepth 20000 in
theorem gX4_load_X4_needState : GoodIn wsX4_load (va_wsS RX4 36 yX4_needState wsX4_needState) := goodIn_app (goodIn_of _ (by decide +kernel)) ggX4_load_X4_needState
theorem dX4_load_0 : decode cX4_load 0 = .ok (.iload_n 1, 1) := by decide +kernel
theorem dX4_load_1 : decode cX4_load 1 = .ok (.aload_n 0, 1) := by decide +kernel
theorem dX4_load_2 : decode cX4_load 2 = .ok (.getfield 21, 3) := by decide +kernel
theorem dX4_load_5 : decode cX4_load 5 = .ok (.getfield 58, 3) := by decide +kernel
theorem dX4_load_8 : decode cX4_load 8 = .ok (.invokestatic 44, 3) := by decide +kernel
theorem dX4_load_11 : decode cX4_load 11 = .ok (.iload_n 2, 1) := by decide +kernel
theorem dX4_load_12 : decode cX4_load 12 = .ok (.iconst 4, 1) := by decide +kernel
theorem dX4_load_13 : decode cX4_load 13 = .ok (.invokestatic 44, 3) := by decide +kernel
theorem dX4_load_16 : decode cX4_load 16 = .ok (.iload_n 3, 1) := by decide +kernel
theorem dX4_load_17 : decode cX4_load 17 = .ok (.iconst 1, 1) := by decide +kernel
theorem dX4_load_18 : decode cX4_load 18 = .ok (.bipush 40, 2) := by decide +kernel
theorem dX4_load_20 : decode cX4_load 20 = .ok (.invokestatic 28, 3) := by decide +kernel
theorem dX4_load_23 : decode cX4_load 23 = .ok (.aload_n 0, 1) := by decide +kernel
theorem dX4_load_24 : decode cX4_load 24 = .ok (.getfield 21, 3) := by decide +kernel
theorem dX4_load_27 : decode cX4_load 27 = .ok (.getfield 65, 3) := by decide +kernel
theorem dX4_load_30 : decode cX4_load 30 = .ok (.iload_n 1, 1) := by decide +kernel
theorem dX4_load_31 : decode cX4_load 31 = .ok (.aaload, 1) := by decide +kernel
theorem dX4_load_32 : decode cX4_load 32 = .ok (.astore 4, 2) := by decide +kernel
theorem dX4_load_34 : decode cX4_load 34 = .ok (.aload 4, 2) := by decide +kernel
theorem dX4_load_36 : decode cX4_load 36 = .ok (.getfield 69, 3) := by decide +kernel
theorem dX4_load_39 : decode cX4_load 39 = .ok (.iconst 2, 1) := by decide +kernel
theorem dX4_load_40 : decode cX4_load 40 = .ok (.if_icmp .eq 21, 3) := by decide +kernel
theorem dX4_load_43 : decode cX4_load 43 = .ok (.aload 4, 2) := by decide +kernel
theorem dX4_load_45 : decode cX4_load 45 = .ok (.getfield 74, 3) := by decide +kernel
theorem dX4_load_48 : decode cX4_load 48 = .ok (.iload_n 2, 1) := by decide +kernel
theorem dX4_load_49 : decode cX4_load 49 = .ok (.iaload, 1) := by decide +kernel
theorem dX4_load_50 : decode cX4_load 50 = .ok (.iload_n 3, 1) := by decide +kernel
theorem dX4_load_51 : decode cX4_load 51 = .ok (.iadd, 1) := by decide +kernel
theorem dX4_load_52 : decode cX4_load 52 = .ok (.bipush 100, 2) := by decide +kernel
theorem dX4_load_54 : decode cX4_load 54 = .ok (.if_icmp .gt 7, 3) := by decide +kernel
theorem dX4_load_57 : decode cX4_load 57 = .ok (.iconst 1, 1) := by decide +kernel
theorem dX4_load_58 : decode cX4_load 58 = .ok (.goto 4, 3) := by decide +kernel
theorem dX4_load_61 : decode cX4_load 61 = .ok (.iconst 0, 1) := by decide +kernel
theorem dX4_load_62 : decode cX4_load 62 = .ok (.invokestatic 36, 3) := by decide +kernel
theorem dX4_load_65 : decode cX4_load 65 = .ok (.aload 4, 2) := by decide +kernel
theorem dX4_load_67 : decode cX4_load 67 = .ok (.getfield 74, 3) := by decide +kernel
theorem dX4_load_70 : decode cX4_load 70 = .ok (.iload_n 2, 1) := by decide +kernel
theorem dX4_load_71 : decode cX4_load 71 = .ok (.dup2, 1) := by decide +kernel
theorem dX4_load_72 : decode cX4_load 72 = .ok (.iaload, 1) := by decide +kernel
theorem dX4_load_73 : decode cX4_load 73 = .ok (.iload_n 3, 1) := by decide +kernel
theorem dX4_load_74 : decode cX4_load 74 = .ok (.iadd, 1) := by decide +kernel
theorem dX4_load_75 : decode cX4_load 75 = .ok (.iastore, 1) := by decide +kernel
theorem dX4_load_76 : decode cX4_load 76 = .ok (.aload 4, 2) := by decide +kernel
theorem dX4_load_78 : decode cX4_load 78 = .ok (.getfield 74, 3) := by decide +kernel
theorem dX4_load_81 : decode cX4_load 81 = .ok (.iload_n 2, 1) := by decide +kernel
theorem dX4_load_82 : decode cX4_load 82 = .ok (.iaload, 1) := by decide +kernel
theorem dX4_load_83 : decode cX4_load 83 = .ok (.ireturn, 1) := by decide +kernel
set_option maxRecDepth 20000 in
theorem ggX4_offer_X4_needIndex : GoodIn wsX4_offer wsX4_needIndex := goodIn_ca (goodIn_r _ [10, 11, 12] (by decide +kernel) (by decide +kernel)) (goodIn_sub (fun _ h => List.mem_cons_of_mem _ (List.mem_append_left _ (List.mem_append_right _ h))) (by decide +kernel))
set_option maxRecDepth 20000 in
theorem gX4_offer_X4_needIndex : GoodIn wsX4_offer (va_wsS RX4 44 yX4_needIndex wsX4_needIndex) := goodIn_app (goodIn_of _ (by decide +kernel)) ggX4_offer_X4_needIndex
set_option maxRecDepth 20000 in
theorem ggX4_offer_X4_needRange : GoodIn wsX4_offer wsX4_needRange := goodIn_ca (goodIn_r _ [15, 16, 17] (by decide +kernel) (by decide +kernel)) (goodIn_sub (fun _ h => List.mem_cons_of_mem _ (List.mem_append_right _ h)) (by decide +kernel))
set_option maxRecDepth 20000 in
theorem gX4_offer_X4_needRange : GoodIn wsX4_offer (va_wsS RX4 28 yX4_needRange wsX4_needRange) := goodIn_app (goodIn_of _ (by decide +kernel)) ggX4_offer_X4_needRange
set_option maxRecDepth 20000 in
theorem ggX4_offer_X0_misses : GoodIn wsX4_offer wsX0_misses := goodIn_r _ [22, 23, 24, 25, 26, 27, 28, 42, 43, 44, 45, 46, 47, 48, 49, 50, 51, 52, 53, 54, 55, 56, 57] (by decide +kernel) (by decide +kernel)
set_option maxRecDepth 20000 in
theorem gX4_offer_X0_misses : GoodIn wsX4_offer (wsV RX4 86 RX0 yX0_misses wsX0_misses) := goodIn_app (goodIn_of _ (by decide +kernel)) ggX4_offer_X0_misses
theorem dX4_offer_0 : decode cX4_offer 0 = .ok (.iload_n 1, 1) := by decide +kernel
theorem dX4_offer_1 : decode cX4_offer 1 = .ok (.aload_n 0, 1) := by decide +kernel
theorem dX4_offer_2 : decode cX4_offer 2 = .ok (.getfield 21, 3) := by decide +kernel
theorem dX4_offer_5 : decode cX4_offer 5 = .ok (.getfield 58, 3) := by decide +kernel
theorem dX4_offer_8 : decode cX4_offer 8 = .ok (.invokestatic 44, 3) := by decide +kernel
theorem dX4_offer_11 : decode cX4_offer 11 = .ok (.iload_n 2, 1) := by decide +kernel
theorem dX4_offer_12 : decode cX4_offer 12 = .ok (.iconst 4, 1) := by decide +kernel
theorem dX4_offer_13 : decode cX4_offer 13 = .ok (.invokestatic 44, 3) := by decide +kernel
theorem dX4_offer_16 : decode cX4_offer 16 = .ok (.iload_n 3, 1) := by decide +kernel
theorem dX4_offer_17 : decode cX4_offer 17 = .ok (.iconst 0, 1) := by decide +kernel
theorem dX4_offer_18 : decode cX4_offer 18 = .ok (.bipush 20, 2) := by decide +kernel
theorem dX4_offer_20 : decode cX4_offer 20 = .ok (.invokestatic 28, 3) := by decide +kernel
theorem dX4_offer_23 : decode cX4_offer 23 = .ok (.iload 5, 2) := by decide +kernel
theorem dX4_offer_25 : decode cX4_offer 25 = .ok (.iconst 0, 1) := by decide +kernel
theorem dX4_offer_26 : decode cX4_offer 26 = .ok (.bipush 20, 2) := by decide +kernel
theorem dX4_offer_28 : decode cX4_offer 28 = .ok (.invokestatic 28, 3) := by decide +kernel
theorem dX4_offer_31 : decode cX4_offer 31 = .ok (.iload 4, 2) := by decide +kernel
theorem dX4_offer_33 : decode cX4_offer 33 = .ok (.iconst 0, 1) := by decide +kernel
theorem dX4_offer_34 : decode cX4_offer 34 = .ok (.bipush 40, 2) := by decide +kernel
theorem dX4_offer_36 : decode cX4_offer 36 = .ok (.invokestatic 28, 3) := by decide +kernel
theorem dX4_offer_39 : decode cX4_offer 39 = .ok (.aload_n 0, 1) := by decide +kernel
theorem dX4_offer_40 : decode cX4_offer 40 = .ok (.getfield 21, 3) := by decide +kernel
theorem dX4_offer_43 : decode cX4_offer 43 = .ok (.getfield 65, 3) := by decide +kernel
theorem dX4_offer_46 : decode cX4_offer 46 = .ok (.iload_n 1, 1) := by decide +kernel
theorem dX4_offer_47 : decode cX4_offer 47 = .ok (.aaload, 1) := by decide +kernel
theorem dX4_offer_48 : decode cX4_offer 48 = .ok (.astore 6, 2) := by decide +kernel
theorem dX4_offer_50 : decode cX4_offer 50 = .ok (.aload 6, 2) := by decide +kernel
theorem dX4_offer_52 : decode cX4_offer 52 = .ok (.getfield 77, 3) := by decide +kernel
theorem dX4_offer_55 : decode cX4_offer 55 = .ok (.iload_n 2, 1) := by decide +kernel
theorem dX4_offer_56 : decode cX4_offer 56 = .ok (.iload_n 3, 1) := by decide +kernel
theorem dX4_offer_57 : decode cX4_offer 57 = .ok (.iastore, 1) := by decide +kernel
theorem dX4_offer_58 : decode cX4_offer 58 = .ok (.aload 6, 2) := by decide +kernel
theorem dX4_offer_60 : decode cX4_offer 60 = .ok (.getfield 80, 3) := by decide +kernel
theorem dX4_offer_63 : decode cX4_offer 63 = .ok (.iload_n 2, 1) := by decide +kernel
theorem dX4_offer_64 : decode cX4_offer 64 = .ok (.iload 4, 2) := by decide +kernel
theorem dX4_offer_66 : decode cX4_offer 66 = .ok (.iastore, 1) := by decide +kernel
theorem dX4_offer_67 : decode cX4_offer 67 = .ok (.aload 6, 2) := by decide +kernel
theorem dX4_offer_69 : decode cX4_offer 69 = .ok (.getfield 83, 3) := by decide +kernel
theorem dX4_offer_72 : decode cX4_offer 72 = .ok (.iload_n 2, 1) := by decide +kernel
theorem dX4_offer_73 : decode cX4_offer 73 = .ok (.iload 5, 2) := by decide +kernel
theorem dX4_offer_75 : decode cX4_offer 75 = .ok (.iastore, 1) := by decide +kernel
theorem dX4_offer_76 : decode cX4_offer 76 = .ok (.aload 6, 2) := by decide +kernel
theorem dX4_offer_78 : decode cX4_offer 78 = .ok (.iload_n 2, 1) := by decide +kernel
theorem dX4_offer_79 : decode cX4_offer 79 = .ok (.invokevirtual 86, 3) := by decide +kernel
theorem dX4_offer_82 : decode cX4_offer 82 = .ok (.ireturn, 1) := by decide +kernel
set_option maxRecDepth 20000 in
theorem ggX4_moor_X4_needIndex : GoodIn wsX4_moor wsX4_needIndex := goodIn_ca (goodIn_r _ [11, 12, 13] (by decide +kernel) (by decide +kernel)) (goodIn_sub (fun _ h => List.mem_cons_of_mem _ (List.mem_append_left _ (List.mem_append_right _ h))) (by decide +kernel))
set_option maxRecDepth 20000 in
theorem gX4_moor_X4_needIndex : GoodIn wsX4_moor (va_wsS RX4 44 yX4_needIndex wsX4_needIndex) := goodIn_app (goodIn_of _ (by decide +kernel)) ggX4_moor_X4_needIndex
set_option maxRecDepth 20000 in
theorem ggX4_moor_X2_isFull : GoodIn wsX4_moor wsX2_isFull := goodIn_r _ [18, 19, 20, 71, 72, 73] (by decide +kernel) (by decide +kernel)
set_option maxRecDepth 20000 in
theorem gX4_moor_X2_isFull : GoodIn wsX4_moor (wsV RX4 93 RX2 yX2_isFull wsX2_isFull) := goodIn_app (goodIn_of _ (by decide +kernel)) ggX4_moor_X2_isFull
set_option maxRecDepth 20000 in
theorem ggX4_moor_X4_needState : GoodIn wsX4_moor wsX4_needState := goodIn_ca (goodIn_r _ [23, 24, 25] (by decide +kernel) (by decide +kernel)) (goodIn_sub (fun _ h => List.mem_cons_of_mem _ (List.mem_append_right _ h)) (by decide +kernel))
set_option maxRecDepth 20000 in
theorem gX4_moor_X4_needState : GoodIn wsX4_moor (va_wsS RX4 36 yX4_needState wsX4_needState) := goodIn_app (goodIn_of _ (by decide +kernel)) ggX4_moor_X4_needState
set_option maxRecDepth 20000 in
theorem ggX4_moor_X1_fasten : GoodIn wsX4_moor wsX1_fasten := goodIn_r _ [30, 31, 32, 33, 34, 35, 36, 37, 38, 39, 17, 40, 19, 20, 41, 55, 56, 57, 58, 59, 60, 61, 62, 63, 64, 65, 66, 67, 68, 69, 70, 45, 46, 47, 48, 49, 50, 51, 52, 53, 54, 71, 72, 73] (by decide +kernel) (by decide +kernel)
set_option maxRecDepth 20000 in
theorem gX4_moor_X1_fasten : GoodIn wsX4_moor (wsV RX4 99 RX1 yX1_fasten wsX1_fasten) := goodIn_app (goodIn_of _ (by decide +kernel)) ggX4_moor_X1_fasten
theorem dX4_moor_0 : decode cX4_moor 0 = .ok (.iload_n 1, 1) := by decide +kernel
theorem dX4_moor_1 : decode cX4_moor 1 = .ok (.aload_n 0, 1) := by decide +kernel
theorem dX4_moor_2 : decode cX4_moor 2 = .ok (.getfield 21, 3) := by decide +kernel
theorem dX4_moor_5 : decode cX4_moor 5 = .ok (.getfield 58, 3) := by decide +kernel
theorem dX4_moor_8 : decode cX4_moor 8 = .ok (.invokestatic 44, 3) := by decide +kernel
theorem dX4_moor_11 : decode cX4_moor 11 = .ok (.iload_n 2, 1) := by decide +kernel
theorem dX4_moor_12 : decode cX4_moor 12 = .ok (.aload_n 0, 1) := by decide +kernel
theorem dX4_moor_13 : decode cX4_moor 13 = .ok (.getfield 21, 3) := by decide +kernel
theorem dX4_moor_16 : decode cX4_moor 16 = .ok (.getfield 32, 3) := by decide +kernel
theorem dX4_moor_19 : decode cX4_moor 19 = .ok (.invokestatic 44, 3) := by decide +kernel
theorem dX4_moor_22 : decode cX4_moor 22 = .ok (.aload_n 0, 1) := by decide +kernel
theorem dX4_moor_23 : decode cX4_moor 23 = .ok (.getfield 21, 3) := by decide +kernel
theorem dX4_moor_26 : decode cX4_moor 26 = .ok (.getfield 65, 3) := by decide +kernel
theorem dX4_moor_29 : decode cX4_moor 29 = .ok (.iload_n 1, 1) := by decide +kernel
theorem dX4_moor_30 : decode cX4_moor 30 = .ok (.aaload, 1) := by decide +kernel
theorem dX4_moor_31 : decode cX4_moor 31 = .ok (.astore_n 3, 1) := by decide +kernel
theorem dX4_moor_32 : decode cX4_moor 32 = .ok (.aload_n 3, 1) := by decide +kernel
theorem dX4_moor_33 : decode cX4_moor 33 = .ok (.getfield 69, 3) := by decide +kernel
theorem dX4_moor_36 : decode cX4_moor 36 = .ok (.ifCond .ne 22, 3) := by decide +kernel
theorem dX4_moor_39 : decode cX4_moor 39 = .ok (.aload_n 0, 1) := by decide +kernel
theorem dX4_moor_40 : decode cX4_moor 40 = .ok (.getfield 21, 3) := by decide +kernel
theorem dX4_moor_43 : decode cX4_moor 43 = .ok (.getfield 89, 3) := by decide +kernel
theorem dX4_moor_46 : decode cX4_moor 46 = .ok (.iload_n 2, 1) := by decide +kernel
theorem dX4_moor_47 : decode cX4_moor 47 = .ok (.aaload, 1) := by decide +kernel
theorem dX4_moor_48 : decode cX4_moor 48 = .ok (.invokevirtual 93, 3) := by decide +kernel
theorem dX4_moor_51 : decode cX4_moor 51 = .ok (.ifCond .ne 7, 3) := by decide +kernel
theorem dX4_moor_54 : decode cX4_moor 54 = .ok (.iconst 1, 1) := by decide +kernel
theorem dX4_moor_55 : decode cX4_moor 55 = .ok (.goto 4, 3) := by decide +kernel
theorem dX4_moor_58 : decode cX4_moor 58 = .ok (.iconst 0, 1) := by decide +kernel
theorem dX4_moor_59 : decode cX4_moor 59 = .ok (.invokestatic 36, 3) := by decide +kernel
theorem dX4_moor_62 : decode cX4_moor 62 = .ok (.aload_n 0, 1) := by decide +kernel
theorem dX4_moor_63 : decode cX4_moor 63 = .ok (.getfield 21, 3) := by decide +kernel
theorem dX4_moor_66 : decode cX4_moor 66 = .ok (.aload_n 3, 1) := by decide +kernel
theorem dX4_moor_67 : decode cX4_moor 67 = .ok (.iload_n 2, 1) := by decide +kernel
theorem dX4_moor_68 : decode cX4_moor 68 = .ok (.invokevirtual 99, 3) := by decide +kernel
theorem dX4_moor_71 : decode cX4_moor 71 = .ok (.aload_n 3, 1) := by decide +kernel
theorem dX4_moor_72 : decode cX4_moor 72 = .ok (.getfield 103, 3) := by decide +kernel
theorem dX4_moor_75 : decode cX4_moor 75 = .ok (.ireturn, 1) := by decide +kernel
set_option maxRecDepth 20000 in
theorem ggX4_castOff_X4_needIndex : GoodIn wsX4_castOff wsX4_needIndex := goodIn_ca (goodIn_r _ [8, 9, 10] (by decide +kernel) (by decide +kernel)) (goodIn_sub (fun _ h => List.mem_cons_of_mem _ (List.mem_append_left _ (List.mem_append_right _ h))) (by decide +kernel))
set_option maxRecDepth 20000 in
theorem gX4_castOff_X4_needIndex : GoodIn wsX4_castOff (va_wsS RX4 44 yX4_needIndex wsX4_needIndex) := goodIn_app (goodIn_of _ (by decide +kernel)) ggX4_castOff_X4_needIndex
set_option maxRecDepth 20000 in
theorem ggX4_castOff_X1_liesDry : GoodIn wsX4_castOff wsX1_liesDry := goodIn_r _ [15, 16, 17, 18, 19, 20, 21, 22, 23, 24, 25, 26, 27, 28, 29, 66, 67, 68, 69, 70, 71, 72, 73, 74, 75, 76, 77, 78, 79, 80, 81, 56, 57, 58, 59, 60, 61, 62, 63, 64, 65, 82, 83] (by decide +kernel) (by decide +kernel)
set_option maxRecDepth 20000 in
theorem gX4_castOff_X1_liesDry : GoodIn wsX4_castOff (wsV RX4 106 RX1 yX1_liesDry wsX1_liesDry) := goodIn_app (goodIn_of _ (by decide +kernel)) ggX4_castOff_X1_liesDry
