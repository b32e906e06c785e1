theorem dX0_init_0 : decode cX0_init 0 = .ok (.aload_n 0, 1) := by decide +kernel
theorem dX0_init_1 : decode cX0_init 1 = .ok (.invokespecial 3, 3) := by decide +kernel
theorem dX0_init_4 : decode cX0_init 4 = .ok (.aload_n 0, 1) := by decide +kernel
theorem dX0_init_5 : decode cX0_init 5 = .ok (.iload_n 1, 1) := by decide +kernel
theorem dX0_init_6 : decode cX0_init 6 = .ok (.putfield 9, 3) := by decide +kernel
theorem dX0_init_9 : decode cX0_init 9 = .ok (.aload_n 0, 1) := by decide +kernel
theorem dX0_init_10 : decode cX0_init 10 = .ok (.iconst 4, 1) := by decide +kernel
theorem dX0_init_11 : decode cX0_init 11 = .ok (.newarray .int, 2) := by decide +kernel
theorem dX0_init_13 : decode cX0_init 13 = .ok (.putfield 15, 3) := by decide +kernel
theorem dX0_init_16 : decode cX0_init 16 = .ok (.aload_n 0, 1) := by decide +kernel
theorem dX0_init_17 : decode cX0_init 17 = .ok (.iconst 4, 1) := by decide +kernel
theorem dX0_init_18 : decode cX0_init 18 = .ok (.newarray .int, 2) := by decide +kernel
theorem dX0_init_20 : decode cX0_init 20 = .ok (.putfield 19, 3) := by decide +kernel
theorem dX0_init_23 : decode cX0_init 23 = .ok (.aload_n 0, 1) := by decide +kernel
theorem dX0_init_24 : decode cX0_init 24 = .ok (.iconst 4, 1) := by decide +kernel
theorem dX0_init_25 : decode cX0_init 25 = .ok (.newarray .int, 2) := by decide +kernel
theorem dX0_init_27 : decode cX0_init 27 = .ok (.putfield 22, 3) := by decide +kernel
theorem dX0_init_30 : decode cX0_init 30 = .ok (.aload_n 0, 1) := by decide +kernel
theorem dX0_init_31 : decode cX0_init 31 = .ok (.iconst 4, 1) := by decide +kernel
theorem dX0_init_32 : decode cX0_init 32 = .ok (.newarray .int, 2) := by decide +kernel
theorem dX0_init_34 : decode cX0_init 34 = .ok (.putfield 25, 3) := by decide +kernel
theorem dX0_init_37 : decode cX0_init 37 = .ok (.aload_n 0, 1) := by decide +kernel
theorem dX0_init_38 : decode cX0_init 38 = .ok (.iconst 0, 1) := by decide +kernel
theorem dX0_init_39 : decode cX0_init 39 = .ok (.putfield 28, 3) := by decide +kernel
theorem dX0_init_42 : decode cX0_init 42 = .ok (.aload_n 0, 1) := by decide +kernel
theorem dX0_init_43 : decode cX0_init 43 = .ok (.iconst (-1), 1) := by decide +kernel
theorem dX0_init_44 : decode cX0_init 44 = .ok (.putfield 31, 3) := by decide +kernel
theorem dX0_init_47 : decode cX0_init 47 = .ok (.aload_n 0, 1) := by decide +kernel
theorem dX0_init_48 : decode cX0_init 48 = .ok (.iconst (-1), 1) := by decide +kernel
theorem dX0_init_49 : decode cX0_init 49 = .ok (.putfield 34, 3) := by decide +kernel
theorem dX0_init_52 : decode cX0_init 52 = .ok (.aload_n 0, 1) := by decide +kernel
theorem dX0_init_53 : decode cX0_init 53 = .ok (.iconst (-1), 1) := by decide +kernel
theorem dX0_init_54 : decode cX0_init 54 = .ok (.putfield 37, 3) := by decide +kernel
theorem dX0_init_57 : decode cX0_init 57 = .ok (.aload_n 0, 1) := by decide +kernel
theorem dX0_init_58 : decode cX0_init 58 = .ok (.iconst (-1), 1) := by decide +kernel
theorem dX0_init_59 : decode cX0_init 59 = .ok (.putfield 40, 3) := by decide +kernel
theorem dX0_init_62 : decode cX0_init 62 = .ok (.return_, 1) := by decide +kernel
theorem dX0_copyFrom_0 : decode cX0_copyFrom 0 = .ok (.aload_n 0, 1) := by decide +kernel
theorem dX0_copyFrom_1 : decode cX0_copyFrom 1 = .ok (.aload_n 1, 1) := by decide +kernel
theorem dX0_copyFrom_2 : decode cX0_copyFrom 2 = .ok (.getfield 43, 3) := by decide +kernel
theorem dX0_copyFrom_5 : decode cX0_copyFrom 5 = .ok (.putfield 43, 3) := by decide +kernel
theorem dX0_copyFrom_8 : decode cX0_copyFrom 8 = .ok (.aload_n 0, 1) := by decide +kernel
theorem dX0_copyFrom_9 : decode cX0_copyFrom 9 = .ok (.aload_n 1, 1) := by decide +kernel
theorem dX0_copyFrom_10 : decode cX0_copyFrom 10 = .ok (.getfield 46, 3) := by decide +kernel
theorem dX0_copyFrom_13 : decode cX0_copyFrom 13 = .ok (.putfield 46, 3) := by decide +kernel
theorem dX0_copyFrom_16 : decode cX0_copyFrom 16 = .ok (.aload_n 0, 1) := by decide +kernel
theorem dX0_copyFrom_17 : decode cX0_copyFrom 17 = .ok (.aload_n 1, 1) := by decide +kernel
theorem dX0_copyFrom_18 : decode cX0_copyFrom 18 = .ok (.getfield 28, 3) := by decide +kernel
theorem dX0_copyFrom_21 : decode cX0_copyFrom 21 = .ok (.putfield 28, 3) := by decide +kernel
theorem dX0_copyFrom_24 : decode cX0_copyFrom 24 = .ok (.aload_n 0, 1) := by decide +kernel
theorem dX0_copyFrom_25 : decode cX0_copyFrom 25 = .ok (.aload_n 1, 1) := by decide +kernel
theorem dX0_copyFrom_26 : decode cX0_copyFrom 26 = .ok (.getfield 31, 3) := by decide +kernel
theorem dX0_copyFrom_29 : decode cX0_copyFrom 29 = .ok (.putfield 31, 3) := by decide +kernel
theorem dX0_copyFrom_32 : decode cX0_copyFrom 32 = .ok (.aload_n 0, 1) := by decide +kernel
theorem dX0_copyFrom_33 : decode cX0_copyFrom 33 = .ok (.aload_n 1, 1) := by decide +kernel
theorem dX0_copyFrom_34 : decode cX0_copyFrom 34 = .ok (.getfield 34, 3) := by decide +kernel
theorem dX0_copyFrom_37 : decode cX0_copyFrom 37 = .ok (.putfield 34, 3) := by decide +kernel
theorem dX0_copyFrom_40 : decode cX0_copyFrom 40 = .ok (.aload_n 0, 1) := by decide +kernel
theorem dX0_copyFrom_41 : decode cX0_copyFrom 41 = .ok (.aload_n 1, 1) := by decide +kernel
theorem dX0_copyFrom_42 : decode cX0_copyFrom 42 = .ok (.getfield 37, 3) := by decide +kernel
theorem dX0_copyFrom_45 : decode cX0_copyFrom 45 = .ok (.putfield 37, 3) := by decide +kernel
theorem dX0_copyFrom_48 : decode cX0_copyFrom 48 = .ok (.aload_n 0, 1) := by decide +kernel
theorem dX0_copyFrom_49 : decode cX0_copyFrom 49 = .ok (.aload_n 1, 1) := by decide +kernel
theorem dX0_copyFrom_50 : decode cX0_copyFrom 50 = .ok (.getfield 49, 3) := by decide +kernel
theorem dX0_copyFrom_53 : decode cX0_copyFrom 53 = .ok (.putfield 49, 3) := by decide +kernel
theorem dX0_copyFrom_56 : decode cX0_copyFrom 56 = .ok (.aload_n 0, 1) := by decide +kernel
theorem dX0_copyFrom_57 : decode cX0_copyFrom 57 = .ok (.aload_n 1, 1) := by decide +kernel
theorem dX0_copyFrom_58 : decode cX0_copyFrom 58 = .ok (.getfield 52, 3) := by decide +kernel
theorem dX0_copyFrom_61 : decode cX0_copyFrom 61 = .ok (.putfield 52, 3) := by decide +kernel
theorem dX0_copyFrom_64 : decode cX0_copyFrom 64 = .ok (.aload_n 0, 1) := by decide +kernel
theorem dX0_copyFrom_65 : decode cX0_copyFrom 65 = .ok (.aload_n 1, 1) := by decide +kernel
theorem dX0_copyFrom_66 : decode cX0_copyFrom 66 = .ok (.getfield 40, 3) := by decide +kernel
theorem dX0_copyFrom_69 : decode cX0_copyFrom 69 = .ok (.putfield 40, 3) := by decide +kernel
theorem dX0_copyFrom_72 : decode cX0_copyFrom 72 = .ok (.aload_n 0, 1) := by decide +kernel
theorem dX0_copyFrom_73 : decode cX0_copyFrom 73 = .ok (.aload_n 1, 1) := by decide +kernel
theorem dX0_copyFrom_74 : decode cX0_copyFrom 74 = .ok (.getfield 55, 3) := by decide +kernel
theorem dX0_copyFrom_77 : decode cX0_copyFrom 77 = .ok (.putfield 55, 3) := by decide +kernel
theorem dX0_copyFrom_80 : decode cX0_copyFrom 80 = .ok (.aload_n 0, 1) := by decide +kernel
theorem dX0_copyFrom_81 : decode cX0_copyFrom 81 = .ok (.aload_n 1, 1) := by decide +kernel
theorem dX0_copyFrom_82 : decode cX0_copyFrom 82 = .ok (.getfield 58, 3) := by decide +kernel
theorem dX0_copyFrom_85 : decode cX0_copyFrom 85 = .ok (.putfield 58, 3) := by decide +kernel
theorem dX0_copyFrom_88 : decode cX0_copyFrom 88 = .ok (.aload_n 1, 1) := by decide +kernel
theorem dX0_copyFrom_89 : decode cX0_copyFrom 89 = .ok (.getfield 15, 3) := by decide +kernel
theorem dX0_copyFrom_92 : decode cX0_copyFrom 92 = .ok (.iconst 0, 1) := by decide +kernel
theorem dX0_copyFrom_93 : decode cX0_copyFrom 93 = .ok (.aload_n 0, 1) := by decide +kernel
theorem dX0_copyFrom_94 : decode cX0_copyFrom 94 = .ok (.getfield 15, 3) := by decide +kernel
theorem dX0_copyFrom_97 : decode cX0_copyFrom 97 = .ok (.iconst 0, 1) := by decide +kernel
theorem dX0_copyFrom_98 : decode cX0_copyFrom 98 = .ok (.iconst 4, 1) := by decide +kernel
theorem dX0_copyFrom_99 : decode cX0_copyFrom 99 = .ok (.invokestatic 61, 3) := by decide +kernel
theorem dX0_copyFrom_102 : decode cX0_copyFrom 102 = .ok (.aload_n 1, 1) := by decide +kernel
theorem dX0_copyFrom_103 : decode cX0_copyFrom 103 = .ok (.getfield 19, 3) := by decide +kernel
theorem dX0_copyFrom_106 : decode cX0_copyFrom 106 = .ok (.iconst 0, 1) := by decide +kernel
theorem dX0_copyFrom_107 : decode cX0_copyFrom 107 = .ok (.aload_n 0, 1) := by decide +kernel
theorem dX0_copyFrom_108 : decode cX0_copyFrom 108 = .ok (.getfield 19, 3) := by decide +kernel
theorem dX0_copyFrom_111 : decode cX0_copyFrom 111 = .ok (.iconst 0, 1) := by decide +kernel
theorem dX0_copyFrom_112 : decode cX0_copyFrom 112 = .ok (.iconst 4, 1) := by decide +kernel
theorem dX0_copyFrom_113 : decode cX0_copyFrom 113 = .ok (.invokestatic 61, 3) := by decide +kernel
theorem dX0_copyFrom_116 : decode cX0_copyFrom 116 = .ok (.aload_n 1, 1) := by decide +kernel
theorem dX0_copyFrom_117 : decode cX0_copyFrom 117 = .ok (.getfield 22, 3) := by decide +kernel
theorem dX0_copyFrom_120 : decode cX0_copyFrom 120 = .ok (.iconst 0, 1) := by decide +kernel
theorem dX0_copyFrom_121 : decode cX0_copyFrom 121 = .ok (.aload_n 0, 1) := by decide +kernel
theorem dX0_copyFrom_122 : decode cX0_copyFrom 122 = .ok (.getfield 22, 3) := by decide +kernel
theorem dX0_copyFrom_125 : decode cX0_copyFrom 125 = .ok (.iconst 0, 1) := by decide +kernel
theorem dX0_copyFrom_126 : decode cX0_copyFrom 126 = .ok (.iconst 4, 1) := by decide +kernel
theorem dX0_copyFrom_127 : decode cX0_copyFrom 127 = .ok (.invokestatic 61, 3) := by decide +kernel
theorem dX0_copyFrom_130 : decode cX0_copyFrom 130 = .ok (.aload_n 1, 1) := by decide +kernel
theorem dX0_copyFrom_131 : decode cX0_copyFrom 131 = .ok (.getfield 25, 3) := by decide +kernel
theorem dX0_copyFrom_134 : decode cX0_copyFrom 134 = .ok (.iconst 0, 1) := by decide +kernel
theorem dX0_copyFrom_135 : decode cX0_copyFrom 135 = .ok (.aload_n 0, 1) := by decide +kernel
theorem dX0_copyFrom_136 : decode cX0_copyFrom 136 = .ok (.getfield 25, 3) := by decide +kernel
theorem dX0_copyFrom_139 : decode cX0_copyFrom 139 = .ok (.iconst 0, 1) := by decide +kernel
theorem dX0_copyFrom_140 : decode cX0_copyFrom 140 = .ok (.iconst 4, 1) := by decide +kernel
theorem dX0_copyFrom_141 : decode cX0_copyFrom 141 = .ok (.invokestatic 61, 3) := by decide +kernel
theorem dX0_copyFrom_144 : decode cX0_copyFrom 144 = .ok (.return_, 1) := by decide +kernel
theorem dX0_misses_0 : decode cX0_misses 0 = .ok (.iconst 0, 1) := by decide +kernel
theorem dX0_misses_1 : decode cX0_misses 1 = .ok (.aload_n 0, 1) := by decide +kernel
theorem dX0_misses_2 : decode cX0_misses 2 = .ok (.getfield 22, 3) := by decide +kernel
theorem dX0_misses_5 : decode cX0_misses 5 = .ok (.iload_n 1, 1) := by decide +kernel
theorem dX0_misses_6 : decode cX0_misses 6 = .ok (.iaload, 1) := by decide +kernel
theorem dX0_misses_7 : decode cX0_misses 7 = .ok (.aload_n 0, 1) := by decide +kernel
theorem dX0_misses_8 : decode cX0_misses 8 = .ok (.getfield 15, 3) := by decide +kernel
theorem dX0_misses_11 : decode cX0_misses 11 = .ok (.iload_n 1, 1) := by decide +kernel
theorem dX0_misses_12 : decode cX0_misses 12 = .ok (.iaload, 1) := by decide +kernel
theorem dX0_misses_13 : decode cX0_misses 13 = .ok (.isub, 1) := by decide +kernel
theorem dX0_misses_14 : decode cX0_misses 14 = .ok (.invokestatic 67, 3) := by decide +kernel
theorem dX0_misses_17 : decode cX0_misses 17 = .ok (.ireturn, 1) := by decide +kernel
set_option maxRecDepth 20000 in
theorem ggX0_missesInAll_X0_misses : GoodIn wsX0_missesInAll wsX0_misses := goodIn_r _ [5, 6, 7, 8, 9, 10, 11, 12, 13, 14, 15, 16, 17, 18, 19, 20, 21, 22, 23, 24, 25, 26, 27] (by decide +kernel) (by decide +kernel)
set_option maxRecDepth 20000 in
theorem gX0_missesInAll_X0_misses : GoodIn wsX0_missesInAll (wsV RX0 73 RX0 yX0_misses wsX0_misses) := goodIn_app (goodIn_of _ (by decide +kernel)) ggX0_missesInAll_X0_misses
theorem dX0_missesInAll_0 : decode cX0_missesInAll 0 = .ok (.iconst 0, 1) := by decide +kernel
theorem dX0_missesInAll_1 : decode cX0_missesInAll 1 = .ok (.istore_n 1, 1) := by decide +kernel
theorem dX0_missesInAll_2 : decode cX0_missesInAll 2 = .ok (.iconst 0, 1) := by decide +kernel
theorem dX0_missesInAll_3 : decode cX0_missesInAll 3 = .ok (.istore_n 2, 1) := by decide +kernel
theorem dX0_missesInAll_4 : decode cX0_missesInAll 4 = .ok (.iload_n 2, 1) := by decide +kernel
theorem dX0_missesInAll_5 : decode cX0_missesInAll 5 = .ok (.iconst 4, 1) := by decide +kernel
theorem dX0_missesInAll_6 : decode cX0_missesInAll 6 = .ok (.if_icmp .ge 17, 3) := by decide +kernel
theorem dX0_missesInAll_9 : decode cX0_missesInAll 9 = .ok (.iload_n 1, 1) := by decide +kernel
theorem dX0_missesInAll_10 : decode cX0_missesInAll 10 = .ok (.aload_n 0, 1) := by decide +kernel
theorem dX0_missesInAll_11 : decode cX0_missesInAll 11 = .ok (.iload_n 2, 1) := by decide +kernel
theorem dX0_missesInAll_12 : decode cX0_missesInAll 12 = .ok (.invokevirtual 73, 3) := by decide +kernel
theorem dX0_missesInAll_15 : decode cX0_missesInAll 15 = .ok (.iadd, 1) := by decide +kernel
theorem dX0_missesInAll_16 : decode cX0_missesInAll 16 = .ok (.istore_n 1, 1) := by decide +kernel
theorem dX0_missesInAll_17 : decode cX0_missesInAll 17 = .ok (.iinc 2 1, 3) := by decide +kernel
theorem dX0_missesInAll_20 : decode cX0_missesInAll 20 = .ok (.goto (-16), 3) := by decide +kernel
theorem dX0_missesInAll_23 : decode cX0_missesInAll 23 = .ok (.iload_n 1, 1) := by decide +kernel
theorem dX0_missesInAll_24 : decode cX0_missesInAll 24 = .ok (.ireturn, 1) := by decide +kernel
theorem dX0_goodsInAll_0 : decode cX0_goodsInAll 0 = .ok (.iconst 0, 1) := by decide +kernel
theorem dX0_goodsInAll_1 : decode cX0_goodsInAll 1 = .ok (.istore_n 1, 1) := by decide +kernel
theorem dX0_goodsInAll_2 : decode cX0_goodsInAll 2 = .ok (.iconst 0, 1) := by decide +kernel
theorem dX0_goodsInAll_3 : decode cX0_goodsInAll 3 = .ok (.istore_n 2, 1) := by decide +kernel
theorem dX0_goodsInAll_4 : decode cX0_goodsInAll 4 = .ok (.iload_n 2, 1) := by decide +kernel
theorem dX0_goodsInAll_5 : decode cX0_goodsInAll 5 = .ok (.iconst 4, 1) := by decide +kernel
theorem dX0_goodsInAll_6 : decode cX0_goodsInAll 6 = .ok (.if_icmp .ge 18, 3) := by decide +kernel
theorem dX0_goodsInAll_9 : decode cX0_goodsInAll 9 = .ok (.iload_n 1, 1) := by decide +kernel
theorem dX0_goodsInAll_10 : decode cX0_goodsInAll 10 = .ok (.aload_n 0, 1) := by decide +kernel
theorem dX0_goodsInAll_11 : decode cX0_goodsInAll 11 = .ok (.getfield 15, 3) := by decide +kernel
theorem dX0_goodsInAll_14 : decode cX0_goodsInAll 14 = .ok (.iload_n 2, 1) := by decide +kernel
theorem dX0_goodsInAll_15 : decode cX0_goodsInAll 15 = .ok (.iaload, 1) := by decide +kernel
theorem dX0_goodsInAll_16 : decode cX0_goodsInAll 16 = .ok (.iadd, 1) := by decide +kernel
theorem dX0_goodsInAll_17 : decode cX0_goodsInAll 17 = .ok (.istore_n 1, 1) := by decide +kernel
theorem dX0_goodsInAll_18 : decode cX0_goodsInAll 18 = .ok (.iinc 2 1, 3) := by decide +kernel
theorem dX0_goodsInAll_21 : decode cX0_goodsInAll 21 = .ok (.goto (-17), 3) := by decide +kernel
theorem dX0_goodsInAll_24 : decode cX0_goodsInAll 24 = .ok (.iload_n 1, 1) := by decide +kernel
theorem dX0_goodsInAll_25 : decode cX0_goodsInAll 25 = .ok (.ireturn, 1) := by decide +kernel
theorem dX0_sells_0 : decode cX0_sells 0 = .ok (.aload_n 0, 1) := by decide +kernel
theorem dX0_sells_1 : decode cX0_sells 1 = .ok (.getfield 19, 3) := by decide +kernel
theorem dX0_sells_4 : decode cX0_sells 4 = .ok (.iload_n 1, 1) := by decide +kernel
theorem dX0_sells_5 : decode cX0_sells 5 = .ok (.iaload, 1) := by decide +kernel
theorem dX0_sells_6 : decode cX0_sells 6 = .ok (.ifCond .eq 32, 3) := by decide +kernel
theorem dX0_sells_9 : decode cX0_sells 9 = .ok (.aload_n 0, 1) := by decide +kernel
theorem dX0_sells_10 : decode cX0_sells 10 = .ok (.getfield 19, 3) := by decide +kernel
theorem dX0_sells_13 : decode cX0_sells 13 = .ok (.iload_n 1, 1) := by decide +kernel
theorem dX0_sells_14 : decode cX0_sells 14 = .ok (.iaload, 1) := by decide +kernel
theorem dX0_sells_15 : decode cX0_sells 15 = .ok (.iload_n 2, 1) := by decide +kernel
theorem dX0_sells_16 : decode cX0_sells 16 = .ok (.if_icmp .gt 22, 3) := by decide +kernel
theorem dX0_sells_19 : decode cX0_sells 19 = .ok (.aload_n 0, 1) := by decide +kernel
theorem dX0_sells_20 : decode cX0_sells 20 = .ok (.getfield 15, 3) := by decide +kernel
theorem dX0_sells_23 : decode cX0_sells 23 = .ok (.iload_n 1, 1) := by decide +kernel
theorem dX0_sells_24 : decode cX0_sells 24 = .ok (.iaload, 1) := by decide +kernel
theorem dX0_sells_25 : decode cX0_sells 25 = .ok (.aload_n 0, 1) := by decide +kernel
theorem dX0_sells_26 : decode cX0_sells 26 = .ok (.getfield 22, 3) := by decide +kernel
theorem dX0_sells_29 : decode cX0_sells 29 = .ok (.iload_n 1, 1) := by decide +kernel
theorem dX0_sells_30 : decode cX0_sells 30 = .ok (.iaload, 1) := by decide +kernel
theorem dX0_sells_31 : decode cX0_sells 31 = .ok (.if_icmp .le 7, 3) := by decide +kernel
theorem dX0_sells_34 : decode cX0_sells 34 = .ok (.iconst 1, 1) := by decide +kernel
theorem dX0_sells_35 : decode cX0_sells 35 = .ok (.goto 4, 3) := by decide +kernel
theorem dX0_sells_38 : decode cX0_sells 38 = .ok (.iconst 0, 1) := by decide +kernel
theorem dX0_sells_39 : decode cX0_sells 39 = .ok (.ireturn, 1) := by decide +kernel
theorem dX0_isBeside_0 : decode cX0_isBeside 0 = .ok (.aload_n 0, 1) := by decide +kernel
theorem dX0_isBeside_1 : decode cX0_isBeside 1 = .ok (.getfield 28, 3) := by decide +kernel
theorem dX0_isBeside_4 : decode cX0_isBeside 4 = .ok (.iconst 1, 1) := by decide +kernel
theorem dX0_isBeside_5 : decode cX0_isBeside 5 = .ok (.if_icmp .ne 11, 3) := by decide +kernel
theorem dX0_isBeside_8 : decode cX0_isBeside 8 = .ok (.aload_n 1, 1) := by decide +kernel
theorem dX0_isBeside_9 : decode cX0_isBeside 9 = .ok (.getfield 28, 3) := by decide +kernel
theorem dX0_isBeside_12 : decode cX0_isBeside 12 = .ok (.iconst 1, 1) := by decide +kernel
theorem dX0_isBeside_13 : decode cX0_isBeside 13 = .ok (.if_icmp .eq 5, 3) := by decide +kernel
theorem dX0_isBeside_16 : decode cX0_isBeside 16 = .ok (.iconst 0, 1) := by decide +kernel
theorem dX0_isBeside_17 : decode cX0_isBeside 17 = .ok (.ireturn, 1) := by decide +kernel
theorem dX0_isBeside_18 : decode cX0_isBeside 18 = .ok (.aload_n 0, 1) := by decide +kernel
theorem dX0_isBeside_19 : decode cX0_isBeside 19 = .ok (.getfield 31, 3) := by decide +kernel
theorem dX0_isBeside_22 : decode cX0_isBeside 22 = .ok (.aload_n 1, 1) := by decide +kernel
theorem dX0_isBeside_23 : decode cX0_isBeside 23 = .ok (.getfield 31, 3) := by decide +kernel
theorem dX0_isBeside_26 : decode cX0_isBeside 26 = .ok (.isub, 1) := by decide +kernel
theorem dX0_isBeside_27 : decode cX0_isBeside 27 = .ok (.invokestatic 77, 3) := by decide +kernel
theorem dX0_isBeside_30 : decode cX0_isBeside 30 = .ok (.istore_n 2, 1) := by decide +kernel
theorem dX0_isBeside_31 : decode cX0_isBeside 31 = .ok (.aload_n 0, 1) := by decide +kernel
theorem dX0_isBeside_32 : decode cX0_isBeside 32 = .ok (.getfield 34, 3) := by decide +kernel
theorem dX0_isBeside_35 : decode cX0_isBeside 35 = .ok (.aload_n 1, 1) := by decide +kernel
theorem dX0_isBeside_36 : decode cX0_isBeside 36 = .ok (.getfield 34, 3) := by decide +kernel
theorem dX0_isBeside_39 : decode cX0_isBeside 39 = .ok (.isub, 1) := by decide +kernel
theorem dX0_isBeside_40 : decode cX0_isBeside 40 = .ok (.invokestatic 77, 3) := by decide +kernel
theorem dX0_isBeside_43 : decode cX0_isBeside 43 = .ok (.istore_n 3, 1) := by decide +kernel
theorem dX0_isBeside_44 : decode cX0_isBeside 44 = .ok (.iload_n 2, 1) := by decide +kernel
theorem dX0_isBeside_45 : decode cX0_isBeside 45 = .ok (.iload_n 3, 1) := by decide +kernel
theorem dX0_isBeside_46 : decode cX0_isBeside 46 = .ok (.iadd, 1) := by decide +kernel
theorem dX0_isBeside_47 : decode cX0_isBeside 47 = .ok (.iconst 1, 1) := by decide +kernel
theorem dX0_isBeside_48 : decode cX0_isBeside 48 = .ok (.if_icmp .ne 7, 3) := by decide +kernel
theorem dX0_isBeside_51 : decode cX0_isBeside 51 = .ok (.iconst 1, 1) := by decide +kernel
theorem dX0_isBeside_52 : decode cX0_isBeside 52 = .ok (.goto 4, 3) := by decide +kernel
theorem dX0_isBeside_55 : decode cX0_isBeside 55 = .ok (.iconst 0, 1) := by decide +kernel
theorem dX0_isBeside_56 : decode cX0_isBeside 56 = .ok (.ireturn, 1) := by decide +kernel
set_option maxRecDepth 20000 in
theorem ggX0_hasReached_X0_missesInAll : GoodIn wsX0_hasReached wsX0_missesInAll := goodIn_r _ [6, 7, 8, 9, 5, 10, 11, 12, 13, 14, 15, 16, 17, 18, 19, 20, 21, 22, 23, 24, 25, 26, 27, 28, 29, 30, 31, 32] (by decide +kernel) (by decide +kernel)
set_option maxRecDepth 20000 in
theorem gX0_hasReached_X0_missesInAll : GoodIn wsX0_hasReached (wsV RX0 80 RX0 yX0_missesInAll wsX0_missesInAll) := goodIn_app (goodIn_of _ (by decide +kernel)) ggX0_hasReached_X0_missesInAll
theorem dX0_hasReached_0 : decode cX0_hasReached 0 = .ok (.iload_n 1, 1) := by decide +kernel
theorem dX0_hasReached_1 : decode cX0_hasReached 1 = .ok (.iconst 1, 1) := by decide +kernel
theorem dX0_hasReached_2 : decode cX0_hasReached 2 = .ok (.if_icmp .ne 19, 3) := by decide +kernel
theorem dX0_hasReached_5 : decode cX0_hasReached 5 = .ok (.aload_n 0, 1) := by decide +kernel
theorem dX0_hasReached_6 : decode cX0_hasReached 6 = .ok (.getfield 28, 3) := by decide +kernel
theorem dX0_hasReached_9 : decode cX0_hasReached 9 = .ok (.iconst 2, 1) := by decide +kernel
theorem dX0_hasReached_10 : decode cX0_hasReached 10 = .ok (.if_icmp .ne 7, 3) := by decide +kernel
theorem dX0_hasReached_13 : decode cX0_hasReached 13 = .ok (.iconst 1, 1) := by decide +kernel
theorem dX0_hasReached_14 : decode cX0_hasReached 14 = .ok (.goto 19, 3) := by decide +kernel
theorem dX0_hasReached_17 : decode cX0_hasReached 17 = .ok (.iconst 0, 1) := by decide +kernel
theorem dX0_hasReached_18 : decode cX0_hasReached 18 = .ok (.goto 15, 3) := by decide +kernel
theorem dX0_hasReached_21 : decode cX0_hasReached 21 = .ok (.aload_n 0, 1) := by decide +kernel
theorem dX0_hasReached_22 : decode cX0_hasReached 22 = .ok (.invokevirtual 80, 3) := by decide +kernel
theorem dX0_hasReached_25 : decode cX0_hasReached 25 = .ok (.ifCond .ne 7, 3) := by decide +kernel
theorem dX0_hasReached_28 : decode cX0_hasReached 28 = .ok (.iconst 1, 1) := by decide +kernel
theorem dX0_hasReached_29 : decode cX0_hasReached 29 = .ok (.goto 4, 3) := by decide +kernel
theorem dX0_hasReached_32 : decode cX0_hasReached 32 = .ok (.iconst 0, 1) := by decide +kernel
theorem dX0_hasReached_33 : decode cX0_hasReached 33 = .ok (.ireturn, 1) := by decide +kernel
theorem dX0_isToLeaveBy_0 : decode cX0_isToLeaveBy 0 = .ok (.aload_n 0, 1) := by decide +kernel
theorem dX0_isToLeaveBy_1 : decode cX0_isToLeaveBy 1 = .ok (.getfield 37, 3) := by decide +kernel
theorem dX0_isToLeaveBy_4 : decode cX0_isToLeaveBy 4 = .ok (.iconst (-1), 1) := by decide +kernel
theorem dX0_isToLeaveBy_5 : decode cX0_isToLeaveBy 5 = .ok (.if_icmp .eq 15, 3) := by decide +kernel
theorem dX0_isToLeaveBy_8 : decode cX0_isToLeaveBy 8 = .ok (.aload_n 0, 1) := by decide +kernel
theorem dX0_isToLeaveBy_9 : decode cX0_isToLeaveBy 9 = .ok (.getfield 37, 3) := by decide +kernel
theorem dX0_isToLeaveBy_12 : decode cX0_isToLeaveBy 12 = .ok (.iload_n 1, 1) := by decide +kernel
theorem dX0_isToLeaveBy_13 : decode cX0_isToLeaveBy 13 = .ok (.if_icmp .gt 7, 3) := by decide +kernel
theorem dX0_isToLeaveBy_16 : decode cX0_isToLeaveBy 16 = .ok (.iconst 1, 1) := by decide +kernel
theorem dX0_isToLeaveBy_17 : decode cX0_isToLeaveBy 17 = .ok (.goto 4, 3) := by decide +kernel
theorem dX0_isToLeaveBy_20 : decode cX0_isToLeaveBy 20 = .ok (.iconst 0, 1) := by decide +kernel
theorem dX0_isToLeaveBy_21 : decode cX0_isToLeaveBy 21 = .ok (.ireturn, 1) := by decide +kernel
set_option maxRecDepth 20000 in
theorem ggX0_figure_X0_missesInAll : GoodIn wsX0_figure wsX0_missesInAll := goodIn_r _ [15, 16, 17, 18, 14, 19, 20, 21, 22, 23, 24, 25, 26, 27, 28, 29, 30, 31, 32, 33, 34, 35, 36, 37, 38, 39, 40, 41] (by decide +kernel) (by decide +kernel)
set_option maxRecDepth 20000 in
theorem gX0_figure_X0_missesInAll : GoodIn wsX0_figure (wsV RX0 80 RX0 yX0_missesInAll wsX0_missesInAll) := goodIn_app (goodIn_of _ (by decide +kernel)) ggX0_figure_X0_missesInAll
theorem dX0_figure_0 : decode cX0_figure 0 = .ok (.iload_n 1, 1) := by decide +kernel
theorem dX0_figure_1 : decode cX0_figure 1 = .ok (.tableswitch 105 0 9 #[55, 60, 65, 70, 75, 80, 85, 90, 95, 100], 55) := by decide +kernel
theorem dX0_figure_56 : decode cX0_figure 56 = .ok (.aload_n 0, 1) := by decide +kernel
theorem dX0_figure_57 : decode cX0_figure 57 = .ok (.getfield 43, 3) := by decide +kernel
theorem dX0_figure_60 : decode cX0_figure 60 = .ok (.ireturn, 1) := by decide +kernel
theorem dX0_figure_61 : decode cX0_figure 61 = .ok (.aload_n 0, 1) := by decide +kernel
theorem dX0_figure_62 : decode cX0_figure 62 = .ok (.getfield 46, 3) := by decide +kernel
theorem dX0_figure_65 : decode cX0_figure 65 = .ok (.ireturn, 1) := by decide +kernel
theorem dX0_figure_66 : decode cX0_figure 66 = .ok (.aload_n 0, 1) := by decide +kernel
theorem dX0_figure_67 : decode cX0_figure 67 = .ok (.getfield 28, 3) := by decide +kernel
theorem dX0_figure_70 : decode cX0_figure 70 = .ok (.ireturn, 1) := by decide +kernel
theorem dX0_figure_71 : decode cX0_figure 71 = .ok (.aload_n 0, 1) := by decide +kernel
theorem dX0_figure_72 : decode cX0_figure 72 = .ok (.getfield 31, 3) := by decide +kernel
theorem dX0_figure_75 : decode cX0_figure 75 = .ok (.ireturn, 1) := by decide +kernel
theorem dX0_figure_76 : decode cX0_figure 76 = .ok (.aload_n 0, 1) := by decide +kernel
theorem dX0_figure_77 : decode cX0_figure 77 = .ok (.getfield 34, 3) := by decide +kernel
theorem dX0_figure_80 : decode cX0_figure 80 = .ok (.ireturn, 1) := by decide +kernel
theorem dX0_figure_81 : decode cX0_figure 81 = .ok (.aload_n 0, 1) := by decide +kernel
theorem dX0_figure_82 : decode cX0_figure 82 = .ok (.getfield 37, 3) := by decide +kernel
theorem dX0_figure_85 : decode cX0_figure 85 = .ok (.ireturn, 1) := by decide +kernel
theorem dX0_figure_86 : decode cX0_figure 86 = .ok (.aload_n 0, 1) := by decide +kernel
theorem dX0_figure_87 : decode cX0_figure 87 = .ok (.getfield 49, 3) := by decide +kernel
theorem dX0_figure_90 : decode cX0_figure 90 = .ok (.ireturn, 1) := by decide +kernel
theorem dX0_figure_91 : decode cX0_figure 91 = .ok (.aload_n 0, 1) := by decide +kernel
theorem dX0_figure_92 : decode cX0_figure 92 = .ok (.getfield 52, 3) := by decide +kernel
theorem dX0_figure_95 : decode cX0_figure 95 = .ok (.ireturn, 1) := by decide +kernel
theorem dX0_figure_96 : decode cX0_figure 96 = .ok (.aload_n 0, 1) := by decide +kernel
theorem dX0_figure_97 : decode cX0_figure 97 = .ok (.getfield 55, 3) := by decide +kernel
theorem dX0_figure_100 : decode cX0_figure 100 = .ok (.ireturn, 1) := by decide +kernel
theorem dX0_figure_101 : decode cX0_figure 101 = .ok (.aload_n 0, 1) := by decide +kernel
theorem dX0_figure_102 : decode cX0_figure 102 = .ok (.getfield 58, 3) := by decide +kernel
theorem dX0_figure_105 : decode cX0_figure 105 = .ok (.ireturn, 1) := by decide +kernel
theorem dX0_figure_106 : decode cX0_figure 106 = .ok (.aload_n 0, 1) := by decide +kernel
theorem dX0_figure_107 : decode cX0_figure 107 = .ok (.invokevirtual 80, 3) := by decide +kernel
theorem dX0_figure_110 : decode cX0_figure 110 = .ok (.ireturn, 1) := by decide +kernel
theorem dX0_goodFigure_0 : decode cX0_goodFigure 0 = .ok (.iload_n 2, 1) := by decide +kernel
theorem dX0_goodFigure_1 : decode cX0_goodFigure 1 = .ok (.tableswitch 48 0 2 #[27, 34, 41], 27) := by decide +kernel
theorem dX0_goodFigure_28 : decode cX0_goodFigure 28 = .ok (.aload_n 0, 1) := by decide +kernel
theorem dX0_goodFigure_29 : decode cX0_goodFigure 29 = .ok (.getfield 15, 3) := by decide +kernel
theorem dX0_goodFigure_32 : decode cX0_goodFigure 32 = .ok (.iload_n 1, 1) := by decide +kernel
theorem dX0_goodFigure_33 : decode cX0_goodFigure 33 = .ok (.iaload, 1) := by decide +kernel
theorem dX0_goodFigure_34 : decode cX0_goodFigure 34 = .ok (.ireturn, 1) := by decide +kernel
theorem dX0_goodFigure_35 : decode cX0_goodFigure 35 = .ok (.aload_n 0, 1) := by decide +kernel
theorem dX0_goodFigure_36 : decode cX0_goodFigure 36 = .ok (.getfield 19, 3) := by decide +kernel
theorem dX0_goodFigure_39 : decode cX0_goodFigure 39 = .ok (.iload_n 1, 1) := by decide +kernel
theorem dX0_goodFigure_40 : decode cX0_goodFigure 40 = .ok (.iaload, 1) := by decide +kernel
theorem dX0_goodFigure_41 : decode cX0_goodFigure 41 = .ok (.ireturn, 1) := by decide +kernel
theorem dX0_goodFigure_42 : decode cX0_goodFigure 42 = .ok (.aload_n 0, 1) := by decide +kernel
theorem dX0_goodFigure_43 : decode cX0_goodFigure 43 = .ok (.getfield 22, 3) := by decide +kernel
theorem dX0_goodFigure_46 : decode cX0_goodFigure 46 = .ok (.iload_n 1, 1) := by decide +kernel
theorem dX0_goodFigure_47 : decode cX0_goodFigure 47 = .ok (.iaload, 1) := by decide +kernel
theorem dX0_goodFigure_48 : decode cX0_goodFigure 48 = .ok (.ireturn, 1) := by decide +kernel
theorem dX0_goodFigure_49 : decode cX0_goodFigure 49 = .ok (.aload_n 0, 1) := by decide +kernel
theorem dX0_goodFigure_50 : decode cX0_goodFigure 50 = .ok (.getfield 25, 3) := by decide +kernel
theorem dX0_goodFigure_53 : decode cX0_goodFigure 53 = .ok (.iload_n 1, 1) := by decide +kernel
theorem dX0_goodFigure_54 : decode cX0_goodFigure 54 = .ok (.iaload, 1) := by decide +kernel
theorem dX0_goodFigure_55 : decode cX0_goodFigure 55 = .ok (.ireturn, 1) := by decide +kernel
set_option maxRecDepth 20000 in
theorem ggX0_addTo_X0_figure : GoodIn wsX0_addTo wsX0_figure := goodIn_r _ [6, 7, 8, 9, 10, 11, 12, 13, 14, 15, 16, 17, 18, 19, 5, 20, 21, 22, 23, 24, 25, 26, 27, 28, 29, 30, 37, 38, 39, 40, 41, 42, 43, 44, 45, 46, 47, 48, 49, 50, 51, 52] (by decide +kernel) (by decide +kernel)
set_option maxRecDepth 20000 in
theorem gX0_addTo_X0_figure : GoodIn wsX0_addTo (wsV RX0 86 RX0 yX0_figure wsX0_figure) := goodIn_app (goodIn_of _ (by decide +kernel)) ggX0_addTo_X0_figure
set_option maxRecDepth 20000 in
theorem ggX0_addTo_X0_goodFigure : GoodIn wsX0_addTo wsX0_goodFigure := goodIn_r _ [34, 26, 35, 25, 36, 37, 38, 39, 40, 41, 42, 43, 44, 45, 46, 47, 48, 49, 50, 51, 52] (by decide +kernel) (by decide +kernel)
set_option maxRecDepth 20000 in
theorem gX0_addTo_X0_goodFigure : GoodIn wsX0_addTo (wsV RX0 89 RX0 yX0_goodFigure wsX0_goodFigure) := goodIn_app (goodIn_of _ (by decide +kernel)) ggX0_addTo_X0_goodFigure
theorem dX0_addTo_0 : decode cX0_addTo 0 = .ok (.lload_n 1, 1) := by decide +kernel
theorem dX0_addTo_1 : decode cX0_addTo 1 = .ok (.lstore_n 3, 1) := by decide +kernel
theorem dX0_addTo_2 : decode cX0_addTo 2 = .ok (.iconst 0, 1) := by decide +kernel
theorem dX0_addTo_3 : decode cX0_addTo 3 = .ok (.istore 5, 2) := by decide +kernel
theorem dX0_addTo_5 : decode cX0_addTo 5 = .ok (.iload 5, 2) := by decide +kernel
theorem dX0_addTo_7 : decode cX0_addTo 7 = .ok (.bipush 11, 2) := by decide +kernel
theorem dX0_addTo_9 : decode cX0_addTo 9 = .ok (.if_icmp .ge 23, 3) := by decide +kernel
theorem dX0_addTo_12 : decode cX0_addTo 12 = .ok (.lload_n 3, 1) := by decide +kernel
theorem dX0_addTo_13 : decode cX0_addTo 13 = .ok (.ldc2_w 84, 3) := by decide +kernel
theorem dX0_addTo_16 : decode cX0_addTo 16 = .ok (.lmul, 1) := by decide +kernel
theorem dX0_addTo_17 : decode cX0_addTo 17 = .ok (.aload_n 0, 1) := by decide +kernel
theorem dX0_addTo_18 : decode cX0_addTo 18 = .ok (.iload 5, 2) := by decide +kernel
theorem dX0_addTo_20 : decode cX0_addTo 20 = .ok (.invokevirtual 86, 3) := by decide +kernel
theorem dX0_addTo_23 : decode cX0_addTo 23 = .ok (.i2l, 1) := by decide +kernel
theorem dX0_addTo_24 : decode cX0_addTo 24 = .ok (.ladd, 1) := by decide +kernel
theorem dX0_addTo_25 : decode cX0_addTo 25 = .ok (.lstore_n 3, 1) := by decide +kernel
theorem dX0_addTo_26 : decode cX0_addTo 26 = .ok (.iinc 5 1, 3) := by decide +kernel
theorem dX0_addTo_29 : decode cX0_addTo 29 = .ok (.goto (-24), 3) := by decide +kernel
theorem dX0_addTo_32 : decode cX0_addTo 32 = .ok (.iconst 0, 1) := by decide +kernel
theorem dX0_addTo_33 : decode cX0_addTo 33 = .ok (.istore 5, 2) := by decide +kernel
theorem dX0_addTo_35 : decode cX0_addTo 35 = .ok (.iload 5, 2) := by decide +kernel
theorem dX0_addTo_37 : decode cX0_addTo 37 = .ok (.iconst 4, 1) := by decide +kernel
theorem dX0_addTo_38 : decode cX0_addTo 38 = .ok (.if_icmp .ge 40, 3) := by decide +kernel
theorem dX0_addTo_41 : decode cX0_addTo 41 = .ok (.iconst 0, 1) := by decide +kernel
theorem dX0_addTo_42 : decode cX0_addTo 42 = .ok (.istore 6, 2) := by decide +kernel
theorem dX0_addTo_44 : decode cX0_addTo 44 = .ok (.iload 6, 2) := by decide +kernel
theorem dX0_addTo_46 : decode cX0_addTo 46 = .ok (.iconst 4, 1) := by decide +kernel
theorem dX0_addTo_47 : decode cX0_addTo 47 = .ok (.if_icmp .ge 25, 3) := by decide +kernel
theorem dX0_addTo_50 : decode cX0_addTo 50 = .ok (.lload_n 3, 1) := by decide +kernel
theorem dX0_addTo_51 : decode cX0_addTo 51 = .ok (.ldc2_w 84, 3) := by decide +kernel
theorem dX0_addTo_54 : decode cX0_addTo 54 = .ok (.lmul, 1) := by decide +kernel
theorem dX0_addTo_55 : decode cX0_addTo 55 = .ok (.aload_n 0, 1) := by decide +kernel
theorem dX0_addTo_56 : decode cX0_addTo 56 = .ok (.iload 5, 2) := by decide +kernel
theorem dX0_addTo_58 : decode cX0_addTo 58 = .ok (.iload 6, 2) := by decide +kernel
theorem dX0_addTo_60 : decode cX0_addTo 60 = .ok (.invokevirtual 89, 3) := by decide +kernel
theorem dX0_addTo_63 : decode cX0_addTo 63 = .ok (.i2l, 1) := by decide +kernel
theorem dX0_addTo_64 : decode cX0_addTo 64 = .ok (.ladd, 1) := by decide +kernel
theorem dX0_addTo_65 : decode cX0_addTo 65 = .ok (.lstore_n 3, 1) := by decide +kernel
theorem dX0_addTo_66 : decode cX0_addTo 66 = .ok (.iinc 6 1, 3) := by decide +kernel
theorem dX0_addTo_69 : decode cX0_addTo 69 = .ok (.goto (-25), 3) := by decide +kernel
theorem dX0_addTo_72 : decode cX0_addTo 72 = .ok (.iinc 5 1, 3) := by decide +kernel
theorem dX0_addTo_75 : decode cX0_addTo 75 = .ok (.goto (-40), 3) := by decide +kernel
theorem dX0_addTo_78 : decode cX0_addTo 78 = .ok (.lload_n 3, 1) := by decide +kernel
theorem dX0_addTo_79 : decode cX0_addTo 79 = .ok (.lreturn, 1) := by decide +kernel
set_option maxRecDepth 20000 in
theorem ggX1_init_X2_init : GoodIn wsX1_init wsX2_init := goodIn_r _ [15, 16, 2, 3, 17, 18, 43, 44, 45] (by decide +kernel) (by decide +kernel)

