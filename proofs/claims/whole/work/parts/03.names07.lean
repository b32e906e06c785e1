theorem dX6_foresee_82 : decode cX6_foresee 82 = .ok (.iload_n 3, 1) := by decide +kernel
theorem dX6_foresee_83 : decode cX6_foresee 83 = .ok (.iconst 1, 1) := by decide +kernel
theorem dX6_foresee_84 : decode cX6_foresee 84 = .ok (.if_icmp .ne 14, 3) := by decide +kernel
theorem dX6_foresee_87 : decode cX6_foresee 87 = .ok (.aload_n 0, 1) := by decide +kernel
theorem dX6_foresee_88 : decode cX6_foresee 88 = .ok (.getfield 40, 3) := by decide +kernel
theorem dX6_foresee_91 : decode cX6_foresee 91 = .ok (.iload_n 1, 1) := by decide +kernel
theorem dX6_foresee_92 : decode cX6_foresee 92 = .ok (.invokevirtual 129, 3) := by decide +kernel
theorem dX6_foresee_95 : decode cX6_foresee 95 = .ok (.goto 29, 3) := by decide +kernel
theorem dX6_foresee_98 : decode cX6_foresee 98 = .ok (.aload_n 0, 1) := by decide +kernel
theorem dX6_foresee_99 : decode cX6_foresee 99 = .ok (.getfield 40, 3) := by decide +kernel
theorem dX6_foresee_102 : decode cX6_foresee 102 = .ok (.getfield 82, 3) := by decide +kernel
theorem dX6_foresee_105 : decode cX6_foresee 105 = .ok (.iload_n 1, 1) := by decide +kernel
theorem dX6_foresee_106 : decode cX6_foresee 106 = .ok (.iaload, 1) := by decide +kernel
theorem dX6_foresee_107 : decode cX6_foresee 107 = .ok (.iconst 1, 1) := by decide +kernel
theorem dX6_foresee_108 : decode cX6_foresee 108 = .ok (.if_icmp .ne 15, 3) := by decide +kernel
theorem dX6_foresee_111 : decode cX6_foresee 111 = .ok (.aload_n 0, 1) := by decide +kernel
theorem dX6_foresee_112 : decode cX6_foresee 112 = .ok (.getfield 40, 3) := by decide +kernel
theorem dX6_foresee_115 : decode cX6_foresee 115 = .ok (.getfield 114, 3) := by decide +kernel
theorem dX6_foresee_118 : decode cX6_foresee 118 = .ok (.iload_n 1, 1) := by decide +kernel
theorem dX6_foresee_119 : decode cX6_foresee 119 = .ok (.iaload, 1) := by decide +kernel
theorem dX6_foresee_120 : decode cX6_foresee 120 = .ok (.goto 4, 3) := by decide +kernel
theorem dX6_foresee_123 : decode cX6_foresee 123 = .ok (.iconst (-1), 1) := by decide +kernel
theorem dX6_foresee_124 : decode cX6_foresee 124 = .ok (.ireturn, 1) := by decide +kernel
set_option maxRecDepth 20000 in
theorem ggX6_full_X6_isCanoe : GoodIn wsX6_full wsX6_isCanoe := goodIn_r _ [9, 10, 11, 12, 8, 13, 100, 101, 102, 103, 104, 105, 106, 107, 108, 109, 110, 111, 112] (by decide +kernel) (by decide +kernel)
set_option maxRecDepth 20000 in
theorem gX6_full_X6_isCanoe : GoodIn wsX6_full (wsV RX6 75 RX6 yX6_isCanoe wsX6_isCanoe) := goodIn_app (goodIn_of _ (by decide +kernel)) ggX6_full_X6_isCanoe
set_option maxRecDepth 20000 in
theorem ggX6_full_X6_no : GoodIn wsX6_full wsX6_no := goodIn_r _ [17, 1, 100, 101, 102, 103, 104, 105, 106, 107, 108, 109, 110, 111, 112] (by decide +kernel) (by decide +kernel)
set_option maxRecDepth 20000 in
theorem gX6_full_X6_no : GoodIn wsX6_full (wsV RX6 65 RX6 yX6_no wsX6_no) := goodIn_app (goodIn_of _ (by decide +kernel)) ggX6_full_X6_no
set_option maxRecDepth 20000 in
theorem ggX6_full_X5_become : GoodIn wsX6_full wsX5_become := goodIn_r _ [22, 23, 24, 25, 26, 27, 28, 29, 30, 31, 32, 33, 34, 35, 36, 37, 38, 21, 39, 40, 41, 42, 43, 113, 114, 115, 116, 117, 118, 119, 120, 121, 122, 123, 124, 125, 126] (by decide +kernel) (by decide +kernel)
set_option maxRecDepth 20000 in
theorem gX6_full_X5_become : GoodIn wsX6_full (wsV RX6 163 RX5 yX5_become wsX5_become) := goodIn_app (goodIn_of _ (by decide +kernel)) ggX6_full_X5_become
set_option maxRecDepth 20000 in
theorem ggX6_full_X5_misses_ : GoodIn wsX6_full wsX5_misses_ := goodIn_r _ [47, 48, 49, 50, 21, 51, 52, 27, 53, 54, 55, 56, 113, 114, 115, 116, 117, 118, 119, 120, 121, 122, 123, 124, 125, 126, 100, 101, 102, 103, 104, 105, 106, 107, 108, 109, 110, 111, 112] (by decide +kernel) (by decide +kernel)
set_option maxRecDepth 20000 in
theorem gX6_full_X5_misses_ : GoodIn wsX6_full (wsV RX6 129 RX5 yX5_misses_ wsX5_misses_) := goodIn_app (goodIn_of _ (by decide +kernel)) ggX6_full_X5_misses_
set_option maxRecDepth 20000 in
theorem ggX6_full_X5_pass : GoodIn wsX6_full wsX5_pass := goodIn_r _ [60, 24, 52, 28, 31, 23, 61, 62, 63, 21, 64, 33, 65, 66, 67, 68, 29, 69, 70, 71, 72, 30, 73, 74, 75, 76, 77, 78, 79, 80, 81, 82, 83, 84, 85, 86, 87, 88, 32, 89, 90, 91, 92, 26, 27, 35, 34, 25, 48, 49, 50, 51, 53, 54, 55, 56, 93, 94, 95, 96, 97, 98, 99, 113, 114, 115, 116, 117, 118, 119, 120, 121, 122, 123, 124, 125, 126, 100, 101, 102, 103, 104, 105, 106, 107, 108, 109, 110, 111, 112] (by decide +kernel) (by decide +kernel)
set_option maxRecDepth 20000 in
theorem gX6_full_X5_pass : GoodIn wsX6_full (wsV RX6 61 RX5 yX5_pass wsX5_pass) := goodIn_app (goodIn_of _ (by decide +kernel)) ggX6_full_X5_pass
theorem dX6_full_0 : decode cX6_full 0 = .ok (.aload_n 0, 1) := by decide +kernel
theorem dX6_full_1 : decode cX6_full 1 = .ok (.iconst 0, 1) := by decide +kernel
theorem dX6_full_2 : decode cX6_full 2 = .ok (.putfield 47, 3) := by decide +kernel
theorem dX6_full_5 : decode cX6_full 5 = .ok (.aload_n 0, 1) := by decide +kernel
theorem dX6_full_6 : decode cX6_full 6 = .ok (.iload_n 1, 1) := by decide +kernel
theorem dX6_full_7 : decode cX6_full 7 = .ok (.invokevirtual 75, 3) := by decide +kernel
theorem dX6_full_10 : decode cX6_full 10 = .ok (.ifCond .ne 9, 3) := by decide +kernel
theorem dX6_full_13 : decode cX6_full 13 = .ok (.aload_n 0, 1) := by decide +kernel
theorem dX6_full_14 : decode cX6_full 14 = .ok (.iconst 1, 1) := by decide +kernel
theorem dX6_full_15 : decode cX6_full 15 = .ok (.invokevirtual 65, 3) := by decide +kernel
theorem dX6_full_18 : decode cX6_full 18 = .ok (.ireturn, 1) := by decide +kernel
theorem dX6_full_19 : decode cX6_full 19 = .ok (.aload_n 0, 1) := by decide +kernel
theorem dX6_full_20 : decode cX6_full 20 = .ok (.getfield 40, 3) := by decide +kernel
theorem dX6_full_23 : decode cX6_full 23 = .ok (.aload_n 0, 1) := by decide +kernel
theorem dX6_full_24 : decode cX6_full 24 = .ok (.getfield 36, 3) := by decide +kernel
theorem dX6_full_27 : decode cX6_full 27 = .ok (.invokevirtual 163, 3) := by decide +kernel
theorem dX6_full_30 : decode cX6_full 30 = .ok (.iconst 0, 1) := by decide +kernel
theorem dX6_full_31 : decode cX6_full 31 = .ok (.istore_n 2, 1) := by decide +kernel
theorem dX6_full_32 : decode cX6_full 32 = .ok (.iload_n 2, 1) := by decide +kernel
theorem dX6_full_33 : decode cX6_full 33 = .ok (.sipush 150, 3) := by decide +kernel
theorem dX6_full_36 : decode cX6_full 36 = .ok (.if_icmp .gt 34, 3) := by decide +kernel
theorem dX6_full_39 : decode cX6_full 39 = .ok (.aload_n 0, 1) := by decide +kernel
theorem dX6_full_40 : decode cX6_full 40 = .ok (.getfield 40, 3) := by decide +kernel
theorem dX6_full_43 : decode cX6_full 43 = .ok (.iload_n 1, 1) := by decide +kernel
theorem dX6_full_44 : decode cX6_full 44 = .ok (.invokevirtual 129, 3) := by decide +kernel
theorem dX6_full_47 : decode cX6_full 47 = .ok (.ifCond .ne 5, 3) := by decide +kernel
theorem dX6_full_50 : decode cX6_full 50 = .ok (.iload_n 2, 1) := by decide +kernel
theorem dX6_full_51 : decode cX6_full 51 = .ok (.ireturn, 1) := by decide +kernel
theorem dX6_full_52 : decode cX6_full 52 = .ok (.aload_n 0, 1) := by decide +kernel
theorem dX6_full_53 : decode cX6_full 53 = .ok (.getfield 40, 3) := by decide +kernel
theorem dX6_full_56 : decode cX6_full 56 = .ok (.aload_n 0, 1) := by decide +kernel
theorem dX6_full_57 : decode cX6_full 57 = .ok (.getfield 43, 3) := by decide +kernel
theorem dX6_full_60 : decode cX6_full 60 = .ok (.invokevirtual 61, 3) := by decide +kernel
theorem dX6_full_63 : decode cX6_full 63 = .ok (.pop, 1) := by decide +kernel
theorem dX6_full_64 : decode cX6_full 64 = .ok (.iinc 2 1, 3) := by decide +kernel
theorem dX6_full_67 : decode cX6_full 67 = .ok (.goto (-35), 3) := by decide +kernel
theorem dX6_full_70 : decode cX6_full 70 = .ok (.iconst (-1), 1) := by decide +kernel
theorem dX6_full_71 : decode cX6_full 71 = .ok (.ireturn, 1) := by decide +kernel
set_option maxRecDepth 20000 in
theorem ggX6_gone_X6_isCanoe : GoodIn wsX6_gone wsX6_isCanoe := goodIn_r _ [9, 10, 11, 12, 8, 13, 96, 97, 98, 99, 100, 101, 102, 103, 104, 105, 106, 107, 108] (by decide +kernel) (by decide +kernel)
set_option maxRecDepth 20000 in
theorem gX6_gone_X6_isCanoe : GoodIn wsX6_gone (wsV RX6 75 RX6 yX6_isCanoe wsX6_isCanoe) := goodIn_app (goodIn_of _ (by decide +kernel)) ggX6_gone_X6_isCanoe
set_option maxRecDepth 20000 in
theorem ggX6_gone_X6_no : GoodIn wsX6_gone wsX6_no := goodIn_r _ [17, 1, 96, 97, 98, 99, 100, 101, 102, 103, 104, 105, 106, 107, 108] (by decide +kernel) (by decide +kernel)
set_option maxRecDepth 20000 in
theorem gX6_gone_X6_no : GoodIn wsX6_gone (wsV RX6 65 RX6 yX6_no wsX6_no) := goodIn_app (goodIn_of _ (by decide +kernel)) ggX6_gone_X6_no
set_option maxRecDepth 20000 in
theorem ggX6_gone_X5_become : GoodIn wsX6_gone wsX5_become := goodIn_r _ [22, 23, 24, 25, 26, 27, 28, 29, 30, 31, 32, 33, 34, 35, 36, 37, 38, 21, 39, 40, 41, 42, 43, 109, 110, 111, 112, 113, 114, 115, 116, 117, 118, 119, 120, 121, 122] (by decide +kernel) (by decide +kernel)
set_option maxRecDepth 20000 in
theorem gX6_gone_X5_become : GoodIn wsX6_gone (wsV RX6 163 RX5 yX5_become wsX5_become) := goodIn_app (goodIn_of _ (by decide +kernel)) ggX6_gone_X5_become
set_option maxRecDepth 20000 in
theorem ggX6_gone_X5_pass : GoodIn wsX6_gone wsX5_pass := goodIn_r _ [47, 24, 48, 28, 31, 23, 49, 50, 51, 21, 52, 33, 53, 54, 55, 56, 29, 57, 58, 59, 60, 30, 61, 62, 63, 64, 65, 66, 67, 68, 69, 70, 71, 72, 73, 74, 75, 76, 32, 77, 78, 79, 80, 26, 27, 35, 34, 25, 81, 82, 83, 84, 85, 86, 87, 88, 89, 90, 91, 92, 93, 94, 95, 109, 110, 111, 112, 113, 114, 115, 116, 117, 118, 119, 120, 121, 122, 96, 97, 98, 99, 100, 101, 102, 103, 104, 105, 106, 107, 108] (by decide +kernel) (by decide +kernel)
set_option maxRecDepth 20000 in
theorem gX6_gone_X5_pass : GoodIn wsX6_gone (wsV RX6 61 RX5 yX5_pass wsX5_pass) := goodIn_app (goodIn_of _ (by decide +kernel)) ggX6_gone_X5_pass
theorem dX6_gone_0 : decode cX6_gone 0 = .ok (.aload_n 0, 1) := by decide +kernel
theorem dX6_gone_1 : decode cX6_gone 1 = .ok (.iconst 0, 1) := by decide +kernel
theorem dX6_gone_2 : decode cX6_gone 2 = .ok (.putfield 47, 3) := by decide +kernel
theorem dX6_gone_5 : decode cX6_gone 5 = .ok (.aload_n 0, 1) := by decide +kernel
theorem dX6_gone_6 : decode cX6_gone 6 = .ok (.iload_n 1, 1) := by decide +kernel
theorem dX6_gone_7 : decode cX6_gone 7 = .ok (.invokevirtual 75, 3) := by decide +kernel
theorem dX6_gone_10 : decode cX6_gone 10 = .ok (.ifCond .ne 9, 3) := by decide +kernel
theorem dX6_gone_13 : decode cX6_gone 13 = .ok (.aload_n 0, 1) := by decide +kernel
theorem dX6_gone_14 : decode cX6_gone 14 = .ok (.iconst 1, 1) := by decide +kernel
theorem dX6_gone_15 : decode cX6_gone 15 = .ok (.invokevirtual 65, 3) := by decide +kernel
theorem dX6_gone_18 : decode cX6_gone 18 = .ok (.ireturn, 1) := by decide +kernel
theorem dX6_gone_19 : decode cX6_gone 19 = .ok (.aload_n 0, 1) := by decide +kernel
theorem dX6_gone_20 : decode cX6_gone 20 = .ok (.getfield 40, 3) := by decide +kernel
theorem dX6_gone_23 : decode cX6_gone 23 = .ok (.aload_n 0, 1) := by decide +kernel
theorem dX6_gone_24 : decode cX6_gone 24 = .ok (.getfield 36, 3) := by decide +kernel
theorem dX6_gone_27 : decode cX6_gone 27 = .ok (.invokevirtual 163, 3) := by decide +kernel
theorem dX6_gone_30 : decode cX6_gone 30 = .ok (.iconst 0, 1) := by decide +kernel
theorem dX6_gone_31 : decode cX6_gone 31 = .ok (.istore_n 2, 1) := by decide +kernel
theorem dX6_gone_32 : decode cX6_gone 32 = .ok (.iload_n 2, 1) := by decide +kernel
theorem dX6_gone_33 : decode cX6_gone 33 = .ok (.sipush 150, 3) := by decide +kernel
theorem dX6_gone_36 : decode cX6_gone 36 = .ok (.if_icmp .gt 36, 3) := by decide +kernel
theorem dX6_gone_39 : decode cX6_gone 39 = .ok (.aload_n 0, 1) := by decide +kernel
theorem dX6_gone_40 : decode cX6_gone 40 = .ok (.getfield 40, 3) := by decide +kernel
theorem dX6_gone_43 : decode cX6_gone 43 = .ok (.getfield 82, 3) := by decide +kernel
theorem dX6_gone_46 : decode cX6_gone 46 = .ok (.iload_n 1, 1) := by decide +kernel
theorem dX6_gone_47 : decode cX6_gone 47 = .ok (.iaload, 1) := by decide +kernel
theorem dX6_gone_48 : decode cX6_gone 48 = .ok (.iconst 2, 1) := by decide +kernel
theorem dX6_gone_49 : decode cX6_gone 49 = .ok (.if_icmp .ne 5, 3) := by decide +kernel
theorem dX6_gone_52 : decode cX6_gone 52 = .ok (.iload_n 2, 1) := by decide +kernel
theorem dX6_gone_53 : decode cX6_gone 53 = .ok (.ireturn, 1) := by decide +kernel
theorem dX6_gone_54 : decode cX6_gone 54 = .ok (.aload_n 0, 1) := by decide +kernel
theorem dX6_gone_55 : decode cX6_gone 55 = .ok (.getfield 40, 3) := by decide +kernel
theorem dX6_gone_58 : decode cX6_gone 58 = .ok (.aload_n 0, 1) := by decide +kernel
theorem dX6_gone_59 : decode cX6_gone 59 = .ok (.getfield 43, 3) := by decide +kernel
theorem dX6_gone_62 : decode cX6_gone 62 = .ok (.invokevirtual 61, 3) := by decide +kernel
theorem dX6_gone_65 : decode cX6_gone 65 = .ok (.pop, 1) := by decide +kernel
theorem dX6_gone_66 : decode cX6_gone 66 = .ok (.iinc 2 1, 3) := by decide +kernel
theorem dX6_gone_69 : decode cX6_gone 69 = .ok (.goto (-37), 3) := by decide +kernel
theorem dX6_gone_72 : decode cX6_gone 72 = .ok (.iconst (-1), 1) := by decide +kernel
theorem dX6_gone_73 : decode cX6_gone 73 = .ok (.ireturn, 1) := by decide +kernel
set_option maxRecDepth 20000 in
theorem ggX6_advise_X6_isCanoe : GoodIn wsX6_advise wsX6_isCanoe := goodIn_r _ [9, 10, 11, 12, 8, 13, 103, 104, 105, 106, 107, 108, 109, 110, 111, 112, 113, 114, 115] (by decide +kernel) (by decide +kernel)
set_option maxRecDepth 20000 in
theorem gX6_advise_X6_isCanoe : GoodIn wsX6_advise (wsV RX6 75 RX6 yX6_isCanoe wsX6_isCanoe) := goodIn_app (goodIn_of _ (by decide +kernel)) ggX6_advise_X6_isCanoe
set_option maxRecDepth 20000 in
theorem ggX6_advise_X6_no : GoodIn wsX6_advise wsX6_no := goodIn_r _ [17, 1, 103, 104, 105, 106, 107, 108, 109, 110, 111, 112, 113, 114, 115] (by decide +kernel) (by decide +kernel)
set_option maxRecDepth 20000 in
theorem gX6_advise_X6_no : GoodIn wsX6_advise (wsV RX6 65 RX6 yX6_no wsX6_no) := goodIn_app (goodIn_of _ (by decide +kernel)) ggX6_advise_X6_no
set_option maxRecDepth 20000 in
theorem ggX6_advise_X6_isIn : GoodIn wsX6_advise wsX6_isIn := goodIn_r _ [13] (by decide +kernel) (by decide +kernel)
set_option maxRecDepth 20000 in
theorem gX6_advise_X6_isIn : GoodIn wsX6_advise (va_wsS RX6 54 yX6_isIn wsX6_isIn) := goodIn_app (goodIn_of _ (by decide +kernel)) ggX6_advise_X6_isIn
set_option maxRecDepth 20000 in
theorem ggX6_advise_X5_isFull : GoodIn wsX6_advise wsX5_isFull := goodIn_r _ [22, 23, 24, 25, 26, 21, 27, 28, 29, 116, 117, 118, 119, 120, 121, 122, 123, 124, 125, 126, 127, 128, 129, 103, 104, 105, 106, 107, 108, 109, 110, 111, 112, 113, 114, 115] (by decide +kernel) (by decide +kernel)
set_option maxRecDepth 20000 in
theorem gX6_advise_X5_isFull : GoodIn wsX6_advise (wsV RX6 95 RX5 yX5_isFull wsX5_isFull) := goodIn_app (goodIn_of _ (by decide +kernel)) ggX6_advise_X5_isFull
set_option maxRecDepth 20000 in
theorem ggX6_advise_X5_become : GoodIn wsX6_advise wsX5_become := goodIn_r _ [33, 34, 35, 36, 37, 38, 28, 29, 39, 40, 41, 42, 43, 44, 45, 46, 47, 21, 48, 49, 50, 51, 52, 116, 117, 118, 119, 120, 121, 122, 123, 124, 125, 126, 127, 128, 129] (by decide +kernel) (by decide +kernel)
set_option maxRecDepth 20000 in
theorem gX6_advise_X5_become : GoodIn wsX6_advise (wsV RX6 163 RX5 yX5_become wsX5_become) := goodIn_app (goodIn_of _ (by decide +kernel)) ggX6_advise_X5_become
set_option maxRecDepth 20000 in
theorem ggX6_advise_X5_moor : GoodIn wsX6_advise wsX5_moor := goodIn_r _ [56, 39, 29, 28, 24, 25, 26, 21, 27, 23, 116, 117, 118, 119, 120, 121, 122, 123, 124, 125, 126, 127, 128, 129, 103, 104, 105, 106, 107, 108, 109, 110, 111, 112, 113, 114, 115] (by decide +kernel) (by decide +kernel)
set_option maxRecDepth 20000 in
theorem gX6_advise_X5_moor : GoodIn wsX6_advise (wsV RX6 98 RX5 yX5_moor wsX5_moor) := goodIn_app (goodIn_of _ (by decide +kernel)) ggX6_advise_X5_moor
set_option maxRecDepth 20000 in
theorem ggX6_advise_X6_pass : GoodIn wsX6_advise wsX6_pass := goodIn_r _ [60, 61, 62, 63, 64, 21, 65, 35, 23, 28, 40, 34, 66, 67, 68, 69, 42, 24, 25, 26, 27, 29, 70, 71, 72, 73, 39, 74, 19, 20, 22, 75, 54, 55, 56, 76, 77, 78, 79, 80, 81, 82, 83, 41, 84, 85, 86, 87, 37, 38, 44, 43, 36, 88, 89, 90, 91, 92, 93, 94, 95, 96, 97, 98, 99, 100, 101, 102, 103, 104, 105, 106, 107, 108, 109, 110, 111, 112, 113, 114, 115, 116, 117, 118, 119, 120, 121, 122, 123, 124, 125, 126, 127, 128, 129] (by decide +kernel) (by decide +kernel)
set_option maxRecDepth 20000 in
theorem gX6_advise_X6_pass : GoodIn wsX6_advise (wsV RX6 144 RX6 yX6_pass wsX6_pass) := goodIn_app (goodIn_of _ (by decide +kernel)) ggX6_advise_X6_pass
theorem dX6_advise_0 : decode cX6_advise 0 = .ok (.aload_n 0, 1) := by decide +kernel
theorem dX6_advise_1 : decode cX6_advise 1 = .ok (.iconst 0, 1) := by decide +kernel
theorem dX6_advise_2 : decode cX6_advise 2 = .ok (.putfield 47, 3) := by decide +kernel
theorem dX6_advise_5 : decode cX6_advise 5 = .ok (.aload_n 0, 1) := by decide +kernel
theorem dX6_advise_6 : decode cX6_advise 6 = .ok (.iload_n 1, 1) := by decide +kernel
theorem dX6_advise_7 : decode cX6_advise 7 = .ok (.invokevirtual 75, 3) := by decide +kernel
theorem dX6_advise_10 : decode cX6_advise 10 = .ok (.ifCond .ne 9, 3) := by decide +kernel
theorem dX6_advise_13 : decode cX6_advise 13 = .ok (.aload_n 0, 1) := by decide +kernel
theorem dX6_advise_14 : decode cX6_advise 14 = .ok (.iconst 1, 1) := by decide +kernel
theorem dX6_advise_15 : decode cX6_advise 15 = .ok (.invokevirtual 65, 3) := by decide +kernel
theorem dX6_advise_18 : decode cX6_advise 18 = .ok (.ireturn, 1) := by decide +kernel
theorem dX6_advise_19 : decode cX6_advise 19 = .ok (.iload_n 2, 1) := by decide +kernel
theorem dX6_advise_20 : decode cX6_advise 20 = .ok (.iconst 1, 1) := by decide +kernel
theorem dX6_advise_21 : decode cX6_advise 21 = .ok (.bipush 60, 2) := by decide +kernel
theorem dX6_advise_23 : decode cX6_advise 23 = .ok (.invokestatic 54, 3) := by decide +kernel
theorem dX6_advise_26 : decode cX6_advise 26 = .ok (.ifCond .ne 9, 3) := by decide +kernel
theorem dX6_advise_29 : decode cX6_advise 29 = .ok (.aload_n 0, 1) := by decide +kernel
theorem dX6_advise_30 : decode cX6_advise 30 = .ok (.iconst 2, 1) := by decide +kernel
theorem dX6_advise_31 : decode cX6_advise 31 = .ok (.invokevirtual 65, 3) := by decide +kernel
theorem dX6_advise_34 : decode cX6_advise 34 = .ok (.ireturn, 1) := by decide +kernel
theorem dX6_advise_35 : decode cX6_advise 35 = .ok (.aload_n 0, 1) := by decide +kernel
theorem dX6_advise_36 : decode cX6_advise 36 = .ok (.getfield 36, 3) := by decide +kernel
theorem dX6_advise_39 : decode cX6_advise 39 = .ok (.getfield 82, 3) := by decide +kernel
theorem dX6_advise_42 : decode cX6_advise 42 = .ok (.iload_n 1, 1) := by decide +kernel
theorem dX6_advise_43 : decode cX6_advise 43 = .ok (.iaload, 1) := by decide +kernel
theorem dX6_advise_44 : decode cX6_advise 44 = .ok (.ifCond .eq 9, 3) := by decide +kernel
theorem dX6_advise_47 : decode cX6_advise 47 = .ok (.aload_n 0, 1) := by decide +kernel
theorem dX6_advise_48 : decode cX6_advise 48 = .ok (.iconst 3, 1) := by decide +kernel
theorem dX6_advise_49 : decode cX6_advise 49 = .ok (.invokevirtual 65, 3) := by decide +kernel
theorem dX6_advise_52 : decode cX6_advise 52 = .ok (.ireturn, 1) := by decide +kernel
theorem dX6_advise_53 : decode cX6_advise 53 = .ok (.iconst (-1), 1) := by decide +kernel
theorem dX6_advise_54 : decode cX6_advise 54 = .ok (.istore_n 3, 1) := by decide +kernel
theorem dX6_advise_55 : decode cX6_advise 55 = .ok (.iconst (-1), 1) := by decide +kernel
theorem dX6_advise_56 : decode cX6_advise 56 = .ok (.istore 4, 2) := by decide +kernel
theorem dX6_advise_58 : decode cX6_advise 58 = .ok (.iconst 0, 1) := by decide +kernel
theorem dX6_advise_59 : decode cX6_advise 59 = .ok (.istore 5, 2) := by decide +kernel
theorem dX6_advise_61 : decode cX6_advise 61 = .ok (.iload 5, 2) := by decide +kernel
theorem dX6_advise_63 : decode cX6_advise 63 = .ok (.aload_n 0, 1) := by decide +kernel
theorem dX6_advise_64 : decode cX6_advise 64 = .ok (.getfield 58, 3) := by decide +kernel
theorem dX6_advise_67 : decode cX6_advise 67 = .ok (.if_icmp .ge 86, 3) := by decide +kernel
theorem dX6_advise_70 : decode cX6_advise 70 = .ok (.aload_n 0, 1) := by decide +kernel
theorem dX6_advise_71 : decode cX6_advise 71 = .ok (.getfield 36, 3) := by decide +kernel
theorem dX6_advise_74 : decode cX6_advise 74 = .ok (.iload 5, 2) := by decide +kernel
theorem dX6_advise_76 : decode cX6_advise 76 = .ok (.invokevirtual 95, 3) := by decide +kernel
theorem dX6_advise_79 : decode cX6_advise 79 = .ok (.ifCond .eq 6, 3) := by decide +kernel
theorem dX6_advise_82 : decode cX6_advise 82 = .ok (.goto 65, 3) := by decide +kernel
theorem dX6_advise_85 : decode cX6_advise 85 = .ok (.aload_n 0, 1) := by decide +kernel
theorem dX6_advise_86 : decode cX6_advise 86 = .ok (.getfield 40, 3) := by decide +kernel
theorem dX6_advise_89 : decode cX6_advise 89 = .ok (.aload_n 0, 1) := by decide +kernel
theorem dX6_advise_90 : decode cX6_advise 90 = .ok (.getfield 36, 3) := by decide +kernel
theorem dX6_advise_93 : decode cX6_advise 93 = .ok (.invokevirtual 163, 3) := by decide +kernel
theorem dX6_advise_96 : decode cX6_advise 96 = .ok (.aload_n 0, 1) := by decide +kernel
theorem dX6_advise_97 : decode cX6_advise 97 = .ok (.getfield 40, 3) := by decide +kernel
theorem dX6_advise_100 : decode cX6_advise 100 = .ok (.iload_n 1, 1) := by decide +kernel
theorem dX6_advise_101 : decode cX6_advise 101 = .ok (.iload 5, 2) := by decide +kernel
theorem dX6_advise_103 : decode cX6_advise 103 = .ok (.invokevirtual 98, 3) := by decide +kernel
theorem dX6_advise_106 : decode cX6_advise 106 = .ok (.aload_n 0, 1) := by decide +kernel
theorem dX6_advise_107 : decode cX6_advise 107 = .ok (.aload_n 0, 1) := by decide +kernel
theorem dX6_advise_108 : decode cX6_advise 108 = .ok (.getfield 40, 3) := by decide +kernel
theorem dX6_advise_111 : decode cX6_advise 111 = .ok (.iload_n 2, 1) := by decide +kernel
theorem dX6_advise_112 : decode cX6_advise 112 = .ok (.invokevirtual 144, 3) := by decide +kernel
theorem dX6_advise_115 : decode cX6_advise 115 = .ok (.pop, 1) := by decide +kernel
theorem dX6_advise_116 : decode cX6_advise 116 = .ok (.aload_n 0, 1) := by decide +kernel
theorem dX6_advise_117 : decode cX6_advise 117 = .ok (.getfield 40, 3) := by decide +kernel
theorem dX6_advise_120 : decode cX6_advise 120 = .ok (.getfield 69, 3) := by decide +kernel
theorem dX6_advise_123 : decode cX6_advise 123 = .ok (.iload_n 1, 1) := by decide +kernel
theorem dX6_advise_124 : decode cX6_advise 124 = .ok (.iaload, 1) := by decide +kernel
theorem dX6_advise_125 : decode cX6_advise 125 = .ok (.iload 4, 2) := by decide +kernel
theorem dX6_advise_127 : decode cX6_advise 127 = .ok (.if_icmp .gt 6, 3) := by decide +kernel
theorem dX6_advise_130 : decode cX6_advise 130 = .ok (.goto 17, 3) := by decide +kernel
theorem dX6_advise_133 : decode cX6_advise 133 = .ok (.iload 5, 2) := by decide +kernel
theorem dX6_advise_135 : decode cX6_advise 135 = .ok (.istore_n 3, 1) := by decide +kernel
theorem dX6_advise_136 : decode cX6_advise 136 = .ok (.aload_n 0, 1) := by decide +kernel
theorem dX6_advise_137 : decode cX6_advise 137 = .ok (.getfield 40, 3) := by decide +kernel
theorem dX6_advise_140 : decode cX6_advise 140 = .ok (.getfield 69, 3) := by decide +kernel
theorem dX6_advise_143 : decode cX6_advise 143 = .ok (.iload_n 1, 1) := by decide +kernel
theorem dX6_advise_144 : decode cX6_advise 144 = .ok (.iaload, 1) := by decide +kernel
theorem dX6_advise_145 : decode cX6_advise 145 = .ok (.istore 4, 2) := by decide +kernel
theorem dX6_advise_147 : decode cX6_advise 147 = .ok (.iinc 5 1, 3) := by decide +kernel
theorem dX6_advise_150 : decode cX6_advise 150 = .ok (.goto (-89), 3) := by decide +kernel
theorem dX6_advise_153 : decode cX6_advise 153 = .ok (.iload_n 3, 1) := by decide +kernel
theorem dX6_advise_154 : decode cX6_advise 154 = .ok (.ireturn, 1) := by decide +kernel
set_option maxRecDepth 20000 in
theorem ggX6_price_X6_isCanoe : GoodIn wsX6_price wsX6_isCanoe := goodIn_r _ [9, 10, 11, 12, 8, 13, 104, 105, 106, 107, 108, 109, 110, 111, 112, 113, 114, 115, 116] (by decide +kernel) (by decide +kernel)
set_option maxRecDepth 20000 in
theorem gX6_price_X6_isCanoe : GoodIn wsX6_price (wsV RX6 75 RX6 yX6_isCanoe wsX6_isCanoe) := goodIn_app (goodIn_of _ (by decide +kernel)) ggX6_price_X6_isCanoe
set_option maxRecDepth 20000 in
theorem ggX6_price_X6_isGood : GoodIn wsX6_price wsX6_isGood := goodIn_r _ [16, 11, 12, 8, 13] (by decide +kernel) (by decide +kernel)
set_option maxRecDepth 20000 in
theorem gX6_price_X6_isGood : GoodIn wsX6_price (va_wsS RX6 79 yX6_isGood wsX6_isGood) := goodIn_app (goodIn_of _ (by decide +kernel)) ggX6_price_X6_isGood
set_option maxRecDepth 20000 in
theorem ggX6_price_X6_no : GoodIn wsX6_price wsX6_no := goodIn_r _ [20, 1, 104, 105, 106, 107, 108, 109, 110, 111, 112, 113, 114, 115, 116] (by decide +kernel) (by decide +kernel)
set_option maxRecDepth 20000 in
theorem gX6_price_X6_no : GoodIn wsX6_price (wsV RX6 65 RX6 yX6_no wsX6_no) := goodIn_app (goodIn_of _ (by decide +kernel)) ggX6_price_X6_no
set_option maxRecDepth 20000 in
theorem ggX6_price_X6_isIn : GoodIn wsX6_price wsX6_isIn := goodIn_r _ [13] (by decide +kernel) (by decide +kernel)
set_option maxRecDepth 20000 in
theorem gX6_price_X6_isIn : GoodIn wsX6_price (va_wsS RX6 54 yX6_isIn wsX6_isIn) := goodIn_app (goodIn_of _ (by decide +kernel)) ggX6_price_X6_isIn
set_option maxRecDepth 20000 in
theorem ggX6_price_X5_become : GoodIn wsX6_price wsX5_become := goodIn_r _ [25, 26, 27, 28, 29, 30, 31, 32, 33, 34, 35, 36, 37, 38, 39, 40, 41, 24, 42, 43, 44, 45, 46, 117, 118, 119, 120, 121, 122, 123, 124, 125, 126, 127, 128, 129, 130] (by decide +kernel) (by decide +kernel)
set_option maxRecDepth 20000 in
theorem gX6_price_X5_become : GoodIn wsX6_price (wsV RX6 163 RX5 yX5_become wsX5_become) := goodIn_app (goodIn_of _ (by decide +kernel)) ggX6_price_X5_become
set_option maxRecDepth 20000 in
theorem ggX6_price_X6_pass : GoodIn wsX6_price wsX6_pass := goodIn_r _ [50, 51, 52, 53, 54, 24, 55, 27, 56, 31, 34, 26, 57, 58, 59, 60, 36, 61, 62, 63, 64, 32, 65, 66, 67, 68, 33, 69, 70, 71, 72, 73, 74, 75, 76, 77, 78, 79, 80, 81, 82, 83, 84, 35, 85, 86, 87, 88, 29, 30, 38, 37, 28, 89, 90, 91, 92, 93, 94, 95, 96, 97, 98, 99, 100, 101, 102, 103, 104, 105, 106, 107, 108, 109, 110, 111, 112, 113, 114, 115, 116, 117, 118, 119, 120, 121, 122, 123, 124, 125, 126, 127, 128, 129, 130] (by decide +kernel) (by decide +kernel)
set_option maxRecDepth 20000 in
theorem gX6_price_X6_pass : GoodIn wsX6_price (wsV RX6 144 RX6 yX6_pass wsX6_pass) := goodIn_app (goodIn_of _ (by decide +kernel)) ggX6_price_X6_pass
theorem dX6_price_0 : decode cX6_price 0 = .ok (.aload_n 0, 1) := by decide +kernel
theorem dX6_price_1 : decode cX6_price 1 = .ok (.iconst 0, 1) := by decide +kernel
theorem dX6_price_2 : decode cX6_price 2 = .ok (.putfield 47, 3) := by decide +kernel
theorem dX6_price_5 : decode cX6_price 5 = .ok (.aload_n 0, 1) := by decide +kernel
theorem dX6_price_6 : decode cX6_price 6 = .ok (.iload_n 1, 1) := by decide +kernel
theorem dX6_price_7 : decode cX6_price 7 = .ok (.invokevirtual 75, 3) := by decide +kernel
theorem dX6_price_10 : decode cX6_price 10 = .ok (.ifCond .eq 10, 3) := by decide +kernel
theorem dX6_price_13 : decode cX6_price 13 = .ok (.iload_n 2, 1) := by decide +kernel
theorem dX6_price_14 : decode cX6_price 14 = .ok (.invokestatic 79, 3) := by decide +kernel
theorem dX6_price_17 : decode cX6_price 17 = .ok (.ifCond .ne 9, 3) := by decide +kernel
theorem dX6_price_20 : decode cX6_price 20 = .ok (.aload_n 0, 1) := by decide +kernel
theorem dX6_price_21 : decode cX6_price 21 = .ok (.iconst 1, 1) := by decide +kernel
theorem dX6_price_22 : decode cX6_price 22 = .ok (.invokevirtual 65, 3) := by decide +kernel
theorem dX6_price_25 : decode cX6_price 25 = .ok (.ireturn, 1) := by decide +kernel
theorem dX6_price_26 : decode cX6_price 26 = .ok (.iload_n 3, 1) := by decide +kernel
theorem dX6_price_27 : decode cX6_price 27 = .ok (.iconst 1, 1) := by decide +kernel
theorem dX6_price_28 : decode cX6_price 28 = .ok (.bipush 40, 2) := by decide +kernel
theorem dX6_price_30 : decode cX6_price 30 = .ok (.invokestatic 54, 3) := by decide +kernel
theorem dX6_price_33 : decode cX6_price 33 = .ok (.ifCond .ne 9, 3) := by decide +kernel
theorem dX6_price_36 : decode cX6_price 36 = .ok (.aload_n 0, 1) := by decide +kernel
theorem dX6_price_37 : decode cX6_price 37 = .ok (.iconst 2, 1) := by decide +kernel
theorem dX6_price_38 : decode cX6_price 38 = .ok (.invokevirtual 65, 3) := by decide +kernel
theorem dX6_price_41 : decode cX6_price 41 = .ok (.ireturn, 1) := by decide +kernel
theorem dX6_price_42 : decode cX6_price 42 = .ok (.iconst 4, 1) := by decide +kernel
theorem dX6_price_43 : decode cX6_price 43 = .ok (.iload_n 1, 1) := by decide +kernel
theorem dX6_price_44 : decode cX6_price 44 = .ok (.imul, 1) := by decide +kernel
theorem dX6_price_45 : decode cX6_price 45 = .ok (.iload_n 2, 1) := by decide +kernel
theorem dX6_price_46 : decode cX6_price 46 = .ok (.iadd, 1) := by decide +kernel
theorem dX6_price_47 : decode cX6_price 47 = .ok (.istore 4, 2) := by decide +kernel
theorem dX6_price_49 : decode cX6_price 49 = .ok (.aload_n 0, 1) := by decide +kernel
theorem dX6_price_50 : decode cX6_price 50 = .ok (.getfield 22, 3) := by decide +kernel
theorem dX6_price_53 : decode cX6_price 53 = .ok (.iload 4, 2) := by decide +kernel
theorem dX6_price_55 : decode cX6_price 55 = .ok (.iaload, 1) := by decide +kernel
theorem dX6_price_56 : decode cX6_price 56 = .ok (.istore 5, 2) := by decide +kernel
theorem dX6_price_58 : decode cX6_price 58 = .ok (.iconst (-1), 1) := by decide +kernel
theorem dX6_price_59 : decode cX6_price 59 = .ok (.istore 6, 2) := by decide +kernel
theorem dX6_price_61 : decode cX6_price 61 = .ok (.iconst (-1), 1) := by decide +kernel
theorem dX6_price_62 : decode cX6_price 62 = .ok (.istore 7, 2) := by decide +kernel
theorem dX6_price_64 : decode cX6_price 64 = .ok (.iconst 1, 1) := by decide +kernel
theorem dX6_price_65 : decode cX6_price 65 = .ok (.istore 8, 2) := by decide +kernel
theorem dX6_price_67 : decode cX6_price 67 = .ok (.iload 8, 2) := by decide +kernel
theorem dX6_price_69 : decode cX6_price 69 = .ok (.bipush 20, 2) := by decide +kernel
theorem dX6_price_71 : decode cX6_price 71 = .ok (.if_icmp .gt 78, 3) := by decide +kernel
theorem dX6_price_74 : decode cX6_price 74 = .ok (.aload_n 0, 1) := by decide +kernel
theorem dX6_price_75 : decode cX6_price 75 = .ok (.getfield 22, 3) := by decide +kernel
theorem dX6_price_78 : decode cX6_price 78 = .ok (.iload 4, 2) := by decide +kernel
theorem dX6_price_80 : decode cX6_price 80 = .ok (.iload 8, 2) := by decide +kernel
theorem dX6_price_82 : decode cX6_price 82 = .ok (.iastore, 1) := by decide +kernel
theorem dX6_price_83 : decode cX6_price 83 = .ok (.aload_n 0, 1) := by decide +kernel
theorem dX6_price_84 : decode cX6_price 84 = .ok (.getfield 40, 3) := by decide +kernel
theorem dX6_price_87 : decode cX6_price 87 = .ok (.aload_n 0, 1) := by decide +kernel
theorem dX6_price_88 : decode cX6_price 88 = .ok (.getfield 36, 3) := by decide +kernel
theorem dX6_price_91 : decode cX6_price 91 = .ok (.invokevirtual 163, 3) := by decide +kernel
theorem dX6_price_94 : decode cX6_price 94 = .ok (.aload_n 0, 1) := by decide +kernel
theorem dX6_price_95 : decode cX6_price 95 = .ok (.aload_n 0, 1) := by decide +kernel
theorem dX6_price_96 : decode cX6_price 96 = .ok (.getfield 40, 3) := by decide +kernel
theorem dX6_price_99 : decode cX6_price 99 = .ok (.iload_n 3, 1) := by decide +kernel
theorem dX6_price_100 : decode cX6_price 100 = .ok (.invokevirtual 144, 3) := by decide +kernel
theorem dX6_price_103 : decode cX6_price 103 = .ok (.pop, 1) := by decide +kernel
theorem dX6_price_104 : decode cX6_price 104 = .ok (.aload_n 0, 1) := by decide +kernel
theorem dX6_price_105 : decode cX6_price 105 = .ok (.getfield 40, 3) := by decide +kernel
theorem dX6_price_108 : decode cX6_price 108 = .ok (.getfield 123, 3) := by decide +kernel
theorem dX6_price_111 : decode cX6_price 111 = .ok (.iload_n 1, 1) := by decide +kernel
theorem dX6_price_112 : decode cX6_price 112 = .ok (.iaload, 1) := by decide +kernel
theorem dX6_price_113 : decode cX6_price 113 = .ok (.aload_n 0, 1) := by decide +kernel
theorem dX6_price_114 : decode cX6_price 114 = .ok (.getfield 36, 3) := by decide +kernel
theorem dX6_price_117 : decode cX6_price 117 = .ok (.getfield 123, 3) := by decide +kernel
theorem dX6_price_120 : decode cX6_price 120 = .ok (.iload_n 1, 1) := by decide +kernel
theorem dX6_price_121 : decode cX6_price 121 = .ok (.iaload, 1) := by decide +kernel
theorem dX6_price_122 : decode cX6_price 122 = .ok (.isub, 1) := by decide +kernel
theorem dX6_price_123 : decode cX6_price 123 = .ok (.istore 9, 2) := by decide +kernel
theorem dX6_price_125 : decode cX6_price 125 = .ok (.iload 9, 2) := by decide +kernel
theorem dX6_price_127 : decode cX6_price 127 = .ok (.iload 7, 2) := by decide +kernel
theorem dX6_price_129 : decode cX6_price 129 = .ok (.if_icmp .gt 6, 3) := by decide +kernel
theorem dX6_price_132 : decode cX6_price 132 = .ok (.goto 11, 3) := by decide +kernel
theorem dX6_price_135 : decode cX6_price 135 = .ok (.iload 8, 2) := by decide +kernel
theorem dX6_price_137 : decode cX6_price 137 = .ok (.istore 6, 2) := by decide +kernel
theorem dX6_price_139 : decode cX6_price 139 = .ok (.iload 9, 2) := by decide +kernel
theorem dX6_price_141 : decode cX6_price 141 = .ok (.istore 7, 2) := by decide +kernel
theorem dX6_price_143 : decode cX6_price 143 = .ok (.iinc 8 1, 3) := by decide +kernel
theorem dX6_price_146 : decode cX6_price 146 = .ok (.goto (-79), 3) := by decide +kernel
theorem dX6_price_149 : decode cX6_price 149 = .ok (.aload_n 0, 1) := by decide +kernel
theorem dX6_price_150 : decode cX6_price 150 = .ok (.getfield 22, 3) := by decide +kernel
theorem dX6_price_153 : decode cX6_price 153 = .ok (.iload 4, 2) := by decide +kernel
theorem dX6_price_155 : decode cX6_price 155 = .ok (.iload 5, 2) := by decide +kernel
theorem dX6_price_157 : decode cX6_price 157 = .ok (.iastore, 1) := by decide +kernel
theorem dX6_price_158 : decode cX6_price 158 = .ok (.iload 6, 2) := by decide +kernel
theorem dX6_price_160 : decode cX6_price 160 = .ok (.ireturn, 1) := by decide +kernel
theorem dX6_mean_0 : decode cX6_mean 0 = .ok (.aload_n 0, 1) := by decide +kernel
theorem dX6_mean_1 : decode cX6_mean 1 = .ok (.iconst 0, 1) := by decide +kernel
theorem dX6_mean_2 : decode cX6_mean 2 = .ok (.putfield 47, 3) := by decide +kernel
theorem dX6_mean_5 : decode cX6_mean 5 = .ok (.aload_n 0, 1) := by decide +kernel
theorem dX6_mean_6 : decode cX6_mean 6 = .ok (.getfield 36, 3) := by decide +kernel
theorem dX6_mean_9 : decode cX6_mean 9 = .ok (.getfield 154, 3) := by decide +kernel
theorem dX6_mean_12 : decode cX6_mean 12 = .ok (.ifCond .ne 7, 3) := by decide +kernel
theorem dX6_mean_15 : decode cX6_mean 15 = .ok (.dconst 0, 1) := by decide +kernel
theorem dX6_mean_16 : decode cX6_mean 16 = .ok (.goto 20, 3) := by decide +kernel
theorem dX6_mean_19 : decode cX6_mean 19 = .ok (.aload_n 0, 1) := by decide +kernel
theorem dX6_mean_20 : decode cX6_mean 20 = .ok (.getfield 36, 3) := by decide +kernel
theorem dX6_mean_23 : decode cX6_mean 23 = .ok (.getfield 157, 3) := by decide +kernel
theorem dX6_mean_26 : decode cX6_mean 26 = .ok (.i2d, 1) := by decide +kernel
theorem dX6_mean_27 : decode cX6_mean 27 = .ok (.aload_n 0, 1) := by decide +kernel
theorem dX6_mean_28 : decode cX6_mean 28 = .ok (.getfield 36, 3) := by decide +kernel
theorem dX6_mean_31 : decode cX6_mean 31 = .ok (.getfield 154, 3) := by decide +kernel
theorem dX6_mean_34 : decode cX6_mean 34 = .ok (.i2d, 1) := by decide +kernel
theorem dX6_mean_35 : decode cX6_mean 35 = .ok (.ddiv, 1) := by decide +kernel
theorem dX6_mean_36 : decode cX6_mean 36 = .ok (.dreturn, 1) := by decide +kernel
set_option maxRecDepth 20000 in
theorem ggX6_digest_X6_counted : GoodIn wsX6_digest wsX6_counted := goodIn_r _ [14, 9, 8, 15, 6, 16, 17, 18, 19, 20, 21, 22, 23, 24, 25, 26, 27, 28, 29, 30, 31, 32, 63, 64, 65, 66, 67, 68, 69, 70, 71, 72, 73, 74, 75, 76, 77, 78, 79, 80, 81, 82, 83, 84, 85, 86, 87, 88, 89] (by decide +kernel) (by decide +kernel)
set_option maxRecDepth 20000 in
theorem gX6_digest_X6_counted : GoodIn wsX6_digest (wsV RX6 160 RX6 yX6_counted wsX6_counted) := goodIn_app (goodIn_of _ (by decide +kernel)) ggX6_digest_X6_counted
set_option maxRecDepth 20000 in
theorem ggX6_digest_X5_at : GoodIn wsX6_digest wsX5_at := goodIn_r _ [36, 22, 28, 37, 21, 76, 77, 78, 79, 80, 81, 82, 83, 84, 85, 86, 87, 88, 89, 63, 64, 65, 66, 67, 68, 69, 70, 71, 72, 73, 74, 75] (by decide +kernel) (by decide +kernel)
set_option maxRecDepth 20000 in
theorem gX6_digest_X5_at : GoodIn wsX6_digest (wsV RX6 137 RX5 yX5_at wsX5_at) := goodIn_app (goodIn_of _ (by decide +kernel)) ggX6_digest_X5_at
set_option maxRecDepth 20000 in
theorem ggX6_digest_X6_canoeTold : GoodIn wsX6_digest wsX6_canoeTold := goodIn_r _ [41, 8, 15, 42, 43, 44, 45, 19, 46, 47, 48, 49, 50, 22, 51, 52, 53, 54, 55, 63, 64, 65, 66, 67, 68, 69, 70, 71, 72, 73, 74, 75, 76, 77, 78, 79, 80, 81, 82, 83, 84, 85, 86, 87, 88, 89] (by decide +kernel) (by decide +kernel)
set_option maxRecDepth 20000 in
theorem gX6_digest_X6_canoeTold : GoodIn wsX6_digest (wsV RX6 131 RX6 yX6_canoeTold wsX6_canoeTold) := goodIn_app (goodIn_of _ (by decide +kernel)) ggX6_digest_X6_canoeTold
set_option maxRecDepth 20000 in
theorem ggX6_digest_X6_goodTold : GoodIn wsX6_digest wsX6_goodTold := goodIn_r _ [59, 8, 60, 61, 62, 63, 64, 65, 66, 67, 68, 69, 70, 71, 72, 73, 74, 75, 76, 77, 78, 79, 80, 81, 82, 83, 84, 85, 86, 87, 88, 89] (by decide +kernel) (by decide +kernel)
set_option maxRecDepth 20000 in
theorem gX6_digest_X6_goodTold : GoodIn wsX6_digest (wsV RX6 134 RX6 yX6_goodTold wsX6_goodTold) := goodIn_app (goodIn_of _ (by decide +kernel)) ggX6_digest_X6_goodTold
theorem dX6_digest_0 : decode cX6_digest 0 = .ok (.aload_n 0, 1) := by decide +kernel
theorem dX6_digest_1 : decode cX6_digest 1 = .ok (.iconst 0, 1) := by decide +kernel
theorem dX6_digest_2 : decode cX6_digest 2 = .ok (.putfield 47, 3) := by decide +kernel
theorem dX6_digest_5 : decode cX6_digest 5 = .ok (.ldc2_w 167, 3) := by decide +kernel
theorem dX6_digest_8 : decode cX6_digest 8 = .ok (.lstore_n 1, 1) := by decide +kernel
theorem dX6_digest_9 : decode cX6_digest 9 = .ok (.iconst 0, 1) := by decide +kernel
theorem dX6_digest_10 : decode cX6_digest 10 = .ok (.istore_n 3, 1) := by decide +kernel
theorem dX6_digest_11 : decode cX6_digest 11 = .ok (.iload_n 3, 1) := by decide +kernel
theorem dX6_digest_12 : decode cX6_digest 12 = .ok (.bipush 12, 2) := by decide +kernel
theorem dX6_digest_14 : decode cX6_digest 14 = .ok (.if_icmp .ge 22, 3) := by decide +kernel
theorem dX6_digest_17 : decode cX6_digest 17 = .ok (.lload_n 1, 1) := by decide +kernel
theorem dX6_digest_18 : decode cX6_digest 18 = .ok (.ldc2_w 169, 3) := by decide +kernel
theorem dX6_digest_21 : decode cX6_digest 21 = .ok (.lmul, 1) := by decide +kernel
theorem dX6_digest_22 : decode cX6_digest 22 = .ok (.aload_n 0, 1) := by decide +kernel
theorem dX6_digest_23 : decode cX6_digest 23 = .ok (.iload_n 3, 1) := by decide +kernel
theorem dX6_digest_24 : decode cX6_digest 24 = .ok (.invokevirtual 160, 3) := by decide +kernel
theorem dX6_digest_27 : decode cX6_digest 27 = .ok (.i2l, 1) := by decide +kernel
theorem dX6_digest_28 : decode cX6_digest 28 = .ok (.ladd, 1) := by decide +kernel
theorem dX6_digest_29 : decode cX6_digest 29 = .ok (.lstore_n 1, 1) := by decide +kernel
theorem dX6_digest_30 : decode cX6_digest 30 = .ok (.iinc 3 1, 3) := by decide +kernel
theorem dX6_digest_33 : decode cX6_digest 33 = .ok (.goto (-22), 3) := by decide +kernel
theorem dX6_digest_36 : decode cX6_digest 36 = .ok (.iconst 0, 1) := by decide +kernel
theorem dX6_digest_37 : decode cX6_digest 37 = .ok (.istore_n 3, 1) := by decide +kernel
theorem dX6_digest_38 : decode cX6_digest 38 = .ok (.iload_n 3, 1) := by decide +kernel
theorem dX6_digest_39 : decode cX6_digest 39 = .ok (.bipush 24, 2) := by decide +kernel
theorem dX6_digest_41 : decode cX6_digest 41 = .ok (.if_icmp .ge 34, 3) := by decide +kernel
theorem dX6_digest_44 : decode cX6_digest 44 = .ok (.lload_n 1, 1) := by decide +kernel
theorem dX6_digest_45 : decode cX6_digest 45 = .ok (.ldc2_w 169, 3) := by decide +kernel
theorem dX6_digest_48 : decode cX6_digest 48 = .ok (.lmul, 1) := by decide +kernel
theorem dX6_digest_49 : decode cX6_digest 49 = .ok (.bipush 10, 2) := by decide +kernel
theorem dX6_digest_51 : decode cX6_digest 51 = .ok (.aload_n 0, 1) := by decide +kernel
theorem dX6_digest_52 : decode cX6_digest 52 = .ok (.getfield 13, 3) := by decide +kernel
theorem dX6_digest_55 : decode cX6_digest 55 = .ok (.iload_n 3, 1) := by decide +kernel
theorem dX6_digest_56 : decode cX6_digest 56 = .ok (.iaload, 1) := by decide +kernel
theorem dX6_digest_57 : decode cX6_digest 57 = .ok (.imul, 1) := by decide +kernel
theorem dX6_digest_58 : decode cX6_digest 58 = .ok (.i2l, 1) := by decide +kernel
theorem dX6_digest_59 : decode cX6_digest 59 = .ok (.ladd, 1) := by decide +kernel
theorem dX6_digest_60 : decode cX6_digest 60 = .ok (.aload_n 0, 1) := by decide +kernel
theorem dX6_digest_61 : decode cX6_digest 61 = .ok (.getfield 16, 3) := by decide +kernel
theorem dX6_digest_64 : decode cX6_digest 64 = .ok (.iload_n 3, 1) := by decide +kernel
theorem dX6_digest_65 : decode cX6_digest 65 = .ok (.iaload, 1) := by decide +kernel
theorem dX6_digest_66 : decode cX6_digest 66 = .ok (.i2l, 1) := by decide +kernel
theorem dX6_digest_67 : decode cX6_digest 67 = .ok (.ladd, 1) := by decide +kernel
theorem dX6_digest_68 : decode cX6_digest 68 = .ok (.lstore_n 1, 1) := by decide +kernel
theorem dX6_digest_69 : decode cX6_digest 69 = .ok (.iinc 3 1, 3) := by decide +kernel
theorem dX6_digest_72 : decode cX6_digest 72 = .ok (.goto (-34), 3) := by decide +kernel
theorem dX6_digest_75 : decode cX6_digest 75 = .ok (.iconst 0, 1) := by decide +kernel
theorem dX6_digest_76 : decode cX6_digest 76 = .ok (.istore_n 3, 1) := by decide +kernel
theorem dX6_digest_77 : decode cX6_digest 77 = .ok (.iload_n 3, 1) := by decide +kernel
theorem dX6_digest_78 : decode cX6_digest 78 = .ok (.aload_n 0, 1) := by decide +kernel
theorem dX6_digest_79 : decode cX6_digest 79 = .ok (.getfield 58, 3) := by decide +kernel
theorem dX6_digest_82 : decode cX6_digest 82 = .ok (.if_icmp .ge 61, 3) := by decide +kernel
theorem dX6_digest_85 : decode cX6_digest 85 = .ok (.lload_n 1, 1) := by decide +kernel
theorem dX6_digest_86 : decode cX6_digest 86 = .ok (.ldc2_w 169, 3) := by decide +kernel
theorem dX6_digest_89 : decode cX6_digest 89 = .ok (.lmul, 1) := by decide +kernel
theorem dX6_digest_90 : decode cX6_digest 90 = .ok (.aload_n 0, 1) := by decide +kernel
theorem dX6_digest_91 : decode cX6_digest 91 = .ok (.getfield 9, 3) := by decide +kernel
theorem dX6_digest_94 : decode cX6_digest 94 = .ok (.iload_n 3, 1) := by decide +kernel
theorem dX6_digest_95 : decode cX6_digest 95 = .ok (.iaload, 1) := by decide +kernel
theorem dX6_digest_96 : decode cX6_digest 96 = .ok (.i2l, 1) := by decide +kernel
theorem dX6_digest_97 : decode cX6_digest 97 = .ok (.ladd, 1) := by decide +kernel
theorem dX6_digest_98 : decode cX6_digest 98 = .ok (.lstore_n 1, 1) := by decide +kernel
theorem dX6_digest_99 : decode cX6_digest 99 = .ok (.iconst 0, 1) := by decide +kernel
theorem dX6_digest_100 : decode cX6_digest 100 = .ok (.istore 4, 2) := by decide +kernel
theorem dX6_digest_102 : decode cX6_digest 102 = .ok (.iload 4, 2) := by decide +kernel
theorem dX6_digest_104 : decode cX6_digest 104 = .ok (.aload_n 0, 1) := by decide +kernel
theorem dX6_digest_105 : decode cX6_digest 105 = .ok (.getfield 9, 3) := by decide +kernel
theorem dX6_digest_108 : decode cX6_digest 108 = .ok (.iload_n 3, 1) := by decide +kernel
theorem dX6_digest_109 : decode cX6_digest 109 = .ok (.iaload, 1) := by decide +kernel
theorem dX6_digest_110 : decode cX6_digest 110 = .ok (.if_icmp .ge 27, 3) := by decide +kernel
theorem dX6_digest_113 : decode cX6_digest 113 = .ok (.lload_n 1, 1) := by decide +kernel
theorem dX6_digest_114 : decode cX6_digest 114 = .ok (.ldc2_w 169, 3) := by decide +kernel
theorem dX6_digest_117 : decode cX6_digest 117 = .ok (.lmul, 1) := by decide +kernel
theorem dX6_digest_118 : decode cX6_digest 118 = .ok (.aload_n 0, 1) := by decide +kernel
theorem dX6_digest_119 : decode cX6_digest 119 = .ok (.getfield 36, 3) := by decide +kernel
theorem dX6_digest_122 : decode cX6_digest 122 = .ok (.iload_n 3, 1) := by decide +kernel
theorem dX6_digest_123 : decode cX6_digest 123 = .ok (.iload 4, 2) := by decide +kernel
theorem dX6_digest_125 : decode cX6_digest 125 = .ok (.invokevirtual 137, 3) := by decide +kernel
theorem dX6_digest_128 : decode cX6_digest 128 = .ok (.i2l, 1) := by decide +kernel
theorem dX6_digest_129 : decode cX6_digest 129 = .ok (.ladd, 1) := by decide +kernel
theorem dX6_digest_130 : decode cX6_digest 130 = .ok (.lstore_n 1, 1) := by decide +kernel
theorem dX6_digest_131 : decode cX6_digest 131 = .ok (.iinc 4 1, 3) := by decide +kernel
theorem dX6_digest_134 : decode cX6_digest 134 = .ok (.goto (-32), 3) := by decide +kernel
theorem dX6_digest_137 : decode cX6_digest 137 = .ok (.iinc 3 1, 3) := by decide +kernel
theorem dX6_digest_140 : decode cX6_digest 140 = .ok (.goto (-63), 3) := by decide +kernel
theorem dX6_digest_143 : decode cX6_digest 143 = .ok (.iconst 0, 1) := by decide +kernel
theorem dX6_digest_144 : decode cX6_digest 144 = .ok (.istore_n 3, 1) := by decide +kernel
theorem dX6_digest_145 : decode cX6_digest 145 = .ok (.iload_n 3, 1) := by decide +kernel
theorem dX6_digest_146 : decode cX6_digest 146 = .ok (.aload_n 0, 1) := by decide +kernel
theorem dX6_digest_147 : decode cX6_digest 147 = .ok (.getfield 51, 3) := by decide +kernel
theorem dX6_digest_150 : decode cX6_digest 150 = .ok (.if_icmp .ge 80, 3) := by decide +kernel
theorem dX6_digest_153 : decode cX6_digest 153 = .ok (.iconst 0, 1) := by decide +kernel
theorem dX6_digest_154 : decode cX6_digest 154 = .ok (.istore 4, 2) := by decide +kernel
theorem dX6_digest_156 : decode cX6_digest 156 = .ok (.iload 4, 2) := by decide +kernel
theorem dX6_digest_158 : decode cX6_digest 158 = .ok (.bipush 11, 2) := by decide +kernel
theorem dX6_digest_160 : decode cX6_digest 160 = .ok (.if_icmp .ge 24, 3) := by decide +kernel
theorem dX6_digest_163 : decode cX6_digest 163 = .ok (.lload_n 1, 1) := by decide +kernel
theorem dX6_digest_164 : decode cX6_digest 164 = .ok (.ldc2_w 169, 3) := by decide +kernel
theorem dX6_digest_167 : decode cX6_digest 167 = .ok (.lmul, 1) := by decide +kernel
theorem dX6_digest_168 : decode cX6_digest 168 = .ok (.aload_n 0, 1) := by decide +kernel
theorem dX6_digest_169 : decode cX6_digest 169 = .ok (.iload_n 3, 1) := by decide +kernel
theorem dX6_digest_170 : decode cX6_digest 170 = .ok (.iload 4, 2) := by decide +kernel
theorem dX6_digest_172 : decode cX6_digest 172 = .ok (.invokevirtual 131, 3) := by decide +kernel
theorem dX6_digest_175 : decode cX6_digest 175 = .ok (.i2l, 1) := by decide +kernel
theorem dX6_digest_176 : decode cX6_digest 176 = .ok (.ladd, 1) := by decide +kernel
theorem dX6_digest_177 : decode cX6_digest 177 = .ok (.lstore_n 1, 1) := by decide +kernel
theorem dX6_digest_178 : decode cX6_digest 178 = .ok (.iinc 4 1, 3) := by decide +kernel
theorem dX6_digest_181 : decode cX6_digest 181 = .ok (.goto (-25), 3) := by decide +kernel
theorem dX6_digest_184 : decode cX6_digest 184 = .ok (.iconst 0, 1) := by decide +kernel
theorem dX6_digest_185 : decode cX6_digest 185 = .ok (.istore 4, 2) := by decide +kernel
theorem dX6_digest_187 : decode cX6_digest 187 = .ok (.iload 4, 2) := by decide +kernel
theorem dX6_digest_189 : decode cX6_digest 189 = .ok (.bipush 16, 2) := by decide +kernel
theorem dX6_digest_191 : decode cX6_digest 191 = .ok (.if_icmp .ge 33, 3) := by decide +kernel
theorem dX6_digest_194 : decode cX6_digest 194 = .ok (.lload_n 1, 1) := by decide +kernel
theorem dX6_digest_195 : decode cX6_digest 195 = .ok (.ldc2_w 169, 3) := by decide +kernel
theorem dX6_digest_198 : decode cX6_digest 198 = .ok (.lmul, 1) := by decide +kernel
theorem dX6_digest_199 : decode cX6_digest 199 = .ok (.aload_n 0, 1) := by decide +kernel
theorem dX6_digest_200 : decode cX6_digest 200 = .ok (.iconst 4, 1) := by decide +kernel
theorem dX6_digest_201 : decode cX6_digest 201 = .ok (.iload_n 3, 1) := by decide +kernel
theorem dX6_digest_202 : decode cX6_digest 202 = .ok (.imul, 1) := by decide +kernel
theorem dX6_digest_203 : decode cX6_digest 203 = .ok (.iload 4, 2) := by decide +kernel
theorem dX6_digest_205 : decode cX6_digest 205 = .ok (.iconst 4, 1) := by decide +kernel
theorem dX6_digest_206 : decode cX6_digest 206 = .ok (.idiv, 1) := by decide +kernel
theorem dX6_digest_207 : decode cX6_digest 207 = .ok (.iadd, 1) := by decide +kernel
theorem dX6_digest_208 : decode cX6_digest 208 = .ok (.iload 4, 2) := by decide +kernel
theorem dX6_digest_210 : decode cX6_digest 210 = .ok (.iconst 4, 1) := by decide +kernel
theorem dX6_digest_211 : decode cX6_digest 211 = .ok (.irem, 1) := by decide +kernel
theorem dX6_digest_212 : decode cX6_digest 212 = .ok (.invokevirtual 134, 3) := by decide +kernel
theorem dX6_digest_215 : decode cX6_digest 215 = .ok (.i2l, 1) := by decide +kernel
theorem dX6_digest_216 : decode cX6_digest 216 = .ok (.ladd, 1) := by decide +kernel
theorem dX6_digest_217 : decode cX6_digest 217 = .ok (.lstore_n 1, 1) := by decide +kernel
theorem dX6_digest_218 : decode cX6_digest 218 = .ok (.iinc 4 1, 3) := by decide +kernel
theorem dX6_digest_221 : decode cX6_digest 221 = .ok (.goto (-34), 3) := by decide +kernel
theorem dX6_digest_224 : decode cX6_digest 224 = .ok (.iinc 3 1, 3) := by decide +kernel
theorem dX6_digest_227 : decode cX6_digest 227 = .ok (.goto (-82), 3) := by decide +kernel
theorem dX6_digest_230 : decode cX6_digest 230 = .ok (.lload_n 1, 1) := by decide +kernel
theorem dX6_digest_231 : decode cX6_digest 231 = .ok (.lreturn, 1) := by decide +kernel
set_option maxRecDepth 20000 in
theorem ggL_addRow_X4_addRow : GoodIn wsL_addRow wsX4_addRow := goodIn_ca (goodIn_ca (goodIn_r _ [7, 8, 9, 10, 11, 6, 12, 13, 14, 15, 16, 17, 18, 19, 20, 21, 22, 23, 24, 25, 26, 27, 28, 29, 30, 31, 32, 33, 34, 35, 36, 37, 38, 39, 40, 41, 42, 43] (by decide +kernel) (by decide +kernel)) (goodIn_sub (fun _ h => List.mem_cons_of_mem _ (List.mem_append_left _ (List.mem_append_right _ h))) (by decide +kernel))) (goodIn_sub (fun _ h => List.mem_cons_of_mem _ (List.mem_append_right _ h)) (by decide +kernel))
set_option maxRecDepth 20000 in
theorem gL_addRow_X4_addRow : GoodIn wsL_addRow (wsV RL 7 RX4 yX4_addRow wsX4_addRow) := goodIn_app (goodIn_of _ (by decide +kernel)) ggL_addRow_X4_addRow
theorem dL_addRow_0 : decode cL_addRow 0 = .ok (.aload_n 2, 1) := by decide +kernel
theorem dL_addRow_1 : decode cL_addRow 1 = .ok (.iconst 0, 1) := by decide +kernel
theorem dL_addRow_2 : decode cL_addRow 2 = .ok (.aload_n 0, 1) := by decide +kernel
theorem dL_addRow_3 : decode cL_addRow 3 = .ok (.iload_n 1, 1) := by decide +kernel
theorem dL_addRow_4 : decode cL_addRow 4 = .ok (.invokevirtual 7, 3) := by decide +kernel
theorem dL_addRow_7 : decode cL_addRow 7 = .ok (.i2l, 1) := by decide +kernel
theorem dL_addRow_8 : decode cL_addRow 8 = .ok (.lastore, 1) := by decide +kernel
theorem dL_addRow_9 : decode cL_addRow 9 = .ok (.goto 9, 3) := by decide +kernel
theorem dL_addRow_12 : decode cL_addRow 12 = .ok (.astore_n 3, 1) := by decide +kernel
theorem dL_addRow_13 : decode cL_addRow 13 = .ok (.iconst 1, 1) := by decide +kernel
theorem dL_addRow_14 : decode cL_addRow 14 = .ok (.ireturn, 1) := by decide +kernel
theorem dL_addRow_15 : decode cL_addRow 15 = .ok (.astore_n 3, 1) := by decide +kernel
theorem dL_addRow_16 : decode cL_addRow 16 = .ok (.iconst 2, 1) := by decide +kernel
theorem dL_addRow_17 : decode cL_addRow 17 = .ok (.ireturn, 1) := by decide +kernel
theorem dL_addRow_18 : decode cL_addRow 18 = .ok (.iconst 0, 1) := by decide +kernel
theorem dL_addRow_19 : decode cL_addRow 19 = .ok (.ireturn, 1) := by decide +kernel
set_option maxRecDepth 20000 in
theorem ggL_setWater_X4_setWater : GoodIn wsL_setWater wsX4_setWater := goodIn_ca (goodIn_ca (goodIn_r _ [7, 8, 9, 10, 11, 12, 6, 13, 14, 15, 16, 17, 18, 19, 20, 21, 22, 23, 24, 25, 26, 27, 28, 29, 30, 31, 32, 33, 34, 35, 36, 37, 38, 39, 40, 41, 42, 43, 44] (by decide +kernel) (by decide +kernel)) (goodIn_sub (fun _ h => List.mem_cons_of_mem _ (List.mem_append_left _ (List.mem_append_right _ h))) (by decide +kernel))) (goodIn_sub (fun _ h => List.mem_cons_of_mem _ (List.mem_append_right _ h)) (by decide +kernel))
set_option maxRecDepth 20000 in
theorem gL_setWater_X4_setWater : GoodIn wsL_setWater (wsV RL 17 RX4 yX4_setWater wsX4_setWater) := goodIn_app (goodIn_of _ (by decide +kernel)) ggL_setWater_X4_setWater
theorem dL_setWater_0 : decode cL_setWater 0 = .ok (.aload 4, 2) := by decide +kernel
theorem dL_setWater_2 : decode cL_setWater 2 = .ok (.iconst 0, 1) := by decide +kernel
theorem dL_setWater_3 : decode cL_setWater 3 = .ok (.aload_n 0, 1) := by decide +kernel
theorem dL_setWater_4 : decode cL_setWater 4 = .ok (.iload_n 1, 1) := by decide +kernel
theorem dL_setWater_5 : decode cL_setWater 5 = .ok (.iload_n 2, 1) := by decide +kernel
theorem dL_setWater_6 : decode cL_setWater 6 = .ok (.iload_n 3, 1) := by decide +kernel
theorem dL_setWater_7 : decode cL_setWater 7 = .ok (.invokevirtual 17, 3) := by decide +kernel
theorem dL_setWater_10 : decode cL_setWater 10 = .ok (.i2l, 1) := by decide +kernel
theorem dL_setWater_11 : decode cL_setWater 11 = .ok (.lastore, 1) := by decide +kernel
theorem dL_setWater_12 : decode cL_setWater 12 = .ok (.goto 11, 3) := by decide +kernel
theorem dL_setWater_15 : decode cL_setWater 15 = .ok (.astore 5, 2) := by decide +kernel
theorem dL_setWater_17 : decode cL_setWater 17 = .ok (.iconst 1, 1) := by decide +kernel
theorem dL_setWater_18 : decode cL_setWater 18 = .ok (.ireturn, 1) := by decide +kernel
theorem dL_setWater_19 : decode cL_setWater 19 = .ok (.astore 5, 2) := by decide +kernel
theorem dL_setWater_21 : decode cL_setWater 21 = .ok (.iconst 2, 1) := by decide +kernel
theorem dL_setWater_22 : decode cL_setWater 22 = .ok (.ireturn, 1) := by decide +kernel
theorem dL_setWater_23 : decode cL_setWater 23 = .ok (.iconst 0, 1) := by decide +kernel
theorem dL_setWater_24 : decode cL_setWater 24 = .ok (.ireturn, 1) := by decide +kernel
set_option maxRecDepth 20000 in
theorem ggL_addCanoe_X4_addCanoe : GoodIn wsL_addCanoe wsX4_addCanoe := goodIn_ca (goodIn_ca (goodIn_r _ [7, 8, 9, 10, 11, 6, 12, 13, 14, 15, 16, 17, 18, 19, 20, 21, 22, 23, 24, 25, 26, 27, 28, 29, 30, 31, 32, 33, 34, 35, 36, 37, 38, 39, 40, 41, 42, 43, 44, 45, 46, 47, 48, 49, 50, 51, 52, 53, 54, 55, 56, 57] (by decide +kernel) (by decide +kernel)) (goodIn_sub (fun _ h => List.mem_cons_of_mem _ (List.mem_append_left _ (List.mem_append_right _ h))) (by decide +kernel))) (goodIn_sub (fun _ h => List.mem_cons_of_mem _ (List.mem_append_right _ h)) (by decide +kernel))
set_option maxRecDepth 20000 in
theorem gL_addCanoe_X4_addCanoe : GoodIn wsL_addCanoe (wsV RL 23 RX4 yX4_addCanoe wsX4_addCanoe) := goodIn_app (goodIn_of _ (by decide +kernel)) ggL_addCanoe_X4_addCanoe
theorem dL_addCanoe_0 : decode cL_addCanoe 0 = .ok (.aload_n 3, 1) := by decide +kernel
theorem dL_addCanoe_1 : decode cL_addCanoe 1 = .ok (.iconst 0, 1) := by decide +kernel
theorem dL_addCanoe_2 : decode cL_addCanoe 2 = .ok (.aload_n 0, 1) := by decide +kernel
theorem dL_addCanoe_3 : decode cL_addCanoe 3 = .ok (.iload_n 1, 1) := by decide +kernel
theorem dL_addCanoe_4 : decode cL_addCanoe 4 = .ok (.iload_n 2, 1) := by decide +kernel
theorem dL_addCanoe_5 : decode cL_addCanoe 5 = .ok (.invokevirtual 23, 3) := by decide +kernel
theorem dL_addCanoe_8 : decode cL_addCanoe 8 = .ok (.i2l, 1) := by decide +kernel
theorem dL_addCanoe_9 : decode cL_addCanoe 9 = .ok (.lastore, 1) := by decide +kernel
theorem dL_addCanoe_10 : decode cL_addCanoe 10 = .ok (.goto 11, 3) := by decide +kernel
theorem dL_addCanoe_13 : decode cL_addCanoe 13 = .ok (.astore 4, 2) := by decide +kernel
theorem dL_addCanoe_15 : decode cL_addCanoe 15 = .ok (.iconst 1, 1) := by decide +kernel
theorem dL_addCanoe_16 : decode cL_addCanoe 16 = .ok (.ireturn, 1) := by decide +kernel
theorem dL_addCanoe_17 : decode cL_addCanoe 17 = .ok (.astore 4, 2) := by decide +kernel
theorem dL_addCanoe_19 : decode cL_addCanoe 19 = .ok (.iconst 2, 1) := by decide +kernel
theorem dL_addCanoe_20 : decode cL_addCanoe 20 = .ok (.ireturn, 1) := by decide +kernel
theorem dL_addCanoe_21 : decode cL_addCanoe 21 = .ok (.iconst 0, 1) := by decide +kernel
theorem dL_addCanoe_22 : decode cL_addCanoe 22 = .ok (.ireturn, 1) := by decide +kernel
set_option maxRecDepth 20000 in
theorem ggL_load_X4_load : GoodIn wsL_load wsX4_load := goodIn_ca (goodIn_ca (goodIn_ca (goodIn_r _ [8, 9, 10, 11, 12, 13, 14, 15, 7, 16, 17, 18, 19, 20, 21, 22, 23, 24, 25, 26, 27, 28, 29, 30, 31, 32, 33, 34, 35, 36, 37, 38, 39, 40, 41, 42, 43, 44, 45, 46, 47, 48, 49, 50, 51, 52, 53, 54, 55, 56, 57] (by decide +kernel) (by decide +kernel)) (goodIn_sub (fun _ h => List.mem_cons_of_mem _ (List.mem_append_left _ (List.mem_append_left _ (List.mem_append_right _ h)))) (by decide +kernel))) (goodIn_sub (fun _ h => List.mem_cons_of_mem _ (List.mem_append_left _ (List.mem_append_right _ h))) (by decide +kernel))) (goodIn_sub (fun _ h => List.mem_cons_of_mem _ (List.mem_append_right _ h)) (by decide +kernel))
set_option maxRecDepth 20000 in
theorem gL_load_X4_load : GoodIn wsL_load (wsV RL 27 RX4 yX4_load wsX4_load) := goodIn_app (goodIn_of _ (by decide +kernel)) ggL_load_X4_load
theorem dL_load_0 : decode cL_load 0 = .ok (.aload 4, 2) := by decide +kernel
theorem dL_load_2 : decode cL_load 2 = .ok (.iconst 0, 1) := by decide +kernel
theorem dL_load_3 : decode cL_load 3 = .ok (.aload_n 0, 1) := by decide +kernel
theorem dL_load_4 : decode cL_load 4 = .ok (.iload_n 1, 1) := by decide +kernel
theorem dL_load_5 : decode cL_load 5 = .ok (.iload_n 2, 1) := by decide +kernel
theorem dL_load_6 : decode cL_load 6 = .ok (.iload_n 3, 1) := by decide +kernel
theorem dL_load_7 : decode cL_load 7 = .ok (.invokevirtual 27, 3) := by decide +kernel
theorem dL_load_10 : decode cL_load 10 = .ok (.i2l, 1) := by decide +kernel
theorem dL_load_11 : decode cL_load 11 = .ok (.lastore, 1) := by decide +kernel
theorem dL_load_12 : decode cL_load 12 = .ok (.goto 15, 3) := by decide +kernel
theorem dL_load_15 : decode cL_load 15 = .ok (.astore 5, 2) := by decide +kernel
theorem dL_load_17 : decode cL_load 17 = .ok (.iconst 1, 1) := by decide +kernel
theorem dL_load_18 : decode cL_load 18 = .ok (.ireturn, 1) := by decide +kernel
theorem dL_load_19 : decode cL_load 19 = .ok (.astore 5, 2) := by decide +kernel
theorem dL_load_21 : decode cL_load 21 = .ok (.iconst 2, 1) := by decide +kernel
theorem dL_load_22 : decode cL_load 22 = .ok (.ireturn, 1) := by decide +kernel
theorem dL_load_23 : decode cL_load 23 = .ok (.astore 5, 2) := by decide +kernel
theorem dL_load_25 : decode cL_load 25 = .ok (.iconst 3, 1) := by decide +kernel
theorem dL_load_26 : decode cL_load 26 = .ok (.ireturn, 1) := by decide +kernel
theorem dL_load_27 : decode cL_load 27 = .ok (.iconst 0, 1) := by decide +kernel
theorem dL_load_28 : decode cL_load 28 = .ok (.ireturn, 1) := by decide +kernel
set_option maxRecDepth 20000 in
theorem ggL_offer_X4_offer : GoodIn wsL_offer wsX4_offer := goodIn_ca (goodIn_ca (goodIn_r _ [7, 8, 9, 10, 11, 12, 13, 14, 15, 6, 16, 17, 18, 19, 20, 21, 22, 23, 24, 25, 26, 27, 28, 29, 30, 31, 32, 33, 34, 35, 36, 37, 38, 39, 40, 41, 42, 43, 44, 45, 46, 47, 48, 49, 50, 51, 52, 53, 54, 55, 56, 57, 58, 59, 60, 61, 62, 63] (by decide +kernel) (by decide +kernel)) (goodIn_sub (fun _ h => List.mem_cons_of_mem _ (List.mem_append_left _ (List.mem_append_right _ h))) (by decide +kernel))) (goodIn_sub (fun _ h => List.mem_cons_of_mem _ (List.mem_append_right _ h)) (by decide +kernel))
set_option maxRecDepth 20000 in
theorem gL_offer_X4_offer : GoodIn wsL_offer (wsV RL 30 RX4 yX4_offer wsX4_offer) := goodIn_app (goodIn_of _ (by decide +kernel)) ggL_offer_X4_offer
theorem dL_offer_0 : decode cL_offer 0 = .ok (.aload 6, 2) := by decide +kernel
theorem dL_offer_2 : decode cL_offer 2 = .ok (.iconst 0, 1) := by decide +kernel
theorem dL_offer_3 : decode cL_offer 3 = .ok (.aload_n 0, 1) := by decide +kernel
theorem dL_offer_4 : decode cL_offer 4 = .ok (.iload_n 1, 1) := by decide +kernel
theorem dL_offer_5 : decode cL_offer 5 = .ok (.iload_n 2, 1) := by decide +kernel
theorem dL_offer_6 : decode cL_offer 6 = .ok (.iload_n 3, 1) := by decide +kernel
theorem dL_offer_7 : decode cL_offer 7 = .ok (.iload 4, 2) := by decide +kernel
theorem dL_offer_9 : decode cL_offer 9 = .ok (.iload 5, 2) := by decide +kernel
