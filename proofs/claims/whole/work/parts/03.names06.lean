theorem dX6_castOff_59 : decode cX6_castOff 59 = .ok (.ireturn, 1) := by decide +kernel
set_option maxRecDepth 20000 in
theorem ggX6_leaveIn_X6_isCanoe : GoodIn wsX6_leaveIn wsX6_isCanoe := goodIn_r _ [7, 8, 9, 10, 6, 11, 16, 17, 18, 19, 20, 21, 22, 23, 24, 25, 26, 27, 28] (by decide +kernel) (by decide +kernel)
set_option maxRecDepth 20000 in
theorem gX6_leaveIn_X6_isCanoe : GoodIn wsX6_leaveIn (wsV RX6 75 RX6 yX6_isCanoe wsX6_isCanoe) := goodIn_app (goodIn_of _ (by decide +kernel)) ggX6_leaveIn_X6_isCanoe
set_option maxRecDepth 20000 in
theorem ggX6_leaveIn_X6_no : GoodIn wsX6_leaveIn wsX6_no := goodIn_r _ [15, 1, 16, 17, 18, 19, 20, 21, 22, 23, 24, 25, 26, 27, 28] (by decide +kernel) (by decide +kernel)
set_option maxRecDepth 20000 in
theorem gX6_leaveIn_X6_no : GoodIn wsX6_leaveIn (wsV RX6 65 RX6 yX6_no wsX6_no) := goodIn_app (goodIn_of _ (by decide +kernel)) ggX6_leaveIn_X6_no
theorem dX6_leaveIn_0 : decode cX6_leaveIn 0 = .ok (.aload_n 0, 1) := by decide +kernel
theorem dX6_leaveIn_1 : decode cX6_leaveIn 1 = .ok (.iconst 0, 1) := by decide +kernel
theorem dX6_leaveIn_2 : decode cX6_leaveIn 2 = .ok (.putfield 47, 3) := by decide +kernel
theorem dX6_leaveIn_5 : decode cX6_leaveIn 5 = .ok (.aload_n 0, 1) := by decide +kernel
theorem dX6_leaveIn_6 : decode cX6_leaveIn 6 = .ok (.iload_n 1, 1) := by decide +kernel
theorem dX6_leaveIn_7 : decode cX6_leaveIn 7 = .ok (.invokevirtual 75, 3) := by decide +kernel
theorem dX6_leaveIn_10 : decode cX6_leaveIn 10 = .ok (.ifCond .ne 9, 3) := by decide +kernel
theorem dX6_leaveIn_13 : decode cX6_leaveIn 13 = .ok (.aload_n 0, 1) := by decide +kernel
theorem dX6_leaveIn_14 : decode cX6_leaveIn 14 = .ok (.iconst 1, 1) := by decide +kernel
theorem dX6_leaveIn_15 : decode cX6_leaveIn 15 = .ok (.invokevirtual 65, 3) := by decide +kernel
theorem dX6_leaveIn_18 : decode cX6_leaveIn 18 = .ok (.ireturn, 1) := by decide +kernel
theorem dX6_leaveIn_19 : decode cX6_leaveIn 19 = .ok (.iload_n 2, 1) := by decide +kernel
theorem dX6_leaveIn_20 : decode cX6_leaveIn 20 = .ok (.iconst (-1), 1) := by decide +kernel
theorem dX6_leaveIn_21 : decode cX6_leaveIn 21 = .ok (.if_icmp .eq 20, 3) := by decide +kernel
theorem dX6_leaveIn_24 : decode cX6_leaveIn 24 = .ok (.iload_n 2, 1) := by decide +kernel
theorem dX6_leaveIn_25 : decode cX6_leaveIn 25 = .ok (.aload_n 0, 1) := by decide +kernel
theorem dX6_leaveIn_26 : decode cX6_leaveIn 26 = .ok (.getfield 36, 3) := by decide +kernel
theorem dX6_leaveIn_29 : decode cX6_leaveIn 29 = .ok (.getfield 111, 3) := by decide +kernel
theorem dX6_leaveIn_32 : decode cX6_leaveIn 32 = .ok (.if_icmp .ge 9, 3) := by decide +kernel
theorem dX6_leaveIn_35 : decode cX6_leaveIn 35 = .ok (.aload_n 0, 1) := by decide +kernel
theorem dX6_leaveIn_36 : decode cX6_leaveIn 36 = .ok (.iconst 2, 1) := by decide +kernel
theorem dX6_leaveIn_37 : decode cX6_leaveIn 37 = .ok (.invokevirtual 65, 3) := by decide +kernel
theorem dX6_leaveIn_40 : decode cX6_leaveIn 40 = .ok (.ireturn, 1) := by decide +kernel
theorem dX6_leaveIn_41 : decode cX6_leaveIn 41 = .ok (.aload_n 0, 1) := by decide +kernel
theorem dX6_leaveIn_42 : decode cX6_leaveIn 42 = .ok (.getfield 36, 3) := by decide +kernel
theorem dX6_leaveIn_45 : decode cX6_leaveIn 45 = .ok (.getfield 82, 3) := by decide +kernel
theorem dX6_leaveIn_48 : decode cX6_leaveIn 48 = .ok (.iload_n 1, 1) := by decide +kernel
theorem dX6_leaveIn_49 : decode cX6_leaveIn 49 = .ok (.iaload, 1) := by decide +kernel
theorem dX6_leaveIn_50 : decode cX6_leaveIn 50 = .ok (.iconst 2, 1) := by decide +kernel
theorem dX6_leaveIn_51 : decode cX6_leaveIn 51 = .ok (.if_icmp .ne 9, 3) := by decide +kernel
theorem dX6_leaveIn_54 : decode cX6_leaveIn 54 = .ok (.aload_n 0, 1) := by decide +kernel
theorem dX6_leaveIn_55 : decode cX6_leaveIn 55 = .ok (.iconst 3, 1) := by decide +kernel
theorem dX6_leaveIn_56 : decode cX6_leaveIn 56 = .ok (.invokevirtual 65, 3) := by decide +kernel
theorem dX6_leaveIn_59 : decode cX6_leaveIn 59 = .ok (.ireturn, 1) := by decide +kernel
theorem dX6_leaveIn_60 : decode cX6_leaveIn 60 = .ok (.aload_n 0, 1) := by decide +kernel
theorem dX6_leaveIn_61 : decode cX6_leaveIn 61 = .ok (.getfield 36, 3) := by decide +kernel
theorem dX6_leaveIn_64 : decode cX6_leaveIn 64 = .ok (.getfield 72, 3) := by decide +kernel
theorem dX6_leaveIn_67 : decode cX6_leaveIn 67 = .ok (.iload_n 1, 1) := by decide +kernel
theorem dX6_leaveIn_68 : decode cX6_leaveIn 68 = .ok (.iaload, 1) := by decide +kernel
theorem dX6_leaveIn_69 : decode cX6_leaveIn 69 = .ok (.istore_n 3, 1) := by decide +kernel
theorem dX6_leaveIn_70 : decode cX6_leaveIn 70 = .ok (.aload_n 0, 1) := by decide +kernel
theorem dX6_leaveIn_71 : decode cX6_leaveIn 71 = .ok (.getfield 36, 3) := by decide +kernel
theorem dX6_leaveIn_74 : decode cX6_leaveIn 74 = .ok (.getfield 72, 3) := by decide +kernel
theorem dX6_leaveIn_77 : decode cX6_leaveIn 77 = .ok (.iload_n 1, 1) := by decide +kernel
theorem dX6_leaveIn_78 : decode cX6_leaveIn 78 = .ok (.iload_n 2, 1) := by decide +kernel
theorem dX6_leaveIn_79 : decode cX6_leaveIn 79 = .ok (.iastore, 1) := by decide +kernel
theorem dX6_leaveIn_80 : decode cX6_leaveIn 80 = .ok (.iload_n 3, 1) := by decide +kernel
theorem dX6_leaveIn_81 : decode cX6_leaveIn 81 = .ok (.ireturn, 1) := by decide +kernel
set_option maxRecDepth 20000 in
theorem ggX6_canoeTold_X5_misses_ : GoodIn wsX6_canoeTold wsX5_misses_ := goodIn_r _ [8, 9, 10, 11, 7, 12, 13, 14, 15, 16, 17, 18, 32, 33, 34, 35, 36, 37, 38, 39, 40, 41, 42, 43, 44, 45, 19, 20, 21, 22, 23, 24, 25, 26, 27, 28, 29, 30, 31] (by decide +kernel) (by decide +kernel)
set_option maxRecDepth 20000 in
theorem gX6_canoeTold_X5_misses_ : GoodIn wsX6_canoeTold (wsV RX6 129 RX5 yX5_misses_ wsX5_misses_) := goodIn_app (goodIn_of _ (by decide +kernel)) ggX6_canoeTold_X5_misses_
theorem dX6_canoeTold_0 : decode cX6_canoeTold 0 = .ok (.aload_n 0, 1) := by decide +kernel
theorem dX6_canoeTold_1 : decode cX6_canoeTold 1 = .ok (.getfield 36, 3) := by decide +kernel
theorem dX6_canoeTold_4 : decode cX6_canoeTold 4 = .ok (.getfield 82, 3) := by decide +kernel
theorem dX6_canoeTold_7 : decode cX6_canoeTold 7 = .ok (.iload_n 1, 1) := by decide +kernel
theorem dX6_canoeTold_8 : decode cX6_canoeTold 8 = .ok (.iaload, 1) := by decide +kernel
theorem dX6_canoeTold_9 : decode cX6_canoeTold 9 = .ok (.iconst 1, 1) := by decide +kernel
theorem dX6_canoeTold_10 : decode cX6_canoeTold 10 = .ok (.if_icmp .ne 7, 3) := by decide +kernel
theorem dX6_canoeTold_13 : decode cX6_canoeTold 13 = .ok (.iconst 1, 1) := by decide +kernel
theorem dX6_canoeTold_14 : decode cX6_canoeTold 14 = .ok (.goto 4, 3) := by decide +kernel
theorem dX6_canoeTold_17 : decode cX6_canoeTold 17 = .ok (.iconst 0, 1) := by decide +kernel
theorem dX6_canoeTold_18 : decode cX6_canoeTold 18 = .ok (.istore_n 3, 1) := by decide +kernel
theorem dX6_canoeTold_19 : decode cX6_canoeTold 19 = .ok (.bipush 11, 2) := by decide +kernel
theorem dX6_canoeTold_21 : decode cX6_canoeTold 21 = .ok (.newarray .int, 2) := by decide +kernel
theorem dX6_canoeTold_23 : decode cX6_canoeTold 23 = .ok (.dup, 1) := by decide +kernel
theorem dX6_canoeTold_24 : decode cX6_canoeTold 24 = .ok (.iconst 0, 1) := by decide +kernel
theorem dX6_canoeTold_25 : decode cX6_canoeTold 25 = .ok (.aload_n 0, 1) := by decide +kernel
theorem dX6_canoeTold_26 : decode cX6_canoeTold 26 = .ok (.getfield 36, 3) := by decide +kernel
theorem dX6_canoeTold_29 : decode cX6_canoeTold 29 = .ok (.getfield 69, 3) := by decide +kernel
theorem dX6_canoeTold_32 : decode cX6_canoeTold 32 = .ok (.iload_n 1, 1) := by decide +kernel
theorem dX6_canoeTold_33 : decode cX6_canoeTold 33 = .ok (.iaload, 1) := by decide +kernel
theorem dX6_canoeTold_34 : decode cX6_canoeTold 34 = .ok (.iastore, 1) := by decide +kernel
theorem dX6_canoeTold_35 : decode cX6_canoeTold 35 = .ok (.dup, 1) := by decide +kernel
theorem dX6_canoeTold_36 : decode cX6_canoeTold 36 = .ok (.iconst 1, 1) := by decide +kernel
theorem dX6_canoeTold_37 : decode cX6_canoeTold 37 = .ok (.aload_n 0, 1) := by decide +kernel
theorem dX6_canoeTold_38 : decode cX6_canoeTold 38 = .ok (.getfield 19, 3) := by decide +kernel
theorem dX6_canoeTold_41 : decode cX6_canoeTold 41 = .ok (.iload_n 1, 1) := by decide +kernel
theorem dX6_canoeTold_42 : decode cX6_canoeTold 42 = .ok (.iaload, 1) := by decide +kernel
theorem dX6_canoeTold_43 : decode cX6_canoeTold 43 = .ok (.iastore, 1) := by decide +kernel
theorem dX6_canoeTold_44 : decode cX6_canoeTold 44 = .ok (.dup, 1) := by decide +kernel
theorem dX6_canoeTold_45 : decode cX6_canoeTold 45 = .ok (.iconst 2, 1) := by decide +kernel
theorem dX6_canoeTold_46 : decode cX6_canoeTold 46 = .ok (.aload_n 0, 1) := by decide +kernel
theorem dX6_canoeTold_47 : decode cX6_canoeTold 47 = .ok (.getfield 36, 3) := by decide +kernel
theorem dX6_canoeTold_50 : decode cX6_canoeTold 50 = .ok (.getfield 82, 3) := by decide +kernel
theorem dX6_canoeTold_53 : decode cX6_canoeTold 53 = .ok (.iload_n 1, 1) := by decide +kernel
theorem dX6_canoeTold_54 : decode cX6_canoeTold 54 = .ok (.iaload, 1) := by decide +kernel
theorem dX6_canoeTold_55 : decode cX6_canoeTold 55 = .ok (.iastore, 1) := by decide +kernel
theorem dX6_canoeTold_56 : decode cX6_canoeTold 56 = .ok (.dup, 1) := by decide +kernel
theorem dX6_canoeTold_57 : decode cX6_canoeTold 57 = .ok (.iconst 3, 1) := by decide +kernel
theorem dX6_canoeTold_58 : decode cX6_canoeTold 58 = .ok (.iload_n 3, 1) := by decide +kernel
theorem dX6_canoeTold_59 : decode cX6_canoeTold 59 = .ok (.ifCond .eq 15, 3) := by decide +kernel
theorem dX6_canoeTold_62 : decode cX6_canoeTold 62 = .ok (.aload_n 0, 1) := by decide +kernel
theorem dX6_canoeTold_63 : decode cX6_canoeTold 63 = .ok (.getfield 36, 3) := by decide +kernel
theorem dX6_canoeTold_66 : decode cX6_canoeTold 66 = .ok (.getfield 114, 3) := by decide +kernel
theorem dX6_canoeTold_69 : decode cX6_canoeTold 69 = .ok (.iload_n 1, 1) := by decide +kernel
theorem dX6_canoeTold_70 : decode cX6_canoeTold 70 = .ok (.iaload, 1) := by decide +kernel
theorem dX6_canoeTold_71 : decode cX6_canoeTold 71 = .ok (.goto 4, 3) := by decide +kernel
theorem dX6_canoeTold_74 : decode cX6_canoeTold 74 = .ok (.iconst (-1), 1) := by decide +kernel
theorem dX6_canoeTold_75 : decode cX6_canoeTold 75 = .ok (.iastore, 1) := by decide +kernel
theorem dX6_canoeTold_76 : decode cX6_canoeTold 76 = .ok (.dup, 1) := by decide +kernel
theorem dX6_canoeTold_77 : decode cX6_canoeTold 77 = .ok (.iconst 4, 1) := by decide +kernel
theorem dX6_canoeTold_78 : decode cX6_canoeTold 78 = .ok (.iload_n 3, 1) := by decide +kernel
theorem dX6_canoeTold_79 : decode cX6_canoeTold 79 = .ok (.ifCond .eq 15, 3) := by decide +kernel
theorem dX6_canoeTold_82 : decode cX6_canoeTold 82 = .ok (.aload_n 0, 1) := by decide +kernel
theorem dX6_canoeTold_83 : decode cX6_canoeTold 83 = .ok (.getfield 36, 3) := by decide +kernel
theorem dX6_canoeTold_86 : decode cX6_canoeTold 86 = .ok (.getfield 102, 3) := by decide +kernel
theorem dX6_canoeTold_89 : decode cX6_canoeTold 89 = .ok (.iload_n 1, 1) := by decide +kernel
theorem dX6_canoeTold_90 : decode cX6_canoeTold 90 = .ok (.iaload, 1) := by decide +kernel
theorem dX6_canoeTold_91 : decode cX6_canoeTold 91 = .ok (.goto 4, 3) := by decide +kernel
theorem dX6_canoeTold_94 : decode cX6_canoeTold 94 = .ok (.iconst (-1), 1) := by decide +kernel
theorem dX6_canoeTold_95 : decode cX6_canoeTold 95 = .ok (.iastore, 1) := by decide +kernel
theorem dX6_canoeTold_96 : decode cX6_canoeTold 96 = .ok (.dup, 1) := by decide +kernel
theorem dX6_canoeTold_97 : decode cX6_canoeTold 97 = .ok (.iconst 5, 1) := by decide +kernel
theorem dX6_canoeTold_98 : decode cX6_canoeTold 98 = .ok (.aload_n 0, 1) := by decide +kernel
theorem dX6_canoeTold_99 : decode cX6_canoeTold 99 = .ok (.getfield 36, 3) := by decide +kernel
theorem dX6_canoeTold_102 : decode cX6_canoeTold 102 = .ok (.getfield 72, 3) := by decide +kernel
theorem dX6_canoeTold_105 : decode cX6_canoeTold 105 = .ok (.iload_n 1, 1) := by decide +kernel
theorem dX6_canoeTold_106 : decode cX6_canoeTold 106 = .ok (.iaload, 1) := by decide +kernel
theorem dX6_canoeTold_107 : decode cX6_canoeTold 107 = .ok (.iastore, 1) := by decide +kernel
theorem dX6_canoeTold_108 : decode cX6_canoeTold 108 = .ok (.dup, 1) := by decide +kernel
theorem dX6_canoeTold_109 : decode cX6_canoeTold 109 = .ok (.bipush 6, 2) := by decide +kernel
theorem dX6_canoeTold_111 : decode cX6_canoeTold 111 = .ok (.aload_n 0, 1) := by decide +kernel
theorem dX6_canoeTold_112 : decode cX6_canoeTold 112 = .ok (.getfield 36, 3) := by decide +kernel
theorem dX6_canoeTold_115 : decode cX6_canoeTold 115 = .ok (.getfield 117, 3) := by decide +kernel
theorem dX6_canoeTold_118 : decode cX6_canoeTold 118 = .ok (.iload_n 1, 1) := by decide +kernel
theorem dX6_canoeTold_119 : decode cX6_canoeTold 119 = .ok (.iaload, 1) := by decide +kernel
theorem dX6_canoeTold_120 : decode cX6_canoeTold 120 = .ok (.iastore, 1) := by decide +kernel
theorem dX6_canoeTold_121 : decode cX6_canoeTold 121 = .ok (.dup, 1) := by decide +kernel
theorem dX6_canoeTold_122 : decode cX6_canoeTold 122 = .ok (.bipush 7, 2) := by decide +kernel
theorem dX6_canoeTold_124 : decode cX6_canoeTold 124 = .ok (.aload_n 0, 1) := by decide +kernel
theorem dX6_canoeTold_125 : decode cX6_canoeTold 125 = .ok (.getfield 36, 3) := by decide +kernel
theorem dX6_canoeTold_128 : decode cX6_canoeTold 128 = .ok (.getfield 120, 3) := by decide +kernel
theorem dX6_canoeTold_131 : decode cX6_canoeTold 131 = .ok (.iload_n 1, 1) := by decide +kernel
theorem dX6_canoeTold_132 : decode cX6_canoeTold 132 = .ok (.iaload, 1) := by decide +kernel
theorem dX6_canoeTold_133 : decode cX6_canoeTold 133 = .ok (.iastore, 1) := by decide +kernel
theorem dX6_canoeTold_134 : decode cX6_canoeTold 134 = .ok (.dup, 1) := by decide +kernel
theorem dX6_canoeTold_135 : decode cX6_canoeTold 135 = .ok (.bipush 8, 2) := by decide +kernel
theorem dX6_canoeTold_137 : decode cX6_canoeTold 137 = .ok (.aload_n 0, 1) := by decide +kernel
theorem dX6_canoeTold_138 : decode cX6_canoeTold 138 = .ok (.getfield 36, 3) := by decide +kernel
theorem dX6_canoeTold_141 : decode cX6_canoeTold 141 = .ok (.getfield 123, 3) := by decide +kernel
theorem dX6_canoeTold_144 : decode cX6_canoeTold 144 = .ok (.iload_n 1, 1) := by decide +kernel
theorem dX6_canoeTold_145 : decode cX6_canoeTold 145 = .ok (.iaload, 1) := by decide +kernel
theorem dX6_canoeTold_146 : decode cX6_canoeTold 146 = .ok (.iastore, 1) := by decide +kernel
theorem dX6_canoeTold_147 : decode cX6_canoeTold 147 = .ok (.dup, 1) := by decide +kernel
theorem dX6_canoeTold_148 : decode cX6_canoeTold 148 = .ok (.bipush 9, 2) := by decide +kernel
theorem dX6_canoeTold_150 : decode cX6_canoeTold 150 = .ok (.aload_n 0, 1) := by decide +kernel
theorem dX6_canoeTold_151 : decode cX6_canoeTold 151 = .ok (.getfield 36, 3) := by decide +kernel
theorem dX6_canoeTold_154 : decode cX6_canoeTold 154 = .ok (.getfield 126, 3) := by decide +kernel
theorem dX6_canoeTold_157 : decode cX6_canoeTold 157 = .ok (.iload_n 1, 1) := by decide +kernel
theorem dX6_canoeTold_158 : decode cX6_canoeTold 158 = .ok (.iaload, 1) := by decide +kernel
theorem dX6_canoeTold_159 : decode cX6_canoeTold 159 = .ok (.iastore, 1) := by decide +kernel
theorem dX6_canoeTold_160 : decode cX6_canoeTold 160 = .ok (.dup, 1) := by decide +kernel
theorem dX6_canoeTold_161 : decode cX6_canoeTold 161 = .ok (.bipush 10, 2) := by decide +kernel
theorem dX6_canoeTold_163 : decode cX6_canoeTold 163 = .ok (.aload_n 0, 1) := by decide +kernel
theorem dX6_canoeTold_164 : decode cX6_canoeTold 164 = .ok (.getfield 36, 3) := by decide +kernel
theorem dX6_canoeTold_167 : decode cX6_canoeTold 167 = .ok (.iload_n 1, 1) := by decide +kernel
theorem dX6_canoeTold_168 : decode cX6_canoeTold 168 = .ok (.invokevirtual 129, 3) := by decide +kernel
theorem dX6_canoeTold_171 : decode cX6_canoeTold 171 = .ok (.iastore, 1) := by decide +kernel
theorem dX6_canoeTold_172 : decode cX6_canoeTold 172 = .ok (.astore 4, 2) := by decide +kernel
theorem dX6_canoeTold_174 : decode cX6_canoeTold 174 = .ok (.aload 4, 2) := by decide +kernel
theorem dX6_canoeTold_176 : decode cX6_canoeTold 176 = .ok (.iload_n 2, 1) := by decide +kernel
theorem dX6_canoeTold_177 : decode cX6_canoeTold 177 = .ok (.iaload, 1) := by decide +kernel
theorem dX6_canoeTold_178 : decode cX6_canoeTold 178 = .ok (.ireturn, 1) := by decide +kernel
set_option maxRecDepth 20000 in
theorem ggX6_canoe_X6_isCanoe : GoodIn wsX6_canoe wsX6_isCanoe := goodIn_r _ [6, 7, 8, 9, 5, 10, 37, 38, 39, 40, 41, 42, 43, 44, 45, 46, 47, 48, 49] (by decide +kernel) (by decide +kernel)
set_option maxRecDepth 20000 in
theorem gX6_canoe_X6_isCanoe : GoodIn wsX6_canoe (wsV RX6 75 RX6 yX6_isCanoe wsX6_isCanoe) := goodIn_app (goodIn_of _ (by decide +kernel)) ggX6_canoe_X6_isCanoe
set_option maxRecDepth 20000 in
theorem ggX6_canoe_X6_isIn : GoodIn wsX6_canoe wsX6_isIn := goodIn_r _ [10] (by decide +kernel) (by decide +kernel)
set_option maxRecDepth 20000 in
theorem gX6_canoe_X6_isIn : GoodIn wsX6_canoe (va_wsS RX6 54 yX6_isIn wsX6_isIn) := goodIn_app (goodIn_of _ (by decide +kernel)) ggX6_canoe_X6_isIn
set_option maxRecDepth 20000 in
theorem ggX6_canoe_X6_canoeTold : GoodIn wsX6_canoe wsX6_canoeTold := goodIn_r _ [14, 15, 16, 17, 18, 19, 20, 21, 22, 23, 24, 25, 26, 27, 28, 29, 30, 31, 32, 37, 38, 39, 40, 41, 42, 43, 44, 45, 46, 47, 48, 49, 50, 51, 52, 53, 54, 55, 56, 57, 58, 59, 60, 61, 62, 63] (by decide +kernel) (by decide +kernel)
set_option maxRecDepth 20000 in
theorem gX6_canoe_X6_canoeTold : GoodIn wsX6_canoe (wsV RX6 131 RX6 yX6_canoeTold wsX6_canoeTold) := goodIn_app (goodIn_of _ (by decide +kernel)) ggX6_canoe_X6_canoeTold
set_option maxRecDepth 20000 in
theorem ggX6_canoe_X6_no : GoodIn wsX6_canoe wsX6_no := goodIn_r _ [36, 1, 37, 38, 39, 40, 41, 42, 43, 44, 45, 46, 47, 48, 49] (by decide +kernel) (by decide +kernel)
set_option maxRecDepth 20000 in
theorem gX6_canoe_X6_no : GoodIn wsX6_canoe (wsV RX6 65 RX6 yX6_no wsX6_no) := goodIn_app (goodIn_of _ (by decide +kernel)) ggX6_canoe_X6_no
theorem dX6_canoe_0 : decode cX6_canoe 0 = .ok (.aload_n 0, 1) := by decide +kernel
theorem dX6_canoe_1 : decode cX6_canoe 1 = .ok (.iconst 0, 1) := by decide +kernel
theorem dX6_canoe_2 : decode cX6_canoe 2 = .ok (.putfield 47, 3) := by decide +kernel
theorem dX6_canoe_5 : decode cX6_canoe 5 = .ok (.aload_n 0, 1) := by decide +kernel
theorem dX6_canoe_6 : decode cX6_canoe 6 = .ok (.iload_n 1, 1) := by decide +kernel
theorem dX6_canoe_7 : decode cX6_canoe 7 = .ok (.invokevirtual 75, 3) := by decide +kernel
theorem dX6_canoe_10 : decode cX6_canoe 10 = .ok (.ifCond .eq 22, 3) := by decide +kernel
theorem dX6_canoe_13 : decode cX6_canoe 13 = .ok (.iload_n 2, 1) := by decide +kernel
theorem dX6_canoe_14 : decode cX6_canoe 14 = .ok (.iconst 0, 1) := by decide +kernel
theorem dX6_canoe_15 : decode cX6_canoe 15 = .ok (.bipush 10, 2) := by decide +kernel
theorem dX6_canoe_17 : decode cX6_canoe 17 = .ok (.invokestatic 54, 3) := by decide +kernel
theorem dX6_canoe_20 : decode cX6_canoe 20 = .ok (.ifCond .eq 12, 3) := by decide +kernel
theorem dX6_canoe_23 : decode cX6_canoe 23 = .ok (.aload_n 0, 1) := by decide +kernel
theorem dX6_canoe_24 : decode cX6_canoe 24 = .ok (.iload_n 1, 1) := by decide +kernel
theorem dX6_canoe_25 : decode cX6_canoe 25 = .ok (.iload_n 2, 1) := by decide +kernel
theorem dX6_canoe_26 : decode cX6_canoe 26 = .ok (.invokevirtual 131, 3) := by decide +kernel
theorem dX6_canoe_29 : decode cX6_canoe 29 = .ok (.goto 8, 3) := by decide +kernel
theorem dX6_canoe_32 : decode cX6_canoe 32 = .ok (.aload_n 0, 1) := by decide +kernel
theorem dX6_canoe_33 : decode cX6_canoe 33 = .ok (.iconst 1, 1) := by decide +kernel
theorem dX6_canoe_34 : decode cX6_canoe 34 = .ok (.invokevirtual 65, 3) := by decide +kernel
theorem dX6_canoe_37 : decode cX6_canoe 37 = .ok (.ireturn, 1) := by decide +kernel
theorem dX6_goodTold_0 : decode cX6_goodTold 0 = .ok (.iload_n 2, 1) := by decide +kernel
theorem dX6_goodTold_1 : decode cX6_goodTold 1 = .ok (.ifCond .ne 15, 3) := by decide +kernel
theorem dX6_goodTold_4 : decode cX6_goodTold 4 = .ok (.aload_n 0, 1) := by decide +kernel
theorem dX6_goodTold_5 : decode cX6_goodTold 5 = .ok (.getfield 36, 3) := by decide +kernel
theorem dX6_goodTold_8 : decode cX6_goodTold 8 = .ok (.getfield 85, 3) := by decide +kernel
theorem dX6_goodTold_11 : decode cX6_goodTold 11 = .ok (.iload_n 1, 1) := by decide +kernel
theorem dX6_goodTold_12 : decode cX6_goodTold 12 = .ok (.iaload, 1) := by decide +kernel
theorem dX6_goodTold_13 : decode cX6_goodTold 13 = .ok (.goto 37, 3) := by decide +kernel
theorem dX6_goodTold_16 : decode cX6_goodTold 16 = .ok (.iload_n 2, 1) := by decide +kernel
theorem dX6_goodTold_17 : decode cX6_goodTold 17 = .ok (.iconst 1, 1) := by decide +kernel
theorem dX6_goodTold_18 : decode cX6_goodTold 18 = .ok (.if_icmp .ne 12, 3) := by decide +kernel
theorem dX6_goodTold_21 : decode cX6_goodTold 21 = .ok (.aload_n 0, 1) := by decide +kernel
theorem dX6_goodTold_22 : decode cX6_goodTold 22 = .ok (.getfield 22, 3) := by decide +kernel
theorem dX6_goodTold_25 : decode cX6_goodTold 25 = .ok (.iload_n 1, 1) := by decide +kernel
theorem dX6_goodTold_26 : decode cX6_goodTold 26 = .ok (.iaload, 1) := by decide +kernel
theorem dX6_goodTold_27 : decode cX6_goodTold 27 = .ok (.goto 23, 3) := by decide +kernel
theorem dX6_goodTold_30 : decode cX6_goodTold 30 = .ok (.iload_n 2, 1) := by decide +kernel
theorem dX6_goodTold_31 : decode cX6_goodTold 31 = .ok (.iconst 2, 1) := by decide +kernel
theorem dX6_goodTold_32 : decode cX6_goodTold 32 = .ok (.if_icmp .ne 12, 3) := by decide +kernel
theorem dX6_goodTold_35 : decode cX6_goodTold 35 = .ok (.aload_n 0, 1) := by decide +kernel
theorem dX6_goodTold_36 : decode cX6_goodTold 36 = .ok (.getfield 25, 3) := by decide +kernel
theorem dX6_goodTold_39 : decode cX6_goodTold 39 = .ok (.iload_n 1, 1) := by decide +kernel
theorem dX6_goodTold_40 : decode cX6_goodTold 40 = .ok (.iaload, 1) := by decide +kernel
theorem dX6_goodTold_41 : decode cX6_goodTold 41 = .ok (.goto 9, 3) := by decide +kernel
theorem dX6_goodTold_44 : decode cX6_goodTold 44 = .ok (.aload_n 0, 1) := by decide +kernel
theorem dX6_goodTold_45 : decode cX6_goodTold 45 = .ok (.getfield 28, 3) := by decide +kernel
theorem dX6_goodTold_48 : decode cX6_goodTold 48 = .ok (.iload_n 1, 1) := by decide +kernel
theorem dX6_goodTold_49 : decode cX6_goodTold 49 = .ok (.iaload, 1) := by decide +kernel
theorem dX6_goodTold_50 : decode cX6_goodTold 50 = .ok (.ireturn, 1) := by decide +kernel
set_option maxRecDepth 20000 in
theorem ggX6_good_X6_isCanoe : GoodIn wsX6_good wsX6_isCanoe := goodIn_r _ [6, 7, 8, 9, 5, 10, 26, 27, 28, 29, 30, 31, 32, 33, 34, 35, 36, 37, 38] (by decide +kernel) (by decide +kernel)
set_option maxRecDepth 20000 in
theorem gX6_good_X6_isCanoe : GoodIn wsX6_good (wsV RX6 75 RX6 yX6_isCanoe wsX6_isCanoe) := goodIn_app (goodIn_of _ (by decide +kernel)) ggX6_good_X6_isCanoe
set_option maxRecDepth 20000 in
theorem ggX6_good_X6_isGood : GoodIn wsX6_good wsX6_isGood := goodIn_r _ [13, 8, 9, 5, 10] (by decide +kernel) (by decide +kernel)
set_option maxRecDepth 20000 in
theorem gX6_good_X6_isGood : GoodIn wsX6_good (va_wsS RX6 79 yX6_isGood wsX6_isGood) := goodIn_app (goodIn_of _ (by decide +kernel)) ggX6_good_X6_isGood
set_option maxRecDepth 20000 in
theorem ggX6_good_X6_isIn : GoodIn wsX6_good wsX6_isIn := goodIn_r _ [10] (by decide +kernel) (by decide +kernel)
set_option maxRecDepth 20000 in
theorem gX6_good_X6_isIn : GoodIn wsX6_good (va_wsS RX6 54 yX6_isIn wsX6_isIn) := goodIn_app (goodIn_of _ (by decide +kernel)) ggX6_good_X6_isIn
set_option maxRecDepth 20000 in
theorem ggX6_good_X6_goodTold : GoodIn wsX6_good wsX6_goodTold := goodIn_r _ [17, 18, 19, 20, 21, 26, 27, 28, 29, 30, 31, 32, 33, 34, 35, 36, 37, 38, 39, 40, 41, 42, 43, 44, 45, 46, 47, 48, 49, 50, 51, 52] (by decide +kernel) (by decide +kernel)
set_option maxRecDepth 20000 in
theorem gX6_good_X6_goodTold : GoodIn wsX6_good (wsV RX6 134 RX6 yX6_goodTold wsX6_goodTold) := goodIn_app (goodIn_of _ (by decide +kernel)) ggX6_good_X6_goodTold
set_option maxRecDepth 20000 in
theorem ggX6_good_X6_no : GoodIn wsX6_good wsX6_no := goodIn_r _ [25, 1, 26, 27, 28, 29, 30, 31, 32, 33, 34, 35, 36, 37, 38] (by decide +kernel) (by decide +kernel)
set_option maxRecDepth 20000 in
theorem gX6_good_X6_no : GoodIn wsX6_good (wsV RX6 65 RX6 yX6_no wsX6_no) := goodIn_app (goodIn_of _ (by decide +kernel)) ggX6_good_X6_no
theorem dX6_good_0 : decode cX6_good 0 = .ok (.aload_n 0, 1) := by decide +kernel
theorem dX6_good_1 : decode cX6_good 1 = .ok (.iconst 0, 1) := by decide +kernel
theorem dX6_good_2 : decode cX6_good 2 = .ok (.putfield 47, 3) := by decide +kernel
theorem dX6_good_5 : decode cX6_good 5 = .ok (.aload_n 0, 1) := by decide +kernel
theorem dX6_good_6 : decode cX6_good 6 = .ok (.iload_n 1, 1) := by decide +kernel
theorem dX6_good_7 : decode cX6_good 7 = .ok (.invokevirtual 75, 3) := by decide +kernel
theorem dX6_good_10 : decode cX6_good 10 = .ok (.ifCond .eq 32, 3) := by decide +kernel
theorem dX6_good_13 : decode cX6_good 13 = .ok (.iload_n 2, 1) := by decide +kernel
theorem dX6_good_14 : decode cX6_good 14 = .ok (.invokestatic 79, 3) := by decide +kernel
theorem dX6_good_17 : decode cX6_good 17 = .ok (.ifCond .eq 25, 3) := by decide +kernel
theorem dX6_good_20 : decode cX6_good 20 = .ok (.iload_n 3, 1) := by decide +kernel
theorem dX6_good_21 : decode cX6_good 21 = .ok (.iconst 0, 1) := by decide +kernel
theorem dX6_good_22 : decode cX6_good 22 = .ok (.iconst 3, 1) := by decide +kernel
theorem dX6_good_23 : decode cX6_good 23 = .ok (.invokestatic 54, 3) := by decide +kernel
theorem dX6_good_26 : decode cX6_good 26 = .ok (.ifCond .eq 16, 3) := by decide +kernel
theorem dX6_good_29 : decode cX6_good 29 = .ok (.aload_n 0, 1) := by decide +kernel
theorem dX6_good_30 : decode cX6_good 30 = .ok (.iconst 4, 1) := by decide +kernel
theorem dX6_good_31 : decode cX6_good 31 = .ok (.iload_n 1, 1) := by decide +kernel
theorem dX6_good_32 : decode cX6_good 32 = .ok (.imul, 1) := by decide +kernel
theorem dX6_good_33 : decode cX6_good 33 = .ok (.iload_n 2, 1) := by decide +kernel
theorem dX6_good_34 : decode cX6_good 34 = .ok (.iadd, 1) := by decide +kernel
theorem dX6_good_35 : decode cX6_good 35 = .ok (.iload_n 3, 1) := by decide +kernel
theorem dX6_good_36 : decode cX6_good 36 = .ok (.invokevirtual 134, 3) := by decide +kernel
theorem dX6_good_39 : decode cX6_good 39 = .ok (.goto 8, 3) := by decide +kernel
theorem dX6_good_42 : decode cX6_good 42 = .ok (.aload_n 0, 1) := by decide +kernel
theorem dX6_good_43 : decode cX6_good 43 = .ok (.iconst 1, 1) := by decide +kernel
theorem dX6_good_44 : decode cX6_good 44 = .ok (.invokevirtual 65, 3) := by decide +kernel
theorem dX6_good_47 : decode cX6_good 47 = .ok (.ireturn, 1) := by decide +kernel
set_option maxRecDepth 20000 in
theorem ggX6_at_X6_isRow : GoodIn wsX6_at wsX6_isRow := goodIn_r _ [8, 9, 10, 11, 7, 12, 26, 27, 28, 29, 30, 31, 32, 33, 34, 35, 36, 37, 38] (by decide +kernel) (by decide +kernel)
set_option maxRecDepth 20000 in
theorem gX6_at_X6_isRow : GoodIn wsX6_at (wsV RX6 92 RX6 yX6_isRow wsX6_isRow) := goodIn_app (goodIn_of _ (by decide +kernel)) ggX6_at_X6_isRow
set_option maxRecDepth 20000 in
theorem ggX6_at_X6_isIn : GoodIn wsX6_at wsX6_isIn := goodIn_r _ [12] (by decide +kernel) (by decide +kernel)
set_option maxRecDepth 20000 in
theorem gX6_at_X6_isIn : GoodIn wsX6_at (va_wsS RX6 54 yX6_isIn wsX6_isIn) := goodIn_app (goodIn_of _ (by decide +kernel)) ggX6_at_X6_isIn
set_option maxRecDepth 20000 in
theorem ggX6_at_X5_at : GoodIn wsX6_at wsX5_at := goodIn_r _ [17, 18, 19, 20, 21, 39, 40, 41, 42, 43, 44, 45, 46, 47, 48, 49, 50, 51, 52, 26, 27, 28, 29, 30, 31, 32, 33, 34, 35, 36, 37, 38] (by decide +kernel) (by decide +kernel)
set_option maxRecDepth 20000 in
theorem gX6_at_X5_at : GoodIn wsX6_at (wsV RX6 137 RX5 yX5_at wsX5_at) := goodIn_app (goodIn_of _ (by decide +kernel)) ggX6_at_X5_at
set_option maxRecDepth 20000 in
theorem ggX6_at_X6_no : GoodIn wsX6_at wsX6_no := goodIn_r _ [25, 1, 26, 27, 28, 29, 30, 31, 32, 33, 34, 35, 36, 37, 38] (by decide +kernel) (by decide +kernel)
set_option maxRecDepth 20000 in
theorem gX6_at_X6_no : GoodIn wsX6_at (wsV RX6 65 RX6 yX6_no wsX6_no) := goodIn_app (goodIn_of _ (by decide +kernel)) ggX6_at_X6_no
theorem dX6_at_0 : decode cX6_at 0 = .ok (.aload_n 0, 1) := by decide +kernel
theorem dX6_at_1 : decode cX6_at 1 = .ok (.iconst 0, 1) := by decide +kernel
theorem dX6_at_2 : decode cX6_at 2 = .ok (.putfield 47, 3) := by decide +kernel
theorem dX6_at_5 : decode cX6_at 5 = .ok (.aload_n 0, 1) := by decide +kernel
theorem dX6_at_6 : decode cX6_at 6 = .ok (.iload_n 1, 1) := by decide +kernel
theorem dX6_at_7 : decode cX6_at 7 = .ok (.invokevirtual 92, 3) := by decide +kernel
theorem dX6_at_10 : decode cX6_at 10 = .ok (.ifCond .eq 31, 3) := by decide +kernel
theorem dX6_at_13 : decode cX6_at 13 = .ok (.iload_n 2, 1) := by decide +kernel
theorem dX6_at_14 : decode cX6_at 14 = .ok (.iconst 0, 1) := by decide +kernel
theorem dX6_at_15 : decode cX6_at 15 = .ok (.aload_n 0, 1) := by decide +kernel
theorem dX6_at_16 : decode cX6_at 16 = .ok (.getfield 9, 3) := by decide +kernel
theorem dX6_at_19 : decode cX6_at 19 = .ok (.iload_n 1, 1) := by decide +kernel
theorem dX6_at_20 : decode cX6_at 20 = .ok (.iaload, 1) := by decide +kernel
theorem dX6_at_21 : decode cX6_at 21 = .ok (.iconst 1, 1) := by decide +kernel
theorem dX6_at_22 : decode cX6_at 22 = .ok (.isub, 1) := by decide +kernel
theorem dX6_at_23 : decode cX6_at 23 = .ok (.invokestatic 54, 3) := by decide +kernel
theorem dX6_at_26 : decode cX6_at 26 = .ok (.ifCond .eq 15, 3) := by decide +kernel
theorem dX6_at_29 : decode cX6_at 29 = .ok (.aload_n 0, 1) := by decide +kernel
theorem dX6_at_30 : decode cX6_at 30 = .ok (.getfield 36, 3) := by decide +kernel
theorem dX6_at_33 : decode cX6_at 33 = .ok (.iload_n 1, 1) := by decide +kernel
theorem dX6_at_34 : decode cX6_at 34 = .ok (.iload_n 2, 1) := by decide +kernel
theorem dX6_at_35 : decode cX6_at 35 = .ok (.invokevirtual 137, 3) := by decide +kernel
theorem dX6_at_38 : decode cX6_at 38 = .ok (.goto 8, 3) := by decide +kernel
theorem dX6_at_41 : decode cX6_at 41 = .ok (.aload_n 0, 1) := by decide +kernel
theorem dX6_at_42 : decode cX6_at 42 = .ok (.iconst 1, 1) := by decide +kernel
theorem dX6_at_43 : decode cX6_at 43 = .ok (.invokevirtual 65, 3) := by decide +kernel
theorem dX6_at_46 : decode cX6_at 46 = .ok (.ireturn, 1) := by decide +kernel
set_option maxRecDepth 20000 in
theorem ggX6_beside_X6_isCanoe : GoodIn wsX6_beside wsX6_isCanoe := goodIn_r _ [7, 8, 9, 10, 6, 11, 28, 29, 30, 31, 32, 33, 34, 35, 36, 37, 38, 39, 40] (by decide +kernel) (by decide +kernel)
set_option maxRecDepth 20000 in
theorem gX6_beside_X6_isCanoe : GoodIn wsX6_beside (wsV RX6 75 RX6 yX6_isCanoe wsX6_isCanoe) := goodIn_app (goodIn_of _ (by decide +kernel)) ggX6_beside_X6_isCanoe
set_option maxRecDepth 20000 in
theorem ggX6_beside_X5_beside : GoodIn wsX6_beside wsX5_beside := goodIn_r _ [16, 17, 18, 19, 20, 21, 22, 23, 41, 42, 43, 44, 45, 46, 47, 48, 49, 50, 51, 52, 53, 54] (by decide +kernel) (by decide +kernel)
set_option maxRecDepth 20000 in
theorem gX6_beside_X5_beside : GoodIn wsX6_beside (wsV RX6 140 RX5 yX5_beside wsX5_beside) := goodIn_app (goodIn_of _ (by decide +kernel)) ggX6_beside_X5_beside
set_option maxRecDepth 20000 in
theorem ggX6_beside_X6_no : GoodIn wsX6_beside wsX6_no := goodIn_r _ [27, 1, 28, 29, 30, 31, 32, 33, 34, 35, 36, 37, 38, 39, 40] (by decide +kernel) (by decide +kernel)
set_option maxRecDepth 20000 in
theorem gX6_beside_X6_no : GoodIn wsX6_beside (wsV RX6 65 RX6 yX6_no wsX6_no) := goodIn_app (goodIn_of _ (by decide +kernel)) ggX6_beside_X6_no
theorem dX6_beside_0 : decode cX6_beside 0 = .ok (.aload_n 0, 1) := by decide +kernel
theorem dX6_beside_1 : decode cX6_beside 1 = .ok (.iconst 0, 1) := by decide +kernel
theorem dX6_beside_2 : decode cX6_beside 2 = .ok (.putfield 47, 3) := by decide +kernel
theorem dX6_beside_5 : decode cX6_beside 5 = .ok (.aload_n 0, 1) := by decide +kernel
theorem dX6_beside_6 : decode cX6_beside 6 = .ok (.iload_n 1, 1) := by decide +kernel
theorem dX6_beside_7 : decode cX6_beside 7 = .ok (.invokevirtual 75, 3) := by decide +kernel
theorem dX6_beside_10 : decode cX6_beside 10 = .ok (.ifCond .eq 21, 3) := by decide +kernel
theorem dX6_beside_13 : decode cX6_beside 13 = .ok (.aload_n 0, 1) := by decide +kernel
theorem dX6_beside_14 : decode cX6_beside 14 = .ok (.iload_n 2, 1) := by decide +kernel
theorem dX6_beside_15 : decode cX6_beside 15 = .ok (.invokevirtual 75, 3) := by decide +kernel
theorem dX6_beside_18 : decode cX6_beside 18 = .ok (.ifCond .eq 13, 3) := by decide +kernel
theorem dX6_beside_21 : decode cX6_beside 21 = .ok (.aload_n 0, 1) := by decide +kernel
theorem dX6_beside_22 : decode cX6_beside 22 = .ok (.getfield 36, 3) := by decide +kernel
theorem dX6_beside_25 : decode cX6_beside 25 = .ok (.iload_n 1, 1) := by decide +kernel
theorem dX6_beside_26 : decode cX6_beside 26 = .ok (.iload_n 2, 1) := by decide +kernel
theorem dX6_beside_27 : decode cX6_beside 27 = .ok (.invokevirtual 140, 3) := by decide +kernel
theorem dX6_beside_30 : decode cX6_beside 30 = .ok (.ireturn, 1) := by decide +kernel
theorem dX6_beside_31 : decode cX6_beside 31 = .ok (.aload_n 0, 1) := by decide +kernel
theorem dX6_beside_32 : decode cX6_beside 32 = .ok (.iconst 1, 1) := by decide +kernel
theorem dX6_beside_33 : decode cX6_beside 33 = .ok (.invokevirtual 65, 3) := by decide +kernel
theorem dX6_beside_36 : decode cX6_beside 36 = .ok (.iconst 1, 1) := by decide +kernel
theorem dX6_beside_37 : decode cX6_beside 37 = .ok (.if_icmp .ne 7, 3) := by decide +kernel
theorem dX6_beside_40 : decode cX6_beside 40 = .ok (.iconst 1, 1) := by decide +kernel
theorem dX6_beside_41 : decode cX6_beside 41 = .ok (.goto 4, 3) := by decide +kernel
theorem dX6_beside_44 : decode cX6_beside 44 = .ok (.iconst 0, 1) := by decide +kernel
theorem dX6_beside_45 : decode cX6_beside 45 = .ok (.ireturn, 1) := by decide +kernel
set_option maxRecDepth 20000 in
theorem ggX6_pass__X6_isIn : GoodIn wsX6_pass_ wsX6_isIn := goodIn_r _ [6] (by decide +kernel) (by decide +kernel)
set_option maxRecDepth 20000 in
theorem gX6_pass__X6_isIn : GoodIn wsX6_pass_ (va_wsS RX6 54 yX6_isIn wsX6_isIn) := goodIn_app (goodIn_of _ (by decide +kernel)) ggX6_pass__X6_isIn
set_option maxRecDepth 20000 in
theorem ggX6_pass__X6_pass : GoodIn wsX6_pass_ wsX6_pass := goodIn_r _ [10, 11, 12, 13, 14, 15, 16, 17, 18, 19, 20, 21, 22, 23, 24, 25, 26, 27, 28, 29, 30, 31, 32, 33, 34, 35, 36, 37, 38, 39, 40, 41, 42, 43, 44, 45, 46, 47, 48, 49, 50, 51, 52, 53, 54, 55, 56, 57, 58, 59, 60, 61, 62, 63, 64, 65, 66, 67, 68, 69, 70, 71, 72, 73, 74, 75, 76, 77, 82, 83, 84, 85, 86, 87, 88, 89, 90, 91, 92, 93, 94, 95, 96, 97, 98, 99, 100, 101, 102, 103, 104, 105, 106, 107, 108] (by decide +kernel) (by decide +kernel)
set_option maxRecDepth 20000 in
theorem gX6_pass__X6_pass : GoodIn wsX6_pass_ (wsV RX6 144 RX6 yX6_pass wsX6_pass) := goodIn_app (goodIn_of _ (by decide +kernel)) ggX6_pass__X6_pass
set_option maxRecDepth 20000 in
theorem ggX6_pass__X6_no : GoodIn wsX6_pass_ wsX6_no := goodIn_r _ [81, 1, 82, 83, 84, 85, 86, 87, 88, 89, 90, 91, 92, 93, 94] (by decide +kernel) (by decide +kernel)
set_option maxRecDepth 20000 in
theorem gX6_pass__X6_no : GoodIn wsX6_pass_ (wsV RX6 65 RX6 yX6_no wsX6_no) := goodIn_app (goodIn_of _ (by decide +kernel)) ggX6_pass__X6_no
theorem dX6_pass__0 : decode cX6_pass_ 0 = .ok (.aload_n 0, 1) := by decide +kernel
theorem dX6_pass__1 : decode cX6_pass_ 1 = .ok (.iconst 0, 1) := by decide +kernel
theorem dX6_pass__2 : decode cX6_pass_ 2 = .ok (.putfield 47, 3) := by decide +kernel
theorem dX6_pass__5 : decode cX6_pass_ 5 = .ok (.iload_n 1, 1) := by decide +kernel
theorem dX6_pass__6 : decode cX6_pass_ 6 = .ok (.iconst 1, 1) := by decide +kernel
theorem dX6_pass__7 : decode cX6_pass_ 7 = .ok (.sipush 200, 3) := by decide +kernel
theorem dX6_pass__10 : decode cX6_pass_ 10 = .ok (.invokestatic 54, 3) := by decide +kernel
theorem dX6_pass__13 : decode cX6_pass_ 13 = .ok (.ifCond .eq 15, 3) := by decide +kernel
theorem dX6_pass__16 : decode cX6_pass_ 16 = .ok (.aload_n 0, 1) := by decide +kernel
theorem dX6_pass__17 : decode cX6_pass_ 17 = .ok (.aload_n 0, 1) := by decide +kernel
theorem dX6_pass__18 : decode cX6_pass_ 18 = .ok (.getfield 36, 3) := by decide +kernel
theorem dX6_pass__21 : decode cX6_pass_ 21 = .ok (.iload_n 1, 1) := by decide +kernel
theorem dX6_pass__22 : decode cX6_pass_ 22 = .ok (.invokevirtual 144, 3) := by decide +kernel
theorem dX6_pass__25 : decode cX6_pass_ 25 = .ok (.goto 8, 3) := by decide +kernel
theorem dX6_pass__28 : decode cX6_pass_ 28 = .ok (.aload_n 0, 1) := by decide +kernel
theorem dX6_pass__29 : decode cX6_pass_ 29 = .ok (.iconst 1, 1) := by decide +kernel
theorem dX6_pass__30 : decode cX6_pass_ 30 = .ok (.invokevirtual 65, 3) := by decide +kernel
theorem dX6_pass__33 : decode cX6_pass_ 33 = .ok (.ireturn, 1) := by decide +kernel
set_option maxRecDepth 20000 in
theorem ggX6_counted_X5_isDry : GoodIn wsX6_counted wsX5_isDry := goodIn_r _ [9, 10, 11, 12, 35, 36, 37, 38, 39, 40, 41, 42, 43, 44, 45, 46, 47, 48, 22, 23, 24, 25, 26, 27, 28, 29, 30, 31, 32, 33, 34] (by decide +kernel) (by decide +kernel)
set_option maxRecDepth 20000 in
theorem gX6_counted_X5_isDry : GoodIn wsX6_counted (wsV RX6 105 RX5 yX5_isDry wsX5_isDry) := goodIn_app (goodIn_of _ (by decide +kernel)) ggX6_counted_X5_isDry
set_option maxRecDepth 20000 in
theorem ggX6_counted_X5_being : GoodIn wsX6_counted wsX5_being := goodIn_r _ [16, 11, 17, 35, 36, 37, 38, 39, 40, 41, 42, 43, 44, 45, 46, 47, 48, 22, 23, 24, 25, 26, 27, 28, 29, 30, 31, 32, 33, 34] (by decide +kernel) (by decide +kernel)
set_option maxRecDepth 20000 in
theorem gX6_counted_X5_being : GoodIn wsX6_counted (wsV RX6 147 RX5 yX5_being wsX5_being) := goodIn_app (goodIn_of _ (by decide +kernel)) ggX6_counted_X5_being
set_option maxRecDepth 20000 in
theorem ggX6_counted_X5_all : GoodIn wsX6_counted wsX5_all := goodIn_r _ [21] (by decide +kernel) (by decide +kernel)
set_option maxRecDepth 20000 in
theorem gX6_counted_X5_all : GoodIn wsX6_counted (wsV RX6 150 RX5 yX5_all wsX5_all) := goodIn_app (goodIn_of _ (by decide +kernel)) ggX6_counted_X5_all
theorem dX6_counted_0 : decode cX6_counted 0 = .ok (.iconst 0, 1) := by decide +kernel
theorem dX6_counted_1 : decode cX6_counted 1 = .ok (.istore_n 2, 1) := by decide +kernel
theorem dX6_counted_2 : decode cX6_counted 2 = .ok (.iconst 0, 1) := by decide +kernel
theorem dX6_counted_3 : decode cX6_counted 3 = .ok (.istore_n 3, 1) := by decide +kernel
theorem dX6_counted_4 : decode cX6_counted 4 = .ok (.iload_n 3, 1) := by decide +kernel
theorem dX6_counted_5 : decode cX6_counted 5 = .ok (.aload_n 0, 1) := by decide +kernel
theorem dX6_counted_6 : decode cX6_counted 6 = .ok (.getfield 51, 3) := by decide +kernel
theorem dX6_counted_9 : decode cX6_counted 9 = .ok (.if_icmp .ge 41, 3) := by decide +kernel
theorem dX6_counted_12 : decode cX6_counted 12 = .ok (.iload_n 2, 1) := by decide +kernel
theorem dX6_counted_13 : decode cX6_counted 13 = .ok (.aload_n 0, 1) := by decide +kernel
theorem dX6_counted_14 : decode cX6_counted 14 = .ok (.getfield 36, 3) := by decide +kernel
theorem dX6_counted_17 : decode cX6_counted 17 = .ok (.getfield 82, 3) := by decide +kernel
theorem dX6_counted_20 : decode cX6_counted 20 = .ok (.iload_n 3, 1) := by decide +kernel
theorem dX6_counted_21 : decode cX6_counted 21 = .ok (.iaload, 1) := by decide +kernel
theorem dX6_counted_22 : decode cX6_counted 22 = .ok (.iconst 1, 1) := by decide +kernel
theorem dX6_counted_23 : decode cX6_counted 23 = .ok (.if_icmp .ne 18, 3) := by decide +kernel
theorem dX6_counted_26 : decode cX6_counted 26 = .ok (.aload_n 0, 1) := by decide +kernel
theorem dX6_counted_27 : decode cX6_counted 27 = .ok (.getfield 36, 3) := by decide +kernel
theorem dX6_counted_30 : decode cX6_counted 30 = .ok (.iload_n 3, 1) := by decide +kernel
theorem dX6_counted_31 : decode cX6_counted 31 = .ok (.invokevirtual 105, 3) := by decide +kernel
theorem dX6_counted_34 : decode cX6_counted 34 = .ok (.ifCond .eq 7, 3) := by decide +kernel
theorem dX6_counted_37 : decode cX6_counted 37 = .ok (.iconst 1, 1) := by decide +kernel
theorem dX6_counted_38 : decode cX6_counted 38 = .ok (.goto 4, 3) := by decide +kernel
theorem dX6_counted_41 : decode cX6_counted 41 = .ok (.iconst 0, 1) := by decide +kernel
theorem dX6_counted_42 : decode cX6_counted 42 = .ok (.iadd, 1) := by decide +kernel
theorem dX6_counted_43 : decode cX6_counted 43 = .ok (.istore_n 2, 1) := by decide +kernel
theorem dX6_counted_44 : decode cX6_counted 44 = .ok (.iinc 3 1, 3) := by decide +kernel
theorem dX6_counted_47 : decode cX6_counted 47 = .ok (.goto (-43), 3) := by decide +kernel
theorem dX6_counted_50 : decode cX6_counted 50 = .ok (.bipush 12, 2) := by decide +kernel
theorem dX6_counted_52 : decode cX6_counted 52 = .ok (.newarray .int, 2) := by decide +kernel
theorem dX6_counted_54 : decode cX6_counted 54 = .ok (.dup, 1) := by decide +kernel
theorem dX6_counted_55 : decode cX6_counted 55 = .ok (.iconst 0, 1) := by decide +kernel
theorem dX6_counted_56 : decode cX6_counted 56 = .ok (.aload_n 0, 1) := by decide +kernel
theorem dX6_counted_57 : decode cX6_counted 57 = .ok (.getfield 36, 3) := by decide +kernel
theorem dX6_counted_60 : decode cX6_counted 60 = .ok (.getfield 111, 3) := by decide +kernel
theorem dX6_counted_63 : decode cX6_counted 63 = .ok (.iastore, 1) := by decide +kernel
theorem dX6_counted_64 : decode cX6_counted 64 = .ok (.dup, 1) := by decide +kernel
theorem dX6_counted_65 : decode cX6_counted 65 = .ok (.iconst 1, 1) := by decide +kernel
theorem dX6_counted_66 : decode cX6_counted 66 = .ok (.aload_n 0, 1) := by decide +kernel
theorem dX6_counted_67 : decode cX6_counted 67 = .ok (.getfield 58, 3) := by decide +kernel
theorem dX6_counted_70 : decode cX6_counted 70 = .ok (.iastore, 1) := by decide +kernel
theorem dX6_counted_71 : decode cX6_counted 71 = .ok (.dup, 1) := by decide +kernel
theorem dX6_counted_72 : decode cX6_counted 72 = .ok (.iconst 2, 1) := by decide +kernel
theorem dX6_counted_73 : decode cX6_counted 73 = .ok (.aload_n 0, 1) := by decide +kernel
theorem dX6_counted_74 : decode cX6_counted 74 = .ok (.getfield 51, 3) := by decide +kernel
theorem dX6_counted_77 : decode cX6_counted 77 = .ok (.iastore, 1) := by decide +kernel
theorem dX6_counted_78 : decode cX6_counted 78 = .ok (.dup, 1) := by decide +kernel
theorem dX6_counted_79 : decode cX6_counted 79 = .ok (.iconst 3, 1) := by decide +kernel
theorem dX6_counted_80 : decode cX6_counted 80 = .ok (.aload_n 0, 1) := by decide +kernel
theorem dX6_counted_81 : decode cX6_counted 81 = .ok (.getfield 36, 3) := by decide +kernel
theorem dX6_counted_84 : decode cX6_counted 84 = .ok (.iconst 1, 1) := by decide +kernel
theorem dX6_counted_85 : decode cX6_counted 85 = .ok (.invokevirtual 147, 3) := by decide +kernel
theorem dX6_counted_88 : decode cX6_counted 88 = .ok (.iastore, 1) := by decide +kernel
theorem dX6_counted_89 : decode cX6_counted 89 = .ok (.dup, 1) := by decide +kernel
theorem dX6_counted_90 : decode cX6_counted 90 = .ok (.iconst 4, 1) := by decide +kernel
theorem dX6_counted_91 : decode cX6_counted 91 = .ok (.aload_n 0, 1) := by decide +kernel
theorem dX6_counted_92 : decode cX6_counted 92 = .ok (.getfield 36, 3) := by decide +kernel
theorem dX6_counted_95 : decode cX6_counted 95 = .ok (.iconst 2, 1) := by decide +kernel
theorem dX6_counted_96 : decode cX6_counted 96 = .ok (.invokevirtual 147, 3) := by decide +kernel
theorem dX6_counted_99 : decode cX6_counted 99 = .ok (.iastore, 1) := by decide +kernel
theorem dX6_counted_100 : decode cX6_counted 100 = .ok (.dup, 1) := by decide +kernel
theorem dX6_counted_101 : decode cX6_counted 101 = .ok (.iconst 5, 1) := by decide +kernel
theorem dX6_counted_102 : decode cX6_counted 102 = .ok (.aload_n 0, 1) := by decide +kernel
theorem dX6_counted_103 : decode cX6_counted 103 = .ok (.getfield 36, 3) := by decide +kernel
theorem dX6_counted_106 : decode cX6_counted 106 = .ok (.aload_n 0, 1) := by decide +kernel
theorem dX6_counted_107 : decode cX6_counted 107 = .ok (.getfield 36, 3) := by decide +kernel
theorem dX6_counted_110 : decode cX6_counted 110 = .ok (.getfield 69, 3) := by decide +kernel
theorem dX6_counted_113 : decode cX6_counted 113 = .ok (.invokevirtual 150, 3) := by decide +kernel
theorem dX6_counted_116 : decode cX6_counted 116 = .ok (.iastore, 1) := by decide +kernel
theorem dX6_counted_117 : decode cX6_counted 117 = .ok (.dup, 1) := by decide +kernel
theorem dX6_counted_118 : decode cX6_counted 118 = .ok (.bipush 6, 2) := by decide +kernel
theorem dX6_counted_120 : decode cX6_counted 120 = .ok (.aload_n 0, 1) := by decide +kernel
theorem dX6_counted_121 : decode cX6_counted 121 = .ok (.getfield 36, 3) := by decide +kernel
theorem dX6_counted_124 : decode cX6_counted 124 = .ok (.aload_n 0, 1) := by decide +kernel
theorem dX6_counted_125 : decode cX6_counted 125 = .ok (.getfield 36, 3) := by decide +kernel
theorem dX6_counted_128 : decode cX6_counted 128 = .ok (.getfield 85, 3) := by decide +kernel
theorem dX6_counted_131 : decode cX6_counted 131 = .ok (.invokevirtual 150, 3) := by decide +kernel
theorem dX6_counted_134 : decode cX6_counted 134 = .ok (.iastore, 1) := by decide +kernel
theorem dX6_counted_135 : decode cX6_counted 135 = .ok (.dup, 1) := by decide +kernel
theorem dX6_counted_136 : decode cX6_counted 136 = .ok (.bipush 7, 2) := by decide +kernel
theorem dX6_counted_138 : decode cX6_counted 138 = .ok (.aload_n 0, 1) := by decide +kernel
theorem dX6_counted_139 : decode cX6_counted 139 = .ok (.getfield 36, 3) := by decide +kernel
theorem dX6_counted_142 : decode cX6_counted 142 = .ok (.getfield 154, 3) := by decide +kernel
theorem dX6_counted_145 : decode cX6_counted 145 = .ok (.iastore, 1) := by decide +kernel
theorem dX6_counted_146 : decode cX6_counted 146 = .ok (.dup, 1) := by decide +kernel
theorem dX6_counted_147 : decode cX6_counted 147 = .ok (.bipush 8, 2) := by decide +kernel
theorem dX6_counted_149 : decode cX6_counted 149 = .ok (.aload_n 0, 1) := by decide +kernel
theorem dX6_counted_150 : decode cX6_counted 150 = .ok (.getfield 36, 3) := by decide +kernel
theorem dX6_counted_153 : decode cX6_counted 153 = .ok (.getfield 157, 3) := by decide +kernel
theorem dX6_counted_156 : decode cX6_counted 156 = .ok (.iastore, 1) := by decide +kernel
theorem dX6_counted_157 : decode cX6_counted 157 = .ok (.dup, 1) := by decide +kernel
theorem dX6_counted_158 : decode cX6_counted 158 = .ok (.bipush 9, 2) := by decide +kernel
theorem dX6_counted_160 : decode cX6_counted 160 = .ok (.aload_n 0, 1) := by decide +kernel
theorem dX6_counted_161 : decode cX6_counted 161 = .ok (.getfield 36, 3) := by decide +kernel
theorem dX6_counted_164 : decode cX6_counted 164 = .ok (.aload_n 0, 1) := by decide +kernel
theorem dX6_counted_165 : decode cX6_counted 165 = .ok (.getfield 36, 3) := by decide +kernel
theorem dX6_counted_168 : decode cX6_counted 168 = .ok (.getfield 117, 3) := by decide +kernel
theorem dX6_counted_171 : decode cX6_counted 171 = .ok (.invokevirtual 150, 3) := by decide +kernel
theorem dX6_counted_174 : decode cX6_counted 174 = .ok (.iastore, 1) := by decide +kernel
theorem dX6_counted_175 : decode cX6_counted 175 = .ok (.dup, 1) := by decide +kernel
theorem dX6_counted_176 : decode cX6_counted 176 = .ok (.bipush 10, 2) := by decide +kernel
theorem dX6_counted_178 : decode cX6_counted 178 = .ok (.aload_n 0, 1) := by decide +kernel
theorem dX6_counted_179 : decode cX6_counted 179 = .ok (.getfield 36, 3) := by decide +kernel
theorem dX6_counted_182 : decode cX6_counted 182 = .ok (.aload_n 0, 1) := by decide +kernel
theorem dX6_counted_183 : decode cX6_counted 183 = .ok (.getfield 36, 3) := by decide +kernel
theorem dX6_counted_186 : decode cX6_counted 186 = .ok (.getfield 120, 3) := by decide +kernel
theorem dX6_counted_189 : decode cX6_counted 189 = .ok (.invokevirtual 150, 3) := by decide +kernel
theorem dX6_counted_192 : decode cX6_counted 192 = .ok (.iastore, 1) := by decide +kernel
theorem dX6_counted_193 : decode cX6_counted 193 = .ok (.dup, 1) := by decide +kernel
theorem dX6_counted_194 : decode cX6_counted 194 = .ok (.bipush 11, 2) := by decide +kernel
theorem dX6_counted_196 : decode cX6_counted 196 = .ok (.iload_n 2, 1) := by decide +kernel
theorem dX6_counted_197 : decode cX6_counted 197 = .ok (.iastore, 1) := by decide +kernel
theorem dX6_counted_198 : decode cX6_counted 198 = .ok (.astore_n 3, 1) := by decide +kernel
theorem dX6_counted_199 : decode cX6_counted 199 = .ok (.aload_n 3, 1) := by decide +kernel
theorem dX6_counted_200 : decode cX6_counted 200 = .ok (.iload_n 1, 1) := by decide +kernel
theorem dX6_counted_201 : decode cX6_counted 201 = .ok (.iaload, 1) := by decide +kernel
theorem dX6_counted_202 : decode cX6_counted 202 = .ok (.ireturn, 1) := by decide +kernel
set_option maxRecDepth 20000 in
theorem ggX6_count_X6_isIn : GoodIn wsX6_count wsX6_isIn := goodIn_r _ [5] (by decide +kernel) (by decide +kernel)
set_option maxRecDepth 20000 in
theorem gX6_count_X6_isIn : GoodIn wsX6_count (va_wsS RX6 54 yX6_isIn wsX6_isIn) := goodIn_app (goodIn_of _ (by decide +kernel)) ggX6_count_X6_isIn
set_option maxRecDepth 20000 in
theorem ggX6_count_X6_counted : GoodIn wsX6_count wsX6_counted := goodIn_r _ [9, 10, 11, 12, 13, 14, 15, 16, 17, 18, 19, 20, 21, 22, 23, 24, 25, 26, 27, 28, 29, 30, 35, 36, 37, 38, 39, 40, 41, 42, 43, 44, 45, 46, 47, 48, 49, 50, 51, 52, 53, 54, 55, 56, 57, 58, 59, 60, 61] (by decide +kernel) (by decide +kernel)
set_option maxRecDepth 20000 in
theorem gX6_count_X6_counted : GoodIn wsX6_count (wsV RX6 160 RX6 yX6_counted wsX6_counted) := goodIn_app (goodIn_of _ (by decide +kernel)) ggX6_count_X6_counted
set_option maxRecDepth 20000 in
theorem ggX6_count_X6_no : GoodIn wsX6_count wsX6_no := goodIn_r _ [34, 1, 35, 36, 37, 38, 39, 40, 41, 42, 43, 44, 45, 46, 47] (by decide +kernel) (by decide +kernel)
set_option maxRecDepth 20000 in
theorem gX6_count_X6_no : GoodIn wsX6_count (wsV RX6 65 RX6 yX6_no wsX6_no) := goodIn_app (goodIn_of _ (by decide +kernel)) ggX6_count_X6_no
theorem dX6_count_0 : decode cX6_count 0 = .ok (.aload_n 0, 1) := by decide +kernel
theorem dX6_count_1 : decode cX6_count 1 = .ok (.iconst 0, 1) := by decide +kernel
theorem dX6_count_2 : decode cX6_count 2 = .ok (.putfield 47, 3) := by decide +kernel
theorem dX6_count_5 : decode cX6_count 5 = .ok (.iload_n 1, 1) := by decide +kernel
theorem dX6_count_6 : decode cX6_count 6 = .ok (.iconst 0, 1) := by decide +kernel
theorem dX6_count_7 : decode cX6_count 7 = .ok (.bipush 11, 2) := by decide +kernel
theorem dX6_count_9 : decode cX6_count 9 = .ok (.invokestatic 54, 3) := by decide +kernel
theorem dX6_count_12 : decode cX6_count 12 = .ok (.ifCond .eq 11, 3) := by decide +kernel
theorem dX6_count_15 : decode cX6_count 15 = .ok (.aload_n 0, 1) := by decide +kernel
theorem dX6_count_16 : decode cX6_count 16 = .ok (.iload_n 1, 1) := by decide +kernel
theorem dX6_count_17 : decode cX6_count 17 = .ok (.invokevirtual 160, 3) := by decide +kernel
theorem dX6_count_20 : decode cX6_count 20 = .ok (.goto 8, 3) := by decide +kernel
theorem dX6_count_23 : decode cX6_count 23 = .ok (.aload_n 0, 1) := by decide +kernel
theorem dX6_count_24 : decode cX6_count 24 = .ok (.iconst 1, 1) := by decide +kernel
theorem dX6_count_25 : decode cX6_count 25 = .ok (.invokevirtual 65, 3) := by decide +kernel
theorem dX6_count_28 : decode cX6_count 28 = .ok (.ireturn, 1) := by decide +kernel
set_option maxRecDepth 20000 in
theorem ggX6_foresee_X6_isCanoe : GoodIn wsX6_foresee wsX6_isCanoe := goodIn_r _ [8, 9, 10, 11, 7, 12, 104, 105, 106, 107, 108, 109, 110, 111, 112, 113, 114, 115, 116] (by decide +kernel) (by decide +kernel)
set_option maxRecDepth 20000 in
theorem gX6_foresee_X6_isCanoe : GoodIn wsX6_foresee (wsV RX6 75 RX6 yX6_isCanoe wsX6_isCanoe) := goodIn_app (goodIn_of _ (by decide +kernel)) ggX6_foresee_X6_isCanoe
set_option maxRecDepth 20000 in
theorem ggX6_foresee_X6_isIn : GoodIn wsX6_foresee wsX6_isIn := goodIn_r _ [12] (by decide +kernel) (by decide +kernel)
set_option maxRecDepth 20000 in
theorem gX6_foresee_X6_isIn : GoodIn wsX6_foresee (va_wsS RX6 54 yX6_isIn wsX6_isIn) := goodIn_app (goodIn_of _ (by decide +kernel)) ggX6_foresee_X6_isIn
set_option maxRecDepth 20000 in
theorem ggX6_foresee_X6_no : GoodIn wsX6_foresee wsX6_no := goodIn_r _ [16, 1, 104, 105, 106, 107, 108, 109, 110, 111, 112, 113, 114, 115, 116] (by decide +kernel) (by decide +kernel)
set_option maxRecDepth 20000 in
theorem gX6_foresee_X6_no : GoodIn wsX6_foresee (wsV RX6 65 RX6 yX6_no wsX6_no) := goodIn_app (goodIn_of _ (by decide +kernel)) ggX6_foresee_X6_no
set_option maxRecDepth 20000 in
theorem ggX6_foresee_X5_become : GoodIn wsX6_foresee wsX5_become := goodIn_r _ [21, 22, 23, 24, 25, 26, 27, 28, 29, 30, 31, 32, 33, 34, 35, 36, 37, 20, 38, 39, 40, 41, 42, 117, 118, 119, 120, 121, 122, 123, 124, 125, 126, 127, 128, 129, 130] (by decide +kernel) (by decide +kernel)
set_option maxRecDepth 20000 in
theorem gX6_foresee_X5_become : GoodIn wsX6_foresee (wsV RX6 163 RX5 yX5_become wsX5_become) := goodIn_app (goodIn_of _ (by decide +kernel)) ggX6_foresee_X5_become
set_option maxRecDepth 20000 in
theorem ggX6_foresee_X6_pass : GoodIn wsX6_foresee wsX6_pass := goodIn_r _ [46, 47, 48, 49, 50, 20, 51, 23, 52, 27, 30, 22, 53, 54, 55, 56, 32, 57, 58, 59, 60, 28, 61, 62, 63, 64, 29, 65, 66, 67, 68, 69, 70, 71, 72, 73, 74, 75, 76, 77, 78, 79, 80, 31, 81, 82, 83, 84, 25, 26, 34, 33, 24, 85, 86, 87, 88, 89, 90, 91, 92, 93, 94, 95, 96, 97, 98, 99, 104, 105, 106, 107, 108, 109, 110, 111, 112, 113, 114, 115, 116, 117, 118, 119, 120, 121, 122, 123, 124, 125, 126, 127, 128, 129, 130] (by decide +kernel) (by decide +kernel)
set_option maxRecDepth 20000 in
theorem gX6_foresee_X6_pass : GoodIn wsX6_foresee (wsV RX6 144 RX6 yX6_pass wsX6_pass) := goodIn_app (goodIn_of _ (by decide +kernel)) ggX6_foresee_X6_pass
set_option maxRecDepth 20000 in
theorem ggX6_foresee_X5_misses_ : GoodIn wsX6_foresee wsX5_misses_ := goodIn_r _ [103, 85, 86, 87, 20, 88, 52, 26, 89, 90, 91, 92, 117, 118, 119, 120, 121, 122, 123, 124, 125, 126, 127, 128, 129, 130, 104, 105, 106, 107, 108, 109, 110, 111, 112, 113, 114, 115, 116] (by decide +kernel) (by decide +kernel)
set_option maxRecDepth 20000 in
theorem gX6_foresee_X5_misses_ : GoodIn wsX6_foresee (wsV RX6 129 RX5 yX5_misses_ wsX5_misses_) := goodIn_app (goodIn_of _ (by decide +kernel)) ggX6_foresee_X5_misses_
theorem dX6_foresee_0 : decode cX6_foresee 0 = .ok (.aload_n 0, 1) := by decide +kernel
theorem dX6_foresee_1 : decode cX6_foresee 1 = .ok (.iconst 0, 1) := by decide +kernel
theorem dX6_foresee_2 : decode cX6_foresee 2 = .ok (.putfield 47, 3) := by decide +kernel
theorem dX6_foresee_5 : decode cX6_foresee 5 = .ok (.aload_n 0, 1) := by decide +kernel
theorem dX6_foresee_6 : decode cX6_foresee 6 = .ok (.iload_n 1, 1) := by decide +kernel
theorem dX6_foresee_7 : decode cX6_foresee 7 = .ok (.invokevirtual 75, 3) := by decide +kernel
theorem dX6_foresee_10 : decode cX6_foresee 10 = .ok (.ifCond .eq 12, 3) := by decide +kernel
theorem dX6_foresee_13 : decode cX6_foresee 13 = .ok (.iload_n 3, 1) := by decide +kernel
theorem dX6_foresee_14 : decode cX6_foresee 14 = .ok (.iconst 0, 1) := by decide +kernel
theorem dX6_foresee_15 : decode cX6_foresee 15 = .ok (.iconst 2, 1) := by decide +kernel
theorem dX6_foresee_16 : decode cX6_foresee 16 = .ok (.invokestatic 54, 3) := by decide +kernel
theorem dX6_foresee_19 : decode cX6_foresee 19 = .ok (.ifCond .ne 9, 3) := by decide +kernel
theorem dX6_foresee_22 : decode cX6_foresee 22 = .ok (.aload_n 0, 1) := by decide +kernel
theorem dX6_foresee_23 : decode cX6_foresee 23 = .ok (.iconst 1, 1) := by decide +kernel
theorem dX6_foresee_24 : decode cX6_foresee 24 = .ok (.invokevirtual 65, 3) := by decide +kernel
theorem dX6_foresee_27 : decode cX6_foresee 27 = .ok (.ireturn, 1) := by decide +kernel
theorem dX6_foresee_28 : decode cX6_foresee 28 = .ok (.iload_n 2, 1) := by decide +kernel
theorem dX6_foresee_29 : decode cX6_foresee 29 = .ok (.iconst 1, 1) := by decide +kernel
theorem dX6_foresee_30 : decode cX6_foresee 30 = .ok (.sipush 150, 3) := by decide +kernel
theorem dX6_foresee_33 : decode cX6_foresee 33 = .ok (.invokestatic 54, 3) := by decide +kernel
theorem dX6_foresee_36 : decode cX6_foresee 36 = .ok (.ifCond .ne 9, 3) := by decide +kernel
theorem dX6_foresee_39 : decode cX6_foresee 39 = .ok (.aload_n 0, 1) := by decide +kernel
theorem dX6_foresee_40 : decode cX6_foresee 40 = .ok (.iconst 2, 1) := by decide +kernel
theorem dX6_foresee_41 : decode cX6_foresee 41 = .ok (.invokevirtual 65, 3) := by decide +kernel
theorem dX6_foresee_44 : decode cX6_foresee 44 = .ok (.ireturn, 1) := by decide +kernel
theorem dX6_foresee_45 : decode cX6_foresee 45 = .ok (.aload_n 0, 1) := by decide +kernel
theorem dX6_foresee_46 : decode cX6_foresee 46 = .ok (.getfield 40, 3) := by decide +kernel
theorem dX6_foresee_49 : decode cX6_foresee 49 = .ok (.aload_n 0, 1) := by decide +kernel
theorem dX6_foresee_50 : decode cX6_foresee 50 = .ok (.getfield 36, 3) := by decide +kernel
theorem dX6_foresee_53 : decode cX6_foresee 53 = .ok (.invokevirtual 163, 3) := by decide +kernel
theorem dX6_foresee_56 : decode cX6_foresee 56 = .ok (.aload_n 0, 1) := by decide +kernel
theorem dX6_foresee_57 : decode cX6_foresee 57 = .ok (.aload_n 0, 1) := by decide +kernel
theorem dX6_foresee_58 : decode cX6_foresee 58 = .ok (.getfield 40, 3) := by decide +kernel
theorem dX6_foresee_61 : decode cX6_foresee 61 = .ok (.iload_n 2, 1) := by decide +kernel
theorem dX6_foresee_62 : decode cX6_foresee 62 = .ok (.invokevirtual 144, 3) := by decide +kernel
theorem dX6_foresee_65 : decode cX6_foresee 65 = .ok (.pop, 1) := by decide +kernel
theorem dX6_foresee_66 : decode cX6_foresee 66 = .ok (.iload_n 3, 1) := by decide +kernel
theorem dX6_foresee_67 : decode cX6_foresee 67 = .ok (.ifCond .ne 15, 3) := by decide +kernel
theorem dX6_foresee_70 : decode cX6_foresee 70 = .ok (.aload_n 0, 1) := by decide +kernel
theorem dX6_foresee_71 : decode cX6_foresee 71 = .ok (.getfield 40, 3) := by decide +kernel
theorem dX6_foresee_74 : decode cX6_foresee 74 = .ok (.getfield 69, 3) := by decide +kernel
theorem dX6_foresee_77 : decode cX6_foresee 77 = .ok (.iload_n 1, 1) := by decide +kernel
theorem dX6_foresee_78 : decode cX6_foresee 78 = .ok (.iaload, 1) := by decide +kernel
theorem dX6_foresee_79 : decode cX6_foresee 79 = .ok (.goto 45, 3) := by decide +kernel
