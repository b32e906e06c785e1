theorem dX5_pass_7 : decode cX5_pass 7 = .ok (.iload_n 3, 1) := by decide +kernel
theorem dX5_pass_8 : decode cX5_pass 8 = .ok (.aload_n 0, 1) := by decide +kernel
theorem dX5_pass_9 : decode cX5_pass 9 = .ok (.getfield 3, 3) := by decide +kernel
theorem dX5_pass_12 : decode cX5_pass 12 = .ok (.getfield 66, 3) := by decide +kernel
theorem dX5_pass_15 : decode cX5_pass 15 = .ok (.if_icmp .ge 13, 3) := by decide +kernel
theorem dX5_pass_18 : decode cX5_pass 18 = .ok (.aload_n 1, 1) := by decide +kernel
theorem dX5_pass_19 : decode cX5_pass 19 = .ok (.iload_n 3, 1) := by decide +kernel
theorem dX5_pass_20 : decode cX5_pass 20 = .ok (.iconst 0, 1) := by decide +kernel
theorem dX5_pass_21 : decode cX5_pass 21 = .ok (.bastore, 1) := by decide +kernel
theorem dX5_pass_22 : decode cX5_pass 22 = .ok (.iinc 3 1, 3) := by decide +kernel
theorem dX5_pass_25 : decode cX5_pass 25 = .ok (.goto (-18), 3) := by decide +kernel
theorem dX5_pass_28 : decode cX5_pass 28 = .ok (.iconst 0, 1) := by decide +kernel
theorem dX5_pass_29 : decode cX5_pass 29 = .ok (.istore_n 3, 1) := by decide +kernel
theorem dX5_pass_30 : decode cX5_pass 30 = .ok (.iload_n 3, 1) := by decide +kernel
theorem dX5_pass_31 : decode cX5_pass 31 = .ok (.aload_n 0, 1) := by decide +kernel
theorem dX5_pass_32 : decode cX5_pass 32 = .ok (.getfield 3, 3) := by decide +kernel
theorem dX5_pass_35 : decode cX5_pass 35 = .ok (.getfield 103, 3) := by decide +kernel
theorem dX5_pass_38 : decode cX5_pass 38 = .ok (.if_icmp .ge 15, 3) := by decide +kernel
theorem dX5_pass_41 : decode cX5_pass 41 = .ok (.aload_n 0, 1) := by decide +kernel
theorem dX5_pass_42 : decode cX5_pass 42 = .ok (.iload_n 3, 1) := by decide +kernel
theorem dX5_pass_43 : decode cX5_pass 43 = .ok (.aload_n 1, 1) := by decide +kernel
theorem dX5_pass_44 : decode cX5_pass 44 = .ok (.invokevirtual 124, 3) := by decide +kernel
theorem dX5_pass_47 : decode cX5_pass 47 = .ok (.iinc 3 1, 3) := by decide +kernel
theorem dX5_pass_50 : decode cX5_pass 50 = .ok (.goto (-20), 3) := by decide +kernel
theorem dX5_pass_53 : decode cX5_pass 53 = .ok (.iconst 0, 1) := by decide +kernel
theorem dX5_pass_54 : decode cX5_pass 54 = .ok (.istore_n 3, 1) := by decide +kernel
theorem dX5_pass_55 : decode cX5_pass 55 = .ok (.iload_n 3, 1) := by decide +kernel
theorem dX5_pass_56 : decode cX5_pass 56 = .ok (.aload_n 0, 1) := by decide +kernel
theorem dX5_pass_57 : decode cX5_pass 57 = .ok (.getfield 3, 3) := by decide +kernel
theorem dX5_pass_60 : decode cX5_pass 60 = .ok (.getfield 66, 3) := by decide +kernel
theorem dX5_pass_63 : decode cX5_pass 63 = .ok (.if_icmp .ge 66, 3) := by decide +kernel
theorem dX5_pass_66 : decode cX5_pass 66 = .ok (.aload_n 0, 1) := by decide +kernel
theorem dX5_pass_67 : decode cX5_pass 67 = .ok (.getfield 22, 3) := by decide +kernel
theorem dX5_pass_70 : decode cX5_pass 70 = .ok (.iload_n 3, 1) := by decide +kernel
theorem dX5_pass_71 : decode cX5_pass 71 = .ok (.iaload, 1) := by decide +kernel
theorem dX5_pass_72 : decode cX5_pass 72 = .ok (.iconst 1, 1) := by decide +kernel
theorem dX5_pass_73 : decode cX5_pass 73 = .ok (.if_icmp .ne 50, 3) := by decide +kernel
theorem dX5_pass_76 : decode cX5_pass 76 = .ok (.aload_n 0, 1) := by decide +kernel
theorem dX5_pass_77 : decode cX5_pass 77 = .ok (.getfield 31, 3) := by decide +kernel
theorem dX5_pass_80 : decode cX5_pass 80 = .ok (.iload_n 3, 1) := by decide +kernel
theorem dX5_pass_81 : decode cX5_pass 81 = .ok (.iaload, 1) := by decide +kernel
theorem dX5_pass_82 : decode cX5_pass 82 = .ok (.iconst (-1), 1) := by decide +kernel
theorem dX5_pass_83 : decode cX5_pass 83 = .ok (.if_icmp .eq 40, 3) := by decide +kernel
theorem dX5_pass_86 : decode cX5_pass 86 = .ok (.aload_n 0, 1) := by decide +kernel
theorem dX5_pass_87 : decode cX5_pass 87 = .ok (.getfield 31, 3) := by decide +kernel
theorem dX5_pass_90 : decode cX5_pass 90 = .ok (.iload_n 3, 1) := by decide +kernel
theorem dX5_pass_91 : decode cX5_pass 91 = .ok (.iaload, 1) := by decide +kernel
theorem dX5_pass_92 : decode cX5_pass 92 = .ok (.aload_n 0, 1) := by decide +kernel
theorem dX5_pass_93 : decode cX5_pass 93 = .ok (.getfield 52, 3) := by decide +kernel
theorem dX5_pass_96 : decode cX5_pass 96 = .ok (.if_icmp .gt 27, 3) := by decide +kernel
theorem dX5_pass_99 : decode cX5_pass 99 = .ok (.aload_n 0, 1) := by decide +kernel
theorem dX5_pass_100 : decode cX5_pass 100 = .ok (.iload_n 3, 1) := by decide +kernel
theorem dX5_pass_101 : decode cX5_pass 101 = .ok (.invokevirtual 128, 3) := by decide +kernel
theorem dX5_pass_104 : decode cX5_pass 104 = .ok (.ifCond .eq 6, 3) := by decide +kernel
theorem dX5_pass_107 : decode cX5_pass 107 = .ok (.goto 16, 3) := by decide +kernel
theorem dX5_pass_110 : decode cX5_pass 110 = .ok (.aload_n 0, 1) := by decide +kernel
theorem dX5_pass_111 : decode cX5_pass 111 = .ok (.iload_n 3, 1) := by decide +kernel
theorem dX5_pass_112 : decode cX5_pass 112 = .ok (.invokevirtual 131, 3) := by decide +kernel
theorem dX5_pass_115 : decode cX5_pass 115 = .ok (.pop, 1) := by decide +kernel
theorem dX5_pass_116 : decode cX5_pass 116 = .ok (.aload_n 0, 1) := by decide +kernel
theorem dX5_pass_117 : decode cX5_pass 117 = .ok (.getfield 22, 3) := by decide +kernel
theorem dX5_pass_120 : decode cX5_pass 120 = .ok (.iload_n 3, 1) := by decide +kernel
theorem dX5_pass_121 : decode cX5_pass 121 = .ok (.iconst 2, 1) := by decide +kernel
theorem dX5_pass_122 : decode cX5_pass 122 = .ok (.iastore, 1) := by decide +kernel
theorem dX5_pass_123 : decode cX5_pass 123 = .ok (.iinc 3 1, 3) := by decide +kernel
theorem dX5_pass_126 : decode cX5_pass 126 = .ok (.goto (-71), 3) := by decide +kernel
theorem dX5_pass_129 : decode cX5_pass 129 = .ok (.iconst 0, 1) := by decide +kernel
theorem dX5_pass_130 : decode cX5_pass 130 = .ok (.istore_n 3, 1) := by decide +kernel
theorem dX5_pass_131 : decode cX5_pass 131 = .ok (.iload_n 3, 1) := by decide +kernel
theorem dX5_pass_132 : decode cX5_pass 132 = .ok (.aload_n 0, 1) := by decide +kernel
theorem dX5_pass_133 : decode cX5_pass 133 = .ok (.getfield 3, 3) := by decide +kernel
theorem dX5_pass_136 : decode cX5_pass 136 = .ok (.getfield 66, 3) := by decide +kernel
theorem dX5_pass_139 : decode cX5_pass 139 = .ok (.if_icmp .ge 41, 3) := by decide +kernel
theorem dX5_pass_142 : decode cX5_pass 142 = .ok (.iconst 0, 1) := by decide +kernel
theorem dX5_pass_143 : decode cX5_pass 143 = .ok (.istore 4, 2) := by decide +kernel
theorem dX5_pass_145 : decode cX5_pass 145 = .ok (.iload 4, 2) := by decide +kernel
theorem dX5_pass_147 : decode cX5_pass 147 = .ok (.iconst 4, 1) := by decide +kernel
theorem dX5_pass_148 : decode cX5_pass 148 = .ok (.if_icmp .ge 26, 3) := by decide +kernel
theorem dX5_pass_151 : decode cX5_pass 151 = .ok (.aload_n 0, 1) := by decide +kernel
theorem dX5_pass_152 : decode cX5_pass 152 = .ok (.getfield 22, 3) := by decide +kernel
theorem dX5_pass_155 : decode cX5_pass 155 = .ok (.iload_n 3, 1) := by decide +kernel
theorem dX5_pass_156 : decode cX5_pass 156 = .ok (.iaload, 1) := by decide +kernel
theorem dX5_pass_157 : decode cX5_pass 157 = .ok (.iconst 1, 1) := by decide +kernel
theorem dX5_pass_158 : decode cX5_pass 158 = .ok (.if_icmp .ne 16, 3) := by decide +kernel
theorem dX5_pass_161 : decode cX5_pass 161 = .ok (.aload_n 0, 1) := by decide +kernel
theorem dX5_pass_162 : decode cX5_pass 162 = .ok (.iload_n 3, 1) := by decide +kernel
theorem dX5_pass_163 : decode cX5_pass 163 = .ok (.iload 4, 2) := by decide +kernel
theorem dX5_pass_165 : decode cX5_pass 165 = .ok (.invokevirtual 134, 3) := by decide +kernel
theorem dX5_pass_168 : decode cX5_pass 168 = .ok (.iinc 4 1, 3) := by decide +kernel
theorem dX5_pass_171 : decode cX5_pass 171 = .ok (.goto (-26), 3) := by decide +kernel
theorem dX5_pass_174 : decode cX5_pass 174 = .ok (.iinc 3 1, 3) := by decide +kernel
theorem dX5_pass_177 : decode cX5_pass 177 = .ok (.goto (-46), 3) := by decide +kernel
theorem dX5_pass_180 : decode cX5_pass 180 = .ok (.aload_n 0, 1) := by decide +kernel
theorem dX5_pass_181 : decode cX5_pass 181 = .ok (.dup, 1) := by decide +kernel
theorem dX5_pass_182 : decode cX5_pass 182 = .ok (.getfield 52, 3) := by decide +kernel
theorem dX5_pass_185 : decode cX5_pass 185 = .ok (.iconst 1, 1) := by decide +kernel
theorem dX5_pass_186 : decode cX5_pass 186 = .ok (.iadd, 1) := by decide +kernel
theorem dX5_pass_187 : decode cX5_pass 187 = .ok (.putfield 52, 3) := by decide +kernel
theorem dX5_pass_190 : decode cX5_pass 190 = .ok (.aload_n 0, 1) := by decide +kernel
theorem dX5_pass_191 : decode cX5_pass 191 = .ok (.getfield 56, 3) := by decide +kernel
theorem dX5_pass_194 : decode cX5_pass 194 = .ok (.iload_n 2, 1) := by decide +kernel
theorem dX5_pass_195 : decode cX5_pass 195 = .ok (.isub, 1) := by decide +kernel
theorem dX5_pass_196 : decode cX5_pass 196 = .ok (.ireturn, 1) := by decide +kernel
theorem dX5_all_0 : decode cX5_all 0 = .ok (.iconst 0, 1) := by decide +kernel
theorem dX5_all_1 : decode cX5_all 1 = .ok (.istore_n 2, 1) := by decide +kernel
theorem dX5_all_2 : decode cX5_all 2 = .ok (.aload_n 1, 1) := by decide +kernel
theorem dX5_all_3 : decode cX5_all 3 = .ok (.astore_n 3, 1) := by decide +kernel
theorem dX5_all_4 : decode cX5_all 4 = .ok (.aload_n 3, 1) := by decide +kernel
theorem dX5_all_5 : decode cX5_all 5 = .ok (.arraylength, 1) := by decide +kernel
theorem dX5_all_6 : decode cX5_all 6 = .ok (.istore 4, 2) := by decide +kernel
theorem dX5_all_8 : decode cX5_all 8 = .ok (.iconst 0, 1) := by decide +kernel
theorem dX5_all_9 : decode cX5_all 9 = .ok (.istore 5, 2) := by decide +kernel
theorem dX5_all_11 : decode cX5_all 11 = .ok (.iload 5, 2) := by decide +kernel
theorem dX5_all_13 : decode cX5_all 13 = .ok (.iload 4, 2) := by decide +kernel
theorem dX5_all_15 : decode cX5_all 15 = .ok (.if_icmp .ge 20, 3) := by decide +kernel
theorem dX5_all_18 : decode cX5_all 18 = .ok (.aload_n 3, 1) := by decide +kernel
theorem dX5_all_19 : decode cX5_all 19 = .ok (.iload 5, 2) := by decide +kernel
theorem dX5_all_21 : decode cX5_all 21 = .ok (.iaload, 1) := by decide +kernel
theorem dX5_all_22 : decode cX5_all 22 = .ok (.istore 6, 2) := by decide +kernel
theorem dX5_all_24 : decode cX5_all 24 = .ok (.iload_n 2, 1) := by decide +kernel
theorem dX5_all_25 : decode cX5_all 25 = .ok (.iload 6, 2) := by decide +kernel
theorem dX5_all_27 : decode cX5_all 27 = .ok (.iadd, 1) := by decide +kernel
theorem dX5_all_28 : decode cX5_all 28 = .ok (.istore_n 2, 1) := by decide +kernel
theorem dX5_all_29 : decode cX5_all 29 = .ok (.iinc 5 1, 3) := by decide +kernel
theorem dX5_all_32 : decode cX5_all 32 = .ok (.goto (-21), 3) := by decide +kernel
theorem dX5_all_35 : decode cX5_all 35 = .ok (.iload_n 2, 1) := by decide +kernel
theorem dX5_all_36 : decode cX5_all 36 = .ok (.ireturn, 1) := by decide +kernel
theorem dX5_being_0 : decode cX5_being 0 = .ok (.iconst 0, 1) := by decide +kernel
theorem dX5_being_1 : decode cX5_being 1 = .ok (.istore_n 2, 1) := by decide +kernel
theorem dX5_being_2 : decode cX5_being 2 = .ok (.iconst 0, 1) := by decide +kernel
theorem dX5_being_3 : decode cX5_being 3 = .ok (.istore_n 3, 1) := by decide +kernel
theorem dX5_being_4 : decode cX5_being 4 = .ok (.iload_n 3, 1) := by decide +kernel
theorem dX5_being_5 : decode cX5_being 5 = .ok (.aload_n 0, 1) := by decide +kernel
theorem dX5_being_6 : decode cX5_being 6 = .ok (.getfield 3, 3) := by decide +kernel
theorem dX5_being_9 : decode cX5_being 9 = .ok (.getfield 66, 3) := by decide +kernel
theorem dX5_being_12 : decode cX5_being 12 = .ok (.if_icmp .ge 27, 3) := by decide +kernel
theorem dX5_being_15 : decode cX5_being 15 = .ok (.iload_n 2, 1) := by decide +kernel
theorem dX5_being_16 : decode cX5_being 16 = .ok (.aload_n 0, 1) := by decide +kernel
theorem dX5_being_17 : decode cX5_being 17 = .ok (.getfield 22, 3) := by decide +kernel
theorem dX5_being_20 : decode cX5_being 20 = .ok (.iload_n 3, 1) := by decide +kernel
theorem dX5_being_21 : decode cX5_being 21 = .ok (.iaload, 1) := by decide +kernel
theorem dX5_being_22 : decode cX5_being 22 = .ok (.iload_n 1, 1) := by decide +kernel
theorem dX5_being_23 : decode cX5_being 23 = .ok (.if_icmp .ne 7, 3) := by decide +kernel
theorem dX5_being_26 : decode cX5_being 26 = .ok (.iconst 1, 1) := by decide +kernel
theorem dX5_being_27 : decode cX5_being 27 = .ok (.goto 4, 3) := by decide +kernel
theorem dX5_being_30 : decode cX5_being 30 = .ok (.iconst 0, 1) := by decide +kernel
theorem dX5_being_31 : decode cX5_being 31 = .ok (.iadd, 1) := by decide +kernel
theorem dX5_being_32 : decode cX5_being 32 = .ok (.istore_n 2, 1) := by decide +kernel
theorem dX5_being_33 : decode cX5_being 33 = .ok (.iinc 3 1, 3) := by decide +kernel
theorem dX5_being_36 : decode cX5_being 36 = .ok (.goto (-32), 3) := by decide +kernel
theorem dX5_being_39 : decode cX5_being 39 = .ok (.iload_n 2, 1) := by decide +kernel
theorem dX5_being_40 : decode cX5_being 40 = .ok (.ireturn, 1) := by decide +kernel
set_option maxRecDepth 20000 in
theorem ggX6_init_X5_init : GoodIn wsX6_init wsX5_init := goodIn_r _ [20, 21, 22, 2, 3, 4, 23, 24, 25, 26, 27, 28, 29, 30, 31, 32, 46, 47, 48, 49, 50, 51, 52, 53, 54, 55, 56, 57, 58, 59] (by decide +kernel) (by decide +kernel)
set_option maxRecDepth 20000 in
theorem gX6_init_X5_init_n33 : GoodIn wsX6_init (wsX5_init) := ggX6_init_X5_init
theorem dX6_init_0 : decode cX6_init 0 = .ok (.aload_n 0, 1) := by decide +kernel
theorem dX6_init_1 : decode cX6_init 1 = .ok (.invokespecial 1, 3) := by decide +kernel
theorem dX6_init_4 : decode cX6_init 4 = .ok (.aload_n 0, 1) := by decide +kernel
theorem dX6_init_5 : decode cX6_init 5 = .ok (.iconst 4, 1) := by decide +kernel
theorem dX6_init_6 : decode cX6_init 6 = .ok (.newarray .int, 2) := by decide +kernel
theorem dX6_init_8 : decode cX6_init 8 = .ok (.putfield 9, 3) := by decide +kernel
theorem dX6_init_11 : decode cX6_init 11 = .ok (.aload_n 0, 1) := by decide +kernel
theorem dX6_init_12 : decode cX6_init 12 = .ok (.bipush 24, 2) := by decide +kernel
theorem dX6_init_14 : decode cX6_init 14 = .ok (.newarray .int, 2) := by decide +kernel
theorem dX6_init_16 : decode cX6_init 16 = .ok (.putfield 13, 3) := by decide +kernel
theorem dX6_init_19 : decode cX6_init 19 = .ok (.aload_n 0, 1) := by decide +kernel
theorem dX6_init_20 : decode cX6_init 20 = .ok (.bipush 24, 2) := by decide +kernel
theorem dX6_init_22 : decode cX6_init 22 = .ok (.newarray .int, 2) := by decide +kernel
theorem dX6_init_24 : decode cX6_init 24 = .ok (.putfield 16, 3) := by decide +kernel
theorem dX6_init_27 : decode cX6_init 27 = .ok (.aload_n 0, 1) := by decide +kernel
theorem dX6_init_28 : decode cX6_init 28 = .ok (.bipush 14, 2) := by decide +kernel
theorem dX6_init_30 : decode cX6_init 30 = .ok (.newarray .int, 2) := by decide +kernel
theorem dX6_init_32 : decode cX6_init 32 = .ok (.putfield 19, 3) := by decide +kernel
theorem dX6_init_35 : decode cX6_init 35 = .ok (.aload_n 0, 1) := by decide +kernel
theorem dX6_init_36 : decode cX6_init 36 = .ok (.bipush 56, 2) := by decide +kernel
theorem dX6_init_38 : decode cX6_init 38 = .ok (.newarray .int, 2) := by decide +kernel
theorem dX6_init_40 : decode cX6_init 40 = .ok (.putfield 22, 3) := by decide +kernel
theorem dX6_init_43 : decode cX6_init 43 = .ok (.aload_n 0, 1) := by decide +kernel
theorem dX6_init_44 : decode cX6_init 44 = .ok (.bipush 56, 2) := by decide +kernel
theorem dX6_init_46 : decode cX6_init 46 = .ok (.newarray .int, 2) := by decide +kernel
theorem dX6_init_48 : decode cX6_init 48 = .ok (.putfield 25, 3) := by decide +kernel
theorem dX6_init_51 : decode cX6_init 51 = .ok (.aload_n 0, 1) := by decide +kernel
theorem dX6_init_52 : decode cX6_init 52 = .ok (.bipush 56, 2) := by decide +kernel
theorem dX6_init_54 : decode cX6_init 54 = .ok (.newarray .int, 2) := by decide +kernel
theorem dX6_init_56 : decode cX6_init 56 = .ok (.putfield 28, 3) := by decide +kernel
theorem dX6_init_59 : decode cX6_init 59 = .ok (.aload_n 0, 1) := by decide +kernel
theorem dX6_init_60 : decode cX6_init 60 = .ok (.new 31, 3) := by decide +kernel
theorem dX6_init_63 : decode cX6_init 63 = .ok (.dup, 1) := by decide +kernel
theorem dX6_init_64 : decode cX6_init 64 = .ok (.aload_n 0, 1) := by decide +kernel
theorem dX6_init_65 : decode cX6_init 65 = .ok (.invokespecial 33, 3) := by decide +kernel
theorem dX6_init_68 : decode cX6_init 68 = .ok (.putfield 36, 3) := by decide +kernel
theorem dX6_init_71 : decode cX6_init 71 = .ok (.aload_n 0, 1) := by decide +kernel
theorem dX6_init_72 : decode cX6_init 72 = .ok (.new 31, 3) := by decide +kernel
theorem dX6_init_75 : decode cX6_init 75 = .ok (.dup, 1) := by decide +kernel
theorem dX6_init_76 : decode cX6_init 76 = .ok (.aload_n 0, 1) := by decide +kernel
theorem dX6_init_77 : decode cX6_init 77 = .ok (.invokespecial 33, 3) := by decide +kernel
theorem dX6_init_80 : decode cX6_init 80 = .ok (.putfield 40, 3) := by decide +kernel
theorem dX6_init_83 : decode cX6_init 83 = .ok (.aload_n 0, 1) := by decide +kernel
theorem dX6_init_84 : decode cX6_init 84 = .ok (.bipush 14, 2) := by decide +kernel
theorem dX6_init_86 : decode cX6_init 86 = .ok (.newarray .boolean, 2) := by decide +kernel
theorem dX6_init_88 : decode cX6_init 88 = .ok (.putfield 43, 3) := by decide +kernel
theorem dX6_init_91 : decode cX6_init 91 = .ok (.iconst 0, 1) := by decide +kernel
theorem dX6_init_92 : decode cX6_init 92 = .ok (.istore_n 1, 1) := by decide +kernel
theorem dX6_init_93 : decode cX6_init 93 = .ok (.iload_n 1, 1) := by decide +kernel
theorem dX6_init_94 : decode cX6_init 94 = .ok (.bipush 24, 2) := by decide +kernel
theorem dX6_init_96 : decode cX6_init 96 = .ok (.if_icmp .ge 17, 3) := by decide +kernel
theorem dX6_init_99 : decode cX6_init 99 = .ok (.aload_n 0, 1) := by decide +kernel
theorem dX6_init_100 : decode cX6_init 100 = .ok (.getfield 13, 3) := by decide +kernel
theorem dX6_init_103 : decode cX6_init 103 = .ok (.iload_n 1, 1) := by decide +kernel
theorem dX6_init_104 : decode cX6_init 104 = .ok (.bipush 9, 2) := by decide +kernel
theorem dX6_init_106 : decode cX6_init 106 = .ok (.iastore, 1) := by decide +kernel
theorem dX6_init_107 : decode cX6_init 107 = .ok (.iinc 1 1, 3) := by decide +kernel
theorem dX6_init_110 : decode cX6_init 110 = .ok (.goto (-17), 3) := by decide +kernel
theorem dX6_init_113 : decode cX6_init 113 = .ok (.return_, 1) := by decide +kernel
theorem dX6_thrown_0 : decode cX6_thrown 0 = .ok (.aload_n 0, 1) := by decide +kernel
theorem dX6_thrown_1 : decode cX6_thrown 1 = .ok (.getfield 47, 3) := by decide +kernel
theorem dX6_thrown_4 : decode cX6_thrown 4 = .ok (.ireturn, 1) := by decide +kernel
theorem dX6_no_0 : decode cX6_no 0 = .ok (.aload_n 0, 1) := by decide +kernel
theorem dX6_no_1 : decode cX6_no 1 = .ok (.iload_n 1, 1) := by decide +kernel
theorem dX6_no_2 : decode cX6_no 2 = .ok (.putfield 47, 3) := by decide +kernel
theorem dX6_no_5 : decode cX6_no 5 = .ok (.iconst 0, 1) := by decide +kernel
theorem dX6_no_6 : decode cX6_no 6 = .ok (.ireturn, 1) := by decide +kernel
theorem dX6_isIn_0 : decode cX6_isIn 0 = .ok (.iload_n 0, 1) := by decide +kernel
theorem dX6_isIn_1 : decode cX6_isIn 1 = .ok (.iload_n 1, 1) := by decide +kernel
theorem dX6_isIn_2 : decode cX6_isIn 2 = .ok (.if_icmp .lt 12, 3) := by decide +kernel
theorem dX6_isIn_5 : decode cX6_isIn 5 = .ok (.iload_n 0, 1) := by decide +kernel
theorem dX6_isIn_6 : decode cX6_isIn 6 = .ok (.iload_n 2, 1) := by decide +kernel
theorem dX6_isIn_7 : decode cX6_isIn 7 = .ok (.if_icmp .gt 7, 3) := by decide +kernel
theorem dX6_isIn_10 : decode cX6_isIn 10 = .ok (.iconst 1, 1) := by decide +kernel
theorem dX6_isIn_11 : decode cX6_isIn 11 = .ok (.goto 4, 3) := by decide +kernel
theorem dX6_isIn_14 : decode cX6_isIn 14 = .ok (.iconst 0, 1) := by decide +kernel
theorem dX6_isIn_15 : decode cX6_isIn 15 = .ok (.ireturn, 1) := by decide +kernel
set_option maxRecDepth 20000 in
theorem ggX6_isCanoe_X6_isIn : GoodIn wsX6_isCanoe wsX6_isIn := goodIn_r _ [5] (by decide +kernel) (by decide +kernel)
set_option maxRecDepth 20000 in
theorem gX6_isCanoe_X6_isIn : GoodIn wsX6_isCanoe (va_wsS RX6 54 yX6_isIn wsX6_isIn) := goodIn_app (goodIn_of _ (by decide +kernel)) ggX6_isCanoe_X6_isIn
theorem dX6_isCanoe_0 : decode cX6_isCanoe 0 = .ok (.iload_n 1, 1) := by decide +kernel
theorem dX6_isCanoe_1 : decode cX6_isCanoe 1 = .ok (.iconst 0, 1) := by decide +kernel
theorem dX6_isCanoe_2 : decode cX6_isCanoe 2 = .ok (.aload_n 0, 1) := by decide +kernel
theorem dX6_isCanoe_3 : decode cX6_isCanoe 3 = .ok (.getfield 51, 3) := by decide +kernel
theorem dX6_isCanoe_6 : decode cX6_isCanoe 6 = .ok (.iconst 1, 1) := by decide +kernel
theorem dX6_isCanoe_7 : decode cX6_isCanoe 7 = .ok (.isub, 1) := by decide +kernel
theorem dX6_isCanoe_8 : decode cX6_isCanoe 8 = .ok (.invokestatic 54, 3) := by decide +kernel
theorem dX6_isCanoe_11 : decode cX6_isCanoe 11 = .ok (.ireturn, 1) := by decide +kernel
set_option maxRecDepth 20000 in
theorem ggX6_isRow_X6_isIn : GoodIn wsX6_isRow wsX6_isIn := goodIn_r _ [5] (by decide +kernel) (by decide +kernel)
set_option maxRecDepth 20000 in
theorem gX6_isRow_X6_isIn : GoodIn wsX6_isRow (va_wsS RX6 54 yX6_isIn wsX6_isIn) := goodIn_app (goodIn_of _ (by decide +kernel)) ggX6_isRow_X6_isIn
theorem dX6_isRow_0 : decode cX6_isRow 0 = .ok (.iload_n 1, 1) := by decide +kernel
theorem dX6_isRow_1 : decode cX6_isRow 1 = .ok (.iconst 0, 1) := by decide +kernel
theorem dX6_isRow_2 : decode cX6_isRow 2 = .ok (.aload_n 0, 1) := by decide +kernel
theorem dX6_isRow_3 : decode cX6_isRow 3 = .ok (.getfield 58, 3) := by decide +kernel
theorem dX6_isRow_6 : decode cX6_isRow 6 = .ok (.iconst 1, 1) := by decide +kernel
theorem dX6_isRow_7 : decode cX6_isRow 7 = .ok (.isub, 1) := by decide +kernel
theorem dX6_isRow_8 : decode cX6_isRow 8 = .ok (.invokestatic 54, 3) := by decide +kernel
theorem dX6_isRow_11 : decode cX6_isRow 11 = .ok (.ireturn, 1) := by decide +kernel
set_option maxRecDepth 20000 in
theorem ggX6_isGood_X6_isIn : GoodIn wsX6_isGood wsX6_isIn := goodIn_r _ [4] (by decide +kernel) (by decide +kernel)
set_option maxRecDepth 20000 in
theorem gX6_isGood_X6_isIn : GoodIn wsX6_isGood (va_wsS RX6 54 yX6_isIn wsX6_isIn) := goodIn_app (goodIn_of _ (by decide +kernel)) ggX6_isGood_X6_isIn
theorem dX6_isGood_0 : decode cX6_isGood 0 = .ok (.iload_n 0, 1) := by decide +kernel
theorem dX6_isGood_1 : decode cX6_isGood 1 = .ok (.iconst 0, 1) := by decide +kernel
theorem dX6_isGood_2 : decode cX6_isGood 2 = .ok (.iconst 3, 1) := by decide +kernel
theorem dX6_isGood_3 : decode cX6_isGood 3 = .ok (.invokestatic 54, 3) := by decide +kernel
theorem dX6_isGood_6 : decode cX6_isGood 6 = .ok (.ireturn, 1) := by decide +kernel
set_option maxRecDepth 20000 in
theorem ggX6_pass_X5_pass : GoodIn wsX6_pass wsX5_pass := goodIn_r _ [6, 7, 8, 9, 10, 11, 12, 13, 14, 5, 15, 16, 17, 18, 19, 20, 21, 22, 23, 24, 25, 26, 27, 28, 29, 30, 31, 32, 33, 34, 35, 36, 37, 38, 39, 40, 41, 42, 43, 44, 45, 46, 47, 48, 49, 50, 51, 52, 53, 54, 55, 56, 57, 58, 59, 60, 61, 62, 63, 64, 65, 66, 67, 81, 82, 83, 84, 85, 86, 87, 88, 89, 90, 91, 92, 93, 94, 68, 69, 70, 71, 72, 73, 74, 75, 76, 77, 78, 79, 80] (by decide +kernel) (by decide +kernel)
set_option maxRecDepth 20000 in
theorem gX6_pass_X5_pass : GoodIn wsX6_pass (wsV RX6 61 RX5 yX5_pass wsX5_pass) := goodIn_app (goodIn_of _ (by decide +kernel)) ggX6_pass_X5_pass
theorem dX6_pass_0 : decode cX6_pass 0 = .ok (.iconst 0, 1) := by decide +kernel
theorem dX6_pass_1 : decode cX6_pass 1 = .ok (.istore_n 3, 1) := by decide +kernel
theorem dX6_pass_2 : decode cX6_pass 2 = .ok (.iconst 0, 1) := by decide +kernel
theorem dX6_pass_3 : decode cX6_pass 3 = .ok (.istore 4, 2) := by decide +kernel
theorem dX6_pass_5 : decode cX6_pass 5 = .ok (.iload 4, 2) := by decide +kernel
theorem dX6_pass_7 : decode cX6_pass 7 = .ok (.iload_n 2, 1) := by decide +kernel
theorem dX6_pass_8 : decode cX6_pass 8 = .ok (.if_icmp .ge 20, 3) := by decide +kernel
theorem dX6_pass_11 : decode cX6_pass 11 = .ok (.iload_n 3, 1) := by decide +kernel
theorem dX6_pass_12 : decode cX6_pass 12 = .ok (.aload_n 1, 1) := by decide +kernel
theorem dX6_pass_13 : decode cX6_pass 13 = .ok (.aload_n 0, 1) := by decide +kernel
theorem dX6_pass_14 : decode cX6_pass 14 = .ok (.getfield 43, 3) := by decide +kernel
theorem dX6_pass_17 : decode cX6_pass 17 = .ok (.invokevirtual 61, 3) := by decide +kernel
theorem dX6_pass_20 : decode cX6_pass 20 = .ok (.iadd, 1) := by decide +kernel
theorem dX6_pass_21 : decode cX6_pass 21 = .ok (.istore_n 3, 1) := by decide +kernel
theorem dX6_pass_22 : decode cX6_pass 22 = .ok (.iinc 4 1, 3) := by decide +kernel
theorem dX6_pass_25 : decode cX6_pass 25 = .ok (.goto (-20), 3) := by decide +kernel
theorem dX6_pass_28 : decode cX6_pass 28 = .ok (.iload_n 3, 1) := by decide +kernel
theorem dX6_pass_29 : decode cX6_pass 29 = .ok (.ireturn, 1) := by decide +kernel
set_option maxRecDepth 20000 in
theorem ggX6_addRow_X6_isIn : GoodIn wsX6_addRow wsX6_isIn := goodIn_r _ [7] (by decide +kernel) (by decide +kernel)
set_option maxRecDepth 20000 in
theorem gX6_addRow_X6_isIn : GoodIn wsX6_addRow (va_wsS RX6 54 yX6_isIn wsX6_isIn) := goodIn_app (goodIn_of _ (by decide +kernel)) ggX6_addRow_X6_isIn
set_option maxRecDepth 20000 in
theorem ggX6_addRow_X6_no : GoodIn wsX6_addRow wsX6_no := goodIn_r _ [11, 1, 12, 13, 14, 15, 16, 17, 18, 19, 20, 21, 22, 23, 24] (by decide +kernel) (by decide +kernel)
set_option maxRecDepth 20000 in
theorem gX6_addRow_X6_no : GoodIn wsX6_addRow (wsV RX6 65 RX6 yX6_no wsX6_no) := goodIn_app (goodIn_of _ (by decide +kernel)) ggX6_addRow_X6_no
theorem dX6_addRow_0 : decode cX6_addRow 0 = .ok (.aload_n 0, 1) := by decide +kernel
theorem dX6_addRow_1 : decode cX6_addRow 1 = .ok (.iconst 0, 1) := by decide +kernel
theorem dX6_addRow_2 : decode cX6_addRow 2 = .ok (.putfield 47, 3) := by decide +kernel
theorem dX6_addRow_5 : decode cX6_addRow 5 = .ok (.iload_n 1, 1) := by decide +kernel
theorem dX6_addRow_6 : decode cX6_addRow 6 = .ok (.iconst 1, 1) := by decide +kernel
theorem dX6_addRow_7 : decode cX6_addRow 7 = .ok (.bipush 6, 2) := by decide +kernel
theorem dX6_addRow_9 : decode cX6_addRow 9 = .ok (.invokestatic 54, 3) := by decide +kernel
theorem dX6_addRow_12 : decode cX6_addRow 12 = .ok (.ifCond .ne 9, 3) := by decide +kernel
theorem dX6_addRow_15 : decode cX6_addRow 15 = .ok (.aload_n 0, 1) := by decide +kernel
theorem dX6_addRow_16 : decode cX6_addRow 16 = .ok (.iconst 1, 1) := by decide +kernel
theorem dX6_addRow_17 : decode cX6_addRow 17 = .ok (.invokevirtual 65, 3) := by decide +kernel
theorem dX6_addRow_20 : decode cX6_addRow 20 = .ok (.ireturn, 1) := by decide +kernel
theorem dX6_addRow_21 : decode cX6_addRow 21 = .ok (.aload_n 0, 1) := by decide +kernel
theorem dX6_addRow_22 : decode cX6_addRow 22 = .ok (.getfield 58, 3) := by decide +kernel
theorem dX6_addRow_25 : decode cX6_addRow 25 = .ok (.iconst 4, 1) := by decide +kernel
theorem dX6_addRow_26 : decode cX6_addRow 26 = .ok (.if_icmp .ne 9, 3) := by decide +kernel
theorem dX6_addRow_29 : decode cX6_addRow 29 = .ok (.aload_n 0, 1) := by decide +kernel
theorem dX6_addRow_30 : decode cX6_addRow 30 = .ok (.iconst 2, 1) := by decide +kernel
theorem dX6_addRow_31 : decode cX6_addRow 31 = .ok (.invokevirtual 65, 3) := by decide +kernel
theorem dX6_addRow_34 : decode cX6_addRow 34 = .ok (.ireturn, 1) := by decide +kernel
theorem dX6_addRow_35 : decode cX6_addRow 35 = .ok (.aload_n 0, 1) := by decide +kernel
theorem dX6_addRow_36 : decode cX6_addRow 36 = .ok (.getfield 9, 3) := by decide +kernel
theorem dX6_addRow_39 : decode cX6_addRow 39 = .ok (.aload_n 0, 1) := by decide +kernel
theorem dX6_addRow_40 : decode cX6_addRow 40 = .ok (.getfield 58, 3) := by decide +kernel
theorem dX6_addRow_43 : decode cX6_addRow 43 = .ok (.iload_n 1, 1) := by decide +kernel
theorem dX6_addRow_44 : decode cX6_addRow 44 = .ok (.iastore, 1) := by decide +kernel
theorem dX6_addRow_45 : decode cX6_addRow 45 = .ok (.aload_n 0, 1) := by decide +kernel
theorem dX6_addRow_46 : decode cX6_addRow 46 = .ok (.dup, 1) := by decide +kernel
theorem dX6_addRow_47 : decode cX6_addRow 47 = .ok (.getfield 58, 3) := by decide +kernel
theorem dX6_addRow_50 : decode cX6_addRow 50 = .ok (.iconst 1, 1) := by decide +kernel
theorem dX6_addRow_51 : decode cX6_addRow 51 = .ok (.iadd, 1) := by decide +kernel
theorem dX6_addRow_52 : decode cX6_addRow 52 = .ok (.putfield 58, 3) := by decide +kernel
theorem dX6_addRow_55 : decode cX6_addRow 55 = .ok (.aload_n 0, 1) := by decide +kernel
theorem dX6_addRow_56 : decode cX6_addRow 56 = .ok (.getfield 58, 3) := by decide +kernel
theorem dX6_addRow_59 : decode cX6_addRow 59 = .ok (.iconst 1, 1) := by decide +kernel
theorem dX6_addRow_60 : decode cX6_addRow 60 = .ok (.isub, 1) := by decide +kernel
theorem dX6_addRow_61 : decode cX6_addRow 61 = .ok (.ireturn, 1) := by decide +kernel
set_option maxRecDepth 20000 in
theorem ggX6_setWater_X6_isIn : GoodIn wsX6_setWater wsX6_isIn := goodIn_r _ [7] (by decide +kernel) (by decide +kernel)
set_option maxRecDepth 20000 in
theorem gX6_setWater_X6_isIn : GoodIn wsX6_setWater (va_wsS RX6 54 yX6_isIn wsX6_isIn) := goodIn_app (goodIn_of _ (by decide +kernel)) ggX6_setWater_X6_isIn
set_option maxRecDepth 20000 in
theorem ggX6_setWater_X6_no : GoodIn wsX6_setWater wsX6_no := goodIn_r _ [11, 1, 12, 13, 14, 15, 16, 17, 18, 19, 20, 21, 22, 23, 24] (by decide +kernel) (by decide +kernel)
set_option maxRecDepth 20000 in
theorem gX6_setWater_X6_no : GoodIn wsX6_setWater (wsV RX6 65 RX6 yX6_no wsX6_no) := goodIn_app (goodIn_of _ (by decide +kernel)) ggX6_setWater_X6_no
theorem dX6_setWater_0 : decode cX6_setWater 0 = .ok (.aload_n 0, 1) := by decide +kernel
theorem dX6_setWater_1 : decode cX6_setWater 1 = .ok (.iconst 0, 1) := by decide +kernel
theorem dX6_setWater_2 : decode cX6_setWater 2 = .ok (.putfield 47, 3) := by decide +kernel
theorem dX6_setWater_5 : decode cX6_setWater 5 = .ok (.iload_n 1, 1) := by decide +kernel
theorem dX6_setWater_6 : decode cX6_setWater 6 = .ok (.iconst 0, 1) := by decide +kernel
theorem dX6_setWater_7 : decode cX6_setWater 7 = .ok (.bipush 23, 2) := by decide +kernel
theorem dX6_setWater_9 : decode cX6_setWater 9 = .ok (.invokestatic 54, 3) := by decide +kernel
theorem dX6_setWater_12 : decode cX6_setWater 12 = .ok (.ifCond .ne 9, 3) := by decide +kernel
theorem dX6_setWater_15 : decode cX6_setWater 15 = .ok (.aload_n 0, 1) := by decide +kernel
theorem dX6_setWater_16 : decode cX6_setWater 16 = .ok (.iconst 1, 1) := by decide +kernel
theorem dX6_setWater_17 : decode cX6_setWater 17 = .ok (.invokevirtual 65, 3) := by decide +kernel
theorem dX6_setWater_20 : decode cX6_setWater 20 = .ok (.ireturn, 1) := by decide +kernel
theorem dX6_setWater_21 : decode cX6_setWater 21 = .ok (.iload_n 2, 1) := by decide +kernel
theorem dX6_setWater_22 : decode cX6_setWater 22 = .ok (.iconst 0, 1) := by decide +kernel
theorem dX6_setWater_23 : decode cX6_setWater 23 = .ok (.bipush 9, 2) := by decide +kernel
theorem dX6_setWater_25 : decode cX6_setWater 25 = .ok (.invokestatic 54, 3) := by decide +kernel
theorem dX6_setWater_28 : decode cX6_setWater 28 = .ok (.ifCond .eq 13, 3) := by decide +kernel
theorem dX6_setWater_31 : decode cX6_setWater 31 = .ok (.iload_n 3, 1) := by decide +kernel
theorem dX6_setWater_32 : decode cX6_setWater 32 = .ok (.iconst 0, 1) := by decide +kernel
theorem dX6_setWater_33 : decode cX6_setWater 33 = .ok (.bipush 9, 2) := by decide +kernel
theorem dX6_setWater_35 : decode cX6_setWater 35 = .ok (.invokestatic 54, 3) := by decide +kernel
theorem dX6_setWater_38 : decode cX6_setWater 38 = .ok (.ifCond .ne 9, 3) := by decide +kernel
theorem dX6_setWater_41 : decode cX6_setWater 41 = .ok (.aload_n 0, 1) := by decide +kernel
theorem dX6_setWater_42 : decode cX6_setWater 42 = .ok (.iconst 2, 1) := by decide +kernel
theorem dX6_setWater_43 : decode cX6_setWater 43 = .ok (.invokevirtual 65, 3) := by decide +kernel
theorem dX6_setWater_46 : decode cX6_setWater 46 = .ok (.ireturn, 1) := by decide +kernel
theorem dX6_setWater_47 : decode cX6_setWater 47 = .ok (.bipush 10, 2) := by decide +kernel
theorem dX6_setWater_49 : decode cX6_setWater 49 = .ok (.aload_n 0, 1) := by decide +kernel
theorem dX6_setWater_50 : decode cX6_setWater 50 = .ok (.getfield 13, 3) := by decide +kernel
theorem dX6_setWater_53 : decode cX6_setWater 53 = .ok (.iload_n 1, 1) := by decide +kernel
theorem dX6_setWater_54 : decode cX6_setWater 54 = .ok (.iaload, 1) := by decide +kernel
theorem dX6_setWater_55 : decode cX6_setWater 55 = .ok (.imul, 1) := by decide +kernel
theorem dX6_setWater_56 : decode cX6_setWater 56 = .ok (.aload_n 0, 1) := by decide +kernel
theorem dX6_setWater_57 : decode cX6_setWater 57 = .ok (.getfield 16, 3) := by decide +kernel
theorem dX6_setWater_60 : decode cX6_setWater 60 = .ok (.iload_n 1, 1) := by decide +kernel
theorem dX6_setWater_61 : decode cX6_setWater 61 = .ok (.iaload, 1) := by decide +kernel
theorem dX6_setWater_62 : decode cX6_setWater 62 = .ok (.iadd, 1) := by decide +kernel
theorem dX6_setWater_63 : decode cX6_setWater 63 = .ok (.istore 4, 2) := by decide +kernel
theorem dX6_setWater_65 : decode cX6_setWater 65 = .ok (.aload_n 0, 1) := by decide +kernel
theorem dX6_setWater_66 : decode cX6_setWater 66 = .ok (.getfield 13, 3) := by decide +kernel
theorem dX6_setWater_69 : decode cX6_setWater 69 = .ok (.iload_n 1, 1) := by decide +kernel
theorem dX6_setWater_70 : decode cX6_setWater 70 = .ok (.iload_n 2, 1) := by decide +kernel
theorem dX6_setWater_71 : decode cX6_setWater 71 = .ok (.iastore, 1) := by decide +kernel
theorem dX6_setWater_72 : decode cX6_setWater 72 = .ok (.aload_n 0, 1) := by decide +kernel
theorem dX6_setWater_73 : decode cX6_setWater 73 = .ok (.getfield 16, 3) := by decide +kernel
theorem dX6_setWater_76 : decode cX6_setWater 76 = .ok (.iload_n 1, 1) := by decide +kernel
theorem dX6_setWater_77 : decode cX6_setWater 77 = .ok (.iload_n 3, 1) := by decide +kernel
theorem dX6_setWater_78 : decode cX6_setWater 78 = .ok (.iastore, 1) := by decide +kernel
theorem dX6_setWater_79 : decode cX6_setWater 79 = .ok (.iload 4, 2) := by decide +kernel
theorem dX6_setWater_81 : decode cX6_setWater 81 = .ok (.ireturn, 1) := by decide +kernel
set_option maxRecDepth 20000 in
theorem ggX6_addCanoe_X6_isIn : GoodIn wsX6_addCanoe wsX6_isIn := goodIn_r _ [8] (by decide +kernel) (by decide +kernel)
set_option maxRecDepth 20000 in
theorem gX6_addCanoe_X6_isIn : GoodIn wsX6_addCanoe (va_wsS RX6 54 yX6_isIn wsX6_isIn) := goodIn_app (goodIn_of _ (by decide +kernel)) ggX6_addCanoe_X6_isIn
set_option maxRecDepth 20000 in
theorem ggX6_addCanoe_X6_no : GoodIn wsX6_addCanoe wsX6_no := goodIn_r _ [12, 1, 13, 14, 15, 16, 17, 18, 19, 20, 21, 22, 23, 24, 25] (by decide +kernel) (by decide +kernel)
set_option maxRecDepth 20000 in
theorem gX6_addCanoe_X6_no : GoodIn wsX6_addCanoe (wsV RX6 65 RX6 yX6_no wsX6_no) := goodIn_app (goodIn_of _ (by decide +kernel)) ggX6_addCanoe_X6_no
theorem dX6_addCanoe_0 : decode cX6_addCanoe 0 = .ok (.aload_n 0, 1) := by decide +kernel
theorem dX6_addCanoe_1 : decode cX6_addCanoe 1 = .ok (.iconst 0, 1) := by decide +kernel
theorem dX6_addCanoe_2 : decode cX6_addCanoe 2 = .ok (.putfield 47, 3) := by decide +kernel
theorem dX6_addCanoe_5 : decode cX6_addCanoe 5 = .ok (.iload_n 1, 1) := by decide +kernel
theorem dX6_addCanoe_6 : decode cX6_addCanoe 6 = .ok (.iconst 0, 1) := by decide +kernel
theorem dX6_addCanoe_7 : decode cX6_addCanoe 7 = .ok (.sipush 500, 3) := by decide +kernel
theorem dX6_addCanoe_10 : decode cX6_addCanoe 10 = .ok (.invokestatic 54, 3) := by decide +kernel
theorem dX6_addCanoe_13 : decode cX6_addCanoe 13 = .ok (.ifCond .eq 13, 3) := by decide +kernel
theorem dX6_addCanoe_16 : decode cX6_addCanoe 16 = .ok (.iload_n 2, 1) := by decide +kernel
theorem dX6_addCanoe_17 : decode cX6_addCanoe 17 = .ok (.iconst 0, 1) := by decide +kernel
theorem dX6_addCanoe_18 : decode cX6_addCanoe 18 = .ok (.bipush 9, 2) := by decide +kernel
theorem dX6_addCanoe_20 : decode cX6_addCanoe 20 = .ok (.invokestatic 54, 3) := by decide +kernel
theorem dX6_addCanoe_23 : decode cX6_addCanoe 23 = .ok (.ifCond .ne 9, 3) := by decide +kernel
theorem dX6_addCanoe_26 : decode cX6_addCanoe 26 = .ok (.aload_n 0, 1) := by decide +kernel
theorem dX6_addCanoe_27 : decode cX6_addCanoe 27 = .ok (.iconst 1, 1) := by decide +kernel
theorem dX6_addCanoe_28 : decode cX6_addCanoe 28 = .ok (.invokevirtual 65, 3) := by decide +kernel
theorem dX6_addCanoe_31 : decode cX6_addCanoe 31 = .ok (.ireturn, 1) := by decide +kernel
theorem dX6_addCanoe_32 : decode cX6_addCanoe 32 = .ok (.aload_n 0, 1) := by decide +kernel
theorem dX6_addCanoe_33 : decode cX6_addCanoe 33 = .ok (.getfield 51, 3) := by decide +kernel
theorem dX6_addCanoe_36 : decode cX6_addCanoe 36 = .ok (.bipush 14, 2) := by decide +kernel
theorem dX6_addCanoe_38 : decode cX6_addCanoe 38 = .ok (.if_icmp .ne 9, 3) := by decide +kernel
theorem dX6_addCanoe_41 : decode cX6_addCanoe 41 = .ok (.aload_n 0, 1) := by decide +kernel
theorem dX6_addCanoe_42 : decode cX6_addCanoe 42 = .ok (.iconst 2, 1) := by decide +kernel
theorem dX6_addCanoe_43 : decode cX6_addCanoe 43 = .ok (.invokevirtual 65, 3) := by decide +kernel
theorem dX6_addCanoe_46 : decode cX6_addCanoe 46 = .ok (.ireturn, 1) := by decide +kernel
theorem dX6_addCanoe_47 : decode cX6_addCanoe 47 = .ok (.aload_n 0, 1) := by decide +kernel
theorem dX6_addCanoe_48 : decode cX6_addCanoe 48 = .ok (.getfield 36, 3) := by decide +kernel
theorem dX6_addCanoe_51 : decode cX6_addCanoe 51 = .ok (.getfield 69, 3) := by decide +kernel
theorem dX6_addCanoe_54 : decode cX6_addCanoe 54 = .ok (.aload_n 0, 1) := by decide +kernel
theorem dX6_addCanoe_55 : decode cX6_addCanoe 55 = .ok (.getfield 51, 3) := by decide +kernel
theorem dX6_addCanoe_58 : decode cX6_addCanoe 58 = .ok (.iload_n 1, 1) := by decide +kernel
theorem dX6_addCanoe_59 : decode cX6_addCanoe 59 = .ok (.iastore, 1) := by decide +kernel
theorem dX6_addCanoe_60 : decode cX6_addCanoe 60 = .ok (.aload_n 0, 1) := by decide +kernel
theorem dX6_addCanoe_61 : decode cX6_addCanoe 61 = .ok (.getfield 36, 3) := by decide +kernel
theorem dX6_addCanoe_64 : decode cX6_addCanoe 64 = .ok (.getfield 72, 3) := by decide +kernel
theorem dX6_addCanoe_67 : decode cX6_addCanoe 67 = .ok (.aload_n 0, 1) := by decide +kernel
theorem dX6_addCanoe_68 : decode cX6_addCanoe 68 = .ok (.getfield 51, 3) := by decide +kernel
theorem dX6_addCanoe_71 : decode cX6_addCanoe 71 = .ok (.iconst (-1), 1) := by decide +kernel
theorem dX6_addCanoe_72 : decode cX6_addCanoe 72 = .ok (.iastore, 1) := by decide +kernel
theorem dX6_addCanoe_73 : decode cX6_addCanoe 73 = .ok (.aload_n 0, 1) := by decide +kernel
theorem dX6_addCanoe_74 : decode cX6_addCanoe 74 = .ok (.getfield 19, 3) := by decide +kernel
theorem dX6_addCanoe_77 : decode cX6_addCanoe 77 = .ok (.aload_n 0, 1) := by decide +kernel
theorem dX6_addCanoe_78 : decode cX6_addCanoe 78 = .ok (.getfield 51, 3) := by decide +kernel
theorem dX6_addCanoe_81 : decode cX6_addCanoe 81 = .ok (.iload_n 2, 1) := by decide +kernel
theorem dX6_addCanoe_82 : decode cX6_addCanoe 82 = .ok (.iastore, 1) := by decide +kernel
theorem dX6_addCanoe_83 : decode cX6_addCanoe 83 = .ok (.aload_n 0, 1) := by decide +kernel
theorem dX6_addCanoe_84 : decode cX6_addCanoe 84 = .ok (.dup, 1) := by decide +kernel
theorem dX6_addCanoe_85 : decode cX6_addCanoe 85 = .ok (.getfield 51, 3) := by decide +kernel
theorem dX6_addCanoe_88 : decode cX6_addCanoe 88 = .ok (.iconst 1, 1) := by decide +kernel
theorem dX6_addCanoe_89 : decode cX6_addCanoe 89 = .ok (.iadd, 1) := by decide +kernel
theorem dX6_addCanoe_90 : decode cX6_addCanoe 90 = .ok (.putfield 51, 3) := by decide +kernel
theorem dX6_addCanoe_93 : decode cX6_addCanoe 93 = .ok (.aload_n 0, 1) := by decide +kernel
theorem dX6_addCanoe_94 : decode cX6_addCanoe 94 = .ok (.getfield 51, 3) := by decide +kernel
theorem dX6_addCanoe_97 : decode cX6_addCanoe 97 = .ok (.iconst 1, 1) := by decide +kernel
theorem dX6_addCanoe_98 : decode cX6_addCanoe 98 = .ok (.isub, 1) := by decide +kernel
theorem dX6_addCanoe_99 : decode cX6_addCanoe 99 = .ok (.ireturn, 1) := by decide +kernel
set_option maxRecDepth 20000 in
theorem ggX6_load_X6_isCanoe : GoodIn wsX6_load wsX6_isCanoe := goodIn_r _ [7, 8, 9, 10, 6, 11, 19, 20, 21, 22, 23, 24, 25, 26, 27, 28, 29, 30, 31] (by decide +kernel) (by decide +kernel)
set_option maxRecDepth 20000 in
theorem gX6_load_X6_isCanoe : GoodIn wsX6_load (wsV RX6 75 RX6 yX6_isCanoe wsX6_isCanoe) := goodIn_app (goodIn_of _ (by decide +kernel)) ggX6_load_X6_isCanoe
set_option maxRecDepth 20000 in
theorem ggX6_load_X6_isGood : GoodIn wsX6_load wsX6_isGood := goodIn_r _ [14, 9, 10, 6, 11] (by decide +kernel) (by decide +kernel)
set_option maxRecDepth 20000 in
theorem gX6_load_X6_isGood : GoodIn wsX6_load (va_wsS RX6 79 yX6_isGood wsX6_isGood) := goodIn_app (goodIn_of _ (by decide +kernel)) ggX6_load_X6_isGood
set_option maxRecDepth 20000 in
theorem ggX6_load_X6_no : GoodIn wsX6_load wsX6_no := goodIn_r _ [18, 1, 19, 20, 21, 22, 23, 24, 25, 26, 27, 28, 29, 30, 31] (by decide +kernel) (by decide +kernel)
set_option maxRecDepth 20000 in
theorem gX6_load_X6_no : GoodIn wsX6_load (wsV RX6 65 RX6 yX6_no wsX6_no) := goodIn_app (goodIn_of _ (by decide +kernel)) ggX6_load_X6_no
set_option maxRecDepth 20000 in
theorem ggX6_load_X6_isIn : GoodIn wsX6_load wsX6_isIn := goodIn_r _ [11] (by decide +kernel) (by decide +kernel)
set_option maxRecDepth 20000 in
theorem gX6_load_X6_isIn : GoodIn wsX6_load (va_wsS RX6 54 yX6_isIn wsX6_isIn) := goodIn_app (goodIn_of _ (by decide +kernel)) ggX6_load_X6_isIn
theorem dX6_load_0 : decode cX6_load 0 = .ok (.aload_n 0, 1) := by decide +kernel
theorem dX6_load_1 : decode cX6_load 1 = .ok (.iconst 0, 1) := by decide +kernel
theorem dX6_load_2 : decode cX6_load 2 = .ok (.putfield 47, 3) := by decide +kernel
theorem dX6_load_5 : decode cX6_load 5 = .ok (.aload_n 0, 1) := by decide +kernel
theorem dX6_load_6 : decode cX6_load 6 = .ok (.iload_n 1, 1) := by decide +kernel
theorem dX6_load_7 : decode cX6_load 7 = .ok (.invokevirtual 75, 3) := by decide +kernel
theorem dX6_load_10 : decode cX6_load 10 = .ok (.ifCond .eq 10, 3) := by decide +kernel
theorem dX6_load_13 : decode cX6_load 13 = .ok (.iload_n 2, 1) := by decide +kernel
theorem dX6_load_14 : decode cX6_load 14 = .ok (.invokestatic 79, 3) := by decide +kernel
theorem dX6_load_17 : decode cX6_load 17 = .ok (.ifCond .ne 9, 3) := by decide +kernel
theorem dX6_load_20 : decode cX6_load 20 = .ok (.aload_n 0, 1) := by decide +kernel
theorem dX6_load_21 : decode cX6_load 21 = .ok (.iconst 1, 1) := by decide +kernel
theorem dX6_load_22 : decode cX6_load 22 = .ok (.invokevirtual 65, 3) := by decide +kernel
theorem dX6_load_25 : decode cX6_load 25 = .ok (.ireturn, 1) := by decide +kernel
theorem dX6_load_26 : decode cX6_load 26 = .ok (.iload_n 3, 1) := by decide +kernel
theorem dX6_load_27 : decode cX6_load 27 = .ok (.iconst 1, 1) := by decide +kernel
theorem dX6_load_28 : decode cX6_load 28 = .ok (.bipush 40, 2) := by decide +kernel
theorem dX6_load_30 : decode cX6_load 30 = .ok (.invokestatic 54, 3) := by decide +kernel
theorem dX6_load_33 : decode cX6_load 33 = .ok (.ifCond .ne 9, 3) := by decide +kernel
theorem dX6_load_36 : decode cX6_load 36 = .ok (.aload_n 0, 1) := by decide +kernel
theorem dX6_load_37 : decode cX6_load 37 = .ok (.iconst 2, 1) := by decide +kernel
theorem dX6_load_38 : decode cX6_load 38 = .ok (.invokevirtual 65, 3) := by decide +kernel
theorem dX6_load_41 : decode cX6_load 41 = .ok (.ireturn, 1) := by decide +kernel
theorem dX6_load_42 : decode cX6_load 42 = .ok (.iconst 4, 1) := by decide +kernel
theorem dX6_load_43 : decode cX6_load 43 = .ok (.iload_n 1, 1) := by decide +kernel
theorem dX6_load_44 : decode cX6_load 44 = .ok (.imul, 1) := by decide +kernel
theorem dX6_load_45 : decode cX6_load 45 = .ok (.iload_n 2, 1) := by decide +kernel
theorem dX6_load_46 : decode cX6_load 46 = .ok (.iadd, 1) := by decide +kernel
theorem dX6_load_47 : decode cX6_load 47 = .ok (.istore 4, 2) := by decide +kernel
theorem dX6_load_49 : decode cX6_load 49 = .ok (.aload_n 0, 1) := by decide +kernel
theorem dX6_load_50 : decode cX6_load 50 = .ok (.getfield 36, 3) := by decide +kernel
theorem dX6_load_53 : decode cX6_load 53 = .ok (.getfield 82, 3) := by decide +kernel
theorem dX6_load_56 : decode cX6_load 56 = .ok (.iload_n 1, 1) := by decide +kernel
theorem dX6_load_57 : decode cX6_load 57 = .ok (.iaload, 1) := by decide +kernel
theorem dX6_load_58 : decode cX6_load 58 = .ok (.iconst 2, 1) := by decide +kernel
theorem dX6_load_59 : decode cX6_load 59 = .ok (.if_icmp .eq 20, 3) := by decide +kernel
theorem dX6_load_62 : decode cX6_load 62 = .ok (.aload_n 0, 1) := by decide +kernel
theorem dX6_load_63 : decode cX6_load 63 = .ok (.getfield 36, 3) := by decide +kernel
theorem dX6_load_66 : decode cX6_load 66 = .ok (.getfield 85, 3) := by decide +kernel
theorem dX6_load_69 : decode cX6_load 69 = .ok (.iload 4, 2) := by decide +kernel
theorem dX6_load_71 : decode cX6_load 71 = .ok (.iaload, 1) := by decide +kernel
theorem dX6_load_72 : decode cX6_load 72 = .ok (.iload_n 3, 1) := by decide +kernel
theorem dX6_load_73 : decode cX6_load 73 = .ok (.iadd, 1) := by decide +kernel
theorem dX6_load_74 : decode cX6_load 74 = .ok (.bipush 100, 2) := by decide +kernel
theorem dX6_load_76 : decode cX6_load 76 = .ok (.if_icmp .le 9, 3) := by decide +kernel
theorem dX6_load_79 : decode cX6_load 79 = .ok (.aload_n 0, 1) := by decide +kernel
theorem dX6_load_80 : decode cX6_load 80 = .ok (.iconst 3, 1) := by decide +kernel
theorem dX6_load_81 : decode cX6_load 81 = .ok (.invokevirtual 65, 3) := by decide +kernel
theorem dX6_load_84 : decode cX6_load 84 = .ok (.ireturn, 1) := by decide +kernel
theorem dX6_load_85 : decode cX6_load 85 = .ok (.aload_n 0, 1) := by decide +kernel
theorem dX6_load_86 : decode cX6_load 86 = .ok (.getfield 36, 3) := by decide +kernel
theorem dX6_load_89 : decode cX6_load 89 = .ok (.getfield 85, 3) := by decide +kernel
theorem dX6_load_92 : decode cX6_load 92 = .ok (.iload 4, 2) := by decide +kernel
theorem dX6_load_94 : decode cX6_load 94 = .ok (.dup2, 1) := by decide +kernel
theorem dX6_load_95 : decode cX6_load 95 = .ok (.iaload, 1) := by decide +kernel
theorem dX6_load_96 : decode cX6_load 96 = .ok (.iload_n 3, 1) := by decide +kernel
theorem dX6_load_97 : decode cX6_load 97 = .ok (.iadd, 1) := by decide +kernel
theorem dX6_load_98 : decode cX6_load 98 = .ok (.iastore, 1) := by decide +kernel
theorem dX6_load_99 : decode cX6_load 99 = .ok (.aload_n 0, 1) := by decide +kernel
theorem dX6_load_100 : decode cX6_load 100 = .ok (.getfield 36, 3) := by decide +kernel
theorem dX6_load_103 : decode cX6_load 103 = .ok (.getfield 85, 3) := by decide +kernel
theorem dX6_load_106 : decode cX6_load 106 = .ok (.iload 4, 2) := by decide +kernel
theorem dX6_load_108 : decode cX6_load 108 = .ok (.iaload, 1) := by decide +kernel
theorem dX6_load_109 : decode cX6_load 109 = .ok (.ireturn, 1) := by decide +kernel
set_option maxRecDepth 20000 in
theorem ggX6_offer_X6_isCanoe : GoodIn wsX6_offer wsX6_isCanoe := goodIn_r _ [10, 11, 12, 13, 9, 14, 33, 34, 35, 36, 37, 38, 39, 40, 41, 42, 43, 44, 45] (by decide +kernel) (by decide +kernel)
set_option maxRecDepth 20000 in
theorem gX6_offer_X6_isCanoe : GoodIn wsX6_offer (wsV RX6 75 RX6 yX6_isCanoe wsX6_isCanoe) := goodIn_app (goodIn_of _ (by decide +kernel)) ggX6_offer_X6_isCanoe
set_option maxRecDepth 20000 in
theorem ggX6_offer_X6_isGood : GoodIn wsX6_offer wsX6_isGood := goodIn_r _ [17, 12, 13, 9, 14] (by decide +kernel) (by decide +kernel)
set_option maxRecDepth 20000 in
theorem gX6_offer_X6_isGood : GoodIn wsX6_offer (va_wsS RX6 79 yX6_isGood wsX6_isGood) := goodIn_app (goodIn_of _ (by decide +kernel)) ggX6_offer_X6_isGood
set_option maxRecDepth 20000 in
theorem ggX6_offer_X6_no : GoodIn wsX6_offer wsX6_no := goodIn_r _ [21, 1, 33, 34, 35, 36, 37, 38, 39, 40, 41, 42, 43, 44, 45] (by decide +kernel) (by decide +kernel)
set_option maxRecDepth 20000 in
theorem gX6_offer_X6_no : GoodIn wsX6_offer (wsV RX6 65 RX6 yX6_no wsX6_no) := goodIn_app (goodIn_of _ (by decide +kernel)) ggX6_offer_X6_no
set_option maxRecDepth 20000 in
theorem ggX6_offer_X6_isIn : GoodIn wsX6_offer wsX6_isIn := goodIn_r _ [14] (by decide +kernel) (by decide +kernel)
set_option maxRecDepth 20000 in
theorem gX6_offer_X6_isIn : GoodIn wsX6_offer (va_wsS RX6 54 yX6_isIn wsX6_isIn) := goodIn_app (goodIn_of _ (by decide +kernel)) ggX6_offer_X6_isIn
set_option maxRecDepth 20000 in
theorem ggX6_offer_X5_misses : GoodIn wsX6_offer wsX5_misses := goodIn_r _ [26, 27, 28, 29, 30, 31, 32, 46, 47, 48, 49, 50, 51, 52, 53, 54, 55, 56, 57, 58, 59, 33, 34, 35, 36, 37, 38, 39, 40, 41, 42, 43, 44, 45] (by decide +kernel) (by decide +kernel)
set_option maxRecDepth 20000 in
theorem gX6_offer_X5_misses : GoodIn wsX6_offer (wsV RX6 88 RX5 yX5_misses wsX5_misses) := goodIn_app (goodIn_of _ (by decide +kernel)) ggX6_offer_X5_misses
theorem dX6_offer_0 : decode cX6_offer 0 = .ok (.aload_n 0, 1) := by decide +kernel
theorem dX6_offer_1 : decode cX6_offer 1 = .ok (.iconst 0, 1) := by decide +kernel
theorem dX6_offer_2 : decode cX6_offer 2 = .ok (.putfield 47, 3) := by decide +kernel
theorem dX6_offer_5 : decode cX6_offer 5 = .ok (.aload_n 0, 1) := by decide +kernel
theorem dX6_offer_6 : decode cX6_offer 6 = .ok (.iload_n 1, 1) := by decide +kernel
theorem dX6_offer_7 : decode cX6_offer 7 = .ok (.invokevirtual 75, 3) := by decide +kernel
theorem dX6_offer_10 : decode cX6_offer 10 = .ok (.ifCond .eq 10, 3) := by decide +kernel
theorem dX6_offer_13 : decode cX6_offer 13 = .ok (.iload_n 2, 1) := by decide +kernel
theorem dX6_offer_14 : decode cX6_offer 14 = .ok (.invokestatic 79, 3) := by decide +kernel
theorem dX6_offer_17 : decode cX6_offer 17 = .ok (.ifCond .ne 9, 3) := by decide +kernel
theorem dX6_offer_20 : decode cX6_offer 20 = .ok (.aload_n 0, 1) := by decide +kernel
theorem dX6_offer_21 : decode cX6_offer 21 = .ok (.iconst 1, 1) := by decide +kernel
theorem dX6_offer_22 : decode cX6_offer 22 = .ok (.invokevirtual 65, 3) := by decide +kernel
theorem dX6_offer_25 : decode cX6_offer 25 = .ok (.ireturn, 1) := by decide +kernel
theorem dX6_offer_26 : decode cX6_offer 26 = .ok (.iload_n 3, 1) := by decide +kernel
theorem dX6_offer_27 : decode cX6_offer 27 = .ok (.iconst 0, 1) := by decide +kernel
theorem dX6_offer_28 : decode cX6_offer 28 = .ok (.bipush 20, 2) := by decide +kernel
theorem dX6_offer_30 : decode cX6_offer 30 = .ok (.invokestatic 54, 3) := by decide +kernel
theorem dX6_offer_33 : decode cX6_offer 33 = .ok (.ifCond .eq 25, 3) := by decide +kernel
theorem dX6_offer_36 : decode cX6_offer 36 = .ok (.iload 5, 2) := by decide +kernel
theorem dX6_offer_38 : decode cX6_offer 38 = .ok (.iconst 0, 1) := by decide +kernel
theorem dX6_offer_39 : decode cX6_offer 39 = .ok (.bipush 20, 2) := by decide +kernel
theorem dX6_offer_41 : decode cX6_offer 41 = .ok (.invokestatic 54, 3) := by decide +kernel
theorem dX6_offer_44 : decode cX6_offer 44 = .ok (.ifCond .eq 14, 3) := by decide +kernel
theorem dX6_offer_47 : decode cX6_offer 47 = .ok (.iload 4, 2) := by decide +kernel
theorem dX6_offer_49 : decode cX6_offer 49 = .ok (.iconst 0, 1) := by decide +kernel
theorem dX6_offer_50 : decode cX6_offer 50 = .ok (.bipush 40, 2) := by decide +kernel
theorem dX6_offer_52 : decode cX6_offer 52 = .ok (.invokestatic 54, 3) := by decide +kernel
theorem dX6_offer_55 : decode cX6_offer 55 = .ok (.ifCond .ne 9, 3) := by decide +kernel
theorem dX6_offer_58 : decode cX6_offer 58 = .ok (.aload_n 0, 1) := by decide +kernel
theorem dX6_offer_59 : decode cX6_offer 59 = .ok (.iconst 2, 1) := by decide +kernel
theorem dX6_offer_60 : decode cX6_offer 60 = .ok (.invokevirtual 65, 3) := by decide +kernel
theorem dX6_offer_63 : decode cX6_offer 63 = .ok (.ireturn, 1) := by decide +kernel
theorem dX6_offer_64 : decode cX6_offer 64 = .ok (.iconst 4, 1) := by decide +kernel
theorem dX6_offer_65 : decode cX6_offer 65 = .ok (.iload_n 1, 1) := by decide +kernel
theorem dX6_offer_66 : decode cX6_offer 66 = .ok (.imul, 1) := by decide +kernel
theorem dX6_offer_67 : decode cX6_offer 67 = .ok (.iload_n 2, 1) := by decide +kernel
theorem dX6_offer_68 : decode cX6_offer 68 = .ok (.iadd, 1) := by decide +kernel
theorem dX6_offer_69 : decode cX6_offer 69 = .ok (.istore 6, 2) := by decide +kernel
theorem dX6_offer_71 : decode cX6_offer 71 = .ok (.aload_n 0, 1) := by decide +kernel
theorem dX6_offer_72 : decode cX6_offer 72 = .ok (.getfield 22, 3) := by decide +kernel
theorem dX6_offer_75 : decode cX6_offer 75 = .ok (.iload 6, 2) := by decide +kernel
theorem dX6_offer_77 : decode cX6_offer 77 = .ok (.iload_n 3, 1) := by decide +kernel
theorem dX6_offer_78 : decode cX6_offer 78 = .ok (.iastore, 1) := by decide +kernel
theorem dX6_offer_79 : decode cX6_offer 79 = .ok (.aload_n 0, 1) := by decide +kernel
theorem dX6_offer_80 : decode cX6_offer 80 = .ok (.getfield 25, 3) := by decide +kernel
theorem dX6_offer_83 : decode cX6_offer 83 = .ok (.iload 6, 2) := by decide +kernel
theorem dX6_offer_85 : decode cX6_offer 85 = .ok (.iload 4, 2) := by decide +kernel
theorem dX6_offer_87 : decode cX6_offer 87 = .ok (.iastore, 1) := by decide +kernel
theorem dX6_offer_88 : decode cX6_offer 88 = .ok (.aload_n 0, 1) := by decide +kernel
theorem dX6_offer_89 : decode cX6_offer 89 = .ok (.getfield 28, 3) := by decide +kernel
theorem dX6_offer_92 : decode cX6_offer 92 = .ok (.iload 6, 2) := by decide +kernel
theorem dX6_offer_94 : decode cX6_offer 94 = .ok (.iload 5, 2) := by decide +kernel
theorem dX6_offer_96 : decode cX6_offer 96 = .ok (.iastore, 1) := by decide +kernel
theorem dX6_offer_97 : decode cX6_offer 97 = .ok (.aload_n 0, 1) := by decide +kernel
theorem dX6_offer_98 : decode cX6_offer 98 = .ok (.getfield 36, 3) := by decide +kernel
theorem dX6_offer_101 : decode cX6_offer 101 = .ok (.iload_n 1, 1) := by decide +kernel
theorem dX6_offer_102 : decode cX6_offer 102 = .ok (.iload_n 2, 1) := by decide +kernel
theorem dX6_offer_103 : decode cX6_offer 103 = .ok (.invokevirtual 88, 3) := by decide +kernel
theorem dX6_offer_106 : decode cX6_offer 106 = .ok (.ireturn, 1) := by decide +kernel
set_option maxRecDepth 20000 in
theorem ggX6_moor_X6_isCanoe : GoodIn wsX6_moor wsX6_isCanoe := goodIn_r _ [7, 8, 9, 10, 6, 11, 38, 39, 40, 41, 42, 43, 44, 45, 46, 47, 48, 49, 50] (by decide +kernel) (by decide +kernel)
set_option maxRecDepth 20000 in
theorem gX6_moor_X6_isCanoe : GoodIn wsX6_moor (wsV RX6 75 RX6 yX6_isCanoe wsX6_isCanoe) := goodIn_app (goodIn_of _ (by decide +kernel)) ggX6_moor_X6_isCanoe
set_option maxRecDepth 20000 in
theorem ggX6_moor_X6_isRow : GoodIn wsX6_moor wsX6_isRow := goodIn_r _ [15, 16, 9, 10, 6, 11, 38, 39, 40, 41, 42, 43, 44, 45, 46, 47, 48, 49, 50] (by decide +kernel) (by decide +kernel)
set_option maxRecDepth 20000 in
theorem gX6_moor_X6_isRow : GoodIn wsX6_moor (wsV RX6 92 RX6 yX6_isRow wsX6_isRow) := goodIn_app (goodIn_of _ (by decide +kernel)) ggX6_moor_X6_isRow
set_option maxRecDepth 20000 in
theorem ggX6_moor_X6_no : GoodIn wsX6_moor wsX6_no := goodIn_r _ [20, 1, 38, 39, 40, 41, 42, 43, 44, 45, 46, 47, 48, 49, 50] (by decide +kernel) (by decide +kernel)
set_option maxRecDepth 20000 in
theorem gX6_moor_X6_no : GoodIn wsX6_moor (wsV RX6 65 RX6 yX6_no wsX6_no) := goodIn_app (goodIn_of _ (by decide +kernel)) ggX6_moor_X6_no
set_option maxRecDepth 20000 in
theorem ggX6_moor_X5_isFull : GoodIn wsX6_moor wsX5_isFull := goodIn_r _ [25, 26, 27, 28, 29, 24, 30, 31, 32, 51, 52, 53, 54, 55, 56, 57, 58, 59, 60, 61, 62, 63, 64, 38, 39, 40, 41, 42, 43, 44, 45, 46, 47, 48, 49, 50] (by decide +kernel) (by decide +kernel)
set_option maxRecDepth 20000 in
theorem gX6_moor_X5_isFull : GoodIn wsX6_moor (wsV RX6 95 RX5 yX5_isFull wsX5_isFull) := goodIn_app (goodIn_of _ (by decide +kernel)) ggX6_moor_X5_isFull
set_option maxRecDepth 20000 in
theorem ggX6_moor_X5_moor : GoodIn wsX6_moor wsX5_moor := goodIn_r _ [36, 37, 32, 31, 27, 28, 29, 24, 30, 26, 51, 52, 53, 54, 55, 56, 57, 58, 59, 60, 61, 62, 63, 64, 38, 39, 40, 41, 42, 43, 44, 45, 46, 47, 48, 49, 50] (by decide +kernel) (by decide +kernel)
set_option maxRecDepth 20000 in
theorem gX6_moor_X5_moor : GoodIn wsX6_moor (wsV RX6 98 RX5 yX5_moor wsX5_moor) := goodIn_app (goodIn_of _ (by decide +kernel)) ggX6_moor_X5_moor
theorem dX6_moor_0 : decode cX6_moor 0 = .ok (.aload_n 0, 1) := by decide +kernel
theorem dX6_moor_1 : decode cX6_moor 1 = .ok (.iconst 0, 1) := by decide +kernel
theorem dX6_moor_2 : decode cX6_moor 2 = .ok (.putfield 47, 3) := by decide +kernel
theorem dX6_moor_5 : decode cX6_moor 5 = .ok (.aload_n 0, 1) := by decide +kernel
theorem dX6_moor_6 : decode cX6_moor 6 = .ok (.iload_n 1, 1) := by decide +kernel
theorem dX6_moor_7 : decode cX6_moor 7 = .ok (.invokevirtual 75, 3) := by decide +kernel
theorem dX6_moor_10 : decode cX6_moor 10 = .ok (.ifCond .eq 11, 3) := by decide +kernel
theorem dX6_moor_13 : decode cX6_moor 13 = .ok (.aload_n 0, 1) := by decide +kernel
theorem dX6_moor_14 : decode cX6_moor 14 = .ok (.iload_n 2, 1) := by decide +kernel
theorem dX6_moor_15 : decode cX6_moor 15 = .ok (.invokevirtual 92, 3) := by decide +kernel
theorem dX6_moor_18 : decode cX6_moor 18 = .ok (.ifCond .ne 9, 3) := by decide +kernel
theorem dX6_moor_21 : decode cX6_moor 21 = .ok (.aload_n 0, 1) := by decide +kernel
theorem dX6_moor_22 : decode cX6_moor 22 = .ok (.iconst 1, 1) := by decide +kernel
theorem dX6_moor_23 : decode cX6_moor 23 = .ok (.invokevirtual 65, 3) := by decide +kernel
theorem dX6_moor_26 : decode cX6_moor 26 = .ok (.ireturn, 1) := by decide +kernel
theorem dX6_moor_27 : decode cX6_moor 27 = .ok (.aload_n 0, 1) := by decide +kernel
theorem dX6_moor_28 : decode cX6_moor 28 = .ok (.getfield 36, 3) := by decide +kernel
theorem dX6_moor_31 : decode cX6_moor 31 = .ok (.getfield 82, 3) := by decide +kernel
theorem dX6_moor_34 : decode cX6_moor 34 = .ok (.iload_n 1, 1) := by decide +kernel
theorem dX6_moor_35 : decode cX6_moor 35 = .ok (.iaload, 1) := by decide +kernel
theorem dX6_moor_36 : decode cX6_moor 36 = .ok (.ifCond .ne 14, 3) := by decide +kernel
theorem dX6_moor_39 : decode cX6_moor 39 = .ok (.aload_n 0, 1) := by decide +kernel
theorem dX6_moor_40 : decode cX6_moor 40 = .ok (.getfield 36, 3) := by decide +kernel
theorem dX6_moor_43 : decode cX6_moor 43 = .ok (.iload_n 2, 1) := by decide +kernel
theorem dX6_moor_44 : decode cX6_moor 44 = .ok (.invokevirtual 95, 3) := by decide +kernel
theorem dX6_moor_47 : decode cX6_moor 47 = .ok (.ifCond .eq 9, 3) := by decide +kernel
theorem dX6_moor_50 : decode cX6_moor 50 = .ok (.aload_n 0, 1) := by decide +kernel
theorem dX6_moor_51 : decode cX6_moor 51 = .ok (.iconst 2, 1) := by decide +kernel
theorem dX6_moor_52 : decode cX6_moor 52 = .ok (.invokevirtual 65, 3) := by decide +kernel
theorem dX6_moor_55 : decode cX6_moor 55 = .ok (.ireturn, 1) := by decide +kernel
theorem dX6_moor_56 : decode cX6_moor 56 = .ok (.aload_n 0, 1) := by decide +kernel
theorem dX6_moor_57 : decode cX6_moor 57 = .ok (.getfield 36, 3) := by decide +kernel
theorem dX6_moor_60 : decode cX6_moor 60 = .ok (.iload_n 1, 1) := by decide +kernel
theorem dX6_moor_61 : decode cX6_moor 61 = .ok (.iload_n 2, 1) := by decide +kernel
theorem dX6_moor_62 : decode cX6_moor 62 = .ok (.invokevirtual 98, 3) := by decide +kernel
theorem dX6_moor_65 : decode cX6_moor 65 = .ok (.aload_n 0, 1) := by decide +kernel
theorem dX6_moor_66 : decode cX6_moor 66 = .ok (.getfield 36, 3) := by decide +kernel
theorem dX6_moor_69 : decode cX6_moor 69 = .ok (.getfield 102, 3) := by decide +kernel
theorem dX6_moor_72 : decode cX6_moor 72 = .ok (.iload_n 1, 1) := by decide +kernel
theorem dX6_moor_73 : decode cX6_moor 73 = .ok (.iaload, 1) := by decide +kernel
theorem dX6_moor_74 : decode cX6_moor 74 = .ok (.ireturn, 1) := by decide +kernel
set_option maxRecDepth 20000 in
theorem ggX6_castOff_X6_isCanoe : GoodIn wsX6_castOff wsX6_isCanoe := goodIn_r _ [7, 8, 9, 10, 6, 11, 31, 32, 33, 34, 35, 36, 37, 38, 39, 40, 41, 42, 43] (by decide +kernel) (by decide +kernel)
set_option maxRecDepth 20000 in
theorem gX6_castOff_X6_isCanoe : GoodIn wsX6_castOff (wsV RX6 75 RX6 yX6_isCanoe wsX6_isCanoe) := goodIn_app (goodIn_of _ (by decide +kernel)) ggX6_castOff_X6_isCanoe
set_option maxRecDepth 20000 in
theorem ggX6_castOff_X6_no : GoodIn wsX6_castOff wsX6_no := goodIn_r _ [15, 1, 31, 32, 33, 34, 35, 36, 37, 38, 39, 40, 41, 42, 43] (by decide +kernel) (by decide +kernel)
set_option maxRecDepth 20000 in
theorem gX6_castOff_X6_no : GoodIn wsX6_castOff (wsV RX6 65 RX6 yX6_no wsX6_no) := goodIn_app (goodIn_of _ (by decide +kernel)) ggX6_castOff_X6_no
set_option maxRecDepth 20000 in
theorem ggX6_castOff_X5_isDry : GoodIn wsX6_castOff wsX5_isDry := goodIn_r _ [20, 21, 22, 23, 44, 45, 46, 47, 48, 49, 50, 51, 52, 53, 54, 55, 56, 57, 31, 32, 33, 34, 35, 36, 37, 38, 39, 40, 41, 42, 43] (by decide +kernel) (by decide +kernel)
set_option maxRecDepth 20000 in
theorem gX6_castOff_X5_isDry : GoodIn wsX6_castOff (wsV RX6 105 RX5 yX5_isDry wsX5_isDry) := goodIn_app (goodIn_of _ (by decide +kernel)) ggX6_castOff_X5_isDry
set_option maxRecDepth 20000 in
theorem ggX6_castOff_X5_castOff : GoodIn wsX6_castOff wsX5_castOff := goodIn_r _ [27, 28, 22, 29, 21, 30, 44, 45, 46, 47, 48, 49, 50, 51, 52, 53, 54, 55, 56, 57, 31, 32, 33, 34, 35, 36, 37, 38, 39, 40, 41, 42, 43] (by decide +kernel) (by decide +kernel)
set_option maxRecDepth 20000 in
theorem gX6_castOff_X5_castOff : GoodIn wsX6_castOff (wsV RX6 108 RX5 yX5_castOff wsX5_castOff) := goodIn_app (goodIn_of _ (by decide +kernel)) ggX6_castOff_X5_castOff
theorem dX6_castOff_0 : decode cX6_castOff 0 = .ok (.aload_n 0, 1) := by decide +kernel
theorem dX6_castOff_1 : decode cX6_castOff 1 = .ok (.iconst 0, 1) := by decide +kernel
theorem dX6_castOff_2 : decode cX6_castOff 2 = .ok (.putfield 47, 3) := by decide +kernel
theorem dX6_castOff_5 : decode cX6_castOff 5 = .ok (.aload_n 0, 1) := by decide +kernel
theorem dX6_castOff_6 : decode cX6_castOff 6 = .ok (.iload_n 1, 1) := by decide +kernel
theorem dX6_castOff_7 : decode cX6_castOff 7 = .ok (.invokevirtual 75, 3) := by decide +kernel
theorem dX6_castOff_10 : decode cX6_castOff 10 = .ok (.ifCond .ne 9, 3) := by decide +kernel
theorem dX6_castOff_13 : decode cX6_castOff 13 = .ok (.aload_n 0, 1) := by decide +kernel
theorem dX6_castOff_14 : decode cX6_castOff 14 = .ok (.iconst 1, 1) := by decide +kernel
theorem dX6_castOff_15 : decode cX6_castOff 15 = .ok (.invokevirtual 65, 3) := by decide +kernel
theorem dX6_castOff_18 : decode cX6_castOff 18 = .ok (.ireturn, 1) := by decide +kernel
theorem dX6_castOff_19 : decode cX6_castOff 19 = .ok (.aload_n 0, 1) := by decide +kernel
theorem dX6_castOff_20 : decode cX6_castOff 20 = .ok (.getfield 36, 3) := by decide +kernel
theorem dX6_castOff_23 : decode cX6_castOff 23 = .ok (.getfield 82, 3) := by decide +kernel
theorem dX6_castOff_26 : decode cX6_castOff 26 = .ok (.iload_n 1, 1) := by decide +kernel
theorem dX6_castOff_27 : decode cX6_castOff 27 = .ok (.iaload, 1) := by decide +kernel
theorem dX6_castOff_28 : decode cX6_castOff 28 = .ok (.iconst 1, 1) := by decide +kernel
theorem dX6_castOff_29 : decode cX6_castOff 29 = .ok (.if_icmp .ne 14, 3) := by decide +kernel
theorem dX6_castOff_32 : decode cX6_castOff 32 = .ok (.aload_n 0, 1) := by decide +kernel
theorem dX6_castOff_33 : decode cX6_castOff 33 = .ok (.getfield 36, 3) := by decide +kernel
theorem dX6_castOff_36 : decode cX6_castOff 36 = .ok (.iload_n 1, 1) := by decide +kernel
theorem dX6_castOff_37 : decode cX6_castOff 37 = .ok (.invokevirtual 105, 3) := by decide +kernel
theorem dX6_castOff_40 : decode cX6_castOff 40 = .ok (.ifCond .eq 11, 3) := by decide +kernel
theorem dX6_castOff_43 : decode cX6_castOff 43 = .ok (.aload_n 0, 1) := by decide +kernel
theorem dX6_castOff_44 : decode cX6_castOff 44 = .ok (.iconst 2, 1) := by decide +kernel
theorem dX6_castOff_45 : decode cX6_castOff 45 = .ok (.invokevirtual 65, 3) := by decide +kernel
theorem dX6_castOff_48 : decode cX6_castOff 48 = .ok (.goto 11, 3) := by decide +kernel
theorem dX6_castOff_51 : decode cX6_castOff 51 = .ok (.aload_n 0, 1) := by decide +kernel
theorem dX6_castOff_52 : decode cX6_castOff 52 = .ok (.getfield 36, 3) := by decide +kernel
theorem dX6_castOff_55 : decode cX6_castOff 55 = .ok (.iload_n 1, 1) := by decide +kernel
theorem dX6_castOff_56 : decode cX6_castOff 56 = .ok (.invokevirtual 108, 3) := by decide +kernel
