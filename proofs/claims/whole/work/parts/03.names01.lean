set_option maxRecDepth 20000 in
theorem gX1_init_X2_init : GoodIn wsX1_init (wsX2_init) := ggX1_init_X2_init
set_option maxRecDepth 20000 in
theorem ggX1_init_X0_init : GoodIn wsX1_init wsX0_init := goodIn_r _ [21, 22, 2, 3, 23, 17, 24, 25, 26, 27, 28, 29, 30, 31, 32, 46, 47, 48, 49, 50, 51, 52, 53, 54, 55, 56, 57, 58, 59, 60, 61] (by decide +kernel) (by decide +kernel)
set_option maxRecDepth 20000 in
theorem gX1_init_X0_init : GoodIn wsX1_init (wsX0_init) := ggX1_init_X0_init
theorem dX1_init_0 : decode cX1_init 0 = .ok (.aload_n 0, 1) := by decide +kernel
theorem dX1_init_1 : decode cX1_init 1 = .ok (.invokespecial 3, 3) := by decide +kernel
theorem dX1_init_4 : decode cX1_init 4 = .ok (.aload_n 0, 1) := by decide +kernel
theorem dX1_init_5 : decode cX1_init 5 = .ok (.aload_n 1, 1) := by decide +kernel
theorem dX1_init_6 : decode cX1_init 6 = .ok (.putfield 9, 3) := by decide +kernel
theorem dX1_init_9 : decode cX1_init 9 = .ok (.aload_n 0, 1) := by decide +kernel
theorem dX1_init_10 : decode cX1_init 10 = .ok (.iconst 4, 1) := by decide +kernel
theorem dX1_init_11 : decode cX1_init 11 = .ok (.anewarray 15, 3) := by decide +kernel
theorem dX1_init_14 : decode cX1_init 14 = .ok (.putfield 17, 3) := by decide +kernel
theorem dX1_init_17 : decode cX1_init 17 = .ok (.iconst 0, 1) := by decide +kernel
theorem dX1_init_18 : decode cX1_init 18 = .ok (.istore_n 2, 1) := by decide +kernel
theorem dX1_init_19 : decode cX1_init 19 = .ok (.iload_n 2, 1) := by decide +kernel
theorem dX1_init_20 : decode cX1_init 20 = .ok (.iconst 4, 1) := by decide +kernel
theorem dX1_init_21 : decode cX1_init 21 = .ok (.if_icmp .ge 22, 3) := by decide +kernel
theorem dX1_init_24 : decode cX1_init 24 = .ok (.aload_n 0, 1) := by decide +kernel
theorem dX1_init_25 : decode cX1_init 25 = .ok (.getfield 17, 3) := by decide +kernel
theorem dX1_init_28 : decode cX1_init 28 = .ok (.iload_n 2, 1) := by decide +kernel
theorem dX1_init_29 : decode cX1_init 29 = .ok (.new 15, 3) := by decide +kernel
theorem dX1_init_32 : decode cX1_init 32 = .ok (.dup, 1) := by decide +kernel
theorem dX1_init_33 : decode cX1_init 33 = .ok (.invokespecial 21, 3) := by decide +kernel
theorem dX1_init_36 : decode cX1_init 36 = .ok (.aastore, 1) := by decide +kernel
theorem dX1_init_37 : decode cX1_init 37 = .ok (.iinc 2 1, 3) := by decide +kernel
theorem dX1_init_40 : decode cX1_init 40 = .ok (.goto (-21), 3) := by decide +kernel
theorem dX1_init_43 : decode cX1_init 43 = .ok (.aload_n 0, 1) := by decide +kernel
theorem dX1_init_44 : decode cX1_init 44 = .ok (.bipush 14, 2) := by decide +kernel
theorem dX1_init_46 : decode cX1_init 46 = .ok (.anewarray 22, 3) := by decide +kernel
theorem dX1_init_49 : decode cX1_init 49 = .ok (.putfield 24, 3) := by decide +kernel
theorem dX1_init_52 : decode cX1_init 52 = .ok (.iconst 0, 1) := by decide +kernel
theorem dX1_init_53 : decode cX1_init 53 = .ok (.istore_n 2, 1) := by decide +kernel
theorem dX1_init_54 : decode cX1_init 54 = .ok (.iload_n 2, 1) := by decide +kernel
theorem dX1_init_55 : decode cX1_init 55 = .ok (.bipush 14, 2) := by decide +kernel
theorem dX1_init_57 : decode cX1_init 57 = .ok (.if_icmp .ge 23, 3) := by decide +kernel
theorem dX1_init_60 : decode cX1_init 60 = .ok (.aload_n 0, 1) := by decide +kernel
theorem dX1_init_61 : decode cX1_init 61 = .ok (.getfield 24, 3) := by decide +kernel
theorem dX1_init_64 : decode cX1_init 64 = .ok (.iload_n 2, 1) := by decide +kernel
theorem dX1_init_65 : decode cX1_init 65 = .ok (.new 22, 3) := by decide +kernel
theorem dX1_init_68 : decode cX1_init 68 = .ok (.dup, 1) := by decide +kernel
theorem dX1_init_69 : decode cX1_init 69 = .ok (.iload_n 2, 1) := by decide +kernel
theorem dX1_init_70 : decode cX1_init 70 = .ok (.invokespecial 28, 3) := by decide +kernel
theorem dX1_init_73 : decode cX1_init 73 = .ok (.aastore, 1) := by decide +kernel
theorem dX1_init_74 : decode cX1_init 74 = .ok (.iinc 2 1, 3) := by decide +kernel
theorem dX1_init_77 : decode cX1_init 77 = .ok (.goto (-23), 3) := by decide +kernel
theorem dX1_init_80 : decode cX1_init 80 = .ok (.return_, 1) := by decide +kernel
set_option maxRecDepth 20000 in
theorem ggX1_copyFrom_X2_copyFrom : GoodIn wsX1_copyFrom wsX2_copyFrom := goodIn_r _ [14, 15, 16, 17, 18, 19, 20, 21, 53, 54, 55] (by decide +kernel) (by decide +kernel)
set_option maxRecDepth 20000 in
theorem gX1_copyFrom_X2_copyFrom : GoodIn wsX1_copyFrom (wsV RX1 53 RX2 yX2_copyFrom wsX2_copyFrom) := goodIn_app (goodIn_of _ (by decide +kernel)) ggX1_copyFrom_X2_copyFrom
set_option maxRecDepth 20000 in
theorem ggX1_copyFrom_X0_copyFrom : GoodIn wsX1_copyFrom wsX0_copyFrom := goodIn_r _ [26, 27, 28, 29, 30, 31, 32, 33, 34, 35, 36, 37, 38, 39, 19, 20, 21, 40, 41, 42, 56, 57, 58, 59, 60, 61, 62, 63, 64, 65, 66, 67, 68, 69, 70, 71] (by decide +kernel) (by decide +kernel)
set_option maxRecDepth 20000 in
theorem gX1_copyFrom_X0_copyFrom : GoodIn wsX1_copyFrom (wsV RX1 57 RX0 yX0_copyFrom wsX0_copyFrom) := goodIn_app (goodIn_of _ (by decide +kernel)) ggX1_copyFrom_X0_copyFrom
theorem dX1_copyFrom_0 : decode cX1_copyFrom 0 = .ok (.aload_n 0, 1) := by decide +kernel
theorem dX1_copyFrom_1 : decode cX1_copyFrom 1 = .ok (.aload_n 1, 1) := by decide +kernel
theorem dX1_copyFrom_2 : decode cX1_copyFrom 2 = .ok (.getfield 31, 3) := by decide +kernel
theorem dX1_copyFrom_5 : decode cX1_copyFrom 5 = .ok (.putfield 31, 3) := by decide +kernel
theorem dX1_copyFrom_8 : decode cX1_copyFrom 8 = .ok (.aload_n 0, 1) := by decide +kernel
theorem dX1_copyFrom_9 : decode cX1_copyFrom 9 = .ok (.aload_n 1, 1) := by decide +kernel
theorem dX1_copyFrom_10 : decode cX1_copyFrom 10 = .ok (.getfield 35, 3) := by decide +kernel
theorem dX1_copyFrom_13 : decode cX1_copyFrom 13 = .ok (.putfield 35, 3) := by decide +kernel
theorem dX1_copyFrom_16 : decode cX1_copyFrom 16 = .ok (.aload_n 0, 1) := by decide +kernel
theorem dX1_copyFrom_17 : decode cX1_copyFrom 17 = .ok (.aload_n 1, 1) := by decide +kernel
theorem dX1_copyFrom_18 : decode cX1_copyFrom 18 = .ok (.getfield 38, 3) := by decide +kernel
theorem dX1_copyFrom_21 : decode cX1_copyFrom 21 = .ok (.putfield 38, 3) := by decide +kernel
theorem dX1_copyFrom_24 : decode cX1_copyFrom 24 = .ok (.aload_n 0, 1) := by decide +kernel
theorem dX1_copyFrom_25 : decode cX1_copyFrom 25 = .ok (.aload_n 1, 1) := by decide +kernel
theorem dX1_copyFrom_26 : decode cX1_copyFrom 26 = .ok (.getfield 41, 3) := by decide +kernel
theorem dX1_copyFrom_29 : decode cX1_copyFrom 29 = .ok (.putfield 41, 3) := by decide +kernel
theorem dX1_copyFrom_32 : decode cX1_copyFrom 32 = .ok (.aload_n 0, 1) := by decide +kernel
theorem dX1_copyFrom_33 : decode cX1_copyFrom 33 = .ok (.aload_n 1, 1) := by decide +kernel
theorem dX1_copyFrom_34 : decode cX1_copyFrom 34 = .ok (.getfield 44, 3) := by decide +kernel
theorem dX1_copyFrom_37 : decode cX1_copyFrom 37 = .ok (.putfield 44, 3) := by decide +kernel
theorem dX1_copyFrom_40 : decode cX1_copyFrom 40 = .ok (.aload_n 0, 1) := by decide +kernel
theorem dX1_copyFrom_41 : decode cX1_copyFrom 41 = .ok (.aload_n 1, 1) := by decide +kernel
theorem dX1_copyFrom_42 : decode cX1_copyFrom 42 = .ok (.getfield 47, 3) := by decide +kernel
theorem dX1_copyFrom_45 : decode cX1_copyFrom 45 = .ok (.putfield 47, 3) := by decide +kernel
theorem dX1_copyFrom_48 : decode cX1_copyFrom 48 = .ok (.aload_n 0, 1) := by decide +kernel
theorem dX1_copyFrom_49 : decode cX1_copyFrom 49 = .ok (.aload_n 1, 1) := by decide +kernel
theorem dX1_copyFrom_50 : decode cX1_copyFrom 50 = .ok (.getfield 50, 3) := by decide +kernel
theorem dX1_copyFrom_53 : decode cX1_copyFrom 53 = .ok (.putfield 50, 3) := by decide +kernel
theorem dX1_copyFrom_56 : decode cX1_copyFrom 56 = .ok (.iconst 0, 1) := by decide +kernel
theorem dX1_copyFrom_57 : decode cX1_copyFrom 57 = .ok (.istore_n 2, 1) := by decide +kernel
theorem dX1_copyFrom_58 : decode cX1_copyFrom 58 = .ok (.iload_n 2, 1) := by decide +kernel
theorem dX1_copyFrom_59 : decode cX1_copyFrom 59 = .ok (.aload_n 0, 1) := by decide +kernel
theorem dX1_copyFrom_60 : decode cX1_copyFrom 60 = .ok (.getfield 31, 3) := by decide +kernel
theorem dX1_copyFrom_63 : decode cX1_copyFrom 63 = .ok (.if_icmp .ge 24, 3) := by decide +kernel
theorem dX1_copyFrom_66 : decode cX1_copyFrom 66 = .ok (.aload_n 0, 1) := by decide +kernel
theorem dX1_copyFrom_67 : decode cX1_copyFrom 67 = .ok (.getfield 17, 3) := by decide +kernel
theorem dX1_copyFrom_70 : decode cX1_copyFrom 70 = .ok (.iload_n 2, 1) := by decide +kernel
theorem dX1_copyFrom_71 : decode cX1_copyFrom 71 = .ok (.aaload, 1) := by decide +kernel
theorem dX1_copyFrom_72 : decode cX1_copyFrom 72 = .ok (.aload_n 1, 1) := by decide +kernel
theorem dX1_copyFrom_73 : decode cX1_copyFrom 73 = .ok (.getfield 17, 3) := by decide +kernel
theorem dX1_copyFrom_76 : decode cX1_copyFrom 76 = .ok (.iload_n 2, 1) := by decide +kernel
theorem dX1_copyFrom_77 : decode cX1_copyFrom 77 = .ok (.aaload, 1) := by decide +kernel
theorem dX1_copyFrom_78 : decode cX1_copyFrom 78 = .ok (.invokevirtual 53, 3) := by decide +kernel
theorem dX1_copyFrom_81 : decode cX1_copyFrom 81 = .ok (.iinc 2 1, 3) := by decide +kernel
theorem dX1_copyFrom_84 : decode cX1_copyFrom 84 = .ok (.goto (-26), 3) := by decide +kernel
theorem dX1_copyFrom_87 : decode cX1_copyFrom 87 = .ok (.iconst 0, 1) := by decide +kernel
theorem dX1_copyFrom_88 : decode cX1_copyFrom 88 = .ok (.istore_n 2, 1) := by decide +kernel
theorem dX1_copyFrom_89 : decode cX1_copyFrom 89 = .ok (.iload_n 2, 1) := by decide +kernel
theorem dX1_copyFrom_90 : decode cX1_copyFrom 90 = .ok (.aload_n 0, 1) := by decide +kernel
theorem dX1_copyFrom_91 : decode cX1_copyFrom 91 = .ok (.getfield 35, 3) := by decide +kernel
theorem dX1_copyFrom_94 : decode cX1_copyFrom 94 = .ok (.if_icmp .ge 24, 3) := by decide +kernel
theorem dX1_copyFrom_97 : decode cX1_copyFrom 97 = .ok (.aload_n 0, 1) := by decide +kernel
theorem dX1_copyFrom_98 : decode cX1_copyFrom 98 = .ok (.getfield 24, 3) := by decide +kernel
theorem dX1_copyFrom_101 : decode cX1_copyFrom 101 = .ok (.iload_n 2, 1) := by decide +kernel
theorem dX1_copyFrom_102 : decode cX1_copyFrom 102 = .ok (.aaload, 1) := by decide +kernel
theorem dX1_copyFrom_103 : decode cX1_copyFrom 103 = .ok (.aload_n 1, 1) := by decide +kernel
theorem dX1_copyFrom_104 : decode cX1_copyFrom 104 = .ok (.getfield 24, 3) := by decide +kernel
theorem dX1_copyFrom_107 : decode cX1_copyFrom 107 = .ok (.iload_n 2, 1) := by decide +kernel
theorem dX1_copyFrom_108 : decode cX1_copyFrom 108 = .ok (.aaload, 1) := by decide +kernel
theorem dX1_copyFrom_109 : decode cX1_copyFrom 109 = .ok (.invokevirtual 57, 3) := by decide +kernel
theorem dX1_copyFrom_112 : decode cX1_copyFrom 112 = .ok (.iinc 2 1, 3) := by decide +kernel
theorem dX1_copyFrom_115 : decode cX1_copyFrom 115 = .ok (.goto (-26), 3) := by decide +kernel
theorem dX1_copyFrom_118 : decode cX1_copyFrom 118 = .ok (.return_, 1) := by decide +kernel
theorem dX1_openRow_0 : decode cX1_openRow 0 = .ok (.aload_n 0, 1) := by decide +kernel
theorem dX1_openRow_1 : decode cX1_openRow 1 = .ok (.getfield 31, 3) := by decide +kernel
theorem dX1_openRow_4 : decode cX1_openRow 4 = .ok (.istore_n 2, 1) := by decide +kernel
theorem dX1_openRow_5 : decode cX1_openRow 5 = .ok (.aload_n 0, 1) := by decide +kernel
theorem dX1_openRow_6 : decode cX1_openRow 6 = .ok (.getfield 17, 3) := by decide +kernel
theorem dX1_openRow_9 : decode cX1_openRow 9 = .ok (.iload_n 2, 1) := by decide +kernel
theorem dX1_openRow_10 : decode cX1_openRow 10 = .ok (.aaload, 1) := by decide +kernel
theorem dX1_openRow_11 : decode cX1_openRow 11 = .ok (.iload_n 1, 1) := by decide +kernel
theorem dX1_openRow_12 : decode cX1_openRow 12 = .ok (.putfield 60, 3) := by decide +kernel
theorem dX1_openRow_15 : decode cX1_openRow 15 = .ok (.aload_n 0, 1) := by decide +kernel
theorem dX1_openRow_16 : decode cX1_openRow 16 = .ok (.dup, 1) := by decide +kernel
theorem dX1_openRow_17 : decode cX1_openRow 17 = .ok (.getfield 31, 3) := by decide +kernel
theorem dX1_openRow_20 : decode cX1_openRow 20 = .ok (.iconst 1, 1) := by decide +kernel
theorem dX1_openRow_21 : decode cX1_openRow 21 = .ok (.iadd, 1) := by decide +kernel
theorem dX1_openRow_22 : decode cX1_openRow 22 = .ok (.putfield 31, 3) := by decide +kernel
theorem dX1_openRow_25 : decode cX1_openRow 25 = .ok (.iload_n 2, 1) := by decide +kernel
theorem dX1_openRow_26 : decode cX1_openRow 26 = .ok (.ireturn, 1) := by decide +kernel
theorem dX1_launch_0 : decode cX1_launch 0 = .ok (.aload_n 0, 1) := by decide +kernel
theorem dX1_launch_1 : decode cX1_launch 1 = .ok (.getfield 35, 3) := by decide +kernel
theorem dX1_launch_4 : decode cX1_launch 4 = .ok (.istore_n 3, 1) := by decide +kernel
theorem dX1_launch_5 : decode cX1_launch 5 = .ok (.aload_n 0, 1) := by decide +kernel
theorem dX1_launch_6 : decode cX1_launch 6 = .ok (.getfield 24, 3) := by decide +kernel
theorem dX1_launch_9 : decode cX1_launch 9 = .ok (.iload_n 3, 1) := by decide +kernel
theorem dX1_launch_10 : decode cX1_launch 10 = .ok (.aaload, 1) := by decide +kernel
theorem dX1_launch_11 : decode cX1_launch 11 = .ok (.iload_n 1, 1) := by decide +kernel
theorem dX1_launch_12 : decode cX1_launch 12 = .ok (.putfield 63, 3) := by decide +kernel
theorem dX1_launch_15 : decode cX1_launch 15 = .ok (.aload_n 0, 1) := by decide +kernel
theorem dX1_launch_16 : decode cX1_launch 16 = .ok (.getfield 24, 3) := by decide +kernel
theorem dX1_launch_19 : decode cX1_launch 19 = .ok (.iload_n 3, 1) := by decide +kernel
theorem dX1_launch_20 : decode cX1_launch 20 = .ok (.aaload, 1) := by decide +kernel
theorem dX1_launch_21 : decode cX1_launch 21 = .ok (.iload_n 2, 1) := by decide +kernel
theorem dX1_launch_22 : decode cX1_launch 22 = .ok (.putfield 66, 3) := by decide +kernel
theorem dX1_launch_25 : decode cX1_launch 25 = .ok (.aload_n 0, 1) := by decide +kernel
theorem dX1_launch_26 : decode cX1_launch 26 = .ok (.dup, 1) := by decide +kernel
theorem dX1_launch_27 : decode cX1_launch 27 = .ok (.getfield 35, 3) := by decide +kernel
theorem dX1_launch_30 : decode cX1_launch 30 = .ok (.iconst 1, 1) := by decide +kernel
theorem dX1_launch_31 : decode cX1_launch 31 = .ok (.iadd, 1) := by decide +kernel
theorem dX1_launch_32 : decode cX1_launch 32 = .ok (.putfield 35, 3) := by decide +kernel
theorem dX1_launch_35 : decode cX1_launch 35 = .ok (.iload_n 3, 1) := by decide +kernel
theorem dX1_launch_36 : decode cX1_launch 36 = .ok (.ireturn, 1) := by decide +kernel
set_option maxRecDepth 20000 in
theorem ggX1_fasten_X2_append : GoodIn wsX1_fasten wsX2_append := goodIn_r _ [11, 12, 13, 14, 41, 42, 43] (by decide +kernel) (by decide +kernel)
set_option maxRecDepth 20000 in
theorem gX1_fasten_X2_append : GoodIn wsX1_fasten (wsV RX1 84 RX2 yX2_append wsX2_append) := goodIn_app (goodIn_of _ (by decide +kernel)) ggX1_fasten_X2_append
theorem dX1_fasten_0 : decode cX1_fasten 0 = .ok (.aload_n 1, 1) := by decide +kernel
theorem dX1_fasten_1 : decode cX1_fasten 1 = .ok (.iconst 1, 1) := by decide +kernel
theorem dX1_fasten_2 : decode cX1_fasten 2 = .ok (.putfield 69, 3) := by decide +kernel
theorem dX1_fasten_5 : decode cX1_fasten 5 = .ok (.aload_n 1, 1) := by decide +kernel
theorem dX1_fasten_6 : decode cX1_fasten 6 = .ok (.iload_n 2, 1) := by decide +kernel
theorem dX1_fasten_7 : decode cX1_fasten 7 = .ok (.putfield 72, 3) := by decide +kernel
theorem dX1_fasten_10 : decode cX1_fasten 10 = .ok (.aload_n 1, 1) := by decide +kernel
theorem dX1_fasten_11 : decode cX1_fasten 11 = .ok (.aload_n 0, 1) := by decide +kernel
theorem dX1_fasten_12 : decode cX1_fasten 12 = .ok (.getfield 17, 3) := by decide +kernel
theorem dX1_fasten_15 : decode cX1_fasten 15 = .ok (.iload_n 2, 1) := by decide +kernel
theorem dX1_fasten_16 : decode cX1_fasten 16 = .ok (.aaload, 1) := by decide +kernel
theorem dX1_fasten_17 : decode cX1_fasten 17 = .ok (.getfield 75, 3) := by decide +kernel
theorem dX1_fasten_20 : decode cX1_fasten 20 = .ok (.putfield 78, 3) := by decide +kernel
theorem dX1_fasten_23 : decode cX1_fasten 23 = .ok (.aload_n 0, 1) := by decide +kernel
theorem dX1_fasten_24 : decode cX1_fasten 24 = .ok (.getfield 17, 3) := by decide +kernel
theorem dX1_fasten_27 : decode cX1_fasten 27 = .ok (.iload_n 2, 1) := by decide +kernel
theorem dX1_fasten_28 : decode cX1_fasten 28 = .ok (.aaload, 1) := by decide +kernel
theorem dX1_fasten_29 : decode cX1_fasten 29 = .ok (.aload_n 1, 1) := by decide +kernel
theorem dX1_fasten_30 : decode cX1_fasten 30 = .ok (.getfield 81, 3) := by decide +kernel
theorem dX1_fasten_33 : decode cX1_fasten 33 = .ok (.invokevirtual 84, 3) := by decide +kernel
theorem dX1_fasten_36 : decode cX1_fasten 36 = .ok (.return_, 1) := by decide +kernel
set_option maxRecDepth 20000 in
theorem ggX1_unfasten_X2_closeGap : GoodIn wsX1_unfasten wsX2_closeGap := goodIn_r _ [14, 15, 16, 43, 44, 45] (by decide +kernel) (by decide +kernel)
set_option maxRecDepth 20000 in
theorem gX1_unfasten_X2_closeGap : GoodIn wsX1_unfasten (wsV RX1 87 RX2 yX2_closeGap wsX2_closeGap) := goodIn_app (goodIn_of _ (by decide +kernel)) ggX1_unfasten_X2_closeGap
theorem dX1_unfasten_0 : decode cX1_unfasten 0 = .ok (.aload_n 1, 1) := by decide +kernel
theorem dX1_unfasten_1 : decode cX1_unfasten 1 = .ok (.getfield 69, 3) := by decide +kernel
theorem dX1_unfasten_4 : decode cX1_unfasten 4 = .ok (.iconst 1, 1) := by decide +kernel
theorem dX1_unfasten_5 : decode cX1_unfasten 5 = .ok (.if_icmp .eq 5, 3) := by decide +kernel
theorem dX1_unfasten_8 : decode cX1_unfasten 8 = .ok (.iconst 0, 1) := by decide +kernel
theorem dX1_unfasten_9 : decode cX1_unfasten 9 = .ok (.ireturn, 1) := by decide +kernel
theorem dX1_unfasten_10 : decode cX1_unfasten 10 = .ok (.aload_n 0, 1) := by decide +kernel
theorem dX1_unfasten_11 : decode cX1_unfasten 11 = .ok (.getfield 17, 3) := by decide +kernel
theorem dX1_unfasten_14 : decode cX1_unfasten 14 = .ok (.aload_n 1, 1) := by decide +kernel
theorem dX1_unfasten_15 : decode cX1_unfasten 15 = .ok (.getfield 72, 3) := by decide +kernel
theorem dX1_unfasten_18 : decode cX1_unfasten 18 = .ok (.aaload, 1) := by decide +kernel
theorem dX1_unfasten_19 : decode cX1_unfasten 19 = .ok (.astore_n 3, 1) := by decide +kernel
theorem dX1_unfasten_20 : decode cX1_unfasten 20 = .ok (.aload_n 3, 1) := by decide +kernel
theorem dX1_unfasten_21 : decode cX1_unfasten 21 = .ok (.aload_n 1, 1) := by decide +kernel
theorem dX1_unfasten_22 : decode cX1_unfasten 22 = .ok (.getfield 78, 3) := by decide +kernel
theorem dX1_unfasten_25 : decode cX1_unfasten 25 = .ok (.invokevirtual 87, 3) := by decide +kernel
theorem dX1_unfasten_28 : decode cX1_unfasten 28 = .ok (.aload_n 1, 1) := by decide +kernel
theorem dX1_unfasten_29 : decode cX1_unfasten 29 = .ok (.getfield 78, 3) := by decide +kernel
theorem dX1_unfasten_32 : decode cX1_unfasten 32 = .ok (.istore 4, 2) := by decide +kernel
theorem dX1_unfasten_34 : decode cX1_unfasten 34 = .ok (.iload 4, 2) := by decide +kernel
theorem dX1_unfasten_36 : decode cX1_unfasten 36 = .ok (.aload_n 3, 1) := by decide +kernel
theorem dX1_unfasten_37 : decode cX1_unfasten 37 = .ok (.getfield 75, 3) := by decide +kernel
theorem dX1_unfasten_40 : decode cX1_unfasten 40 = .ok (.if_icmp .ge 41, 3) := by decide +kernel
theorem dX1_unfasten_43 : decode cX1_unfasten 43 = .ok (.aload_n 0, 1) := by decide +kernel
theorem dX1_unfasten_44 : decode cX1_unfasten 44 = .ok (.getfield 24, 3) := by decide +kernel
theorem dX1_unfasten_47 : decode cX1_unfasten 47 = .ok (.aload_n 3, 1) := by decide +kernel
theorem dX1_unfasten_48 : decode cX1_unfasten 48 = .ok (.getfield 90, 3) := by decide +kernel
theorem dX1_unfasten_51 : decode cX1_unfasten 51 = .ok (.iload 4, 2) := by decide +kernel
theorem dX1_unfasten_53 : decode cX1_unfasten 53 = .ok (.iaload, 1) := by decide +kernel
theorem dX1_unfasten_54 : decode cX1_unfasten 54 = .ok (.aaload, 1) := by decide +kernel
theorem dX1_unfasten_55 : decode cX1_unfasten 55 = .ok (.astore 5, 2) := by decide +kernel
theorem dX1_unfasten_57 : decode cX1_unfasten 57 = .ok (.aload 5, 2) := by decide +kernel
theorem dX1_unfasten_59 : decode cX1_unfasten 59 = .ok (.iload 4, 2) := by decide +kernel
theorem dX1_unfasten_61 : decode cX1_unfasten 61 = .ok (.putfield 78, 3) := by decide +kernel
theorem dX1_unfasten_64 : decode cX1_unfasten 64 = .ok (.aload 5, 2) := by decide +kernel
theorem dX1_unfasten_66 : decode cX1_unfasten 66 = .ok (.dup, 1) := by decide +kernel
theorem dX1_unfasten_67 : decode cX1_unfasten 67 = .ok (.getfield 94, 3) := by decide +kernel
theorem dX1_unfasten_70 : decode cX1_unfasten 70 = .ok (.iconst 1, 1) := by decide +kernel
theorem dX1_unfasten_71 : decode cX1_unfasten 71 = .ok (.iadd, 1) := by decide +kernel
theorem dX1_unfasten_72 : decode cX1_unfasten 72 = .ok (.putfield 94, 3) := by decide +kernel
theorem dX1_unfasten_75 : decode cX1_unfasten 75 = .ok (.iinc 4 1, 3) := by decide +kernel
theorem dX1_unfasten_78 : decode cX1_unfasten 78 = .ok (.goto (-44), 3) := by decide +kernel
theorem dX1_unfasten_81 : decode cX1_unfasten 81 = .ok (.aload_n 3, 1) := by decide +kernel
theorem dX1_unfasten_82 : decode cX1_unfasten 82 = .ok (.getfield 75, 3) := by decide +kernel
theorem dX1_unfasten_85 : decode cX1_unfasten 85 = .ok (.aload_n 1, 1) := by decide +kernel
theorem dX1_unfasten_86 : decode cX1_unfasten 86 = .ok (.getfield 78, 3) := by decide +kernel
theorem dX1_unfasten_89 : decode cX1_unfasten 89 = .ok (.isub, 1) := by decide +kernel
theorem dX1_unfasten_90 : decode cX1_unfasten 90 = .ok (.istore 4, 2) := by decide +kernel
theorem dX1_unfasten_92 : decode cX1_unfasten 92 = .ok (.aload_n 0, 1) := by decide +kernel
theorem dX1_unfasten_93 : decode cX1_unfasten 93 = .ok (.dup, 1) := by decide +kernel
theorem dX1_unfasten_94 : decode cX1_unfasten 94 = .ok (.getfield 47, 3) := by decide +kernel
theorem dX1_unfasten_97 : decode cX1_unfasten 97 = .ok (.iload 4, 2) := by decide +kernel
theorem dX1_unfasten_99 : decode cX1_unfasten 99 = .ok (.iadd, 1) := by decide +kernel
theorem dX1_unfasten_100 : decode cX1_unfasten 100 = .ok (.putfield 47, 3) := by decide +kernel
theorem dX1_unfasten_103 : decode cX1_unfasten 103 = .ok (.aload_n 1, 1) := by decide +kernel
theorem dX1_unfasten_104 : decode cX1_unfasten 104 = .ok (.iload_n 2, 1) := by decide +kernel
theorem dX1_unfasten_105 : decode cX1_unfasten 105 = .ok (.putfield 69, 3) := by decide +kernel
theorem dX1_unfasten_108 : decode cX1_unfasten 108 = .ok (.aload_n 1, 1) := by decide +kernel
theorem dX1_unfasten_109 : decode cX1_unfasten 109 = .ok (.iconst (-1), 1) := by decide +kernel
theorem dX1_unfasten_110 : decode cX1_unfasten 110 = .ok (.putfield 72, 3) := by decide +kernel
theorem dX1_unfasten_113 : decode cX1_unfasten 113 = .ok (.aload_n 1, 1) := by decide +kernel
theorem dX1_unfasten_114 : decode cX1_unfasten 114 = .ok (.iconst (-1), 1) := by decide +kernel
theorem dX1_unfasten_115 : decode cX1_unfasten 115 = .ok (.putfield 78, 3) := by decide +kernel
theorem dX1_unfasten_118 : decode cX1_unfasten 118 = .ok (.iload 4, 2) := by decide +kernel
theorem dX1_unfasten_120 : decode cX1_unfasten 120 = .ok (.ireturn, 1) := by decide +kernel
set_option maxRecDepth 20000 in
theorem ggX1_liesDry_X3_tideIn : GoodIn wsX1_liesDry wsX3_tideIn := goodIn_r _ [9, 10, 11, 12, 13, 14, 41, 42] (by decide +kernel) (by decide +kernel)
set_option maxRecDepth 20000 in
theorem gX1_liesDry_X3_tideIn : GoodIn wsX1_liesDry (wsV RX1 95 RX3 yX3_tideIn wsX3_tideIn) := goodIn_app (goodIn_of _ (by decide +kernel)) ggX1_liesDry_X3_tideIn
theorem dX1_liesDry_0 : decode cX1_liesDry 0 = .ok (.aload_n 1, 1) := by decide +kernel
theorem dX1_liesDry_1 : decode cX1_liesDry 1 = .ok (.getfield 69, 3) := by decide +kernel
theorem dX1_liesDry_4 : decode cX1_liesDry 4 = .ok (.iconst 1, 1) := by decide +kernel
theorem dX1_liesDry_5 : decode cX1_liesDry 5 = .ok (.if_icmp .ne 27, 3) := by decide +kernel
theorem dX1_liesDry_8 : decode cX1_liesDry 8 = .ok (.aload_n 1, 1) := by decide +kernel
theorem dX1_liesDry_9 : decode cX1_liesDry 9 = .ok (.getfield 78, 3) := by decide +kernel
theorem dX1_liesDry_12 : decode cX1_liesDry 12 = .ok (.aload_n 0, 1) := by decide +kernel
theorem dX1_liesDry_13 : decode cX1_liesDry 13 = .ok (.getfield 9, 3) := by decide +kernel
theorem dX1_liesDry_16 : decode cX1_liesDry 16 = .ok (.aload_n 0, 1) := by decide +kernel
theorem dX1_liesDry_17 : decode cX1_liesDry 17 = .ok (.getfield 38, 3) := by decide +kernel
theorem dX1_liesDry_20 : decode cX1_liesDry 20 = .ok (.invokevirtual 95, 3) := by decide +kernel
theorem dX1_liesDry_23 : decode cX1_liesDry 23 = .ok (.iadd, 1) := by decide +kernel
theorem dX1_liesDry_24 : decode cX1_liesDry 24 = .ok (.iconst 4, 1) := by decide +kernel
theorem dX1_liesDry_25 : decode cX1_liesDry 25 = .ok (.if_icmp .ge 7, 3) := by decide +kernel
theorem dX1_liesDry_28 : decode cX1_liesDry 28 = .ok (.iconst 1, 1) := by decide +kernel
theorem dX1_liesDry_29 : decode cX1_liesDry 29 = .ok (.goto 4, 3) := by decide +kernel
theorem dX1_liesDry_32 : decode cX1_liesDry 32 = .ok (.iconst 0, 1) := by decide +kernel
theorem dX1_liesDry_33 : decode cX1_liesDry 33 = .ok (.ireturn, 1) := by decide +kernel
set_option maxRecDepth 20000 in
theorem ggX1_passSteps_X1_driftByRows : GoodIn wsX1_passSteps wsX1_driftByRows := goodIn_r _ [6, 7, 1, 8, 9, 10, 11, 12, 13, 14, 15, 16, 17, 18, 19, 20, 21, 22, 23, 24, 25, 5, 26, 27, 28, 29, 30, 31, 32, 33, 34, 35, 36, 37, 38, 39, 40, 41, 42, 43, 44, 45, 46, 47, 48, 49, 50, 51, 52, 53, 54, 55, 56, 57, 58, 59, 60, 61, 62, 63, 64, 65, 66, 67, 68, 69, 70, 71, 72, 135, 136, 137, 138, 139, 140, 141, 142, 143, 144, 145, 146, 147, 148, 149, 150, 151, 152, 153, 154, 155, 156, 157, 158, 159, 160, 161, 162, 163, 164, 165] (by decide +kernel) (by decide +kernel)
set_option maxRecDepth 20000 in
theorem gX1_passSteps_X1_driftByRows : GoodIn wsX1_passSteps (wsV RX1 101 RX1 yX1_driftByRows wsX1_driftByRows) := goodIn_app (goodIn_of _ (by decide +kernel)) ggX1_passSteps_X1_driftByRows
set_option maxRecDepth 20000 in
theorem ggX1_passSteps_X1_leaveByNumbers : GoodIn wsX1_passSteps wsX1_leaveByNumbers := goodIn_r _ [76, 77, 27, 45, 1, 78, 79, 80, 81, 82, 83, 84, 85, 86, 5, 87, 47, 7, 88, 89, 90, 16, 91, 92, 19, 20, 21, 22, 41, 42, 43, 44, 9, 46, 10, 48, 49, 50, 51, 52, 53, 31, 54, 33, 34, 135, 136, 137, 138, 139, 140, 141, 142, 143, 144, 148, 149, 150, 151, 152, 153, 154, 155, 156, 157, 158, 159, 160, 161, 162, 163, 164, 165, 145, 146, 147] (by decide +kernel) (by decide +kernel)
set_option maxRecDepth 20000 in
theorem gX1_passSteps_X1_leaveByNumbers : GoodIn wsX1_passSteps (wsV RX1 104 RX1 yX1_leaveByNumbers wsX1_leaveByNumbers) := goodIn_app (goodIn_of _ (by decide +kernel)) ggX1_passSteps_X1_leaveByNumbers
set_option maxRecDepth 20000 in
theorem ggX1_passSteps_X1_tradeByNumbers : GoodIn wsX1_passSteps wsX1_tradeByNumbers := goodIn_r _ [96, 77, 27, 45, 97, 98, 99, 81, 100, 101, 102, 103, 104, 105, 106, 107, 108, 109, 5, 110, 111, 112, 113, 114, 115, 46, 47, 23, 24, 25, 26, 8, 9, 28, 29, 30, 31, 32, 33, 34, 116, 117, 118, 119, 120, 68, 121, 122, 123, 124, 125, 126, 127, 128, 129, 130, 131, 132, 133, 134, 135, 136, 137, 138, 139, 140, 141, 142, 143, 144, 148, 149, 150, 151, 152, 153, 154, 155, 156, 157, 158, 159, 160, 161, 162, 163, 145, 146, 147] (by decide +kernel) (by decide +kernel)
set_option maxRecDepth 20000 in
theorem gX1_passSteps_X1_tradeByNumbers : GoodIn wsX1_passSteps (wsV RX1 107 RX1 yX1_tradeByNumbers wsX1_tradeByNumbers) := goodIn_app (goodIn_of _ (by decide +kernel)) ggX1_passSteps_X1_tradeByNumbers
theorem dX1_passSteps_0 : decode cX1_passSteps 0 = .ok (.iconst 0, 1) := by decide +kernel
theorem dX1_passSteps_1 : decode cX1_passSteps 1 = .ok (.istore_n 2, 1) := by decide +kernel
theorem dX1_passSteps_2 : decode cX1_passSteps 2 = .ok (.iload_n 2, 1) := by decide +kernel
theorem dX1_passSteps_3 : decode cX1_passSteps 3 = .ok (.iload_n 1, 1) := by decide +kernel
theorem dX1_passSteps_4 : decode cX1_passSteps 4 = .ok (.if_icmp .ge 31, 3) := by decide +kernel
theorem dX1_passSteps_7 : decode cX1_passSteps 7 = .ok (.aload_n 0, 1) := by decide +kernel
theorem dX1_passSteps_8 : decode cX1_passSteps 8 = .ok (.invokevirtual 101, 3) := by decide +kernel
theorem dX1_passSteps_11 : decode cX1_passSteps 11 = .ok (.aload_n 0, 1) := by decide +kernel
theorem dX1_passSteps_12 : decode cX1_passSteps 12 = .ok (.invokevirtual 104, 3) := by decide +kernel
theorem dX1_passSteps_15 : decode cX1_passSteps 15 = .ok (.aload_n 0, 1) := by decide +kernel
theorem dX1_passSteps_16 : decode cX1_passSteps 16 = .ok (.invokevirtual 107, 3) := by decide +kernel
theorem dX1_passSteps_19 : decode cX1_passSteps 19 = .ok (.aload_n 0, 1) := by decide +kernel
theorem dX1_passSteps_20 : decode cX1_passSteps 20 = .ok (.dup, 1) := by decide +kernel
theorem dX1_passSteps_21 : decode cX1_passSteps 21 = .ok (.getfield 38, 3) := by decide +kernel
theorem dX1_passSteps_24 : decode cX1_passSteps 24 = .ok (.iconst 1, 1) := by decide +kernel
theorem dX1_passSteps_25 : decode cX1_passSteps 25 = .ok (.iadd, 1) := by decide +kernel
theorem dX1_passSteps_26 : decode cX1_passSteps 26 = .ok (.putfield 38, 3) := by decide +kernel
theorem dX1_passSteps_29 : decode cX1_passSteps 29 = .ok (.iinc 2 1, 3) := by decide +kernel
theorem dX1_passSteps_32 : decode cX1_passSteps 32 = .ok (.goto (-30), 3) := by decide +kernel
theorem dX1_passSteps_35 : decode cX1_passSteps 35 = .ok (.return_, 1) := by decide +kernel
set_option maxRecDepth 20000 in
theorem ggX1_driftByRows_X3_wakeIn : GoodIn wsX1_driftByRows wsX3_wakeIn := goodIn_r _ [12, 13, 14, 15, 16, 17, 98, 99] (by decide +kernel) (by decide +kernel)
set_option maxRecDepth 20000 in
theorem gX1_driftByRows_X3_wakeIn : GoodIn wsX1_driftByRows (wsV RX1 110 RX3 yX3_wakeIn wsX3_wakeIn) := goodIn_app (goodIn_of _ (by decide +kernel)) ggX1_driftByRows_X3_wakeIn
set_option maxRecDepth 20000 in
theorem ggX1_driftByRows_X1_canoeAt : GoodIn wsX1_driftByRows wsX1_canoeAt := goodIn_r _ [22, 3, 4, 23, 24, 25, 26, 27, 28, 29, 30, 69, 70, 71, 72, 73, 74, 75, 76, 77, 78, 79, 80, 81] (by decide +kernel) (by decide +kernel)
set_option maxRecDepth 20000 in
theorem gX1_driftByRows_X1_canoeAt : GoodIn wsX1_driftByRows (wsV RX1 113 RX1 yX1_canoeAt wsX1_canoeAt) := goodIn_app (goodIn_of _ (by decide +kernel)) ggX1_driftByRows_X1_canoeAt
set_option maxRecDepth 20000 in
theorem ggX1_driftByRows_X1_drift : GoodIn wsX1_driftByRows wsX1_drift := goodIn_r _ [34, 35, 36, 2, 7, 37, 38, 39, 21, 40, 41, 4, 42, 43, 5, 23, 44, 45, 46, 47, 48, 49, 27, 50, 29, 30, 51, 52, 53, 54, 3, 55, 56, 57, 58, 59, 60, 61, 62, 63, 64, 65, 66, 67, 68, 82, 83, 84, 85, 86, 87, 88, 89, 90, 91, 92, 93, 94, 95, 96, 97, 69, 70, 71, 72, 73, 74, 75, 76, 77, 78, 79, 80, 81] (by decide +kernel) (by decide +kernel)
set_option maxRecDepth 20000 in
theorem gX1_driftByRows_X1_drift : GoodIn wsX1_driftByRows (wsV RX1 120 RX1 yX1_drift wsX1_drift) := goodIn_app (goodIn_of _ (by decide +kernel)) ggX1_driftByRows_X1_drift
theorem dX1_driftByRows_0 : decode cX1_driftByRows 0 = .ok (.aload_n 0, 1) := by decide +kernel
theorem dX1_driftByRows_1 : decode cX1_driftByRows 1 = .ok (.getfield 9, 3) := by decide +kernel
theorem dX1_driftByRows_4 : decode cX1_driftByRows 4 = .ok (.aload_n 0, 1) := by decide +kernel
theorem dX1_driftByRows_5 : decode cX1_driftByRows 5 = .ok (.getfield 38, 3) := by decide +kernel
theorem dX1_driftByRows_8 : decode cX1_driftByRows 8 = .ok (.invokevirtual 110, 3) := by decide +kernel
theorem dX1_driftByRows_11 : decode cX1_driftByRows 11 = .ok (.istore_n 1, 1) := by decide +kernel
theorem dX1_driftByRows_12 : decode cX1_driftByRows 12 = .ok (.iconst 0, 1) := by decide +kernel
theorem dX1_driftByRows_13 : decode cX1_driftByRows 13 = .ok (.istore_n 2, 1) := by decide +kernel
theorem dX1_driftByRows_14 : decode cX1_driftByRows 14 = .ok (.iload_n 2, 1) := by decide +kernel
theorem dX1_driftByRows_15 : decode cX1_driftByRows 15 = .ok (.aload_n 0, 1) := by decide +kernel
theorem dX1_driftByRows_16 : decode cX1_driftByRows 16 = .ok (.getfield 31, 3) := by decide +kernel
theorem dX1_driftByRows_19 : decode cX1_driftByRows 19 = .ok (.if_icmp .ge 55, 3) := by decide +kernel
theorem dX1_driftByRows_22 : decode cX1_driftByRows 22 = .ok (.aload_n 0, 1) := by decide +kernel
theorem dX1_driftByRows_23 : decode cX1_driftByRows 23 = .ok (.iload_n 2, 1) := by decide +kernel
theorem dX1_driftByRows_24 : decode cX1_driftByRows 24 = .ok (.aload_n 0, 1) := by decide +kernel
theorem dX1_driftByRows_25 : decode cX1_driftByRows 25 = .ok (.getfield 17, 3) := by decide +kernel
theorem dX1_driftByRows_28 : decode cX1_driftByRows 28 = .ok (.iload_n 2, 1) := by decide +kernel
theorem dX1_driftByRows_29 : decode cX1_driftByRows 29 = .ok (.aaload, 1) := by decide +kernel
theorem dX1_driftByRows_30 : decode cX1_driftByRows 30 = .ok (.getfield 75, 3) := by decide +kernel
theorem dX1_driftByRows_33 : decode cX1_driftByRows 33 = .ok (.iconst 1, 1) := by decide +kernel
theorem dX1_driftByRows_34 : decode cX1_driftByRows 34 = .ok (.isub, 1) := by decide +kernel
theorem dX1_driftByRows_35 : decode cX1_driftByRows 35 = .ok (.invokevirtual 113, 3) := by decide +kernel
theorem dX1_driftByRows_38 : decode cX1_driftByRows 38 = .ok (.astore_n 3, 1) := by decide +kernel
theorem dX1_driftByRows_39 : decode cX1_driftByRows 39 = .ok (.aload_n 3, 1) := by decide +kernel
theorem dX1_driftByRows_40 : decode cX1_driftByRows 40 = .ok (.ifnull 28, 3) := by decide +kernel
theorem dX1_driftByRows_43 : decode cX1_driftByRows 43 = .ok (.aload_n 3, 1) := by decide +kernel
theorem dX1_driftByRows_44 : decode cX1_driftByRows 44 = .ok (.getfield 66, 3) := by decide +kernel
theorem dX1_driftByRows_47 : decode cX1_driftByRows 47 = .ok (.iload_n 1, 1) := by decide +kernel
theorem dX1_driftByRows_48 : decode cX1_driftByRows 48 = .ok (.if_icmp .ge 20, 3) := by decide +kernel
theorem dX1_driftByRows_51 : decode cX1_driftByRows 51 = .ok (.aload_n 3, 1) := by decide +kernel
theorem dX1_driftByRows_52 : decode cX1_driftByRows 52 = .ok (.getfield 117, 3) := by decide +kernel
theorem dX1_driftByRows_55 : decode cX1_driftByRows 55 = .ok (.aload_n 0, 1) := by decide +kernel
theorem dX1_driftByRows_56 : decode cX1_driftByRows 56 = .ok (.getfield 38, 3) := by decide +kernel
theorem dX1_driftByRows_59 : decode cX1_driftByRows 59 = .ok (.if_icmp .eq 9, 3) := by decide +kernel
theorem dX1_driftByRows_62 : decode cX1_driftByRows 62 = .ok (.aload_n 0, 1) := by decide +kernel
theorem dX1_driftByRows_63 : decode cX1_driftByRows 63 = .ok (.aload_n 3, 1) := by decide +kernel
theorem dX1_driftByRows_64 : decode cX1_driftByRows 64 = .ok (.iload_n 2, 1) := by decide +kernel
theorem dX1_driftByRows_65 : decode cX1_driftByRows 65 = .ok (.invokevirtual 120, 3) := by decide +kernel
theorem dX1_driftByRows_68 : decode cX1_driftByRows 68 = .ok (.iinc 2 1, 3) := by decide +kernel
theorem dX1_driftByRows_71 : decode cX1_driftByRows 71 = .ok (.goto (-57), 3) := by decide +kernel
theorem dX1_driftByRows_74 : decode cX1_driftByRows 74 = .ok (.return_, 1) := by decide +kernel
set_option maxRecDepth 20000 in
theorem ggX1_drift_X1_unfasten : GoodIn wsX1_drift wsX1_unfasten := goodIn_r _ [9, 10, 11, 12, 13, 14, 15, 16, 17, 18, 19, 20, 21, 22, 23, 24, 25, 45, 46, 47, 48, 49, 50, 51, 52, 53, 54, 55, 56, 57, 58, 59, 60, 61, 62, 63, 64, 65, 66, 67, 68, 69, 70, 71, 72, 73] (by decide +kernel) (by decide +kernel)
set_option maxRecDepth 20000 in
theorem gX1_drift_X1_unfasten : GoodIn wsX1_drift (wsV RX1 124 RX1 yX1_unfasten wsX1_unfasten) := goodIn_app (goodIn_of _ (by decide +kernel)) ggX1_drift_X1_unfasten
set_option maxRecDepth 20000 in
theorem ggX1_drift_X1_nextRowNotFull : GoodIn wsX1_drift wsX1_nextRowNotFull := goodIn_r _ [29, 30, 11, 31, 32, 33, 22, 34, 24, 35, 61, 62, 63, 64, 65, 66, 67, 68, 69, 70, 71, 72, 73] (by decide +kernel) (by decide +kernel)
set_option maxRecDepth 20000 in
theorem gX1_drift_X1_nextRowNotFull : GoodIn wsX1_drift (wsV RX1 128 RX1 yX1_nextRowNotFull wsX1_nextRowNotFull) := goodIn_app (goodIn_of _ (by decide +kernel)) ggX1_drift_X1_nextRowNotFull
set_option maxRecDepth 20000 in
theorem ggX1_drift_X1_fasten : GoodIn wsX1_drift wsX1_fasten := goodIn_r _ [39, 10, 12, 11, 14, 13, 40, 41, 42, 43, 22, 44, 24, 35, 25, 45, 46, 47, 48, 49, 50, 51, 52, 53, 54, 55, 56, 57, 58, 59, 60, 61, 62, 63, 64, 65, 66, 67, 68, 69, 70, 71, 72, 73] (by decide +kernel) (by decide +kernel)
set_option maxRecDepth 20000 in
theorem gX1_drift_X1_fasten : GoodIn wsX1_drift (wsV RX1 131 RX1 yX1_fasten wsX1_fasten) := goodIn_app (goodIn_of _ (by decide +kernel)) ggX1_drift_X1_fasten
theorem dX1_drift_0 : decode cX1_drift 0 = .ok (.aload_n 0, 1) := by decide +kernel
theorem dX1_drift_1 : decode cX1_drift 1 = .ok (.aload_n 1, 1) := by decide +kernel
theorem dX1_drift_2 : decode cX1_drift 2 = .ok (.iconst 0, 1) := by decide +kernel
theorem dX1_drift_3 : decode cX1_drift 3 = .ok (.invokevirtual 124, 3) := by decide +kernel
theorem dX1_drift_6 : decode cX1_drift 6 = .ok (.pop, 1) := by decide +kernel
theorem dX1_drift_7 : decode cX1_drift 7 = .ok (.aload_n 0, 1) := by decide +kernel
theorem dX1_drift_8 : decode cX1_drift 8 = .ok (.iload_n 2, 1) := by decide +kernel
theorem dX1_drift_9 : decode cX1_drift 9 = .ok (.invokevirtual 128, 3) := by decide +kernel
theorem dX1_drift_12 : decode cX1_drift 12 = .ok (.istore_n 3, 1) := by decide +kernel
theorem dX1_drift_13 : decode cX1_drift 13 = .ok (.iload_n 3, 1) := by decide +kernel
theorem dX1_drift_14 : decode cX1_drift 14 = .ok (.iconst (-1), 1) := by decide +kernel
theorem dX1_drift_15 : decode cX1_drift 15 = .ok (.if_icmp .eq 9, 3) := by decide +kernel
theorem dX1_drift_18 : decode cX1_drift 18 = .ok (.aload_n 0, 1) := by decide +kernel
theorem dX1_drift_19 : decode cX1_drift 19 = .ok (.aload_n 1, 1) := by decide +kernel
theorem dX1_drift_20 : decode cX1_drift 20 = .ok (.iload_n 3, 1) := by decide +kernel
theorem dX1_drift_21 : decode cX1_drift 21 = .ok (.invokevirtual 131, 3) := by decide +kernel
theorem dX1_drift_24 : decode cX1_drift 24 = .ok (.aload_n 1, 1) := by decide +kernel
theorem dX1_drift_25 : decode cX1_drift 25 = .ok (.dup, 1) := by decide +kernel
theorem dX1_drift_26 : decode cX1_drift 26 = .ok (.getfield 134, 3) := by decide +kernel
theorem dX1_drift_29 : decode cX1_drift 29 = .ok (.iconst 1, 1) := by decide +kernel
theorem dX1_drift_30 : decode cX1_drift 30 = .ok (.iadd, 1) := by decide +kernel
theorem dX1_drift_31 : decode cX1_drift 31 = .ok (.putfield 134, 3) := by decide +kernel
theorem dX1_drift_34 : decode cX1_drift 34 = .ok (.aload_n 0, 1) := by decide +kernel
theorem dX1_drift_35 : decode cX1_drift 35 = .ok (.dup, 1) := by decide +kernel
theorem dX1_drift_36 : decode cX1_drift 36 = .ok (.getfield 50, 3) := by decide +kernel
theorem dX1_drift_39 : decode cX1_drift 39 = .ok (.iconst 1, 1) := by decide +kernel
theorem dX1_drift_40 : decode cX1_drift 40 = .ok (.iadd, 1) := by decide +kernel
theorem dX1_drift_41 : decode cX1_drift 41 = .ok (.putfield 50, 3) := by decide +kernel
theorem dX1_drift_44 : decode cX1_drift 44 = .ok (.aload_n 1, 1) := by decide +kernel
theorem dX1_drift_45 : decode cX1_drift 45 = .ok (.aload_n 0, 1) := by decide +kernel
theorem dX1_drift_46 : decode cX1_drift 46 = .ok (.getfield 38, 3) := by decide +kernel
theorem dX1_drift_49 : decode cX1_drift 49 = .ok (.putfield 117, 3) := by decide +kernel
theorem dX1_drift_52 : decode cX1_drift 52 = .ok (.return_, 1) := by decide +kernel
set_option maxRecDepth 20000 in
theorem ggX1_nextRowNotFull_X2_isFull : GoodIn wsX1_nextRowNotFull wsX2_isFull := goodIn_r _ [7, 8, 9, 20, 21, 22] (by decide +kernel) (by decide +kernel)
set_option maxRecDepth 20000 in
theorem gX1_nextRowNotFull_X2_isFull : GoodIn wsX1_nextRowNotFull (wsV RX1 135 RX2 yX2_isFull wsX2_isFull) := goodIn_app (goodIn_of _ (by decide +kernel)) ggX1_nextRowNotFull_X2_isFull
theorem dX1_nextRowNotFull_0 : decode cX1_nextRowNotFull 0 = .ok (.iconst 1, 1) := by decide +kernel
theorem dX1_nextRowNotFull_1 : decode cX1_nextRowNotFull 1 = .ok (.istore_n 2, 1) := by decide +kernel
theorem dX1_nextRowNotFull_2 : decode cX1_nextRowNotFull 2 = .ok (.iload_n 2, 1) := by decide +kernel
theorem dX1_nextRowNotFull_3 : decode cX1_nextRowNotFull 3 = .ok (.aload_n 0, 1) := by decide +kernel
theorem dX1_nextRowNotFull_4 : decode cX1_nextRowNotFull 4 = .ok (.getfield 31, 3) := by decide +kernel
theorem dX1_nextRowNotFull_7 : decode cX1_nextRowNotFull 7 = .ok (.if_icmp .ge 32, 3) := by decide +kernel
theorem dX1_nextRowNotFull_10 : decode cX1_nextRowNotFull 10 = .ok (.iload_n 1, 1) := by decide +kernel
theorem dX1_nextRowNotFull_11 : decode cX1_nextRowNotFull 11 = .ok (.iload_n 2, 1) := by decide +kernel
theorem dX1_nextRowNotFull_12 : decode cX1_nextRowNotFull 12 = .ok (.iadd, 1) := by decide +kernel
theorem dX1_nextRowNotFull_13 : decode cX1_nextRowNotFull 13 = .ok (.aload_n 0, 1) := by decide +kernel
theorem dX1_nextRowNotFull_14 : decode cX1_nextRowNotFull 14 = .ok (.getfield 31, 3) := by decide +kernel
theorem dX1_nextRowNotFull_17 : decode cX1_nextRowNotFull 17 = .ok (.irem, 1) := by decide +kernel
theorem dX1_nextRowNotFull_18 : decode cX1_nextRowNotFull 18 = .ok (.istore_n 3, 1) := by decide +kernel
theorem dX1_nextRowNotFull_19 : decode cX1_nextRowNotFull 19 = .ok (.aload_n 0, 1) := by decide +kernel
theorem dX1_nextRowNotFull_20 : decode cX1_nextRowNotFull 20 = .ok (.getfield 17, 3) := by decide +kernel
theorem dX1_nextRowNotFull_23 : decode cX1_nextRowNotFull 23 = .ok (.iload_n 3, 1) := by decide +kernel
theorem dX1_nextRowNotFull_24 : decode cX1_nextRowNotFull 24 = .ok (.aaload, 1) := by decide +kernel
theorem dX1_nextRowNotFull_25 : decode cX1_nextRowNotFull 25 = .ok (.invokevirtual 135, 3) := by decide +kernel
theorem dX1_nextRowNotFull_28 : decode cX1_nextRowNotFull 28 = .ok (.ifCond .ne 5, 3) := by decide +kernel
theorem dX1_nextRowNotFull_31 : decode cX1_nextRowNotFull 31 = .ok (.iload_n 3, 1) := by decide +kernel
theorem dX1_nextRowNotFull_32 : decode cX1_nextRowNotFull 32 = .ok (.ireturn, 1) := by decide +kernel
theorem dX1_nextRowNotFull_33 : decode cX1_nextRowNotFull 33 = .ok (.iinc 2 1, 3) := by decide +kernel
theorem dX1_nextRowNotFull_36 : decode cX1_nextRowNotFull 36 = .ok (.goto (-34), 3) := by decide +kernel
theorem dX1_nextRowNotFull_39 : decode cX1_nextRowNotFull 39 = .ok (.iconst (-1), 1) := by decide +kernel
theorem dX1_nextRowNotFull_40 : decode cX1_nextRowNotFull 40 = .ok (.ireturn, 1) := by decide +kernel
set_option maxRecDepth 20000 in
theorem ggX1_leaveByNumbers_X0_isToLeaveBy : GoodIn wsX1_leaveByNumbers wsX0_isToLeaveBy := goodIn_r _ [9, 10, 55, 56, 57, 58, 59, 60, 61, 62, 63, 64, 65, 66, 67, 68, 69, 70] (by decide +kernel) (by decide +kernel)
set_option maxRecDepth 20000 in
theorem gX1_leaveByNumbers_X0_isToLeaveBy : GoodIn wsX1_leaveByNumbers (wsV RX1 139 RX0 yX0_isToLeaveBy wsX0_isToLeaveBy) := goodIn_app (goodIn_of _ (by decide +kernel)) ggX1_leaveByNumbers_X0_isToLeaveBy
set_option maxRecDepth 20000 in
theorem ggX1_leaveByNumbers_X1_liesDry : GoodIn wsX1_leaveByNumbers wsX1_liesDry := goodIn_r _ [15, 3, 16, 17, 4, 18, 19, 20, 21, 22, 23, 24, 25, 26, 27, 55, 56, 57, 58, 59, 60, 61, 62, 63, 64, 65, 66, 67, 68, 69, 70, 45, 46, 47, 48, 49, 50, 51, 52, 53, 54, 71, 72] (by decide +kernel) (by decide +kernel)
set_option maxRecDepth 20000 in
theorem gX1_leaveByNumbers_X1_liesDry : GoodIn wsX1_leaveByNumbers (wsV RX1 143 RX1 yX1_liesDry wsX1_liesDry) := goodIn_app (goodIn_of _ (by decide +kernel)) ggX1_leaveByNumbers_X1_liesDry
set_option maxRecDepth 20000 in
theorem ggX1_leaveByNumbers_X1_unfasten : GoodIn wsX1_leaveByNumbers wsX1_unfasten := goodIn_r _ [31, 3, 32, 33, 16, 34, 2, 35, 36, 37, 38, 39, 40, 41, 42, 43, 44, 55, 56, 57, 58, 59, 60, 61, 62, 63, 64, 65, 66, 67, 68, 69, 70, 45, 46, 47, 48, 49, 50, 51, 52, 53, 54, 73, 74, 75] (by decide +kernel) (by decide +kernel)
set_option maxRecDepth 20000 in
theorem gX1_leaveByNumbers_X1_unfasten : GoodIn wsX1_leaveByNumbers (wsV RX1 124 RX1 yX1_unfasten wsX1_unfasten) := goodIn_app (goodIn_of _ (by decide +kernel)) ggX1_leaveByNumbers_X1_unfasten
theorem dX1_leaveByNumbers_0 : decode cX1_leaveByNumbers 0 = .ok (.iconst 0, 1) := by decide +kernel
theorem dX1_leaveByNumbers_1 : decode cX1_leaveByNumbers 1 = .ok (.istore_n 1, 1) := by decide +kernel
theorem dX1_leaveByNumbers_2 : decode cX1_leaveByNumbers 2 = .ok (.iload_n 1, 1) := by decide +kernel
theorem dX1_leaveByNumbers_3 : decode cX1_leaveByNumbers 3 = .ok (.aload_n 0, 1) := by decide +kernel
theorem dX1_leaveByNumbers_4 : decode cX1_leaveByNumbers 4 = .ok (.getfield 35, 3) := by decide +kernel
theorem dX1_leaveByNumbers_7 : decode cX1_leaveByNumbers 7 = .ok (.if_icmp .ge 50, 3) := by decide +kernel
theorem dX1_leaveByNumbers_10 : decode cX1_leaveByNumbers 10 = .ok (.aload_n 0, 1) := by decide +kernel
theorem dX1_leaveByNumbers_11 : decode cX1_leaveByNumbers 11 = .ok (.getfield 24, 3) := by decide +kernel
theorem dX1_leaveByNumbers_14 : decode cX1_leaveByNumbers 14 = .ok (.iload_n 1, 1) := by decide +kernel
theorem dX1_leaveByNumbers_15 : decode cX1_leaveByNumbers 15 = .ok (.aaload, 1) := by decide +kernel
theorem dX1_leaveByNumbers_16 : decode cX1_leaveByNumbers 16 = .ok (.astore_n 2, 1) := by decide +kernel
theorem dX1_leaveByNumbers_17 : decode cX1_leaveByNumbers 17 = .ok (.aload_n 2, 1) := by decide +kernel
theorem dX1_leaveByNumbers_18 : decode cX1_leaveByNumbers 18 = .ok (.getfield 69, 3) := by decide +kernel
theorem dX1_leaveByNumbers_21 : decode cX1_leaveByNumbers 21 = .ok (.iconst 1, 1) := by decide +kernel
theorem dX1_leaveByNumbers_22 : decode cX1_leaveByNumbers 22 = .ok (.if_icmp .ne 29, 3) := by decide +kernel
theorem dX1_leaveByNumbers_25 : decode cX1_leaveByNumbers 25 = .ok (.aload_n 2, 1) := by decide +kernel
theorem dX1_leaveByNumbers_26 : decode cX1_leaveByNumbers 26 = .ok (.aload_n 0, 1) := by decide +kernel
theorem dX1_leaveByNumbers_27 : decode cX1_leaveByNumbers 27 = .ok (.getfield 38, 3) := by decide +kernel
theorem dX1_leaveByNumbers_30 : decode cX1_leaveByNumbers 30 = .ok (.invokevirtual 139, 3) := by decide +kernel
theorem dX1_leaveByNumbers_33 : decode cX1_leaveByNumbers 33 = .ok (.ifCond .eq 18, 3) := by decide +kernel
theorem dX1_leaveByNumbers_36 : decode cX1_leaveByNumbers 36 = .ok (.aload_n 0, 1) := by decide +kernel
theorem dX1_leaveByNumbers_37 : decode cX1_leaveByNumbers 37 = .ok (.aload_n 2, 1) := by decide +kernel
theorem dX1_leaveByNumbers_38 : decode cX1_leaveByNumbers 38 = .ok (.invokevirtual 143, 3) := by decide +kernel
theorem dX1_leaveByNumbers_41 : decode cX1_leaveByNumbers 41 = .ok (.ifCond .ne 10, 3) := by decide +kernel
theorem dX1_leaveByNumbers_44 : decode cX1_leaveByNumbers 44 = .ok (.aload_n 0, 1) := by decide +kernel
theorem dX1_leaveByNumbers_45 : decode cX1_leaveByNumbers 45 = .ok (.aload_n 2, 1) := by decide +kernel
theorem dX1_leaveByNumbers_46 : decode cX1_leaveByNumbers 46 = .ok (.iconst 2, 1) := by decide +kernel
theorem dX1_leaveByNumbers_47 : decode cX1_leaveByNumbers 47 = .ok (.invokevirtual 124, 3) := by decide +kernel
theorem dX1_leaveByNumbers_50 : decode cX1_leaveByNumbers 50 = .ok (.pop, 1) := by decide +kernel
theorem dX1_leaveByNumbers_51 : decode cX1_leaveByNumbers 51 = .ok (.iinc 1 1, 3) := by decide +kernel
theorem dX1_leaveByNumbers_54 : decode cX1_leaveByNumbers 54 = .ok (.goto (-52), 3) := by decide +kernel
theorem dX1_leaveByNumbers_57 : decode cX1_leaveByNumbers 57 = .ok (.return_, 1) := by decide +kernel
set_option maxRecDepth 20000 in
theorem ggX1_tradeByNumbers_X0_misses : GoodIn wsX1_tradeByNumbers wsX0_misses := goodIn_r _ [8, 9, 10, 11, 12, 13, 14, 70, 71, 72, 73, 74, 75, 76, 77, 78, 79, 80, 81, 82, 83, 84, 85] (by decide +kernel) (by decide +kernel)
set_option maxRecDepth 20000 in
theorem gX1_tradeByNumbers_X0_misses : GoodIn wsX1_tradeByNumbers (wsV RX1 147 RX0 yX0_misses wsX0_misses) := goodIn_app (goodIn_of _ (by decide +kernel)) ggX1_tradeByNumbers_X0_misses
set_option maxRecDepth 20000 in
theorem ggX1_tradeByNumbers_X1_cheapestSeller : GoodIn wsX1_tradeByNumbers wsX1_cheapestSeller := goodIn_r _ [19, 20, 21, 22, 23, 13, 24, 25, 26, 27, 28, 29, 18, 30, 31, 32, 2, 33, 34, 35, 36, 37, 38, 39, 40, 41, 42, 43, 44, 45, 46, 47, 48, 7, 49, 50, 10, 9, 70, 71, 72, 73, 74, 75, 76, 77, 78, 79, 80, 81, 82, 83, 84, 85, 60, 61, 62, 63, 64, 65, 66, 67, 68, 69, 86, 87, 88] (by decide +kernel) (by decide +kernel)
set_option maxRecDepth 20000 in
theorem gX1_tradeByNumbers_X1_cheapestSeller : GoodIn wsX1_tradeByNumbers (wsV RX1 150 RX1 yX1_cheapestSeller wsX1_cheapestSeller) := goodIn_app (goodIn_of _ (by decide +kernel)) ggX1_tradeByNumbers_X1_cheapestSeller
set_option maxRecDepth 20000 in
theorem ggX1_tradeByNumbers_X1_trade : GoodIn wsX1_tradeByNumbers wsX1_trade := goodIn_r _ [54, 44, 55, 21, 56, 57, 58, 59, 70, 71, 72, 73, 74, 75, 76, 77, 78, 79, 80, 81, 82, 83, 84, 85, 60, 61, 62, 63, 64, 65, 66, 67, 68, 69] (by decide +kernel) (by decide +kernel)
set_option maxRecDepth 20000 in
theorem gX1_tradeByNumbers_X1_trade : GoodIn wsX1_tradeByNumbers (wsV RX1 154 RX1 yX1_trade wsX1_trade) := goodIn_app (goodIn_of _ (by decide +kernel)) ggX1_tradeByNumbers_X1_trade
theorem dX1_tradeByNumbers_0 : decode cX1_tradeByNumbers 0 = .ok (.iconst 0, 1) := by decide +kernel
theorem dX1_tradeByNumbers_1 : decode cX1_tradeByNumbers 1 = .ok (.istore_n 1, 1) := by decide +kernel
theorem dX1_tradeByNumbers_2 : decode cX1_tradeByNumbers 2 = .ok (.iload_n 1, 1) := by decide +kernel
theorem dX1_tradeByNumbers_3 : decode cX1_tradeByNumbers 3 = .ok (.aload_n 0, 1) := by decide +kernel
theorem dX1_tradeByNumbers_4 : decode cX1_tradeByNumbers 4 = .ok (.getfield 35, 3) := by decide +kernel
theorem dX1_tradeByNumbers_7 : decode cX1_tradeByNumbers 7 = .ok (.if_icmp .ge 57, 3) := by decide +kernel
theorem dX1_tradeByNumbers_10 : decode cX1_tradeByNumbers 10 = .ok (.aload_n 0, 1) := by decide +kernel
theorem dX1_tradeByNumbers_11 : decode cX1_tradeByNumbers 11 = .ok (.getfield 24, 3) := by decide +kernel
theorem dX1_tradeByNumbers_14 : decode cX1_tradeByNumbers 14 = .ok (.iload_n 1, 1) := by decide +kernel
theorem dX1_tradeByNumbers_15 : decode cX1_tradeByNumbers 15 = .ok (.aaload, 1) := by decide +kernel
theorem dX1_tradeByNumbers_16 : decode cX1_tradeByNumbers 16 = .ok (.astore_n 2, 1) := by decide +kernel
theorem dX1_tradeByNumbers_17 : decode cX1_tradeByNumbers 17 = .ok (.aload_n 2, 1) := by decide +kernel
theorem dX1_tradeByNumbers_18 : decode cX1_tradeByNumbers 18 = .ok (.getfield 69, 3) := by decide +kernel
theorem dX1_tradeByNumbers_21 : decode cX1_tradeByNumbers 21 = .ok (.iconst 1, 1) := by decide +kernel
theorem dX1_tradeByNumbers_22 : decode cX1_tradeByNumbers 22 = .ok (.if_icmp .ne 36, 3) := by decide +kernel
theorem dX1_tradeByNumbers_25 : decode cX1_tradeByNumbers 25 = .ok (.iconst 0, 1) := by decide +kernel
theorem dX1_tradeByNumbers_26 : decode cX1_tradeByNumbers 26 = .ok (.istore_n 3, 1) := by decide +kernel
theorem dX1_tradeByNumbers_27 : decode cX1_tradeByNumbers 27 = .ok (.iload_n 3, 1) := by decide +kernel
theorem dX1_tradeByNumbers_28 : decode cX1_tradeByNumbers 28 = .ok (.iconst 4, 1) := by decide +kernel
theorem dX1_tradeByNumbers_29 : decode cX1_tradeByNumbers 29 = .ok (.if_icmp .ge 29, 3) := by decide +kernel
theorem dX1_tradeByNumbers_32 : decode cX1_tradeByNumbers 32 = .ok (.aload_n 2, 1) := by decide +kernel
theorem dX1_tradeByNumbers_33 : decode cX1_tradeByNumbers 33 = .ok (.iload_n 3, 1) := by decide +kernel
theorem dX1_tradeByNumbers_34 : decode cX1_tradeByNumbers 34 = .ok (.invokevirtual 147, 3) := by decide +kernel
theorem dX1_tradeByNumbers_37 : decode cX1_tradeByNumbers 37 = .ok (.ifCond .le 15, 3) := by decide +kernel
theorem dX1_tradeByNumbers_40 : decode cX1_tradeByNumbers 40 = .ok (.aload_n 0, 1) := by decide +kernel
theorem dX1_tradeByNumbers_41 : decode cX1_tradeByNumbers 41 = .ok (.aload_n 2, 1) := by decide +kernel
theorem dX1_tradeByNumbers_42 : decode cX1_tradeByNumbers 42 = .ok (.aload_n 0, 1) := by decide +kernel
theorem dX1_tradeByNumbers_43 : decode cX1_tradeByNumbers 43 = .ok (.aload_n 2, 1) := by decide +kernel
theorem dX1_tradeByNumbers_44 : decode cX1_tradeByNumbers 44 = .ok (.iload_n 3, 1) := by decide +kernel
theorem dX1_tradeByNumbers_45 : decode cX1_tradeByNumbers 45 = .ok (.invokevirtual 150, 3) := by decide +kernel
theorem dX1_tradeByNumbers_48 : decode cX1_tradeByNumbers 48 = .ok (.iload_n 3, 1) := by decide +kernel
theorem dX1_tradeByNumbers_49 : decode cX1_tradeByNumbers 49 = .ok (.invokevirtual 154, 3) := by decide +kernel
theorem dX1_tradeByNumbers_52 : decode cX1_tradeByNumbers 52 = .ok (.iinc 3 1, 3) := by decide +kernel
theorem dX1_tradeByNumbers_55 : decode cX1_tradeByNumbers 55 = .ok (.goto (-28), 3) := by decide +kernel
theorem dX1_tradeByNumbers_58 : decode cX1_tradeByNumbers 58 = .ok (.iinc 1 1, 3) := by decide +kernel
theorem dX1_tradeByNumbers_61 : decode cX1_tradeByNumbers 61 = .ok (.goto (-59), 3) := by decide +kernel
theorem dX1_tradeByNumbers_64 : decode cX1_tradeByNumbers 64 = .ok (.return_, 1) := by decide +kernel
set_option maxRecDepth 20000 in
theorem ggX1_cheapestSeller_X1_canoeAt : GoodIn wsX1_cheapestSeller wsX1_canoeAt := goodIn_r _ [13, 14, 15, 16, 17, 18, 19, 20, 21, 22, 23, 54, 55, 56, 57, 58, 59, 60, 61, 62, 63, 64, 65, 66] (by decide +kernel) (by decide +kernel)
set_option maxRecDepth 20000 in
theorem gX1_cheapestSeller_X1_canoeAt : GoodIn wsX1_cheapestSeller (wsV RX1 113 RX1 yX1_canoeAt wsX1_canoeAt) := goodIn_app (goodIn_of _ (by decide +kernel)) ggX1_cheapestSeller_X1_canoeAt
set_option maxRecDepth 20000 in
theorem ggX1_cheapestSeller_X1_cheaper : GoodIn wsX1_cheapestSeller wsX1_cheaper := goodIn_r _ [27, 28, 29, 30, 31, 32, 33, 34, 35, 36, 37, 38, 39, 40, 41, 42, 43, 44, 45, 46, 47, 48, 49, 50, 51, 52, 53] (by decide +kernel) (by decide +kernel)
set_option maxRecDepth 20000 in
theorem gX1_cheapestSeller_X1_cheaper : GoodIn wsX1_cheapestSeller (wsV RX1 167 RX1 yX1_cheaper wsX1_cheaper) := goodIn_app (goodIn_of _ (by decide +kernel)) ggX1_cheapestSeller_X1_cheaper
theorem dX1_cheapestSeller_0 : decode cX1_cheapestSeller 0 = .ok (.aload_n 1, 1) := by decide +kernel
theorem dX1_cheapestSeller_1 : decode cX1_cheapestSeller 1 = .ok (.getfield 158, 3) := by decide +kernel
theorem dX1_cheapestSeller_4 : decode cX1_cheapestSeller 4 = .ok (.iload_n 2, 1) := by decide +kernel
theorem dX1_cheapestSeller_5 : decode cX1_cheapestSeller 5 = .ok (.iaload, 1) := by decide +kernel
theorem dX1_cheapestSeller_6 : decode cX1_cheapestSeller 6 = .ok (.aload_n 1, 1) := by decide +kernel
theorem dX1_cheapestSeller_7 : decode cX1_cheapestSeller 7 = .ok (.getfield 63, 3) := by decide +kernel
theorem dX1_cheapestSeller_10 : decode cX1_cheapestSeller 10 = .ok (.invokestatic 161, 3) := by decide +kernel
theorem dX1_cheapestSeller_13 : decode cX1_cheapestSeller 13 = .ok (.istore_n 3, 1) := by decide +kernel
theorem dX1_cheapestSeller_14 : decode cX1_cheapestSeller 14 = .ok (.aload_n 1, 1) := by decide +kernel
theorem dX1_cheapestSeller_15 : decode cX1_cheapestSeller 15 = .ok (.getfield 72, 3) := by decide +kernel
theorem dX1_cheapestSeller_18 : decode cX1_cheapestSeller 18 = .ok (.istore 4, 2) := by decide +kernel
theorem dX1_cheapestSeller_20 : decode cX1_cheapestSeller 20 = .ok (.aload_n 1, 1) := by decide +kernel
theorem dX1_cheapestSeller_21 : decode cX1_cheapestSeller 21 = .ok (.getfield 78, 3) := by decide +kernel
theorem dX1_cheapestSeller_24 : decode cX1_cheapestSeller 24 = .ok (.istore 5, 2) := by decide +kernel
theorem dX1_cheapestSeller_26 : decode cX1_cheapestSeller 26 = .ok (.aconst_null, 1) := by decide +kernel
theorem dX1_cheapestSeller_27 : decode cX1_cheapestSeller 27 = .ok (.astore 6, 2) := by decide +kernel
theorem dX1_cheapestSeller_29 : decode cX1_cheapestSeller 29 = .ok (.aload_n 0, 1) := by decide +kernel
theorem dX1_cheapestSeller_30 : decode cX1_cheapestSeller 30 = .ok (.aload 6, 2) := by decide +kernel
theorem dX1_cheapestSeller_32 : decode cX1_cheapestSeller 32 = .ok (.aload_n 0, 1) := by decide +kernel
theorem dX1_cheapestSeller_33 : decode cX1_cheapestSeller 33 = .ok (.iload 4, 2) := by decide +kernel
theorem dX1_cheapestSeller_35 : decode cX1_cheapestSeller 35 = .ok (.iload 5, 2) := by decide +kernel
theorem dX1_cheapestSeller_37 : decode cX1_cheapestSeller 37 = .ok (.iconst 1, 1) := by decide +kernel
theorem dX1_cheapestSeller_38 : decode cX1_cheapestSeller 38 = .ok (.isub, 1) := by decide +kernel
theorem dX1_cheapestSeller_39 : decode cX1_cheapestSeller 39 = .ok (.invokevirtual 113, 3) := by decide +kernel
theorem dX1_cheapestSeller_42 : decode cX1_cheapestSeller 42 = .ok (.iload_n 2, 1) := by decide +kernel
theorem dX1_cheapestSeller_43 : decode cX1_cheapestSeller 43 = .ok (.iload_n 3, 1) := by decide +kernel
theorem dX1_cheapestSeller_44 : decode cX1_cheapestSeller 44 = .ok (.invokevirtual 167, 3) := by decide +kernel
theorem dX1_cheapestSeller_47 : decode cX1_cheapestSeller 47 = .ok (.astore 6, 2) := by decide +kernel
theorem dX1_cheapestSeller_49 : decode cX1_cheapestSeller 49 = .ok (.aload_n 0, 1) := by decide +kernel
theorem dX1_cheapestSeller_50 : decode cX1_cheapestSeller 50 = .ok (.aload 6, 2) := by decide +kernel
theorem dX1_cheapestSeller_52 : decode cX1_cheapestSeller 52 = .ok (.aload_n 0, 1) := by decide +kernel
theorem dX1_cheapestSeller_53 : decode cX1_cheapestSeller 53 = .ok (.iload 4, 2) := by decide +kernel
theorem dX1_cheapestSeller_55 : decode cX1_cheapestSeller 55 = .ok (.iload 5, 2) := by decide +kernel
theorem dX1_cheapestSeller_57 : decode cX1_cheapestSeller 57 = .ok (.iconst 1, 1) := by decide +kernel
theorem dX1_cheapestSeller_58 : decode cX1_cheapestSeller 58 = .ok (.iadd, 1) := by decide +kernel
theorem dX1_cheapestSeller_59 : decode cX1_cheapestSeller 59 = .ok (.invokevirtual 113, 3) := by decide +kernel
theorem dX1_cheapestSeller_62 : decode cX1_cheapestSeller 62 = .ok (.iload_n 2, 1) := by decide +kernel
theorem dX1_cheapestSeller_63 : decode cX1_cheapestSeller 63 = .ok (.iload_n 3, 1) := by decide +kernel
theorem dX1_cheapestSeller_64 : decode cX1_cheapestSeller 64 = .ok (.invokevirtual 167, 3) := by decide +kernel
theorem dX1_cheapestSeller_67 : decode cX1_cheapestSeller 67 = .ok (.astore 6, 2) := by decide +kernel
theorem dX1_cheapestSeller_69 : decode cX1_cheapestSeller 69 = .ok (.aload_n 0, 1) := by decide +kernel
theorem dX1_cheapestSeller_70 : decode cX1_cheapestSeller 70 = .ok (.aload 6, 2) := by decide +kernel
theorem dX1_cheapestSeller_72 : decode cX1_cheapestSeller 72 = .ok (.aload_n 0, 1) := by decide +kernel
theorem dX1_cheapestSeller_73 : decode cX1_cheapestSeller 73 = .ok (.iload 4, 2) := by decide +kernel
theorem dX1_cheapestSeller_75 : decode cX1_cheapestSeller 75 = .ok (.iconst 1, 1) := by decide +kernel
theorem dX1_cheapestSeller_76 : decode cX1_cheapestSeller 76 = .ok (.isub, 1) := by decide +kernel
theorem dX1_cheapestSeller_77 : decode cX1_cheapestSeller 77 = .ok (.iload 5, 2) := by decide +kernel
theorem dX1_cheapestSeller_79 : decode cX1_cheapestSeller 79 = .ok (.invokevirtual 113, 3) := by decide +kernel
theorem dX1_cheapestSeller_82 : decode cX1_cheapestSeller 82 = .ok (.iload_n 2, 1) := by decide +kernel
theorem dX1_cheapestSeller_83 : decode cX1_cheapestSeller 83 = .ok (.iload_n 3, 1) := by decide +kernel
theorem dX1_cheapestSeller_84 : decode cX1_cheapestSeller 84 = .ok (.invokevirtual 167, 3) := by decide +kernel
theorem dX1_cheapestSeller_87 : decode cX1_cheapestSeller 87 = .ok (.astore 6, 2) := by decide +kernel
theorem dX1_cheapestSeller_89 : decode cX1_cheapestSeller 89 = .ok (.aload_n 0, 1) := by decide +kernel
theorem dX1_cheapestSeller_90 : decode cX1_cheapestSeller 90 = .ok (.aload 6, 2) := by decide +kernel
theorem dX1_cheapestSeller_92 : decode cX1_cheapestSeller 92 = .ok (.aload_n 0, 1) := by decide +kernel
theorem dX1_cheapestSeller_93 : decode cX1_cheapestSeller 93 = .ok (.iload 4, 2) := by decide +kernel
theorem dX1_cheapestSeller_95 : decode cX1_cheapestSeller 95 = .ok (.iconst 1, 1) := by decide +kernel
theorem dX1_cheapestSeller_96 : decode cX1_cheapestSeller 96 = .ok (.iadd, 1) := by decide +kernel
theorem dX1_cheapestSeller_97 : decode cX1_cheapestSeller 97 = .ok (.iload 5, 2) := by decide +kernel
theorem dX1_cheapestSeller_99 : decode cX1_cheapestSeller 99 = .ok (.invokevirtual 113, 3) := by decide +kernel
theorem dX1_cheapestSeller_102 : decode cX1_cheapestSeller 102 = .ok (.iload_n 2, 1) := by decide +kernel
theorem dX1_cheapestSeller_103 : decode cX1_cheapestSeller 103 = .ok (.iload_n 3, 1) := by decide +kernel
theorem dX1_cheapestSeller_104 : decode cX1_cheapestSeller 104 = .ok (.invokevirtual 167, 3) := by decide +kernel
theorem dX1_cheapestSeller_107 : decode cX1_cheapestSeller 107 = .ok (.astore 6, 2) := by decide +kernel
theorem dX1_cheapestSeller_109 : decode cX1_cheapestSeller 109 = .ok (.aload 6, 2) := by decide +kernel
theorem dX1_cheapestSeller_111 : decode cX1_cheapestSeller 111 = .ok (.areturn, 1) := by decide +kernel
set_option maxRecDepth 20000 in
theorem ggX1_cheaper_X0_sells : GoodIn wsX1_cheaper wsX0_sells := goodIn_r _ [7, 8, 9, 10, 11, 12, 13, 14, 15, 16, 17, 18, 19, 20, 21, 22, 23, 24, 25, 26] (by decide +kernel) (by decide +kernel)
set_option maxRecDepth 20000 in
theorem gX1_cheaper_X0_sells : GoodIn wsX1_cheaper (wsV RX1 171 RX0 yX0_sells wsX0_sells) := goodIn_app (goodIn_of _ (by decide +kernel)) ggX1_cheaper_X0_sells
theorem dX1_cheaper_0 : decode cX1_cheaper 0 = .ok (.aload_n 2, 1) := by decide +kernel
theorem dX1_cheaper_1 : decode cX1_cheaper 1 = .ok (.ifnull 13, 3) := by decide +kernel
theorem dX1_cheaper_4 : decode cX1_cheaper 4 = .ok (.aload_n 2, 1) := by decide +kernel
theorem dX1_cheaper_5 : decode cX1_cheaper 5 = .ok (.iload_n 3, 1) := by decide +kernel
theorem dX1_cheaper_6 : decode cX1_cheaper 6 = .ok (.iload 4, 2) := by decide +kernel
theorem dX1_cheaper_8 : decode cX1_cheaper 8 = .ok (.invokevirtual 171, 3) := by decide +kernel
theorem dX1_cheaper_11 : decode cX1_cheaper 11 = .ok (.ifCond .ne 5, 3) := by decide +kernel
theorem dX1_cheaper_14 : decode cX1_cheaper 14 = .ok (.aload_n 1, 1) := by decide +kernel
theorem dX1_cheaper_15 : decode cX1_cheaper 15 = .ok (.areturn, 1) := by decide +kernel
theorem dX1_cheaper_16 : decode cX1_cheaper 16 = .ok (.aload_n 1, 1) := by decide +kernel
theorem dX1_cheaper_17 : decode cX1_cheaper 17 = .ok (.ifnull 18, 3) := by decide +kernel
theorem dX1_cheaper_20 : decode cX1_cheaper 20 = .ok (.aload_n 2, 1) := by decide +kernel
theorem dX1_cheaper_21 : decode cX1_cheaper 21 = .ok (.getfield 175, 3) := by decide +kernel
theorem dX1_cheaper_24 : decode cX1_cheaper 24 = .ok (.iload_n 3, 1) := by decide +kernel
theorem dX1_cheaper_25 : decode cX1_cheaper 25 = .ok (.iaload, 1) := by decide +kernel
theorem dX1_cheaper_26 : decode cX1_cheaper 26 = .ok (.aload_n 1, 1) := by decide +kernel
theorem dX1_cheaper_27 : decode cX1_cheaper 27 = .ok (.getfield 175, 3) := by decide +kernel
theorem dX1_cheaper_30 : decode cX1_cheaper 30 = .ok (.iload_n 3, 1) := by decide +kernel
theorem dX1_cheaper_31 : decode cX1_cheaper 31 = .ok (.iaload, 1) := by decide +kernel
theorem dX1_cheaper_32 : decode cX1_cheaper 32 = .ok (.if_icmp .ge 5, 3) := by decide +kernel
theorem dX1_cheaper_35 : decode cX1_cheaper 35 = .ok (.aload_n 2, 1) := by decide +kernel
theorem dX1_cheaper_36 : decode cX1_cheaper 36 = .ok (.areturn, 1) := by decide +kernel
theorem dX1_cheaper_37 : decode cX1_cheaper 37 = .ok (.aload_n 2, 1) := by decide +kernel
theorem dX1_cheaper_38 : decode cX1_cheaper 38 = .ok (.getfield 175, 3) := by decide +kernel
theorem dX1_cheaper_41 : decode cX1_cheaper 41 = .ok (.iload_n 3, 1) := by decide +kernel
theorem dX1_cheaper_42 : decode cX1_cheaper 42 = .ok (.iaload, 1) := by decide +kernel
theorem dX1_cheaper_43 : decode cX1_cheaper 43 = .ok (.aload_n 1, 1) := by decide +kernel
theorem dX1_cheaper_44 : decode cX1_cheaper 44 = .ok (.getfield 175, 3) := by decide +kernel
theorem dX1_cheaper_47 : decode cX1_cheaper 47 = .ok (.iload_n 3, 1) := by decide +kernel
theorem dX1_cheaper_48 : decode cX1_cheaper 48 = .ok (.iaload, 1) := by decide +kernel
theorem dX1_cheaper_49 : decode cX1_cheaper 49 = .ok (.if_icmp .ne 18, 3) := by decide +kernel
theorem dX1_cheaper_52 : decode cX1_cheaper 52 = .ok (.aload_n 2, 1) := by decide +kernel
theorem dX1_cheaper_53 : decode cX1_cheaper 53 = .ok (.getfield 81, 3) := by decide +kernel
theorem dX1_cheaper_56 : decode cX1_cheaper 56 = .ok (.aload_n 1, 1) := by decide +kernel
theorem dX1_cheaper_57 : decode cX1_cheaper 57 = .ok (.getfield 81, 3) := by decide +kernel
theorem dX1_cheaper_60 : decode cX1_cheaper 60 = .ok (.if_icmp .ge 7, 3) := by decide +kernel
theorem dX1_cheaper_63 : decode cX1_cheaper 63 = .ok (.iconst 1, 1) := by decide +kernel
theorem dX1_cheaper_64 : decode cX1_cheaper 64 = .ok (.goto 4, 3) := by decide +kernel
theorem dX1_cheaper_67 : decode cX1_cheaper 67 = .ok (.iconst 0, 1) := by decide +kernel
theorem dX1_cheaper_68 : decode cX1_cheaper 68 = .ok (.istore 5, 2) := by decide +kernel
theorem dX1_cheaper_70 : decode cX1_cheaper 70 = .ok (.iload 5, 2) := by decide +kernel
theorem dX1_cheaper_72 : decode cX1_cheaper 72 = .ok (.ifCond .eq 7, 3) := by decide +kernel
theorem dX1_cheaper_75 : decode cX1_cheaper 75 = .ok (.aload_n 2, 1) := by decide +kernel
theorem dX1_cheaper_76 : decode cX1_cheaper 76 = .ok (.goto 4, 3) := by decide +kernel
theorem dX1_cheaper_79 : decode cX1_cheaper 79 = .ok (.aload_n 1, 1) := by decide +kernel
theorem dX1_cheaper_80 : decode cX1_cheaper 80 = .ok (.areturn, 1) := by decide +kernel
theorem dX1_trade_0 : decode cX1_trade 0 = .ok (.aload_n 2, 1) := by decide +kernel
theorem dX1_trade_1 : decode cX1_trade 1 = .ok (.ifnonnull 4, 3) := by decide +kernel
theorem dX1_trade_4 : decode cX1_trade 4 = .ok (.return_, 1) := by decide +kernel
theorem dX1_trade_5 : decode cX1_trade 5 = .ok (.aload_n 2, 1) := by decide +kernel
theorem dX1_trade_6 : decode cX1_trade 6 = .ok (.getfield 175, 3) := by decide +kernel
theorem dX1_trade_9 : decode cX1_trade 9 = .ok (.iload_n 3, 1) := by decide +kernel
theorem dX1_trade_10 : decode cX1_trade 10 = .ok (.iaload, 1) := by decide +kernel
theorem dX1_trade_11 : decode cX1_trade 11 = .ok (.istore 4, 2) := by decide +kernel
theorem dX1_trade_13 : decode cX1_trade 13 = .ok (.aload_n 2, 1) := by decide +kernel
theorem dX1_trade_14 : decode cX1_trade 14 = .ok (.getfield 178, 3) := by decide +kernel
theorem dX1_trade_17 : decode cX1_trade 17 = .ok (.iload_n 3, 1) := by decide +kernel
theorem dX1_trade_18 : decode cX1_trade 18 = .ok (.dup2, 1) := by decide +kernel
theorem dX1_trade_19 : decode cX1_trade 19 = .ok (.iaload, 1) := by decide +kernel
theorem dX1_trade_20 : decode cX1_trade 20 = .ok (.iconst 1, 1) := by decide +kernel
theorem dX1_trade_21 : decode cX1_trade 21 = .ok (.isub, 1) := by decide +kernel
theorem dX1_trade_22 : decode cX1_trade 22 = .ok (.iastore, 1) := by decide +kernel
theorem dX1_trade_23 : decode cX1_trade 23 = .ok (.aload_n 2, 1) := by decide +kernel
theorem dX1_trade_24 : decode cX1_trade 24 = .ok (.dup, 1) := by decide +kernel
theorem dX1_trade_25 : decode cX1_trade 25 = .ok (.getfield 63, 3) := by decide +kernel
theorem dX1_trade_28 : decode cX1_trade 28 = .ok (.iload 4, 2) := by decide +kernel
theorem dX1_trade_30 : decode cX1_trade 30 = .ok (.iadd, 1) := by decide +kernel
theorem dX1_trade_31 : decode cX1_trade 31 = .ok (.putfield 63, 3) := by decide +kernel
theorem dX1_trade_34 : decode cX1_trade 34 = .ok (.aload_n 2, 1) := by decide +kernel
theorem dX1_trade_35 : decode cX1_trade 35 = .ok (.dup, 1) := by decide +kernel
theorem dX1_trade_36 : decode cX1_trade 36 = .ok (.getfield 181, 3) := by decide +kernel
theorem dX1_trade_39 : decode cX1_trade 39 = .ok (.iconst 1, 1) := by decide +kernel
theorem dX1_trade_40 : decode cX1_trade 40 = .ok (.iadd, 1) := by decide +kernel
theorem dX1_trade_41 : decode cX1_trade 41 = .ok (.putfield 181, 3) := by decide +kernel
theorem dX1_trade_44 : decode cX1_trade 44 = .ok (.aload_n 1, 1) := by decide +kernel
theorem dX1_trade_45 : decode cX1_trade 45 = .ok (.getfield 178, 3) := by decide +kernel
theorem dX1_trade_48 : decode cX1_trade 48 = .ok (.iload_n 3, 1) := by decide +kernel
theorem dX1_trade_49 : decode cX1_trade 49 = .ok (.dup2, 1) := by decide +kernel
theorem dX1_trade_50 : decode cX1_trade 50 = .ok (.iaload, 1) := by decide +kernel
theorem dX1_trade_51 : decode cX1_trade 51 = .ok (.iconst 1, 1) := by decide +kernel
theorem dX1_trade_52 : decode cX1_trade 52 = .ok (.iadd, 1) := by decide +kernel
theorem dX1_trade_53 : decode cX1_trade 53 = .ok (.iastore, 1) := by decide +kernel
theorem dX1_trade_54 : decode cX1_trade 54 = .ok (.aload_n 1, 1) := by decide +kernel
theorem dX1_trade_55 : decode cX1_trade 55 = .ok (.dup, 1) := by decide +kernel
theorem dX1_trade_56 : decode cX1_trade 56 = .ok (.getfield 63, 3) := by decide +kernel
theorem dX1_trade_59 : decode cX1_trade 59 = .ok (.iload 4, 2) := by decide +kernel
theorem dX1_trade_61 : decode cX1_trade 61 = .ok (.isub, 1) := by decide +kernel
theorem dX1_trade_62 : decode cX1_trade 62 = .ok (.putfield 63, 3) := by decide +kernel
theorem dX1_trade_65 : decode cX1_trade 65 = .ok (.aload_n 1, 1) := by decide +kernel
theorem dX1_trade_66 : decode cX1_trade 66 = .ok (.dup, 1) := by decide +kernel
theorem dX1_trade_67 : decode cX1_trade 67 = .ok (.getfield 182, 3) := by decide +kernel
theorem dX1_trade_70 : decode cX1_trade 70 = .ok (.iconst 1, 1) := by decide +kernel
theorem dX1_trade_71 : decode cX1_trade 71 = .ok (.iadd, 1) := by decide +kernel
theorem dX1_trade_72 : decode cX1_trade 72 = .ok (.putfield 182, 3) := by decide +kernel
theorem dX1_trade_75 : decode cX1_trade 75 = .ok (.aload_n 0, 1) := by decide +kernel
theorem dX1_trade_76 : decode cX1_trade 76 = .ok (.dup, 1) := by decide +kernel
theorem dX1_trade_77 : decode cX1_trade 77 = .ok (.getfield 41, 3) := by decide +kernel
theorem dX1_trade_80 : decode cX1_trade 80 = .ok (.iconst 1, 1) := by decide +kernel
theorem dX1_trade_81 : decode cX1_trade 81 = .ok (.iadd, 1) := by decide +kernel
theorem dX1_trade_82 : decode cX1_trade 82 = .ok (.putfield 41, 3) := by decide +kernel
theorem dX1_trade_85 : decode cX1_trade 85 = .ok (.aload_n 0, 1) := by decide +kernel
theorem dX1_trade_86 : decode cX1_trade 86 = .ok (.dup, 1) := by decide +kernel
theorem dX1_trade_87 : decode cX1_trade 87 = .ok (.getfield 44, 3) := by decide +kernel
theorem dX1_trade_90 : decode cX1_trade 90 = .ok (.iload 4, 2) := by decide +kernel
theorem dX1_trade_92 : decode cX1_trade 92 = .ok (.iadd, 1) := by decide +kernel
theorem dX1_trade_93 : decode cX1_trade 93 = .ok (.putfield 44, 3) := by decide +kernel
theorem dX1_trade_96 : decode cX1_trade 96 = .ok (.return_, 1) := by decide +kernel
set_option maxRecDepth 20000 in
theorem ggX1_canoeAt_X2_canoeAt : GoodIn wsX1_canoeAt wsX2_canoeAt := goodIn_r _ [8, 9, 10, 21, 22, 23] (by decide +kernel) (by decide +kernel)
set_option maxRecDepth 20000 in
theorem gX1_canoeAt_X2_canoeAt : GoodIn wsX1_canoeAt (wsV RX1 185 RX2 yX2_canoeAt wsX2_canoeAt) := goodIn_app (goodIn_of _ (by decide +kernel)) ggX1_canoeAt_X2_canoeAt
theorem dX1_canoeAt_0 : decode cX1_canoeAt 0 = .ok (.iload_n 1, 1) := by decide +kernel
theorem dX1_canoeAt_1 : decode cX1_canoeAt 1 = .ok (.ifCond .lt 11, 3) := by decide +kernel
theorem dX1_canoeAt_4 : decode cX1_canoeAt 4 = .ok (.iload_n 1, 1) := by decide +kernel
theorem dX1_canoeAt_5 : decode cX1_canoeAt 5 = .ok (.aload_n 0, 1) := by decide +kernel
theorem dX1_canoeAt_6 : decode cX1_canoeAt 6 = .ok (.getfield 31, 3) := by decide +kernel
theorem dX1_canoeAt_9 : decode cX1_canoeAt 9 = .ok (.if_icmp .lt 5, 3) := by decide +kernel
theorem dX1_canoeAt_12 : decode cX1_canoeAt 12 = .ok (.aconst_null, 1) := by decide +kernel
theorem dX1_canoeAt_13 : decode cX1_canoeAt 13 = .ok (.areturn, 1) := by decide +kernel
theorem dX1_canoeAt_14 : decode cX1_canoeAt 14 = .ok (.aload_n 0, 1) := by decide +kernel
theorem dX1_canoeAt_15 : decode cX1_canoeAt 15 = .ok (.getfield 17, 3) := by decide +kernel
theorem dX1_canoeAt_18 : decode cX1_canoeAt 18 = .ok (.iload_n 1, 1) := by decide +kernel
theorem dX1_canoeAt_19 : decode cX1_canoeAt 19 = .ok (.aaload, 1) := by decide +kernel
theorem dX1_canoeAt_20 : decode cX1_canoeAt 20 = .ok (.iload_n 2, 1) := by decide +kernel
theorem dX1_canoeAt_21 : decode cX1_canoeAt 21 = .ok (.invokevirtual 185, 3) := by decide +kernel
theorem dX1_canoeAt_24 : decode cX1_canoeAt 24 = .ok (.istore_n 3, 1) := by decide +kernel
theorem dX1_canoeAt_25 : decode cX1_canoeAt 25 = .ok (.iload_n 3, 1) := by decide +kernel
theorem dX1_canoeAt_26 : decode cX1_canoeAt 26 = .ok (.iconst (-1), 1) := by decide +kernel
theorem dX1_canoeAt_27 : decode cX1_canoeAt 27 = .ok (.if_icmp .ne 7, 3) := by decide +kernel
theorem dX1_canoeAt_30 : decode cX1_canoeAt 30 = .ok (.aconst_null, 1) := by decide +kernel
theorem dX1_canoeAt_31 : decode cX1_canoeAt 31 = .ok (.goto 9, 3) := by decide +kernel
theorem dX1_canoeAt_34 : decode cX1_canoeAt 34 = .ok (.aload_n 0, 1) := by decide +kernel
theorem dX1_canoeAt_35 : decode cX1_canoeAt 35 = .ok (.getfield 24, 3) := by decide +kernel
theorem dX1_canoeAt_38 : decode cX1_canoeAt 38 = .ok (.iload_n 3, 1) := by decide +kernel
theorem dX1_canoeAt_39 : decode cX1_canoeAt 39 = .ok (.aaload, 1) := by decide +kernel
theorem dX1_canoeAt_40 : decode cX1_canoeAt 40 = .ok (.areturn, 1) := by decide +kernel
set_option maxRecDepth 20000 in
theorem ggX1_figure_X1_canoesBeing : GoodIn wsX1_figure wsX1_canoesBeing := goodIn_r _ [12, 3, 13, 14, 50, 51, 52, 53, 54, 55, 56, 57, 58, 59, 60, 61, 62, 63, 64, 65, 66, 67, 68, 69, 70, 71, 72, 73, 74, 75] (by decide +kernel) (by decide +kernel)
set_option maxRecDepth 20000 in
theorem gX1_figure_X1_canoesBeing : GoodIn wsX1_figure (wsV RX1 187 RX1 yX1_canoesBeing wsX1_canoesBeing) := goodIn_app (goodIn_of _ (by decide +kernel)) ggX1_figure_X1_canoesBeing
set_option maxRecDepth 20000 in
theorem ggX1_figure_X1_coinsInAll : GoodIn wsX1_figure wsX1_coinsInAll := goodIn_r _ [18, 3, 13, 19, 50, 51, 52, 53, 54, 55, 56, 57, 58, 59, 60, 61, 62, 63, 64, 65, 66, 67, 68, 69, 70, 71, 72, 73, 74, 75] (by decide +kernel) (by decide +kernel)
