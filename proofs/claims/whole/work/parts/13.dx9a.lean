set_option maxRecDepth 20000 in
theorem ggX9_init_X3_init : GoodIn wsX9_init wsX3_init := goodIn_r _ [24, 25, 2, 3, 26, 27, 88, 89] (by decide +kernel) (by decide +kernel)
set_option maxRecDepth 20000 in
theorem gX9_init_X3_init_n19 : GoodIn wsX9_init (wsX3_init) := ggX9_init_X3_init
set_option maxRecDepth 20000 in
theorem ggX9_init_X4_init : GoodIn wsX9_init wsX4_init := goodIn_r _ [30, 31, 2, 3, 32, 33, 34, 35, 36, 37, 38, 39, 40, 41, 42, 43, 44, 45, 110, 111, 112, 113, 90, 91, 92, 93, 94, 95] (by decide +kernel) (by decide +kernel)
set_option maxRecDepth 20000 in
theorem gX9_init_X4_init : GoodIn wsX9_init (wsX4_init) := ggX9_init_X4_init
set_option maxRecDepth 20000 in
theorem ggX9_init_X3_add : GoodIn wsX9_init wsX3_add := goodIn_r _ [49, 26, 50, 51, 52, 27, 53, 54, 55, 56, 2, 3, 57, 58, 59, 60, 61, 62, 44, 63, 64, 65, 103, 104, 105, 106, 107, 108, 109, 88, 89] (by decide +kernel) (by decide +kernel)
set_option maxRecDepth 20000 in
theorem gX9_init_X3_add : GoodIn wsX9_init (wsV RX9 48 RX3 yX3_add wsX3_add) := goodIn_app (goodIn_of _ (by decide +kernel)) ggX9_init_X3_add
set_option maxRecDepth 20000 in
theorem ggX9_init_X1_init : GoodIn wsX9_init wsX1_init := goodIn_r _ [68, 69, 2, 3, 70, 71, 72, 73, 74, 75, 76, 77, 96, 97, 98, 99, 100, 101, 102] (by decide +kernel) (by decide +kernel)
set_option maxRecDepth 20000 in
theorem gX9_init_X1_init : GoodIn wsX9_init (wsX1_init) := ggX9_init_X1_init
theorem dX9_init_0 : decode cX9_init 0 = .ok (.aload_n 0, 1) := by decide +kernel
theorem dX9_init_1 : decode cX9_init 1 = .ok (.invokespecial 3, 3) := by decide +kernel
theorem dX9_init_4 : decode cX9_init 4 = .ok (.aload_n 0, 1) := by decide +kernel
theorem dX9_init_5 : decode cX9_init 5 = .ok (.bipush 30, 2) := by decide +kernel
theorem dX9_init_7 : decode cX9_init 7 = .ok (.anewarray 11, 3) := by decide +kernel
theorem dX9_init_10 : decode cX9_init 10 = .ok (.putfield 13, 3) := by decide +kernel
theorem dX9_init_13 : decode cX9_init 13 = .ok (.aload_n 0, 1) := by decide +kernel
theorem dX9_init_14 : decode cX9_init 14 = .ok (.new 17, 3) := by decide +kernel
theorem dX9_init_17 : decode cX9_init 17 = .ok (.dup, 1) := by decide +kernel
theorem dX9_init_18 : decode cX9_init 18 = .ok (.invokespecial 19, 3) := by decide +kernel
theorem dX9_init_21 : decode cX9_init 21 = .ok (.putfield 20, 3) := by decide +kernel
theorem dX9_init_24 : decode cX9_init 24 = .ok (.aload_n 0, 1) := by decide +kernel
theorem dX9_init_25 : decode cX9_init 25 = .ok (.new 24, 3) := by decide +kernel
theorem dX9_init_28 : decode cX9_init 28 = .ok (.dup, 1) := by decide +kernel
theorem dX9_init_29 : decode cX9_init 29 = .ok (.aload_n 0, 1) := by decide +kernel
theorem dX9_init_30 : decode cX9_init 30 = .ok (.getfield 20, 3) := by decide +kernel
theorem dX9_init_33 : decode cX9_init 33 = .ok (.invokespecial 26, 3) := by decide +kernel
theorem dX9_init_36 : decode cX9_init 36 = .ok (.putfield 29, 3) := by decide +kernel
theorem dX9_init_39 : decode cX9_init 39 = .ok (.aload_n 0, 1) := by decide +kernel
theorem dX9_init_40 : decode cX9_init 40 = .ok (.bipush 60, 2) := by decide +kernel
theorem dX9_init_42 : decode cX9_init 42 = .ok (.anewarray 33, 3) := by decide +kernel
theorem dX9_init_45 : decode cX9_init 45 = .ok (.putfield 35, 3) := by decide +kernel
theorem dX9_init_48 : decode cX9_init 48 = .ok (.aload_n 0, 1) := by decide +kernel
theorem dX9_init_49 : decode cX9_init 49 = .ok (.bipush 20, 2) := by decide +kernel
theorem dX9_init_51 : decode cX9_init 51 = .ok (.anewarray 39, 3) := by decide +kernel
theorem dX9_init_54 : decode cX9_init 54 = .ok (.putfield 41, 3) := by decide +kernel
theorem dX9_init_57 : decode cX9_init 57 = .ok (.aload_n 0, 1) := by decide +kernel
theorem dX9_init_58 : decode cX9_init 58 = .ok (.bipush 40, 2) := by decide +kernel
theorem dX9_init_60 : decode cX9_init 60 = .ok (.anewarray 33, 3) := by decide +kernel
theorem dX9_init_63 : decode cX9_init 63 = .ok (.putfield 45, 3) := by decide +kernel
theorem dX9_init_66 : decode cX9_init 66 = .ok (.aload_n 0, 1) := by decide +kernel
theorem dX9_init_67 : decode cX9_init 67 = .ok (.getfield 20, 3) := by decide +kernel
theorem dX9_init_70 : decode cX9_init 70 = .ok (.aconst_null, 1) := by decide +kernel
theorem dX9_init_71 : decode cX9_init 71 = .ok (.invokevirtual 48, 3) := by decide +kernel
theorem dX9_init_74 : decode cX9_init 74 = .ok (.astore_n 1, 1) := by decide +kernel
theorem dX9_init_75 : decode cX9_init 75 = .ok (.iconst 0, 1) := by decide +kernel
theorem dX9_init_76 : decode cX9_init 76 = .ok (.istore_n 2, 1) := by decide +kernel
theorem dX9_init_77 : decode cX9_init 77 = .ok (.iload_n 2, 1) := by decide +kernel
theorem dX9_init_78 : decode cX9_init 78 = .ok (.iconst 5, 1) := by decide +kernel
theorem dX9_init_79 : decode cX9_init 79 = .ok (.if_icmp .ge 37, 3) := by decide +kernel
theorem dX9_init_82 : decode cX9_init 82 = .ok (.new 11, 3) := by decide +kernel
theorem dX9_init_85 : decode cX9_init 85 = .ok (.dup, 1) := by decide +kernel
theorem dX9_init_86 : decode cX9_init 86 = .ok (.iload_n 2, 1) := by decide +kernel
theorem dX9_init_87 : decode cX9_init 87 = .ok (.iload_n 2, 1) := by decide +kernel
theorem dX9_init_88 : decode cX9_init 88 = .ok (.iload_n 2, 1) := by decide +kernel
theorem dX9_init_89 : decode cX9_init 89 = .ok (.iconst 0, 1) := by decide +kernel
theorem dX9_init_90 : decode cX9_init 90 = .ok (.iconst 1, 1) := by decide +kernel
theorem dX9_init_91 : decode cX9_init 91 = .ok (.iconst 0, 1) := by decide +kernel
theorem dX9_init_92 : decode cX9_init 92 = .ok (.invokespecial 52, 3) := by decide +kernel
theorem dX9_init_95 : decode cX9_init 95 = .ok (.astore_n 3, 1) := by decide +kernel
theorem dX9_init_96 : decode cX9_init 96 = .ok (.aload_n 0, 1) := by decide +kernel
theorem dX9_init_97 : decode cX9_init 97 = .ok (.getfield 13, 3) := by decide +kernel
theorem dX9_init_100 : decode cX9_init 100 = .ok (.iload_n 2, 1) := by decide +kernel
theorem dX9_init_101 : decode cX9_init 101 = .ok (.aload_n 3, 1) := by decide +kernel
theorem dX9_init_102 : decode cX9_init 102 = .ok (.aastore, 1) := by decide +kernel
theorem dX9_init_103 : decode cX9_init 103 = .ok (.aload_n 1, 1) := by decide +kernel
theorem dX9_init_104 : decode cX9_init 104 = .ok (.getfield 55, 3) := by decide +kernel
theorem dX9_init_107 : decode cX9_init 107 = .ok (.iload_n 2, 1) := by decide +kernel
theorem dX9_init_108 : decode cX9_init 108 = .ok (.aload_n 3, 1) := by decide +kernel
theorem dX9_init_109 : decode cX9_init 109 = .ok (.aastore, 1) := by decide +kernel
theorem dX9_init_110 : decode cX9_init 110 = .ok (.iinc 2 1, 3) := by decide +kernel
theorem dX9_init_113 : decode cX9_init 113 = .ok (.goto (-36), 3) := by decide +kernel
theorem dX9_init_116 : decode cX9_init 116 = .ok (.aload_n 0, 1) := by decide +kernel
theorem dX9_init_117 : decode cX9_init 117 = .ok (.iconst 5, 1) := by decide +kernel
theorem dX9_init_118 : decode cX9_init 118 = .ok (.putfield 58, 3) := by decide +kernel
theorem dX9_init_121 : decode cX9_init 121 = .ok (.return_, 1) := by decide +kernel
set_option maxRecDepth 20000 in
theorem ggX9_loader_X3_at : GoodIn wsX9_loader wsX3_at := goodIn_r _ [8, 9, 10, 44, 45] (by decide +kernel) (by decide +kernel)
set_option maxRecDepth 20000 in
theorem gX9_loader_X3_at : GoodIn wsX9_loader (wsV RX9 62 RX3 yX3_at wsX3_at) := goodIn_app (goodIn_of _ (by decide +kernel)) ggX9_loader_X3_at
set_option maxRecDepth 20000 in
theorem ggX9_loader_X3_add : GoodIn wsX9_loader wsX3_add := goodIn_r _ [14, 15, 16, 17, 9, 10, 18, 19, 20, 21, 22, 23, 24, 25, 26, 27, 28, 29, 30, 31, 32, 33, 46, 47, 48, 49, 50, 51, 52, 44, 45] (by decide +kernel) (by decide +kernel)
set_option maxRecDepth 20000 in
theorem gX9_loader_X3_add : GoodIn wsX9_loader (wsV RX9 48 RX3 yX3_add wsX3_add) := goodIn_app (goodIn_of _ (by decide +kernel)) ggX9_loader_X3_add
theorem dX9_loader_0 : decode cX9_loader 0 = .ok (.aload_n 0, 1) := by decide +kernel
theorem dX9_loader_1 : decode cX9_loader 1 = .ok (.getfield 20, 3) := by decide +kernel
theorem dX9_loader_4 : decode cX9_loader 4 = .ok (.iload_n 1, 1) := by decide +kernel
theorem dX9_loader_5 : decode cX9_loader 5 = .ok (.invokevirtual 62, 3) := by decide +kernel
theorem dX9_loader_8 : decode cX9_loader 8 = .ok (.astore_n 2, 1) := by decide +kernel
theorem dX9_loader_9 : decode cX9_loader 9 = .ok (.aload_n 2, 1) := by decide +kernel
theorem dX9_loader_10 : decode cX9_loader 10 = .ok (.ifnonnull 6, 3) := by decide +kernel
theorem dX9_loader_13 : decode cX9_loader 13 = .ok (.bipush (-2), 2) := by decide +kernel
theorem dX9_loader_15 : decode cX9_loader 15 = .ok (.ireturn, 1) := by decide +kernel
theorem dX9_loader_16 : decode cX9_loader 16 = .ok (.aload_n 0, 1) := by decide +kernel
theorem dX9_loader_17 : decode cX9_loader 17 = .ok (.getfield 20, 3) := by decide +kernel
theorem dX9_loader_20 : decode cX9_loader 20 = .ok (.getfield 66, 3) := by decide +kernel
theorem dX9_loader_23 : decode cX9_loader 23 = .ok (.bipush 8, 2) := by decide +kernel
theorem dX9_loader_25 : decode cX9_loader 25 = .ok (.if_icmp .lt 6, 3) := by decide +kernel
theorem dX9_loader_28 : decode cX9_loader 28 = .ok (.bipush (-5), 2) := by decide +kernel
theorem dX9_loader_30 : decode cX9_loader 30 = .ok (.ireturn, 1) := by decide +kernel
theorem dX9_loader_31 : decode cX9_loader 31 = .ok (.aload_n 0, 1) := by decide +kernel
theorem dX9_loader_32 : decode cX9_loader 32 = .ok (.getfield 20, 3) := by decide +kernel
theorem dX9_loader_35 : decode cX9_loader 35 = .ok (.aload_n 2, 1) := by decide +kernel
theorem dX9_loader_36 : decode cX9_loader 36 = .ok (.invokevirtual 48, 3) := by decide +kernel
theorem dX9_loader_39 : decode cX9_loader 39 = .ok (.getfield 69, 3) := by decide +kernel
theorem dX9_loader_42 : decode cX9_loader 42 = .ok (.ireturn, 1) := by decide +kernel
set_option maxRecDepth 20000 in
theorem ggX9_bound_X3_at : GoodIn wsX9_bound wsX3_at := goodIn_r _ [7, 8, 9, 33, 34] (by decide +kernel) (by decide +kernel)
set_option maxRecDepth 20000 in
theorem gX9_bound_X3_at : GoodIn wsX9_bound (wsV RX9 62 RX3 yX3_at wsX3_at) := goodIn_app (goodIn_of _ (by decide +kernel)) ggX9_bound_X3_at
set_option maxRecDepth 20000 in
theorem ggX9_bound_X2_isMachine : GoodIn wsX9_bound wsX2_isMachine := goodIn_r _ [14, 15, 26, 27, 28, 29, 30, 31, 32] (by decide +kernel) (by decide +kernel)
set_option maxRecDepth 20000 in
theorem gX9_bound_X2_isMachine : GoodIn wsX9_bound (wsV RX9 72 RX2 yX2_isMachine wsX2_isMachine) := goodIn_app (goodIn_of _ (by decide +kernel)) ggX9_bound_X2_isMachine
theorem dX9_bound_0 : decode cX9_bound 0 = .ok (.aload_n 0, 1) := by decide +kernel
theorem dX9_bound_1 : decode cX9_bound 1 = .ok (.getfield 20, 3) := by decide +kernel
theorem dX9_bound_4 : decode cX9_bound 4 = .ok (.iload_n 1, 1) := by decide +kernel
theorem dX9_bound_5 : decode cX9_bound 5 = .ok (.invokevirtual 62, 3) := by decide +kernel
theorem dX9_bound_8 : decode cX9_bound 8 = .ok (.astore_n 3, 1) := by decide +kernel
theorem dX9_bound_9 : decode cX9_bound 9 = .ok (.aload_n 3, 1) := by decide +kernel
theorem dX9_bound_10 : decode cX9_bound 10 = .ok (.ifnonnull 6, 3) := by decide +kernel
theorem dX9_bound_13 : decode cX9_bound 13 = .ok (.bipush (-2), 2) := by decide +kernel
theorem dX9_bound_15 : decode cX9_bound 15 = .ok (.ireturn, 1) := by decide +kernel
theorem dX9_bound_16 : decode cX9_bound 16 = .ok (.iload_n 2, 1) := by decide +kernel
theorem dX9_bound_17 : decode cX9_bound 17 = .ok (.ifCond .lt 9, 3) := by decide +kernel
theorem dX9_bound_20 : decode cX9_bound 20 = .ok (.iload_n 2, 1) := by decide +kernel
theorem dX9_bound_21 : decode cX9_bound 21 = .ok (.bipush 40, 2) := by decide +kernel
theorem dX9_bound_23 : decode cX9_bound 23 = .ok (.if_icmp .le 6, 3) := by decide +kernel
theorem dX9_bound_26 : decode cX9_bound 26 = .ok (.bipush (-3), 2) := by decide +kernel
theorem dX9_bound_28 : decode cX9_bound 28 = .ok (.ireturn, 1) := by decide +kernel
theorem dX9_bound_29 : decode cX9_bound 29 = .ok (.aload_n 3, 1) := by decide +kernel
theorem dX9_bound_30 : decode cX9_bound 30 = .ok (.invokevirtual 72, 3) := by decide +kernel
theorem dX9_bound_33 : decode cX9_bound 33 = .ok (.ifCond .eq 6, 3) := by decide +kernel
theorem dX9_bound_36 : decode cX9_bound 36 = .ok (.bipush (-4), 2) := by decide +kernel
theorem dX9_bound_38 : decode cX9_bound 38 = .ok (.ireturn, 1) := by decide +kernel
theorem dX9_bound_39 : decode cX9_bound 39 = .ok (.aload_n 3, 1) := by decide +kernel
theorem dX9_bound_40 : decode cX9_bound 40 = .ok (.getfield 76, 3) := by decide +kernel
theorem dX9_bound_43 : decode cX9_bound 43 = .ok (.istore 4, 2) := by decide +kernel
theorem dX9_bound_45 : decode cX9_bound 45 = .ok (.aload_n 3, 1) := by decide +kernel
theorem dX9_bound_46 : decode cX9_bound 46 = .ok (.iload_n 2, 1) := by decide +kernel
theorem dX9_bound_47 : decode cX9_bound 47 = .ok (.putfield 76, 3) := by decide +kernel
theorem dX9_bound_50 : decode cX9_bound 50 = .ok (.iload 4, 2) := by decide +kernel
theorem dX9_bound_52 : decode cX9_bound 52 = .ok (.ireturn, 1) := by decide +kernel
set_option maxRecDepth 20000 in
theorem ggX9_file_X9_isName : GoodIn wsX9_file wsX9_isName := goodIn_r _ [9] (by decide +kernel) (by decide +kernel)
set_option maxRecDepth 20000 in
theorem gX9_file_X9_isName : GoodIn wsX9_file (va_wsS RX9 79 yX9_isName wsX9_isName) := goodIn_app (goodIn_of _ (by decide +kernel)) ggX9_file_X9_isName
set_option maxRecDepth 20000 in
theorem ggX9_file_X1_init : GoodIn wsX9_file wsX1_init := goodIn_r _ [12, 13, 14, 15, 16, 17, 18, 19, 20, 21, 22, 23, 34, 35, 36, 37, 38, 39, 40] (by decide +kernel) (by decide +kernel)
set_option maxRecDepth 20000 in
theorem gX9_file_X1_init : GoodIn wsX9_file (wsX1_init) := ggX9_file_X1_init
theorem dX9_file_0 : decode cX9_file 0 = .ok (.iload_n 1, 1) := by decide +kernel
theorem dX9_file_1 : decode cX9_file 1 = .ok (.invokestatic 79, 3) := by decide +kernel
theorem dX9_file_4 : decode cX9_file 4 = .ok (.ifCond .eq 17, 3) := by decide +kernel
theorem dX9_file_7 : decode cX9_file 7 = .ok (.iload_n 2, 1) := by decide +kernel
theorem dX9_file_8 : decode cX9_file 8 = .ok (.invokestatic 79, 3) := by decide +kernel
theorem dX9_file_11 : decode cX9_file 11 = .ok (.ifCond .eq 10, 3) := by decide +kernel
theorem dX9_file_14 : decode cX9_file 14 = .ok (.iload_n 3, 1) := by decide +kernel
theorem dX9_file_15 : decode cX9_file 15 = .ok (.invokestatic 79, 3) := by decide +kernel
theorem dX9_file_18 : decode cX9_file 18 = .ok (.ifCond .ne 6, 3) := by decide +kernel
theorem dX9_file_21 : decode cX9_file 21 = .ok (.bipush (-3), 2) := by decide +kernel
theorem dX9_file_23 : decode cX9_file 23 = .ok (.ireturn, 1) := by decide +kernel
theorem dX9_file_24 : decode cX9_file 24 = .ok (.aload_n 0, 1) := by decide +kernel
theorem dX9_file_25 : decode cX9_file 25 = .ok (.getfield 58, 3) := by decide +kernel
theorem dX9_file_28 : decode cX9_file 28 = .ok (.bipush 30, 2) := by decide +kernel
theorem dX9_file_30 : decode cX9_file 30 = .ok (.if_icmp .lt 6, 3) := by decide +kernel
theorem dX9_file_33 : decode cX9_file 33 = .ok (.bipush (-5), 2) := by decide +kernel
theorem dX9_file_35 : decode cX9_file 35 = .ok (.ireturn, 1) := by decide +kernel
theorem dX9_file_36 : decode cX9_file 36 = .ok (.aload_n 0, 1) := by decide +kernel
theorem dX9_file_37 : decode cX9_file 37 = .ok (.getfield 13, 3) := by decide +kernel
theorem dX9_file_40 : decode cX9_file 40 = .ok (.aload_n 0, 1) := by decide +kernel
theorem dX9_file_41 : decode cX9_file 41 = .ok (.getfield 58, 3) := by decide +kernel
theorem dX9_file_44 : decode cX9_file 44 = .ok (.new 11, 3) := by decide +kernel
theorem dX9_file_47 : decode cX9_file 47 = .ok (.dup, 1) := by decide +kernel
theorem dX9_file_48 : decode cX9_file 48 = .ok (.aload_n 0, 1) := by decide +kernel
theorem dX9_file_49 : decode cX9_file 49 = .ok (.getfield 58, 3) := by decide +kernel
theorem dX9_file_52 : decode cX9_file 52 = .ok (.iload_n 1, 1) := by decide +kernel
theorem dX9_file_53 : decode cX9_file 53 = .ok (.iload_n 2, 1) := by decide +kernel
theorem dX9_file_54 : decode cX9_file 54 = .ok (.iload_n 3, 1) := by decide +kernel
theorem dX9_file_55 : decode cX9_file 55 = .ok (.iload 4, 2) := by decide +kernel
theorem dX9_file_57 : decode cX9_file 57 = .ok (.iload 5, 2) := by decide +kernel
theorem dX9_file_59 : decode cX9_file 59 = .ok (.invokespecial 52, 3) := by decide +kernel
theorem dX9_file_62 : decode cX9_file 62 = .ok (.aastore, 1) := by decide +kernel
theorem dX9_file_63 : decode cX9_file 63 = .ok (.aload_n 0, 1) := by decide +kernel
theorem dX9_file_64 : decode cX9_file 64 = .ok (.dup, 1) := by decide +kernel
theorem dX9_file_65 : decode cX9_file 65 = .ok (.getfield 58, 3) := by decide +kernel
theorem dX9_file_68 : decode cX9_file 68 = .ok (.dup_x1, 1) := by decide +kernel
theorem dX9_file_69 : decode cX9_file 69 = .ok (.iconst 1, 1) := by decide +kernel
theorem dX9_file_70 : decode cX9_file 70 = .ok (.iadd, 1) := by decide +kernel
theorem dX9_file_71 : decode cX9_file 71 = .ok (.putfield 58, 3) := by decide +kernel
theorem dX9_file_74 : decode cX9_file 74 = .ok (.ireturn, 1) := by decide +kernel
set_option maxRecDepth 20000 in
theorem ggX9_method_X9_fileAt : GoodIn wsX9_method wsX9_fileAt := goodIn_r _ [9, 10, 11, 34, 35, 36, 37, 38, 39, 40, 41, 42, 43] (by decide +kernel) (by decide +kernel)
set_option maxRecDepth 20000 in
theorem gX9_method_X9_fileAt : GoodIn wsX9_method (wsV RX9 83 RX9 yX9_fileAt wsX9_fileAt) := goodIn_app (goodIn_of _ (by decide +kernel)) ggX9_method_X9_fileAt
set_option maxRecDepth 20000 in
theorem ggX9_method_X9_isMethod : GoodIn wsX9_method wsX9_isMethod := goodIn_r _ [14] (by decide +kernel) (by decide +kernel)
set_option maxRecDepth 20000 in
theorem gX9_method_X9_isMethod : GoodIn wsX9_method (va_wsS RX9 87 yX9_isMethod wsX9_isMethod) := goodIn_app (goodIn_of _ (by decide +kernel)) ggX9_method_X9_isMethod
set_option maxRecDepth 20000 in
theorem ggX9_method_X0_init : GoodIn wsX9_method wsX0_init := goodIn_r _ [17, 18, 19, 20, 21, 22, 23, 31, 32, 33] (by decide +kernel) (by decide +kernel)
set_option maxRecDepth 20000 in
theorem gX9_method_X0_init : GoodIn wsX9_method (wsX0_init) := ggX9_method_X0_init
theorem dX9_method_0 : decode cX9_method 0 = .ok (.aload_n 0, 1) := by decide +kernel
theorem dX9_method_1 : decode cX9_method 1 = .ok (.iload_n 1, 1) := by decide +kernel
theorem dX9_method_2 : decode cX9_method 2 = .ok (.invokevirtual 83, 3) := by decide +kernel
theorem dX9_method_5 : decode cX9_method 5 = .ok (.astore 6, 2) := by decide +kernel
theorem dX9_method_7 : decode cX9_method 7 = .ok (.aload 6, 2) := by decide +kernel
theorem dX9_method_9 : decode cX9_method 9 = .ok (.ifnonnull 6, 3) := by decide +kernel
theorem dX9_method_12 : decode cX9_method 12 = .ok (.bipush (-2), 2) := by decide +kernel
theorem dX9_method_14 : decode cX9_method 14 = .ok (.ireturn, 1) := by decide +kernel
theorem dX9_method_15 : decode cX9_method 15 = .ok (.iload_n 2, 1) := by decide +kernel
theorem dX9_method_16 : decode cX9_method 16 = .ok (.invokestatic 87, 3) := by decide +kernel
theorem dX9_method_19 : decode cX9_method 19 = .ok (.ifCond .eq 12, 3) := by decide +kernel
theorem dX9_method_22 : decode cX9_method 22 = .ok (.iload_n 3, 1) := by decide +kernel
theorem dX9_method_23 : decode cX9_method 23 = .ok (.ifCond .lt 8, 3) := by decide +kernel
theorem dX9_method_26 : decode cX9_method 26 = .ok (.iload_n 3, 1) := by decide +kernel
theorem dX9_method_27 : decode cX9_method 27 = .ok (.iconst 2, 1) := by decide +kernel
theorem dX9_method_28 : decode cX9_method 28 = .ok (.if_icmp .le 6, 3) := by decide +kernel
theorem dX9_method_31 : decode cX9_method 31 = .ok (.bipush (-3), 2) := by decide +kernel
theorem dX9_method_33 : decode cX9_method 33 = .ok (.ireturn, 1) := by decide +kernel
theorem dX9_method_34 : decode cX9_method 34 = .ok (.aload 6, 2) := by decide +kernel
theorem dX9_method_36 : decode cX9_method 36 = .ok (.getfield 90, 3) := by decide +kernel
theorem dX9_method_39 : decode cX9_method 39 = .ok (.iload_n 2, 1) := by decide +kernel
theorem dX9_method_40 : decode cX9_method 40 = .ok (.new 94, 3) := by decide +kernel
theorem dX9_method_43 : decode cX9_method 43 = .ok (.dup, 1) := by decide +kernel
theorem dX9_method_44 : decode cX9_method 44 = .ok (.iload_n 3, 1) := by decide +kernel
theorem dX9_method_45 : decode cX9_method 45 = .ok (.iload 4, 2) := by decide +kernel
theorem dX9_method_47 : decode cX9_method 47 = .ok (.iload 5, 2) := by decide +kernel
theorem dX9_method_49 : decode cX9_method 49 = .ok (.invokespecial 96, 3) := by decide +kernel
theorem dX9_method_52 : decode cX9_method 52 = .ok (.aastore, 1) := by decide +kernel
theorem dX9_method_53 : decode cX9_method 53 = .ok (.iconst 1, 1) := by decide +kernel
theorem dX9_method_54 : decode cX9_method 54 = .ok (.ireturn, 1) := by decide +kernel
set_option maxRecDepth 20000 in
theorem ggX9_bear_X3_at : GoodIn wsX9_bear wsX3_at := goodIn_r _ [8, 9, 10, 48, 49] (by decide +kernel) (by decide +kernel)
set_option maxRecDepth 20000 in
theorem gX9_bear_X3_at : GoodIn wsX9_bear (wsV RX9 62 RX3 yX3_at wsX3_at) := goodIn_app (goodIn_of _ (by decide +kernel)) ggX9_bear_X3_at
set_option maxRecDepth 20000 in
theorem ggX9_bear_X9_fileAt : GoodIn wsX9_bear wsX9_fileAt := goodIn_r _ [15, 16, 17, 24, 25, 26, 27, 28, 29, 30, 31, 32, 33] (by decide +kernel) (by decide +kernel)
set_option maxRecDepth 20000 in
theorem gX9_bear_X9_fileAt : GoodIn wsX9_bear (wsV RX9 83 RX9 yX9_fileAt wsX9_fileAt) := goodIn_app (goodIn_of _ (by decide +kernel)) ggX9_bear_X9_fileAt
set_option maxRecDepth 20000 in
theorem ggX9_bear_X2_isMachine : GoodIn wsX9_bear wsX2_isMachine := goodIn_r _ [22, 23, 34, 35, 36, 37, 38, 39, 40] (by decide +kernel) (by decide +kernel)
set_option maxRecDepth 20000 in
theorem gX9_bear_X2_isMachine : GoodIn wsX9_bear (wsV RX9 72 RX2 yX2_isMachine wsX2_isMachine) := goodIn_app (goodIn_of _ (by decide +kernel)) ggX9_bear_X2_isMachine
theorem dX9_bear_0 : decode cX9_bear 0 = .ok (.aload_n 0, 1) := by decide +kernel
theorem dX9_bear_1 : decode cX9_bear 1 = .ok (.getfield 20, 3) := by decide +kernel
theorem dX9_bear_4 : decode cX9_bear 4 = .ok (.iload_n 1, 1) := by decide +kernel
theorem dX9_bear_5 : decode cX9_bear 5 = .ok (.invokevirtual 62, 3) := by decide +kernel
theorem dX9_bear_8 : decode cX9_bear 8 = .ok (.astore_n 3, 1) := by decide +kernel
theorem dX9_bear_9 : decode cX9_bear 9 = .ok (.aload_n 0, 1) := by decide +kernel
theorem dX9_bear_10 : decode cX9_bear 10 = .ok (.iload_n 2, 1) := by decide +kernel
theorem dX9_bear_11 : decode cX9_bear 11 = .ok (.invokevirtual 83, 3) := by decide +kernel
theorem dX9_bear_14 : decode cX9_bear 14 = .ok (.astore 4, 2) := by decide +kernel
theorem dX9_bear_16 : decode cX9_bear 16 = .ok (.aload_n 3, 1) := by decide +kernel
theorem dX9_bear_17 : decode cX9_bear 17 = .ok (.ifnull 8, 3) := by decide +kernel
theorem dX9_bear_20 : decode cX9_bear 20 = .ok (.aload 4, 2) := by decide +kernel
theorem dX9_bear_22 : decode cX9_bear 22 = .ok (.ifnonnull 6, 3) := by decide +kernel
theorem dX9_bear_25 : decode cX9_bear 25 = .ok (.bipush (-2), 2) := by decide +kernel
theorem dX9_bear_27 : decode cX9_bear 27 = .ok (.ireturn, 1) := by decide +kernel
theorem dX9_bear_28 : decode cX9_bear 28 = .ok (.aload_n 3, 1) := by decide +kernel
theorem dX9_bear_29 : decode cX9_bear 29 = .ok (.invokevirtual 72, 3) := by decide +kernel
theorem dX9_bear_32 : decode cX9_bear 32 = .ok (.ifCond .eq 6, 3) := by decide +kernel
theorem dX9_bear_35 : decode cX9_bear 35 = .ok (.bipush (-4), 2) := by decide +kernel
theorem dX9_bear_37 : decode cX9_bear 37 = .ok (.ireturn, 1) := by decide +kernel
theorem dX9_bear_38 : decode cX9_bear 38 = .ok (.aload_n 3, 1) := by decide +kernel
theorem dX9_bear_39 : decode cX9_bear 39 = .ok (.getfield 55, 3) := by decide +kernel
theorem dX9_bear_42 : decode cX9_bear 42 = .ok (.aload 4, 2) := by decide +kernel
theorem dX9_bear_44 : decode cX9_bear 44 = .ok (.getfield 99, 3) := by decide +kernel
theorem dX9_bear_47 : decode cX9_bear 47 = .ok (.aload 4, 2) := by decide +kernel
theorem dX9_bear_49 : decode cX9_bear 49 = .ok (.aastore, 1) := by decide +kernel
theorem dX9_bear_50 : decode cX9_bear 50 = .ok (.iconst 1, 1) := by decide +kernel
theorem dX9_bear_51 : decode cX9_bear 51 = .ok (.ireturn, 1) := by decide +kernel
set_option maxRecDepth 20000 in
theorem ggX9_load_X3_at : GoodIn wsX9_load wsX3_at := goodIn_r _ [7, 8, 9, 168, 169] (by decide +kernel) (by decide +kernel)
set_option maxRecDepth 20000 in
theorem gX9_load_X3_at : GoodIn wsX9_load (wsV RX9 62 RX3 yX3_at wsX3_at) := goodIn_app (goodIn_of _ (by decide +kernel)) ggX9_load_X3_at
set_option maxRecDepth 20000 in
theorem ggX9_load_X9_isName : GoodIn wsX9_load wsX9_isName := goodIn_r _ [13] (by decide +kernel) (by decide +kernel)
set_option maxRecDepth 20000 in
theorem gX9_load_X9_isName : GoodIn wsX9_load (va_wsS RX9 79 yX9_isName wsX9_isName) := goodIn_app (goodIn_of _ (by decide +kernel)) ggX9_load_X9_isName
set_option maxRecDepth 20000 in
theorem ggX9_load_X4_loadBy : GoodIn wsX9_load wsX4_loadBy := goodIn_r _ [18, 19, 20, 21, 17, 22, 23, 24, 25, 26, 27, 28, 29, 30, 31, 32, 12, 33, 34, 35, 36, 37, 38, 39, 40, 41, 42, 43, 44, 45, 46, 47, 48, 49, 50, 51, 52, 53, 54, 55, 56, 57, 58, 59, 60, 61, 62, 63, 64, 65, 66, 67, 68, 69, 70, 71, 72, 73, 74, 75, 76, 77, 78, 79, 80, 81, 82, 83, 84, 85, 86, 87, 88, 89, 90, 91, 92, 93, 94, 95, 96, 97, 98, 99, 6, 100, 101, 102, 103, 104, 105, 8, 9, 106, 107, 108, 109, 110, 111, 112, 113, 114, 115, 116, 117, 118, 119, 120, 121, 122, 123, 124, 125, 126, 127, 128, 129, 130, 131, 132, 133, 134, 135, 136, 137, 138, 139, 140, 141, 142, 143, 144, 145, 146, 147, 148, 149, 150, 151, 152, 170, 171, 172, 173, 174, 175, 176, 177, 178, 179, 180, 181, 182, 183, 184, 185, 186, 187, 188, 189, 190, 191, 192, 193, 194, 195, 196, 168, 169, 197, 198, 199, 200, 201, 202, 203] (by decide +kernel) (by decide +kernel)
set_option maxRecDepth 20000 in
theorem gX9_load_X4_loadBy : GoodIn wsX9_load (wsV RX9 102 RX4 yX4_loadBy wsX4_loadBy) := goodIn_app (goodIn_of _ (by decide +kernel)) ggX9_load_X4_loadBy
set_option maxRecDepth 20000 in
theorem ggX9_load_X9_answered : GoodIn wsX9_load wsX9_answered := goodIn_r _ [156, 157, 158, 159, 160, 161, 162, 163, 164, 165, 166, 167] (by decide +kernel) (by decide +kernel)
set_option maxRecDepth 20000 in
theorem gX9_load_X9_answered : GoodIn wsX9_load (wsV RX9 106 RX9 yX9_answered wsX9_answered) := goodIn_app (goodIn_of _ (by decide +kernel)) ggX9_load_X9_answered
theorem dX9_load_0 : decode cX9_load 0 = .ok (.aload_n 0, 1) := by decide +kernel
theorem dX9_load_1 : decode cX9_load 1 = .ok (.getfield 20, 3) := by decide +kernel
theorem dX9_load_4 : decode cX9_load 4 = .ok (.iload_n 1, 1) := by decide +kernel
theorem dX9_load_5 : decode cX9_load 5 = .ok (.invokevirtual 62, 3) := by decide +kernel
theorem dX9_load_8 : decode cX9_load 8 = .ok (.astore_n 3, 1) := by decide +kernel
theorem dX9_load_9 : decode cX9_load 9 = .ok (.aload_n 3, 1) := by decide +kernel
theorem dX9_load_10 : decode cX9_load 10 = .ok (.ifnonnull 6, 3) := by decide +kernel
theorem dX9_load_13 : decode cX9_load 13 = .ok (.bipush (-2), 2) := by decide +kernel
theorem dX9_load_15 : decode cX9_load 15 = .ok (.ireturn, 1) := by decide +kernel
theorem dX9_load_16 : decode cX9_load 16 = .ok (.iload_n 2, 1) := by decide +kernel
theorem dX9_load_17 : decode cX9_load 17 = .ok (.invokestatic 79, 3) := by decide +kernel
theorem dX9_load_20 : decode cX9_load 20 = .ok (.ifCond .ne 6, 3) := by decide +kernel
theorem dX9_load_23 : decode cX9_load 23 = .ok (.bipush (-3), 2) := by decide +kernel
theorem dX9_load_25 : decode cX9_load 25 = .ok (.ireturn, 1) := by decide +kernel
theorem dX9_load_26 : decode cX9_load 26 = .ok (.aload_n 0, 1) := by decide +kernel
theorem dX9_load_27 : decode cX9_load 27 = .ok (.aload_n 0, 1) := by decide +kernel
theorem dX9_load_28 : decode cX9_load 28 = .ok (.getfield 29, 3) := by decide +kernel
theorem dX9_load_31 : decode cX9_load 31 = .ok (.aload_n 3, 1) := by decide +kernel
theorem dX9_load_32 : decode cX9_load 32 = .ok (.iload_n 2, 1) := by decide +kernel
theorem dX9_load_33 : decode cX9_load 33 = .ok (.invokevirtual 102, 3) := by decide +kernel
theorem dX9_load_36 : decode cX9_load 36 = .ok (.invokevirtual 106, 3) := by decide +kernel
theorem dX9_load_39 : decode cX9_load 39 = .ok (.ireturn, 1) := by decide +kernel
set_option maxRecDepth 20000 in
theorem ggX9_define_X3_at : GoodIn wsX9_define wsX3_at := goodIn_r _ [7, 8, 9, 171, 172] (by decide +kernel) (by decide +kernel)
set_option maxRecDepth 20000 in
theorem gX9_define_X3_at : GoodIn wsX9_define (wsV RX9 62 RX3 yX3_at wsX3_at) := goodIn_app (goodIn_of _ (by decide +kernel)) ggX9_define_X3_at
set_option maxRecDepth 20000 in
theorem ggX9_define_X9_fileAt : GoodIn wsX9_define wsX9_fileAt := goodIn_r _ [14, 15, 16, 161, 162, 163, 164, 165, 166, 167, 168, 169, 170] (by decide +kernel) (by decide +kernel)
set_option maxRecDepth 20000 in
theorem gX9_define_X9_fileAt : GoodIn wsX9_define (wsV RX9 83 RX9 yX9_fileAt wsX9_fileAt) := goodIn_app (goodIn_of _ (by decide +kernel)) ggX9_define_X9_fileAt
set_option maxRecDepth 20000 in
theorem ggX9_define_X4_defineBy : GoodIn wsX9_define wsX4_defineBy := goodIn_r _ [21, 22, 23, 24, 25, 20, 26, 27, 28, 29, 30, 31, 32, 33, 34, 35, 36, 13, 37, 38, 39, 40, 41, 42, 43, 44, 45, 46, 47, 48, 49, 50, 51, 52, 53, 54, 55, 56, 57, 58, 59, 60, 61, 62, 63, 64, 65, 66, 67, 68, 69, 70, 71, 72, 73, 74, 75, 76, 77, 78, 79, 80, 81, 82, 83, 84, 85, 86, 87, 88, 89, 90, 91, 92, 93, 94, 95, 96, 97, 98, 99, 100, 101, 102, 103, 6, 104, 105, 106, 107, 108, 109, 8, 9, 110, 111, 112, 113, 114, 115, 116, 117, 118, 119, 120, 121, 122, 123, 124, 125, 126, 127, 128, 129, 130, 131, 132, 133, 134, 135, 136, 137, 138, 139, 140, 141, 142, 143, 144, 145, 146, 147, 148, 149, 150, 151, 152, 153, 154, 155, 173, 174, 175, 176, 177, 178, 179, 180, 181, 182, 183, 184, 185, 186, 187, 188, 189, 190, 191, 192, 193, 194, 195, 196, 197, 198, 199, 200, 201, 202, 203, 204, 205, 206, 171, 172] (by decide +kernel) (by decide +kernel)
set_option maxRecDepth 20000 in
theorem gX9_define_X4_defineBy : GoodIn wsX9_define (wsV RX9 110 RX4 yX4_defineBy wsX4_defineBy) := goodIn_app (goodIn_of _ (by decide +kernel)) ggX9_define_X4_defineBy
set_option maxRecDepth 20000 in
theorem ggX9_define_X9_answered : GoodIn wsX9_define wsX9_answered := goodIn_r _ [159, 160, 161, 162, 163, 164, 165, 166, 167, 168, 169, 170] (by decide +kernel) (by decide +kernel)
set_option maxRecDepth 20000 in
theorem gX9_define_X9_answered : GoodIn wsX9_define (wsV RX9 106 RX9 yX9_answered wsX9_answered) := goodIn_app (goodIn_of _ (by decide +kernel)) ggX9_define_X9_answered
theorem dX9_define_0 : decode cX9_define 0 = .ok (.aload_n 0, 1) := by decide +kernel
theorem dX9_define_1 : decode cX9_define 1 = .ok (.getfield 20, 3) := by decide +kernel
theorem dX9_define_4 : decode cX9_define 4 = .ok (.iload_n 1, 1) := by decide +kernel
theorem dX9_define_5 : decode cX9_define 5 = .ok (.invokevirtual 62, 3) := by decide +kernel
theorem dX9_define_8 : decode cX9_define 8 = .ok (.astore_n 3, 1) := by decide +kernel
theorem dX9_define_9 : decode cX9_define 9 = .ok (.aload_n 0, 1) := by decide +kernel
theorem dX9_define_10 : decode cX9_define 10 = .ok (.iload_n 2, 1) := by decide +kernel
theorem dX9_define_11 : decode cX9_define 11 = .ok (.invokevirtual 83, 3) := by decide +kernel
theorem dX9_define_14 : decode cX9_define 14 = .ok (.astore 4, 2) := by decide +kernel
theorem dX9_define_16 : decode cX9_define 16 = .ok (.aload_n 3, 1) := by decide +kernel
theorem dX9_define_17 : decode cX9_define 17 = .ok (.ifnull 8, 3) := by decide +kernel
theorem dX9_define_20 : decode cX9_define 20 = .ok (.aload 4, 2) := by decide +kernel
theorem dX9_define_22 : decode cX9_define 22 = .ok (.ifnonnull 6, 3) := by decide +kernel
theorem dX9_define_25 : decode cX9_define 25 = .ok (.bipush (-2), 2) := by decide +kernel
theorem dX9_define_27 : decode cX9_define 27 = .ok (.ireturn, 1) := by decide +kernel
theorem dX9_define_28 : decode cX9_define 28 = .ok (.aload_n 0, 1) := by decide +kernel
theorem dX9_define_29 : decode cX9_define 29 = .ok (.aload_n 0, 1) := by decide +kernel
theorem dX9_define_30 : decode cX9_define 30 = .ok (.getfield 29, 3) := by decide +kernel
theorem dX9_define_33 : decode cX9_define 33 = .ok (.aload_n 3, 1) := by decide +kernel
theorem dX9_define_34 : decode cX9_define 34 = .ok (.aload 4, 2) := by decide +kernel
theorem dX9_define_36 : decode cX9_define 36 = .ok (.invokevirtual 110, 3) := by decide +kernel
theorem dX9_define_39 : decode cX9_define 39 = .ok (.invokevirtual 106, 3) := by decide +kernel
theorem dX9_define_42 : decode cX9_define 42 = .ok (.ireturn, 1) := by decide +kernel
set_option maxRecDepth 20000 in
theorem ggX9_known_X3_at : GoodIn wsX9_known wsX3_at := goodIn_r _ [7, 8, 9, 35, 36] (by decide +kernel) (by decide +kernel)
set_option maxRecDepth 20000 in
theorem gX9_known_X3_at : GoodIn wsX9_known (wsV RX9 62 RX3 yX3_at wsX3_at) := goodIn_app (goodIn_of _ (by decide +kernel)) ggX9_known_X3_at
set_option maxRecDepth 20000 in
theorem ggX9_known_X9_isName : GoodIn wsX9_known wsX9_isName := goodIn_r _ [13] (by decide +kernel) (by decide +kernel)
set_option maxRecDepth 20000 in
theorem gX9_known_X9_isName : GoodIn wsX9_known (va_wsS RX9 79 yX9_isName wsX9_isName) := goodIn_app (goodIn_of _ (by decide +kernel)) ggX9_known_X9_isName
set_option maxRecDepth 20000 in
theorem ggX9_known_X9_numberOf : GoodIn wsX9_known wsX9_numberOf := goodIn_r _ [16, 17, 37, 38, 39, 40, 41, 42] (by decide +kernel) (by decide +kernel)
set_option maxRecDepth 20000 in
theorem gX9_known_X9_numberOf : GoodIn wsX9_known (va_wsS RX9 117 yX9_numberOf wsX9_numberOf) := goodIn_app (goodIn_of _ (by decide +kernel)) ggX9_known_X9_numberOf
theorem dX9_known_0 : decode cX9_known 0 = .ok (.aload_n 0, 1) := by decide +kernel
theorem dX9_known_1 : decode cX9_known 1 = .ok (.getfield 20, 3) := by decide +kernel
theorem dX9_known_4 : decode cX9_known 4 = .ok (.iload_n 1, 1) := by decide +kernel
theorem dX9_known_5 : decode cX9_known 5 = .ok (.invokevirtual 62, 3) := by decide +kernel
theorem dX9_known_8 : decode cX9_known 8 = .ok (.astore_n 3, 1) := by decide +kernel
theorem dX9_known_9 : decode cX9_known 9 = .ok (.aload_n 3, 1) := by decide +kernel
theorem dX9_known_10 : decode cX9_known 10 = .ok (.ifnonnull 6, 3) := by decide +kernel
theorem dX9_known_13 : decode cX9_known 13 = .ok (.bipush (-2), 2) := by decide +kernel
theorem dX9_known_15 : decode cX9_known 15 = .ok (.ireturn, 1) := by decide +kernel
theorem dX9_known_16 : decode cX9_known 16 = .ok (.iload_n 2, 1) := by decide +kernel
theorem dX9_known_17 : decode cX9_known 17 = .ok (.invokestatic 79, 3) := by decide +kernel
theorem dX9_known_20 : decode cX9_known 20 = .ok (.ifCond .ne 6, 3) := by decide +kernel
theorem dX9_known_23 : decode cX9_known 23 = .ok (.bipush (-3), 2) := by decide +kernel
theorem dX9_known_25 : decode cX9_known 25 = .ok (.ireturn, 1) := by decide +kernel
theorem dX9_known_26 : decode cX9_known 26 = .ok (.aload_n 3, 1) := by decide +kernel
theorem dX9_known_27 : decode cX9_known 27 = .ok (.getfield 114, 3) := by decide +kernel
theorem dX9_known_30 : decode cX9_known 30 = .ok (.iload_n 2, 1) := by decide +kernel
theorem dX9_known_31 : decode cX9_known 31 = .ok (.aaload, 1) := by decide +kernel
theorem dX9_known_32 : decode cX9_known 32 = .ok (.invokestatic 117, 3) := by decide +kernel
theorem dX9_known_35 : decode cX9_known 35 = .ok (.ireturn, 1) := by decide +kernel
set_option maxRecDepth 20000 in
theorem ggX9_agree_X4_classAt : GoodIn wsX9_agree wsX4_classAt := goodIn_r _ [8, 9, 10, 56, 57, 58, 59, 60, 61] (by decide +kernel) (by decide +kernel)
set_option maxRecDepth 20000 in
theorem gX9_agree_X4_classAt : GoodIn wsX9_agree (wsV RX9 121 RX4 yX4_classAt wsX4_classAt) := goodIn_app (goodIn_of _ (by decide +kernel)) ggX9_agree_X4_classAt
set_option maxRecDepth 20000 in
theorem ggX9_agree_X9_isName : GoodIn wsX9_agree wsX9_isName := goodIn_r _ [14] (by decide +kernel) (by decide +kernel)
set_option maxRecDepth 20000 in
theorem gX9_agree_X9_isName : GoodIn wsX9_agree (va_wsS RX9 79 yX9_isName wsX9_isName) := goodIn_app (goodIn_of _ (by decide +kernel)) ggX9_agree_X9_isName
set_option maxRecDepth 20000 in
theorem ggX9_agree_X3_bind : GoodIn wsX9_agree wsX3_bind := goodIn_r _ [19, 20, 21, 22, 23, 24, 25, 18, 26, 27, 28, 29, 30, 31, 62, 63, 64, 65, 66, 67, 68, 69, 70] (by decide +kernel) (by decide +kernel)
set_option maxRecDepth 20000 in
theorem gX9_agree_X3_bind : GoodIn wsX9_agree (wsV RX9 129 RX3 yX3_bind wsX3_bind) := goodIn_app (goodIn_of _ (by decide +kernel)) ggX9_agree_X3_bind
set_option maxRecDepth 20000 in
theorem ggX9_agree_X9_failed : GoodIn wsX9_agree wsX9_failed := goodIn_r _ [34] (by decide +kernel) (by decide +kernel)
set_option maxRecDepth 20000 in
theorem gX9_agree_X9_failed : GoodIn wsX9_agree (va_wsS RX9 133 yX9_failed wsX9_failed) := goodIn_app (goodIn_of _ (by decide +kernel)) ggX9_agree_X9_failed
set_option maxRecDepth 20000 in
theorem ggX9_agree_X9_answered : GoodIn wsX9_agree wsX9_answered := goodIn_r _ [38, 39, 40, 41, 42, 43, 44, 45, 46, 47, 48, 49] (by decide +kernel) (by decide +kernel)
set_option maxRecDepth 20000 in
theorem gX9_agree_X9_answered : GoodIn wsX9_agree (wsV RX9 106 RX9 yX9_answered wsX9_answered) := goodIn_app (goodIn_of _ (by decide +kernel)) ggX9_agree_X9_answered
theorem dX9_agree_0 : decode cX9_agree 0 = .ok (.aload_n 0, 1) := by decide +kernel
theorem dX9_agree_1 : decode cX9_agree 1 = .ok (.getfield 29, 3) := by decide +kernel
theorem dX9_agree_4 : decode cX9_agree 4 = .ok (.iload_n 1, 1) := by decide +kernel
theorem dX9_agree_5 : decode cX9_agree 5 = .ok (.invokevirtual 121, 3) := by decide +kernel
theorem dX9_agree_8 : decode cX9_agree 8 = .ok (.astore 4, 2) := by decide +kernel
theorem dX9_agree_10 : decode cX9_agree 10 = .ok (.aload_n 0, 1) := by decide +kernel
theorem dX9_agree_11 : decode cX9_agree 11 = .ok (.getfield 29, 3) := by decide +kernel
theorem dX9_agree_14 : decode cX9_agree 14 = .ok (.iload_n 2, 1) := by decide +kernel
theorem dX9_agree_15 : decode cX9_agree 15 = .ok (.invokevirtual 121, 3) := by decide +kernel
theorem dX9_agree_18 : decode cX9_agree 18 = .ok (.astore 5, 2) := by decide +kernel
theorem dX9_agree_20 : decode cX9_agree 20 = .ok (.aload 4, 2) := by decide +kernel
theorem dX9_agree_22 : decode cX9_agree 22 = .ok (.ifnull 8, 3) := by decide +kernel
theorem dX9_agree_25 : decode cX9_agree 25 = .ok (.aload 5, 2) := by decide +kernel
theorem dX9_agree_27 : decode cX9_agree 27 = .ok (.ifnonnull 6, 3) := by decide +kernel
theorem dX9_agree_30 : decode cX9_agree 30 = .ok (.bipush (-2), 2) := by decide +kernel
theorem dX9_agree_32 : decode cX9_agree 32 = .ok (.ireturn, 1) := by decide +kernel
theorem dX9_agree_33 : decode cX9_agree 33 = .ok (.iload_n 3, 1) := by decide +kernel
theorem dX9_agree_34 : decode cX9_agree 34 = .ok (.invokestatic 79, 3) := by decide +kernel
theorem dX9_agree_37 : decode cX9_agree 37 = .ok (.ifCond .ne 6, 3) := by decide +kernel
theorem dX9_agree_40 : decode cX9_agree 40 = .ok (.bipush (-3), 2) := by decide +kernel
theorem dX9_agree_42 : decode cX9_agree 42 = .ok (.ireturn, 1) := by decide +kernel
theorem dX9_agree_43 : decode cX9_agree 43 = .ok (.aload_n 0, 1) := by decide +kernel
theorem dX9_agree_44 : decode cX9_agree 44 = .ok (.getfield 20, 3) := by decide +kernel
theorem dX9_agree_47 : decode cX9_agree 47 = .ok (.aload 4, 2) := by decide +kernel
theorem dX9_agree_49 : decode cX9_agree 49 = .ok (.getfield 125, 3) := by decide +kernel
theorem dX9_agree_52 : decode cX9_agree 52 = .ok (.aload 5, 2) := by decide +kernel
theorem dX9_agree_54 : decode cX9_agree 54 = .ok (.getfield 125, 3) := by decide +kernel
theorem dX9_agree_57 : decode cX9_agree 57 = .ok (.iload_n 3, 1) := by decide +kernel
theorem dX9_agree_58 : decode cX9_agree 58 = .ok (.invokevirtual 129, 3) := by decide +kernel
theorem dX9_agree_61 : decode cX9_agree 61 = .ok (.istore 6, 2) := by decide +kernel
theorem dX9_agree_63 : decode cX9_agree 63 = .ok (.iload 6, 2) := by decide +kernel
theorem dX9_agree_65 : decode cX9_agree 65 = .ok (.ifCond .eq 7, 3) := by decide +kernel
theorem dX9_agree_68 : decode cX9_agree 68 = .ok (.iconst 1, 1) := by decide +kernel
theorem dX9_agree_69 : decode cX9_agree 69 = .ok (.goto 11, 3) := by decide +kernel
theorem dX9_agree_72 : decode cX9_agree 72 = .ok (.aload_n 0, 1) := by decide +kernel
theorem dX9_agree_73 : decode cX9_agree 73 = .ok (.iconst 3, 1) := by decide +kernel
theorem dX9_agree_74 : decode cX9_agree 74 = .ok (.invokestatic 133, 3) := by decide +kernel
theorem dX9_agree_77 : decode cX9_agree 77 = .ok (.invokevirtual 106, 3) := by decide +kernel
theorem dX9_agree_80 : decode cX9_agree 80 = .ok (.ireturn, 1) := by decide +kernel
set_option maxRecDepth 20000 in
theorem ggX9_apart_X4_classAt : GoodIn wsX9_apart wsX4_classAt := goodIn_r _ [8, 9, 10, 34, 35, 36, 37, 38, 39] (by decide +kernel) (by decide +kernel)
set_option maxRecDepth 20000 in
theorem gX9_apart_X4_classAt : GoodIn wsX9_apart (wsV RX9 121 RX4 yX4_classAt wsX4_classAt) := goodIn_app (goodIn_of _ (by decide +kernel)) ggX9_apart_X4_classAt
theorem dX9_apart_0 : decode cX9_apart 0 = .ok (.aload_n 0, 1) := by decide +kernel
theorem dX9_apart_1 : decode cX9_apart 1 = .ok (.getfield 29, 3) := by decide +kernel
theorem dX9_apart_4 : decode cX9_apart 4 = .ok (.iload_n 1, 1) := by decide +kernel
theorem dX9_apart_5 : decode cX9_apart 5 = .ok (.invokevirtual 121, 3) := by decide +kernel
theorem dX9_apart_8 : decode cX9_apart 8 = .ok (.astore_n 3, 1) := by decide +kernel
theorem dX9_apart_9 : decode cX9_apart 9 = .ok (.aload_n 0, 1) := by decide +kernel
theorem dX9_apart_10 : decode cX9_apart 10 = .ok (.getfield 29, 3) := by decide +kernel
theorem dX9_apart_13 : decode cX9_apart 13 = .ok (.iload_n 2, 1) := by decide +kernel
theorem dX9_apart_14 : decode cX9_apart 14 = .ok (.invokevirtual 121, 3) := by decide +kernel
theorem dX9_apart_17 : decode cX9_apart 17 = .ok (.astore 4, 2) := by decide +kernel
theorem dX9_apart_19 : decode cX9_apart 19 = .ok (.aload_n 3, 1) := by decide +kernel
theorem dX9_apart_20 : decode cX9_apart 20 = .ok (.ifnull 8, 3) := by decide +kernel
theorem dX9_apart_23 : decode cX9_apart 23 = .ok (.aload 4, 2) := by decide +kernel
theorem dX9_apart_25 : decode cX9_apart 25 = .ok (.ifnonnull 6, 3) := by decide +kernel
theorem dX9_apart_28 : decode cX9_apart 28 = .ok (.bipush (-2), 2) := by decide +kernel
theorem dX9_apart_30 : decode cX9_apart 30 = .ok (.ireturn, 1) := by decide +kernel
theorem dX9_apart_31 : decode cX9_apart 31 = .ok (.aload_n 3, 1) := by decide +kernel
theorem dX9_apart_32 : decode cX9_apart 32 = .ok (.aload 4, 2) := by decide +kernel
theorem dX9_apart_34 : decode cX9_apart 34 = .ok (.if_acmp .eq 25, 3) := by decide +kernel
theorem dX9_apart_37 : decode cX9_apart 37 = .ok (.aload_n 3, 1) := by decide +kernel
theorem dX9_apart_38 : decode cX9_apart 38 = .ok (.getfield 136, 3) := by decide +kernel
theorem dX9_apart_41 : decode cX9_apart 41 = .ok (.getfield 99, 3) := by decide +kernel
theorem dX9_apart_44 : decode cX9_apart 44 = .ok (.aload 4, 2) := by decide +kernel
theorem dX9_apart_46 : decode cX9_apart 46 = .ok (.getfield 136, 3) := by decide +kernel
theorem dX9_apart_49 : decode cX9_apart 49 = .ok (.getfield 99, 3) := by decide +kernel
theorem dX9_apart_52 : decode cX9_apart 52 = .ok (.if_icmp .ne 7, 3) := by decide +kernel
theorem dX9_apart_55 : decode cX9_apart 55 = .ok (.iconst 1, 1) := by decide +kernel
theorem dX9_apart_56 : decode cX9_apart 56 = .ok (.goto 4, 3) := by decide +kernel
theorem dX9_apart_59 : decode cX9_apart 59 = .ok (.iconst 0, 1) := by decide +kernel
theorem dX9_apart_60 : decode cX9_apart 60 = .ok (.ireturn, 1) := by decide +kernel
set_option maxRecDepth 20000 in
theorem ggX9_start_X4_classAt : GoodIn wsX9_start wsX4_classAt := goodIn_r _ [6, 7, 8, 44, 45, 46, 47, 48, 49] (by decide +kernel) (by decide +kernel)
set_option maxRecDepth 20000 in
theorem gX9_start_X4_classAt : GoodIn wsX9_start (wsV RX9 121 RX4 yX4_classAt wsX4_classAt) := goodIn_app (goodIn_of _ (by decide +kernel)) ggX9_start_X4_classAt
set_option maxRecDepth 20000 in
theorem ggX9_start_X9_started : GoodIn wsX9_start wsX9_started := goodIn_r _ [13, 14, 15, 16, 17, 18, 19, 20, 21, 22, 23, 24, 25, 26, 27, 12, 28, 50, 51, 52, 53, 54, 55, 34, 35, 36, 37, 38, 39, 40, 41, 42, 43, 56, 57, 58, 59, 60, 61, 62] (by decide +kernel) (by decide +kernel)
set_option maxRecDepth 20000 in
theorem gX9_start_X9_started : GoodIn wsX9_start (wsV RX9 140 RX9 yX9_started wsX9_started) := goodIn_app (goodIn_of _ (by decide +kernel)) ggX9_start_X9_started
set_option maxRecDepth 20000 in
theorem ggX9_start_X9_answered : GoodIn wsX9_start wsX9_answered := goodIn_r _ [32, 33, 34, 35, 36, 37, 38, 39, 40, 41, 42, 43] (by decide +kernel) (by decide +kernel)
set_option maxRecDepth 20000 in
theorem gX9_start_X9_answered : GoodIn wsX9_start (wsV RX9 106 RX9 yX9_answered wsX9_answered) := goodIn_app (goodIn_of _ (by decide +kernel)) ggX9_start_X9_answered
theorem dX9_start_0 : decode cX9_start 0 = .ok (.aload_n 0, 1) := by decide +kernel
theorem dX9_start_1 : decode cX9_start 1 = .ok (.getfield 29, 3) := by decide +kernel
theorem dX9_start_4 : decode cX9_start 4 = .ok (.iload_n 1, 1) := by decide +kernel
theorem dX9_start_5 : decode cX9_start 5 = .ok (.invokevirtual 121, 3) := by decide +kernel
theorem dX9_start_8 : decode cX9_start 8 = .ok (.astore_n 2, 1) := by decide +kernel
theorem dX9_start_9 : decode cX9_start 9 = .ok (.aload_n 2, 1) := by decide +kernel
theorem dX9_start_10 : decode cX9_start 10 = .ok (.ifnonnull 6, 3) := by decide +kernel
theorem dX9_start_13 : decode cX9_start 13 = .ok (.bipush (-2), 2) := by decide +kernel
theorem dX9_start_15 : decode cX9_start 15 = .ok (.ireturn, 1) := by decide +kernel
theorem dX9_start_16 : decode cX9_start 16 = .ok (.aload_n 0, 1) := by decide +kernel
theorem dX9_start_17 : decode cX9_start 17 = .ok (.aload_n 0, 1) := by decide +kernel
theorem dX9_start_18 : decode cX9_start 18 = .ok (.aload_n 2, 1) := by decide +kernel
theorem dX9_start_19 : decode cX9_start 19 = .ok (.invokevirtual 140, 3) := by decide +kernel
theorem dX9_start_22 : decode cX9_start 22 = .ok (.invokevirtual 106, 3) := by decide +kernel
theorem dX9_start_25 : decode cX9_start 25 = .ok (.ireturn, 1) := by decide +kernel
set_option maxRecDepth 20000 in
theorem ggX9_value_X4_classAt : GoodIn wsX9_value wsX4_classAt := goodIn_r _ [9, 10, 11, 53, 54, 55, 56, 57, 58] (by decide +kernel) (by decide +kernel)
set_option maxRecDepth 20000 in
theorem gX9_value_X4_classAt : GoodIn wsX9_value (wsV RX9 121 RX4 yX4_classAt wsX4_classAt) := goodIn_app (goodIn_of _ (by decide +kernel)) ggX9_value_X4_classAt
set_option maxRecDepth 20000 in
theorem ggX9_value_X9_started : GoodIn wsX9_value wsX9_started := goodIn_r _ [16, 17, 18, 19, 20, 21, 22, 23, 24, 25, 26, 27, 28, 29, 30, 15, 31, 47, 48, 49, 50, 51, 52, 37, 38, 39, 40, 41, 42, 43, 44, 45, 46, 59, 60, 61, 62, 63, 64, 65] (by decide +kernel) (by decide +kernel)
set_option maxRecDepth 20000 in
theorem gX9_value_X9_started : GoodIn wsX9_value (wsV RX9 140 RX9 yX9_started wsX9_started) := goodIn_app (goodIn_of _ (by decide +kernel)) ggX9_value_X9_started
set_option maxRecDepth 20000 in
theorem ggX9_value_X9_answered : GoodIn wsX9_value wsX9_answered := goodIn_r _ [35, 36, 37, 38, 39, 40, 41, 42, 43, 44, 45, 46] (by decide +kernel) (by decide +kernel)
set_option maxRecDepth 20000 in
theorem gX9_value_X9_answered : GoodIn wsX9_value (wsV RX9 106 RX9 yX9_answered wsX9_answered) := goodIn_app (goodIn_of _ (by decide +kernel)) ggX9_value_X9_answered
theorem dX9_value_0 : decode cX9_value 0 = .ok (.aload_n 0, 1) := by decide +kernel
theorem dX9_value_1 : decode cX9_value 1 = .ok (.getfield 29, 3) := by decide +kernel
theorem dX9_value_4 : decode cX9_value 4 = .ok (.iload_n 1, 1) := by decide +kernel
theorem dX9_value_5 : decode cX9_value 5 = .ok (.invokevirtual 121, 3) := by decide +kernel
theorem dX9_value_8 : decode cX9_value 8 = .ok (.astore_n 2, 1) := by decide +kernel
theorem dX9_value_9 : decode cX9_value 9 = .ok (.aload_n 2, 1) := by decide +kernel
theorem dX9_value_10 : decode cX9_value 10 = .ok (.ifnonnull 7, 3) := by decide +kernel
theorem dX9_value_13 : decode cX9_value 13 = .ok (.ldc2_w 143, 3) := by decide +kernel
theorem dX9_value_16 : decode cX9_value 16 = .ok (.lreturn, 1) := by decide +kernel
theorem dX9_value_17 : decode cX9_value 17 = .ok (.aload_n 0, 1) := by decide +kernel
theorem dX9_value_18 : decode cX9_value 18 = .ok (.aload_n 0, 1) := by decide +kernel
theorem dX9_value_19 : decode cX9_value 19 = .ok (.aload_n 2, 1) := by decide +kernel
theorem dX9_value_20 : decode cX9_value 20 = .ok (.invokevirtual 140, 3) := by decide +kernel
theorem dX9_value_23 : decode cX9_value 23 = .ok (.invokevirtual 106, 3) := by decide +kernel
theorem dX9_value_26 : decode cX9_value 26 = .ok (.istore_n 3, 1) := by decide +kernel
theorem dX9_value_27 : decode cX9_value 27 = .ok (.iload_n 3, 1) := by decide +kernel
theorem dX9_value_28 : decode cX9_value 28 = .ok (.iconst 1, 1) := by decide +kernel
theorem dX9_value_29 : decode cX9_value 29 = .ok (.if_icmp .ne 10, 3) := by decide +kernel
theorem dX9_value_32 : decode cX9_value 32 = .ok (.aload_n 2, 1) := by decide +kernel
theorem dX9_value_33 : decode cX9_value 33 = .ok (.getfield 145, 3) := by decide +kernel
theorem dX9_value_36 : decode cX9_value 36 = .ok (.goto 9, 3) := by decide +kernel
theorem dX9_value_39 : decode cX9_value 39 = .ok (.ldc2_w 149, 3) := by decide +kernel
theorem dX9_value_42 : decode cX9_value 42 = .ok (.iload_n 3, 1) := by decide +kernel
theorem dX9_value_43 : decode cX9_value 43 = .ok (.i2l, 1) := by decide +kernel
theorem dX9_value_44 : decode cX9_value 44 = .ok (.lsub, 1) := by decide +kernel
theorem dX9_value_45 : decode cX9_value 45 = .ok (.lreturn, 1) := by decide +kernel
set_option maxRecDepth 20000 in
theorem ggX9_make_X4_classAt : GoodIn wsX9_make wsX4_classAt := goodIn_r _ [8, 9, 10, 46, 47, 48, 49, 50, 51] (by decide +kernel) (by decide +kernel)
set_option maxRecDepth 20000 in
theorem gX9_make_X4_classAt : GoodIn wsX9_make (wsV RX9 121 RX4 yX4_classAt wsX4_classAt) := goodIn_app (goodIn_of _ (by decide +kernel)) ggX9_make_X4_classAt
set_option maxRecDepth 20000 in
theorem ggX9_make_X9_started : GoodIn wsX9_make wsX9_started := goodIn_r _ [15, 16, 17, 18, 19, 20, 21, 22, 23, 24, 25, 26, 27, 28, 29, 14, 30, 52, 53, 54, 55, 56, 57, 36, 37, 38, 39, 40, 41, 42, 43, 44, 45, 58, 59, 60, 61, 62, 63, 64] (by decide +kernel) (by decide +kernel)
set_option maxRecDepth 20000 in
theorem gX9_make_X9_started : GoodIn wsX9_make (wsV RX9 140 RX9 yX9_started wsX9_started) := goodIn_app (goodIn_of _ (by decide +kernel)) ggX9_make_X9_started
set_option maxRecDepth 20000 in
theorem ggX9_make_X9_answered : GoodIn wsX9_make wsX9_answered := goodIn_r _ [34, 35, 36, 37, 38, 39, 40, 41, 42, 43, 44, 45] (by decide +kernel) (by decide +kernel)
set_option maxRecDepth 20000 in
theorem gX9_make_X9_answered : GoodIn wsX9_make (wsV RX9 106 RX9 yX9_answered wsX9_answered) := goodIn_app (goodIn_of _ (by decide +kernel)) ggX9_make_X9_answered
theorem dX9_make_0 : decode cX9_make 0 = .ok (.aload_n 0, 1) := by decide +kernel
theorem dX9_make_1 : decode cX9_make 1 = .ok (.getfield 29, 3) := by decide +kernel
theorem dX9_make_4 : decode cX9_make 4 = .ok (.iload_n 1, 1) := by decide +kernel
theorem dX9_make_5 : decode cX9_make 5 = .ok (.invokevirtual 121, 3) := by decide +kernel
theorem dX9_make_8 : decode cX9_make 8 = .ok (.astore_n 2, 1) := by decide +kernel
theorem dX9_make_9 : decode cX9_make 9 = .ok (.aload_n 2, 1) := by decide +kernel
theorem dX9_make_10 : decode cX9_make 10 = .ok (.ifnonnull 6, 3) := by decide +kernel
theorem dX9_make_13 : decode cX9_make 13 = .ok (.bipush (-2), 2) := by decide +kernel
theorem dX9_make_15 : decode cX9_make 15 = .ok (.ireturn, 1) := by decide +kernel
theorem dX9_make_16 : decode cX9_make 16 = .ok (.aload_n 0, 1) := by decide +kernel
theorem dX9_make_17 : decode cX9_make 17 = .ok (.getfield 151, 3) := by decide +kernel
theorem dX9_make_20 : decode cX9_make 20 = .ok (.bipush 60, 2) := by decide +kernel
theorem dX9_make_22 : decode cX9_make 22 = .ok (.if_icmp .lt 6, 3) := by decide +kernel
theorem dX9_make_25 : decode cX9_make 25 = .ok (.bipush (-5), 2) := by decide +kernel
theorem dX9_make_27 : decode cX9_make 27 = .ok (.ireturn, 1) := by decide +kernel
theorem dX9_make_28 : decode cX9_make 28 = .ok (.aload_n 0, 1) := by decide +kernel
theorem dX9_make_29 : decode cX9_make 29 = .ok (.aload_n 0, 1) := by decide +kernel
theorem dX9_make_30 : decode cX9_make 30 = .ok (.aload_n 2, 1) := by decide +kernel
theorem dX9_make_31 : decode cX9_make 31 = .ok (.invokevirtual 140, 3) := by decide +kernel
theorem dX9_make_34 : decode cX9_make 34 = .ok (.invokevirtual 106, 3) := by decide +kernel
theorem dX9_make_37 : decode cX9_make 37 = .ok (.istore_n 3, 1) := by decide +kernel
theorem dX9_make_38 : decode cX9_make 38 = .ok (.iload_n 3, 1) := by decide +kernel
theorem dX9_make_39 : decode cX9_make 39 = .ok (.iconst 1, 1) := by decide +kernel
theorem dX9_make_40 : decode cX9_make 40 = .ok (.if_icmp .eq 5, 3) := by decide +kernel
theorem dX9_make_43 : decode cX9_make 43 = .ok (.iload_n 3, 1) := by decide +kernel
theorem dX9_make_44 : decode cX9_make 44 = .ok (.ireturn, 1) := by decide +kernel
theorem dX9_make_45 : decode cX9_make 45 = .ok (.aload_n 0, 1) := by decide +kernel
theorem dX9_make_46 : decode cX9_make 46 = .ok (.getfield 35, 3) := by decide +kernel
theorem dX9_make_49 : decode cX9_make 49 = .ok (.aload_n 0, 1) := by decide +kernel
theorem dX9_make_50 : decode cX9_make 50 = .ok (.getfield 151, 3) := by decide +kernel
theorem dX9_make_53 : decode cX9_make 53 = .ok (.aload_n 2, 1) := by decide +kernel
theorem dX9_make_54 : decode cX9_make 54 = .ok (.aastore, 1) := by decide +kernel
theorem dX9_make_55 : decode cX9_make 55 = .ok (.aload_n 0, 1) := by decide +kernel
theorem dX9_make_56 : decode cX9_make 56 = .ok (.dup, 1) := by decide +kernel
theorem dX9_make_57 : decode cX9_make 57 = .ok (.getfield 151, 3) := by decide +kernel
theorem dX9_make_60 : decode cX9_make 60 = .ok (.dup_x1, 1) := by decide +kernel
theorem dX9_make_61 : decode cX9_make 61 = .ok (.iconst 1, 1) := by decide +kernel
theorem dX9_make_62 : decode cX9_make 62 = .ok (.iadd, 1) := by decide +kernel
theorem dX9_make_63 : decode cX9_make 63 = .ok (.putfield 151, 3) := by decide +kernel
theorem dX9_make_66 : decode cX9_make 66 = .ok (.ireturn, 1) := by decide +kernel
set_option maxRecDepth 20000 in
theorem ggX9_cast_X9_classOfObject : GoodIn wsX9_cast wsX9_classOfObject := goodIn_r _ [6, 7, 8, 30, 31, 32, 33, 34, 35, 36, 37, 38, 39] (by decide +kernel) (by decide +kernel)
set_option maxRecDepth 20000 in
theorem gX9_cast_X9_classOfObject : GoodIn wsX9_cast (wsV RX9 154 RX9 yX9_classOfObject wsX9_classOfObject) := goodIn_app (goodIn_of _ (by decide +kernel)) ggX9_cast_X9_classOfObject
set_option maxRecDepth 20000 in
theorem ggX9_cast_X4_classAt : GoodIn wsX9_cast wsX4_classAt := goodIn_r _ [13, 14, 15, 40, 41, 42, 43, 44, 45] (by decide +kernel) (by decide +kernel)
set_option maxRecDepth 20000 in
theorem gX9_cast_X4_classAt : GoodIn wsX9_cast (wsV RX9 121 RX4 yX4_classAt wsX4_classAt) := goodIn_app (goodIn_of _ (by decide +kernel)) ggX9_cast_X4_classAt
set_option maxRecDepth 20000 in
theorem ggX9_cast_X5_isOf : GoodIn wsX9_cast wsX5_isOf := goodIn_r _ [20, 21, 46, 47, 48, 49, 50, 51] (by decide +kernel) (by decide +kernel)
set_option maxRecDepth 20000 in
theorem gX9_cast_X5_isOf : GoodIn wsX9_cast (wsV RX9 157 RX5 yX5_isOf wsX5_isOf) := goodIn_app (goodIn_of _ (by decide +kernel)) ggX9_cast_X5_isOf
set_option maxRecDepth 20000 in
theorem ggX9_cast_X9_failed : GoodIn wsX9_cast wsX9_failed := goodIn_r _ [24] (by decide +kernel) (by decide +kernel)
set_option maxRecDepth 20000 in
theorem gX9_cast_X9_failed : GoodIn wsX9_cast (va_wsS RX9 133 yX9_failed wsX9_failed) := goodIn_app (goodIn_of _ (by decide +kernel)) ggX9_cast_X9_failed
set_option maxRecDepth 20000 in
theorem ggX9_cast_X9_answered : GoodIn wsX9_cast wsX9_answered := goodIn_r _ [28, 29, 30, 31, 32, 33, 34, 35, 36, 37, 38, 39] (by decide +kernel) (by decide +kernel)
set_option maxRecDepth 20000 in
theorem gX9_cast_X9_answered : GoodIn wsX9_cast (wsV RX9 106 RX9 yX9_answered wsX9_answered) := goodIn_app (goodIn_of _ (by decide +kernel)) ggX9_cast_X9_answered
theorem dX9_cast_0 : decode cX9_cast 0 = .ok (.aload_n 0, 1) := by decide +kernel
theorem dX9_cast_1 : decode cX9_cast 1 = .ok (.iload_n 1, 1) := by decide +kernel
theorem dX9_cast_2 : decode cX9_cast 2 = .ok (.invokevirtual 154, 3) := by decide +kernel
theorem dX9_cast_5 : decode cX9_cast 5 = .ok (.astore_n 3, 1) := by decide +kernel
theorem dX9_cast_6 : decode cX9_cast 6 = .ok (.aload_n 0, 1) := by decide +kernel
theorem dX9_cast_7 : decode cX9_cast 7 = .ok (.getfield 29, 3) := by decide +kernel
theorem dX9_cast_10 : decode cX9_cast 10 = .ok (.iload_n 2, 1) := by decide +kernel
theorem dX9_cast_11 : decode cX9_cast 11 = .ok (.invokevirtual 121, 3) := by decide +kernel
theorem dX9_cast_14 : decode cX9_cast 14 = .ok (.astore 4, 2) := by decide +kernel
theorem dX9_cast_16 : decode cX9_cast 16 = .ok (.aload_n 3, 1) := by decide +kernel
theorem dX9_cast_17 : decode cX9_cast 17 = .ok (.ifnull 8, 3) := by decide +kernel
theorem dX9_cast_20 : decode cX9_cast 20 = .ok (.aload 4, 2) := by decide +kernel
theorem dX9_cast_22 : decode cX9_cast 22 = .ok (.ifnonnull 6, 3) := by decide +kernel
theorem dX9_cast_25 : decode cX9_cast 25 = .ok (.bipush (-2), 2) := by decide +kernel
theorem dX9_cast_27 : decode cX9_cast 27 = .ok (.ireturn, 1) := by decide +kernel
theorem dX9_cast_28 : decode cX9_cast 28 = .ok (.aload_n 3, 1) := by decide +kernel
theorem dX9_cast_29 : decode cX9_cast 29 = .ok (.aload 4, 2) := by decide +kernel
theorem dX9_cast_31 : decode cX9_cast 31 = .ok (.invokevirtual 157, 3) := by decide +kernel
theorem dX9_cast_34 : decode cX9_cast 34 = .ok (.ifCond .eq 7, 3) := by decide +kernel
theorem dX9_cast_37 : decode cX9_cast 37 = .ok (.iconst 1, 1) := by decide +kernel
theorem dX9_cast_38 : decode cX9_cast 38 = .ok (.goto 11, 3) := by decide +kernel
theorem dX9_cast_41 : decode cX9_cast 41 = .ok (.aload_n 0, 1) := by decide +kernel
theorem dX9_cast_42 : decode cX9_cast 42 = .ok (.iconst 5, 1) := by decide +kernel
theorem dX9_cast_43 : decode cX9_cast 43 = .ok (.invokestatic 133, 3) := by decide +kernel
theorem dX9_cast_46 : decode cX9_cast 46 = .ok (.invokevirtual 106, 3) := by decide +kernel
theorem dX9_cast_49 : decode cX9_cast 49 = .ok (.ireturn, 1) := by decide +kernel
set_option maxRecDepth 20000 in
theorem ggX9_row_X4_classAt : GoodIn wsX9_row wsX4_classAt := goodIn_r _ [11, 12, 13, 35, 36, 37, 38, 39, 40] (by decide +kernel) (by decide +kernel)
set_option maxRecDepth 20000 in
theorem gX9_row_X4_classAt : GoodIn wsX9_row (wsV RX9 121 RX4 yX4_classAt wsX4_classAt) := goodIn_app (goodIn_of _ (by decide +kernel)) ggX9_row_X4_classAt
set_option maxRecDepth 20000 in
theorem ggX9_row_X7_init : GoodIn wsX9_row wsX7_init := goodIn_r _ [16, 17, 18, 19, 20, 21, 22, 33, 34] (by decide +kernel) (by decide +kernel)
set_option maxRecDepth 20000 in
theorem gX9_row_X7_init : GoodIn wsX9_row (wsX7_init) := ggX9_row_X7_init
theorem dX9_row_0 : decode cX9_row 0 = .ok (.aload_n 0, 1) := by decide +kernel
theorem dX9_row_1 : decode cX9_row 1 = .ok (.getfield 29, 3) := by decide +kernel
theorem dX9_row_4 : decode cX9_row 4 = .ok (.iload_n 1, 1) := by decide +kernel
theorem dX9_row_5 : decode cX9_row 5 = .ok (.invokevirtual 121, 3) := by decide +kernel
theorem dX9_row_8 : decode cX9_row 8 = .ok (.astore_n 3, 1) := by decide +kernel
theorem dX9_row_9 : decode cX9_row 9 = .ok (.aload_n 3, 1) := by decide +kernel
theorem dX9_row_10 : decode cX9_row 10 = .ok (.ifnonnull 6, 3) := by decide +kernel
theorem dX9_row_13 : decode cX9_row 13 = .ok (.bipush (-2), 2) := by decide +kernel
theorem dX9_row_15 : decode cX9_row 15 = .ok (.ireturn, 1) := by decide +kernel
theorem dX9_row_16 : decode cX9_row 16 = .ok (.iload_n 2, 1) := by decide +kernel
theorem dX9_row_17 : decode cX9_row 17 = .ok (.ifCond .lt 9, 3) := by decide +kernel
theorem dX9_row_20 : decode cX9_row 20 = .ok (.iload_n 2, 1) := by decide +kernel
theorem dX9_row_21 : decode cX9_row 21 = .ok (.bipush 8, 2) := by decide +kernel
theorem dX9_row_23 : decode cX9_row 23 = .ok (.if_icmp .le 6, 3) := by decide +kernel
theorem dX9_row_26 : decode cX9_row 26 = .ok (.bipush (-3), 2) := by decide +kernel
theorem dX9_row_28 : decode cX9_row 28 = .ok (.ireturn, 1) := by decide +kernel
theorem dX9_row_29 : decode cX9_row 29 = .ok (.aload_n 0, 1) := by decide +kernel
theorem dX9_row_30 : decode cX9_row 30 = .ok (.getfield 161, 3) := by decide +kernel
theorem dX9_row_33 : decode cX9_row 33 = .ok (.bipush 20, 2) := by decide +kernel
theorem dX9_row_35 : decode cX9_row 35 = .ok (.if_icmp .lt 6, 3) := by decide +kernel
theorem dX9_row_38 : decode cX9_row 38 = .ok (.bipush (-5), 2) := by decide +kernel
theorem dX9_row_40 : decode cX9_row 40 = .ok (.ireturn, 1) := by decide +kernel
theorem dX9_row_41 : decode cX9_row 41 = .ok (.aload_n 0, 1) := by decide +kernel
theorem dX9_row_42 : decode cX9_row 42 = .ok (.getfield 41, 3) := by decide +kernel
theorem dX9_row_45 : decode cX9_row 45 = .ok (.aload_n 0, 1) := by decide +kernel
theorem dX9_row_46 : decode cX9_row 46 = .ok (.getfield 161, 3) := by decide +kernel
theorem dX9_row_49 : decode cX9_row 49 = .ok (.new 39, 3) := by decide +kernel
theorem dX9_row_52 : decode cX9_row 52 = .ok (.dup, 1) := by decide +kernel
theorem dX9_row_53 : decode cX9_row 53 = .ok (.aload_n 3, 1) := by decide +kernel
theorem dX9_row_54 : decode cX9_row 54 = .ok (.iload_n 2, 1) := by decide +kernel
theorem dX9_row_55 : decode cX9_row 55 = .ok (.invokespecial 164, 3) := by decide +kernel
theorem dX9_row_58 : decode cX9_row 58 = .ok (.aastore, 1) := by decide +kernel
theorem dX9_row_59 : decode cX9_row 59 = .ok (.aload_n 0, 1) := by decide +kernel
theorem dX9_row_60 : decode cX9_row 60 = .ok (.dup, 1) := by decide +kernel
theorem dX9_row_61 : decode cX9_row 61 = .ok (.getfield 161, 3) := by decide +kernel
theorem dX9_row_64 : decode cX9_row 64 = .ok (.dup_x1, 1) := by decide +kernel
theorem dX9_row_65 : decode cX9_row 65 = .ok (.iconst 1, 1) := by decide +kernel
theorem dX9_row_66 : decode cX9_row 66 = .ok (.iadd, 1) := by decide +kernel
theorem dX9_row_67 : decode cX9_row 67 = .ok (.putfield 161, 3) := by decide +kernel
theorem dX9_row_70 : decode cX9_row 70 = .ok (.ireturn, 1) := by decide +kernel
set_option maxRecDepth 20000 in
theorem ggX9_put_X9_rowAt : GoodIn wsX9_put wsX9_rowAt := goodIn_r _ [7, 8, 9, 38, 39, 40, 41, 42, 43, 44, 45, 46, 47] (by decide +kernel) (by decide +kernel)
set_option maxRecDepth 20000 in
theorem gX9_put_X9_rowAt : GoodIn wsX9_put (wsV RX9 167 RX9 yX9_rowAt wsX9_rowAt) := goodIn_app (goodIn_of _ (by decide +kernel)) ggX9_put_X9_rowAt
set_option maxRecDepth 20000 in
theorem ggX9_put_X9_classOfObject : GoodIn wsX9_put wsX9_classOfObject := goodIn_r _ [13, 14, 15, 38, 39, 40, 41, 42, 43, 44, 45, 46, 47] (by decide +kernel) (by decide +kernel)
set_option maxRecDepth 20000 in
theorem gX9_put_X9_classOfObject : GoodIn wsX9_put (wsV RX9 154 RX9 yX9_classOfObject wsX9_classOfObject) := goodIn_app (goodIn_of _ (by decide +kernel)) ggX9_put_X9_classOfObject
set_option maxRecDepth 20000 in
theorem ggX9_put_X7_hasPlace : GoodIn wsX9_put wsX7_hasPlace := goodIn_r _ [20, 21, 36, 37] (by decide +kernel) (by decide +kernel)
set_option maxRecDepth 20000 in
theorem gX9_put_X7_hasPlace : GoodIn wsX9_put (wsV RX9 171 RX7 yX7_hasPlace wsX7_hasPlace) := goodIn_app (goodIn_of _ (by decide +kernel)) ggX9_put_X7_hasPlace
