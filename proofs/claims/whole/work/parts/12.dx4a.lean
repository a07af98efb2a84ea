set_option maxRecDepth 20000 in
theorem ggX4_init_X6_init : GoodIn wsX4_init wsX6_init := goodIn_r _ [14, 15, 2, 3, 16, 17, 18, 19, 20, 21] (by decide +kernel) (by decide +kernel)
set_option maxRecDepth 20000 in
theorem gX4_init_X6_init_n11 : GoodIn wsX4_init (wsX6_init) := ggX4_init_X6_init
theorem dX4_init_0 : decode cX4_init 0 = .ok (.aload_n 0, 1) := by decide +kernel
theorem dX4_init_1 : decode cX4_init 1 = .ok (.invokespecial 3, 3) := by decide +kernel
theorem dX4_init_4 : decode cX4_init 4 = .ok (.aload_n 0, 1) := by decide +kernel
theorem dX4_init_5 : decode cX4_init 5 = .ok (.new 9, 3) := by decide +kernel
theorem dX4_init_8 : decode cX4_init 8 = .ok (.dup, 1) := by decide +kernel
theorem dX4_init_9 : decode cX4_init 9 = .ok (.invokespecial 11, 3) := by decide +kernel
theorem dX4_init_12 : decode cX4_init 12 = .ok (.putfield 12, 3) := by decide +kernel
theorem dX4_init_15 : decode cX4_init 15 = .ok (.aload_n 0, 1) := by decide +kernel
theorem dX4_init_16 : decode cX4_init 16 = .ok (.bipush 40, 2) := by decide +kernel
theorem dX4_init_18 : decode cX4_init 18 = .ok (.anewarray 18, 3) := by decide +kernel
theorem dX4_init_21 : decode cX4_init 21 = .ok (.putfield 20, 3) := by decide +kernel
theorem dX4_init_24 : decode cX4_init 24 = .ok (.aload_n 0, 1) := by decide +kernel
theorem dX4_init_25 : decode cX4_init 25 = .ok (.sipush 321, 3) := by decide +kernel
theorem dX4_init_28 : decode cX4_init 28 = .ok (.anewarray 24, 3) := by decide +kernel
theorem dX4_init_31 : decode cX4_init 31 = .ok (.putfield 26, 3) := by decide +kernel
theorem dX4_init_34 : decode cX4_init 34 = .ok (.aload_n 0, 1) := by decide +kernel
theorem dX4_init_35 : decode cX4_init 35 = .ok (.aload_n 1, 1) := by decide +kernel
theorem dX4_init_36 : decode cX4_init 36 = .ok (.putfield 30, 3) := by decide +kernel
theorem dX4_init_39 : decode cX4_init 39 = .ok (.return_, 1) := by decide +kernel
theorem dX4_classAt_0 : decode cX4_classAt 0 = .ok (.iload_n 1, 1) := by decide +kernel
theorem dX4_classAt_1 : decode cX4_classAt 1 = .ok (.ifCond .lt 20, 3) := by decide +kernel
theorem dX4_classAt_4 : decode cX4_classAt 4 = .ok (.iload_n 1, 1) := by decide +kernel
theorem dX4_classAt_5 : decode cX4_classAt 5 = .ok (.aload_n 0, 1) := by decide +kernel
theorem dX4_classAt_6 : decode cX4_classAt 6 = .ok (.getfield 34, 3) := by decide +kernel
theorem dX4_classAt_9 : decode cX4_classAt 9 = .ok (.if_icmp .ge 12, 3) := by decide +kernel
theorem dX4_classAt_12 : decode cX4_classAt 12 = .ok (.aload_n 0, 1) := by decide +kernel
theorem dX4_classAt_13 : decode cX4_classAt 13 = .ok (.getfield 20, 3) := by decide +kernel
theorem dX4_classAt_16 : decode cX4_classAt 16 = .ok (.iload_n 1, 1) := by decide +kernel
theorem dX4_classAt_17 : decode cX4_classAt 17 = .ok (.aaload, 1) := by decide +kernel
theorem dX4_classAt_18 : decode cX4_classAt 18 = .ok (.goto 4, 3) := by decide +kernel
theorem dX4_classAt_21 : decode cX4_classAt 21 = .ok (.aconst_null, 1) := by decide +kernel
theorem dX4_classAt_22 : decode cX4_classAt 22 = .ok (.areturn, 1) := by decide +kernel
set_option maxRecDepth 20000 in
theorem ggX4_loadBy_X4_open : GoodIn wsX4_loadBy wsX4_open := goodIn_r _ [5, 6, 7, 8, 9, 10, 11, 12, 13, 14, 15, 16, 17, 18, 19, 20, 21, 22, 140, 141, 142, 143, 144, 145, 146, 147, 148, 149] (by decide +kernel) (by decide +kernel)
set_option maxRecDepth 20000 in
theorem gX4_loadBy_X4_open : GoodIn wsX4_loadBy (wsV RX4 38 RX4 yX4_open wsX4_open) := goodIn_app (goodIn_of _ (by decide +kernel)) ggX4_loadBy_X4_open
set_option maxRecDepth 20000 in
theorem ggX4_loadBy_X4_settle : GoodIn wsX4_loadBy wsX4_settle := goodIn_r _ [26, 27, 6, 7, 14, 28, 29, 30, 4, 31, 11, 32, 33, 12, 34, 35, 36, 37, 38, 39, 40, 41, 42, 43, 44, 45, 46, 47, 48, 49, 50, 51, 52, 53, 15, 16, 17, 54, 55, 56, 57, 58, 59, 60, 61, 62, 63, 64, 65, 1, 2, 3, 5, 8, 9, 10, 13, 18, 19, 20, 21, 22, 66, 67, 68, 69, 70, 71, 72, 73, 74, 75, 76, 77, 78, 79, 80, 81, 82, 83, 84, 85, 86, 87, 88, 89, 90, 91, 92, 93, 94, 95, 96, 97, 98, 99, 100, 101, 102, 103, 104, 105, 106, 107, 108, 109, 110, 111, 112, 113, 114, 115, 116, 117, 118, 119, 120, 121, 122, 123, 124, 125, 126, 127, 128, 129, 130, 131, 132, 133, 134, 135, 136, 137, 138, 139, 140, 141, 142, 143, 144, 145, 146, 147, 148, 149, 150, 151, 152, 153, 154, 155, 156, 157, 158, 159, 160, 161, 162, 163, 164, 165, 166, 167, 168, 169, 170, 171, 172, 173, 174, 175] (by decide +kernel) (by decide +kernel)
set_option maxRecDepth 20000 in
theorem gX4_loadBy_X4_settle : GoodIn wsX4_loadBy (wsV RX4 42 RX4 yX4_settle wsX4_settle) := goodIn_app (goodIn_of _ (by decide +kernel)) ggX4_loadBy_X4_settle
theorem dX4_loadBy_0 : decode cX4_loadBy 0 = .ok (.aload_n 0, 1) := by decide +kernel
theorem dX4_loadBy_1 : decode cX4_loadBy 1 = .ok (.aload_n 1, 1) := by decide +kernel
theorem dX4_loadBy_2 : decode cX4_loadBy 2 = .ok (.iload_n 2, 1) := by decide +kernel
theorem dX4_loadBy_3 : decode cX4_loadBy 3 = .ok (.aconst_null, 1) := by decide +kernel
theorem dX4_loadBy_4 : decode cX4_loadBy 4 = .ok (.iconst 0, 1) := by decide +kernel
theorem dX4_loadBy_5 : decode cX4_loadBy 5 = .ok (.invokevirtual 38, 3) := by decide +kernel
theorem dX4_loadBy_8 : decode cX4_loadBy 8 = .ok (.pop, 1) := by decide +kernel
theorem dX4_loadBy_9 : decode cX4_loadBy 9 = .ok (.aload_n 0, 1) := by decide +kernel
theorem dX4_loadBy_10 : decode cX4_loadBy 10 = .ok (.invokevirtual 42, 3) := by decide +kernel
theorem dX4_loadBy_13 : decode cX4_loadBy 13 = .ok (.ireturn, 1) := by decide +kernel
set_option maxRecDepth 20000 in
theorem ggX4_defineBy_X4_open : GoodIn wsX4_defineBy wsX4_open := goodIn_r _ [6, 7, 8, 9, 10, 11, 12, 13, 14, 15, 16, 17, 18, 19, 20, 21, 22, 23, 147, 148, 149, 150, 151, 152, 153, 154, 155, 156] (by decide +kernel) (by decide +kernel)
set_option maxRecDepth 20000 in
theorem gX4_defineBy_X4_open : GoodIn wsX4_defineBy (wsV RX4 38 RX4 yX4_open wsX4_open) := goodIn_app (goodIn_of _ (by decide +kernel)) ggX4_defineBy_X4_open
set_option maxRecDepth 20000 in
theorem ggX4_defineBy_X4_settle : GoodIn wsX4_defineBy wsX4_settle := goodIn_r _ [27, 28, 7, 8, 15, 29, 30, 31, 5, 32, 12, 33, 34, 13, 35, 36, 37, 38, 39, 40, 41, 42, 43, 44, 45, 46, 47, 48, 49, 50, 51, 52, 53, 54, 16, 17, 18, 55, 56, 57, 58, 59, 60, 61, 62, 63, 64, 65, 66, 2, 3, 4, 6, 9, 10, 11, 14, 19, 20, 21, 22, 23, 67, 68, 69, 70, 71, 72, 73, 74, 75, 76, 77, 78, 79, 80, 81, 82, 83, 84, 85, 86, 87, 88, 89, 90, 91, 92, 93, 94, 95, 96, 97, 98, 99, 100, 101, 102, 103, 104, 105, 106, 107, 108, 109, 110, 111, 112, 113, 114, 115, 116, 1, 117, 118, 119, 120, 121, 122, 123, 124, 125, 126, 127, 128, 129, 130, 131, 132, 133, 134, 135, 136, 137, 138, 139, 147, 148, 149, 150, 151, 152, 153, 154, 155, 156, 157, 158, 159, 160, 161, 162, 163, 164, 165, 166, 167, 168, 169, 170, 171, 172, 173, 174, 175, 140, 141, 142, 143, 144, 145, 146] (by decide +kernel) (by decide +kernel)
set_option maxRecDepth 20000 in
theorem gX4_defineBy_X4_settle : GoodIn wsX4_defineBy (wsV RX4 42 RX4 yX4_settle wsX4_settle) := goodIn_app (goodIn_of _ (by decide +kernel)) ggX4_defineBy_X4_settle
theorem dX4_defineBy_0 : decode cX4_defineBy 0 = .ok (.aload_n 0, 1) := by decide +kernel
theorem dX4_defineBy_1 : decode cX4_defineBy 1 = .ok (.aload_n 1, 1) := by decide +kernel
theorem dX4_defineBy_2 : decode cX4_defineBy 2 = .ok (.aload_n 2, 1) := by decide +kernel
theorem dX4_defineBy_3 : decode cX4_defineBy 3 = .ok (.getfield 46, 3) := by decide +kernel
theorem dX4_defineBy_6 : decode cX4_defineBy 6 = .ok (.aload_n 2, 1) := by decide +kernel
theorem dX4_defineBy_7 : decode cX4_defineBy 7 = .ok (.iconst 5, 1) := by decide +kernel
theorem dX4_defineBy_8 : decode cX4_defineBy 8 = .ok (.invokevirtual 38, 3) := by decide +kernel
theorem dX4_defineBy_11 : decode cX4_defineBy 11 = .ok (.pop, 1) := by decide +kernel
theorem dX4_defineBy_12 : decode cX4_defineBy 12 = .ok (.aload_n 0, 1) := by decide +kernel
theorem dX4_defineBy_13 : decode cX4_defineBy 13 = .ok (.invokevirtual 42, 3) := by decide +kernel
theorem dX4_defineBy_16 : decode cX4_defineBy 16 = .ok (.ireturn, 1) := by decide +kernel
set_option maxRecDepth 20000 in
theorem ggX4_settle_X4_begin : GoodIn wsX4_settle wsX4_begin := goodIn_r _ [9, 10, 11, 12, 13, 14, 15, 16, 4, 17, 18, 19, 20, 21, 22, 23, 24, 25, 26, 27, 28, 29, 30, 31, 32, 8, 33, 2, 34, 35, 36, 37, 38, 39, 40, 41, 42, 43, 44, 45, 46, 47, 48, 49, 50, 51, 52, 3, 53, 54, 55, 56, 57, 58, 59, 60, 61, 142, 143, 144, 145, 136, 137, 138, 139, 140, 141, 146, 147, 148, 149, 150, 151, 152, 153, 154, 155, 156, 157, 158, 159, 160, 161, 162] (by decide +kernel) (by decide +kernel)
set_option maxRecDepth 20000 in
theorem gX4_settle_X4_begin : GoodIn wsX4_settle (wsV RX4 58 RX4 yX4_begin wsX4_begin) := goodIn_app (goodIn_of _ (by decide +kernel)) ggX4_settle_X4_begin
set_option maxRecDepth 20000 in
theorem ggX4_settle_X4_takeFromFirstParent : GoodIn wsX4_settle wsX4_takeFromFirstParent := goodIn_r _ [65, 4, 34, 35, 36, 66, 67, 68, 8, 69, 70, 10, 13, 14, 71, 72, 73, 74, 75, 76, 30, 31, 32, 33, 2, 77, 78, 79, 80, 81, 82, 83, 84, 85, 86, 87, 88, 89, 142, 143, 144, 145, 136, 137, 138, 139, 140, 141, 146, 147, 148, 149, 150, 151, 152, 163, 164] (by decide +kernel) (by decide +kernel)
set_option maxRecDepth 20000 in
theorem gX4_settle_X4_takeFromFirstParent : GoodIn wsX4_settle (wsV RX4 62 RX4 yX4_takeFromFirstParent wsX4_takeFromFirstParent) := goodIn_app (goodIn_of _ (by decide +kernel)) ggX4_settle_X4_takeFromFirstParent
set_option maxRecDepth 20000 in
theorem ggX4_settle_X4_takeFromParent : GoodIn wsX4_settle wsX4_takeFromParent := goodIn_r _ [69, 70, 10, 13, 14, 71, 72, 73, 8, 74, 75, 76, 30, 31, 32, 33, 2, 77, 78, 79, 80, 81, 82, 83, 84, 85, 86, 87, 88, 89, 34, 35, 36, 136, 137, 138, 139, 140, 141, 142, 143, 144, 145, 146, 147, 148, 149, 150, 151, 152, 163, 164] (by decide +kernel) (by decide +kernel)
set_option maxRecDepth 20000 in
theorem gX4_settle_X4_takeFromParent : GoodIn wsX4_settle (wsV RX4 66 RX4 yX4_takeFromParent wsX4_takeFromParent) := goodIn_app (goodIn_of _ (by decide +kernel)) ggX4_settle_X4_takeFromParent
set_option maxRecDepth 20000 in
theorem ggX4_settle_X4_tryItselfFirst : GoodIn wsX4_settle wsX4_tryItselfFirst := goodIn_r _ [93, 10, 94, 13, 95, 96, 97, 40, 98, 42, 99, 100, 101, 8, 102, 56, 4, 34, 35, 36, 30, 31, 32, 33, 2, 44, 45, 46, 47, 48, 49, 50, 51, 52, 3, 53, 54, 55, 57, 58, 59, 60, 61, 142, 143, 144, 145, 146, 147, 148, 149, 150, 151, 152, 136, 137, 138, 139, 140, 141] (by decide +kernel) (by decide +kernel)
set_option maxRecDepth 20000 in
theorem gX4_settle_X4_tryItselfFirst : GoodIn wsX4_settle (wsV RX4 69 RX4 yX4_tryItselfFirst wsX4_tryItselfFirst) := goodIn_app (goodIn_of _ (by decide +kernel)) ggX4_settle_X4_tryItselfFirst
set_option maxRecDepth 20000 in
theorem ggX4_settle_X4_tryItself : GoodIn wsX4_settle wsX4_tryItself := goodIn_r _ [102, 10, 94, 13, 56, 4, 34, 35, 36, 30, 31, 32, 8, 33, 2, 142, 143, 144, 145, 146, 147, 148, 149, 150, 151, 152, 136, 137, 138, 139, 140, 141] (by decide +kernel) (by decide +kernel)
set_option maxRecDepth 20000 in
theorem gX4_settle_X4_tryItself : GoodIn wsX4_settle (wsV RX4 72 RX4 yX4_tryItself wsX4_tryItself) := goodIn_app (goodIn_of _ (by decide +kernel)) ggX4_settle_X4_tryItself
set_option maxRecDepth 20000 in
theorem ggX4_settle_X4_beginToDefine : GoodIn wsX4_settle wsX4_beginToDefine := goodIn_r _ [106, 10, 56, 13, 16, 4, 107, 108, 109, 110, 8, 111, 112, 113, 14, 95, 96, 97, 40, 98, 42, 34, 35, 36, 30, 31, 32, 33, 2, 114, 115, 116, 117, 70, 75, 118, 119, 120, 76, 15, 77, 78, 79, 80, 81, 82, 83, 84, 85, 86, 87, 88, 89, 121, 122, 123, 124, 60, 61, 125, 126, 127, 128, 129, 49, 50, 51, 52, 3, 53, 54, 55, 57, 58, 59, 142, 143, 144, 145, 146, 147, 148, 149, 150, 151, 152, 165, 166, 167, 168, 169, 170, 171, 136, 137, 138, 139, 140, 141, 153, 154, 155, 156, 157, 158, 163, 164] (by decide +kernel) (by decide +kernel)
set_option maxRecDepth 20000 in
theorem gX4_settle_X4_beginToDefine : GoodIn wsX4_settle (wsV RX4 75 RX4 yX4_beginToDefine wsX4_beginToDefine) := goodIn_app (goodIn_of _ (by decide +kernel)) ggX4_settle_X4_beginToDefine
set_option maxRecDepth 20000 in
theorem ggX4_settle_X4_takeAbove : GoodIn wsX4_settle wsX4_takeAbove := goodIn_r _ [133, 10, 16, 13, 134, 135, 34, 35, 36, 30, 31, 32, 8, 33, 2, 71, 72, 73, 74, 75, 76, 114, 115, 116, 117, 70, 118, 119, 120, 56, 14, 15, 77, 78, 79, 80, 81, 82, 83, 84, 85, 86, 87, 88, 89, 121, 122, 123, 124, 60, 61, 125, 126, 127, 128, 129, 142, 143, 144, 145, 146, 147, 148, 149, 150, 151, 152, 153, 154, 155, 156, 157, 158, 165, 166, 167, 168, 169, 170, 171, 136, 137, 138, 139, 140, 141, 163, 164] (by decide +kernel) (by decide +kernel)
set_option maxRecDepth 20000 in
theorem gX4_settle_X4_takeAbove : GoodIn wsX4_settle (wsV RX4 78 RX4 yX4_takeAbove wsX4_takeAbove) := goodIn_app (goodIn_of _ (by decide +kernel)) ggX4_settle_X4_takeAbove
theorem dX4_settle_0 : decode cX4_settle 0 = .ok (.iconst (-1), 1) := by decide +kernel
theorem dX4_settle_1 : decode cX4_settle 1 = .ok (.istore_n 1, 1) := by decide +kernel
theorem dX4_settle_2 : decode cX4_settle 2 = .ok (.iconst 0, 1) := by decide +kernel
theorem dX4_settle_3 : decode cX4_settle 3 = .ok (.istore_n 2, 1) := by decide +kernel
theorem dX4_settle_4 : decode cX4_settle 4 = .ok (.iload_n 2, 1) := by decide +kernel
theorem dX4_settle_5 : decode cX4_settle 5 = .ok (.ldc 51, 2) := by decide +kernel
theorem dX4_settle_7 : decode cX4_settle 7 = .ok (.if_icmp .ge 134, 3) := by decide +kernel
theorem dX4_settle_10 : decode cX4_settle 10 = .ok (.aload_n 0, 1) := by decide +kernel
theorem dX4_settle_11 : decode cX4_settle 11 = .ok (.getfield 52, 3) := by decide +kernel
theorem dX4_settle_14 : decode cX4_settle 14 = .ok (.ifCond .le 127, 3) := by decide +kernel
theorem dX4_settle_17 : decode cX4_settle 17 = .ok (.aload_n 0, 1) := by decide +kernel
theorem dX4_settle_18 : decode cX4_settle 18 = .ok (.getfield 26, 3) := by decide +kernel
theorem dX4_settle_21 : decode cX4_settle 21 = .ok (.aload_n 0, 1) := by decide +kernel
theorem dX4_settle_22 : decode cX4_settle 22 = .ok (.getfield 52, 3) := by decide +kernel
theorem dX4_settle_25 : decode cX4_settle 25 = .ok (.iconst 1, 1) := by decide +kernel
theorem dX4_settle_26 : decode cX4_settle 26 = .ok (.isub, 1) := by decide +kernel
theorem dX4_settle_27 : decode cX4_settle 27 = .ok (.aaload, 1) := by decide +kernel
theorem dX4_settle_28 : decode cX4_settle 28 = .ok (.astore_n 3, 1) := by decide +kernel
theorem dX4_settle_29 : decode cX4_settle 29 = .ok (.aload_n 3, 1) := by decide +kernel
theorem dX4_settle_30 : decode cX4_settle 30 = .ok (.getfield 55, 3) := by decide +kernel
theorem dX4_settle_33 : decode cX4_settle 33 = .ok (.tableswitch 95 0 5 #[39, 48, 58, 68, 77, 86], 39) := by decide +kernel
theorem dX4_settle_72 : decode cX4_settle 72 = .ok (.aload_n 0, 1) := by decide +kernel
theorem dX4_settle_73 : decode cX4_settle 73 = .ok (.aload_n 3, 1) := by decide +kernel
theorem dX4_settle_74 : decode cX4_settle 74 = .ok (.invokevirtual 58, 3) := by decide +kernel
theorem dX4_settle_77 : decode cX4_settle 77 = .ok (.istore_n 1, 1) := by decide +kernel
theorem dX4_settle_78 : decode cX4_settle 78 = .ok (.goto 57, 3) := by decide +kernel
theorem dX4_settle_81 : decode cX4_settle 81 = .ok (.aload_n 0, 1) := by decide +kernel
theorem dX4_settle_82 : decode cX4_settle 82 = .ok (.aload_n 3, 1) := by decide +kernel
theorem dX4_settle_83 : decode cX4_settle 83 = .ok (.iload_n 1, 1) := by decide +kernel
theorem dX4_settle_84 : decode cX4_settle 84 = .ok (.invokevirtual 62, 3) := by decide +kernel
theorem dX4_settle_87 : decode cX4_settle 87 = .ok (.istore_n 1, 1) := by decide +kernel
theorem dX4_settle_88 : decode cX4_settle 88 = .ok (.goto 47, 3) := by decide +kernel
theorem dX4_settle_91 : decode cX4_settle 91 = .ok (.aload_n 0, 1) := by decide +kernel
theorem dX4_settle_92 : decode cX4_settle 92 = .ok (.aload_n 3, 1) := by decide +kernel
theorem dX4_settle_93 : decode cX4_settle 93 = .ok (.iload_n 1, 1) := by decide +kernel
theorem dX4_settle_94 : decode cX4_settle 94 = .ok (.invokevirtual 66, 3) := by decide +kernel
theorem dX4_settle_97 : decode cX4_settle 97 = .ok (.istore_n 1, 1) := by decide +kernel
theorem dX4_settle_98 : decode cX4_settle 98 = .ok (.goto 37, 3) := by decide +kernel
theorem dX4_settle_101 : decode cX4_settle 101 = .ok (.aload_n 0, 1) := by decide +kernel
theorem dX4_settle_102 : decode cX4_settle 102 = .ok (.aload_n 3, 1) := by decide +kernel
theorem dX4_settle_103 : decode cX4_settle 103 = .ok (.invokevirtual 69, 3) := by decide +kernel
theorem dX4_settle_106 : decode cX4_settle 106 = .ok (.istore_n 1, 1) := by decide +kernel
theorem dX4_settle_107 : decode cX4_settle 107 = .ok (.goto 28, 3) := by decide +kernel
theorem dX4_settle_110 : decode cX4_settle 110 = .ok (.aload_n 0, 1) := by decide +kernel
theorem dX4_settle_111 : decode cX4_settle 111 = .ok (.aload_n 3, 1) := by decide +kernel
theorem dX4_settle_112 : decode cX4_settle 112 = .ok (.invokevirtual 72, 3) := by decide +kernel
theorem dX4_settle_115 : decode cX4_settle 115 = .ok (.istore_n 1, 1) := by decide +kernel
theorem dX4_settle_116 : decode cX4_settle 116 = .ok (.goto 19, 3) := by decide +kernel
theorem dX4_settle_119 : decode cX4_settle 119 = .ok (.aload_n 0, 1) := by decide +kernel
theorem dX4_settle_120 : decode cX4_settle 120 = .ok (.aload_n 3, 1) := by decide +kernel
theorem dX4_settle_121 : decode cX4_settle 121 = .ok (.invokevirtual 75, 3) := by decide +kernel
theorem dX4_settle_124 : decode cX4_settle 124 = .ok (.istore_n 1, 1) := by decide +kernel
theorem dX4_settle_125 : decode cX4_settle 125 = .ok (.goto 10, 3) := by decide +kernel
theorem dX4_settle_128 : decode cX4_settle 128 = .ok (.aload_n 0, 1) := by decide +kernel
theorem dX4_settle_129 : decode cX4_settle 129 = .ok (.aload_n 3, 1) := by decide +kernel
theorem dX4_settle_130 : decode cX4_settle 130 = .ok (.iload_n 1, 1) := by decide +kernel
theorem dX4_settle_131 : decode cX4_settle 131 = .ok (.invokevirtual 78, 3) := by decide +kernel
theorem dX4_settle_134 : decode cX4_settle 134 = .ok (.istore_n 1, 1) := by decide +kernel
theorem dX4_settle_135 : decode cX4_settle 135 = .ok (.iinc 2 1, 3) := by decide +kernel
theorem dX4_settle_138 : decode cX4_settle 138 = .ok (.goto (-134), 3) := by decide +kernel
theorem dX4_settle_141 : decode cX4_settle 141 = .ok (.iload_n 1, 1) := by decide +kernel
theorem dX4_settle_142 : decode cX4_settle 142 = .ok (.ireturn, 1) := by decide +kernel
set_option maxRecDepth 20000 in
theorem ggX4_open_X9_failed : GoodIn wsX4_open wsX9_failed := goodIn_r _ [12] (by decide +kernel) (by decide +kernel)
set_option maxRecDepth 20000 in
theorem gX4_open_X9_failed_n81 : GoodIn wsX4_open (wsX9_failed) := ggX4_open_X9_failed
set_option maxRecDepth 20000 in
theorem ggX4_open_X8_init : GoodIn wsX4_open wsX8_init := goodIn_r _ [14, 15, 16, 17] (by decide +kernel) (by decide +kernel)
set_option maxRecDepth 20000 in
theorem gX4_open_X8_init_n85 : GoodIn wsX4_open (wsX8_init) := ggX4_open_X8_init
theorem dX4_open_0 : decode cX4_open 0 = .ok (.aload_n 0, 1) := by decide +kernel
theorem dX4_open_1 : decode cX4_open 1 = .ok (.getfield 52, 3) := by decide +kernel
theorem dX4_open_4 : decode cX4_open 4 = .ok (.sipush 321, 3) := by decide +kernel
theorem dX4_open_7 : decode cX4_open 7 = .ok (.if_icmp .lt 9, 3) := by decide +kernel
theorem dX4_open_10 : decode cX4_open 10 = .ok (.bipush 6, 2) := by decide +kernel
theorem dX4_open_12 : decode cX4_open 12 = .ok (.invokestatic 81, 3) := by decide +kernel
theorem dX4_open_15 : decode cX4_open 15 = .ok (.ireturn, 1) := by decide +kernel
theorem dX4_open_16 : decode cX4_open 16 = .ok (.aload_n 0, 1) := by decide +kernel
theorem dX4_open_17 : decode cX4_open 17 = .ok (.getfield 26, 3) := by decide +kernel
theorem dX4_open_20 : decode cX4_open 20 = .ok (.aload_n 0, 1) := by decide +kernel
theorem dX4_open_21 : decode cX4_open 21 = .ok (.getfield 52, 3) := by decide +kernel
theorem dX4_open_24 : decode cX4_open 24 = .ok (.aaload, 1) := by decide +kernel
theorem dX4_open_25 : decode cX4_open 25 = .ok (.ifnonnull 19, 3) := by decide +kernel
theorem dX4_open_28 : decode cX4_open 28 = .ok (.aload_n 0, 1) := by decide +kernel
theorem dX4_open_29 : decode cX4_open 29 = .ok (.getfield 26, 3) := by decide +kernel
theorem dX4_open_32 : decode cX4_open 32 = .ok (.aload_n 0, 1) := by decide +kernel
theorem dX4_open_33 : decode cX4_open 33 = .ok (.getfield 52, 3) := by decide +kernel
theorem dX4_open_36 : decode cX4_open 36 = .ok (.new 24, 3) := by decide +kernel
theorem dX4_open_39 : decode cX4_open 39 = .ok (.dup, 1) := by decide +kernel
theorem dX4_open_40 : decode cX4_open 40 = .ok (.invokespecial 85, 3) := by decide +kernel
theorem dX4_open_43 : decode cX4_open 43 = .ok (.aastore, 1) := by decide +kernel
theorem dX4_open_44 : decode cX4_open 44 = .ok (.aload_n 0, 1) := by decide +kernel
theorem dX4_open_45 : decode cX4_open 45 = .ok (.getfield 26, 3) := by decide +kernel
theorem dX4_open_48 : decode cX4_open 48 = .ok (.aload_n 0, 1) := by decide +kernel
theorem dX4_open_49 : decode cX4_open 49 = .ok (.dup, 1) := by decide +kernel
theorem dX4_open_50 : decode cX4_open 50 = .ok (.getfield 52, 3) := by decide +kernel
theorem dX4_open_53 : decode cX4_open 53 = .ok (.dup_x1, 1) := by decide +kernel
theorem dX4_open_54 : decode cX4_open 54 = .ok (.iconst 1, 1) := by decide +kernel
theorem dX4_open_55 : decode cX4_open 55 = .ok (.iadd, 1) := by decide +kernel
theorem dX4_open_56 : decode cX4_open 56 = .ok (.putfield 52, 3) := by decide +kernel
theorem dX4_open_59 : decode cX4_open 59 = .ok (.aaload, 1) := by decide +kernel
theorem dX4_open_60 : decode cX4_open 60 = .ok (.astore 5, 2) := by decide +kernel
theorem dX4_open_62 : decode cX4_open 62 = .ok (.aload 5, 2) := by decide +kernel
theorem dX4_open_64 : decode cX4_open 64 = .ok (.aload_n 1, 1) := by decide +kernel
theorem dX4_open_65 : decode cX4_open 65 = .ok (.putfield 86, 3) := by decide +kernel
theorem dX4_open_68 : decode cX4_open 68 = .ok (.aload 5, 2) := by decide +kernel
theorem dX4_open_70 : decode cX4_open 70 = .ok (.iload_n 2, 1) := by decide +kernel
theorem dX4_open_71 : decode cX4_open 71 = .ok (.putfield 90, 3) := by decide +kernel
theorem dX4_open_74 : decode cX4_open 74 = .ok (.aload 5, 2) := by decide +kernel
theorem dX4_open_76 : decode cX4_open 76 = .ok (.aload_n 3, 1) := by decide +kernel
theorem dX4_open_77 : decode cX4_open 77 = .ok (.putfield 91, 3) := by decide +kernel
theorem dX4_open_80 : decode cX4_open 80 = .ok (.aload 5, 2) := by decide +kernel
theorem dX4_open_82 : decode cX4_open 82 = .ok (.iload 4, 2) := by decide +kernel
theorem dX4_open_84 : decode cX4_open 84 = .ok (.putfield 55, 3) := by decide +kernel
theorem dX4_open_87 : decode cX4_open 87 = .ok (.iconst (-1), 1) := by decide +kernel
theorem dX4_open_88 : decode cX4_open 88 = .ok (.ireturn, 1) := by decide +kernel
theorem dX4_end_0 : decode cX4_end 0 = .ok (.aload_n 0, 1) := by decide +kernel
theorem dX4_end_1 : decode cX4_end 1 = .ok (.dup, 1) := by decide +kernel
theorem dX4_end_2 : decode cX4_end 2 = .ok (.getfield 52, 3) := by decide +kernel
theorem dX4_end_5 : decode cX4_end 5 = .ok (.iconst 1, 1) := by decide +kernel
theorem dX4_end_6 : decode cX4_end 6 = .ok (.isub, 1) := by decide +kernel
theorem dX4_end_7 : decode cX4_end 7 = .ok (.putfield 52, 3) := by decide +kernel
theorem dX4_end_10 : decode cX4_end 10 = .ok (.iload_n 1, 1) := by decide +kernel
theorem dX4_end_11 : decode cX4_end 11 = .ok (.ireturn, 1) := by decide +kernel
set_option maxRecDepth 20000 in
theorem ggX4_begin_X6_add : GoodIn wsX4_begin wsX6_add := goodIn_r _ [13, 14, 15, 16, 17, 18, 19, 20, 21, 80, 81, 82, 83] (by decide +kernel) (by decide +kernel)
set_option maxRecDepth 20000 in
theorem gX4_begin_X6_add : GoodIn wsX4_begin (wsV RX4 100 RX6 yX6_add wsX6_add) := goodIn_app (goodIn_of _ (by decide +kernel)) ggX4_begin_X6_add
set_option maxRecDepth 20000 in
theorem ggX4_begin_X4_end : GoodIn wsX4_begin wsX4_end := goodIn_r _ [26, 27, 61, 62, 63, 64, 65, 66] (by decide +kernel) (by decide +kernel)
set_option maxRecDepth 20000 in
theorem gX4_begin_X4_end : GoodIn wsX4_begin (wsV RX4 108 RX4 yX4_end wsX4_end) := goodIn_app (goodIn_of _ (by decide +kernel)) ggX4_begin_X4_end
set_option maxRecDepth 20000 in
theorem ggX4_begin_X9_failed : GoodIn wsX4_begin wsX9_failed := goodIn_r _ [30] (by decide +kernel) (by decide +kernel)
set_option maxRecDepth 20000 in
theorem gX4_begin_X9_failed_n81 : GoodIn wsX4_begin (wsX9_failed) := ggX4_begin_X9_failed
set_option maxRecDepth 20000 in
theorem ggX4_begin_X2_asksParentFirst : GoodIn wsX4_begin wsX2_asksParentFirst := goodIn_r _ [35, 36, 37, 67, 68, 69, 70, 71, 72, 73] (by decide +kernel) (by decide +kernel)
set_option maxRecDepth 20000 in
theorem gX4_begin_X2_asksParentFirst : GoodIn wsX4_begin (wsV RX4 115 RX2 yX2_asksParentFirst wsX2_asksParentFirst) := goodIn_app (goodIn_of _ (by decide +kernel)) ggX4_begin_X2_asksParentFirst
set_option maxRecDepth 20000 in
theorem ggX4_begin_X4_askParent : GoodIn wsX4_begin wsX4_askParent := goodIn_r _ [41, 8, 1, 42, 4, 43, 44, 45, 25, 46, 27, 47, 48, 49, 50, 51, 28, 29, 30, 52, 53, 54, 55, 56, 57, 58, 59, 60, 67, 68, 69, 70, 71, 72, 73, 61, 62, 63, 64, 65, 66] (by decide +kernel) (by decide +kernel)
set_option maxRecDepth 20000 in
theorem gX4_begin_X4_askParent : GoodIn wsX4_begin (wsV RX4 119 RX4 yX4_askParent wsX4_askParent) := goodIn_app (goodIn_of _ (by decide +kernel)) ggX4_begin_X4_askParent
theorem dX4_begin_0 : decode cX4_begin 0 = .ok (.aload_n 1, 1) := by decide +kernel
theorem dX4_begin_1 : decode cX4_begin 1 = .ok (.getfield 86, 3) := by decide +kernel
theorem dX4_begin_4 : decode cX4_begin 4 = .ok (.astore_n 2, 1) := by decide +kernel
theorem dX4_begin_5 : decode cX4_begin 5 = .ok (.aload_n 0, 1) := by decide +kernel
theorem dX4_begin_6 : decode cX4_begin 6 = .ok (.getfield 12, 3) := by decide +kernel
theorem dX4_begin_9 : decode cX4_begin 9 = .ok (.aload_n 2, 1) := by decide +kernel
theorem dX4_begin_10 : decode cX4_begin 10 = .ok (.getfield 95, 3) := by decide +kernel
theorem dX4_begin_13 : decode cX4_begin 13 = .ok (.aload_n 1, 1) := by decide +kernel
theorem dX4_begin_14 : decode cX4_begin 14 = .ok (.getfield 90, 3) := by decide +kernel
theorem dX4_begin_17 : decode cX4_begin 17 = .ok (.invokevirtual 100, 3) := by decide +kernel
theorem dX4_begin_20 : decode cX4_begin 20 = .ok (.aload_n 2, 1) := by decide +kernel
theorem dX4_begin_21 : decode cX4_begin 21 = .ok (.getfield 104, 3) := by decide +kernel
theorem dX4_begin_24 : decode cX4_begin 24 = .ok (.aload_n 1, 1) := by decide +kernel
theorem dX4_begin_25 : decode cX4_begin 25 = .ok (.getfield 90, 3) := by decide +kernel
theorem dX4_begin_28 : decode cX4_begin 28 = .ok (.aaload, 1) := by decide +kernel
theorem dX4_begin_29 : decode cX4_begin 29 = .ok (.astore_n 3, 1) := by decide +kernel
theorem dX4_begin_30 : decode cX4_begin 30 = .ok (.aload_n 3, 1) := by decide +kernel
theorem dX4_begin_31 : decode cX4_begin 31 = .ok (.ifnull 12, 3) := by decide +kernel
theorem dX4_begin_34 : decode cX4_begin 34 = .ok (.aload_n 0, 1) := by decide +kernel
theorem dX4_begin_35 : decode cX4_begin 35 = .ok (.aload_n 3, 1) := by decide +kernel
theorem dX4_begin_36 : decode cX4_begin 36 = .ok (.getfield 107, 3) := by decide +kernel
theorem dX4_begin_39 : decode cX4_begin 39 = .ok (.invokevirtual 108, 3) := by decide +kernel
theorem dX4_begin_42 : decode cX4_begin 42 = .ok (.ireturn, 1) := by decide +kernel
theorem dX4_begin_43 : decode cX4_begin 43 = .ok (.aload_n 2, 1) := by decide +kernel
theorem dX4_begin_44 : decode cX4_begin 44 = .ok (.getfield 111, 3) := by decide +kernel
theorem dX4_begin_47 : decode cX4_begin 47 = .ok (.aload_n 1, 1) := by decide +kernel
theorem dX4_begin_48 : decode cX4_begin 48 = .ok (.getfield 90, 3) := by decide +kernel
theorem dX4_begin_51 : decode cX4_begin 51 = .ok (.baload, 1) := by decide +kernel
theorem dX4_begin_52 : decode cX4_begin 52 = .ok (.ifCond .eq 13, 3) := by decide +kernel
theorem dX4_begin_55 : decode cX4_begin 55 = .ok (.aload_n 0, 1) := by decide +kernel
theorem dX4_begin_56 : decode cX4_begin 56 = .ok (.bipush 6, 2) := by decide +kernel
theorem dX4_begin_58 : decode cX4_begin 58 = .ok (.invokestatic 81, 3) := by decide +kernel
theorem dX4_begin_61 : decode cX4_begin 61 = .ok (.invokevirtual 108, 3) := by decide +kernel
theorem dX4_begin_64 : decode cX4_begin 64 = .ok (.ireturn, 1) := by decide +kernel
theorem dX4_begin_65 : decode cX4_begin 65 = .ok (.aload_n 2, 1) := by decide +kernel
theorem dX4_begin_66 : decode cX4_begin 66 = .ok (.aload_n 1, 1) := by decide +kernel
theorem dX4_begin_67 : decode cX4_begin 67 = .ok (.getfield 90, 3) := by decide +kernel
theorem dX4_begin_70 : decode cX4_begin 70 = .ok (.invokevirtual 115, 3) := by decide +kernel
theorem dX4_begin_73 : decode cX4_begin 73 = .ok (.ifCond .eq 10, 3) := by decide +kernel
theorem dX4_begin_76 : decode cX4_begin 76 = .ok (.aload_n 0, 1) := by decide +kernel
theorem dX4_begin_77 : decode cX4_begin 77 = .ok (.aload_n 1, 1) := by decide +kernel
theorem dX4_begin_78 : decode cX4_begin 78 = .ok (.iconst 1, 1) := by decide +kernel
theorem dX4_begin_79 : decode cX4_begin 79 = .ok (.invokevirtual 119, 3) := by decide +kernel
theorem dX4_begin_82 : decode cX4_begin 82 = .ok (.ireturn, 1) := by decide +kernel
theorem dX4_begin_83 : decode cX4_begin 83 = .ok (.aload_n 1, 1) := by decide +kernel
theorem dX4_begin_84 : decode cX4_begin 84 = .ok (.iconst 3, 1) := by decide +kernel
theorem dX4_begin_85 : decode cX4_begin 85 = .ok (.putfield 55, 3) := by decide +kernel
theorem dX4_begin_88 : decode cX4_begin 88 = .ok (.iconst (-1), 1) := by decide +kernel
theorem dX4_begin_89 : decode cX4_begin 89 = .ok (.ireturn, 1) := by decide +kernel
set_option maxRecDepth 20000 in
theorem ggX4_askParent_X4_open : GoodIn wsX4_askParent wsX4_open := goodIn_r _ [9, 10, 11, 12, 13, 14, 2, 4, 15, 1, 16, 17, 18, 19, 20, 21, 22, 23, 35, 36, 37, 38, 39, 40, 24, 25, 26, 27] (by decide +kernel) (by decide +kernel)
set_option maxRecDepth 20000 in
theorem gX4_askParent_X4_open : GoodIn wsX4_askParent (wsV RX4 38 RX4 yX4_open wsX4_open) := goodIn_app (goodIn_of _ (by decide +kernel)) ggX4_askParent_X4_open
theorem dX4_askParent_0 : decode cX4_askParent 0 = .ok (.aload_n 1, 1) := by decide +kernel
theorem dX4_askParent_1 : decode cX4_askParent 1 = .ok (.iload_n 2, 1) := by decide +kernel
theorem dX4_askParent_2 : decode cX4_askParent 2 = .ok (.putfield 55, 3) := by decide +kernel
theorem dX4_askParent_5 : decode cX4_askParent 5 = .ok (.aload_n 0, 1) := by decide +kernel
theorem dX4_askParent_6 : decode cX4_askParent 6 = .ok (.aload_n 1, 1) := by decide +kernel
theorem dX4_askParent_7 : decode cX4_askParent 7 = .ok (.getfield 86, 3) := by decide +kernel
theorem dX4_askParent_10 : decode cX4_askParent 10 = .ok (.getfield 122, 3) := by decide +kernel
theorem dX4_askParent_13 : decode cX4_askParent 13 = .ok (.aload_n 1, 1) := by decide +kernel
theorem dX4_askParent_14 : decode cX4_askParent 14 = .ok (.getfield 90, 3) := by decide +kernel
theorem dX4_askParent_17 : decode cX4_askParent 17 = .ok (.aconst_null, 1) := by decide +kernel
theorem dX4_askParent_18 : decode cX4_askParent 18 = .ok (.iconst 0, 1) := by decide +kernel
theorem dX4_askParent_19 : decode cX4_askParent 19 = .ok (.invokevirtual 38, 3) := by decide +kernel
theorem dX4_askParent_22 : decode cX4_askParent 22 = .ok (.ireturn, 1) := by decide +kernel
set_option maxRecDepth 20000 in
theorem ggX4_takeFromFirstParent_X9_failed : GoodIn wsX4_takeFromFirstParent wsX9_failed := goodIn_r _ [4] (by decide +kernel) (by decide +kernel)
set_option maxRecDepth 20000 in
theorem gX4_takeFromFirstParent_X9_failed_n81 : GoodIn wsX4_takeFromFirstParent (wsX9_failed) := ggX4_takeFromFirstParent_X9_failed
set_option maxRecDepth 20000 in
theorem ggX4_takeFromFirstParent_X4_takeFromParent : GoodIn wsX4_takeFromFirstParent wsX4_takeFromParent := goodIn_r _ [9, 10, 11, 12, 13, 14, 15, 16, 8, 17, 18, 19, 20, 21, 22, 23, 24, 25, 26, 27, 28, 29, 30, 31, 32, 33, 34, 35, 36, 37, 2, 3, 4, 42, 43, 44, 45, 46, 47, 38, 39, 40, 41, 48, 49, 50, 51, 52, 53, 54, 55, 56] (by decide +kernel) (by decide +kernel)
set_option maxRecDepth 20000 in
theorem gX4_takeFromFirstParent_X4_takeFromParent : GoodIn wsX4_takeFromFirstParent (wsV RX4 66 RX4 yX4_takeFromParent wsX4_takeFromParent) := goodIn_app (goodIn_of _ (by decide +kernel)) ggX4_takeFromFirstParent_X4_takeFromParent
theorem dX4_takeFromFirstParent_0 : decode cX4_takeFromFirstParent 0 = .ok (.iload_n 2, 1) := by decide +kernel
theorem dX4_takeFromFirstParent_1 : decode cX4_takeFromFirstParent 1 = .ok (.iconst 1, 1) := by decide +kernel
theorem dX4_takeFromFirstParent_2 : decode cX4_takeFromFirstParent 2 = .ok (.invokestatic 81, 3) := by decide +kernel
theorem dX4_takeFromFirstParent_5 : decode cX4_takeFromFirstParent 5 = .ok (.if_icmp .eq 10, 3) := by decide +kernel
theorem dX4_takeFromFirstParent_8 : decode cX4_takeFromFirstParent 8 = .ok (.aload_n 0, 1) := by decide +kernel
theorem dX4_takeFromFirstParent_9 : decode cX4_takeFromFirstParent 9 = .ok (.aload_n 1, 1) := by decide +kernel
theorem dX4_takeFromFirstParent_10 : decode cX4_takeFromFirstParent 10 = .ok (.iload_n 2, 1) := by decide +kernel
theorem dX4_takeFromFirstParent_11 : decode cX4_takeFromFirstParent 11 = .ok (.invokevirtual 66, 3) := by decide +kernel
theorem dX4_takeFromFirstParent_14 : decode cX4_takeFromFirstParent 14 = .ok (.ireturn, 1) := by decide +kernel
theorem dX4_takeFromFirstParent_15 : decode cX4_takeFromFirstParent 15 = .ok (.aload_n 1, 1) := by decide +kernel
theorem dX4_takeFromFirstParent_16 : decode cX4_takeFromFirstParent 16 = .ok (.iconst 4, 1) := by decide +kernel
theorem dX4_takeFromFirstParent_17 : decode cX4_takeFromFirstParent 17 = .ok (.putfield 55, 3) := by decide +kernel
theorem dX4_takeFromFirstParent_20 : decode cX4_takeFromFirstParent 20 = .ok (.iconst (-1), 1) := by decide +kernel
theorem dX4_takeFromFirstParent_21 : decode cX4_takeFromFirstParent 21 = .ok (.ireturn, 1) := by decide +kernel
set_option maxRecDepth 20000 in
theorem ggX4_takeFromParent_X4_classAt : GoodIn wsX4_takeFromParent wsX4_classAt := goodIn_r _ [9, 10, 11, 33, 34, 35, 36, 37, 38] (by decide +kernel) (by decide +kernel)
set_option maxRecDepth 20000 in
theorem gX4_takeFromParent_X4_classAt : GoodIn wsX4_takeFromParent (wsV RX4 125 RX4 yX4_classAt wsX4_classAt) := goodIn_app (goodIn_of _ (by decide +kernel)) ggX4_takeFromParent_X4_classAt
set_option maxRecDepth 20000 in
theorem ggX4_takeFromParent_X4_end : GoodIn wsX4_takeFromParent wsX4_end := goodIn_r _ [15, 16, 33, 34, 35, 36, 37, 38] (by decide +kernel) (by decide +kernel)
set_option maxRecDepth 20000 in
theorem gX4_takeFromParent_X4_end : GoodIn wsX4_takeFromParent (wsV RX4 108 RX4 yX4_end wsX4_end) := goodIn_app (goodIn_of _ (by decide +kernel)) ggX4_takeFromParent_X4_end
set_option maxRecDepth 20000 in
theorem ggX4_takeFromParent_X3_isBarred : GoodIn wsX4_takeFromParent wsX3_isBarred := goodIn_r _ [21, 22, 23, 24, 25, 20, 26, 27, 28, 29, 43, 44, 45, 46, 47, 48, 49, 50, 51] (by decide +kernel) (by decide +kernel)
set_option maxRecDepth 20000 in
theorem gX4_takeFromParent_X3_isBarred : GoodIn wsX4_takeFromParent (wsV RX4 129 RX3 yX3_isBarred wsX3_isBarred) := goodIn_app (goodIn_of _ (by decide +kernel)) ggX4_takeFromParent_X3_isBarred
set_option maxRecDepth 20000 in
theorem ggX4_takeFromParent_X9_failed : GoodIn wsX4_takeFromParent wsX9_failed := goodIn_r _ [32] (by decide +kernel) (by decide +kernel)
set_option maxRecDepth 20000 in
theorem gX4_takeFromParent_X9_failed_n81 : GoodIn wsX4_takeFromParent (wsX9_failed) := ggX4_takeFromParent_X9_failed
theorem dX4_takeFromParent_0 : decode cX4_takeFromParent 0 = .ok (.aload_n 0, 1) := by decide +kernel
theorem dX4_takeFromParent_1 : decode cX4_takeFromParent 1 = .ok (.iload_n 2, 1) := by decide +kernel
theorem dX4_takeFromParent_2 : decode cX4_takeFromParent 2 = .ok (.invokevirtual 125, 3) := by decide +kernel
theorem dX4_takeFromParent_5 : decode cX4_takeFromParent 5 = .ok (.astore_n 3, 1) := by decide +kernel
theorem dX4_takeFromParent_6 : decode cX4_takeFromParent 6 = .ok (.aload_n 3, 1) := by decide +kernel
theorem dX4_takeFromParent_7 : decode cX4_takeFromParent 7 = .ok (.ifnonnull 9, 3) := by decide +kernel
theorem dX4_takeFromParent_10 : decode cX4_takeFromParent 10 = .ok (.aload_n 0, 1) := by decide +kernel
theorem dX4_takeFromParent_11 : decode cX4_takeFromParent 11 = .ok (.iload_n 2, 1) := by decide +kernel
theorem dX4_takeFromParent_12 : decode cX4_takeFromParent 12 = .ok (.invokevirtual 108, 3) := by decide +kernel
theorem dX4_takeFromParent_15 : decode cX4_takeFromParent 15 = .ok (.ireturn, 1) := by decide +kernel
theorem dX4_takeFromParent_16 : decode cX4_takeFromParent 16 = .ok (.aload_n 0, 1) := by decide +kernel
theorem dX4_takeFromParent_17 : decode cX4_takeFromParent 17 = .ok (.getfield 30, 3) := by decide +kernel
theorem dX4_takeFromParent_20 : decode cX4_takeFromParent 20 = .ok (.aload_n 1, 1) := by decide +kernel
theorem dX4_takeFromParent_21 : decode cX4_takeFromParent 21 = .ok (.getfield 86, 3) := by decide +kernel
theorem dX4_takeFromParent_24 : decode cX4_takeFromParent 24 = .ok (.aload_n 1, 1) := by decide +kernel
theorem dX4_takeFromParent_25 : decode cX4_takeFromParent 25 = .ok (.getfield 90, 3) := by decide +kernel
theorem dX4_takeFromParent_28 : decode cX4_takeFromParent 28 = .ok (.aload_n 3, 1) := by decide +kernel
theorem dX4_takeFromParent_29 : decode cX4_takeFromParent 29 = .ok (.invokevirtual 129, 3) := by decide +kernel
theorem dX4_takeFromParent_32 : decode cX4_takeFromParent 32 = .ok (.ifCond .eq 12, 3) := by decide +kernel
theorem dX4_takeFromParent_35 : decode cX4_takeFromParent 35 = .ok (.aload_n 0, 1) := by decide +kernel
theorem dX4_takeFromParent_36 : decode cX4_takeFromParent 36 = .ok (.iconst 3, 1) := by decide +kernel
theorem dX4_takeFromParent_37 : decode cX4_takeFromParent 37 = .ok (.invokestatic 81, 3) := by decide +kernel
theorem dX4_takeFromParent_40 : decode cX4_takeFromParent 40 = .ok (.invokevirtual 108, 3) := by decide +kernel
theorem dX4_takeFromParent_43 : decode cX4_takeFromParent 43 = .ok (.ireturn, 1) := by decide +kernel
theorem dX4_takeFromParent_44 : decode cX4_takeFromParent 44 = .ok (.aload_n 1, 1) := by decide +kernel
theorem dX4_takeFromParent_45 : decode cX4_takeFromParent 45 = .ok (.getfield 86, 3) := by decide +kernel
theorem dX4_takeFromParent_48 : decode cX4_takeFromParent 48 = .ok (.getfield 104, 3) := by decide +kernel
theorem dX4_takeFromParent_51 : decode cX4_takeFromParent 51 = .ok (.aload_n 1, 1) := by decide +kernel
theorem dX4_takeFromParent_52 : decode cX4_takeFromParent 52 = .ok (.getfield 90, 3) := by decide +kernel
theorem dX4_takeFromParent_55 : decode cX4_takeFromParent 55 = .ok (.aload_n 3, 1) := by decide +kernel
theorem dX4_takeFromParent_56 : decode cX4_takeFromParent 56 = .ok (.aastore, 1) := by decide +kernel
theorem dX4_takeFromParent_57 : decode cX4_takeFromParent 57 = .ok (.aload_n 0, 1) := by decide +kernel
theorem dX4_takeFromParent_58 : decode cX4_takeFromParent 58 = .ok (.iload_n 2, 1) := by decide +kernel
theorem dX4_takeFromParent_59 : decode cX4_takeFromParent 59 = .ok (.invokevirtual 108, 3) := by decide +kernel
theorem dX4_takeFromParent_62 : decode cX4_takeFromParent 62 = .ok (.ireturn, 1) := by decide +kernel
set_option maxRecDepth 20000 in
theorem ggX4_tryItselfFirst_X2_isMachine : GoodIn wsX4_tryItselfFirst wsX2_isMachine := goodIn_r _ [8, 9, 47, 48, 49, 50, 51, 52, 53] (by decide +kernel) (by decide +kernel)
set_option maxRecDepth 20000 in
theorem gX4_tryItselfFirst_X2_isMachine : GoodIn wsX4_tryItselfFirst (wsV RX4 139 RX2 yX2_isMachine wsX2_isMachine) := goodIn_app (goodIn_of _ (by decide +kernel)) ggX4_tryItselfFirst_X2_isMachine
set_option maxRecDepth 20000 in
theorem ggX4_tryItselfFirst_X4_tryItself : GoodIn wsX4_tryItselfFirst wsX4_tryItself := goodIn_r _ [14, 1, 2, 3, 15, 16, 17, 18, 19, 20, 21, 22, 13, 23, 24, 43, 44, 45, 46, 47, 48, 49, 50, 51, 52, 53, 54, 55, 56, 57, 58, 59] (by decide +kernel) (by decide +kernel)
set_option maxRecDepth 20000 in
theorem gX4_tryItselfFirst_X4_tryItself : GoodIn wsX4_tryItselfFirst (wsV RX4 72 RX4 yX4_tryItself wsX4_tryItself) := goodIn_app (goodIn_of _ (by decide +kernel)) ggX4_tryItselfFirst_X4_tryItself
set_option maxRecDepth 20000 in
theorem ggX4_tryItselfFirst_X4_askParent : GoodIn wsX4_tryItselfFirst wsX4_askParent := goodIn_r _ [28, 16, 1, 29, 3, 30, 31, 32, 13, 33, 24, 34, 35, 36, 37, 15, 17, 18, 19, 38, 39, 40, 41, 42, 43, 44, 45, 46, 47, 48, 49, 50, 51, 52, 53, 54, 55, 56, 57, 58, 59] (by decide +kernel) (by decide +kernel)
set_option maxRecDepth 20000 in
theorem gX4_tryItselfFirst_X4_askParent : GoodIn wsX4_tryItselfFirst (wsV RX4 119 RX4 yX4_askParent wsX4_askParent) := goodIn_app (goodIn_of _ (by decide +kernel)) ggX4_tryItselfFirst_X4_askParent
theorem dX4_tryItselfFirst_0 : decode cX4_tryItselfFirst 0 = .ok (.aload_n 1, 1) := by decide +kernel
theorem dX4_tryItselfFirst_1 : decode cX4_tryItselfFirst 1 = .ok (.getfield 86, 3) := by decide +kernel
theorem dX4_tryItselfFirst_4 : decode cX4_tryItselfFirst 4 = .ok (.getfield 135, 3) := by decide +kernel
theorem dX4_tryItselfFirst_7 : decode cX4_tryItselfFirst 7 = .ok (.aload_n 1, 1) := by decide +kernel
theorem dX4_tryItselfFirst_8 : decode cX4_tryItselfFirst 8 = .ok (.getfield 90, 3) := by decide +kernel
theorem dX4_tryItselfFirst_11 : decode cX4_tryItselfFirst 11 = .ok (.aaload, 1) := by decide +kernel
theorem dX4_tryItselfFirst_12 : decode cX4_tryItselfFirst 12 = .ok (.ifnull 7, 3) := by decide +kernel
theorem dX4_tryItselfFirst_15 : decode cX4_tryItselfFirst 15 = .ok (.iconst 1, 1) := by decide +kernel
theorem dX4_tryItselfFirst_16 : decode cX4_tryItselfFirst 16 = .ok (.goto 4, 3) := by decide +kernel
theorem dX4_tryItselfFirst_19 : decode cX4_tryItselfFirst 19 = .ok (.iconst 0, 1) := by decide +kernel
theorem dX4_tryItselfFirst_20 : decode cX4_tryItselfFirst 20 = .ok (.istore_n 2, 1) := by decide +kernel
theorem dX4_tryItselfFirst_21 : decode cX4_tryItselfFirst 21 = .ok (.iload_n 2, 1) := by decide +kernel
theorem dX4_tryItselfFirst_22 : decode cX4_tryItselfFirst 22 = .ok (.ifCond .ne 13, 3) := by decide +kernel
theorem dX4_tryItselfFirst_25 : decode cX4_tryItselfFirst 25 = .ok (.aload_n 1, 1) := by decide +kernel
theorem dX4_tryItselfFirst_26 : decode cX4_tryItselfFirst 26 = .ok (.getfield 86, 3) := by decide +kernel
theorem dX4_tryItselfFirst_29 : decode cX4_tryItselfFirst 29 = .ok (.invokevirtual 139, 3) := by decide +kernel
theorem dX4_tryItselfFirst_32 : decode cX4_tryItselfFirst 32 = .ok (.ifCond .eq 9, 3) := by decide +kernel
theorem dX4_tryItselfFirst_35 : decode cX4_tryItselfFirst 35 = .ok (.aload_n 0, 1) := by decide +kernel
theorem dX4_tryItselfFirst_36 : decode cX4_tryItselfFirst 36 = .ok (.aload_n 1, 1) := by decide +kernel
theorem dX4_tryItselfFirst_37 : decode cX4_tryItselfFirst 37 = .ok (.invokevirtual 72, 3) := by decide +kernel
theorem dX4_tryItselfFirst_40 : decode cX4_tryItselfFirst 40 = .ok (.ireturn, 1) := by decide +kernel
theorem dX4_tryItselfFirst_41 : decode cX4_tryItselfFirst 41 = .ok (.aload_n 0, 1) := by decide +kernel
theorem dX4_tryItselfFirst_42 : decode cX4_tryItselfFirst 42 = .ok (.aload_n 1, 1) := by decide +kernel
theorem dX4_tryItselfFirst_43 : decode cX4_tryItselfFirst 43 = .ok (.iconst 2, 1) := by decide +kernel
theorem dX4_tryItselfFirst_44 : decode cX4_tryItselfFirst 44 = .ok (.invokevirtual 119, 3) := by decide +kernel
theorem dX4_tryItselfFirst_47 : decode cX4_tryItselfFirst 47 = .ok (.ireturn, 1) := by decide +kernel
set_option maxRecDepth 20000 in
theorem ggX4_tryItself_X9_failed : GoodIn wsX4_tryItself wsX9_failed := goodIn_r _ [8] (by decide +kernel) (by decide +kernel)
set_option maxRecDepth 20000 in
theorem gX4_tryItself_X9_failed_n81 : GoodIn wsX4_tryItself (wsX9_failed) := ggX4_tryItself_X9_failed
set_option maxRecDepth 20000 in
theorem ggX4_tryItself_X4_end : GoodIn wsX4_tryItself wsX4_end := goodIn_r _ [13, 14, 26, 27, 28, 29, 30, 31] (by decide +kernel) (by decide +kernel)
set_option maxRecDepth 20000 in
theorem gX4_tryItself_X4_end : GoodIn wsX4_tryItself (wsV RX4 108 RX4 yX4_end wsX4_end) := goodIn_app (goodIn_of _ (by decide +kernel)) ggX4_tryItself_X4_end
theorem dX4_tryItself_0 : decode cX4_tryItself 0 = .ok (.aload_n 1, 1) := by decide +kernel
theorem dX4_tryItself_1 : decode cX4_tryItself 1 = .ok (.aload_n 1, 1) := by decide +kernel
theorem dX4_tryItself_2 : decode cX4_tryItself 2 = .ok (.getfield 86, 3) := by decide +kernel
theorem dX4_tryItself_5 : decode cX4_tryItself 5 = .ok (.getfield 135, 3) := by decide +kernel
theorem dX4_tryItself_8 : decode cX4_tryItself 8 = .ok (.aload_n 1, 1) := by decide +kernel
theorem dX4_tryItself_9 : decode cX4_tryItself 9 = .ok (.getfield 90, 3) := by decide +kernel
theorem dX4_tryItself_12 : decode cX4_tryItself 12 = .ok (.aaload, 1) := by decide +kernel
theorem dX4_tryItself_13 : decode cX4_tryItself 13 = .ok (.putfield 91, 3) := by decide +kernel
theorem dX4_tryItself_16 : decode cX4_tryItself 16 = .ok (.aload_n 1, 1) := by decide +kernel
theorem dX4_tryItself_17 : decode cX4_tryItself 17 = .ok (.getfield 91, 3) := by decide +kernel
theorem dX4_tryItself_20 : decode cX4_tryItself 20 = .ok (.ifnonnull 12, 3) := by decide +kernel
theorem dX4_tryItself_23 : decode cX4_tryItself 23 = .ok (.aload_n 0, 1) := by decide +kernel
theorem dX4_tryItself_24 : decode cX4_tryItself 24 = .ok (.iconst 1, 1) := by decide +kernel
theorem dX4_tryItself_25 : decode cX4_tryItself 25 = .ok (.invokestatic 81, 3) := by decide +kernel
theorem dX4_tryItself_28 : decode cX4_tryItself 28 = .ok (.invokevirtual 108, 3) := by decide +kernel
theorem dX4_tryItself_31 : decode cX4_tryItself 31 = .ok (.ireturn, 1) := by decide +kernel
theorem dX4_tryItself_32 : decode cX4_tryItself 32 = .ok (.aload_n 1, 1) := by decide +kernel
theorem dX4_tryItself_33 : decode cX4_tryItself 33 = .ok (.iconst 5, 1) := by decide +kernel
theorem dX4_tryItself_34 : decode cX4_tryItself 34 = .ok (.putfield 55, 3) := by decide +kernel
theorem dX4_tryItself_37 : decode cX4_tryItself 37 = .ok (.iconst (-1), 1) := by decide +kernel
theorem dX4_tryItself_38 : decode cX4_tryItself 38 = .ok (.ireturn, 1) := by decide +kernel
set_option maxRecDepth 20000 in
theorem ggX4_beginToDefine_X4_failureAtOnce : GoodIn wsX4_beginToDefine wsX4_failureAtOnce := goodIn_r _ [11, 12, 13, 14, 4, 15, 16, 17, 18, 19, 20, 86, 87, 88, 89, 90, 91, 92, 79, 80, 81, 82, 83, 84, 85] (by decide +kernel) (by decide +kernel)
set_option maxRecDepth 20000 in
theorem gX4_beginToDefine_X4_failureAtOnce : GoodIn wsX4_beginToDefine (wsV RX4 143 RX4 yX4_failureAtOnce wsX4_failureAtOnce) := goodIn_app (goodIn_of _ (by decide +kernel)) ggX4_beginToDefine_X4_failureAtOnce
set_option maxRecDepth 20000 in
theorem ggX4_beginToDefine_X9_failed : GoodIn wsX4_beginToDefine wsX9_failed := goodIn_r _ [23] (by decide +kernel) (by decide +kernel)
set_option maxRecDepth 20000 in
theorem gX4_beginToDefine_X9_failed_n81 : GoodIn wsX4_beginToDefine (wsX9_failed) := ggX4_beginToDefine_X9_failed
set_option maxRecDepth 20000 in
theorem ggX4_beginToDefine_X4_end : GoodIn wsX4_beginToDefine wsX4_end := goodIn_r _ [27, 28, 93, 94, 95, 96, 97, 98] (by decide +kernel) (by decide +kernel)
set_option maxRecDepth 20000 in
theorem gX4_beginToDefine_X4_end : GoodIn wsX4_beginToDefine (wsV RX4 108 RX4 yX4_end wsX4_end) := goodIn_app (goodIn_of _ (by decide +kernel)) ggX4_beginToDefine_X4_end
set_option maxRecDepth 20000 in
theorem ggX4_beginToDefine_X4_finish : GoodIn wsX4_beginToDefine wsX4_finish := goodIn_r _ [32, 33, 1, 3, 34, 35, 36, 37, 2, 38, 14, 39, 40, 41, 42, 43, 44, 45, 46, 47, 48, 49, 50, 51, 52, 21, 22, 23, 24, 25, 26, 10, 27, 28, 53, 54, 55, 56, 57, 58, 59, 60, 61, 62, 63, 93, 94, 95, 96, 97, 98, 75, 76, 77, 78, 99, 100, 101, 102, 103, 104, 79, 80, 81, 82, 83, 84, 85, 105, 106] (by decide +kernel) (by decide +kernel)
set_option maxRecDepth 20000 in
theorem gX4_beginToDefine_X4_finish : GoodIn wsX4_beginToDefine (wsV RX4 147 RX4 yX4_finish wsX4_finish) := goodIn_app (goodIn_of _ (by decide +kernel)) ggX4_beginToDefine_X4_finish
set_option maxRecDepth 20000 in
theorem ggX4_beginToDefine_X4_open : GoodIn wsX4_beginToDefine wsX4_open := goodIn_r _ [67, 28, 68, 69, 70, 71, 1, 3, 2, 5, 21, 22, 23, 72, 73, 74, 57, 58, 93, 94, 95, 96, 97, 98, 75, 76, 77, 78] (by decide +kernel) (by decide +kernel)
set_option maxRecDepth 20000 in
theorem gX4_beginToDefine_X4_open : GoodIn wsX4_beginToDefine (wsV RX4 38 RX4 yX4_open wsX4_open) := goodIn_app (goodIn_of _ (by decide +kernel)) ggX4_beginToDefine_X4_open
theorem dX4_beginToDefine_0 : decode cX4_beginToDefine 0 = .ok (.aload_n 0, 1) := by decide +kernel
theorem dX4_beginToDefine_1 : decode cX4_beginToDefine 1 = .ok (.aload_n 1, 1) := by decide +kernel
theorem dX4_beginToDefine_2 : decode cX4_beginToDefine 2 = .ok (.getfield 86, 3) := by decide +kernel
theorem dX4_beginToDefine_5 : decode cX4_beginToDefine 5 = .ok (.aload_n 1, 1) := by decide +kernel
theorem dX4_beginToDefine_6 : decode cX4_beginToDefine 6 = .ok (.getfield 91, 3) := by decide +kernel
theorem dX4_beginToDefine_9 : decode cX4_beginToDefine 9 = .ok (.invokevirtual 143, 3) := by decide +kernel
theorem dX4_beginToDefine_12 : decode cX4_beginToDefine 12 = .ok (.istore_n 2, 1) := by decide +kernel
theorem dX4_beginToDefine_13 : decode cX4_beginToDefine 13 = .ok (.iload_n 2, 1) := by decide +kernel
theorem dX4_beginToDefine_14 : decode cX4_beginToDefine 14 = .ok (.ifCond .eq 12, 3) := by decide +kernel
theorem dX4_beginToDefine_17 : decode cX4_beginToDefine 17 = .ok (.aload_n 0, 1) := by decide +kernel
theorem dX4_beginToDefine_18 : decode cX4_beginToDefine 18 = .ok (.iload_n 2, 1) := by decide +kernel
theorem dX4_beginToDefine_19 : decode cX4_beginToDefine 19 = .ok (.invokestatic 81, 3) := by decide +kernel
theorem dX4_beginToDefine_22 : decode cX4_beginToDefine 22 = .ok (.invokevirtual 108, 3) := by decide +kernel
theorem dX4_beginToDefine_25 : decode cX4_beginToDefine 25 = .ok (.ireturn, 1) := by decide +kernel
theorem dX4_beginToDefine_26 : decode cX4_beginToDefine 26 = .ok (.aload_n 1, 1) := by decide +kernel
theorem dX4_beginToDefine_27 : decode cX4_beginToDefine 27 = .ok (.getfield 90, 3) := by decide +kernel
theorem dX4_beginToDefine_30 : decode cX4_beginToDefine 30 = .ok (.ifCond .ne 10, 3) := by decide +kernel
theorem dX4_beginToDefine_33 : decode cX4_beginToDefine 33 = .ok (.aload_n 0, 1) := by decide +kernel
theorem dX4_beginToDefine_34 : decode cX4_beginToDefine 34 = .ok (.aload_n 1, 1) := by decide +kernel
theorem dX4_beginToDefine_35 : decode cX4_beginToDefine 35 = .ok (.aconst_null, 1) := by decide +kernel
theorem dX4_beginToDefine_36 : decode cX4_beginToDefine 36 = .ok (.invokevirtual 147, 3) := by decide +kernel
theorem dX4_beginToDefine_39 : decode cX4_beginToDefine 39 = .ok (.ireturn, 1) := by decide +kernel
theorem dX4_beginToDefine_40 : decode cX4_beginToDefine 40 = .ok (.aload_n 1, 1) := by decide +kernel
theorem dX4_beginToDefine_41 : decode cX4_beginToDefine 41 = .ok (.getfield 86, 3) := by decide +kernel
theorem dX4_beginToDefine_44 : decode cX4_beginToDefine 44 = .ok (.getfield 111, 3) := by decide +kernel
theorem dX4_beginToDefine_47 : decode cX4_beginToDefine 47 = .ok (.aload_n 1, 1) := by decide +kernel
theorem dX4_beginToDefine_48 : decode cX4_beginToDefine 48 = .ok (.getfield 90, 3) := by decide +kernel
theorem dX4_beginToDefine_51 : decode cX4_beginToDefine 51 = .ok (.iconst 1, 1) := by decide +kernel
theorem dX4_beginToDefine_52 : decode cX4_beginToDefine 52 = .ok (.bastore, 1) := by decide +kernel
theorem dX4_beginToDefine_53 : decode cX4_beginToDefine 53 = .ok (.aload_n 1, 1) := by decide +kernel
theorem dX4_beginToDefine_54 : decode cX4_beginToDefine 54 = .ok (.bipush 6, 2) := by decide +kernel
theorem dX4_beginToDefine_56 : decode cX4_beginToDefine 56 = .ok (.putfield 55, 3) := by decide +kernel
theorem dX4_beginToDefine_59 : decode cX4_beginToDefine 59 = .ok (.aload_n 0, 1) := by decide +kernel
theorem dX4_beginToDefine_60 : decode cX4_beginToDefine 60 = .ok (.aload_n 1, 1) := by decide +kernel
theorem dX4_beginToDefine_61 : decode cX4_beginToDefine 61 = .ok (.getfield 86, 3) := by decide +kernel
theorem dX4_beginToDefine_64 : decode cX4_beginToDefine 64 = .ok (.aload_n 1, 1) := by decide +kernel
theorem dX4_beginToDefine_65 : decode cX4_beginToDefine 65 = .ok (.getfield 91, 3) := by decide +kernel
theorem dX4_beginToDefine_68 : decode cX4_beginToDefine 68 = .ok (.getfield 151, 3) := by decide +kernel
theorem dX4_beginToDefine_71 : decode cX4_beginToDefine 71 = .ok (.aconst_null, 1) := by decide +kernel
theorem dX4_beginToDefine_72 : decode cX4_beginToDefine 72 = .ok (.iconst 0, 1) := by decide +kernel
theorem dX4_beginToDefine_73 : decode cX4_beginToDefine 73 = .ok (.invokevirtual 38, 3) := by decide +kernel
theorem dX4_beginToDefine_76 : decode cX4_beginToDefine 76 = .ok (.ireturn, 1) := by decide +kernel
set_option maxRecDepth 20000 in
theorem ggX4_failureAtOnce_X2_isMachine : GoodIn wsX4_failureAtOnce wsX2_isMachine := goodIn_r _ [9, 10, 18, 19, 20, 21, 22, 23, 24] (by decide +kernel) (by decide +kernel)
set_option maxRecDepth 20000 in
theorem gX4_failureAtOnce_X2_isMachine : GoodIn wsX4_failureAtOnce (wsV RX4 139 RX2 yX2_isMachine wsX2_isMachine) := goodIn_app (goodIn_of _ (by decide +kernel)) ggX4_failureAtOnce_X2_isMachine
theorem dX4_failureAtOnce_0 : decode cX4_failureAtOnce 0 = .ok (.aload_n 2, 1) := by decide +kernel
theorem dX4_failureAtOnce_1 : decode cX4_failureAtOnce 1 = .ok (.getfield 46, 3) := by decide +kernel
theorem dX4_failureAtOnce_4 : decode cX4_failureAtOnce 4 = .ok (.iconst 5, 1) := by decide +kernel
theorem dX4_failureAtOnce_5 : decode cX4_failureAtOnce 5 = .ok (.if_icmp .ge 12, 3) := by decide +kernel
theorem dX4_failureAtOnce_8 : decode cX4_failureAtOnce 8 = .ok (.aload_n 1, 1) := by decide +kernel
theorem dX4_failureAtOnce_9 : decode cX4_failureAtOnce 9 = .ok (.invokevirtual 139, 3) := by decide +kernel
theorem dX4_failureAtOnce_12 : decode cX4_failureAtOnce 12 = .ok (.ifCond .ne 5, 3) := by decide +kernel
theorem dX4_failureAtOnce_15 : decode cX4_failureAtOnce 15 = .ok (.iconst 4, 1) := by decide +kernel
theorem dX4_failureAtOnce_16 : decode cX4_failureAtOnce 16 = .ok (.ireturn, 1) := by decide +kernel
theorem dX4_failureAtOnce_17 : decode cX4_failureAtOnce 17 = .ok (.aload_n 2, 1) := by decide +kernel
theorem dX4_failureAtOnce_18 : decode cX4_failureAtOnce 18 = .ok (.getfield 154, 3) := by decide +kernel
theorem dX4_failureAtOnce_21 : decode cX4_failureAtOnce 21 = .ok (.aload_n 2, 1) := by decide +kernel
theorem dX4_failureAtOnce_22 : decode cX4_failureAtOnce 22 = .ok (.getfield 46, 3) := by decide +kernel
theorem dX4_failureAtOnce_25 : decode cX4_failureAtOnce 25 = .ok (.if_icmp .eq 5, 3) := by decide +kernel
theorem dX4_failureAtOnce_28 : decode cX4_failureAtOnce 28 = .ok (.iconst 2, 1) := by decide +kernel
theorem dX4_failureAtOnce_29 : decode cX4_failureAtOnce 29 = .ok (.ireturn, 1) := by decide +kernel
theorem dX4_failureAtOnce_30 : decode cX4_failureAtOnce 30 = .ok (.aload_n 1, 1) := by decide +kernel
theorem dX4_failureAtOnce_31 : decode cX4_failureAtOnce 31 = .ok (.getfield 104, 3) := by decide +kernel
theorem dX4_failureAtOnce_34 : decode cX4_failureAtOnce 34 = .ok (.aload_n 2, 1) := by decide +kernel
theorem dX4_failureAtOnce_35 : decode cX4_failureAtOnce 35 = .ok (.getfield 46, 3) := by decide +kernel
theorem dX4_failureAtOnce_38 : decode cX4_failureAtOnce 38 = .ok (.aaload, 1) := by decide +kernel
theorem dX4_failureAtOnce_39 : decode cX4_failureAtOnce 39 = .ok (.ifnull 5, 3) := by decide +kernel
theorem dX4_failureAtOnce_42 : decode cX4_failureAtOnce 42 = .ok (.iconst 3, 1) := by decide +kernel
theorem dX4_failureAtOnce_43 : decode cX4_failureAtOnce 43 = .ok (.ireturn, 1) := by decide +kernel
theorem dX4_failureAtOnce_44 : decode cX4_failureAtOnce 44 = .ok (.aload_n 1, 1) := by decide +kernel
theorem dX4_failureAtOnce_45 : decode cX4_failureAtOnce 45 = .ok (.getfield 111, 3) := by decide +kernel
theorem dX4_failureAtOnce_48 : decode cX4_failureAtOnce 48 = .ok (.aload_n 2, 1) := by decide +kernel
theorem dX4_failureAtOnce_49 : decode cX4_failureAtOnce 49 = .ok (.getfield 46, 3) := by decide +kernel
theorem dX4_failureAtOnce_52 : decode cX4_failureAtOnce 52 = .ok (.baload, 1) := by decide +kernel
theorem dX4_failureAtOnce_53 : decode cX4_failureAtOnce 53 = .ok (.ifCond .eq 8, 3) := by decide +kernel
theorem dX4_failureAtOnce_56 : decode cX4_failureAtOnce 56 = .ok (.bipush 6, 2) := by decide +kernel
theorem dX4_failureAtOnce_58 : decode cX4_failureAtOnce 58 = .ok (.goto 4, 3) := by decide +kernel
theorem dX4_failureAtOnce_61 : decode cX4_failureAtOnce 61 = .ok (.iconst 0, 1) := by decide +kernel
theorem dX4_failureAtOnce_62 : decode cX4_failureAtOnce 62 = .ok (.ireturn, 1) := by decide +kernel
set_option maxRecDepth 20000 in
theorem ggX4_takeAbove_X9_failed : GoodIn wsX4_takeAbove wsX9_failed := goodIn_r _ [8] (by decide +kernel) (by decide +kernel)
set_option maxRecDepth 20000 in
theorem gX4_takeAbove_X9_failed_n81 : GoodIn wsX4_takeAbove (wsX9_failed) := ggX4_takeAbove_X9_failed
set_option maxRecDepth 20000 in
theorem ggX4_takeAbove_X4_end : GoodIn wsX4_takeAbove wsX4_end := goodIn_r _ [13, 14, 80, 81, 82, 83, 84, 85] (by decide +kernel) (by decide +kernel)
set_option maxRecDepth 20000 in
theorem gX4_takeAbove_X4_end : GoodIn wsX4_takeAbove (wsV RX4 108 RX4 yX4_end wsX4_end) := goodIn_app (goodIn_of _ (by decide +kernel)) ggX4_takeAbove_X4_end
set_option maxRecDepth 20000 in
theorem ggX4_takeAbove_X4_classAt : GoodIn wsX4_takeAbove wsX4_classAt := goodIn_r _ [18, 19, 20, 80, 81, 82, 83, 84, 85] (by decide +kernel) (by decide +kernel)
set_option maxRecDepth 20000 in
theorem gX4_takeAbove_X4_classAt : GoodIn wsX4_takeAbove (wsV RX4 125 RX4 yX4_classAt wsX4_classAt) := goodIn_app (goodIn_of _ (by decide +kernel)) ggX4_takeAbove_X4_classAt
set_option maxRecDepth 20000 in
theorem ggX4_takeAbove_X4_finish : GoodIn wsX4_takeAbove wsX4_finish := goodIn_r _ [24, 25, 1, 3, 19, 26, 27, 28, 29, 20, 30, 31, 32, 33, 34, 35, 36, 37, 38, 39, 40, 41, 42, 43, 44, 6, 7, 8, 9, 10, 11, 12, 13, 14, 45, 46, 47, 48, 49, 50, 51, 52, 53, 54, 55, 80, 81, 82, 83, 84, 85, 56, 57, 58, 59, 67, 68, 69, 70, 71, 72, 60, 61, 62, 63, 64, 65, 66, 86, 87] (by decide +kernel) (by decide +kernel)
set_option maxRecDepth 20000 in
theorem gX4_takeAbove_X4_finish : GoodIn wsX4_takeAbove (wsV RX4 147 RX4 yX4_finish wsX4_finish) := goodIn_app (goodIn_of _ (by decide +kernel)) ggX4_takeAbove_X4_finish
theorem dX4_takeAbove_0 : decode cX4_takeAbove 0 = .ok (.aload_n 1, 1) := by decide +kernel
theorem dX4_takeAbove_1 : decode cX4_takeAbove 1 = .ok (.getfield 86, 3) := by decide +kernel
theorem dX4_takeAbove_4 : decode cX4_takeAbove 4 = .ok (.getfield 111, 3) := by decide +kernel
theorem dX4_takeAbove_7 : decode cX4_takeAbove 7 = .ok (.aload_n 1, 1) := by decide +kernel
theorem dX4_takeAbove_8 : decode cX4_takeAbove 8 = .ok (.getfield 90, 3) := by decide +kernel
theorem dX4_takeAbove_11 : decode cX4_takeAbove 11 = .ok (.iconst 0, 1) := by decide +kernel
theorem dX4_takeAbove_12 : decode cX4_takeAbove 12 = .ok (.bastore, 1) := by decide +kernel
theorem dX4_takeAbove_13 : decode cX4_takeAbove 13 = .ok (.iload_n 2, 1) := by decide +kernel
theorem dX4_takeAbove_14 : decode cX4_takeAbove 14 = .ok (.iconst 1, 1) := by decide +kernel
theorem dX4_takeAbove_15 : decode cX4_takeAbove 15 = .ok (.invokestatic 81, 3) := by decide +kernel
theorem dX4_takeAbove_18 : decode cX4_takeAbove 18 = .ok (.if_icmp .ne 12, 3) := by decide +kernel
theorem dX4_takeAbove_21 : decode cX4_takeAbove 21 = .ok (.aload_n 0, 1) := by decide +kernel
theorem dX4_takeAbove_22 : decode cX4_takeAbove 22 = .ok (.iconst 2, 1) := by decide +kernel
theorem dX4_takeAbove_23 : decode cX4_takeAbove 23 = .ok (.invokestatic 81, 3) := by decide +kernel
theorem dX4_takeAbove_26 : decode cX4_takeAbove 26 = .ok (.invokevirtual 108, 3) := by decide +kernel
theorem dX4_takeAbove_29 : decode cX4_takeAbove 29 = .ok (.ireturn, 1) := by decide +kernel
theorem dX4_takeAbove_30 : decode cX4_takeAbove 30 = .ok (.aload_n 0, 1) := by decide +kernel
theorem dX4_takeAbove_31 : decode cX4_takeAbove 31 = .ok (.iload_n 2, 1) := by decide +kernel
theorem dX4_takeAbove_32 : decode cX4_takeAbove 32 = .ok (.invokevirtual 125, 3) := by decide +kernel
theorem dX4_takeAbove_35 : decode cX4_takeAbove 35 = .ok (.astore_n 3, 1) := by decide +kernel
theorem dX4_takeAbove_36 : decode cX4_takeAbove 36 = .ok (.aload_n 3, 1) := by decide +kernel
theorem dX4_takeAbove_37 : decode cX4_takeAbove 37 = .ok (.ifnonnull 9, 3) := by decide +kernel
theorem dX4_takeAbove_40 : decode cX4_takeAbove 40 = .ok (.aload_n 0, 1) := by decide +kernel
theorem dX4_takeAbove_41 : decode cX4_takeAbove 41 = .ok (.iload_n 2, 1) := by decide +kernel
theorem dX4_takeAbove_42 : decode cX4_takeAbove 42 = .ok (.invokevirtual 108, 3) := by decide +kernel
theorem dX4_takeAbove_45 : decode cX4_takeAbove 45 = .ok (.ireturn, 1) := by decide +kernel
theorem dX4_takeAbove_46 : decode cX4_takeAbove 46 = .ok (.aload_n 3, 1) := by decide +kernel
theorem dX4_takeAbove_47 : decode cX4_takeAbove 47 = .ok (.getfield 157, 3) := by decide +kernel
theorem dX4_takeAbove_50 : decode cX4_takeAbove 50 = .ok (.getfield 158, 3) := by decide +kernel
theorem dX4_takeAbove_53 : decode cX4_takeAbove 53 = .ok (.ifCond .eq 13, 3) := by decide +kernel
theorem dX4_takeAbove_56 : decode cX4_takeAbove 56 = .ok (.aload_n 0, 1) := by decide +kernel
theorem dX4_takeAbove_57 : decode cX4_takeAbove 57 = .ok (.bipush 7, 2) := by decide +kernel
theorem dX4_takeAbove_59 : decode cX4_takeAbove 59 = .ok (.invokestatic 81, 3) := by decide +kernel
theorem dX4_takeAbove_62 : decode cX4_takeAbove 62 = .ok (.invokevirtual 108, 3) := by decide +kernel
theorem dX4_takeAbove_65 : decode cX4_takeAbove 65 = .ok (.ireturn, 1) := by decide +kernel
theorem dX4_takeAbove_66 : decode cX4_takeAbove 66 = .ok (.aload_n 0, 1) := by decide +kernel
theorem dX4_takeAbove_67 : decode cX4_takeAbove 67 = .ok (.aload_n 1, 1) := by decide +kernel
theorem dX4_takeAbove_68 : decode cX4_takeAbove 68 = .ok (.aload_n 3, 1) := by decide +kernel
theorem dX4_takeAbove_69 : decode cX4_takeAbove 69 = .ok (.invokevirtual 147, 3) := by decide +kernel
theorem dX4_takeAbove_72 : decode cX4_takeAbove 72 = .ok (.ireturn, 1) := by decide +kernel
set_option maxRecDepth 20000 in
theorem ggX4_finish_X3_isBarred : GoodIn wsX4_finish wsX3_isBarred := goodIn_r _ [16, 17, 18, 19, 20, 15, 21, 22, 23, 24, 61, 62, 63, 64, 65, 66, 67, 68, 69] (by decide +kernel) (by decide +kernel)
set_option maxRecDepth 20000 in
theorem gX4_finish_X3_isBarred : GoodIn wsX4_finish (wsV RX4 129 RX3 yX3_isBarred wsX3_isBarred) := goodIn_app (goodIn_of _ (by decide +kernel)) ggX4_finish_X3_isBarred
set_option maxRecDepth 20000 in
theorem ggX4_finish_X9_failed : GoodIn wsX4_finish wsX9_failed := goodIn_r _ [27] (by decide +kernel) (by decide +kernel)
set_option maxRecDepth 20000 in
theorem gX4_finish_X9_failed_n81 : GoodIn wsX4_finish (wsX9_failed) := ggX4_finish_X9_failed
set_option maxRecDepth 20000 in
theorem ggX4_finish_X4_end : GoodIn wsX4_finish wsX4_end := goodIn_r _ [32, 33, 45, 46, 47, 48, 49, 50] (by decide +kernel) (by decide +kernel)
set_option maxRecDepth 20000 in
theorem gX4_finish_X4_end : GoodIn wsX4_finish (wsV RX4 108 RX4 yX4_end wsX4_end) := goodIn_app (goodIn_of _ (by decide +kernel)) ggX4_finish_X4_end
set_option maxRecDepth 20000 in
theorem ggX4_finish_X5_init : GoodIn wsX4_finish wsX5_init := goodIn_r _ [36, 37, 38, 39, 40, 41, 42, 43, 44, 55, 56, 57, 58, 59, 60] (by decide +kernel) (by decide +kernel)
set_option maxRecDepth 20000 in
theorem gX4_finish_X5_init : GoodIn wsX4_finish (wsX5_init) := ggX4_finish_X5_init
theorem dX4_finish_0 : decode cX4_finish 0 = .ok (.aload_n 0, 1) := by decide +kernel
theorem dX4_finish_1 : decode cX4_finish 1 = .ok (.getfield 30, 3) := by decide +kernel
theorem dX4_finish_4 : decode cX4_finish 4 = .ok (.aload_n 1, 1) := by decide +kernel
theorem dX4_finish_5 : decode cX4_finish 5 = .ok (.getfield 86, 3) := by decide +kernel
theorem dX4_finish_8 : decode cX4_finish 8 = .ok (.aload_n 1, 1) := by decide +kernel
theorem dX4_finish_9 : decode cX4_finish 9 = .ok (.getfield 90, 3) := by decide +kernel
theorem dX4_finish_12 : decode cX4_finish 12 = .ok (.aconst_null, 1) := by decide +kernel
theorem dX4_finish_13 : decode cX4_finish 13 = .ok (.invokevirtual 129, 3) := by decide +kernel
theorem dX4_finish_16 : decode cX4_finish 16 = .ok (.ifCond .eq 12, 3) := by decide +kernel
theorem dX4_finish_19 : decode cX4_finish 19 = .ok (.aload_n 0, 1) := by decide +kernel
theorem dX4_finish_20 : decode cX4_finish 20 = .ok (.iconst 3, 1) := by decide +kernel
theorem dX4_finish_21 : decode cX4_finish 21 = .ok (.invokestatic 81, 3) := by decide +kernel
theorem dX4_finish_24 : decode cX4_finish 24 = .ok (.invokevirtual 108, 3) := by decide +kernel
theorem dX4_finish_27 : decode cX4_finish 27 = .ok (.ireturn, 1) := by decide +kernel
theorem dX4_finish_28 : decode cX4_finish 28 = .ok (.aload_n 0, 1) := by decide +kernel
theorem dX4_finish_29 : decode cX4_finish 29 = .ok (.getfield 34, 3) := by decide +kernel
theorem dX4_finish_32 : decode cX4_finish 32 = .ok (.bipush 40, 2) := by decide +kernel
theorem dX4_finish_34 : decode cX4_finish 34 = .ok (.if_icmp .lt 13, 3) := by decide +kernel
theorem dX4_finish_37 : decode cX4_finish 37 = .ok (.aload_n 0, 1) := by decide +kernel
theorem dX4_finish_38 : decode cX4_finish 38 = .ok (.bipush 12, 2) := by decide +kernel
theorem dX4_finish_40 : decode cX4_finish 40 = .ok (.invokestatic 81, 3) := by decide +kernel
theorem dX4_finish_43 : decode cX4_finish 43 = .ok (.invokevirtual 108, 3) := by decide +kernel
theorem dX4_finish_46 : decode cX4_finish 46 = .ok (.ireturn, 1) := by decide +kernel
theorem dX4_finish_47 : decode cX4_finish 47 = .ok (.new 18, 3) := by decide +kernel
theorem dX4_finish_50 : decode cX4_finish 50 = .ok (.dup, 1) := by decide +kernel
theorem dX4_finish_51 : decode cX4_finish 51 = .ok (.aload_n 0, 1) := by decide +kernel
theorem dX4_finish_52 : decode cX4_finish 52 = .ok (.getfield 34, 3) := by decide +kernel
theorem dX4_finish_55 : decode cX4_finish 55 = .ok (.aload_n 1, 1) := by decide +kernel
theorem dX4_finish_56 : decode cX4_finish 56 = .ok (.getfield 86, 3) := by decide +kernel
theorem dX4_finish_59 : decode cX4_finish 59 = .ok (.aload_n 1, 1) := by decide +kernel
theorem dX4_finish_60 : decode cX4_finish 60 = .ok (.getfield 91, 3) := by decide +kernel
theorem dX4_finish_63 : decode cX4_finish 63 = .ok (.aload_n 2, 1) := by decide +kernel
theorem dX4_finish_64 : decode cX4_finish 64 = .ok (.invokespecial 162, 3) := by decide +kernel
theorem dX4_finish_67 : decode cX4_finish 67 = .ok (.astore_n 3, 1) := by decide +kernel
theorem dX4_finish_68 : decode cX4_finish 68 = .ok (.aload_n 0, 1) := by decide +kernel
theorem dX4_finish_69 : decode cX4_finish 69 = .ok (.getfield 20, 3) := by decide +kernel
theorem dX4_finish_72 : decode cX4_finish 72 = .ok (.aload_n 0, 1) := by decide +kernel
theorem dX4_finish_73 : decode cX4_finish 73 = .ok (.dup, 1) := by decide +kernel
theorem dX4_finish_74 : decode cX4_finish 74 = .ok (.getfield 34, 3) := by decide +kernel
theorem dX4_finish_77 : decode cX4_finish 77 = .ok (.dup_x1, 1) := by decide +kernel
theorem dX4_finish_78 : decode cX4_finish 78 = .ok (.iconst 1, 1) := by decide +kernel
theorem dX4_finish_79 : decode cX4_finish 79 = .ok (.iadd, 1) := by decide +kernel
theorem dX4_finish_80 : decode cX4_finish 80 = .ok (.putfield 34, 3) := by decide +kernel
theorem dX4_finish_83 : decode cX4_finish 83 = .ok (.aload_n 3, 1) := by decide +kernel
theorem dX4_finish_84 : decode cX4_finish 84 = .ok (.aastore, 1) := by decide +kernel
theorem dX4_finish_85 : decode cX4_finish 85 = .ok (.aload_n 1, 1) := by decide +kernel
theorem dX4_finish_86 : decode cX4_finish 86 = .ok (.getfield 86, 3) := by decide +kernel
theorem dX4_finish_89 : decode cX4_finish 89 = .ok (.getfield 104, 3) := by decide +kernel
theorem dX4_finish_92 : decode cX4_finish 92 = .ok (.aload_n 1, 1) := by decide +kernel
theorem dX4_finish_93 : decode cX4_finish 93 = .ok (.getfield 90, 3) := by decide +kernel
theorem dX4_finish_96 : decode cX4_finish 96 = .ok (.aload_n 3, 1) := by decide +kernel
theorem dX4_finish_97 : decode cX4_finish 97 = .ok (.aastore, 1) := by decide +kernel
theorem dX4_finish_98 : decode cX4_finish 98 = .ok (.aload_n 0, 1) := by decide +kernel
theorem dX4_finish_99 : decode cX4_finish 99 = .ok (.aload_n 3, 1) := by decide +kernel
theorem dX4_finish_100 : decode cX4_finish 100 = .ok (.getfield 107, 3) := by decide +kernel
theorem dX4_finish_103 : decode cX4_finish 103 = .ok (.invokevirtual 108, 3) := by decide +kernel
theorem dX4_finish_106 : decode cX4_finish 106 = .ok (.ireturn, 1) := by decide +kernel
