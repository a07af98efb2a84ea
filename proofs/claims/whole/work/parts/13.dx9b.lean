set_option maxRecDepth 20000 in
theorem ggX9_put_X9_failed : GoodIn wsX9_put wsX9_failed := goodIn_r _ [24] (by decide +kernel) (by decide +kernel)
set_option maxRecDepth 20000 in
theorem gX9_put_X9_failed : GoodIn wsX9_put (va_wsS RX9 133 yX9_failed wsX9_failed) := goodIn_app (goodIn_of _ (by decide +kernel)) ggX9_put_X9_failed
set_option maxRecDepth 20000 in
theorem ggX9_put_X9_answered : GoodIn wsX9_put wsX9_answered := goodIn_r _ [28, 29, 38, 39, 40, 41, 42, 43, 44, 45, 46, 47] (by decide +kernel) (by decide +kernel)
set_option maxRecDepth 20000 in
theorem gX9_put_X9_answered : GoodIn wsX9_put (wsV RX9 106 RX9 yX9_answered wsX9_answered) := goodIn_app (goodIn_of _ (by decide +kernel)) ggX9_put_X9_answered
set_option maxRecDepth 20000 in
theorem ggX9_put_X5_isOf : GoodIn wsX9_put wsX5_isOf := goodIn_r _ [34, 35, 48, 49, 50, 51, 52, 53] (by decide +kernel) (by decide +kernel)
set_option maxRecDepth 20000 in
theorem gX9_put_X5_isOf : GoodIn wsX9_put (wsV RX9 157 RX5 yX5_isOf wsX5_isOf) := goodIn_app (goodIn_of _ (by decide +kernel)) ggX9_put_X5_isOf
theorem dX9_put_0 : decode cX9_put 0 = .ok (.aload_n 0, 1) := by decide +kernel
theorem dX9_put_1 : decode cX9_put 1 = .ok (.iload_n 1, 1) := by decide +kernel
theorem dX9_put_2 : decode cX9_put 2 = .ok (.invokevirtual 167, 3) := by decide +kernel
theorem dX9_put_5 : decode cX9_put 5 = .ok (.astore 4, 2) := by decide +kernel
theorem dX9_put_7 : decode cX9_put 7 = .ok (.aload_n 0, 1) := by decide +kernel
theorem dX9_put_8 : decode cX9_put 8 = .ok (.iload_n 3, 1) := by decide +kernel
theorem dX9_put_9 : decode cX9_put 9 = .ok (.invokevirtual 154, 3) := by decide +kernel
theorem dX9_put_12 : decode cX9_put 12 = .ok (.astore 5, 2) := by decide +kernel
theorem dX9_put_14 : decode cX9_put 14 = .ok (.aload 4, 2) := by decide +kernel
theorem dX9_put_16 : decode cX9_put 16 = .ok (.ifnull 13, 3) := by decide +kernel
theorem dX9_put_19 : decode cX9_put 19 = .ok (.aload 5, 2) := by decide +kernel
theorem dX9_put_21 : decode cX9_put 21 = .ok (.ifnonnull 11, 3) := by decide +kernel
theorem dX9_put_24 : decode cX9_put 24 = .ok (.iload_n 3, 1) := by decide +kernel
theorem dX9_put_25 : decode cX9_put 25 = .ok (.iconst (-1), 1) := by decide +kernel
theorem dX9_put_26 : decode cX9_put 26 = .ok (.if_icmp .eq 6, 3) := by decide +kernel
theorem dX9_put_29 : decode cX9_put 29 = .ok (.bipush (-2), 2) := by decide +kernel
theorem dX9_put_31 : decode cX9_put 31 = .ok (.ireturn, 1) := by decide +kernel
theorem dX9_put_32 : decode cX9_put 32 = .ok (.aload 4, 2) := by decide +kernel
theorem dX9_put_34 : decode cX9_put 34 = .ok (.iload_n 2, 1) := by decide +kernel
theorem dX9_put_35 : decode cX9_put 35 = .ok (.invokevirtual 171, 3) := by decide +kernel
theorem dX9_put_38 : decode cX9_put 38 = .ok (.ifCond .ne 13, 3) := by decide +kernel
theorem dX9_put_41 : decode cX9_put 41 = .ok (.aload_n 0, 1) := by decide +kernel
theorem dX9_put_42 : decode cX9_put 42 = .ok (.bipush 11, 2) := by decide +kernel
theorem dX9_put_44 : decode cX9_put 44 = .ok (.invokestatic 133, 3) := by decide +kernel
theorem dX9_put_47 : decode cX9_put 47 = .ok (.invokevirtual 106, 3) := by decide +kernel
theorem dX9_put_50 : decode cX9_put 50 = .ok (.ireturn, 1) := by decide +kernel
theorem dX9_put_51 : decode cX9_put 51 = .ok (.aload 5, 2) := by decide +kernel
theorem dX9_put_53 : decode cX9_put 53 = .ok (.ifnull 26, 3) := by decide +kernel
theorem dX9_put_56 : decode cX9_put 56 = .ok (.aload 5, 2) := by decide +kernel
theorem dX9_put_58 : decode cX9_put 58 = .ok (.aload 4, 2) := by decide +kernel
theorem dX9_put_60 : decode cX9_put 60 = .ok (.getfield 174, 3) := by decide +kernel
theorem dX9_put_63 : decode cX9_put 63 = .ok (.invokevirtual 157, 3) := by decide +kernel
theorem dX9_put_66 : decode cX9_put 66 = .ok (.ifCond .ne 13, 3) := by decide +kernel
theorem dX9_put_69 : decode cX9_put 69 = .ok (.aload_n 0, 1) := by decide +kernel
theorem dX9_put_70 : decode cX9_put 70 = .ok (.bipush 8, 2) := by decide +kernel
theorem dX9_put_72 : decode cX9_put 72 = .ok (.invokestatic 133, 3) := by decide +kernel
theorem dX9_put_75 : decode cX9_put 75 = .ok (.invokevirtual 106, 3) := by decide +kernel
theorem dX9_put_78 : decode cX9_put 78 = .ok (.ireturn, 1) := by decide +kernel
theorem dX9_put_79 : decode cX9_put 79 = .ok (.aload 4, 2) := by decide +kernel
theorem dX9_put_81 : decode cX9_put 81 = .ok (.getfield 178, 3) := by decide +kernel
theorem dX9_put_84 : decode cX9_put 84 = .ok (.iload_n 2, 1) := by decide +kernel
theorem dX9_put_85 : decode cX9_put 85 = .ok (.iload_n 3, 1) := by decide +kernel
theorem dX9_put_86 : decode cX9_put 86 = .ok (.iastore, 1) := by decide +kernel
theorem dX9_put_87 : decode cX9_put 87 = .ok (.iconst 1, 1) := by decide +kernel
theorem dX9_put_88 : decode cX9_put 88 = .ok (.ireturn, 1) := by decide +kernel
set_option maxRecDepth 20000 in
theorem ggX9_get_X9_rowAt : GoodIn wsX9_get wsX9_rowAt := goodIn_r _ [6, 7, 8, 25, 26, 27, 28, 29, 30, 31, 32, 33, 34] (by decide +kernel) (by decide +kernel)
set_option maxRecDepth 20000 in
theorem gX9_get_X9_rowAt : GoodIn wsX9_get (wsV RX9 167 RX9 yX9_rowAt wsX9_rowAt) := goodIn_app (goodIn_of _ (by decide +kernel)) ggX9_get_X9_rowAt
set_option maxRecDepth 20000 in
theorem ggX9_get_X7_hasPlace : GoodIn wsX9_get wsX7_hasPlace := goodIn_r _ [13, 14, 23, 24] (by decide +kernel) (by decide +kernel)
set_option maxRecDepth 20000 in
theorem gX9_get_X7_hasPlace : GoodIn wsX9_get (wsV RX9 171 RX7 yX7_hasPlace wsX7_hasPlace) := goodIn_app (goodIn_of _ (by decide +kernel)) ggX9_get_X7_hasPlace
set_option maxRecDepth 20000 in
theorem ggX9_get_X9_failed : GoodIn wsX9_get wsX9_failed := goodIn_r _ [17] (by decide +kernel) (by decide +kernel)
set_option maxRecDepth 20000 in
theorem gX9_get_X9_failed : GoodIn wsX9_get (va_wsS RX9 133 yX9_failed wsX9_failed) := goodIn_app (goodIn_of _ (by decide +kernel)) ggX9_get_X9_failed
set_option maxRecDepth 20000 in
theorem ggX9_get_X9_answered : GoodIn wsX9_get wsX9_answered := goodIn_r _ [21, 22, 25, 26, 27, 28, 29, 30, 31, 32, 33, 34] (by decide +kernel) (by decide +kernel)
set_option maxRecDepth 20000 in
theorem gX9_get_X9_answered : GoodIn wsX9_get (wsV RX9 106 RX9 yX9_answered wsX9_answered) := goodIn_app (goodIn_of _ (by decide +kernel)) ggX9_get_X9_answered
theorem dX9_get_0 : decode cX9_get 0 = .ok (.aload_n 0, 1) := by decide +kernel
theorem dX9_get_1 : decode cX9_get 1 = .ok (.iload_n 1, 1) := by decide +kernel
theorem dX9_get_2 : decode cX9_get 2 = .ok (.invokevirtual 167, 3) := by decide +kernel
theorem dX9_get_5 : decode cX9_get 5 = .ok (.astore_n 3, 1) := by decide +kernel
theorem dX9_get_6 : decode cX9_get 6 = .ok (.aload_n 3, 1) := by decide +kernel
theorem dX9_get_7 : decode cX9_get 7 = .ok (.ifnonnull 6, 3) := by decide +kernel
theorem dX9_get_10 : decode cX9_get 10 = .ok (.bipush (-2), 2) := by decide +kernel
theorem dX9_get_12 : decode cX9_get 12 = .ok (.ireturn, 1) := by decide +kernel
theorem dX9_get_13 : decode cX9_get 13 = .ok (.aload_n 3, 1) := by decide +kernel
theorem dX9_get_14 : decode cX9_get 14 = .ok (.iload_n 2, 1) := by decide +kernel
theorem dX9_get_15 : decode cX9_get 15 = .ok (.invokevirtual 171, 3) := by decide +kernel
theorem dX9_get_18 : decode cX9_get 18 = .ok (.ifCond .eq 12, 3) := by decide +kernel
theorem dX9_get_21 : decode cX9_get 21 = .ok (.aload_n 3, 1) := by decide +kernel
theorem dX9_get_22 : decode cX9_get 22 = .ok (.getfield 178, 3) := by decide +kernel
theorem dX9_get_25 : decode cX9_get 25 = .ok (.iload_n 2, 1) := by decide +kernel
theorem dX9_get_26 : decode cX9_get 26 = .ok (.iaload, 1) := by decide +kernel
theorem dX9_get_27 : decode cX9_get 27 = .ok (.goto 12, 3) := by decide +kernel
theorem dX9_get_30 : decode cX9_get 30 = .ok (.aload_n 0, 1) := by decide +kernel
theorem dX9_get_31 : decode cX9_get 31 = .ok (.bipush 11, 2) := by decide +kernel
theorem dX9_get_33 : decode cX9_get 33 = .ok (.invokestatic 133, 3) := by decide +kernel
theorem dX9_get_36 : decode cX9_get 36 = .ok (.invokevirtual 106, 3) := by decide +kernel
theorem dX9_get_39 : decode cX9_get 39 = .ok (.ireturn, 1) := by decide +kernel
set_option maxRecDepth 20000 in
theorem ggX9_castRow_X9_rowAt : GoodIn wsX9_castRow wsX9_rowAt := goodIn_r _ [7, 8, 9, 31, 32, 33, 34, 35, 36, 37, 38, 39, 40] (by decide +kernel) (by decide +kernel)
set_option maxRecDepth 20000 in
theorem gX9_castRow_X9_rowAt : GoodIn wsX9_castRow (wsV RX9 167 RX9 yX9_rowAt wsX9_rowAt) := goodIn_app (goodIn_of _ (by decide +kernel)) ggX9_castRow_X9_rowAt
set_option maxRecDepth 20000 in
theorem ggX9_castRow_X4_classAt : GoodIn wsX9_castRow wsX4_classAt := goodIn_r _ [14, 15, 16, 43, 44, 45, 46, 47, 48] (by decide +kernel) (by decide +kernel)
set_option maxRecDepth 20000 in
theorem gX9_castRow_X4_classAt : GoodIn wsX9_castRow (wsV RX9 121 RX4 yX4_classAt wsX4_classAt) := goodIn_app (goodIn_of _ (by decide +kernel)) ggX9_castRow_X4_classAt
set_option maxRecDepth 20000 in
theorem ggX9_castRow_X5_isOf : GoodIn wsX9_castRow wsX5_isOf := goodIn_r _ [21, 22, 49, 50, 51, 52, 53, 54] (by decide +kernel) (by decide +kernel)
set_option maxRecDepth 20000 in
theorem gX9_castRow_X5_isOf : GoodIn wsX9_castRow (wsV RX9 157 RX5 yX5_isOf wsX5_isOf) := goodIn_app (goodIn_of _ (by decide +kernel)) ggX9_castRow_X5_isOf
set_option maxRecDepth 20000 in
theorem ggX9_castRow_X9_failed : GoodIn wsX9_castRow wsX9_failed := goodIn_r _ [25] (by decide +kernel) (by decide +kernel)
set_option maxRecDepth 20000 in
theorem gX9_castRow_X9_failed : GoodIn wsX9_castRow (va_wsS RX9 133 yX9_failed wsX9_failed) := goodIn_app (goodIn_of _ (by decide +kernel)) ggX9_castRow_X9_failed
set_option maxRecDepth 20000 in
theorem ggX9_castRow_X9_answered : GoodIn wsX9_castRow wsX9_answered := goodIn_r _ [29, 30, 31, 32, 33, 34, 35, 36, 37, 38, 39, 40] (by decide +kernel) (by decide +kernel)
set_option maxRecDepth 20000 in
theorem gX9_castRow_X9_answered : GoodIn wsX9_castRow (wsV RX9 106 RX9 yX9_answered wsX9_answered) := goodIn_app (goodIn_of _ (by decide +kernel)) ggX9_castRow_X9_answered
theorem dX9_castRow_0 : decode cX9_castRow 0 = .ok (.aload_n 0, 1) := by decide +kernel
theorem dX9_castRow_1 : decode cX9_castRow 1 = .ok (.iload_n 1, 1) := by decide +kernel
theorem dX9_castRow_2 : decode cX9_castRow 2 = .ok (.invokevirtual 167, 3) := by decide +kernel
theorem dX9_castRow_5 : decode cX9_castRow 5 = .ok (.astore_n 3, 1) := by decide +kernel
theorem dX9_castRow_6 : decode cX9_castRow 6 = .ok (.aload_n 0, 1) := by decide +kernel
theorem dX9_castRow_7 : decode cX9_castRow 7 = .ok (.getfield 29, 3) := by decide +kernel
theorem dX9_castRow_10 : decode cX9_castRow 10 = .ok (.iload_n 2, 1) := by decide +kernel
theorem dX9_castRow_11 : decode cX9_castRow 11 = .ok (.invokevirtual 121, 3) := by decide +kernel
theorem dX9_castRow_14 : decode cX9_castRow 14 = .ok (.astore 4, 2) := by decide +kernel
theorem dX9_castRow_16 : decode cX9_castRow 16 = .ok (.aload_n 3, 1) := by decide +kernel
theorem dX9_castRow_17 : decode cX9_castRow 17 = .ok (.ifnull 8, 3) := by decide +kernel
theorem dX9_castRow_20 : decode cX9_castRow 20 = .ok (.aload 4, 2) := by decide +kernel
theorem dX9_castRow_22 : decode cX9_castRow 22 = .ok (.ifnonnull 6, 3) := by decide +kernel
theorem dX9_castRow_25 : decode cX9_castRow 25 = .ok (.bipush (-2), 2) := by decide +kernel
theorem dX9_castRow_27 : decode cX9_castRow 27 = .ok (.ireturn, 1) := by decide +kernel
theorem dX9_castRow_28 : decode cX9_castRow 28 = .ok (.aload_n 3, 1) := by decide +kernel
theorem dX9_castRow_29 : decode cX9_castRow 29 = .ok (.getfield 174, 3) := by decide +kernel
theorem dX9_castRow_32 : decode cX9_castRow 32 = .ok (.aload 4, 2) := by decide +kernel
theorem dX9_castRow_34 : decode cX9_castRow 34 = .ok (.invokevirtual 157, 3) := by decide +kernel
theorem dX9_castRow_37 : decode cX9_castRow 37 = .ok (.ifCond .eq 7, 3) := by decide +kernel
theorem dX9_castRow_40 : decode cX9_castRow 40 = .ok (.iconst 1, 1) := by decide +kernel
theorem dX9_castRow_41 : decode cX9_castRow 41 = .ok (.goto 11, 3) := by decide +kernel
theorem dX9_castRow_44 : decode cX9_castRow 44 = .ok (.aload_n 0, 1) := by decide +kernel
theorem dX9_castRow_45 : decode cX9_castRow 45 = .ok (.iconst 5, 1) := by decide +kernel
theorem dX9_castRow_46 : decode cX9_castRow 46 = .ok (.invokestatic 133, 3) := by decide +kernel
theorem dX9_castRow_49 : decode cX9_castRow 49 = .ok (.invokevirtual 106, 3) := by decide +kernel
theorem dX9_castRow_52 : decode cX9_castRow 52 = .ok (.ireturn, 1) := by decide +kernel
set_option maxRecDepth 20000 in
theorem ggX9_call_X9_classOfObject : GoodIn wsX9_call wsX9_classOfObject := goodIn_r _ [13, 14, 15, 48, 49, 50, 51, 52, 53, 54, 55, 56, 57] (by decide +kernel) (by decide +kernel)
set_option maxRecDepth 20000 in
theorem gX9_call_X9_classOfObject : GoodIn wsX9_call (wsV RX9 154 RX9 yX9_classOfObject wsX9_classOfObject) := goodIn_app (goodIn_of _ (by decide +kernel)) ggX9_call_X9_classOfObject
set_option maxRecDepth 20000 in
theorem ggX9_call_X9_isMethod : GoodIn wsX9_call wsX9_isMethod := goodIn_r _ [18] (by decide +kernel) (by decide +kernel)
set_option maxRecDepth 20000 in
theorem gX9_call_X9_isMethod : GoodIn wsX9_call (va_wsS RX9 87 yX9_isMethod wsX9_isMethod) := goodIn_app (goodIn_of _ (by decide +kernel)) ggX9_call_X9_isMethod
set_option maxRecDepth 20000 in
theorem ggX9_call_X9_product : GoodIn wsX9_call wsX9_product := goodIn_r _ [21, 6, 22, 23, 45, 46, 47, 32, 33, 34, 35, 36, 37] (by decide +kernel) (by decide +kernel)
set_option maxRecDepth 20000 in
theorem gX9_call_X9_product : GoodIn wsX9_call (va_wsS RX9 190 yX9_product wsX9_product) := goodIn_app (goodIn_of _ (by decide +kernel)) ggX9_call_X9_product
set_option maxRecDepth 20000 in
theorem ggX9_call_X9_failed : GoodIn wsX9_call wsX9_failed := goodIn_r _ [26] (by decide +kernel) (by decide +kernel)
set_option maxRecDepth 20000 in
theorem gX9_call_X9_failed : GoodIn wsX9_call (va_wsS RX9 133 yX9_failed wsX9_failed) := goodIn_app (goodIn_of _ (by decide +kernel)) ggX9_call_X9_failed
set_option maxRecDepth 20000 in
theorem ggX9_call_X9_answered : GoodIn wsX9_call wsX9_answered := goodIn_r _ [30, 31, 48, 49, 50, 51, 52, 53, 54, 55, 56, 57] (by decide +kernel) (by decide +kernel)
set_option maxRecDepth 20000 in
theorem gX9_call_X9_answered : GoodIn wsX9_call (wsV RX9 106 RX9 yX9_answered wsX9_answered) := goodIn_app (goodIn_of _ (by decide +kernel)) ggX9_call_X9_answered
theorem dX9_call_0 : decode cX9_call 0 = .ok (.aload_n 0, 1) := by decide +kernel
theorem dX9_call_1 : decode cX9_call 1 = .ok (.iload_n 1, 1) := by decide +kernel
theorem dX9_call_2 : decode cX9_call 2 = .ok (.invokevirtual 154, 3) := by decide +kernel
theorem dX9_call_5 : decode cX9_call 5 = .ok (.astore 5, 2) := by decide +kernel
theorem dX9_call_7 : decode cX9_call 7 = .ok (.aload 5, 2) := by decide +kernel
theorem dX9_call_9 : decode cX9_call 9 = .ok (.ifnonnull 7, 3) := by decide +kernel
theorem dX9_call_12 : decode cX9_call 12 = .ok (.ldc2_w 143, 3) := by decide +kernel
theorem dX9_call_15 : decode cX9_call 15 = .ok (.lreturn, 1) := by decide +kernel
theorem dX9_call_16 : decode cX9_call 16 = .ok (.iload_n 2, 1) := by decide +kernel
theorem dX9_call_17 : decode cX9_call 17 = .ok (.invokestatic 87, 3) := by decide +kernel
theorem dX9_call_20 : decode cX9_call 20 = .ok (.ifCond .ne 7, 3) := by decide +kernel
theorem dX9_call_23 : decode cX9_call 23 = .ok (.ldc2_w 182, 3) := by decide +kernel
theorem dX9_call_26 : decode cX9_call 26 = .ok (.lreturn, 1) := by decide +kernel
theorem dX9_call_27 : decode cX9_call 27 = .ok (.lconst 0, 1) := by decide +kernel
theorem dX9_call_28 : decode cX9_call 28 = .ok (.lstore 6, 2) := by decide +kernel
theorem dX9_call_30 : decode cX9_call 30 = .ok (.aload 5, 2) := by decide +kernel
theorem dX9_call_32 : decode cX9_call 32 = .ok (.astore 8, 2) := by decide +kernel
theorem dX9_call_34 : decode cX9_call 34 = .ok (.aload 8, 2) := by decide +kernel
theorem dX9_call_36 : decode cX9_call 36 = .ok (.ifnull 64, 3) := by decide +kernel
theorem dX9_call_39 : decode cX9_call 39 = .ok (.aload 8, 2) := by decide +kernel
theorem dX9_call_41 : decode cX9_call 41 = .ok (.getfield 136, 3) := by decide +kernel
theorem dX9_call_44 : decode cX9_call 44 = .ok (.getfield 90, 3) := by decide +kernel
theorem dX9_call_47 : decode cX9_call 47 = .ok (.iload_n 2, 1) := by decide +kernel
theorem dX9_call_48 : decode cX9_call 48 = .ok (.aaload, 1) := by decide +kernel
theorem dX9_call_49 : decode cX9_call 49 = .ok (.astore 9, 2) := by decide +kernel
theorem dX9_call_51 : decode cX9_call 51 = .ok (.aload 9, 2) := by decide +kernel
theorem dX9_call_53 : decode cX9_call 53 = .ok (.ifnonnull 6, 3) := by decide +kernel
theorem dX9_call_56 : decode cX9_call 56 = .ok (.goto 34, 3) := by decide +kernel
theorem dX9_call_59 : decode cX9_call 59 = .ok (.lload 6, 2) := by decide +kernel
theorem dX9_call_61 : decode cX9_call 61 = .ok (.aload 9, 2) := by decide +kernel
theorem dX9_call_63 : decode cX9_call 63 = .ok (.getfield 184, 3) := by decide +kernel
theorem dX9_call_66 : decode cX9_call 66 = .ok (.ladd, 1) := by decide +kernel
theorem dX9_call_67 : decode cX9_call 67 = .ok (.lstore 6, 2) := by decide +kernel
theorem dX9_call_69 : decode cX9_call 69 = .ok (.aload 9, 2) := by decide +kernel
theorem dX9_call_71 : decode cX9_call 71 = .ok (.getfield 187, 3) := by decide +kernel
theorem dX9_call_74 : decode cX9_call 74 = .ok (.iconst 1, 1) := by decide +kernel
theorem dX9_call_75 : decode cX9_call 75 = .ok (.if_icmp .eq 15, 3) := by decide +kernel
theorem dX9_call_78 : decode cX9_call 78 = .ok (.lload 6, 2) := by decide +kernel
theorem dX9_call_80 : decode cX9_call 80 = .ok (.aload 8, 2) := by decide +kernel
theorem dX9_call_82 : decode cX9_call 82 = .ok (.aload 9, 2) := by decide +kernel
theorem dX9_call_84 : decode cX9_call 84 = .ok (.lload_n 3, 1) := by decide +kernel
theorem dX9_call_85 : decode cX9_call 85 = .ok (.invokestatic 190, 3) := by decide +kernel
theorem dX9_call_88 : decode cX9_call 88 = .ok (.ladd, 1) := by decide +kernel
theorem dX9_call_89 : decode cX9_call 89 = .ok (.lreturn, 1) := by decide +kernel
theorem dX9_call_90 : decode cX9_call 90 = .ok (.aload 8, 2) := by decide +kernel
theorem dX9_call_92 : decode cX9_call 92 = .ok (.getfield 194, 3) := by decide +kernel
theorem dX9_call_95 : decode cX9_call 95 = .ok (.astore 8, 2) := by decide +kernel
theorem dX9_call_97 : decode cX9_call 97 = .ok (.goto (-63), 3) := by decide +kernel
theorem dX9_call_100 : decode cX9_call 100 = .ok (.ldc2_w 149, 3) := by decide +kernel
theorem dX9_call_103 : decode cX9_call 103 = .ok (.aload_n 0, 1) := by decide +kernel
theorem dX9_call_104 : decode cX9_call 104 = .ok (.bipush 10, 2) := by decide +kernel
theorem dX9_call_106 : decode cX9_call 106 = .ok (.invokestatic 133, 3) := by decide +kernel
theorem dX9_call_109 : decode cX9_call 109 = .ok (.invokevirtual 106, 3) := by decide +kernel
theorem dX9_call_112 : decode cX9_call 112 = .ok (.i2l, 1) := by decide +kernel
theorem dX9_call_113 : decode cX9_call 113 = .ok (.lsub, 1) := by decide +kernel
theorem dX9_call_114 : decode cX9_call 114 = .ok (.lreturn, 1) := by decide +kernel
set_option maxRecDepth 20000 in
theorem ggX9_about_X4_classAt : GoodIn wsX9_about wsX4_classAt := goodIn_r _ [13, 14, 15, 51, 52, 53, 54, 55, 56] (by decide +kernel) (by decide +kernel)
set_option maxRecDepth 20000 in
theorem gX9_about_X4_classAt : GoodIn wsX9_about (wsV RX9 121 RX4 yX4_classAt wsX4_classAt) := goodIn_app (goodIn_of _ (by decide +kernel)) ggX9_about_X4_classAt
set_option maxRecDepth 20000 in
theorem ggX9_about_X9_numberOf : GoodIn wsX9_about wsX9_numberOf := goodIn_r _ [19, 20, 31, 32, 33, 34, 35, 36] (by decide +kernel) (by decide +kernel)
set_option maxRecDepth 20000 in
theorem gX9_about_X9_numberOf : GoodIn wsX9_about (va_wsS RX9 117 yX9_numberOf wsX9_numberOf) := goodIn_app (goodIn_of _ (by decide +kernel)) ggX9_about_X9_numberOf
theorem dX9_about_0 : decode cX9_about 0 = .ok (.aload_n 0, 1) := by decide +kernel
theorem dX9_about_1 : decode cX9_about 1 = .ok (.getfield 29, 3) := by decide +kernel
theorem dX9_about_4 : decode cX9_about 4 = .ok (.iload_n 1, 1) := by decide +kernel
theorem dX9_about_5 : decode cX9_about 5 = .ok (.invokevirtual 121, 3) := by decide +kernel
theorem dX9_about_8 : decode cX9_about 8 = .ok (.astore_n 3, 1) := by decide +kernel
theorem dX9_about_9 : decode cX9_about 9 = .ok (.aload_n 3, 1) := by decide +kernel
theorem dX9_about_10 : decode cX9_about 10 = .ok (.ifnonnull 6, 3) := by decide +kernel
theorem dX9_about_13 : decode cX9_about 13 = .ok (.bipush (-2), 2) := by decide +kernel
theorem dX9_about_15 : decode cX9_about 15 = .ok (.ireturn, 1) := by decide +kernel
theorem dX9_about_16 : decode cX9_about 16 = .ok (.iload_n 2, 1) := by decide +kernel
theorem dX9_about_17 : decode cX9_about 17 = .ok (.tableswitch 72 0 4 #[35, 43, 51, 59, 67], 35) := by decide +kernel
theorem dX9_about_52 : decode cX9_about 52 = .ok (.aload_n 3, 1) := by decide +kernel
theorem dX9_about_53 : decode cX9_about 53 = .ok (.getfield 136, 3) := by decide +kernel
theorem dX9_about_56 : decode cX9_about 56 = .ok (.getfield 99, 3) := by decide +kernel
theorem dX9_about_59 : decode cX9_about 59 = .ok (.ireturn, 1) := by decide +kernel
theorem dX9_about_60 : decode cX9_about 60 = .ok (.aload_n 3, 1) := by decide +kernel
theorem dX9_about_61 : decode cX9_about 61 = .ok (.getfield 125, 3) := by decide +kernel
theorem dX9_about_64 : decode cX9_about 64 = .ok (.getfield 69, 3) := by decide +kernel
theorem dX9_about_67 : decode cX9_about 67 = .ok (.ireturn, 1) := by decide +kernel
theorem dX9_about_68 : decode cX9_about 68 = .ok (.aload_n 3, 1) := by decide +kernel
theorem dX9_about_69 : decode cX9_about 69 = .ok (.getfield 194, 3) := by decide +kernel
theorem dX9_about_72 : decode cX9_about 72 = .ok (.invokestatic 117, 3) := by decide +kernel
theorem dX9_about_75 : decode cX9_about 75 = .ok (.ireturn, 1) := by decide +kernel
theorem dX9_about_76 : decode cX9_about 76 = .ok (.aload_n 3, 1) := by decide +kernel
theorem dX9_about_77 : decode cX9_about 77 = .ok (.getfield 136, 3) := by decide +kernel
theorem dX9_about_80 : decode cX9_about 80 = .ok (.getfield 197, 3) := by decide +kernel
theorem dX9_about_83 : decode cX9_about 83 = .ok (.ireturn, 1) := by decide +kernel
theorem dX9_about_84 : decode cX9_about 84 = .ok (.aload_n 3, 1) := by decide +kernel
theorem dX9_about_85 : decode cX9_about 85 = .ok (.getfield 198, 3) := by decide +kernel
theorem dX9_about_88 : decode cX9_about 88 = .ok (.ireturn, 1) := by decide +kernel
theorem dX9_about_89 : decode cX9_about 89 = .ok (.bipush (-3), 2) := by decide +kernel
theorem dX9_about_91 : decode cX9_about 91 = .ok (.ireturn, 1) := by decide +kernel
set_option maxRecDepth 20000 in
theorem ggX9_noted_X6_latest : GoodIn wsX9_noted wsX6_latest := goodIn_r _ [7, 8, 9, 10, 27, 28, 29, 30] (by decide +kernel) (by decide +kernel)
set_option maxRecDepth 20000 in
theorem gX9_noted_X6_latest : GoodIn wsX9_noted (wsV RX9 205 RX6 yX6_latest wsX6_latest) := goodIn_app (goodIn_of _ (by decide +kernel)) ggX9_noted_X6_latest
theorem dX9_noted_0 : decode cX9_noted 0 = .ok (.aload_n 0, 1) := by decide +kernel
theorem dX9_noted_1 : decode cX9_noted 1 = .ok (.getfield 29, 3) := by decide +kernel
theorem dX9_noted_4 : decode cX9_noted 4 = .ok (.getfield 201, 3) := by decide +kernel
theorem dX9_noted_7 : decode cX9_noted 7 = .ok (.iload_n 1, 1) := by decide +kernel
theorem dX9_noted_8 : decode cX9_noted 8 = .ok (.invokevirtual 205, 3) := by decide +kernel
theorem dX9_noted_11 : decode cX9_noted 11 = .ok (.ireturn, 1) := by decide +kernel
theorem dX9_told_0 : decode cX9_told 0 = .ok (.iload_n 1, 1) := by decide +kernel
theorem dX9_told_1 : decode cX9_told 1 = .ok (.tableswitch 90 0 6 #[43, 51, 56, 64, 69, 74, 85], 43) := by decide +kernel
theorem dX9_told_44 : decode cX9_told 44 = .ok (.aload_n 0, 1) := by decide +kernel
theorem dX9_told_45 : decode cX9_told 45 = .ok (.getfield 20, 3) := by decide +kernel
theorem dX9_told_48 : decode cX9_told 48 = .ok (.getfield 66, 3) := by decide +kernel
theorem dX9_told_51 : decode cX9_told 51 = .ok (.ireturn, 1) := by decide +kernel
theorem dX9_told_52 : decode cX9_told 52 = .ok (.aload_n 0, 1) := by decide +kernel
theorem dX9_told_53 : decode cX9_told 53 = .ok (.getfield 58, 3) := by decide +kernel
theorem dX9_told_56 : decode cX9_told 56 = .ok (.ireturn, 1) := by decide +kernel
theorem dX9_told_57 : decode cX9_told 57 = .ok (.aload_n 0, 1) := by decide +kernel
theorem dX9_told_58 : decode cX9_told 58 = .ok (.getfield 29, 3) := by decide +kernel
theorem dX9_told_61 : decode cX9_told 61 = .ok (.getfield 210, 3) := by decide +kernel
theorem dX9_told_64 : decode cX9_told 64 = .ok (.ireturn, 1) := by decide +kernel
theorem dX9_told_65 : decode cX9_told 65 = .ok (.aload_n 0, 1) := by decide +kernel
theorem dX9_told_66 : decode cX9_told 66 = .ok (.getfield 151, 3) := by decide +kernel
theorem dX9_told_69 : decode cX9_told 69 = .ok (.ireturn, 1) := by decide +kernel
theorem dX9_told_70 : decode cX9_told 70 = .ok (.aload_n 0, 1) := by decide +kernel
theorem dX9_told_71 : decode cX9_told 71 = .ok (.getfield 161, 3) := by decide +kernel
theorem dX9_told_74 : decode cX9_told 74 = .ok (.ireturn, 1) := by decide +kernel
theorem dX9_told_75 : decode cX9_told 75 = .ok (.aload_n 0, 1) := by decide +kernel
theorem dX9_told_76 : decode cX9_told 76 = .ok (.getfield 29, 3) := by decide +kernel
theorem dX9_told_79 : decode cX9_told 79 = .ok (.getfield 201, 3) := by decide +kernel
theorem dX9_told_82 : decode cX9_told 82 = .ok (.getfield 213, 3) := by decide +kernel
theorem dX9_told_85 : decode cX9_told 85 = .ok (.ireturn, 1) := by decide +kernel
theorem dX9_told_86 : decode cX9_told 86 = .ok (.aload_n 0, 1) := by decide +kernel
theorem dX9_told_87 : decode cX9_told 87 = .ok (.getfield 216, 3) := by decide +kernel
theorem dX9_told_90 : decode cX9_told 90 = .ok (.ireturn, 1) := by decide +kernel
theorem dX9_told_91 : decode cX9_told 91 = .ok (.bipush (-3), 2) := by decide +kernel
theorem dX9_told_93 : decode cX9_told 93 = .ok (.ireturn, 1) := by decide +kernel
theorem dX9_isName_0 : decode cX9_isName 0 = .ok (.iload_n 0, 1) := by decide +kernel
theorem dX9_isName_1 : decode cX9_isName 1 = .ok (.ifCond .lt 13, 3) := by decide +kernel
theorem dX9_isName_4 : decode cX9_isName 4 = .ok (.iload_n 0, 1) := by decide +kernel
theorem dX9_isName_5 : decode cX9_isName 5 = .ok (.bipush 40, 2) := by decide +kernel
theorem dX9_isName_7 : decode cX9_isName 7 = .ok (.if_icmp .ge 7, 3) := by decide +kernel
theorem dX9_isName_10 : decode cX9_isName 10 = .ok (.iconst 1, 1) := by decide +kernel
theorem dX9_isName_11 : decode cX9_isName 11 = .ok (.goto 4, 3) := by decide +kernel
theorem dX9_isName_14 : decode cX9_isName 14 = .ok (.iconst 0, 1) := by decide +kernel
theorem dX9_isName_15 : decode cX9_isName 15 = .ok (.ireturn, 1) := by decide +kernel
theorem dX9_isMethod_0 : decode cX9_isMethod 0 = .ok (.iload_n 0, 1) := by decide +kernel
theorem dX9_isMethod_1 : decode cX9_isMethod 1 = .ok (.ifCond .lt 12, 3) := by decide +kernel
theorem dX9_isMethod_4 : decode cX9_isMethod 4 = .ok (.iload_n 0, 1) := by decide +kernel
theorem dX9_isMethod_5 : decode cX9_isMethod 5 = .ok (.iconst 4, 1) := by decide +kernel
theorem dX9_isMethod_6 : decode cX9_isMethod 6 = .ok (.if_icmp .ge 7, 3) := by decide +kernel
theorem dX9_isMethod_9 : decode cX9_isMethod 9 = .ok (.iconst 1, 1) := by decide +kernel
theorem dX9_isMethod_10 : decode cX9_isMethod 10 = .ok (.goto 4, 3) := by decide +kernel
theorem dX9_isMethod_13 : decode cX9_isMethod 13 = .ok (.iconst 0, 1) := by decide +kernel
theorem dX9_isMethod_14 : decode cX9_isMethod 14 = .ok (.ireturn, 1) := by decide +kernel
theorem dX9_failed_0 : decode cX9_failed 0 = .ok (.bipush (-10), 2) := by decide +kernel
theorem dX9_failed_2 : decode cX9_failed 2 = .ok (.iload_n 0, 1) := by decide +kernel
theorem dX9_failed_3 : decode cX9_failed 3 = .ok (.isub, 1) := by decide +kernel
theorem dX9_failed_4 : decode cX9_failed 4 = .ok (.ireturn, 1) := by decide +kernel
theorem dX9_numberOf_0 : decode cX9_numberOf 0 = .ok (.aload_n 0, 1) := by decide +kernel
theorem dX9_numberOf_1 : decode cX9_numberOf 1 = .ok (.ifnonnull 7, 3) := by decide +kernel
theorem dX9_numberOf_4 : decode cX9_numberOf 4 = .ok (.iconst (-1), 1) := by decide +kernel
theorem dX9_numberOf_5 : decode cX9_numberOf 5 = .ok (.goto 7, 3) := by decide +kernel
theorem dX9_numberOf_8 : decode cX9_numberOf 8 = .ok (.aload_n 0, 1) := by decide +kernel
theorem dX9_numberOf_9 : decode cX9_numberOf 9 = .ok (.getfield 219, 3) := by decide +kernel
theorem dX9_numberOf_12 : decode cX9_numberOf 12 = .ok (.ireturn, 1) := by decide +kernel
theorem dX9_fileAt_0 : decode cX9_fileAt 0 = .ok (.iload_n 1, 1) := by decide +kernel
theorem dX9_fileAt_1 : decode cX9_fileAt 1 = .ok (.ifCond .lt 20, 3) := by decide +kernel
theorem dX9_fileAt_4 : decode cX9_fileAt 4 = .ok (.iload_n 1, 1) := by decide +kernel
theorem dX9_fileAt_5 : decode cX9_fileAt 5 = .ok (.aload_n 0, 1) := by decide +kernel
theorem dX9_fileAt_6 : decode cX9_fileAt 6 = .ok (.getfield 58, 3) := by decide +kernel
theorem dX9_fileAt_9 : decode cX9_fileAt 9 = .ok (.if_icmp .ge 12, 3) := by decide +kernel
theorem dX9_fileAt_12 : decode cX9_fileAt 12 = .ok (.aload_n 0, 1) := by decide +kernel
theorem dX9_fileAt_13 : decode cX9_fileAt 13 = .ok (.getfield 13, 3) := by decide +kernel
theorem dX9_fileAt_16 : decode cX9_fileAt 16 = .ok (.iload_n 1, 1) := by decide +kernel
theorem dX9_fileAt_17 : decode cX9_fileAt 17 = .ok (.aaload, 1) := by decide +kernel
theorem dX9_fileAt_18 : decode cX9_fileAt 18 = .ok (.goto 4, 3) := by decide +kernel
theorem dX9_fileAt_21 : decode cX9_fileAt 21 = .ok (.aconst_null, 1) := by decide +kernel
theorem dX9_fileAt_22 : decode cX9_fileAt 22 = .ok (.areturn, 1) := by decide +kernel
theorem dX9_classOfObject_0 : decode cX9_classOfObject 0 = .ok (.iload_n 1, 1) := by decide +kernel
theorem dX9_classOfObject_1 : decode cX9_classOfObject 1 = .ok (.ifCond .lt 20, 3) := by decide +kernel
theorem dX9_classOfObject_4 : decode cX9_classOfObject 4 = .ok (.iload_n 1, 1) := by decide +kernel
theorem dX9_classOfObject_5 : decode cX9_classOfObject 5 = .ok (.aload_n 0, 1) := by decide +kernel
theorem dX9_classOfObject_6 : decode cX9_classOfObject 6 = .ok (.getfield 151, 3) := by decide +kernel
theorem dX9_classOfObject_9 : decode cX9_classOfObject 9 = .ok (.if_icmp .ge 12, 3) := by decide +kernel
theorem dX9_classOfObject_12 : decode cX9_classOfObject 12 = .ok (.aload_n 0, 1) := by decide +kernel
theorem dX9_classOfObject_13 : decode cX9_classOfObject 13 = .ok (.getfield 35, 3) := by decide +kernel
theorem dX9_classOfObject_16 : decode cX9_classOfObject 16 = .ok (.iload_n 1, 1) := by decide +kernel
theorem dX9_classOfObject_17 : decode cX9_classOfObject 17 = .ok (.aaload, 1) := by decide +kernel
theorem dX9_classOfObject_18 : decode cX9_classOfObject 18 = .ok (.goto 4, 3) := by decide +kernel
theorem dX9_classOfObject_21 : decode cX9_classOfObject 21 = .ok (.aconst_null, 1) := by decide +kernel
theorem dX9_classOfObject_22 : decode cX9_classOfObject 22 = .ok (.areturn, 1) := by decide +kernel
theorem dX9_rowAt_0 : decode cX9_rowAt 0 = .ok (.iload_n 1, 1) := by decide +kernel
theorem dX9_rowAt_1 : decode cX9_rowAt 1 = .ok (.ifCond .lt 20, 3) := by decide +kernel
theorem dX9_rowAt_4 : decode cX9_rowAt 4 = .ok (.iload_n 1, 1) := by decide +kernel
theorem dX9_rowAt_5 : decode cX9_rowAt 5 = .ok (.aload_n 0, 1) := by decide +kernel
theorem dX9_rowAt_6 : decode cX9_rowAt 6 = .ok (.getfield 161, 3) := by decide +kernel
theorem dX9_rowAt_9 : decode cX9_rowAt 9 = .ok (.if_icmp .ge 12, 3) := by decide +kernel
theorem dX9_rowAt_12 : decode cX9_rowAt 12 = .ok (.aload_n 0, 1) := by decide +kernel
theorem dX9_rowAt_13 : decode cX9_rowAt 13 = .ok (.getfield 41, 3) := by decide +kernel
theorem dX9_rowAt_16 : decode cX9_rowAt 16 = .ok (.iload_n 1, 1) := by decide +kernel
theorem dX9_rowAt_17 : decode cX9_rowAt 17 = .ok (.aaload, 1) := by decide +kernel
theorem dX9_rowAt_18 : decode cX9_rowAt 18 = .ok (.goto 4, 3) := by decide +kernel
theorem dX9_rowAt_21 : decode cX9_rowAt 21 = .ok (.aconst_null, 1) := by decide +kernel
theorem dX9_rowAt_22 : decode cX9_rowAt 22 = .ok (.areturn, 1) := by decide +kernel
theorem dX9_answered_0 : decode cX9_answered 0 = .ok (.iload_n 1, 1) := by decide +kernel
theorem dX9_answered_1 : decode cX9_answered 1 = .ok (.bipush (-10), 2) := by decide +kernel
theorem dX9_answered_3 : decode cX9_answered 3 = .ok (.if_icmp .ge 11, 3) := by decide +kernel
theorem dX9_answered_6 : decode cX9_answered 6 = .ok (.aload_n 0, 1) := by decide +kernel
theorem dX9_answered_7 : decode cX9_answered 7 = .ok (.bipush (-10), 2) := by decide +kernel
theorem dX9_answered_9 : decode cX9_answered 9 = .ok (.iload_n 1, 1) := by decide +kernel
theorem dX9_answered_10 : decode cX9_answered 10 = .ok (.isub, 1) := by decide +kernel
theorem dX9_answered_11 : decode cX9_answered 11 = .ok (.putfield 216, 3) := by decide +kernel
theorem dX9_answered_14 : decode cX9_answered 14 = .ok (.iload_n 1, 1) := by decide +kernel
theorem dX9_answered_15 : decode cX9_answered 15 = .ok (.ireturn, 1) := by decide +kernel
set_option maxRecDepth 20000 in
theorem ggX9_started_X5_startAfter : GoodIn wsX9_started wsX5_startAfter := goodIn_r _ [8, 9, 10, 11, 12, 17, 18, 19, 20, 21, 22, 33, 34, 35, 36, 37, 38, 39] (by decide +kernel) (by decide +kernel)
set_option maxRecDepth 20000 in
theorem gX9_started_X5_startAfter : GoodIn wsX9_started (wsV RX9 220 RX5 yX5_startAfter wsX5_startAfter) := goodIn_app (goodIn_of _ (by decide +kernel)) ggX9_started_X5_startAfter
set_option maxRecDepth 20000 in
theorem ggX9_started_X9_failed : GoodIn wsX9_started wsX9_failed := goodIn_r _ [16] (by decide +kernel) (by decide +kernel)
set_option maxRecDepth 20000 in
theorem gX9_started_X9_failed : GoodIn wsX9_started (va_wsS RX9 133 yX9_failed wsX9_failed) := goodIn_app (goodIn_of _ (by decide +kernel)) ggX9_started_X9_failed
theorem dX9_started_0 : decode cX9_started 0 = .ok (.iconst 0, 1) := by decide +kernel
theorem dX9_started_1 : decode cX9_started 1 = .ok (.istore_n 2, 1) := by decide +kernel
theorem dX9_started_2 : decode cX9_started 2 = .ok (.aload_n 1, 1) := by decide +kernel
theorem dX9_started_3 : decode cX9_started 3 = .ok (.astore_n 3, 1) := by decide +kernel
theorem dX9_started_4 : decode cX9_started 4 = .ok (.aload_n 3, 1) := by decide +kernel
theorem dX9_started_5 : decode cX9_started 5 = .ok (.ifnull 34, 3) := by decide +kernel
theorem dX9_started_8 : decode cX9_started 8 = .ok (.aload_n 3, 1) := by decide +kernel
theorem dX9_started_9 : decode cX9_started 9 = .ok (.getfield 198, 3) := by decide +kernel
theorem dX9_started_12 : decode cX9_started 12 = .ok (.ifCond .ne 27, 3) := by decide +kernel
theorem dX9_started_15 : decode cX9_started 15 = .ok (.iload_n 2, 1) := by decide +kernel
theorem dX9_started_16 : decode cX9_started 16 = .ok (.bipush 40, 2) := by decide +kernel
theorem dX9_started_18 : decode cX9_started 18 = .ok (.if_icmp .ge 21, 3) := by decide +kernel
theorem dX9_started_21 : decode cX9_started 21 = .ok (.aload_n 0, 1) := by decide +kernel
theorem dX9_started_22 : decode cX9_started 22 = .ok (.getfield 45, 3) := by decide +kernel
theorem dX9_started_25 : decode cX9_started 25 = .ok (.iload_n 2, 1) := by decide +kernel
theorem dX9_started_26 : decode cX9_started 26 = .ok (.iinc 2 1, 3) := by decide +kernel
theorem dX9_started_29 : decode cX9_started 29 = .ok (.aload_n 3, 1) := by decide +kernel
theorem dX9_started_30 : decode cX9_started 30 = .ok (.aastore, 1) := by decide +kernel
theorem dX9_started_31 : decode cX9_started 31 = .ok (.aload_n 3, 1) := by decide +kernel
theorem dX9_started_32 : decode cX9_started 32 = .ok (.getfield 194, 3) := by decide +kernel
theorem dX9_started_35 : decode cX9_started 35 = .ok (.astore_n 3, 1) := by decide +kernel
theorem dX9_started_36 : decode cX9_started 36 = .ok (.goto (-32), 3) := by decide +kernel
theorem dX9_started_39 : decode cX9_started 39 = .ok (.aload_n 3, 1) := by decide +kernel
theorem dX9_started_40 : decode cX9_started 40 = .ok (.ifnull 15, 3) := by decide +kernel
theorem dX9_started_43 : decode cX9_started 43 = .ok (.aload_n 3, 1) := by decide +kernel
theorem dX9_started_44 : decode cX9_started 44 = .ok (.getfield 198, 3) := by decide +kernel
theorem dX9_started_47 : decode cX9_started 47 = .ok (.iconst 2, 1) := by decide +kernel
theorem dX9_started_48 : decode cX9_started 48 = .ok (.if_icmp .ne 7, 3) := by decide +kernel
theorem dX9_started_51 : decode cX9_started 51 = .ok (.iconst 2, 1) := by decide +kernel
theorem dX9_started_52 : decode cX9_started 52 = .ok (.goto 4, 3) := by decide +kernel
theorem dX9_started_55 : decode cX9_started 55 = .ok (.iconst 0, 1) := by decide +kernel
theorem dX9_started_56 : decode cX9_started 56 = .ok (.istore 4, 2) := by decide +kernel
theorem dX9_started_58 : decode cX9_started 58 = .ok (.iload_n 2, 1) := by decide +kernel
theorem dX9_started_59 : decode cX9_started 59 = .ok (.iconst 1, 1) := by decide +kernel
theorem dX9_started_60 : decode cX9_started 60 = .ok (.isub, 1) := by decide +kernel
theorem dX9_started_61 : decode cX9_started 61 = .ok (.istore 5, 2) := by decide +kernel
theorem dX9_started_63 : decode cX9_started 63 = .ok (.iload 5, 2) := by decide +kernel
theorem dX9_started_65 : decode cX9_started 65 = .ok (.ifCond .lt 23, 3) := by decide +kernel
theorem dX9_started_68 : decode cX9_started 68 = .ok (.aload_n 0, 1) := by decide +kernel
theorem dX9_started_69 : decode cX9_started 69 = .ok (.getfield 45, 3) := by decide +kernel
theorem dX9_started_72 : decode cX9_started 72 = .ok (.iload 5, 2) := by decide +kernel
theorem dX9_started_74 : decode cX9_started 74 = .ok (.aaload, 1) := by decide +kernel
theorem dX9_started_75 : decode cX9_started 75 = .ok (.iload 4, 2) := by decide +kernel
theorem dX9_started_77 : decode cX9_started 77 = .ok (.invokevirtual 220, 3) := by decide +kernel
theorem dX9_started_80 : decode cX9_started 80 = .ok (.istore 4, 2) := by decide +kernel
theorem dX9_started_82 : decode cX9_started 82 = .ok (.iinc 5 (-1), 3) := by decide +kernel
theorem dX9_started_85 : decode cX9_started 85 = .ok (.goto (-22), 3) := by decide +kernel
theorem dX9_started_88 : decode cX9_started 88 = .ok (.iload 4, 2) := by decide +kernel
theorem dX9_started_90 : decode cX9_started 90 = .ok (.ifCond .ne 7, 3) := by decide +kernel
theorem dX9_started_93 : decode cX9_started 93 = .ok (.iconst 1, 1) := by decide +kernel
theorem dX9_started_94 : decode cX9_started 94 = .ok (.goto 8, 3) := by decide +kernel
theorem dX9_started_97 : decode cX9_started 97 = .ok (.iload 4, 2) := by decide +kernel
theorem dX9_started_99 : decode cX9_started 99 = .ok (.invokestatic 133, 3) := by decide +kernel
theorem dX9_started_102 : decode cX9_started 102 = .ok (.ireturn, 1) := by decide +kernel
theorem dX9_product_0 : decode cX9_product 0 = .ok (.aload_n 1, 1) := by decide +kernel
theorem dX9_product_1 : decode cX9_product 1 = .ok (.getfield 187, 3) := by decide +kernel
theorem dX9_product_4 : decode cX9_product 4 = .ok (.iconst 2, 1) := by decide +kernel
theorem dX9_product_5 : decode cX9_product 5 = .ok (.if_icmp .eq 10, 3) := by decide +kernel
theorem dX9_product_8 : decode cX9_product 8 = .ok (.aload_n 1, 1) := by decide +kernel
theorem dX9_product_9 : decode cX9_product 9 = .ok (.getfield 223, 3) := by decide +kernel
theorem dX9_product_12 : decode cX9_product 12 = .ok (.lload_n 2, 1) := by decide +kernel
theorem dX9_product_13 : decode cX9_product 13 = .ok (.lmul, 1) := by decide +kernel
theorem dX9_product_14 : decode cX9_product 14 = .ok (.lreturn, 1) := by decide +kernel
theorem dX9_product_15 : decode cX9_product 15 = .ok (.aload_n 0, 1) := by decide +kernel
theorem dX9_product_16 : decode cX9_product 16 = .ok (.dup, 1) := by decide +kernel
theorem dX9_product_17 : decode cX9_product 17 = .ok (.getfield 145, 3) := by decide +kernel
theorem dX9_product_20 : decode cX9_product 20 = .ok (.aload_n 1, 1) := by decide +kernel
theorem dX9_product_21 : decode cX9_product 21 = .ok (.getfield 223, 3) := by decide +kernel
theorem dX9_product_24 : decode cX9_product 24 = .ok (.lload_n 2, 1) := by decide +kernel
theorem dX9_product_25 : decode cX9_product 25 = .ok (.lmul, 1) := by decide +kernel
theorem dX9_product_26 : decode cX9_product 26 = .ok (.ladd, 1) := by decide +kernel
theorem dX9_product_27 : decode cX9_product 27 = .ok (.putfield 145, 3) := by decide +kernel
theorem dX9_product_30 : decode cX9_product 30 = .ok (.aload_n 0, 1) := by decide +kernel
theorem dX9_product_31 : decode cX9_product 31 = .ok (.getfield 145, 3) := by decide +kernel
theorem dX9_product_34 : decode cX9_product 34 = .ok (.lreturn, 1) := by decide +kernel
