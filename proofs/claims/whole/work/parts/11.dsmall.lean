theorem dX0_init_0 : decode cX0_init 0 = .ok (.aload_n 0, 1) := by decide +kernel
theorem dX0_init_1 : decode cX0_init 1 = .ok (.invokespecial 1, 3) := by decide +kernel
theorem dX0_init_4 : decode cX0_init 4 = .ok (.aload_n 0, 1) := by decide +kernel
theorem dX0_init_5 : decode cX0_init 5 = .ok (.iload_n 1, 1) := by decide +kernel
theorem dX0_init_6 : decode cX0_init 6 = .ok (.putfield 7, 3) := by decide +kernel
theorem dX0_init_9 : decode cX0_init 9 = .ok (.aload_n 0, 1) := by decide +kernel
theorem dX0_init_10 : decode cX0_init 10 = .ok (.iload_n 2, 1) := by decide +kernel
theorem dX0_init_11 : decode cX0_init 11 = .ok (.i2l, 1) := by decide +kernel
theorem dX0_init_12 : decode cX0_init 12 = .ok (.putfield 13, 3) := by decide +kernel
theorem dX0_init_15 : decode cX0_init 15 = .ok (.aload_n 0, 1) := by decide +kernel
theorem dX0_init_16 : decode cX0_init 16 = .ok (.iload_n 3, 1) := by decide +kernel
theorem dX0_init_17 : decode cX0_init 17 = .ok (.i2l, 1) := by decide +kernel
theorem dX0_init_18 : decode cX0_init 18 = .ok (.putfield 17, 3) := by decide +kernel
theorem dX0_init_21 : decode cX0_init 21 = .ok (.return_, 1) := by decide +kernel
theorem dX1_init_0 : decode cX1_init 0 = .ok (.aload_n 0, 1) := by decide +kernel
theorem dX1_init_1 : decode cX1_init 1 = .ok (.invokespecial 3, 3) := by decide +kernel
theorem dX1_init_4 : decode cX1_init 4 = .ok (.aload_n 0, 1) := by decide +kernel
theorem dX1_init_5 : decode cX1_init 5 = .ok (.iconst 4, 1) := by decide +kernel
theorem dX1_init_6 : decode cX1_init 6 = .ok (.anewarray 9, 3) := by decide +kernel
theorem dX1_init_9 : decode cX1_init 9 = .ok (.putfield 11, 3) := by decide +kernel
theorem dX1_init_12 : decode cX1_init 12 = .ok (.aload_n 0, 1) := by decide +kernel
theorem dX1_init_13 : decode cX1_init 13 = .ok (.iload_n 1, 1) := by decide +kernel
theorem dX1_init_14 : decode cX1_init 14 = .ok (.putfield 17, 3) := by decide +kernel
theorem dX1_init_17 : decode cX1_init 17 = .ok (.aload_n 0, 1) := by decide +kernel
theorem dX1_init_18 : decode cX1_init 18 = .ok (.iload_n 2, 1) := by decide +kernel
theorem dX1_init_19 : decode cX1_init 19 = .ok (.putfield 21, 3) := by decide +kernel
theorem dX1_init_22 : decode cX1_init 22 = .ok (.aload_n 0, 1) := by decide +kernel
theorem dX1_init_23 : decode cX1_init 23 = .ok (.iload_n 3, 1) := by decide +kernel
theorem dX1_init_24 : decode cX1_init 24 = .ok (.putfield 24, 3) := by decide +kernel
theorem dX1_init_27 : decode cX1_init 27 = .ok (.aload_n 0, 1) := by decide +kernel
theorem dX1_init_28 : decode cX1_init 28 = .ok (.iload 4, 2) := by decide +kernel
theorem dX1_init_30 : decode cX1_init 30 = .ok (.putfield 27, 3) := by decide +kernel
theorem dX1_init_33 : decode cX1_init 33 = .ok (.aload_n 0, 1) := by decide +kernel
theorem dX1_init_34 : decode cX1_init 34 = .ok (.iload 5, 2) := by decide +kernel
theorem dX1_init_36 : decode cX1_init 36 = .ok (.putfield 30, 3) := by decide +kernel
theorem dX1_init_39 : decode cX1_init 39 = .ok (.aload_n 0, 1) := by decide +kernel
theorem dX1_init_40 : decode cX1_init 40 = .ok (.iload 6, 2) := by decide +kernel
theorem dX1_init_42 : decode cX1_init 42 = .ok (.putfield 33, 3) := by decide +kernel
theorem dX1_init_45 : decode cX1_init 45 = .ok (.return_, 1) := by decide +kernel
theorem dX2_init_0 : decode cX2_init 0 = .ok (.aload_n 0, 1) := by decide +kernel
theorem dX2_init_1 : decode cX2_init 1 = .ok (.invokespecial 3, 3) := by decide +kernel
theorem dX2_init_4 : decode cX2_init 4 = .ok (.aload_n 0, 1) := by decide +kernel
theorem dX2_init_5 : decode cX2_init 5 = .ok (.bipush 40, 2) := by decide +kernel
theorem dX2_init_7 : decode cX2_init 7 = .ok (.anewarray 9, 3) := by decide +kernel
theorem dX2_init_10 : decode cX2_init 10 = .ok (.putfield 11, 3) := by decide +kernel
theorem dX2_init_13 : decode cX2_init 13 = .ok (.aload_n 0, 1) := by decide +kernel
theorem dX2_init_14 : decode cX2_init 14 = .ok (.bipush 40, 2) := by decide +kernel
theorem dX2_init_16 : decode cX2_init 16 = .ok (.anewarray 17, 3) := by decide +kernel
theorem dX2_init_19 : decode cX2_init 19 = .ok (.putfield 19, 3) := by decide +kernel
theorem dX2_init_22 : decode cX2_init 22 = .ok (.aload_n 0, 1) := by decide +kernel
theorem dX2_init_23 : decode cX2_init 23 = .ok (.bipush 40, 2) := by decide +kernel
theorem dX2_init_25 : decode cX2_init 25 = .ok (.newarray .boolean, 2) := by decide +kernel
theorem dX2_init_27 : decode cX2_init 27 = .ok (.putfield 23, 3) := by decide +kernel
theorem dX2_init_30 : decode cX2_init 30 = .ok (.aload_n 0, 1) := by decide +kernel
theorem dX2_init_31 : decode cX2_init 31 = .ok (.bipush 40, 2) := by decide +kernel
theorem dX2_init_33 : decode cX2_init 33 = .ok (.newarray .int, 2) := by decide +kernel
theorem dX2_init_35 : decode cX2_init 35 = .ok (.putfield 27, 3) := by decide +kernel
theorem dX2_init_38 : decode cX2_init 38 = .ok (.aload_n 0, 1) := by decide +kernel
theorem dX2_init_39 : decode cX2_init 39 = .ok (.iload_n 1, 1) := by decide +kernel
theorem dX2_init_40 : decode cX2_init 40 = .ok (.putfield 31, 3) := by decide +kernel
theorem dX2_init_43 : decode cX2_init 43 = .ok (.aload_n 0, 1) := by decide +kernel
theorem dX2_init_44 : decode cX2_init 44 = .ok (.aload_n 2, 1) := by decide +kernel
theorem dX2_init_45 : decode cX2_init 45 = .ok (.putfield 35, 3) := by decide +kernel
theorem dX2_init_48 : decode cX2_init 48 = .ok (.iconst 0, 1) := by decide +kernel
theorem dX2_init_49 : decode cX2_init 49 = .ok (.istore_n 3, 1) := by decide +kernel
theorem dX2_init_50 : decode cX2_init 50 = .ok (.iload_n 3, 1) := by decide +kernel
theorem dX2_init_51 : decode cX2_init 51 = .ok (.bipush 40, 2) := by decide +kernel
theorem dX2_init_53 : decode cX2_init 53 = .ok (.if_icmp .ge 18, 3) := by decide +kernel
theorem dX2_init_56 : decode cX2_init 56 = .ok (.aload_n 0, 1) := by decide +kernel
theorem dX2_init_57 : decode cX2_init 57 = .ok (.getfield 27, 3) := by decide +kernel
theorem dX2_init_60 : decode cX2_init 60 = .ok (.iload_n 3, 1) := by decide +kernel
theorem dX2_init_61 : decode cX2_init 61 = .ok (.iconst 1, 1) := by decide +kernel
theorem dX2_init_62 : decode cX2_init 62 = .ok (.iload_n 1, 1) := by decide +kernel
theorem dX2_init_63 : decode cX2_init 63 = .ok (.ishl, 1) := by decide +kernel
theorem dX2_init_64 : decode cX2_init 64 = .ok (.iastore, 1) := by decide +kernel
theorem dX2_init_65 : decode cX2_init 65 = .ok (.iinc 3 1, 3) := by decide +kernel
theorem dX2_init_68 : decode cX2_init 68 = .ok (.goto (-18), 3) := by decide +kernel
theorem dX2_init_71 : decode cX2_init 71 = .ok (.return_, 1) := by decide +kernel
theorem dX2_isMachine_0 : decode cX2_isMachine 0 = .ok (.aload_n 0, 1) := by decide +kernel
theorem dX2_isMachine_1 : decode cX2_isMachine 1 = .ok (.getfield 35, 3) := by decide +kernel
theorem dX2_isMachine_4 : decode cX2_isMachine 4 = .ok (.ifnonnull 7, 3) := by decide +kernel
theorem dX2_isMachine_7 : decode cX2_isMachine 7 = .ok (.iconst 1, 1) := by decide +kernel
theorem dX2_isMachine_8 : decode cX2_isMachine 8 = .ok (.goto 4, 3) := by decide +kernel
theorem dX2_isMachine_11 : decode cX2_isMachine 11 = .ok (.iconst 0, 1) := by decide +kernel
theorem dX2_isMachine_12 : decode cX2_isMachine 12 = .ok (.ireturn, 1) := by decide +kernel
theorem dX2_asksParentFirst_0 : decode cX2_asksParentFirst 0 = .ok (.aload_n 0, 1) := by decide +kernel
theorem dX2_asksParentFirst_1 : decode cX2_asksParentFirst 1 = .ok (.getfield 35, 3) := by decide +kernel
theorem dX2_asksParentFirst_4 : decode cX2_asksParentFirst 4 = .ok (.ifnull 15, 3) := by decide +kernel
theorem dX2_asksParentFirst_7 : decode cX2_asksParentFirst 7 = .ok (.iload_n 1, 1) := by decide +kernel
theorem dX2_asksParentFirst_8 : decode cX2_asksParentFirst 8 = .ok (.aload_n 0, 1) := by decide +kernel
theorem dX2_asksParentFirst_9 : decode cX2_asksParentFirst 9 = .ok (.getfield 39, 3) := by decide +kernel
theorem dX2_asksParentFirst_12 : decode cX2_asksParentFirst 12 = .ok (.if_icmp .ge 7, 3) := by decide +kernel
theorem dX2_asksParentFirst_15 : decode cX2_asksParentFirst 15 = .ok (.iconst 1, 1) := by decide +kernel
theorem dX2_asksParentFirst_16 : decode cX2_asksParentFirst 16 = .ok (.goto 4, 3) := by decide +kernel
theorem dX2_asksParentFirst_19 : decode cX2_asksParentFirst 19 = .ok (.iconst 0, 1) := by decide +kernel
theorem dX2_asksParentFirst_20 : decode cX2_asksParentFirst 20 = .ok (.ireturn, 1) := by decide +kernel
theorem dX3_init_0 : decode cX3_init 0 = .ok (.aload_n 0, 1) := by decide +kernel
theorem dX3_init_1 : decode cX3_init 1 = .ok (.invokespecial 3, 3) := by decide +kernel
theorem dX3_init_4 : decode cX3_init 4 = .ok (.aload_n 0, 1) := by decide +kernel
theorem dX3_init_5 : decode cX3_init 5 = .ok (.bipush 8, 2) := by decide +kernel
theorem dX3_init_7 : decode cX3_init 7 = .ok (.anewarray 9, 3) := by decide +kernel
theorem dX3_init_10 : decode cX3_init 10 = .ok (.putfield 11, 3) := by decide +kernel
theorem dX3_init_13 : decode cX3_init 13 = .ok (.return_, 1) := by decide +kernel
theorem dX3_at_0 : decode cX3_at 0 = .ok (.iload_n 1, 1) := by decide +kernel
theorem dX3_at_1 : decode cX3_at 1 = .ok (.ifCond .lt 20, 3) := by decide +kernel
theorem dX3_at_4 : decode cX3_at 4 = .ok (.iload_n 1, 1) := by decide +kernel
theorem dX3_at_5 : decode cX3_at 5 = .ok (.aload_n 0, 1) := by decide +kernel
theorem dX3_at_6 : decode cX3_at 6 = .ok (.getfield 17, 3) := by decide +kernel
theorem dX3_at_9 : decode cX3_at 9 = .ok (.if_icmp .ge 12, 3) := by decide +kernel
theorem dX3_at_12 : decode cX3_at 12 = .ok (.aload_n 0, 1) := by decide +kernel
theorem dX3_at_13 : decode cX3_at 13 = .ok (.getfield 11, 3) := by decide +kernel
theorem dX3_at_16 : decode cX3_at 16 = .ok (.iload_n 1, 1) := by decide +kernel
theorem dX3_at_17 : decode cX3_at 17 = .ok (.aaload, 1) := by decide +kernel
theorem dX3_at_18 : decode cX3_at 18 = .ok (.goto 4, 3) := by decide +kernel
theorem dX3_at_21 : decode cX3_at 21 = .ok (.aconst_null, 1) := by decide +kernel
theorem dX3_at_22 : decode cX3_at 22 = .ok (.areturn, 1) := by decide +kernel
set_option maxRecDepth 20000 in
theorem ggX3_add_X2_init : GoodIn wsX3_add wsX2_init := goodIn_r _ [8, 9, 10, 11, 12, 13, 14, 15, 16, 17, 18, 19, 20, 21, 22, 23, 24, 25, 26, 27, 28] (by decide +kernel) (by decide +kernel)
set_option maxRecDepth 20000 in
theorem gX3_add_X2_init : GoodIn wsX3_add (wsX2_init) := ggX3_add_X2_init
theorem dX3_add_0 : decode cX3_add 0 = .ok (.new 9, 3) := by decide +kernel
theorem dX3_add_3 : decode cX3_add 3 = .ok (.dup, 1) := by decide +kernel
theorem dX3_add_4 : decode cX3_add 4 = .ok (.aload_n 0, 1) := by decide +kernel
theorem dX3_add_5 : decode cX3_add 5 = .ok (.getfield 17, 3) := by decide +kernel
theorem dX3_add_8 : decode cX3_add 8 = .ok (.aload_n 1, 1) := by decide +kernel
theorem dX3_add_9 : decode cX3_add 9 = .ok (.invokespecial 21, 3) := by decide +kernel
theorem dX3_add_12 : decode cX3_add 12 = .ok (.astore_n 2, 1) := by decide +kernel
theorem dX3_add_13 : decode cX3_add 13 = .ok (.aload_n 0, 1) := by decide +kernel
theorem dX3_add_14 : decode cX3_add 14 = .ok (.getfield 17, 3) := by decide +kernel
theorem dX3_add_17 : decode cX3_add 17 = .ok (.bipush 8, 2) := by decide +kernel
theorem dX3_add_19 : decode cX3_add 19 = .ok (.if_icmp .ge 20, 3) := by decide +kernel
theorem dX3_add_22 : decode cX3_add 22 = .ok (.aload_n 0, 1) := by decide +kernel
theorem dX3_add_23 : decode cX3_add 23 = .ok (.getfield 11, 3) := by decide +kernel
theorem dX3_add_26 : decode cX3_add 26 = .ok (.aload_n 0, 1) := by decide +kernel
theorem dX3_add_27 : decode cX3_add 27 = .ok (.dup, 1) := by decide +kernel
theorem dX3_add_28 : decode cX3_add 28 = .ok (.getfield 17, 3) := by decide +kernel
theorem dX3_add_31 : decode cX3_add 31 = .ok (.dup_x1, 1) := by decide +kernel
theorem dX3_add_32 : decode cX3_add 32 = .ok (.iconst 1, 1) := by decide +kernel
theorem dX3_add_33 : decode cX3_add 33 = .ok (.iadd, 1) := by decide +kernel
theorem dX3_add_34 : decode cX3_add 34 = .ok (.putfield 17, 3) := by decide +kernel
theorem dX3_add_37 : decode cX3_add 37 = .ok (.aload_n 2, 1) := by decide +kernel
theorem dX3_add_38 : decode cX3_add 38 = .ok (.aastore, 1) := by decide +kernel
theorem dX3_add_39 : decode cX3_add 39 = .ok (.aload_n 2, 1) := by decide +kernel
theorem dX3_add_40 : decode cX3_add 40 = .ok (.areturn, 1) := by decide +kernel
theorem dX3_knowsAnother_0 : decode cX3_knowsAnother 0 = .ok (.iconst 0, 1) := by decide +kernel
theorem dX3_knowsAnother_1 : decode cX3_knowsAnother 1 = .ok (.istore 4, 2) := by decide +kernel
theorem dX3_knowsAnother_3 : decode cX3_knowsAnother 3 = .ok (.iload 4, 2) := by decide +kernel
theorem dX3_knowsAnother_5 : decode cX3_knowsAnother 5 = .ok (.aload_n 0, 1) := by decide +kernel
theorem dX3_knowsAnother_6 : decode cX3_knowsAnother 6 = .ok (.getfield 17, 3) := by decide +kernel
theorem dX3_knowsAnother_9 : decode cX3_knowsAnother 9 = .ok (.if_icmp .ge 46, 3) := by decide +kernel
theorem dX3_knowsAnother_12 : decode cX3_knowsAnother 12 = .ok (.aload_n 0, 1) := by decide +kernel
theorem dX3_knowsAnother_13 : decode cX3_knowsAnother 13 = .ok (.getfield 11, 3) := by decide +kernel
theorem dX3_knowsAnother_16 : decode cX3_knowsAnother 16 = .ok (.iload 4, 2) := by decide +kernel
theorem dX3_knowsAnother_18 : decode cX3_knowsAnother 18 = .ok (.aaload, 1) := by decide +kernel
theorem dX3_knowsAnother_19 : decode cX3_knowsAnother 19 = .ok (.getfield 24, 3) := by decide +kernel
theorem dX3_knowsAnother_22 : decode cX3_knowsAnother 22 = .ok (.iload_n 2, 1) := by decide +kernel
theorem dX3_knowsAnother_23 : decode cX3_knowsAnother 23 = .ok (.aaload, 1) := by decide +kernel
theorem dX3_knowsAnother_24 : decode cX3_knowsAnother 24 = .ok (.astore 5, 2) := by decide +kernel
theorem dX3_knowsAnother_26 : decode cX3_knowsAnother 26 = .ok (.iload_n 1, 1) := by decide +kernel
theorem dX3_knowsAnother_27 : decode cX3_knowsAnother 27 = .ok (.iload 4, 2) := by decide +kernel
theorem dX3_knowsAnother_29 : decode cX3_knowsAnother 29 = .ok (.ishr, 1) := by decide +kernel
theorem dX3_knowsAnother_30 : decode cX3_knowsAnother 30 = .ok (.iconst 1, 1) := by decide +kernel
theorem dX3_knowsAnother_31 : decode cX3_knowsAnother 31 = .ok (.iand, 1) := by decide +kernel
theorem dX3_knowsAnother_32 : decode cX3_knowsAnother 32 = .ok (.iconst 1, 1) := by decide +kernel
theorem dX3_knowsAnother_33 : decode cX3_knowsAnother 33 = .ok (.if_icmp .ne 16, 3) := by decide +kernel
theorem dX3_knowsAnother_36 : decode cX3_knowsAnother 36 = .ok (.aload 5, 2) := by decide +kernel
theorem dX3_knowsAnother_38 : decode cX3_knowsAnother 38 = .ok (.ifnull 11, 3) := by decide +kernel
theorem dX3_knowsAnother_41 : decode cX3_knowsAnother 41 = .ok (.aload 5, 2) := by decide +kernel
theorem dX3_knowsAnother_43 : decode cX3_knowsAnother 43 = .ok (.aload_n 3, 1) := by decide +kernel
theorem dX3_knowsAnother_44 : decode cX3_knowsAnother 44 = .ok (.if_acmp .eq 5, 3) := by decide +kernel
theorem dX3_knowsAnother_47 : decode cX3_knowsAnother 47 = .ok (.iconst 1, 1) := by decide +kernel
theorem dX3_knowsAnother_48 : decode cX3_knowsAnother 48 = .ok (.ireturn, 1) := by decide +kernel
theorem dX3_knowsAnother_49 : decode cX3_knowsAnother 49 = .ok (.iinc 4 1, 3) := by decide +kernel
theorem dX3_knowsAnother_52 : decode cX3_knowsAnother 52 = .ok (.goto (-49), 3) := by decide +kernel
theorem dX3_knowsAnother_55 : decode cX3_knowsAnother 55 = .ok (.iconst 0, 1) := by decide +kernel
theorem dX3_knowsAnother_56 : decode cX3_knowsAnother 56 = .ok (.ireturn, 1) := by decide +kernel
set_option maxRecDepth 20000 in
theorem ggX3_isBarred_X3_knowsAnother : GoodIn wsX3_isBarred wsX3_knowsAnother := goodIn_r _ [6, 7, 8, 9, 17, 18, 10, 11, 12, 13, 14, 15, 16] (by decide +kernel) (by decide +kernel)
set_option maxRecDepth 20000 in
theorem gX3_isBarred_X3_knowsAnother : GoodIn wsX3_isBarred (wsV RX3 32 RX3 yX3_knowsAnother wsX3_knowsAnother) := goodIn_app (goodIn_of _ (by decide +kernel)) ggX3_isBarred_X3_knowsAnother
theorem dX3_isBarred_0 : decode cX3_isBarred 0 = .ok (.aload_n 0, 1) := by decide +kernel
theorem dX3_isBarred_1 : decode cX3_isBarred 1 = .ok (.aload_n 1, 1) := by decide +kernel
theorem dX3_isBarred_2 : decode cX3_isBarred 2 = .ok (.getfield 28, 3) := by decide +kernel
theorem dX3_isBarred_5 : decode cX3_isBarred 5 = .ok (.iload_n 2, 1) := by decide +kernel
theorem dX3_isBarred_6 : decode cX3_isBarred 6 = .ok (.iaload, 1) := by decide +kernel
theorem dX3_isBarred_7 : decode cX3_isBarred 7 = .ok (.iload_n 2, 1) := by decide +kernel
theorem dX3_isBarred_8 : decode cX3_isBarred 8 = .ok (.aload_n 3, 1) := by decide +kernel
theorem dX3_isBarred_9 : decode cX3_isBarred 9 = .ok (.invokevirtual 32, 3) := by decide +kernel
theorem dX3_isBarred_12 : decode cX3_isBarred 12 = .ok (.ireturn, 1) := by decide +kernel
set_option maxRecDepth 20000 in
theorem ggX3_bind_X3_anyKnown : GoodIn wsX3_bind wsX3_anyKnown := goodIn_r _ [8, 2, 3, 9, 21, 22, 14, 15, 16, 17, 18, 19, 20] (by decide +kernel) (by decide +kernel)
set_option maxRecDepth 20000 in
theorem gX3_bind_X3_anyKnown : GoodIn wsX3_bind (wsV RX3 36 RX3 yX3_anyKnown wsX3_anyKnown) := goodIn_app (goodIn_of _ (by decide +kernel)) ggX3_bind_X3_anyKnown
set_option maxRecDepth 20000 in
theorem ggX3_bind_X3_knowsAnother : GoodIn wsX3_bind wsX3_knowsAnother := goodIn_r _ [13, 2, 3, 9, 21, 22, 14, 15, 16, 17, 18, 19, 20] (by decide +kernel) (by decide +kernel)
set_option maxRecDepth 20000 in
theorem gX3_bind_X3_knowsAnother : GoodIn wsX3_bind (wsV RX3 32 RX3 yX3_knowsAnother wsX3_knowsAnother) := goodIn_app (goodIn_of _ (by decide +kernel)) ggX3_bind_X3_knowsAnother
theorem dX3_bind_0 : decode cX3_bind 0 = .ok (.aload_n 1, 1) := by decide +kernel
theorem dX3_bind_1 : decode cX3_bind 1 = .ok (.getfield 28, 3) := by decide +kernel
theorem dX3_bind_4 : decode cX3_bind 4 = .ok (.iload_n 3, 1) := by decide +kernel
theorem dX3_bind_5 : decode cX3_bind 5 = .ok (.iaload, 1) := by decide +kernel
theorem dX3_bind_6 : decode cX3_bind 6 = .ok (.aload_n 2, 1) := by decide +kernel
theorem dX3_bind_7 : decode cX3_bind 7 = .ok (.getfield 28, 3) := by decide +kernel
theorem dX3_bind_10 : decode cX3_bind 10 = .ok (.iload_n 3, 1) := by decide +kernel
theorem dX3_bind_11 : decode cX3_bind 11 = .ok (.iaload, 1) := by decide +kernel
theorem dX3_bind_12 : decode cX3_bind 12 = .ok (.ior, 1) := by decide +kernel
theorem dX3_bind_13 : decode cX3_bind 13 = .ok (.istore 4, 2) := by decide +kernel
theorem dX3_bind_15 : decode cX3_bind 15 = .ok (.aload_n 0, 1) := by decide +kernel
theorem dX3_bind_16 : decode cX3_bind 16 = .ok (.iload 4, 2) := by decide +kernel
theorem dX3_bind_18 : decode cX3_bind 18 = .ok (.iload_n 3, 1) := by decide +kernel
theorem dX3_bind_19 : decode cX3_bind 19 = .ok (.aload_n 0, 1) := by decide +kernel
theorem dX3_bind_20 : decode cX3_bind 20 = .ok (.iload 4, 2) := by decide +kernel
theorem dX3_bind_22 : decode cX3_bind 22 = .ok (.iload_n 3, 1) := by decide +kernel
theorem dX3_bind_23 : decode cX3_bind 23 = .ok (.invokevirtual 36, 3) := by decide +kernel
theorem dX3_bind_26 : decode cX3_bind 26 = .ok (.invokevirtual 32, 3) := by decide +kernel
theorem dX3_bind_29 : decode cX3_bind 29 = .ok (.ifCond .eq 5, 3) := by decide +kernel
theorem dX3_bind_32 : decode cX3_bind 32 = .ok (.iconst 0, 1) := by decide +kernel
theorem dX3_bind_33 : decode cX3_bind 33 = .ok (.ireturn, 1) := by decide +kernel
theorem dX3_bind_34 : decode cX3_bind 34 = .ok (.iconst 0, 1) := by decide +kernel
theorem dX3_bind_35 : decode cX3_bind 35 = .ok (.istore 5, 2) := by decide +kernel
theorem dX3_bind_37 : decode cX3_bind 37 = .ok (.iload 5, 2) := by decide +kernel
theorem dX3_bind_39 : decode cX3_bind 39 = .ok (.aload_n 0, 1) := by decide +kernel
theorem dX3_bind_40 : decode cX3_bind 40 = .ok (.getfield 17, 3) := by decide +kernel
theorem dX3_bind_43 : decode cX3_bind 43 = .ok (.if_icmp .ge 34, 3) := by decide +kernel
theorem dX3_bind_46 : decode cX3_bind 46 = .ok (.iload 4, 2) := by decide +kernel
theorem dX3_bind_48 : decode cX3_bind 48 = .ok (.iload 5, 2) := by decide +kernel
theorem dX3_bind_50 : decode cX3_bind 50 = .ok (.ishr, 1) := by decide +kernel
theorem dX3_bind_51 : decode cX3_bind 51 = .ok (.iconst 1, 1) := by decide +kernel
theorem dX3_bind_52 : decode cX3_bind 52 = .ok (.iand, 1) := by decide +kernel
theorem dX3_bind_53 : decode cX3_bind 53 = .ok (.iconst 1, 1) := by decide +kernel
theorem dX3_bind_54 : decode cX3_bind 54 = .ok (.if_icmp .ne 17, 3) := by decide +kernel
theorem dX3_bind_57 : decode cX3_bind 57 = .ok (.aload_n 0, 1) := by decide +kernel
theorem dX3_bind_58 : decode cX3_bind 58 = .ok (.getfield 11, 3) := by decide +kernel
theorem dX3_bind_61 : decode cX3_bind 61 = .ok (.iload 5, 2) := by decide +kernel
theorem dX3_bind_63 : decode cX3_bind 63 = .ok (.aaload, 1) := by decide +kernel
theorem dX3_bind_64 : decode cX3_bind 64 = .ok (.getfield 28, 3) := by decide +kernel
theorem dX3_bind_67 : decode cX3_bind 67 = .ok (.iload_n 3, 1) := by decide +kernel
theorem dX3_bind_68 : decode cX3_bind 68 = .ok (.iload 4, 2) := by decide +kernel
theorem dX3_bind_70 : decode cX3_bind 70 = .ok (.iastore, 1) := by decide +kernel
theorem dX3_bind_71 : decode cX3_bind 71 = .ok (.iinc 5 1, 3) := by decide +kernel
theorem dX3_bind_74 : decode cX3_bind 74 = .ok (.goto (-37), 3) := by decide +kernel
theorem dX3_bind_77 : decode cX3_bind 77 = .ok (.iconst 1, 1) := by decide +kernel
theorem dX3_bind_78 : decode cX3_bind 78 = .ok (.ireturn, 1) := by decide +kernel
theorem dX3_anyKnown_0 : decode cX3_anyKnown 0 = .ok (.iconst 0, 1) := by decide +kernel
theorem dX3_anyKnown_1 : decode cX3_anyKnown 1 = .ok (.istore_n 3, 1) := by decide +kernel
theorem dX3_anyKnown_2 : decode cX3_anyKnown 2 = .ok (.iload_n 3, 1) := by decide +kernel
theorem dX3_anyKnown_3 : decode cX3_anyKnown 3 = .ok (.aload_n 0, 1) := by decide +kernel
theorem dX3_anyKnown_4 : decode cX3_anyKnown 4 = .ok (.getfield 17, 3) := by decide +kernel
theorem dX3_anyKnown_7 : decode cX3_anyKnown 7 = .ok (.if_icmp .ge 39, 3) := by decide +kernel
theorem dX3_anyKnown_10 : decode cX3_anyKnown 10 = .ok (.aload_n 0, 1) := by decide +kernel
theorem dX3_anyKnown_11 : decode cX3_anyKnown 11 = .ok (.getfield 11, 3) := by decide +kernel
theorem dX3_anyKnown_14 : decode cX3_anyKnown 14 = .ok (.iload_n 3, 1) := by decide +kernel
theorem dX3_anyKnown_15 : decode cX3_anyKnown 15 = .ok (.aaload, 1) := by decide +kernel
theorem dX3_anyKnown_16 : decode cX3_anyKnown 16 = .ok (.getfield 24, 3) := by decide +kernel
theorem dX3_anyKnown_19 : decode cX3_anyKnown 19 = .ok (.iload_n 2, 1) := by decide +kernel
theorem dX3_anyKnown_20 : decode cX3_anyKnown 20 = .ok (.aaload, 1) := by decide +kernel
theorem dX3_anyKnown_21 : decode cX3_anyKnown 21 = .ok (.astore 4, 2) := by decide +kernel
theorem dX3_anyKnown_23 : decode cX3_anyKnown 23 = .ok (.iload_n 1, 1) := by decide +kernel
theorem dX3_anyKnown_24 : decode cX3_anyKnown 24 = .ok (.iload_n 3, 1) := by decide +kernel
theorem dX3_anyKnown_25 : decode cX3_anyKnown 25 = .ok (.ishr, 1) := by decide +kernel
theorem dX3_anyKnown_26 : decode cX3_anyKnown 26 = .ok (.iconst 1, 1) := by decide +kernel
theorem dX3_anyKnown_27 : decode cX3_anyKnown 27 = .ok (.iand, 1) := by decide +kernel
theorem dX3_anyKnown_28 : decode cX3_anyKnown 28 = .ok (.iconst 1, 1) := by decide +kernel
theorem dX3_anyKnown_29 : decode cX3_anyKnown 29 = .ok (.if_icmp .ne 11, 3) := by decide +kernel
theorem dX3_anyKnown_32 : decode cX3_anyKnown 32 = .ok (.aload 4, 2) := by decide +kernel
theorem dX3_anyKnown_34 : decode cX3_anyKnown 34 = .ok (.ifnull 6, 3) := by decide +kernel
theorem dX3_anyKnown_37 : decode cX3_anyKnown 37 = .ok (.aload 4, 2) := by decide +kernel
theorem dX3_anyKnown_39 : decode cX3_anyKnown 39 = .ok (.areturn, 1) := by decide +kernel
theorem dX3_anyKnown_40 : decode cX3_anyKnown 40 = .ok (.iinc 3 1, 3) := by decide +kernel
theorem dX3_anyKnown_43 : decode cX3_anyKnown 43 = .ok (.goto (-41), 3) := by decide +kernel
theorem dX3_anyKnown_46 : decode cX3_anyKnown 46 = .ok (.aconst_null, 1) := by decide +kernel
theorem dX3_anyKnown_47 : decode cX3_anyKnown 47 = .ok (.areturn, 1) := by decide +kernel
theorem dX5_init_0 : decode cX5_init 0 = .ok (.aload_n 0, 1) := by decide +kernel
theorem dX5_init_1 : decode cX5_init 1 = .ok (.invokespecial 3, 3) := by decide +kernel
theorem dX5_init_4 : decode cX5_init 4 = .ok (.aload_n 0, 1) := by decide +kernel
theorem dX5_init_5 : decode cX5_init 5 = .ok (.iconst 0, 1) := by decide +kernel
theorem dX5_init_6 : decode cX5_init 6 = .ok (.putfield 9, 3) := by decide +kernel
theorem dX5_init_9 : decode cX5_init 9 = .ok (.aload_n 0, 1) := by decide +kernel
theorem dX5_init_10 : decode cX5_init 10 = .ok (.iload_n 1, 1) := by decide +kernel
theorem dX5_init_11 : decode cX5_init 11 = .ok (.putfield 15, 3) := by decide +kernel
theorem dX5_init_14 : decode cX5_init 14 = .ok (.aload_n 0, 1) := by decide +kernel
theorem dX5_init_15 : decode cX5_init 15 = .ok (.aload_n 2, 1) := by decide +kernel
theorem dX5_init_16 : decode cX5_init 16 = .ok (.putfield 18, 3) := by decide +kernel
theorem dX5_init_19 : decode cX5_init 19 = .ok (.aload_n 0, 1) := by decide +kernel
theorem dX5_init_20 : decode cX5_init 20 = .ok (.aload_n 3, 1) := by decide +kernel
theorem dX5_init_21 : decode cX5_init 21 = .ok (.putfield 22, 3) := by decide +kernel
theorem dX5_init_24 : decode cX5_init 24 = .ok (.aload_n 0, 1) := by decide +kernel
theorem dX5_init_25 : decode cX5_init 25 = .ok (.aload 4, 2) := by decide +kernel
theorem dX5_init_27 : decode cX5_init 27 = .ok (.putfield 26, 3) := by decide +kernel
theorem dX5_init_30 : decode cX5_init 30 = .ok (.return_, 1) := by decide +kernel
theorem dX5_isOf_0 : decode cX5_isOf 0 = .ok (.aload_n 0, 1) := by decide +kernel
theorem dX5_isOf_1 : decode cX5_isOf 1 = .ok (.astore_n 2, 1) := by decide +kernel
theorem dX5_isOf_2 : decode cX5_isOf 2 = .ok (.aload_n 2, 1) := by decide +kernel
theorem dX5_isOf_3 : decode cX5_isOf 3 = .ok (.ifnull 18, 3) := by decide +kernel
theorem dX5_isOf_6 : decode cX5_isOf 6 = .ok (.aload_n 2, 1) := by decide +kernel
theorem dX5_isOf_7 : decode cX5_isOf 7 = .ok (.aload_n 1, 1) := by decide +kernel
theorem dX5_isOf_8 : decode cX5_isOf 8 = .ok (.if_acmp .ne 5, 3) := by decide +kernel
theorem dX5_isOf_11 : decode cX5_isOf 11 = .ok (.iconst 1, 1) := by decide +kernel
theorem dX5_isOf_12 : decode cX5_isOf 12 = .ok (.ireturn, 1) := by decide +kernel
theorem dX5_isOf_13 : decode cX5_isOf 13 = .ok (.aload_n 2, 1) := by decide +kernel
theorem dX5_isOf_14 : decode cX5_isOf 14 = .ok (.getfield 26, 3) := by decide +kernel
theorem dX5_isOf_17 : decode cX5_isOf 17 = .ok (.astore_n 2, 1) := by decide +kernel
theorem dX5_isOf_18 : decode cX5_isOf 18 = .ok (.goto (-16), 3) := by decide +kernel
theorem dX5_isOf_21 : decode cX5_isOf 21 = .ok (.iconst 0, 1) := by decide +kernel
theorem dX5_isOf_22 : decode cX5_isOf 22 = .ok (.ireturn, 1) := by decide +kernel
theorem dX5_startAfter_0 : decode cX5_startAfter 0 = .ok (.aload_n 0, 1) := by decide +kernel
theorem dX5_startAfter_1 : decode cX5_startAfter 1 = .ok (.getfield 22, 3) := by decide +kernel
theorem dX5_startAfter_4 : decode cX5_startAfter 4 = .ok (.getfield 30, 3) := by decide +kernel
theorem dX5_startAfter_7 : decode cX5_startAfter 7 = .ok (.istore_n 2, 1) := by decide +kernel
theorem dX5_startAfter_8 : decode cX5_startAfter 8 = .ok (.iload_n 1, 1) := by decide +kernel
theorem dX5_startAfter_9 : decode cX5_startAfter 9 = .ok (.ifCond .ne 7, 3) := by decide +kernel
theorem dX5_startAfter_12 : decode cX5_startAfter 12 = .ok (.iload_n 2, 1) := by decide +kernel
theorem dX5_startAfter_13 : decode cX5_startAfter 13 = .ok (.ifCond .ne 19, 3) := by decide +kernel
theorem dX5_startAfter_16 : decode cX5_startAfter 16 = .ok (.aload_n 0, 1) := by decide +kernel
theorem dX5_startAfter_17 : decode cX5_startAfter 17 = .ok (.iconst 2, 1) := by decide +kernel
theorem dX5_startAfter_18 : decode cX5_startAfter 18 = .ok (.putfield 9, 3) := by decide +kernel
theorem dX5_startAfter_21 : decode cX5_startAfter 21 = .ok (.iload_n 1, 1) := by decide +kernel
theorem dX5_startAfter_22 : decode cX5_startAfter 22 = .ok (.ifCond .eq 7, 3) := by decide +kernel
theorem dX5_startAfter_25 : decode cX5_startAfter 25 = .ok (.iload_n 1, 1) := by decide +kernel
theorem dX5_startAfter_26 : decode cX5_startAfter 26 = .ok (.goto 5, 3) := by decide +kernel
theorem dX5_startAfter_29 : decode cX5_startAfter 29 = .ok (.bipush 9, 2) := by decide +kernel
theorem dX5_startAfter_31 : decode cX5_startAfter 31 = .ok (.ireturn, 1) := by decide +kernel
theorem dX5_startAfter_32 : decode cX5_startAfter 32 = .ok (.aload_n 0, 1) := by decide +kernel
theorem dX5_startAfter_33 : decode cX5_startAfter 33 = .ok (.iconst 1, 1) := by decide +kernel
theorem dX5_startAfter_34 : decode cX5_startAfter 34 = .ok (.putfield 9, 3) := by decide +kernel
theorem dX5_startAfter_37 : decode cX5_startAfter 37 = .ok (.aload_n 0, 1) := by decide +kernel
theorem dX5_startAfter_38 : decode cX5_startAfter 38 = .ok (.sipush 1000, 3) := by decide +kernel
theorem dX5_startAfter_41 : decode cX5_startAfter 41 = .ok (.iload_n 2, 1) := by decide +kernel
theorem dX5_startAfter_42 : decode cX5_startAfter 42 = .ok (.idiv, 1) := by decide +kernel
theorem dX5_startAfter_43 : decode cX5_startAfter 43 = .ok (.i2l, 1) := by decide +kernel
theorem dX5_startAfter_44 : decode cX5_startAfter 44 = .ok (.putfield 35, 3) := by decide +kernel
theorem dX5_startAfter_47 : decode cX5_startAfter 47 = .ok (.iconst 0, 1) := by decide +kernel
theorem dX5_startAfter_48 : decode cX5_startAfter 48 = .ok (.ireturn, 1) := by decide +kernel
theorem dX6_init_0 : decode cX6_init 0 = .ok (.aload_n 0, 1) := by decide +kernel
theorem dX6_init_1 : decode cX6_init 1 = .ok (.invokespecial 3, 3) := by decide +kernel
theorem dX6_init_4 : decode cX6_init 4 = .ok (.aload_n 0, 1) := by decide +kernel
theorem dX6_init_5 : decode cX6_init 5 = .ok (.bipush 30, 2) := by decide +kernel
theorem dX6_init_7 : decode cX6_init 7 = .ok (.newarray .int, 2) := by decide +kernel
theorem dX6_init_9 : decode cX6_init 9 = .ok (.putfield 9, 3) := by decide +kernel
theorem dX6_init_12 : decode cX6_init 12 = .ok (.return_, 1) := by decide +kernel
theorem dX6_add_0 : decode cX6_add 0 = .ok (.aload_n 0, 1) := by decide +kernel
theorem dX6_add_1 : decode cX6_add 1 = .ok (.getfield 9, 3) := by decide +kernel
theorem dX6_add_4 : decode cX6_add 4 = .ok (.aload_n 0, 1) := by decide +kernel
theorem dX6_add_5 : decode cX6_add 5 = .ok (.getfield 15, 3) := by decide +kernel
theorem dX6_add_8 : decode cX6_add 8 = .ok (.bipush 64, 2) := by decide +kernel
theorem dX6_add_10 : decode cX6_add 10 = .ok (.iload_n 1, 1) := by decide +kernel
theorem dX6_add_11 : decode cX6_add 11 = .ok (.imul, 1) := by decide +kernel
theorem dX6_add_12 : decode cX6_add 12 = .ok (.iload_n 2, 1) := by decide +kernel
theorem dX6_add_13 : decode cX6_add 13 = .ok (.iadd, 1) := by decide +kernel
theorem dX6_add_14 : decode cX6_add 14 = .ok (.iastore, 1) := by decide +kernel
theorem dX6_add_15 : decode cX6_add 15 = .ok (.aload_n 0, 1) := by decide +kernel
theorem dX6_add_16 : decode cX6_add 16 = .ok (.aload_n 0, 1) := by decide +kernel
theorem dX6_add_17 : decode cX6_add 17 = .ok (.getfield 15, 3) := by decide +kernel
theorem dX6_add_20 : decode cX6_add 20 = .ok (.iconst 1, 1) := by decide +kernel
theorem dX6_add_21 : decode cX6_add 21 = .ok (.iadd, 1) := by decide +kernel
theorem dX6_add_22 : decode cX6_add 22 = .ok (.bipush 30, 2) := by decide +kernel
theorem dX6_add_24 : decode cX6_add 24 = .ok (.irem, 1) := by decide +kernel
theorem dX6_add_25 : decode cX6_add 25 = .ok (.putfield 15, 3) := by decide +kernel
theorem dX6_add_28 : decode cX6_add 28 = .ok (.aload_n 0, 1) := by decide +kernel
theorem dX6_add_29 : decode cX6_add 29 = .ok (.aload_n 0, 1) := by decide +kernel
theorem dX6_add_30 : decode cX6_add 30 = .ok (.getfield 19, 3) := by decide +kernel
theorem dX6_add_33 : decode cX6_add 33 = .ok (.iconst 1, 1) := by decide +kernel
theorem dX6_add_34 : decode cX6_add 34 = .ok (.iadd, 1) := by decide +kernel
theorem dX6_add_35 : decode cX6_add 35 = .ok (.bipush 30, 2) := by decide +kernel
theorem dX6_add_37 : decode cX6_add 37 = .ok (.invokestatic 22, 3) := by decide +kernel
theorem dX6_add_40 : decode cX6_add 40 = .ok (.putfield 19, 3) := by decide +kernel
theorem dX6_add_43 : decode cX6_add 43 = .ok (.aload_n 0, 1) := by decide +kernel
theorem dX6_add_44 : decode cX6_add 44 = .ok (.dup, 1) := by decide +kernel
theorem dX6_add_45 : decode cX6_add 45 = .ok (.getfield 28, 3) := by decide +kernel
theorem dX6_add_48 : decode cX6_add 48 = .ok (.iconst 1, 1) := by decide +kernel
theorem dX6_add_49 : decode cX6_add 49 = .ok (.iadd, 1) := by decide +kernel
theorem dX6_add_50 : decode cX6_add 50 = .ok (.putfield 28, 3) := by decide +kernel
theorem dX6_add_53 : decode cX6_add 53 = .ok (.return_, 1) := by decide +kernel
theorem dX6_latest_0 : decode cX6_latest 0 = .ok (.iload_n 1, 1) := by decide +kernel
theorem dX6_latest_1 : decode cX6_latest 1 = .ok (.ifCond .lt 11, 3) := by decide +kernel
theorem dX6_latest_4 : decode cX6_latest 4 = .ok (.iload_n 1, 1) := by decide +kernel
theorem dX6_latest_5 : decode cX6_latest 5 = .ok (.aload_n 0, 1) := by decide +kernel
theorem dX6_latest_6 : decode cX6_latest 6 = .ok (.getfield 19, 3) := by decide +kernel
theorem dX6_latest_9 : decode cX6_latest 9 = .ok (.if_icmp .lt 5, 3) := by decide +kernel
theorem dX6_latest_12 : decode cX6_latest 12 = .ok (.iconst (-1), 1) := by decide +kernel
theorem dX6_latest_13 : decode cX6_latest 13 = .ok (.ireturn, 1) := by decide +kernel
theorem dX6_latest_14 : decode cX6_latest 14 = .ok (.aload_n 0, 1) := by decide +kernel
theorem dX6_latest_15 : decode cX6_latest 15 = .ok (.getfield 9, 3) := by decide +kernel
theorem dX6_latest_18 : decode cX6_latest 18 = .ok (.aload_n 0, 1) := by decide +kernel
theorem dX6_latest_19 : decode cX6_latest 19 = .ok (.getfield 15, 3) := by decide +kernel
theorem dX6_latest_22 : decode cX6_latest 22 = .ok (.bipush 30, 2) := by decide +kernel
theorem dX6_latest_24 : decode cX6_latest 24 = .ok (.iadd, 1) := by decide +kernel
theorem dX6_latest_25 : decode cX6_latest 25 = .ok (.iconst 1, 1) := by decide +kernel
theorem dX6_latest_26 : decode cX6_latest 26 = .ok (.isub, 1) := by decide +kernel
theorem dX6_latest_27 : decode cX6_latest 27 = .ok (.iload_n 1, 1) := by decide +kernel
theorem dX6_latest_28 : decode cX6_latest 28 = .ok (.isub, 1) := by decide +kernel
theorem dX6_latest_29 : decode cX6_latest 29 = .ok (.bipush 30, 2) := by decide +kernel
theorem dX6_latest_31 : decode cX6_latest 31 = .ok (.irem, 1) := by decide +kernel
theorem dX6_latest_32 : decode cX6_latest 32 = .ok (.iaload, 1) := by decide +kernel
theorem dX6_latest_33 : decode cX6_latest 33 = .ok (.ireturn, 1) := by decide +kernel
theorem dX7_init_0 : decode cX7_init 0 = .ok (.aload_n 0, 1) := by decide +kernel
theorem dX7_init_1 : decode cX7_init 1 = .ok (.invokespecial 3, 3) := by decide +kernel
theorem dX7_init_4 : decode cX7_init 4 = .ok (.aload_n 0, 1) := by decide +kernel
theorem dX7_init_5 : decode cX7_init 5 = .ok (.aload_n 1, 1) := by decide +kernel
theorem dX7_init_6 : decode cX7_init 6 = .ok (.putfield 9, 3) := by decide +kernel
theorem dX7_init_9 : decode cX7_init 9 = .ok (.aload_n 0, 1) := by decide +kernel
theorem dX7_init_10 : decode cX7_init 10 = .ok (.iload_n 2, 1) := by decide +kernel
theorem dX7_init_11 : decode cX7_init 11 = .ok (.newarray .int, 2) := by decide +kernel
theorem dX7_init_13 : decode cX7_init 13 = .ok (.putfield 15, 3) := by decide +kernel
theorem dX7_init_16 : decode cX7_init 16 = .ok (.iconst 0, 1) := by decide +kernel
theorem dX7_init_17 : decode cX7_init 17 = .ok (.istore_n 3, 1) := by decide +kernel
theorem dX7_init_18 : decode cX7_init 18 = .ok (.iload_n 3, 1) := by decide +kernel
theorem dX7_init_19 : decode cX7_init 19 = .ok (.iload_n 2, 1) := by decide +kernel
theorem dX7_init_20 : decode cX7_init 20 = .ok (.if_icmp .ge 16, 3) := by decide +kernel
theorem dX7_init_23 : decode cX7_init 23 = .ok (.aload_n 0, 1) := by decide +kernel
theorem dX7_init_24 : decode cX7_init 24 = .ok (.getfield 15, 3) := by decide +kernel
theorem dX7_init_27 : decode cX7_init 27 = .ok (.iload_n 3, 1) := by decide +kernel
theorem dX7_init_28 : decode cX7_init 28 = .ok (.iconst (-1), 1) := by decide +kernel
theorem dX7_init_29 : decode cX7_init 29 = .ok (.iastore, 1) := by decide +kernel
theorem dX7_init_30 : decode cX7_init 30 = .ok (.iinc 3 1, 3) := by decide +kernel
theorem dX7_init_33 : decode cX7_init 33 = .ok (.goto (-15), 3) := by decide +kernel
theorem dX7_init_36 : decode cX7_init 36 = .ok (.return_, 1) := by decide +kernel
theorem dX7_hasPlace_0 : decode cX7_hasPlace 0 = .ok (.iload_n 1, 1) := by decide +kernel
theorem dX7_hasPlace_1 : decode cX7_hasPlace 1 = .ok (.ifCond .lt 16, 3) := by decide +kernel
theorem dX7_hasPlace_4 : decode cX7_hasPlace 4 = .ok (.iload_n 1, 1) := by decide +kernel
theorem dX7_hasPlace_5 : decode cX7_hasPlace 5 = .ok (.aload_n 0, 1) := by decide +kernel
theorem dX7_hasPlace_6 : decode cX7_hasPlace 6 = .ok (.getfield 15, 3) := by decide +kernel
theorem dX7_hasPlace_9 : decode cX7_hasPlace 9 = .ok (.arraylength, 1) := by decide +kernel
theorem dX7_hasPlace_10 : decode cX7_hasPlace 10 = .ok (.if_icmp .ge 7, 3) := by decide +kernel
theorem dX7_hasPlace_13 : decode cX7_hasPlace 13 = .ok (.iconst 1, 1) := by decide +kernel
theorem dX7_hasPlace_14 : decode cX7_hasPlace 14 = .ok (.goto 4, 3) := by decide +kernel
theorem dX7_hasPlace_17 : decode cX7_hasPlace 17 = .ok (.iconst 0, 1) := by decide +kernel
theorem dX7_hasPlace_18 : decode cX7_hasPlace 18 = .ok (.ireturn, 1) := by decide +kernel
theorem dX8_init_0 : decode cX8_init 0 = .ok (.aload_n 0, 1) := by decide +kernel
theorem dX8_init_1 : decode cX8_init 1 = .ok (.invokespecial 1, 3) := by decide +kernel
theorem dX8_init_4 : decode cX8_init 4 = .ok (.return_, 1) := by decide +kernel
theorem dJ9_min_7cf53_0 : decode cJ9_min_7cf53 0 = .ok (.iload_n 0, 1) := by decide +kernel
theorem dJ9_min_7cf53_1 : decode cJ9_min_7cf53 1 = .ok (.iload_n 1, 1) := by decide +kernel
theorem dJ9_min_7cf53_2 : decode cJ9_min_7cf53 2 = .ok (.if_icmp .gt 7, 3) := by decide +kernel
theorem dJ9_min_7cf53_5 : decode cJ9_min_7cf53 5 = .ok (.iload_n 0, 1) := by decide +kernel
theorem dJ9_min_7cf53_6 : decode cJ9_min_7cf53 6 = .ok (.goto 4, 3) := by decide +kernel
theorem dJ9_min_7cf53_9 : decode cJ9_min_7cf53 9 = .ok (.iload_n 1, 1) := by decide +kernel
theorem dJ9_min_7cf53_10 : decode cJ9_min_7cf53 10 = .ok (.ireturn, 1) := by decide +kernel
