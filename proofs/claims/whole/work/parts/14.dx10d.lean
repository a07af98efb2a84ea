theorem dX10_call_26 : decode cX10_call 26 = .ok (.ifCond .ne 7, 3) := by decide +kernel
theorem dX10_call_29 : decode cX10_call 29 = .ok (.ldc2_w 222, 3) := by decide +kernel
theorem dX10_call_32 : decode cX10_call 32 = .ok (.lreturn, 1) := by decide +kernel
theorem dX10_call_33 : decode cX10_call 33 = .ok (.lconst 0, 1) := by decide +kernel
theorem dX10_call_34 : decode cX10_call 34 = .ok (.lstore 5, 2) := by decide +kernel
theorem dX10_call_36 : decode cX10_call 36 = .ok (.aload_n 0, 1) := by decide +kernel
theorem dX10_call_37 : decode cX10_call 37 = .ok (.getfield 97, 3) := by decide +kernel
theorem dX10_call_40 : decode cX10_call 40 = .ok (.iload_n 1, 1) := by decide +kernel
theorem dX10_call_41 : decode cX10_call 41 = .ok (.iaload, 1) := by decide +kernel
theorem dX10_call_42 : decode cX10_call 42 = .ok (.istore 7, 2) := by decide +kernel
theorem dX10_call_44 : decode cX10_call 44 = .ok (.iload 7, 2) := by decide +kernel
theorem dX10_call_46 : decode cX10_call 46 = .ok (.ifCond .lt 140, 3) := by decide +kernel
theorem dX10_call_49 : decode cX10_call 49 = .ok (.iconst 4, 1) := by decide +kernel
theorem dX10_call_50 : decode cX10_call 50 = .ok (.aload_n 0, 1) := by decide +kernel
theorem dX10_call_51 : decode cX10_call 51 = .ok (.getfield 63, 3) := by decide +kernel
theorem dX10_call_54 : decode cX10_call 54 = .ok (.iload 7, 2) := by decide +kernel
theorem dX10_call_56 : decode cX10_call 56 = .ok (.iaload, 1) := by decide +kernel
theorem dX10_call_57 : decode cX10_call 57 = .ok (.imul, 1) := by decide +kernel
theorem dX10_call_58 : decode cX10_call 58 = .ok (.iload_n 2, 1) := by decide +kernel
theorem dX10_call_59 : decode cX10_call 59 = .ok (.iadd, 1) := by decide +kernel
theorem dX10_call_60 : decode cX10_call 60 = .ok (.istore 8, 2) := by decide +kernel
theorem dX10_call_62 : decode cX10_call 62 = .ok (.aload_n 0, 1) := by decide +kernel
theorem dX10_call_63 : decode cX10_call 63 = .ok (.getfield 30, 3) := by decide +kernel
theorem dX10_call_66 : decode cX10_call 66 = .ok (.iload 8, 2) := by decide +kernel
theorem dX10_call_68 : decode cX10_call 68 = .ok (.iaload, 1) := by decide +kernel
theorem dX10_call_69 : decode cX10_call 69 = .ok (.iconst 2, 1) := by decide +kernel
theorem dX10_call_70 : decode cX10_call 70 = .ok (.if_icmp .ne 19, 3) := by decide +kernel
theorem dX10_call_73 : decode cX10_call 73 = .ok (.lload 5, 2) := by decide +kernel
theorem dX10_call_75 : decode cX10_call 75 = .ok (.aload_n 0, 1) := by decide +kernel
theorem dX10_call_76 : decode cX10_call 76 = .ok (.getfield 36, 3) := by decide +kernel
theorem dX10_call_79 : decode cX10_call 79 = .ok (.iload 8, 2) := by decide +kernel
theorem dX10_call_81 : decode cX10_call 81 = .ok (.iaload, 1) := by decide +kernel
theorem dX10_call_82 : decode cX10_call 82 = .ok (.i2l, 1) := by decide +kernel
theorem dX10_call_83 : decode cX10_call 83 = .ok (.ladd, 1) := by decide +kernel
theorem dX10_call_84 : decode cX10_call 84 = .ok (.lstore 5, 2) := by decide +kernel
theorem dX10_call_86 : decode cX10_call 86 = .ok (.goto 88, 3) := by decide +kernel
theorem dX10_call_89 : decode cX10_call 89 = .ok (.aload_n 0, 1) := by decide +kernel
theorem dX10_call_90 : decode cX10_call 90 = .ok (.getfield 30, 3) := by decide +kernel
theorem dX10_call_93 : decode cX10_call 93 = .ok (.iload 8, 2) := by decide +kernel
theorem dX10_call_95 : decode cX10_call 95 = .ok (.iaload, 1) := by decide +kernel
theorem dX10_call_96 : decode cX10_call 96 = .ok (.iconst 1, 1) := by decide +kernel
theorem dX10_call_97 : decode cX10_call 97 = .ok (.if_icmp .ne 26, 3) := by decide +kernel
theorem dX10_call_100 : decode cX10_call 100 = .ok (.aload_n 0, 1) := by decide +kernel
theorem dX10_call_101 : decode cX10_call 101 = .ok (.getfield 33, 3) := by decide +kernel
theorem dX10_call_104 : decode cX10_call 104 = .ok (.iload 8, 2) := by decide +kernel
theorem dX10_call_106 : decode cX10_call 106 = .ok (.iaload, 1) := by decide +kernel
theorem dX10_call_107 : decode cX10_call 107 = .ok (.i2l, 1) := by decide +kernel
theorem dX10_call_108 : decode cX10_call 108 = .ok (.lload_n 3, 1) := by decide +kernel
theorem dX10_call_109 : decode cX10_call 109 = .ok (.lmul, 1) := by decide +kernel
theorem dX10_call_110 : decode cX10_call 110 = .ok (.aload_n 0, 1) := by decide +kernel
theorem dX10_call_111 : decode cX10_call 111 = .ok (.getfield 36, 3) := by decide +kernel
theorem dX10_call_114 : decode cX10_call 114 = .ok (.iload 8, 2) := by decide +kernel
theorem dX10_call_116 : decode cX10_call 116 = .ok (.iaload, 1) := by decide +kernel
theorem dX10_call_117 : decode cX10_call 117 = .ok (.i2l, 1) := by decide +kernel
theorem dX10_call_118 : decode cX10_call 118 = .ok (.ladd, 1) := by decide +kernel
theorem dX10_call_119 : decode cX10_call 119 = .ok (.lload 5, 2) := by decide +kernel
theorem dX10_call_121 : decode cX10_call 121 = .ok (.ladd, 1) := by decide +kernel
theorem dX10_call_122 : decode cX10_call 122 = .ok (.lreturn, 1) := by decide +kernel
theorem dX10_call_123 : decode cX10_call 123 = .ok (.aload_n 0, 1) := by decide +kernel
theorem dX10_call_124 : decode cX10_call 124 = .ok (.getfield 30, 3) := by decide +kernel
theorem dX10_call_127 : decode cX10_call 127 = .ok (.iload 8, 2) := by decide +kernel
theorem dX10_call_129 : decode cX10_call 129 = .ok (.iaload, 1) := by decide +kernel
theorem dX10_call_130 : decode cX10_call 130 = .ok (.iconst 3, 1) := by decide +kernel
theorem dX10_call_131 : decode cX10_call 131 = .ok (.if_icmp .ne 43, 3) := by decide +kernel
theorem dX10_call_134 : decode cX10_call 134 = .ok (.aload_n 0, 1) := by decide +kernel
theorem dX10_call_135 : decode cX10_call 135 = .ok (.getfield 72, 3) := by decide +kernel
theorem dX10_call_138 : decode cX10_call 138 = .ok (.iload 7, 2) := by decide +kernel
theorem dX10_call_140 : decode cX10_call 140 = .ok (.dup2, 1) := by decide +kernel
theorem dX10_call_141 : decode cX10_call 141 = .ok (.laload, 1) := by decide +kernel
theorem dX10_call_142 : decode cX10_call 142 = .ok (.aload_n 0, 1) := by decide +kernel
theorem dX10_call_143 : decode cX10_call 143 = .ok (.getfield 33, 3) := by decide +kernel
theorem dX10_call_146 : decode cX10_call 146 = .ok (.iload 8, 2) := by decide +kernel
theorem dX10_call_148 : decode cX10_call 148 = .ok (.iaload, 1) := by decide +kernel
theorem dX10_call_149 : decode cX10_call 149 = .ok (.i2l, 1) := by decide +kernel
theorem dX10_call_150 : decode cX10_call 150 = .ok (.lload_n 3, 1) := by decide +kernel
theorem dX10_call_151 : decode cX10_call 151 = .ok (.lmul, 1) := by decide +kernel
theorem dX10_call_152 : decode cX10_call 152 = .ok (.ladd, 1) := by decide +kernel
theorem dX10_call_153 : decode cX10_call 153 = .ok (.lastore, 1) := by decide +kernel
theorem dX10_call_154 : decode cX10_call 154 = .ok (.aload_n 0, 1) := by decide +kernel
theorem dX10_call_155 : decode cX10_call 155 = .ok (.getfield 72, 3) := by decide +kernel
theorem dX10_call_158 : decode cX10_call 158 = .ok (.iload 7, 2) := by decide +kernel
theorem dX10_call_160 : decode cX10_call 160 = .ok (.laload, 1) := by decide +kernel
theorem dX10_call_161 : decode cX10_call 161 = .ok (.aload_n 0, 1) := by decide +kernel
theorem dX10_call_162 : decode cX10_call 162 = .ok (.getfield 36, 3) := by decide +kernel
theorem dX10_call_165 : decode cX10_call 165 = .ok (.iload 8, 2) := by decide +kernel
theorem dX10_call_167 : decode cX10_call 167 = .ok (.iaload, 1) := by decide +kernel
theorem dX10_call_168 : decode cX10_call 168 = .ok (.i2l, 1) := by decide +kernel
theorem dX10_call_169 : decode cX10_call 169 = .ok (.ladd, 1) := by decide +kernel
theorem dX10_call_170 : decode cX10_call 170 = .ok (.lload 5, 2) := by decide +kernel
theorem dX10_call_172 : decode cX10_call 172 = .ok (.ladd, 1) := by decide +kernel
theorem dX10_call_173 : decode cX10_call 173 = .ok (.lreturn, 1) := by decide +kernel
theorem dX10_call_174 : decode cX10_call 174 = .ok (.aload_n 0, 1) := by decide +kernel
theorem dX10_call_175 : decode cX10_call 175 = .ok (.getfield 66, 3) := by decide +kernel
theorem dX10_call_178 : decode cX10_call 178 = .ok (.iload 7, 2) := by decide +kernel
theorem dX10_call_180 : decode cX10_call 180 = .ok (.iaload, 1) := by decide +kernel
theorem dX10_call_181 : decode cX10_call 181 = .ok (.istore 7, 2) := by decide +kernel
theorem dX10_call_183 : decode cX10_call 183 = .ok (.goto (-139), 3) := by decide +kernel
theorem dX10_call_186 : decode cX10_call 186 = .ok (.ldc2_w 202, 3) := by decide +kernel
theorem dX10_call_189 : decode cX10_call 189 = .ok (.aload_n 0, 1) := by decide +kernel
theorem dX10_call_190 : decode cX10_call 190 = .ok (.bipush 10, 2) := by decide +kernel
theorem dX10_call_192 : decode cX10_call 192 = .ok (.invokevirtual 187, 3) := by decide +kernel
theorem dX10_call_195 : decode cX10_call 195 = .ok (.i2l, 1) := by decide +kernel
theorem dX10_call_196 : decode cX10_call 196 = .ok (.lsub, 1) := by decide +kernel
theorem dX10_call_197 : decode cX10_call 197 = .ok (.lreturn, 1) := by decide +kernel
set_option maxRecDepth 20000 in
theorem ggX10_about_X10_isClass : GoodIn wsX10_about wsX10_isClass := goodIn_r _ [11, 12, 13, 14, 10, 15, 16, 17, 18, 19, 20, 21, 22, 23, 24, 25, 26, 27, 28, 29, 30, 31, 32, 33, 34, 35, 36, 37, 38, 39, 40, 41, 42, 43, 44, 45, 46, 47, 48, 49, 50, 51, 52, 53, 54, 55, 56, 57] (by decide +kernel) (by decide +kernel)
set_option maxRecDepth 20000 in
theorem gX10_about_X10_isClass : GoodIn wsX10_about (wsV RX10 194 RX10 yX10_isClass wsX10_isClass) := goodIn_app (goodIn_of _ (by decide +kernel)) ggX10_about_X10_isClass
theorem dX10_about_0 : decode cX10_about 0 = .ok (.aload_n 0, 1) := by decide +kernel
theorem dX10_about_1 : decode cX10_about 1 = .ok (.iconst 0, 1) := by decide +kernel
theorem dX10_about_2 : decode cX10_about 2 = .ok (.putfield 1, 3) := by decide +kernel
theorem dX10_about_5 : decode cX10_about 5 = .ok (.aload_n 0, 1) := by decide +kernel
theorem dX10_about_6 : decode cX10_about 6 = .ok (.iload_n 1, 1) := by decide +kernel
theorem dX10_about_7 : decode cX10_about 7 = .ok (.invokevirtual 194, 3) := by decide +kernel
theorem dX10_about_10 : decode cX10_about 10 = .ok (.ifCond .ne 6, 3) := by decide +kernel
theorem dX10_about_13 : decode cX10_about 13 = .ok (.bipush (-2), 2) := by decide +kernel
theorem dX10_about_15 : decode cX10_about 15 = .ok (.ireturn, 1) := by decide +kernel
theorem dX10_about_16 : decode cX10_about 16 = .ok (.iload_n 2, 1) := by decide +kernel
theorem dX10_about_17 : decode cX10_about 17 = .ok (.ifCond .ne 12, 3) := by decide +kernel
theorem dX10_about_20 : decode cX10_about 20 = .ok (.aload_n 0, 1) := by decide +kernel
theorem dX10_about_21 : decode cX10_about 21 = .ok (.getfield 57, 3) := by decide +kernel
theorem dX10_about_24 : decode cX10_about 24 = .ok (.iload_n 1, 1) := by decide +kernel
theorem dX10_about_25 : decode cX10_about 25 = .ok (.iaload, 1) := by decide +kernel
theorem dX10_about_26 : decode cX10_about 26 = .ok (.goto 61, 3) := by decide +kernel
theorem dX10_about_29 : decode cX10_about 29 = .ok (.iload_n 2, 1) := by decide +kernel
theorem dX10_about_30 : decode cX10_about 30 = .ok (.iconst 1, 1) := by decide +kernel
theorem dX10_about_31 : decode cX10_about 31 = .ok (.if_icmp .ne 12, 3) := by decide +kernel
theorem dX10_about_34 : decode cX10_about 34 = .ok (.aload_n 0, 1) := by decide +kernel
theorem dX10_about_35 : decode cX10_about 35 = .ok (.getfield 60, 3) := by decide +kernel
theorem dX10_about_38 : decode cX10_about 38 = .ok (.iload_n 1, 1) := by decide +kernel
theorem dX10_about_39 : decode cX10_about 39 = .ok (.iaload, 1) := by decide +kernel
theorem dX10_about_40 : decode cX10_about 40 = .ok (.goto 47, 3) := by decide +kernel
theorem dX10_about_43 : decode cX10_about 43 = .ok (.iload_n 2, 1) := by decide +kernel
theorem dX10_about_44 : decode cX10_about 44 = .ok (.iconst 2, 1) := by decide +kernel
theorem dX10_about_45 : decode cX10_about 45 = .ok (.if_icmp .ne 12, 3) := by decide +kernel
theorem dX10_about_48 : decode cX10_about 48 = .ok (.aload_n 0, 1) := by decide +kernel
theorem dX10_about_49 : decode cX10_about 49 = .ok (.getfield 66, 3) := by decide +kernel
theorem dX10_about_52 : decode cX10_about 52 = .ok (.iload_n 1, 1) := by decide +kernel
theorem dX10_about_53 : decode cX10_about 53 = .ok (.iaload, 1) := by decide +kernel
theorem dX10_about_54 : decode cX10_about 54 = .ok (.goto 33, 3) := by decide +kernel
theorem dX10_about_57 : decode cX10_about 57 = .ok (.iload_n 2, 1) := by decide +kernel
theorem dX10_about_58 : decode cX10_about 58 = .ok (.iconst 3, 1) := by decide +kernel
theorem dX10_about_59 : decode cX10_about 59 = .ok (.if_icmp .ne 12, 3) := by decide +kernel
theorem dX10_about_62 : decode cX10_about 62 = .ok (.aload_n 0, 1) := by decide +kernel
theorem dX10_about_63 : decode cX10_about 63 = .ok (.getfield 63, 3) := by decide +kernel
theorem dX10_about_66 : decode cX10_about 66 = .ok (.iload_n 1, 1) := by decide +kernel
theorem dX10_about_67 : decode cX10_about 67 = .ok (.iaload, 1) := by decide +kernel
theorem dX10_about_68 : decode cX10_about 68 = .ok (.goto 19, 3) := by decide +kernel
theorem dX10_about_71 : decode cX10_about 71 = .ok (.iload_n 2, 1) := by decide +kernel
theorem dX10_about_72 : decode cX10_about 72 = .ok (.iconst 4, 1) := by decide +kernel
theorem dX10_about_73 : decode cX10_about 73 = .ok (.if_icmp .ne 12, 3) := by decide +kernel
theorem dX10_about_76 : decode cX10_about 76 = .ok (.aload_n 0, 1) := by decide +kernel
theorem dX10_about_77 : decode cX10_about 77 = .ok (.getfield 69, 3) := by decide +kernel
theorem dX10_about_80 : decode cX10_about 80 = .ok (.iload_n 1, 1) := by decide +kernel
theorem dX10_about_81 : decode cX10_about 81 = .ok (.iaload, 1) := by decide +kernel
theorem dX10_about_82 : decode cX10_about 82 = .ok (.goto 5, 3) := by decide +kernel
theorem dX10_about_85 : decode cX10_about 85 = .ok (.bipush (-3), 2) := by decide +kernel
theorem dX10_about_87 : decode cX10_about 87 = .ok (.ireturn, 1) := by decide +kernel
set_option maxRecDepth 20000 in
theorem ggX10_noted_X10_in : GoodIn wsX10_noted wsX10_in := goodIn_r _ [7] (by decide +kernel) (by decide +kernel)
set_option maxRecDepth 20000 in
theorem gX10_noted_X10_in : GoodIn wsX10_noted (va_wsS RX10 123 yX10_in wsX10_in) := goodIn_app (goodIn_of _ (by decide +kernel)) ggX10_noted_X10_in
theorem dX10_noted_0 : decode cX10_noted 0 = .ok (.aload_n 0, 1) := by decide +kernel
theorem dX10_noted_1 : decode cX10_noted 1 = .ok (.iconst 0, 1) := by decide +kernel
theorem dX10_noted_2 : decode cX10_noted 2 = .ok (.putfield 1, 3) := by decide +kernel
theorem dX10_noted_5 : decode cX10_noted 5 = .ok (.iload_n 1, 1) := by decide +kernel
theorem dX10_noted_6 : decode cX10_noted 6 = .ok (.i2l, 1) := by decide +kernel
theorem dX10_noted_7 : decode cX10_noted 7 = .ok (.lconst 0, 1) := by decide +kernel
theorem dX10_noted_8 : decode cX10_noted 8 = .ok (.aload_n 0, 1) := by decide +kernel
theorem dX10_noted_9 : decode cX10_noted 9 = .ok (.getfield 160, 3) := by decide +kernel
theorem dX10_noted_12 : decode cX10_noted 12 = .ok (.bipush 30, 2) := by decide +kernel
theorem dX10_noted_14 : decode cX10_noted 14 = .ok (.if_icmp .ge 10, 3) := by decide +kernel
theorem dX10_noted_17 : decode cX10_noted 17 = .ok (.aload_n 0, 1) := by decide +kernel
theorem dX10_noted_18 : decode cX10_noted 18 = .ok (.getfield 160, 3) := by decide +kernel
theorem dX10_noted_21 : decode cX10_noted 21 = .ok (.goto 5, 3) := by decide +kernel
theorem dX10_noted_24 : decode cX10_noted 24 = .ok (.bipush 30, 2) := by decide +kernel
theorem dX10_noted_26 : decode cX10_noted 26 = .ok (.iconst 1, 1) := by decide +kernel
theorem dX10_noted_27 : decode cX10_noted 27 = .ok (.isub, 1) := by decide +kernel
theorem dX10_noted_28 : decode cX10_noted 28 = .ok (.i2l, 1) := by decide +kernel
theorem dX10_noted_29 : decode cX10_noted 29 = .ok (.invokestatic 123, 3) := by decide +kernel
theorem dX10_noted_32 : decode cX10_noted 32 = .ok (.ifCond .eq 22, 3) := by decide +kernel
theorem dX10_noted_35 : decode cX10_noted 35 = .ok (.aload_n 0, 1) := by decide +kernel
theorem dX10_noted_36 : decode cX10_noted 36 = .ok (.getfield 76, 3) := by decide +kernel
theorem dX10_noted_39 : decode cX10_noted 39 = .ok (.aload_n 0, 1) := by decide +kernel
theorem dX10_noted_40 : decode cX10_noted 40 = .ok (.getfield 160, 3) := by decide +kernel
theorem dX10_noted_43 : decode cX10_noted 43 = .ok (.iconst 1, 1) := by decide +kernel
theorem dX10_noted_44 : decode cX10_noted 44 = .ok (.isub, 1) := by decide +kernel
theorem dX10_noted_45 : decode cX10_noted 45 = .ok (.iload_n 1, 1) := by decide +kernel
theorem dX10_noted_46 : decode cX10_noted 46 = .ok (.isub, 1) := by decide +kernel
theorem dX10_noted_47 : decode cX10_noted 47 = .ok (.bipush 30, 2) := by decide +kernel
theorem dX10_noted_49 : decode cX10_noted 49 = .ok (.irem, 1) := by decide +kernel
theorem dX10_noted_50 : decode cX10_noted 50 = .ok (.iaload, 1) := by decide +kernel
theorem dX10_noted_51 : decode cX10_noted 51 = .ok (.goto 4, 3) := by decide +kernel
theorem dX10_noted_54 : decode cX10_noted 54 = .ok (.iconst (-1), 1) := by decide +kernel
theorem dX10_noted_55 : decode cX10_noted 55 = .ok (.ireturn, 1) := by decide +kernel
theorem dX10_told_0 : decode cX10_told 0 = .ok (.aload_n 0, 1) := by decide +kernel
theorem dX10_told_1 : decode cX10_told 1 = .ok (.iconst 0, 1) := by decide +kernel
theorem dX10_told_2 : decode cX10_told 2 = .ok (.putfield 1, 3) := by decide +kernel
theorem dX10_told_5 : decode cX10_told 5 = .ok (.iload_n 1, 1) := by decide +kernel
theorem dX10_told_6 : decode cX10_told 6 = .ok (.tableswitch 77 0 6 #[42, 47, 52, 57, 62, 67, 72], 42) := by decide +kernel
theorem dX10_told_48 : decode cX10_told 48 = .ok (.aload_n 0, 1) := by decide +kernel
theorem dX10_told_49 : decode cX10_told 49 = .ok (.getfield 120, 3) := by decide +kernel
theorem dX10_told_52 : decode cX10_told 52 = .ok (.ireturn, 1) := by decide +kernel
theorem dX10_told_53 : decode cX10_told 53 = .ok (.aload_n 0, 1) := by decide +kernel
theorem dX10_told_54 : decode cX10_told 54 = .ok (.getfield 127, 3) := by decide +kernel
theorem dX10_told_57 : decode cX10_told 57 = .ok (.ireturn, 1) := by decide +kernel
theorem dX10_told_58 : decode cX10_told 58 = .ok (.aload_n 0, 1) := by decide +kernel
theorem dX10_told_59 : decode cX10_told 59 = .ok (.getfield 132, 3) := by decide +kernel
theorem dX10_told_62 : decode cX10_told 62 = .ok (.ireturn, 1) := by decide +kernel
theorem dX10_told_63 : decode cX10_told 63 = .ok (.aload_n 0, 1) := by decide +kernel
theorem dX10_told_64 : decode cX10_told 64 = .ok (.getfield 204, 3) := by decide +kernel
theorem dX10_told_67 : decode cX10_told 67 = .ok (.ireturn, 1) := by decide +kernel
theorem dX10_told_68 : decode cX10_told 68 = .ok (.aload_n 0, 1) := by decide +kernel
theorem dX10_told_69 : decode cX10_told 69 = .ok (.getfield 207, 3) := by decide +kernel
theorem dX10_told_72 : decode cX10_told 72 = .ok (.ireturn, 1) := by decide +kernel
theorem dX10_told_73 : decode cX10_told 73 = .ok (.aload_n 0, 1) := by decide +kernel
theorem dX10_told_74 : decode cX10_told 74 = .ok (.getfield 160, 3) := by decide +kernel
theorem dX10_told_77 : decode cX10_told 77 = .ok (.ireturn, 1) := by decide +kernel
theorem dX10_told_78 : decode cX10_told 78 = .ok (.aload_n 0, 1) := by decide +kernel
theorem dX10_told_79 : decode cX10_told 79 = .ok (.getfield 117, 3) := by decide +kernel
theorem dX10_told_82 : decode cX10_told 82 = .ok (.ireturn, 1) := by decide +kernel
theorem dX10_told_83 : decode cX10_told 83 = .ok (.bipush (-3), 2) := by decide +kernel
theorem dX10_told_85 : decode cX10_told 85 = .ok (.ireturn, 1) := by decide +kernel
