theorem dX10_agree_87 : decode cX10_agree 87 = .ok (.iload 7, 2) := by decide +kernel
theorem dX10_agree_89 : decode cX10_agree 89 = .ok (.imul, 1) := by decide +kernel
theorem dX10_agree_90 : decode cX10_agree 90 = .ok (.iload_n 3, 1) := by decide +kernel
theorem dX10_agree_91 : decode cX10_agree 91 = .ok (.iadd, 1) := by decide +kernel
theorem dX10_agree_92 : decode cX10_agree 92 = .ok (.istore 8, 2) := by decide +kernel
theorem dX10_agree_94 : decode cX10_agree 94 = .ok (.aload_n 0, 1) := by decide +kernel
theorem dX10_agree_95 : decode cX10_agree 95 = .ok (.getfield 54, 3) := by decide +kernel
theorem dX10_agree_98 : decode cX10_agree 98 = .ok (.iload 8, 2) := by decide +kernel
theorem dX10_agree_100 : decode cX10_agree 100 = .ok (.iaload, 1) := by decide +kernel
theorem dX10_agree_101 : decode cX10_agree 101 = .ok (.iload 4, 2) := by decide +kernel
theorem dX10_agree_103 : decode cX10_agree 103 = .ok (.if_icmp .eq 15, 3) := by decide +kernel
theorem dX10_agree_106 : decode cX10_agree 106 = .ok (.aload_n 0, 1) := by decide +kernel
theorem dX10_agree_107 : decode cX10_agree 107 = .ok (.getfield 54, 3) := by decide +kernel
theorem dX10_agree_110 : decode cX10_agree 110 = .ok (.iload 8, 2) := by decide +kernel
theorem dX10_agree_112 : decode cX10_agree 112 = .ok (.iaload, 1) := by decide +kernel
theorem dX10_agree_113 : decode cX10_agree 113 = .ok (.iload 5, 2) := by decide +kernel
theorem dX10_agree_115 : decode cX10_agree 115 = .ok (.if_icmp .ne 45, 3) := by decide +kernel
theorem dX10_agree_118 : decode cX10_agree 118 = .ok (.aload_n 0, 1) := by decide +kernel
theorem dX10_agree_119 : decode cX10_agree 119 = .ok (.getfield 48, 3) := by decide +kernel
theorem dX10_agree_122 : decode cX10_agree 122 = .ok (.iload 8, 2) := by decide +kernel
theorem dX10_agree_124 : decode cX10_agree 124 = .ok (.iaload, 1) := by decide +kernel
theorem dX10_agree_125 : decode cX10_agree 125 = .ok (.ifCond .le 35, 3) := by decide +kernel
theorem dX10_agree_128 : decode cX10_agree 128 = .ok (.iload 6, 2) := by decide +kernel
theorem dX10_agree_130 : decode cX10_agree 130 = .ok (.ifCond .le 21, 3) := by decide +kernel
theorem dX10_agree_133 : decode cX10_agree 133 = .ok (.aload_n 0, 1) := by decide +kernel
theorem dX10_agree_134 : decode cX10_agree 134 = .ok (.getfield 48, 3) := by decide +kernel
theorem dX10_agree_137 : decode cX10_agree 137 = .ok (.iload 8, 2) := by decide +kernel
theorem dX10_agree_139 : decode cX10_agree 139 = .ok (.iaload, 1) := by decide +kernel
theorem dX10_agree_140 : decode cX10_agree 140 = .ok (.iload 6, 2) := by decide +kernel
theorem dX10_agree_142 : decode cX10_agree 142 = .ok (.if_icmp .eq 9, 3) := by decide +kernel
theorem dX10_agree_145 : decode cX10_agree 145 = .ok (.aload_n 0, 1) := by decide +kernel
theorem dX10_agree_146 : decode cX10_agree 146 = .ok (.iconst 3, 1) := by decide +kernel
theorem dX10_agree_147 : decode cX10_agree 147 = .ok (.invokevirtual 187, 3) := by decide +kernel
theorem dX10_agree_150 : decode cX10_agree 150 = .ok (.ireturn, 1) := by decide +kernel
theorem dX10_agree_151 : decode cX10_agree 151 = .ok (.aload_n 0, 1) := by decide +kernel
theorem dX10_agree_152 : decode cX10_agree 152 = .ok (.getfield 48, 3) := by decide +kernel
theorem dX10_agree_155 : decode cX10_agree 155 = .ok (.iload 8, 2) := by decide +kernel
theorem dX10_agree_157 : decode cX10_agree 157 = .ok (.iaload, 1) := by decide +kernel
theorem dX10_agree_158 : decode cX10_agree 158 = .ok (.istore 6, 2) := by decide +kernel
theorem dX10_agree_160 : decode cX10_agree 160 = .ok (.iinc 7 1, 3) := by decide +kernel
theorem dX10_agree_163 : decode cX10_agree 163 = .ok (.goto (-87), 3) := by decide +kernel
theorem dX10_agree_166 : decode cX10_agree 166 = .ok (.iconst 0, 1) := by decide +kernel
theorem dX10_agree_167 : decode cX10_agree 167 = .ok (.istore 7, 2) := by decide +kernel
theorem dX10_agree_169 : decode cX10_agree 169 = .ok (.iload 7, 2) := by decide +kernel
theorem dX10_agree_171 : decode cX10_agree 171 = .ok (.aload_n 0, 1) := by decide +kernel
theorem dX10_agree_172 : decode cX10_agree 172 = .ok (.getfield 120, 3) := by decide +kernel
theorem dX10_agree_175 : decode cX10_agree 175 = .ok (.if_icmp .ge 49, 3) := by decide +kernel
theorem dX10_agree_178 : decode cX10_agree 178 = .ok (.bipush 40, 2) := by decide +kernel
theorem dX10_agree_180 : decode cX10_agree 180 = .ok (.iload 7, 2) := by decide +kernel
theorem dX10_agree_182 : decode cX10_agree 182 = .ok (.imul, 1) := by decide +kernel
theorem dX10_agree_183 : decode cX10_agree 183 = .ok (.iload_n 3, 1) := by decide +kernel
theorem dX10_agree_184 : decode cX10_agree 184 = .ok (.iadd, 1) := by decide +kernel
theorem dX10_agree_185 : decode cX10_agree 185 = .ok (.istore 8, 2) := by decide +kernel
theorem dX10_agree_187 : decode cX10_agree 187 = .ok (.aload_n 0, 1) := by decide +kernel
theorem dX10_agree_188 : decode cX10_agree 188 = .ok (.getfield 54, 3) := by decide +kernel
theorem dX10_agree_191 : decode cX10_agree 191 = .ok (.iload 8, 2) := by decide +kernel
theorem dX10_agree_193 : decode cX10_agree 193 = .ok (.aload_n 0, 1) := by decide +kernel
theorem dX10_agree_194 : decode cX10_agree 194 = .ok (.getfield 54, 3) := by decide +kernel
theorem dX10_agree_197 : decode cX10_agree 197 = .ok (.iload 8, 2) := by decide +kernel
theorem dX10_agree_199 : decode cX10_agree 199 = .ok (.iaload, 1) := by decide +kernel
theorem dX10_agree_200 : decode cX10_agree 200 = .ok (.iload 5, 2) := by decide +kernel
theorem dX10_agree_202 : decode cX10_agree 202 = .ok (.if_icmp .ne 8, 3) := by decide +kernel
theorem dX10_agree_205 : decode cX10_agree 205 = .ok (.iload 4, 2) := by decide +kernel
theorem dX10_agree_207 : decode cX10_agree 207 = .ok (.goto 10, 3) := by decide +kernel
theorem dX10_agree_210 : decode cX10_agree 210 = .ok (.aload_n 0, 1) := by decide +kernel
theorem dX10_agree_211 : decode cX10_agree 211 = .ok (.getfield 54, 3) := by decide +kernel
theorem dX10_agree_214 : decode cX10_agree 214 = .ok (.iload 8, 2) := by decide +kernel
theorem dX10_agree_216 : decode cX10_agree 216 = .ok (.iaload, 1) := by decide +kernel
theorem dX10_agree_217 : decode cX10_agree 217 = .ok (.iastore, 1) := by decide +kernel
theorem dX10_agree_218 : decode cX10_agree 218 = .ok (.iinc 7 1, 3) := by decide +kernel
theorem dX10_agree_221 : decode cX10_agree 221 = .ok (.goto (-52), 3) := by decide +kernel
theorem dX10_agree_224 : decode cX10_agree 224 = .ok (.iconst 1, 1) := by decide +kernel
theorem dX10_agree_225 : decode cX10_agree 225 = .ok (.ireturn, 1) := by decide +kernel
set_option maxRecDepth 20000 in
theorem ggX10_apart_X10_isClass : GoodIn wsX10_apart wsX10_isClass := goodIn_r _ [7, 8, 9, 10, 6, 11, 12, 13, 14, 15, 16, 17, 18, 19, 20, 21, 22, 23, 24, 25, 26, 27, 28, 29, 30, 31, 32, 33, 34, 35, 36, 37, 38, 39, 40, 41, 42, 43, 44, 45, 46, 47, 48, 49, 50, 51, 52, 53] (by decide +kernel) (by decide +kernel)
set_option maxRecDepth 20000 in
theorem gX10_apart_X10_isClass : GoodIn wsX10_apart (wsV RX10 194 RX10 yX10_isClass wsX10_isClass) := goodIn_app (goodIn_of _ (by decide +kernel)) ggX10_apart_X10_isClass
theorem dX10_apart_0 : decode cX10_apart 0 = .ok (.aload_n 0, 1) := by decide +kernel
theorem dX10_apart_1 : decode cX10_apart 1 = .ok (.iconst 0, 1) := by decide +kernel
theorem dX10_apart_2 : decode cX10_apart 2 = .ok (.putfield 1, 3) := by decide +kernel
theorem dX10_apart_5 : decode cX10_apart 5 = .ok (.aload_n 0, 1) := by decide +kernel
theorem dX10_apart_6 : decode cX10_apart 6 = .ok (.iload_n 1, 1) := by decide +kernel
theorem dX10_apart_7 : decode cX10_apart 7 = .ok (.invokevirtual 194, 3) := by decide +kernel
theorem dX10_apart_10 : decode cX10_apart 10 = .ok (.ifCond .eq 11, 3) := by decide +kernel
theorem dX10_apart_13 : decode cX10_apart 13 = .ok (.aload_n 0, 1) := by decide +kernel
theorem dX10_apart_14 : decode cX10_apart 14 = .ok (.iload_n 2, 1) := by decide +kernel
theorem dX10_apart_15 : decode cX10_apart 15 = .ok (.invokevirtual 194, 3) := by decide +kernel
theorem dX10_apart_18 : decode cX10_apart 18 = .ok (.ifCond .ne 6, 3) := by decide +kernel
theorem dX10_apart_21 : decode cX10_apart 21 = .ok (.bipush (-2), 2) := by decide +kernel
theorem dX10_apart_23 : decode cX10_apart 23 = .ok (.ireturn, 1) := by decide +kernel
theorem dX10_apart_24 : decode cX10_apart 24 = .ok (.iload_n 1, 1) := by decide +kernel
theorem dX10_apart_25 : decode cX10_apart 25 = .ok (.iload_n 2, 1) := by decide +kernel
theorem dX10_apart_26 : decode cX10_apart 26 = .ok (.if_icmp .eq 22, 3) := by decide +kernel
theorem dX10_apart_29 : decode cX10_apart 29 = .ok (.aload_n 0, 1) := by decide +kernel
theorem dX10_apart_30 : decode cX10_apart 30 = .ok (.getfield 57, 3) := by decide +kernel
theorem dX10_apart_33 : decode cX10_apart 33 = .ok (.iload_n 1, 1) := by decide +kernel
theorem dX10_apart_34 : decode cX10_apart 34 = .ok (.iaload, 1) := by decide +kernel
theorem dX10_apart_35 : decode cX10_apart 35 = .ok (.aload_n 0, 1) := by decide +kernel
theorem dX10_apart_36 : decode cX10_apart 36 = .ok (.getfield 57, 3) := by decide +kernel
theorem dX10_apart_39 : decode cX10_apart 39 = .ok (.iload_n 2, 1) := by decide +kernel
theorem dX10_apart_40 : decode cX10_apart 40 = .ok (.iaload, 1) := by decide +kernel
theorem dX10_apart_41 : decode cX10_apart 41 = .ok (.if_icmp .ne 7, 3) := by decide +kernel
theorem dX10_apart_44 : decode cX10_apart 44 = .ok (.iconst 1, 1) := by decide +kernel
theorem dX10_apart_45 : decode cX10_apart 45 = .ok (.goto 4, 3) := by decide +kernel
theorem dX10_apart_48 : decode cX10_apart 48 = .ok (.iconst 0, 1) := by decide +kernel
theorem dX10_apart_49 : decode cX10_apart 49 = .ok (.ireturn, 1) := by decide +kernel
theorem dX10_started_0 : decode cX10_started 0 = .ok (.iconst 0, 1) := by decide +kernel
theorem dX10_started_1 : decode cX10_started 1 = .ok (.istore_n 2, 1) := by decide +kernel
theorem dX10_started_2 : decode cX10_started 2 = .ok (.iload_n 1, 1) := by decide +kernel
theorem dX10_started_3 : decode cX10_started 3 = .ok (.istore_n 3, 1) := by decide +kernel
theorem dX10_started_4 : decode cX10_started 4 = .ok (.iload_n 3, 1) := by decide +kernel
theorem dX10_started_5 : decode cX10_started 5 = .ok (.ifCond .lt 32, 3) := by decide +kernel
theorem dX10_started_8 : decode cX10_started 8 = .ok (.aload_n 0, 1) := by decide +kernel
theorem dX10_started_9 : decode cX10_started 9 = .ok (.getfield 69, 3) := by decide +kernel
theorem dX10_started_12 : decode cX10_started 12 = .ok (.iload_n 3, 1) := by decide +kernel
theorem dX10_started_13 : decode cX10_started 13 = .ok (.iaload, 1) := by decide +kernel
theorem dX10_started_14 : decode cX10_started 14 = .ok (.ifCond .ne 23, 3) := by decide +kernel
theorem dX10_started_17 : decode cX10_started 17 = .ok (.aload_n 0, 1) := by decide +kernel
theorem dX10_started_18 : decode cX10_started 18 = .ok (.getfield 94, 3) := by decide +kernel
theorem dX10_started_21 : decode cX10_started 21 = .ok (.iload_n 2, 1) := by decide +kernel
theorem dX10_started_22 : decode cX10_started 22 = .ok (.iload_n 3, 1) := by decide +kernel
theorem dX10_started_23 : decode cX10_started 23 = .ok (.iastore, 1) := by decide +kernel
theorem dX10_started_24 : decode cX10_started 24 = .ok (.iinc 2 1, 3) := by decide +kernel
theorem dX10_started_27 : decode cX10_started 27 = .ok (.aload_n 0, 1) := by decide +kernel
theorem dX10_started_28 : decode cX10_started 28 = .ok (.getfield 66, 3) := by decide +kernel
theorem dX10_started_31 : decode cX10_started 31 = .ok (.iload_n 3, 1) := by decide +kernel
theorem dX10_started_32 : decode cX10_started 32 = .ok (.iaload, 1) := by decide +kernel
theorem dX10_started_33 : decode cX10_started 33 = .ok (.istore_n 3, 1) := by decide +kernel
theorem dX10_started_34 : decode cX10_started 34 = .ok (.goto (-30), 3) := by decide +kernel
theorem dX10_started_37 : decode cX10_started 37 = .ok (.iload_n 3, 1) := by decide +kernel
theorem dX10_started_38 : decode cX10_started 38 = .ok (.ifCond .lt 17, 3) := by decide +kernel
theorem dX10_started_41 : decode cX10_started 41 = .ok (.aload_n 0, 1) := by decide +kernel
theorem dX10_started_42 : decode cX10_started 42 = .ok (.getfield 69, 3) := by decide +kernel
theorem dX10_started_45 : decode cX10_started 45 = .ok (.iload_n 3, 1) := by decide +kernel
theorem dX10_started_46 : decode cX10_started 46 = .ok (.iaload, 1) := by decide +kernel
theorem dX10_started_47 : decode cX10_started 47 = .ok (.iconst 2, 1) := by decide +kernel
theorem dX10_started_48 : decode cX10_started 48 = .ok (.if_icmp .ne 7, 3) := by decide +kernel
theorem dX10_started_51 : decode cX10_started 51 = .ok (.iconst 2, 1) := by decide +kernel
theorem dX10_started_52 : decode cX10_started 52 = .ok (.goto 4, 3) := by decide +kernel
theorem dX10_started_55 : decode cX10_started 55 = .ok (.iconst 0, 1) := by decide +kernel
theorem dX10_started_56 : decode cX10_started 56 = .ok (.istore 4, 2) := by decide +kernel
theorem dX10_started_58 : decode cX10_started 58 = .ok (.iload_n 2, 1) := by decide +kernel
theorem dX10_started_59 : decode cX10_started 59 = .ok (.iconst 1, 1) := by decide +kernel
theorem dX10_started_60 : decode cX10_started 60 = .ok (.isub, 1) := by decide +kernel
theorem dX10_started_61 : decode cX10_started 61 = .ok (.istore 5, 2) := by decide +kernel
theorem dX10_started_63 : decode cX10_started 63 = .ok (.iload 5, 2) := by decide +kernel
theorem dX10_started_65 : decode cX10_started 65 = .ok (.ifCond .lt 97, 3) := by decide +kernel
theorem dX10_started_68 : decode cX10_started 68 = .ok (.aload_n 0, 1) := by decide +kernel
theorem dX10_started_69 : decode cX10_started 69 = .ok (.getfield 94, 3) := by decide +kernel
theorem dX10_started_72 : decode cX10_started 72 = .ok (.iload 5, 2) := by decide +kernel
theorem dX10_started_74 : decode cX10_started 74 = .ok (.iaload, 1) := by decide +kernel
theorem dX10_started_75 : decode cX10_started 75 = .ok (.istore 6, 2) := by decide +kernel
theorem dX10_started_77 : decode cX10_started 77 = .ok (.aload_n 0, 1) := by decide +kernel
theorem dX10_started_78 : decode cX10_started 78 = .ok (.getfield 23, 3) := by decide +kernel
theorem dX10_started_81 : decode cX10_started 81 = .ok (.aload_n 0, 1) := by decide +kernel
theorem dX10_started_82 : decode cX10_started 82 = .ok (.getfield 63, 3) := by decide +kernel
theorem dX10_started_85 : decode cX10_started 85 = .ok (.iload 6, 2) := by decide +kernel
theorem dX10_started_87 : decode cX10_started 87 = .ok (.iaload, 1) := by decide +kernel
theorem dX10_started_88 : decode cX10_started 88 = .ok (.iaload, 1) := by decide +kernel
theorem dX10_started_89 : decode cX10_started 89 = .ok (.istore 7, 2) := by decide +kernel
theorem dX10_started_91 : decode cX10_started 91 = .ok (.iload 4, 2) := by decide +kernel
theorem dX10_started_93 : decode cX10_started 93 = .ok (.ifCond .ne 13, 3) := by decide +kernel
theorem dX10_started_96 : decode cX10_started 96 = .ok (.iload 7, 2) := by decide +kernel
theorem dX10_started_98 : decode cX10_started 98 = .ok (.ifCond .ne 8, 3) := by decide +kernel
theorem dX10_started_101 : decode cX10_started 101 = .ok (.bipush 9, 2) := by decide +kernel
theorem dX10_started_103 : decode cX10_started 103 = .ok (.goto 5, 3) := by decide +kernel
theorem dX10_started_106 : decode cX10_started 106 = .ok (.iload 4, 2) := by decide +kernel
theorem dX10_started_108 : decode cX10_started 108 = .ok (.istore 4, 2) := by decide +kernel
theorem dX10_started_110 : decode cX10_started 110 = .ok (.aload_n 0, 1) := by decide +kernel
theorem dX10_started_111 : decode cX10_started 111 = .ok (.getfield 69, 3) := by decide +kernel
theorem dX10_started_114 : decode cX10_started 114 = .ok (.iload 6, 2) := by decide +kernel
theorem dX10_started_116 : decode cX10_started 116 = .ok (.iload 4, 2) := by decide +kernel
theorem dX10_started_118 : decode cX10_started 118 = .ok (.ifCond .ne 7, 3) := by decide +kernel
theorem dX10_started_121 : decode cX10_started 121 = .ok (.iconst 1, 1) := by decide +kernel
theorem dX10_started_122 : decode cX10_started 122 = .ok (.goto 4, 3) := by decide +kernel
theorem dX10_started_125 : decode cX10_started 125 = .ok (.iconst 2, 1) := by decide +kernel
theorem dX10_started_126 : decode cX10_started 126 = .ok (.iastore, 1) := by decide +kernel
theorem dX10_started_127 : decode cX10_started 127 = .ok (.aload_n 0, 1) := by decide +kernel
theorem dX10_started_128 : decode cX10_started 128 = .ok (.getfield 72, 3) := by decide +kernel
theorem dX10_started_131 : decode cX10_started 131 = .ok (.iload 6, 2) := by decide +kernel
theorem dX10_started_133 : decode cX10_started 133 = .ok (.iload 4, 2) := by decide +kernel
theorem dX10_started_135 : decode cX10_started 135 = .ok (.ifCond .ne 13, 3) := by decide +kernel
theorem dX10_started_138 : decode cX10_started 138 = .ok (.sipush 1000, 3) := by decide +kernel
theorem dX10_started_141 : decode cX10_started 141 = .ok (.iload 7, 2) := by decide +kernel
theorem dX10_started_143 : decode cX10_started 143 = .ok (.idiv, 1) := by decide +kernel
theorem dX10_started_144 : decode cX10_started 144 = .ok (.i2l, 1) := by decide +kernel
theorem dX10_started_145 : decode cX10_started 145 = .ok (.goto 10, 3) := by decide +kernel
theorem dX10_started_148 : decode cX10_started 148 = .ok (.aload_n 0, 1) := by decide +kernel
theorem dX10_started_149 : decode cX10_started 149 = .ok (.getfield 72, 3) := by decide +kernel
theorem dX10_started_152 : decode cX10_started 152 = .ok (.iload 6, 2) := by decide +kernel
theorem dX10_started_154 : decode cX10_started 154 = .ok (.laload, 1) := by decide +kernel
theorem dX10_started_155 : decode cX10_started 155 = .ok (.lastore, 1) := by decide +kernel
theorem dX10_started_156 : decode cX10_started 156 = .ok (.iinc 5 (-1), 3) := by decide +kernel
theorem dX10_started_159 : decode cX10_started 159 = .ok (.goto (-96), 3) := by decide +kernel
theorem dX10_started_162 : decode cX10_started 162 = .ok (.iload 4, 2) := by decide +kernel
theorem dX10_started_164 : decode cX10_started 164 = .ok (.ireturn, 1) := by decide +kernel
set_option maxRecDepth 20000 in
theorem ggX10_start_X10_isClass : GoodIn wsX10_start wsX10_isClass := goodIn_r _ [6, 7, 8, 9, 5, 10, 26, 27, 28, 29, 30, 31, 32, 33, 34, 35, 36, 37, 38, 39, 40, 41, 42, 43, 44, 45, 46, 47, 48, 49, 50, 51, 52, 53, 54, 55, 56, 57, 58, 59, 60, 61, 62, 63, 64, 65, 66, 67] (by decide +kernel) (by decide +kernel)
set_option maxRecDepth 20000 in
theorem gX10_start_X10_isClass : GoodIn wsX10_start (wsV RX10 194 RX10 yX10_isClass wsX10_isClass) := goodIn_app (goodIn_of _ (by decide +kernel)) ggX10_start_X10_isClass
set_option maxRecDepth 20000 in
theorem ggX10_start_X10_started : GoodIn wsX10_start wsX10_started := goodIn_r _ [14, 15, 16, 17, 18, 19, 20, 26, 27, 28, 29, 30, 31, 32, 33, 34, 35, 36, 37, 38, 39, 40, 41, 42, 43, 44, 45, 46, 47, 48, 49, 50, 51, 52, 53, 54, 55, 56, 57, 58, 59, 60, 61, 62, 63, 64, 65, 66, 67] (by decide +kernel) (by decide +kernel)
set_option maxRecDepth 20000 in
theorem gX10_start_X10_started : GoodIn wsX10_start (wsV RX10 197 RX10 yX10_started wsX10_started) := goodIn_app (goodIn_of _ (by decide +kernel)) ggX10_start_X10_started
set_option maxRecDepth 20000 in
theorem ggX10_start_X10_fails : GoodIn wsX10_start wsX10_fails := goodIn_r _ [24, 25, 26, 27, 28, 29, 30, 31, 32, 33, 34, 35, 36, 37, 38, 39, 40, 41, 42, 43, 44, 45, 46, 47, 48, 49, 50, 51, 52, 53, 54, 55, 56, 57, 58, 59, 60, 61, 62, 63, 64, 65, 66, 67] (by decide +kernel) (by decide +kernel)
set_option maxRecDepth 20000 in
theorem gX10_start_X10_fails : GoodIn wsX10_start (wsV RX10 187 RX10 yX10_fails wsX10_fails) := goodIn_app (goodIn_of _ (by decide +kernel)) ggX10_start_X10_fails
theorem dX10_start_0 : decode cX10_start 0 = .ok (.aload_n 0, 1) := by decide +kernel
theorem dX10_start_1 : decode cX10_start 1 = .ok (.iconst 0, 1) := by decide +kernel
theorem dX10_start_2 : decode cX10_start 2 = .ok (.putfield 1, 3) := by decide +kernel
theorem dX10_start_5 : decode cX10_start 5 = .ok (.aload_n 0, 1) := by decide +kernel
theorem dX10_start_6 : decode cX10_start 6 = .ok (.iload_n 1, 1) := by decide +kernel
theorem dX10_start_7 : decode cX10_start 7 = .ok (.invokevirtual 194, 3) := by decide +kernel
theorem dX10_start_10 : decode cX10_start 10 = .ok (.ifCond .ne 6, 3) := by decide +kernel
theorem dX10_start_13 : decode cX10_start 13 = .ok (.bipush (-2), 2) := by decide +kernel
theorem dX10_start_15 : decode cX10_start 15 = .ok (.ireturn, 1) := by decide +kernel
theorem dX10_start_16 : decode cX10_start 16 = .ok (.aload_n 0, 1) := by decide +kernel
theorem dX10_start_17 : decode cX10_start 17 = .ok (.iload_n 1, 1) := by decide +kernel
theorem dX10_start_18 : decode cX10_start 18 = .ok (.invokevirtual 197, 3) := by decide +kernel
theorem dX10_start_21 : decode cX10_start 21 = .ok (.istore_n 2, 1) := by decide +kernel
theorem dX10_start_22 : decode cX10_start 22 = .ok (.iload_n 2, 1) := by decide +kernel
theorem dX10_start_23 : decode cX10_start 23 = .ok (.ifCond .le 11, 3) := by decide +kernel
theorem dX10_start_26 : decode cX10_start 26 = .ok (.aload_n 0, 1) := by decide +kernel
theorem dX10_start_27 : decode cX10_start 27 = .ok (.iload_n 2, 1) := by decide +kernel
theorem dX10_start_28 : decode cX10_start 28 = .ok (.invokevirtual 187, 3) := by decide +kernel
theorem dX10_start_31 : decode cX10_start 31 = .ok (.goto 4, 3) := by decide +kernel
theorem dX10_start_34 : decode cX10_start 34 = .ok (.iconst 1, 1) := by decide +kernel
theorem dX10_start_35 : decode cX10_start 35 = .ok (.ireturn, 1) := by decide +kernel
set_option maxRecDepth 20000 in
theorem ggX10_value_X10_isClass : GoodIn wsX10_value wsX10_isClass := goodIn_r _ [9, 10, 11, 12, 8, 13, 28, 29, 30, 31, 32, 33, 34, 35, 36, 37, 38, 39, 40, 41, 42, 43, 44, 45, 46, 47, 48, 49, 50, 51, 52, 53, 54, 55, 56, 57, 58, 59, 60, 61, 62, 63, 64, 65, 66, 67, 68, 69] (by decide +kernel) (by decide +kernel)
set_option maxRecDepth 20000 in
theorem gX10_value_X10_isClass : GoodIn wsX10_value (wsV RX10 194 RX10 yX10_isClass wsX10_isClass) := goodIn_app (goodIn_of _ (by decide +kernel)) ggX10_value_X10_isClass
set_option maxRecDepth 20000 in
theorem ggX10_value_X10_started : GoodIn wsX10_value wsX10_started := goodIn_r _ [17, 18, 19, 20, 21, 22, 4, 28, 29, 30, 31, 32, 33, 34, 35, 36, 37, 38, 39, 40, 41, 42, 43, 44, 45, 46, 47, 48, 49, 50, 51, 52, 53, 54, 55, 56, 57, 58, 59, 60, 61, 62, 63, 64, 65, 66, 67, 68, 69] (by decide +kernel) (by decide +kernel)
set_option maxRecDepth 20000 in
theorem gX10_value_X10_started : GoodIn wsX10_value (wsV RX10 197 RX10 yX10_started wsX10_started) := goodIn_app (goodIn_of _ (by decide +kernel)) ggX10_value_X10_started
set_option maxRecDepth 20000 in
theorem ggX10_value_X10_fails : GoodIn wsX10_value wsX10_fails := goodIn_r _ [26, 27, 28, 29, 30, 31, 32, 33, 34, 35, 36, 37, 38, 39, 40, 41, 42, 43, 44, 45, 46, 47, 48, 49, 50, 51, 52, 53, 54, 55, 56, 57, 58, 59, 60, 61, 62, 63, 64, 65, 66, 67, 68, 69] (by decide +kernel) (by decide +kernel)
set_option maxRecDepth 20000 in
theorem gX10_value_X10_fails : GoodIn wsX10_value (wsV RX10 187 RX10 yX10_fails wsX10_fails) := goodIn_app (goodIn_of _ (by decide +kernel)) ggX10_value_X10_fails
theorem dX10_value_0 : decode cX10_value 0 = .ok (.aload_n 0, 1) := by decide +kernel
theorem dX10_value_1 : decode cX10_value 1 = .ok (.iconst 0, 1) := by decide +kernel
theorem dX10_value_2 : decode cX10_value 2 = .ok (.putfield 1, 3) := by decide +kernel
theorem dX10_value_5 : decode cX10_value 5 = .ok (.aload_n 0, 1) := by decide +kernel
theorem dX10_value_6 : decode cX10_value 6 = .ok (.iload_n 1, 1) := by decide +kernel
theorem dX10_value_7 : decode cX10_value 7 = .ok (.invokevirtual 194, 3) := by decide +kernel
theorem dX10_value_10 : decode cX10_value 10 = .ok (.ifCond .ne 7, 3) := by decide +kernel
theorem dX10_value_13 : decode cX10_value 13 = .ok (.ldc2_w 200, 3) := by decide +kernel
theorem dX10_value_16 : decode cX10_value 16 = .ok (.lreturn, 1) := by decide +kernel
theorem dX10_value_17 : decode cX10_value 17 = .ok (.aload_n 0, 1) := by decide +kernel
theorem dX10_value_18 : decode cX10_value 18 = .ok (.iload_n 1, 1) := by decide +kernel
theorem dX10_value_19 : decode cX10_value 19 = .ok (.invokevirtual 197, 3) := by decide +kernel
theorem dX10_value_22 : decode cX10_value 22 = .ok (.istore_n 2, 1) := by decide +kernel
theorem dX10_value_23 : decode cX10_value 23 = .ok (.iload_n 2, 1) := by decide +kernel
theorem dX10_value_24 : decode cX10_value 24 = .ok (.ifCond .le 16, 3) := by decide +kernel
theorem dX10_value_27 : decode cX10_value 27 = .ok (.ldc2_w 202, 3) := by decide +kernel
theorem dX10_value_30 : decode cX10_value 30 = .ok (.aload_n 0, 1) := by decide +kernel
theorem dX10_value_31 : decode cX10_value 31 = .ok (.iload_n 2, 1) := by decide +kernel
theorem dX10_value_32 : decode cX10_value 32 = .ok (.invokevirtual 187, 3) := by decide +kernel
theorem dX10_value_35 : decode cX10_value 35 = .ok (.i2l, 1) := by decide +kernel
theorem dX10_value_36 : decode cX10_value 36 = .ok (.lsub, 1) := by decide +kernel
theorem dX10_value_37 : decode cX10_value 37 = .ok (.goto 9, 3) := by decide +kernel
theorem dX10_value_40 : decode cX10_value 40 = .ok (.aload_n 0, 1) := by decide +kernel
theorem dX10_value_41 : decode cX10_value 41 = .ok (.getfield 72, 3) := by decide +kernel
theorem dX10_value_44 : decode cX10_value 44 = .ok (.iload_n 1, 1) := by decide +kernel
theorem dX10_value_45 : decode cX10_value 45 = .ok (.laload, 1) := by decide +kernel
theorem dX10_value_46 : decode cX10_value 46 = .ok (.lreturn, 1) := by decide +kernel
set_option maxRecDepth 20000 in
theorem ggX10_make_X10_isClass : GoodIn wsX10_make wsX10_isClass := goodIn_r _ [8, 9, 10, 11, 7, 12, 28, 29, 30, 31, 32, 33, 34, 35, 36, 37, 38, 39, 40, 41, 42, 43, 44, 45, 46, 47, 48, 49, 50, 51, 52, 53, 54, 55, 56, 57, 58, 59, 60, 61, 62, 63, 64, 65, 66, 67, 68, 69] (by decide +kernel) (by decide +kernel)
set_option maxRecDepth 20000 in
theorem gX10_make_X10_isClass : GoodIn wsX10_make (wsV RX10 194 RX10 yX10_isClass wsX10_isClass) := goodIn_app (goodIn_of _ (by decide +kernel)) ggX10_make_X10_isClass
set_option maxRecDepth 20000 in
theorem ggX10_make_X10_started : GoodIn wsX10_make wsX10_started := goodIn_r _ [16, 17, 18, 19, 20, 21, 22, 28, 29, 30, 31, 32, 33, 34, 35, 36, 37, 38, 39, 40, 41, 42, 43, 44, 45, 46, 47, 48, 49, 50, 51, 52, 53, 54, 55, 56, 57, 58, 59, 60, 61, 62, 63, 64, 65, 66, 67, 68, 69] (by decide +kernel) (by decide +kernel)
set_option maxRecDepth 20000 in
theorem gX10_make_X10_started : GoodIn wsX10_make (wsV RX10 197 RX10 yX10_started wsX10_started) := goodIn_app (goodIn_of _ (by decide +kernel)) ggX10_make_X10_started
set_option maxRecDepth 20000 in
theorem ggX10_make_X10_fails : GoodIn wsX10_make wsX10_fails := goodIn_r _ [26, 27, 28, 29, 30, 31, 32, 33, 34, 35, 36, 37, 38, 39, 40, 41, 42, 43, 44, 45, 46, 47, 48, 49, 50, 51, 52, 53, 54, 55, 56, 57, 58, 59, 60, 61, 62, 63, 64, 65, 66, 67, 68, 69] (by decide +kernel) (by decide +kernel)
set_option maxRecDepth 20000 in
theorem gX10_make_X10_fails : GoodIn wsX10_make (wsV RX10 187 RX10 yX10_fails wsX10_fails) := goodIn_app (goodIn_of _ (by decide +kernel)) ggX10_make_X10_fails
theorem dX10_make_0 : decode cX10_make 0 = .ok (.aload_n 0, 1) := by decide +kernel
theorem dX10_make_1 : decode cX10_make 1 = .ok (.iconst 0, 1) := by decide +kernel
theorem dX10_make_2 : decode cX10_make 2 = .ok (.putfield 1, 3) := by decide +kernel
theorem dX10_make_5 : decode cX10_make 5 = .ok (.aload_n 0, 1) := by decide +kernel
theorem dX10_make_6 : decode cX10_make 6 = .ok (.iload_n 1, 1) := by decide +kernel
theorem dX10_make_7 : decode cX10_make 7 = .ok (.invokevirtual 194, 3) := by decide +kernel
theorem dX10_make_10 : decode cX10_make 10 = .ok (.ifCond .ne 6, 3) := by decide +kernel
theorem dX10_make_13 : decode cX10_make 13 = .ok (.bipush (-2), 2) := by decide +kernel
theorem dX10_make_15 : decode cX10_make 15 = .ok (.ireturn, 1) := by decide +kernel
theorem dX10_make_16 : decode cX10_make 16 = .ok (.aload_n 0, 1) := by decide +kernel
theorem dX10_make_17 : decode cX10_make 17 = .ok (.getfield 204, 3) := by decide +kernel
theorem dX10_make_20 : decode cX10_make 20 = .ok (.bipush 60, 2) := by decide +kernel
theorem dX10_make_22 : decode cX10_make 22 = .ok (.if_icmp .ne 6, 3) := by decide +kernel
theorem dX10_make_25 : decode cX10_make 25 = .ok (.bipush (-5), 2) := by decide +kernel
theorem dX10_make_27 : decode cX10_make 27 = .ok (.ireturn, 1) := by decide +kernel
theorem dX10_make_28 : decode cX10_make 28 = .ok (.aload_n 0, 1) := by decide +kernel
theorem dX10_make_29 : decode cX10_make 29 = .ok (.iload_n 1, 1) := by decide +kernel
theorem dX10_make_30 : decode cX10_make 30 = .ok (.invokevirtual 197, 3) := by decide +kernel
theorem dX10_make_33 : decode cX10_make 33 = .ok (.istore_n 2, 1) := by decide +kernel
theorem dX10_make_34 : decode cX10_make 34 = .ok (.iload_n 2, 1) := by decide +kernel
theorem dX10_make_35 : decode cX10_make 35 = .ok (.ifCond .le 9, 3) := by decide +kernel
theorem dX10_make_38 : decode cX10_make 38 = .ok (.aload_n 0, 1) := by decide +kernel
theorem dX10_make_39 : decode cX10_make 39 = .ok (.iload_n 2, 1) := by decide +kernel
theorem dX10_make_40 : decode cX10_make 40 = .ok (.invokevirtual 187, 3) := by decide +kernel
theorem dX10_make_43 : decode cX10_make 43 = .ok (.ireturn, 1) := by decide +kernel
theorem dX10_make_44 : decode cX10_make 44 = .ok (.aload_n 0, 1) := by decide +kernel
theorem dX10_make_45 : decode cX10_make 45 = .ok (.getfield 97, 3) := by decide +kernel
theorem dX10_make_48 : decode cX10_make 48 = .ok (.aload_n 0, 1) := by decide +kernel
theorem dX10_make_49 : decode cX10_make 49 = .ok (.getfield 204, 3) := by decide +kernel
theorem dX10_make_52 : decode cX10_make 52 = .ok (.iload_n 1, 1) := by decide +kernel
theorem dX10_make_53 : decode cX10_make 53 = .ok (.iastore, 1) := by decide +kernel
theorem dX10_make_54 : decode cX10_make 54 = .ok (.aload_n 0, 1) := by decide +kernel
theorem dX10_make_55 : decode cX10_make 55 = .ok (.dup, 1) := by decide +kernel
theorem dX10_make_56 : decode cX10_make 56 = .ok (.getfield 204, 3) := by decide +kernel
theorem dX10_make_59 : decode cX10_make 59 = .ok (.iconst 1, 1) := by decide +kernel
theorem dX10_make_60 : decode cX10_make 60 = .ok (.iadd, 1) := by decide +kernel
theorem dX10_make_61 : decode cX10_make 61 = .ok (.putfield 204, 3) := by decide +kernel
theorem dX10_make_64 : decode cX10_make 64 = .ok (.aload_n 0, 1) := by decide +kernel
theorem dX10_make_65 : decode cX10_make 65 = .ok (.getfield 204, 3) := by decide +kernel
theorem dX10_make_68 : decode cX10_make 68 = .ok (.iconst 1, 1) := by decide +kernel
theorem dX10_make_69 : decode cX10_make 69 = .ok (.isub, 1) := by decide +kernel
theorem dX10_make_70 : decode cX10_make 70 = .ok (.ireturn, 1) := by decide +kernel
theorem dX10_isOf_0 : decode cX10_isOf 0 = .ok (.iload_n 1, 1) := by decide +kernel
theorem dX10_isOf_1 : decode cX10_isOf 1 = .ok (.istore_n 3, 1) := by decide +kernel
theorem dX10_isOf_2 : decode cX10_isOf 2 = .ok (.iload_n 3, 1) := by decide +kernel
theorem dX10_isOf_3 : decode cX10_isOf 3 = .ok (.ifCond .lt 18, 3) := by decide +kernel
theorem dX10_isOf_6 : decode cX10_isOf 6 = .ok (.iload_n 3, 1) := by decide +kernel
theorem dX10_isOf_7 : decode cX10_isOf 7 = .ok (.iload_n 2, 1) := by decide +kernel
theorem dX10_isOf_8 : decode cX10_isOf 8 = .ok (.if_icmp .eq 13, 3) := by decide +kernel
theorem dX10_isOf_11 : decode cX10_isOf 11 = .ok (.aload_n 0, 1) := by decide +kernel
theorem dX10_isOf_12 : decode cX10_isOf 12 = .ok (.getfield 66, 3) := by decide +kernel
theorem dX10_isOf_15 : decode cX10_isOf 15 = .ok (.iload_n 3, 1) := by decide +kernel
theorem dX10_isOf_16 : decode cX10_isOf 16 = .ok (.iaload, 1) := by decide +kernel
theorem dX10_isOf_17 : decode cX10_isOf 17 = .ok (.istore_n 3, 1) := by decide +kernel
theorem dX10_isOf_18 : decode cX10_isOf 18 = .ok (.goto (-16), 3) := by decide +kernel
theorem dX10_isOf_21 : decode cX10_isOf 21 = .ok (.iload_n 3, 1) := by decide +kernel
theorem dX10_isOf_22 : decode cX10_isOf 22 = .ok (.iload_n 2, 1) := by decide +kernel
theorem dX10_isOf_23 : decode cX10_isOf 23 = .ok (.if_icmp .ne 7, 3) := by decide +kernel
theorem dX10_isOf_26 : decode cX10_isOf 26 = .ok (.iconst 1, 1) := by decide +kernel
theorem dX10_isOf_27 : decode cX10_isOf 27 = .ok (.goto 4, 3) := by decide +kernel
theorem dX10_isOf_30 : decode cX10_isOf 30 = .ok (.iconst 0, 1) := by decide +kernel
theorem dX10_isOf_31 : decode cX10_isOf 31 = .ok (.ireturn, 1) := by decide +kernel
set_option maxRecDepth 20000 in
theorem ggX10_isObject_X10_in : GoodIn wsX10_isObject wsX10_in := goodIn_r _ [5] (by decide +kernel) (by decide +kernel)
set_option maxRecDepth 20000 in
theorem gX10_isObject_X10_in : GoodIn wsX10_isObject (va_wsS RX10 123 yX10_in wsX10_in) := goodIn_app (goodIn_of _ (by decide +kernel)) ggX10_isObject_X10_in
theorem dX10_isObject_0 : decode cX10_isObject 0 = .ok (.iload_n 1, 1) := by decide +kernel
theorem dX10_isObject_1 : decode cX10_isObject 1 = .ok (.i2l, 1) := by decide +kernel
theorem dX10_isObject_2 : decode cX10_isObject 2 = .ok (.lconst 0, 1) := by decide +kernel
theorem dX10_isObject_3 : decode cX10_isObject 3 = .ok (.aload_n 0, 1) := by decide +kernel
theorem dX10_isObject_4 : decode cX10_isObject 4 = .ok (.getfield 204, 3) := by decide +kernel
theorem dX10_isObject_7 : decode cX10_isObject 7 = .ok (.iconst 1, 1) := by decide +kernel
theorem dX10_isObject_8 : decode cX10_isObject 8 = .ok (.isub, 1) := by decide +kernel
theorem dX10_isObject_9 : decode cX10_isObject 9 = .ok (.i2l, 1) := by decide +kernel
theorem dX10_isObject_10 : decode cX10_isObject 10 = .ok (.invokestatic 123, 3) := by decide +kernel
theorem dX10_isObject_13 : decode cX10_isObject 13 = .ok (.ireturn, 1) := by decide +kernel
set_option maxRecDepth 20000 in
theorem ggX10_isRow_X10_in : GoodIn wsX10_isRow wsX10_in := goodIn_r _ [5] (by decide +kernel) (by decide +kernel)
set_option maxRecDepth 20000 in
theorem gX10_isRow_X10_in : GoodIn wsX10_isRow (va_wsS RX10 123 yX10_in wsX10_in) := goodIn_app (goodIn_of _ (by decide +kernel)) ggX10_isRow_X10_in
theorem dX10_isRow_0 : decode cX10_isRow 0 = .ok (.iload_n 1, 1) := by decide +kernel
theorem dX10_isRow_1 : decode cX10_isRow 1 = .ok (.i2l, 1) := by decide +kernel
theorem dX10_isRow_2 : decode cX10_isRow 2 = .ok (.lconst 0, 1) := by decide +kernel
theorem dX10_isRow_3 : decode cX10_isRow 3 = .ok (.aload_n 0, 1) := by decide +kernel
theorem dX10_isRow_4 : decode cX10_isRow 4 = .ok (.getfield 207, 3) := by decide +kernel
theorem dX10_isRow_7 : decode cX10_isRow 7 = .ok (.iconst 1, 1) := by decide +kernel
theorem dX10_isRow_8 : decode cX10_isRow 8 = .ok (.isub, 1) := by decide +kernel
theorem dX10_isRow_9 : decode cX10_isRow 9 = .ok (.i2l, 1) := by decide +kernel
theorem dX10_isRow_10 : decode cX10_isRow 10 = .ok (.invokestatic 123, 3) := by decide +kernel
theorem dX10_isRow_13 : decode cX10_isRow 13 = .ok (.ireturn, 1) := by decide +kernel
set_option maxRecDepth 20000 in
theorem ggX10_cast_X10_isObject : GoodIn wsX10_cast wsX10_isObject := goodIn_r _ [7, 8, 9, 10, 6, 11, 27, 28, 29, 30, 31, 32, 33, 34, 35, 36, 37, 38, 39, 40, 41, 42, 43, 44, 45, 46, 47, 48, 49, 50, 51, 52, 53, 54, 55, 56, 57, 58, 59, 60, 61, 62, 63, 64, 65, 66, 67, 68] (by decide +kernel) (by decide +kernel)
set_option maxRecDepth 20000 in
theorem gX10_cast_X10_isObject : GoodIn wsX10_cast (wsV RX10 210 RX10 yX10_isObject wsX10_isObject) := goodIn_app (goodIn_of _ (by decide +kernel)) ggX10_cast_X10_isObject
set_option maxRecDepth 20000 in
theorem ggX10_cast_X10_isClass : GoodIn wsX10_cast wsX10_isClass := goodIn_r _ [15, 16, 9, 10, 6, 11, 27, 28, 29, 30, 31, 32, 33, 34, 35, 36, 37, 38, 39, 40, 41, 42, 43, 44, 45, 46, 47, 48, 49, 50, 51, 52, 53, 54, 55, 56, 57, 58, 59, 60, 61, 62, 63, 64, 65, 66, 67, 68] (by decide +kernel) (by decide +kernel)
set_option maxRecDepth 20000 in
theorem gX10_cast_X10_isClass : GoodIn wsX10_cast (wsV RX10 194 RX10 yX10_isClass wsX10_isClass) := goodIn_app (goodIn_of _ (by decide +kernel)) ggX10_cast_X10_isClass
set_option maxRecDepth 20000 in
theorem ggX10_cast_X10_isOf : GoodIn wsX10_cast wsX10_isOf := goodIn_r _ [20, 21, 27, 28, 29, 30, 31, 32, 33, 34, 35, 36, 37, 38, 39, 40, 41, 42, 43, 44, 45, 46, 47, 48, 49, 50, 51, 52, 53, 54, 55, 56, 57, 58, 59, 60, 61, 62, 63, 64, 65, 66, 67, 68] (by decide +kernel) (by decide +kernel)
set_option maxRecDepth 20000 in
theorem gX10_cast_X10_isOf : GoodIn wsX10_cast (wsV RX10 213 RX10 yX10_isOf wsX10_isOf) := goodIn_app (goodIn_of _ (by decide +kernel)) ggX10_cast_X10_isOf
set_option maxRecDepth 20000 in
theorem ggX10_cast_X10_fails : GoodIn wsX10_cast wsX10_fails := goodIn_r _ [25, 26, 27, 28, 29, 30, 31, 32, 33, 34, 35, 36, 37, 38, 39, 40, 41, 42, 43, 44, 45, 46, 47, 48, 49, 50, 51, 52, 53, 54, 55, 56, 57, 58, 59, 60, 61, 62, 63, 64, 65, 66, 67, 68] (by decide +kernel) (by decide +kernel)
set_option maxRecDepth 20000 in
theorem gX10_cast_X10_fails : GoodIn wsX10_cast (wsV RX10 187 RX10 yX10_fails wsX10_fails) := goodIn_app (goodIn_of _ (by decide +kernel)) ggX10_cast_X10_fails
theorem dX10_cast_0 : decode cX10_cast 0 = .ok (.aload_n 0, 1) := by decide +kernel
theorem dX10_cast_1 : decode cX10_cast 1 = .ok (.iconst 0, 1) := by decide +kernel
theorem dX10_cast_2 : decode cX10_cast 2 = .ok (.putfield 1, 3) := by decide +kernel
theorem dX10_cast_5 : decode cX10_cast 5 = .ok (.aload_n 0, 1) := by decide +kernel
theorem dX10_cast_6 : decode cX10_cast 6 = .ok (.iload_n 1, 1) := by decide +kernel
theorem dX10_cast_7 : decode cX10_cast 7 = .ok (.invokevirtual 210, 3) := by decide +kernel
theorem dX10_cast_10 : decode cX10_cast 10 = .ok (.ifCond .eq 11, 3) := by decide +kernel
theorem dX10_cast_13 : decode cX10_cast 13 = .ok (.aload_n 0, 1) := by decide +kernel
theorem dX10_cast_14 : decode cX10_cast 14 = .ok (.iload_n 2, 1) := by decide +kernel
theorem dX10_cast_15 : decode cX10_cast 15 = .ok (.invokevirtual 194, 3) := by decide +kernel
theorem dX10_cast_18 : decode cX10_cast 18 = .ok (.ifCond .ne 6, 3) := by decide +kernel
theorem dX10_cast_21 : decode cX10_cast 21 = .ok (.bipush (-2), 2) := by decide +kernel
theorem dX10_cast_23 : decode cX10_cast 23 = .ok (.ireturn, 1) := by decide +kernel
theorem dX10_cast_24 : decode cX10_cast 24 = .ok (.aload_n 0, 1) := by decide +kernel
theorem dX10_cast_25 : decode cX10_cast 25 = .ok (.aload_n 0, 1) := by decide +kernel
theorem dX10_cast_26 : decode cX10_cast 26 = .ok (.getfield 97, 3) := by decide +kernel
theorem dX10_cast_29 : decode cX10_cast 29 = .ok (.iload_n 1, 1) := by decide +kernel
theorem dX10_cast_30 : decode cX10_cast 30 = .ok (.iaload, 1) := by decide +kernel
theorem dX10_cast_31 : decode cX10_cast 31 = .ok (.iload_n 2, 1) := by decide +kernel
theorem dX10_cast_32 : decode cX10_cast 32 = .ok (.invokevirtual 213, 3) := by decide +kernel
theorem dX10_cast_35 : decode cX10_cast 35 = .ok (.ifCond .eq 7, 3) := by decide +kernel
theorem dX10_cast_38 : decode cX10_cast 38 = .ok (.iconst 1, 1) := by decide +kernel
theorem dX10_cast_39 : decode cX10_cast 39 = .ok (.goto 8, 3) := by decide +kernel
theorem dX10_cast_42 : decode cX10_cast 42 = .ok (.aload_n 0, 1) := by decide +kernel
theorem dX10_cast_43 : decode cX10_cast 43 = .ok (.iconst 5, 1) := by decide +kernel
theorem dX10_cast_44 : decode cX10_cast 44 = .ok (.invokevirtual 187, 3) := by decide +kernel
theorem dX10_cast_47 : decode cX10_cast 47 = .ok (.ireturn, 1) := by decide +kernel
set_option maxRecDepth 20000 in
theorem ggX10_row_X10_isClass : GoodIn wsX10_row wsX10_isClass := goodIn_r _ [10, 11, 12, 13, 9, 14, 15, 16, 17, 18, 19, 20, 21, 22, 23, 24, 25, 26, 27, 28, 29, 30, 31, 32, 33, 34, 35, 36, 37, 38, 39, 40, 41, 42, 43, 44, 45, 46, 47, 48, 49, 50, 51, 52, 53, 54, 55, 56] (by decide +kernel) (by decide +kernel)
set_option maxRecDepth 20000 in
theorem gX10_row_X10_isClass : GoodIn wsX10_row (wsV RX10 194 RX10 yX10_isClass wsX10_isClass) := goodIn_app (goodIn_of _ (by decide +kernel)) ggX10_row_X10_isClass
set_option maxRecDepth 20000 in
theorem ggX10_row_X10_in : GoodIn wsX10_row wsX10_in := goodIn_r _ [14] (by decide +kernel) (by decide +kernel)
set_option maxRecDepth 20000 in
theorem gX10_row_X10_in : GoodIn wsX10_row (va_wsS RX10 123 yX10_in wsX10_in) := goodIn_app (goodIn_of _ (by decide +kernel)) ggX10_row_X10_in
theorem dX10_row_0 : decode cX10_row 0 = .ok (.aload_n 0, 1) := by decide +kernel
theorem dX10_row_1 : decode cX10_row 1 = .ok (.iconst 0, 1) := by decide +kernel
theorem dX10_row_2 : decode cX10_row 2 = .ok (.putfield 1, 3) := by decide +kernel
theorem dX10_row_5 : decode cX10_row 5 = .ok (.aload_n 0, 1) := by decide +kernel
theorem dX10_row_6 : decode cX10_row 6 = .ok (.iload_n 1, 1) := by decide +kernel
theorem dX10_row_7 : decode cX10_row 7 = .ok (.invokevirtual 194, 3) := by decide +kernel
theorem dX10_row_10 : decode cX10_row 10 = .ok (.ifCond .ne 6, 3) := by decide +kernel
theorem dX10_row_13 : decode cX10_row 13 = .ok (.bipush (-2), 2) := by decide +kernel
theorem dX10_row_15 : decode cX10_row 15 = .ok (.ireturn, 1) := by decide +kernel
theorem dX10_row_16 : decode cX10_row 16 = .ok (.iload_n 2, 1) := by decide +kernel
theorem dX10_row_17 : decode cX10_row 17 = .ok (.i2l, 1) := by decide +kernel
theorem dX10_row_18 : decode cX10_row 18 = .ok (.lconst 0, 1) := by decide +kernel
theorem dX10_row_19 : decode cX10_row 19 = .ok (.ldc2_w 217, 3) := by decide +kernel
theorem dX10_row_22 : decode cX10_row 22 = .ok (.invokestatic 123, 3) := by decide +kernel
theorem dX10_row_25 : decode cX10_row 25 = .ok (.ifCond .ne 6, 3) := by decide +kernel
theorem dX10_row_28 : decode cX10_row 28 = .ok (.bipush (-3), 2) := by decide +kernel
theorem dX10_row_30 : decode cX10_row 30 = .ok (.ireturn, 1) := by decide +kernel
theorem dX10_row_31 : decode cX10_row 31 = .ok (.aload_n 0, 1) := by decide +kernel
theorem dX10_row_32 : decode cX10_row 32 = .ok (.getfield 207, 3) := by decide +kernel
theorem dX10_row_35 : decode cX10_row 35 = .ok (.bipush 20, 2) := by decide +kernel
theorem dX10_row_37 : decode cX10_row 37 = .ok (.if_icmp .ne 6, 3) := by decide +kernel
theorem dX10_row_40 : decode cX10_row 40 = .ok (.bipush (-5), 2) := by decide +kernel
theorem dX10_row_42 : decode cX10_row 42 = .ok (.ireturn, 1) := by decide +kernel
theorem dX10_row_43 : decode cX10_row 43 = .ok (.aload_n 0, 1) := by decide +kernel
theorem dX10_row_44 : decode cX10_row 44 = .ok (.getfield 100, 3) := by decide +kernel
theorem dX10_row_47 : decode cX10_row 47 = .ok (.aload_n 0, 1) := by decide +kernel
theorem dX10_row_48 : decode cX10_row 48 = .ok (.getfield 207, 3) := by decide +kernel
theorem dX10_row_51 : decode cX10_row 51 = .ok (.iload_n 1, 1) := by decide +kernel
theorem dX10_row_52 : decode cX10_row 52 = .ok (.iastore, 1) := by decide +kernel
theorem dX10_row_53 : decode cX10_row 53 = .ok (.aload_n 0, 1) := by decide +kernel
theorem dX10_row_54 : decode cX10_row 54 = .ok (.getfield 103, 3) := by decide +kernel
theorem dX10_row_57 : decode cX10_row 57 = .ok (.aload_n 0, 1) := by decide +kernel
theorem dX10_row_58 : decode cX10_row 58 = .ok (.getfield 207, 3) := by decide +kernel
theorem dX10_row_61 : decode cX10_row 61 = .ok (.iload_n 2, 1) := by decide +kernel
theorem dX10_row_62 : decode cX10_row 62 = .ok (.iastore, 1) := by decide +kernel
theorem dX10_row_63 : decode cX10_row 63 = .ok (.aload_n 0, 1) := by decide +kernel
theorem dX10_row_64 : decode cX10_row 64 = .ok (.dup, 1) := by decide +kernel
theorem dX10_row_65 : decode cX10_row 65 = .ok (.getfield 207, 3) := by decide +kernel
theorem dX10_row_68 : decode cX10_row 68 = .ok (.iconst 1, 1) := by decide +kernel
theorem dX10_row_69 : decode cX10_row 69 = .ok (.iadd, 1) := by decide +kernel
theorem dX10_row_70 : decode cX10_row 70 = .ok (.putfield 207, 3) := by decide +kernel
theorem dX10_row_73 : decode cX10_row 73 = .ok (.aload_n 0, 1) := by decide +kernel
theorem dX10_row_74 : decode cX10_row 74 = .ok (.getfield 207, 3) := by decide +kernel
theorem dX10_row_77 : decode cX10_row 77 = .ok (.iconst 1, 1) := by decide +kernel
theorem dX10_row_78 : decode cX10_row 78 = .ok (.isub, 1) := by decide +kernel
theorem dX10_row_79 : decode cX10_row 79 = .ok (.ireturn, 1) := by decide +kernel
set_option maxRecDepth 20000 in
theorem ggX10_put_X10_isRow : GoodIn wsX10_put wsX10_isRow := goodIn_r _ [10, 11, 12, 13, 9, 14, 30, 31, 32, 33, 34, 35, 36, 37, 38, 39, 40, 41, 42, 43, 44, 45, 46, 47, 48, 49, 50, 51, 52, 53, 54, 55, 56, 57, 58, 59, 60, 61, 62, 63, 64, 65, 66, 67, 68, 69, 70, 71] (by decide +kernel) (by decide +kernel)
set_option maxRecDepth 20000 in
theorem gX10_put_X10_isRow : GoodIn wsX10_put (wsV RX10 219 RX10 yX10_isRow wsX10_isRow) := goodIn_app (goodIn_of _ (by decide +kernel)) ggX10_put_X10_isRow
set_option maxRecDepth 20000 in
theorem ggX10_put_X10_isObject : GoodIn wsX10_put wsX10_isObject := goodIn_r _ [18, 19, 12, 13, 9, 14, 30, 31, 32, 33, 34, 35, 36, 37, 38, 39, 40, 41, 42, 43, 44, 45, 46, 47, 48, 49, 50, 51, 52, 53, 54, 55, 56, 57, 58, 59, 60, 61, 62, 63, 64, 65, 66, 67, 68, 69, 70, 71] (by decide +kernel) (by decide +kernel)
set_option maxRecDepth 20000 in
theorem gX10_put_X10_isObject : GoodIn wsX10_put (wsV RX10 210 RX10 yX10_isObject wsX10_isObject) := goodIn_app (goodIn_of _ (by decide +kernel)) ggX10_put_X10_isObject
set_option maxRecDepth 20000 in
theorem ggX10_put_X10_in : GoodIn wsX10_put wsX10_in := goodIn_r _ [14] (by decide +kernel) (by decide +kernel)
set_option maxRecDepth 20000 in
theorem gX10_put_X10_in : GoodIn wsX10_put (va_wsS RX10 123 yX10_in wsX10_in) := goodIn_app (goodIn_of _ (by decide +kernel)) ggX10_put_X10_in
set_option maxRecDepth 20000 in
theorem ggX10_put_X10_fails : GoodIn wsX10_put wsX10_fails := goodIn_r _ [23, 24, 30, 31, 32, 33, 34, 35, 36, 37, 38, 39, 40, 41, 42, 43, 44, 45, 46, 47, 48, 49, 50, 51, 52, 53, 54, 55, 56, 57, 58, 59, 60, 61, 62, 63, 64, 65, 66, 67, 68, 69, 70, 71] (by decide +kernel) (by decide +kernel)
set_option maxRecDepth 20000 in
theorem gX10_put_X10_fails : GoodIn wsX10_put (wsV RX10 187 RX10 yX10_fails wsX10_fails) := goodIn_app (goodIn_of _ (by decide +kernel)) ggX10_put_X10_fails
set_option maxRecDepth 20000 in
theorem ggX10_put_X10_isOf : GoodIn wsX10_put wsX10_isOf := goodIn_r _ [28, 29, 30, 31, 32, 33, 34, 35, 36, 37, 38, 39, 40, 41, 42, 43, 44, 45, 46, 47, 48, 49, 50, 51, 52, 53, 54, 55, 56, 57, 58, 59, 60, 61, 62, 63, 64, 65, 66, 67, 68, 69, 70, 71] (by decide +kernel) (by decide +kernel)
set_option maxRecDepth 20000 in
theorem gX10_put_X10_isOf : GoodIn wsX10_put (wsV RX10 213 RX10 yX10_isOf wsX10_isOf) := goodIn_app (goodIn_of _ (by decide +kernel)) ggX10_put_X10_isOf
theorem dX10_put_0 : decode cX10_put 0 = .ok (.aload_n 0, 1) := by decide +kernel
theorem dX10_put_1 : decode cX10_put 1 = .ok (.iconst 0, 1) := by decide +kernel
theorem dX10_put_2 : decode cX10_put 2 = .ok (.putfield 1, 3) := by decide +kernel
theorem dX10_put_5 : decode cX10_put 5 = .ok (.aload_n 0, 1) := by decide +kernel
theorem dX10_put_6 : decode cX10_put 6 = .ok (.iload_n 1, 1) := by decide +kernel
theorem dX10_put_7 : decode cX10_put 7 = .ok (.invokevirtual 219, 3) := by decide +kernel
theorem dX10_put_10 : decode cX10_put 10 = .ok (.ifCond .eq 16, 3) := by decide +kernel
theorem dX10_put_13 : decode cX10_put 13 = .ok (.iload_n 3, 1) := by decide +kernel
theorem dX10_put_14 : decode cX10_put 14 = .ok (.iconst (-1), 1) := by decide +kernel
theorem dX10_put_15 : decode cX10_put 15 = .ok (.if_icmp .eq 14, 3) := by decide +kernel
theorem dX10_put_18 : decode cX10_put 18 = .ok (.aload_n 0, 1) := by decide +kernel
theorem dX10_put_19 : decode cX10_put 19 = .ok (.iload_n 3, 1) := by decide +kernel
theorem dX10_put_20 : decode cX10_put 20 = .ok (.invokevirtual 210, 3) := by decide +kernel
theorem dX10_put_23 : decode cX10_put 23 = .ok (.ifCond .ne 6, 3) := by decide +kernel
theorem dX10_put_26 : decode cX10_put 26 = .ok (.bipush (-2), 2) := by decide +kernel
theorem dX10_put_28 : decode cX10_put 28 = .ok (.ireturn, 1) := by decide +kernel
theorem dX10_put_29 : decode cX10_put 29 = .ok (.iload_n 2, 1) := by decide +kernel
theorem dX10_put_30 : decode cX10_put 30 = .ok (.i2l, 1) := by decide +kernel
theorem dX10_put_31 : decode cX10_put 31 = .ok (.lconst 0, 1) := by decide +kernel
theorem dX10_put_32 : decode cX10_put 32 = .ok (.aload_n 0, 1) := by decide +kernel
theorem dX10_put_33 : decode cX10_put 33 = .ok (.getfield 103, 3) := by decide +kernel
theorem dX10_put_36 : decode cX10_put 36 = .ok (.iload_n 1, 1) := by decide +kernel
theorem dX10_put_37 : decode cX10_put 37 = .ok (.iaload, 1) := by decide +kernel
theorem dX10_put_38 : decode cX10_put 38 = .ok (.iconst 1, 1) := by decide +kernel
theorem dX10_put_39 : decode cX10_put 39 = .ok (.isub, 1) := by decide +kernel
theorem dX10_put_40 : decode cX10_put 40 = .ok (.i2l, 1) := by decide +kernel
theorem dX10_put_41 : decode cX10_put 41 = .ok (.invokestatic 123, 3) := by decide +kernel
theorem dX10_put_44 : decode cX10_put 44 = .ok (.ifCond .ne 10, 3) := by decide +kernel
theorem dX10_put_47 : decode cX10_put 47 = .ok (.aload_n 0, 1) := by decide +kernel
theorem dX10_put_48 : decode cX10_put 48 = .ok (.bipush 11, 2) := by decide +kernel
theorem dX10_put_50 : decode cX10_put 50 = .ok (.invokevirtual 187, 3) := by decide +kernel
theorem dX10_put_53 : decode cX10_put 53 = .ok (.ireturn, 1) := by decide +kernel
theorem dX10_put_54 : decode cX10_put 54 = .ok (.iload_n 3, 1) := by decide +kernel
theorem dX10_put_55 : decode cX10_put 55 = .ok (.ifCond .lt 29, 3) := by decide +kernel
theorem dX10_put_58 : decode cX10_put 58 = .ok (.aload_n 0, 1) := by decide +kernel
theorem dX10_put_59 : decode cX10_put 59 = .ok (.aload_n 0, 1) := by decide +kernel
theorem dX10_put_60 : decode cX10_put 60 = .ok (.getfield 97, 3) := by decide +kernel
theorem dX10_put_63 : decode cX10_put 63 = .ok (.iload_n 3, 1) := by decide +kernel
theorem dX10_put_64 : decode cX10_put 64 = .ok (.iaload, 1) := by decide +kernel
theorem dX10_put_65 : decode cX10_put 65 = .ok (.aload_n 0, 1) := by decide +kernel
theorem dX10_put_66 : decode cX10_put 66 = .ok (.getfield 100, 3) := by decide +kernel
theorem dX10_put_69 : decode cX10_put 69 = .ok (.iload_n 1, 1) := by decide +kernel
theorem dX10_put_70 : decode cX10_put 70 = .ok (.iaload, 1) := by decide +kernel
theorem dX10_put_71 : decode cX10_put 71 = .ok (.invokevirtual 213, 3) := by decide +kernel
theorem dX10_put_74 : decode cX10_put 74 = .ok (.ifCond .ne 10, 3) := by decide +kernel
theorem dX10_put_77 : decode cX10_put 77 = .ok (.aload_n 0, 1) := by decide +kernel
theorem dX10_put_78 : decode cX10_put 78 = .ok (.bipush 8, 2) := by decide +kernel
theorem dX10_put_80 : decode cX10_put 80 = .ok (.invokevirtual 187, 3) := by decide +kernel
theorem dX10_put_83 : decode cX10_put 83 = .ok (.ireturn, 1) := by decide +kernel
theorem dX10_put_84 : decode cX10_put 84 = .ok (.aload_n 0, 1) := by decide +kernel
theorem dX10_put_85 : decode cX10_put 85 = .ok (.getfield 106, 3) := by decide +kernel
theorem dX10_put_88 : decode cX10_put 88 = .ok (.bipush 8, 2) := by decide +kernel
theorem dX10_put_90 : decode cX10_put 90 = .ok (.iload_n 1, 1) := by decide +kernel
theorem dX10_put_91 : decode cX10_put 91 = .ok (.imul, 1) := by decide +kernel
theorem dX10_put_92 : decode cX10_put 92 = .ok (.iload_n 2, 1) := by decide +kernel
theorem dX10_put_93 : decode cX10_put 93 = .ok (.iadd, 1) := by decide +kernel
theorem dX10_put_94 : decode cX10_put 94 = .ok (.iload_n 3, 1) := by decide +kernel
theorem dX10_put_95 : decode cX10_put 95 = .ok (.iconst 1, 1) := by decide +kernel
theorem dX10_put_96 : decode cX10_put 96 = .ok (.iadd, 1) := by decide +kernel
theorem dX10_put_97 : decode cX10_put 97 = .ok (.iastore, 1) := by decide +kernel
theorem dX10_put_98 : decode cX10_put 98 = .ok (.iconst 1, 1) := by decide +kernel
theorem dX10_put_99 : decode cX10_put 99 = .ok (.ireturn, 1) := by decide +kernel
set_option maxRecDepth 20000 in
theorem ggX10_get_X10_isRow : GoodIn wsX10_get wsX10_isRow := goodIn_r _ [8, 9, 10, 11, 7, 12, 18, 19, 20, 21, 22, 23, 24, 25, 26, 27, 28, 29, 30, 31, 32, 33, 34, 35, 36, 37, 38, 39, 40, 41, 42, 43, 44, 45, 46, 47, 48, 49, 50, 51, 52, 53, 54, 55, 56, 57, 58, 59] (by decide +kernel) (by decide +kernel)
set_option maxRecDepth 20000 in
theorem gX10_get_X10_isRow : GoodIn wsX10_get (wsV RX10 219 RX10 yX10_isRow wsX10_isRow) := goodIn_app (goodIn_of _ (by decide +kernel)) ggX10_get_X10_isRow
set_option maxRecDepth 20000 in
theorem ggX10_get_X10_in : GoodIn wsX10_get wsX10_in := goodIn_r _ [12] (by decide +kernel) (by decide +kernel)
set_option maxRecDepth 20000 in
theorem gX10_get_X10_in : GoodIn wsX10_get (va_wsS RX10 123 yX10_in wsX10_in) := goodIn_app (goodIn_of _ (by decide +kernel)) ggX10_get_X10_in
set_option maxRecDepth 20000 in
theorem ggX10_get_X10_fails : GoodIn wsX10_get wsX10_fails := goodIn_r _ [16, 17, 18, 19, 20, 21, 22, 23, 24, 25, 26, 27, 28, 29, 30, 31, 32, 33, 34, 35, 36, 37, 38, 39, 40, 41, 42, 43, 44, 45, 46, 47, 48, 49, 50, 51, 52, 53, 54, 55, 56, 57, 58, 59] (by decide +kernel) (by decide +kernel)
set_option maxRecDepth 20000 in
theorem gX10_get_X10_fails : GoodIn wsX10_get (wsV RX10 187 RX10 yX10_fails wsX10_fails) := goodIn_app (goodIn_of _ (by decide +kernel)) ggX10_get_X10_fails
theorem dX10_get_0 : decode cX10_get 0 = .ok (.aload_n 0, 1) := by decide +kernel
theorem dX10_get_1 : decode cX10_get 1 = .ok (.iconst 0, 1) := by decide +kernel
theorem dX10_get_2 : decode cX10_get 2 = .ok (.putfield 1, 3) := by decide +kernel
theorem dX10_get_5 : decode cX10_get 5 = .ok (.aload_n 0, 1) := by decide +kernel
theorem dX10_get_6 : decode cX10_get 6 = .ok (.iload_n 1, 1) := by decide +kernel
theorem dX10_get_7 : decode cX10_get 7 = .ok (.invokevirtual 219, 3) := by decide +kernel
theorem dX10_get_10 : decode cX10_get 10 = .ok (.ifCond .ne 6, 3) := by decide +kernel
theorem dX10_get_13 : decode cX10_get 13 = .ok (.bipush (-2), 2) := by decide +kernel
theorem dX10_get_15 : decode cX10_get 15 = .ok (.ireturn, 1) := by decide +kernel
theorem dX10_get_16 : decode cX10_get 16 = .ok (.iload_n 2, 1) := by decide +kernel
theorem dX10_get_17 : decode cX10_get 17 = .ok (.i2l, 1) := by decide +kernel
theorem dX10_get_18 : decode cX10_get 18 = .ok (.lconst 0, 1) := by decide +kernel
theorem dX10_get_19 : decode cX10_get 19 = .ok (.aload_n 0, 1) := by decide +kernel
theorem dX10_get_20 : decode cX10_get 20 = .ok (.getfield 103, 3) := by decide +kernel
theorem dX10_get_23 : decode cX10_get 23 = .ok (.iload_n 1, 1) := by decide +kernel
theorem dX10_get_24 : decode cX10_get 24 = .ok (.iaload, 1) := by decide +kernel
theorem dX10_get_25 : decode cX10_get 25 = .ok (.iconst 1, 1) := by decide +kernel
theorem dX10_get_26 : decode cX10_get 26 = .ok (.isub, 1) := by decide +kernel
theorem dX10_get_27 : decode cX10_get 27 = .ok (.i2l, 1) := by decide +kernel
theorem dX10_get_28 : decode cX10_get 28 = .ok (.invokestatic 123, 3) := by decide +kernel
theorem dX10_get_31 : decode cX10_get 31 = .ok (.ifCond .eq 19, 3) := by decide +kernel
theorem dX10_get_34 : decode cX10_get 34 = .ok (.aload_n 0, 1) := by decide +kernel
theorem dX10_get_35 : decode cX10_get 35 = .ok (.getfield 106, 3) := by decide +kernel
theorem dX10_get_38 : decode cX10_get 38 = .ok (.bipush 8, 2) := by decide +kernel
theorem dX10_get_40 : decode cX10_get 40 = .ok (.iload_n 1, 1) := by decide +kernel
theorem dX10_get_41 : decode cX10_get 41 = .ok (.imul, 1) := by decide +kernel
theorem dX10_get_42 : decode cX10_get 42 = .ok (.iload_n 2, 1) := by decide +kernel
theorem dX10_get_43 : decode cX10_get 43 = .ok (.iadd, 1) := by decide +kernel
theorem dX10_get_44 : decode cX10_get 44 = .ok (.iaload, 1) := by decide +kernel
theorem dX10_get_45 : decode cX10_get 45 = .ok (.iconst 1, 1) := by decide +kernel
theorem dX10_get_46 : decode cX10_get 46 = .ok (.isub, 1) := by decide +kernel
theorem dX10_get_47 : decode cX10_get 47 = .ok (.goto 9, 3) := by decide +kernel
theorem dX10_get_50 : decode cX10_get 50 = .ok (.aload_n 0, 1) := by decide +kernel
theorem dX10_get_51 : decode cX10_get 51 = .ok (.bipush 11, 2) := by decide +kernel
theorem dX10_get_53 : decode cX10_get 53 = .ok (.invokevirtual 187, 3) := by decide +kernel
theorem dX10_get_56 : decode cX10_get 56 = .ok (.ireturn, 1) := by decide +kernel
set_option maxRecDepth 20000 in
theorem ggX10_castRow_X10_isRow : GoodIn wsX10_castRow wsX10_isRow := goodIn_r _ [7, 8, 9, 10, 6, 11, 27, 28, 29, 30, 31, 32, 33, 34, 35, 36, 37, 38, 39, 40, 41, 42, 43, 44, 45, 46, 47, 48, 49, 50, 51, 52, 53, 54, 55, 56, 57, 58, 59, 60, 61, 62, 63, 64, 65, 66, 67, 68] (by decide +kernel) (by decide +kernel)
set_option maxRecDepth 20000 in
theorem gX10_castRow_X10_isRow : GoodIn wsX10_castRow (wsV RX10 219 RX10 yX10_isRow wsX10_isRow) := goodIn_app (goodIn_of _ (by decide +kernel)) ggX10_castRow_X10_isRow
set_option maxRecDepth 20000 in
theorem ggX10_castRow_X10_isClass : GoodIn wsX10_castRow wsX10_isClass := goodIn_r _ [15, 16, 9, 10, 6, 11, 27, 28, 29, 30, 31, 32, 33, 34, 35, 36, 37, 38, 39, 40, 41, 42, 43, 44, 45, 46, 47, 48, 49, 50, 51, 52, 53, 54, 55, 56, 57, 58, 59, 60, 61, 62, 63, 64, 65, 66, 67, 68] (by decide +kernel) (by decide +kernel)
set_option maxRecDepth 20000 in
theorem gX10_castRow_X10_isClass : GoodIn wsX10_castRow (wsV RX10 194 RX10 yX10_isClass wsX10_isClass) := goodIn_app (goodIn_of _ (by decide +kernel)) ggX10_castRow_X10_isClass
set_option maxRecDepth 20000 in
theorem ggX10_castRow_X10_isOf : GoodIn wsX10_castRow wsX10_isOf := goodIn_r _ [20, 21, 27, 28, 29, 30, 31, 32, 33, 34, 35, 36, 37, 38, 39, 40, 41, 42, 43, 44, 45, 46, 47, 48, 49, 50, 51, 52, 53, 54, 55, 56, 57, 58, 59, 60, 61, 62, 63, 64, 65, 66, 67, 68] (by decide +kernel) (by decide +kernel)
set_option maxRecDepth 20000 in
theorem gX10_castRow_X10_isOf : GoodIn wsX10_castRow (wsV RX10 213 RX10 yX10_isOf wsX10_isOf) := goodIn_app (goodIn_of _ (by decide +kernel)) ggX10_castRow_X10_isOf
set_option maxRecDepth 20000 in
theorem ggX10_castRow_X10_fails : GoodIn wsX10_castRow wsX10_fails := goodIn_r _ [25, 26, 27, 28, 29, 30, 31, 32, 33, 34, 35, 36, 37, 38, 39, 40, 41, 42, 43, 44, 45, 46, 47, 48, 49, 50, 51, 52, 53, 54, 55, 56, 57, 58, 59, 60, 61, 62, 63, 64, 65, 66, 67, 68] (by decide +kernel) (by decide +kernel)
set_option maxRecDepth 20000 in
theorem gX10_castRow_X10_fails : GoodIn wsX10_castRow (wsV RX10 187 RX10 yX10_fails wsX10_fails) := goodIn_app (goodIn_of _ (by decide +kernel)) ggX10_castRow_X10_fails
theorem dX10_castRow_0 : decode cX10_castRow 0 = .ok (.aload_n 0, 1) := by decide +kernel
theorem dX10_castRow_1 : decode cX10_castRow 1 = .ok (.iconst 0, 1) := by decide +kernel
theorem dX10_castRow_2 : decode cX10_castRow 2 = .ok (.putfield 1, 3) := by decide +kernel
theorem dX10_castRow_5 : decode cX10_castRow 5 = .ok (.aload_n 0, 1) := by decide +kernel
theorem dX10_castRow_6 : decode cX10_castRow 6 = .ok (.iload_n 1, 1) := by decide +kernel
theorem dX10_castRow_7 : decode cX10_castRow 7 = .ok (.invokevirtual 219, 3) := by decide +kernel
theorem dX10_castRow_10 : decode cX10_castRow 10 = .ok (.ifCond .eq 11, 3) := by decide +kernel
theorem dX10_castRow_13 : decode cX10_castRow 13 = .ok (.aload_n 0, 1) := by decide +kernel
theorem dX10_castRow_14 : decode cX10_castRow 14 = .ok (.iload_n 2, 1) := by decide +kernel
theorem dX10_castRow_15 : decode cX10_castRow 15 = .ok (.invokevirtual 194, 3) := by decide +kernel
theorem dX10_castRow_18 : decode cX10_castRow 18 = .ok (.ifCond .ne 6, 3) := by decide +kernel
theorem dX10_castRow_21 : decode cX10_castRow 21 = .ok (.bipush (-2), 2) := by decide +kernel
theorem dX10_castRow_23 : decode cX10_castRow 23 = .ok (.ireturn, 1) := by decide +kernel
theorem dX10_castRow_24 : decode cX10_castRow 24 = .ok (.aload_n 0, 1) := by decide +kernel
theorem dX10_castRow_25 : decode cX10_castRow 25 = .ok (.aload_n 0, 1) := by decide +kernel
theorem dX10_castRow_26 : decode cX10_castRow 26 = .ok (.getfield 100, 3) := by decide +kernel
theorem dX10_castRow_29 : decode cX10_castRow 29 = .ok (.iload_n 1, 1) := by decide +kernel
theorem dX10_castRow_30 : decode cX10_castRow 30 = .ok (.iaload, 1) := by decide +kernel
theorem dX10_castRow_31 : decode cX10_castRow 31 = .ok (.iload_n 2, 1) := by decide +kernel
theorem dX10_castRow_32 : decode cX10_castRow 32 = .ok (.invokevirtual 213, 3) := by decide +kernel
theorem dX10_castRow_35 : decode cX10_castRow 35 = .ok (.ifCond .eq 7, 3) := by decide +kernel
theorem dX10_castRow_38 : decode cX10_castRow 38 = .ok (.iconst 1, 1) := by decide +kernel
theorem dX10_castRow_39 : decode cX10_castRow 39 = .ok (.goto 8, 3) := by decide +kernel
theorem dX10_castRow_42 : decode cX10_castRow 42 = .ok (.aload_n 0, 1) := by decide +kernel
theorem dX10_castRow_43 : decode cX10_castRow 43 = .ok (.iconst 5, 1) := by decide +kernel
theorem dX10_castRow_44 : decode cX10_castRow 44 = .ok (.invokevirtual 187, 3) := by decide +kernel
theorem dX10_castRow_47 : decode cX10_castRow 47 = .ok (.ireturn, 1) := by decide +kernel
set_option maxRecDepth 20000 in
theorem ggX10_call_X10_isObject : GoodIn wsX10_call wsX10_isObject := goodIn_r _ [17, 18, 19, 20, 16, 21, 27, 28, 29, 30, 31, 32, 33, 34, 35, 36, 37, 38, 39, 40, 41, 42, 43, 44, 45, 46, 47, 48, 49, 50, 51, 52, 53, 54, 55, 56, 57, 58, 59, 60, 61, 62, 63, 64, 65, 66, 67, 68] (by decide +kernel) (by decide +kernel)
set_option maxRecDepth 20000 in
theorem gX10_call_X10_isObject : GoodIn wsX10_call (wsV RX10 210 RX10 yX10_isObject wsX10_isObject) := goodIn_app (goodIn_of _ (by decide +kernel)) ggX10_call_X10_isObject
set_option maxRecDepth 20000 in
theorem ggX10_call_X10_in : GoodIn wsX10_call wsX10_in := goodIn_r _ [21] (by decide +kernel) (by decide +kernel)
set_option maxRecDepth 20000 in
theorem gX10_call_X10_in : GoodIn wsX10_call (va_wsS RX10 123 yX10_in wsX10_in) := goodIn_app (goodIn_of _ (by decide +kernel)) ggX10_call_X10_in
set_option maxRecDepth 20000 in
theorem ggX10_call_X10_fails : GoodIn wsX10_call wsX10_fails := goodIn_r _ [25, 26, 27, 28, 29, 30, 31, 32, 33, 34, 35, 36, 37, 38, 39, 40, 41, 42, 43, 44, 45, 46, 47, 48, 49, 50, 51, 52, 53, 54, 55, 56, 57, 58, 59, 60, 61, 62, 63, 64, 65, 66, 67, 68] (by decide +kernel) (by decide +kernel)
set_option maxRecDepth 20000 in
theorem gX10_call_X10_fails : GoodIn wsX10_call (wsV RX10 187 RX10 yX10_fails wsX10_fails) := goodIn_app (goodIn_of _ (by decide +kernel)) ggX10_call_X10_fails
theorem dX10_call_0 : decode cX10_call 0 = .ok (.aload_n 0, 1) := by decide +kernel
theorem dX10_call_1 : decode cX10_call 1 = .ok (.iconst 0, 1) := by decide +kernel
theorem dX10_call_2 : decode cX10_call 2 = .ok (.putfield 1, 3) := by decide +kernel
theorem dX10_call_5 : decode cX10_call 5 = .ok (.aload_n 0, 1) := by decide +kernel
theorem dX10_call_6 : decode cX10_call 6 = .ok (.iload_n 1, 1) := by decide +kernel
theorem dX10_call_7 : decode cX10_call 7 = .ok (.invokevirtual 210, 3) := by decide +kernel
theorem dX10_call_10 : decode cX10_call 10 = .ok (.ifCond .ne 7, 3) := by decide +kernel
theorem dX10_call_13 : decode cX10_call 13 = .ok (.ldc2_w 200, 3) := by decide +kernel
theorem dX10_call_16 : decode cX10_call 16 = .ok (.lreturn, 1) := by decide +kernel
theorem dX10_call_17 : decode cX10_call 17 = .ok (.iload_n 2, 1) := by decide +kernel
theorem dX10_call_18 : decode cX10_call 18 = .ok (.i2l, 1) := by decide +kernel
theorem dX10_call_19 : decode cX10_call 19 = .ok (.lconst 0, 1) := by decide +kernel
theorem dX10_call_20 : decode cX10_call 20 = .ok (.ldc2_w 147, 3) := by decide +kernel
theorem dX10_call_23 : decode cX10_call 23 = .ok (.invokestatic 123, 3) := by decide +kernel
