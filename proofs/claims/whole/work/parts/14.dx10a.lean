theorem dX10_in_0 : decode cX10_in 0 = .ok (.lload_n 0, 1) := by decide +kernel
theorem dX10_in_1 : decode cX10_in 1 = .ok (.lload_n 2, 1) := by decide +kernel
theorem dX10_in_2 : decode cX10_in 2 = .ok (.lcmp, 1) := by decide +kernel
theorem dX10_in_3 : decode cX10_in 3 = .ok (.ifCond .lt 14, 3) := by decide +kernel
theorem dX10_in_6 : decode cX10_in 6 = .ok (.lload_n 0, 1) := by decide +kernel
theorem dX10_in_7 : decode cX10_in 7 = .ok (.lload 4, 2) := by decide +kernel
theorem dX10_in_9 : decode cX10_in 9 = .ok (.lcmp, 1) := by decide +kernel
theorem dX10_in_10 : decode cX10_in 10 = .ok (.ifCond .gt 7, 3) := by decide +kernel
theorem dX10_in_13 : decode cX10_in 13 = .ok (.iconst 1, 1) := by decide +kernel
theorem dX10_in_14 : decode cX10_in 14 = .ok (.goto 4, 3) := by decide +kernel
theorem dX10_in_17 : decode cX10_in 17 = .ok (.iconst 0, 1) := by decide +kernel
theorem dX10_in_18 : decode cX10_in 18 = .ok (.ireturn, 1) := by decide +kernel
set_option maxRecDepth 20000 in
theorem ggX10_init_X10_loader : GoodIn wsX10_init wsX10_loader := goodIn_r _ [42, 43, 44, 14, 19, 45, 46, 47, 41, 48, 49, 50, 51, 61, 62, 63, 64, 65, 66, 67, 68, 69, 70, 71, 72, 73, 74, 75, 76, 77, 78, 79, 80, 81, 82, 83, 84, 85, 86, 87, 88, 89, 90, 91, 92, 93, 94, 95, 96, 97, 98, 99, 100, 101, 102] (by decide +kernel) (by decide +kernel)
set_option maxRecDepth 20000 in
theorem gX10_init_X10_loader : GoodIn wsX10_init (wsV RX10 109 RX10 yX10_loader wsX10_loader) := goodIn_app (goodIn_of _ (by decide +kernel)) ggX10_init_X10_loader
set_option maxRecDepth 20000 in
theorem ggX10_init_X10_file : GoodIn wsX10_init wsX10_file := goodIn_r _ [55, 43, 56, 5, 6, 7, 8, 10, 57, 58, 41, 59, 60, 49, 50, 51, 61, 62, 63, 64, 65, 66, 67, 68, 69, 70, 71, 72, 73, 74, 75, 76, 77, 78, 79, 80, 81, 82, 83, 84, 85, 86, 87, 88, 89, 90, 91, 92, 93, 94, 95, 96, 97, 98, 99, 100, 101, 102] (by decide +kernel) (by decide +kernel)
set_option maxRecDepth 20000 in
theorem gX10_init_X10_file : GoodIn wsX10_init (wsV RX10 113 RX10 yX10_file wsX10_file) := goodIn_app (goodIn_of _ (by decide +kernel)) ggX10_init_X10_file
theorem dX10_init_0 : decode cX10_init 0 = .ok (.aload_n 0, 1) := by decide +kernel
theorem dX10_init_1 : decode cX10_init 1 = .ok (.invokespecial 7, 3) := by decide +kernel
theorem dX10_init_4 : decode cX10_init 4 = .ok (.aload_n 0, 1) := by decide +kernel
theorem dX10_init_5 : decode cX10_init 5 = .ok (.bipush 30, 2) := by decide +kernel
theorem dX10_init_7 : decode cX10_init 7 = .ok (.newarray .int, 2) := by decide +kernel
theorem dX10_init_9 : decode cX10_init 9 = .ok (.putfield 13, 3) := by decide +kernel
theorem dX10_init_12 : decode cX10_init 12 = .ok (.aload_n 0, 1) := by decide +kernel
theorem dX10_init_13 : decode cX10_init 13 = .ok (.bipush 30, 2) := by decide +kernel
theorem dX10_init_15 : decode cX10_init 15 = .ok (.newarray .int, 2) := by decide +kernel
theorem dX10_init_17 : decode cX10_init 17 = .ok (.putfield 17, 3) := by decide +kernel
theorem dX10_init_20 : decode cX10_init 20 = .ok (.aload_n 0, 1) := by decide +kernel
theorem dX10_init_21 : decode cX10_init 21 = .ok (.bipush 30, 2) := by decide +kernel
theorem dX10_init_23 : decode cX10_init 23 = .ok (.newarray .int, 2) := by decide +kernel
theorem dX10_init_25 : decode cX10_init 25 = .ok (.putfield 20, 3) := by decide +kernel
theorem dX10_init_28 : decode cX10_init 28 = .ok (.aload_n 0, 1) := by decide +kernel
theorem dX10_init_29 : decode cX10_init 29 = .ok (.bipush 30, 2) := by decide +kernel
theorem dX10_init_31 : decode cX10_init 31 = .ok (.newarray .int, 2) := by decide +kernel
theorem dX10_init_33 : decode cX10_init 33 = .ok (.putfield 23, 3) := by decide +kernel
theorem dX10_init_36 : decode cX10_init 36 = .ok (.aload_n 0, 1) := by decide +kernel
theorem dX10_init_37 : decode cX10_init 37 = .ok (.bipush 30, 2) := by decide +kernel
theorem dX10_init_39 : decode cX10_init 39 = .ok (.newarray .boolean, 2) := by decide +kernel
theorem dX10_init_41 : decode cX10_init 41 = .ok (.putfield 26, 3) := by decide +kernel
theorem dX10_init_44 : decode cX10_init 44 = .ok (.aload_n 0, 1) := by decide +kernel
theorem dX10_init_45 : decode cX10_init 45 = .ok (.bipush 120, 2) := by decide +kernel
theorem dX10_init_47 : decode cX10_init 47 = .ok (.newarray .int, 2) := by decide +kernel
theorem dX10_init_49 : decode cX10_init 49 = .ok (.putfield 30, 3) := by decide +kernel
theorem dX10_init_52 : decode cX10_init 52 = .ok (.aload_n 0, 1) := by decide +kernel
theorem dX10_init_53 : decode cX10_init 53 = .ok (.bipush 120, 2) := by decide +kernel
theorem dX10_init_55 : decode cX10_init 55 = .ok (.newarray .int, 2) := by decide +kernel
theorem dX10_init_57 : decode cX10_init 57 = .ok (.putfield 33, 3) := by decide +kernel
theorem dX10_init_60 : decode cX10_init 60 = .ok (.aload_n 0, 1) := by decide +kernel
theorem dX10_init_61 : decode cX10_init 61 = .ok (.bipush 120, 2) := by decide +kernel
theorem dX10_init_63 : decode cX10_init 63 = .ok (.newarray .int, 2) := by decide +kernel
theorem dX10_init_65 : decode cX10_init 65 = .ok (.putfield 36, 3) := by decide +kernel
theorem dX10_init_68 : decode cX10_init 68 = .ok (.aload_n 0, 1) := by decide +kernel
theorem dX10_init_69 : decode cX10_init 69 = .ok (.bipush 8, 2) := by decide +kernel
theorem dX10_init_71 : decode cX10_init 71 = .ok (.newarray .int, 2) := by decide +kernel
theorem dX10_init_73 : decode cX10_init 73 = .ok (.putfield 39, 3) := by decide +kernel
theorem dX10_init_76 : decode cX10_init 76 = .ok (.aload_n 0, 1) := by decide +kernel
theorem dX10_init_77 : decode cX10_init 77 = .ok (.bipush 8, 2) := by decide +kernel
theorem dX10_init_79 : decode cX10_init 79 = .ok (.newarray .int, 2) := by decide +kernel
theorem dX10_init_81 : decode cX10_init 81 = .ok (.putfield 42, 3) := by decide +kernel
theorem dX10_init_84 : decode cX10_init 84 = .ok (.aload_n 0, 1) := by decide +kernel
theorem dX10_init_85 : decode cX10_init 85 = .ok (.sipush 320, 3) := by decide +kernel
theorem dX10_init_88 : decode cX10_init 88 = .ok (.newarray .int, 2) := by decide +kernel
theorem dX10_init_90 : decode cX10_init 90 = .ok (.putfield 45, 3) := by decide +kernel
theorem dX10_init_93 : decode cX10_init 93 = .ok (.aload_n 0, 1) := by decide +kernel
theorem dX10_init_94 : decode cX10_init 94 = .ok (.sipush 320, 3) := by decide +kernel
theorem dX10_init_97 : decode cX10_init 97 = .ok (.newarray .int, 2) := by decide +kernel
theorem dX10_init_99 : decode cX10_init 99 = .ok (.putfield 48, 3) := by decide +kernel
theorem dX10_init_102 : decode cX10_init 102 = .ok (.aload_n 0, 1) := by decide +kernel
theorem dX10_init_103 : decode cX10_init 103 = .ok (.sipush 320, 3) := by decide +kernel
theorem dX10_init_106 : decode cX10_init 106 = .ok (.newarray .boolean, 2) := by decide +kernel
theorem dX10_init_108 : decode cX10_init 108 = .ok (.putfield 51, 3) := by decide +kernel
theorem dX10_init_111 : decode cX10_init 111 = .ok (.aload_n 0, 1) := by decide +kernel
theorem dX10_init_112 : decode cX10_init 112 = .ok (.sipush 320, 3) := by decide +kernel
theorem dX10_init_115 : decode cX10_init 115 = .ok (.newarray .int, 2) := by decide +kernel
theorem dX10_init_117 : decode cX10_init 117 = .ok (.putfield 54, 3) := by decide +kernel
theorem dX10_init_120 : decode cX10_init 120 = .ok (.aload_n 0, 1) := by decide +kernel
theorem dX10_init_121 : decode cX10_init 121 = .ok (.bipush 40, 2) := by decide +kernel
theorem dX10_init_123 : decode cX10_init 123 = .ok (.newarray .int, 2) := by decide +kernel
theorem dX10_init_125 : decode cX10_init 125 = .ok (.putfield 57, 3) := by decide +kernel
theorem dX10_init_128 : decode cX10_init 128 = .ok (.aload_n 0, 1) := by decide +kernel
theorem dX10_init_129 : decode cX10_init 129 = .ok (.bipush 40, 2) := by decide +kernel
theorem dX10_init_131 : decode cX10_init 131 = .ok (.newarray .int, 2) := by decide +kernel
theorem dX10_init_133 : decode cX10_init 133 = .ok (.putfield 60, 3) := by decide +kernel
theorem dX10_init_136 : decode cX10_init 136 = .ok (.aload_n 0, 1) := by decide +kernel
theorem dX10_init_137 : decode cX10_init 137 = .ok (.bipush 40, 2) := by decide +kernel
theorem dX10_init_139 : decode cX10_init 139 = .ok (.newarray .int, 2) := by decide +kernel
theorem dX10_init_141 : decode cX10_init 141 = .ok (.putfield 63, 3) := by decide +kernel
theorem dX10_init_144 : decode cX10_init 144 = .ok (.aload_n 0, 1) := by decide +kernel
theorem dX10_init_145 : decode cX10_init 145 = .ok (.bipush 40, 2) := by decide +kernel
theorem dX10_init_147 : decode cX10_init 147 = .ok (.newarray .int, 2) := by decide +kernel
theorem dX10_init_149 : decode cX10_init 149 = .ok (.putfield 66, 3) := by decide +kernel
theorem dX10_init_152 : decode cX10_init 152 = .ok (.aload_n 0, 1) := by decide +kernel
theorem dX10_init_153 : decode cX10_init 153 = .ok (.bipush 40, 2) := by decide +kernel
theorem dX10_init_155 : decode cX10_init 155 = .ok (.newarray .int, 2) := by decide +kernel
theorem dX10_init_157 : decode cX10_init 157 = .ok (.putfield 69, 3) := by decide +kernel
theorem dX10_init_160 : decode cX10_init 160 = .ok (.aload_n 0, 1) := by decide +kernel
theorem dX10_init_161 : decode cX10_init 161 = .ok (.bipush 40, 2) := by decide +kernel
theorem dX10_init_163 : decode cX10_init 163 = .ok (.newarray .long, 2) := by decide +kernel
theorem dX10_init_165 : decode cX10_init 165 = .ok (.putfield 72, 3) := by decide +kernel
theorem dX10_init_168 : decode cX10_init 168 = .ok (.aload_n 0, 1) := by decide +kernel
theorem dX10_init_169 : decode cX10_init 169 = .ok (.bipush 30, 2) := by decide +kernel
theorem dX10_init_171 : decode cX10_init 171 = .ok (.newarray .int, 2) := by decide +kernel
theorem dX10_init_173 : decode cX10_init 173 = .ok (.putfield 76, 3) := by decide +kernel
theorem dX10_init_176 : decode cX10_init 176 = .ok (.aload_n 0, 1) := by decide +kernel
theorem dX10_init_177 : decode cX10_init 177 = .ok (.sipush 700, 3) := by decide +kernel
theorem dX10_init_180 : decode cX10_init 180 = .ok (.newarray .int, 2) := by decide +kernel
theorem dX10_init_182 : decode cX10_init 182 = .ok (.putfield 79, 3) := by decide +kernel
theorem dX10_init_185 : decode cX10_init 185 = .ok (.aload_n 0, 1) := by decide +kernel
theorem dX10_init_186 : decode cX10_init 186 = .ok (.sipush 700, 3) := by decide +kernel
theorem dX10_init_189 : decode cX10_init 189 = .ok (.newarray .int, 2) := by decide +kernel
theorem dX10_init_191 : decode cX10_init 191 = .ok (.putfield 82, 3) := by decide +kernel
theorem dX10_init_194 : decode cX10_init 194 = .ok (.aload_n 0, 1) := by decide +kernel
theorem dX10_init_195 : decode cX10_init 195 = .ok (.sipush 700, 3) := by decide +kernel
theorem dX10_init_198 : decode cX10_init 198 = .ok (.newarray .int, 2) := by decide +kernel
theorem dX10_init_200 : decode cX10_init 200 = .ok (.putfield 85, 3) := by decide +kernel
theorem dX10_init_203 : decode cX10_init 203 = .ok (.aload_n 0, 1) := by decide +kernel
theorem dX10_init_204 : decode cX10_init 204 = .ok (.sipush 700, 3) := by decide +kernel
theorem dX10_init_207 : decode cX10_init 207 = .ok (.newarray .int, 2) := by decide +kernel
theorem dX10_init_209 : decode cX10_init 209 = .ok (.putfield 88, 3) := by decide +kernel
theorem dX10_init_212 : decode cX10_init 212 = .ok (.aload_n 0, 1) := by decide +kernel
theorem dX10_init_213 : decode cX10_init 213 = .ok (.sipush 700, 3) := by decide +kernel
theorem dX10_init_216 : decode cX10_init 216 = .ok (.newarray .int, 2) := by decide +kernel
theorem dX10_init_218 : decode cX10_init 218 = .ok (.putfield 91, 3) := by decide +kernel
theorem dX10_init_221 : decode cX10_init 221 = .ok (.aload_n 0, 1) := by decide +kernel
theorem dX10_init_222 : decode cX10_init 222 = .ok (.bipush 41, 2) := by decide +kernel
theorem dX10_init_224 : decode cX10_init 224 = .ok (.newarray .int, 2) := by decide +kernel
theorem dX10_init_226 : decode cX10_init 226 = .ok (.putfield 94, 3) := by decide +kernel
theorem dX10_init_229 : decode cX10_init 229 = .ok (.aload_n 0, 1) := by decide +kernel
theorem dX10_init_230 : decode cX10_init 230 = .ok (.bipush 60, 2) := by decide +kernel
theorem dX10_init_232 : decode cX10_init 232 = .ok (.newarray .int, 2) := by decide +kernel
theorem dX10_init_234 : decode cX10_init 234 = .ok (.putfield 97, 3) := by decide +kernel
theorem dX10_init_237 : decode cX10_init 237 = .ok (.aload_n 0, 1) := by decide +kernel
theorem dX10_init_238 : decode cX10_init 238 = .ok (.bipush 20, 2) := by decide +kernel
theorem dX10_init_240 : decode cX10_init 240 = .ok (.newarray .int, 2) := by decide +kernel
theorem dX10_init_242 : decode cX10_init 242 = .ok (.putfield 100, 3) := by decide +kernel
theorem dX10_init_245 : decode cX10_init 245 = .ok (.aload_n 0, 1) := by decide +kernel
theorem dX10_init_246 : decode cX10_init 246 = .ok (.bipush 20, 2) := by decide +kernel
theorem dX10_init_248 : decode cX10_init 248 = .ok (.newarray .int, 2) := by decide +kernel
theorem dX10_init_250 : decode cX10_init 250 = .ok (.putfield 103, 3) := by decide +kernel
theorem dX10_init_253 : decode cX10_init 253 = .ok (.aload_n 0, 1) := by decide +kernel
theorem dX10_init_254 : decode cX10_init 254 = .ok (.sipush 160, 3) := by decide +kernel
theorem dX10_init_257 : decode cX10_init 257 = .ok (.newarray .int, 2) := by decide +kernel
theorem dX10_init_259 : decode cX10_init 259 = .ok (.putfield 106, 3) := by decide +kernel
theorem dX10_init_262 : decode cX10_init 262 = .ok (.aload_n 0, 1) := by decide +kernel
theorem dX10_init_263 : decode cX10_init 263 = .ok (.iconst 0, 1) := by decide +kernel
theorem dX10_init_264 : decode cX10_init 264 = .ok (.invokevirtual 109, 3) := by decide +kernel
theorem dX10_init_267 : decode cX10_init 267 = .ok (.istore_n 1, 1) := by decide +kernel
theorem dX10_init_268 : decode cX10_init 268 = .ok (.iconst 0, 1) := by decide +kernel
theorem dX10_init_269 : decode cX10_init 269 = .ok (.istore_n 2, 1) := by decide +kernel
theorem dX10_init_270 : decode cX10_init 270 = .ok (.iload_n 2, 1) := by decide +kernel
theorem dX10_init_271 : decode cX10_init 271 = .ok (.iconst 5, 1) := by decide +kernel
theorem dX10_init_272 : decode cX10_init 272 = .ok (.if_icmp .ge 28, 3) := by decide +kernel
theorem dX10_init_275 : decode cX10_init 275 = .ok (.aload_n 0, 1) := by decide +kernel
theorem dX10_init_276 : decode cX10_init 276 = .ok (.iload_n 2, 1) := by decide +kernel
theorem dX10_init_277 : decode cX10_init 277 = .ok (.iload_n 2, 1) := by decide +kernel
theorem dX10_init_278 : decode cX10_init 278 = .ok (.iconst 0, 1) := by decide +kernel
theorem dX10_init_279 : decode cX10_init 279 = .ok (.iconst 1, 1) := by decide +kernel
theorem dX10_init_280 : decode cX10_init 280 = .ok (.iconst 0, 1) := by decide +kernel
theorem dX10_init_281 : decode cX10_init 281 = .ok (.invokevirtual 113, 3) := by decide +kernel
theorem dX10_init_284 : decode cX10_init 284 = .ok (.istore_n 3, 1) := by decide +kernel
theorem dX10_init_285 : decode cX10_init 285 = .ok (.aload_n 0, 1) := by decide +kernel
theorem dX10_init_286 : decode cX10_init 286 = .ok (.getfield 45, 3) := by decide +kernel
theorem dX10_init_289 : decode cX10_init 289 = .ok (.iload_n 2, 1) := by decide +kernel
theorem dX10_init_290 : decode cX10_init 290 = .ok (.iload_n 3, 1) := by decide +kernel
theorem dX10_init_291 : decode cX10_init 291 = .ok (.iconst 1, 1) := by decide +kernel
theorem dX10_init_292 : decode cX10_init 292 = .ok (.iadd, 1) := by decide +kernel
theorem dX10_init_293 : decode cX10_init 293 = .ok (.iastore, 1) := by decide +kernel
theorem dX10_init_294 : decode cX10_init 294 = .ok (.iinc 2 1, 3) := by decide +kernel
theorem dX10_init_297 : decode cX10_init 297 = .ok (.goto (-27), 3) := by decide +kernel
theorem dX10_init_300 : decode cX10_init 300 = .ok (.return_, 1) := by decide +kernel
theorem dX10_fails_0 : decode cX10_fails 0 = .ok (.aload_n 0, 1) := by decide +kernel
theorem dX10_fails_1 : decode cX10_fails 1 = .ok (.iload_n 1, 1) := by decide +kernel
theorem dX10_fails_2 : decode cX10_fails 2 = .ok (.putfield 117, 3) := by decide +kernel
theorem dX10_fails_5 : decode cX10_fails 5 = .ok (.bipush (-10), 2) := by decide +kernel
theorem dX10_fails_7 : decode cX10_fails 7 = .ok (.iload_n 1, 1) := by decide +kernel
theorem dX10_fails_8 : decode cX10_fails 8 = .ok (.isub, 1) := by decide +kernel
theorem dX10_fails_9 : decode cX10_fails 9 = .ok (.ireturn, 1) := by decide +kernel
set_option maxRecDepth 20000 in
theorem ggX10_isLoader_X10_in : GoodIn wsX10_isLoader wsX10_in := goodIn_r _ [5] (by decide +kernel) (by decide +kernel)
set_option maxRecDepth 20000 in
theorem gX10_isLoader_X10_in : GoodIn wsX10_isLoader (va_wsS RX10 123 yX10_in wsX10_in) := goodIn_app (goodIn_of _ (by decide +kernel)) ggX10_isLoader_X10_in
theorem dX10_isLoader_0 : decode cX10_isLoader 0 = .ok (.iload_n 1, 1) := by decide +kernel
theorem dX10_isLoader_1 : decode cX10_isLoader 1 = .ok (.i2l, 1) := by decide +kernel
theorem dX10_isLoader_2 : decode cX10_isLoader 2 = .ok (.lconst 0, 1) := by decide +kernel
theorem dX10_isLoader_3 : decode cX10_isLoader 3 = .ok (.aload_n 0, 1) := by decide +kernel
theorem dX10_isLoader_4 : decode cX10_isLoader 4 = .ok (.getfield 120, 3) := by decide +kernel
theorem dX10_isLoader_7 : decode cX10_isLoader 7 = .ok (.iconst 1, 1) := by decide +kernel
theorem dX10_isLoader_8 : decode cX10_isLoader 8 = .ok (.isub, 1) := by decide +kernel
theorem dX10_isLoader_9 : decode cX10_isLoader 9 = .ok (.i2l, 1) := by decide +kernel
theorem dX10_isLoader_10 : decode cX10_isLoader 10 = .ok (.invokestatic 123, 3) := by decide +kernel
theorem dX10_isLoader_13 : decode cX10_isLoader 13 = .ok (.ireturn, 1) := by decide +kernel
set_option maxRecDepth 20000 in
theorem ggX10_isFile_X10_in : GoodIn wsX10_isFile wsX10_in := goodIn_r _ [5] (by decide +kernel) (by decide +kernel)
set_option maxRecDepth 20000 in
theorem gX10_isFile_X10_in : GoodIn wsX10_isFile (va_wsS RX10 123 yX10_in wsX10_in) := goodIn_app (goodIn_of _ (by decide +kernel)) ggX10_isFile_X10_in
theorem dX10_isFile_0 : decode cX10_isFile 0 = .ok (.iload_n 1, 1) := by decide +kernel
theorem dX10_isFile_1 : decode cX10_isFile 1 = .ok (.i2l, 1) := by decide +kernel
theorem dX10_isFile_2 : decode cX10_isFile 2 = .ok (.lconst 0, 1) := by decide +kernel
theorem dX10_isFile_3 : decode cX10_isFile 3 = .ok (.aload_n 0, 1) := by decide +kernel
theorem dX10_isFile_4 : decode cX10_isFile 4 = .ok (.getfield 127, 3) := by decide +kernel
theorem dX10_isFile_7 : decode cX10_isFile 7 = .ok (.iconst 1, 1) := by decide +kernel
theorem dX10_isFile_8 : decode cX10_isFile 8 = .ok (.isub, 1) := by decide +kernel
theorem dX10_isFile_9 : decode cX10_isFile 9 = .ok (.i2l, 1) := by decide +kernel
theorem dX10_isFile_10 : decode cX10_isFile 10 = .ok (.invokestatic 123, 3) := by decide +kernel
theorem dX10_isFile_13 : decode cX10_isFile 13 = .ok (.ireturn, 1) := by decide +kernel
set_option maxRecDepth 20000 in
theorem ggX10_isName_X10_in : GoodIn wsX10_isName wsX10_in := goodIn_r _ [5] (by decide +kernel) (by decide +kernel)
set_option maxRecDepth 20000 in
theorem gX10_isName_X10_in : GoodIn wsX10_isName (va_wsS RX10 123 yX10_in wsX10_in) := goodIn_app (goodIn_of _ (by decide +kernel)) ggX10_isName_X10_in
theorem dX10_isName_0 : decode cX10_isName 0 = .ok (.iload_n 0, 1) := by decide +kernel
theorem dX10_isName_1 : decode cX10_isName 1 = .ok (.i2l, 1) := by decide +kernel
theorem dX10_isName_2 : decode cX10_isName 2 = .ok (.lconst 0, 1) := by decide +kernel
theorem dX10_isName_3 : decode cX10_isName 3 = .ok (.ldc2_w 130, 3) := by decide +kernel
theorem dX10_isName_6 : decode cX10_isName 6 = .ok (.invokestatic 123, 3) := by decide +kernel
theorem dX10_isName_9 : decode cX10_isName 9 = .ok (.ireturn, 1) := by decide +kernel
set_option maxRecDepth 20000 in
theorem ggX10_isClass_X10_in : GoodIn wsX10_isClass wsX10_in := goodIn_r _ [5] (by decide +kernel) (by decide +kernel)
set_option maxRecDepth 20000 in
theorem gX10_isClass_X10_in : GoodIn wsX10_isClass (va_wsS RX10 123 yX10_in wsX10_in) := goodIn_app (goodIn_of _ (by decide +kernel)) ggX10_isClass_X10_in
theorem dX10_isClass_0 : decode cX10_isClass 0 = .ok (.iload_n 1, 1) := by decide +kernel
theorem dX10_isClass_1 : decode cX10_isClass 1 = .ok (.i2l, 1) := by decide +kernel
theorem dX10_isClass_2 : decode cX10_isClass 2 = .ok (.lconst 0, 1) := by decide +kernel
theorem dX10_isClass_3 : decode cX10_isClass 3 = .ok (.aload_n 0, 1) := by decide +kernel
theorem dX10_isClass_4 : decode cX10_isClass 4 = .ok (.getfield 132, 3) := by decide +kernel
theorem dX10_isClass_7 : decode cX10_isClass 7 = .ok (.iconst 1, 1) := by decide +kernel
theorem dX10_isClass_8 : decode cX10_isClass 8 = .ok (.isub, 1) := by decide +kernel
theorem dX10_isClass_9 : decode cX10_isClass 9 = .ok (.i2l, 1) := by decide +kernel
theorem dX10_isClass_10 : decode cX10_isClass 10 = .ok (.invokestatic 123, 3) := by decide +kernel
theorem dX10_isClass_13 : decode cX10_isClass 13 = .ok (.ireturn, 1) := by decide +kernel
set_option maxRecDepth 20000 in
theorem ggX10_loader_X10_isLoader : GoodIn wsX10_loader wsX10_isLoader := goodIn_r _ [9, 2, 10, 11, 8, 12, 13, 14, 15, 16, 17, 18, 19, 20, 21, 22, 23, 24, 25, 26, 27, 28, 29, 30, 31, 32, 33, 34, 35, 36, 37, 38, 39, 40, 41, 42, 43, 44, 45, 46, 47, 48, 49, 50, 51, 52, 53, 54] (by decide +kernel) (by decide +kernel)
set_option maxRecDepth 20000 in
theorem gX10_loader_X10_isLoader : GoodIn wsX10_loader (wsV RX10 135 RX10 yX10_isLoader wsX10_isLoader) := goodIn_app (goodIn_of _ (by decide +kernel)) ggX10_loader_X10_isLoader
theorem dX10_loader_0 : decode cX10_loader 0 = .ok (.aload_n 0, 1) := by decide +kernel
theorem dX10_loader_1 : decode cX10_loader 1 = .ok (.iconst 0, 1) := by decide +kernel
theorem dX10_loader_2 : decode cX10_loader 2 = .ok (.putfield 1, 3) := by decide +kernel
theorem dX10_loader_5 : decode cX10_loader 5 = .ok (.aload_n 0, 1) := by decide +kernel
theorem dX10_loader_6 : decode cX10_loader 6 = .ok (.getfield 120, 3) := by decide +kernel
theorem dX10_loader_9 : decode cX10_loader 9 = .ok (.ifCond .le 14, 3) := by decide +kernel
theorem dX10_loader_12 : decode cX10_loader 12 = .ok (.aload_n 0, 1) := by decide +kernel
theorem dX10_loader_13 : decode cX10_loader 13 = .ok (.iload_n 1, 1) := by decide +kernel
theorem dX10_loader_14 : decode cX10_loader 14 = .ok (.invokevirtual 135, 3) := by decide +kernel
theorem dX10_loader_17 : decode cX10_loader 17 = .ok (.ifCond .ne 6, 3) := by decide +kernel
theorem dX10_loader_20 : decode cX10_loader 20 = .ok (.bipush (-2), 2) := by decide +kernel
theorem dX10_loader_22 : decode cX10_loader 22 = .ok (.ireturn, 1) := by decide +kernel
theorem dX10_loader_23 : decode cX10_loader 23 = .ok (.aload_n 0, 1) := by decide +kernel
theorem dX10_loader_24 : decode cX10_loader 24 = .ok (.getfield 120, 3) := by decide +kernel
theorem dX10_loader_27 : decode cX10_loader 27 = .ok (.bipush 8, 2) := by decide +kernel
theorem dX10_loader_29 : decode cX10_loader 29 = .ok (.if_icmp .ne 6, 3) := by decide +kernel
theorem dX10_loader_32 : decode cX10_loader 32 = .ok (.bipush (-5), 2) := by decide +kernel
theorem dX10_loader_34 : decode cX10_loader 34 = .ok (.ireturn, 1) := by decide +kernel
theorem dX10_loader_35 : decode cX10_loader 35 = .ok (.aload_n 0, 1) := by decide +kernel
theorem dX10_loader_36 : decode cX10_loader 36 = .ok (.getfield 120, 3) := by decide +kernel
theorem dX10_loader_39 : decode cX10_loader 39 = .ok (.istore_n 2, 1) := by decide +kernel
theorem dX10_loader_40 : decode cX10_loader 40 = .ok (.aload_n 0, 1) := by decide +kernel
theorem dX10_loader_41 : decode cX10_loader 41 = .ok (.dup, 1) := by decide +kernel
theorem dX10_loader_42 : decode cX10_loader 42 = .ok (.getfield 120, 3) := by decide +kernel
theorem dX10_loader_45 : decode cX10_loader 45 = .ok (.iconst 1, 1) := by decide +kernel
theorem dX10_loader_46 : decode cX10_loader 46 = .ok (.iadd, 1) := by decide +kernel
theorem dX10_loader_47 : decode cX10_loader 47 = .ok (.putfield 120, 3) := by decide +kernel
theorem dX10_loader_50 : decode cX10_loader 50 = .ok (.aload_n 0, 1) := by decide +kernel
theorem dX10_loader_51 : decode cX10_loader 51 = .ok (.getfield 39, 3) := by decide +kernel
theorem dX10_loader_54 : decode cX10_loader 54 = .ok (.iload_n 2, 1) := by decide +kernel
theorem dX10_loader_55 : decode cX10_loader 55 = .ok (.iload_n 1, 1) := by decide +kernel
theorem dX10_loader_56 : decode cX10_loader 56 = .ok (.iastore, 1) := by decide +kernel
theorem dX10_loader_57 : decode cX10_loader 57 = .ok (.iconst 0, 1) := by decide +kernel
theorem dX10_loader_58 : decode cX10_loader 58 = .ok (.istore_n 3, 1) := by decide +kernel
theorem dX10_loader_59 : decode cX10_loader 59 = .ok (.iload_n 3, 1) := by decide +kernel
theorem dX10_loader_60 : decode cX10_loader 60 = .ok (.bipush 40, 2) := by decide +kernel
theorem dX10_loader_62 : decode cX10_loader 62 = .ok (.if_icmp .ge 21, 3) := by decide +kernel
theorem dX10_loader_65 : decode cX10_loader 65 = .ok (.aload_n 0, 1) := by decide +kernel
theorem dX10_loader_66 : decode cX10_loader 66 = .ok (.getfield 54, 3) := by decide +kernel
theorem dX10_loader_69 : decode cX10_loader 69 = .ok (.bipush 40, 2) := by decide +kernel
theorem dX10_loader_71 : decode cX10_loader 71 = .ok (.iload_n 2, 1) := by decide +kernel
theorem dX10_loader_72 : decode cX10_loader 72 = .ok (.imul, 1) := by decide +kernel
theorem dX10_loader_73 : decode cX10_loader 73 = .ok (.iload_n 3, 1) := by decide +kernel
theorem dX10_loader_74 : decode cX10_loader 74 = .ok (.iadd, 1) := by decide +kernel
theorem dX10_loader_75 : decode cX10_loader 75 = .ok (.iload_n 2, 1) := by decide +kernel
theorem dX10_loader_76 : decode cX10_loader 76 = .ok (.iastore, 1) := by decide +kernel
theorem dX10_loader_77 : decode cX10_loader 77 = .ok (.iinc 3 1, 3) := by decide +kernel
theorem dX10_loader_80 : decode cX10_loader 80 = .ok (.goto (-21), 3) := by decide +kernel
theorem dX10_loader_83 : decode cX10_loader 83 = .ok (.iload_n 2, 1) := by decide +kernel
theorem dX10_loader_84 : decode cX10_loader 84 = .ok (.ireturn, 1) := by decide +kernel
set_option maxRecDepth 20000 in
theorem ggX10_bound_X10_isLoader : GoodIn wsX10_bound wsX10_isLoader := goodIn_r _ [8, 9, 10, 11, 7, 12, 13, 14, 15, 16, 17, 18, 19, 20, 21, 22, 23, 24, 25, 26, 27, 28, 29, 30, 31, 32, 33, 34, 35, 36, 37, 38, 39, 40, 41, 42, 43, 44, 45, 46, 47, 48, 49, 50, 51, 52, 53, 54] (by decide +kernel) (by decide +kernel)
set_option maxRecDepth 20000 in
theorem gX10_bound_X10_isLoader : GoodIn wsX10_bound (wsV RX10 135 RX10 yX10_isLoader wsX10_isLoader) := goodIn_app (goodIn_of _ (by decide +kernel)) ggX10_bound_X10_isLoader
set_option maxRecDepth 20000 in
theorem ggX10_bound_X10_in : GoodIn wsX10_bound wsX10_in := goodIn_r _ [12] (by decide +kernel) (by decide +kernel)
set_option maxRecDepth 20000 in
theorem gX10_bound_X10_in : GoodIn wsX10_bound (va_wsS RX10 123 yX10_in wsX10_in) := goodIn_app (goodIn_of _ (by decide +kernel)) ggX10_bound_X10_in
theorem dX10_bound_0 : decode cX10_bound 0 = .ok (.aload_n 0, 1) := by decide +kernel
theorem dX10_bound_1 : decode cX10_bound 1 = .ok (.iconst 0, 1) := by decide +kernel
theorem dX10_bound_2 : decode cX10_bound 2 = .ok (.putfield 1, 3) := by decide +kernel
theorem dX10_bound_5 : decode cX10_bound 5 = .ok (.aload_n 0, 1) := by decide +kernel
theorem dX10_bound_6 : decode cX10_bound 6 = .ok (.iload_n 1, 1) := by decide +kernel
theorem dX10_bound_7 : decode cX10_bound 7 = .ok (.invokevirtual 135, 3) := by decide +kernel
theorem dX10_bound_10 : decode cX10_bound 10 = .ok (.ifCond .ne 6, 3) := by decide +kernel
theorem dX10_bound_13 : decode cX10_bound 13 = .ok (.bipush (-2), 2) := by decide +kernel
theorem dX10_bound_15 : decode cX10_bound 15 = .ok (.ireturn, 1) := by decide +kernel
theorem dX10_bound_16 : decode cX10_bound 16 = .ok (.iload_n 2, 1) := by decide +kernel
theorem dX10_bound_17 : decode cX10_bound 17 = .ok (.i2l, 1) := by decide +kernel
theorem dX10_bound_18 : decode cX10_bound 18 = .ok (.lconst 0, 1) := by decide +kernel
theorem dX10_bound_19 : decode cX10_bound 19 = .ok (.ldc2_w 139, 3) := by decide +kernel
theorem dX10_bound_22 : decode cX10_bound 22 = .ok (.invokestatic 123, 3) := by decide +kernel
theorem dX10_bound_25 : decode cX10_bound 25 = .ok (.ifCond .ne 6, 3) := by decide +kernel
theorem dX10_bound_28 : decode cX10_bound 28 = .ok (.bipush (-3), 2) := by decide +kernel
theorem dX10_bound_30 : decode cX10_bound 30 = .ok (.ireturn, 1) := by decide +kernel
theorem dX10_bound_31 : decode cX10_bound 31 = .ok (.iload_n 1, 1) := by decide +kernel
theorem dX10_bound_32 : decode cX10_bound 32 = .ok (.ifCond .ne 6, 3) := by decide +kernel
theorem dX10_bound_35 : decode cX10_bound 35 = .ok (.bipush (-4), 2) := by decide +kernel
theorem dX10_bound_37 : decode cX10_bound 37 = .ok (.ireturn, 1) := by decide +kernel
theorem dX10_bound_38 : decode cX10_bound 38 = .ok (.aload_n 0, 1) := by decide +kernel
theorem dX10_bound_39 : decode cX10_bound 39 = .ok (.getfield 42, 3) := by decide +kernel
theorem dX10_bound_42 : decode cX10_bound 42 = .ok (.iload_n 1, 1) := by decide +kernel
theorem dX10_bound_43 : decode cX10_bound 43 = .ok (.iaload, 1) := by decide +kernel
theorem dX10_bound_44 : decode cX10_bound 44 = .ok (.istore_n 3, 1) := by decide +kernel
theorem dX10_bound_45 : decode cX10_bound 45 = .ok (.aload_n 0, 1) := by decide +kernel
theorem dX10_bound_46 : decode cX10_bound 46 = .ok (.getfield 42, 3) := by decide +kernel
theorem dX10_bound_49 : decode cX10_bound 49 = .ok (.iload_n 1, 1) := by decide +kernel
theorem dX10_bound_50 : decode cX10_bound 50 = .ok (.iload_n 2, 1) := by decide +kernel
theorem dX10_bound_51 : decode cX10_bound 51 = .ok (.iastore, 1) := by decide +kernel
theorem dX10_bound_52 : decode cX10_bound 52 = .ok (.iload_n 3, 1) := by decide +kernel
theorem dX10_bound_53 : decode cX10_bound 53 = .ok (.ireturn, 1) := by decide +kernel
set_option maxRecDepth 20000 in
theorem ggX10_file_X10_isName : GoodIn wsX10_file wsX10_isName := goodIn_r _ [11, 12, 13, 14, 10, 15] (by decide +kernel) (by decide +kernel)
set_option maxRecDepth 20000 in
theorem gX10_file_X10_isName : GoodIn wsX10_file (va_wsS RX10 141 yX10_isName wsX10_isName) := goodIn_app (goodIn_of _ (by decide +kernel)) ggX10_file_X10_isName
theorem dX10_file_0 : decode cX10_file 0 = .ok (.aload_n 0, 1) := by decide +kernel
theorem dX10_file_1 : decode cX10_file 1 = .ok (.iconst 0, 1) := by decide +kernel
theorem dX10_file_2 : decode cX10_file 2 = .ok (.putfield 1, 3) := by decide +kernel
theorem dX10_file_5 : decode cX10_file 5 = .ok (.iload_n 1, 1) := by decide +kernel
theorem dX10_file_6 : decode cX10_file 6 = .ok (.invokestatic 141, 3) := by decide +kernel
theorem dX10_file_9 : decode cX10_file 9 = .ok (.ifCond .eq 17, 3) := by decide +kernel
theorem dX10_file_12 : decode cX10_file 12 = .ok (.iload_n 2, 1) := by decide +kernel
theorem dX10_file_13 : decode cX10_file 13 = .ok (.invokestatic 141, 3) := by decide +kernel
theorem dX10_file_16 : decode cX10_file 16 = .ok (.ifCond .eq 10, 3) := by decide +kernel
theorem dX10_file_19 : decode cX10_file 19 = .ok (.iload_n 3, 1) := by decide +kernel
theorem dX10_file_20 : decode cX10_file 20 = .ok (.invokestatic 141, 3) := by decide +kernel
theorem dX10_file_23 : decode cX10_file 23 = .ok (.ifCond .ne 6, 3) := by decide +kernel
theorem dX10_file_26 : decode cX10_file 26 = .ok (.bipush (-3), 2) := by decide +kernel
theorem dX10_file_28 : decode cX10_file 28 = .ok (.ireturn, 1) := by decide +kernel
theorem dX10_file_29 : decode cX10_file 29 = .ok (.aload_n 0, 1) := by decide +kernel
theorem dX10_file_30 : decode cX10_file 30 = .ok (.getfield 127, 3) := by decide +kernel
theorem dX10_file_33 : decode cX10_file 33 = .ok (.bipush 30, 2) := by decide +kernel
theorem dX10_file_35 : decode cX10_file 35 = .ok (.if_icmp .ne 6, 3) := by decide +kernel
theorem dX10_file_38 : decode cX10_file 38 = .ok (.bipush (-5), 2) := by decide +kernel
theorem dX10_file_40 : decode cX10_file 40 = .ok (.ireturn, 1) := by decide +kernel
theorem dX10_file_41 : decode cX10_file 41 = .ok (.aload_n 0, 1) := by decide +kernel
theorem dX10_file_42 : decode cX10_file 42 = .ok (.getfield 127, 3) := by decide +kernel
theorem dX10_file_45 : decode cX10_file 45 = .ok (.istore 6, 2) := by decide +kernel
theorem dX10_file_47 : decode cX10_file 47 = .ok (.aload_n 0, 1) := by decide +kernel
theorem dX10_file_48 : decode cX10_file 48 = .ok (.dup, 1) := by decide +kernel
theorem dX10_file_49 : decode cX10_file 49 = .ok (.getfield 127, 3) := by decide +kernel
theorem dX10_file_52 : decode cX10_file 52 = .ok (.iconst 1, 1) := by decide +kernel
theorem dX10_file_53 : decode cX10_file 53 = .ok (.iadd, 1) := by decide +kernel
theorem dX10_file_54 : decode cX10_file 54 = .ok (.putfield 127, 3) := by decide +kernel
theorem dX10_file_57 : decode cX10_file 57 = .ok (.aload_n 0, 1) := by decide +kernel
theorem dX10_file_58 : decode cX10_file 58 = .ok (.getfield 13, 3) := by decide +kernel
theorem dX10_file_61 : decode cX10_file 61 = .ok (.iload 6, 2) := by decide +kernel
theorem dX10_file_63 : decode cX10_file 63 = .ok (.iload_n 1, 1) := by decide +kernel
theorem dX10_file_64 : decode cX10_file 64 = .ok (.iastore, 1) := by decide +kernel
theorem dX10_file_65 : decode cX10_file 65 = .ok (.aload_n 0, 1) := by decide +kernel
theorem dX10_file_66 : decode cX10_file 66 = .ok (.getfield 17, 3) := by decide +kernel
theorem dX10_file_69 : decode cX10_file 69 = .ok (.iload 6, 2) := by decide +kernel
theorem dX10_file_71 : decode cX10_file 71 = .ok (.iload_n 2, 1) := by decide +kernel
theorem dX10_file_72 : decode cX10_file 72 = .ok (.iastore, 1) := by decide +kernel
theorem dX10_file_73 : decode cX10_file 73 = .ok (.aload_n 0, 1) := by decide +kernel
theorem dX10_file_74 : decode cX10_file 74 = .ok (.getfield 20, 3) := by decide +kernel
theorem dX10_file_77 : decode cX10_file 77 = .ok (.iload 6, 2) := by decide +kernel
theorem dX10_file_79 : decode cX10_file 79 = .ok (.iload_n 3, 1) := by decide +kernel
theorem dX10_file_80 : decode cX10_file 80 = .ok (.iastore, 1) := by decide +kernel
theorem dX10_file_81 : decode cX10_file 81 = .ok (.aload_n 0, 1) := by decide +kernel
theorem dX10_file_82 : decode cX10_file 82 = .ok (.getfield 23, 3) := by decide +kernel
theorem dX10_file_85 : decode cX10_file 85 = .ok (.iload 6, 2) := by decide +kernel
theorem dX10_file_87 : decode cX10_file 87 = .ok (.iload 4, 2) := by decide +kernel
theorem dX10_file_89 : decode cX10_file 89 = .ok (.iastore, 1) := by decide +kernel
theorem dX10_file_90 : decode cX10_file 90 = .ok (.aload_n 0, 1) := by decide +kernel
theorem dX10_file_91 : decode cX10_file 91 = .ok (.getfield 26, 3) := by decide +kernel
theorem dX10_file_94 : decode cX10_file 94 = .ok (.iload 6, 2) := by decide +kernel
theorem dX10_file_96 : decode cX10_file 96 = .ok (.iload 5, 2) := by decide +kernel
theorem dX10_file_98 : decode cX10_file 98 = .ok (.bastore, 1) := by decide +kernel
theorem dX10_file_99 : decode cX10_file 99 = .ok (.iload 6, 2) := by decide +kernel
theorem dX10_file_101 : decode cX10_file 101 = .ok (.ireturn, 1) := by decide +kernel
set_option maxRecDepth 20000 in
theorem ggX10_method_X10_isFile : GoodIn wsX10_method wsX10_isFile := goodIn_r _ [11, 12, 13, 14, 10, 15, 16, 17, 18, 19, 20, 21, 22, 23, 24, 25, 26, 27, 28, 29, 30, 31, 32, 33, 34, 35, 36, 37, 38, 39, 40, 41, 42, 43, 44, 45, 46, 47, 48, 49, 50, 51, 52, 53, 54, 55, 56, 57] (by decide +kernel) (by decide +kernel)
set_option maxRecDepth 20000 in
theorem gX10_method_X10_isFile : GoodIn wsX10_method (wsV RX10 144 RX10 yX10_isFile wsX10_isFile) := goodIn_app (goodIn_of _ (by decide +kernel)) ggX10_method_X10_isFile
set_option maxRecDepth 20000 in
theorem ggX10_method_X10_in : GoodIn wsX10_method wsX10_in := goodIn_r _ [15] (by decide +kernel) (by decide +kernel)
set_option maxRecDepth 20000 in
theorem gX10_method_X10_in : GoodIn wsX10_method (va_wsS RX10 123 yX10_in wsX10_in) := goodIn_app (goodIn_of _ (by decide +kernel)) ggX10_method_X10_in
theorem dX10_method_0 : decode cX10_method 0 = .ok (.aload_n 0, 1) := by decide +kernel
theorem dX10_method_1 : decode cX10_method 1 = .ok (.iconst 0, 1) := by decide +kernel
theorem dX10_method_2 : decode cX10_method 2 = .ok (.putfield 1, 3) := by decide +kernel
theorem dX10_method_5 : decode cX10_method 5 = .ok (.aload_n 0, 1) := by decide +kernel
theorem dX10_method_6 : decode cX10_method 6 = .ok (.iload_n 1, 1) := by decide +kernel
theorem dX10_method_7 : decode cX10_method 7 = .ok (.invokevirtual 144, 3) := by decide +kernel
theorem dX10_method_10 : decode cX10_method 10 = .ok (.ifCond .ne 6, 3) := by decide +kernel
theorem dX10_method_13 : decode cX10_method 13 = .ok (.bipush (-2), 2) := by decide +kernel
theorem dX10_method_15 : decode cX10_method 15 = .ok (.ireturn, 1) := by decide +kernel
theorem dX10_method_16 : decode cX10_method 16 = .ok (.iload_n 2, 1) := by decide +kernel
theorem dX10_method_17 : decode cX10_method 17 = .ok (.i2l, 1) := by decide +kernel
theorem dX10_method_18 : decode cX10_method 18 = .ok (.lconst 0, 1) := by decide +kernel
theorem dX10_method_19 : decode cX10_method 19 = .ok (.ldc2_w 147, 3) := by decide +kernel
theorem dX10_method_22 : decode cX10_method 22 = .ok (.invokestatic 123, 3) := by decide +kernel
theorem dX10_method_25 : decode cX10_method 25 = .ok (.ifCond .eq 15, 3) := by decide +kernel
theorem dX10_method_28 : decode cX10_method 28 = .ok (.iload_n 3, 1) := by decide +kernel
theorem dX10_method_29 : decode cX10_method 29 = .ok (.i2l, 1) := by decide +kernel
theorem dX10_method_30 : decode cX10_method 30 = .ok (.lconst 0, 1) := by decide +kernel
theorem dX10_method_31 : decode cX10_method 31 = .ok (.ldc2_w 149, 3) := by decide +kernel
theorem dX10_method_34 : decode cX10_method 34 = .ok (.invokestatic 123, 3) := by decide +kernel
theorem dX10_method_37 : decode cX10_method 37 = .ok (.ifCond .ne 6, 3) := by decide +kernel
theorem dX10_method_40 : decode cX10_method 40 = .ok (.bipush (-3), 2) := by decide +kernel
theorem dX10_method_42 : decode cX10_method 42 = .ok (.ireturn, 1) := by decide +kernel
theorem dX10_method_43 : decode cX10_method 43 = .ok (.aload_n 0, 1) := by decide +kernel
theorem dX10_method_44 : decode cX10_method 44 = .ok (.getfield 30, 3) := by decide +kernel
theorem dX10_method_47 : decode cX10_method 47 = .ok (.iconst 4, 1) := by decide +kernel
theorem dX10_method_48 : decode cX10_method 48 = .ok (.iload_n 1, 1) := by decide +kernel
theorem dX10_method_49 : decode cX10_method 49 = .ok (.imul, 1) := by decide +kernel
theorem dX10_method_50 : decode cX10_method 50 = .ok (.iload_n 2, 1) := by decide +kernel
theorem dX10_method_51 : decode cX10_method 51 = .ok (.iadd, 1) := by decide +kernel
theorem dX10_method_52 : decode cX10_method 52 = .ok (.iload_n 3, 1) := by decide +kernel
theorem dX10_method_53 : decode cX10_method 53 = .ok (.iconst 1, 1) := by decide +kernel
theorem dX10_method_54 : decode cX10_method 54 = .ok (.iadd, 1) := by decide +kernel
theorem dX10_method_55 : decode cX10_method 55 = .ok (.iastore, 1) := by decide +kernel
theorem dX10_method_56 : decode cX10_method 56 = .ok (.aload_n 0, 1) := by decide +kernel
theorem dX10_method_57 : decode cX10_method 57 = .ok (.getfield 33, 3) := by decide +kernel
theorem dX10_method_60 : decode cX10_method 60 = .ok (.iconst 4, 1) := by decide +kernel
theorem dX10_method_61 : decode cX10_method 61 = .ok (.iload_n 1, 1) := by decide +kernel
theorem dX10_method_62 : decode cX10_method 62 = .ok (.imul, 1) := by decide +kernel
theorem dX10_method_63 : decode cX10_method 63 = .ok (.iload_n 2, 1) := by decide +kernel
theorem dX10_method_64 : decode cX10_method 64 = .ok (.iadd, 1) := by decide +kernel
theorem dX10_method_65 : decode cX10_method 65 = .ok (.iload 4, 2) := by decide +kernel
theorem dX10_method_67 : decode cX10_method 67 = .ok (.iastore, 1) := by decide +kernel
theorem dX10_method_68 : decode cX10_method 68 = .ok (.aload_n 0, 1) := by decide +kernel
theorem dX10_method_69 : decode cX10_method 69 = .ok (.getfield 36, 3) := by decide +kernel
theorem dX10_method_72 : decode cX10_method 72 = .ok (.iconst 4, 1) := by decide +kernel
theorem dX10_method_73 : decode cX10_method 73 = .ok (.iload_n 1, 1) := by decide +kernel
theorem dX10_method_74 : decode cX10_method 74 = .ok (.imul, 1) := by decide +kernel
theorem dX10_method_75 : decode cX10_method 75 = .ok (.iload_n 2, 1) := by decide +kernel
theorem dX10_method_76 : decode cX10_method 76 = .ok (.iadd, 1) := by decide +kernel
theorem dX10_method_77 : decode cX10_method 77 = .ok (.iload 5, 2) := by decide +kernel
theorem dX10_method_79 : decode cX10_method 79 = .ok (.iastore, 1) := by decide +kernel
theorem dX10_method_80 : decode cX10_method 80 = .ok (.iconst 1, 1) := by decide +kernel
theorem dX10_method_81 : decode cX10_method 81 = .ok (.ireturn, 1) := by decide +kernel
set_option maxRecDepth 20000 in
theorem ggX10_bear_X10_isLoader : GoodIn wsX10_bear wsX10_isLoader := goodIn_r _ [8, 9, 10, 11, 7, 12, 18, 19, 20, 21, 22, 23, 24, 25, 26, 27, 28, 29, 30, 31, 32, 33, 34, 35, 36, 37, 38, 39, 40, 41, 42, 43, 44, 45, 46, 47, 48, 49, 50, 51, 52, 53, 54, 55, 56, 57, 58, 59] (by decide +kernel) (by decide +kernel)
set_option maxRecDepth 20000 in
theorem gX10_bear_X10_isLoader : GoodIn wsX10_bear (wsV RX10 135 RX10 yX10_isLoader wsX10_isLoader) := goodIn_app (goodIn_of _ (by decide +kernel)) ggX10_bear_X10_isLoader
set_option maxRecDepth 20000 in
theorem ggX10_bear_X10_isFile : GoodIn wsX10_bear wsX10_isFile := goodIn_r _ [16, 17, 10, 11, 7, 12, 18, 19, 20, 21, 22, 23, 24, 25, 26, 27, 28, 29, 30, 31, 32, 33, 34, 35, 36, 37, 38, 39, 40, 41, 42, 43, 44, 45, 46, 47, 48, 49, 50, 51, 52, 53, 54, 55, 56, 57, 58, 59] (by decide +kernel) (by decide +kernel)
set_option maxRecDepth 20000 in
theorem gX10_bear_X10_isFile : GoodIn wsX10_bear (wsV RX10 144 RX10 yX10_isFile wsX10_isFile) := goodIn_app (goodIn_of _ (by decide +kernel)) ggX10_bear_X10_isFile
theorem dX10_bear_0 : decode cX10_bear 0 = .ok (.aload_n 0, 1) := by decide +kernel
theorem dX10_bear_1 : decode cX10_bear 1 = .ok (.iconst 0, 1) := by decide +kernel
theorem dX10_bear_2 : decode cX10_bear 2 = .ok (.putfield 1, 3) := by decide +kernel
theorem dX10_bear_5 : decode cX10_bear 5 = .ok (.aload_n 0, 1) := by decide +kernel
theorem dX10_bear_6 : decode cX10_bear 6 = .ok (.iload_n 1, 1) := by decide +kernel
theorem dX10_bear_7 : decode cX10_bear 7 = .ok (.invokevirtual 135, 3) := by decide +kernel
theorem dX10_bear_10 : decode cX10_bear 10 = .ok (.ifCond .eq 11, 3) := by decide +kernel
theorem dX10_bear_13 : decode cX10_bear 13 = .ok (.aload_n 0, 1) := by decide +kernel
theorem dX10_bear_14 : decode cX10_bear 14 = .ok (.iload_n 2, 1) := by decide +kernel
theorem dX10_bear_15 : decode cX10_bear 15 = .ok (.invokevirtual 144, 3) := by decide +kernel
theorem dX10_bear_18 : decode cX10_bear 18 = .ok (.ifCond .ne 6, 3) := by decide +kernel
theorem dX10_bear_21 : decode cX10_bear 21 = .ok (.bipush (-2), 2) := by decide +kernel
theorem dX10_bear_23 : decode cX10_bear 23 = .ok (.ireturn, 1) := by decide +kernel
theorem dX10_bear_24 : decode cX10_bear 24 = .ok (.iload_n 1, 1) := by decide +kernel
theorem dX10_bear_25 : decode cX10_bear 25 = .ok (.ifCond .ne 6, 3) := by decide +kernel
theorem dX10_bear_28 : decode cX10_bear 28 = .ok (.bipush (-4), 2) := by decide +kernel
theorem dX10_bear_30 : decode cX10_bear 30 = .ok (.ireturn, 1) := by decide +kernel
theorem dX10_bear_31 : decode cX10_bear 31 = .ok (.aload_n 0, 1) := by decide +kernel
theorem dX10_bear_32 : decode cX10_bear 32 = .ok (.getfield 45, 3) := by decide +kernel
theorem dX10_bear_35 : decode cX10_bear 35 = .ok (.bipush 40, 2) := by decide +kernel
theorem dX10_bear_37 : decode cX10_bear 37 = .ok (.iload_n 1, 1) := by decide +kernel
theorem dX10_bear_38 : decode cX10_bear 38 = .ok (.imul, 1) := by decide +kernel
theorem dX10_bear_39 : decode cX10_bear 39 = .ok (.aload_n 0, 1) := by decide +kernel
theorem dX10_bear_40 : decode cX10_bear 40 = .ok (.getfield 13, 3) := by decide +kernel
theorem dX10_bear_43 : decode cX10_bear 43 = .ok (.iload_n 2, 1) := by decide +kernel
theorem dX10_bear_44 : decode cX10_bear 44 = .ok (.iaload, 1) := by decide +kernel
theorem dX10_bear_45 : decode cX10_bear 45 = .ok (.iadd, 1) := by decide +kernel
theorem dX10_bear_46 : decode cX10_bear 46 = .ok (.iload_n 2, 1) := by decide +kernel
theorem dX10_bear_47 : decode cX10_bear 47 = .ok (.iconst 1, 1) := by decide +kernel
theorem dX10_bear_48 : decode cX10_bear 48 = .ok (.iadd, 1) := by decide +kernel
theorem dX10_bear_49 : decode cX10_bear 49 = .ok (.iastore, 1) := by decide +kernel
theorem dX10_bear_50 : decode cX10_bear 50 = .ok (.iconst 1, 1) := by decide +kernel
theorem dX10_bear_51 : decode cX10_bear 51 = .ok (.ireturn, 1) := by decide +kernel
theorem dX10_push_0 : decode cX10_push 0 = .ok (.aload_n 0, 1) := by decide +kernel
theorem dX10_push_1 : decode cX10_push 1 = .ok (.getfield 79, 3) := by decide +kernel
theorem dX10_push_4 : decode cX10_push 4 = .ok (.aload_n 0, 1) := by decide +kernel
theorem dX10_push_5 : decode cX10_push 5 = .ok (.getfield 151, 3) := by decide +kernel
theorem dX10_push_8 : decode cX10_push 8 = .ok (.iload_n 1, 1) := by decide +kernel
theorem dX10_push_9 : decode cX10_push 9 = .ok (.iastore, 1) := by decide +kernel
theorem dX10_push_10 : decode cX10_push 10 = .ok (.aload_n 0, 1) := by decide +kernel
theorem dX10_push_11 : decode cX10_push 11 = .ok (.getfield 82, 3) := by decide +kernel
theorem dX10_push_14 : decode cX10_push 14 = .ok (.aload_n 0, 1) := by decide +kernel
theorem dX10_push_15 : decode cX10_push 15 = .ok (.getfield 151, 3) := by decide +kernel
theorem dX10_push_18 : decode cX10_push 18 = .ok (.iload_n 2, 1) := by decide +kernel
theorem dX10_push_19 : decode cX10_push 19 = .ok (.iastore, 1) := by decide +kernel
theorem dX10_push_20 : decode cX10_push 20 = .ok (.aload_n 0, 1) := by decide +kernel
theorem dX10_push_21 : decode cX10_push 21 = .ok (.getfield 85, 3) := by decide +kernel
theorem dX10_push_24 : decode cX10_push 24 = .ok (.aload_n 0, 1) := by decide +kernel
theorem dX10_push_25 : decode cX10_push 25 = .ok (.getfield 151, 3) := by decide +kernel
theorem dX10_push_28 : decode cX10_push 28 = .ok (.iload_n 3, 1) := by decide +kernel
theorem dX10_push_29 : decode cX10_push 29 = .ok (.iastore, 1) := by decide +kernel
theorem dX10_push_30 : decode cX10_push 30 = .ok (.aload_n 0, 1) := by decide +kernel
theorem dX10_push_31 : decode cX10_push 31 = .ok (.getfield 88, 3) := by decide +kernel
theorem dX10_push_34 : decode cX10_push 34 = .ok (.aload_n 0, 1) := by decide +kernel
theorem dX10_push_35 : decode cX10_push 35 = .ok (.getfield 151, 3) := by decide +kernel
theorem dX10_push_38 : decode cX10_push 38 = .ok (.iconst 0, 1) := by decide +kernel
theorem dX10_push_39 : decode cX10_push 39 = .ok (.iastore, 1) := by decide +kernel
theorem dX10_push_40 : decode cX10_push 40 = .ok (.aload_n 0, 1) := by decide +kernel
theorem dX10_push_41 : decode cX10_push 41 = .ok (.getfield 91, 3) := by decide +kernel
theorem dX10_push_44 : decode cX10_push 44 = .ok (.aload_n 0, 1) := by decide +kernel
theorem dX10_push_45 : decode cX10_push 45 = .ok (.getfield 151, 3) := by decide +kernel
theorem dX10_push_48 : decode cX10_push 48 = .ok (.iconst 0, 1) := by decide +kernel
theorem dX10_push_49 : decode cX10_push 49 = .ok (.iastore, 1) := by decide +kernel
theorem dX10_push_50 : decode cX10_push 50 = .ok (.aload_n 0, 1) := by decide +kernel
theorem dX10_push_51 : decode cX10_push 51 = .ok (.dup, 1) := by decide +kernel
theorem dX10_push_52 : decode cX10_push 52 = .ok (.getfield 151, 3) := by decide +kernel
theorem dX10_push_55 : decode cX10_push 55 = .ok (.iconst 1, 1) := by decide +kernel
theorem dX10_push_56 : decode cX10_push 56 = .ok (.iadd, 1) := by decide +kernel
theorem dX10_push_57 : decode cX10_push 57 = .ok (.putfield 151, 3) := by decide +kernel
theorem dX10_push_60 : decode cX10_push 60 = .ok (.return_, 1) := by decide +kernel
theorem dX10_ends_0 : decode cX10_ends 0 = .ok (.aload_n 0, 1) := by decide +kernel
theorem dX10_ends_1 : decode cX10_ends 1 = .ok (.dup, 1) := by decide +kernel
theorem dX10_ends_2 : decode cX10_ends 2 = .ok (.getfield 151, 3) := by decide +kernel
theorem dX10_ends_5 : decode cX10_ends 5 = .ok (.iconst 1, 1) := by decide +kernel
theorem dX10_ends_6 : decode cX10_ends 6 = .ok (.isub, 1) := by decide +kernel
theorem dX10_ends_7 : decode cX10_ends 7 = .ok (.putfield 151, 3) := by decide +kernel
theorem dX10_ends_10 : decode cX10_ends 10 = .ok (.aload_n 0, 1) := by decide +kernel
theorem dX10_ends_11 : decode cX10_ends 11 = .ok (.iload_n 1, 1) := by decide +kernel
theorem dX10_ends_12 : decode cX10_ends 12 = .ok (.putfield 154, 3) := by decide +kernel
theorem dX10_ends_15 : decode cX10_ends 15 = .ok (.return_, 1) := by decide +kernel
theorem dX10_gives_0 : decode cX10_gives 0 = .ok (.aload_n 0, 1) := by decide +kernel
theorem dX10_gives_1 : decode cX10_gives 1 = .ok (.dup, 1) := by decide +kernel
theorem dX10_gives_2 : decode cX10_gives 2 = .ok (.getfield 151, 3) := by decide +kernel
theorem dX10_gives_5 : decode cX10_gives 5 = .ok (.iconst 1, 1) := by decide +kernel
theorem dX10_gives_6 : decode cX10_gives 6 = .ok (.isub, 1) := by decide +kernel
theorem dX10_gives_7 : decode cX10_gives 7 = .ok (.putfield 151, 3) := by decide +kernel
theorem dX10_gives_10 : decode cX10_gives 10 = .ok (.aload_n 0, 1) := by decide +kernel
theorem dX10_gives_11 : decode cX10_gives 11 = .ok (.iconst 0, 1) := by decide +kernel
theorem dX10_gives_12 : decode cX10_gives 12 = .ok (.putfield 154, 3) := by decide +kernel
theorem dX10_gives_15 : decode cX10_gives 15 = .ok (.aload_n 0, 1) := by decide +kernel
theorem dX10_gives_16 : decode cX10_gives 16 = .ok (.iload_n 1, 1) := by decide +kernel
theorem dX10_gives_17 : decode cX10_gives 17 = .ok (.putfield 157, 3) := by decide +kernel
theorem dX10_gives_20 : decode cX10_gives 20 = .ok (.return_, 1) := by decide +kernel
theorem dX10_isBarred_0 : decode cX10_isBarred 0 = .ok (.iconst 0, 1) := by decide +kernel
theorem dX10_isBarred_1 : decode cX10_isBarred 1 = .ok (.istore 4, 2) := by decide +kernel
theorem dX10_isBarred_3 : decode cX10_isBarred 3 = .ok (.iload 4, 2) := by decide +kernel
theorem dX10_isBarred_5 : decode cX10_isBarred 5 = .ok (.aload_n 0, 1) := by decide +kernel
theorem dX10_isBarred_6 : decode cX10_isBarred 6 = .ok (.getfield 120, 3) := by decide +kernel
theorem dX10_isBarred_9 : decode cX10_isBarred 9 = .ok (.if_icmp .ge 64, 3) := by decide +kernel
theorem dX10_isBarred_12 : decode cX10_isBarred 12 = .ok (.bipush 40, 2) := by decide +kernel
theorem dX10_isBarred_14 : decode cX10_isBarred 14 = .ok (.iload 4, 2) := by decide +kernel
theorem dX10_isBarred_16 : decode cX10_isBarred 16 = .ok (.imul, 1) := by decide +kernel
theorem dX10_isBarred_17 : decode cX10_isBarred 17 = .ok (.iload_n 2, 1) := by decide +kernel
theorem dX10_isBarred_18 : decode cX10_isBarred 18 = .ok (.iadd, 1) := by decide +kernel
theorem dX10_isBarred_19 : decode cX10_isBarred 19 = .ok (.istore 5, 2) := by decide +kernel
theorem dX10_isBarred_21 : decode cX10_isBarred 21 = .ok (.aload_n 0, 1) := by decide +kernel
theorem dX10_isBarred_22 : decode cX10_isBarred 22 = .ok (.getfield 54, 3) := by decide +kernel
theorem dX10_isBarred_25 : decode cX10_isBarred 25 = .ok (.iload 5, 2) := by decide +kernel
theorem dX10_isBarred_27 : decode cX10_isBarred 27 = .ok (.iaload, 1) := by decide +kernel
theorem dX10_isBarred_28 : decode cX10_isBarred 28 = .ok (.aload_n 0, 1) := by decide +kernel
theorem dX10_isBarred_29 : decode cX10_isBarred 29 = .ok (.getfield 54, 3) := by decide +kernel
theorem dX10_isBarred_32 : decode cX10_isBarred 32 = .ok (.bipush 40, 2) := by decide +kernel
theorem dX10_isBarred_34 : decode cX10_isBarred 34 = .ok (.iload_n 1, 1) := by decide +kernel
theorem dX10_isBarred_35 : decode cX10_isBarred 35 = .ok (.imul, 1) := by decide +kernel
theorem dX10_isBarred_36 : decode cX10_isBarred 36 = .ok (.iload_n 2, 1) := by decide +kernel
theorem dX10_isBarred_37 : decode cX10_isBarred 37 = .ok (.iadd, 1) := by decide +kernel
theorem dX10_isBarred_38 : decode cX10_isBarred 38 = .ok (.iaload, 1) := by decide +kernel
theorem dX10_isBarred_39 : decode cX10_isBarred 39 = .ok (.if_icmp .ne 28, 3) := by decide +kernel
theorem dX10_isBarred_42 : decode cX10_isBarred 42 = .ok (.aload_n 0, 1) := by decide +kernel
theorem dX10_isBarred_43 : decode cX10_isBarred 43 = .ok (.getfield 48, 3) := by decide +kernel
theorem dX10_isBarred_46 : decode cX10_isBarred 46 = .ok (.iload 5, 2) := by decide +kernel
theorem dX10_isBarred_48 : decode cX10_isBarred 48 = .ok (.iaload, 1) := by decide +kernel
theorem dX10_isBarred_49 : decode cX10_isBarred 49 = .ok (.ifCond .le 18, 3) := by decide +kernel
theorem dX10_isBarred_52 : decode cX10_isBarred 52 = .ok (.aload_n 0, 1) := by decide +kernel
theorem dX10_isBarred_53 : decode cX10_isBarred 53 = .ok (.getfield 48, 3) := by decide +kernel
theorem dX10_isBarred_56 : decode cX10_isBarred 56 = .ok (.iload 5, 2) := by decide +kernel
theorem dX10_isBarred_58 : decode cX10_isBarred 58 = .ok (.iaload, 1) := by decide +kernel
theorem dX10_isBarred_59 : decode cX10_isBarred 59 = .ok (.iload_n 3, 1) := by decide +kernel
theorem dX10_isBarred_60 : decode cX10_isBarred 60 = .ok (.iconst 1, 1) := by decide +kernel
theorem dX10_isBarred_61 : decode cX10_isBarred 61 = .ok (.iadd, 1) := by decide +kernel
theorem dX10_isBarred_62 : decode cX10_isBarred 62 = .ok (.if_icmp .eq 5, 3) := by decide +kernel
theorem dX10_isBarred_65 : decode cX10_isBarred 65 = .ok (.iconst 1, 1) := by decide +kernel
theorem dX10_isBarred_66 : decode cX10_isBarred 66 = .ok (.ireturn, 1) := by decide +kernel
theorem dX10_isBarred_67 : decode cX10_isBarred 67 = .ok (.iinc 4 1, 3) := by decide +kernel
theorem dX10_isBarred_70 : decode cX10_isBarred 70 = .ok (.goto (-67), 3) := by decide +kernel
theorem dX10_isBarred_73 : decode cX10_isBarred 73 = .ok (.iconst 0, 1) := by decide +kernel
theorem dX10_isBarred_74 : decode cX10_isBarred 74 = .ok (.ireturn, 1) := by decide +kernel
set_option maxRecDepth 20000 in
theorem ggX10_oneLoad_X10_gives : GoodIn wsX10_oneLoad wsX10_gives := goodIn_r _ [18, 19, 12, 13, 35, 36, 37, 38, 39, 40, 41, 42, 43, 44, 45, 46, 47, 48, 49, 50, 51, 52, 53, 54, 55, 56, 57, 58, 59, 60, 61, 62, 63, 64, 65, 66, 67, 68, 69, 70, 71, 72, 73, 74, 75, 76] (by decide +kernel) (by decide +kernel)
set_option maxRecDepth 20000 in
theorem gX10_oneLoad_X10_gives : GoodIn wsX10_oneLoad (wsV RX10 163 RX10 yX10_gives wsX10_gives) := goodIn_app (goodIn_of _ (by decide +kernel)) ggX10_oneLoad_X10_gives
set_option maxRecDepth 20000 in
theorem ggX10_oneLoad_X10_ends : GoodIn wsX10_oneLoad wsX10_ends := goodIn_r _ [23, 19, 12, 35, 36, 37, 38, 39, 40, 41, 42, 43, 44, 45, 46, 47, 48, 49, 50, 51, 52, 53, 54, 55, 56, 57, 58, 59, 60, 61, 62, 63, 64, 65, 66, 67, 68, 69, 70, 71, 72, 73, 74, 75, 76] (by decide +kernel) (by decide +kernel)
set_option maxRecDepth 20000 in
theorem gX10_oneLoad_X10_ends : GoodIn wsX10_oneLoad (wsV RX10 167 RX10 yX10_ends wsX10_ends) := goodIn_app (goodIn_of _ (by decide +kernel)) ggX10_oneLoad_X10_ends
set_option maxRecDepth 20000 in
theorem ggX10_oneLoad_X10_push : GoodIn wsX10_oneLoad wsX10_push := goodIn_r _ [27, 28, 19, 1, 2, 3, 9, 35, 36, 37, 38, 39, 40, 41, 42, 43, 44, 45, 46, 47, 48, 49, 50, 51, 52, 53, 54, 55, 56, 57, 58, 59, 60, 61, 62, 63, 64, 65, 66, 67, 68, 69, 70, 71, 72, 73, 74, 75, 76] (by decide +kernel) (by decide +kernel)
set_option maxRecDepth 20000 in
theorem gX10_oneLoad_X10_push : GoodIn wsX10_oneLoad (wsV RX10 170 RX10 yX10_push wsX10_push) := goodIn_app (goodIn_of _ (by decide +kernel)) ggX10_oneLoad_X10_push
set_option maxRecDepth 20000 in
theorem ggX10_oneLoad_X10_isBarred : GoodIn wsX10_oneLoad wsX10_isBarred := goodIn_r _ [32, 33, 34, 6, 35, 36, 37, 38, 39, 40, 41, 42, 43, 44, 45, 46, 47, 48, 49, 50, 51, 52, 53, 54, 55, 56, 57, 58, 59, 60, 61, 62, 63, 64, 65, 66, 67, 68, 69, 70, 71, 72, 73, 74, 75, 76] (by decide +kernel) (by decide +kernel)
set_option maxRecDepth 20000 in
theorem gX10_oneLoad_X10_isBarred : GoodIn wsX10_oneLoad (wsV RX10 174 RX10 yX10_isBarred wsX10_isBarred) := goodIn_app (goodIn_of _ (by decide +kernel)) ggX10_oneLoad_X10_isBarred
theorem dX10_oneLoad_0 : decode cX10_oneLoad 0 = .ok (.aload_n 0, 1) := by decide +kernel
theorem dX10_oneLoad_1 : decode cX10_oneLoad 1 = .ok (.getfield 82, 3) := by decide +kernel
theorem dX10_oneLoad_4 : decode cX10_oneLoad 4 = .ok (.iload_n 1, 1) := by decide +kernel
theorem dX10_oneLoad_5 : decode cX10_oneLoad 5 = .ok (.iaload, 1) := by decide +kernel
theorem dX10_oneLoad_6 : decode cX10_oneLoad 6 = .ok (.istore_n 2, 1) := by decide +kernel
theorem dX10_oneLoad_7 : decode cX10_oneLoad 7 = .ok (.aload_n 0, 1) := by decide +kernel
theorem dX10_oneLoad_8 : decode cX10_oneLoad 8 = .ok (.getfield 85, 3) := by decide +kernel
theorem dX10_oneLoad_11 : decode cX10_oneLoad 11 = .ok (.iload_n 1, 1) := by decide +kernel
theorem dX10_oneLoad_12 : decode cX10_oneLoad 12 = .ok (.iaload, 1) := by decide +kernel
theorem dX10_oneLoad_13 : decode cX10_oneLoad 13 = .ok (.istore_n 3, 1) := by decide +kernel
theorem dX10_oneLoad_14 : decode cX10_oneLoad 14 = .ok (.bipush 40, 2) := by decide +kernel
theorem dX10_oneLoad_16 : decode cX10_oneLoad 16 = .ok (.iload_n 2, 1) := by decide +kernel
theorem dX10_oneLoad_17 : decode cX10_oneLoad 17 = .ok (.imul, 1) := by decide +kernel
theorem dX10_oneLoad_18 : decode cX10_oneLoad 18 = .ok (.iload_n 3, 1) := by decide +kernel
theorem dX10_oneLoad_19 : decode cX10_oneLoad 19 = .ok (.iadd, 1) := by decide +kernel
theorem dX10_oneLoad_20 : decode cX10_oneLoad 20 = .ok (.istore 4, 2) := by decide +kernel
theorem dX10_oneLoad_22 : decode cX10_oneLoad 22 = .ok (.aload_n 0, 1) := by decide +kernel
theorem dX10_oneLoad_23 : decode cX10_oneLoad 23 = .ok (.getfield 88, 3) := by decide +kernel
theorem dX10_oneLoad_26 : decode cX10_oneLoad 26 = .ok (.iload_n 1, 1) := by decide +kernel
theorem dX10_oneLoad_27 : decode cX10_oneLoad 27 = .ok (.iaload, 1) := by decide +kernel
theorem dX10_oneLoad_28 : decode cX10_oneLoad 28 = .ok (.ifCond .ne 83, 3) := by decide +kernel
theorem dX10_oneLoad_31 : decode cX10_oneLoad 31 = .ok (.aload_n 0, 1) := by decide +kernel
theorem dX10_oneLoad_32 : decode cX10_oneLoad 32 = .ok (.getfield 76, 3) := by decide +kernel
theorem dX10_oneLoad_35 : decode cX10_oneLoad 35 = .ok (.aload_n 0, 1) := by decide +kernel
theorem dX10_oneLoad_36 : decode cX10_oneLoad 36 = .ok (.getfield 160, 3) := by decide +kernel
theorem dX10_oneLoad_39 : decode cX10_oneLoad 39 = .ok (.bipush 30, 2) := by decide +kernel
