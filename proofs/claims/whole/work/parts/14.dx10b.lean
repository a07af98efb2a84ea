theorem dX10_oneLoad_41 : decode cX10_oneLoad 41 = .ok (.irem, 1) := by decide +kernel
theorem dX10_oneLoad_42 : decode cX10_oneLoad 42 = .ok (.bipush 64, 2) := by decide +kernel
theorem dX10_oneLoad_44 : decode cX10_oneLoad 44 = .ok (.iload_n 2, 1) := by decide +kernel
theorem dX10_oneLoad_45 : decode cX10_oneLoad 45 = .ok (.imul, 1) := by decide +kernel
theorem dX10_oneLoad_46 : decode cX10_oneLoad 46 = .ok (.iload_n 3, 1) := by decide +kernel
theorem dX10_oneLoad_47 : decode cX10_oneLoad 47 = .ok (.iadd, 1) := by decide +kernel
theorem dX10_oneLoad_48 : decode cX10_oneLoad 48 = .ok (.iastore, 1) := by decide +kernel
theorem dX10_oneLoad_49 : decode cX10_oneLoad 49 = .ok (.aload_n 0, 1) := by decide +kernel
theorem dX10_oneLoad_50 : decode cX10_oneLoad 50 = .ok (.dup, 1) := by decide +kernel
theorem dX10_oneLoad_51 : decode cX10_oneLoad 51 = .ok (.getfield 160, 3) := by decide +kernel
theorem dX10_oneLoad_54 : decode cX10_oneLoad 54 = .ok (.iconst 1, 1) := by decide +kernel
theorem dX10_oneLoad_55 : decode cX10_oneLoad 55 = .ok (.iadd, 1) := by decide +kernel
theorem dX10_oneLoad_56 : decode cX10_oneLoad 56 = .ok (.putfield 160, 3) := by decide +kernel
theorem dX10_oneLoad_59 : decode cX10_oneLoad 59 = .ok (.aload_n 0, 1) := by decide +kernel
theorem dX10_oneLoad_60 : decode cX10_oneLoad 60 = .ok (.getfield 88, 3) := by decide +kernel
theorem dX10_oneLoad_63 : decode cX10_oneLoad 63 = .ok (.iload_n 1, 1) := by decide +kernel
theorem dX10_oneLoad_64 : decode cX10_oneLoad 64 = .ok (.iconst 1, 1) := by decide +kernel
theorem dX10_oneLoad_65 : decode cX10_oneLoad 65 = .ok (.iastore, 1) := by decide +kernel
theorem dX10_oneLoad_66 : decode cX10_oneLoad 66 = .ok (.aload_n 0, 1) := by decide +kernel
theorem dX10_oneLoad_67 : decode cX10_oneLoad 67 = .ok (.getfield 48, 3) := by decide +kernel
theorem dX10_oneLoad_70 : decode cX10_oneLoad 70 = .ok (.iload 4, 2) := by decide +kernel
theorem dX10_oneLoad_72 : decode cX10_oneLoad 72 = .ok (.iaload, 1) := by decide +kernel
theorem dX10_oneLoad_73 : decode cX10_oneLoad 73 = .ok (.ifCond .le 19, 3) := by decide +kernel
theorem dX10_oneLoad_76 : decode cX10_oneLoad 76 = .ok (.aload_n 0, 1) := by decide +kernel
theorem dX10_oneLoad_77 : decode cX10_oneLoad 77 = .ok (.aload_n 0, 1) := by decide +kernel
theorem dX10_oneLoad_78 : decode cX10_oneLoad 78 = .ok (.getfield 48, 3) := by decide +kernel
theorem dX10_oneLoad_81 : decode cX10_oneLoad 81 = .ok (.iload 4, 2) := by decide +kernel
theorem dX10_oneLoad_83 : decode cX10_oneLoad 83 = .ok (.iaload, 1) := by decide +kernel
theorem dX10_oneLoad_84 : decode cX10_oneLoad 84 = .ok (.iconst 1, 1) := by decide +kernel
theorem dX10_oneLoad_85 : decode cX10_oneLoad 85 = .ok (.isub, 1) := by decide +kernel
theorem dX10_oneLoad_86 : decode cX10_oneLoad 86 = .ok (.invokevirtual 163, 3) := by decide +kernel
theorem dX10_oneLoad_89 : decode cX10_oneLoad 89 = .ok (.goto 297, 3) := by decide +kernel
theorem dX10_oneLoad_92 : decode cX10_oneLoad 92 = .ok (.aload_n 0, 1) := by decide +kernel
theorem dX10_oneLoad_93 : decode cX10_oneLoad 93 = .ok (.getfield 51, 3) := by decide +kernel
theorem dX10_oneLoad_96 : decode cX10_oneLoad 96 = .ok (.iload 4, 2) := by decide +kernel
theorem dX10_oneLoad_98 : decode cX10_oneLoad 98 = .ok (.baload, 1) := by decide +kernel
theorem dX10_oneLoad_99 : decode cX10_oneLoad 99 = .ok (.ifCond .eq 287, 3) := by decide +kernel
theorem dX10_oneLoad_102 : decode cX10_oneLoad 102 = .ok (.aload_n 0, 1) := by decide +kernel
theorem dX10_oneLoad_103 : decode cX10_oneLoad 103 = .ok (.bipush 6, 2) := by decide +kernel
theorem dX10_oneLoad_105 : decode cX10_oneLoad 105 = .ok (.invokevirtual 167, 3) := by decide +kernel
theorem dX10_oneLoad_108 : decode cX10_oneLoad 108 = .ok (.goto 278, 3) := by decide +kernel
theorem dX10_oneLoad_111 : decode cX10_oneLoad 111 = .ok (.aload_n 0, 1) := by decide +kernel
theorem dX10_oneLoad_112 : decode cX10_oneLoad 112 = .ok (.getfield 88, 3) := by decide +kernel
theorem dX10_oneLoad_115 : decode cX10_oneLoad 115 = .ok (.iload_n 1, 1) := by decide +kernel
theorem dX10_oneLoad_116 : decode cX10_oneLoad 116 = .ok (.iaload, 1) := by decide +kernel
theorem dX10_oneLoad_117 : decode cX10_oneLoad 117 = .ok (.iconst 1, 1) := by decide +kernel
theorem dX10_oneLoad_118 : decode cX10_oneLoad 118 = .ok (.if_icmp .ne 153, 3) := by decide +kernel
theorem dX10_oneLoad_121 : decode cX10_oneLoad 121 = .ok (.iload_n 2, 1) := by decide +kernel
theorem dX10_oneLoad_122 : decode cX10_oneLoad 122 = .ok (.ifCond .le 39, 3) := by decide +kernel
theorem dX10_oneLoad_125 : decode cX10_oneLoad 125 = .ok (.iload_n 3, 1) := by decide +kernel
theorem dX10_oneLoad_126 : decode cX10_oneLoad 126 = .ok (.aload_n 0, 1) := by decide +kernel
theorem dX10_oneLoad_127 : decode cX10_oneLoad 127 = .ok (.getfield 42, 3) := by decide +kernel
theorem dX10_oneLoad_130 : decode cX10_oneLoad 130 = .ok (.iload_n 2, 1) := by decide +kernel
theorem dX10_oneLoad_131 : decode cX10_oneLoad 131 = .ok (.iaload, 1) := by decide +kernel
theorem dX10_oneLoad_132 : decode cX10_oneLoad 132 = .ok (.if_icmp .ge 7, 3) := by decide +kernel
theorem dX10_oneLoad_135 : decode cX10_oneLoad 135 = .ok (.iconst 1, 1) := by decide +kernel
theorem dX10_oneLoad_136 : decode cX10_oneLoad 136 = .ok (.goto 4, 3) := by decide +kernel
theorem dX10_oneLoad_139 : decode cX10_oneLoad 139 = .ok (.iconst 0, 1) := by decide +kernel
theorem dX10_oneLoad_140 : decode cX10_oneLoad 140 = .ok (.aload_n 0, 1) := by decide +kernel
theorem dX10_oneLoad_141 : decode cX10_oneLoad 141 = .ok (.getfield 91, 3) := by decide +kernel
theorem dX10_oneLoad_144 : decode cX10_oneLoad 144 = .ok (.iload_n 1, 1) := by decide +kernel
theorem dX10_oneLoad_145 : decode cX10_oneLoad 145 = .ok (.iaload, 1) := by decide +kernel
theorem dX10_oneLoad_146 : decode cX10_oneLoad 146 = .ok (.ifCond .ne 7, 3) := by decide +kernel
theorem dX10_oneLoad_149 : decode cX10_oneLoad 149 = .ok (.iconst 1, 1) := by decide +kernel
theorem dX10_oneLoad_150 : decode cX10_oneLoad 150 = .ok (.goto 4, 3) := by decide +kernel
theorem dX10_oneLoad_153 : decode cX10_oneLoad 153 = .ok (.iconst 0, 1) := by decide +kernel
theorem dX10_oneLoad_154 : decode cX10_oneLoad 154 = .ok (.if_icmp .ne 7, 3) := by decide +kernel
theorem dX10_oneLoad_157 : decode cX10_oneLoad 157 = .ok (.iconst 1, 1) := by decide +kernel
theorem dX10_oneLoad_158 : decode cX10_oneLoad 158 = .ok (.goto 4, 3) := by decide +kernel
theorem dX10_oneLoad_161 : decode cX10_oneLoad 161 = .ok (.iconst 0, 1) := by decide +kernel
theorem dX10_oneLoad_162 : decode cX10_oneLoad 162 = .ok (.istore 5, 2) := by decide +kernel
theorem dX10_oneLoad_164 : decode cX10_oneLoad 164 = .ok (.aload_n 0, 1) := by decide +kernel
theorem dX10_oneLoad_165 : decode cX10_oneLoad 165 = .ok (.getfield 91, 3) := by decide +kernel
theorem dX10_oneLoad_168 : decode cX10_oneLoad 168 = .ok (.iload_n 1, 1) := by decide +kernel
theorem dX10_oneLoad_169 : decode cX10_oneLoad 169 = .ok (.iaload, 1) := by decide +kernel
theorem dX10_oneLoad_170 : decode cX10_oneLoad 170 = .ok (.iconst 2, 1) := by decide +kernel
theorem dX10_oneLoad_171 : decode cX10_oneLoad 171 = .ok (.if_icmp .eq 17, 3) := by decide +kernel
theorem dX10_oneLoad_174 : decode cX10_oneLoad 174 = .ok (.iload_n 2, 1) := by decide +kernel
theorem dX10_oneLoad_175 : decode cX10_oneLoad 175 = .ok (.ifCond .ne 21, 3) := by decide +kernel
theorem dX10_oneLoad_178 : decode cX10_oneLoad 178 = .ok (.aload_n 0, 1) := by decide +kernel
theorem dX10_oneLoad_179 : decode cX10_oneLoad 179 = .ok (.getfield 91, 3) := by decide +kernel
theorem dX10_oneLoad_182 : decode cX10_oneLoad 182 = .ok (.iload_n 1, 1) := by decide +kernel
theorem dX10_oneLoad_183 : decode cX10_oneLoad 183 = .ok (.iaload, 1) := by decide +kernel
theorem dX10_oneLoad_184 : decode cX10_oneLoad 184 = .ok (.iconst 1, 1) := by decide +kernel
theorem dX10_oneLoad_185 : decode cX10_oneLoad 185 = .ok (.if_icmp .ne 11, 3) := by decide +kernel
theorem dX10_oneLoad_188 : decode cX10_oneLoad 188 = .ok (.aload_n 0, 1) := by decide +kernel
theorem dX10_oneLoad_189 : decode cX10_oneLoad 189 = .ok (.iconst 1, 1) := by decide +kernel
theorem dX10_oneLoad_190 : decode cX10_oneLoad 190 = .ok (.invokevirtual 167, 3) := by decide +kernel
theorem dX10_oneLoad_193 : decode cX10_oneLoad 193 = .ok (.goto 75, 3) := by decide +kernel
theorem dX10_oneLoad_196 : decode cX10_oneLoad 196 = .ok (.iload 5, 2) := by decide +kernel
theorem dX10_oneLoad_198 : decode cX10_oneLoad 198 = .ok (.ifCond .eq 25, 3) := by decide +kernel
theorem dX10_oneLoad_201 : decode cX10_oneLoad 201 = .ok (.aload_n 0, 1) := by decide +kernel
theorem dX10_oneLoad_202 : decode cX10_oneLoad 202 = .ok (.getfield 88, 3) := by decide +kernel
theorem dX10_oneLoad_205 : decode cX10_oneLoad 205 = .ok (.iload_n 1, 1) := by decide +kernel
theorem dX10_oneLoad_206 : decode cX10_oneLoad 206 = .ok (.iconst 2, 1) := by decide +kernel
theorem dX10_oneLoad_207 : decode cX10_oneLoad 207 = .ok (.iastore, 1) := by decide +kernel
theorem dX10_oneLoad_208 : decode cX10_oneLoad 208 = .ok (.aload_n 0, 1) := by decide +kernel
theorem dX10_oneLoad_209 : decode cX10_oneLoad 209 = .ok (.iconst 0, 1) := by decide +kernel
theorem dX10_oneLoad_210 : decode cX10_oneLoad 210 = .ok (.aload_n 0, 1) := by decide +kernel
theorem dX10_oneLoad_211 : decode cX10_oneLoad 211 = .ok (.getfield 39, 3) := by decide +kernel
theorem dX10_oneLoad_214 : decode cX10_oneLoad 214 = .ok (.iload_n 2, 1) := by decide +kernel
theorem dX10_oneLoad_215 : decode cX10_oneLoad 215 = .ok (.iaload, 1) := by decide +kernel
theorem dX10_oneLoad_216 : decode cX10_oneLoad 216 = .ok (.iload_n 3, 1) := by decide +kernel
theorem dX10_oneLoad_217 : decode cX10_oneLoad 217 = .ok (.invokevirtual 170, 3) := by decide +kernel
theorem dX10_oneLoad_220 : decode cX10_oneLoad 220 = .ok (.goto 48, 3) := by decide +kernel
theorem dX10_oneLoad_223 : decode cX10_oneLoad 223 = .ok (.aload_n 0, 1) := by decide +kernel
theorem dX10_oneLoad_224 : decode cX10_oneLoad 224 = .ok (.getfield 45, 3) := by decide +kernel
theorem dX10_oneLoad_227 : decode cX10_oneLoad 227 = .ok (.iload 4, 2) := by decide +kernel
theorem dX10_oneLoad_229 : decode cX10_oneLoad 229 = .ok (.iaload, 1) := by decide +kernel
theorem dX10_oneLoad_230 : decode cX10_oneLoad 230 = .ok (.ifCond .le 28, 3) := by decide +kernel
theorem dX10_oneLoad_233 : decode cX10_oneLoad 233 = .ok (.aload_n 0, 1) := by decide +kernel
theorem dX10_oneLoad_234 : decode cX10_oneLoad 234 = .ok (.getfield 88, 3) := by decide +kernel
theorem dX10_oneLoad_237 : decode cX10_oneLoad 237 = .ok (.iload_n 1, 1) := by decide +kernel
theorem dX10_oneLoad_238 : decode cX10_oneLoad 238 = .ok (.iconst 3, 1) := by decide +kernel
theorem dX10_oneLoad_239 : decode cX10_oneLoad 239 = .ok (.iastore, 1) := by decide +kernel
theorem dX10_oneLoad_240 : decode cX10_oneLoad 240 = .ok (.aload_n 0, 1) := by decide +kernel
theorem dX10_oneLoad_241 : decode cX10_oneLoad 241 = .ok (.iconst 1, 1) := by decide +kernel
theorem dX10_oneLoad_242 : decode cX10_oneLoad 242 = .ok (.iload_n 2, 1) := by decide +kernel
theorem dX10_oneLoad_243 : decode cX10_oneLoad 243 = .ok (.aload_n 0, 1) := by decide +kernel
theorem dX10_oneLoad_244 : decode cX10_oneLoad 244 = .ok (.getfield 45, 3) := by decide +kernel
theorem dX10_oneLoad_247 : decode cX10_oneLoad 247 = .ok (.iload 4, 2) := by decide +kernel
theorem dX10_oneLoad_249 : decode cX10_oneLoad 249 = .ok (.iaload, 1) := by decide +kernel
theorem dX10_oneLoad_250 : decode cX10_oneLoad 250 = .ok (.iconst 1, 1) := by decide +kernel
theorem dX10_oneLoad_251 : decode cX10_oneLoad 251 = .ok (.isub, 1) := by decide +kernel
theorem dX10_oneLoad_252 : decode cX10_oneLoad 252 = .ok (.invokevirtual 170, 3) := by decide +kernel
theorem dX10_oneLoad_255 : decode cX10_oneLoad 255 = .ok (.goto 13, 3) := by decide +kernel
theorem dX10_oneLoad_258 : decode cX10_oneLoad 258 = .ok (.aload_n 0, 1) := by decide +kernel
theorem dX10_oneLoad_259 : decode cX10_oneLoad 259 = .ok (.getfield 91, 3) := by decide +kernel
theorem dX10_oneLoad_262 : decode cX10_oneLoad 262 = .ok (.iload_n 1, 1) := by decide +kernel
theorem dX10_oneLoad_263 : decode cX10_oneLoad 263 = .ok (.dup2, 1) := by decide +kernel
theorem dX10_oneLoad_264 : decode cX10_oneLoad 264 = .ok (.iaload, 1) := by decide +kernel
theorem dX10_oneLoad_265 : decode cX10_oneLoad 265 = .ok (.iconst 1, 1) := by decide +kernel
theorem dX10_oneLoad_266 : decode cX10_oneLoad 266 = .ok (.iadd, 1) := by decide +kernel
theorem dX10_oneLoad_267 : decode cX10_oneLoad 267 = .ok (.iastore, 1) := by decide +kernel
theorem dX10_oneLoad_268 : decode cX10_oneLoad 268 = .ok (.goto 118, 3) := by decide +kernel
theorem dX10_oneLoad_271 : decode cX10_oneLoad 271 = .ok (.aload_n 0, 1) := by decide +kernel
theorem dX10_oneLoad_272 : decode cX10_oneLoad 272 = .ok (.getfield 88, 3) := by decide +kernel
theorem dX10_oneLoad_275 : decode cX10_oneLoad 275 = .ok (.iload_n 1, 1) := by decide +kernel
theorem dX10_oneLoad_276 : decode cX10_oneLoad 276 = .ok (.iaload, 1) := by decide +kernel
theorem dX10_oneLoad_277 : decode cX10_oneLoad 277 = .ok (.iconst 2, 1) := by decide +kernel
theorem dX10_oneLoad_278 : decode cX10_oneLoad 278 = .ok (.if_icmp .ne 31, 3) := by decide +kernel
theorem dX10_oneLoad_281 : decode cX10_oneLoad 281 = .ok (.aload_n 0, 1) := by decide +kernel
theorem dX10_oneLoad_282 : decode cX10_oneLoad 282 = .ok (.getfield 154, 3) := by decide +kernel
theorem dX10_oneLoad_285 : decode cX10_oneLoad 285 = .ok (.iconst 1, 1) := by decide +kernel
theorem dX10_oneLoad_286 : decode cX10_oneLoad 286 = .ok (.if_icmp .ne 23, 3) := by decide +kernel
theorem dX10_oneLoad_289 : decode cX10_oneLoad 289 = .ok (.aload_n 0, 1) := by decide +kernel
theorem dX10_oneLoad_290 : decode cX10_oneLoad 290 = .ok (.getfield 88, 3) := by decide +kernel
theorem dX10_oneLoad_293 : decode cX10_oneLoad 293 = .ok (.iload_n 1, 1) := by decide +kernel
theorem dX10_oneLoad_294 : decode cX10_oneLoad 294 = .ok (.iconst 1, 1) := by decide +kernel
theorem dX10_oneLoad_295 : decode cX10_oneLoad 295 = .ok (.iastore, 1) := by decide +kernel
theorem dX10_oneLoad_296 : decode cX10_oneLoad 296 = .ok (.aload_n 0, 1) := by decide +kernel
theorem dX10_oneLoad_297 : decode cX10_oneLoad 297 = .ok (.getfield 91, 3) := by decide +kernel
theorem dX10_oneLoad_300 : decode cX10_oneLoad 300 = .ok (.iload_n 1, 1) := by decide +kernel
theorem dX10_oneLoad_301 : decode cX10_oneLoad 301 = .ok (.dup2, 1) := by decide +kernel
theorem dX10_oneLoad_302 : decode cX10_oneLoad 302 = .ok (.iaload, 1) := by decide +kernel
theorem dX10_oneLoad_303 : decode cX10_oneLoad 303 = .ok (.iconst 1, 1) := by decide +kernel
theorem dX10_oneLoad_304 : decode cX10_oneLoad 304 = .ok (.iadd, 1) := by decide +kernel
theorem dX10_oneLoad_305 : decode cX10_oneLoad 305 = .ok (.iastore, 1) := by decide +kernel
theorem dX10_oneLoad_306 : decode cX10_oneLoad 306 = .ok (.goto 80, 3) := by decide +kernel
theorem dX10_oneLoad_309 : decode cX10_oneLoad 309 = .ok (.aload_n 0, 1) := by decide +kernel
theorem dX10_oneLoad_310 : decode cX10_oneLoad 310 = .ok (.getfield 88, 3) := by decide +kernel
theorem dX10_oneLoad_313 : decode cX10_oneLoad 313 = .ok (.iload_n 1, 1) := by decide +kernel
theorem dX10_oneLoad_314 : decode cX10_oneLoad 314 = .ok (.iaload, 1) := by decide +kernel
theorem dX10_oneLoad_315 : decode cX10_oneLoad 315 = .ok (.iconst 2, 1) := by decide +kernel
theorem dX10_oneLoad_316 : decode cX10_oneLoad 316 = .ok (.if_icmp .ne 31, 3) := by decide +kernel
theorem dX10_oneLoad_319 : decode cX10_oneLoad 319 = .ok (.aload_n 0, 1) := by decide +kernel
theorem dX10_oneLoad_320 : decode cX10_oneLoad 320 = .ok (.getfield 154, 3) := by decide +kernel
theorem dX10_oneLoad_323 : decode cX10_oneLoad 323 = .ok (.ifCond .ne 24, 3) := by decide +kernel
theorem dX10_oneLoad_326 : decode cX10_oneLoad 326 = .ok (.aload_n 0, 1) := by decide +kernel
theorem dX10_oneLoad_327 : decode cX10_oneLoad 327 = .ok (.iload_n 2, 1) := by decide +kernel
theorem dX10_oneLoad_328 : decode cX10_oneLoad 328 = .ok (.iload_n 3, 1) := by decide +kernel
theorem dX10_oneLoad_329 : decode cX10_oneLoad 329 = .ok (.aload_n 0, 1) := by decide +kernel
theorem dX10_oneLoad_330 : decode cX10_oneLoad 330 = .ok (.getfield 157, 3) := by decide +kernel
theorem dX10_oneLoad_333 : decode cX10_oneLoad 333 = .ok (.invokevirtual 174, 3) := by decide +kernel
theorem dX10_oneLoad_336 : decode cX10_oneLoad 336 = .ok (.ifCond .eq 11, 3) := by decide +kernel
theorem dX10_oneLoad_339 : decode cX10_oneLoad 339 = .ok (.aload_n 0, 1) := by decide +kernel
theorem dX10_oneLoad_340 : decode cX10_oneLoad 340 = .ok (.iconst 3, 1) := by decide +kernel
theorem dX10_oneLoad_341 : decode cX10_oneLoad 341 = .ok (.invokevirtual 167, 3) := by decide +kernel
theorem dX10_oneLoad_344 : decode cX10_oneLoad 344 = .ok (.goto 42, 3) := by decide +kernel
theorem dX10_oneLoad_347 : decode cX10_oneLoad 347 = .ok (.aload_n 0, 1) := by decide +kernel
theorem dX10_oneLoad_348 : decode cX10_oneLoad 348 = .ok (.getfield 154, 3) := by decide +kernel
theorem dX10_oneLoad_351 : decode cX10_oneLoad 351 = .ok (.ifCond .ne 27, 3) := by decide +kernel
theorem dX10_oneLoad_354 : decode cX10_oneLoad 354 = .ok (.aload_n 0, 1) := by decide +kernel
theorem dX10_oneLoad_355 : decode cX10_oneLoad 355 = .ok (.getfield 48, 3) := by decide +kernel
theorem dX10_oneLoad_358 : decode cX10_oneLoad 358 = .ok (.iload 4, 2) := by decide +kernel
theorem dX10_oneLoad_360 : decode cX10_oneLoad 360 = .ok (.aload_n 0, 1) := by decide +kernel
theorem dX10_oneLoad_361 : decode cX10_oneLoad 361 = .ok (.getfield 157, 3) := by decide +kernel
theorem dX10_oneLoad_364 : decode cX10_oneLoad 364 = .ok (.iconst 1, 1) := by decide +kernel
theorem dX10_oneLoad_365 : decode cX10_oneLoad 365 = .ok (.iadd, 1) := by decide +kernel
theorem dX10_oneLoad_366 : decode cX10_oneLoad 366 = .ok (.iastore, 1) := by decide +kernel
theorem dX10_oneLoad_367 : decode cX10_oneLoad 367 = .ok (.aload_n 0, 1) := by decide +kernel
theorem dX10_oneLoad_368 : decode cX10_oneLoad 368 = .ok (.aload_n 0, 1) := by decide +kernel
theorem dX10_oneLoad_369 : decode cX10_oneLoad 369 = .ok (.getfield 157, 3) := by decide +kernel
theorem dX10_oneLoad_372 : decode cX10_oneLoad 372 = .ok (.invokevirtual 163, 3) := by decide +kernel
theorem dX10_oneLoad_375 : decode cX10_oneLoad 375 = .ok (.goto 11, 3) := by decide +kernel
theorem dX10_oneLoad_378 : decode cX10_oneLoad 378 = .ok (.aload_n 0, 1) := by decide +kernel
theorem dX10_oneLoad_379 : decode cX10_oneLoad 379 = .ok (.aload_n 0, 1) := by decide +kernel
theorem dX10_oneLoad_380 : decode cX10_oneLoad 380 = .ok (.getfield 154, 3) := by decide +kernel
theorem dX10_oneLoad_383 : decode cX10_oneLoad 383 = .ok (.invokevirtual 167, 3) := by decide +kernel
theorem dX10_oneLoad_386 : decode cX10_oneLoad 386 = .ok (.return_, 1) := by decide +kernel
set_option maxRecDepth 20000 in
theorem ggX10_oneDefining_X10_ends : GoodIn wsX10_oneDefining wsX10_ends := goodIn_r _ [17, 18, 9, 43, 44, 45, 46, 47, 48, 49, 50, 51, 52, 53, 54, 55, 56, 57, 58, 59, 60, 61, 62, 63, 64, 65, 66, 67, 68, 69, 70, 71, 72, 73, 74, 75, 76, 77, 78, 79, 80, 81, 82, 83, 84] (by decide +kernel) (by decide +kernel)
set_option maxRecDepth 20000 in
theorem gX10_oneDefining_X10_ends : GoodIn wsX10_oneDefining (wsV RX10 167 RX10 yX10_ends wsX10_ends) := goodIn_app (goodIn_of _ (by decide +kernel)) ggX10_oneDefining_X10_ends
set_option maxRecDepth 20000 in
theorem ggX10_oneDefining_X10_makes : GoodIn wsX10_oneDefining wsX10_makes := goodIn_r _ [22, 3, 23, 24, 25, 11, 26, 6, 27, 28, 29, 16, 30, 31, 32, 13, 14, 15, 17, 18, 9, 33, 34, 35, 36, 12, 43, 44, 45, 46, 47, 48, 49, 50, 51, 52, 53, 54, 55, 56, 57, 58, 59, 60, 61, 62, 63, 64, 65, 66, 67, 68, 69, 70, 71, 72, 73, 74, 75, 76, 77, 78, 79, 80, 81, 82, 83, 84] (by decide +kernel) (by decide +kernel)
set_option maxRecDepth 20000 in
theorem gX10_oneDefining_X10_makes : GoodIn wsX10_oneDefining (wsV RX10 178 RX10 yX10_makes wsX10_makes) := goodIn_app (goodIn_of _ (by decide +kernel)) ggX10_oneDefining_X10_makes
set_option maxRecDepth 20000 in
theorem ggX10_oneDefining_X10_push : GoodIn wsX10_oneDefining wsX10_push := goodIn_r _ [40, 41, 18, 1, 2, 4, 42, 43, 44, 45, 46, 47, 48, 49, 50, 51, 52, 53, 54, 55, 56, 57, 58, 59, 60, 61, 62, 63, 64, 65, 66, 67, 68, 69, 70, 71, 72, 73, 74, 75, 76, 77, 78, 79, 80, 81, 82, 83, 84] (by decide +kernel) (by decide +kernel)
set_option maxRecDepth 20000 in
theorem gX10_oneDefining_X10_push : GoodIn wsX10_oneDefining (wsV RX10 170 RX10 yX10_push wsX10_push) := goodIn_app (goodIn_of _ (by decide +kernel)) ggX10_oneDefining_X10_push
theorem dX10_oneDefining_0 : decode cX10_oneDefining 0 = .ok (.aload_n 0, 1) := by decide +kernel
theorem dX10_oneDefining_1 : decode cX10_oneDefining 1 = .ok (.getfield 82, 3) := by decide +kernel
theorem dX10_oneDefining_4 : decode cX10_oneDefining 4 = .ok (.iload_n 1, 1) := by decide +kernel
theorem dX10_oneDefining_5 : decode cX10_oneDefining 5 = .ok (.iaload, 1) := by decide +kernel
theorem dX10_oneDefining_6 : decode cX10_oneDefining 6 = .ok (.istore_n 2, 1) := by decide +kernel
theorem dX10_oneDefining_7 : decode cX10_oneDefining 7 = .ok (.aload_n 0, 1) := by decide +kernel
theorem dX10_oneDefining_8 : decode cX10_oneDefining 8 = .ok (.getfield 85, 3) := by decide +kernel
theorem dX10_oneDefining_11 : decode cX10_oneDefining 11 = .ok (.iload_n 1, 1) := by decide +kernel
theorem dX10_oneDefining_12 : decode cX10_oneDefining 12 = .ok (.iaload, 1) := by decide +kernel
theorem dX10_oneDefining_13 : decode cX10_oneDefining 13 = .ok (.istore_n 3, 1) := by decide +kernel
theorem dX10_oneDefining_14 : decode cX10_oneDefining 14 = .ok (.aload_n 0, 1) := by decide +kernel
theorem dX10_oneDefining_15 : decode cX10_oneDefining 15 = .ok (.getfield 13, 3) := by decide +kernel
theorem dX10_oneDefining_18 : decode cX10_oneDefining 18 = .ok (.iload_n 3, 1) := by decide +kernel
theorem dX10_oneDefining_19 : decode cX10_oneDefining 19 = .ok (.iaload, 1) := by decide +kernel
theorem dX10_oneDefining_20 : decode cX10_oneDefining 20 = .ok (.istore 4, 2) := by decide +kernel
theorem dX10_oneDefining_22 : decode cX10_oneDefining 22 = .ok (.bipush 40, 2) := by decide +kernel
theorem dX10_oneDefining_24 : decode cX10_oneDefining 24 = .ok (.iload_n 2, 1) := by decide +kernel
theorem dX10_oneDefining_25 : decode cX10_oneDefining 25 = .ok (.imul, 1) := by decide +kernel
theorem dX10_oneDefining_26 : decode cX10_oneDefining 26 = .ok (.iload 4, 2) := by decide +kernel
theorem dX10_oneDefining_28 : decode cX10_oneDefining 28 = .ok (.iadd, 1) := by decide +kernel
theorem dX10_oneDefining_29 : decode cX10_oneDefining 29 = .ok (.istore 5, 2) := by decide +kernel
theorem dX10_oneDefining_31 : decode cX10_oneDefining 31 = .ok (.aload_n 0, 1) := by decide +kernel
theorem dX10_oneDefining_32 : decode cX10_oneDefining 32 = .ok (.getfield 88, 3) := by decide +kernel
theorem dX10_oneDefining_35 : decode cX10_oneDefining 35 = .ok (.iload_n 1, 1) := by decide +kernel
theorem dX10_oneDefining_36 : decode cX10_oneDefining 36 = .ok (.iaload, 1) := by decide +kernel
theorem dX10_oneDefining_37 : decode cX10_oneDefining 37 = .ok (.ifCond .ne 121, 3) := by decide +kernel
theorem dX10_oneDefining_40 : decode cX10_oneDefining 40 = .ok (.iload 4, 2) := by decide +kernel
theorem dX10_oneDefining_42 : decode cX10_oneDefining 42 = .ok (.iconst 5, 1) := by decide +kernel
theorem dX10_oneDefining_43 : decode cX10_oneDefining 43 = .ok (.if_icmp .ge 11, 3) := by decide +kernel
theorem dX10_oneDefining_46 : decode cX10_oneDefining 46 = .ok (.iload_n 2, 1) := by decide +kernel
theorem dX10_oneDefining_47 : decode cX10_oneDefining 47 = .ok (.ifCond .le 7, 3) := by decide +kernel
theorem dX10_oneDefining_50 : decode cX10_oneDefining 50 = .ok (.iconst 4, 1) := by decide +kernel
theorem dX10_oneDefining_51 : decode cX10_oneDefining 51 = .ok (.goto 48, 3) := by decide +kernel
theorem dX10_oneDefining_54 : decode cX10_oneDefining 54 = .ok (.aload_n 0, 1) := by decide +kernel
theorem dX10_oneDefining_55 : decode cX10_oneDefining 55 = .ok (.getfield 17, 3) := by decide +kernel
theorem dX10_oneDefining_58 : decode cX10_oneDefining 58 = .ok (.iload_n 3, 1) := by decide +kernel
theorem dX10_oneDefining_59 : decode cX10_oneDefining 59 = .ok (.iaload, 1) := by decide +kernel
theorem dX10_oneDefining_60 : decode cX10_oneDefining 60 = .ok (.iload 4, 2) := by decide +kernel
theorem dX10_oneDefining_62 : decode cX10_oneDefining 62 = .ok (.if_icmp .eq 7, 3) := by decide +kernel
theorem dX10_oneDefining_65 : decode cX10_oneDefining 65 = .ok (.iconst 2, 1) := by decide +kernel
theorem dX10_oneDefining_66 : decode cX10_oneDefining 66 = .ok (.goto 33, 3) := by decide +kernel
theorem dX10_oneDefining_69 : decode cX10_oneDefining 69 = .ok (.aload_n 0, 1) := by decide +kernel
theorem dX10_oneDefining_70 : decode cX10_oneDefining 70 = .ok (.getfield 48, 3) := by decide +kernel
theorem dX10_oneDefining_73 : decode cX10_oneDefining 73 = .ok (.iload 5, 2) := by decide +kernel
theorem dX10_oneDefining_75 : decode cX10_oneDefining 75 = .ok (.iaload, 1) := by decide +kernel
theorem dX10_oneDefining_76 : decode cX10_oneDefining 76 = .ok (.ifCond .le 7, 3) := by decide +kernel
theorem dX10_oneDefining_79 : decode cX10_oneDefining 79 = .ok (.iconst 3, 1) := by decide +kernel
theorem dX10_oneDefining_80 : decode cX10_oneDefining 80 = .ok (.goto 19, 3) := by decide +kernel
theorem dX10_oneDefining_83 : decode cX10_oneDefining 83 = .ok (.aload_n 0, 1) := by decide +kernel
theorem dX10_oneDefining_84 : decode cX10_oneDefining 84 = .ok (.getfield 51, 3) := by decide +kernel
theorem dX10_oneDefining_87 : decode cX10_oneDefining 87 = .ok (.iload 5, 2) := by decide +kernel
theorem dX10_oneDefining_89 : decode cX10_oneDefining 89 = .ok (.baload, 1) := by decide +kernel
theorem dX10_oneDefining_90 : decode cX10_oneDefining 90 = .ok (.ifCond .eq 8, 3) := by decide +kernel
theorem dX10_oneDefining_93 : decode cX10_oneDefining 93 = .ok (.bipush 6, 2) := by decide +kernel
theorem dX10_oneDefining_95 : decode cX10_oneDefining 95 = .ok (.goto 4, 3) := by decide +kernel
theorem dX10_oneDefining_98 : decode cX10_oneDefining 98 = .ok (.iconst 0, 1) := by decide +kernel
theorem dX10_oneDefining_99 : decode cX10_oneDefining 99 = .ok (.istore 6, 2) := by decide +kernel
theorem dX10_oneDefining_101 : decode cX10_oneDefining 101 = .ok (.iload 6, 2) := by decide +kernel
theorem dX10_oneDefining_103 : decode cX10_oneDefining 103 = .ok (.ifCond .le 12, 3) := by decide +kernel
theorem dX10_oneDefining_106 : decode cX10_oneDefining 106 = .ok (.aload_n 0, 1) := by decide +kernel
theorem dX10_oneDefining_107 : decode cX10_oneDefining 107 = .ok (.iload 6, 2) := by decide +kernel
theorem dX10_oneDefining_109 : decode cX10_oneDefining 109 = .ok (.invokevirtual 167, 3) := by decide +kernel
theorem dX10_oneDefining_112 : decode cX10_oneDefining 112 = .ok (.goto 45, 3) := by decide +kernel
theorem dX10_oneDefining_115 : decode cX10_oneDefining 115 = .ok (.iload 4, 2) := by decide +kernel
theorem dX10_oneDefining_117 : decode cX10_oneDefining 117 = .ok (.ifCond .ne 13, 3) := by decide +kernel
theorem dX10_oneDefining_120 : decode cX10_oneDefining 120 = .ok (.aload_n 0, 1) := by decide +kernel
theorem dX10_oneDefining_121 : decode cX10_oneDefining 121 = .ok (.iload_n 2, 1) := by decide +kernel
theorem dX10_oneDefining_122 : decode cX10_oneDefining 122 = .ok (.iload_n 3, 1) := by decide +kernel
theorem dX10_oneDefining_123 : decode cX10_oneDefining 123 = .ok (.iconst (-1), 1) := by decide +kernel
theorem dX10_oneDefining_124 : decode cX10_oneDefining 124 = .ok (.invokevirtual 178, 3) := by decide +kernel
theorem dX10_oneDefining_127 : decode cX10_oneDefining 127 = .ok (.goto 30, 3) := by decide +kernel
theorem dX10_oneDefining_130 : decode cX10_oneDefining 130 = .ok (.aload_n 0, 1) := by decide +kernel
theorem dX10_oneDefining_131 : decode cX10_oneDefining 131 = .ok (.getfield 51, 3) := by decide +kernel
theorem dX10_oneDefining_134 : decode cX10_oneDefining 134 = .ok (.iload 5, 2) := by decide +kernel
theorem dX10_oneDefining_136 : decode cX10_oneDefining 136 = .ok (.iconst 1, 1) := by decide +kernel
theorem dX10_oneDefining_137 : decode cX10_oneDefining 137 = .ok (.bastore, 1) := by decide +kernel
theorem dX10_oneDefining_138 : decode cX10_oneDefining 138 = .ok (.aload_n 0, 1) := by decide +kernel
theorem dX10_oneDefining_139 : decode cX10_oneDefining 139 = .ok (.getfield 88, 3) := by decide +kernel
theorem dX10_oneDefining_142 : decode cX10_oneDefining 142 = .ok (.iload_n 1, 1) := by decide +kernel
theorem dX10_oneDefining_143 : decode cX10_oneDefining 143 = .ok (.iconst 1, 1) := by decide +kernel
theorem dX10_oneDefining_144 : decode cX10_oneDefining 144 = .ok (.iastore, 1) := by decide +kernel
theorem dX10_oneDefining_145 : decode cX10_oneDefining 145 = .ok (.aload_n 0, 1) := by decide +kernel
theorem dX10_oneDefining_146 : decode cX10_oneDefining 146 = .ok (.iconst 0, 1) := by decide +kernel
theorem dX10_oneDefining_147 : decode cX10_oneDefining 147 = .ok (.iload_n 2, 1) := by decide +kernel
theorem dX10_oneDefining_148 : decode cX10_oneDefining 148 = .ok (.aload_n 0, 1) := by decide +kernel
theorem dX10_oneDefining_149 : decode cX10_oneDefining 149 = .ok (.getfield 20, 3) := by decide +kernel
theorem dX10_oneDefining_152 : decode cX10_oneDefining 152 = .ok (.iload_n 3, 1) := by decide +kernel
theorem dX10_oneDefining_153 : decode cX10_oneDefining 153 = .ok (.iaload, 1) := by decide +kernel
theorem dX10_oneDefining_154 : decode cX10_oneDefining 154 = .ok (.invokevirtual 170, 3) := by decide +kernel
theorem dX10_oneDefining_157 : decode cX10_oneDefining 157 = .ok (.return_, 1) := by decide +kernel
theorem dX10_oneDefining_158 : decode cX10_oneDefining 158 = .ok (.aload_n 0, 1) := by decide +kernel
theorem dX10_oneDefining_159 : decode cX10_oneDefining 159 = .ok (.getfield 51, 3) := by decide +kernel
theorem dX10_oneDefining_162 : decode cX10_oneDefining 162 = .ok (.iload 5, 2) := by decide +kernel
theorem dX10_oneDefining_164 : decode cX10_oneDefining 164 = .ok (.iconst 0, 1) := by decide +kernel
theorem dX10_oneDefining_165 : decode cX10_oneDefining 165 = .ok (.bastore, 1) := by decide +kernel
theorem dX10_oneDefining_166 : decode cX10_oneDefining 166 = .ok (.aload_n 0, 1) := by decide +kernel
theorem dX10_oneDefining_167 : decode cX10_oneDefining 167 = .ok (.getfield 154, 3) := by decide +kernel
theorem dX10_oneDefining_170 : decode cX10_oneDefining 170 = .ok (.ifCond .le 26, 3) := by decide +kernel
theorem dX10_oneDefining_173 : decode cX10_oneDefining 173 = .ok (.aload_n 0, 1) := by decide +kernel
theorem dX10_oneDefining_174 : decode cX10_oneDefining 174 = .ok (.aload_n 0, 1) := by decide +kernel
theorem dX10_oneDefining_175 : decode cX10_oneDefining 175 = .ok (.getfield 154, 3) := by decide +kernel
theorem dX10_oneDefining_178 : decode cX10_oneDefining 178 = .ok (.iconst 1, 1) := by decide +kernel
theorem dX10_oneDefining_179 : decode cX10_oneDefining 179 = .ok (.if_icmp .ne 7, 3) := by decide +kernel
theorem dX10_oneDefining_182 : decode cX10_oneDefining 182 = .ok (.iconst 2, 1) := by decide +kernel
theorem dX10_oneDefining_183 : decode cX10_oneDefining 183 = .ok (.goto 7, 3) := by decide +kernel
theorem dX10_oneDefining_186 : decode cX10_oneDefining 186 = .ok (.aload_n 0, 1) := by decide +kernel
theorem dX10_oneDefining_187 : decode cX10_oneDefining 187 = .ok (.getfield 154, 3) := by decide +kernel
theorem dX10_oneDefining_190 : decode cX10_oneDefining 190 = .ok (.invokevirtual 167, 3) := by decide +kernel
theorem dX10_oneDefining_193 : decode cX10_oneDefining 193 = .ok (.goto 39, 3) := by decide +kernel
theorem dX10_oneDefining_196 : decode cX10_oneDefining 196 = .ok (.aload_n 0, 1) := by decide +kernel
theorem dX10_oneDefining_197 : decode cX10_oneDefining 197 = .ok (.getfield 26, 3) := by decide +kernel
theorem dX10_oneDefining_200 : decode cX10_oneDefining 200 = .ok (.aload_n 0, 1) := by decide +kernel
theorem dX10_oneDefining_201 : decode cX10_oneDefining 201 = .ok (.getfield 63, 3) := by decide +kernel
theorem dX10_oneDefining_204 : decode cX10_oneDefining 204 = .ok (.aload_n 0, 1) := by decide +kernel
theorem dX10_oneDefining_205 : decode cX10_oneDefining 205 = .ok (.getfield 157, 3) := by decide +kernel
theorem dX10_oneDefining_208 : decode cX10_oneDefining 208 = .ok (.iaload, 1) := by decide +kernel
theorem dX10_oneDefining_209 : decode cX10_oneDefining 209 = .ok (.baload, 1) := by decide +kernel
theorem dX10_oneDefining_210 : decode cX10_oneDefining 210 = .ok (.ifCond .eq 12, 3) := by decide +kernel
theorem dX10_oneDefining_213 : decode cX10_oneDefining 213 = .ok (.aload_n 0, 1) := by decide +kernel
theorem dX10_oneDefining_214 : decode cX10_oneDefining 214 = .ok (.bipush 7, 2) := by decide +kernel
theorem dX10_oneDefining_216 : decode cX10_oneDefining 216 = .ok (.invokevirtual 167, 3) := by decide +kernel
theorem dX10_oneDefining_219 : decode cX10_oneDefining 219 = .ok (.goto 13, 3) := by decide +kernel
theorem dX10_oneDefining_222 : decode cX10_oneDefining 222 = .ok (.aload_n 0, 1) := by decide +kernel
theorem dX10_oneDefining_223 : decode cX10_oneDefining 223 = .ok (.iload_n 2, 1) := by decide +kernel
theorem dX10_oneDefining_224 : decode cX10_oneDefining 224 = .ok (.iload_n 3, 1) := by decide +kernel
theorem dX10_oneDefining_225 : decode cX10_oneDefining 225 = .ok (.aload_n 0, 1) := by decide +kernel
theorem dX10_oneDefining_226 : decode cX10_oneDefining 226 = .ok (.getfield 157, 3) := by decide +kernel
theorem dX10_oneDefining_229 : decode cX10_oneDefining 229 = .ok (.invokevirtual 178, 3) := by decide +kernel
theorem dX10_oneDefining_232 : decode cX10_oneDefining 232 = .ok (.return_, 1) := by decide +kernel
set_option maxRecDepth 20000 in
theorem ggX10_makes_X10_isBarred : GoodIn wsX10_makes wsX10_isBarred := goodIn_r _ [12, 13, 14, 7, 26, 27, 28, 29, 30, 31, 32, 33, 34, 35, 36, 37, 38, 39, 40, 41, 42, 43, 44, 45, 46, 47, 48, 49, 50, 51, 52, 53, 54, 55, 56, 57, 58, 59, 60, 61, 62, 63, 64, 65, 66, 67] (by decide +kernel) (by decide +kernel)
set_option maxRecDepth 20000 in
theorem gX10_makes_X10_isBarred : GoodIn wsX10_makes (wsV RX10 174 RX10 yX10_isBarred wsX10_isBarred) := goodIn_app (goodIn_of _ (by decide +kernel)) ggX10_makes_X10_isBarred
set_option maxRecDepth 20000 in
theorem ggX10_makes_X10_ends : GoodIn wsX10_makes wsX10_ends := goodIn_r _ [18, 19, 20, 26, 27, 28, 29, 30, 31, 32, 33, 34, 35, 36, 37, 38, 39, 40, 41, 42, 43, 44, 45, 46, 47, 48, 49, 50, 51, 52, 53, 54, 55, 56, 57, 58, 59, 60, 61, 62, 63, 64, 65, 66, 67] (by decide +kernel) (by decide +kernel)
set_option maxRecDepth 20000 in
theorem gX10_makes_X10_ends : GoodIn wsX10_makes (wsV RX10 167 RX10 yX10_ends wsX10_ends) := goodIn_app (goodIn_of _ (by decide +kernel)) ggX10_makes_X10_ends
set_option maxRecDepth 20000 in
theorem ggX10_makes_X10_gives : GoodIn wsX10_makes wsX10_gives := goodIn_r _ [24, 19, 20, 25, 26, 27, 28, 29, 30, 31, 32, 33, 34, 35, 36, 37, 38, 39, 40, 41, 42, 43, 44, 45, 46, 47, 48, 49, 50, 51, 52, 53, 54, 55, 56, 57, 58, 59, 60, 61, 62, 63, 64, 65, 66, 67] (by decide +kernel) (by decide +kernel)
set_option maxRecDepth 20000 in
theorem gX10_makes_X10_gives : GoodIn wsX10_makes (wsV RX10 163 RX10 yX10_gives wsX10_gives) := goodIn_app (goodIn_of _ (by decide +kernel)) ggX10_makes_X10_gives
theorem dX10_makes_0 : decode cX10_makes 0 = .ok (.aload_n 0, 1) := by decide +kernel
theorem dX10_makes_1 : decode cX10_makes 1 = .ok (.getfield 13, 3) := by decide +kernel
theorem dX10_makes_4 : decode cX10_makes 4 = .ok (.iload_n 2, 1) := by decide +kernel
theorem dX10_makes_5 : decode cX10_makes 5 = .ok (.iaload, 1) := by decide +kernel
theorem dX10_makes_6 : decode cX10_makes 6 = .ok (.istore 4, 2) := by decide +kernel
theorem dX10_makes_8 : decode cX10_makes 8 = .ok (.aload_n 0, 1) := by decide +kernel
theorem dX10_makes_9 : decode cX10_makes 9 = .ok (.iload_n 1, 1) := by decide +kernel
theorem dX10_makes_10 : decode cX10_makes 10 = .ok (.iload 4, 2) := by decide +kernel
theorem dX10_makes_12 : decode cX10_makes 12 = .ok (.bipush 40, 2) := by decide +kernel
theorem dX10_makes_14 : decode cX10_makes 14 = .ok (.invokevirtual 174, 3) := by decide +kernel
theorem dX10_makes_17 : decode cX10_makes 17 = .ok (.ifCond .eq 11, 3) := by decide +kernel
theorem dX10_makes_20 : decode cX10_makes 20 = .ok (.aload_n 0, 1) := by decide +kernel
theorem dX10_makes_21 : decode cX10_makes 21 = .ok (.iconst 3, 1) := by decide +kernel
theorem dX10_makes_22 : decode cX10_makes 22 = .ok (.invokevirtual 167, 3) := by decide +kernel
theorem dX10_makes_25 : decode cX10_makes 25 = .ok (.goto 92, 3) := by decide +kernel
theorem dX10_makes_28 : decode cX10_makes 28 = .ok (.aload_n 0, 1) := by decide +kernel
theorem dX10_makes_29 : decode cX10_makes 29 = .ok (.getfield 132, 3) := by decide +kernel
theorem dX10_makes_32 : decode cX10_makes 32 = .ok (.bipush 40, 2) := by decide +kernel
theorem dX10_makes_34 : decode cX10_makes 34 = .ok (.if_icmp .ne 12, 3) := by decide +kernel
theorem dX10_makes_37 : decode cX10_makes 37 = .ok (.aload_n 0, 1) := by decide +kernel
theorem dX10_makes_38 : decode cX10_makes 38 = .ok (.bipush 12, 2) := by decide +kernel
theorem dX10_makes_40 : decode cX10_makes 40 = .ok (.invokevirtual 167, 3) := by decide +kernel
theorem dX10_makes_43 : decode cX10_makes 43 = .ok (.goto 74, 3) := by decide +kernel
theorem dX10_makes_46 : decode cX10_makes 46 = .ok (.aload_n 0, 1) := by decide +kernel
theorem dX10_makes_47 : decode cX10_makes 47 = .ok (.getfield 132, 3) := by decide +kernel
theorem dX10_makes_50 : decode cX10_makes 50 = .ok (.istore 5, 2) := by decide +kernel
theorem dX10_makes_52 : decode cX10_makes 52 = .ok (.aload_n 0, 1) := by decide +kernel
theorem dX10_makes_53 : decode cX10_makes 53 = .ok (.dup, 1) := by decide +kernel
theorem dX10_makes_54 : decode cX10_makes 54 = .ok (.getfield 132, 3) := by decide +kernel
theorem dX10_makes_57 : decode cX10_makes 57 = .ok (.iconst 1, 1) := by decide +kernel
theorem dX10_makes_58 : decode cX10_makes 58 = .ok (.iadd, 1) := by decide +kernel
theorem dX10_makes_59 : decode cX10_makes 59 = .ok (.putfield 132, 3) := by decide +kernel
theorem dX10_makes_62 : decode cX10_makes 62 = .ok (.aload_n 0, 1) := by decide +kernel
theorem dX10_makes_63 : decode cX10_makes 63 = .ok (.getfield 57, 3) := by decide +kernel
theorem dX10_makes_66 : decode cX10_makes 66 = .ok (.iload 5, 2) := by decide +kernel
theorem dX10_makes_68 : decode cX10_makes 68 = .ok (.iload 4, 2) := by decide +kernel
theorem dX10_makes_70 : decode cX10_makes 70 = .ok (.iastore, 1) := by decide +kernel
theorem dX10_makes_71 : decode cX10_makes 71 = .ok (.aload_n 0, 1) := by decide +kernel
theorem dX10_makes_72 : decode cX10_makes 72 = .ok (.getfield 60, 3) := by decide +kernel
theorem dX10_makes_75 : decode cX10_makes 75 = .ok (.iload 5, 2) := by decide +kernel
theorem dX10_makes_77 : decode cX10_makes 77 = .ok (.iload_n 1, 1) := by decide +kernel
theorem dX10_makes_78 : decode cX10_makes 78 = .ok (.iastore, 1) := by decide +kernel
theorem dX10_makes_79 : decode cX10_makes 79 = .ok (.aload_n 0, 1) := by decide +kernel
theorem dX10_makes_80 : decode cX10_makes 80 = .ok (.getfield 63, 3) := by decide +kernel
theorem dX10_makes_83 : decode cX10_makes 83 = .ok (.iload 5, 2) := by decide +kernel
theorem dX10_makes_85 : decode cX10_makes 85 = .ok (.iload_n 2, 1) := by decide +kernel
theorem dX10_makes_86 : decode cX10_makes 86 = .ok (.iastore, 1) := by decide +kernel
theorem dX10_makes_87 : decode cX10_makes 87 = .ok (.aload_n 0, 1) := by decide +kernel
theorem dX10_makes_88 : decode cX10_makes 88 = .ok (.getfield 66, 3) := by decide +kernel
theorem dX10_makes_91 : decode cX10_makes 91 = .ok (.iload 5, 2) := by decide +kernel
theorem dX10_makes_93 : decode cX10_makes 93 = .ok (.iload_n 3, 1) := by decide +kernel
theorem dX10_makes_94 : decode cX10_makes 94 = .ok (.iastore, 1) := by decide +kernel
theorem dX10_makes_95 : decode cX10_makes 95 = .ok (.aload_n 0, 1) := by decide +kernel
theorem dX10_makes_96 : decode cX10_makes 96 = .ok (.getfield 48, 3) := by decide +kernel
theorem dX10_makes_99 : decode cX10_makes 99 = .ok (.bipush 40, 2) := by decide +kernel
theorem dX10_makes_101 : decode cX10_makes 101 = .ok (.iload_n 1, 1) := by decide +kernel
theorem dX10_makes_102 : decode cX10_makes 102 = .ok (.imul, 1) := by decide +kernel
theorem dX10_makes_103 : decode cX10_makes 103 = .ok (.iload 4, 2) := by decide +kernel
theorem dX10_makes_105 : decode cX10_makes 105 = .ok (.iadd, 1) := by decide +kernel
theorem dX10_makes_106 : decode cX10_makes 106 = .ok (.iload 5, 2) := by decide +kernel
theorem dX10_makes_108 : decode cX10_makes 108 = .ok (.iconst 1, 1) := by decide +kernel
theorem dX10_makes_109 : decode cX10_makes 109 = .ok (.iadd, 1) := by decide +kernel
theorem dX10_makes_110 : decode cX10_makes 110 = .ok (.iastore, 1) := by decide +kernel
theorem dX10_makes_111 : decode cX10_makes 111 = .ok (.aload_n 0, 1) := by decide +kernel
theorem dX10_makes_112 : decode cX10_makes 112 = .ok (.iload 5, 2) := by decide +kernel
theorem dX10_makes_114 : decode cX10_makes 114 = .ok (.invokevirtual 163, 3) := by decide +kernel
theorem dX10_makes_117 : decode cX10_makes 117 = .ok (.return_, 1) := by decide +kernel
set_option maxRecDepth 20000 in
theorem ggX10_goes_X10_push : GoodIn wsX10_goes wsX10_push := goodIn_r _ [9, 3, 1, 10, 11, 12, 13, 61, 62, 63, 64, 65, 66, 67, 68, 69, 70, 71, 72, 73, 74, 75, 76, 77, 78, 79, 80, 81, 82, 83, 84, 85, 86, 87, 88, 89, 90, 91, 92, 93, 94, 95, 96, 97, 98, 99, 100, 101, 102] (by decide +kernel) (by decide +kernel)
set_option maxRecDepth 20000 in
theorem gX10_goes_X10_push : GoodIn wsX10_goes (wsV RX10 170 RX10 yX10_push wsX10_push) := goodIn_app (goodIn_of _ (by decide +kernel)) ggX10_goes_X10_push
set_option maxRecDepth 20000 in
theorem ggX10_goes_X10_oneLoad : GoodIn wsX10_goes wsX10_oneLoad := goodIn_r _ [17, 10, 11, 12, 18, 19, 20, 21, 22, 13, 23, 24, 2, 4, 25, 26, 27, 8, 28, 1, 29, 30, 31, 32, 5, 6, 7, 9, 3, 33, 34, 35, 36, 37, 38, 61, 62, 63, 64, 65, 66, 67, 68, 69, 70, 71, 72, 73, 74, 75, 76, 77, 78, 79, 80, 81, 82, 83, 84, 85, 86, 87, 88, 89, 90, 91, 92, 93, 94, 95, 96, 97, 98, 99, 100, 101, 102] (by decide +kernel) (by decide +kernel)
set_option maxRecDepth 20000 in
theorem gX10_goes_X10_oneLoad : GoodIn wsX10_goes (wsV RX10 181 RX10 yX10_oneLoad wsX10_oneLoad) := goodIn_app (goodIn_of _ (by decide +kernel)) ggX10_goes_X10_oneLoad
set_option maxRecDepth 20000 in
theorem ggX10_goes_X10_oneDefining : GoodIn wsX10_goes wsX10_oneDefining := goodIn_r _ [42, 10, 11, 43, 12, 44, 20, 21, 45, 2, 46, 47, 4, 29, 30, 31, 8, 32, 1, 48, 49, 50, 51, 52, 53, 54, 55, 33, 34, 35, 36, 37, 38, 25, 26, 27, 28, 5, 6, 7, 9, 3, 13, 61, 62, 63, 64, 65, 66, 67, 68, 69, 70, 71, 72, 73, 74, 75, 76, 77, 78, 79, 80, 81, 82, 83, 84, 85, 86, 87, 88, 89, 90, 91, 92, 93, 94, 95, 96, 97, 98, 99, 100, 101, 102] (by decide +kernel) (by decide +kernel)
set_option maxRecDepth 20000 in
theorem gX10_goes_X10_oneDefining : GoodIn wsX10_goes (wsV RX10 184 RX10 yX10_oneDefining wsX10_oneDefining) := goodIn_app (goodIn_of _ (by decide +kernel)) ggX10_goes_X10_oneDefining
set_option maxRecDepth 20000 in
theorem ggX10_goes_X10_fails : GoodIn wsX10_goes wsX10_fails := goodIn_r _ [59, 60, 61, 62, 63, 64, 65, 66, 67, 68, 69, 70, 71, 72, 73, 74, 75, 76, 77, 78, 79, 80, 81, 82, 83, 84, 85, 86, 87, 88, 89, 90, 91, 92, 93, 94, 95, 96, 97, 98, 99, 100, 101, 102] (by decide +kernel) (by decide +kernel)
set_option maxRecDepth 20000 in
theorem gX10_goes_X10_fails : GoodIn wsX10_goes (wsV RX10 187 RX10 yX10_fails wsX10_fails) := goodIn_app (goodIn_of _ (by decide +kernel)) ggX10_goes_X10_fails
theorem dX10_goes_0 : decode cX10_goes 0 = .ok (.aload_n 0, 1) := by decide +kernel
theorem dX10_goes_1 : decode cX10_goes 1 = .ok (.iconst 0, 1) := by decide +kernel
theorem dX10_goes_2 : decode cX10_goes 2 = .ok (.putfield 151, 3) := by decide +kernel
theorem dX10_goes_5 : decode cX10_goes 5 = .ok (.aload_n 0, 1) := by decide +kernel
theorem dX10_goes_6 : decode cX10_goes 6 = .ok (.iconst 0, 1) := by decide +kernel
theorem dX10_goes_7 : decode cX10_goes 7 = .ok (.putfield 154, 3) := by decide +kernel
theorem dX10_goes_10 : decode cX10_goes 10 = .ok (.aload_n 0, 1) := by decide +kernel
theorem dX10_goes_11 : decode cX10_goes 11 = .ok (.iload_n 1, 1) := by decide +kernel
theorem dX10_goes_12 : decode cX10_goes 12 = .ok (.iload_n 2, 1) := by decide +kernel
theorem dX10_goes_13 : decode cX10_goes 13 = .ok (.iload_n 3, 1) := by decide +kernel
theorem dX10_goes_14 : decode cX10_goes 14 = .ok (.invokevirtual 170, 3) := by decide +kernel
theorem dX10_goes_17 : decode cX10_goes 17 = .ok (.aload_n 0, 1) := by decide +kernel
theorem dX10_goes_18 : decode cX10_goes 18 = .ok (.getfield 151, 3) := by decide +kernel
theorem dX10_goes_21 : decode cX10_goes 21 = .ok (.ifCond .le 43, 3) := by decide +kernel
theorem dX10_goes_24 : decode cX10_goes 24 = .ok (.aload_n 0, 1) := by decide +kernel
theorem dX10_goes_25 : decode cX10_goes 25 = .ok (.getfield 79, 3) := by decide +kernel
theorem dX10_goes_28 : decode cX10_goes 28 = .ok (.aload_n 0, 1) := by decide +kernel
theorem dX10_goes_29 : decode cX10_goes 29 = .ok (.getfield 151, 3) := by decide +kernel
theorem dX10_goes_32 : decode cX10_goes 32 = .ok (.iconst 1, 1) := by decide +kernel
theorem dX10_goes_33 : decode cX10_goes 33 = .ok (.isub, 1) := by decide +kernel
theorem dX10_goes_34 : decode cX10_goes 34 = .ok (.iaload, 1) := by decide +kernel
theorem dX10_goes_35 : decode cX10_goes 35 = .ok (.ifCond .ne 16, 3) := by decide +kernel
theorem dX10_goes_38 : decode cX10_goes 38 = .ok (.aload_n 0, 1) := by decide +kernel
theorem dX10_goes_39 : decode cX10_goes 39 = .ok (.aload_n 0, 1) := by decide +kernel
theorem dX10_goes_40 : decode cX10_goes 40 = .ok (.getfield 151, 3) := by decide +kernel
theorem dX10_goes_43 : decode cX10_goes 43 = .ok (.iconst 1, 1) := by decide +kernel
theorem dX10_goes_44 : decode cX10_goes 44 = .ok (.isub, 1) := by decide +kernel
theorem dX10_goes_45 : decode cX10_goes 45 = .ok (.invokevirtual 181, 3) := by decide +kernel
theorem dX10_goes_48 : decode cX10_goes 48 = .ok (.goto (-31), 3) := by decide +kernel
theorem dX10_goes_51 : decode cX10_goes 51 = .ok (.aload_n 0, 1) := by decide +kernel
theorem dX10_goes_52 : decode cX10_goes 52 = .ok (.aload_n 0, 1) := by decide +kernel
theorem dX10_goes_53 : decode cX10_goes 53 = .ok (.getfield 151, 3) := by decide +kernel
theorem dX10_goes_56 : decode cX10_goes 56 = .ok (.iconst 1, 1) := by decide +kernel
theorem dX10_goes_57 : decode cX10_goes 57 = .ok (.isub, 1) := by decide +kernel
theorem dX10_goes_58 : decode cX10_goes 58 = .ok (.invokevirtual 184, 3) := by decide +kernel
theorem dX10_goes_61 : decode cX10_goes 61 = .ok (.goto (-44), 3) := by decide +kernel
theorem dX10_goes_64 : decode cX10_goes 64 = .ok (.aload_n 0, 1) := by decide +kernel
theorem dX10_goes_65 : decode cX10_goes 65 = .ok (.getfield 154, 3) := by decide +kernel
theorem dX10_goes_68 : decode cX10_goes 68 = .ok (.ifCond .le 14, 3) := by decide +kernel
theorem dX10_goes_71 : decode cX10_goes 71 = .ok (.aload_n 0, 1) := by decide +kernel
theorem dX10_goes_72 : decode cX10_goes 72 = .ok (.aload_n 0, 1) := by decide +kernel
theorem dX10_goes_73 : decode cX10_goes 73 = .ok (.getfield 154, 3) := by decide +kernel
theorem dX10_goes_76 : decode cX10_goes 76 = .ok (.invokevirtual 187, 3) := by decide +kernel
theorem dX10_goes_79 : decode cX10_goes 79 = .ok (.goto 7, 3) := by decide +kernel
theorem dX10_goes_82 : decode cX10_goes 82 = .ok (.aload_n 0, 1) := by decide +kernel
theorem dX10_goes_83 : decode cX10_goes 83 = .ok (.getfield 157, 3) := by decide +kernel
theorem dX10_goes_86 : decode cX10_goes 86 = .ok (.ireturn, 1) := by decide +kernel
set_option maxRecDepth 20000 in
theorem ggX10_load_X10_isLoader : GoodIn wsX10_load wsX10_isLoader := goodIn_r _ [6, 7, 8, 9, 5, 10, 77, 78, 79, 80, 81, 82, 83, 84, 85, 86, 87, 88, 89, 90, 91, 92, 93, 94, 95, 96, 97, 98, 99, 100, 101, 102, 103, 104, 105, 106, 107, 108, 109, 110, 111, 112, 113, 114, 115, 116, 117, 118] (by decide +kernel) (by decide +kernel)
set_option maxRecDepth 20000 in
theorem gX10_load_X10_isLoader : GoodIn wsX10_load (wsV RX10 135 RX10 yX10_isLoader wsX10_isLoader) := goodIn_app (goodIn_of _ (by decide +kernel)) ggX10_load_X10_isLoader
set_option maxRecDepth 20000 in
theorem ggX10_load_X10_isName : GoodIn wsX10_load wsX10_isName := goodIn_r _ [13, 14, 8, 9, 5, 10] (by decide +kernel) (by decide +kernel)
set_option maxRecDepth 20000 in
theorem gX10_load_X10_isName : GoodIn wsX10_load (va_wsS RX10 141 yX10_isName wsX10_isName) := goodIn_app (goodIn_of _ (by decide +kernel)) ggX10_load_X10_isName
set_option maxRecDepth 20000 in
theorem ggX10_load_X10_goes : GoodIn wsX10_load wsX10_goes := goodIn_r _ [18, 19, 20, 21, 22, 23, 24, 25, 5, 26, 27, 28, 29, 30, 31, 32, 33, 34, 35, 36, 37, 38, 39, 40, 41, 42, 43, 44, 45, 46, 47, 48, 49, 50, 51, 52, 53, 7, 54, 55, 56, 57, 58, 59, 60, 61, 62, 63, 64, 65, 66, 67, 68, 69, 70, 71, 72, 73, 74, 75, 76, 77, 78, 79, 80, 81, 82, 83, 84, 85, 86, 87, 88, 89, 90, 91, 92, 93, 94, 95, 96, 97, 98, 99, 100, 101, 102, 103, 104, 105, 106, 107, 108, 109, 110, 111, 112, 113, 114, 115, 116, 117, 118] (by decide +kernel) (by decide +kernel)
set_option maxRecDepth 20000 in
theorem gX10_load_X10_goes : GoodIn wsX10_load (wsV RX10 190 RX10 yX10_goes wsX10_goes) := goodIn_app (goodIn_of _ (by decide +kernel)) ggX10_load_X10_goes
theorem dX10_load_0 : decode cX10_load 0 = .ok (.aload_n 0, 1) := by decide +kernel
theorem dX10_load_1 : decode cX10_load 1 = .ok (.iconst 0, 1) := by decide +kernel
theorem dX10_load_2 : decode cX10_load 2 = .ok (.putfield 1, 3) := by decide +kernel
theorem dX10_load_5 : decode cX10_load 5 = .ok (.aload_n 0, 1) := by decide +kernel
theorem dX10_load_6 : decode cX10_load 6 = .ok (.iload_n 1, 1) := by decide +kernel
theorem dX10_load_7 : decode cX10_load 7 = .ok (.invokevirtual 135, 3) := by decide +kernel
theorem dX10_load_10 : decode cX10_load 10 = .ok (.ifCond .ne 6, 3) := by decide +kernel
theorem dX10_load_13 : decode cX10_load 13 = .ok (.bipush (-2), 2) := by decide +kernel
theorem dX10_load_15 : decode cX10_load 15 = .ok (.ireturn, 1) := by decide +kernel
theorem dX10_load_16 : decode cX10_load 16 = .ok (.iload_n 2, 1) := by decide +kernel
theorem dX10_load_17 : decode cX10_load 17 = .ok (.invokestatic 141, 3) := by decide +kernel
theorem dX10_load_20 : decode cX10_load 20 = .ok (.ifCond .eq 13, 3) := by decide +kernel
theorem dX10_load_23 : decode cX10_load 23 = .ok (.aload_n 0, 1) := by decide +kernel
theorem dX10_load_24 : decode cX10_load 24 = .ok (.iconst 0, 1) := by decide +kernel
theorem dX10_load_25 : decode cX10_load 25 = .ok (.iload_n 1, 1) := by decide +kernel
theorem dX10_load_26 : decode cX10_load 26 = .ok (.iload_n 2, 1) := by decide +kernel
theorem dX10_load_27 : decode cX10_load 27 = .ok (.invokevirtual 190, 3) := by decide +kernel
theorem dX10_load_30 : decode cX10_load 30 = .ok (.goto 5, 3) := by decide +kernel
theorem dX10_load_33 : decode cX10_load 33 = .ok (.bipush (-3), 2) := by decide +kernel
theorem dX10_load_35 : decode cX10_load 35 = .ok (.ireturn, 1) := by decide +kernel
set_option maxRecDepth 20000 in
theorem ggX10_define_X10_isLoader : GoodIn wsX10_define wsX10_isLoader := goodIn_r _ [6, 7, 8, 9, 5, 10, 78, 79, 80, 81, 82, 83, 84, 85, 86, 87, 88, 89, 90, 91, 92, 93, 94, 95, 96, 97, 98, 99, 100, 101, 102, 103, 104, 105, 106, 107, 108, 109, 110, 111, 112, 113, 114, 115, 116, 117, 118, 119] (by decide +kernel) (by decide +kernel)
set_option maxRecDepth 20000 in
theorem gX10_define_X10_isLoader : GoodIn wsX10_define (wsV RX10 135 RX10 yX10_isLoader wsX10_isLoader) := goodIn_app (goodIn_of _ (by decide +kernel)) ggX10_define_X10_isLoader
set_option maxRecDepth 20000 in
theorem ggX10_define_X10_isFile : GoodIn wsX10_define wsX10_isFile := goodIn_r _ [14, 15, 8, 9, 5, 10, 78, 79, 80, 81, 82, 83, 84, 85, 86, 87, 88, 89, 90, 91, 92, 93, 94, 95, 96, 97, 98, 99, 100, 101, 102, 103, 104, 105, 106, 107, 108, 109, 110, 111, 112, 113, 114, 115, 116, 117, 118, 119] (by decide +kernel) (by decide +kernel)
set_option maxRecDepth 20000 in
theorem gX10_define_X10_isFile : GoodIn wsX10_define (wsV RX10 144 RX10 yX10_isFile wsX10_isFile) := goodIn_app (goodIn_of _ (by decide +kernel)) ggX10_define_X10_isFile
set_option maxRecDepth 20000 in
theorem ggX10_define_X10_goes : GoodIn wsX10_define wsX10_goes := goodIn_r _ [19, 20, 21, 22, 23, 24, 25, 26, 5, 27, 28, 29, 30, 31, 32, 33, 34, 35, 36, 37, 38, 39, 40, 41, 42, 43, 44, 45, 46, 47, 48, 49, 50, 51, 52, 53, 54, 7, 55, 56, 57, 58, 59, 60, 61, 62, 63, 64, 65, 66, 67, 68, 69, 70, 71, 72, 73, 74, 75, 76, 77, 78, 79, 80, 81, 82, 83, 84, 85, 86, 87, 88, 89, 90, 91, 92, 93, 94, 95, 96, 97, 98, 99, 100, 101, 102, 103, 104, 105, 106, 107, 108, 109, 110, 111, 112, 113, 114, 115, 116, 117, 118, 119] (by decide +kernel) (by decide +kernel)
set_option maxRecDepth 20000 in
theorem gX10_define_X10_goes : GoodIn wsX10_define (wsV RX10 190 RX10 yX10_goes wsX10_goes) := goodIn_app (goodIn_of _ (by decide +kernel)) ggX10_define_X10_goes
theorem dX10_define_0 : decode cX10_define 0 = .ok (.aload_n 0, 1) := by decide +kernel
theorem dX10_define_1 : decode cX10_define 1 = .ok (.iconst 0, 1) := by decide +kernel
theorem dX10_define_2 : decode cX10_define 2 = .ok (.putfield 1, 3) := by decide +kernel
theorem dX10_define_5 : decode cX10_define 5 = .ok (.aload_n 0, 1) := by decide +kernel
theorem dX10_define_6 : decode cX10_define 6 = .ok (.iload_n 1, 1) := by decide +kernel
theorem dX10_define_7 : decode cX10_define 7 = .ok (.invokevirtual 135, 3) := by decide +kernel
theorem dX10_define_10 : decode cX10_define 10 = .ok (.ifCond .eq 21, 3) := by decide +kernel
theorem dX10_define_13 : decode cX10_define 13 = .ok (.aload_n 0, 1) := by decide +kernel
theorem dX10_define_14 : decode cX10_define 14 = .ok (.iload_n 2, 1) := by decide +kernel
theorem dX10_define_15 : decode cX10_define 15 = .ok (.invokevirtual 144, 3) := by decide +kernel
theorem dX10_define_18 : decode cX10_define 18 = .ok (.ifCond .eq 13, 3) := by decide +kernel
theorem dX10_define_21 : decode cX10_define 21 = .ok (.aload_n 0, 1) := by decide +kernel
theorem dX10_define_22 : decode cX10_define 22 = .ok (.iconst 1, 1) := by decide +kernel
theorem dX10_define_23 : decode cX10_define 23 = .ok (.iload_n 1, 1) := by decide +kernel
theorem dX10_define_24 : decode cX10_define 24 = .ok (.iload_n 2, 1) := by decide +kernel
theorem dX10_define_25 : decode cX10_define 25 = .ok (.invokevirtual 190, 3) := by decide +kernel
theorem dX10_define_28 : decode cX10_define 28 = .ok (.goto 5, 3) := by decide +kernel
theorem dX10_define_31 : decode cX10_define 31 = .ok (.bipush (-2), 2) := by decide +kernel
theorem dX10_define_33 : decode cX10_define 33 = .ok (.ireturn, 1) := by decide +kernel
set_option maxRecDepth 20000 in
theorem ggX10_known_X10_isLoader : GoodIn wsX10_known wsX10_isLoader := goodIn_r _ [7, 8, 9, 10, 6, 11, 16, 17, 18, 19, 20, 21, 22, 23, 24, 25, 26, 27, 28, 29, 30, 31, 32, 33, 34, 35, 36, 37, 38, 39, 40, 41, 42, 43, 44, 45, 46, 47, 48, 49, 50, 51, 52, 53, 54, 55, 56, 57] (by decide +kernel) (by decide +kernel)
set_option maxRecDepth 20000 in
theorem gX10_known_X10_isLoader : GoodIn wsX10_known (wsV RX10 135 RX10 yX10_isLoader wsX10_isLoader) := goodIn_app (goodIn_of _ (by decide +kernel)) ggX10_known_X10_isLoader
set_option maxRecDepth 20000 in
theorem ggX10_known_X10_isName : GoodIn wsX10_known wsX10_isName := goodIn_r _ [14, 15, 9, 10, 6, 11] (by decide +kernel) (by decide +kernel)
set_option maxRecDepth 20000 in
theorem gX10_known_X10_isName : GoodIn wsX10_known (va_wsS RX10 141 yX10_isName wsX10_isName) := goodIn_app (goodIn_of _ (by decide +kernel)) ggX10_known_X10_isName
theorem dX10_known_0 : decode cX10_known 0 = .ok (.aload_n 0, 1) := by decide +kernel
theorem dX10_known_1 : decode cX10_known 1 = .ok (.iconst 0, 1) := by decide +kernel
theorem dX10_known_2 : decode cX10_known 2 = .ok (.putfield 1, 3) := by decide +kernel
theorem dX10_known_5 : decode cX10_known 5 = .ok (.aload_n 0, 1) := by decide +kernel
theorem dX10_known_6 : decode cX10_known 6 = .ok (.iload_n 1, 1) := by decide +kernel
theorem dX10_known_7 : decode cX10_known 7 = .ok (.invokevirtual 135, 3) := by decide +kernel
theorem dX10_known_10 : decode cX10_known 10 = .ok (.ifCond .ne 6, 3) := by decide +kernel
theorem dX10_known_13 : decode cX10_known 13 = .ok (.bipush (-2), 2) := by decide +kernel
theorem dX10_known_15 : decode cX10_known 15 = .ok (.ireturn, 1) := by decide +kernel
theorem dX10_known_16 : decode cX10_known 16 = .ok (.iload_n 2, 1) := by decide +kernel
theorem dX10_known_17 : decode cX10_known 17 = .ok (.invokestatic 141, 3) := by decide +kernel
theorem dX10_known_20 : decode cX10_known 20 = .ok (.ifCond .eq 19, 3) := by decide +kernel
theorem dX10_known_23 : decode cX10_known 23 = .ok (.aload_n 0, 1) := by decide +kernel
theorem dX10_known_24 : decode cX10_known 24 = .ok (.getfield 48, 3) := by decide +kernel
theorem dX10_known_27 : decode cX10_known 27 = .ok (.bipush 40, 2) := by decide +kernel
theorem dX10_known_29 : decode cX10_known 29 = .ok (.iload_n 1, 1) := by decide +kernel
theorem dX10_known_30 : decode cX10_known 30 = .ok (.imul, 1) := by decide +kernel
theorem dX10_known_31 : decode cX10_known 31 = .ok (.iload_n 2, 1) := by decide +kernel
theorem dX10_known_32 : decode cX10_known 32 = .ok (.iadd, 1) := by decide +kernel
theorem dX10_known_33 : decode cX10_known 33 = .ok (.iaload, 1) := by decide +kernel
theorem dX10_known_34 : decode cX10_known 34 = .ok (.iconst 1, 1) := by decide +kernel
theorem dX10_known_35 : decode cX10_known 35 = .ok (.isub, 1) := by decide +kernel
theorem dX10_known_36 : decode cX10_known 36 = .ok (.goto 5, 3) := by decide +kernel
theorem dX10_known_39 : decode cX10_known 39 = .ok (.bipush (-3), 2) := by decide +kernel
theorem dX10_known_41 : decode cX10_known 41 = .ok (.ireturn, 1) := by decide +kernel
set_option maxRecDepth 20000 in
theorem ggX10_agree_X10_isClass : GoodIn wsX10_agree wsX10_isClass := goodIn_r _ [10, 11, 12, 13, 9, 14, 24, 25, 26, 27, 28, 29, 30, 31, 32, 33, 34, 35, 36, 37, 38, 39, 40, 41, 42, 43, 44, 45, 46, 47, 48, 49, 50, 51, 52, 53, 54, 55, 56, 57, 58, 59, 60, 61, 62, 63, 64, 65] (by decide +kernel) (by decide +kernel)
set_option maxRecDepth 20000 in
theorem gX10_agree_X10_isClass : GoodIn wsX10_agree (wsV RX10 194 RX10 yX10_isClass wsX10_isClass) := goodIn_app (goodIn_of _ (by decide +kernel)) ggX10_agree_X10_isClass
set_option maxRecDepth 20000 in
theorem ggX10_agree_X10_isName : GoodIn wsX10_agree wsX10_isName := goodIn_r _ [17, 18, 12, 13, 9, 14] (by decide +kernel) (by decide +kernel)
set_option maxRecDepth 20000 in
theorem gX10_agree_X10_isName : GoodIn wsX10_agree (va_wsS RX10 141 yX10_isName wsX10_isName) := goodIn_app (goodIn_of _ (by decide +kernel)) ggX10_agree_X10_isName
set_option maxRecDepth 20000 in
theorem ggX10_agree_X10_fails : GoodIn wsX10_agree wsX10_fails := goodIn_r _ [22, 23, 24, 25, 26, 27, 28, 29, 30, 31, 32, 33, 34, 35, 36, 37, 38, 39, 40, 41, 42, 43, 44, 45, 46, 47, 48, 49, 50, 51, 52, 53, 54, 55, 56, 57, 58, 59, 60, 61, 62, 63, 64, 65] (by decide +kernel) (by decide +kernel)
set_option maxRecDepth 20000 in
theorem gX10_agree_X10_fails : GoodIn wsX10_agree (wsV RX10 187 RX10 yX10_fails wsX10_fails) := goodIn_app (goodIn_of _ (by decide +kernel)) ggX10_agree_X10_fails
theorem dX10_agree_0 : decode cX10_agree 0 = .ok (.aload_n 0, 1) := by decide +kernel
theorem dX10_agree_1 : decode cX10_agree 1 = .ok (.iconst 0, 1) := by decide +kernel
theorem dX10_agree_2 : decode cX10_agree 2 = .ok (.putfield 1, 3) := by decide +kernel
theorem dX10_agree_5 : decode cX10_agree 5 = .ok (.aload_n 0, 1) := by decide +kernel
theorem dX10_agree_6 : decode cX10_agree 6 = .ok (.iload_n 1, 1) := by decide +kernel
theorem dX10_agree_7 : decode cX10_agree 7 = .ok (.invokevirtual 194, 3) := by decide +kernel
theorem dX10_agree_10 : decode cX10_agree 10 = .ok (.ifCond .eq 11, 3) := by decide +kernel
theorem dX10_agree_13 : decode cX10_agree 13 = .ok (.aload_n 0, 1) := by decide +kernel
theorem dX10_agree_14 : decode cX10_agree 14 = .ok (.iload_n 2, 1) := by decide +kernel
theorem dX10_agree_15 : decode cX10_agree 15 = .ok (.invokevirtual 194, 3) := by decide +kernel
theorem dX10_agree_18 : decode cX10_agree 18 = .ok (.ifCond .ne 6, 3) := by decide +kernel
theorem dX10_agree_21 : decode cX10_agree 21 = .ok (.bipush (-2), 2) := by decide +kernel
theorem dX10_agree_23 : decode cX10_agree 23 = .ok (.ireturn, 1) := by decide +kernel
theorem dX10_agree_24 : decode cX10_agree 24 = .ok (.iload_n 3, 1) := by decide +kernel
theorem dX10_agree_25 : decode cX10_agree 25 = .ok (.invokestatic 141, 3) := by decide +kernel
theorem dX10_agree_28 : decode cX10_agree 28 = .ok (.ifCond .ne 6, 3) := by decide +kernel
theorem dX10_agree_31 : decode cX10_agree 31 = .ok (.bipush (-3), 2) := by decide +kernel
theorem dX10_agree_33 : decode cX10_agree 33 = .ok (.ireturn, 1) := by decide +kernel
theorem dX10_agree_34 : decode cX10_agree 34 = .ok (.aload_n 0, 1) := by decide +kernel
theorem dX10_agree_35 : decode cX10_agree 35 = .ok (.getfield 54, 3) := by decide +kernel
theorem dX10_agree_38 : decode cX10_agree 38 = .ok (.bipush 40, 2) := by decide +kernel
theorem dX10_agree_40 : decode cX10_agree 40 = .ok (.aload_n 0, 1) := by decide +kernel
theorem dX10_agree_41 : decode cX10_agree 41 = .ok (.getfield 60, 3) := by decide +kernel
theorem dX10_agree_44 : decode cX10_agree 44 = .ok (.iload_n 1, 1) := by decide +kernel
theorem dX10_agree_45 : decode cX10_agree 45 = .ok (.iaload, 1) := by decide +kernel
theorem dX10_agree_46 : decode cX10_agree 46 = .ok (.imul, 1) := by decide +kernel
theorem dX10_agree_47 : decode cX10_agree 47 = .ok (.iload_n 3, 1) := by decide +kernel
theorem dX10_agree_48 : decode cX10_agree 48 = .ok (.iadd, 1) := by decide +kernel
theorem dX10_agree_49 : decode cX10_agree 49 = .ok (.iaload, 1) := by decide +kernel
theorem dX10_agree_50 : decode cX10_agree 50 = .ok (.istore 4, 2) := by decide +kernel
theorem dX10_agree_52 : decode cX10_agree 52 = .ok (.aload_n 0, 1) := by decide +kernel
theorem dX10_agree_53 : decode cX10_agree 53 = .ok (.getfield 54, 3) := by decide +kernel
theorem dX10_agree_56 : decode cX10_agree 56 = .ok (.bipush 40, 2) := by decide +kernel
theorem dX10_agree_58 : decode cX10_agree 58 = .ok (.aload_n 0, 1) := by decide +kernel
theorem dX10_agree_59 : decode cX10_agree 59 = .ok (.getfield 60, 3) := by decide +kernel
theorem dX10_agree_62 : decode cX10_agree 62 = .ok (.iload_n 2, 1) := by decide +kernel
theorem dX10_agree_63 : decode cX10_agree 63 = .ok (.iaload, 1) := by decide +kernel
theorem dX10_agree_64 : decode cX10_agree 64 = .ok (.imul, 1) := by decide +kernel
theorem dX10_agree_65 : decode cX10_agree 65 = .ok (.iload_n 3, 1) := by decide +kernel
theorem dX10_agree_66 : decode cX10_agree 66 = .ok (.iadd, 1) := by decide +kernel
theorem dX10_agree_67 : decode cX10_agree 67 = .ok (.iaload, 1) := by decide +kernel
theorem dX10_agree_68 : decode cX10_agree 68 = .ok (.istore 5, 2) := by decide +kernel
theorem dX10_agree_70 : decode cX10_agree 70 = .ok (.iconst 0, 1) := by decide +kernel
theorem dX10_agree_71 : decode cX10_agree 71 = .ok (.istore 6, 2) := by decide +kernel
theorem dX10_agree_73 : decode cX10_agree 73 = .ok (.iconst 0, 1) := by decide +kernel
theorem dX10_agree_74 : decode cX10_agree 74 = .ok (.istore 7, 2) := by decide +kernel
theorem dX10_agree_76 : decode cX10_agree 76 = .ok (.iload 7, 2) := by decide +kernel
theorem dX10_agree_78 : decode cX10_agree 78 = .ok (.aload_n 0, 1) := by decide +kernel
theorem dX10_agree_79 : decode cX10_agree 79 = .ok (.getfield 120, 3) := by decide +kernel
theorem dX10_agree_82 : decode cX10_agree 82 = .ok (.if_icmp .ge 84, 3) := by decide +kernel
theorem dX10_agree_85 : decode cX10_agree 85 = .ok (.bipush 40, 2) := by decide +kernel
