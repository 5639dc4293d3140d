set_option maxRecDepth 20000 in
theorem ggL_why_L_held : GoodIn wsL_why wsL_held := goodIn_r _ [4] (by decide +kernel) (by decide +kernel)
set_option maxRecDepth 20000 in
theorem gL_why_L_held : GoodIn wsL_why (va_wsS RL 59 yL_held wsL_held) := goodIn_app (goodIn_of _ (by decide +kernel)) ggL_why_L_held
set_option maxRecDepth 20000 in
theorem ggL_why_L_lay : GoodIn wsL_why wsL_lay := goodIn_r _ [7] (by decide +kernel) (by decide +kernel)
set_option maxRecDepth 20000 in
theorem gL_why_L_lay : GoodIn wsL_why (va_wsS RL 65 yL_lay wsL_lay) := goodIn_app (goodIn_of _ (by decide +kernel)) ggL_why_L_lay
set_option maxRecDepth 20000 in
theorem ggL_why_L_with : GoodIn wsL_why wsL_with := goodIn_r _ [10] (by decide +kernel) (by decide +kernel)
set_option maxRecDepth 20000 in
theorem gL_why_L_with : GoodIn wsL_why (va_wsS RL 69 yL_with wsL_with) := goodIn_app (goodIn_of _ (by decide +kernel)) ggL_why_L_with
theorem dL_why_0 : decode cL_why 0 = .ok (.iload 5, 2) := by decide +kernel
theorem dL_why_2 : decode cL_why 2 = .ok (.bipush 100, 2) := by decide +kernel
theorem dL_why_4 : decode cL_why 4 = .ok (.idiv, 1) := by decide +kernel
theorem dL_why_5 : decode cL_why 5 = .ok (.istore 6, 2) := by decide +kernel
theorem dL_why_7 : decode cL_why 7 = .ok (.iload 5, 2) := by decide +kernel
theorem dL_why_9 : decode cL_why 9 = .ok (.bipush 100, 2) := by decide +kernel
theorem dL_why_11 : decode cL_why 11 = .ok (.irem, 1) := by decide +kernel
theorem dL_why_12 : decode cL_why 12 = .ok (.istore 7, 2) := by decide +kernel
theorem dL_why_14 : decode cL_why 14 = .ok (.aload 4, 2) := by decide +kernel
theorem dL_why_16 : decode cL_why 16 = .ok (.iload 6, 2) := by decide +kernel
theorem dL_why_18 : decode cL_why 18 = .ok (.iconst 2, 1) := by decide +kernel
theorem dL_why_19 : decode cL_why 19 = .ok (.idiv, 1) := by decide +kernel
theorem dL_why_20 : decode cL_why 20 = .ok (.iaload, 1) := by decide +kernel
theorem dL_why_21 : decode cL_why 21 = .ok (.iload 7, 2) := by decide +kernel
theorem dL_why_23 : decode cL_why 23 = .ok (.ishr, 1) := by decide +kernel
theorem dL_why_24 : decode cL_why 24 = .ok (.iconst 1, 1) := by decide +kernel
theorem dL_why_25 : decode cL_why 25 = .ok (.iand, 1) := by decide +kernel
theorem dL_why_26 : decode cL_why 26 = .ok (.iconst 1, 1) := by decide +kernel
theorem dL_why_27 : decode cL_why 27 = .ok (.if_icmp .ne 7, 3) := by decide +kernel
theorem dL_why_30 : decode cL_why 30 = .ok (.iconst 1, 1) := by decide +kernel
theorem dL_why_31 : decode cL_why 31 = .ok (.goto 4, 3) := by decide +kernel
theorem dL_why_34 : decode cL_why 34 = .ok (.iconst 0, 1) := by decide +kernel
theorem dL_why_35 : decode cL_why 35 = .ok (.istore 8, 2) := by decide +kernel
theorem dL_why_37 : decode cL_why 37 = .ok (.iload 6, 2) := by decide +kernel
theorem dL_why_39 : decode cL_why 39 = .ok (.iconst 1, 1) := by decide +kernel
theorem dL_why_40 : decode cL_why 40 = .ok (.if_icmp .eq 15, 3) := by decide +kernel
theorem dL_why_43 : decode cL_why 43 = .ok (.iload 6, 2) := by decide +kernel
theorem dL_why_45 : decode cL_why 45 = .ok (.iconst 2, 1) := by decide +kernel
theorem dL_why_46 : decode cL_why 46 = .ok (.if_icmp .eq 9, 3) := by decide +kernel
theorem dL_why_49 : decode cL_why 49 = .ok (.iload 6, 2) := by decide +kernel
theorem dL_why_51 : decode cL_why 51 = .ok (.iconst 4, 1) := by decide +kernel
theorem dL_why_52 : decode cL_why 52 = .ok (.if_icmp .ne 7, 3) := by decide +kernel
theorem dL_why_55 : decode cL_why 55 = .ok (.iconst 1, 1) := by decide +kernel
theorem dL_why_56 : decode cL_why 56 = .ok (.goto 4, 3) := by decide +kernel
theorem dL_why_59 : decode cL_why 59 = .ok (.iconst 0, 1) := by decide +kernel
theorem dL_why_60 : decode cL_why 60 = .ok (.istore 9, 2) := by decide +kernel
theorem dL_why_62 : decode cL_why 62 = .ok (.iload 8, 2) := by decide +kernel
theorem dL_why_64 : decode cL_why 64 = .ok (.iload 9, 2) := by decide +kernel
theorem dL_why_66 : decode cL_why 66 = .ok (.if_icmp .eq 20, 3) := by decide +kernel
theorem dL_why_69 : decode cL_why 69 = .ok (.iload 6, 2) := by decide +kernel
theorem dL_why_71 : decode cL_why 71 = .ok (.iconst 3, 1) := by decide +kernel
theorem dL_why_72 : decode cL_why 72 = .ok (.if_icmp .le 16, 3) := by decide +kernel
theorem dL_why_75 : decode cL_why 75 = .ok (.aload_n 3, 1) := by decide +kernel
theorem dL_why_76 : decode cL_why 76 = .ok (.iconst 2, 1) := by decide +kernel
theorem dL_why_77 : decode cL_why 77 = .ok (.iaload, 1) := by decide +kernel
theorem dL_why_78 : decode cL_why 78 = .ok (.iload 7, 2) := by decide +kernel
theorem dL_why_80 : decode cL_why 80 = .ok (.ishr, 1) := by decide +kernel
theorem dL_why_81 : decode cL_why 81 = .ok (.iconst 1, 1) := by decide +kernel
theorem dL_why_82 : decode cL_why 82 = .ok (.iand, 1) := by decide +kernel
theorem dL_why_83 : decode cL_why 83 = .ok (.ifCond .ne 5, 3) := by decide +kernel
theorem dL_why_86 : decode cL_why 86 = .ok (.iconst 1, 1) := by decide +kernel
theorem dL_why_87 : decode cL_why 87 = .ok (.ireturn, 1) := by decide +kernel
theorem dL_why_88 : decode cL_why 88 = .ok (.iload 6, 2) := by decide +kernel
theorem dL_why_90 : decode cL_why 90 = .ok (.iconst 2, 1) := by decide +kernel
theorem dL_why_91 : decode cL_why 91 = .ok (.if_icmp .ge 13, 3) := by decide +kernel
theorem dL_why_94 : decode cL_why 94 = .ok (.aload_n 0, 1) := by decide +kernel
theorem dL_why_95 : decode cL_why 95 = .ok (.iload 7, 2) := by decide +kernel
theorem dL_why_97 : decode cL_why 97 = .ok (.iaload, 1) := by decide +kernel
theorem dL_why_98 : decode cL_why 98 = .ok (.bipush 15, 2) := by decide +kernel
theorem dL_why_100 : decode cL_why 100 = .ok (.iand, 1) := by decide +kernel
theorem dL_why_101 : decode cL_why 101 = .ok (.goto 5, 3) := by decide +kernel
theorem dL_why_104 : decode cL_why 104 = .ok (.iload 7, 2) := by decide +kernel
theorem dL_why_106 : decode cL_why 106 = .ok (.istore 10, 2) := by decide +kernel
theorem dL_why_108 : decode cL_why 108 = .ok (.iload 6, 2) := by decide +kernel
theorem dL_why_110 : decode cL_why 110 = .ok (.iconst 2, 1) := by decide +kernel
theorem dL_why_111 : decode cL_why 111 = .ok (.if_icmp .ge 15, 3) := by decide +kernel
theorem dL_why_114 : decode cL_why 114 = .ok (.aload_n 0, 1) := by decide +kernel
theorem dL_why_115 : decode cL_why 115 = .ok (.iload 7, 2) := by decide +kernel
theorem dL_why_117 : decode cL_why 117 = .ok (.iaload, 1) := by decide +kernel
theorem dL_why_118 : decode cL_why 118 = .ok (.iconst 4, 1) := by decide +kernel
theorem dL_why_119 : decode cL_why 119 = .ok (.ishr, 1) := by decide +kernel
theorem dL_why_120 : decode cL_why 120 = .ok (.bipush 15, 2) := by decide +kernel
theorem dL_why_122 : decode cL_why 122 = .ok (.iand, 1) := by decide +kernel
theorem dL_why_123 : decode cL_why 123 = .ok (.goto 5, 3) := by decide +kernel
theorem dL_why_126 : decode cL_why 126 = .ok (.iload 7, 2) := by decide +kernel
theorem dL_why_128 : decode cL_why 128 = .ok (.istore 11, 2) := by decide +kernel
theorem dL_why_130 : decode cL_why 130 = .ok (.iconst 1, 1) := by decide +kernel
theorem dL_why_131 : decode cL_why 131 = .ok (.iload 10, 2) := by decide +kernel
theorem dL_why_133 : decode cL_why 133 = .ok (.ishl, 1) := by decide +kernel
theorem dL_why_134 : decode cL_why 134 = .ok (.iconst 1, 1) := by decide +kernel
theorem dL_why_135 : decode cL_why 135 = .ok (.iload 11, 2) := by decide +kernel
theorem dL_why_137 : decode cL_why 137 = .ok (.ishl, 1) := by decide +kernel
theorem dL_why_138 : decode cL_why 138 = .ok (.ior, 1) := by decide +kernel
theorem dL_why_139 : decode cL_why 139 = .ok (.istore 12, 2) := by decide +kernel
theorem dL_why_141 : decode cL_why 141 = .ok (.aload_n 2, 1) := by decide +kernel
theorem dL_why_142 : decode cL_why 142 = .ok (.aload_n 3, 1) := by decide +kernel
theorem dL_why_143 : decode cL_why 143 = .ok (.invokestatic 59, 3) := by decide +kernel
theorem dL_why_146 : decode cL_why 146 = .ok (.istore 13, 2) := by decide +kernel
theorem dL_why_148 : decode cL_why 148 = .ok (.iload 12, 2) := by decide +kernel
theorem dL_why_150 : decode cL_why 150 = .ok (.iload 13, 2) := by decide +kernel
theorem dL_why_152 : decode cL_why 152 = .ok (.iand, 1) := by decide +kernel
theorem dL_why_153 : decode cL_why 153 = .ok (.ifCond .eq 5, 3) := by decide +kernel
theorem dL_why_156 : decode cL_why 156 = .ok (.iconst 2, 1) := by decide +kernel
theorem dL_why_157 : decode cL_why 157 = .ok (.ireturn, 1) := by decide +kernel
theorem dL_why_158 : decode cL_why 158 = .ok (.aload_n 0, 1) := by decide +kernel
theorem dL_why_159 : decode cL_why 159 = .ok (.aload_n 1, 1) := by decide +kernel
theorem dL_why_160 : decode cL_why 160 = .ok (.aload_n 3, 1) := by decide +kernel
theorem dL_why_161 : decode cL_why 161 = .ok (.aload 4, 2) := by decide +kernel
theorem dL_why_163 : decode cL_why 163 = .ok (.iconst 0, 1) := by decide +kernel
theorem dL_why_164 : decode cL_why 164 = .ok (.iaload, 1) := by decide +kernel
theorem dL_why_165 : decode cL_why 165 = .ok (.invokestatic 65, 3) := by decide +kernel
theorem dL_why_168 : decode cL_why 168 = .ok (.aload_n 1, 1) := by decide +kernel
theorem dL_why_169 : decode cL_why 169 = .ok (.aload_n 3, 1) := by decide +kernel
theorem dL_why_170 : decode cL_why 170 = .ok (.aload 4, 2) := by decide +kernel
theorem dL_why_172 : decode cL_why 172 = .ok (.iconst 2, 1) := by decide +kernel
theorem dL_why_173 : decode cL_why 173 = .ok (.iaload, 1) := by decide +kernel
theorem dL_why_174 : decode cL_why 174 = .ok (.invokestatic 69, 3) := by decide +kernel
theorem dL_why_177 : decode cL_why 177 = .ok (.istore 14, 2) := by decide +kernel
theorem dL_why_179 : decode cL_why 179 = .ok (.aload_n 1, 1) := by decide +kernel
theorem dL_why_180 : decode cL_why 180 = .ok (.aload_n 3, 1) := by decide +kernel
theorem dL_why_181 : decode cL_why 181 = .ok (.aload 4, 2) := by decide +kernel
theorem dL_why_183 : decode cL_why 183 = .ok (.iconst 1, 1) := by decide +kernel
theorem dL_why_184 : decode cL_why 184 = .ok (.iaload, 1) := by decide +kernel
theorem dL_why_185 : decode cL_why 185 = .ok (.invokestatic 69, 3) := by decide +kernel
theorem dL_why_188 : decode cL_why 188 = .ok (.istore 15, 2) := by decide +kernel
theorem dL_why_190 : decode cL_why 190 = .ok (.iload 14, 2) := by decide +kernel
theorem dL_why_192 : decode cL_why 192 = .ok (.aload_n 1, 1) := by decide +kernel
theorem dL_why_193 : decode cL_why 193 = .ok (.aload_n 3, 1) := by decide +kernel
theorem dL_why_194 : decode cL_why 194 = .ok (.aload_n 3, 1) := by decide +kernel
theorem dL_why_195 : decode cL_why 195 = .ok (.iconst 3, 1) := by decide +kernel
theorem dL_why_196 : decode cL_why 196 = .ok (.iaload, 1) := by decide +kernel
theorem dL_why_197 : decode cL_why 197 = .ok (.invokestatic 69, 3) := by decide +kernel
theorem dL_why_200 : decode cL_why 200 = .ok (.iand, 1) := by decide +kernel
theorem dL_why_201 : decode cL_why 201 = .ok (.istore 16, 2) := by decide +kernel
theorem dL_why_203 : decode cL_why 203 = .ok (.iload 6, 2) := by decide +kernel
theorem dL_why_205 : decode cL_why 205 = .ok (.iconst 1, 1) := by decide +kernel
theorem dL_why_206 : decode cL_why 206 = .ok (.if_icmp .ne 21, 3) := by decide +kernel
theorem dL_why_209 : decode cL_why 209 = .ok (.iload 14, 2) := by decide +kernel
theorem dL_why_211 : decode cL_why 211 = .ok (.iload 12, 2) := by decide +kernel
theorem dL_why_213 : decode cL_why 213 = .ok (.iand, 1) := by decide +kernel
theorem dL_why_214 : decode cL_why 214 = .ok (.ifCond .eq 13, 3) := by decide +kernel
theorem dL_why_217 : decode cL_why 217 = .ok (.iload 15, 2) := by decide +kernel
theorem dL_why_219 : decode cL_why 219 = .ok (.iload 12, 2) := by decide +kernel
theorem dL_why_221 : decode cL_why 221 = .ok (.iand, 1) := by decide +kernel
theorem dL_why_222 : decode cL_why 222 = .ok (.ifCond .eq 5, 3) := by decide +kernel
theorem dL_why_225 : decode cL_why 225 = .ok (.iconst 3, 1) := by decide +kernel
theorem dL_why_226 : decode cL_why 226 = .ok (.ireturn, 1) := by decide +kernel
theorem dL_why_227 : decode cL_why 227 = .ok (.iload 6, 2) := by decide +kernel
theorem dL_why_229 : decode cL_why 229 = .ok (.iconst 2, 1) := by decide +kernel
theorem dL_why_230 : decode cL_why 230 = .ok (.if_icmp .ne 11, 3) := by decide +kernel
theorem dL_why_233 : decode cL_why 233 = .ok (.iload 14, 2) := by decide +kernel
theorem dL_why_235 : decode cL_why 235 = .ok (.iload 12, 2) := by decide +kernel
theorem dL_why_237 : decode cL_why 237 = .ok (.iand, 1) := by decide +kernel
theorem dL_why_238 : decode cL_why 238 = .ok (.ifCond .ne 17, 3) := by decide +kernel
theorem dL_why_241 : decode cL_why 241 = .ok (.iload 6, 2) := by decide +kernel
theorem dL_why_243 : decode cL_why 243 = .ok (.iconst 4, 1) := by decide +kernel
theorem dL_why_244 : decode cL_why 244 = .ok (.if_icmp .ne 13, 3) := by decide +kernel
theorem dL_why_247 : decode cL_why 247 = .ok (.iload 15, 2) := by decide +kernel
theorem dL_why_249 : decode cL_why 249 = .ok (.iload 12, 2) := by decide +kernel
theorem dL_why_251 : decode cL_why 251 = .ok (.iand, 1) := by decide +kernel
theorem dL_why_252 : decode cL_why 252 = .ok (.ifCond .eq 5, 3) := by decide +kernel
theorem dL_why_255 : decode cL_why 255 = .ok (.iconst 3, 1) := by decide +kernel
theorem dL_why_256 : decode cL_why 256 = .ok (.ireturn, 1) := by decide +kernel
theorem dL_why_257 : decode cL_why 257 = .ok (.iload 6, 2) := by decide +kernel
theorem dL_why_259 : decode cL_why 259 = .ok (.iconst 2, 1) := by decide +kernel
theorem dL_why_260 : decode cL_why 260 = .ok (.if_icmp .ge 17, 3) := by decide +kernel
theorem dL_why_263 : decode cL_why 263 = .ok (.aload_n 0, 1) := by decide +kernel
theorem dL_why_264 : decode cL_why 264 = .ok (.iload 7, 2) := by decide +kernel
theorem dL_why_266 : decode cL_why 266 = .ok (.iaload, 1) := by decide +kernel
theorem dL_why_267 : decode cL_why 267 = .ok (.sipush 256, 3) := by decide +kernel
theorem dL_why_270 : decode cL_why 270 = .ok (.if_icmp .ge 7, 3) := by decide +kernel
theorem dL_why_273 : decode cL_why 273 = .ok (.iconst 1, 1) := by decide +kernel
theorem dL_why_274 : decode cL_why 274 = .ok (.goto 4, 3) := by decide +kernel
theorem dL_why_277 : decode cL_why 277 = .ok (.iconst 0, 1) := by decide +kernel
theorem dL_why_278 : decode cL_why 278 = .ok (.istore 17, 2) := by decide +kernel
theorem dL_why_280 : decode cL_why 280 = .ok (.iload 17, 2) := by decide +kernel
theorem dL_why_282 : decode cL_why 282 = .ok (.ifCond .eq 45, 3) := by decide +kernel
theorem dL_why_285 : decode cL_why 285 = .ok (.iload 6, 2) := by decide +kernel
theorem dL_why_287 : decode cL_why 287 = .ok (.ifCond .ne 40, 3) := by decide +kernel
theorem dL_why_290 : decode cL_why 290 = .ok (.iload 16, 2) := by decide +kernel
theorem dL_why_292 : decode cL_why 292 = .ok (.iload 12, 2) := by decide +kernel
theorem dL_why_294 : decode cL_why 294 = .ok (.iand, 1) := by decide +kernel
theorem dL_why_295 : decode cL_why 295 = .ok (.ifCond .eq 32, 3) := by decide +kernel
theorem dL_why_298 : decode cL_why 298 = .ok (.aload_n 0, 1) := by decide +kernel
theorem dL_why_299 : decode cL_why 299 = .ok (.aload_n 1, 1) := by decide +kernel
theorem dL_why_300 : decode cL_why 300 = .ok (.aload_n 3, 1) := by decide +kernel
theorem dL_why_301 : decode cL_why 301 = .ok (.aload 4, 2) := by decide +kernel
theorem dL_why_303 : decode cL_why 303 = .ok (.iconst 0, 1) := by decide +kernel
theorem dL_why_304 : decode cL_why 304 = .ok (.iaload, 1) := by decide +kernel
theorem dL_why_305 : decode cL_why 305 = .ok (.iconst 1, 1) := by decide +kernel
theorem dL_why_306 : decode cL_why 306 = .ok (.iload 7, 2) := by decide +kernel
theorem dL_why_308 : decode cL_why 308 = .ok (.ishl, 1) := by decide +kernel
theorem dL_why_309 : decode cL_why 309 = .ok (.ixor, 1) := by decide +kernel
theorem dL_why_310 : decode cL_why 310 = .ok (.invokestatic 65, 3) := by decide +kernel
theorem dL_why_313 : decode cL_why 313 = .ok (.aload_n 1, 1) := by decide +kernel
theorem dL_why_314 : decode cL_why 314 = .ok (.iload 10, 2) := by decide +kernel
theorem dL_why_316 : decode cL_why 316 = .ok (.iaload, 1) := by decide +kernel
theorem dL_why_317 : decode cL_why 317 = .ok (.iload 11, 2) := by decide +kernel
theorem dL_why_319 : decode cL_why 319 = .ok (.ishr, 1) := by decide +kernel
theorem dL_why_320 : decode cL_why 320 = .ok (.iconst 1, 1) := by decide +kernel
theorem dL_why_321 : decode cL_why 321 = .ok (.iand, 1) := by decide +kernel
theorem dL_why_322 : decode cL_why 322 = .ok (.ifCond .ne 5, 3) := by decide +kernel
theorem dL_why_325 : decode cL_why 325 = .ok (.iconst 3, 1) := by decide +kernel
theorem dL_why_326 : decode cL_why 326 = .ok (.ireturn, 1) := by decide +kernel
theorem dL_why_327 : decode cL_why 327 = .ok (.iload 17, 2) := by decide +kernel
theorem dL_why_329 : decode cL_why 329 = .ok (.ifCond .eq 62, 3) := by decide +kernel
theorem dL_why_332 : decode cL_why 332 = .ok (.iload 6, 2) := by decide +kernel
theorem dL_why_334 : decode cL_why 334 = .ok (.iconst 1, 1) := by decide +kernel
theorem dL_why_335 : decode cL_why 335 = .ok (.if_icmp .ne 56, 3) := by decide +kernel
theorem dL_why_338 : decode cL_why 338 = .ok (.aload_n 1, 1) := by decide +kernel
theorem dL_why_339 : decode cL_why 339 = .ok (.iload 10, 2) := by decide +kernel
theorem dL_why_341 : decode cL_why 341 = .ok (.iaload, 1) := by decide +kernel
theorem dL_why_342 : decode cL_why 342 = .ok (.iload 11, 2) := by decide +kernel
theorem dL_why_344 : decode cL_why 344 = .ok (.ishr, 1) := by decide +kernel
theorem dL_why_345 : decode cL_why 345 = .ok (.iconst 1, 1) := by decide +kernel
theorem dL_why_346 : decode cL_why 346 = .ok (.iand, 1) := by decide +kernel
theorem dL_why_347 : decode cL_why 347 = .ok (.ifCond .ne 44, 3) := by decide +kernel
theorem dL_why_350 : decode cL_why 350 = .ok (.aload_n 0, 1) := by decide +kernel
theorem dL_why_351 : decode cL_why 351 = .ok (.aload_n 1, 1) := by decide +kernel
theorem dL_why_352 : decode cL_why 352 = .ok (.aload_n 3, 1) := by decide +kernel
theorem dL_why_353 : decode cL_why 353 = .ok (.aload 4, 2) := by decide +kernel
theorem dL_why_355 : decode cL_why 355 = .ok (.iconst 0, 1) := by decide +kernel
theorem dL_why_356 : decode cL_why 356 = .ok (.iaload, 1) := by decide +kernel
theorem dL_why_357 : decode cL_why 357 = .ok (.iconst 1, 1) := by decide +kernel
theorem dL_why_358 : decode cL_why 358 = .ok (.iload 7, 2) := by decide +kernel
theorem dL_why_360 : decode cL_why 360 = .ok (.ishl, 1) := by decide +kernel
theorem dL_why_361 : decode cL_why 361 = .ok (.ior, 1) := by decide +kernel
theorem dL_why_362 : decode cL_why 362 = .ok (.invokestatic 65, 3) := by decide +kernel
theorem dL_why_365 : decode cL_why 365 = .ok (.aload_n 1, 1) := by decide +kernel
theorem dL_why_366 : decode cL_why 366 = .ok (.aload_n 3, 1) := by decide +kernel
theorem dL_why_367 : decode cL_why 367 = .ok (.aload 4, 2) := by decide +kernel
theorem dL_why_369 : decode cL_why 369 = .ok (.iconst 2, 1) := by decide +kernel
theorem dL_why_370 : decode cL_why 370 = .ok (.iaload, 1) := by decide +kernel
theorem dL_why_371 : decode cL_why 371 = .ok (.invokestatic 69, 3) := by decide +kernel
theorem dL_why_374 : decode cL_why 374 = .ok (.aload_n 1, 1) := by decide +kernel
theorem dL_why_375 : decode cL_why 375 = .ok (.aload_n 3, 1) := by decide +kernel
theorem dL_why_376 : decode cL_why 376 = .ok (.aload_n 3, 1) := by decide +kernel
theorem dL_why_377 : decode cL_why 377 = .ok (.iconst 3, 1) := by decide +kernel
theorem dL_why_378 : decode cL_why 378 = .ok (.iaload, 1) := by decide +kernel
theorem dL_why_379 : decode cL_why 379 = .ok (.invokestatic 69, 3) := by decide +kernel
theorem dL_why_382 : decode cL_why 382 = .ok (.iand, 1) := by decide +kernel
theorem dL_why_383 : decode cL_why 383 = .ok (.iload 12, 2) := by decide +kernel
theorem dL_why_385 : decode cL_why 385 = .ok (.iand, 1) := by decide +kernel
theorem dL_why_386 : decode cL_why 386 = .ok (.ifCond .eq 5, 3) := by decide +kernel
theorem dL_why_389 : decode cL_why 389 = .ok (.iconst 3, 1) := by decide +kernel
theorem dL_why_390 : decode cL_why 390 = .ok (.ireturn, 1) := by decide +kernel
theorem dL_why_391 : decode cL_why 391 = .ok (.aload 4, 2) := by decide +kernel
theorem dL_why_393 : decode cL_why 393 = .ok (.iload 6, 2) := by decide +kernel
theorem dL_why_395 : decode cL_why 395 = .ok (.iconst 2, 1) := by decide +kernel
theorem dL_why_396 : decode cL_why 396 = .ok (.idiv, 1) := by decide +kernel
theorem dL_why_397 : decode cL_why 397 = .ok (.iaload, 1) := by decide +kernel
theorem dL_why_398 : decode cL_why 398 = .ok (.istore 18, 2) := by decide +kernel
theorem dL_why_400 : decode cL_why 400 = .ok (.aload 4, 2) := by decide +kernel
theorem dL_why_402 : decode cL_why 402 = .ok (.iload 6, 2) := by decide +kernel
theorem dL_why_404 : decode cL_why 404 = .ok (.iconst 2, 1) := by decide +kernel
theorem dL_why_405 : decode cL_why 405 = .ok (.idiv, 1) := by decide +kernel
theorem dL_why_406 : decode cL_why 406 = .ok (.iload 18, 2) := by decide +kernel
theorem dL_why_408 : decode cL_why 408 = .ok (.iconst 1, 1) := by decide +kernel
theorem dL_why_409 : decode cL_why 409 = .ok (.iload 7, 2) := by decide +kernel
theorem dL_why_411 : decode cL_why 411 = .ok (.ishl, 1) := by decide +kernel
theorem dL_why_412 : decode cL_why 412 = .ok (.ixor, 1) := by decide +kernel
theorem dL_why_413 : decode cL_why 413 = .ok (.iastore, 1) := by decide +kernel
theorem dL_why_414 : decode cL_why 414 = .ok (.aload_n 0, 1) := by decide +kernel
theorem dL_why_415 : decode cL_why 415 = .ok (.aload_n 1, 1) := by decide +kernel
theorem dL_why_416 : decode cL_why 416 = .ok (.aload_n 3, 1) := by decide +kernel
theorem dL_why_417 : decode cL_why 417 = .ok (.aload 4, 2) := by decide +kernel
theorem dL_why_419 : decode cL_why 419 = .ok (.iconst 0, 1) := by decide +kernel
theorem dL_why_420 : decode cL_why 420 = .ok (.iaload, 1) := by decide +kernel
theorem dL_why_421 : decode cL_why 421 = .ok (.invokestatic 65, 3) := by decide +kernel
theorem dL_why_424 : decode cL_why 424 = .ok (.iload 13, 2) := by decide +kernel
theorem dL_why_426 : decode cL_why 426 = .ok (.aload_n 1, 1) := by decide +kernel
theorem dL_why_427 : decode cL_why 427 = .ok (.aload_n 3, 1) := by decide +kernel
theorem dL_why_428 : decode cL_why 428 = .ok (.aload 4, 2) := by decide +kernel
theorem dL_why_430 : decode cL_why 430 = .ok (.iconst 1, 1) := by decide +kernel
theorem dL_why_431 : decode cL_why 431 = .ok (.iaload, 1) := by decide +kernel
theorem dL_why_432 : decode cL_why 432 = .ok (.invokestatic 69, 3) := by decide +kernel
theorem dL_why_435 : decode cL_why 435 = .ok (.iconst (-1), 1) := by decide +kernel
theorem dL_why_436 : decode cL_why 436 = .ok (.ixor, 1) := by decide +kernel
theorem dL_why_437 : decode cL_why 437 = .ok (.iand, 1) := by decide +kernel
theorem dL_why_438 : decode cL_why 438 = .ok (.ifCond .ne 22, 3) := by decide +kernel
theorem dL_why_441 : decode cL_why 441 = .ok (.iload 13, 2) := by decide +kernel
theorem dL_why_443 : decode cL_why 443 = .ok (.aload_n 1, 1) := by decide +kernel
theorem dL_why_444 : decode cL_why 444 = .ok (.aload_n 3, 1) := by decide +kernel
theorem dL_why_445 : decode cL_why 445 = .ok (.aload 4, 2) := by decide +kernel
theorem dL_why_447 : decode cL_why 447 = .ok (.iconst 2, 1) := by decide +kernel
theorem dL_why_448 : decode cL_why 448 = .ok (.iaload, 1) := by decide +kernel
theorem dL_why_449 : decode cL_why 449 = .ok (.invokestatic 69, 3) := by decide +kernel
theorem dL_why_452 : decode cL_why 452 = .ok (.iand, 1) := by decide +kernel
theorem dL_why_453 : decode cL_why 453 = .ok (.ifCond .ne 7, 3) := by decide +kernel
theorem dL_why_456 : decode cL_why 456 = .ok (.iconst 1, 1) := by decide +kernel
theorem dL_why_457 : decode cL_why 457 = .ok (.goto 4, 3) := by decide +kernel
theorem dL_why_460 : decode cL_why 460 = .ok (.iconst 0, 1) := by decide +kernel
theorem dL_why_461 : decode cL_why 461 = .ok (.istore 19, 2) := by decide +kernel
theorem dL_why_463 : decode cL_why 463 = .ok (.aload 4, 2) := by decide +kernel
theorem dL_why_465 : decode cL_why 465 = .ok (.iload 6, 2) := by decide +kernel
theorem dL_why_467 : decode cL_why 467 = .ok (.iconst 2, 1) := by decide +kernel
theorem dL_why_468 : decode cL_why 468 = .ok (.idiv, 1) := by decide +kernel
theorem dL_why_469 : decode cL_why 469 = .ok (.iload 18, 2) := by decide +kernel
theorem dL_why_471 : decode cL_why 471 = .ok (.iastore, 1) := by decide +kernel
theorem dL_why_472 : decode cL_why 472 = .ok (.iload 19, 2) := by decide +kernel
theorem dL_why_474 : decode cL_why 474 = .ok (.ifCond .eq 7, 3) := by decide +kernel
theorem dL_why_477 : decode cL_why 477 = .ok (.iconst 0, 1) := by decide +kernel
theorem dL_why_478 : decode cL_why 478 = .ok (.goto 4, 3) := by decide +kernel
theorem dL_why_481 : decode cL_why 481 = .ok (.iconst 4, 1) := by decide +kernel
theorem dL_why_482 : decode cL_why 482 = .ok (.ireturn, 1) := by decide +kernel
set_option maxRecDepth 20000 in
theorem ggL_builds_L_addNode : GoodIn wsL_builds wsL_addNode := goodIn_ca (goodIn_r _ [4, 5, 6, 7, 8, 9, 10, 11, 12, 13, 14, 15, 16, 17, 18, 19, 20, 21, 22, 23, 24, 25, 61, 62, 63, 64, 65, 66, 67, 68, 69, 70, 71, 72, 73] (by decide +kernel) (by decide +kernel)) (goodIn_sub (fun _ h => List.mem_cons_of_mem _ (List.mem_append_left _ (List.mem_append_left _ (List.mem_append_right _ h)))) (by decide +kernel))
set_option maxRecDepth 20000 in
theorem gL_builds_L_addNode : GoodIn wsL_builds (va_wsS RL 76 yL_addNode wsL_addNode) := goodIn_app (goodIn_of _ (by decide +kernel)) ggL_builds_L_addNode
set_option maxRecDepth 20000 in
theorem ggL_builds_L_low : GoodIn wsL_builds wsL_low := goodIn_r _ [28] (by decide +kernel) (by decide +kernel)
set_option maxRecDepth 20000 in
theorem gL_builds_L_low : GoodIn wsL_builds (va_wsS RL 73 yL_low wsL_low) := goodIn_app (goodIn_of _ (by decide +kernel)) ggL_builds_L_low
set_option maxRecDepth 20000 in
theorem ggL_builds_L_addSwitch : GoodIn wsL_builds wsL_addSwitch := goodIn_ca (goodIn_ca (goodIn_ca (goodIn_r _ [31, 32, 33, 5, 34, 35, 36, 9, 37, 38, 39, 11, 12, 13, 40, 41, 42, 43, 44, 45, 46, 47, 48, 17, 49, 19, 50, 51, 52, 53, 54, 55, 56, 57, 58, 59, 60, 61, 62, 63, 64, 65, 66, 67, 68, 69, 70, 71, 72, 73] (by decide +kernel) (by decide +kernel)) (goodIn_sub (fun _ h => List.mem_cons_of_mem _ (List.mem_append_left _ (List.mem_append_right _ h))) (by decide +kernel))) (goodIn_sub (fun _ h => List.mem_cons_of_mem _ (List.mem_append_left _ (List.mem_append_left _ (List.mem_append_right _ h)))) (by decide +kernel))) (goodIn_sub (fun _ h => List.mem_cons_of_mem _ (List.mem_append_right _ h)) (by decide +kernel))
set_option maxRecDepth 20000 in
theorem gL_builds_L_addSwitch : GoodIn wsL_builds (va_wsS RL 79 yL_addSwitch wsL_addSwitch) := goodIn_app (goodIn_of _ (by decide +kernel)) ggL_builds_L_addSwitch
theorem dL_builds_0 : decode cL_builds 0 = .ok (.aload_n 3, 1) := by decide +kernel
theorem dL_builds_1 : decode cL_builds 1 = .ok (.iconst 0, 1) := by decide +kernel
theorem dL_builds_2 : decode cL_builds 2 = .ok (.iaload, 1) := by decide +kernel
theorem dL_builds_3 : decode cL_builds 3 = .ok (.iconst 2, 1) := by decide +kernel
theorem dL_builds_4 : decode cL_builds 4 = .ok (.if_icmp .lt 18, 3) := by decide +kernel
theorem dL_builds_7 : decode cL_builds 7 = .ok (.iload_n 1, 1) := by decide +kernel
theorem dL_builds_8 : decode cL_builds 8 = .ok (.bipush 6, 2) := by decide +kernel
theorem dL_builds_10 : decode cL_builds 10 = .ok (.iand, 1) := by decide +kernel
theorem dL_builds_11 : decode cL_builds 11 = .ok (.ifCond .ne 108, 3) := by decide +kernel
theorem dL_builds_14 : decode cL_builds 14 = .ok (.aload_n 3, 1) := by decide +kernel
theorem dL_builds_15 : decode cL_builds 15 = .ok (.iconst 0, 1) := by decide +kernel
theorem dL_builds_16 : decode cL_builds 16 = .ok (.iaload, 1) := by decide +kernel
theorem dL_builds_17 : decode cL_builds 17 = .ok (.bipush 16, 2) := by decide +kernel
theorem dL_builds_19 : decode cL_builds 19 = .ok (.if_icmp .ge 100, 3) := by decide +kernel
theorem dL_builds_22 : decode cL_builds 22 = .ok (.iload_n 1, 1) := by decide +kernel
theorem dL_builds_23 : decode cL_builds 23 = .ok (.bipush 24, 2) := by decide +kernel
theorem dL_builds_25 : decode cL_builds 25 = .ok (.iand, 1) := by decide +kernel
theorem dL_builds_26 : decode cL_builds 26 = .ok (.ifCond .ne 7, 3) := by decide +kernel
theorem dL_builds_29 : decode cL_builds 29 = .ok (.iconst 1, 1) := by decide +kernel
theorem dL_builds_30 : decode cL_builds 30 = .ok (.goto 4, 3) := by decide +kernel
theorem dL_builds_33 : decode cL_builds 33 = .ok (.iconst 0, 1) := by decide +kernel
theorem dL_builds_34 : decode cL_builds 34 = .ok (.istore 4, 2) := by decide +kernel
theorem dL_builds_36 : decode cL_builds 36 = .ok (.iload_n 1, 1) := by decide +kernel
theorem dL_builds_37 : decode cL_builds 37 = .ok (.bipush 96, 2) := by decide +kernel
theorem dL_builds_39 : decode cL_builds 39 = .ok (.iand, 1) := by decide +kernel
theorem dL_builds_40 : decode cL_builds 40 = .ok (.ifCond .ne 7, 3) := by decide +kernel
theorem dL_builds_43 : decode cL_builds 43 = .ok (.iconst 1, 1) := by decide +kernel
theorem dL_builds_44 : decode cL_builds 44 = .ok (.goto 4, 3) := by decide +kernel
theorem dL_builds_47 : decode cL_builds 47 = .ok (.iconst 0, 1) := by decide +kernel
theorem dL_builds_48 : decode cL_builds 48 = .ok (.istore 5, 2) := by decide +kernel
theorem dL_builds_50 : decode cL_builds 50 = .ok (.aload_n 3, 1) := by decide +kernel
theorem dL_builds_51 : decode cL_builds 51 = .ok (.iconst 2, 1) := by decide +kernel
theorem dL_builds_52 : decode cL_builds 52 = .ok (.dup2, 1) := by decide +kernel
theorem dL_builds_53 : decode cL_builds 53 = .ok (.iaload, 1) := by decide +kernel
theorem dL_builds_54 : decode cL_builds 54 = .ok (.iload 4, 2) := by decide +kernel
theorem dL_builds_56 : decode cL_builds 56 = .ok (.ifCond .eq 11, 3) := by decide +kernel
theorem dL_builds_59 : decode cL_builds 59 = .ok (.iconst 1, 1) := by decide +kernel
theorem dL_builds_60 : decode cL_builds 60 = .ok (.aload_n 3, 1) := by decide +kernel
theorem dL_builds_61 : decode cL_builds 61 = .ok (.iconst 0, 1) := by decide +kernel
theorem dL_builds_62 : decode cL_builds 62 = .ok (.iaload, 1) := by decide +kernel
theorem dL_builds_63 : decode cL_builds 63 = .ok (.ishl, 1) := by decide +kernel
theorem dL_builds_64 : decode cL_builds 64 = .ok (.goto 4, 3) := by decide +kernel
theorem dL_builds_67 : decode cL_builds 67 = .ok (.iconst 0, 1) := by decide +kernel
theorem dL_builds_68 : decode cL_builds 68 = .ok (.ior, 1) := by decide +kernel
theorem dL_builds_69 : decode cL_builds 69 = .ok (.iastore, 1) := by decide +kernel
theorem dL_builds_70 : decode cL_builds 70 = .ok (.aload_n 3, 1) := by decide +kernel
theorem dL_builds_71 : decode cL_builds 71 = .ok (.iconst 3, 1) := by decide +kernel
theorem dL_builds_72 : decode cL_builds 72 = .ok (.dup2, 1) := by decide +kernel
theorem dL_builds_73 : decode cL_builds 73 = .ok (.iaload, 1) := by decide +kernel
theorem dL_builds_74 : decode cL_builds 74 = .ok (.iload 5, 2) := by decide +kernel
theorem dL_builds_76 : decode cL_builds 76 = .ok (.ifCond .eq 11, 3) := by decide +kernel
theorem dL_builds_79 : decode cL_builds 79 = .ok (.iconst 1, 1) := by decide +kernel
theorem dL_builds_80 : decode cL_builds 80 = .ok (.aload_n 3, 1) := by decide +kernel
theorem dL_builds_81 : decode cL_builds 81 = .ok (.iconst 0, 1) := by decide +kernel
theorem dL_builds_82 : decode cL_builds 82 = .ok (.iaload, 1) := by decide +kernel
theorem dL_builds_83 : decode cL_builds 83 = .ok (.ishl, 1) := by decide +kernel
theorem dL_builds_84 : decode cL_builds 84 = .ok (.goto 4, 3) := by decide +kernel
theorem dL_builds_87 : decode cL_builds 87 = .ok (.iconst 0, 1) := by decide +kernel
theorem dL_builds_88 : decode cL_builds 88 = .ok (.ior, 1) := by decide +kernel
theorem dL_builds_89 : decode cL_builds 89 = .ok (.iastore, 1) := by decide +kernel
theorem dL_builds_90 : decode cL_builds 90 = .ok (.aload_n 3, 1) := by decide +kernel
theorem dL_builds_91 : decode cL_builds 91 = .ok (.iconst 0, 1) := by decide +kernel
theorem dL_builds_92 : decode cL_builds 92 = .ok (.dup2, 1) := by decide +kernel
theorem dL_builds_93 : decode cL_builds 93 = .ok (.iaload, 1) := by decide +kernel
theorem dL_builds_94 : decode cL_builds 94 = .ok (.iconst 1, 1) := by decide +kernel
theorem dL_builds_95 : decode cL_builds 95 = .ok (.iadd, 1) := by decide +kernel
theorem dL_builds_96 : decode cL_builds 96 = .ok (.iastore, 1) := by decide +kernel
theorem dL_builds_97 : decode cL_builds 97 = .ok (.aload_n 0, 1) := by decide +kernel
theorem dL_builds_98 : decode cL_builds 98 = .ok (.iload 4, 2) := by decide +kernel
theorem dL_builds_100 : decode cL_builds 100 = .ok (.iload 5, 2) := by decide +kernel
theorem dL_builds_102 : decode cL_builds 102 = .ok (.invokestatic 76, 3) := by decide +kernel
theorem dL_builds_105 : decode cL_builds 105 = .ok (.aload_n 3, 1) := by decide +kernel
theorem dL_builds_106 : decode cL_builds 106 = .ok (.iconst 0, 1) := by decide +kernel
theorem dL_builds_107 : decode cL_builds 107 = .ok (.iaload, 1) := by decide +kernel
theorem dL_builds_108 : decode cL_builds 108 = .ok (.iconst 1, 1) := by decide +kernel
theorem dL_builds_109 : decode cL_builds 109 = .ok (.isub, 1) := by decide +kernel
theorem dL_builds_110 : decode cL_builds 110 = .ok (.if_icmp .ne 7, 3) := by decide +kernel
theorem dL_builds_113 : decode cL_builds 113 = .ok (.iconst 1, 1) := by decide +kernel
theorem dL_builds_114 : decode cL_builds 114 = .ok (.goto 4, 3) := by decide +kernel
theorem dL_builds_117 : decode cL_builds 117 = .ok (.iconst 0, 1) := by decide +kernel
theorem dL_builds_118 : decode cL_builds 118 = .ok (.ireturn, 1) := by decide +kernel
theorem dL_builds_119 : decode cL_builds 119 = .ok (.iload_n 1, 1) := by decide +kernel
theorem dL_builds_120 : decode cL_builds 120 = .ok (.iconst 3, 1) := by decide +kernel
theorem dL_builds_121 : decode cL_builds 121 = .ok (.ishr, 1) := by decide +kernel
theorem dL_builds_122 : decode cL_builds 122 = .ok (.aload_n 3, 1) := by decide +kernel
theorem dL_builds_123 : decode cL_builds 123 = .ok (.iconst 0, 1) := by decide +kernel
theorem dL_builds_124 : decode cL_builds 124 = .ok (.iaload, 1) := by decide +kernel
theorem dL_builds_125 : decode cL_builds 125 = .ok (.invokestatic 73, 3) := by decide +kernel
theorem dL_builds_128 : decode cL_builds 128 = .ok (.istore 4, 2) := by decide +kernel
theorem dL_builds_130 : decode cL_builds 130 = .ok (.iload_n 1, 1) := by decide +kernel
theorem dL_builds_131 : decode cL_builds 131 = .ok (.bipush 7, 2) := by decide +kernel
theorem dL_builds_133 : decode cL_builds 133 = .ok (.ishr, 1) := by decide +kernel
theorem dL_builds_134 : decode cL_builds 134 = .ok (.aload_n 3, 1) := by decide +kernel
theorem dL_builds_135 : decode cL_builds 135 = .ok (.iconst 0, 1) := by decide +kernel
theorem dL_builds_136 : decode cL_builds 136 = .ok (.iaload, 1) := by decide +kernel
theorem dL_builds_137 : decode cL_builds 137 = .ok (.invokestatic 73, 3) := by decide +kernel
theorem dL_builds_140 : decode cL_builds 140 = .ok (.istore 5, 2) := by decide +kernel
theorem dL_builds_142 : decode cL_builds 142 = .ok (.iload_n 1, 1) := by decide +kernel
theorem dL_builds_143 : decode cL_builds 143 = .ok (.sipush 12288, 3) := by decide +kernel
theorem dL_builds_146 : decode cL_builds 146 = .ok (.iand, 1) := by decide +kernel
theorem dL_builds_147 : decode cL_builds 147 = .ok (.ifCond .le 7, 3) := by decide +kernel
theorem dL_builds_150 : decode cL_builds 150 = .ok (.iconst 1, 1) := by decide +kernel
theorem dL_builds_151 : decode cL_builds 151 = .ok (.goto 4, 3) := by decide +kernel
theorem dL_builds_154 : decode cL_builds 154 = .ok (.iconst 0, 1) := by decide +kernel
theorem dL_builds_155 : decode cL_builds 155 = .ok (.istore 6, 2) := by decide +kernel
theorem dL_builds_157 : decode cL_builds 157 = .ok (.aload_n 0, 1) := by decide +kernel
theorem dL_builds_158 : decode cL_builds 158 = .ok (.iload 4, 2) := by decide +kernel
theorem dL_builds_160 : decode cL_builds 160 = .ok (.aload_n 3, 1) := by decide +kernel
theorem dL_builds_161 : decode cL_builds 161 = .ok (.iconst 0, 1) := by decide +kernel
theorem dL_builds_162 : decode cL_builds 162 = .ok (.iaload, 1) := by decide +kernel
theorem dL_builds_163 : decode cL_builds 163 = .ok (.iload 6, 2) := by decide +kernel
theorem dL_builds_165 : decode cL_builds 165 = .ok (.invokestatic 79, 3) := by decide +kernel
theorem dL_builds_168 : decode cL_builds 168 = .ok (.bipush (-72), 2) := by decide +kernel
theorem dL_builds_170 : decode cL_builds 170 = .ok (.if_icmp .ne 17, 3) := by decide +kernel
theorem dL_builds_173 : decode cL_builds 173 = .ok (.aload_n 0, 1) := by decide +kernel
theorem dL_builds_174 : decode cL_builds 174 = .ok (.iconst (-1), 1) := by decide +kernel
theorem dL_builds_175 : decode cL_builds 175 = .ok (.iload 4, 2) := by decide +kernel
theorem dL_builds_177 : decode cL_builds 177 = .ok (.iload 6, 2) := by decide +kernel
theorem dL_builds_179 : decode cL_builds 179 = .ok (.invokestatic 79, 3) := by decide +kernel
theorem dL_builds_182 : decode cL_builds 182 = .ok (.bipush (-72), 2) := by decide +kernel
theorem dL_builds_184 : decode cL_builds 184 = .ok (.if_icmp .eq 5, 3) := by decide +kernel
theorem dL_builds_187 : decode cL_builds 187 = .ok (.iconst 0, 1) := by decide +kernel
theorem dL_builds_188 : decode cL_builds 188 = .ok (.ireturn, 1) := by decide +kernel
theorem dL_builds_189 : decode cL_builds 189 = .ok (.iload 4, 2) := by decide +kernel
theorem dL_builds_191 : decode cL_builds 191 = .ok (.iload 5, 2) := by decide +kernel
theorem dL_builds_193 : decode cL_builds 193 = .ok (.if_icmp .ne 24, 3) := by decide +kernel
theorem dL_builds_196 : decode cL_builds 196 = .ok (.aload_n 0, 1) := by decide +kernel
theorem dL_builds_197 : decode cL_builds 197 = .ok (.iload 4, 2) := by decide +kernel
theorem dL_builds_199 : decode cL_builds 199 = .ok (.iload 4, 2) := by decide +kernel
theorem dL_builds_201 : decode cL_builds 201 = .ok (.iload 6, 2) := by decide +kernel
theorem dL_builds_203 : decode cL_builds 203 = .ok (.invokestatic 79, 3) := by decide +kernel
theorem dL_builds_206 : decode cL_builds 206 = .ok (.bipush (-71), 2) := by decide +kernel
theorem dL_builds_208 : decode cL_builds 208 = .ok (.if_icmp .ne 7, 3) := by decide +kernel
theorem dL_builds_211 : decode cL_builds 211 = .ok (.iconst 1, 1) := by decide +kernel
theorem dL_builds_212 : decode cL_builds 212 = .ok (.goto 4, 3) := by decide +kernel
theorem dL_builds_215 : decode cL_builds 215 = .ok (.iconst 0, 1) := by decide +kernel
theorem dL_builds_216 : decode cL_builds 216 = .ok (.ireturn, 1) := by decide +kernel
theorem dL_builds_217 : decode cL_builds 217 = .ok (.aload_n 3, 1) := by decide +kernel
theorem dL_builds_218 : decode cL_builds 218 = .ok (.iconst 1, 1) := by decide +kernel
theorem dL_builds_219 : decode cL_builds 219 = .ok (.iaload, 1) := by decide +kernel
theorem dL_builds_220 : decode cL_builds 220 = .ok (.bipush 24, 2) := by decide +kernel
theorem dL_builds_222 : decode cL_builds 222 = .ok (.if_icmp .ne 24, 3) := by decide +kernel
theorem dL_builds_225 : decode cL_builds 225 = .ok (.aload_n 0, 1) := by decide +kernel
theorem dL_builds_226 : decode cL_builds 226 = .ok (.iload 4, 2) := by decide +kernel
theorem dL_builds_228 : decode cL_builds 228 = .ok (.iload 5, 2) := by decide +kernel
theorem dL_builds_230 : decode cL_builds 230 = .ok (.iload 6, 2) := by decide +kernel
theorem dL_builds_232 : decode cL_builds 232 = .ok (.invokestatic 79, 3) := by decide +kernel
theorem dL_builds_235 : decode cL_builds 235 = .ok (.bipush (-73), 2) := by decide +kernel
theorem dL_builds_237 : decode cL_builds 237 = .ok (.if_icmp .ne 7, 3) := by decide +kernel
theorem dL_builds_240 : decode cL_builds 240 = .ok (.iconst 1, 1) := by decide +kernel
theorem dL_builds_241 : decode cL_builds 241 = .ok (.goto 4, 3) := by decide +kernel
theorem dL_builds_244 : decode cL_builds 244 = .ok (.iconst 0, 1) := by decide +kernel
theorem dL_builds_245 : decode cL_builds 245 = .ok (.ireturn, 1) := by decide +kernel
theorem dL_builds_246 : decode cL_builds 246 = .ok (.aload_n 2, 1) := by decide +kernel
theorem dL_builds_247 : decode cL_builds 247 = .ok (.aload_n 3, 1) := by decide +kernel
theorem dL_builds_248 : decode cL_builds 248 = .ok (.iconst 1, 1) := by decide +kernel
theorem dL_builds_249 : decode cL_builds 249 = .ok (.iaload, 1) := by decide +kernel
theorem dL_builds_250 : decode cL_builds 250 = .ok (.iload 4, 2) := by decide +kernel
theorem dL_builds_252 : decode cL_builds 252 = .ok (.bipush 16, 2) := by decide +kernel
theorem dL_builds_254 : decode cL_builds 254 = .ok (.iload 5, 2) := by decide +kernel
theorem dL_builds_256 : decode cL_builds 256 = .ok (.imul, 1) := by decide +kernel
theorem dL_builds_257 : decode cL_builds 257 = .ok (.iadd, 1) := by decide +kernel
theorem dL_builds_258 : decode cL_builds 258 = .ok (.iload 6, 2) := by decide +kernel
theorem dL_builds_260 : decode cL_builds 260 = .ok (.ifCond .eq 9, 3) := by decide +kernel
theorem dL_builds_263 : decode cL_builds 263 = .ok (.sipush 256, 3) := by decide +kernel
theorem dL_builds_266 : decode cL_builds 266 = .ok (.goto 4, 3) := by decide +kernel
theorem dL_builds_269 : decode cL_builds 269 = .ok (.iconst 0, 1) := by decide +kernel
theorem dL_builds_270 : decode cL_builds 270 = .ok (.iadd, 1) := by decide +kernel
theorem dL_builds_271 : decode cL_builds 271 = .ok (.iastore, 1) := by decide +kernel
theorem dL_builds_272 : decode cL_builds 272 = .ok (.aload_n 3, 1) := by decide +kernel
theorem dL_builds_273 : decode cL_builds 273 = .ok (.iconst 1, 1) := by decide +kernel
theorem dL_builds_274 : decode cL_builds 274 = .ok (.dup2, 1) := by decide +kernel
theorem dL_builds_275 : decode cL_builds 275 = .ok (.iaload, 1) := by decide +kernel
theorem dL_builds_276 : decode cL_builds 276 = .ok (.iconst 1, 1) := by decide +kernel
theorem dL_builds_277 : decode cL_builds 277 = .ok (.iadd, 1) := by decide +kernel
theorem dL_builds_278 : decode cL_builds 278 = .ok (.iastore, 1) := by decide +kernel
theorem dL_builds_279 : decode cL_builds 279 = .ok (.aload_n 0, 1) := by decide +kernel
theorem dL_builds_280 : decode cL_builds 280 = .ok (.iload 4, 2) := by decide +kernel
theorem dL_builds_282 : decode cL_builds 282 = .ok (.iload 5, 2) := by decide +kernel
theorem dL_builds_284 : decode cL_builds 284 = .ok (.iload 6, 2) := by decide +kernel
theorem dL_builds_286 : decode cL_builds 286 = .ok (.invokestatic 79, 3) := by decide +kernel
theorem dL_builds_289 : decode cL_builds 289 = .ok (.aload_n 3, 1) := by decide +kernel
theorem dL_builds_290 : decode cL_builds 290 = .ok (.iconst 1, 1) := by decide +kernel
theorem dL_builds_291 : decode cL_builds 291 = .ok (.iaload, 1) := by decide +kernel
theorem dL_builds_292 : decode cL_builds 292 = .ok (.iconst 1, 1) := by decide +kernel
theorem dL_builds_293 : decode cL_builds 293 = .ok (.isub, 1) := by decide +kernel
theorem dL_builds_294 : decode cL_builds 294 = .ok (.if_icmp .ne 7, 3) := by decide +kernel
theorem dL_builds_297 : decode cL_builds 297 = .ok (.iconst 1, 1) := by decide +kernel
theorem dL_builds_298 : decode cL_builds 298 = .ok (.goto 4, 3) := by decide +kernel
theorem dL_builds_301 : decode cL_builds 301 = .ok (.iconst 0, 1) := by decide +kernel
theorem dL_builds_302 : decode cL_builds 302 = .ok (.ireturn, 1) := by decide +kernel
