/-! Rules of the methods, an instruction each, by program (wip/whole/rows.py). -/
theorem dX9_does_0 : decode cX9_does 0 = .ok (.iload_n 3, 1) := by decide +kernel
theorem dX9_does_1 : decode cX9_does 1 = .ok (.iconst 1, 1) := by decide +kernel
theorem dX9_does_2 : decode cX9_does 2 = .ok (.iadd, 1) := by decide +kernel
theorem dX9_does_3 : decode cX9_does 3 = .ok (.istore 5, 2) := by decide +kernel
theorem dX9_does_5 : decode cX9_does 5 = .ok (.iconst 0, 1) := by decide +kernel
theorem dX9_does_6 : decode cX9_does 6 = .ok (.istore 6, 2) := by decide +kernel
theorem dX9_does_8 : decode cX9_does 8 = .ok (.iload 6, 2) := by decide +kernel
theorem dX9_does_10 : decode cX9_does 10 = .ok (.bipush 64, 2) := by decide +kernel
theorem dX9_does_12 : decode cX9_does 12 = .ok (.if_icmp .ge 34, 3) := by decide +kernel
theorem dX9_does_15 : decode cX9_does 15 = .ok (.aload_n 0, 1) := by decide +kernel
theorem dX9_does_16 : decode cX9_does 16 = .ok (.getfield 126, 3) := by decide +kernel
theorem dX9_does_19 : decode cX9_does 19 = .ok (.bipush 64, 2) := by decide +kernel
theorem dX9_does_21 : decode cX9_does 21 = .ok (.iload 5, 2) := by decide +kernel
theorem dX9_does_23 : decode cX9_does 23 = .ok (.imul, 1) := by decide +kernel
theorem dX9_does_24 : decode cX9_does 24 = .ok (.iload 6, 2) := by decide +kernel
theorem dX9_does_26 : decode cX9_does 26 = .ok (.iadd, 1) := by decide +kernel
theorem dX9_does_27 : decode cX9_does 27 = .ok (.aload_n 0, 1) := by decide +kernel
theorem dX9_does_28 : decode cX9_does 28 = .ok (.getfield 126, 3) := by decide +kernel
theorem dX9_does_31 : decode cX9_does 31 = .ok (.bipush 64, 2) := by decide +kernel
theorem dX9_does_33 : decode cX9_does 33 = .ok (.iload_n 3, 1) := by decide +kernel
theorem dX9_does_34 : decode cX9_does 34 = .ok (.imul, 1) := by decide +kernel
theorem dX9_does_35 : decode cX9_does 35 = .ok (.iload 6, 2) := by decide +kernel
theorem dX9_does_37 : decode cX9_does 37 = .ok (.iadd, 1) := by decide +kernel
theorem dX9_does_38 : decode cX9_does 38 = .ok (.iaload, 1) := by decide +kernel
theorem dX9_does_39 : decode cX9_does 39 = .ok (.iastore, 1) := by decide +kernel
theorem dX9_does_40 : decode cX9_does 40 = .ok (.iinc 6 1, 3) := by decide +kernel
theorem dX9_does_43 : decode cX9_does 43 = .ok (.goto (-35), 3) := by decide +kernel
theorem dX9_does_46 : decode cX9_does 46 = .ok (.aload_n 0, 1) := by decide +kernel
theorem dX9_does_47 : decode cX9_does 47 = .ok (.getfield 129, 3) := by decide +kernel
theorem dX9_does_50 : decode cX9_does 50 = .ok (.iload 5, 2) := by decide +kernel
theorem dX9_does_52 : decode cX9_does 52 = .ok (.aload_n 0, 1) := by decide +kernel
theorem dX9_does_53 : decode cX9_does 53 = .ok (.getfield 129, 3) := by decide +kernel
theorem dX9_does_56 : decode cX9_does 56 = .ok (.iload_n 3, 1) := by decide +kernel
theorem dX9_does_57 : decode cX9_does 57 = .ok (.iaload, 1) := by decide +kernel
theorem dX9_does_58 : decode cX9_does 58 = .ok (.iastore, 1) := by decide +kernel
theorem dX9_does_59 : decode cX9_does 59 = .ok (.aload_n 0, 1) := by decide +kernel
theorem dX9_does_60 : decode cX9_does 60 = .ok (.getfield 132, 3) := by decide +kernel
theorem dX9_does_63 : decode cX9_does 63 = .ok (.iload 5, 2) := by decide +kernel
theorem dX9_does_65 : decode cX9_does 65 = .ok (.aload_n 0, 1) := by decide +kernel
theorem dX9_does_66 : decode cX9_does 66 = .ok (.getfield 132, 3) := by decide +kernel
theorem dX9_does_69 : decode cX9_does 69 = .ok (.iload_n 3, 1) := by decide +kernel
theorem dX9_does_70 : decode cX9_does 70 = .ok (.iaload, 1) := by decide +kernel
theorem dX9_does_71 : decode cX9_does 71 = .ok (.iastore, 1) := by decide +kernel
theorem dX9_does_72 : decode cX9_does 72 = .ok (.aload_n 0, 1) := by decide +kernel
theorem dX9_does_73 : decode cX9_does 73 = .ok (.getfield 135, 3) := by decide +kernel
theorem dX9_does_76 : decode cX9_does 76 = .ok (.iload 5, 2) := by decide +kernel
theorem dX9_does_78 : decode cX9_does 78 = .ok (.aload_n 0, 1) := by decide +kernel
theorem dX9_does_79 : decode cX9_does 79 = .ok (.getfield 135, 3) := by decide +kernel
theorem dX9_does_82 : decode cX9_does 82 = .ok (.iload_n 3, 1) := by decide +kernel
theorem dX9_does_83 : decode cX9_does 83 = .ok (.iaload, 1) := by decide +kernel
theorem dX9_does_84 : decode cX9_does 84 = .ok (.iastore, 1) := by decide +kernel
theorem dX9_does_85 : decode cX9_does 85 = .ok (.aload_n 0, 1) := by decide +kernel
theorem dX9_does_86 : decode cX9_does 86 = .ok (.getfield 138, 3) := by decide +kernel
theorem dX9_does_89 : decode cX9_does 89 = .ok (.iload 5, 2) := by decide +kernel
theorem dX9_does_91 : decode cX9_does 91 = .ok (.aload_n 0, 1) := by decide +kernel
theorem dX9_does_92 : decode cX9_does 92 = .ok (.getfield 138, 3) := by decide +kernel
theorem dX9_does_95 : decode cX9_does 95 = .ok (.iload_n 3, 1) := by decide +kernel
theorem dX9_does_96 : decode cX9_does 96 = .ok (.iaload, 1) := by decide +kernel
theorem dX9_does_97 : decode cX9_does 97 = .ok (.iastore, 1) := by decide +kernel
theorem dX9_does_98 : decode cX9_does 98 = .ok (.aload_n 0, 1) := by decide +kernel
theorem dX9_does_99 : decode cX9_does 99 = .ok (.getfield 141, 3) := by decide +kernel
theorem dX9_does_102 : decode cX9_does 102 = .ok (.iload 5, 2) := by decide +kernel
theorem dX9_does_104 : decode cX9_does 104 = .ok (.aload_n 0, 1) := by decide +kernel
theorem dX9_does_105 : decode cX9_does 105 = .ok (.getfield 141, 3) := by decide +kernel
theorem dX9_does_108 : decode cX9_does 108 = .ok (.iload_n 3, 1) := by decide +kernel
theorem dX9_does_109 : decode cX9_does 109 = .ok (.iaload, 1) := by decide +kernel
theorem dX9_does_110 : decode cX9_does 110 = .ok (.iastore, 1) := by decide +kernel
theorem dX9_does_111 : decode cX9_does 111 = .ok (.aload_n 0, 1) := by decide +kernel
theorem dX9_does_112 : decode cX9_does 112 = .ok (.getfield 17, 3) := by decide +kernel
theorem dX9_does_115 : decode cX9_does 115 = .ok (.iload_n 2, 1) := by decide +kernel
theorem dX9_does_116 : decode cX9_does 116 = .ok (.iaload, 1) := by decide +kernel
theorem dX9_does_117 : decode cX9_does 117 = .ok (.aload_n 0, 1) := by decide +kernel
theorem dX9_does_118 : decode cX9_does 118 = .ok (.getfield 129, 3) := by decide +kernel
theorem dX9_does_121 : decode cX9_does 121 = .ok (.iload_n 3, 1) := by decide +kernel
theorem dX9_does_122 : decode cX9_does 122 = .ok (.iaload, 1) := by decide +kernel
theorem dX9_does_123 : decode cX9_does 123 = .ok (.isub, 1) := by decide +kernel
theorem dX9_does_124 : decode cX9_does 124 = .ok (.istore 6, 2) := by decide +kernel
theorem dX9_does_126 : decode cX9_does 126 = .ok (.aload_n 0, 1) := by decide +kernel
theorem dX9_does_127 : decode cX9_does 127 = .ok (.getfield 20, 3) := by decide +kernel
theorem dX9_does_130 : decode cX9_does 130 = .ok (.iload_n 2, 1) := by decide +kernel
theorem dX9_does_131 : decode cX9_does 131 = .ok (.iaload, 1) := by decide +kernel
theorem dX9_does_132 : decode cX9_does 132 = .ok (.istore 7, 2) := by decide +kernel
theorem dX9_does_134 : decode cX9_does 134 = .ok (.iload 4, 2) := by decide +kernel
theorem dX9_does_136 : decode cX9_does 136 = .ok (.iconst 4, 1) := by decide +kernel
theorem dX9_does_137 : decode cX9_does 137 = .ok (.if_icmp .ge 119, 3) := by decide +kernel
theorem dX9_does_140 : decode cX9_does 140 = .ok (.aload_n 0, 1) := by decide +kernel
theorem dX9_does_141 : decode cX9_does 141 = .ok (.aload_n 0, 1) := by decide +kernel
theorem dX9_does_142 : decode cX9_does 142 = .ok (.getfield 132, 3) := by decide +kernel
theorem dX9_does_145 : decode cX9_does 145 = .ok (.iload_n 3, 1) := by decide +kernel
theorem dX9_does_146 : decode cX9_does 146 = .ok (.iaload, 1) := by decide +kernel
theorem dX9_does_147 : decode cX9_does 147 = .ok (.iload 7, 2) := by decide +kernel
theorem dX9_does_149 : decode cX9_does 149 = .ok (.iload_n 1, 1) := by decide +kernel
theorem dX9_does_150 : decode cX9_does 150 = .ok (.invokevirtual 242, 3) := by decide +kernel
theorem dX9_does_153 : decode cX9_does 153 = .ok (.istore 8, 2) := by decide +kernel
theorem dX9_does_155 : decode cX9_does 155 = .ok (.iconst 1, 1) := by decide +kernel
theorem dX9_does_156 : decode cX9_does 156 = .ok (.iload 4, 2) := by decide +kernel
theorem dX9_does_158 : decode cX9_does 158 = .ok (.ishl, 1) := by decide +kernel
theorem dX9_does_159 : decode cX9_does 159 = .ok (.istore 9, 2) := by decide +kernel
theorem dX9_does_161 : decode cX9_does 161 = .ok (.iconst 0, 1) := by decide +kernel
theorem dX9_does_162 : decode cX9_does 162 = .ok (.istore 10, 2) := by decide +kernel
theorem dX9_does_164 : decode cX9_does 164 = .ok (.iload 10, 2) := by decide +kernel
theorem dX9_does_166 : decode cX9_does 166 = .ok (.iload 9, 2) := by decide +kernel
theorem dX9_does_168 : decode cX9_does 168 = .ok (.if_icmp .ge 72, 3) := by decide +kernel
theorem dX9_does_171 : decode cX9_does 171 = .ok (.iload 9, 2) := by decide +kernel
theorem dX9_does_173 : decode cX9_does 173 = .ok (.iload 8, 2) := by decide +kernel
theorem dX9_does_175 : decode cX9_does 175 = .ok (.imul, 1) := by decide +kernel
theorem dX9_does_176 : decode cX9_does 176 = .ok (.iload 6, 2) := by decide +kernel
theorem dX9_does_178 : decode cX9_does 178 = .ok (.if_icmp .gt 62, 3) := by decide +kernel
theorem dX9_does_181 : decode cX9_does 181 = .ok (.aload_n 0, 1) := by decide +kernel
theorem dX9_does_182 : decode cX9_does 182 = .ok (.iload 5, 2) := by decide +kernel
theorem dX9_does_184 : decode cX9_does 184 = .ok (.iload_n 2, 1) := by decide +kernel
theorem dX9_does_185 : decode cX9_does 185 = .ok (.aload_n 0, 1) := by decide +kernel
theorem dX9_does_186 : decode cX9_does 186 = .ok (.getfield 132, 3) := by decide +kernel
theorem dX9_does_189 : decode cX9_does 189 = .ok (.iload 5, 2) := by decide +kernel
theorem dX9_does_191 : decode cX9_does 191 = .ok (.iaload, 1) := by decide +kernel
theorem dX9_does_192 : decode cX9_does 192 = .ok (.iload 7, 2) := by decide +kernel
theorem dX9_does_194 : decode cX9_does 194 = .ok (.iload 8, 2) := by decide +kernel
theorem dX9_does_196 : decode cX9_does 196 = .ok (.aload_n 0, 1) := by decide +kernel
theorem dX9_does_197 : decode cX9_does 197 = .ok (.getfield 141, 3) := by decide +kernel
theorem dX9_does_200 : decode cX9_does 200 = .ok (.iload 5, 2) := by decide +kernel
theorem dX9_does_202 : decode cX9_does 202 = .ok (.iaload, 1) := by decide +kernel
theorem dX9_does_203 : decode cX9_does 203 = .ok (.invokevirtual 388, 3) := by decide +kernel
theorem dX9_does_206 : decode cX9_does 206 = .ok (.aload_n 0, 1) := by decide +kernel
theorem dX9_does_207 : decode cX9_does 207 = .ok (.getfield 135, 3) := by decide +kernel
theorem dX9_does_210 : decode cX9_does 210 = .ok (.iload 5, 2) := by decide +kernel
theorem dX9_does_212 : decode cX9_does 212 = .ok (.aload_n 0, 1) := by decide +kernel
theorem dX9_does_213 : decode cX9_does 213 = .ok (.getfield 135, 3) := by decide +kernel
theorem dX9_does_216 : decode cX9_does 216 = .ok (.iload 5, 2) := by decide +kernel
theorem dX9_does_218 : decode cX9_does 218 = .ok (.iaload, 1) := by decide +kernel
theorem dX9_does_219 : decode cX9_does 219 = .ok (.aload_n 0, 1) := by decide +kernel
theorem dX9_does_220 : decode cX9_does 220 = .ok (.getfield 138, 3) := by decide +kernel
theorem dX9_does_223 : decode cX9_does 223 = .ok (.iload 5, 2) := by decide +kernel
theorem dX9_does_225 : decode cX9_does 225 = .ok (.iaload, 1) := by decide +kernel
theorem dX9_does_226 : decode cX9_does 226 = .ok (.iadd, 1) := by decide +kernel
theorem dX9_does_227 : decode cX9_does 227 = .ok (.bipush 8, 2) := by decide +kernel
theorem dX9_does_229 : decode cX9_does 229 = .ok (.iadd, 1) := by decide +kernel
theorem dX9_does_230 : decode cX9_does 230 = .ok (.bipush 8, 2) := by decide +kernel
theorem dX9_does_232 : decode cX9_does 232 = .ok (.irem, 1) := by decide +kernel
theorem dX9_does_233 : decode cX9_does 233 = .ok (.iastore, 1) := by decide +kernel
theorem dX9_does_234 : decode cX9_does 234 = .ok (.iinc 10 1, 3) := by decide +kernel
theorem dX9_does_237 : decode cX9_does 237 = .ok (.goto (-73), 3) := by decide +kernel
theorem dX9_does_240 : decode cX9_does 240 = .ok (.iload 9, 2) := by decide +kernel
theorem dX9_does_242 : decode cX9_does 242 = .ok (.iload 8, 2) := by decide +kernel
theorem dX9_does_244 : decode cX9_does 244 = .ok (.imul, 1) := by decide +kernel
theorem dX9_does_245 : decode cX9_does 245 = .ok (.iload 6, 2) := by decide +kernel
theorem dX9_does_247 : decode cX9_does 247 = .ok (.if_icmp .gt 7, 3) := by decide +kernel
theorem dX9_does_250 : decode cX9_does 250 = .ok (.iconst 1, 1) := by decide +kernel
theorem dX9_does_251 : decode cX9_does 251 = .ok (.goto 4, 3) := by decide +kernel
theorem dX9_does_254 : decode cX9_does 254 = .ok (.iconst 0, 1) := by decide +kernel
theorem dX9_does_255 : decode cX9_does 255 = .ok (.ireturn, 1) := by decide +kernel
theorem dX9_does_256 : decode cX9_does 256 = .ok (.iload 4, 2) := by decide +kernel
theorem dX9_does_258 : decode cX9_does 258 = .ok (.tableswitch 321 4 9 #[38, 116, 165, 209, 226, 244], 38) := by decide +kernel
theorem dX9_does_296 : decode cX9_does 296 = .ok (.iconst 0, 1) := by decide +kernel
theorem dX9_does_297 : decode cX9_does 297 = .ok (.istore 8, 2) := by decide +kernel
theorem dX9_does_299 : decode cX9_does 299 = .ok (.iload 8, 2) := by decide +kernel
theorem dX9_does_301 : decode cX9_does 301 = .ok (.iconst 4, 1) := by decide +kernel
theorem dX9_does_302 : decode cX9_does 302 = .ok (.if_icmp .ge 59, 3) := by decide +kernel
theorem dX9_does_305 : decode cX9_does 305 = .ok (.iload 6, 2) := by decide +kernel
theorem dX9_does_307 : decode cX9_does 307 = .ok (.bipush 8, 2) := by decide +kernel
theorem dX9_does_309 : decode cX9_does 309 = .ok (.if_icmp .lt 52, 3) := by decide +kernel
theorem dX9_does_312 : decode cX9_does 312 = .ok (.aload_n 0, 1) := by decide +kernel
theorem dX9_does_313 : decode cX9_does 313 = .ok (.iload 5, 2) := by decide +kernel
theorem dX9_does_315 : decode cX9_does 315 = .ok (.iload_n 2, 1) := by decide +kernel
theorem dX9_does_316 : decode cX9_does 316 = .ok (.aload_n 0, 1) := by decide +kernel
theorem dX9_does_317 : decode cX9_does 317 = .ok (.getfield 132, 3) := by decide +kernel
theorem dX9_does_320 : decode cX9_does 320 = .ok (.iload 5, 2) := by decide +kernel
theorem dX9_does_322 : decode cX9_does 322 = .ok (.iaload, 1) := by decide +kernel
theorem dX9_does_323 : decode cX9_does 323 = .ok (.iload 7, 2) := by decide +kernel
theorem dX9_does_325 : decode cX9_does 325 = .ok (.iconst 2, 1) := by decide +kernel
theorem dX9_does_326 : decode cX9_does 326 = .ok (.iload 8, 2) := by decide +kernel
theorem dX9_does_328 : decode cX9_does 328 = .ok (.iconst 2, 1) := by decide +kernel
theorem dX9_does_329 : decode cX9_does 329 = .ok (.irem, 1) := by decide +kernel
theorem dX9_does_330 : decode cX9_does 330 = .ok (.ifCond .ne 15, 3) := by decide +kernel
theorem dX9_does_333 : decode cX9_does 333 = .ok (.iconst 1, 1) := by decide +kernel
theorem dX9_does_334 : decode cX9_does 334 = .ok (.aload_n 0, 1) := by decide +kernel
theorem dX9_does_335 : decode cX9_does 335 = .ok (.getfield 141, 3) := by decide +kernel
theorem dX9_does_338 : decode cX9_does 338 = .ok (.iload 5, 2) := by decide +kernel
theorem dX9_does_340 : decode cX9_does 340 = .ok (.iaload, 1) := by decide +kernel
theorem dX9_does_341 : decode cX9_does 341 = .ok (.isub, 1) := by decide +kernel
theorem dX9_does_342 : decode cX9_does 342 = .ok (.goto 10, 3) := by decide +kernel
theorem dX9_does_345 : decode cX9_does 345 = .ok (.aload_n 0, 1) := by decide +kernel
theorem dX9_does_346 : decode cX9_does 346 = .ok (.getfield 141, 3) := by decide +kernel
theorem dX9_does_349 : decode cX9_does 349 = .ok (.iload 5, 2) := by decide +kernel
theorem dX9_does_351 : decode cX9_does 351 = .ok (.iaload, 1) := by decide +kernel
theorem dX9_does_352 : decode cX9_does 352 = .ok (.invokevirtual 388, 3) := by decide +kernel
theorem dX9_does_355 : decode cX9_does 355 = .ok (.iinc 8 1, 3) := by decide +kernel
theorem dX9_does_358 : decode cX9_does 358 = .ok (.goto (-59), 3) := by decide +kernel
theorem dX9_does_361 : decode cX9_does 361 = .ok (.iload 6, 2) := by decide +kernel
theorem dX9_does_363 : decode cX9_does 363 = .ok (.bipush 8, 2) := by decide +kernel
theorem dX9_does_365 : decode cX9_does 365 = .ok (.if_icmp .lt 7, 3) := by decide +kernel
theorem dX9_does_368 : decode cX9_does 368 = .ok (.iconst 1, 1) := by decide +kernel
theorem dX9_does_369 : decode cX9_does 369 = .ok (.goto 4, 3) := by decide +kernel
theorem dX9_does_372 : decode cX9_does 372 = .ok (.iconst 0, 1) := by decide +kernel
theorem dX9_does_373 : decode cX9_does 373 = .ok (.ireturn, 1) := by decide +kernel
theorem dX9_does_374 : decode cX9_does 374 = .ok (.aload_n 0, 1) := by decide +kernel
theorem dX9_does_375 : decode cX9_does 375 = .ok (.getfield 132, 3) := by decide +kernel
theorem dX9_does_378 : decode cX9_does 378 = .ok (.iload 5, 2) := by decide +kernel
theorem dX9_does_380 : decode cX9_does 380 = .ok (.dup2, 1) := by decide +kernel
theorem dX9_does_381 : decode cX9_does 381 = .ok (.iaload, 1) := by decide +kernel
theorem dX9_does_382 : decode cX9_does 382 = .ok (.iconst 1, 1) := by decide +kernel
theorem dX9_does_383 : decode cX9_does 383 = .ok (.iadd, 1) := by decide +kernel
theorem dX9_does_384 : decode cX9_does 384 = .ok (.iastore, 1) := by decide +kernel
theorem dX9_does_385 : decode cX9_does 385 = .ok (.aload_n 0, 1) := by decide +kernel
theorem dX9_does_386 : decode cX9_does 386 = .ok (.getfield 129, 3) := by decide +kernel
theorem dX9_does_389 : decode cX9_does 389 = .ok (.iload 5, 2) := by decide +kernel
theorem dX9_does_391 : decode cX9_does 391 = .ok (.dup2, 1) := by decide +kernel
theorem dX9_does_392 : decode cX9_does 392 = .ok (.iaload, 1) := by decide +kernel
theorem dX9_does_393 : decode cX9_does 393 = .ok (.iconst 1, 1) := by decide +kernel
theorem dX9_does_394 : decode cX9_does 394 = .ok (.iadd, 1) := by decide +kernel
theorem dX9_does_395 : decode cX9_does 395 = .ok (.iastore, 1) := by decide +kernel
theorem dX9_does_396 : decode cX9_does 396 = .ok (.aload_n 0, 1) := by decide +kernel
theorem dX9_does_397 : decode cX9_does 397 = .ok (.getfield 132, 3) := by decide +kernel
theorem dX9_does_400 : decode cX9_does 400 = .ok (.iload 5, 2) := by decide +kernel
theorem dX9_does_402 : decode cX9_does 402 = .ok (.iaload, 1) := by decide +kernel
theorem dX9_does_403 : decode cX9_does 403 = .ok (.iload 7, 2) := by decide +kernel
theorem dX9_does_405 : decode cX9_does 405 = .ok (.iadd, 1) := by decide +kernel
theorem dX9_does_406 : decode cX9_does 406 = .ok (.bipush 8, 2) := by decide +kernel
theorem dX9_does_408 : decode cX9_does 408 = .ok (.if_icmp .gt 13, 3) := by decide +kernel
theorem dX9_does_411 : decode cX9_does 411 = .ok (.iload 6, 2) := by decide +kernel
theorem dX9_does_413 : decode cX9_does 413 = .ok (.iconst 1, 1) := by decide +kernel
theorem dX9_does_414 : decode cX9_does 414 = .ok (.if_icmp .lt 7, 3) := by decide +kernel
theorem dX9_does_417 : decode cX9_does 417 = .ok (.iconst 1, 1) := by decide +kernel
theorem dX9_does_418 : decode cX9_does 418 = .ok (.goto 4, 3) := by decide +kernel
theorem dX9_does_421 : decode cX9_does 421 = .ok (.iconst 0, 1) := by decide +kernel
theorem dX9_does_422 : decode cX9_does 422 = .ok (.ireturn, 1) := by decide +kernel
theorem dX9_does_423 : decode cX9_does 423 = .ok (.aload_n 0, 1) := by decide +kernel
theorem dX9_does_424 : decode cX9_does 424 = .ok (.getfield 132, 3) := by decide +kernel
theorem dX9_does_427 : decode cX9_does 427 = .ok (.iload 5, 2) := by decide +kernel
theorem dX9_does_429 : decode cX9_does 429 = .ok (.dup2, 1) := by decide +kernel
theorem dX9_does_430 : decode cX9_does 430 = .ok (.iaload, 1) := by decide +kernel
theorem dX9_does_431 : decode cX9_does 431 = .ok (.iconst 1, 1) := by decide +kernel
theorem dX9_does_432 : decode cX9_does 432 = .ok (.isub, 1) := by decide +kernel
theorem dX9_does_433 : decode cX9_does 433 = .ok (.iastore, 1) := by decide +kernel
theorem dX9_does_434 : decode cX9_does 434 = .ok (.aload_n 0, 1) := by decide +kernel
theorem dX9_does_435 : decode cX9_does 435 = .ok (.getfield 129, 3) := by decide +kernel
theorem dX9_does_438 : decode cX9_does 438 = .ok (.iload 5, 2) := by decide +kernel
theorem dX9_does_440 : decode cX9_does 440 = .ok (.dup2, 1) := by decide +kernel
theorem dX9_does_441 : decode cX9_does 441 = .ok (.iaload, 1) := by decide +kernel
theorem dX9_does_442 : decode cX9_does 442 = .ok (.iconst 1, 1) := by decide +kernel
theorem dX9_does_443 : decode cX9_does 443 = .ok (.iadd, 1) := by decide +kernel
theorem dX9_does_444 : decode cX9_does 444 = .ok (.iastore, 1) := by decide +kernel
theorem dX9_does_445 : decode cX9_does 445 = .ok (.aload_n 0, 1) := by decide +kernel
theorem dX9_does_446 : decode cX9_does 446 = .ok (.getfield 132, 3) := by decide +kernel
theorem dX9_does_449 : decode cX9_does 449 = .ok (.iload 5, 2) := by decide +kernel
theorem dX9_does_451 : decode cX9_does 451 = .ok (.iaload, 1) := by decide +kernel
theorem dX9_does_452 : decode cX9_does 452 = .ok (.ifCond .lt 13, 3) := by decide +kernel
theorem dX9_does_455 : decode cX9_does 455 = .ok (.iload 6, 2) := by decide +kernel
theorem dX9_does_457 : decode cX9_does 457 = .ok (.iconst 1, 1) := by decide +kernel
theorem dX9_does_458 : decode cX9_does 458 = .ok (.if_icmp .lt 7, 3) := by decide +kernel
theorem dX9_does_461 : decode cX9_does 461 = .ok (.iconst 1, 1) := by decide +kernel
theorem dX9_does_462 : decode cX9_does 462 = .ok (.goto 4, 3) := by decide +kernel
theorem dX9_does_465 : decode cX9_does 465 = .ok (.iconst 0, 1) := by decide +kernel
theorem dX9_does_466 : decode cX9_does 466 = .ok (.ireturn, 1) := by decide +kernel
theorem dX9_does_467 : decode cX9_does 467 = .ok (.aload_n 0, 1) := by decide +kernel
theorem dX9_does_468 : decode cX9_does 468 = .ok (.getfield 138, 3) := by decide +kernel
theorem dX9_does_471 : decode cX9_does 471 = .ok (.iload 5, 2) := by decide +kernel
theorem dX9_does_473 : decode cX9_does 473 = .ok (.aload_n 0, 1) := by decide +kernel
theorem dX9_does_474 : decode cX9_does 474 = .ok (.getfield 138, 3) := by decide +kernel
theorem dX9_does_477 : decode cX9_does 477 = .ok (.iload 5, 2) := by decide +kernel
theorem dX9_does_479 : decode cX9_does 479 = .ok (.iaload, 1) := by decide +kernel
theorem dX9_does_480 : decode cX9_does 480 = .ok (.ineg, 1) := by decide +kernel
theorem dX9_does_481 : decode cX9_does 481 = .ok (.iastore, 1) := by decide +kernel
theorem dX9_does_482 : decode cX9_does 482 = .ok (.iconst 1, 1) := by decide +kernel
theorem dX9_does_483 : decode cX9_does 483 = .ok (.ireturn, 1) := by decide +kernel
theorem dX9_does_484 : decode cX9_does 484 = .ok (.aload_n 0, 1) := by decide +kernel
theorem dX9_does_485 : decode cX9_does 485 = .ok (.getfield 141, 3) := by decide +kernel
theorem dX9_does_488 : decode cX9_does 488 = .ok (.iload 5, 2) := by decide +kernel
theorem dX9_does_490 : decode cX9_does 490 = .ok (.iconst 1, 1) := by decide +kernel
theorem dX9_does_491 : decode cX9_does 491 = .ok (.aload_n 0, 1) := by decide +kernel
theorem dX9_does_492 : decode cX9_does 492 = .ok (.getfield 141, 3) := by decide +kernel
theorem dX9_does_495 : decode cX9_does 495 = .ok (.iload 5, 2) := by decide +kernel
theorem dX9_does_497 : decode cX9_does 497 = .ok (.iaload, 1) := by decide +kernel
theorem dX9_does_498 : decode cX9_does 498 = .ok (.isub, 1) := by decide +kernel
theorem dX9_does_499 : decode cX9_does 499 = .ok (.iastore, 1) := by decide +kernel
theorem dX9_does_500 : decode cX9_does 500 = .ok (.iconst 1, 1) := by decide +kernel
theorem dX9_does_501 : decode cX9_does 501 = .ok (.ireturn, 1) := by decide +kernel
theorem dX9_does_502 : decode cX9_does 502 = .ok (.iconst 2, 1) := by decide +kernel
theorem dX9_does_503 : decode cX9_does 503 = .ok (.aload_n 0, 1) := by decide +kernel
theorem dX9_does_504 : decode cX9_does 504 = .ok (.getfield 13, 3) := by decide +kernel
theorem dX9_does_507 : decode cX9_does 507 = .ok (.bipush 8, 2) := by decide +kernel
theorem dX9_does_509 : decode cX9_does 509 = .ok (.iload_n 1, 1) := by decide +kernel
theorem dX9_does_510 : decode cX9_does 510 = .ok (.imul, 1) := by decide +kernel
theorem dX9_does_511 : decode cX9_does 511 = .ok (.bipush 8, 2) := by decide +kernel
theorem dX9_does_513 : decode cX9_does 513 = .ok (.iadd, 1) := by decide +kernel
theorem dX9_does_514 : decode cX9_does 514 = .ok (.iconst 1, 1) := by decide +kernel
theorem dX9_does_515 : decode cX9_does 515 = .ok (.isub, 1) := by decide +kernel
theorem dX9_does_516 : decode cX9_does 516 = .ok (.iaload, 1) := by decide +kernel
theorem dX9_does_517 : decode cX9_does 517 = .ok (.imul, 1) := by decide +kernel
theorem dX9_does_518 : decode cX9_does 518 = .ok (.istore 8, 2) := by decide +kernel
theorem dX9_does_520 : decode cX9_does 520 = .ok (.aload_n 0, 1) := by decide +kernel
theorem dX9_does_521 : decode cX9_does 521 = .ok (.getfield 129, 3) := by decide +kernel
theorem dX9_does_524 : decode cX9_does 524 = .ok (.iload 5, 2) := by decide +kernel
theorem dX9_does_526 : decode cX9_does 526 = .ok (.dup2, 1) := by decide +kernel
theorem dX9_does_527 : decode cX9_does 527 = .ok (.iaload, 1) := by decide +kernel
theorem dX9_does_528 : decode cX9_does 528 = .ok (.iload 8, 2) := by decide +kernel
theorem dX9_does_530 : decode cX9_does 530 = .ok (.iadd, 1) := by decide +kernel
theorem dX9_does_531 : decode cX9_does 531 = .ok (.iastore, 1) := by decide +kernel
theorem dX9_does_532 : decode cX9_does 532 = .ok (.aload_n 0, 1) := by decide +kernel
theorem dX9_does_533 : decode cX9_does 533 = .ok (.getfield 135, 3) := by decide +kernel
theorem dX9_does_536 : decode cX9_does 536 = .ok (.iload 5, 2) := by decide +kernel
theorem dX9_does_538 : decode cX9_does 538 = .ok (.aload_n 0, 1) := by decide +kernel
theorem dX9_does_539 : decode cX9_does 539 = .ok (.getfield 135, 3) := by decide +kernel
theorem dX9_does_542 : decode cX9_does 542 = .ok (.iload 5, 2) := by decide +kernel
theorem dX9_does_544 : decode cX9_does 544 = .ok (.iaload, 1) := by decide +kernel
theorem dX9_does_545 : decode cX9_does 545 = .ok (.iconst 4, 1) := by decide +kernel
theorem dX9_does_546 : decode cX9_does 546 = .ok (.iadd, 1) := by decide +kernel
theorem dX9_does_547 : decode cX9_does 547 = .ok (.bipush 8, 2) := by decide +kernel
theorem dX9_does_549 : decode cX9_does 549 = .ok (.irem, 1) := by decide +kernel
theorem dX9_does_550 : decode cX9_does 550 = .ok (.iastore, 1) := by decide +kernel
theorem dX9_does_551 : decode cX9_does 551 = .ok (.aload_n 0, 1) := by decide +kernel
theorem dX9_does_552 : decode cX9_does 552 = .ok (.getfield 132, 3) := by decide +kernel
theorem dX9_does_555 : decode cX9_does 555 = .ok (.iload 5, 2) := by decide +kernel
theorem dX9_does_557 : decode cX9_does 557 = .ok (.iaload, 1) := by decide +kernel
theorem dX9_does_558 : decode cX9_does 558 = .ok (.iload 7, 2) := by decide +kernel
theorem dX9_does_560 : decode cX9_does 560 = .ok (.iadd, 1) := by decide +kernel
theorem dX9_does_561 : decode cX9_does 561 = .ok (.bipush 8, 2) := by decide +kernel
theorem dX9_does_563 : decode cX9_does 563 = .ok (.if_icmp .ne 14, 3) := by decide +kernel
theorem dX9_does_566 : decode cX9_does 566 = .ok (.iload 6, 2) := by decide +kernel
theorem dX9_does_568 : decode cX9_does 568 = .ok (.iload 8, 2) := by decide +kernel
theorem dX9_does_570 : decode cX9_does 570 = .ok (.if_icmp .lt 7, 3) := by decide +kernel
theorem dX9_does_573 : decode cX9_does 573 = .ok (.iconst 1, 1) := by decide +kernel
theorem dX9_does_574 : decode cX9_does 574 = .ok (.goto 4, 3) := by decide +kernel
theorem dX9_does_577 : decode cX9_does 577 = .ok (.iconst 0, 1) := by decide +kernel
theorem dX9_does_578 : decode cX9_does 578 = .ok (.ireturn, 1) := by decide +kernel
theorem dX9_does_579 : decode cX9_does 579 = .ok (.iload 6, 2) := by decide +kernel
theorem dX9_does_581 : decode cX9_does 581 = .ok (.bipush 9, 2) := by decide +kernel
theorem dX9_does_583 : decode cX9_does 583 = .ok (.if_icmp .ge 5, 3) := by decide +kernel
theorem dX9_does_586 : decode cX9_does 586 = .ok (.iconst 0, 1) := by decide +kernel
theorem dX9_does_587 : decode cX9_does 587 = .ok (.ireturn, 1) := by decide +kernel
theorem dX9_does_588 : decode cX9_does 588 = .ok (.bipush 9, 2) := by decide +kernel
theorem dX9_does_590 : decode cX9_does 590 = .ok (.istore 9, 2) := by decide +kernel
theorem dX9_does_592 : decode cX9_does 592 = .ok (.iconst 0, 1) := by decide +kernel
theorem dX9_does_593 : decode cX9_does 593 = .ok (.istore 10, 2) := by decide +kernel
theorem dX9_does_595 : decode cX9_does 595 = .ok (.iload 10, 2) := by decide +kernel
theorem dX9_does_597 : decode cX9_does 597 = .ok (.iconst 2, 1) := by decide +kernel
theorem dX9_does_598 : decode cX9_does 598 = .ok (.if_icmp .ge 71, 3) := by decide +kernel
theorem dX9_does_601 : decode cX9_does 601 = .ok (.iload 10, 2) := by decide +kernel
theorem dX9_does_603 : decode cX9_does 603 = .ok (.aload_n 0, 1) := by decide +kernel
theorem dX9_does_604 : decode cX9_does 604 = .ok (.getfield 132, 3) := by decide +kernel
theorem dX9_does_607 : decode cX9_does 607 = .ok (.iload 5, 2) := by decide +kernel
theorem dX9_does_609 : decode cX9_does 609 = .ok (.iaload, 1) := by decide +kernel
theorem dX9_does_610 : decode cX9_does 610 = .ok (.if_icmp .ge 59, 3) := by decide +kernel
theorem dX9_does_613 : decode cX9_does 613 = .ok (.iload 9, 2) := by decide +kernel
theorem dX9_does_615 : decode cX9_does 615 = .ok (.iconst 5, 1) := by decide +kernel
theorem dX9_does_616 : decode cX9_does 616 = .ok (.if_icmp .ge 8, 3) := by decide +kernel
theorem dX9_does_619 : decode cX9_does 619 = .ok (.iload 9, 2) := by decide +kernel
theorem dX9_does_621 : decode cX9_does 621 = .ok (.goto 4, 3) := by decide +kernel
theorem dX9_does_624 : decode cX9_does 624 = .ok (.iconst 5, 1) := by decide +kernel
theorem dX9_does_625 : decode cX9_does 625 = .ok (.istore 11, 2) := by decide +kernel
theorem dX9_does_627 : decode cX9_does 627 = .ok (.aload_n 0, 1) := by decide +kernel
theorem dX9_does_628 : decode cX9_does 628 = .ok (.iload 5, 2) := by decide +kernel
theorem dX9_does_630 : decode cX9_does 630 = .ok (.iload_n 2, 1) := by decide +kernel
theorem dX9_does_631 : decode cX9_does 631 = .ok (.aload_n 0, 1) := by decide +kernel
theorem dX9_does_632 : decode cX9_does 632 = .ok (.getfield 132, 3) := by decide +kernel
theorem dX9_does_635 : decode cX9_does 635 = .ok (.iload 5, 2) := by decide +kernel
theorem dX9_does_637 : decode cX9_does 637 = .ok (.iaload, 1) := by decide +kernel
theorem dX9_does_638 : decode cX9_does 638 = .ok (.iconst 1, 1) := by decide +kernel
theorem dX9_does_639 : decode cX9_does 639 = .ok (.isub, 1) := by decide +kernel
theorem dX9_does_640 : decode cX9_does 640 = .ok (.iload 10, 2) := by decide +kernel
theorem dX9_does_642 : decode cX9_does 642 = .ok (.isub, 1) := by decide +kernel
theorem dX9_does_643 : decode cX9_does 643 = .ok (.iconst 1, 1) := by decide +kernel
theorem dX9_does_644 : decode cX9_does 644 = .ok (.iload 11, 2) := by decide +kernel
theorem dX9_does_646 : decode cX9_does 646 = .ok (.aload_n 0, 1) := by decide +kernel
theorem dX9_does_647 : decode cX9_does 647 = .ok (.getfield 141, 3) := by decide +kernel
theorem dX9_does_650 : decode cX9_does 650 = .ok (.iload 5, 2) := by decide +kernel
theorem dX9_does_652 : decode cX9_does 652 = .ok (.iaload, 1) := by decide +kernel
theorem dX9_does_653 : decode cX9_does 653 = .ok (.invokevirtual 388, 3) := by decide +kernel
theorem dX9_does_656 : decode cX9_does 656 = .ok (.iload 9, 2) := by decide +kernel
theorem dX9_does_658 : decode cX9_does 658 = .ok (.iload 11, 2) := by decide +kernel
theorem dX9_does_660 : decode cX9_does 660 = .ok (.isub, 1) := by decide +kernel
theorem dX9_does_661 : decode cX9_does 661 = .ok (.istore 9, 2) := by decide +kernel
theorem dX9_does_663 : decode cX9_does 663 = .ok (.iinc 10 1, 3) := by decide +kernel
theorem dX9_does_666 : decode cX9_does 666 = .ok (.goto (-71), 3) := by decide +kernel
theorem dX9_does_669 : decode cX9_does 669 = .ok (.aload_n 0, 1) := by decide +kernel
theorem dX9_does_670 : decode cX9_does 670 = .ok (.getfield 129, 3) := by decide +kernel
theorem dX9_does_673 : decode cX9_does 673 = .ok (.iload 5, 2) := by decide +kernel
theorem dX9_does_675 : decode cX9_does 675 = .ok (.dup2, 1) := by decide +kernel
theorem dX9_does_676 : decode cX9_does 676 = .ok (.iaload, 1) := by decide +kernel
theorem dX9_does_677 : decode cX9_does 677 = .ok (.iload 9, 2) := by decide +kernel
theorem dX9_does_679 : decode cX9_does 679 = .ok (.iadd, 1) := by decide +kernel
theorem dX9_does_680 : decode cX9_does 680 = .ok (.iastore, 1) := by decide +kernel
theorem dX9_does_681 : decode cX9_does 681 = .ok (.iconst 1, 1) := by decide +kernel
theorem dX9_does_682 : decode cX9_does 682 = .ok (.ireturn, 1) := by decide +kernel
theorem dX9_isLike_0 : decode cX9_isLike 0 = .ok (.iconst 0, 1) := by decide +kernel
theorem dX9_isLike_1 : decode cX9_isLike 1 = .ok (.istore_n 2, 1) := by decide +kernel
theorem dX9_isLike_2 : decode cX9_isLike 2 = .ok (.iload_n 2, 1) := by decide +kernel
theorem dX9_isLike_3 : decode cX9_isLike 3 = .ok (.bipush 64, 2) := by decide +kernel
theorem dX9_isLike_5 : decode cX9_isLike 5 = .ok (.if_icmp .ge 45, 3) := by decide +kernel
theorem dX9_isLike_8 : decode cX9_isLike 8 = .ok (.aload_n 0, 1) := by decide +kernel
theorem dX9_isLike_9 : decode cX9_isLike 9 = .ok (.getfield 150, 3) := by decide +kernel
theorem dX9_isLike_12 : decode cX9_isLike 12 = .ok (.iload_n 2, 1) := by decide +kernel
theorem dX9_isLike_13 : decode cX9_isLike 13 = .ok (.iaload, 1) := by decide +kernel
theorem dX9_isLike_14 : decode cX9_isLike 14 = .ok (.bipush 63, 2) := by decide +kernel
theorem dX9_isLike_16 : decode cX9_isLike 16 = .ok (.if_icmp .eq 28, 3) := by decide +kernel
theorem dX9_isLike_19 : decode cX9_isLike 19 = .ok (.aload_n 0, 1) := by decide +kernel
theorem dX9_isLike_20 : decode cX9_isLike 20 = .ok (.getfield 150, 3) := by decide +kernel
theorem dX9_isLike_23 : decode cX9_isLike 23 = .ok (.iload_n 2, 1) := by decide +kernel
theorem dX9_isLike_24 : decode cX9_isLike 24 = .ok (.iaload, 1) := by decide +kernel
theorem dX9_isLike_25 : decode cX9_isLike 25 = .ok (.bipush 48, 2) := by decide +kernel
theorem dX9_isLike_27 : decode cX9_isLike 27 = .ok (.isub, 1) := by decide +kernel
theorem dX9_isLike_28 : decode cX9_isLike 28 = .ok (.aload_n 0, 1) := by decide +kernel
theorem dX9_isLike_29 : decode cX9_isLike 29 = .ok (.getfield 126, 3) := by decide +kernel
theorem dX9_isLike_32 : decode cX9_isLike 32 = .ok (.bipush 64, 2) := by decide +kernel
theorem dX9_isLike_34 : decode cX9_isLike 34 = .ok (.iload_n 1, 1) := by decide +kernel
theorem dX9_isLike_35 : decode cX9_isLike 35 = .ok (.imul, 1) := by decide +kernel
theorem dX9_isLike_36 : decode cX9_isLike 36 = .ok (.iload_n 2, 1) := by decide +kernel
theorem dX9_isLike_37 : decode cX9_isLike 37 = .ok (.iadd, 1) := by decide +kernel
theorem dX9_isLike_38 : decode cX9_isLike 38 = .ok (.iaload, 1) := by decide +kernel
theorem dX9_isLike_39 : decode cX9_isLike 39 = .ok (.if_icmp .eq 5, 3) := by decide +kernel
theorem dX9_isLike_42 : decode cX9_isLike 42 = .ok (.iconst 0, 1) := by decide +kernel
theorem dX9_isLike_43 : decode cX9_isLike 43 = .ok (.ireturn, 1) := by decide +kernel
theorem dX9_isLike_44 : decode cX9_isLike 44 = .ok (.iinc 2 1, 3) := by decide +kernel
theorem dX9_isLike_47 : decode cX9_isLike 47 = .ok (.goto (-45), 3) := by decide +kernel
theorem dX9_isLike_50 : decode cX9_isLike 50 = .ok (.iconst 1, 1) := by decide +kernel
theorem dX9_isLike_51 : decode cX9_isLike 51 = .ok (.ireturn, 1) := by decide +kernel
theorem dX9_isPicture_0 : decode cX9_isPicture 0 = .ok (.iload_n 0, 1) := by decide +kernel
theorem dX9_isPicture_1 : decode cX9_isPicture 1 = .ok (.bipush 63, 2) := by decide +kernel
theorem dX9_isPicture_3 : decode cX9_isPicture 3 = .ok (.if_icmp .eq 14, 3) := by decide +kernel
theorem dX9_isPicture_6 : decode cX9_isPicture 6 = .ok (.iload_n 0, 1) := by decide +kernel
theorem dX9_isPicture_7 : decode cX9_isPicture 7 = .ok (.bipush 48, 2) := by decide +kernel
theorem dX9_isPicture_9 : decode cX9_isPicture 9 = .ok (.bipush 56, 2) := by decide +kernel
theorem dX9_isPicture_11 : decode cX9_isPicture 11 = .ok (.invokestatic 157, 3) := by decide +kernel
theorem dX9_isPicture_14 : decode cX9_isPicture 14 = .ok (.ifCond .eq 7, 3) := by decide +kernel
theorem dX9_isPicture_17 : decode cX9_isPicture 17 = .ok (.iconst 1, 1) := by decide +kernel
theorem dX9_isPicture_18 : decode cX9_isPicture 18 = .ok (.goto 4, 3) := by decide +kernel
theorem dX9_isPicture_21 : decode cX9_isPicture 21 = .ok (.iconst 0, 1) := by decide +kernel
theorem dX9_isPicture_22 : decode cX9_isPicture 22 = .ok (.ireturn, 1) := by decide +kernel
section
variable {d : Nat} {M : gM} {Z : Option Value → gM → Prop} {a0 a1 a2 a3 a4 a5 a6 a7 a8 a9 a10 a11 a12 : Option Value} {v s0 s1 s2 s3 s4 s5 s6 s7 s8 s9 s10 s11 : Value} {x y w : Int32} {o b u1 u2 : Nat}
/-! 191: X9_does (IIII)Z -/
theorem gd191 {pc : Nat} {r : Except _ _} (h : decode cX9_does pc = r) : decode (gby 191) pc = r := h
theorem z191_0 : Run d 191 0 [a0, a1, a2, some (.int x), a4, a5, a6, a7, a8, a9, a10, a11] [] M 0 0 Z ↔ Run d 191 1 [a0, a1, a2, some (.int x), a4, a5, a6, a7, a8, a9, a10, a11] [.int x] M 0 0 Z := R_local (gd191 dX9_does_0) rfl rfl rfl
theorem z191_1 : Run d 191 1 [a0, a1, a2, a3, a4, a5, a6, a7, a8, a9, a10, a11] [s0] M 0 0 Z ↔ Run d 191 2 [a0, a1, a2, a3, a4, a5, a6, a7, a8, a9, a10, a11] [.int 1, s0] M 0 0 Z := R_iconst (gd191 dX9_does_1) (by decide)
theorem z191_2 : Run d 191 2 [a0, a1, a2, a3, a4, a5, a6, a7, a8, a9, a10, a11] [.int y, .int x] M 0 0 Z ↔ Run d 191 3 [a0, a1, a2, a3, a4, a5, a6, a7, a8, a9, a10, a11] [.int (x + y)] M 0 0 Z := R_arith (gd191 dX9_does_2) rfl
theorem z191_3 : Run d 191 3 [a0, a1, a2, a3, a4, a5, a6, a7, a8, a9, a10, a11] [.int x] M 0 0 Z ↔ Run d 191 5 [a0, a1, a2, a3, a4, some (.int x), a6, a7, a8, a9, a10, a11] [] M 0 0 Z := R_local (gd191 dX9_does_3) rfl rfl rfl
theorem z191_5 : Run d 191 5 [a0, a1, a2, a3, a4, a5, a6, a7, a8, a9, a10, a11] [] M 0 0 Z ↔ Run d 191 6 [a0, a1, a2, a3, a4, a5, a6, a7, a8, a9, a10, a11] [.int 0] M 0 0 Z := R_iconst (gd191 dX9_does_5) (by decide)
theorem z191_6 : Run d 191 6 [a0, a1, a2, a3, a4, a5, a6, a7, a8, a9, a10, a11] [.int x] M 0 0 Z ↔ Run d 191 8 [a0, a1, a2, a3, a4, a5, some (.int x), a7, a8, a9, a10, a11] [] M 0 0 Z := R_local (gd191 dX9_does_6) rfl rfl rfl
theorem z191_8 : Run d 191 8 [a0, a1, a2, a3, a4, a5, some (.int x), a7, a8, a9, a10, a11] [] M 0 0 Z ↔ Run d 191 10 [a0, a1, a2, a3, a4, a5, some (.int x), a7, a8, a9, a10, a11] [.int x] M 0 0 Z := R_local (gd191 dX9_does_8) rfl rfl rfl
theorem z191_10 : Run d 191 10 [a0, a1, a2, a3, a4, a5, a6, a7, a8, a9, a10, a11] [s0] M 0 0 Z ↔ Run d 191 12 [a0, a1, a2, a3, a4, a5, a6, a7, a8, a9, a10, a11] [.int 64, s0] M 0 0 Z := R_bipush (gd191 dX9_does_10) (by decide)
theorem z191_12 : Run d 191 12 [a0, a1, a2, a3, a4, a5, a6, a7, a8, a9, a10, a11] [.int y, .int x] M 0 0 Z ↔ (y ≤ x → Run d 191 46 [a0, a1, a2, a3, a4, a5, a6, a7, a8, a9, a10, a11] [] M 0 0 Z) ∧ (¬ (y ≤ x) → Run d 191 15 [a0, a1, a2, a3, a4, a5, a6, a7, a8, a9, a10, a11] [] M 0 0 Z) := R_icmp (gd191 dX9_does_12) (show gTgt 12 34 = some 46 by decide) gIf_ge
theorem z191_15 : Run d 191 15 [some (.ref o), a1, a2, a3, a4, a5, a6, a7, a8, a9, a10, a11] [] M 0 0 Z ↔ Run d 191 16 [some (.ref o), a1, a2, a3, a4, a5, a6, a7, a8, a9, a10, a11] [.ref o] M 0 0 Z := R_local (gd191 dX9_does_15) rfl rfl rfl
theorem z191_16 : Run d 191 16 [a0, a1, a2, a3, a4, a5, a6, a7, a8, a9, a10, a11] [.ref o] M 0 0 Z ↔ gObj M o 9 ∧ Run d 191 19 [a0, a1, a2, a3, a4, a5, a6, a7, a8, a9, a10, a11] [va_rf (M.2.1 o 62)] M 0 0 Z := R_getR (gd191 dX9_does_16) rfl gf_9_126 rfl
theorem z191_19 : Run d 191 19 [a0, a1, a2, a3, a4, a5, a6, a7, a8, a9, a10, a11] [s0] M 0 0 Z ↔ Run d 191 21 [a0, a1, a2, a3, a4, a5, a6, a7, a8, a9, a10, a11] [.int 64, s0] M 0 0 Z := R_bipush (gd191 dX9_does_19) (by decide)
theorem z191_21 : Run d 191 21 [a0, a1, a2, a3, a4, some (.int x), a6, a7, a8, a9, a10, a11] [s1, s0] M 0 0 Z ↔ Run d 191 23 [a0, a1, a2, a3, a4, some (.int x), a6, a7, a8, a9, a10, a11] [.int x, s1, s0] M 0 0 Z := R_local (gd191 dX9_does_21) rfl rfl rfl
theorem z191_23 : Run d 191 23 [a0, a1, a2, a3, a4, a5, a6, a7, a8, a9, a10, a11] [.int y, .int x, s0] M 0 0 Z ↔ Run d 191 24 [a0, a1, a2, a3, a4, a5, a6, a7, a8, a9, a10, a11] [.int (x * y), s0] M 0 0 Z := R_arith (gd191 dX9_does_23) rfl
theorem z191_24 : Run d 191 24 [a0, a1, a2, a3, a4, a5, some (.int x), a7, a8, a9, a10, a11] [s1, s0] M 0 0 Z ↔ Run d 191 26 [a0, a1, a2, a3, a4, a5, some (.int x), a7, a8, a9, a10, a11] [.int x, s1, s0] M 0 0 Z := R_local (gd191 dX9_does_24) rfl rfl rfl
theorem z191_26 : Run d 191 26 [a0, a1, a2, a3, a4, a5, a6, a7, a8, a9, a10, a11] [.int y, .int x, s0] M 0 0 Z ↔ Run d 191 27 [a0, a1, a2, a3, a4, a5, a6, a7, a8, a9, a10, a11] [.int (x + y), s0] M 0 0 Z := R_arith (gd191 dX9_does_26) rfl
theorem z191_27 : Run d 191 27 [some (.ref o), a1, a2, a3, a4, a5, a6, a7, a8, a9, a10, a11] [s1, s0] M 0 0 Z ↔ Run d 191 28 [some (.ref o), a1, a2, a3, a4, a5, a6, a7, a8, a9, a10, a11] [.ref o, s1, s0] M 0 0 Z := R_local (gd191 dX9_does_27) rfl rfl rfl
theorem z191_28 : Run d 191 28 [a0, a1, a2, a3, a4, a5, a6, a7, a8, a9, a10, a11] [.ref o, s1, s0] M 0 0 Z ↔ gObj M o 9 ∧ Run d 191 31 [a0, a1, a2, a3, a4, a5, a6, a7, a8, a9, a10, a11] [va_rf (M.2.1 o 62), s1, s0] M 0 0 Z := R_getR (gd191 dX9_does_28) rfl gf_9_126 rfl
theorem z191_31 : Run d 191 31 [a0, a1, a2, a3, a4, a5, a6, a7, a8, a9, a10, a11] [s2, s1, s0] M 0 0 Z ↔ Run d 191 33 [a0, a1, a2, a3, a4, a5, a6, a7, a8, a9, a10, a11] [.int 64, s2, s1, s0] M 0 0 Z := R_bipush (gd191 dX9_does_31) (by decide)
theorem z191_33 : Run d 191 33 [a0, a1, a2, some (.int x), a4, a5, a6, a7, a8, a9, a10, a11] [s3, s2, s1, s0] M 0 0 Z ↔ Run d 191 34 [a0, a1, a2, some (.int x), a4, a5, a6, a7, a8, a9, a10, a11] [.int x, s3, s2, s1, s0] M 0 0 Z := R_local (gd191 dX9_does_33) rfl rfl rfl
theorem z191_34 : Run d 191 34 [a0, a1, a2, a3, a4, a5, a6, a7, a8, a9, a10, a11] [.int y, .int x, s2, s1, s0] M 0 0 Z ↔ Run d 191 35 [a0, a1, a2, a3, a4, a5, a6, a7, a8, a9, a10, a11] [.int (x * y), s2, s1, s0] M 0 0 Z := R_arith (gd191 dX9_does_34) rfl
theorem z191_35 : Run d 191 35 [a0, a1, a2, a3, a4, a5, some (.int x), a7, a8, a9, a10, a11] [s3, s2, s1, s0] M 0 0 Z ↔ Run d 191 37 [a0, a1, a2, a3, a4, a5, some (.int x), a7, a8, a9, a10, a11] [.int x, s3, s2, s1, s0] M 0 0 Z := R_local (gd191 dX9_does_35) rfl rfl rfl
theorem z191_37 : Run d 191 37 [a0, a1, a2, a3, a4, a5, a6, a7, a8, a9, a10, a11] [.int y, .int x, s2, s1, s0] M 0 0 Z ↔ Run d 191 38 [a0, a1, a2, a3, a4, a5, a6, a7, a8, a9, a10, a11] [.int (x + y), s2, s1, s0] M 0 0 Z := R_arith (gd191 dX9_does_37) rfl
theorem z191_38 : Run d 191 38 [a0, a1, a2, a3, a4, a5, a6, a7, a8, a9, a10, a11] [.int x, .ref o, s1, s0] M 0 0 Z ↔ gAr M o 0 ∧ gIn x (gLen M o) = true ∧ Run d 191 39 [a0, a1, a2, a3, a4, a5, a6, a7, a8, a9, a10, a11] [.int (M.1 o x.toNatClampNeg), s1, s0] M 0 0 Z := R_iald (gd191 dX9_does_38)
theorem z191_39 : Run d 191 39 [a0, a1, a2, a3, a4, a5, a6, a7, a8, a9, a10, a11] [.int y, .int x, .ref o] M 0 0 Z ↔ gAr M o 0 ∧ gIn x (gLen M o) = true ∧ Run d 191 40 [a0, a1, a2, a3, a4, a5, a6, a7, a8, a9, a10, a11] [] (gsI M o x.toNatClampNeg y) 0 0 Z := R_iast (gd191 dX9_does_39)
theorem z191_40 : Run d 191 40 [a0, a1, a2, a3, a4, a5, some (.int x), a7, a8, a9, a10, a11] [] M 0 0 Z ↔ Run d 191 43 [a0, a1, a2, a3, a4, a5, some (.int (x + 1)), a7, a8, a9, a10, a11] [] M 0 0 Z := R_iinc (gd191 dX9_does_40) (by decide) rfl rfl
theorem z191_43 : Run d 191 43 [a0, a1, a2, a3, a4, a5, a6, a7, a8, a9, a10, a11] [] M 0 0 Z ↔ Run d 191 8 [a0, a1, a2, a3, a4, a5, a6, a7, a8, a9, a10, a11] [] M 0 0 Z := R_goto (gd191 dX9_does_43) (show gTgt 43 (-35) = some 8 by decide)
theorem z191_46 : Run d 191 46 [some (.ref o), a1, a2, a3, a4, a5, a6, a7, a8, a9, a10, a11] [] M 0 0 Z ↔ Run d 191 47 [some (.ref o), a1, a2, a3, a4, a5, a6, a7, a8, a9, a10, a11] [.ref o] M 0 0 Z := R_local (gd191 dX9_does_46) rfl rfl rfl
theorem z191_47 : Run d 191 47 [a0, a1, a2, a3, a4, a5, a6, a7, a8, a9, a10, a11] [.ref o] M 0 0 Z ↔ gObj M o 9 ∧ Run d 191 50 [a0, a1, a2, a3, a4, a5, a6, a7, a8, a9, a10, a11] [va_rf (M.2.1 o 63)] M 0 0 Z := R_getR (gd191 dX9_does_47) rfl gf_9_129 rfl
theorem z191_50 : Run d 191 50 [a0, a1, a2, a3, a4, some (.int x), a6, a7, a8, a9, a10, a11] [s0] M 0 0 Z ↔ Run d 191 52 [a0, a1, a2, a3, a4, some (.int x), a6, a7, a8, a9, a10, a11] [.int x, s0] M 0 0 Z := R_local (gd191 dX9_does_50) rfl rfl rfl
theorem z191_52 : Run d 191 52 [some (.ref o), a1, a2, a3, a4, a5, a6, a7, a8, a9, a10, a11] [s1, s0] M 0 0 Z ↔ Run d 191 53 [some (.ref o), a1, a2, a3, a4, a5, a6, a7, a8, a9, a10, a11] [.ref o, s1, s0] M 0 0 Z := R_local (gd191 dX9_does_52) rfl rfl rfl
theorem z191_53 : Run d 191 53 [a0, a1, a2, a3, a4, a5, a6, a7, a8, a9, a10, a11] [.ref o, s1, s0] M 0 0 Z ↔ gObj M o 9 ∧ Run d 191 56 [a0, a1, a2, a3, a4, a5, a6, a7, a8, a9, a10, a11] [va_rf (M.2.1 o 63), s1, s0] M 0 0 Z := R_getR (gd191 dX9_does_53) rfl gf_9_129 rfl
theorem z191_56 : Run d 191 56 [a0, a1, a2, some (.int x), a4, a5, a6, a7, a8, a9, a10, a11] [s2, s1, s0] M 0 0 Z ↔ Run d 191 57 [a0, a1, a2, some (.int x), a4, a5, a6, a7, a8, a9, a10, a11] [.int x, s2, s1, s0] M 0 0 Z := R_local (gd191 dX9_does_56) rfl rfl rfl
theorem z191_57 : Run d 191 57 [a0, a1, a2, a3, a4, a5, a6, a7, a8, a9, a10, a11] [.int x, .ref o, s1, s0] M 0 0 Z ↔ gAr M o 0 ∧ gIn x (gLen M o) = true ∧ Run d 191 58 [a0, a1, a2, a3, a4, a5, a6, a7, a8, a9, a10, a11] [.int (M.1 o x.toNatClampNeg), s1, s0] M 0 0 Z := R_iald (gd191 dX9_does_57)
theorem z191_58 : Run d 191 58 [a0, a1, a2, a3, a4, a5, a6, a7, a8, a9, a10, a11] [.int y, .int x, .ref o] M 0 0 Z ↔ gAr M o 0 ∧ gIn x (gLen M o) = true ∧ Run d 191 59 [a0, a1, a2, a3, a4, a5, a6, a7, a8, a9, a10, a11] [] (gsI M o x.toNatClampNeg y) 0 0 Z := R_iast (gd191 dX9_does_58)
theorem z191_59 : Run d 191 59 [some (.ref o), a1, a2, a3, a4, a5, a6, a7, a8, a9, a10, a11] [] M 0 0 Z ↔ Run d 191 60 [some (.ref o), a1, a2, a3, a4, a5, a6, a7, a8, a9, a10, a11] [.ref o] M 0 0 Z := R_local (gd191 dX9_does_59) rfl rfl rfl
theorem z191_60 : Run d 191 60 [a0, a1, a2, a3, a4, a5, a6, a7, a8, a9, a10, a11] [.ref o] M 0 0 Z ↔ gObj M o 9 ∧ Run d 191 63 [a0, a1, a2, a3, a4, a5, a6, a7, a8, a9, a10, a11] [va_rf (M.2.1 o 64)] M 0 0 Z := R_getR (gd191 dX9_does_60) rfl gf_9_132 rfl
theorem z191_63 : Run d 191 63 [a0, a1, a2, a3, a4, some (.int x), a6, a7, a8, a9, a10, a11] [s0] M 0 0 Z ↔ Run d 191 65 [a0, a1, a2, a3, a4, some (.int x), a6, a7, a8, a9, a10, a11] [.int x, s0] M 0 0 Z := R_local (gd191 dX9_does_63) rfl rfl rfl
theorem z191_65 : Run d 191 65 [some (.ref o), a1, a2, a3, a4, a5, a6, a7, a8, a9, a10, a11] [s1, s0] M 0 0 Z ↔ Run d 191 66 [some (.ref o), a1, a2, a3, a4, a5, a6, a7, a8, a9, a10, a11] [.ref o, s1, s0] M 0 0 Z := R_local (gd191 dX9_does_65) rfl rfl rfl
theorem z191_66 : Run d 191 66 [a0, a1, a2, a3, a4, a5, a6, a7, a8, a9, a10, a11] [.ref o, s1, s0] M 0 0 Z ↔ gObj M o 9 ∧ Run d 191 69 [a0, a1, a2, a3, a4, a5, a6, a7, a8, a9, a10, a11] [va_rf (M.2.1 o 64), s1, s0] M 0 0 Z := R_getR (gd191 dX9_does_66) rfl gf_9_132 rfl
theorem z191_69 : Run d 191 69 [a0, a1, a2, some (.int x), a4, a5, a6, a7, a8, a9, a10, a11] [s2, s1, s0] M 0 0 Z ↔ Run d 191 70 [a0, a1, a2, some (.int x), a4, a5, a6, a7, a8, a9, a10, a11] [.int x, s2, s1, s0] M 0 0 Z := R_local (gd191 dX9_does_69) rfl rfl rfl
theorem z191_70 : Run d 191 70 [a0, a1, a2, a3, a4, a5, a6, a7, a8, a9, a10, a11] [.int x, .ref o, s1, s0] M 0 0 Z ↔ gAr M o 0 ∧ gIn x (gLen M o) = true ∧ Run d 191 71 [a0, a1, a2, a3, a4, a5, a6, a7, a8, a9, a10, a11] [.int (M.1 o x.toNatClampNeg), s1, s0] M 0 0 Z := R_iald (gd191 dX9_does_70)
theorem z191_71 : Run d 191 71 [a0, a1, a2, a3, a4, a5, a6, a7, a8, a9, a10, a11] [.int y, .int x, .ref o] M 0 0 Z ↔ gAr M o 0 ∧ gIn x (gLen M o) = true ∧ Run d 191 72 [a0, a1, a2, a3, a4, a5, a6, a7, a8, a9, a10, a11] [] (gsI M o x.toNatClampNeg y) 0 0 Z := R_iast (gd191 dX9_does_71)
theorem z191_72 : Run d 191 72 [some (.ref o), a1, a2, a3, a4, a5, a6, a7, a8, a9, a10, a11] [] M 0 0 Z ↔ Run d 191 73 [some (.ref o), a1, a2, a3, a4, a5, a6, a7, a8, a9, a10, a11] [.ref o] M 0 0 Z := R_local (gd191 dX9_does_72) rfl rfl rfl
theorem z191_73 : Run d 191 73 [a0, a1, a2, a3, a4, a5, a6, a7, a8, a9, a10, a11] [.ref o] M 0 0 Z ↔ gObj M o 9 ∧ Run d 191 76 [a0, a1, a2, a3, a4, a5, a6, a7, a8, a9, a10, a11] [va_rf (M.2.1 o 65)] M 0 0 Z := R_getR (gd191 dX9_does_73) rfl gf_9_135 rfl
theorem z191_76 : Run d 191 76 [a0, a1, a2, a3, a4, some (.int x), a6, a7, a8, a9, a10, a11] [s0] M 0 0 Z ↔ Run d 191 78 [a0, a1, a2, a3, a4, some (.int x), a6, a7, a8, a9, a10, a11] [.int x, s0] M 0 0 Z := R_local (gd191 dX9_does_76) rfl rfl rfl
theorem z191_78 : Run d 191 78 [some (.ref o), a1, a2, a3, a4, a5, a6, a7, a8, a9, a10, a11] [s1, s0] M 0 0 Z ↔ Run d 191 79 [some (.ref o), a1, a2, a3, a4, a5, a6, a7, a8, a9, a10, a11] [.ref o, s1, s0] M 0 0 Z := R_local (gd191 dX9_does_78) rfl rfl rfl
theorem z191_79 : Run d 191 79 [a0, a1, a2, a3, a4, a5, a6, a7, a8, a9, a10, a11] [.ref o, s1, s0] M 0 0 Z ↔ gObj M o 9 ∧ Run d 191 82 [a0, a1, a2, a3, a4, a5, a6, a7, a8, a9, a10, a11] [va_rf (M.2.1 o 65), s1, s0] M 0 0 Z := R_getR (gd191 dX9_does_79) rfl gf_9_135 rfl
theorem z191_82 : Run d 191 82 [a0, a1, a2, some (.int x), a4, a5, a6, a7, a8, a9, a10, a11] [s2, s1, s0] M 0 0 Z ↔ Run d 191 83 [a0, a1, a2, some (.int x), a4, a5, a6, a7, a8, a9, a10, a11] [.int x, s2, s1, s0] M 0 0 Z := R_local (gd191 dX9_does_82) rfl rfl rfl
theorem z191_83 : Run d 191 83 [a0, a1, a2, a3, a4, a5, a6, a7, a8, a9, a10, a11] [.int x, .ref o, s1, s0] M 0 0 Z ↔ gAr M o 0 ∧ gIn x (gLen M o) = true ∧ Run d 191 84 [a0, a1, a2, a3, a4, a5, a6, a7, a8, a9, a10, a11] [.int (M.1 o x.toNatClampNeg), s1, s0] M 0 0 Z := R_iald (gd191 dX9_does_83)
theorem z191_84 : Run d 191 84 [a0, a1, a2, a3, a4, a5, a6, a7, a8, a9, a10, a11] [.int y, .int x, .ref o] M 0 0 Z ↔ gAr M o 0 ∧ gIn x (gLen M o) = true ∧ Run d 191 85 [a0, a1, a2, a3, a4, a5, a6, a7, a8, a9, a10, a11] [] (gsI M o x.toNatClampNeg y) 0 0 Z := R_iast (gd191 dX9_does_84)
theorem z191_85 : Run d 191 85 [some (.ref o), a1, a2, a3, a4, a5, a6, a7, a8, a9, a10, a11] [] M 0 0 Z ↔ Run d 191 86 [some (.ref o), a1, a2, a3, a4, a5, a6, a7, a8, a9, a10, a11] [.ref o] M 0 0 Z := R_local (gd191 dX9_does_85) rfl rfl rfl
theorem z191_86 : Run d 191 86 [a0, a1, a2, a3, a4, a5, a6, a7, a8, a9, a10, a11] [.ref o] M 0 0 Z ↔ gObj M o 9 ∧ Run d 191 89 [a0, a1, a2, a3, a4, a5, a6, a7, a8, a9, a10, a11] [va_rf (M.2.1 o 66)] M 0 0 Z := R_getR (gd191 dX9_does_86) rfl gf_9_138 rfl
theorem z191_89 : Run d 191 89 [a0, a1, a2, a3, a4, some (.int x), a6, a7, a8, a9, a10, a11] [s0] M 0 0 Z ↔ Run d 191 91 [a0, a1, a2, a3, a4, some (.int x), a6, a7, a8, a9, a10, a11] [.int x, s0] M 0 0 Z := R_local (gd191 dX9_does_89) rfl rfl rfl
theorem z191_91 : Run d 191 91 [some (.ref o), a1, a2, a3, a4, a5, a6, a7, a8, a9, a10, a11] [s1, s0] M 0 0 Z ↔ Run d 191 92 [some (.ref o), a1, a2, a3, a4, a5, a6, a7, a8, a9, a10, a11] [.ref o, s1, s0] M 0 0 Z := R_local (gd191 dX9_does_91) rfl rfl rfl
theorem z191_92 : Run d 191 92 [a0, a1, a2, a3, a4, a5, a6, a7, a8, a9, a10, a11] [.ref o, s1, s0] M 0 0 Z ↔ gObj M o 9 ∧ Run d 191 95 [a0, a1, a2, a3, a4, a5, a6, a7, a8, a9, a10, a11] [va_rf (M.2.1 o 66), s1, s0] M 0 0 Z := R_getR (gd191 dX9_does_92) rfl gf_9_138 rfl
theorem z191_95 : Run d 191 95 [a0, a1, a2, some (.int x), a4, a5, a6, a7, a8, a9, a10, a11] [s2, s1, s0] M 0 0 Z ↔ Run d 191 96 [a0, a1, a2, some (.int x), a4, a5, a6, a7, a8, a9, a10, a11] [.int x, s2, s1, s0] M 0 0 Z := R_local (gd191 dX9_does_95) rfl rfl rfl
theorem z191_96 : Run d 191 96 [a0, a1, a2, a3, a4, a5, a6, a7, a8, a9, a10, a11] [.int x, .ref o, s1, s0] M 0 0 Z ↔ gAr M o 0 ∧ gIn x (gLen M o) = true ∧ Run d 191 97 [a0, a1, a2, a3, a4, a5, a6, a7, a8, a9, a10, a11] [.int (M.1 o x.toNatClampNeg), s1, s0] M 0 0 Z := R_iald (gd191 dX9_does_96)
theorem z191_97 : Run d 191 97 [a0, a1, a2, a3, a4, a5, a6, a7, a8, a9, a10, a11] [.int y, .int x, .ref o] M 0 0 Z ↔ gAr M o 0 ∧ gIn x (gLen M o) = true ∧ Run d 191 98 [a0, a1, a2, a3, a4, a5, a6, a7, a8, a9, a10, a11] [] (gsI M o x.toNatClampNeg y) 0 0 Z := R_iast (gd191 dX9_does_97)
theorem z191_98 : Run d 191 98 [some (.ref o), a1, a2, a3, a4, a5, a6, a7, a8, a9, a10, a11] [] M 0 0 Z ↔ Run d 191 99 [some (.ref o), a1, a2, a3, a4, a5, a6, a7, a8, a9, a10, a11] [.ref o] M 0 0 Z := R_local (gd191 dX9_does_98) rfl rfl rfl
theorem z191_99 : Run d 191 99 [a0, a1, a2, a3, a4, a5, a6, a7, a8, a9, a10, a11] [.ref o] M 0 0 Z ↔ gObj M o 9 ∧ Run d 191 102 [a0, a1, a2, a3, a4, a5, a6, a7, a8, a9, a10, a11] [va_rf (M.2.1 o 67)] M 0 0 Z := R_getR (gd191 dX9_does_99) rfl gf_9_141 rfl
theorem z191_102 : Run d 191 102 [a0, a1, a2, a3, a4, some (.int x), a6, a7, a8, a9, a10, a11] [s0] M 0 0 Z ↔ Run d 191 104 [a0, a1, a2, a3, a4, some (.int x), a6, a7, a8, a9, a10, a11] [.int x, s0] M 0 0 Z := R_local (gd191 dX9_does_102) rfl rfl rfl
theorem z191_104 : Run d 191 104 [some (.ref o), a1, a2, a3, a4, a5, a6, a7, a8, a9, a10, a11] [s1, s0] M 0 0 Z ↔ Run d 191 105 [some (.ref o), a1, a2, a3, a4, a5, a6, a7, a8, a9, a10, a11] [.ref o, s1, s0] M 0 0 Z := R_local (gd191 dX9_does_104) rfl rfl rfl
theorem z191_105 : Run d 191 105 [a0, a1, a2, a3, a4, a5, a6, a7, a8, a9, a10, a11] [.ref o, s1, s0] M 0 0 Z ↔ gObj M o 9 ∧ Run d 191 108 [a0, a1, a2, a3, a4, a5, a6, a7, a8, a9, a10, a11] [va_rf (M.2.1 o 67), s1, s0] M 0 0 Z := R_getR (gd191 dX9_does_105) rfl gf_9_141 rfl
theorem z191_108 : Run d 191 108 [a0, a1, a2, some (.int x), a4, a5, a6, a7, a8, a9, a10, a11] [s2, s1, s0] M 0 0 Z ↔ Run d 191 109 [a0, a1, a2, some (.int x), a4, a5, a6, a7, a8, a9, a10, a11] [.int x, s2, s1, s0] M 0 0 Z := R_local (gd191 dX9_does_108) rfl rfl rfl
theorem z191_109 : Run d 191 109 [a0, a1, a2, a3, a4, a5, a6, a7, a8, a9, a10, a11] [.int x, .ref o, s1, s0] M 0 0 Z ↔ gAr M o 0 ∧ gIn x (gLen M o) = true ∧ Run d 191 110 [a0, a1, a2, a3, a4, a5, a6, a7, a8, a9, a10, a11] [.int (M.1 o x.toNatClampNeg), s1, s0] M 0 0 Z := R_iald (gd191 dX9_does_109)
theorem z191_110 : Run d 191 110 [a0, a1, a2, a3, a4, a5, a6, a7, a8, a9, a10, a11] [.int y, .int x, .ref o] M 0 0 Z ↔ gAr M o 0 ∧ gIn x (gLen M o) = true ∧ Run d 191 111 [a0, a1, a2, a3, a4, a5, a6, a7, a8, a9, a10, a11] [] (gsI M o x.toNatClampNeg y) 0 0 Z := R_iast (gd191 dX9_does_110)
theorem z191_111 : Run d 191 111 [some (.ref o), a1, a2, a3, a4, a5, a6, a7, a8, a9, a10, a11] [] M 0 0 Z ↔ Run d 191 112 [some (.ref o), a1, a2, a3, a4, a5, a6, a7, a8, a9, a10, a11] [.ref o] M 0 0 Z := R_local (gd191 dX9_does_111) rfl rfl rfl
theorem z191_112 : Run d 191 112 [a0, a1, a2, a3, a4, a5, a6, a7, a8, a9, a10, a11] [.ref o] M 0 0 Z ↔ gObj M o 9 ∧ Run d 191 115 [a0, a1, a2, a3, a4, a5, a6, a7, a8, a9, a10, a11] [va_rf (M.2.1 o 6)] M 0 0 Z := R_getR (gd191 dX9_does_112) rfl gf_9_17 rfl
theorem z191_115 : Run d 191 115 [a0, a1, some (.int x), a3, a4, a5, a6, a7, a8, a9, a10, a11] [s0] M 0 0 Z ↔ Run d 191 116 [a0, a1, some (.int x), a3, a4, a5, a6, a7, a8, a9, a10, a11] [.int x, s0] M 0 0 Z := R_local (gd191 dX9_does_115) rfl rfl rfl
theorem z191_116 : Run d 191 116 [a0, a1, a2, a3, a4, a5, a6, a7, a8, a9, a10, a11] [.int x, .ref o] M 0 0 Z ↔ gAr M o 0 ∧ gIn x (gLen M o) = true ∧ Run d 191 117 [a0, a1, a2, a3, a4, a5, a6, a7, a8, a9, a10, a11] [.int (M.1 o x.toNatClampNeg)] M 0 0 Z := R_iald (gd191 dX9_does_116)
theorem z191_117 : Run d 191 117 [some (.ref o), a1, a2, a3, a4, a5, a6, a7, a8, a9, a10, a11] [s0] M 0 0 Z ↔ Run d 191 118 [some (.ref o), a1, a2, a3, a4, a5, a6, a7, a8, a9, a10, a11] [.ref o, s0] M 0 0 Z := R_local (gd191 dX9_does_117) rfl rfl rfl
theorem z191_118 : Run d 191 118 [a0, a1, a2, a3, a4, a5, a6, a7, a8, a9, a10, a11] [.ref o, s0] M 0 0 Z ↔ gObj M o 9 ∧ Run d 191 121 [a0, a1, a2, a3, a4, a5, a6, a7, a8, a9, a10, a11] [va_rf (M.2.1 o 63), s0] M 0 0 Z := R_getR (gd191 dX9_does_118) rfl gf_9_129 rfl
theorem z191_121 : Run d 191 121 [a0, a1, a2, some (.int x), a4, a5, a6, a7, a8, a9, a10, a11] [s1, s0] M 0 0 Z ↔ Run d 191 122 [a0, a1, a2, some (.int x), a4, a5, a6, a7, a8, a9, a10, a11] [.int x, s1, s0] M 0 0 Z := R_local (gd191 dX9_does_121) rfl rfl rfl
theorem z191_122 : Run d 191 122 [a0, a1, a2, a3, a4, a5, a6, a7, a8, a9, a10, a11] [.int x, .ref o, s0] M 0 0 Z ↔ gAr M o 0 ∧ gIn x (gLen M o) = true ∧ Run d 191 123 [a0, a1, a2, a3, a4, a5, a6, a7, a8, a9, a10, a11] [.int (M.1 o x.toNatClampNeg), s0] M 0 0 Z := R_iald (gd191 dX9_does_122)
theorem z191_123 : Run d 191 123 [a0, a1, a2, a3, a4, a5, a6, a7, a8, a9, a10, a11] [.int y, .int x] M 0 0 Z ↔ Run d 191 124 [a0, a1, a2, a3, a4, a5, a6, a7, a8, a9, a10, a11] [.int (x - y)] M 0 0 Z := R_arith (gd191 dX9_does_123) rfl
theorem z191_124 : Run d 191 124 [a0, a1, a2, a3, a4, a5, a6, a7, a8, a9, a10, a11] [.int x] M 0 0 Z ↔ Run d 191 126 [a0, a1, a2, a3, a4, a5, some (.int x), a7, a8, a9, a10, a11] [] M 0 0 Z := R_local (gd191 dX9_does_124) rfl rfl rfl
theorem z191_126 : Run d 191 126 [some (.ref o), a1, a2, a3, a4, a5, a6, a7, a8, a9, a10, a11] [] M 0 0 Z ↔ Run d 191 127 [some (.ref o), a1, a2, a3, a4, a5, a6, a7, a8, a9, a10, a11] [.ref o] M 0 0 Z := R_local (gd191 dX9_does_126) rfl rfl rfl
theorem z191_127 : Run d 191 127 [a0, a1, a2, a3, a4, a5, a6, a7, a8, a9, a10, a11] [.ref o] M 0 0 Z ↔ gObj M o 9 ∧ Run d 191 130 [a0, a1, a2, a3, a4, a5, a6, a7, a8, a9, a10, a11] [va_rf (M.2.1 o 7)] M 0 0 Z := R_getR (gd191 dX9_does_127) rfl gf_9_20 rfl
theorem z191_130 : Run d 191 130 [a0, a1, some (.int x), a3, a4, a5, a6, a7, a8, a9, a10, a11] [s0] M 0 0 Z ↔ Run d 191 131 [a0, a1, some (.int x), a3, a4, a5, a6, a7, a8, a9, a10, a11] [.int x, s0] M 0 0 Z := R_local (gd191 dX9_does_130) rfl rfl rfl
theorem z191_131 : Run d 191 131 [a0, a1, a2, a3, a4, a5, a6, a7, a8, a9, a10, a11] [.int x, .ref o] M 0 0 Z ↔ gAr M o 0 ∧ gIn x (gLen M o) = true ∧ Run d 191 132 [a0, a1, a2, a3, a4, a5, a6, a7, a8, a9, a10, a11] [.int (M.1 o x.toNatClampNeg)] M 0 0 Z := R_iald (gd191 dX9_does_131)
theorem z191_132 : Run d 191 132 [a0, a1, a2, a3, a4, a5, a6, a7, a8, a9, a10, a11] [.int x] M 0 0 Z ↔ Run d 191 134 [a0, a1, a2, a3, a4, a5, a6, some (.int x), a8, a9, a10, a11] [] M 0 0 Z := R_local (gd191 dX9_does_132) rfl rfl rfl
theorem z191_134 : Run d 191 134 [a0, a1, a2, a3, some (.int x), a5, a6, a7, a8, a9, a10, a11] [] M 0 0 Z ↔ Run d 191 136 [a0, a1, a2, a3, some (.int x), a5, a6, a7, a8, a9, a10, a11] [.int x] M 0 0 Z := R_local (gd191 dX9_does_134) rfl rfl rfl
theorem z191_136 : Run d 191 136 [a0, a1, a2, a3, a4, a5, a6, a7, a8, a9, a10, a11] [s0] M 0 0 Z ↔ Run d 191 137 [a0, a1, a2, a3, a4, a5, a6, a7, a8, a9, a10, a11] [.int 4, s0] M 0 0 Z := R_iconst (gd191 dX9_does_136) (by decide)
theorem z191_137 : Run d 191 137 [a0, a1, a2, a3, a4, a5, a6, a7, a8, a9, a10, a11] [.int y, .int x] M 0 0 Z ↔ (y ≤ x → Run d 191 256 [a0, a1, a2, a3, a4, a5, a6, a7, a8, a9, a10, a11] [] M 0 0 Z) ∧ (¬ (y ≤ x) → Run d 191 140 [a0, a1, a2, a3, a4, a5, a6, a7, a8, a9, a10, a11] [] M 0 0 Z) := R_icmp (gd191 dX9_does_137) (show gTgt 137 119 = some 256 by decide) gIf_ge
theorem z191_140 : Run d 191 140 [some (.ref o), a1, a2, a3, a4, a5, a6, a7, a8, a9, a10, a11] [] M 0 0 Z ↔ Run d 191 141 [some (.ref o), a1, a2, a3, a4, a5, a6, a7, a8, a9, a10, a11] [.ref o] M 0 0 Z := R_local (gd191 dX9_does_140) rfl rfl rfl
theorem z191_141 : Run d 191 141 [some (.ref o), a1, a2, a3, a4, a5, a6, a7, a8, a9, a10, a11] [s0] M 0 0 Z ↔ Run d 191 142 [some (.ref o), a1, a2, a3, a4, a5, a6, a7, a8, a9, a10, a11] [.ref o, s0] M 0 0 Z := R_local (gd191 dX9_does_141) rfl rfl rfl
theorem z191_142 : Run d 191 142 [a0, a1, a2, a3, a4, a5, a6, a7, a8, a9, a10, a11] [.ref o, s0] M 0 0 Z ↔ gObj M o 9 ∧ Run d 191 145 [a0, a1, a2, a3, a4, a5, a6, a7, a8, a9, a10, a11] [va_rf (M.2.1 o 64), s0] M 0 0 Z := R_getR (gd191 dX9_does_142) rfl gf_9_132 rfl
theorem z191_145 : Run d 191 145 [a0, a1, a2, some (.int x), a4, a5, a6, a7, a8, a9, a10, a11] [s1, s0] M 0 0 Z ↔ Run d 191 146 [a0, a1, a2, some (.int x), a4, a5, a6, a7, a8, a9, a10, a11] [.int x, s1, s0] M 0 0 Z := R_local (gd191 dX9_does_145) rfl rfl rfl
theorem z191_146 : Run d 191 146 [a0, a1, a2, a3, a4, a5, a6, a7, a8, a9, a10, a11] [.int x, .ref o, s0] M 0 0 Z ↔ gAr M o 0 ∧ gIn x (gLen M o) = true ∧ Run d 191 147 [a0, a1, a2, a3, a4, a5, a6, a7, a8, a9, a10, a11] [.int (M.1 o x.toNatClampNeg), s0] M 0 0 Z := R_iald (gd191 dX9_does_146)
theorem z191_147 : Run d 191 147 [a0, a1, a2, a3, a4, a5, a6, some (.int x), a8, a9, a10, a11] [s1, s0] M 0 0 Z ↔ Run d 191 149 [a0, a1, a2, a3, a4, a5, a6, some (.int x), a8, a9, a10, a11] [.int x, s1, s0] M 0 0 Z := R_local (gd191 dX9_does_147) rfl rfl rfl
theorem z191_149 : Run d 191 149 [a0, some (.int x), a2, a3, a4, a5, a6, a7, a8, a9, a10, a11] [s2, s1, s0] M 0 0 Z ↔ Run d 191 150 [a0, some (.int x), a2, a3, a4, a5, a6, a7, a8, a9, a10, a11] [.int x, s2, s1, s0] M 0 0 Z := R_local (gd191 dX9_does_149) rfl rfl rfl
theorem z191_150 : Run d 191 150 [a0, a1, a2, a3, a4, a5, a6, a7, a8, a9, a10, a11] [s3, s2, s1, .ref b] M 0 0 Z ↔ gObj M b 9 ∧ Call d 144 [.ref b, s1, s2, s3] M (fun r M1 => Run d 191 153 [a0, a1, a2, a3, a4, a5, a6, a7, a8, a9, a10, a11] (r.toList ++ []) M1 0 0 Z) := R_callV (gd191 dX9_does_150) rfl rfl rfl rfl rfl rfl gc_9_242 rfl rfl (Nat.le_of_ble_eq_true rfl) (Nat.le_of_ble_eq_true rfl) rfl rfl (Nat.le_of_ble_eq_true rfl) (Nat.le_of_ble_eq_true rfl)
theorem z191_153 : Run d 191 153 [a0, a1, a2, a3, a4, a5, a6, a7, a8, a9, a10, a11] [.int x] M 0 0 Z ↔ Run d 191 155 [a0, a1, a2, a3, a4, a5, a6, a7, some (.int x), a9, a10, a11] [] M 0 0 Z := R_local (gd191 dX9_does_153) rfl rfl rfl
theorem z191_155 : Run d 191 155 [a0, a1, a2, a3, a4, a5, a6, a7, a8, a9, a10, a11] [] M 0 0 Z ↔ Run d 191 156 [a0, a1, a2, a3, a4, a5, a6, a7, a8, a9, a10, a11] [.int 1] M 0 0 Z := R_iconst (gd191 dX9_does_155) (by decide)
theorem z191_156 : Run d 191 156 [a0, a1, a2, a3, some (.int x), a5, a6, a7, a8, a9, a10, a11] [s0] M 0 0 Z ↔ Run d 191 158 [a0, a1, a2, a3, some (.int x), a5, a6, a7, a8, a9, a10, a11] [.int x, s0] M 0 0 Z := R_local (gd191 dX9_does_156) rfl rfl rfl
theorem z191_158 : Run d 191 158 [a0, a1, a2, a3, a4, a5, a6, a7, a8, a9, a10, a11] [.int y, .int x] M 0 0 Z ↔ Run d 191 159 [a0, a1, a2, a3, a4, a5, a6, a7, a8, a9, a10, a11] [.int (x <<< (y &&& 31))] M 0 0 Z := R_arith (gd191 dX9_does_158) rfl
theorem z191_159 : Run d 191 159 [a0, a1, a2, a3, a4, a5, a6, a7, a8, a9, a10, a11] [.int x] M 0 0 Z ↔ Run d 191 161 [a0, a1, a2, a3, a4, a5, a6, a7, a8, some (.int x), a10, a11] [] M 0 0 Z := R_local (gd191 dX9_does_159) rfl rfl rfl
theorem z191_161 : Run d 191 161 [a0, a1, a2, a3, a4, a5, a6, a7, a8, a9, a10, a11] [] M 0 0 Z ↔ Run d 191 162 [a0, a1, a2, a3, a4, a5, a6, a7, a8, a9, a10, a11] [.int 0] M 0 0 Z := R_iconst (gd191 dX9_does_161) (by decide)
theorem z191_162 : Run d 191 162 [a0, a1, a2, a3, a4, a5, a6, a7, a8, a9, a10, a11] [.int x] M 0 0 Z ↔ Run d 191 164 [a0, a1, a2, a3, a4, a5, a6, a7, a8, a9, some (.int x), a11] [] M 0 0 Z := R_local (gd191 dX9_does_162) rfl rfl rfl
theorem z191_164 : Run d 191 164 [a0, a1, a2, a3, a4, a5, a6, a7, a8, a9, some (.int x), a11] [] M 0 0 Z ↔ Run d 191 166 [a0, a1, a2, a3, a4, a5, a6, a7, a8, a9, some (.int x), a11] [.int x] M 0 0 Z := R_local (gd191 dX9_does_164) rfl rfl rfl
theorem z191_166 : Run d 191 166 [a0, a1, a2, a3, a4, a5, a6, a7, a8, some (.int x), a10, a11] [s0] M 0 0 Z ↔ Run d 191 168 [a0, a1, a2, a3, a4, a5, a6, a7, a8, some (.int x), a10, a11] [.int x, s0] M 0 0 Z := R_local (gd191 dX9_does_166) rfl rfl rfl
theorem z191_168 : Run d 191 168 [a0, a1, a2, a3, a4, a5, a6, a7, a8, a9, a10, a11] [.int y, .int x] M 0 0 Z ↔ (y ≤ x → Run d 191 240 [a0, a1, a2, a3, a4, a5, a6, a7, a8, a9, a10, a11] [] M 0 0 Z) ∧ (¬ (y ≤ x) → Run d 191 171 [a0, a1, a2, a3, a4, a5, a6, a7, a8, a9, a10, a11] [] M 0 0 Z) := R_icmp (gd191 dX9_does_168) (show gTgt 168 72 = some 240 by decide) gIf_ge
theorem z191_171 : Run d 191 171 [a0, a1, a2, a3, a4, a5, a6, a7, a8, some (.int x), a10, a11] [] M 0 0 Z ↔ Run d 191 173 [a0, a1, a2, a3, a4, a5, a6, a7, a8, some (.int x), a10, a11] [.int x] M 0 0 Z := R_local (gd191 dX9_does_171) rfl rfl rfl
theorem z191_173 : Run d 191 173 [a0, a1, a2, a3, a4, a5, a6, a7, some (.int x), a9, a10, a11] [s0] M 0 0 Z ↔ Run d 191 175 [a0, a1, a2, a3, a4, a5, a6, a7, some (.int x), a9, a10, a11] [.int x, s0] M 0 0 Z := R_local (gd191 dX9_does_173) rfl rfl rfl
theorem z191_175 : Run d 191 175 [a0, a1, a2, a3, a4, a5, a6, a7, a8, a9, a10, a11] [.int y, .int x] M 0 0 Z ↔ Run d 191 176 [a0, a1, a2, a3, a4, a5, a6, a7, a8, a9, a10, a11] [.int (x * y)] M 0 0 Z := R_arith (gd191 dX9_does_175) rfl
theorem z191_176 : Run d 191 176 [a0, a1, a2, a3, a4, a5, some (.int x), a7, a8, a9, a10, a11] [s0] M 0 0 Z ↔ Run d 191 178 [a0, a1, a2, a3, a4, a5, some (.int x), a7, a8, a9, a10, a11] [.int x, s0] M 0 0 Z := R_local (gd191 dX9_does_176) rfl rfl rfl
theorem z191_178 : Run d 191 178 [a0, a1, a2, a3, a4, a5, a6, a7, a8, a9, a10, a11] [.int y, .int x] M 0 0 Z ↔ (y < x → Run d 191 240 [a0, a1, a2, a3, a4, a5, a6, a7, a8, a9, a10, a11] [] M 0 0 Z) ∧ (¬ (y < x) → Run d 191 181 [a0, a1, a2, a3, a4, a5, a6, a7, a8, a9, a10, a11] [] M 0 0 Z) := R_icmp (gd191 dX9_does_178) (show gTgt 178 62 = some 240 by decide) gIf_gt
theorem z191_181 : Run d 191 181 [some (.ref o), a1, a2, a3, a4, a5, a6, a7, a8, a9, a10, a11] [] M 0 0 Z ↔ Run d 191 182 [some (.ref o), a1, a2, a3, a4, a5, a6, a7, a8, a9, a10, a11] [.ref o] M 0 0 Z := R_local (gd191 dX9_does_181) rfl rfl rfl
theorem z191_182 : Run d 191 182 [a0, a1, a2, a3, a4, some (.int x), a6, a7, a8, a9, a10, a11] [s0] M 0 0 Z ↔ Run d 191 184 [a0, a1, a2, a3, a4, some (.int x), a6, a7, a8, a9, a10, a11] [.int x, s0] M 0 0 Z := R_local (gd191 dX9_does_182) rfl rfl rfl
theorem z191_184 : Run d 191 184 [a0, a1, some (.int x), a3, a4, a5, a6, a7, a8, a9, a10, a11] [s1, s0] M 0 0 Z ↔ Run d 191 185 [a0, a1, some (.int x), a3, a4, a5, a6, a7, a8, a9, a10, a11] [.int x, s1, s0] M 0 0 Z := R_local (gd191 dX9_does_184) rfl rfl rfl
theorem z191_185 : Run d 191 185 [some (.ref o), a1, a2, a3, a4, a5, a6, a7, a8, a9, a10, a11] [s2, s1, s0] M 0 0 Z ↔ Run d 191 186 [some (.ref o), a1, a2, a3, a4, a5, a6, a7, a8, a9, a10, a11] [.ref o, s2, s1, s0] M 0 0 Z := R_local (gd191 dX9_does_185) rfl rfl rfl
theorem z191_186 : Run d 191 186 [a0, a1, a2, a3, a4, a5, a6, a7, a8, a9, a10, a11] [.ref o, s2, s1, s0] M 0 0 Z ↔ gObj M o 9 ∧ Run d 191 189 [a0, a1, a2, a3, a4, a5, a6, a7, a8, a9, a10, a11] [va_rf (M.2.1 o 64), s2, s1, s0] M 0 0 Z := R_getR (gd191 dX9_does_186) rfl gf_9_132 rfl
theorem z191_189 : Run d 191 189 [a0, a1, a2, a3, a4, some (.int x), a6, a7, a8, a9, a10, a11] [s3, s2, s1, s0] M 0 0 Z ↔ Run d 191 191 [a0, a1, a2, a3, a4, some (.int x), a6, a7, a8, a9, a10, a11] [.int x, s3, s2, s1, s0] M 0 0 Z := R_local (gd191 dX9_does_189) rfl rfl rfl
theorem z191_191 : Run d 191 191 [a0, a1, a2, a3, a4, a5, a6, a7, a8, a9, a10, a11] [.int x, .ref o, s2, s1, s0] M 0 0 Z ↔ gAr M o 0 ∧ gIn x (gLen M o) = true ∧ Run d 191 192 [a0, a1, a2, a3, a4, a5, a6, a7, a8, a9, a10, a11] [.int (M.1 o x.toNatClampNeg), s2, s1, s0] M 0 0 Z := R_iald (gd191 dX9_does_191)
theorem z191_192 : Run d 191 192 [a0, a1, a2, a3, a4, a5, a6, some (.int x), a8, a9, a10, a11] [s3, s2, s1, s0] M 0 0 Z ↔ Run d 191 194 [a0, a1, a2, a3, a4, a5, a6, some (.int x), a8, a9, a10, a11] [.int x, s3, s2, s1, s0] M 0 0 Z := R_local (gd191 dX9_does_192) rfl rfl rfl
theorem z191_194 : Run d 191 194 [a0, a1, a2, a3, a4, a5, a6, a7, some (.int x), a9, a10, a11] [s4, s3, s2, s1, s0] M 0 0 Z ↔ Run d 191 196 [a0, a1, a2, a3, a4, a5, a6, a7, some (.int x), a9, a10, a11] [.int x, s4, s3, s2, s1, s0] M 0 0 Z := R_local (gd191 dX9_does_194) rfl rfl rfl
theorem z191_196 : Run d 191 196 [some (.ref o), a1, a2, a3, a4, a5, a6, a7, a8, a9, a10, a11] [s5, s4, s3, s2, s1, s0] M 0 0 Z ↔ Run d 191 197 [some (.ref o), a1, a2, a3, a4, a5, a6, a7, a8, a9, a10, a11] [.ref o, s5, s4, s3, s2, s1, s0] M 0 0 Z := R_local (gd191 dX9_does_196) rfl rfl rfl
theorem z191_197 : Run d 191 197 [a0, a1, a2, a3, a4, a5, a6, a7, a8, a9, a10, a11] [.ref o, s5, s4, s3, s2, s1, s0] M 0 0 Z ↔ gObj M o 9 ∧ Run d 191 200 [a0, a1, a2, a3, a4, a5, a6, a7, a8, a9, a10, a11] [va_rf (M.2.1 o 67), s5, s4, s3, s2, s1, s0] M 0 0 Z := R_getR (gd191 dX9_does_197) rfl gf_9_141 rfl
theorem z191_200 : Run d 191 200 [a0, a1, a2, a3, a4, some (.int x), a6, a7, a8, a9, a10, a11] [s6, s5, s4, s3, s2, s1, s0] M 0 0 Z ↔ Run d 191 202 [a0, a1, a2, a3, a4, some (.int x), a6, a7, a8, a9, a10, a11] [.int x, s6, s5, s4, s3, s2, s1, s0] M 0 0 Z := R_local (gd191 dX9_does_200) rfl rfl rfl
theorem z191_202 : Run d 191 202 [a0, a1, a2, a3, a4, a5, a6, a7, a8, a9, a10, a11] [.int x, .ref o, s5, s4, s3, s2, s1, s0] M 0 0 Z ↔ gAr M o 0 ∧ gIn x (gLen M o) = true ∧ Run d 191 203 [a0, a1, a2, a3, a4, a5, a6, a7, a8, a9, a10, a11] [.int (M.1 o x.toNatClampNeg), s5, s4, s3, s2, s1, s0] M 0 0 Z := R_iald (gd191 dX9_does_202)
theorem z191_203 : Run d 191 203 [a0, a1, a2, a3, a4, a5, a6, a7, a8, a9, a10, a11] [s6, s5, s4, s3, s2, s1, .ref b] M 0 0 Z ↔ gObj M b 9 ∧ Call d 190 [.ref b, s1, s2, s3, s4, s5, s6] M (fun r M1 => Run d 191 206 [a0, a1, a2, a3, a4, a5, a6, a7, a8, a9, a10, a11] (r.toList ++ []) M1 0 0 Z) := R_callV (gd191 dX9_does_203) rfl rfl rfl rfl rfl rfl gc_9_388 rfl rfl (Nat.le_of_ble_eq_true rfl) (Nat.le_of_ble_eq_true rfl) rfl rfl (Nat.le_of_ble_eq_true rfl) (Nat.le_of_ble_eq_true rfl)
theorem z191_206 : Run d 191 206 [some (.ref o), a1, a2, a3, a4, a5, a6, a7, a8, a9, a10, a11] [] M 0 0 Z ↔ Run d 191 207 [some (.ref o), a1, a2, a3, a4, a5, a6, a7, a8, a9, a10, a11] [.ref o] M 0 0 Z := R_local (gd191 dX9_does_206) rfl rfl rfl
theorem z191_207 : Run d 191 207 [a0, a1, a2, a3, a4, a5, a6, a7, a8, a9, a10, a11] [.ref o] M 0 0 Z ↔ gObj M o 9 ∧ Run d 191 210 [a0, a1, a2, a3, a4, a5, a6, a7, a8, a9, a10, a11] [va_rf (M.2.1 o 65)] M 0 0 Z := R_getR (gd191 dX9_does_207) rfl gf_9_135 rfl
theorem z191_210 : Run d 191 210 [a0, a1, a2, a3, a4, some (.int x), a6, a7, a8, a9, a10, a11] [s0] M 0 0 Z ↔ Run d 191 212 [a0, a1, a2, a3, a4, some (.int x), a6, a7, a8, a9, a10, a11] [.int x, s0] M 0 0 Z := R_local (gd191 dX9_does_210) rfl rfl rfl
theorem z191_212 : Run d 191 212 [some (.ref o), a1, a2, a3, a4, a5, a6, a7, a8, a9, a10, a11] [s1, s0] M 0 0 Z ↔ Run d 191 213 [some (.ref o), a1, a2, a3, a4, a5, a6, a7, a8, a9, a10, a11] [.ref o, s1, s0] M 0 0 Z := R_local (gd191 dX9_does_212) rfl rfl rfl
theorem z191_213 : Run d 191 213 [a0, a1, a2, a3, a4, a5, a6, a7, a8, a9, a10, a11] [.ref o, s1, s0] M 0 0 Z ↔ gObj M o 9 ∧ Run d 191 216 [a0, a1, a2, a3, a4, a5, a6, a7, a8, a9, a10, a11] [va_rf (M.2.1 o 65), s1, s0] M 0 0 Z := R_getR (gd191 dX9_does_213) rfl gf_9_135 rfl
theorem z191_216 : Run d 191 216 [a0, a1, a2, a3, a4, some (.int x), a6, a7, a8, a9, a10, a11] [s2, s1, s0] M 0 0 Z ↔ Run d 191 218 [a0, a1, a2, a3, a4, some (.int x), a6, a7, a8, a9, a10, a11] [.int x, s2, s1, s0] M 0 0 Z := R_local (gd191 dX9_does_216) rfl rfl rfl
theorem z191_218 : Run d 191 218 [a0, a1, a2, a3, a4, a5, a6, a7, a8, a9, a10, a11] [.int x, .ref o, s1, s0] M 0 0 Z ↔ gAr M o 0 ∧ gIn x (gLen M o) = true ∧ Run d 191 219 [a0, a1, a2, a3, a4, a5, a6, a7, a8, a9, a10, a11] [.int (M.1 o x.toNatClampNeg), s1, s0] M 0 0 Z := R_iald (gd191 dX9_does_218)
theorem z191_219 : Run d 191 219 [some (.ref o), a1, a2, a3, a4, a5, a6, a7, a8, a9, a10, a11] [s2, s1, s0] M 0 0 Z ↔ Run d 191 220 [some (.ref o), a1, a2, a3, a4, a5, a6, a7, a8, a9, a10, a11] [.ref o, s2, s1, s0] M 0 0 Z := R_local (gd191 dX9_does_219) rfl rfl rfl
theorem z191_220 : Run d 191 220 [a0, a1, a2, a3, a4, a5, a6, a7, a8, a9, a10, a11] [.ref o, s2, s1, s0] M 0 0 Z ↔ gObj M o 9 ∧ Run d 191 223 [a0, a1, a2, a3, a4, a5, a6, a7, a8, a9, a10, a11] [va_rf (M.2.1 o 66), s2, s1, s0] M 0 0 Z := R_getR (gd191 dX9_does_220) rfl gf_9_138 rfl
theorem z191_223 : Run d 191 223 [a0, a1, a2, a3, a4, some (.int x), a6, a7, a8, a9, a10, a11] [s3, s2, s1, s0] M 0 0 Z ↔ Run d 191 225 [a0, a1, a2, a3, a4, some (.int x), a6, a7, a8, a9, a10, a11] [.int x, s3, s2, s1, s0] M 0 0 Z := R_local (gd191 dX9_does_223) rfl rfl rfl
theorem z191_225 : Run d 191 225 [a0, a1, a2, a3, a4, a5, a6, a7, a8, a9, a10, a11] [.int x, .ref o, s2, s1, s0] M 0 0 Z ↔ gAr M o 0 ∧ gIn x (gLen M o) = true ∧ Run d 191 226 [a0, a1, a2, a3, a4, a5, a6, a7, a8, a9, a10, a11] [.int (M.1 o x.toNatClampNeg), s2, s1, s0] M 0 0 Z := R_iald (gd191 dX9_does_225)
theorem z191_226 : Run d 191 226 [a0, a1, a2, a3, a4, a5, a6, a7, a8, a9, a10, a11] [.int y, .int x, s1, s0] M 0 0 Z ↔ Run d 191 227 [a0, a1, a2, a3, a4, a5, a6, a7, a8, a9, a10, a11] [.int (x + y), s1, s0] M 0 0 Z := R_arith (gd191 dX9_does_226) rfl
theorem z191_227 : Run d 191 227 [a0, a1, a2, a3, a4, a5, a6, a7, a8, a9, a10, a11] [s2, s1, s0] M 0 0 Z ↔ Run d 191 229 [a0, a1, a2, a3, a4, a5, a6, a7, a8, a9, a10, a11] [.int 8, s2, s1, s0] M 0 0 Z := R_bipush (gd191 dX9_does_227) (by decide)
theorem z191_229 : Run d 191 229 [a0, a1, a2, a3, a4, a5, a6, a7, a8, a9, a10, a11] [.int y, .int x, s1, s0] M 0 0 Z ↔ Run d 191 230 [a0, a1, a2, a3, a4, a5, a6, a7, a8, a9, a10, a11] [.int (x + y), s1, s0] M 0 0 Z := R_arith (gd191 dX9_does_229) rfl
theorem z191_230 : Run d 191 230 [a0, a1, a2, a3, a4, a5, a6, a7, a8, a9, a10, a11] [s2, s1, s0] M 0 0 Z ↔ Run d 191 232 [a0, a1, a2, a3, a4, a5, a6, a7, a8, a9, a10, a11] [.int 8, s2, s1, s0] M 0 0 Z := R_bipush (gd191 dX9_does_230) (by decide)
theorem z191_232 (hy : ¬ y = 0) : Run d 191 232 [a0, a1, a2, a3, a4, a5, a6, a7, a8, a9, a10, a11] [.int y, .int x, s1, s0] M 0 0 Z ↔ Run d 191 233 [a0, a1, a2, a3, a4, a5, a6, a7, a8, a9, a10, a11] [.int (x - x / y * y), s1, s0] M 0 0 Z := R_rem (gd191 dX9_does_232) hy
theorem z191_233 : Run d 191 233 [a0, a1, a2, a3, a4, a5, a6, a7, a8, a9, a10, a11] [.int y, .int x, .ref o] M 0 0 Z ↔ gAr M o 0 ∧ gIn x (gLen M o) = true ∧ Run d 191 234 [a0, a1, a2, a3, a4, a5, a6, a7, a8, a9, a10, a11] [] (gsI M o x.toNatClampNeg y) 0 0 Z := R_iast (gd191 dX9_does_233)
theorem z191_234 : Run d 191 234 [a0, a1, a2, a3, a4, a5, a6, a7, a8, a9, some (.int x), a11] [] M 0 0 Z ↔ Run d 191 237 [a0, a1, a2, a3, a4, a5, a6, a7, a8, a9, some (.int (x + 1)), a11] [] M 0 0 Z := R_iinc (gd191 dX9_does_234) (by decide) rfl rfl
theorem z191_237 : Run d 191 237 [a0, a1, a2, a3, a4, a5, a6, a7, a8, a9, a10, a11] [] M 0 0 Z ↔ Run d 191 164 [a0, a1, a2, a3, a4, a5, a6, a7, a8, a9, a10, a11] [] M 0 0 Z := R_goto (gd191 dX9_does_237) (show gTgt 237 (-73) = some 164 by decide)
theorem z191_240 : Run d 191 240 [a0, a1, a2, a3, a4, a5, a6, a7, a8, some (.int x), a10, a11] [] M 0 0 Z ↔ Run d 191 242 [a0, a1, a2, a3, a4, a5, a6, a7, a8, some (.int x), a10, a11] [.int x] M 0 0 Z := R_local (gd191 dX9_does_240) rfl rfl rfl
theorem z191_242 : Run d 191 242 [a0, a1, a2, a3, a4, a5, a6, a7, some (.int x), a9, a10, a11] [s0] M 0 0 Z ↔ Run d 191 244 [a0, a1, a2, a3, a4, a5, a6, a7, some (.int x), a9, a10, a11] [.int x, s0] M 0 0 Z := R_local (gd191 dX9_does_242) rfl rfl rfl
theorem z191_244 : Run d 191 244 [a0, a1, a2, a3, a4, a5, a6, a7, a8, a9, a10, a11] [.int y, .int x] M 0 0 Z ↔ Run d 191 245 [a0, a1, a2, a3, a4, a5, a6, a7, a8, a9, a10, a11] [.int (x * y)] M 0 0 Z := R_arith (gd191 dX9_does_244) rfl
theorem z191_245 : Run d 191 245 [a0, a1, a2, a3, a4, a5, some (.int x), a7, a8, a9, a10, a11] [s0] M 0 0 Z ↔ Run d 191 247 [a0, a1, a2, a3, a4, a5, some (.int x), a7, a8, a9, a10, a11] [.int x, s0] M 0 0 Z := R_local (gd191 dX9_does_245) rfl rfl rfl
theorem z191_247 : Run d 191 247 [a0, a1, a2, a3, a4, a5, a6, a7, a8, a9, a10, a11] [.int y, .int x] M 0 0 Z ↔ (y < x → Run d 191 254 [a0, a1, a2, a3, a4, a5, a6, a7, a8, a9, a10, a11] [] M 0 0 Z) ∧ (¬ (y < x) → Run d 191 250 [a0, a1, a2, a3, a4, a5, a6, a7, a8, a9, a10, a11] [] M 0 0 Z) := R_icmp (gd191 dX9_does_247) (show gTgt 247 7 = some 254 by decide) gIf_gt
theorem z191_250 : Run d 191 250 [a0, a1, a2, a3, a4, a5, a6, a7, a8, a9, a10, a11] [] M 0 0 Z ↔ Run d 191 251 [a0, a1, a2, a3, a4, a5, a6, a7, a8, a9, a10, a11] [.int 1] M 0 0 Z := R_iconst (gd191 dX9_does_250) (by decide)
theorem z191_251 : Run d 191 251 [a0, a1, a2, a3, a4, a5, a6, a7, a8, a9, a10, a11] [s0] M 0 0 Z ↔ Run d 191 255 [a0, a1, a2, a3, a4, a5, a6, a7, a8, a9, a10, a11] [s0] M 0 0 Z := R_goto (gd191 dX9_does_251) (show gTgt 251 4 = some 255 by decide)
theorem z191_254 : Run d 191 254 [a0, a1, a2, a3, a4, a5, a6, a7, a8, a9, a10, a11] [] M 0 0 Z ↔ Run d 191 255 [a0, a1, a2, a3, a4, a5, a6, a7, a8, a9, a10, a11] [.int 0] M 0 0 Z := R_iconst (gd191 dX9_does_254) (by decide)
theorem z191_255 : Run d 191 255 [a0, a1, a2, a3, a4, a5, a6, a7, a8, a9, a10, a11] [.int x] M 0 0 Z ↔ (x = 0 ∨ x = 1) ∧ Z (some (.int x)) M := R_iretZ (gd191 dX9_does_255) rfl
theorem z191_256 : Run d 191 256 [a0, a1, a2, a3, some (.int x), a5, a6, a7, a8, a9, a10, a11] [] M 0 0 Z ↔ Run d 191 258 [a0, a1, a2, a3, some (.int x), a5, a6, a7, a8, a9, a10, a11] [.int x] M 0 0 Z := R_local (gd191 dX9_does_256) rfl rfl rfl
theorem z191_258 : Run d 191 258 [a0, a1, a2, a3, a4, a5, a6, a7, a8, a9, a10, a11] [.int x] M 0 0 Z ↔ (x = 4 → Run d 191 296 [a0, a1, a2, a3, a4, a5, a6, a7, a8, a9, a10, a11] [] M 0 0 Z) ∧ (¬ x = 4 → ((x = 5 → Run d 191 374 [a0, a1, a2, a3, a4, a5, a6, a7, a8, a9, a10, a11] [] M 0 0 Z) ∧ (¬ x = 5 → ((x = 6 → Run d 191 423 [a0, a1, a2, a3, a4, a5, a6, a7, a8, a9, a10, a11] [] M 0 0 Z) ∧ (¬ x = 6 → ((x = 7 → Run d 191 467 [a0, a1, a2, a3, a4, a5, a6, a7, a8, a9, a10, a11] [] M 0 0 Z) ∧ (¬ x = 7 → ((x = 8 → Run d 191 484 [a0, a1, a2, a3, a4, a5, a6, a7, a8, a9, a10, a11] [] M 0 0 Z) ∧ (¬ x = 8 → ((x = 9 → Run d 191 502 [a0, a1, a2, a3, a4, a5, a6, a7, a8, a9, a10, a11] [] M 0 0 Z) ∧ (¬ x = 9 → (Run d 191 579 [a0, a1, a2, a3, a4, a5, a6, a7, a8, a9, a10, a11] [] M 0 0 Z)))))))))))) := R_table (tbl := [(4, 296), (5, 374), (6, 423), (7, 467), (8, 484), (9, 502)]) (dt := 579) (gd191 dX9_does_258) (by decide) (by decide) (by decide)
theorem z191_296 : Run d 191 296 [a0, a1, a2, a3, a4, a5, a6, a7, a8, a9, a10, a11] [] M 0 0 Z ↔ Run d 191 297 [a0, a1, a2, a3, a4, a5, a6, a7, a8, a9, a10, a11] [.int 0] M 0 0 Z := R_iconst (gd191 dX9_does_296) (by decide)
theorem z191_297 : Run d 191 297 [a0, a1, a2, a3, a4, a5, a6, a7, a8, a9, a10, a11] [.int x] M 0 0 Z ↔ Run d 191 299 [a0, a1, a2, a3, a4, a5, a6, a7, some (.int x), a9, a10, a11] [] M 0 0 Z := R_local (gd191 dX9_does_297) rfl rfl rfl
theorem z191_299 : Run d 191 299 [a0, a1, a2, a3, a4, a5, a6, a7, some (.int x), a9, a10, a11] [] M 0 0 Z ↔ Run d 191 301 [a0, a1, a2, a3, a4, a5, a6, a7, some (.int x), a9, a10, a11] [.int x] M 0 0 Z := R_local (gd191 dX9_does_299) rfl rfl rfl
theorem z191_301 : Run d 191 301 [a0, a1, a2, a3, a4, a5, a6, a7, a8, a9, a10, a11] [s0] M 0 0 Z ↔ Run d 191 302 [a0, a1, a2, a3, a4, a5, a6, a7, a8, a9, a10, a11] [.int 4, s0] M 0 0 Z := R_iconst (gd191 dX9_does_301) (by decide)
theorem z191_302 : Run d 191 302 [a0, a1, a2, a3, a4, a5, a6, a7, a8, a9, a10, a11] [.int y, .int x] M 0 0 Z ↔ (y ≤ x → Run d 191 361 [a0, a1, a2, a3, a4, a5, a6, a7, a8, a9, a10, a11] [] M 0 0 Z) ∧ (¬ (y ≤ x) → Run d 191 305 [a0, a1, a2, a3, a4, a5, a6, a7, a8, a9, a10, a11] [] M 0 0 Z) := R_icmp (gd191 dX9_does_302) (show gTgt 302 59 = some 361 by decide) gIf_ge
theorem z191_305 : Run d 191 305 [a0, a1, a2, a3, a4, a5, some (.int x), a7, a8, a9, a10, a11] [] M 0 0 Z ↔ Run d 191 307 [a0, a1, a2, a3, a4, a5, some (.int x), a7, a8, a9, a10, a11] [.int x] M 0 0 Z := R_local (gd191 dX9_does_305) rfl rfl rfl
theorem z191_307 : Run d 191 307 [a0, a1, a2, a3, a4, a5, a6, a7, a8, a9, a10, a11] [s0] M 0 0 Z ↔ Run d 191 309 [a0, a1, a2, a3, a4, a5, a6, a7, a8, a9, a10, a11] [.int 8, s0] M 0 0 Z := R_bipush (gd191 dX9_does_307) (by decide)
theorem z191_309 : Run d 191 309 [a0, a1, a2, a3, a4, a5, a6, a7, a8, a9, a10, a11] [.int y, .int x] M 0 0 Z ↔ (x < y → Run d 191 361 [a0, a1, a2, a3, a4, a5, a6, a7, a8, a9, a10, a11] [] M 0 0 Z) ∧ (¬ (x < y) → Run d 191 312 [a0, a1, a2, a3, a4, a5, a6, a7, a8, a9, a10, a11] [] M 0 0 Z) := R_icmp (gd191 dX9_does_309) (show gTgt 309 52 = some 361 by decide) gIf_lt
theorem z191_312 : Run d 191 312 [some (.ref o), a1, a2, a3, a4, a5, a6, a7, a8, a9, a10, a11] [] M 0 0 Z ↔ Run d 191 313 [some (.ref o), a1, a2, a3, a4, a5, a6, a7, a8, a9, a10, a11] [.ref o] M 0 0 Z := R_local (gd191 dX9_does_312) rfl rfl rfl
theorem z191_313 : Run d 191 313 [a0, a1, a2, a3, a4, some (.int x), a6, a7, a8, a9, a10, a11] [s0] M 0 0 Z ↔ Run d 191 315 [a0, a1, a2, a3, a4, some (.int x), a6, a7, a8, a9, a10, a11] [.int x, s0] M 0 0 Z := R_local (gd191 dX9_does_313) rfl rfl rfl
theorem z191_315 : Run d 191 315 [a0, a1, some (.int x), a3, a4, a5, a6, a7, a8, a9, a10, a11] [s1, s0] M 0 0 Z ↔ Run d 191 316 [a0, a1, some (.int x), a3, a4, a5, a6, a7, a8, a9, a10, a11] [.int x, s1, s0] M 0 0 Z := R_local (gd191 dX9_does_315) rfl rfl rfl
theorem z191_316 : Run d 191 316 [some (.ref o), a1, a2, a3, a4, a5, a6, a7, a8, a9, a10, a11] [s2, s1, s0] M 0 0 Z ↔ Run d 191 317 [some (.ref o), a1, a2, a3, a4, a5, a6, a7, a8, a9, a10, a11] [.ref o, s2, s1, s0] M 0 0 Z := R_local (gd191 dX9_does_316) rfl rfl rfl
theorem z191_317 : Run d 191 317 [a0, a1, a2, a3, a4, a5, a6, a7, a8, a9, a10, a11] [.ref o, s2, s1, s0] M 0 0 Z ↔ gObj M o 9 ∧ Run d 191 320 [a0, a1, a2, a3, a4, a5, a6, a7, a8, a9, a10, a11] [va_rf (M.2.1 o 64), s2, s1, s0] M 0 0 Z := R_getR (gd191 dX9_does_317) rfl gf_9_132 rfl
theorem z191_320 : Run d 191 320 [a0, a1, a2, a3, a4, some (.int x), a6, a7, a8, a9, a10, a11] [s3, s2, s1, s0] M 0 0 Z ↔ Run d 191 322 [a0, a1, a2, a3, a4, some (.int x), a6, a7, a8, a9, a10, a11] [.int x, s3, s2, s1, s0] M 0 0 Z := R_local (gd191 dX9_does_320) rfl rfl rfl
theorem z191_322 : Run d 191 322 [a0, a1, a2, a3, a4, a5, a6, a7, a8, a9, a10, a11] [.int x, .ref o, s2, s1, s0] M 0 0 Z ↔ gAr M o 0 ∧ gIn x (gLen M o) = true ∧ Run d 191 323 [a0, a1, a2, a3, a4, a5, a6, a7, a8, a9, a10, a11] [.int (M.1 o x.toNatClampNeg), s2, s1, s0] M 0 0 Z := R_iald (gd191 dX9_does_322)
theorem z191_323 : Run d 191 323 [a0, a1, a2, a3, a4, a5, a6, some (.int x), a8, a9, a10, a11] [s3, s2, s1, s0] M 0 0 Z ↔ Run d 191 325 [a0, a1, a2, a3, a4, a5, a6, some (.int x), a8, a9, a10, a11] [.int x, s3, s2, s1, s0] M 0 0 Z := R_local (gd191 dX9_does_323) rfl rfl rfl
theorem z191_325 : Run d 191 325 [a0, a1, a2, a3, a4, a5, a6, a7, a8, a9, a10, a11] [s4, s3, s2, s1, s0] M 0 0 Z ↔ Run d 191 326 [a0, a1, a2, a3, a4, a5, a6, a7, a8, a9, a10, a11] [.int 2, s4, s3, s2, s1, s0] M 0 0 Z := R_iconst (gd191 dX9_does_325) (by decide)
theorem z191_326 : Run d 191 326 [a0, a1, a2, a3, a4, a5, a6, a7, some (.int x), a9, a10, a11] [s5, s4, s3, s2, s1, s0] M 0 0 Z ↔ Run d 191 328 [a0, a1, a2, a3, a4, a5, a6, a7, some (.int x), a9, a10, a11] [.int x, s5, s4, s3, s2, s1, s0] M 0 0 Z := R_local (gd191 dX9_does_326) rfl rfl rfl
theorem z191_328 : Run d 191 328 [a0, a1, a2, a3, a4, a5, a6, a7, a8, a9, a10, a11] [s6, s5, s4, s3, s2, s1, s0] M 0 0 Z ↔ Run d 191 329 [a0, a1, a2, a3, a4, a5, a6, a7, a8, a9, a10, a11] [.int 2, s6, s5, s4, s3, s2, s1, s0] M 0 0 Z := R_iconst (gd191 dX9_does_328) (by decide)
theorem z191_329 (hy : ¬ y = 0) : Run d 191 329 [a0, a1, a2, a3, a4, a5, a6, a7, a8, a9, a10, a11] [.int y, .int x, s5, s4, s3, s2, s1, s0] M 0 0 Z ↔ Run d 191 330 [a0, a1, a2, a3, a4, a5, a6, a7, a8, a9, a10, a11] [.int (x - x / y * y), s5, s4, s3, s2, s1, s0] M 0 0 Z := R_rem (gd191 dX9_does_329) hy
theorem z191_330 : Run d 191 330 [a0, a1, a2, a3, a4, a5, a6, a7, a8, a9, a10, a11] [.int x, s5, s4, s3, s2, s1, s0] M 0 0 Z ↔ (¬ x = 0 → Run d 191 345 [a0, a1, a2, a3, a4, a5, a6, a7, a8, a9, a10, a11] [s5, s4, s3, s2, s1, s0] M 0 0 Z) ∧ (¬ (¬ x = 0) → Run d 191 333 [a0, a1, a2, a3, a4, a5, a6, a7, a8, a9, a10, a11] [s5, s4, s3, s2, s1, s0] M 0 0 Z) := R_if (gd191 dX9_does_330) (show gTgt 330 15 = some 345 by decide) gIf_ne
theorem z191_333 : Run d 191 333 [a0, a1, a2, a3, a4, a5, a6, a7, a8, a9, a10, a11] [s5, s4, s3, s2, s1, s0] M 0 0 Z ↔ Run d 191 334 [a0, a1, a2, a3, a4, a5, a6, a7, a8, a9, a10, a11] [.int 1, s5, s4, s3, s2, s1, s0] M 0 0 Z := R_iconst (gd191 dX9_does_333) (by decide)
theorem z191_334 : Run d 191 334 [some (.ref o), a1, a2, a3, a4, a5, a6, a7, a8, a9, a10, a11] [s6, s5, s4, s3, s2, s1, s0] M 0 0 Z ↔ Run d 191 335 [some (.ref o), a1, a2, a3, a4, a5, a6, a7, a8, a9, a10, a11] [.ref o, s6, s5, s4, s3, s2, s1, s0] M 0 0 Z := R_local (gd191 dX9_does_334) rfl rfl rfl
theorem z191_335 : Run d 191 335 [a0, a1, a2, a3, a4, a5, a6, a7, a8, a9, a10, a11] [.ref o, s6, s5, s4, s3, s2, s1, s0] M 0 0 Z ↔ gObj M o 9 ∧ Run d 191 338 [a0, a1, a2, a3, a4, a5, a6, a7, a8, a9, a10, a11] [va_rf (M.2.1 o 67), s6, s5, s4, s3, s2, s1, s0] M 0 0 Z := R_getR (gd191 dX9_does_335) rfl gf_9_141 rfl
theorem z191_338 : Run d 191 338 [a0, a1, a2, a3, a4, some (.int x), a6, a7, a8, a9, a10, a11] [s7, s6, s5, s4, s3, s2, s1, s0] M 0 0 Z ↔ Run d 191 340 [a0, a1, a2, a3, a4, some (.int x), a6, a7, a8, a9, a10, a11] [.int x, s7, s6, s5, s4, s3, s2, s1, s0] M 0 0 Z := R_local (gd191 dX9_does_338) rfl rfl rfl
theorem z191_340 : Run d 191 340 [a0, a1, a2, a3, a4, a5, a6, a7, a8, a9, a10, a11] [.int x, .ref o, s6, s5, s4, s3, s2, s1, s0] M 0 0 Z ↔ gAr M o 0 ∧ gIn x (gLen M o) = true ∧ Run d 191 341 [a0, a1, a2, a3, a4, a5, a6, a7, a8, a9, a10, a11] [.int (M.1 o x.toNatClampNeg), s6, s5, s4, s3, s2, s1, s0] M 0 0 Z := R_iald (gd191 dX9_does_340)
theorem z191_341 : Run d 191 341 [a0, a1, a2, a3, a4, a5, a6, a7, a8, a9, a10, a11] [.int y, .int x, s5, s4, s3, s2, s1, s0] M 0 0 Z ↔ Run d 191 342 [a0, a1, a2, a3, a4, a5, a6, a7, a8, a9, a10, a11] [.int (x - y), s5, s4, s3, s2, s1, s0] M 0 0 Z := R_arith (gd191 dX9_does_341) rfl
theorem z191_342 : Run d 191 342 [a0, a1, a2, a3, a4, a5, a6, a7, a8, a9, a10, a11] [s6, s5, s4, s3, s2, s1, s0] M 0 0 Z ↔ Run d 191 352 [a0, a1, a2, a3, a4, a5, a6, a7, a8, a9, a10, a11] [s6, s5, s4, s3, s2, s1, s0] M 0 0 Z := R_goto (gd191 dX9_does_342) (show gTgt 342 10 = some 352 by decide)
theorem z191_345 : Run d 191 345 [some (.ref o), a1, a2, a3, a4, a5, a6, a7, a8, a9, a10, a11] [s5, s4, s3, s2, s1, s0] M 0 0 Z ↔ Run d 191 346 [some (.ref o), a1, a2, a3, a4, a5, a6, a7, a8, a9, a10, a11] [.ref o, s5, s4, s3, s2, s1, s0] M 0 0 Z := R_local (gd191 dX9_does_345) rfl rfl rfl
theorem z191_346 : Run d 191 346 [a0, a1, a2, a3, a4, a5, a6, a7, a8, a9, a10, a11] [.ref o, s5, s4, s3, s2, s1, s0] M 0 0 Z ↔ gObj M o 9 ∧ Run d 191 349 [a0, a1, a2, a3, a4, a5, a6, a7, a8, a9, a10, a11] [va_rf (M.2.1 o 67), s5, s4, s3, s2, s1, s0] M 0 0 Z := R_getR (gd191 dX9_does_346) rfl gf_9_141 rfl
theorem z191_349 : Run d 191 349 [a0, a1, a2, a3, a4, some (.int x), a6, a7, a8, a9, a10, a11] [s6, s5, s4, s3, s2, s1, s0] M 0 0 Z ↔ Run d 191 351 [a0, a1, a2, a3, a4, some (.int x), a6, a7, a8, a9, a10, a11] [.int x, s6, s5, s4, s3, s2, s1, s0] M 0 0 Z := R_local (gd191 dX9_does_349) rfl rfl rfl
theorem z191_351 : Run d 191 351 [a0, a1, a2, a3, a4, a5, a6, a7, a8, a9, a10, a11] [.int x, .ref o, s5, s4, s3, s2, s1, s0] M 0 0 Z ↔ gAr M o 0 ∧ gIn x (gLen M o) = true ∧ Run d 191 352 [a0, a1, a2, a3, a4, a5, a6, a7, a8, a9, a10, a11] [.int (M.1 o x.toNatClampNeg), s5, s4, s3, s2, s1, s0] M 0 0 Z := R_iald (gd191 dX9_does_351)
theorem z191_352 : Run d 191 352 [a0, a1, a2, a3, a4, a5, a6, a7, a8, a9, a10, a11] [s6, s5, s4, s3, s2, s1, .ref b] M 0 0 Z ↔ gObj M b 9 ∧ Call d 190 [.ref b, s1, s2, s3, s4, s5, s6] M (fun r M1 => Run d 191 355 [a0, a1, a2, a3, a4, a5, a6, a7, a8, a9, a10, a11] (r.toList ++ []) M1 0 0 Z) := R_callV (gd191 dX9_does_352) rfl rfl rfl rfl rfl rfl gc_9_388 rfl rfl (Nat.le_of_ble_eq_true rfl) (Nat.le_of_ble_eq_true rfl) rfl rfl (Nat.le_of_ble_eq_true rfl) (Nat.le_of_ble_eq_true rfl)
theorem z191_355 : Run d 191 355 [a0, a1, a2, a3, a4, a5, a6, a7, some (.int x), a9, a10, a11] [] M 0 0 Z ↔ Run d 191 358 [a0, a1, a2, a3, a4, a5, a6, a7, some (.int (x + 1)), a9, a10, a11] [] M 0 0 Z := R_iinc (gd191 dX9_does_355) (by decide) rfl rfl
theorem z191_358 : Run d 191 358 [a0, a1, a2, a3, a4, a5, a6, a7, a8, a9, a10, a11] [] M 0 0 Z ↔ Run d 191 299 [a0, a1, a2, a3, a4, a5, a6, a7, a8, a9, a10, a11] [] M 0 0 Z := R_goto (gd191 dX9_does_358) (show gTgt 358 (-59) = some 299 by decide)
theorem z191_361 : Run d 191 361 [a0, a1, a2, a3, a4, a5, some (.int x), a7, a8, a9, a10, a11] [] M 0 0 Z ↔ Run d 191 363 [a0, a1, a2, a3, a4, a5, some (.int x), a7, a8, a9, a10, a11] [.int x] M 0 0 Z := R_local (gd191 dX9_does_361) rfl rfl rfl
theorem z191_363 : Run d 191 363 [a0, a1, a2, a3, a4, a5, a6, a7, a8, a9, a10, a11] [s0] M 0 0 Z ↔ Run d 191 365 [a0, a1, a2, a3, a4, a5, a6, a7, a8, a9, a10, a11] [.int 8, s0] M 0 0 Z := R_bipush (gd191 dX9_does_363) (by decide)
theorem z191_365 : Run d 191 365 [a0, a1, a2, a3, a4, a5, a6, a7, a8, a9, a10, a11] [.int y, .int x] M 0 0 Z ↔ (x < y → Run d 191 372 [a0, a1, a2, a3, a4, a5, a6, a7, a8, a9, a10, a11] [] M 0 0 Z) ∧ (¬ (x < y) → Run d 191 368 [a0, a1, a2, a3, a4, a5, a6, a7, a8, a9, a10, a11] [] M 0 0 Z) := R_icmp (gd191 dX9_does_365) (show gTgt 365 7 = some 372 by decide) gIf_lt
theorem z191_368 : Run d 191 368 [a0, a1, a2, a3, a4, a5, a6, a7, a8, a9, a10, a11] [] M 0 0 Z ↔ Run d 191 369 [a0, a1, a2, a3, a4, a5, a6, a7, a8, a9, a10, a11] [.int 1] M 0 0 Z := R_iconst (gd191 dX9_does_368) (by decide)
theorem z191_369 : Run d 191 369 [a0, a1, a2, a3, a4, a5, a6, a7, a8, a9, a10, a11] [s0] M 0 0 Z ↔ Run d 191 373 [a0, a1, a2, a3, a4, a5, a6, a7, a8, a9, a10, a11] [s0] M 0 0 Z := R_goto (gd191 dX9_does_369) (show gTgt 369 4 = some 373 by decide)
theorem z191_372 : Run d 191 372 [a0, a1, a2, a3, a4, a5, a6, a7, a8, a9, a10, a11] [] M 0 0 Z ↔ Run d 191 373 [a0, a1, a2, a3, a4, a5, a6, a7, a8, a9, a10, a11] [.int 0] M 0 0 Z := R_iconst (gd191 dX9_does_372) (by decide)
theorem z191_373 : Run d 191 373 [a0, a1, a2, a3, a4, a5, a6, a7, a8, a9, a10, a11] [.int x] M 0 0 Z ↔ (x = 0 ∨ x = 1) ∧ Z (some (.int x)) M := R_iretZ (gd191 dX9_does_373) rfl
theorem z191_374 : Run d 191 374 [some (.ref o), a1, a2, a3, a4, a5, a6, a7, a8, a9, a10, a11] [] M 0 0 Z ↔ Run d 191 375 [some (.ref o), a1, a2, a3, a4, a5, a6, a7, a8, a9, a10, a11] [.ref o] M 0 0 Z := R_local (gd191 dX9_does_374) rfl rfl rfl
theorem z191_375 : Run d 191 375 [a0, a1, a2, a3, a4, a5, a6, a7, a8, a9, a10, a11] [.ref o] M 0 0 Z ↔ gObj M o 9 ∧ Run d 191 378 [a0, a1, a2, a3, a4, a5, a6, a7, a8, a9, a10, a11] [va_rf (M.2.1 o 64)] M 0 0 Z := R_getR (gd191 dX9_does_375) rfl gf_9_132 rfl
theorem z191_378 : Run d 191 378 [a0, a1, a2, a3, a4, some (.int x), a6, a7, a8, a9, a10, a11] [s0] M 0 0 Z ↔ Run d 191 380 [a0, a1, a2, a3, a4, some (.int x), a6, a7, a8, a9, a10, a11] [.int x, s0] M 0 0 Z := R_local (gd191 dX9_does_378) rfl rfl rfl
theorem z191_380 : Run d 191 380 [a0, a1, a2, a3, a4, a5, a6, a7, a8, a9, a10, a11] [.int y, .ref o] M 0 0 Z ↔ Run d 191 381 [a0, a1, a2, a3, a4, a5, a6, a7, a8, a9, a10, a11] [.int y, .ref o, .int y, .ref o] M 0 0 Z := R_arith (gd191 dX9_does_380) rfl
theorem z191_381 : Run d 191 381 [a0, a1, a2, a3, a4, a5, a6, a7, a8, a9, a10, a11] [.int x, .ref o, s1, s0] M 0 0 Z ↔ gAr M o 0 ∧ gIn x (gLen M o) = true ∧ Run d 191 382 [a0, a1, a2, a3, a4, a5, a6, a7, a8, a9, a10, a11] [.int (M.1 o x.toNatClampNeg), s1, s0] M 0 0 Z := R_iald (gd191 dX9_does_381)
theorem z191_382 : Run d 191 382 [a0, a1, a2, a3, a4, a5, a6, a7, a8, a9, a10, a11] [s2, s1, s0] M 0 0 Z ↔ Run d 191 383 [a0, a1, a2, a3, a4, a5, a6, a7, a8, a9, a10, a11] [.int 1, s2, s1, s0] M 0 0 Z := R_iconst (gd191 dX9_does_382) (by decide)
theorem z191_383 : Run d 191 383 [a0, a1, a2, a3, a4, a5, a6, a7, a8, a9, a10, a11] [.int y, .int x, s1, s0] M 0 0 Z ↔ Run d 191 384 [a0, a1, a2, a3, a4, a5, a6, a7, a8, a9, a10, a11] [.int (x + y), s1, s0] M 0 0 Z := R_arith (gd191 dX9_does_383) rfl
theorem z191_384 : Run d 191 384 [a0, a1, a2, a3, a4, a5, a6, a7, a8, a9, a10, a11] [.int y, .int x, .ref o] M 0 0 Z ↔ gAr M o 0 ∧ gIn x (gLen M o) = true ∧ Run d 191 385 [a0, a1, a2, a3, a4, a5, a6, a7, a8, a9, a10, a11] [] (gsI M o x.toNatClampNeg y) 0 0 Z := R_iast (gd191 dX9_does_384)
theorem z191_385 : Run d 191 385 [some (.ref o), a1, a2, a3, a4, a5, a6, a7, a8, a9, a10, a11] [] M 0 0 Z ↔ Run d 191 386 [some (.ref o), a1, a2, a3, a4, a5, a6, a7, a8, a9, a10, a11] [.ref o] M 0 0 Z := R_local (gd191 dX9_does_385) rfl rfl rfl
theorem z191_386 : Run d 191 386 [a0, a1, a2, a3, a4, a5, a6, a7, a8, a9, a10, a11] [.ref o] M 0 0 Z ↔ gObj M o 9 ∧ Run d 191 389 [a0, a1, a2, a3, a4, a5, a6, a7, a8, a9, a10, a11] [va_rf (M.2.1 o 63)] M 0 0 Z := R_getR (gd191 dX9_does_386) rfl gf_9_129 rfl
theorem z191_389 : Run d 191 389 [a0, a1, a2, a3, a4, some (.int x), a6, a7, a8, a9, a10, a11] [s0] M 0 0 Z ↔ Run d 191 391 [a0, a1, a2, a3, a4, some (.int x), a6, a7, a8, a9, a10, a11] [.int x, s0] M 0 0 Z := R_local (gd191 dX9_does_389) rfl rfl rfl
theorem z191_391 : Run d 191 391 [a0, a1, a2, a3, a4, a5, a6, a7, a8, a9, a10, a11] [.int y, .ref o] M 0 0 Z ↔ Run d 191 392 [a0, a1, a2, a3, a4, a5, a6, a7, a8, a9, a10, a11] [.int y, .ref o, .int y, .ref o] M 0 0 Z := R_arith (gd191 dX9_does_391) rfl
theorem z191_392 : Run d 191 392 [a0, a1, a2, a3, a4, a5, a6, a7, a8, a9, a10, a11] [.int x, .ref o, s1, s0] M 0 0 Z ↔ gAr M o 0 ∧ gIn x (gLen M o) = true ∧ Run d 191 393 [a0, a1, a2, a3, a4, a5, a6, a7, a8, a9, a10, a11] [.int (M.1 o x.toNatClampNeg), s1, s0] M 0 0 Z := R_iald (gd191 dX9_does_392)
theorem z191_393 : Run d 191 393 [a0, a1, a2, a3, a4, a5, a6, a7, a8, a9, a10, a11] [s2, s1, s0] M 0 0 Z ↔ Run d 191 394 [a0, a1, a2, a3, a4, a5, a6, a7, a8, a9, a10, a11] [.int 1, s2, s1, s0] M 0 0 Z := R_iconst (gd191 dX9_does_393) (by decide)
theorem z191_394 : Run d 191 394 [a0, a1, a2, a3, a4, a5, a6, a7, a8, a9, a10, a11] [.int y, .int x, s1, s0] M 0 0 Z ↔ Run d 191 395 [a0, a1, a2, a3, a4, a5, a6, a7, a8, a9, a10, a11] [.int (x + y), s1, s0] M 0 0 Z := R_arith (gd191 dX9_does_394) rfl
theorem z191_395 : Run d 191 395 [a0, a1, a2, a3, a4, a5, a6, a7, a8, a9, a10, a11] [.int y, .int x, .ref o] M 0 0 Z ↔ gAr M o 0 ∧ gIn x (gLen M o) = true ∧ Run d 191 396 [a0, a1, a2, a3, a4, a5, a6, a7, a8, a9, a10, a11] [] (gsI M o x.toNatClampNeg y) 0 0 Z := R_iast (gd191 dX9_does_395)
theorem z191_396 : Run d 191 396 [some (.ref o), a1, a2, a3, a4, a5, a6, a7, a8, a9, a10, a11] [] M 0 0 Z ↔ Run d 191 397 [some (.ref o), a1, a2, a3, a4, a5, a6, a7, a8, a9, a10, a11] [.ref o] M 0 0 Z := R_local (gd191 dX9_does_396) rfl rfl rfl
theorem z191_397 : Run d 191 397 [a0, a1, a2, a3, a4, a5, a6, a7, a8, a9, a10, a11] [.ref o] M 0 0 Z ↔ gObj M o 9 ∧ Run d 191 400 [a0, a1, a2, a3, a4, a5, a6, a7, a8, a9, a10, a11] [va_rf (M.2.1 o 64)] M 0 0 Z := R_getR (gd191 dX9_does_397) rfl gf_9_132 rfl
theorem z191_400 : Run d 191 400 [a0, a1, a2, a3, a4, some (.int x), a6, a7, a8, a9, a10, a11] [s0] M 0 0 Z ↔ Run d 191 402 [a0, a1, a2, a3, a4, some (.int x), a6, a7, a8, a9, a10, a11] [.int x, s0] M 0 0 Z := R_local (gd191 dX9_does_400) rfl rfl rfl
theorem z191_402 : Run d 191 402 [a0, a1, a2, a3, a4, a5, a6, a7, a8, a9, a10, a11] [.int x, .ref o] M 0 0 Z ↔ gAr M o 0 ∧ gIn x (gLen M o) = true ∧ Run d 191 403 [a0, a1, a2, a3, a4, a5, a6, a7, a8, a9, a10, a11] [.int (M.1 o x.toNatClampNeg)] M 0 0 Z := R_iald (gd191 dX9_does_402)
theorem z191_403 : Run d 191 403 [a0, a1, a2, a3, a4, a5, a6, some (.int x), a8, a9, a10, a11] [s0] M 0 0 Z ↔ Run d 191 405 [a0, a1, a2, a3, a4, a5, a6, some (.int x), a8, a9, a10, a11] [.int x, s0] M 0 0 Z := R_local (gd191 dX9_does_403) rfl rfl rfl
theorem z191_405 : Run d 191 405 [a0, a1, a2, a3, a4, a5, a6, a7, a8, a9, a10, a11] [.int y, .int x] M 0 0 Z ↔ Run d 191 406 [a0, a1, a2, a3, a4, a5, a6, a7, a8, a9, a10, a11] [.int (x + y)] M 0 0 Z := R_arith (gd191 dX9_does_405) rfl
theorem z191_406 : Run d 191 406 [a0, a1, a2, a3, a4, a5, a6, a7, a8, a9, a10, a11] [s0] M 0 0 Z ↔ Run d 191 408 [a0, a1, a2, a3, a4, a5, a6, a7, a8, a9, a10, a11] [.int 8, s0] M 0 0 Z := R_bipush (gd191 dX9_does_406) (by decide)
theorem z191_408 : Run d 191 408 [a0, a1, a2, a3, a4, a5, a6, a7, a8, a9, a10, a11] [.int y, .int x] M 0 0 Z ↔ (y < x → Run d 191 421 [a0, a1, a2, a3, a4, a5, a6, a7, a8, a9, a10, a11] [] M 0 0 Z) ∧ (¬ (y < x) → Run d 191 411 [a0, a1, a2, a3, a4, a5, a6, a7, a8, a9, a10, a11] [] M 0 0 Z) := R_icmp (gd191 dX9_does_408) (show gTgt 408 13 = some 421 by decide) gIf_gt
theorem z191_411 : Run d 191 411 [a0, a1, a2, a3, a4, a5, some (.int x), a7, a8, a9, a10, a11] [] M 0 0 Z ↔ Run d 191 413 [a0, a1, a2, a3, a4, a5, some (.int x), a7, a8, a9, a10, a11] [.int x] M 0 0 Z := R_local (gd191 dX9_does_411) rfl rfl rfl
theorem z191_413 : Run d 191 413 [a0, a1, a2, a3, a4, a5, a6, a7, a8, a9, a10, a11] [s0] M 0 0 Z ↔ Run d 191 414 [a0, a1, a2, a3, a4, a5, a6, a7, a8, a9, a10, a11] [.int 1, s0] M 0 0 Z := R_iconst (gd191 dX9_does_413) (by decide)
theorem z191_414 : Run d 191 414 [a0, a1, a2, a3, a4, a5, a6, a7, a8, a9, a10, a11] [.int y, .int x] M 0 0 Z ↔ (x < y → Run d 191 421 [a0, a1, a2, a3, a4, a5, a6, a7, a8, a9, a10, a11] [] M 0 0 Z) ∧ (¬ (x < y) → Run d 191 417 [a0, a1, a2, a3, a4, a5, a6, a7, a8, a9, a10, a11] [] M 0 0 Z) := R_icmp (gd191 dX9_does_414) (show gTgt 414 7 = some 421 by decide) gIf_lt
theorem z191_417 : Run d 191 417 [a0, a1, a2, a3, a4, a5, a6, a7, a8, a9, a10, a11] [] M 0 0 Z ↔ Run d 191 418 [a0, a1, a2, a3, a4, a5, a6, a7, a8, a9, a10, a11] [.int 1] M 0 0 Z := R_iconst (gd191 dX9_does_417) (by decide)
theorem z191_418 : Run d 191 418 [a0, a1, a2, a3, a4, a5, a6, a7, a8, a9, a10, a11] [s0] M 0 0 Z ↔ Run d 191 422 [a0, a1, a2, a3, a4, a5, a6, a7, a8, a9, a10, a11] [s0] M 0 0 Z := R_goto (gd191 dX9_does_418) (show gTgt 418 4 = some 422 by decide)
theorem z191_421 : Run d 191 421 [a0, a1, a2, a3, a4, a5, a6, a7, a8, a9, a10, a11] [] M 0 0 Z ↔ Run d 191 422 [a0, a1, a2, a3, a4, a5, a6, a7, a8, a9, a10, a11] [.int 0] M 0 0 Z := R_iconst (gd191 dX9_does_421) (by decide)
theorem z191_422 : Run d 191 422 [a0, a1, a2, a3, a4, a5, a6, a7, a8, a9, a10, a11] [.int x] M 0 0 Z ↔ (x = 0 ∨ x = 1) ∧ Z (some (.int x)) M := R_iretZ (gd191 dX9_does_422) rfl
theorem z191_423 : Run d 191 423 [some (.ref o), a1, a2, a3, a4, a5, a6, a7, a8, a9, a10, a11] [] M 0 0 Z ↔ Run d 191 424 [some (.ref o), a1, a2, a3, a4, a5, a6, a7, a8, a9, a10, a11] [.ref o] M 0 0 Z := R_local (gd191 dX9_does_423) rfl rfl rfl
theorem z191_424 : Run d 191 424 [a0, a1, a2, a3, a4, a5, a6, a7, a8, a9, a10, a11] [.ref o] M 0 0 Z ↔ gObj M o 9 ∧ Run d 191 427 [a0, a1, a2, a3, a4, a5, a6, a7, a8, a9, a10, a11] [va_rf (M.2.1 o 64)] M 0 0 Z := R_getR (gd191 dX9_does_424) rfl gf_9_132 rfl
theorem z191_427 : Run d 191 427 [a0, a1, a2, a3, a4, some (.int x), a6, a7, a8, a9, a10, a11] [s0] M 0 0 Z ↔ Run d 191 429 [a0, a1, a2, a3, a4, some (.int x), a6, a7, a8, a9, a10, a11] [.int x, s0] M 0 0 Z := R_local (gd191 dX9_does_427) rfl rfl rfl
theorem z191_429 : Run d 191 429 [a0, a1, a2, a3, a4, a5, a6, a7, a8, a9, a10, a11] [.int y, .ref o] M 0 0 Z ↔ Run d 191 430 [a0, a1, a2, a3, a4, a5, a6, a7, a8, a9, a10, a11] [.int y, .ref o, .int y, .ref o] M 0 0 Z := R_arith (gd191 dX9_does_429) rfl
theorem z191_430 : Run d 191 430 [a0, a1, a2, a3, a4, a5, a6, a7, a8, a9, a10, a11] [.int x, .ref o, s1, s0] M 0 0 Z ↔ gAr M o 0 ∧ gIn x (gLen M o) = true ∧ Run d 191 431 [a0, a1, a2, a3, a4, a5, a6, a7, a8, a9, a10, a11] [.int (M.1 o x.toNatClampNeg), s1, s0] M 0 0 Z := R_iald (gd191 dX9_does_430)
theorem z191_431 : Run d 191 431 [a0, a1, a2, a3, a4, a5, a6, a7, a8, a9, a10, a11] [s2, s1, s0] M 0 0 Z ↔ Run d 191 432 [a0, a1, a2, a3, a4, a5, a6, a7, a8, a9, a10, a11] [.int 1, s2, s1, s0] M 0 0 Z := R_iconst (gd191 dX9_does_431) (by decide)
theorem z191_432 : Run d 191 432 [a0, a1, a2, a3, a4, a5, a6, a7, a8, a9, a10, a11] [.int y, .int x, s1, s0] M 0 0 Z ↔ Run d 191 433 [a0, a1, a2, a3, a4, a5, a6, a7, a8, a9, a10, a11] [.int (x - y), s1, s0] M 0 0 Z := R_arith (gd191 dX9_does_432) rfl
theorem z191_433 : Run d 191 433 [a0, a1, a2, a3, a4, a5, a6, a7, a8, a9, a10, a11] [.int y, .int x, .ref o] M 0 0 Z ↔ gAr M o 0 ∧ gIn x (gLen M o) = true ∧ Run d 191 434 [a0, a1, a2, a3, a4, a5, a6, a7, a8, a9, a10, a11] [] (gsI M o x.toNatClampNeg y) 0 0 Z := R_iast (gd191 dX9_does_433)
theorem z191_434 : Run d 191 434 [some (.ref o), a1, a2, a3, a4, a5, a6, a7, a8, a9, a10, a11] [] M 0 0 Z ↔ Run d 191 435 [some (.ref o), a1, a2, a3, a4, a5, a6, a7, a8, a9, a10, a11] [.ref o] M 0 0 Z := R_local (gd191 dX9_does_434) rfl rfl rfl
theorem z191_435 : Run d 191 435 [a0, a1, a2, a3, a4, a5, a6, a7, a8, a9, a10, a11] [.ref o] M 0 0 Z ↔ gObj M o 9 ∧ Run d 191 438 [a0, a1, a2, a3, a4, a5, a6, a7, a8, a9, a10, a11] [va_rf (M.2.1 o 63)] M 0 0 Z := R_getR (gd191 dX9_does_435) rfl gf_9_129 rfl
theorem z191_438 : Run d 191 438 [a0, a1, a2, a3, a4, some (.int x), a6, a7, a8, a9, a10, a11] [s0] M 0 0 Z ↔ Run d 191 440 [a0, a1, a2, a3, a4, some (.int x), a6, a7, a8, a9, a10, a11] [.int x, s0] M 0 0 Z := R_local (gd191 dX9_does_438) rfl rfl rfl
theorem z191_440 : Run d 191 440 [a0, a1, a2, a3, a4, a5, a6, a7, a8, a9, a10, a11] [.int y, .ref o] M 0 0 Z ↔ Run d 191 441 [a0, a1, a2, a3, a4, a5, a6, a7, a8, a9, a10, a11] [.int y, .ref o, .int y, .ref o] M 0 0 Z := R_arith (gd191 dX9_does_440) rfl
theorem z191_441 : Run d 191 441 [a0, a1, a2, a3, a4, a5, a6, a7, a8, a9, a10, a11] [.int x, .ref o, s1, s0] M 0 0 Z ↔ gAr M o 0 ∧ gIn x (gLen M o) = true ∧ Run d 191 442 [a0, a1, a2, a3, a4, a5, a6, a7, a8, a9, a10, a11] [.int (M.1 o x.toNatClampNeg), s1, s0] M 0 0 Z := R_iald (gd191 dX9_does_441)
theorem z191_442 : Run d 191 442 [a0, a1, a2, a3, a4, a5, a6, a7, a8, a9, a10, a11] [s2, s1, s0] M 0 0 Z ↔ Run d 191 443 [a0, a1, a2, a3, a4, a5, a6, a7, a8, a9, a10, a11] [.int 1, s2, s1, s0] M 0 0 Z := R_iconst (gd191 dX9_does_442) (by decide)
theorem z191_443 : Run d 191 443 [a0, a1, a2, a3, a4, a5, a6, a7, a8, a9, a10, a11] [.int y, .int x, s1, s0] M 0 0 Z ↔ Run d 191 444 [a0, a1, a2, a3, a4, a5, a6, a7, a8, a9, a10, a11] [.int (x + y), s1, s0] M 0 0 Z := R_arith (gd191 dX9_does_443) rfl
theorem z191_444 : Run d 191 444 [a0, a1, a2, a3, a4, a5, a6, a7, a8, a9, a10, a11] [.int y, .int x, .ref o] M 0 0 Z ↔ gAr M o 0 ∧ gIn x (gLen M o) = true ∧ Run d 191 445 [a0, a1, a2, a3, a4, a5, a6, a7, a8, a9, a10, a11] [] (gsI M o x.toNatClampNeg y) 0 0 Z := R_iast (gd191 dX9_does_444)
theorem z191_445 : Run d 191 445 [some (.ref o), a1, a2, a3, a4, a5, a6, a7, a8, a9, a10, a11] [] M 0 0 Z ↔ Run d 191 446 [some (.ref o), a1, a2, a3, a4, a5, a6, a7, a8, a9, a10, a11] [.ref o] M 0 0 Z := R_local (gd191 dX9_does_445) rfl rfl rfl
theorem z191_446 : Run d 191 446 [a0, a1, a2, a3, a4, a5, a6, a7, a8, a9, a10, a11] [.ref o] M 0 0 Z ↔ gObj M o 9 ∧ Run d 191 449 [a0, a1, a2, a3, a4, a5, a6, a7, a8, a9, a10, a11] [va_rf (M.2.1 o 64)] M 0 0 Z := R_getR (gd191 dX9_does_446) rfl gf_9_132 rfl
theorem z191_449 : Run d 191 449 [a0, a1, a2, a3, a4, some (.int x), a6, a7, a8, a9, a10, a11] [s0] M 0 0 Z ↔ Run d 191 451 [a0, a1, a2, a3, a4, some (.int x), a6, a7, a8, a9, a10, a11] [.int x, s0] M 0 0 Z := R_local (gd191 dX9_does_449) rfl rfl rfl
theorem z191_451 : Run d 191 451 [a0, a1, a2, a3, a4, a5, a6, a7, a8, a9, a10, a11] [.int x, .ref o] M 0 0 Z ↔ gAr M o 0 ∧ gIn x (gLen M o) = true ∧ Run d 191 452 [a0, a1, a2, a3, a4, a5, a6, a7, a8, a9, a10, a11] [.int (M.1 o x.toNatClampNeg)] M 0 0 Z := R_iald (gd191 dX9_does_451)
theorem z191_452 : Run d 191 452 [a0, a1, a2, a3, a4, a5, a6, a7, a8, a9, a10, a11] [.int x] M 0 0 Z ↔ (x < 0 → Run d 191 465 [a0, a1, a2, a3, a4, a5, a6, a7, a8, a9, a10, a11] [] M 0 0 Z) ∧ (¬ (x < 0) → Run d 191 455 [a0, a1, a2, a3, a4, a5, a6, a7, a8, a9, a10, a11] [] M 0 0 Z) := R_if (gd191 dX9_does_452) (show gTgt 452 13 = some 465 by decide) gIf_lt
theorem z191_455 : Run d 191 455 [a0, a1, a2, a3, a4, a5, some (.int x), a7, a8, a9, a10, a11] [] M 0 0 Z ↔ Run d 191 457 [a0, a1, a2, a3, a4, a5, some (.int x), a7, a8, a9, a10, a11] [.int x] M 0 0 Z := R_local (gd191 dX9_does_455) rfl rfl rfl
theorem z191_457 : Run d 191 457 [a0, a1, a2, a3, a4, a5, a6, a7, a8, a9, a10, a11] [s0] M 0 0 Z ↔ Run d 191 458 [a0, a1, a2, a3, a4, a5, a6, a7, a8, a9, a10, a11] [.int 1, s0] M 0 0 Z := R_iconst (gd191 dX9_does_457) (by decide)
theorem z191_458 : Run d 191 458 [a0, a1, a2, a3, a4, a5, a6, a7, a8, a9, a10, a11] [.int y, .int x] M 0 0 Z ↔ (x < y → Run d 191 465 [a0, a1, a2, a3, a4, a5, a6, a7, a8, a9, a10, a11] [] M 0 0 Z) ∧ (¬ (x < y) → Run d 191 461 [a0, a1, a2, a3, a4, a5, a6, a7, a8, a9, a10, a11] [] M 0 0 Z) := R_icmp (gd191 dX9_does_458) (show gTgt 458 7 = some 465 by decide) gIf_lt
theorem z191_461 : Run d 191 461 [a0, a1, a2, a3, a4, a5, a6, a7, a8, a9, a10, a11] [] M 0 0 Z ↔ Run d 191 462 [a0, a1, a2, a3, a4, a5, a6, a7, a8, a9, a10, a11] [.int 1] M 0 0 Z := R_iconst (gd191 dX9_does_461) (by decide)
theorem z191_462 : Run d 191 462 [a0, a1, a2, a3, a4, a5, a6, a7, a8, a9, a10, a11] [s0] M 0 0 Z ↔ Run d 191 466 [a0, a1, a2, a3, a4, a5, a6, a7, a8, a9, a10, a11] [s0] M 0 0 Z := R_goto (gd191 dX9_does_462) (show gTgt 462 4 = some 466 by decide)
theorem z191_465 : Run d 191 465 [a0, a1, a2, a3, a4, a5, a6, a7, a8, a9, a10, a11] [] M 0 0 Z ↔ Run d 191 466 [a0, a1, a2, a3, a4, a5, a6, a7, a8, a9, a10, a11] [.int 0] M 0 0 Z := R_iconst (gd191 dX9_does_465) (by decide)
theorem z191_466 : Run d 191 466 [a0, a1, a2, a3, a4, a5, a6, a7, a8, a9, a10, a11] [.int x] M 0 0 Z ↔ (x = 0 ∨ x = 1) ∧ Z (some (.int x)) M := R_iretZ (gd191 dX9_does_466) rfl
theorem z191_467 : Run d 191 467 [some (.ref o), a1, a2, a3, a4, a5, a6, a7, a8, a9, a10, a11] [] M 0 0 Z ↔ Run d 191 468 [some (.ref o), a1, a2, a3, a4, a5, a6, a7, a8, a9, a10, a11] [.ref o] M 0 0 Z := R_local (gd191 dX9_does_467) rfl rfl rfl
theorem z191_468 : Run d 191 468 [a0, a1, a2, a3, a4, a5, a6, a7, a8, a9, a10, a11] [.ref o] M 0 0 Z ↔ gObj M o 9 ∧ Run d 191 471 [a0, a1, a2, a3, a4, a5, a6, a7, a8, a9, a10, a11] [va_rf (M.2.1 o 66)] M 0 0 Z := R_getR (gd191 dX9_does_468) rfl gf_9_138 rfl
theorem z191_471 : Run d 191 471 [a0, a1, a2, a3, a4, some (.int x), a6, a7, a8, a9, a10, a11] [s0] M 0 0 Z ↔ Run d 191 473 [a0, a1, a2, a3, a4, some (.int x), a6, a7, a8, a9, a10, a11] [.int x, s0] M 0 0 Z := R_local (gd191 dX9_does_471) rfl rfl rfl
theorem z191_473 : Run d 191 473 [some (.ref o), a1, a2, a3, a4, a5, a6, a7, a8, a9, a10, a11] [s1, s0] M 0 0 Z ↔ Run d 191 474 [some (.ref o), a1, a2, a3, a4, a5, a6, a7, a8, a9, a10, a11] [.ref o, s1, s0] M 0 0 Z := R_local (gd191 dX9_does_473) rfl rfl rfl
theorem z191_474 : Run d 191 474 [a0, a1, a2, a3, a4, a5, a6, a7, a8, a9, a10, a11] [.ref o, s1, s0] M 0 0 Z ↔ gObj M o 9 ∧ Run d 191 477 [a0, a1, a2, a3, a4, a5, a6, a7, a8, a9, a10, a11] [va_rf (M.2.1 o 66), s1, s0] M 0 0 Z := R_getR (gd191 dX9_does_474) rfl gf_9_138 rfl
theorem z191_477 : Run d 191 477 [a0, a1, a2, a3, a4, some (.int x), a6, a7, a8, a9, a10, a11] [s2, s1, s0] M 0 0 Z ↔ Run d 191 479 [a0, a1, a2, a3, a4, some (.int x), a6, a7, a8, a9, a10, a11] [.int x, s2, s1, s0] M 0 0 Z := R_local (gd191 dX9_does_477) rfl rfl rfl
theorem z191_479 : Run d 191 479 [a0, a1, a2, a3, a4, a5, a6, a7, a8, a9, a10, a11] [.int x, .ref o, s1, s0] M 0 0 Z ↔ gAr M o 0 ∧ gIn x (gLen M o) = true ∧ Run d 191 480 [a0, a1, a2, a3, a4, a5, a6, a7, a8, a9, a10, a11] [.int (M.1 o x.toNatClampNeg), s1, s0] M 0 0 Z := R_iald (gd191 dX9_does_479)
theorem z191_480 : Run d 191 480 [a0, a1, a2, a3, a4, a5, a6, a7, a8, a9, a10, a11] [.int x, s1, s0] M 0 0 Z ↔ Run d 191 481 [a0, a1, a2, a3, a4, a5, a6, a7, a8, a9, a10, a11] [.int (-x), s1, s0] M 0 0 Z := R_arith (gd191 dX9_does_480) rfl
theorem z191_481 : Run d 191 481 [a0, a1, a2, a3, a4, a5, a6, a7, a8, a9, a10, a11] [.int y, .int x, .ref o] M 0 0 Z ↔ gAr M o 0 ∧ gIn x (gLen M o) = true ∧ Run d 191 482 [a0, a1, a2, a3, a4, a5, a6, a7, a8, a9, a10, a11] [] (gsI M o x.toNatClampNeg y) 0 0 Z := R_iast (gd191 dX9_does_481)
theorem z191_482 : Run d 191 482 [a0, a1, a2, a3, a4, a5, a6, a7, a8, a9, a10, a11] [] M 0 0 Z ↔ Run d 191 483 [a0, a1, a2, a3, a4, a5, a6, a7, a8, a9, a10, a11] [.int 1] M 0 0 Z := R_iconst (gd191 dX9_does_482) (by decide)
theorem z191_483 : Run d 191 483 [a0, a1, a2, a3, a4, a5, a6, a7, a8, a9, a10, a11] [.int x] M 0 0 Z ↔ (x = 0 ∨ x = 1) ∧ Z (some (.int x)) M := R_iretZ (gd191 dX9_does_483) rfl
theorem z191_484 : Run d 191 484 [some (.ref o), a1, a2, a3, a4, a5, a6, a7, a8, a9, a10, a11] [] M 0 0 Z ↔ Run d 191 485 [some (.ref o), a1, a2, a3, a4, a5, a6, a7, a8, a9, a10, a11] [.ref o] M 0 0 Z := R_local (gd191 dX9_does_484) rfl rfl rfl
theorem z191_485 : Run d 191 485 [a0, a1, a2, a3, a4, a5, a6, a7, a8, a9, a10, a11] [.ref o] M 0 0 Z ↔ gObj M o 9 ∧ Run d 191 488 [a0, a1, a2, a3, a4, a5, a6, a7, a8, a9, a10, a11] [va_rf (M.2.1 o 67)] M 0 0 Z := R_getR (gd191 dX9_does_485) rfl gf_9_141 rfl
theorem z191_488 : Run d 191 488 [a0, a1, a2, a3, a4, some (.int x), a6, a7, a8, a9, a10, a11] [s0] M 0 0 Z ↔ Run d 191 490 [a0, a1, a2, a3, a4, some (.int x), a6, a7, a8, a9, a10, a11] [.int x, s0] M 0 0 Z := R_local (gd191 dX9_does_488) rfl rfl rfl
theorem z191_490 : Run d 191 490 [a0, a1, a2, a3, a4, a5, a6, a7, a8, a9, a10, a11] [s1, s0] M 0 0 Z ↔ Run d 191 491 [a0, a1, a2, a3, a4, a5, a6, a7, a8, a9, a10, a11] [.int 1, s1, s0] M 0 0 Z := R_iconst (gd191 dX9_does_490) (by decide)
theorem z191_491 : Run d 191 491 [some (.ref o), a1, a2, a3, a4, a5, a6, a7, a8, a9, a10, a11] [s2, s1, s0] M 0 0 Z ↔ Run d 191 492 [some (.ref o), a1, a2, a3, a4, a5, a6, a7, a8, a9, a10, a11] [.ref o, s2, s1, s0] M 0 0 Z := R_local (gd191 dX9_does_491) rfl rfl rfl
theorem z191_492 : Run d 191 492 [a0, a1, a2, a3, a4, a5, a6, a7, a8, a9, a10, a11] [.ref o, s2, s1, s0] M 0 0 Z ↔ gObj M o 9 ∧ Run d 191 495 [a0, a1, a2, a3, a4, a5, a6, a7, a8, a9, a10, a11] [va_rf (M.2.1 o 67), s2, s1, s0] M 0 0 Z := R_getR (gd191 dX9_does_492) rfl gf_9_141 rfl
theorem z191_495 : Run d 191 495 [a0, a1, a2, a3, a4, some (.int x), a6, a7, a8, a9, a10, a11] [s3, s2, s1, s0] M 0 0 Z ↔ Run d 191 497 [a0, a1, a2, a3, a4, some (.int x), a6, a7, a8, a9, a10, a11] [.int x, s3, s2, s1, s0] M 0 0 Z := R_local (gd191 dX9_does_495) rfl rfl rfl
theorem z191_497 : Run d 191 497 [a0, a1, a2, a3, a4, a5, a6, a7, a8, a9, a10, a11] [.int x, .ref o, s2, s1, s0] M 0 0 Z ↔ gAr M o 0 ∧ gIn x (gLen M o) = true ∧ Run d 191 498 [a0, a1, a2, a3, a4, a5, a6, a7, a8, a9, a10, a11] [.int (M.1 o x.toNatClampNeg), s2, s1, s0] M 0 0 Z := R_iald (gd191 dX9_does_497)
theorem z191_498 : Run d 191 498 [a0, a1, a2, a3, a4, a5, a6, a7, a8, a9, a10, a11] [.int y, .int x, s1, s0] M 0 0 Z ↔ Run d 191 499 [a0, a1, a2, a3, a4, a5, a6, a7, a8, a9, a10, a11] [.int (x - y), s1, s0] M 0 0 Z := R_arith (gd191 dX9_does_498) rfl
theorem z191_499 : Run d 191 499 [a0, a1, a2, a3, a4, a5, a6, a7, a8, a9, a10, a11] [.int y, .int x, .ref o] M 0 0 Z ↔ gAr M o 0 ∧ gIn x (gLen M o) = true ∧ Run d 191 500 [a0, a1, a2, a3, a4, a5, a6, a7, a8, a9, a10, a11] [] (gsI M o x.toNatClampNeg y) 0 0 Z := R_iast (gd191 dX9_does_499)
theorem z191_500 : Run d 191 500 [a0, a1, a2, a3, a4, a5, a6, a7, a8, a9, a10, a11] [] M 0 0 Z ↔ Run d 191 501 [a0, a1, a2, a3, a4, a5, a6, a7, a8, a9, a10, a11] [.int 1] M 0 0 Z := R_iconst (gd191 dX9_does_500) (by decide)
theorem z191_501 : Run d 191 501 [a0, a1, a2, a3, a4, a5, a6, a7, a8, a9, a10, a11] [.int x] M 0 0 Z ↔ (x = 0 ∨ x = 1) ∧ Z (some (.int x)) M := R_iretZ (gd191 dX9_does_501) rfl
theorem z191_502 : Run d 191 502 [a0, a1, a2, a3, a4, a5, a6, a7, a8, a9, a10, a11] [] M 0 0 Z ↔ Run d 191 503 [a0, a1, a2, a3, a4, a5, a6, a7, a8, a9, a10, a11] [.int 2] M 0 0 Z := R_iconst (gd191 dX9_does_502) (by decide)
theorem z191_503 : Run d 191 503 [some (.ref o), a1, a2, a3, a4, a5, a6, a7, a8, a9, a10, a11] [s0] M 0 0 Z ↔ Run d 191 504 [some (.ref o), a1, a2, a3, a4, a5, a6, a7, a8, a9, a10, a11] [.ref o, s0] M 0 0 Z := R_local (gd191 dX9_does_503) rfl rfl rfl
theorem z191_504 : Run d 191 504 [a0, a1, a2, a3, a4, a5, a6, a7, a8, a9, a10, a11] [.ref o, s0] M 0 0 Z ↔ gObj M o 9 ∧ Run d 191 507 [a0, a1, a2, a3, a4, a5, a6, a7, a8, a9, a10, a11] [va_rf (M.2.1 o 5), s0] M 0 0 Z := R_getR (gd191 dX9_does_504) rfl gf_9_13 rfl
theorem z191_507 : Run d 191 507 [a0, a1, a2, a3, a4, a5, a6, a7, a8, a9, a10, a11] [s1, s0] M 0 0 Z ↔ Run d 191 509 [a0, a1, a2, a3, a4, a5, a6, a7, a8, a9, a10, a11] [.int 8, s1, s0] M 0 0 Z := R_bipush (gd191 dX9_does_507) (by decide)
theorem z191_509 : Run d 191 509 [a0, some (.int x), a2, a3, a4, a5, a6, a7, a8, a9, a10, a11] [s2, s1, s0] M 0 0 Z ↔ Run d 191 510 [a0, some (.int x), a2, a3, a4, a5, a6, a7, a8, a9, a10, a11] [.int x, s2, s1, s0] M 0 0 Z := R_local (gd191 dX9_does_509) rfl rfl rfl
theorem z191_510 : Run d 191 510 [a0, a1, a2, a3, a4, a5, a6, a7, a8, a9, a10, a11] [.int y, .int x, s1, s0] M 0 0 Z ↔ Run d 191 511 [a0, a1, a2, a3, a4, a5, a6, a7, a8, a9, a10, a11] [.int (x * y), s1, s0] M 0 0 Z := R_arith (gd191 dX9_does_510) rfl
theorem z191_511 : Run d 191 511 [a0, a1, a2, a3, a4, a5, a6, a7, a8, a9, a10, a11] [s2, s1, s0] M 0 0 Z ↔ Run d 191 513 [a0, a1, a2, a3, a4, a5, a6, a7, a8, a9, a10, a11] [.int 8, s2, s1, s0] M 0 0 Z := R_bipush (gd191 dX9_does_511) (by decide)
theorem z191_513 : Run d 191 513 [a0, a1, a2, a3, a4, a5, a6, a7, a8, a9, a10, a11] [.int y, .int x, s1, s0] M 0 0 Z ↔ Run d 191 514 [a0, a1, a2, a3, a4, a5, a6, a7, a8, a9, a10, a11] [.int (x + y), s1, s0] M 0 0 Z := R_arith (gd191 dX9_does_513) rfl
theorem z191_514 : Run d 191 514 [a0, a1, a2, a3, a4, a5, a6, a7, a8, a9, a10, a11] [s2, s1, s0] M 0 0 Z ↔ Run d 191 515 [a0, a1, a2, a3, a4, a5, a6, a7, a8, a9, a10, a11] [.int 1, s2, s1, s0] M 0 0 Z := R_iconst (gd191 dX9_does_514) (by decide)
theorem z191_515 : Run d 191 515 [a0, a1, a2, a3, a4, a5, a6, a7, a8, a9, a10, a11] [.int y, .int x, s1, s0] M 0 0 Z ↔ Run d 191 516 [a0, a1, a2, a3, a4, a5, a6, a7, a8, a9, a10, a11] [.int (x - y), s1, s0] M 0 0 Z := R_arith (gd191 dX9_does_515) rfl
theorem z191_516 : Run d 191 516 [a0, a1, a2, a3, a4, a5, a6, a7, a8, a9, a10, a11] [.int x, .ref o, s0] M 0 0 Z ↔ gAr M o 0 ∧ gIn x (gLen M o) = true ∧ Run d 191 517 [a0, a1, a2, a3, a4, a5, a6, a7, a8, a9, a10, a11] [.int (M.1 o x.toNatClampNeg), s0] M 0 0 Z := R_iald (gd191 dX9_does_516)
theorem z191_517 : Run d 191 517 [a0, a1, a2, a3, a4, a5, a6, a7, a8, a9, a10, a11] [.int y, .int x] M 0 0 Z ↔ Run d 191 518 [a0, a1, a2, a3, a4, a5, a6, a7, a8, a9, a10, a11] [.int (x * y)] M 0 0 Z := R_arith (gd191 dX9_does_517) rfl
theorem z191_518 : Run d 191 518 [a0, a1, a2, a3, a4, a5, a6, a7, a8, a9, a10, a11] [.int x] M 0 0 Z ↔ Run d 191 520 [a0, a1, a2, a3, a4, a5, a6, a7, some (.int x), a9, a10, a11] [] M 0 0 Z := R_local (gd191 dX9_does_518) rfl rfl rfl
theorem z191_520 : Run d 191 520 [some (.ref o), a1, a2, a3, a4, a5, a6, a7, a8, a9, a10, a11] [] M 0 0 Z ↔ Run d 191 521 [some (.ref o), a1, a2, a3, a4, a5, a6, a7, a8, a9, a10, a11] [.ref o] M 0 0 Z := R_local (gd191 dX9_does_520) rfl rfl rfl
theorem z191_521 : Run d 191 521 [a0, a1, a2, a3, a4, a5, a6, a7, a8, a9, a10, a11] [.ref o] M 0 0 Z ↔ gObj M o 9 ∧ Run d 191 524 [a0, a1, a2, a3, a4, a5, a6, a7, a8, a9, a10, a11] [va_rf (M.2.1 o 63)] M 0 0 Z := R_getR (gd191 dX9_does_521) rfl gf_9_129 rfl
theorem z191_524 : Run d 191 524 [a0, a1, a2, a3, a4, some (.int x), a6, a7, a8, a9, a10, a11] [s0] M 0 0 Z ↔ Run d 191 526 [a0, a1, a2, a3, a4, some (.int x), a6, a7, a8, a9, a10, a11] [.int x, s0] M 0 0 Z := R_local (gd191 dX9_does_524) rfl rfl rfl
theorem z191_526 : Run d 191 526 [a0, a1, a2, a3, a4, a5, a6, a7, a8, a9, a10, a11] [.int y, .ref o] M 0 0 Z ↔ Run d 191 527 [a0, a1, a2, a3, a4, a5, a6, a7, a8, a9, a10, a11] [.int y, .ref o, .int y, .ref o] M 0 0 Z := R_arith (gd191 dX9_does_526) rfl
theorem z191_527 : Run d 191 527 [a0, a1, a2, a3, a4, a5, a6, a7, a8, a9, a10, a11] [.int x, .ref o, s1, s0] M 0 0 Z ↔ gAr M o 0 ∧ gIn x (gLen M o) = true ∧ Run d 191 528 [a0, a1, a2, a3, a4, a5, a6, a7, a8, a9, a10, a11] [.int (M.1 o x.toNatClampNeg), s1, s0] M 0 0 Z := R_iald (gd191 dX9_does_527)
theorem z191_528 : Run d 191 528 [a0, a1, a2, a3, a4, a5, a6, a7, some (.int x), a9, a10, a11] [s2, s1, s0] M 0 0 Z ↔ Run d 191 530 [a0, a1, a2, a3, a4, a5, a6, a7, some (.int x), a9, a10, a11] [.int x, s2, s1, s0] M 0 0 Z := R_local (gd191 dX9_does_528) rfl rfl rfl
theorem z191_530 : Run d 191 530 [a0, a1, a2, a3, a4, a5, a6, a7, a8, a9, a10, a11] [.int y, .int x, s1, s0] M 0 0 Z ↔ Run d 191 531 [a0, a1, a2, a3, a4, a5, a6, a7, a8, a9, a10, a11] [.int (x + y), s1, s0] M 0 0 Z := R_arith (gd191 dX9_does_530) rfl
theorem z191_531 : Run d 191 531 [a0, a1, a2, a3, a4, a5, a6, a7, a8, a9, a10, a11] [.int y, .int x, .ref o] M 0 0 Z ↔ gAr M o 0 ∧ gIn x (gLen M o) = true ∧ Run d 191 532 [a0, a1, a2, a3, a4, a5, a6, a7, a8, a9, a10, a11] [] (gsI M o x.toNatClampNeg y) 0 0 Z := R_iast (gd191 dX9_does_531)
theorem z191_532 : Run d 191 532 [some (.ref o), a1, a2, a3, a4, a5, a6, a7, a8, a9, a10, a11] [] M 0 0 Z ↔ Run d 191 533 [some (.ref o), a1, a2, a3, a4, a5, a6, a7, a8, a9, a10, a11] [.ref o] M 0 0 Z := R_local (gd191 dX9_does_532) rfl rfl rfl
theorem z191_533 : Run d 191 533 [a0, a1, a2, a3, a4, a5, a6, a7, a8, a9, a10, a11] [.ref o] M 0 0 Z ↔ gObj M o 9 ∧ Run d 191 536 [a0, a1, a2, a3, a4, a5, a6, a7, a8, a9, a10, a11] [va_rf (M.2.1 o 65)] M 0 0 Z := R_getR (gd191 dX9_does_533) rfl gf_9_135 rfl
theorem z191_536 : Run d 191 536 [a0, a1, a2, a3, a4, some (.int x), a6, a7, a8, a9, a10, a11] [s0] M 0 0 Z ↔ Run d 191 538 [a0, a1, a2, a3, a4, some (.int x), a6, a7, a8, a9, a10, a11] [.int x, s0] M 0 0 Z := R_local (gd191 dX9_does_536) rfl rfl rfl
theorem z191_538 : Run d 191 538 [some (.ref o), a1, a2, a3, a4, a5, a6, a7, a8, a9, a10, a11] [s1, s0] M 0 0 Z ↔ Run d 191 539 [some (.ref o), a1, a2, a3, a4, a5, a6, a7, a8, a9, a10, a11] [.ref o, s1, s0] M 0 0 Z := R_local (gd191 dX9_does_538) rfl rfl rfl
theorem z191_539 : Run d 191 539 [a0, a1, a2, a3, a4, a5, a6, a7, a8, a9, a10, a11] [.ref o, s1, s0] M 0 0 Z ↔ gObj M o 9 ∧ Run d 191 542 [a0, a1, a2, a3, a4, a5, a6, a7, a8, a9, a10, a11] [va_rf (M.2.1 o 65), s1, s0] M 0 0 Z := R_getR (gd191 dX9_does_539) rfl gf_9_135 rfl
theorem z191_542 : Run d 191 542 [a0, a1, a2, a3, a4, some (.int x), a6, a7, a8, a9, a10, a11] [s2, s1, s0] M 0 0 Z ↔ Run d 191 544 [a0, a1, a2, a3, a4, some (.int x), a6, a7, a8, a9, a10, a11] [.int x, s2, s1, s0] M 0 0 Z := R_local (gd191 dX9_does_542) rfl rfl rfl
theorem z191_544 : Run d 191 544 [a0, a1, a2, a3, a4, a5, a6, a7, a8, a9, a10, a11] [.int x, .ref o, s1, s0] M 0 0 Z ↔ gAr M o 0 ∧ gIn x (gLen M o) = true ∧ Run d 191 545 [a0, a1, a2, a3, a4, a5, a6, a7, a8, a9, a10, a11] [.int (M.1 o x.toNatClampNeg), s1, s0] M 0 0 Z := R_iald (gd191 dX9_does_544)
theorem z191_545 : Run d 191 545 [a0, a1, a2, a3, a4, a5, a6, a7, a8, a9, a10, a11] [s2, s1, s0] M 0 0 Z ↔ Run d 191 546 [a0, a1, a2, a3, a4, a5, a6, a7, a8, a9, a10, a11] [.int 4, s2, s1, s0] M 0 0 Z := R_iconst (gd191 dX9_does_545) (by decide)
theorem z191_546 : Run d 191 546 [a0, a1, a2, a3, a4, a5, a6, a7, a8, a9, a10, a11] [.int y, .int x, s1, s0] M 0 0 Z ↔ Run d 191 547 [a0, a1, a2, a3, a4, a5, a6, a7, a8, a9, a10, a11] [.int (x + y), s1, s0] M 0 0 Z := R_arith (gd191 dX9_does_546) rfl
theorem z191_547 : Run d 191 547 [a0, a1, a2, a3, a4, a5, a6, a7, a8, a9, a10, a11] [s2, s1, s0] M 0 0 Z ↔ Run d 191 549 [a0, a1, a2, a3, a4, a5, a6, a7, a8, a9, a10, a11] [.int 8, s2, s1, s0] M 0 0 Z := R_bipush (gd191 dX9_does_547) (by decide)
theorem z191_549 (hy : ¬ y = 0) : Run d 191 549 [a0, a1, a2, a3, a4, a5, a6, a7, a8, a9, a10, a11] [.int y, .int x, s1, s0] M 0 0 Z ↔ Run d 191 550 [a0, a1, a2, a3, a4, a5, a6, a7, a8, a9, a10, a11] [.int (x - x / y * y), s1, s0] M 0 0 Z := R_rem (gd191 dX9_does_549) hy
theorem z191_550 : Run d 191 550 [a0, a1, a2, a3, a4, a5, a6, a7, a8, a9, a10, a11] [.int y, .int x, .ref o] M 0 0 Z ↔ gAr M o 0 ∧ gIn x (gLen M o) = true ∧ Run d 191 551 [a0, a1, a2, a3, a4, a5, a6, a7, a8, a9, a10, a11] [] (gsI M o x.toNatClampNeg y) 0 0 Z := R_iast (gd191 dX9_does_550)
theorem z191_551 : Run d 191 551 [some (.ref o), a1, a2, a3, a4, a5, a6, a7, a8, a9, a10, a11] [] M 0 0 Z ↔ Run d 191 552 [some (.ref o), a1, a2, a3, a4, a5, a6, a7, a8, a9, a10, a11] [.ref o] M 0 0 Z := R_local (gd191 dX9_does_551) rfl rfl rfl
theorem z191_552 : Run d 191 552 [a0, a1, a2, a3, a4, a5, a6, a7, a8, a9, a10, a11] [.ref o] M 0 0 Z ↔ gObj M o 9 ∧ Run d 191 555 [a0, a1, a2, a3, a4, a5, a6, a7, a8, a9, a10, a11] [va_rf (M.2.1 o 64)] M 0 0 Z := R_getR (gd191 dX9_does_552) rfl gf_9_132 rfl
theorem z191_555 : Run d 191 555 [a0, a1, a2, a3, a4, some (.int x), a6, a7, a8, a9, a10, a11] [s0] M 0 0 Z ↔ Run d 191 557 [a0, a1, a2, a3, a4, some (.int x), a6, a7, a8, a9, a10, a11] [.int x, s0] M 0 0 Z := R_local (gd191 dX9_does_555) rfl rfl rfl
theorem z191_557 : Run d 191 557 [a0, a1, a2, a3, a4, a5, a6, a7, a8, a9, a10, a11] [.int x, .ref o] M 0 0 Z ↔ gAr M o 0 ∧ gIn x (gLen M o) = true ∧ Run d 191 558 [a0, a1, a2, a3, a4, a5, a6, a7, a8, a9, a10, a11] [.int (M.1 o x.toNatClampNeg)] M 0 0 Z := R_iald (gd191 dX9_does_557)
theorem z191_558 : Run d 191 558 [a0, a1, a2, a3, a4, a5, a6, some (.int x), a8, a9, a10, a11] [s0] M 0 0 Z ↔ Run d 191 560 [a0, a1, a2, a3, a4, a5, a6, some (.int x), a8, a9, a10, a11] [.int x, s0] M 0 0 Z := R_local (gd191 dX9_does_558) rfl rfl rfl
theorem z191_560 : Run d 191 560 [a0, a1, a2, a3, a4, a5, a6, a7, a8, a9, a10, a11] [.int y, .int x] M 0 0 Z ↔ Run d 191 561 [a0, a1, a2, a3, a4, a5, a6, a7, a8, a9, a10, a11] [.int (x + y)] M 0 0 Z := R_arith (gd191 dX9_does_560) rfl
theorem z191_561 : Run d 191 561 [a0, a1, a2, a3, a4, a5, a6, a7, a8, a9, a10, a11] [s0] M 0 0 Z ↔ Run d 191 563 [a0, a1, a2, a3, a4, a5, a6, a7, a8, a9, a10, a11] [.int 8, s0] M 0 0 Z := R_bipush (gd191 dX9_does_561) (by decide)
theorem z191_563 : Run d 191 563 [a0, a1, a2, a3, a4, a5, a6, a7, a8, a9, a10, a11] [.int y, .int x] M 0 0 Z ↔ (¬ x = y → Run d 191 577 [a0, a1, a2, a3, a4, a5, a6, a7, a8, a9, a10, a11] [] M 0 0 Z) ∧ (¬ (¬ x = y) → Run d 191 566 [a0, a1, a2, a3, a4, a5, a6, a7, a8, a9, a10, a11] [] M 0 0 Z) := R_icmp (gd191 dX9_does_563) (show gTgt 563 14 = some 577 by decide) gIf_ne
theorem z191_566 : Run d 191 566 [a0, a1, a2, a3, a4, a5, some (.int x), a7, a8, a9, a10, a11] [] M 0 0 Z ↔ Run d 191 568 [a0, a1, a2, a3, a4, a5, some (.int x), a7, a8, a9, a10, a11] [.int x] M 0 0 Z := R_local (gd191 dX9_does_566) rfl rfl rfl
theorem z191_568 : Run d 191 568 [a0, a1, a2, a3, a4, a5, a6, a7, some (.int x), a9, a10, a11] [s0] M 0 0 Z ↔ Run d 191 570 [a0, a1, a2, a3, a4, a5, a6, a7, some (.int x), a9, a10, a11] [.int x, s0] M 0 0 Z := R_local (gd191 dX9_does_568) rfl rfl rfl
theorem z191_570 : Run d 191 570 [a0, a1, a2, a3, a4, a5, a6, a7, a8, a9, a10, a11] [.int y, .int x] M 0 0 Z ↔ (x < y → Run d 191 577 [a0, a1, a2, a3, a4, a5, a6, a7, a8, a9, a10, a11] [] M 0 0 Z) ∧ (¬ (x < y) → Run d 191 573 [a0, a1, a2, a3, a4, a5, a6, a7, a8, a9, a10, a11] [] M 0 0 Z) := R_icmp (gd191 dX9_does_570) (show gTgt 570 7 = some 577 by decide) gIf_lt
theorem z191_573 : Run d 191 573 [a0, a1, a2, a3, a4, a5, a6, a7, a8, a9, a10, a11] [] M 0 0 Z ↔ Run d 191 574 [a0, a1, a2, a3, a4, a5, a6, a7, a8, a9, a10, a11] [.int 1] M 0 0 Z := R_iconst (gd191 dX9_does_573) (by decide)
theorem z191_574 : Run d 191 574 [a0, a1, a2, a3, a4, a5, a6, a7, a8, a9, a10, a11] [s0] M 0 0 Z ↔ Run d 191 578 [a0, a1, a2, a3, a4, a5, a6, a7, a8, a9, a10, a11] [s0] M 0 0 Z := R_goto (gd191 dX9_does_574) (show gTgt 574 4 = some 578 by decide)
theorem z191_577 : Run d 191 577 [a0, a1, a2, a3, a4, a5, a6, a7, a8, a9, a10, a11] [] M 0 0 Z ↔ Run d 191 578 [a0, a1, a2, a3, a4, a5, a6, a7, a8, a9, a10, a11] [.int 0] M 0 0 Z := R_iconst (gd191 dX9_does_577) (by decide)
theorem z191_578 : Run d 191 578 [a0, a1, a2, a3, a4, a5, a6, a7, a8, a9, a10, a11] [.int x] M 0 0 Z ↔ (x = 0 ∨ x = 1) ∧ Z (some (.int x)) M := R_iretZ (gd191 dX9_does_578) rfl
theorem z191_579 : Run d 191 579 [a0, a1, a2, a3, a4, a5, some (.int x), a7, a8, a9, a10, a11] [] M 0 0 Z ↔ Run d 191 581 [a0, a1, a2, a3, a4, a5, some (.int x), a7, a8, a9, a10, a11] [.int x] M 0 0 Z := R_local (gd191 dX9_does_579) rfl rfl rfl
theorem z191_581 : Run d 191 581 [a0, a1, a2, a3, a4, a5, a6, a7, a8, a9, a10, a11] [s0] M 0 0 Z ↔ Run d 191 583 [a0, a1, a2, a3, a4, a5, a6, a7, a8, a9, a10, a11] [.int 9, s0] M 0 0 Z := R_bipush (gd191 dX9_does_581) (by decide)
theorem z191_583 : Run d 191 583 [a0, a1, a2, a3, a4, a5, a6, a7, a8, a9, a10, a11] [.int y, .int x] M 0 0 Z ↔ (y ≤ x → Run d 191 588 [a0, a1, a2, a3, a4, a5, a6, a7, a8, a9, a10, a11] [] M 0 0 Z) ∧ (¬ (y ≤ x) → Run d 191 586 [a0, a1, a2, a3, a4, a5, a6, a7, a8, a9, a10, a11] [] M 0 0 Z) := R_icmp (gd191 dX9_does_583) (show gTgt 583 5 = some 588 by decide) gIf_ge
theorem z191_586 : Run d 191 586 [a0, a1, a2, a3, a4, a5, a6, a7, a8, a9, a10, a11] [] M 0 0 Z ↔ Run d 191 587 [a0, a1, a2, a3, a4, a5, a6, a7, a8, a9, a10, a11] [.int 0] M 0 0 Z := R_iconst (gd191 dX9_does_586) (by decide)
theorem z191_587 : Run d 191 587 [a0, a1, a2, a3, a4, a5, a6, a7, a8, a9, a10, a11] [.int x] M 0 0 Z ↔ (x = 0 ∨ x = 1) ∧ Z (some (.int x)) M := R_iretZ (gd191 dX9_does_587) rfl
theorem z191_588 : Run d 191 588 [a0, a1, a2, a3, a4, a5, a6, a7, a8, a9, a10, a11] [] M 0 0 Z ↔ Run d 191 590 [a0, a1, a2, a3, a4, a5, a6, a7, a8, a9, a10, a11] [.int 9] M 0 0 Z := R_bipush (gd191 dX9_does_588) (by decide)
theorem z191_590 : Run d 191 590 [a0, a1, a2, a3, a4, a5, a6, a7, a8, a9, a10, a11] [.int x] M 0 0 Z ↔ Run d 191 592 [a0, a1, a2, a3, a4, a5, a6, a7, a8, some (.int x), a10, a11] [] M 0 0 Z := R_local (gd191 dX9_does_590) rfl rfl rfl
theorem z191_592 : Run d 191 592 [a0, a1, a2, a3, a4, a5, a6, a7, a8, a9, a10, a11] [] M 0 0 Z ↔ Run d 191 593 [a0, a1, a2, a3, a4, a5, a6, a7, a8, a9, a10, a11] [.int 0] M 0 0 Z := R_iconst (gd191 dX9_does_592) (by decide)
theorem z191_593 : Run d 191 593 [a0, a1, a2, a3, a4, a5, a6, a7, a8, a9, a10, a11] [.int x] M 0 0 Z ↔ Run d 191 595 [a0, a1, a2, a3, a4, a5, a6, a7, a8, a9, some (.int x), a11] [] M 0 0 Z := R_local (gd191 dX9_does_593) rfl rfl rfl
theorem z191_595 : Run d 191 595 [a0, a1, a2, a3, a4, a5, a6, a7, a8, a9, some (.int x), a11] [] M 0 0 Z ↔ Run d 191 597 [a0, a1, a2, a3, a4, a5, a6, a7, a8, a9, some (.int x), a11] [.int x] M 0 0 Z := R_local (gd191 dX9_does_595) rfl rfl rfl
theorem z191_597 : Run d 191 597 [a0, a1, a2, a3, a4, a5, a6, a7, a8, a9, a10, a11] [s0] M 0 0 Z ↔ Run d 191 598 [a0, a1, a2, a3, a4, a5, a6, a7, a8, a9, a10, a11] [.int 2, s0] M 0 0 Z := R_iconst (gd191 dX9_does_597) (by decide)
theorem z191_598 : Run d 191 598 [a0, a1, a2, a3, a4, a5, a6, a7, a8, a9, a10, a11] [.int y, .int x] M 0 0 Z ↔ (y ≤ x → Run d 191 669 [a0, a1, a2, a3, a4, a5, a6, a7, a8, a9, a10, a11] [] M 0 0 Z) ∧ (¬ (y ≤ x) → Run d 191 601 [a0, a1, a2, a3, a4, a5, a6, a7, a8, a9, a10, a11] [] M 0 0 Z) := R_icmp (gd191 dX9_does_598) (show gTgt 598 71 = some 669 by decide) gIf_ge
theorem z191_601 : Run d 191 601 [a0, a1, a2, a3, a4, a5, a6, a7, a8, a9, some (.int x), a11] [] M 0 0 Z ↔ Run d 191 603 [a0, a1, a2, a3, a4, a5, a6, a7, a8, a9, some (.int x), a11] [.int x] M 0 0 Z := R_local (gd191 dX9_does_601) rfl rfl rfl
theorem z191_603 : Run d 191 603 [some (.ref o), a1, a2, a3, a4, a5, a6, a7, a8, a9, a10, a11] [s0] M 0 0 Z ↔ Run d 191 604 [some (.ref o), a1, a2, a3, a4, a5, a6, a7, a8, a9, a10, a11] [.ref o, s0] M 0 0 Z := R_local (gd191 dX9_does_603) rfl rfl rfl
theorem z191_604 : Run d 191 604 [a0, a1, a2, a3, a4, a5, a6, a7, a8, a9, a10, a11] [.ref o, s0] M 0 0 Z ↔ gObj M o 9 ∧ Run d 191 607 [a0, a1, a2, a3, a4, a5, a6, a7, a8, a9, a10, a11] [va_rf (M.2.1 o 64), s0] M 0 0 Z := R_getR (gd191 dX9_does_604) rfl gf_9_132 rfl
theorem z191_607 : Run d 191 607 [a0, a1, a2, a3, a4, some (.int x), a6, a7, a8, a9, a10, a11] [s1, s0] M 0 0 Z ↔ Run d 191 609 [a0, a1, a2, a3, a4, some (.int x), a6, a7, a8, a9, a10, a11] [.int x, s1, s0] M 0 0 Z := R_local (gd191 dX9_does_607) rfl rfl rfl
theorem z191_609 : Run d 191 609 [a0, a1, a2, a3, a4, a5, a6, a7, a8, a9, a10, a11] [.int x, .ref o, s0] M 0 0 Z ↔ gAr M o 0 ∧ gIn x (gLen M o) = true ∧ Run d 191 610 [a0, a1, a2, a3, a4, a5, a6, a7, a8, a9, a10, a11] [.int (M.1 o x.toNatClampNeg), s0] M 0 0 Z := R_iald (gd191 dX9_does_609)
theorem z191_610 : Run d 191 610 [a0, a1, a2, a3, a4, a5, a6, a7, a8, a9, a10, a11] [.int y, .int x] M 0 0 Z ↔ (y ≤ x → Run d 191 669 [a0, a1, a2, a3, a4, a5, a6, a7, a8, a9, a10, a11] [] M 0 0 Z) ∧ (¬ (y ≤ x) → Run d 191 613 [a0, a1, a2, a3, a4, a5, a6, a7, a8, a9, a10, a11] [] M 0 0 Z) := R_icmp (gd191 dX9_does_610) (show gTgt 610 59 = some 669 by decide) gIf_ge
theorem z191_613 : Run d 191 613 [a0, a1, a2, a3, a4, a5, a6, a7, a8, some (.int x), a10, a11] [] M 0 0 Z ↔ Run d 191 615 [a0, a1, a2, a3, a4, a5, a6, a7, a8, some (.int x), a10, a11] [.int x] M 0 0 Z := R_local (gd191 dX9_does_613) rfl rfl rfl
theorem z191_615 : Run d 191 615 [a0, a1, a2, a3, a4, a5, a6, a7, a8, a9, a10, a11] [s0] M 0 0 Z ↔ Run d 191 616 [a0, a1, a2, a3, a4, a5, a6, a7, a8, a9, a10, a11] [.int 5, s0] M 0 0 Z := R_iconst (gd191 dX9_does_615) (by decide)
theorem z191_616 : Run d 191 616 [a0, a1, a2, a3, a4, a5, a6, a7, a8, a9, a10, a11] [.int y, .int x] M 0 0 Z ↔ (y ≤ x → Run d 191 624 [a0, a1, a2, a3, a4, a5, a6, a7, a8, a9, a10, a11] [] M 0 0 Z) ∧ (¬ (y ≤ x) → Run d 191 619 [a0, a1, a2, a3, a4, a5, a6, a7, a8, a9, a10, a11] [] M 0 0 Z) := R_icmp (gd191 dX9_does_616) (show gTgt 616 8 = some 624 by decide) gIf_ge
theorem z191_619 : Run d 191 619 [a0, a1, a2, a3, a4, a5, a6, a7, a8, some (.int x), a10, a11] [] M 0 0 Z ↔ Run d 191 621 [a0, a1, a2, a3, a4, a5, a6, a7, a8, some (.int x), a10, a11] [.int x] M 0 0 Z := R_local (gd191 dX9_does_619) rfl rfl rfl
theorem z191_621 : Run d 191 621 [a0, a1, a2, a3, a4, a5, a6, a7, a8, a9, a10, a11] [s0] M 0 0 Z ↔ Run d 191 625 [a0, a1, a2, a3, a4, a5, a6, a7, a8, a9, a10, a11] [s0] M 0 0 Z := R_goto (gd191 dX9_does_621) (show gTgt 621 4 = some 625 by decide)
theorem z191_624 : Run d 191 624 [a0, a1, a2, a3, a4, a5, a6, a7, a8, a9, a10, a11] [] M 0 0 Z ↔ Run d 191 625 [a0, a1, a2, a3, a4, a5, a6, a7, a8, a9, a10, a11] [.int 5] M 0 0 Z := R_iconst (gd191 dX9_does_624) (by decide)
theorem z191_625 : Run d 191 625 [a0, a1, a2, a3, a4, a5, a6, a7, a8, a9, a10, a11] [.int x] M 0 0 Z ↔ Run d 191 627 [a0, a1, a2, a3, a4, a5, a6, a7, a8, a9, a10, some (.int x)] [] M 0 0 Z := R_local (gd191 dX9_does_625) rfl rfl rfl
theorem z191_627 : Run d 191 627 [some (.ref o), a1, a2, a3, a4, a5, a6, a7, a8, a9, a10, a11] [] M 0 0 Z ↔ Run d 191 628 [some (.ref o), a1, a2, a3, a4, a5, a6, a7, a8, a9, a10, a11] [.ref o] M 0 0 Z := R_local (gd191 dX9_does_627) rfl rfl rfl
theorem z191_628 : Run d 191 628 [a0, a1, a2, a3, a4, some (.int x), a6, a7, a8, a9, a10, a11] [s0] M 0 0 Z ↔ Run d 191 630 [a0, a1, a2, a3, a4, some (.int x), a6, a7, a8, a9, a10, a11] [.int x, s0] M 0 0 Z := R_local (gd191 dX9_does_628) rfl rfl rfl
theorem z191_630 : Run d 191 630 [a0, a1, some (.int x), a3, a4, a5, a6, a7, a8, a9, a10, a11] [s1, s0] M 0 0 Z ↔ Run d 191 631 [a0, a1, some (.int x), a3, a4, a5, a6, a7, a8, a9, a10, a11] [.int x, s1, s0] M 0 0 Z := R_local (gd191 dX9_does_630) rfl rfl rfl
theorem z191_631 : Run d 191 631 [some (.ref o), a1, a2, a3, a4, a5, a6, a7, a8, a9, a10, a11] [s2, s1, s0] M 0 0 Z ↔ Run d 191 632 [some (.ref o), a1, a2, a3, a4, a5, a6, a7, a8, a9, a10, a11] [.ref o, s2, s1, s0] M 0 0 Z := R_local (gd191 dX9_does_631) rfl rfl rfl
theorem z191_632 : Run d 191 632 [a0, a1, a2, a3, a4, a5, a6, a7, a8, a9, a10, a11] [.ref o, s2, s1, s0] M 0 0 Z ↔ gObj M o 9 ∧ Run d 191 635 [a0, a1, a2, a3, a4, a5, a6, a7, a8, a9, a10, a11] [va_rf (M.2.1 o 64), s2, s1, s0] M 0 0 Z := R_getR (gd191 dX9_does_632) rfl gf_9_132 rfl
theorem z191_635 : Run d 191 635 [a0, a1, a2, a3, a4, some (.int x), a6, a7, a8, a9, a10, a11] [s3, s2, s1, s0] M 0 0 Z ↔ Run d 191 637 [a0, a1, a2, a3, a4, some (.int x), a6, a7, a8, a9, a10, a11] [.int x, s3, s2, s1, s0] M 0 0 Z := R_local (gd191 dX9_does_635) rfl rfl rfl
theorem z191_637 : Run d 191 637 [a0, a1, a2, a3, a4, a5, a6, a7, a8, a9, a10, a11] [.int x, .ref o, s2, s1, s0] M 0 0 Z ↔ gAr M o 0 ∧ gIn x (gLen M o) = true ∧ Run d 191 638 [a0, a1, a2, a3, a4, a5, a6, a7, a8, a9, a10, a11] [.int (M.1 o x.toNatClampNeg), s2, s1, s0] M 0 0 Z := R_iald (gd191 dX9_does_637)
theorem z191_638 : Run d 191 638 [a0, a1, a2, a3, a4, a5, a6, a7, a8, a9, a10, a11] [s3, s2, s1, s0] M 0 0 Z ↔ Run d 191 639 [a0, a1, a2, a3, a4, a5, a6, a7, a8, a9, a10, a11] [.int 1, s3, s2, s1, s0] M 0 0 Z := R_iconst (gd191 dX9_does_638) (by decide)
theorem z191_639 : Run d 191 639 [a0, a1, a2, a3, a4, a5, a6, a7, a8, a9, a10, a11] [.int y, .int x, s2, s1, s0] M 0 0 Z ↔ Run d 191 640 [a0, a1, a2, a3, a4, a5, a6, a7, a8, a9, a10, a11] [.int (x - y), s2, s1, s0] M 0 0 Z := R_arith (gd191 dX9_does_639) rfl
theorem z191_640 : Run d 191 640 [a0, a1, a2, a3, a4, a5, a6, a7, a8, a9, some (.int x), a11] [s3, s2, s1, s0] M 0 0 Z ↔ Run d 191 642 [a0, a1, a2, a3, a4, a5, a6, a7, a8, a9, some (.int x), a11] [.int x, s3, s2, s1, s0] M 0 0 Z := R_local (gd191 dX9_does_640) rfl rfl rfl
theorem z191_642 : Run d 191 642 [a0, a1, a2, a3, a4, a5, a6, a7, a8, a9, a10, a11] [.int y, .int x, s2, s1, s0] M 0 0 Z ↔ Run d 191 643 [a0, a1, a2, a3, a4, a5, a6, a7, a8, a9, a10, a11] [.int (x - y), s2, s1, s0] M 0 0 Z := R_arith (gd191 dX9_does_642) rfl
theorem z191_643 : Run d 191 643 [a0, a1, a2, a3, a4, a5, a6, a7, a8, a9, a10, a11] [s3, s2, s1, s0] M 0 0 Z ↔ Run d 191 644 [a0, a1, a2, a3, a4, a5, a6, a7, a8, a9, a10, a11] [.int 1, s3, s2, s1, s0] M 0 0 Z := R_iconst (gd191 dX9_does_643) (by decide)
theorem z191_644 : Run d 191 644 [a0, a1, a2, a3, a4, a5, a6, a7, a8, a9, a10, some (.int x)] [s4, s3, s2, s1, s0] M 0 0 Z ↔ Run d 191 646 [a0, a1, a2, a3, a4, a5, a6, a7, a8, a9, a10, some (.int x)] [.int x, s4, s3, s2, s1, s0] M 0 0 Z := R_local (gd191 dX9_does_644) rfl rfl rfl
theorem z191_646 : Run d 191 646 [some (.ref o), a1, a2, a3, a4, a5, a6, a7, a8, a9, a10, a11] [s5, s4, s3, s2, s1, s0] M 0 0 Z ↔ Run d 191 647 [some (.ref o), a1, a2, a3, a4, a5, a6, a7, a8, a9, a10, a11] [.ref o, s5, s4, s3, s2, s1, s0] M 0 0 Z := R_local (gd191 dX9_does_646) rfl rfl rfl
theorem z191_647 : Run d 191 647 [a0, a1, a2, a3, a4, a5, a6, a7, a8, a9, a10, a11] [.ref o, s5, s4, s3, s2, s1, s0] M 0 0 Z ↔ gObj M o 9 ∧ Run d 191 650 [a0, a1, a2, a3, a4, a5, a6, a7, a8, a9, a10, a11] [va_rf (M.2.1 o 67), s5, s4, s3, s2, s1, s0] M 0 0 Z := R_getR (gd191 dX9_does_647) rfl gf_9_141 rfl
theorem z191_650 : Run d 191 650 [a0, a1, a2, a3, a4, some (.int x), a6, a7, a8, a9, a10, a11] [s6, s5, s4, s3, s2, s1, s0] M 0 0 Z ↔ Run d 191 652 [a0, a1, a2, a3, a4, some (.int x), a6, a7, a8, a9, a10, a11] [.int x, s6, s5, s4, s3, s2, s1, s0] M 0 0 Z := R_local (gd191 dX9_does_650) rfl rfl rfl
theorem z191_652 : Run d 191 652 [a0, a1, a2, a3, a4, a5, a6, a7, a8, a9, a10, a11] [.int x, .ref o, s5, s4, s3, s2, s1, s0] M 0 0 Z ↔ gAr M o 0 ∧ gIn x (gLen M o) = true ∧ Run d 191 653 [a0, a1, a2, a3, a4, a5, a6, a7, a8, a9, a10, a11] [.int (M.1 o x.toNatClampNeg), s5, s4, s3, s2, s1, s0] M 0 0 Z := R_iald (gd191 dX9_does_652)
theorem z191_653 : Run d 191 653 [a0, a1, a2, a3, a4, a5, a6, a7, a8, a9, a10, a11] [s6, s5, s4, s3, s2, s1, .ref b] M 0 0 Z ↔ gObj M b 9 ∧ Call d 190 [.ref b, s1, s2, s3, s4, s5, s6] M (fun r M1 => Run d 191 656 [a0, a1, a2, a3, a4, a5, a6, a7, a8, a9, a10, a11] (r.toList ++ []) M1 0 0 Z) := R_callV (gd191 dX9_does_653) rfl rfl rfl rfl rfl rfl gc_9_388 rfl rfl (Nat.le_of_ble_eq_true rfl) (Nat.le_of_ble_eq_true rfl) rfl rfl (Nat.le_of_ble_eq_true rfl) (Nat.le_of_ble_eq_true rfl)
theorem z191_656 : Run d 191 656 [a0, a1, a2, a3, a4, a5, a6, a7, a8, some (.int x), a10, a11] [] M 0 0 Z ↔ Run d 191 658 [a0, a1, a2, a3, a4, a5, a6, a7, a8, some (.int x), a10, a11] [.int x] M 0 0 Z := R_local (gd191 dX9_does_656) rfl rfl rfl
theorem z191_658 : Run d 191 658 [a0, a1, a2, a3, a4, a5, a6, a7, a8, a9, a10, some (.int x)] [s0] M 0 0 Z ↔ Run d 191 660 [a0, a1, a2, a3, a4, a5, a6, a7, a8, a9, a10, some (.int x)] [.int x, s0] M 0 0 Z := R_local (gd191 dX9_does_658) rfl rfl rfl
theorem z191_660 : Run d 191 660 [a0, a1, a2, a3, a4, a5, a6, a7, a8, a9, a10, a11] [.int y, .int x] M 0 0 Z ↔ Run d 191 661 [a0, a1, a2, a3, a4, a5, a6, a7, a8, a9, a10, a11] [.int (x - y)] M 0 0 Z := R_arith (gd191 dX9_does_660) rfl
theorem z191_661 : Run d 191 661 [a0, a1, a2, a3, a4, a5, a6, a7, a8, a9, a10, a11] [.int x] M 0 0 Z ↔ Run d 191 663 [a0, a1, a2, a3, a4, a5, a6, a7, a8, some (.int x), a10, a11] [] M 0 0 Z := R_local (gd191 dX9_does_661) rfl rfl rfl
theorem z191_663 : Run d 191 663 [a0, a1, a2, a3, a4, a5, a6, a7, a8, a9, some (.int x), a11] [] M 0 0 Z ↔ Run d 191 666 [a0, a1, a2, a3, a4, a5, a6, a7, a8, a9, some (.int (x + 1)), a11] [] M 0 0 Z := R_iinc (gd191 dX9_does_663) (by decide) rfl rfl
theorem z191_666 : Run d 191 666 [a0, a1, a2, a3, a4, a5, a6, a7, a8, a9, a10, a11] [] M 0 0 Z ↔ Run d 191 595 [a0, a1, a2, a3, a4, a5, a6, a7, a8, a9, a10, a11] [] M 0 0 Z := R_goto (gd191 dX9_does_666) (show gTgt 666 (-71) = some 595 by decide)
theorem z191_669 : Run d 191 669 [some (.ref o), a1, a2, a3, a4, a5, a6, a7, a8, a9, a10, a11] [] M 0 0 Z ↔ Run d 191 670 [some (.ref o), a1, a2, a3, a4, a5, a6, a7, a8, a9, a10, a11] [.ref o] M 0 0 Z := R_local (gd191 dX9_does_669) rfl rfl rfl
theorem z191_670 : Run d 191 670 [a0, a1, a2, a3, a4, a5, a6, a7, a8, a9, a10, a11] [.ref o] M 0 0 Z ↔ gObj M o 9 ∧ Run d 191 673 [a0, a1, a2, a3, a4, a5, a6, a7, a8, a9, a10, a11] [va_rf (M.2.1 o 63)] M 0 0 Z := R_getR (gd191 dX9_does_670) rfl gf_9_129 rfl
theorem z191_673 : Run d 191 673 [a0, a1, a2, a3, a4, some (.int x), a6, a7, a8, a9, a10, a11] [s0] M 0 0 Z ↔ Run d 191 675 [a0, a1, a2, a3, a4, some (.int x), a6, a7, a8, a9, a10, a11] [.int x, s0] M 0 0 Z := R_local (gd191 dX9_does_673) rfl rfl rfl
theorem z191_675 : Run d 191 675 [a0, a1, a2, a3, a4, a5, a6, a7, a8, a9, a10, a11] [.int y, .ref o] M 0 0 Z ↔ Run d 191 676 [a0, a1, a2, a3, a4, a5, a6, a7, a8, a9, a10, a11] [.int y, .ref o, .int y, .ref o] M 0 0 Z := R_arith (gd191 dX9_does_675) rfl
theorem z191_676 : Run d 191 676 [a0, a1, a2, a3, a4, a5, a6, a7, a8, a9, a10, a11] [.int x, .ref o, s1, s0] M 0 0 Z ↔ gAr M o 0 ∧ gIn x (gLen M o) = true ∧ Run d 191 677 [a0, a1, a2, a3, a4, a5, a6, a7, a8, a9, a10, a11] [.int (M.1 o x.toNatClampNeg), s1, s0] M 0 0 Z := R_iald (gd191 dX9_does_676)
theorem z191_677 : Run d 191 677 [a0, a1, a2, a3, a4, a5, a6, a7, a8, some (.int x), a10, a11] [s2, s1, s0] M 0 0 Z ↔ Run d 191 679 [a0, a1, a2, a3, a4, a5, a6, a7, a8, some (.int x), a10, a11] [.int x, s2, s1, s0] M 0 0 Z := R_local (gd191 dX9_does_677) rfl rfl rfl
theorem z191_679 : Run d 191 679 [a0, a1, a2, a3, a4, a5, a6, a7, a8, a9, a10, a11] [.int y, .int x, s1, s0] M 0 0 Z ↔ Run d 191 680 [a0, a1, a2, a3, a4, a5, a6, a7, a8, a9, a10, a11] [.int (x + y), s1, s0] M 0 0 Z := R_arith (gd191 dX9_does_679) rfl
theorem z191_680 : Run d 191 680 [a0, a1, a2, a3, a4, a5, a6, a7, a8, a9, a10, a11] [.int y, .int x, .ref o] M 0 0 Z ↔ gAr M o 0 ∧ gIn x (gLen M o) = true ∧ Run d 191 681 [a0, a1, a2, a3, a4, a5, a6, a7, a8, a9, a10, a11] [] (gsI M o x.toNatClampNeg y) 0 0 Z := R_iast (gd191 dX9_does_680)
theorem z191_681 : Run d 191 681 [a0, a1, a2, a3, a4, a5, a6, a7, a8, a9, a10, a11] [] M 0 0 Z ↔ Run d 191 682 [a0, a1, a2, a3, a4, a5, a6, a7, a8, a9, a10, a11] [.int 1] M 0 0 Z := R_iconst (gd191 dX9_does_681) (by decide)
theorem z191_682 : Run d 191 682 [a0, a1, a2, a3, a4, a5, a6, a7, a8, a9, a10, a11] [.int x] M 0 0 Z ↔ (x = 0 ∨ x = 1) ∧ Z (some (.int x)) M := R_iretZ (gd191 dX9_does_682) rfl
theorem e191 : Call (d + 1) 191 [s0, s1, s2, s3, s4] M Z ↔ Run d 191 0 [some s0, some s1, some s2, some s3, some s4, none, none, none, none, none, none, none] [] M 0 0 Z := Call_iff (Nat.lt_of_lt_of_le (Nat.lt_succ_self 191) (Nat.le_of_ble_eq_true rfl)) (Nat.le_of_ble_eq_true rfl)
/-! 192: X9_isLike (I)Z -/
theorem gd192 {pc : Nat} {r : Except _ _} (h : decode cX9_isLike pc = r) : decode (gby 192) pc = r := h
theorem z192_0 : Run d 192 0 [a0, a1, a2] [] M 0 0 Z ↔ Run d 192 1 [a0, a1, a2] [.int 0] M 0 0 Z := R_iconst (gd192 dX9_isLike_0) (by decide)
theorem z192_1 : Run d 192 1 [a0, a1, a2] [.int x] M 0 0 Z ↔ Run d 192 2 [a0, a1, some (.int x)] [] M 0 0 Z := R_local (gd192 dX9_isLike_1) rfl rfl rfl
theorem z192_2 : Run d 192 2 [a0, a1, some (.int x)] [] M 0 0 Z ↔ Run d 192 3 [a0, a1, some (.int x)] [.int x] M 0 0 Z := R_local (gd192 dX9_isLike_2) rfl rfl rfl
theorem z192_3 : Run d 192 3 [a0, a1, a2] [s0] M 0 0 Z ↔ Run d 192 5 [a0, a1, a2] [.int 64, s0] M 0 0 Z := R_bipush (gd192 dX9_isLike_3) (by decide)
theorem z192_5 : Run d 192 5 [a0, a1, a2] [.int y, .int x] M 0 0 Z ↔ (y ≤ x → Run d 192 50 [a0, a1, a2] [] M 0 0 Z) ∧ (¬ (y ≤ x) → Run d 192 8 [a0, a1, a2] [] M 0 0 Z) := R_icmp (gd192 dX9_isLike_5) (show gTgt 5 45 = some 50 by decide) gIf_ge
theorem z192_8 : Run d 192 8 [some (.ref o), a1, a2] [] M 0 0 Z ↔ Run d 192 9 [some (.ref o), a1, a2] [.ref o] M 0 0 Z := R_local (gd192 dX9_isLike_8) rfl rfl rfl
theorem z192_9 : Run d 192 9 [a0, a1, a2] [.ref o] M 0 0 Z ↔ gObj M o 9 ∧ Run d 192 12 [a0, a1, a2] [va_rf (M.2.1 o 70)] M 0 0 Z := R_getR (gd192 dX9_isLike_9) rfl gf_9_150 rfl
theorem z192_12 : Run d 192 12 [a0, a1, some (.int x)] [s0] M 0 0 Z ↔ Run d 192 13 [a0, a1, some (.int x)] [.int x, s0] M 0 0 Z := R_local (gd192 dX9_isLike_12) rfl rfl rfl
theorem z192_13 : Run d 192 13 [a0, a1, a2] [.int x, .ref o] M 0 0 Z ↔ gAr M o 0 ∧ gIn x (gLen M o) = true ∧ Run d 192 14 [a0, a1, a2] [.int (M.1 o x.toNatClampNeg)] M 0 0 Z := R_iald (gd192 dX9_isLike_13)
theorem z192_14 : Run d 192 14 [a0, a1, a2] [s0] M 0 0 Z ↔ Run d 192 16 [a0, a1, a2] [.int 63, s0] M 0 0 Z := R_bipush (gd192 dX9_isLike_14) (by decide)
theorem z192_16 : Run d 192 16 [a0, a1, a2] [.int y, .int x] M 0 0 Z ↔ (x = y → Run d 192 44 [a0, a1, a2] [] M 0 0 Z) ∧ (¬ (x = y) → Run d 192 19 [a0, a1, a2] [] M 0 0 Z) := R_icmp (gd192 dX9_isLike_16) (show gTgt 16 28 = some 44 by decide) gIf_eq
theorem z192_19 : Run d 192 19 [some (.ref o), a1, a2] [] M 0 0 Z ↔ Run d 192 20 [some (.ref o), a1, a2] [.ref o] M 0 0 Z := R_local (gd192 dX9_isLike_19) rfl rfl rfl
theorem z192_20 : Run d 192 20 [a0, a1, a2] [.ref o] M 0 0 Z ↔ gObj M o 9 ∧ Run d 192 23 [a0, a1, a2] [va_rf (M.2.1 o 70)] M 0 0 Z := R_getR (gd192 dX9_isLike_20) rfl gf_9_150 rfl
theorem z192_23 : Run d 192 23 [a0, a1, some (.int x)] [s0] M 0 0 Z ↔ Run d 192 24 [a0, a1, some (.int x)] [.int x, s0] M 0 0 Z := R_local (gd192 dX9_isLike_23) rfl rfl rfl
theorem z192_24 : Run d 192 24 [a0, a1, a2] [.int x, .ref o] M 0 0 Z ↔ gAr M o 0 ∧ gIn x (gLen M o) = true ∧ Run d 192 25 [a0, a1, a2] [.int (M.1 o x.toNatClampNeg)] M 0 0 Z := R_iald (gd192 dX9_isLike_24)
theorem z192_25 : Run d 192 25 [a0, a1, a2] [s0] M 0 0 Z ↔ Run d 192 27 [a0, a1, a2] [.int 48, s0] M 0 0 Z := R_bipush (gd192 dX9_isLike_25) (by decide)
theorem z192_27 : Run d 192 27 [a0, a1, a2] [.int y, .int x] M 0 0 Z ↔ Run d 192 28 [a0, a1, a2] [.int (x - y)] M 0 0 Z := R_arith (gd192 dX9_isLike_27) rfl
theorem z192_28 : Run d 192 28 [some (.ref o), a1, a2] [s0] M 0 0 Z ↔ Run d 192 29 [some (.ref o), a1, a2] [.ref o, s0] M 0 0 Z := R_local (gd192 dX9_isLike_28) rfl rfl rfl
theorem z192_29 : Run d 192 29 [a0, a1, a2] [.ref o, s0] M 0 0 Z ↔ gObj M o 9 ∧ Run d 192 32 [a0, a1, a2] [va_rf (M.2.1 o 62), s0] M 0 0 Z := R_getR (gd192 dX9_isLike_29) rfl gf_9_126 rfl
theorem z192_32 : Run d 192 32 [a0, a1, a2] [s1, s0] M 0 0 Z ↔ Run d 192 34 [a0, a1, a2] [.int 64, s1, s0] M 0 0 Z := R_bipush (gd192 dX9_isLike_32) (by decide)
theorem z192_34 : Run d 192 34 [a0, some (.int x), a2] [s2, s1, s0] M 0 0 Z ↔ Run d 192 35 [a0, some (.int x), a2] [.int x, s2, s1, s0] M 0 0 Z := R_local (gd192 dX9_isLike_34) rfl rfl rfl
theorem z192_35 : Run d 192 35 [a0, a1, a2] [.int y, .int x, s1, s0] M 0 0 Z ↔ Run d 192 36 [a0, a1, a2] [.int (x * y), s1, s0] M 0 0 Z := R_arith (gd192 dX9_isLike_35) rfl
theorem z192_36 : Run d 192 36 [a0, a1, some (.int x)] [s2, s1, s0] M 0 0 Z ↔ Run d 192 37 [a0, a1, some (.int x)] [.int x, s2, s1, s0] M 0 0 Z := R_local (gd192 dX9_isLike_36) rfl rfl rfl
theorem z192_37 : Run d 192 37 [a0, a1, a2] [.int y, .int x, s1, s0] M 0 0 Z ↔ Run d 192 38 [a0, a1, a2] [.int (x + y), s1, s0] M 0 0 Z := R_arith (gd192 dX9_isLike_37) rfl
theorem z192_38 : Run d 192 38 [a0, a1, a2] [.int x, .ref o, s0] M 0 0 Z ↔ gAr M o 0 ∧ gIn x (gLen M o) = true ∧ Run d 192 39 [a0, a1, a2] [.int (M.1 o x.toNatClampNeg), s0] M 0 0 Z := R_iald (gd192 dX9_isLike_38)
theorem z192_39 : Run d 192 39 [a0, a1, a2] [.int y, .int x] M 0 0 Z ↔ (x = y → Run d 192 44 [a0, a1, a2] [] M 0 0 Z) ∧ (¬ (x = y) → Run d 192 42 [a0, a1, a2] [] M 0 0 Z) := R_icmp (gd192 dX9_isLike_39) (show gTgt 39 5 = some 44 by decide) gIf_eq
theorem z192_42 : Run d 192 42 [a0, a1, a2] [] M 0 0 Z ↔ Run d 192 43 [a0, a1, a2] [.int 0] M 0 0 Z := R_iconst (gd192 dX9_isLike_42) (by decide)
theorem z192_43 : Run d 192 43 [a0, a1, a2] [.int x] M 0 0 Z ↔ (x = 0 ∨ x = 1) ∧ Z (some (.int x)) M := R_iretZ (gd192 dX9_isLike_43) rfl
theorem z192_44 : Run d 192 44 [a0, a1, some (.int x)] [] M 0 0 Z ↔ Run d 192 47 [a0, a1, some (.int (x + 1))] [] M 0 0 Z := R_iinc (gd192 dX9_isLike_44) (by decide) rfl rfl
theorem z192_47 : Run d 192 47 [a0, a1, a2] [] M 0 0 Z ↔ Run d 192 2 [a0, a1, a2] [] M 0 0 Z := R_goto (gd192 dX9_isLike_47) (show gTgt 47 (-45) = some 2 by decide)
theorem z192_50 : Run d 192 50 [a0, a1, a2] [] M 0 0 Z ↔ Run d 192 51 [a0, a1, a2] [.int 1] M 0 0 Z := R_iconst (gd192 dX9_isLike_50) (by decide)
theorem z192_51 : Run d 192 51 [a0, a1, a2] [.int x] M 0 0 Z ↔ (x = 0 ∨ x = 1) ∧ Z (some (.int x)) M := R_iretZ (gd192 dX9_isLike_51) rfl
theorem e192 : Call (d + 1) 192 [s0, s1] M Z ↔ Run d 192 0 [some s0, some s1, none] [] M 0 0 Z := Call_iff (Nat.lt_of_lt_of_le (Nat.lt_succ_self 192) (Nat.le_of_ble_eq_true rfl)) (Nat.le_of_ble_eq_true rfl)
/-! 193: X9_isPicture (I)Z -/
theorem gd193 {pc : Nat} {r : Except _ _} (h : decode cX9_isPicture pc = r) : decode (gby 193) pc = r := h
theorem z193_0 : Run d 193 0 [some (.int x)] [] M 0 0 Z ↔ Run d 193 1 [some (.int x)] [.int x] M 0 0 Z := R_local (gd193 dX9_isPicture_0) rfl rfl rfl
theorem z193_1 : Run d 193 1 [a0] [s0] M 0 0 Z ↔ Run d 193 3 [a0] [.int 63, s0] M 0 0 Z := R_bipush (gd193 dX9_isPicture_1) (by decide)
theorem z193_3 : Run d 193 3 [a0] [.int y, .int x] M 0 0 Z ↔ (x = y → Run d 193 17 [a0] [] M 0 0 Z) ∧ (¬ (x = y) → Run d 193 6 [a0] [] M 0 0 Z) := R_icmp (gd193 dX9_isPicture_3) (show gTgt 3 14 = some 17 by decide) gIf_eq
theorem z193_6 : Run d 193 6 [some (.int x)] [] M 0 0 Z ↔ Run d 193 7 [some (.int x)] [.int x] M 0 0 Z := R_local (gd193 dX9_isPicture_6) rfl rfl rfl
theorem z193_7 : Run d 193 7 [a0] [s0] M 0 0 Z ↔ Run d 193 9 [a0] [.int 48, s0] M 0 0 Z := R_bipush (gd193 dX9_isPicture_7) (by decide)
theorem z193_9 : Run d 193 9 [a0] [s1, s0] M 0 0 Z ↔ Run d 193 11 [a0] [.int 56, s1, s0] M 0 0 Z := R_bipush (gd193 dX9_isPicture_9) (by decide)
theorem z193_11 : Run d 193 11 [a0] [s2, s1, s0] M 0 0 Z ↔ Call d 120 [s0, s1, s2] M (fun r M1 => Run d 193 14 [a0] (r.toList ++ []) M1 0 0 Z) := R_call (gd193 dX9_isPicture_11) rfl rfl rfl rfl rfl rfl gc_9_157 rfl (by decide) (Nat.le_of_ble_eq_true rfl) (Nat.le_of_ble_eq_true rfl) rfl rfl rfl (Nat.le_of_ble_eq_true rfl) (Nat.le_of_ble_eq_true rfl)
theorem z193_14 : Run d 193 14 [a0] [.int x] M 0 0 Z ↔ (x = 0 → Run d 193 21 [a0] [] M 0 0 Z) ∧ (¬ (x = 0) → Run d 193 17 [a0] [] M 0 0 Z) := R_if (gd193 dX9_isPicture_14) (show gTgt 14 7 = some 21 by decide) gIf_eq
theorem z193_17 : Run d 193 17 [a0] [] M 0 0 Z ↔ Run d 193 18 [a0] [.int 1] M 0 0 Z := R_iconst (gd193 dX9_isPicture_17) (by decide)
theorem z193_18 : Run d 193 18 [a0] [s0] M 0 0 Z ↔ Run d 193 22 [a0] [s0] M 0 0 Z := R_goto (gd193 dX9_isPicture_18) (show gTgt 18 4 = some 22 by decide)
theorem z193_21 : Run d 193 21 [a0] [] M 0 0 Z ↔ Run d 193 22 [a0] [.int 0] M 0 0 Z := R_iconst (gd193 dX9_isPicture_21) (by decide)
theorem z193_22 : Run d 193 22 [a0] [.int x] M 0 0 Z ↔ (x = 0 ∨ x = 1) ∧ Z (some (.int x)) M := R_iretZ (gd193 dX9_isPicture_22) rfl
theorem e193 : Call (d + 1) 193 [s0] M Z ↔ Run d 193 0 [some s0] [] M 0 0 Z := Call_iff (Nat.lt_of_lt_of_le (Nat.lt_succ_self 193) (Nat.le_of_ble_eq_true rfl)) (Nat.le_of_ble_eq_true rfl)
end
