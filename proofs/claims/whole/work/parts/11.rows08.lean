/-! Rules of the methods, an instruction each, by program (wip/whole/rows.py). -/
theorem dX9_init_0 : decode cX9_init 0 = .ok (.aload_n 0, 1) := by decide +kernel
theorem dX9_init_1 : decode cX9_init 1 = .ok (.invokespecial 1, 3) := by decide +kernel
theorem dX9_init_4 : decode cX9_init 4 = .ok (.aload_n 0, 1) := by decide +kernel
theorem dX9_init_5 : decode cX9_init 5 = .ok (.bipush 120, 2) := by decide +kernel
theorem dX9_init_7 : decode cX9_init 7 = .ok (.newarray .byte, 2) := by decide +kernel
theorem dX9_init_9 : decode cX9_init 9 = .ok (.putfield 7, 3) := by decide +kernel
theorem dX9_init_12 : decode cX9_init 12 = .ok (.aload_n 0, 1) := by decide +kernel
theorem dX9_init_13 : decode cX9_init 13 = .ok (.bipush 48, 2) := by decide +kernel
theorem dX9_init_15 : decode cX9_init 15 = .ok (.newarray .int, 2) := by decide +kernel
theorem dX9_init_17 : decode cX9_init 17 = .ok (.putfield 13, 3) := by decide +kernel
theorem dX9_init_20 : decode cX9_init 20 = .ok (.aload_n 0, 1) := by decide +kernel
theorem dX9_init_21 : decode cX9_init 21 = .ok (.bipush 6, 2) := by decide +kernel
theorem dX9_init_23 : decode cX9_init 23 = .ok (.newarray .int, 2) := by decide +kernel
theorem dX9_init_25 : decode cX9_init 25 = .ok (.putfield 17, 3) := by decide +kernel
theorem dX9_init_28 : decode cX9_init 28 = .ok (.aload_n 0, 1) := by decide +kernel
theorem dX9_init_29 : decode cX9_init 29 = .ok (.bipush 6, 2) := by decide +kernel
theorem dX9_init_31 : decode cX9_init 31 = .ok (.newarray .int, 2) := by decide +kernel
theorem dX9_init_33 : decode cX9_init 33 = .ok (.putfield 20, 3) := by decide +kernel
theorem dX9_init_36 : decode cX9_init 36 = .ok (.aload_n 0, 1) := by decide +kernel
theorem dX9_init_37 : decode cX9_init 37 = .ok (.bipush 6, 2) := by decide +kernel
theorem dX9_init_39 : decode cX9_init 39 = .ok (.newarray .int, 2) := by decide +kernel
theorem dX9_init_41 : decode cX9_init 41 = .ok (.putfield 23, 3) := by decide +kernel
theorem dX9_init_44 : decode cX9_init 44 = .ok (.aload_n 0, 1) := by decide +kernel
theorem dX9_init_45 : decode cX9_init 45 = .ok (.bipush 36, 2) := by decide +kernel
theorem dX9_init_47 : decode cX9_init 47 = .ok (.newarray .int, 2) := by decide +kernel
theorem dX9_init_49 : decode cX9_init 49 = .ok (.putfield 26, 3) := by decide +kernel
theorem dX9_init_52 : decode cX9_init 52 = .ok (.aload_n 0, 1) := by decide +kernel
theorem dX9_init_53 : decode cX9_init 53 = .ok (.sipush 1200, 3) := by decide +kernel
theorem dX9_init_56 : decode cX9_init 56 = .ok (.newarray .byte, 2) := by decide +kernel
theorem dX9_init_58 : decode cX9_init 58 = .ok (.putfield 29, 3) := by decide +kernel
theorem dX9_init_61 : decode cX9_init 61 = .ok (.aload_n 0, 1) := by decide +kernel
theorem dX9_init_62 : decode cX9_init 62 = .ok (.bipush 10, 2) := by decide +kernel
theorem dX9_init_64 : decode cX9_init 64 = .ok (.newarray .int, 2) := by decide +kernel
theorem dX9_init_66 : decode cX9_init 66 = .ok (.putfield 32, 3) := by decide +kernel
theorem dX9_init_69 : decode cX9_init 69 = .ok (.aload_n 0, 1) := by decide +kernel
theorem dX9_init_70 : decode cX9_init 70 = .ok (.bipush 10, 2) := by decide +kernel
theorem dX9_init_72 : decode cX9_init 72 = .ok (.newarray .int, 2) := by decide +kernel
theorem dX9_init_74 : decode cX9_init 74 = .ok (.putfield 35, 3) := by decide +kernel
theorem dX9_init_77 : decode cX9_init 77 = .ok (.aload_n 0, 1) := by decide +kernel
theorem dX9_init_78 : decode cX9_init 78 = .ok (.sipush 800, 3) := by decide +kernel
theorem dX9_init_81 : decode cX9_init 81 = .ok (.newarray .int, 2) := by decide +kernel
theorem dX9_init_83 : decode cX9_init 83 = .ok (.putfield 38, 3) := by decide +kernel
theorem dX9_init_86 : decode cX9_init 86 = .ok (.aload_n 0, 1) := by decide +kernel
theorem dX9_init_87 : decode cX9_init 87 = .ok (.sipush 800, 3) := by decide +kernel
theorem dX9_init_90 : decode cX9_init 90 = .ok (.newarray .int, 2) := by decide +kernel
theorem dX9_init_92 : decode cX9_init 92 = .ok (.putfield 41, 3) := by decide +kernel
theorem dX9_init_95 : decode cX9_init 95 = .ok (.aload_n 0, 1) := by decide +kernel
theorem dX9_init_96 : decode cX9_init 96 = .ok (.sipush 800, 3) := by decide +kernel
theorem dX9_init_99 : decode cX9_init 99 = .ok (.newarray .int, 2) := by decide +kernel
theorem dX9_init_101 : decode cX9_init 101 = .ok (.putfield 44, 3) := by decide +kernel
theorem dX9_init_104 : decode cX9_init 104 = .ok (.aload_n 0, 1) := by decide +kernel
theorem dX9_init_105 : decode cX9_init 105 = .ok (.sipush 800, 3) := by decide +kernel
theorem dX9_init_108 : decode cX9_init 108 = .ok (.newarray .int, 2) := by decide +kernel
theorem dX9_init_110 : decode cX9_init 110 = .ok (.putfield 47, 3) := by decide +kernel
theorem dX9_init_113 : decode cX9_init 113 = .ok (.aload_n 0, 1) := by decide +kernel
theorem dX9_init_114 : decode cX9_init 114 = .ok (.sipush 800, 3) := by decide +kernel
theorem dX9_init_117 : decode cX9_init 117 = .ok (.newarray .int, 2) := by decide +kernel
theorem dX9_init_119 : decode cX9_init 119 = .ok (.putfield 50, 3) := by decide +kernel
theorem dX9_init_122 : decode cX9_init 122 = .ok (.aload_n 0, 1) := by decide +kernel
theorem dX9_init_123 : decode cX9_init 123 = .ok (.sipush 800, 3) := by decide +kernel
theorem dX9_init_126 : decode cX9_init 126 = .ok (.newarray .int, 2) := by decide +kernel
theorem dX9_init_128 : decode cX9_init 128 = .ok (.putfield 53, 3) := by decide +kernel
theorem dX9_init_131 : decode cX9_init 131 = .ok (.aload_n 0, 1) := by decide +kernel
theorem dX9_init_132 : decode cX9_init 132 = .ok (.sipush 800, 3) := by decide +kernel
theorem dX9_init_135 : decode cX9_init 135 = .ok (.newarray .int, 2) := by decide +kernel
theorem dX9_init_137 : decode cX9_init 137 = .ok (.putfield 56, 3) := by decide +kernel
theorem dX9_init_140 : decode cX9_init 140 = .ok (.aload_n 0, 1) := by decide +kernel
theorem dX9_init_141 : decode cX9_init 141 = .ok (.sipush 4002, 3) := by decide +kernel
theorem dX9_init_144 : decode cX9_init 144 = .ok (.newarray .int, 2) := by decide +kernel
theorem dX9_init_146 : decode cX9_init 146 = .ok (.putfield 59, 3) := by decide +kernel
theorem dX9_init_149 : decode cX9_init 149 = .ok (.aload_n 0, 1) := by decide +kernel
theorem dX9_init_150 : decode cX9_init 150 = .ok (.iconst 2, 1) := by decide +kernel
theorem dX9_init_151 : decode cX9_init 151 = .ok (.newarray .int, 2) := by decide +kernel
theorem dX9_init_153 : decode cX9_init 153 = .ok (.putfield 62, 3) := by decide +kernel
theorem dX9_init_156 : decode cX9_init 156 = .ok (.aload_n 0, 1) := by decide +kernel
theorem dX9_init_157 : decode cX9_init 157 = .ok (.iconst 2, 1) := by decide +kernel
theorem dX9_init_158 : decode cX9_init 158 = .ok (.newarray .int, 2) := by decide +kernel
theorem dX9_init_160 : decode cX9_init 160 = .ok (.putfield 65, 3) := by decide +kernel
theorem dX9_init_163 : decode cX9_init 163 = .ok (.aload_n 0, 1) := by decide +kernel
theorem dX9_init_164 : decode cX9_init 164 = .ok (.iconst 2, 1) := by decide +kernel
theorem dX9_init_165 : decode cX9_init 165 = .ok (.newarray .int, 2) := by decide +kernel
theorem dX9_init_167 : decode cX9_init 167 = .ok (.putfield 68, 3) := by decide +kernel
theorem dX9_init_170 : decode cX9_init 170 = .ok (.aload_n 0, 1) := by decide +kernel
theorem dX9_init_171 : decode cX9_init 171 = .ok (.iconst 2, 1) := by decide +kernel
theorem dX9_init_172 : decode cX9_init 172 = .ok (.newarray .int, 2) := by decide +kernel
theorem dX9_init_174 : decode cX9_init 174 = .ok (.putfield 71, 3) := by decide +kernel
theorem dX9_init_177 : decode cX9_init 177 = .ok (.aload_n 0, 1) := by decide +kernel
theorem dX9_init_178 : decode cX9_init 178 = .ok (.iconst 2, 1) := by decide +kernel
theorem dX9_init_179 : decode cX9_init 179 = .ok (.newarray .int, 2) := by decide +kernel
theorem dX9_init_181 : decode cX9_init 181 = .ok (.putfield 74, 3) := by decide +kernel
theorem dX9_init_184 : decode cX9_init 184 = .ok (.aload_n 0, 1) := by decide +kernel
theorem dX9_init_185 : decode cX9_init 185 = .ok (.iconst 2, 1) := by decide +kernel
theorem dX9_init_186 : decode cX9_init 186 = .ok (.newarray .int, 2) := by decide +kernel
theorem dX9_init_188 : decode cX9_init 188 = .ok (.putfield 77, 3) := by decide +kernel
theorem dX9_init_191 : decode cX9_init 191 = .ok (.aload_n 0, 1) := by decide +kernel
theorem dX9_init_192 : decode cX9_init 192 = .ok (.iconst 2, 1) := by decide +kernel
theorem dX9_init_193 : decode cX9_init 193 = .ok (.newarray .int, 2) := by decide +kernel
theorem dX9_init_195 : decode cX9_init 195 = .ok (.putfield 80, 3) := by decide +kernel
theorem dX9_init_198 : decode cX9_init 198 = .ok (.aload_n 0, 1) := by decide +kernel
theorem dX9_init_199 : decode cX9_init 199 = .ok (.iconst 2, 1) := by decide +kernel
theorem dX9_init_200 : decode cX9_init 200 = .ok (.newarray .int, 2) := by decide +kernel
theorem dX9_init_202 : decode cX9_init 202 = .ok (.putfield 83, 3) := by decide +kernel
theorem dX9_init_205 : decode cX9_init 205 = .ok (.aload_n 0, 1) := by decide +kernel
theorem dX9_init_206 : decode cX9_init 206 = .ok (.iconst 2, 1) := by decide +kernel
theorem dX9_init_207 : decode cX9_init 207 = .ok (.newarray .int, 2) := by decide +kernel
theorem dX9_init_209 : decode cX9_init 209 = .ok (.putfield 86, 3) := by decide +kernel
theorem dX9_init_212 : decode cX9_init 212 = .ok (.aload_n 0, 1) := by decide +kernel
theorem dX9_init_213 : decode cX9_init 213 = .ok (.iconst 2, 1) := by decide +kernel
theorem dX9_init_214 : decode cX9_init 214 = .ok (.newarray .int, 2) := by decide +kernel
theorem dX9_init_216 : decode cX9_init 216 = .ok (.putfield 89, 3) := by decide +kernel
theorem dX9_init_219 : decode cX9_init 219 = .ok (.aload_n 0, 1) := by decide +kernel
theorem dX9_init_220 : decode cX9_init 220 = .ok (.iconst 2, 1) := by decide +kernel
theorem dX9_init_221 : decode cX9_init 221 = .ok (.newarray .int, 2) := by decide +kernel
theorem dX9_init_223 : decode cX9_init 223 = .ok (.putfield 92, 3) := by decide +kernel
theorem dX9_init_226 : decode cX9_init 226 = .ok (.aload_n 0, 1) := by decide +kernel
theorem dX9_init_227 : decode cX9_init 227 = .ok (.iconst 3, 1) := by decide +kernel
theorem dX9_init_228 : decode cX9_init 228 = .ok (.newarray .int, 2) := by decide +kernel
theorem dX9_init_230 : decode cX9_init 230 = .ok (.putfield 95, 3) := by decide +kernel
theorem dX9_init_233 : decode cX9_init 233 = .ok (.aload_n 0, 1) := by decide +kernel
theorem dX9_init_234 : decode cX9_init 234 = .ok (.iconst 4, 1) := by decide +kernel
theorem dX9_init_235 : decode cX9_init 235 = .ok (.newarray .int, 2) := by decide +kernel
theorem dX9_init_237 : decode cX9_init 237 = .ok (.putfield 98, 3) := by decide +kernel
theorem dX9_init_240 : decode cX9_init 240 = .ok (.aload_n 0, 1) := by decide +kernel
theorem dX9_init_241 : decode cX9_init 241 = .ok (.iconst 4, 1) := by decide +kernel
theorem dX9_init_242 : decode cX9_init 242 = .ok (.newarray .int, 2) := by decide +kernel
theorem dX9_init_244 : decode cX9_init 244 = .ok (.putfield 101, 3) := by decide +kernel
theorem dX9_init_247 : decode cX9_init 247 = .ok (.aload_n 0, 1) := by decide +kernel
theorem dX9_init_248 : decode cX9_init 248 = .ok (.bipush 80, 2) := by decide +kernel
theorem dX9_init_250 : decode cX9_init 250 = .ok (.newarray .int, 2) := by decide +kernel
theorem dX9_init_252 : decode cX9_init 252 = .ok (.putfield 104, 3) := by decide +kernel
theorem dX9_init_255 : decode cX9_init 255 = .ok (.aload_n 0, 1) := by decide +kernel
theorem dX9_init_256 : decode cX9_init 256 = .ok (.bipush 80, 2) := by decide +kernel
theorem dX9_init_258 : decode cX9_init 258 = .ok (.newarray .int, 2) := by decide +kernel
theorem dX9_init_260 : decode cX9_init 260 = .ok (.putfield 107, 3) := by decide +kernel
theorem dX9_init_263 : decode cX9_init 263 = .ok (.aload_n 0, 1) := by decide +kernel
theorem dX9_init_264 : decode cX9_init 264 = .ok (.sipush 2001, 3) := by decide +kernel
theorem dX9_init_267 : decode cX9_init 267 = .ok (.newarray .boolean, 2) := by decide +kernel
theorem dX9_init_269 : decode cX9_init 269 = .ok (.putfield 110, 3) := by decide +kernel
theorem dX9_init_272 : decode cX9_init 272 = .ok (.aload_n 0, 1) := by decide +kernel
theorem dX9_init_273 : decode cX9_init 273 = .ok (.bipush 48, 2) := by decide +kernel
theorem dX9_init_275 : decode cX9_init 275 = .ok (.newarray .int, 2) := by decide +kernel
theorem dX9_init_277 : decode cX9_init 277 = .ok (.putfield 114, 3) := by decide +kernel
theorem dX9_init_280 : decode cX9_init 280 = .ok (.aload_n 0, 1) := by decide +kernel
theorem dX9_init_281 : decode cX9_init 281 = .ok (.bipush 48, 2) := by decide +kernel
theorem dX9_init_283 : decode cX9_init 283 = .ok (.newarray .int, 2) := by decide +kernel
theorem dX9_init_285 : decode cX9_init 285 = .ok (.putfield 117, 3) := by decide +kernel
theorem dX9_init_288 : decode cX9_init 288 = .ok (.aload_n 0, 1) := by decide +kernel
theorem dX9_init_289 : decode cX9_init 289 = .ok (.bipush 6, 2) := by decide +kernel
theorem dX9_init_291 : decode cX9_init 291 = .ok (.newarray .int, 2) := by decide +kernel
theorem dX9_init_293 : decode cX9_init 293 = .ok (.putfield 120, 3) := by decide +kernel
theorem dX9_init_296 : decode cX9_init 296 = .ok (.aload_n 0, 1) := by decide +kernel
theorem dX9_init_297 : decode cX9_init 297 = .ok (.sipush 2001, 3) := by decide +kernel
theorem dX9_init_300 : decode cX9_init 300 = .ok (.newarray .int, 2) := by decide +kernel
theorem dX9_init_302 : decode cX9_init 302 = .ok (.putfield 123, 3) := by decide +kernel
theorem dX9_init_305 : decode cX9_init 305 = .ok (.aload_n 0, 1) := by decide +kernel
theorem dX9_init_306 : decode cX9_init 306 = .ok (.sipush 320, 3) := by decide +kernel
theorem dX9_init_309 : decode cX9_init 309 = .ok (.newarray .int, 2) := by decide +kernel
theorem dX9_init_311 : decode cX9_init 311 = .ok (.putfield 126, 3) := by decide +kernel
theorem dX9_init_314 : decode cX9_init 314 = .ok (.aload_n 0, 1) := by decide +kernel
theorem dX9_init_315 : decode cX9_init 315 = .ok (.iconst 5, 1) := by decide +kernel
theorem dX9_init_316 : decode cX9_init 316 = .ok (.newarray .int, 2) := by decide +kernel
theorem dX9_init_318 : decode cX9_init 318 = .ok (.putfield 129, 3) := by decide +kernel
theorem dX9_init_321 : decode cX9_init 321 = .ok (.aload_n 0, 1) := by decide +kernel
theorem dX9_init_322 : decode cX9_init 322 = .ok (.iconst 5, 1) := by decide +kernel
theorem dX9_init_323 : decode cX9_init 323 = .ok (.newarray .int, 2) := by decide +kernel
theorem dX9_init_325 : decode cX9_init 325 = .ok (.putfield 132, 3) := by decide +kernel
theorem dX9_init_328 : decode cX9_init 328 = .ok (.aload_n 0, 1) := by decide +kernel
theorem dX9_init_329 : decode cX9_init 329 = .ok (.iconst 5, 1) := by decide +kernel
theorem dX9_init_330 : decode cX9_init 330 = .ok (.newarray .int, 2) := by decide +kernel
theorem dX9_init_332 : decode cX9_init 332 = .ok (.putfield 135, 3) := by decide +kernel
theorem dX9_init_335 : decode cX9_init 335 = .ok (.aload_n 0, 1) := by decide +kernel
theorem dX9_init_336 : decode cX9_init 336 = .ok (.iconst 5, 1) := by decide +kernel
theorem dX9_init_337 : decode cX9_init 337 = .ok (.newarray .int, 2) := by decide +kernel
theorem dX9_init_339 : decode cX9_init 339 = .ok (.putfield 138, 3) := by decide +kernel
theorem dX9_init_342 : decode cX9_init 342 = .ok (.aload_n 0, 1) := by decide +kernel
theorem dX9_init_343 : decode cX9_init 343 = .ok (.iconst 5, 1) := by decide +kernel
theorem dX9_init_344 : decode cX9_init 344 = .ok (.newarray .int, 2) := by decide +kernel
theorem dX9_init_346 : decode cX9_init 346 = .ok (.putfield 141, 3) := by decide +kernel
theorem dX9_init_349 : decode cX9_init 349 = .ok (.aload_n 0, 1) := by decide +kernel
theorem dX9_init_350 : decode cX9_init 350 = .ok (.iconst 4, 1) := by decide +kernel
theorem dX9_init_351 : decode cX9_init 351 = .ok (.newarray .int, 2) := by decide +kernel
theorem dX9_init_353 : decode cX9_init 353 = .ok (.putfield 144, 3) := by decide +kernel
theorem dX9_init_356 : decode cX9_init 356 = .ok (.aload_n 0, 1) := by decide +kernel
theorem dX9_init_357 : decode cX9_init 357 = .ok (.iconst 4, 1) := by decide +kernel
theorem dX9_init_358 : decode cX9_init 358 = .ok (.newarray .int, 2) := by decide +kernel
theorem dX9_init_360 : decode cX9_init 360 = .ok (.putfield 147, 3) := by decide +kernel
theorem dX9_init_363 : decode cX9_init 363 = .ok (.aload_n 0, 1) := by decide +kernel
theorem dX9_init_364 : decode cX9_init 364 = .ok (.bipush 64, 2) := by decide +kernel
theorem dX9_init_366 : decode cX9_init 366 = .ok (.newarray .int, 2) := by decide +kernel
theorem dX9_init_368 : decode cX9_init 368 = .ok (.putfield 150, 3) := by decide +kernel
theorem dX9_init_371 : decode cX9_init 371 = .ok (.return_, 1) := by decide +kernel
theorem dX9_lies_0 : decode cX9_lies 0 = .ok (.iload_n 0, 1) := by decide +kernel
theorem dX9_lies_1 : decode cX9_lies 1 = .ok (.iload_n 1, 1) := by decide +kernel
theorem dX9_lies_2 : decode cX9_lies 2 = .ok (.if_icmp .lt 12, 3) := by decide +kernel
theorem dX9_lies_5 : decode cX9_lies 5 = .ok (.iload_n 0, 1) := by decide +kernel
theorem dX9_lies_6 : decode cX9_lies 6 = .ok (.iload_n 2, 1) := by decide +kernel
theorem dX9_lies_7 : decode cX9_lies 7 = .ok (.if_icmp .gt 7, 3) := by decide +kernel
theorem dX9_lies_10 : decode cX9_lies 10 = .ok (.iconst 1, 1) := by decide +kernel
theorem dX9_lies_11 : decode cX9_lies 11 = .ok (.goto 4, 3) := by decide +kernel
theorem dX9_lies_14 : decode cX9_lies 14 = .ok (.iconst 0, 1) := by decide +kernel
theorem dX9_lies_15 : decode cX9_lies 15 = .ok (.ireturn, 1) := by decide +kernel
theorem dX9_body_0 : decode cX9_body 0 = .ok (.aload_n 0, 1) := by decide +kernel
theorem dX9_body_1 : decode cX9_body 1 = .ok (.getfield 153, 3) := by decide +kernel
theorem dX9_body_4 : decode cX9_body 4 = .ok (.bipush 6, 2) := by decide +kernel
theorem dX9_body_6 : decode cX9_body 6 = .ok (.if_icmp .eq 88, 3) := by decide +kernel
theorem dX9_body_9 : decode cX9_body 9 = .ok (.iload_n 1, 1) := by decide +kernel
theorem dX9_body_10 : decode cX9_body 10 = .ok (.iconst 1, 1) := by decide +kernel
theorem dX9_body_11 : decode cX9_body 11 = .ok (.bipush 9, 2) := by decide +kernel
theorem dX9_body_13 : decode cX9_body 13 = .ok (.invokestatic 157, 3) := by decide +kernel
theorem dX9_body_16 : decode cX9_body 16 = .ok (.ifCond .eq 78, 3) := by decide +kernel
theorem dX9_body_19 : decode cX9_body 19 = .ok (.iload_n 2, 1) := by decide +kernel
theorem dX9_body_20 : decode cX9_body 20 = .ok (.iconst 1, 1) := by decide +kernel
theorem dX9_body_21 : decode cX9_body 21 = .ok (.bipush 9, 2) := by decide +kernel
theorem dX9_body_23 : decode cX9_body 23 = .ok (.invokestatic 157, 3) := by decide +kernel
theorem dX9_body_26 : decode cX9_body 26 = .ok (.ifCond .eq 68, 3) := by decide +kernel
theorem dX9_body_29 : decode cX9_body 29 = .ok (.iload_n 3, 1) := by decide +kernel
theorem dX9_body_30 : decode cX9_body 30 = .ok (.iconst 1, 1) := by decide +kernel
theorem dX9_body_31 : decode cX9_body 31 = .ok (.bipush 9, 2) := by decide +kernel
theorem dX9_body_33 : decode cX9_body 33 = .ok (.invokestatic 157, 3) := by decide +kernel
theorem dX9_body_36 : decode cX9_body 36 = .ok (.ifCond .eq 58, 3) := by decide +kernel
theorem dX9_body_39 : decode cX9_body 39 = .ok (.iload 4, 2) := by decide +kernel
theorem dX9_body_41 : decode cX9_body 41 = .ok (.iconst 1, 1) := by decide +kernel
theorem dX9_body_42 : decode cX9_body 42 = .ok (.bipush 9, 2) := by decide +kernel
theorem dX9_body_44 : decode cX9_body 44 = .ok (.invokestatic 157, 3) := by decide +kernel
theorem dX9_body_47 : decode cX9_body 47 = .ok (.ifCond .eq 47, 3) := by decide +kernel
theorem dX9_body_50 : decode cX9_body 50 = .ok (.iload 5, 2) := by decide +kernel
theorem dX9_body_52 : decode cX9_body 52 = .ok (.iconst 1, 1) := by decide +kernel
theorem dX9_body_53 : decode cX9_body 53 = .ok (.bipush 9, 2) := by decide +kernel
theorem dX9_body_55 : decode cX9_body 55 = .ok (.invokestatic 157, 3) := by decide +kernel
theorem dX9_body_58 : decode cX9_body 58 = .ok (.ifCond .eq 36, 3) := by decide +kernel
theorem dX9_body_61 : decode cX9_body 61 = .ok (.iload 6, 2) := by decide +kernel
theorem dX9_body_63 : decode cX9_body 63 = .ok (.iconst 1, 1) := by decide +kernel
theorem dX9_body_64 : decode cX9_body 64 = .ok (.bipush 9, 2) := by decide +kernel
theorem dX9_body_66 : decode cX9_body 66 = .ok (.invokestatic 157, 3) := by decide +kernel
theorem dX9_body_69 : decode cX9_body 69 = .ok (.ifCond .eq 25, 3) := by decide +kernel
theorem dX9_body_72 : decode cX9_body 72 = .ok (.iload 7, 2) := by decide +kernel
theorem dX9_body_74 : decode cX9_body 74 = .ok (.iconst 1, 1) := by decide +kernel
theorem dX9_body_75 : decode cX9_body 75 = .ok (.bipush 9, 2) := by decide +kernel
theorem dX9_body_77 : decode cX9_body 77 = .ok (.invokestatic 157, 3) := by decide +kernel
theorem dX9_body_80 : decode cX9_body 80 = .ok (.ifCond .eq 14, 3) := by decide +kernel
theorem dX9_body_83 : decode cX9_body 83 = .ok (.iload 8, 2) := by decide +kernel
theorem dX9_body_85 : decode cX9_body 85 = .ok (.iconst 1, 1) := by decide +kernel
theorem dX9_body_86 : decode cX9_body 86 = .ok (.bipush 9, 2) := by decide +kernel
theorem dX9_body_88 : decode cX9_body 88 = .ok (.invokestatic 157, 3) := by decide +kernel
theorem dX9_body_91 : decode cX9_body 91 = .ok (.ifCond .ne 5, 3) := by decide +kernel
theorem dX9_body_94 : decode cX9_body 94 = .ok (.iconst (-1), 1) := by decide +kernel
theorem dX9_body_95 : decode cX9_body 95 = .ok (.ireturn, 1) := by decide +kernel
theorem dX9_body_96 : decode cX9_body 96 = .ok (.bipush 8, 2) := by decide +kernel
theorem dX9_body_98 : decode cX9_body 98 = .ok (.aload_n 0, 1) := by decide +kernel
theorem dX9_body_99 : decode cX9_body 99 = .ok (.getfield 153, 3) := by decide +kernel
theorem dX9_body_102 : decode cX9_body 102 = .ok (.imul, 1) := by decide +kernel
theorem dX9_body_103 : decode cX9_body 103 = .ok (.istore 9, 2) := by decide +kernel
theorem dX9_body_105 : decode cX9_body 105 = .ok (.aload_n 0, 1) := by decide +kernel
theorem dX9_body_106 : decode cX9_body 106 = .ok (.getfield 13, 3) := by decide +kernel
theorem dX9_body_109 : decode cX9_body 109 = .ok (.iload 9, 2) := by decide +kernel
theorem dX9_body_111 : decode cX9_body 111 = .ok (.iload_n 1, 1) := by decide +kernel
theorem dX9_body_112 : decode cX9_body 112 = .ok (.iastore, 1) := by decide +kernel
theorem dX9_body_113 : decode cX9_body 113 = .ok (.aload_n 0, 1) := by decide +kernel
theorem dX9_body_114 : decode cX9_body 114 = .ok (.getfield 13, 3) := by decide +kernel
theorem dX9_body_117 : decode cX9_body 117 = .ok (.iload 9, 2) := by decide +kernel
theorem dX9_body_119 : decode cX9_body 119 = .ok (.iconst 1, 1) := by decide +kernel
theorem dX9_body_120 : decode cX9_body 120 = .ok (.iadd, 1) := by decide +kernel
theorem dX9_body_121 : decode cX9_body 121 = .ok (.iload_n 2, 1) := by decide +kernel
theorem dX9_body_122 : decode cX9_body 122 = .ok (.iastore, 1) := by decide +kernel
theorem dX9_body_123 : decode cX9_body 123 = .ok (.aload_n 0, 1) := by decide +kernel
theorem dX9_body_124 : decode cX9_body 124 = .ok (.getfield 13, 3) := by decide +kernel
theorem dX9_body_127 : decode cX9_body 127 = .ok (.iload 9, 2) := by decide +kernel
theorem dX9_body_129 : decode cX9_body 129 = .ok (.iconst 2, 1) := by decide +kernel
theorem dX9_body_130 : decode cX9_body 130 = .ok (.iadd, 1) := by decide +kernel
theorem dX9_body_131 : decode cX9_body 131 = .ok (.iload_n 3, 1) := by decide +kernel
theorem dX9_body_132 : decode cX9_body 132 = .ok (.iastore, 1) := by decide +kernel
theorem dX9_body_133 : decode cX9_body 133 = .ok (.aload_n 0, 1) := by decide +kernel
theorem dX9_body_134 : decode cX9_body 134 = .ok (.getfield 13, 3) := by decide +kernel
theorem dX9_body_137 : decode cX9_body 137 = .ok (.iload 9, 2) := by decide +kernel
theorem dX9_body_139 : decode cX9_body 139 = .ok (.iconst 3, 1) := by decide +kernel
theorem dX9_body_140 : decode cX9_body 140 = .ok (.iadd, 1) := by decide +kernel
theorem dX9_body_141 : decode cX9_body 141 = .ok (.iload 4, 2) := by decide +kernel
theorem dX9_body_143 : decode cX9_body 143 = .ok (.iastore, 1) := by decide +kernel
theorem dX9_body_144 : decode cX9_body 144 = .ok (.aload_n 0, 1) := by decide +kernel
theorem dX9_body_145 : decode cX9_body 145 = .ok (.getfield 13, 3) := by decide +kernel
theorem dX9_body_148 : decode cX9_body 148 = .ok (.iload 9, 2) := by decide +kernel
theorem dX9_body_150 : decode cX9_body 150 = .ok (.iconst 4, 1) := by decide +kernel
theorem dX9_body_151 : decode cX9_body 151 = .ok (.iadd, 1) := by decide +kernel
theorem dX9_body_152 : decode cX9_body 152 = .ok (.iload 5, 2) := by decide +kernel
theorem dX9_body_154 : decode cX9_body 154 = .ok (.iastore, 1) := by decide +kernel
theorem dX9_body_155 : decode cX9_body 155 = .ok (.aload_n 0, 1) := by decide +kernel
theorem dX9_body_156 : decode cX9_body 156 = .ok (.getfield 13, 3) := by decide +kernel
theorem dX9_body_159 : decode cX9_body 159 = .ok (.iload 9, 2) := by decide +kernel
theorem dX9_body_161 : decode cX9_body 161 = .ok (.iconst 5, 1) := by decide +kernel
theorem dX9_body_162 : decode cX9_body 162 = .ok (.iadd, 1) := by decide +kernel
theorem dX9_body_163 : decode cX9_body 163 = .ok (.iload 6, 2) := by decide +kernel
theorem dX9_body_165 : decode cX9_body 165 = .ok (.iastore, 1) := by decide +kernel
theorem dX9_body_166 : decode cX9_body 166 = .ok (.aload_n 0, 1) := by decide +kernel
theorem dX9_body_167 : decode cX9_body 167 = .ok (.getfield 13, 3) := by decide +kernel
theorem dX9_body_170 : decode cX9_body 170 = .ok (.iload 9, 2) := by decide +kernel
theorem dX9_body_172 : decode cX9_body 172 = .ok (.bipush 6, 2) := by decide +kernel
theorem dX9_body_174 : decode cX9_body 174 = .ok (.iadd, 1) := by decide +kernel
theorem dX9_body_175 : decode cX9_body 175 = .ok (.iload 7, 2) := by decide +kernel
theorem dX9_body_177 : decode cX9_body 177 = .ok (.iastore, 1) := by decide +kernel
theorem dX9_body_178 : decode cX9_body 178 = .ok (.aload_n 0, 1) := by decide +kernel
theorem dX9_body_179 : decode cX9_body 179 = .ok (.getfield 13, 3) := by decide +kernel
theorem dX9_body_182 : decode cX9_body 182 = .ok (.iload 9, 2) := by decide +kernel
theorem dX9_body_184 : decode cX9_body 184 = .ok (.bipush 7, 2) := by decide +kernel
theorem dX9_body_186 : decode cX9_body 186 = .ok (.iadd, 1) := by decide +kernel
theorem dX9_body_187 : decode cX9_body 187 = .ok (.iload 8, 2) := by decide +kernel
theorem dX9_body_189 : decode cX9_body 189 = .ok (.iastore, 1) := by decide +kernel
theorem dX9_body_190 : decode cX9_body 190 = .ok (.aload_n 0, 1) := by decide +kernel
theorem dX9_body_191 : decode cX9_body 191 = .ok (.dup, 1) := by decide +kernel
theorem dX9_body_192 : decode cX9_body 192 = .ok (.getfield 153, 3) := by decide +kernel
theorem dX9_body_195 : decode cX9_body 195 = .ok (.iconst 1, 1) := by decide +kernel
theorem dX9_body_196 : decode cX9_body 196 = .ok (.iadd, 1) := by decide +kernel
theorem dX9_body_197 : decode cX9_body 197 = .ok (.putfield 153, 3) := by decide +kernel
theorem dX9_body_200 : decode cX9_body 200 = .ok (.aload_n 0, 1) := by decide +kernel
theorem dX9_body_201 : decode cX9_body 201 = .ok (.getfield 153, 3) := by decide +kernel
theorem dX9_body_204 : decode cX9_body 204 = .ok (.iconst 1, 1) := by decide +kernel
theorem dX9_body_205 : decode cX9_body 205 = .ok (.isub, 1) := by decide +kernel
theorem dX9_body_206 : decode cX9_body 206 = .ok (.ireturn, 1) := by decide +kernel
theorem dX9_isBody_0 : decode cX9_isBody 0 = .ok (.iload_n 1, 1) := by decide +kernel
theorem dX9_isBody_1 : decode cX9_isBody 1 = .ok (.iconst 0, 1) := by decide +kernel
theorem dX9_isBody_2 : decode cX9_isBody 2 = .ok (.aload_n 0, 1) := by decide +kernel
theorem dX9_isBody_3 : decode cX9_isBody 3 = .ok (.getfield 153, 3) := by decide +kernel
theorem dX9_isBody_6 : decode cX9_isBody 6 = .ok (.iconst 1, 1) := by decide +kernel
theorem dX9_isBody_7 : decode cX9_isBody 7 = .ok (.isub, 1) := by decide +kernel
theorem dX9_isBody_8 : decode cX9_isBody 8 = .ok (.invokestatic 157, 3) := by decide +kernel
theorem dX9_isBody_11 : decode cX9_isBody 11 = .ok (.ireturn, 1) := by decide +kernel
theorem dX9_isCloth_0 : decode cX9_isCloth 0 = .ok (.iload_n 1, 1) := by decide +kernel
theorem dX9_isCloth_1 : decode cX9_isCloth 1 = .ok (.iconst 0, 1) := by decide +kernel
theorem dX9_isCloth_2 : decode cX9_isCloth 2 = .ok (.aload_n 0, 1) := by decide +kernel
theorem dX9_isCloth_3 : decode cX9_isCloth 3 = .ok (.getfield 161, 3) := by decide +kernel
theorem dX9_isCloth_6 : decode cX9_isCloth 6 = .ok (.iconst 1, 1) := by decide +kernel
theorem dX9_isCloth_7 : decode cX9_isCloth 7 = .ok (.isub, 1) := by decide +kernel
theorem dX9_isCloth_8 : decode cX9_isCloth 8 = .ok (.invokestatic 157, 3) := by decide +kernel
theorem dX9_isCloth_11 : decode cX9_isCloth 11 = .ok (.ireturn, 1) := by decide +kernel
theorem dX9_isStyle_0 : decode cX9_isStyle 0 = .ok (.iload_n 1, 1) := by decide +kernel
theorem dX9_isStyle_1 : decode cX9_isStyle 1 = .ok (.iconst 0, 1) := by decide +kernel
theorem dX9_isStyle_2 : decode cX9_isStyle 2 = .ok (.aload_n 0, 1) := by decide +kernel
theorem dX9_isStyle_3 : decode cX9_isStyle 3 = .ok (.getfield 164, 3) := by decide +kernel
theorem dX9_isStyle_6 : decode cX9_isStyle 6 = .ok (.iconst 1, 1) := by decide +kernel
theorem dX9_isStyle_7 : decode cX9_isStyle 7 = .ok (.isub, 1) := by decide +kernel
theorem dX9_isStyle_8 : decode cX9_isStyle 8 = .ok (.invokestatic 157, 3) := by decide +kernel
theorem dX9_isStyle_11 : decode cX9_isStyle 11 = .ok (.ireturn, 1) := by decide +kernel
theorem dX9_cloth_0 : decode cX9_cloth 0 = .ok (.aload_n 0, 1) := by decide +kernel
theorem dX9_cloth_1 : decode cX9_cloth 1 = .ok (.getfield 161, 3) := by decide +kernel
theorem dX9_cloth_4 : decode cX9_cloth 4 = .ok (.bipush 6, 2) := by decide +kernel
theorem dX9_cloth_6 : decode cX9_cloth 6 = .ok (.if_icmp .eq 24, 3) := by decide +kernel
theorem dX9_cloth_9 : decode cX9_cloth 9 = .ok (.iload_n 1, 1) := by decide +kernel
theorem dX9_cloth_10 : decode cX9_cloth 10 = .ok (.bipush 10, 2) := by decide +kernel
theorem dX9_cloth_12 : decode cX9_cloth 12 = .ok (.sipush 400, 3) := by decide +kernel
theorem dX9_cloth_15 : decode cX9_cloth 15 = .ok (.invokestatic 157, 3) := by decide +kernel
theorem dX9_cloth_18 : decode cX9_cloth 18 = .ok (.ifCond .eq 12, 3) := by decide +kernel
theorem dX9_cloth_21 : decode cX9_cloth 21 = .ok (.iload_n 2, 1) := by decide +kernel
theorem dX9_cloth_22 : decode cX9_cloth 22 = .ok (.iconst 1, 1) := by decide +kernel
theorem dX9_cloth_23 : decode cX9_cloth 23 = .ok (.iconst 4, 1) := by decide +kernel
theorem dX9_cloth_24 : decode cX9_cloth 24 = .ok (.invokestatic 157, 3) := by decide +kernel
theorem dX9_cloth_27 : decode cX9_cloth 27 = .ok (.ifCond .ne 5, 3) := by decide +kernel
theorem dX9_cloth_30 : decode cX9_cloth 30 = .ok (.iconst (-1), 1) := by decide +kernel
theorem dX9_cloth_31 : decode cX9_cloth 31 = .ok (.ireturn, 1) := by decide +kernel
theorem dX9_cloth_32 : decode cX9_cloth 32 = .ok (.aload_n 0, 1) := by decide +kernel
theorem dX9_cloth_33 : decode cX9_cloth 33 = .ok (.getfield 17, 3) := by decide +kernel
theorem dX9_cloth_36 : decode cX9_cloth 36 = .ok (.aload_n 0, 1) := by decide +kernel
theorem dX9_cloth_37 : decode cX9_cloth 37 = .ok (.getfield 161, 3) := by decide +kernel
theorem dX9_cloth_40 : decode cX9_cloth 40 = .ok (.iload_n 1, 1) := by decide +kernel
theorem dX9_cloth_41 : decode cX9_cloth 41 = .ok (.iastore, 1) := by decide +kernel
theorem dX9_cloth_42 : decode cX9_cloth 42 = .ok (.aload_n 0, 1) := by decide +kernel
theorem dX9_cloth_43 : decode cX9_cloth 43 = .ok (.getfield 20, 3) := by decide +kernel
theorem dX9_cloth_46 : decode cX9_cloth 46 = .ok (.aload_n 0, 1) := by decide +kernel
theorem dX9_cloth_47 : decode cX9_cloth 47 = .ok (.getfield 161, 3) := by decide +kernel
theorem dX9_cloth_50 : decode cX9_cloth 50 = .ok (.iload_n 2, 1) := by decide +kernel
theorem dX9_cloth_51 : decode cX9_cloth 51 = .ok (.iastore, 1) := by decide +kernel
theorem dX9_cloth_52 : decode cX9_cloth 52 = .ok (.aload_n 0, 1) := by decide +kernel
theorem dX9_cloth_53 : decode cX9_cloth 53 = .ok (.dup, 1) := by decide +kernel
theorem dX9_cloth_54 : decode cX9_cloth 54 = .ok (.getfield 161, 3) := by decide +kernel
theorem dX9_cloth_57 : decode cX9_cloth 57 = .ok (.iconst 1, 1) := by decide +kernel
theorem dX9_cloth_58 : decode cX9_cloth 58 = .ok (.iadd, 1) := by decide +kernel
theorem dX9_cloth_59 : decode cX9_cloth 59 = .ok (.putfield 161, 3) := by decide +kernel
theorem dX9_cloth_62 : decode cX9_cloth 62 = .ok (.aload_n 0, 1) := by decide +kernel
theorem dX9_cloth_63 : decode cX9_cloth 63 = .ok (.getfield 161, 3) := by decide +kernel
theorem dX9_cloth_66 : decode cX9_cloth 66 = .ok (.iconst 1, 1) := by decide +kernel
theorem dX9_cloth_67 : decode cX9_cloth 67 = .ok (.isub, 1) := by decide +kernel
theorem dX9_cloth_68 : decode cX9_cloth 68 = .ok (.ireturn, 1) := by decide +kernel
theorem dX9_colour_0 : decode cX9_colour 0 = .ok (.aload_n 0, 1) := by decide +kernel
theorem dX9_colour_1 : decode cX9_colour 1 = .ok (.iload_n 1, 1) := by decide +kernel
theorem dX9_colour_2 : decode cX9_colour 2 = .ok (.invokevirtual 167, 3) := by decide +kernel
theorem dX9_colour_5 : decode cX9_colour 5 = .ok (.ifCond .eq 22, 3) := by decide +kernel
theorem dX9_colour_8 : decode cX9_colour 8 = .ok (.iload_n 2, 1) := by decide +kernel
theorem dX9_colour_9 : decode cX9_colour 9 = .ok (.iconst 0, 1) := by decide +kernel
theorem dX9_colour_10 : decode cX9_colour 10 = .ok (.iconst 5, 1) := by decide +kernel
theorem dX9_colour_11 : decode cX9_colour 11 = .ok (.invokestatic 157, 3) := by decide +kernel
theorem dX9_colour_14 : decode cX9_colour 14 = .ok (.ifCond .eq 13, 3) := by decide +kernel
theorem dX9_colour_17 : decode cX9_colour 17 = .ok (.iload_n 3, 1) := by decide +kernel
theorem dX9_colour_18 : decode cX9_colour 18 = .ok (.iconst 0, 1) := by decide +kernel
theorem dX9_colour_19 : decode cX9_colour 19 = .ok (.bipush 7, 2) := by decide +kernel
theorem dX9_colour_21 : decode cX9_colour 21 = .ok (.invokestatic 157, 3) := by decide +kernel
theorem dX9_colour_24 : decode cX9_colour 24 = .ok (.ifCond .ne 5, 3) := by decide +kernel
theorem dX9_colour_27 : decode cX9_colour 27 = .ok (.iconst 0, 1) := by decide +kernel
theorem dX9_colour_28 : decode cX9_colour 28 = .ok (.ireturn, 1) := by decide +kernel
theorem dX9_colour_29 : decode cX9_colour 29 = .ok (.aload_n 0, 1) := by decide +kernel
theorem dX9_colour_30 : decode cX9_colour 30 = .ok (.getfield 26, 3) := by decide +kernel
theorem dX9_colour_33 : decode cX9_colour 33 = .ok (.bipush 6, 2) := by decide +kernel
theorem dX9_colour_35 : decode cX9_colour 35 = .ok (.iload_n 1, 1) := by decide +kernel
theorem dX9_colour_36 : decode cX9_colour 36 = .ok (.imul, 1) := by decide +kernel
theorem dX9_colour_37 : decode cX9_colour 37 = .ok (.iload_n 2, 1) := by decide +kernel
theorem dX9_colour_38 : decode cX9_colour 38 = .ok (.iadd, 1) := by decide +kernel
theorem dX9_colour_39 : decode cX9_colour 39 = .ok (.iload_n 3, 1) := by decide +kernel
theorem dX9_colour_40 : decode cX9_colour 40 = .ok (.iastore, 1) := by decide +kernel
theorem dX9_colour_41 : decode cX9_colour 41 = .ok (.iconst 1, 1) := by decide +kernel
theorem dX9_colour_42 : decode cX9_colour 42 = .ok (.ireturn, 1) := by decide +kernel
theorem dX9_end_0 : decode cX9_end 0 = .ok (.aload_n 0, 1) := by decide +kernel
theorem dX9_end_1 : decode cX9_end 1 = .ok (.iload_n 1, 1) := by decide +kernel
theorem dX9_end_2 : decode cX9_end 2 = .ok (.invokevirtual 167, 3) := by decide +kernel
theorem dX9_end_5 : decode cX9_end 5 = .ok (.ifCond .eq 17, 3) := by decide +kernel
theorem dX9_end_8 : decode cX9_end 8 = .ok (.iload_n 2, 1) := by decide +kernel
theorem dX9_end_9 : decode cX9_end 9 = .ok (.iconst 0, 1) := by decide +kernel
theorem dX9_end_10 : decode cX9_end 10 = .ok (.aload_n 0, 1) := by decide +kernel
theorem dX9_end_11 : decode cX9_end 11 = .ok (.getfield 17, 3) := by decide +kernel
theorem dX9_end_14 : decode cX9_end 14 = .ok (.iload_n 1, 1) := by decide +kernel
theorem dX9_end_15 : decode cX9_end 15 = .ok (.iaload, 1) := by decide +kernel
theorem dX9_end_16 : decode cX9_end 16 = .ok (.invokestatic 157, 3) := by decide +kernel
theorem dX9_end_19 : decode cX9_end 19 = .ok (.ifCond .ne 5, 3) := by decide +kernel
theorem dX9_end_22 : decode cX9_end 22 = .ok (.iconst 0, 1) := by decide +kernel
theorem dX9_end_23 : decode cX9_end 23 = .ok (.ireturn, 1) := by decide +kernel
theorem dX9_end_24 : decode cX9_end 24 = .ok (.aload_n 0, 1) := by decide +kernel
theorem dX9_end_25 : decode cX9_end 25 = .ok (.getfield 23, 3) := by decide +kernel
theorem dX9_end_28 : decode cX9_end 28 = .ok (.iload_n 1, 1) := by decide +kernel
theorem dX9_end_29 : decode cX9_end 29 = .ok (.iload_n 2, 1) := by decide +kernel
theorem dX9_end_30 : decode cX9_end 30 = .ok (.iastore, 1) := by decide +kernel
theorem dX9_end_31 : decode cX9_end 31 = .ok (.iconst 1, 1) := by decide +kernel
theorem dX9_end_32 : decode cX9_end 32 = .ok (.ireturn, 1) := by decide +kernel
theorem dX9_push_0 : decode cX9_push 0 = .ok (.bipush 24, 2) := by decide +kernel
theorem dX9_push_2 : decode cX9_push 2 = .ok (.istore_n 2, 1) := by decide +kernel
theorem dX9_push_3 : decode cX9_push 3 = .ok (.iload_n 2, 1) := by decide +kernel
theorem dX9_push_4 : decode cX9_push 4 = .ok (.ifCond .lt 32, 3) := by decide +kernel
theorem dX9_push_7 : decode cX9_push 7 = .ok (.aload_n 0, 1) := by decide +kernel
theorem dX9_push_8 : decode cX9_push 8 = .ok (.getfield 7, 3) := by decide +kernel
theorem dX9_push_11 : decode cX9_push 11 = .ok (.aload_n 0, 1) := by decide +kernel
theorem dX9_push_12 : decode cX9_push 12 = .ok (.getfield 171, 3) := by decide +kernel
theorem dX9_push_15 : decode cX9_push 15 = .ok (.iload_n 1, 1) := by decide +kernel
theorem dX9_push_16 : decode cX9_push 16 = .ok (.iload_n 2, 1) := by decide +kernel
theorem dX9_push_17 : decode cX9_push 17 = .ok (.ishr, 1) := by decide +kernel
theorem dX9_push_18 : decode cX9_push 18 = .ok (.i2b, 1) := by decide +kernel
theorem dX9_push_19 : decode cX9_push 19 = .ok (.bastore, 1) := by decide +kernel
theorem dX9_push_20 : decode cX9_push 20 = .ok (.aload_n 0, 1) := by decide +kernel
theorem dX9_push_21 : decode cX9_push 21 = .ok (.dup, 1) := by decide +kernel
theorem dX9_push_22 : decode cX9_push 22 = .ok (.getfield 171, 3) := by decide +kernel
theorem dX9_push_25 : decode cX9_push 25 = .ok (.iconst 1, 1) := by decide +kernel
theorem dX9_push_26 : decode cX9_push 26 = .ok (.iadd, 1) := by decide +kernel
theorem dX9_push_27 : decode cX9_push 27 = .ok (.putfield 171, 3) := by decide +kernel
theorem dX9_push_30 : decode cX9_push 30 = .ok (.iinc 2 (-8), 3) := by decide +kernel
theorem dX9_push_33 : decode cX9_push 33 = .ok (.goto (-30), 3) := by decide +kernel
theorem dX9_push_36 : decode cX9_push 36 = .ok (.return_, 1) := by decide +kernel
theorem dX9_feed_0 : decode cX9_feed 0 = .ok (.aload_n 0, 1) := by decide +kernel
theorem dX9_feed_1 : decode cX9_feed 1 = .ok (.getfield 171, 3) := by decide +kernel
theorem dX9_feed_4 : decode cX9_feed 4 = .ok (.bipush 20, 2) := by decide +kernel
theorem dX9_feed_6 : decode cX9_feed 6 = .ok (.iadd, 1) := by decide +kernel
theorem dX9_feed_7 : decode cX9_feed 7 = .ok (.bipush 120, 2) := by decide +kernel
theorem dX9_feed_9 : decode cX9_feed 9 = .ok (.if_icmp .le 5, 3) := by decide +kernel
theorem dX9_feed_12 : decode cX9_feed 12 = .ok (.iconst (-1), 1) := by decide +kernel
theorem dX9_feed_13 : decode cX9_feed 13 = .ok (.ireturn, 1) := by decide +kernel
theorem dX9_feed_14 : decode cX9_feed 14 = .ok (.aload_n 0, 1) := by decide +kernel
theorem dX9_feed_15 : decode cX9_feed 15 = .ok (.iload_n 1, 1) := by decide +kernel
theorem dX9_feed_16 : decode cX9_feed 16 = .ok (.invokevirtual 174, 3) := by decide +kernel
theorem dX9_feed_19 : decode cX9_feed 19 = .ok (.aload_n 0, 1) := by decide +kernel
theorem dX9_feed_20 : decode cX9_feed 20 = .ok (.iload_n 2, 1) := by decide +kernel
theorem dX9_feed_21 : decode cX9_feed 21 = .ok (.invokevirtual 174, 3) := by decide +kernel
theorem dX9_feed_24 : decode cX9_feed 24 = .ok (.aload_n 0, 1) := by decide +kernel
theorem dX9_feed_25 : decode cX9_feed 25 = .ok (.iload_n 3, 1) := by decide +kernel
theorem dX9_feed_26 : decode cX9_feed 26 = .ok (.invokevirtual 174, 3) := by decide +kernel
theorem dX9_feed_29 : decode cX9_feed 29 = .ok (.aload_n 0, 1) := by decide +kernel
theorem dX9_feed_30 : decode cX9_feed 30 = .ok (.iload 4, 2) := by decide +kernel
theorem dX9_feed_32 : decode cX9_feed 32 = .ok (.invokevirtual 174, 3) := by decide +kernel
theorem dX9_feed_35 : decode cX9_feed 35 = .ok (.aload_n 0, 1) := by decide +kernel
theorem dX9_feed_36 : decode cX9_feed 36 = .ok (.iload 5, 2) := by decide +kernel
theorem dX9_feed_38 : decode cX9_feed 38 = .ok (.invokevirtual 174, 3) := by decide +kernel
theorem dX9_feed_41 : decode cX9_feed 41 = .ok (.aload_n 0, 1) := by decide +kernel
theorem dX9_feed_42 : decode cX9_feed 42 = .ok (.getfield 171, 3) := by decide +kernel
theorem dX9_feed_45 : decode cX9_feed 45 = .ok (.ireturn, 1) := by decide +kernel
theorem dX9_here_0 : decode cX9_here 0 = .ok (.aload_n 0, 1) := by decide +kernel
theorem dX9_here_1 : decode cX9_here 1 = .ok (.getfield 178, 3) := by decide +kernel
theorem dX9_here_4 : decode cX9_here 4 = .ok (.aload_n 0, 1) := by decide +kernel
theorem dX9_here_5 : decode cX9_here 5 = .ok (.getfield 181, 3) := by decide +kernel
theorem dX9_here_8 : decode cX9_here 8 = .ok (.if_icmp .ge 24, 3) := by decide +kernel
theorem dX9_here_11 : decode cX9_here 11 = .ok (.aload_n 0, 1) := by decide +kernel
theorem dX9_here_12 : decode cX9_here 12 = .ok (.getfield 29, 3) := by decide +kernel
theorem dX9_here_15 : decode cX9_here 15 = .ok (.aload_n 0, 1) := by decide +kernel
theorem dX9_here_16 : decode cX9_here 16 = .ok (.getfield 184, 3) := by decide +kernel
theorem dX9_here_19 : decode cX9_here 19 = .ok (.aload_n 0, 1) := by decide +kernel
theorem dX9_here_20 : decode cX9_here 20 = .ok (.getfield 178, 3) := by decide +kernel
theorem dX9_here_23 : decode cX9_here 23 = .ok (.iadd, 1) := by decide +kernel
theorem dX9_here_24 : decode cX9_here 24 = .ok (.baload, 1) := by decide +kernel
theorem dX9_here_25 : decode cX9_here 25 = .ok (.sipush 255, 3) := by decide +kernel
theorem dX9_here_28 : decode cX9_here 28 = .ok (.iand, 1) := by decide +kernel
theorem dX9_here_29 : decode cX9_here 29 = .ok (.goto 4, 3) := by decide +kernel
theorem dX9_here_32 : decode cX9_here 32 = .ok (.iconst 0, 1) := by decide +kernel
theorem dX9_here_33 : decode cX9_here 33 = .ok (.ireturn, 1) := by decide +kernel
theorem dX9_fails_0 : decode cX9_fails 0 = .ok (.aload_n 0, 1) := by decide +kernel
theorem dX9_fails_1 : decode cX9_fails 1 = .ok (.aload_n 0, 1) := by decide +kernel
theorem dX9_fails_2 : decode cX9_fails 2 = .ok (.getfield 187, 3) := by decide +kernel
theorem dX9_fails_5 : decode cX9_fails 5 = .ok (.ifCond .ge 10, 3) := by decide +kernel
theorem dX9_fails_8 : decode cX9_fails 8 = .ok (.aload_n 0, 1) := by decide +kernel
theorem dX9_fails_9 : decode cX9_fails 9 = .ok (.getfield 187, 3) := by decide +kernel
theorem dX9_fails_12 : decode cX9_fails 12 = .ok (.goto 13, 3) := by decide +kernel
theorem dX9_fails_15 : decode cX9_fails 15 = .ok (.sipush (-1000), 3) := by decide +kernel
theorem dX9_fails_18 : decode cX9_fails 18 = .ok (.iload_n 1, 1) := by decide +kernel
theorem dX9_fails_19 : decode cX9_fails 19 = .ok (.imul, 1) := by decide +kernel
theorem dX9_fails_20 : decode cX9_fails 20 = .ok (.aload_n 0, 1) := by decide +kernel
theorem dX9_fails_21 : decode cX9_fails 21 = .ok (.getfield 178, 3) := by decide +kernel
theorem dX9_fails_24 : decode cX9_fails 24 = .ok (.isub, 1) := by decide +kernel
theorem dX9_fails_25 : decode cX9_fails 25 = .ok (.putfield 187, 3) := by decide +kernel
theorem dX9_fails_28 : decode cX9_fails 28 = .ok (.return_, 1) := by decide +kernel
theorem dX9_isDigit_0 : decode cX9_isDigit 0 = .ok (.iload_n 0, 1) := by decide +kernel
theorem dX9_isDigit_1 : decode cX9_isDigit 1 = .ok (.bipush 48, 2) := by decide +kernel
theorem dX9_isDigit_3 : decode cX9_isDigit 3 = .ok (.if_icmp .lt 13, 3) := by decide +kernel
theorem dX9_isDigit_6 : decode cX9_isDigit 6 = .ok (.iload_n 0, 1) := by decide +kernel
theorem dX9_isDigit_7 : decode cX9_isDigit 7 = .ok (.bipush 57, 2) := by decide +kernel
theorem dX9_isDigit_9 : decode cX9_isDigit 9 = .ok (.if_icmp .gt 7, 3) := by decide +kernel
theorem dX9_isDigit_12 : decode cX9_isDigit 12 = .ok (.iconst 1, 1) := by decide +kernel
theorem dX9_isDigit_13 : decode cX9_isDigit 13 = .ok (.goto 4, 3) := by decide +kernel
theorem dX9_isDigit_16 : decode cX9_isDigit 16 = .ok (.iconst 0, 1) := by decide +kernel
theorem dX9_isDigit_17 : decode cX9_isDigit 17 = .ok (.ireturn, 1) := by decide +kernel
section
variable {d : Nat} {M : gM} {Z : Option Value → gM → Prop} {a0 a1 a2 a3 a4 a5 a6 a7 a8 a9 a10 a11 a12 : Option Value} {v s0 s1 s2 s3 s4 s5 s6 s7 s8 s9 s10 s11 : Value} {x y w : Int32} {o b u1 u2 : Nat}
/-! 119: X9_init ()V -/
theorem gd119 {pc : Nat} {r : Except _ _} (h : decode cX9_init pc = r) : decode (gby 119) pc = r := h
theorem z119_0 : Run d 119 0 [some (.ref o)] [] M 0 0 Z ↔ Run d 119 1 [some (.ref o)] [.ref o] M 0 0 Z := R_local (gd119 dX9_init_0) rfl rfl rfl
theorem z119_1 : Run d 119 1 [a0] [.ref o] M 0 0 Z ↔ Run d 119 4 [a0] [] M 0 0 Z := R_prim (gd119 dX9_init_1) rfl rfl rfl rfl rfl rfl gc_9_1 rfl (by decide) rfl (Nat.le_of_ble_eq_true rfl)
theorem z119_4 : Run d 119 4 [some (.ref o)] [] M 0 0 Z ↔ Run d 119 5 [some (.ref o)] [.ref o] M 0 0 Z := R_local (gd119 dX9_init_4) rfl rfl rfl
theorem z119_5 : Run d 119 5 [a0] [s0] M 0 0 Z ↔ Run d 119 7 [a0] [.int 120, s0] M 0 0 Z := R_bipush (gd119 dX9_init_5) (by decide)
theorem z119_7 : Run d 119 7 [a0] [.int 120, s0] M 0 0 Z ↔ Run d 119 9 [a0] [.ref M.2.2.length, s0] (gNew M (.inr (1, 120))) 1 120 Z := R_newa2 (gd119 dX9_init_7) (t := 1) (by decide) (n := 120) (by decide) (by decide)
theorem z119_9 : Run d 119 9 [a0] [v, .ref o] M 1 120 Z ↔ gObj M o 9 ∧ gisRef v = true ∧ Run d 119 12 [a0] [] (gsR M o 0 (gU v)) 1 120 Z := R_putR (gd119 dX9_init_9) rfl gf_9_7 (Or.inr ⟨rfl, rfl⟩) rfl
theorem z119_12 : Run d 119 12 [some (.ref o)] [] M 1 120 Z ↔ Run d 119 13 [some (.ref o)] [.ref o] M 1 120 Z := R_local (gd119 dX9_init_12) rfl rfl rfl
theorem z119_13 : Run d 119 13 [a0] [s0] M 1 120 Z ↔ Run d 119 15 [a0] [.int 48, s0] M 1 120 Z := R_bipush (gd119 dX9_init_13) (by decide)
theorem z119_15 : Run d 119 15 [a0] [.int 48, s0] M 1 120 Z ↔ Run d 119 17 [a0] [.ref M.2.2.length, s0] (gNew M (.inr (0, 48))) 2 168 Z := R_newa2 (gd119 dX9_init_15) (t := 0) (by decide) (n := 48) (by decide) (by decide)
theorem z119_17 : Run d 119 17 [a0] [v, .ref o] M 2 168 Z ↔ gObj M o 9 ∧ gisRef v = true ∧ Run d 119 20 [a0] [] (gsR M o 5 (gU v)) 2 168 Z := R_putR (gd119 dX9_init_17) rfl gf_9_13 (Or.inr ⟨rfl, rfl⟩) rfl
theorem z119_20 : Run d 119 20 [some (.ref o)] [] M 2 168 Z ↔ Run d 119 21 [some (.ref o)] [.ref o] M 2 168 Z := R_local (gd119 dX9_init_20) rfl rfl rfl
theorem z119_21 : Run d 119 21 [a0] [s0] M 2 168 Z ↔ Run d 119 23 [a0] [.int 6, s0] M 2 168 Z := R_bipush (gd119 dX9_init_21) (by decide)
theorem z119_23 : Run d 119 23 [a0] [.int 6, s0] M 2 168 Z ↔ Run d 119 25 [a0] [.ref M.2.2.length, s0] (gNew M (.inr (0, 6))) 3 174 Z := R_newa2 (gd119 dX9_init_23) (t := 0) (by decide) (n := 6) (by decide) (by decide)
theorem z119_25 : Run d 119 25 [a0] [v, .ref o] M 3 174 Z ↔ gObj M o 9 ∧ gisRef v = true ∧ Run d 119 28 [a0] [] (gsR M o 6 (gU v)) 3 174 Z := R_putR (gd119 dX9_init_25) rfl gf_9_17 (Or.inr ⟨rfl, rfl⟩) rfl
theorem z119_28 : Run d 119 28 [some (.ref o)] [] M 3 174 Z ↔ Run d 119 29 [some (.ref o)] [.ref o] M 3 174 Z := R_local (gd119 dX9_init_28) rfl rfl rfl
theorem z119_29 : Run d 119 29 [a0] [s0] M 3 174 Z ↔ Run d 119 31 [a0] [.int 6, s0] M 3 174 Z := R_bipush (gd119 dX9_init_29) (by decide)
theorem z119_31 : Run d 119 31 [a0] [.int 6, s0] M 3 174 Z ↔ Run d 119 33 [a0] [.ref M.2.2.length, s0] (gNew M (.inr (0, 6))) 4 180 Z := R_newa2 (gd119 dX9_init_31) (t := 0) (by decide) (n := 6) (by decide) (by decide)
theorem z119_33 : Run d 119 33 [a0] [v, .ref o] M 4 180 Z ↔ gObj M o 9 ∧ gisRef v = true ∧ Run d 119 36 [a0] [] (gsR M o 7 (gU v)) 4 180 Z := R_putR (gd119 dX9_init_33) rfl gf_9_20 (Or.inr ⟨rfl, rfl⟩) rfl
theorem z119_36 : Run d 119 36 [some (.ref o)] [] M 4 180 Z ↔ Run d 119 37 [some (.ref o)] [.ref o] M 4 180 Z := R_local (gd119 dX9_init_36) rfl rfl rfl
theorem z119_37 : Run d 119 37 [a0] [s0] M 4 180 Z ↔ Run d 119 39 [a0] [.int 6, s0] M 4 180 Z := R_bipush (gd119 dX9_init_37) (by decide)
theorem z119_39 : Run d 119 39 [a0] [.int 6, s0] M 4 180 Z ↔ Run d 119 41 [a0] [.ref M.2.2.length, s0] (gNew M (.inr (0, 6))) 5 186 Z := R_newa2 (gd119 dX9_init_39) (t := 0) (by decide) (n := 6) (by decide) (by decide)
theorem z119_41 : Run d 119 41 [a0] [v, .ref o] M 5 186 Z ↔ gObj M o 9 ∧ gisRef v = true ∧ Run d 119 44 [a0] [] (gsR M o 8 (gU v)) 5 186 Z := R_putR (gd119 dX9_init_41) rfl gf_9_23 (Or.inr ⟨rfl, rfl⟩) rfl
theorem z119_44 : Run d 119 44 [some (.ref o)] [] M 5 186 Z ↔ Run d 119 45 [some (.ref o)] [.ref o] M 5 186 Z := R_local (gd119 dX9_init_44) rfl rfl rfl
theorem z119_45 : Run d 119 45 [a0] [s0] M 5 186 Z ↔ Run d 119 47 [a0] [.int 36, s0] M 5 186 Z := R_bipush (gd119 dX9_init_45) (by decide)
theorem z119_47 : Run d 119 47 [a0] [.int 36, s0] M 5 186 Z ↔ Run d 119 49 [a0] [.ref M.2.2.length, s0] (gNew M (.inr (0, 36))) 6 222 Z := R_newa2 (gd119 dX9_init_47) (t := 0) (by decide) (n := 36) (by decide) (by decide)
theorem z119_49 : Run d 119 49 [a0] [v, .ref o] M 6 222 Z ↔ gObj M o 9 ∧ gisRef v = true ∧ Run d 119 52 [a0] [] (gsR M o 9 (gU v)) 6 222 Z := R_putR (gd119 dX9_init_49) rfl gf_9_26 (Or.inr ⟨rfl, rfl⟩) rfl
theorem z119_52 : Run d 119 52 [some (.ref o)] [] M 6 222 Z ↔ Run d 119 53 [some (.ref o)] [.ref o] M 6 222 Z := R_local (gd119 dX9_init_52) rfl rfl rfl
theorem z119_53 : Run d 119 53 [a0] [s0] M 6 222 Z ↔ Run d 119 56 [a0] [.int 1200, s0] M 6 222 Z := R_sipush (gd119 dX9_init_53) (by decide)
theorem z119_56 : Run d 119 56 [a0] [.int 1200, s0] M 6 222 Z ↔ Run d 119 58 [a0] [.ref M.2.2.length, s0] (gNew M (.inr (1, 1200))) 7 1422 Z := R_newa2 (gd119 dX9_init_56) (t := 1) (by decide) (n := 1200) (by decide) (by decide)
theorem z119_58 : Run d 119 58 [a0] [v, .ref o] M 7 1422 Z ↔ gObj M o 9 ∧ gisRef v = true ∧ Run d 119 61 [a0] [] (gsR M o 10 (gU v)) 7 1422 Z := R_putR (gd119 dX9_init_58) rfl gf_9_29 (Or.inr ⟨rfl, rfl⟩) rfl
theorem z119_61 : Run d 119 61 [some (.ref o)] [] M 7 1422 Z ↔ Run d 119 62 [some (.ref o)] [.ref o] M 7 1422 Z := R_local (gd119 dX9_init_61) rfl rfl rfl
theorem z119_62 : Run d 119 62 [a0] [s0] M 7 1422 Z ↔ Run d 119 64 [a0] [.int 10, s0] M 7 1422 Z := R_bipush (gd119 dX9_init_62) (by decide)
theorem z119_64 : Run d 119 64 [a0] [.int 10, s0] M 7 1422 Z ↔ Run d 119 66 [a0] [.ref M.2.2.length, s0] (gNew M (.inr (0, 10))) 8 1432 Z := R_newa2 (gd119 dX9_init_64) (t := 0) (by decide) (n := 10) (by decide) (by decide)
theorem z119_66 : Run d 119 66 [a0] [v, .ref o] M 8 1432 Z ↔ gObj M o 9 ∧ gisRef v = true ∧ Run d 119 69 [a0] [] (gsR M o 11 (gU v)) 8 1432 Z := R_putR (gd119 dX9_init_66) rfl gf_9_32 (Or.inr ⟨rfl, rfl⟩) rfl
theorem z119_69 : Run d 119 69 [some (.ref o)] [] M 8 1432 Z ↔ Run d 119 70 [some (.ref o)] [.ref o] M 8 1432 Z := R_local (gd119 dX9_init_69) rfl rfl rfl
theorem z119_70 : Run d 119 70 [a0] [s0] M 8 1432 Z ↔ Run d 119 72 [a0] [.int 10, s0] M 8 1432 Z := R_bipush (gd119 dX9_init_70) (by decide)
theorem z119_72 : Run d 119 72 [a0] [.int 10, s0] M 8 1432 Z ↔ Run d 119 74 [a0] [.ref M.2.2.length, s0] (gNew M (.inr (0, 10))) 9 1442 Z := R_newa2 (gd119 dX9_init_72) (t := 0) (by decide) (n := 10) (by decide) (by decide)
theorem z119_74 : Run d 119 74 [a0] [v, .ref o] M 9 1442 Z ↔ gObj M o 9 ∧ gisRef v = true ∧ Run d 119 77 [a0] [] (gsR M o 12 (gU v)) 9 1442 Z := R_putR (gd119 dX9_init_74) rfl gf_9_35 (Or.inr ⟨rfl, rfl⟩) rfl
theorem z119_77 : Run d 119 77 [some (.ref o)] [] M 9 1442 Z ↔ Run d 119 78 [some (.ref o)] [.ref o] M 9 1442 Z := R_local (gd119 dX9_init_77) rfl rfl rfl
theorem z119_78 : Run d 119 78 [a0] [s0] M 9 1442 Z ↔ Run d 119 81 [a0] [.int 800, s0] M 9 1442 Z := R_sipush (gd119 dX9_init_78) (by decide)
theorem z119_81 : Run d 119 81 [a0] [.int 800, s0] M 9 1442 Z ↔ Run d 119 83 [a0] [.ref M.2.2.length, s0] (gNew M (.inr (0, 800))) 10 2242 Z := R_newa2 (gd119 dX9_init_81) (t := 0) (by decide) (n := 800) (by decide) (by decide)
theorem z119_83 : Run d 119 83 [a0] [v, .ref o] M 10 2242 Z ↔ gObj M o 9 ∧ gisRef v = true ∧ Run d 119 86 [a0] [] (gsR M o 17 (gU v)) 10 2242 Z := R_putR (gd119 dX9_init_83) rfl gf_9_38 (Or.inr ⟨rfl, rfl⟩) rfl
theorem z119_86 : Run d 119 86 [some (.ref o)] [] M 10 2242 Z ↔ Run d 119 87 [some (.ref o)] [.ref o] M 10 2242 Z := R_local (gd119 dX9_init_86) rfl rfl rfl
theorem z119_87 : Run d 119 87 [a0] [s0] M 10 2242 Z ↔ Run d 119 90 [a0] [.int 800, s0] M 10 2242 Z := R_sipush (gd119 dX9_init_87) (by decide)
theorem z119_90 : Run d 119 90 [a0] [.int 800, s0] M 10 2242 Z ↔ Run d 119 92 [a0] [.ref M.2.2.length, s0] (gNew M (.inr (0, 800))) 11 3042 Z := R_newa2 (gd119 dX9_init_90) (t := 0) (by decide) (n := 800) (by decide) (by decide)
theorem z119_92 : Run d 119 92 [a0] [v, .ref o] M 11 3042 Z ↔ gObj M o 9 ∧ gisRef v = true ∧ Run d 119 95 [a0] [] (gsR M o 18 (gU v)) 11 3042 Z := R_putR (gd119 dX9_init_92) rfl gf_9_41 (Or.inr ⟨rfl, rfl⟩) rfl
theorem z119_95 : Run d 119 95 [some (.ref o)] [] M 11 3042 Z ↔ Run d 119 96 [some (.ref o)] [.ref o] M 11 3042 Z := R_local (gd119 dX9_init_95) rfl rfl rfl
theorem z119_96 : Run d 119 96 [a0] [s0] M 11 3042 Z ↔ Run d 119 99 [a0] [.int 800, s0] M 11 3042 Z := R_sipush (gd119 dX9_init_96) (by decide)
theorem z119_99 : Run d 119 99 [a0] [.int 800, s0] M 11 3042 Z ↔ Run d 119 101 [a0] [.ref M.2.2.length, s0] (gNew M (.inr (0, 800))) 12 3842 Z := R_newa2 (gd119 dX9_init_99) (t := 0) (by decide) (n := 800) (by decide) (by decide)
theorem z119_101 : Run d 119 101 [a0] [v, .ref o] M 12 3842 Z ↔ gObj M o 9 ∧ gisRef v = true ∧ Run d 119 104 [a0] [] (gsR M o 19 (gU v)) 12 3842 Z := R_putR (gd119 dX9_init_101) rfl gf_9_44 (Or.inr ⟨rfl, rfl⟩) rfl
theorem z119_104 : Run d 119 104 [some (.ref o)] [] M 12 3842 Z ↔ Run d 119 105 [some (.ref o)] [.ref o] M 12 3842 Z := R_local (gd119 dX9_init_104) rfl rfl rfl
theorem z119_105 : Run d 119 105 [a0] [s0] M 12 3842 Z ↔ Run d 119 108 [a0] [.int 800, s0] M 12 3842 Z := R_sipush (gd119 dX9_init_105) (by decide)
theorem z119_108 : Run d 119 108 [a0] [.int 800, s0] M 12 3842 Z ↔ Run d 119 110 [a0] [.ref M.2.2.length, s0] (gNew M (.inr (0, 800))) 13 4642 Z := R_newa2 (gd119 dX9_init_108) (t := 0) (by decide) (n := 800) (by decide) (by decide)
theorem z119_110 : Run d 119 110 [a0] [v, .ref o] M 13 4642 Z ↔ gObj M o 9 ∧ gisRef v = true ∧ Run d 119 113 [a0] [] (gsR M o 20 (gU v)) 13 4642 Z := R_putR (gd119 dX9_init_110) rfl gf_9_47 (Or.inr ⟨rfl, rfl⟩) rfl
theorem z119_113 : Run d 119 113 [some (.ref o)] [] M 13 4642 Z ↔ Run d 119 114 [some (.ref o)] [.ref o] M 13 4642 Z := R_local (gd119 dX9_init_113) rfl rfl rfl
theorem z119_114 : Run d 119 114 [a0] [s0] M 13 4642 Z ↔ Run d 119 117 [a0] [.int 800, s0] M 13 4642 Z := R_sipush (gd119 dX9_init_114) (by decide)
theorem z119_117 : Run d 119 117 [a0] [.int 800, s0] M 13 4642 Z ↔ Run d 119 119 [a0] [.ref M.2.2.length, s0] (gNew M (.inr (0, 800))) 14 5442 Z := R_newa2 (gd119 dX9_init_117) (t := 0) (by decide) (n := 800) (by decide) (by decide)
theorem z119_119 : Run d 119 119 [a0] [v, .ref o] M 14 5442 Z ↔ gObj M o 9 ∧ gisRef v = true ∧ Run d 119 122 [a0] [] (gsR M o 21 (gU v)) 14 5442 Z := R_putR (gd119 dX9_init_119) rfl gf_9_50 (Or.inr ⟨rfl, rfl⟩) rfl
theorem z119_122 : Run d 119 122 [some (.ref o)] [] M 14 5442 Z ↔ Run d 119 123 [some (.ref o)] [.ref o] M 14 5442 Z := R_local (gd119 dX9_init_122) rfl rfl rfl
theorem z119_123 : Run d 119 123 [a0] [s0] M 14 5442 Z ↔ Run d 119 126 [a0] [.int 800, s0] M 14 5442 Z := R_sipush (gd119 dX9_init_123) (by decide)
theorem z119_126 : Run d 119 126 [a0] [.int 800, s0] M 14 5442 Z ↔ Run d 119 128 [a0] [.ref M.2.2.length, s0] (gNew M (.inr (0, 800))) 15 6242 Z := R_newa2 (gd119 dX9_init_126) (t := 0) (by decide) (n := 800) (by decide) (by decide)
theorem z119_128 : Run d 119 128 [a0] [v, .ref o] M 15 6242 Z ↔ gObj M o 9 ∧ gisRef v = true ∧ Run d 119 131 [a0] [] (gsR M o 22 (gU v)) 15 6242 Z := R_putR (gd119 dX9_init_128) rfl gf_9_53 (Or.inr ⟨rfl, rfl⟩) rfl
theorem z119_131 : Run d 119 131 [some (.ref o)] [] M 15 6242 Z ↔ Run d 119 132 [some (.ref o)] [.ref o] M 15 6242 Z := R_local (gd119 dX9_init_131) rfl rfl rfl
theorem z119_132 : Run d 119 132 [a0] [s0] M 15 6242 Z ↔ Run d 119 135 [a0] [.int 800, s0] M 15 6242 Z := R_sipush (gd119 dX9_init_132) (by decide)
theorem z119_135 : Run d 119 135 [a0] [.int 800, s0] M 15 6242 Z ↔ Run d 119 137 [a0] [.ref M.2.2.length, s0] (gNew M (.inr (0, 800))) 16 7042 Z := R_newa2 (gd119 dX9_init_135) (t := 0) (by decide) (n := 800) (by decide) (by decide)
theorem z119_137 : Run d 119 137 [a0] [v, .ref o] M 16 7042 Z ↔ gObj M o 9 ∧ gisRef v = true ∧ Run d 119 140 [a0] [] (gsR M o 23 (gU v)) 16 7042 Z := R_putR (gd119 dX9_init_137) rfl gf_9_56 (Or.inr ⟨rfl, rfl⟩) rfl
theorem z119_140 : Run d 119 140 [some (.ref o)] [] M 16 7042 Z ↔ Run d 119 141 [some (.ref o)] [.ref o] M 16 7042 Z := R_local (gd119 dX9_init_140) rfl rfl rfl
theorem z119_141 : Run d 119 141 [a0] [s0] M 16 7042 Z ↔ Run d 119 144 [a0] [.int 4002, s0] M 16 7042 Z := R_sipush (gd119 dX9_init_141) (by decide)
theorem z119_144 : Run d 119 144 [a0] [.int 4002, s0] M 16 7042 Z ↔ Run d 119 146 [a0] [.ref M.2.2.length, s0] (gNew M (.inr (0, 4002))) 17 11044 Z := R_newa2 (gd119 dX9_init_144) (t := 0) (by decide) (n := 4002) (by decide) (by decide)
theorem z119_146 : Run d 119 146 [a0] [v, .ref o] M 17 11044 Z ↔ gObj M o 9 ∧ gisRef v = true ∧ Run d 119 149 [a0] [] (gsR M o 24 (gU v)) 17 11044 Z := R_putR (gd119 dX9_init_146) rfl gf_9_59 (Or.inr ⟨rfl, rfl⟩) rfl
theorem z119_149 : Run d 119 149 [some (.ref o)] [] M 17 11044 Z ↔ Run d 119 150 [some (.ref o)] [.ref o] M 17 11044 Z := R_local (gd119 dX9_init_149) rfl rfl rfl
theorem z119_150 : Run d 119 150 [a0] [s0] M 17 11044 Z ↔ Run d 119 151 [a0] [.int 2, s0] M 17 11044 Z := R_iconst (gd119 dX9_init_150) (by decide)
theorem z119_151 : Run d 119 151 [a0] [.int 2, s0] M 17 11044 Z ↔ Run d 119 153 [a0] [.ref M.2.2.length, s0] (gNew M (.inr (0, 2))) 18 11046 Z := R_newa2 (gd119 dX9_init_151) (t := 0) (by decide) (n := 2) (by decide) (by decide)
theorem z119_153 : Run d 119 153 [a0] [v, .ref o] M 18 11046 Z ↔ gObj M o 9 ∧ gisRef v = true ∧ Run d 119 156 [a0] [] (gsR M o 25 (gU v)) 18 11046 Z := R_putR (gd119 dX9_init_153) rfl gf_9_62 (Or.inr ⟨rfl, rfl⟩) rfl
theorem z119_156 : Run d 119 156 [some (.ref o)] [] M 18 11046 Z ↔ Run d 119 157 [some (.ref o)] [.ref o] M 18 11046 Z := R_local (gd119 dX9_init_156) rfl rfl rfl
theorem z119_157 : Run d 119 157 [a0] [s0] M 18 11046 Z ↔ Run d 119 158 [a0] [.int 2, s0] M 18 11046 Z := R_iconst (gd119 dX9_init_157) (by decide)
theorem z119_158 : Run d 119 158 [a0] [.int 2, s0] M 18 11046 Z ↔ Run d 119 160 [a0] [.ref M.2.2.length, s0] (gNew M (.inr (0, 2))) 19 11048 Z := R_newa2 (gd119 dX9_init_158) (t := 0) (by decide) (n := 2) (by decide) (by decide)
theorem z119_160 : Run d 119 160 [a0] [v, .ref o] M 19 11048 Z ↔ gObj M o 9 ∧ gisRef v = true ∧ Run d 119 163 [a0] [] (gsR M o 26 (gU v)) 19 11048 Z := R_putR (gd119 dX9_init_160) rfl gf_9_65 (Or.inr ⟨rfl, rfl⟩) rfl
theorem z119_163 : Run d 119 163 [some (.ref o)] [] M 19 11048 Z ↔ Run d 119 164 [some (.ref o)] [.ref o] M 19 11048 Z := R_local (gd119 dX9_init_163) rfl rfl rfl
theorem z119_164 : Run d 119 164 [a0] [s0] M 19 11048 Z ↔ Run d 119 165 [a0] [.int 2, s0] M 19 11048 Z := R_iconst (gd119 dX9_init_164) (by decide)
theorem z119_165 : Run d 119 165 [a0] [.int 2, s0] M 19 11048 Z ↔ Run d 119 167 [a0] [.ref M.2.2.length, s0] (gNew M (.inr (0, 2))) 20 11050 Z := R_newa2 (gd119 dX9_init_165) (t := 0) (by decide) (n := 2) (by decide) (by decide)
theorem z119_167 : Run d 119 167 [a0] [v, .ref o] M 20 11050 Z ↔ gObj M o 9 ∧ gisRef v = true ∧ Run d 119 170 [a0] [] (gsR M o 27 (gU v)) 20 11050 Z := R_putR (gd119 dX9_init_167) rfl gf_9_68 (Or.inr ⟨rfl, rfl⟩) rfl
theorem z119_170 : Run d 119 170 [some (.ref o)] [] M 20 11050 Z ↔ Run d 119 171 [some (.ref o)] [.ref o] M 20 11050 Z := R_local (gd119 dX9_init_170) rfl rfl rfl
theorem z119_171 : Run d 119 171 [a0] [s0] M 20 11050 Z ↔ Run d 119 172 [a0] [.int 2, s0] M 20 11050 Z := R_iconst (gd119 dX9_init_171) (by decide)
theorem z119_172 : Run d 119 172 [a0] [.int 2, s0] M 20 11050 Z ↔ Run d 119 174 [a0] [.ref M.2.2.length, s0] (gNew M (.inr (0, 2))) 21 11052 Z := R_newa2 (gd119 dX9_init_172) (t := 0) (by decide) (n := 2) (by decide) (by decide)
theorem z119_174 : Run d 119 174 [a0] [v, .ref o] M 21 11052 Z ↔ gObj M o 9 ∧ gisRef v = true ∧ Run d 119 177 [a0] [] (gsR M o 28 (gU v)) 21 11052 Z := R_putR (gd119 dX9_init_174) rfl gf_9_71 (Or.inr ⟨rfl, rfl⟩) rfl
theorem z119_177 : Run d 119 177 [some (.ref o)] [] M 21 11052 Z ↔ Run d 119 178 [some (.ref o)] [.ref o] M 21 11052 Z := R_local (gd119 dX9_init_177) rfl rfl rfl
theorem z119_178 : Run d 119 178 [a0] [s0] M 21 11052 Z ↔ Run d 119 179 [a0] [.int 2, s0] M 21 11052 Z := R_iconst (gd119 dX9_init_178) (by decide)
theorem z119_179 : Run d 119 179 [a0] [.int 2, s0] M 21 11052 Z ↔ Run d 119 181 [a0] [.ref M.2.2.length, s0] (gNew M (.inr (0, 2))) 22 11054 Z := R_newa2 (gd119 dX9_init_179) (t := 0) (by decide) (n := 2) (by decide) (by decide)
theorem z119_181 : Run d 119 181 [a0] [v, .ref o] M 22 11054 Z ↔ gObj M o 9 ∧ gisRef v = true ∧ Run d 119 184 [a0] [] (gsR M o 29 (gU v)) 22 11054 Z := R_putR (gd119 dX9_init_181) rfl gf_9_74 (Or.inr ⟨rfl, rfl⟩) rfl
theorem z119_184 : Run d 119 184 [some (.ref o)] [] M 22 11054 Z ↔ Run d 119 185 [some (.ref o)] [.ref o] M 22 11054 Z := R_local (gd119 dX9_init_184) rfl rfl rfl
theorem z119_185 : Run d 119 185 [a0] [s0] M 22 11054 Z ↔ Run d 119 186 [a0] [.int 2, s0] M 22 11054 Z := R_iconst (gd119 dX9_init_185) (by decide)
theorem z119_186 : Run d 119 186 [a0] [.int 2, s0] M 22 11054 Z ↔ Run d 119 188 [a0] [.ref M.2.2.length, s0] (gNew M (.inr (0, 2))) 23 11056 Z := R_newa2 (gd119 dX9_init_186) (t := 0) (by decide) (n := 2) (by decide) (by decide)
theorem z119_188 : Run d 119 188 [a0] [v, .ref o] M 23 11056 Z ↔ gObj M o 9 ∧ gisRef v = true ∧ Run d 119 191 [a0] [] (gsR M o 30 (gU v)) 23 11056 Z := R_putR (gd119 dX9_init_188) rfl gf_9_77 (Or.inr ⟨rfl, rfl⟩) rfl
theorem z119_191 : Run d 119 191 [some (.ref o)] [] M 23 11056 Z ↔ Run d 119 192 [some (.ref o)] [.ref o] M 23 11056 Z := R_local (gd119 dX9_init_191) rfl rfl rfl
theorem z119_192 : Run d 119 192 [a0] [s0] M 23 11056 Z ↔ Run d 119 193 [a0] [.int 2, s0] M 23 11056 Z := R_iconst (gd119 dX9_init_192) (by decide)
theorem z119_193 : Run d 119 193 [a0] [.int 2, s0] M 23 11056 Z ↔ Run d 119 195 [a0] [.ref M.2.2.length, s0] (gNew M (.inr (0, 2))) 24 11058 Z := R_newa2 (gd119 dX9_init_193) (t := 0) (by decide) (n := 2) (by decide) (by decide)
theorem z119_195 : Run d 119 195 [a0] [v, .ref o] M 24 11058 Z ↔ gObj M o 9 ∧ gisRef v = true ∧ Run d 119 198 [a0] [] (gsR M o 31 (gU v)) 24 11058 Z := R_putR (gd119 dX9_init_195) rfl gf_9_80 (Or.inr ⟨rfl, rfl⟩) rfl
theorem z119_198 : Run d 119 198 [some (.ref o)] [] M 24 11058 Z ↔ Run d 119 199 [some (.ref o)] [.ref o] M 24 11058 Z := R_local (gd119 dX9_init_198) rfl rfl rfl
theorem z119_199 : Run d 119 199 [a0] [s0] M 24 11058 Z ↔ Run d 119 200 [a0] [.int 2, s0] M 24 11058 Z := R_iconst (gd119 dX9_init_199) (by decide)
theorem z119_200 : Run d 119 200 [a0] [.int 2, s0] M 24 11058 Z ↔ Run d 119 202 [a0] [.ref M.2.2.length, s0] (gNew M (.inr (0, 2))) 25 11060 Z := R_newa2 (gd119 dX9_init_200) (t := 0) (by decide) (n := 2) (by decide) (by decide)
theorem z119_202 : Run d 119 202 [a0] [v, .ref o] M 25 11060 Z ↔ gObj M o 9 ∧ gisRef v = true ∧ Run d 119 205 [a0] [] (gsR M o 32 (gU v)) 25 11060 Z := R_putR (gd119 dX9_init_202) rfl gf_9_83 (Or.inr ⟨rfl, rfl⟩) rfl
theorem z119_205 : Run d 119 205 [some (.ref o)] [] M 25 11060 Z ↔ Run d 119 206 [some (.ref o)] [.ref o] M 25 11060 Z := R_local (gd119 dX9_init_205) rfl rfl rfl
theorem z119_206 : Run d 119 206 [a0] [s0] M 25 11060 Z ↔ Run d 119 207 [a0] [.int 2, s0] M 25 11060 Z := R_iconst (gd119 dX9_init_206) (by decide)
theorem z119_207 : Run d 119 207 [a0] [.int 2, s0] M 25 11060 Z ↔ Run d 119 209 [a0] [.ref M.2.2.length, s0] (gNew M (.inr (0, 2))) 26 11062 Z := R_newa2 (gd119 dX9_init_207) (t := 0) (by decide) (n := 2) (by decide) (by decide)
theorem z119_209 : Run d 119 209 [a0] [v, .ref o] M 26 11062 Z ↔ gObj M o 9 ∧ gisRef v = true ∧ Run d 119 212 [a0] [] (gsR M o 33 (gU v)) 26 11062 Z := R_putR (gd119 dX9_init_209) rfl gf_9_86 (Or.inr ⟨rfl, rfl⟩) rfl
theorem z119_212 : Run d 119 212 [some (.ref o)] [] M 26 11062 Z ↔ Run d 119 213 [some (.ref o)] [.ref o] M 26 11062 Z := R_local (gd119 dX9_init_212) rfl rfl rfl
theorem z119_213 : Run d 119 213 [a0] [s0] M 26 11062 Z ↔ Run d 119 214 [a0] [.int 2, s0] M 26 11062 Z := R_iconst (gd119 dX9_init_213) (by decide)
theorem z119_214 : Run d 119 214 [a0] [.int 2, s0] M 26 11062 Z ↔ Run d 119 216 [a0] [.ref M.2.2.length, s0] (gNew M (.inr (0, 2))) 27 11064 Z := R_newa2 (gd119 dX9_init_214) (t := 0) (by decide) (n := 2) (by decide) (by decide)
theorem z119_216 : Run d 119 216 [a0] [v, .ref o] M 27 11064 Z ↔ gObj M o 9 ∧ gisRef v = true ∧ Run d 119 219 [a0] [] (gsR M o 34 (gU v)) 27 11064 Z := R_putR (gd119 dX9_init_216) rfl gf_9_89 (Or.inr ⟨rfl, rfl⟩) rfl
theorem z119_219 : Run d 119 219 [some (.ref o)] [] M 27 11064 Z ↔ Run d 119 220 [some (.ref o)] [.ref o] M 27 11064 Z := R_local (gd119 dX9_init_219) rfl rfl rfl
theorem z119_220 : Run d 119 220 [a0] [s0] M 27 11064 Z ↔ Run d 119 221 [a0] [.int 2, s0] M 27 11064 Z := R_iconst (gd119 dX9_init_220) (by decide)
theorem z119_221 : Run d 119 221 [a0] [.int 2, s0] M 27 11064 Z ↔ Run d 119 223 [a0] [.ref M.2.2.length, s0] (gNew M (.inr (0, 2))) 28 11066 Z := R_newa2 (gd119 dX9_init_221) (t := 0) (by decide) (n := 2) (by decide) (by decide)
theorem z119_223 : Run d 119 223 [a0] [v, .ref o] M 28 11066 Z ↔ gObj M o 9 ∧ gisRef v = true ∧ Run d 119 226 [a0] [] (gsR M o 35 (gU v)) 28 11066 Z := R_putR (gd119 dX9_init_223) rfl gf_9_92 (Or.inr ⟨rfl, rfl⟩) rfl
theorem z119_226 : Run d 119 226 [some (.ref o)] [] M 28 11066 Z ↔ Run d 119 227 [some (.ref o)] [.ref o] M 28 11066 Z := R_local (gd119 dX9_init_226) rfl rfl rfl
theorem z119_227 : Run d 119 227 [a0] [s0] M 28 11066 Z ↔ Run d 119 228 [a0] [.int 3, s0] M 28 11066 Z := R_iconst (gd119 dX9_init_227) (by decide)
theorem z119_228 : Run d 119 228 [a0] [.int 3, s0] M 28 11066 Z ↔ Run d 119 230 [a0] [.ref M.2.2.length, s0] (gNew M (.inr (0, 3))) 29 11069 Z := R_newa2 (gd119 dX9_init_228) (t := 0) (by decide) (n := 3) (by decide) (by decide)
theorem z119_230 : Run d 119 230 [a0] [v, .ref o] M 29 11069 Z ↔ gObj M o 9 ∧ gisRef v = true ∧ Run d 119 233 [a0] [] (gsR M o 41 (gU v)) 29 11069 Z := R_putR (gd119 dX9_init_230) rfl gf_9_95 (Or.inr ⟨rfl, rfl⟩) rfl
theorem z119_233 : Run d 119 233 [some (.ref o)] [] M 29 11069 Z ↔ Run d 119 234 [some (.ref o)] [.ref o] M 29 11069 Z := R_local (gd119 dX9_init_233) rfl rfl rfl
theorem z119_234 : Run d 119 234 [a0] [s0] M 29 11069 Z ↔ Run d 119 235 [a0] [.int 4, s0] M 29 11069 Z := R_iconst (gd119 dX9_init_234) (by decide)
theorem z119_235 : Run d 119 235 [a0] [.int 4, s0] M 29 11069 Z ↔ Run d 119 237 [a0] [.ref M.2.2.length, s0] (gNew M (.inr (0, 4))) 30 11073 Z := R_newa2 (gd119 dX9_init_235) (t := 0) (by decide) (n := 4) (by decide) (by decide)
theorem z119_237 : Run d 119 237 [a0] [v, .ref o] M 30 11073 Z ↔ gObj M o 9 ∧ gisRef v = true ∧ Run d 119 240 [a0] [] (gsR M o 42 (gU v)) 30 11073 Z := R_putR (gd119 dX9_init_237) rfl gf_9_98 (Or.inr ⟨rfl, rfl⟩) rfl
theorem z119_240 : Run d 119 240 [some (.ref o)] [] M 30 11073 Z ↔ Run d 119 241 [some (.ref o)] [.ref o] M 30 11073 Z := R_local (gd119 dX9_init_240) rfl rfl rfl
theorem z119_241 : Run d 119 241 [a0] [s0] M 30 11073 Z ↔ Run d 119 242 [a0] [.int 4, s0] M 30 11073 Z := R_iconst (gd119 dX9_init_241) (by decide)
theorem z119_242 : Run d 119 242 [a0] [.int 4, s0] M 30 11073 Z ↔ Run d 119 244 [a0] [.ref M.2.2.length, s0] (gNew M (.inr (0, 4))) 31 11077 Z := R_newa2 (gd119 dX9_init_242) (t := 0) (by decide) (n := 4) (by decide) (by decide)
theorem z119_244 : Run d 119 244 [a0] [v, .ref o] M 31 11077 Z ↔ gObj M o 9 ∧ gisRef v = true ∧ Run d 119 247 [a0] [] (gsR M o 43 (gU v)) 31 11077 Z := R_putR (gd119 dX9_init_244) rfl gf_9_101 (Or.inr ⟨rfl, rfl⟩) rfl
theorem z119_247 : Run d 119 247 [some (.ref o)] [] M 31 11077 Z ↔ Run d 119 248 [some (.ref o)] [.ref o] M 31 11077 Z := R_local (gd119 dX9_init_247) rfl rfl rfl
theorem z119_248 : Run d 119 248 [a0] [s0] M 31 11077 Z ↔ Run d 119 250 [a0] [.int 80, s0] M 31 11077 Z := R_bipush (gd119 dX9_init_248) (by decide)
theorem z119_250 : Run d 119 250 [a0] [.int 80, s0] M 31 11077 Z ↔ Run d 119 252 [a0] [.ref M.2.2.length, s0] (gNew M (.inr (0, 80))) 32 11157 Z := R_newa2 (gd119 dX9_init_250) (t := 0) (by decide) (n := 80) (by decide) (by decide)
theorem z119_252 : Run d 119 252 [a0] [v, .ref o] M 32 11157 Z ↔ gObj M o 9 ∧ gisRef v = true ∧ Run d 119 255 [a0] [] (gsR M o 45 (gU v)) 32 11157 Z := R_putR (gd119 dX9_init_252) rfl gf_9_104 (Or.inr ⟨rfl, rfl⟩) rfl
theorem z119_255 : Run d 119 255 [some (.ref o)] [] M 32 11157 Z ↔ Run d 119 256 [some (.ref o)] [.ref o] M 32 11157 Z := R_local (gd119 dX9_init_255) rfl rfl rfl
theorem z119_256 : Run d 119 256 [a0] [s0] M 32 11157 Z ↔ Run d 119 258 [a0] [.int 80, s0] M 32 11157 Z := R_bipush (gd119 dX9_init_256) (by decide)
theorem z119_258 : Run d 119 258 [a0] [.int 80, s0] M 32 11157 Z ↔ Run d 119 260 [a0] [.ref M.2.2.length, s0] (gNew M (.inr (0, 80))) 33 11237 Z := R_newa2 (gd119 dX9_init_258) (t := 0) (by decide) (n := 80) (by decide) (by decide)
theorem z119_260 : Run d 119 260 [a0] [v, .ref o] M 33 11237 Z ↔ gObj M o 9 ∧ gisRef v = true ∧ Run d 119 263 [a0] [] (gsR M o 46 (gU v)) 33 11237 Z := R_putR (gd119 dX9_init_260) rfl gf_9_107 (Or.inr ⟨rfl, rfl⟩) rfl
theorem z119_263 : Run d 119 263 [some (.ref o)] [] M 33 11237 Z ↔ Run d 119 264 [some (.ref o)] [.ref o] M 33 11237 Z := R_local (gd119 dX9_init_263) rfl rfl rfl
theorem z119_264 : Run d 119 264 [a0] [s0] M 33 11237 Z ↔ Run d 119 267 [a0] [.int 2001, s0] M 33 11237 Z := R_sipush (gd119 dX9_init_264) (by decide)
theorem z119_267 : Run d 119 267 [a0] [.int 2001, s0] M 33 11237 Z ↔ Run d 119 269 [a0] [.ref M.2.2.length, s0] (gNew M (.inr (2, 2001))) 34 13238 Z := R_newa2 (gd119 dX9_init_267) (t := 2) (by decide) (n := 2001) (by decide) (by decide)
theorem z119_269 : Run d 119 269 [a0] [v, .ref o] M 34 13238 Z ↔ gObj M o 9 ∧ gisRef v = true ∧ Run d 119 272 [a0] [] (gsR M o 55 (gU v)) 34 13238 Z := R_putR (gd119 dX9_init_269) rfl gf_9_110 (Or.inr ⟨rfl, rfl⟩) rfl
theorem z119_272 : Run d 119 272 [some (.ref o)] [] M 34 13238 Z ↔ Run d 119 273 [some (.ref o)] [.ref o] M 34 13238 Z := R_local (gd119 dX9_init_272) rfl rfl rfl
theorem z119_273 : Run d 119 273 [a0] [s0] M 34 13238 Z ↔ Run d 119 275 [a0] [.int 48, s0] M 34 13238 Z := R_bipush (gd119 dX9_init_273) (by decide)
theorem z119_275 : Run d 119 275 [a0] [.int 48, s0] M 34 13238 Z ↔ Run d 119 277 [a0] [.ref M.2.2.length, s0] (gNew M (.inr (0, 48))) 35 13286 Z := R_newa2 (gd119 dX9_init_275) (t := 0) (by decide) (n := 48) (by decide) (by decide)
theorem z119_277 : Run d 119 277 [a0] [v, .ref o] M 35 13286 Z ↔ gObj M o 9 ∧ gisRef v = true ∧ Run d 119 280 [a0] [] (gsR M o 56 (gU v)) 35 13286 Z := R_putR (gd119 dX9_init_277) rfl gf_9_114 (Or.inr ⟨rfl, rfl⟩) rfl
theorem z119_280 : Run d 119 280 [some (.ref o)] [] M 35 13286 Z ↔ Run d 119 281 [some (.ref o)] [.ref o] M 35 13286 Z := R_local (gd119 dX9_init_280) rfl rfl rfl
theorem z119_281 : Run d 119 281 [a0] [s0] M 35 13286 Z ↔ Run d 119 283 [a0] [.int 48, s0] M 35 13286 Z := R_bipush (gd119 dX9_init_281) (by decide)
theorem z119_283 : Run d 119 283 [a0] [.int 48, s0] M 35 13286 Z ↔ Run d 119 285 [a0] [.ref M.2.2.length, s0] (gNew M (.inr (0, 48))) 36 13334 Z := R_newa2 (gd119 dX9_init_283) (t := 0) (by decide) (n := 48) (by decide) (by decide)
theorem z119_285 : Run d 119 285 [a0] [v, .ref o] M 36 13334 Z ↔ gObj M o 9 ∧ gisRef v = true ∧ Run d 119 288 [a0] [] (gsR M o 57 (gU v)) 36 13334 Z := R_putR (gd119 dX9_init_285) rfl gf_9_117 (Or.inr ⟨rfl, rfl⟩) rfl
theorem z119_288 : Run d 119 288 [some (.ref o)] [] M 36 13334 Z ↔ Run d 119 289 [some (.ref o)] [.ref o] M 36 13334 Z := R_local (gd119 dX9_init_288) rfl rfl rfl
theorem z119_289 : Run d 119 289 [a0] [s0] M 36 13334 Z ↔ Run d 119 291 [a0] [.int 6, s0] M 36 13334 Z := R_bipush (gd119 dX9_init_289) (by decide)
theorem z119_291 : Run d 119 291 [a0] [.int 6, s0] M 36 13334 Z ↔ Run d 119 293 [a0] [.ref M.2.2.length, s0] (gNew M (.inr (0, 6))) 37 13340 Z := R_newa2 (gd119 dX9_init_291) (t := 0) (by decide) (n := 6) (by decide) (by decide)
theorem z119_293 : Run d 119 293 [a0] [v, .ref o] M 37 13340 Z ↔ gObj M o 9 ∧ gisRef v = true ∧ Run d 119 296 [a0] [] (gsR M o 58 (gU v)) 37 13340 Z := R_putR (gd119 dX9_init_293) rfl gf_9_120 (Or.inr ⟨rfl, rfl⟩) rfl
theorem z119_296 : Run d 119 296 [some (.ref o)] [] M 37 13340 Z ↔ Run d 119 297 [some (.ref o)] [.ref o] M 37 13340 Z := R_local (gd119 dX9_init_296) rfl rfl rfl
theorem z119_297 : Run d 119 297 [a0] [s0] M 37 13340 Z ↔ Run d 119 300 [a0] [.int 2001, s0] M 37 13340 Z := R_sipush (gd119 dX9_init_297) (by decide)
theorem z119_300 : Run d 119 300 [a0] [.int 2001, s0] M 37 13340 Z ↔ Run d 119 302 [a0] [.ref M.2.2.length, s0] (gNew M (.inr (0, 2001))) 38 15341 Z := R_newa2 (gd119 dX9_init_300) (t := 0) (by decide) (n := 2001) (by decide) (by decide)
theorem z119_302 : Run d 119 302 [a0] [v, .ref o] M 38 15341 Z ↔ gObj M o 9 ∧ gisRef v = true ∧ Run d 119 305 [a0] [] (gsR M o 59 (gU v)) 38 15341 Z := R_putR (gd119 dX9_init_302) rfl gf_9_123 (Or.inr ⟨rfl, rfl⟩) rfl
theorem z119_305 : Run d 119 305 [some (.ref o)] [] M 38 15341 Z ↔ Run d 119 306 [some (.ref o)] [.ref o] M 38 15341 Z := R_local (gd119 dX9_init_305) rfl rfl rfl
theorem z119_306 : Run d 119 306 [a0] [s0] M 38 15341 Z ↔ Run d 119 309 [a0] [.int 320, s0] M 38 15341 Z := R_sipush (gd119 dX9_init_306) (by decide)
theorem z119_309 : Run d 119 309 [a0] [.int 320, s0] M 38 15341 Z ↔ Run d 119 311 [a0] [.ref M.2.2.length, s0] (gNew M (.inr (0, 320))) 39 15661 Z := R_newa2 (gd119 dX9_init_309) (t := 0) (by decide) (n := 320) (by decide) (by decide)
theorem z119_311 : Run d 119 311 [a0] [v, .ref o] M 39 15661 Z ↔ gObj M o 9 ∧ gisRef v = true ∧ Run d 119 314 [a0] [] (gsR M o 62 (gU v)) 39 15661 Z := R_putR (gd119 dX9_init_311) rfl gf_9_126 (Or.inr ⟨rfl, rfl⟩) rfl
theorem z119_314 : Run d 119 314 [some (.ref o)] [] M 39 15661 Z ↔ Run d 119 315 [some (.ref o)] [.ref o] M 39 15661 Z := R_local (gd119 dX9_init_314) rfl rfl rfl
theorem z119_315 : Run d 119 315 [a0] [s0] M 39 15661 Z ↔ Run d 119 316 [a0] [.int 5, s0] M 39 15661 Z := R_iconst (gd119 dX9_init_315) (by decide)
theorem z119_316 : Run d 119 316 [a0] [.int 5, s0] M 39 15661 Z ↔ Run d 119 318 [a0] [.ref M.2.2.length, s0] (gNew M (.inr (0, 5))) 40 15666 Z := R_newa2 (gd119 dX9_init_316) (t := 0) (by decide) (n := 5) (by decide) (by decide)
theorem z119_318 : Run d 119 318 [a0] [v, .ref o] M 40 15666 Z ↔ gObj M o 9 ∧ gisRef v = true ∧ Run d 119 321 [a0] [] (gsR M o 63 (gU v)) 40 15666 Z := R_putR (gd119 dX9_init_318) rfl gf_9_129 (Or.inr ⟨rfl, rfl⟩) rfl
theorem z119_321 : Run d 119 321 [some (.ref o)] [] M 40 15666 Z ↔ Run d 119 322 [some (.ref o)] [.ref o] M 40 15666 Z := R_local (gd119 dX9_init_321) rfl rfl rfl
theorem z119_322 : Run d 119 322 [a0] [s0] M 40 15666 Z ↔ Run d 119 323 [a0] [.int 5, s0] M 40 15666 Z := R_iconst (gd119 dX9_init_322) (by decide)
theorem z119_323 : Run d 119 323 [a0] [.int 5, s0] M 40 15666 Z ↔ Run d 119 325 [a0] [.ref M.2.2.length, s0] (gNew M (.inr (0, 5))) 41 15671 Z := R_newa2 (gd119 dX9_init_323) (t := 0) (by decide) (n := 5) (by decide) (by decide)
theorem z119_325 : Run d 119 325 [a0] [v, .ref o] M 41 15671 Z ↔ gObj M o 9 ∧ gisRef v = true ∧ Run d 119 328 [a0] [] (gsR M o 64 (gU v)) 41 15671 Z := R_putR (gd119 dX9_init_325) rfl gf_9_132 (Or.inr ⟨rfl, rfl⟩) rfl
theorem z119_328 : Run d 119 328 [some (.ref o)] [] M 41 15671 Z ↔ Run d 119 329 [some (.ref o)] [.ref o] M 41 15671 Z := R_local (gd119 dX9_init_328) rfl rfl rfl
theorem z119_329 : Run d 119 329 [a0] [s0] M 41 15671 Z ↔ Run d 119 330 [a0] [.int 5, s0] M 41 15671 Z := R_iconst (gd119 dX9_init_329) (by decide)
theorem z119_330 : Run d 119 330 [a0] [.int 5, s0] M 41 15671 Z ↔ Run d 119 332 [a0] [.ref M.2.2.length, s0] (gNew M (.inr (0, 5))) 42 15676 Z := R_newa2 (gd119 dX9_init_330) (t := 0) (by decide) (n := 5) (by decide) (by decide)
theorem z119_332 : Run d 119 332 [a0] [v, .ref o] M 42 15676 Z ↔ gObj M o 9 ∧ gisRef v = true ∧ Run d 119 335 [a0] [] (gsR M o 65 (gU v)) 42 15676 Z := R_putR (gd119 dX9_init_332) rfl gf_9_135 (Or.inr ⟨rfl, rfl⟩) rfl
theorem z119_335 : Run d 119 335 [some (.ref o)] [] M 42 15676 Z ↔ Run d 119 336 [some (.ref o)] [.ref o] M 42 15676 Z := R_local (gd119 dX9_init_335) rfl rfl rfl
theorem z119_336 : Run d 119 336 [a0] [s0] M 42 15676 Z ↔ Run d 119 337 [a0] [.int 5, s0] M 42 15676 Z := R_iconst (gd119 dX9_init_336) (by decide)
theorem z119_337 : Run d 119 337 [a0] [.int 5, s0] M 42 15676 Z ↔ Run d 119 339 [a0] [.ref M.2.2.length, s0] (gNew M (.inr (0, 5))) 43 15681 Z := R_newa2 (gd119 dX9_init_337) (t := 0) (by decide) (n := 5) (by decide) (by decide)
theorem z119_339 : Run d 119 339 [a0] [v, .ref o] M 43 15681 Z ↔ gObj M o 9 ∧ gisRef v = true ∧ Run d 119 342 [a0] [] (gsR M o 66 (gU v)) 43 15681 Z := R_putR (gd119 dX9_init_339) rfl gf_9_138 (Or.inr ⟨rfl, rfl⟩) rfl
theorem z119_342 : Run d 119 342 [some (.ref o)] [] M 43 15681 Z ↔ Run d 119 343 [some (.ref o)] [.ref o] M 43 15681 Z := R_local (gd119 dX9_init_342) rfl rfl rfl
theorem z119_343 : Run d 119 343 [a0] [s0] M 43 15681 Z ↔ Run d 119 344 [a0] [.int 5, s0] M 43 15681 Z := R_iconst (gd119 dX9_init_343) (by decide)
theorem z119_344 : Run d 119 344 [a0] [.int 5, s0] M 43 15681 Z ↔ Run d 119 346 [a0] [.ref M.2.2.length, s0] (gNew M (.inr (0, 5))) 44 15686 Z := R_newa2 (gd119 dX9_init_344) (t := 0) (by decide) (n := 5) (by decide) (by decide)
theorem z119_346 : Run d 119 346 [a0] [v, .ref o] M 44 15686 Z ↔ gObj M o 9 ∧ gisRef v = true ∧ Run d 119 349 [a0] [] (gsR M o 67 (gU v)) 44 15686 Z := R_putR (gd119 dX9_init_346) rfl gf_9_141 (Or.inr ⟨rfl, rfl⟩) rfl
theorem z119_349 : Run d 119 349 [some (.ref o)] [] M 44 15686 Z ↔ Run d 119 350 [some (.ref o)] [.ref o] M 44 15686 Z := R_local (gd119 dX9_init_349) rfl rfl rfl
theorem z119_350 : Run d 119 350 [a0] [s0] M 44 15686 Z ↔ Run d 119 351 [a0] [.int 4, s0] M 44 15686 Z := R_iconst (gd119 dX9_init_350) (by decide)
theorem z119_351 : Run d 119 351 [a0] [.int 4, s0] M 44 15686 Z ↔ Run d 119 353 [a0] [.ref M.2.2.length, s0] (gNew M (.inr (0, 4))) 45 15690 Z := R_newa2 (gd119 dX9_init_351) (t := 0) (by decide) (n := 4) (by decide) (by decide)
theorem z119_353 : Run d 119 353 [a0] [v, .ref o] M 45 15690 Z ↔ gObj M o 9 ∧ gisRef v = true ∧ Run d 119 356 [a0] [] (gsR M o 68 (gU v)) 45 15690 Z := R_putR (gd119 dX9_init_353) rfl gf_9_144 (Or.inr ⟨rfl, rfl⟩) rfl
theorem z119_356 : Run d 119 356 [some (.ref o)] [] M 45 15690 Z ↔ Run d 119 357 [some (.ref o)] [.ref o] M 45 15690 Z := R_local (gd119 dX9_init_356) rfl rfl rfl
theorem z119_357 : Run d 119 357 [a0] [s0] M 45 15690 Z ↔ Run d 119 358 [a0] [.int 4, s0] M 45 15690 Z := R_iconst (gd119 dX9_init_357) (by decide)
theorem z119_358 : Run d 119 358 [a0] [.int 4, s0] M 45 15690 Z ↔ Run d 119 360 [a0] [.ref M.2.2.length, s0] (gNew M (.inr (0, 4))) 46 15694 Z := R_newa2 (gd119 dX9_init_358) (t := 0) (by decide) (n := 4) (by decide) (by decide)
theorem z119_360 : Run d 119 360 [a0] [v, .ref o] M 46 15694 Z ↔ gObj M o 9 ∧ gisRef v = true ∧ Run d 119 363 [a0] [] (gsR M o 69 (gU v)) 46 15694 Z := R_putR (gd119 dX9_init_360) rfl gf_9_147 (Or.inr ⟨rfl, rfl⟩) rfl
theorem z119_363 : Run d 119 363 [some (.ref o)] [] M 46 15694 Z ↔ Run d 119 364 [some (.ref o)] [.ref o] M 46 15694 Z := R_local (gd119 dX9_init_363) rfl rfl rfl
theorem z119_364 : Run d 119 364 [a0] [s0] M 46 15694 Z ↔ Run d 119 366 [a0] [.int 64, s0] M 46 15694 Z := R_bipush (gd119 dX9_init_364) (by decide)
theorem z119_366 : Run d 119 366 [a0] [.int 64, s0] M 46 15694 Z ↔ Run d 119 368 [a0] [.ref M.2.2.length, s0] (gNew M (.inr (0, 64))) 47 15758 Z := R_newa2 (gd119 dX9_init_366) (t := 0) (by decide) (n := 64) (by decide) (by decide)
theorem z119_368 : Run d 119 368 [a0] [v, .ref o] M 47 15758 Z ↔ gObj M o 9 ∧ gisRef v = true ∧ Run d 119 371 [a0] [] (gsR M o 70 (gU v)) 47 15758 Z := R_putR (gd119 dX9_init_368) rfl gf_9_150 (Or.inr ⟨rfl, rfl⟩) rfl
theorem z119_371 : Run d 119 371 [a0] [] M 47 15758 Z ↔ Z none M := R_vret (gd119 dX9_init_371) rfl
theorem e119 : Call (d + 1) 119 [s0] M Z ↔ Run d 119 0 [some s0] [] M 0 0 Z := Call_iff (Nat.lt_of_lt_of_le (Nat.lt_succ_self 119) (Nat.le_of_ble_eq_true rfl)) (Nat.le_of_ble_eq_true rfl)
/-! 120: X9_lies (III)Z -/
theorem gd120 {pc : Nat} {r : Except _ _} (h : decode cX9_lies pc = r) : decode (gby 120) pc = r := h
theorem z120_0 : Run d 120 0 [some (.int x), a1, a2] [] M 0 0 Z ↔ Run d 120 1 [some (.int x), a1, a2] [.int x] M 0 0 Z := R_local (gd120 dX9_lies_0) rfl rfl rfl
theorem z120_1 : Run d 120 1 [a0, some (.int x), a2] [s0] M 0 0 Z ↔ Run d 120 2 [a0, some (.int x), a2] [.int x, s0] M 0 0 Z := R_local (gd120 dX9_lies_1) rfl rfl rfl
theorem z120_2 : Run d 120 2 [a0, a1, a2] [.int y, .int x] M 0 0 Z ↔ (x < y → Run d 120 14 [a0, a1, a2] [] M 0 0 Z) ∧ (¬ (x < y) → Run d 120 5 [a0, a1, a2] [] M 0 0 Z) := R_icmp (gd120 dX9_lies_2) (show gTgt 2 12 = some 14 by decide) gIf_lt
theorem z120_5 : Run d 120 5 [some (.int x), a1, a2] [] M 0 0 Z ↔ Run d 120 6 [some (.int x), a1, a2] [.int x] M 0 0 Z := R_local (gd120 dX9_lies_5) rfl rfl rfl
theorem z120_6 : Run d 120 6 [a0, a1, some (.int x)] [s0] M 0 0 Z ↔ Run d 120 7 [a0, a1, some (.int x)] [.int x, s0] M 0 0 Z := R_local (gd120 dX9_lies_6) rfl rfl rfl
theorem z120_7 : Run d 120 7 [a0, a1, a2] [.int y, .int x] M 0 0 Z ↔ (y < x → Run d 120 14 [a0, a1, a2] [] M 0 0 Z) ∧ (¬ (y < x) → Run d 120 10 [a0, a1, a2] [] M 0 0 Z) := R_icmp (gd120 dX9_lies_7) (show gTgt 7 7 = some 14 by decide) gIf_gt
theorem z120_10 : Run d 120 10 [a0, a1, a2] [] M 0 0 Z ↔ Run d 120 11 [a0, a1, a2] [.int 1] M 0 0 Z := R_iconst (gd120 dX9_lies_10) (by decide)
theorem z120_11 : Run d 120 11 [a0, a1, a2] [s0] M 0 0 Z ↔ Run d 120 15 [a0, a1, a2] [s0] M 0 0 Z := R_goto (gd120 dX9_lies_11) (show gTgt 11 4 = some 15 by decide)
theorem z120_14 : Run d 120 14 [a0, a1, a2] [] M 0 0 Z ↔ Run d 120 15 [a0, a1, a2] [.int 0] M 0 0 Z := R_iconst (gd120 dX9_lies_14) (by decide)
theorem z120_15 : Run d 120 15 [a0, a1, a2] [.int x] M 0 0 Z ↔ (x = 0 ∨ x = 1) ∧ Z (some (.int x)) M := R_iretZ (gd120 dX9_lies_15) rfl
theorem e120 : Call (d + 1) 120 [s0, s1, s2] M Z ↔ Run d 120 0 [some s0, some s1, some s2] [] M 0 0 Z := Call_iff (Nat.lt_of_lt_of_le (Nat.lt_succ_self 120) (Nat.le_of_ble_eq_true rfl)) (Nat.le_of_ble_eq_true rfl)
/-! 121: X9_body (IIIIIIII)I -/
theorem gd121 {pc : Nat} {r : Except _ _} (h : decode cX9_body pc = r) : decode (gby 121) pc = r := h
theorem z121_0 : Run d 121 0 [some (.ref o), a1, a2, a3, a4, a5, a6, a7, a8, a9] [] M 0 0 Z ↔ Run d 121 1 [some (.ref o), a1, a2, a3, a4, a5, a6, a7, a8, a9] [.ref o] M 0 0 Z := R_local (gd121 dX9_body_0) rfl rfl rfl
theorem z121_1 : Run d 121 1 [a0, a1, a2, a3, a4, a5, a6, a7, a8, a9] [.ref o] M 0 0 Z ↔ gObj M o 9 ∧ Run d 121 4 [a0, a1, a2, a3, a4, a5, a6, a7, a8, a9] [.int (M.1 o 2)] M 0 0 Z := R_getI (gd121 dX9_body_1) rfl gf_9_153 rfl
theorem z121_4 : Run d 121 4 [a0, a1, a2, a3, a4, a5, a6, a7, a8, a9] [s0] M 0 0 Z ↔ Run d 121 6 [a0, a1, a2, a3, a4, a5, a6, a7, a8, a9] [.int 6, s0] M 0 0 Z := R_bipush (gd121 dX9_body_4) (by decide)
theorem z121_6 : Run d 121 6 [a0, a1, a2, a3, a4, a5, a6, a7, a8, a9] [.int y, .int x] M 0 0 Z ↔ (x = y → Run d 121 94 [a0, a1, a2, a3, a4, a5, a6, a7, a8, a9] [] M 0 0 Z) ∧ (¬ (x = y) → Run d 121 9 [a0, a1, a2, a3, a4, a5, a6, a7, a8, a9] [] M 0 0 Z) := R_icmp (gd121 dX9_body_6) (show gTgt 6 88 = some 94 by decide) gIf_eq
theorem z121_9 : Run d 121 9 [a0, some (.int x), a2, a3, a4, a5, a6, a7, a8, a9] [] M 0 0 Z ↔ Run d 121 10 [a0, some (.int x), a2, a3, a4, a5, a6, a7, a8, a9] [.int x] M 0 0 Z := R_local (gd121 dX9_body_9) rfl rfl rfl
theorem z121_10 : Run d 121 10 [a0, a1, a2, a3, a4, a5, a6, a7, a8, a9] [s0] M 0 0 Z ↔ Run d 121 11 [a0, a1, a2, a3, a4, a5, a6, a7, a8, a9] [.int 1, s0] M 0 0 Z := R_iconst (gd121 dX9_body_10) (by decide)
theorem z121_11 : Run d 121 11 [a0, a1, a2, a3, a4, a5, a6, a7, a8, a9] [s1, s0] M 0 0 Z ↔ Run d 121 13 [a0, a1, a2, a3, a4, a5, a6, a7, a8, a9] [.int 9, s1, s0] M 0 0 Z := R_bipush (gd121 dX9_body_11) (by decide)
theorem z121_13 : Run d 121 13 [a0, a1, a2, a3, a4, a5, a6, a7, a8, a9] [s2, s1, s0] M 0 0 Z ↔ Call d 120 [s0, s1, s2] M (fun r M1 => Run d 121 16 [a0, a1, a2, a3, a4, a5, a6, a7, a8, a9] (r.toList ++ []) M1 0 0 Z) := R_call (gd121 dX9_body_13) rfl rfl rfl rfl rfl rfl gc_9_157 rfl (by decide) (Nat.le_of_ble_eq_true rfl) (Nat.le_of_ble_eq_true rfl) rfl rfl rfl (Nat.le_of_ble_eq_true rfl) (Nat.le_of_ble_eq_true rfl)
theorem z121_16 : Run d 121 16 [a0, a1, a2, a3, a4, a5, a6, a7, a8, a9] [.int x] M 0 0 Z ↔ (x = 0 → Run d 121 94 [a0, a1, a2, a3, a4, a5, a6, a7, a8, a9] [] M 0 0 Z) ∧ (¬ (x = 0) → Run d 121 19 [a0, a1, a2, a3, a4, a5, a6, a7, a8, a9] [] M 0 0 Z) := R_if (gd121 dX9_body_16) (show gTgt 16 78 = some 94 by decide) gIf_eq
theorem z121_19 : Run d 121 19 [a0, a1, some (.int x), a3, a4, a5, a6, a7, a8, a9] [] M 0 0 Z ↔ Run d 121 20 [a0, a1, some (.int x), a3, a4, a5, a6, a7, a8, a9] [.int x] M 0 0 Z := R_local (gd121 dX9_body_19) rfl rfl rfl
theorem z121_20 : Run d 121 20 [a0, a1, a2, a3, a4, a5, a6, a7, a8, a9] [s0] M 0 0 Z ↔ Run d 121 21 [a0, a1, a2, a3, a4, a5, a6, a7, a8, a9] [.int 1, s0] M 0 0 Z := R_iconst (gd121 dX9_body_20) (by decide)
theorem z121_21 : Run d 121 21 [a0, a1, a2, a3, a4, a5, a6, a7, a8, a9] [s1, s0] M 0 0 Z ↔ Run d 121 23 [a0, a1, a2, a3, a4, a5, a6, a7, a8, a9] [.int 9, s1, s0] M 0 0 Z := R_bipush (gd121 dX9_body_21) (by decide)
theorem z121_23 : Run d 121 23 [a0, a1, a2, a3, a4, a5, a6, a7, a8, a9] [s2, s1, s0] M 0 0 Z ↔ Call d 120 [s0, s1, s2] M (fun r M1 => Run d 121 26 [a0, a1, a2, a3, a4, a5, a6, a7, a8, a9] (r.toList ++ []) M1 0 0 Z) := R_call (gd121 dX9_body_23) rfl rfl rfl rfl rfl rfl gc_9_157 rfl (by decide) (Nat.le_of_ble_eq_true rfl) (Nat.le_of_ble_eq_true rfl) rfl rfl rfl (Nat.le_of_ble_eq_true rfl) (Nat.le_of_ble_eq_true rfl)
theorem z121_26 : Run d 121 26 [a0, a1, a2, a3, a4, a5, a6, a7, a8, a9] [.int x] M 0 0 Z ↔ (x = 0 → Run d 121 94 [a0, a1, a2, a3, a4, a5, a6, a7, a8, a9] [] M 0 0 Z) ∧ (¬ (x = 0) → Run d 121 29 [a0, a1, a2, a3, a4, a5, a6, a7, a8, a9] [] M 0 0 Z) := R_if (gd121 dX9_body_26) (show gTgt 26 68 = some 94 by decide) gIf_eq
theorem z121_29 : Run d 121 29 [a0, a1, a2, some (.int x), a4, a5, a6, a7, a8, a9] [] M 0 0 Z ↔ Run d 121 30 [a0, a1, a2, some (.int x), a4, a5, a6, a7, a8, a9] [.int x] M 0 0 Z := R_local (gd121 dX9_body_29) rfl rfl rfl
theorem z121_30 : Run d 121 30 [a0, a1, a2, a3, a4, a5, a6, a7, a8, a9] [s0] M 0 0 Z ↔ Run d 121 31 [a0, a1, a2, a3, a4, a5, a6, a7, a8, a9] [.int 1, s0] M 0 0 Z := R_iconst (gd121 dX9_body_30) (by decide)
theorem z121_31 : Run d 121 31 [a0, a1, a2, a3, a4, a5, a6, a7, a8, a9] [s1, s0] M 0 0 Z ↔ Run d 121 33 [a0, a1, a2, a3, a4, a5, a6, a7, a8, a9] [.int 9, s1, s0] M 0 0 Z := R_bipush (gd121 dX9_body_31) (by decide)
theorem z121_33 : Run d 121 33 [a0, a1, a2, a3, a4, a5, a6, a7, a8, a9] [s2, s1, s0] M 0 0 Z ↔ Call d 120 [s0, s1, s2] M (fun r M1 => Run d 121 36 [a0, a1, a2, a3, a4, a5, a6, a7, a8, a9] (r.toList ++ []) M1 0 0 Z) := R_call (gd121 dX9_body_33) rfl rfl rfl rfl rfl rfl gc_9_157 rfl (by decide) (Nat.le_of_ble_eq_true rfl) (Nat.le_of_ble_eq_true rfl) rfl rfl rfl (Nat.le_of_ble_eq_true rfl) (Nat.le_of_ble_eq_true rfl)
theorem z121_36 : Run d 121 36 [a0, a1, a2, a3, a4, a5, a6, a7, a8, a9] [.int x] M 0 0 Z ↔ (x = 0 → Run d 121 94 [a0, a1, a2, a3, a4, a5, a6, a7, a8, a9] [] M 0 0 Z) ∧ (¬ (x = 0) → Run d 121 39 [a0, a1, a2, a3, a4, a5, a6, a7, a8, a9] [] M 0 0 Z) := R_if (gd121 dX9_body_36) (show gTgt 36 58 = some 94 by decide) gIf_eq
theorem z121_39 : Run d 121 39 [a0, a1, a2, a3, some (.int x), a5, a6, a7, a8, a9] [] M 0 0 Z ↔ Run d 121 41 [a0, a1, a2, a3, some (.int x), a5, a6, a7, a8, a9] [.int x] M 0 0 Z := R_local (gd121 dX9_body_39) rfl rfl rfl
theorem z121_41 : Run d 121 41 [a0, a1, a2, a3, a4, a5, a6, a7, a8, a9] [s0] M 0 0 Z ↔ Run d 121 42 [a0, a1, a2, a3, a4, a5, a6, a7, a8, a9] [.int 1, s0] M 0 0 Z := R_iconst (gd121 dX9_body_41) (by decide)
theorem z121_42 : Run d 121 42 [a0, a1, a2, a3, a4, a5, a6, a7, a8, a9] [s1, s0] M 0 0 Z ↔ Run d 121 44 [a0, a1, a2, a3, a4, a5, a6, a7, a8, a9] [.int 9, s1, s0] M 0 0 Z := R_bipush (gd121 dX9_body_42) (by decide)
theorem z121_44 : Run d 121 44 [a0, a1, a2, a3, a4, a5, a6, a7, a8, a9] [s2, s1, s0] M 0 0 Z ↔ Call d 120 [s0, s1, s2] M (fun r M1 => Run d 121 47 [a0, a1, a2, a3, a4, a5, a6, a7, a8, a9] (r.toList ++ []) M1 0 0 Z) := R_call (gd121 dX9_body_44) rfl rfl rfl rfl rfl rfl gc_9_157 rfl (by decide) (Nat.le_of_ble_eq_true rfl) (Nat.le_of_ble_eq_true rfl) rfl rfl rfl (Nat.le_of_ble_eq_true rfl) (Nat.le_of_ble_eq_true rfl)
theorem z121_47 : Run d 121 47 [a0, a1, a2, a3, a4, a5, a6, a7, a8, a9] [.int x] M 0 0 Z ↔ (x = 0 → Run d 121 94 [a0, a1, a2, a3, a4, a5, a6, a7, a8, a9] [] M 0 0 Z) ∧ (¬ (x = 0) → Run d 121 50 [a0, a1, a2, a3, a4, a5, a6, a7, a8, a9] [] M 0 0 Z) := R_if (gd121 dX9_body_47) (show gTgt 47 47 = some 94 by decide) gIf_eq
theorem z121_50 : Run d 121 50 [a0, a1, a2, a3, a4, some (.int x), a6, a7, a8, a9] [] M 0 0 Z ↔ Run d 121 52 [a0, a1, a2, a3, a4, some (.int x), a6, a7, a8, a9] [.int x] M 0 0 Z := R_local (gd121 dX9_body_50) rfl rfl rfl
theorem z121_52 : Run d 121 52 [a0, a1, a2, a3, a4, a5, a6, a7, a8, a9] [s0] M 0 0 Z ↔ Run d 121 53 [a0, a1, a2, a3, a4, a5, a6, a7, a8, a9] [.int 1, s0] M 0 0 Z := R_iconst (gd121 dX9_body_52) (by decide)
theorem z121_53 : Run d 121 53 [a0, a1, a2, a3, a4, a5, a6, a7, a8, a9] [s1, s0] M 0 0 Z ↔ Run d 121 55 [a0, a1, a2, a3, a4, a5, a6, a7, a8, a9] [.int 9, s1, s0] M 0 0 Z := R_bipush (gd121 dX9_body_53) (by decide)
theorem z121_55 : Run d 121 55 [a0, a1, a2, a3, a4, a5, a6, a7, a8, a9] [s2, s1, s0] M 0 0 Z ↔ Call d 120 [s0, s1, s2] M (fun r M1 => Run d 121 58 [a0, a1, a2, a3, a4, a5, a6, a7, a8, a9] (r.toList ++ []) M1 0 0 Z) := R_call (gd121 dX9_body_55) rfl rfl rfl rfl rfl rfl gc_9_157 rfl (by decide) (Nat.le_of_ble_eq_true rfl) (Nat.le_of_ble_eq_true rfl) rfl rfl rfl (Nat.le_of_ble_eq_true rfl) (Nat.le_of_ble_eq_true rfl)
theorem z121_58 : Run d 121 58 [a0, a1, a2, a3, a4, a5, a6, a7, a8, a9] [.int x] M 0 0 Z ↔ (x = 0 → Run d 121 94 [a0, a1, a2, a3, a4, a5, a6, a7, a8, a9] [] M 0 0 Z) ∧ (¬ (x = 0) → Run d 121 61 [a0, a1, a2, a3, a4, a5, a6, a7, a8, a9] [] M 0 0 Z) := R_if (gd121 dX9_body_58) (show gTgt 58 36 = some 94 by decide) gIf_eq
theorem z121_61 : Run d 121 61 [a0, a1, a2, a3, a4, a5, some (.int x), a7, a8, a9] [] M 0 0 Z ↔ Run d 121 63 [a0, a1, a2, a3, a4, a5, some (.int x), a7, a8, a9] [.int x] M 0 0 Z := R_local (gd121 dX9_body_61) rfl rfl rfl
theorem z121_63 : Run d 121 63 [a0, a1, a2, a3, a4, a5, a6, a7, a8, a9] [s0] M 0 0 Z ↔ Run d 121 64 [a0, a1, a2, a3, a4, a5, a6, a7, a8, a9] [.int 1, s0] M 0 0 Z := R_iconst (gd121 dX9_body_63) (by decide)
theorem z121_64 : Run d 121 64 [a0, a1, a2, a3, a4, a5, a6, a7, a8, a9] [s1, s0] M 0 0 Z ↔ Run d 121 66 [a0, a1, a2, a3, a4, a5, a6, a7, a8, a9] [.int 9, s1, s0] M 0 0 Z := R_bipush (gd121 dX9_body_64) (by decide)
theorem z121_66 : Run d 121 66 [a0, a1, a2, a3, a4, a5, a6, a7, a8, a9] [s2, s1, s0] M 0 0 Z ↔ Call d 120 [s0, s1, s2] M (fun r M1 => Run d 121 69 [a0, a1, a2, a3, a4, a5, a6, a7, a8, a9] (r.toList ++ []) M1 0 0 Z) := R_call (gd121 dX9_body_66) rfl rfl rfl rfl rfl rfl gc_9_157 rfl (by decide) (Nat.le_of_ble_eq_true rfl) (Nat.le_of_ble_eq_true rfl) rfl rfl rfl (Nat.le_of_ble_eq_true rfl) (Nat.le_of_ble_eq_true rfl)
theorem z121_69 : Run d 121 69 [a0, a1, a2, a3, a4, a5, a6, a7, a8, a9] [.int x] M 0 0 Z ↔ (x = 0 → Run d 121 94 [a0, a1, a2, a3, a4, a5, a6, a7, a8, a9] [] M 0 0 Z) ∧ (¬ (x = 0) → Run d 121 72 [a0, a1, a2, a3, a4, a5, a6, a7, a8, a9] [] M 0 0 Z) := R_if (gd121 dX9_body_69) (show gTgt 69 25 = some 94 by decide) gIf_eq
theorem z121_72 : Run d 121 72 [a0, a1, a2, a3, a4, a5, a6, some (.int x), a8, a9] [] M 0 0 Z ↔ Run d 121 74 [a0, a1, a2, a3, a4, a5, a6, some (.int x), a8, a9] [.int x] M 0 0 Z := R_local (gd121 dX9_body_72) rfl rfl rfl
theorem z121_74 : Run d 121 74 [a0, a1, a2, a3, a4, a5, a6, a7, a8, a9] [s0] M 0 0 Z ↔ Run d 121 75 [a0, a1, a2, a3, a4, a5, a6, a7, a8, a9] [.int 1, s0] M 0 0 Z := R_iconst (gd121 dX9_body_74) (by decide)
theorem z121_75 : Run d 121 75 [a0, a1, a2, a3, a4, a5, a6, a7, a8, a9] [s1, s0] M 0 0 Z ↔ Run d 121 77 [a0, a1, a2, a3, a4, a5, a6, a7, a8, a9] [.int 9, s1, s0] M 0 0 Z := R_bipush (gd121 dX9_body_75) (by decide)
theorem z121_77 : Run d 121 77 [a0, a1, a2, a3, a4, a5, a6, a7, a8, a9] [s2, s1, s0] M 0 0 Z ↔ Call d 120 [s0, s1, s2] M (fun r M1 => Run d 121 80 [a0, a1, a2, a3, a4, a5, a6, a7, a8, a9] (r.toList ++ []) M1 0 0 Z) := R_call (gd121 dX9_body_77) rfl rfl rfl rfl rfl rfl gc_9_157 rfl (by decide) (Nat.le_of_ble_eq_true rfl) (Nat.le_of_ble_eq_true rfl) rfl rfl rfl (Nat.le_of_ble_eq_true rfl) (Nat.le_of_ble_eq_true rfl)
theorem z121_80 : Run d 121 80 [a0, a1, a2, a3, a4, a5, a6, a7, a8, a9] [.int x] M 0 0 Z ↔ (x = 0 → Run d 121 94 [a0, a1, a2, a3, a4, a5, a6, a7, a8, a9] [] M 0 0 Z) ∧ (¬ (x = 0) → Run d 121 83 [a0, a1, a2, a3, a4, a5, a6, a7, a8, a9] [] M 0 0 Z) := R_if (gd121 dX9_body_80) (show gTgt 80 14 = some 94 by decide) gIf_eq
theorem z121_83 : Run d 121 83 [a0, a1, a2, a3, a4, a5, a6, a7, some (.int x), a9] [] M 0 0 Z ↔ Run d 121 85 [a0, a1, a2, a3, a4, a5, a6, a7, some (.int x), a9] [.int x] M 0 0 Z := R_local (gd121 dX9_body_83) rfl rfl rfl
theorem z121_85 : Run d 121 85 [a0, a1, a2, a3, a4, a5, a6, a7, a8, a9] [s0] M 0 0 Z ↔ Run d 121 86 [a0, a1, a2, a3, a4, a5, a6, a7, a8, a9] [.int 1, s0] M 0 0 Z := R_iconst (gd121 dX9_body_85) (by decide)
theorem z121_86 : Run d 121 86 [a0, a1, a2, a3, a4, a5, a6, a7, a8, a9] [s1, s0] M 0 0 Z ↔ Run d 121 88 [a0, a1, a2, a3, a4, a5, a6, a7, a8, a9] [.int 9, s1, s0] M 0 0 Z := R_bipush (gd121 dX9_body_86) (by decide)
theorem z121_88 : Run d 121 88 [a0, a1, a2, a3, a4, a5, a6, a7, a8, a9] [s2, s1, s0] M 0 0 Z ↔ Call d 120 [s0, s1, s2] M (fun r M1 => Run d 121 91 [a0, a1, a2, a3, a4, a5, a6, a7, a8, a9] (r.toList ++ []) M1 0 0 Z) := R_call (gd121 dX9_body_88) rfl rfl rfl rfl rfl rfl gc_9_157 rfl (by decide) (Nat.le_of_ble_eq_true rfl) (Nat.le_of_ble_eq_true rfl) rfl rfl rfl (Nat.le_of_ble_eq_true rfl) (Nat.le_of_ble_eq_true rfl)
theorem z121_91 : Run d 121 91 [a0, a1, a2, a3, a4, a5, a6, a7, a8, a9] [.int x] M 0 0 Z ↔ (¬ x = 0 → Run d 121 96 [a0, a1, a2, a3, a4, a5, a6, a7, a8, a9] [] M 0 0 Z) ∧ (¬ (¬ x = 0) → Run d 121 94 [a0, a1, a2, a3, a4, a5, a6, a7, a8, a9] [] M 0 0 Z) := R_if (gd121 dX9_body_91) (show gTgt 91 5 = some 96 by decide) gIf_ne
theorem z121_94 : Run d 121 94 [a0, a1, a2, a3, a4, a5, a6, a7, a8, a9] [] M 0 0 Z ↔ Run d 121 95 [a0, a1, a2, a3, a4, a5, a6, a7, a8, a9] [.int (-1)] M 0 0 Z := R_iconst (gd121 dX9_body_94) (by decide)
theorem z121_95 : Run d 121 95 [a0, a1, a2, a3, a4, a5, a6, a7, a8, a9] [.int x] M 0 0 Z ↔ Z (some (.int x)) M := R_iret (gd121 dX9_body_95) rfl
theorem z121_96 : Run d 121 96 [a0, a1, a2, a3, a4, a5, a6, a7, a8, a9] [] M 0 0 Z ↔ Run d 121 98 [a0, a1, a2, a3, a4, a5, a6, a7, a8, a9] [.int 8] M 0 0 Z := R_bipush (gd121 dX9_body_96) (by decide)
theorem z121_98 : Run d 121 98 [some (.ref o), a1, a2, a3, a4, a5, a6, a7, a8, a9] [s0] M 0 0 Z ↔ Run d 121 99 [some (.ref o), a1, a2, a3, a4, a5, a6, a7, a8, a9] [.ref o, s0] M 0 0 Z := R_local (gd121 dX9_body_98) rfl rfl rfl
theorem z121_99 : Run d 121 99 [a0, a1, a2, a3, a4, a5, a6, a7, a8, a9] [.ref o, s0] M 0 0 Z ↔ gObj M o 9 ∧ Run d 121 102 [a0, a1, a2, a3, a4, a5, a6, a7, a8, a9] [.int (M.1 o 2), s0] M 0 0 Z := R_getI (gd121 dX9_body_99) rfl gf_9_153 rfl
theorem z121_102 : Run d 121 102 [a0, a1, a2, a3, a4, a5, a6, a7, a8, a9] [.int y, .int x] M 0 0 Z ↔ Run d 121 103 [a0, a1, a2, a3, a4, a5, a6, a7, a8, a9] [.int (x * y)] M 0 0 Z := R_arith (gd121 dX9_body_102) rfl
theorem z121_103 : Run d 121 103 [a0, a1, a2, a3, a4, a5, a6, a7, a8, a9] [.int x] M 0 0 Z ↔ Run d 121 105 [a0, a1, a2, a3, a4, a5, a6, a7, a8, some (.int x)] [] M 0 0 Z := R_local (gd121 dX9_body_103) rfl rfl rfl
theorem z121_105 : Run d 121 105 [some (.ref o), a1, a2, a3, a4, a5, a6, a7, a8, a9] [] M 0 0 Z ↔ Run d 121 106 [some (.ref o), a1, a2, a3, a4, a5, a6, a7, a8, a9] [.ref o] M 0 0 Z := R_local (gd121 dX9_body_105) rfl rfl rfl
theorem z121_106 : Run d 121 106 [a0, a1, a2, a3, a4, a5, a6, a7, a8, a9] [.ref o] M 0 0 Z ↔ gObj M o 9 ∧ Run d 121 109 [a0, a1, a2, a3, a4, a5, a6, a7, a8, a9] [va_rf (M.2.1 o 5)] M 0 0 Z := R_getR (gd121 dX9_body_106) rfl gf_9_13 rfl
theorem z121_109 : Run d 121 109 [a0, a1, a2, a3, a4, a5, a6, a7, a8, some (.int x)] [s0] M 0 0 Z ↔ Run d 121 111 [a0, a1, a2, a3, a4, a5, a6, a7, a8, some (.int x)] [.int x, s0] M 0 0 Z := R_local (gd121 dX9_body_109) rfl rfl rfl
theorem z121_111 : Run d 121 111 [a0, some (.int x), a2, a3, a4, a5, a6, a7, a8, a9] [s1, s0] M 0 0 Z ↔ Run d 121 112 [a0, some (.int x), a2, a3, a4, a5, a6, a7, a8, a9] [.int x, s1, s0] M 0 0 Z := R_local (gd121 dX9_body_111) rfl rfl rfl
theorem z121_112 : Run d 121 112 [a0, a1, a2, a3, a4, a5, a6, a7, a8, a9] [.int y, .int x, .ref o] M 0 0 Z ↔ gAr M o 0 ∧ gIn x (gLen M o) = true ∧ Run d 121 113 [a0, a1, a2, a3, a4, a5, a6, a7, a8, a9] [] (gsI M o x.toNatClampNeg y) 0 0 Z := R_iast (gd121 dX9_body_112)
theorem z121_113 : Run d 121 113 [some (.ref o), a1, a2, a3, a4, a5, a6, a7, a8, a9] [] M 0 0 Z ↔ Run d 121 114 [some (.ref o), a1, a2, a3, a4, a5, a6, a7, a8, a9] [.ref o] M 0 0 Z := R_local (gd121 dX9_body_113) rfl rfl rfl
theorem z121_114 : Run d 121 114 [a0, a1, a2, a3, a4, a5, a6, a7, a8, a9] [.ref o] M 0 0 Z ↔ gObj M o 9 ∧ Run d 121 117 [a0, a1, a2, a3, a4, a5, a6, a7, a8, a9] [va_rf (M.2.1 o 5)] M 0 0 Z := R_getR (gd121 dX9_body_114) rfl gf_9_13 rfl
theorem z121_117 : Run d 121 117 [a0, a1, a2, a3, a4, a5, a6, a7, a8, some (.int x)] [s0] M 0 0 Z ↔ Run d 121 119 [a0, a1, a2, a3, a4, a5, a6, a7, a8, some (.int x)] [.int x, s0] M 0 0 Z := R_local (gd121 dX9_body_117) rfl rfl rfl
theorem z121_119 : Run d 121 119 [a0, a1, a2, a3, a4, a5, a6, a7, a8, a9] [s1, s0] M 0 0 Z ↔ Run d 121 120 [a0, a1, a2, a3, a4, a5, a6, a7, a8, a9] [.int 1, s1, s0] M 0 0 Z := R_iconst (gd121 dX9_body_119) (by decide)
theorem z121_120 : Run d 121 120 [a0, a1, a2, a3, a4, a5, a6, a7, a8, a9] [.int y, .int x, s0] M 0 0 Z ↔ Run d 121 121 [a0, a1, a2, a3, a4, a5, a6, a7, a8, a9] [.int (x + y), s0] M 0 0 Z := R_arith (gd121 dX9_body_120) rfl
theorem z121_121 : Run d 121 121 [a0, a1, some (.int x), a3, a4, a5, a6, a7, a8, a9] [s1, s0] M 0 0 Z ↔ Run d 121 122 [a0, a1, some (.int x), a3, a4, a5, a6, a7, a8, a9] [.int x, s1, s0] M 0 0 Z := R_local (gd121 dX9_body_121) rfl rfl rfl
theorem z121_122 : Run d 121 122 [a0, a1, a2, a3, a4, a5, a6, a7, a8, a9] [.int y, .int x, .ref o] M 0 0 Z ↔ gAr M o 0 ∧ gIn x (gLen M o) = true ∧ Run d 121 123 [a0, a1, a2, a3, a4, a5, a6, a7, a8, a9] [] (gsI M o x.toNatClampNeg y) 0 0 Z := R_iast (gd121 dX9_body_122)
theorem z121_123 : Run d 121 123 [some (.ref o), a1, a2, a3, a4, a5, a6, a7, a8, a9] [] M 0 0 Z ↔ Run d 121 124 [some (.ref o), a1, a2, a3, a4, a5, a6, a7, a8, a9] [.ref o] M 0 0 Z := R_local (gd121 dX9_body_123) rfl rfl rfl
theorem z121_124 : Run d 121 124 [a0, a1, a2, a3, a4, a5, a6, a7, a8, a9] [.ref o] M 0 0 Z ↔ gObj M o 9 ∧ Run d 121 127 [a0, a1, a2, a3, a4, a5, a6, a7, a8, a9] [va_rf (M.2.1 o 5)] M 0 0 Z := R_getR (gd121 dX9_body_124) rfl gf_9_13 rfl
theorem z121_127 : Run d 121 127 [a0, a1, a2, a3, a4, a5, a6, a7, a8, some (.int x)] [s0] M 0 0 Z ↔ Run d 121 129 [a0, a1, a2, a3, a4, a5, a6, a7, a8, some (.int x)] [.int x, s0] M 0 0 Z := R_local (gd121 dX9_body_127) rfl rfl rfl
theorem z121_129 : Run d 121 129 [a0, a1, a2, a3, a4, a5, a6, a7, a8, a9] [s1, s0] M 0 0 Z ↔ Run d 121 130 [a0, a1, a2, a3, a4, a5, a6, a7, a8, a9] [.int 2, s1, s0] M 0 0 Z := R_iconst (gd121 dX9_body_129) (by decide)
theorem z121_130 : Run d 121 130 [a0, a1, a2, a3, a4, a5, a6, a7, a8, a9] [.int y, .int x, s0] M 0 0 Z ↔ Run d 121 131 [a0, a1, a2, a3, a4, a5, a6, a7, a8, a9] [.int (x + y), s0] M 0 0 Z := R_arith (gd121 dX9_body_130) rfl
theorem z121_131 : Run d 121 131 [a0, a1, a2, some (.int x), a4, a5, a6, a7, a8, a9] [s1, s0] M 0 0 Z ↔ Run d 121 132 [a0, a1, a2, some (.int x), a4, a5, a6, a7, a8, a9] [.int x, s1, s0] M 0 0 Z := R_local (gd121 dX9_body_131) rfl rfl rfl
theorem z121_132 : Run d 121 132 [a0, a1, a2, a3, a4, a5, a6, a7, a8, a9] [.int y, .int x, .ref o] M 0 0 Z ↔ gAr M o 0 ∧ gIn x (gLen M o) = true ∧ Run d 121 133 [a0, a1, a2, a3, a4, a5, a6, a7, a8, a9] [] (gsI M o x.toNatClampNeg y) 0 0 Z := R_iast (gd121 dX9_body_132)
theorem z121_133 : Run d 121 133 [some (.ref o), a1, a2, a3, a4, a5, a6, a7, a8, a9] [] M 0 0 Z ↔ Run d 121 134 [some (.ref o), a1, a2, a3, a4, a5, a6, a7, a8, a9] [.ref o] M 0 0 Z := R_local (gd121 dX9_body_133) rfl rfl rfl
theorem z121_134 : Run d 121 134 [a0, a1, a2, a3, a4, a5, a6, a7, a8, a9] [.ref o] M 0 0 Z ↔ gObj M o 9 ∧ Run d 121 137 [a0, a1, a2, a3, a4, a5, a6, a7, a8, a9] [va_rf (M.2.1 o 5)] M 0 0 Z := R_getR (gd121 dX9_body_134) rfl gf_9_13 rfl
theorem z121_137 : Run d 121 137 [a0, a1, a2, a3, a4, a5, a6, a7, a8, some (.int x)] [s0] M 0 0 Z ↔ Run d 121 139 [a0, a1, a2, a3, a4, a5, a6, a7, a8, some (.int x)] [.int x, s0] M 0 0 Z := R_local (gd121 dX9_body_137) rfl rfl rfl
theorem z121_139 : Run d 121 139 [a0, a1, a2, a3, a4, a5, a6, a7, a8, a9] [s1, s0] M 0 0 Z ↔ Run d 121 140 [a0, a1, a2, a3, a4, a5, a6, a7, a8, a9] [.int 3, s1, s0] M 0 0 Z := R_iconst (gd121 dX9_body_139) (by decide)
theorem z121_140 : Run d 121 140 [a0, a1, a2, a3, a4, a5, a6, a7, a8, a9] [.int y, .int x, s0] M 0 0 Z ↔ Run d 121 141 [a0, a1, a2, a3, a4, a5, a6, a7, a8, a9] [.int (x + y), s0] M 0 0 Z := R_arith (gd121 dX9_body_140) rfl
theorem z121_141 : Run d 121 141 [a0, a1, a2, a3, some (.int x), a5, a6, a7, a8, a9] [s1, s0] M 0 0 Z ↔ Run d 121 143 [a0, a1, a2, a3, some (.int x), a5, a6, a7, a8, a9] [.int x, s1, s0] M 0 0 Z := R_local (gd121 dX9_body_141) rfl rfl rfl
theorem z121_143 : Run d 121 143 [a0, a1, a2, a3, a4, a5, a6, a7, a8, a9] [.int y, .int x, .ref o] M 0 0 Z ↔ gAr M o 0 ∧ gIn x (gLen M o) = true ∧ Run d 121 144 [a0, a1, a2, a3, a4, a5, a6, a7, a8, a9] [] (gsI M o x.toNatClampNeg y) 0 0 Z := R_iast (gd121 dX9_body_143)
theorem z121_144 : Run d 121 144 [some (.ref o), a1, a2, a3, a4, a5, a6, a7, a8, a9] [] M 0 0 Z ↔ Run d 121 145 [some (.ref o), a1, a2, a3, a4, a5, a6, a7, a8, a9] [.ref o] M 0 0 Z := R_local (gd121 dX9_body_144) rfl rfl rfl
theorem z121_145 : Run d 121 145 [a0, a1, a2, a3, a4, a5, a6, a7, a8, a9] [.ref o] M 0 0 Z ↔ gObj M o 9 ∧ Run d 121 148 [a0, a1, a2, a3, a4, a5, a6, a7, a8, a9] [va_rf (M.2.1 o 5)] M 0 0 Z := R_getR (gd121 dX9_body_145) rfl gf_9_13 rfl
theorem z121_148 : Run d 121 148 [a0, a1, a2, a3, a4, a5, a6, a7, a8, some (.int x)] [s0] M 0 0 Z ↔ Run d 121 150 [a0, a1, a2, a3, a4, a5, a6, a7, a8, some (.int x)] [.int x, s0] M 0 0 Z := R_local (gd121 dX9_body_148) rfl rfl rfl
theorem z121_150 : Run d 121 150 [a0, a1, a2, a3, a4, a5, a6, a7, a8, a9] [s1, s0] M 0 0 Z ↔ Run d 121 151 [a0, a1, a2, a3, a4, a5, a6, a7, a8, a9] [.int 4, s1, s0] M 0 0 Z := R_iconst (gd121 dX9_body_150) (by decide)
theorem z121_151 : Run d 121 151 [a0, a1, a2, a3, a4, a5, a6, a7, a8, a9] [.int y, .int x, s0] M 0 0 Z ↔ Run d 121 152 [a0, a1, a2, a3, a4, a5, a6, a7, a8, a9] [.int (x + y), s0] M 0 0 Z := R_arith (gd121 dX9_body_151) rfl
theorem z121_152 : Run d 121 152 [a0, a1, a2, a3, a4, some (.int x), a6, a7, a8, a9] [s1, s0] M 0 0 Z ↔ Run d 121 154 [a0, a1, a2, a3, a4, some (.int x), a6, a7, a8, a9] [.int x, s1, s0] M 0 0 Z := R_local (gd121 dX9_body_152) rfl rfl rfl
theorem z121_154 : Run d 121 154 [a0, a1, a2, a3, a4, a5, a6, a7, a8, a9] [.int y, .int x, .ref o] M 0 0 Z ↔ gAr M o 0 ∧ gIn x (gLen M o) = true ∧ Run d 121 155 [a0, a1, a2, a3, a4, a5, a6, a7, a8, a9] [] (gsI M o x.toNatClampNeg y) 0 0 Z := R_iast (gd121 dX9_body_154)
theorem z121_155 : Run d 121 155 [some (.ref o), a1, a2, a3, a4, a5, a6, a7, a8, a9] [] M 0 0 Z ↔ Run d 121 156 [some (.ref o), a1, a2, a3, a4, a5, a6, a7, a8, a9] [.ref o] M 0 0 Z := R_local (gd121 dX9_body_155) rfl rfl rfl
theorem z121_156 : Run d 121 156 [a0, a1, a2, a3, a4, a5, a6, a7, a8, a9] [.ref o] M 0 0 Z ↔ gObj M o 9 ∧ Run d 121 159 [a0, a1, a2, a3, a4, a5, a6, a7, a8, a9] [va_rf (M.2.1 o 5)] M 0 0 Z := R_getR (gd121 dX9_body_156) rfl gf_9_13 rfl
theorem z121_159 : Run d 121 159 [a0, a1, a2, a3, a4, a5, a6, a7, a8, some (.int x)] [s0] M 0 0 Z ↔ Run d 121 161 [a0, a1, a2, a3, a4, a5, a6, a7, a8, some (.int x)] [.int x, s0] M 0 0 Z := R_local (gd121 dX9_body_159) rfl rfl rfl
theorem z121_161 : Run d 121 161 [a0, a1, a2, a3, a4, a5, a6, a7, a8, a9] [s1, s0] M 0 0 Z ↔ Run d 121 162 [a0, a1, a2, a3, a4, a5, a6, a7, a8, a9] [.int 5, s1, s0] M 0 0 Z := R_iconst (gd121 dX9_body_161) (by decide)
theorem z121_162 : Run d 121 162 [a0, a1, a2, a3, a4, a5, a6, a7, a8, a9] [.int y, .int x, s0] M 0 0 Z ↔ Run d 121 163 [a0, a1, a2, a3, a4, a5, a6, a7, a8, a9] [.int (x + y), s0] M 0 0 Z := R_arith (gd121 dX9_body_162) rfl
theorem z121_163 : Run d 121 163 [a0, a1, a2, a3, a4, a5, some (.int x), a7, a8, a9] [s1, s0] M 0 0 Z ↔ Run d 121 165 [a0, a1, a2, a3, a4, a5, some (.int x), a7, a8, a9] [.int x, s1, s0] M 0 0 Z := R_local (gd121 dX9_body_163) rfl rfl rfl
theorem z121_165 : Run d 121 165 [a0, a1, a2, a3, a4, a5, a6, a7, a8, a9] [.int y, .int x, .ref o] M 0 0 Z ↔ gAr M o 0 ∧ gIn x (gLen M o) = true ∧ Run d 121 166 [a0, a1, a2, a3, a4, a5, a6, a7, a8, a9] [] (gsI M o x.toNatClampNeg y) 0 0 Z := R_iast (gd121 dX9_body_165)
theorem z121_166 : Run d 121 166 [some (.ref o), a1, a2, a3, a4, a5, a6, a7, a8, a9] [] M 0 0 Z ↔ Run d 121 167 [some (.ref o), a1, a2, a3, a4, a5, a6, a7, a8, a9] [.ref o] M 0 0 Z := R_local (gd121 dX9_body_166) rfl rfl rfl
theorem z121_167 : Run d 121 167 [a0, a1, a2, a3, a4, a5, a6, a7, a8, a9] [.ref o] M 0 0 Z ↔ gObj M o 9 ∧ Run d 121 170 [a0, a1, a2, a3, a4, a5, a6, a7, a8, a9] [va_rf (M.2.1 o 5)] M 0 0 Z := R_getR (gd121 dX9_body_167) rfl gf_9_13 rfl
theorem z121_170 : Run d 121 170 [a0, a1, a2, a3, a4, a5, a6, a7, a8, some (.int x)] [s0] M 0 0 Z ↔ Run d 121 172 [a0, a1, a2, a3, a4, a5, a6, a7, a8, some (.int x)] [.int x, s0] M 0 0 Z := R_local (gd121 dX9_body_170) rfl rfl rfl
theorem z121_172 : Run d 121 172 [a0, a1, a2, a3, a4, a5, a6, a7, a8, a9] [s1, s0] M 0 0 Z ↔ Run d 121 174 [a0, a1, a2, a3, a4, a5, a6, a7, a8, a9] [.int 6, s1, s0] M 0 0 Z := R_bipush (gd121 dX9_body_172) (by decide)
theorem z121_174 : Run d 121 174 [a0, a1, a2, a3, a4, a5, a6, a7, a8, a9] [.int y, .int x, s0] M 0 0 Z ↔ Run d 121 175 [a0, a1, a2, a3, a4, a5, a6, a7, a8, a9] [.int (x + y), s0] M 0 0 Z := R_arith (gd121 dX9_body_174) rfl
theorem z121_175 : Run d 121 175 [a0, a1, a2, a3, a4, a5, a6, some (.int x), a8, a9] [s1, s0] M 0 0 Z ↔ Run d 121 177 [a0, a1, a2, a3, a4, a5, a6, some (.int x), a8, a9] [.int x, s1, s0] M 0 0 Z := R_local (gd121 dX9_body_175) rfl rfl rfl
theorem z121_177 : Run d 121 177 [a0, a1, a2, a3, a4, a5, a6, a7, a8, a9] [.int y, .int x, .ref o] M 0 0 Z ↔ gAr M o 0 ∧ gIn x (gLen M o) = true ∧ Run d 121 178 [a0, a1, a2, a3, a4, a5, a6, a7, a8, a9] [] (gsI M o x.toNatClampNeg y) 0 0 Z := R_iast (gd121 dX9_body_177)
theorem z121_178 : Run d 121 178 [some (.ref o), a1, a2, a3, a4, a5, a6, a7, a8, a9] [] M 0 0 Z ↔ Run d 121 179 [some (.ref o), a1, a2, a3, a4, a5, a6, a7, a8, a9] [.ref o] M 0 0 Z := R_local (gd121 dX9_body_178) rfl rfl rfl
theorem z121_179 : Run d 121 179 [a0, a1, a2, a3, a4, a5, a6, a7, a8, a9] [.ref o] M 0 0 Z ↔ gObj M o 9 ∧ Run d 121 182 [a0, a1, a2, a3, a4, a5, a6, a7, a8, a9] [va_rf (M.2.1 o 5)] M 0 0 Z := R_getR (gd121 dX9_body_179) rfl gf_9_13 rfl
theorem z121_182 : Run d 121 182 [a0, a1, a2, a3, a4, a5, a6, a7, a8, some (.int x)] [s0] M 0 0 Z ↔ Run d 121 184 [a0, a1, a2, a3, a4, a5, a6, a7, a8, some (.int x)] [.int x, s0] M 0 0 Z := R_local (gd121 dX9_body_182) rfl rfl rfl
theorem z121_184 : Run d 121 184 [a0, a1, a2, a3, a4, a5, a6, a7, a8, a9] [s1, s0] M 0 0 Z ↔ Run d 121 186 [a0, a1, a2, a3, a4, a5, a6, a7, a8, a9] [.int 7, s1, s0] M 0 0 Z := R_bipush (gd121 dX9_body_184) (by decide)
theorem z121_186 : Run d 121 186 [a0, a1, a2, a3, a4, a5, a6, a7, a8, a9] [.int y, .int x, s0] M 0 0 Z ↔ Run d 121 187 [a0, a1, a2, a3, a4, a5, a6, a7, a8, a9] [.int (x + y), s0] M 0 0 Z := R_arith (gd121 dX9_body_186) rfl
theorem z121_187 : Run d 121 187 [a0, a1, a2, a3, a4, a5, a6, a7, some (.int x), a9] [s1, s0] M 0 0 Z ↔ Run d 121 189 [a0, a1, a2, a3, a4, a5, a6, a7, some (.int x), a9] [.int x, s1, s0] M 0 0 Z := R_local (gd121 dX9_body_187) rfl rfl rfl
theorem z121_189 : Run d 121 189 [a0, a1, a2, a3, a4, a5, a6, a7, a8, a9] [.int y, .int x, .ref o] M 0 0 Z ↔ gAr M o 0 ∧ gIn x (gLen M o) = true ∧ Run d 121 190 [a0, a1, a2, a3, a4, a5, a6, a7, a8, a9] [] (gsI M o x.toNatClampNeg y) 0 0 Z := R_iast (gd121 dX9_body_189)
theorem z121_190 : Run d 121 190 [some (.ref o), a1, a2, a3, a4, a5, a6, a7, a8, a9] [] M 0 0 Z ↔ Run d 121 191 [some (.ref o), a1, a2, a3, a4, a5, a6, a7, a8, a9] [.ref o] M 0 0 Z := R_local (gd121 dX9_body_190) rfl rfl rfl
theorem z121_191 : Run d 121 191 [a0, a1, a2, a3, a4, a5, a6, a7, a8, a9] [.ref o] M 0 0 Z ↔ Run d 121 192 [a0, a1, a2, a3, a4, a5, a6, a7, a8, a9] [.ref o, .ref o] M 0 0 Z := R_arith (gd121 dX9_body_191) rfl
theorem z121_192 : Run d 121 192 [a0, a1, a2, a3, a4, a5, a6, a7, a8, a9] [.ref o, s0] M 0 0 Z ↔ gObj M o 9 ∧ Run d 121 195 [a0, a1, a2, a3, a4, a5, a6, a7, a8, a9] [.int (M.1 o 2), s0] M 0 0 Z := R_getI (gd121 dX9_body_192) rfl gf_9_153 rfl
theorem z121_195 : Run d 121 195 [a0, a1, a2, a3, a4, a5, a6, a7, a8, a9] [s1, s0] M 0 0 Z ↔ Run d 121 196 [a0, a1, a2, a3, a4, a5, a6, a7, a8, a9] [.int 1, s1, s0] M 0 0 Z := R_iconst (gd121 dX9_body_195) (by decide)
theorem z121_196 : Run d 121 196 [a0, a1, a2, a3, a4, a5, a6, a7, a8, a9] [.int y, .int x, s0] M 0 0 Z ↔ Run d 121 197 [a0, a1, a2, a3, a4, a5, a6, a7, a8, a9] [.int (x + y), s0] M 0 0 Z := R_arith (gd121 dX9_body_196) rfl
theorem z121_197 : Run d 121 197 [a0, a1, a2, a3, a4, a5, a6, a7, a8, a9] [.int x, .ref o] M 0 0 Z ↔ gObj M o 9 ∧ Run d 121 200 [a0, a1, a2, a3, a4, a5, a6, a7, a8, a9] [] (gsI M o 2 x) 0 0 Z := R_putI (gd121 dX9_body_197) rfl gf_9_153 (Or.inl rfl) rfl
theorem z121_200 : Run d 121 200 [some (.ref o), a1, a2, a3, a4, a5, a6, a7, a8, a9] [] M 0 0 Z ↔ Run d 121 201 [some (.ref o), a1, a2, a3, a4, a5, a6, a7, a8, a9] [.ref o] M 0 0 Z := R_local (gd121 dX9_body_200) rfl rfl rfl
theorem z121_201 : Run d 121 201 [a0, a1, a2, a3, a4, a5, a6, a7, a8, a9] [.ref o] M 0 0 Z ↔ gObj M o 9 ∧ Run d 121 204 [a0, a1, a2, a3, a4, a5, a6, a7, a8, a9] [.int (M.1 o 2)] M 0 0 Z := R_getI (gd121 dX9_body_201) rfl gf_9_153 rfl
theorem z121_204 : Run d 121 204 [a0, a1, a2, a3, a4, a5, a6, a7, a8, a9] [s0] M 0 0 Z ↔ Run d 121 205 [a0, a1, a2, a3, a4, a5, a6, a7, a8, a9] [.int 1, s0] M 0 0 Z := R_iconst (gd121 dX9_body_204) (by decide)
theorem z121_205 : Run d 121 205 [a0, a1, a2, a3, a4, a5, a6, a7, a8, a9] [.int y, .int x] M 0 0 Z ↔ Run d 121 206 [a0, a1, a2, a3, a4, a5, a6, a7, a8, a9] [.int (x - y)] M 0 0 Z := R_arith (gd121 dX9_body_205) rfl
theorem z121_206 : Run d 121 206 [a0, a1, a2, a3, a4, a5, a6, a7, a8, a9] [.int x] M 0 0 Z ↔ Z (some (.int x)) M := R_iret (gd121 dX9_body_206) rfl
theorem e121 : Call (d + 1) 121 [s0, s1, s2, s3, s4, s5, s6, s7, s8] M Z ↔ Run d 121 0 [some s0, some s1, some s2, some s3, some s4, some s5, some s6, some s7, some s8, none] [] M 0 0 Z := Call_iff (Nat.lt_of_lt_of_le (Nat.lt_succ_self 121) (Nat.le_of_ble_eq_true rfl)) (Nat.le_of_ble_eq_true rfl)
/-! 122: X9_isBody (I)Z -/
theorem gd122 {pc : Nat} {r : Except _ _} (h : decode cX9_isBody pc = r) : decode (gby 122) pc = r := h
theorem z122_0 : Run d 122 0 [a0, some (.int x)] [] M 0 0 Z ↔ Run d 122 1 [a0, some (.int x)] [.int x] M 0 0 Z := R_local (gd122 dX9_isBody_0) rfl rfl rfl
theorem z122_1 : Run d 122 1 [a0, a1] [s0] M 0 0 Z ↔ Run d 122 2 [a0, a1] [.int 0, s0] M 0 0 Z := R_iconst (gd122 dX9_isBody_1) (by decide)
theorem z122_2 : Run d 122 2 [some (.ref o), a1] [s1, s0] M 0 0 Z ↔ Run d 122 3 [some (.ref o), a1] [.ref o, s1, s0] M 0 0 Z := R_local (gd122 dX9_isBody_2) rfl rfl rfl
theorem z122_3 : Run d 122 3 [a0, a1] [.ref o, s1, s0] M 0 0 Z ↔ gObj M o 9 ∧ Run d 122 6 [a0, a1] [.int (M.1 o 2), s1, s0] M 0 0 Z := R_getI (gd122 dX9_isBody_3) rfl gf_9_153 rfl
theorem z122_6 : Run d 122 6 [a0, a1] [s2, s1, s0] M 0 0 Z ↔ Run d 122 7 [a0, a1] [.int 1, s2, s1, s0] M 0 0 Z := R_iconst (gd122 dX9_isBody_6) (by decide)
theorem z122_7 : Run d 122 7 [a0, a1] [.int y, .int x, s1, s0] M 0 0 Z ↔ Run d 122 8 [a0, a1] [.int (x - y), s1, s0] M 0 0 Z := R_arith (gd122 dX9_isBody_7) rfl
theorem z122_8 : Run d 122 8 [a0, a1] [s2, s1, s0] M 0 0 Z ↔ Call d 120 [s0, s1, s2] M (fun r M1 => Run d 122 11 [a0, a1] (r.toList ++ []) M1 0 0 Z) := R_call (gd122 dX9_isBody_8) rfl rfl rfl rfl rfl rfl gc_9_157 rfl (by decide) (Nat.le_of_ble_eq_true rfl) (Nat.le_of_ble_eq_true rfl) rfl rfl rfl (Nat.le_of_ble_eq_true rfl) (Nat.le_of_ble_eq_true rfl)
theorem z122_11 : Run d 122 11 [a0, a1] [.int x] M 0 0 Z ↔ (x = 0 ∨ x = 1) ∧ Z (some (.int x)) M := R_iretZ (gd122 dX9_isBody_11) rfl
theorem e122 : Call (d + 1) 122 [s0, s1] M Z ↔ Run d 122 0 [some s0, some s1] [] M 0 0 Z := Call_iff (Nat.lt_of_lt_of_le (Nat.lt_succ_self 122) (Nat.le_of_ble_eq_true rfl)) (Nat.le_of_ble_eq_true rfl)
/-! 123: X9_isCloth (I)Z -/
theorem gd123 {pc : Nat} {r : Except _ _} (h : decode cX9_isCloth pc = r) : decode (gby 123) pc = r := h
theorem z123_0 : Run d 123 0 [a0, some (.int x)] [] M 0 0 Z ↔ Run d 123 1 [a0, some (.int x)] [.int x] M 0 0 Z := R_local (gd123 dX9_isCloth_0) rfl rfl rfl
theorem z123_1 : Run d 123 1 [a0, a1] [s0] M 0 0 Z ↔ Run d 123 2 [a0, a1] [.int 0, s0] M 0 0 Z := R_iconst (gd123 dX9_isCloth_1) (by decide)
theorem z123_2 : Run d 123 2 [some (.ref o), a1] [s1, s0] M 0 0 Z ↔ Run d 123 3 [some (.ref o), a1] [.ref o, s1, s0] M 0 0 Z := R_local (gd123 dX9_isCloth_2) rfl rfl rfl
theorem z123_3 : Run d 123 3 [a0, a1] [.ref o, s1, s0] M 0 0 Z ↔ gObj M o 9 ∧ Run d 123 6 [a0, a1] [.int (M.1 o 3), s1, s0] M 0 0 Z := R_getI (gd123 dX9_isCloth_3) rfl gf_9_161 rfl
theorem z123_6 : Run d 123 6 [a0, a1] [s2, s1, s0] M 0 0 Z ↔ Run d 123 7 [a0, a1] [.int 1, s2, s1, s0] M 0 0 Z := R_iconst (gd123 dX9_isCloth_6) (by decide)
theorem z123_7 : Run d 123 7 [a0, a1] [.int y, .int x, s1, s0] M 0 0 Z ↔ Run d 123 8 [a0, a1] [.int (x - y), s1, s0] M 0 0 Z := R_arith (gd123 dX9_isCloth_7) rfl
theorem z123_8 : Run d 123 8 [a0, a1] [s2, s1, s0] M 0 0 Z ↔ Call d 120 [s0, s1, s2] M (fun r M1 => Run d 123 11 [a0, a1] (r.toList ++ []) M1 0 0 Z) := R_call (gd123 dX9_isCloth_8) rfl rfl rfl rfl rfl rfl gc_9_157 rfl (by decide) (Nat.le_of_ble_eq_true rfl) (Nat.le_of_ble_eq_true rfl) rfl rfl rfl (Nat.le_of_ble_eq_true rfl) (Nat.le_of_ble_eq_true rfl)
theorem z123_11 : Run d 123 11 [a0, a1] [.int x] M 0 0 Z ↔ (x = 0 ∨ x = 1) ∧ Z (some (.int x)) M := R_iretZ (gd123 dX9_isCloth_11) rfl
theorem e123 : Call (d + 1) 123 [s0, s1] M Z ↔ Run d 123 0 [some s0, some s1] [] M 0 0 Z := Call_iff (Nat.lt_of_lt_of_le (Nat.lt_succ_self 123) (Nat.le_of_ble_eq_true rfl)) (Nat.le_of_ble_eq_true rfl)
/-! 124: X9_isStyle (I)Z -/
theorem gd124 {pc : Nat} {r : Except _ _} (h : decode cX9_isStyle pc = r) : decode (gby 124) pc = r := h
theorem z124_0 : Run d 124 0 [a0, some (.int x)] [] M 0 0 Z ↔ Run d 124 1 [a0, some (.int x)] [.int x] M 0 0 Z := R_local (gd124 dX9_isStyle_0) rfl rfl rfl
theorem z124_1 : Run d 124 1 [a0, a1] [s0] M 0 0 Z ↔ Run d 124 2 [a0, a1] [.int 0, s0] M 0 0 Z := R_iconst (gd124 dX9_isStyle_1) (by decide)
theorem z124_2 : Run d 124 2 [some (.ref o), a1] [s1, s0] M 0 0 Z ↔ Run d 124 3 [some (.ref o), a1] [.ref o, s1, s0] M 0 0 Z := R_local (gd124 dX9_isStyle_2) rfl rfl rfl
theorem z124_3 : Run d 124 3 [a0, a1] [.ref o, s1, s0] M 0 0 Z ↔ gObj M o 9 ∧ Run d 124 6 [a0, a1] [.int (M.1 o 4), s1, s0] M 0 0 Z := R_getI (gd124 dX9_isStyle_3) rfl gf_9_164 rfl
theorem z124_6 : Run d 124 6 [a0, a1] [s2, s1, s0] M 0 0 Z ↔ Run d 124 7 [a0, a1] [.int 1, s2, s1, s0] M 0 0 Z := R_iconst (gd124 dX9_isStyle_6) (by decide)
theorem z124_7 : Run d 124 7 [a0, a1] [.int y, .int x, s1, s0] M 0 0 Z ↔ Run d 124 8 [a0, a1] [.int (x - y), s1, s0] M 0 0 Z := R_arith (gd124 dX9_isStyle_7) rfl
theorem z124_8 : Run d 124 8 [a0, a1] [s2, s1, s0] M 0 0 Z ↔ Call d 120 [s0, s1, s2] M (fun r M1 => Run d 124 11 [a0, a1] (r.toList ++ []) M1 0 0 Z) := R_call (gd124 dX9_isStyle_8) rfl rfl rfl rfl rfl rfl gc_9_157 rfl (by decide) (Nat.le_of_ble_eq_true rfl) (Nat.le_of_ble_eq_true rfl) rfl rfl rfl (Nat.le_of_ble_eq_true rfl) (Nat.le_of_ble_eq_true rfl)
theorem z124_11 : Run d 124 11 [a0, a1] [.int x] M 0 0 Z ↔ (x = 0 ∨ x = 1) ∧ Z (some (.int x)) M := R_iretZ (gd124 dX9_isStyle_11) rfl
theorem e124 : Call (d + 1) 124 [s0, s1] M Z ↔ Run d 124 0 [some s0, some s1] [] M 0 0 Z := Call_iff (Nat.lt_of_lt_of_le (Nat.lt_succ_self 124) (Nat.le_of_ble_eq_true rfl)) (Nat.le_of_ble_eq_true rfl)
/-! 125: X9_cloth (II)I -/
theorem gd125 {pc : Nat} {r : Except _ _} (h : decode cX9_cloth pc = r) : decode (gby 125) pc = r := h
theorem z125_0 : Run d 125 0 [some (.ref o), a1, a2] [] M 0 0 Z ↔ Run d 125 1 [some (.ref o), a1, a2] [.ref o] M 0 0 Z := R_local (gd125 dX9_cloth_0) rfl rfl rfl
theorem z125_1 : Run d 125 1 [a0, a1, a2] [.ref o] M 0 0 Z ↔ gObj M o 9 ∧ Run d 125 4 [a0, a1, a2] [.int (M.1 o 3)] M 0 0 Z := R_getI (gd125 dX9_cloth_1) rfl gf_9_161 rfl
theorem z125_4 : Run d 125 4 [a0, a1, a2] [s0] M 0 0 Z ↔ Run d 125 6 [a0, a1, a2] [.int 6, s0] M 0 0 Z := R_bipush (gd125 dX9_cloth_4) (by decide)
theorem z125_6 : Run d 125 6 [a0, a1, a2] [.int y, .int x] M 0 0 Z ↔ (x = y → Run d 125 30 [a0, a1, a2] [] M 0 0 Z) ∧ (¬ (x = y) → Run d 125 9 [a0, a1, a2] [] M 0 0 Z) := R_icmp (gd125 dX9_cloth_6) (show gTgt 6 24 = some 30 by decide) gIf_eq
theorem z125_9 : Run d 125 9 [a0, some (.int x), a2] [] M 0 0 Z ↔ Run d 125 10 [a0, some (.int x), a2] [.int x] M 0 0 Z := R_local (gd125 dX9_cloth_9) rfl rfl rfl
theorem z125_10 : Run d 125 10 [a0, a1, a2] [s0] M 0 0 Z ↔ Run d 125 12 [a0, a1, a2] [.int 10, s0] M 0 0 Z := R_bipush (gd125 dX9_cloth_10) (by decide)
theorem z125_12 : Run d 125 12 [a0, a1, a2] [s1, s0] M 0 0 Z ↔ Run d 125 15 [a0, a1, a2] [.int 400, s1, s0] M 0 0 Z := R_sipush (gd125 dX9_cloth_12) (by decide)
theorem z125_15 : Run d 125 15 [a0, a1, a2] [s2, s1, s0] M 0 0 Z ↔ Call d 120 [s0, s1, s2] M (fun r M1 => Run d 125 18 [a0, a1, a2] (r.toList ++ []) M1 0 0 Z) := R_call (gd125 dX9_cloth_15) rfl rfl rfl rfl rfl rfl gc_9_157 rfl (by decide) (Nat.le_of_ble_eq_true rfl) (Nat.le_of_ble_eq_true rfl) rfl rfl rfl (Nat.le_of_ble_eq_true rfl) (Nat.le_of_ble_eq_true rfl)
theorem z125_18 : Run d 125 18 [a0, a1, a2] [.int x] M 0 0 Z ↔ (x = 0 → Run d 125 30 [a0, a1, a2] [] M 0 0 Z) ∧ (¬ (x = 0) → Run d 125 21 [a0, a1, a2] [] M 0 0 Z) := R_if (gd125 dX9_cloth_18) (show gTgt 18 12 = some 30 by decide) gIf_eq
theorem z125_21 : Run d 125 21 [a0, a1, some (.int x)] [] M 0 0 Z ↔ Run d 125 22 [a0, a1, some (.int x)] [.int x] M 0 0 Z := R_local (gd125 dX9_cloth_21) rfl rfl rfl
theorem z125_22 : Run d 125 22 [a0, a1, a2] [s0] M 0 0 Z ↔ Run d 125 23 [a0, a1, a2] [.int 1, s0] M 0 0 Z := R_iconst (gd125 dX9_cloth_22) (by decide)
theorem z125_23 : Run d 125 23 [a0, a1, a2] [s1, s0] M 0 0 Z ↔ Run d 125 24 [a0, a1, a2] [.int 4, s1, s0] M 0 0 Z := R_iconst (gd125 dX9_cloth_23) (by decide)
theorem z125_24 : Run d 125 24 [a0, a1, a2] [s2, s1, s0] M 0 0 Z ↔ Call d 120 [s0, s1, s2] M (fun r M1 => Run d 125 27 [a0, a1, a2] (r.toList ++ []) M1 0 0 Z) := R_call (gd125 dX9_cloth_24) rfl rfl rfl rfl rfl rfl gc_9_157 rfl (by decide) (Nat.le_of_ble_eq_true rfl) (Nat.le_of_ble_eq_true rfl) rfl rfl rfl (Nat.le_of_ble_eq_true rfl) (Nat.le_of_ble_eq_true rfl)
theorem z125_27 : Run d 125 27 [a0, a1, a2] [.int x] M 0 0 Z ↔ (¬ x = 0 → Run d 125 32 [a0, a1, a2] [] M 0 0 Z) ∧ (¬ (¬ x = 0) → Run d 125 30 [a0, a1, a2] [] M 0 0 Z) := R_if (gd125 dX9_cloth_27) (show gTgt 27 5 = some 32 by decide) gIf_ne
theorem z125_30 : Run d 125 30 [a0, a1, a2] [] M 0 0 Z ↔ Run d 125 31 [a0, a1, a2] [.int (-1)] M 0 0 Z := R_iconst (gd125 dX9_cloth_30) (by decide)
theorem z125_31 : Run d 125 31 [a0, a1, a2] [.int x] M 0 0 Z ↔ Z (some (.int x)) M := R_iret (gd125 dX9_cloth_31) rfl
theorem z125_32 : Run d 125 32 [some (.ref o), a1, a2] [] M 0 0 Z ↔ Run d 125 33 [some (.ref o), a1, a2] [.ref o] M 0 0 Z := R_local (gd125 dX9_cloth_32) rfl rfl rfl
theorem z125_33 : Run d 125 33 [a0, a1, a2] [.ref o] M 0 0 Z ↔ gObj M o 9 ∧ Run d 125 36 [a0, a1, a2] [va_rf (M.2.1 o 6)] M 0 0 Z := R_getR (gd125 dX9_cloth_33) rfl gf_9_17 rfl
theorem z125_36 : Run d 125 36 [some (.ref o), a1, a2] [s0] M 0 0 Z ↔ Run d 125 37 [some (.ref o), a1, a2] [.ref o, s0] M 0 0 Z := R_local (gd125 dX9_cloth_36) rfl rfl rfl
theorem z125_37 : Run d 125 37 [a0, a1, a2] [.ref o, s0] M 0 0 Z ↔ gObj M o 9 ∧ Run d 125 40 [a0, a1, a2] [.int (M.1 o 3), s0] M 0 0 Z := R_getI (gd125 dX9_cloth_37) rfl gf_9_161 rfl
theorem z125_40 : Run d 125 40 [a0, some (.int x), a2] [s1, s0] M 0 0 Z ↔ Run d 125 41 [a0, some (.int x), a2] [.int x, s1, s0] M 0 0 Z := R_local (gd125 dX9_cloth_40) rfl rfl rfl
theorem z125_41 : Run d 125 41 [a0, a1, a2] [.int y, .int x, .ref o] M 0 0 Z ↔ gAr M o 0 ∧ gIn x (gLen M o) = true ∧ Run d 125 42 [a0, a1, a2] [] (gsI M o x.toNatClampNeg y) 0 0 Z := R_iast (gd125 dX9_cloth_41)
theorem z125_42 : Run d 125 42 [some (.ref o), a1, a2] [] M 0 0 Z ↔ Run d 125 43 [some (.ref o), a1, a2] [.ref o] M 0 0 Z := R_local (gd125 dX9_cloth_42) rfl rfl rfl
theorem z125_43 : Run d 125 43 [a0, a1, a2] [.ref o] M 0 0 Z ↔ gObj M o 9 ∧ Run d 125 46 [a0, a1, a2] [va_rf (M.2.1 o 7)] M 0 0 Z := R_getR (gd125 dX9_cloth_43) rfl gf_9_20 rfl
theorem z125_46 : Run d 125 46 [some (.ref o), a1, a2] [s0] M 0 0 Z ↔ Run d 125 47 [some (.ref o), a1, a2] [.ref o, s0] M 0 0 Z := R_local (gd125 dX9_cloth_46) rfl rfl rfl
theorem z125_47 : Run d 125 47 [a0, a1, a2] [.ref o, s0] M 0 0 Z ↔ gObj M o 9 ∧ Run d 125 50 [a0, a1, a2] [.int (M.1 o 3), s0] M 0 0 Z := R_getI (gd125 dX9_cloth_47) rfl gf_9_161 rfl
theorem z125_50 : Run d 125 50 [a0, a1, some (.int x)] [s1, s0] M 0 0 Z ↔ Run d 125 51 [a0, a1, some (.int x)] [.int x, s1, s0] M 0 0 Z := R_local (gd125 dX9_cloth_50) rfl rfl rfl
theorem z125_51 : Run d 125 51 [a0, a1, a2] [.int y, .int x, .ref o] M 0 0 Z ↔ gAr M o 0 ∧ gIn x (gLen M o) = true ∧ Run d 125 52 [a0, a1, a2] [] (gsI M o x.toNatClampNeg y) 0 0 Z := R_iast (gd125 dX9_cloth_51)
theorem z125_52 : Run d 125 52 [some (.ref o), a1, a2] [] M 0 0 Z ↔ Run d 125 53 [some (.ref o), a1, a2] [.ref o] M 0 0 Z := R_local (gd125 dX9_cloth_52) rfl rfl rfl
theorem z125_53 : Run d 125 53 [a0, a1, a2] [.ref o] M 0 0 Z ↔ Run d 125 54 [a0, a1, a2] [.ref o, .ref o] M 0 0 Z := R_arith (gd125 dX9_cloth_53) rfl
theorem z125_54 : Run d 125 54 [a0, a1, a2] [.ref o, s0] M 0 0 Z ↔ gObj M o 9 ∧ Run d 125 57 [a0, a1, a2] [.int (M.1 o 3), s0] M 0 0 Z := R_getI (gd125 dX9_cloth_54) rfl gf_9_161 rfl
theorem z125_57 : Run d 125 57 [a0, a1, a2] [s1, s0] M 0 0 Z ↔ Run d 125 58 [a0, a1, a2] [.int 1, s1, s0] M 0 0 Z := R_iconst (gd125 dX9_cloth_57) (by decide)
theorem z125_58 : Run d 125 58 [a0, a1, a2] [.int y, .int x, s0] M 0 0 Z ↔ Run d 125 59 [a0, a1, a2] [.int (x + y), s0] M 0 0 Z := R_arith (gd125 dX9_cloth_58) rfl
theorem z125_59 : Run d 125 59 [a0, a1, a2] [.int x, .ref o] M 0 0 Z ↔ gObj M o 9 ∧ Run d 125 62 [a0, a1, a2] [] (gsI M o 3 x) 0 0 Z := R_putI (gd125 dX9_cloth_59) rfl gf_9_161 (Or.inl rfl) rfl
theorem z125_62 : Run d 125 62 [some (.ref o), a1, a2] [] M 0 0 Z ↔ Run d 125 63 [some (.ref o), a1, a2] [.ref o] M 0 0 Z := R_local (gd125 dX9_cloth_62) rfl rfl rfl
theorem z125_63 : Run d 125 63 [a0, a1, a2] [.ref o] M 0 0 Z ↔ gObj M o 9 ∧ Run d 125 66 [a0, a1, a2] [.int (M.1 o 3)] M 0 0 Z := R_getI (gd125 dX9_cloth_63) rfl gf_9_161 rfl
theorem z125_66 : Run d 125 66 [a0, a1, a2] [s0] M 0 0 Z ↔ Run d 125 67 [a0, a1, a2] [.int 1, s0] M 0 0 Z := R_iconst (gd125 dX9_cloth_66) (by decide)
theorem z125_67 : Run d 125 67 [a0, a1, a2] [.int y, .int x] M 0 0 Z ↔ Run d 125 68 [a0, a1, a2] [.int (x - y)] M 0 0 Z := R_arith (gd125 dX9_cloth_67) rfl
theorem z125_68 : Run d 125 68 [a0, a1, a2] [.int x] M 0 0 Z ↔ Z (some (.int x)) M := R_iret (gd125 dX9_cloth_68) rfl
theorem e125 : Call (d + 1) 125 [s0, s1, s2] M Z ↔ Run d 125 0 [some s0, some s1, some s2] [] M 0 0 Z := Call_iff (Nat.lt_of_lt_of_le (Nat.lt_succ_self 125) (Nat.le_of_ble_eq_true rfl)) (Nat.le_of_ble_eq_true rfl)
/-! 126: X9_colour (III)Z -/
theorem gd126 {pc : Nat} {r : Except _ _} (h : decode cX9_colour pc = r) : decode (gby 126) pc = r := h
theorem z126_0 : Run d 126 0 [some (.ref o), a1, a2, a3] [] M 0 0 Z ↔ Run d 126 1 [some (.ref o), a1, a2, a3] [.ref o] M 0 0 Z := R_local (gd126 dX9_colour_0) rfl rfl rfl
theorem z126_1 : Run d 126 1 [a0, some (.int x), a2, a3] [s0] M 0 0 Z ↔ Run d 126 2 [a0, some (.int x), a2, a3] [.int x, s0] M 0 0 Z := R_local (gd126 dX9_colour_1) rfl rfl rfl
theorem z126_2 : Run d 126 2 [a0, a1, a2, a3] [s1, .ref b] M 0 0 Z ↔ gObj M b 9 ∧ Call d 123 [.ref b, s1] M (fun r M1 => Run d 126 5 [a0, a1, a2, a3] (r.toList ++ []) M1 0 0 Z) := R_callV (gd126 dX9_colour_2) rfl rfl rfl rfl rfl rfl gc_9_167 rfl rfl (Nat.le_of_ble_eq_true rfl) (Nat.le_of_ble_eq_true rfl) rfl rfl (Nat.le_of_ble_eq_true rfl) (Nat.le_of_ble_eq_true rfl)
theorem z126_5 : Run d 126 5 [a0, a1, a2, a3] [.int x] M 0 0 Z ↔ (x = 0 → Run d 126 27 [a0, a1, a2, a3] [] M 0 0 Z) ∧ (¬ (x = 0) → Run d 126 8 [a0, a1, a2, a3] [] M 0 0 Z) := R_if (gd126 dX9_colour_5) (show gTgt 5 22 = some 27 by decide) gIf_eq
theorem z126_8 : Run d 126 8 [a0, a1, some (.int x), a3] [] M 0 0 Z ↔ Run d 126 9 [a0, a1, some (.int x), a3] [.int x] M 0 0 Z := R_local (gd126 dX9_colour_8) rfl rfl rfl
theorem z126_9 : Run d 126 9 [a0, a1, a2, a3] [s0] M 0 0 Z ↔ Run d 126 10 [a0, a1, a2, a3] [.int 0, s0] M 0 0 Z := R_iconst (gd126 dX9_colour_9) (by decide)
theorem z126_10 : Run d 126 10 [a0, a1, a2, a3] [s1, s0] M 0 0 Z ↔ Run d 126 11 [a0, a1, a2, a3] [.int 5, s1, s0] M 0 0 Z := R_iconst (gd126 dX9_colour_10) (by decide)
theorem z126_11 : Run d 126 11 [a0, a1, a2, a3] [s2, s1, s0] M 0 0 Z ↔ Call d 120 [s0, s1, s2] M (fun r M1 => Run d 126 14 [a0, a1, a2, a3] (r.toList ++ []) M1 0 0 Z) := R_call (gd126 dX9_colour_11) rfl rfl rfl rfl rfl rfl gc_9_157 rfl (by decide) (Nat.le_of_ble_eq_true rfl) (Nat.le_of_ble_eq_true rfl) rfl rfl rfl (Nat.le_of_ble_eq_true rfl) (Nat.le_of_ble_eq_true rfl)
theorem z126_14 : Run d 126 14 [a0, a1, a2, a3] [.int x] M 0 0 Z ↔ (x = 0 → Run d 126 27 [a0, a1, a2, a3] [] M 0 0 Z) ∧ (¬ (x = 0) → Run d 126 17 [a0, a1, a2, a3] [] M 0 0 Z) := R_if (gd126 dX9_colour_14) (show gTgt 14 13 = some 27 by decide) gIf_eq
theorem z126_17 : Run d 126 17 [a0, a1, a2, some (.int x)] [] M 0 0 Z ↔ Run d 126 18 [a0, a1, a2, some (.int x)] [.int x] M 0 0 Z := R_local (gd126 dX9_colour_17) rfl rfl rfl
theorem z126_18 : Run d 126 18 [a0, a1, a2, a3] [s0] M 0 0 Z ↔ Run d 126 19 [a0, a1, a2, a3] [.int 0, s0] M 0 0 Z := R_iconst (gd126 dX9_colour_18) (by decide)
theorem z126_19 : Run d 126 19 [a0, a1, a2, a3] [s1, s0] M 0 0 Z ↔ Run d 126 21 [a0, a1, a2, a3] [.int 7, s1, s0] M 0 0 Z := R_bipush (gd126 dX9_colour_19) (by decide)
theorem z126_21 : Run d 126 21 [a0, a1, a2, a3] [s2, s1, s0] M 0 0 Z ↔ Call d 120 [s0, s1, s2] M (fun r M1 => Run d 126 24 [a0, a1, a2, a3] (r.toList ++ []) M1 0 0 Z) := R_call (gd126 dX9_colour_21) rfl rfl rfl rfl rfl rfl gc_9_157 rfl (by decide) (Nat.le_of_ble_eq_true rfl) (Nat.le_of_ble_eq_true rfl) rfl rfl rfl (Nat.le_of_ble_eq_true rfl) (Nat.le_of_ble_eq_true rfl)
theorem z126_24 : Run d 126 24 [a0, a1, a2, a3] [.int x] M 0 0 Z ↔ (¬ x = 0 → Run d 126 29 [a0, a1, a2, a3] [] M 0 0 Z) ∧ (¬ (¬ x = 0) → Run d 126 27 [a0, a1, a2, a3] [] M 0 0 Z) := R_if (gd126 dX9_colour_24) (show gTgt 24 5 = some 29 by decide) gIf_ne
theorem z126_27 : Run d 126 27 [a0, a1, a2, a3] [] M 0 0 Z ↔ Run d 126 28 [a0, a1, a2, a3] [.int 0] M 0 0 Z := R_iconst (gd126 dX9_colour_27) (by decide)
theorem z126_28 : Run d 126 28 [a0, a1, a2, a3] [.int x] M 0 0 Z ↔ (x = 0 ∨ x = 1) ∧ Z (some (.int x)) M := R_iretZ (gd126 dX9_colour_28) rfl
theorem z126_29 : Run d 126 29 [some (.ref o), a1, a2, a3] [] M 0 0 Z ↔ Run d 126 30 [some (.ref o), a1, a2, a3] [.ref o] M 0 0 Z := R_local (gd126 dX9_colour_29) rfl rfl rfl
theorem z126_30 : Run d 126 30 [a0, a1, a2, a3] [.ref o] M 0 0 Z ↔ gObj M o 9 ∧ Run d 126 33 [a0, a1, a2, a3] [va_rf (M.2.1 o 9)] M 0 0 Z := R_getR (gd126 dX9_colour_30) rfl gf_9_26 rfl
theorem z126_33 : Run d 126 33 [a0, a1, a2, a3] [s0] M 0 0 Z ↔ Run d 126 35 [a0, a1, a2, a3] [.int 6, s0] M 0 0 Z := R_bipush (gd126 dX9_colour_33) (by decide)
theorem z126_35 : Run d 126 35 [a0, some (.int x), a2, a3] [s1, s0] M 0 0 Z ↔ Run d 126 36 [a0, some (.int x), a2, a3] [.int x, s1, s0] M 0 0 Z := R_local (gd126 dX9_colour_35) rfl rfl rfl
theorem z126_36 : Run d 126 36 [a0, a1, a2, a3] [.int y, .int x, s0] M 0 0 Z ↔ Run d 126 37 [a0, a1, a2, a3] [.int (x * y), s0] M 0 0 Z := R_arith (gd126 dX9_colour_36) rfl
theorem z126_37 : Run d 126 37 [a0, a1, some (.int x), a3] [s1, s0] M 0 0 Z ↔ Run d 126 38 [a0, a1, some (.int x), a3] [.int x, s1, s0] M 0 0 Z := R_local (gd126 dX9_colour_37) rfl rfl rfl
theorem z126_38 : Run d 126 38 [a0, a1, a2, a3] [.int y, .int x, s0] M 0 0 Z ↔ Run d 126 39 [a0, a1, a2, a3] [.int (x + y), s0] M 0 0 Z := R_arith (gd126 dX9_colour_38) rfl
theorem z126_39 : Run d 126 39 [a0, a1, a2, some (.int x)] [s1, s0] M 0 0 Z ↔ Run d 126 40 [a0, a1, a2, some (.int x)] [.int x, s1, s0] M 0 0 Z := R_local (gd126 dX9_colour_39) rfl rfl rfl
theorem z126_40 : Run d 126 40 [a0, a1, a2, a3] [.int y, .int x, .ref o] M 0 0 Z ↔ gAr M o 0 ∧ gIn x (gLen M o) = true ∧ Run d 126 41 [a0, a1, a2, a3] [] (gsI M o x.toNatClampNeg y) 0 0 Z := R_iast (gd126 dX9_colour_40)
theorem z126_41 : Run d 126 41 [a0, a1, a2, a3] [] M 0 0 Z ↔ Run d 126 42 [a0, a1, a2, a3] [.int 1] M 0 0 Z := R_iconst (gd126 dX9_colour_41) (by decide)
theorem z126_42 : Run d 126 42 [a0, a1, a2, a3] [.int x] M 0 0 Z ↔ (x = 0 ∨ x = 1) ∧ Z (some (.int x)) M := R_iretZ (gd126 dX9_colour_42) rfl
theorem e126 : Call (d + 1) 126 [s0, s1, s2, s3] M Z ↔ Run d 126 0 [some s0, some s1, some s2, some s3] [] M 0 0 Z := Call_iff (Nat.lt_of_lt_of_le (Nat.lt_succ_self 126) (Nat.le_of_ble_eq_true rfl)) (Nat.le_of_ble_eq_true rfl)
/-! 127: X9_end (II)Z -/
theorem gd127 {pc : Nat} {r : Except _ _} (h : decode cX9_end pc = r) : decode (gby 127) pc = r := h
theorem z127_0 : Run d 127 0 [some (.ref o), a1, a2] [] M 0 0 Z ↔ Run d 127 1 [some (.ref o), a1, a2] [.ref o] M 0 0 Z := R_local (gd127 dX9_end_0) rfl rfl rfl
theorem z127_1 : Run d 127 1 [a0, some (.int x), a2] [s0] M 0 0 Z ↔ Run d 127 2 [a0, some (.int x), a2] [.int x, s0] M 0 0 Z := R_local (gd127 dX9_end_1) rfl rfl rfl
theorem z127_2 : Run d 127 2 [a0, a1, a2] [s1, .ref b] M 0 0 Z ↔ gObj M b 9 ∧ Call d 123 [.ref b, s1] M (fun r M1 => Run d 127 5 [a0, a1, a2] (r.toList ++ []) M1 0 0 Z) := R_callV (gd127 dX9_end_2) rfl rfl rfl rfl rfl rfl gc_9_167 rfl rfl (Nat.le_of_ble_eq_true rfl) (Nat.le_of_ble_eq_true rfl) rfl rfl (Nat.le_of_ble_eq_true rfl) (Nat.le_of_ble_eq_true rfl)
theorem z127_5 : Run d 127 5 [a0, a1, a2] [.int x] M 0 0 Z ↔ (x = 0 → Run d 127 22 [a0, a1, a2] [] M 0 0 Z) ∧ (¬ (x = 0) → Run d 127 8 [a0, a1, a2] [] M 0 0 Z) := R_if (gd127 dX9_end_5) (show gTgt 5 17 = some 22 by decide) gIf_eq
theorem z127_8 : Run d 127 8 [a0, a1, some (.int x)] [] M 0 0 Z ↔ Run d 127 9 [a0, a1, some (.int x)] [.int x] M 0 0 Z := R_local (gd127 dX9_end_8) rfl rfl rfl
theorem z127_9 : Run d 127 9 [a0, a1, a2] [s0] M 0 0 Z ↔ Run d 127 10 [a0, a1, a2] [.int 0, s0] M 0 0 Z := R_iconst (gd127 dX9_end_9) (by decide)
theorem z127_10 : Run d 127 10 [some (.ref o), a1, a2] [s1, s0] M 0 0 Z ↔ Run d 127 11 [some (.ref o), a1, a2] [.ref o, s1, s0] M 0 0 Z := R_local (gd127 dX9_end_10) rfl rfl rfl
theorem z127_11 : Run d 127 11 [a0, a1, a2] [.ref o, s1, s0] M 0 0 Z ↔ gObj M o 9 ∧ Run d 127 14 [a0, a1, a2] [va_rf (M.2.1 o 6), s1, s0] M 0 0 Z := R_getR (gd127 dX9_end_11) rfl gf_9_17 rfl
theorem z127_14 : Run d 127 14 [a0, some (.int x), a2] [s2, s1, s0] M 0 0 Z ↔ Run d 127 15 [a0, some (.int x), a2] [.int x, s2, s1, s0] M 0 0 Z := R_local (gd127 dX9_end_14) rfl rfl rfl
theorem z127_15 : Run d 127 15 [a0, a1, a2] [.int x, .ref o, s1, s0] M 0 0 Z ↔ gAr M o 0 ∧ gIn x (gLen M o) = true ∧ Run d 127 16 [a0, a1, a2] [.int (M.1 o x.toNatClampNeg), s1, s0] M 0 0 Z := R_iald (gd127 dX9_end_15)
theorem z127_16 : Run d 127 16 [a0, a1, a2] [s2, s1, s0] M 0 0 Z ↔ Call d 120 [s0, s1, s2] M (fun r M1 => Run d 127 19 [a0, a1, a2] (r.toList ++ []) M1 0 0 Z) := R_call (gd127 dX9_end_16) rfl rfl rfl rfl rfl rfl gc_9_157 rfl (by decide) (Nat.le_of_ble_eq_true rfl) (Nat.le_of_ble_eq_true rfl) rfl rfl rfl (Nat.le_of_ble_eq_true rfl) (Nat.le_of_ble_eq_true rfl)
theorem z127_19 : Run d 127 19 [a0, a1, a2] [.int x] M 0 0 Z ↔ (¬ x = 0 → Run d 127 24 [a0, a1, a2] [] M 0 0 Z) ∧ (¬ (¬ x = 0) → Run d 127 22 [a0, a1, a2] [] M 0 0 Z) := R_if (gd127 dX9_end_19) (show gTgt 19 5 = some 24 by decide) gIf_ne
theorem z127_22 : Run d 127 22 [a0, a1, a2] [] M 0 0 Z ↔ Run d 127 23 [a0, a1, a2] [.int 0] M 0 0 Z := R_iconst (gd127 dX9_end_22) (by decide)
theorem z127_23 : Run d 127 23 [a0, a1, a2] [.int x] M 0 0 Z ↔ (x = 0 ∨ x = 1) ∧ Z (some (.int x)) M := R_iretZ (gd127 dX9_end_23) rfl
theorem z127_24 : Run d 127 24 [some (.ref o), a1, a2] [] M 0 0 Z ↔ Run d 127 25 [some (.ref o), a1, a2] [.ref o] M 0 0 Z := R_local (gd127 dX9_end_24) rfl rfl rfl
theorem z127_25 : Run d 127 25 [a0, a1, a2] [.ref o] M 0 0 Z ↔ gObj M o 9 ∧ Run d 127 28 [a0, a1, a2] [va_rf (M.2.1 o 8)] M 0 0 Z := R_getR (gd127 dX9_end_25) rfl gf_9_23 rfl
theorem z127_28 : Run d 127 28 [a0, some (.int x), a2] [s0] M 0 0 Z ↔ Run d 127 29 [a0, some (.int x), a2] [.int x, s0] M 0 0 Z := R_local (gd127 dX9_end_28) rfl rfl rfl
theorem z127_29 : Run d 127 29 [a0, a1, some (.int x)] [s1, s0] M 0 0 Z ↔ Run d 127 30 [a0, a1, some (.int x)] [.int x, s1, s0] M 0 0 Z := R_local (gd127 dX9_end_29) rfl rfl rfl
theorem z127_30 : Run d 127 30 [a0, a1, a2] [.int y, .int x, .ref o] M 0 0 Z ↔ gAr M o 0 ∧ gIn x (gLen M o) = true ∧ Run d 127 31 [a0, a1, a2] [] (gsI M o x.toNatClampNeg y) 0 0 Z := R_iast (gd127 dX9_end_30)
theorem z127_31 : Run d 127 31 [a0, a1, a2] [] M 0 0 Z ↔ Run d 127 32 [a0, a1, a2] [.int 1] M 0 0 Z := R_iconst (gd127 dX9_end_31) (by decide)
theorem z127_32 : Run d 127 32 [a0, a1, a2] [.int x] M 0 0 Z ↔ (x = 0 ∨ x = 1) ∧ Z (some (.int x)) M := R_iretZ (gd127 dX9_end_32) rfl
theorem e127 : Call (d + 1) 127 [s0, s1, s2] M Z ↔ Run d 127 0 [some s0, some s1, some s2] [] M 0 0 Z := Call_iff (Nat.lt_of_lt_of_le (Nat.lt_succ_self 127) (Nat.le_of_ble_eq_true rfl)) (Nat.le_of_ble_eq_true rfl)
/-! 128: X9_push (I)V -/
theorem gd128 {pc : Nat} {r : Except _ _} (h : decode cX9_push pc = r) : decode (gby 128) pc = r := h
theorem z128_0 : Run d 128 0 [a0, a1, a2] [] M 0 0 Z ↔ Run d 128 2 [a0, a1, a2] [.int 24] M 0 0 Z := R_bipush (gd128 dX9_push_0) (by decide)
theorem z128_2 : Run d 128 2 [a0, a1, a2] [.int x] M 0 0 Z ↔ Run d 128 3 [a0, a1, some (.int x)] [] M 0 0 Z := R_local (gd128 dX9_push_2) rfl rfl rfl
theorem z128_3 : Run d 128 3 [a0, a1, some (.int x)] [] M 0 0 Z ↔ Run d 128 4 [a0, a1, some (.int x)] [.int x] M 0 0 Z := R_local (gd128 dX9_push_3) rfl rfl rfl
theorem z128_4 : Run d 128 4 [a0, a1, a2] [.int x] M 0 0 Z ↔ (x < 0 → Run d 128 36 [a0, a1, a2] [] M 0 0 Z) ∧ (¬ (x < 0) → Run d 128 7 [a0, a1, a2] [] M 0 0 Z) := R_if (gd128 dX9_push_4) (show gTgt 4 32 = some 36 by decide) gIf_lt
theorem z128_7 : Run d 128 7 [some (.ref o), a1, a2] [] M 0 0 Z ↔ Run d 128 8 [some (.ref o), a1, a2] [.ref o] M 0 0 Z := R_local (gd128 dX9_push_7) rfl rfl rfl
theorem z128_8 : Run d 128 8 [a0, a1, a2] [.ref o] M 0 0 Z ↔ gObj M o 9 ∧ Run d 128 11 [a0, a1, a2] [va_rf (M.2.1 o 0)] M 0 0 Z := R_getR (gd128 dX9_push_8) rfl gf_9_7 rfl
theorem z128_11 : Run d 128 11 [some (.ref o), a1, a2] [s0] M 0 0 Z ↔ Run d 128 12 [some (.ref o), a1, a2] [.ref o, s0] M 0 0 Z := R_local (gd128 dX9_push_11) rfl rfl rfl
theorem z128_12 : Run d 128 12 [a0, a1, a2] [.ref o, s0] M 0 0 Z ↔ gObj M o 9 ∧ Run d 128 15 [a0, a1, a2] [.int (M.1 o 1), s0] M 0 0 Z := R_getI (gd128 dX9_push_12) rfl gf_9_171 rfl
theorem z128_15 : Run d 128 15 [a0, some (.int x), a2] [s1, s0] M 0 0 Z ↔ Run d 128 16 [a0, some (.int x), a2] [.int x, s1, s0] M 0 0 Z := R_local (gd128 dX9_push_15) rfl rfl rfl
theorem z128_16 : Run d 128 16 [a0, a1, some (.int x)] [s2, s1, s0] M 0 0 Z ↔ Run d 128 17 [a0, a1, some (.int x)] [.int x, s2, s1, s0] M 0 0 Z := R_local (gd128 dX9_push_16) rfl rfl rfl
theorem z128_17 : Run d 128 17 [a0, a1, a2] [.int y, .int x, s1, s0] M 0 0 Z ↔ Run d 128 18 [a0, a1, a2] [.int (x >>> (y &&& 31)), s1, s0] M 0 0 Z := R_arith (gd128 dX9_push_17) rfl
theorem z128_18 : Run d 128 18 [a0, a1, a2] [.int x, s1, s0] M 0 0 Z ↔ Run d 128 19 [a0, a1, a2] [.int x.toInt8.toInt32, s1, s0] M 0 0 Z := R_arith (gd128 dX9_push_18) rfl
theorem z128_19 (hg : gAr M o 1) : Run d 128 19 [a0, a1, a2] [.int y, .int x, .ref o] M 0 0 Z ↔ gIn x (gLen M o) = true ∧ Run d 128 20 [a0, a1, a2] [] (gsI M o x.toNatClampNeg y.toInt8.toInt32) 0 0 Z := R_bast (gd128 dX9_push_19) hg
theorem z128_20 : Run d 128 20 [some (.ref o), a1, a2] [] M 0 0 Z ↔ Run d 128 21 [some (.ref o), a1, a2] [.ref o] M 0 0 Z := R_local (gd128 dX9_push_20) rfl rfl rfl
theorem z128_21 : Run d 128 21 [a0, a1, a2] [.ref o] M 0 0 Z ↔ Run d 128 22 [a0, a1, a2] [.ref o, .ref o] M 0 0 Z := R_arith (gd128 dX9_push_21) rfl
theorem z128_22 : Run d 128 22 [a0, a1, a2] [.ref o, s0] M 0 0 Z ↔ gObj M o 9 ∧ Run d 128 25 [a0, a1, a2] [.int (M.1 o 1), s0] M 0 0 Z := R_getI (gd128 dX9_push_22) rfl gf_9_171 rfl
theorem z128_25 : Run d 128 25 [a0, a1, a2] [s1, s0] M 0 0 Z ↔ Run d 128 26 [a0, a1, a2] [.int 1, s1, s0] M 0 0 Z := R_iconst (gd128 dX9_push_25) (by decide)
theorem z128_26 : Run d 128 26 [a0, a1, a2] [.int y, .int x, s0] M 0 0 Z ↔ Run d 128 27 [a0, a1, a2] [.int (x + y), s0] M 0 0 Z := R_arith (gd128 dX9_push_26) rfl
theorem z128_27 : Run d 128 27 [a0, a1, a2] [.int x, .ref o] M 0 0 Z ↔ gObj M o 9 ∧ Run d 128 30 [a0, a1, a2] [] (gsI M o 1 x) 0 0 Z := R_putI (gd128 dX9_push_27) rfl gf_9_171 (Or.inl rfl) rfl
theorem z128_30 : Run d 128 30 [a0, a1, some (.int x)] [] M 0 0 Z ↔ Run d 128 33 [a0, a1, some (.int (x + (-8)))] [] M 0 0 Z := R_iinc (gd128 dX9_push_30) (by decide) rfl rfl
theorem z128_33 : Run d 128 33 [a0, a1, a2] [] M 0 0 Z ↔ Run d 128 3 [a0, a1, a2] [] M 0 0 Z := R_goto (gd128 dX9_push_33) (show gTgt 33 (-30) = some 3 by decide)
theorem z128_36 : Run d 128 36 [a0, a1, a2] [] M 0 0 Z ↔ Z none M := R_vret (gd128 dX9_push_36) rfl
theorem e128 : Call (d + 1) 128 [s0, s1] M Z ↔ Run d 128 0 [some s0, some s1, none] [] M 0 0 Z := Call_iff (Nat.lt_of_lt_of_le (Nat.lt_succ_self 128) (Nat.le_of_ble_eq_true rfl)) (Nat.le_of_ble_eq_true rfl)
/-! 129: X9_feed (IIIII)I -/
theorem gd129 {pc : Nat} {r : Except _ _} (h : decode cX9_feed pc = r) : decode (gby 129) pc = r := h
theorem z129_0 : Run d 129 0 [some (.ref o), a1, a2, a3, a4, a5] [] M 0 0 Z ↔ Run d 129 1 [some (.ref o), a1, a2, a3, a4, a5] [.ref o] M 0 0 Z := R_local (gd129 dX9_feed_0) rfl rfl rfl
theorem z129_1 : Run d 129 1 [a0, a1, a2, a3, a4, a5] [.ref o] M 0 0 Z ↔ gObj M o 9 ∧ Run d 129 4 [a0, a1, a2, a3, a4, a5] [.int (M.1 o 1)] M 0 0 Z := R_getI (gd129 dX9_feed_1) rfl gf_9_171 rfl
theorem z129_4 : Run d 129 4 [a0, a1, a2, a3, a4, a5] [s0] M 0 0 Z ↔ Run d 129 6 [a0, a1, a2, a3, a4, a5] [.int 20, s0] M 0 0 Z := R_bipush (gd129 dX9_feed_4) (by decide)
theorem z129_6 : Run d 129 6 [a0, a1, a2, a3, a4, a5] [.int y, .int x] M 0 0 Z ↔ Run d 129 7 [a0, a1, a2, a3, a4, a5] [.int (x + y)] M 0 0 Z := R_arith (gd129 dX9_feed_6) rfl
theorem z129_7 : Run d 129 7 [a0, a1, a2, a3, a4, a5] [s0] M 0 0 Z ↔ Run d 129 9 [a0, a1, a2, a3, a4, a5] [.int 120, s0] M 0 0 Z := R_bipush (gd129 dX9_feed_7) (by decide)
theorem z129_9 : Run d 129 9 [a0, a1, a2, a3, a4, a5] [.int y, .int x] M 0 0 Z ↔ (x ≤ y → Run d 129 14 [a0, a1, a2, a3, a4, a5] [] M 0 0 Z) ∧ (¬ (x ≤ y) → Run d 129 12 [a0, a1, a2, a3, a4, a5] [] M 0 0 Z) := R_icmp (gd129 dX9_feed_9) (show gTgt 9 5 = some 14 by decide) gIf_le
theorem z129_12 : Run d 129 12 [a0, a1, a2, a3, a4, a5] [] M 0 0 Z ↔ Run d 129 13 [a0, a1, a2, a3, a4, a5] [.int (-1)] M 0 0 Z := R_iconst (gd129 dX9_feed_12) (by decide)
theorem z129_13 : Run d 129 13 [a0, a1, a2, a3, a4, a5] [.int x] M 0 0 Z ↔ Z (some (.int x)) M := R_iret (gd129 dX9_feed_13) rfl
theorem z129_14 : Run d 129 14 [some (.ref o), a1, a2, a3, a4, a5] [] M 0 0 Z ↔ Run d 129 15 [some (.ref o), a1, a2, a3, a4, a5] [.ref o] M 0 0 Z := R_local (gd129 dX9_feed_14) rfl rfl rfl
theorem z129_15 : Run d 129 15 [a0, some (.int x), a2, a3, a4, a5] [s0] M 0 0 Z ↔ Run d 129 16 [a0, some (.int x), a2, a3, a4, a5] [.int x, s0] M 0 0 Z := R_local (gd129 dX9_feed_15) rfl rfl rfl
theorem z129_16 : Run d 129 16 [a0, a1, a2, a3, a4, a5] [s1, .ref b] M 0 0 Z ↔ gObj M b 9 ∧ Call d 128 [.ref b, s1] M (fun r M1 => Run d 129 19 [a0, a1, a2, a3, a4, a5] (r.toList ++ []) M1 0 0 Z) := R_callV (gd129 dX9_feed_16) rfl rfl rfl rfl rfl rfl gc_9_174 rfl rfl (Nat.le_of_ble_eq_true rfl) (Nat.le_of_ble_eq_true rfl) rfl rfl (Nat.le_of_ble_eq_true rfl) (Nat.le_of_ble_eq_true rfl)
theorem z129_19 : Run d 129 19 [some (.ref o), a1, a2, a3, a4, a5] [] M 0 0 Z ↔ Run d 129 20 [some (.ref o), a1, a2, a3, a4, a5] [.ref o] M 0 0 Z := R_local (gd129 dX9_feed_19) rfl rfl rfl
theorem z129_20 : Run d 129 20 [a0, a1, some (.int x), a3, a4, a5] [s0] M 0 0 Z ↔ Run d 129 21 [a0, a1, some (.int x), a3, a4, a5] [.int x, s0] M 0 0 Z := R_local (gd129 dX9_feed_20) rfl rfl rfl
theorem z129_21 : Run d 129 21 [a0, a1, a2, a3, a4, a5] [s1, .ref b] M 0 0 Z ↔ gObj M b 9 ∧ Call d 128 [.ref b, s1] M (fun r M1 => Run d 129 24 [a0, a1, a2, a3, a4, a5] (r.toList ++ []) M1 0 0 Z) := R_callV (gd129 dX9_feed_21) rfl rfl rfl rfl rfl rfl gc_9_174 rfl rfl (Nat.le_of_ble_eq_true rfl) (Nat.le_of_ble_eq_true rfl) rfl rfl (Nat.le_of_ble_eq_true rfl) (Nat.le_of_ble_eq_true rfl)
theorem z129_24 : Run d 129 24 [some (.ref o), a1, a2, a3, a4, a5] [] M 0 0 Z ↔ Run d 129 25 [some (.ref o), a1, a2, a3, a4, a5] [.ref o] M 0 0 Z := R_local (gd129 dX9_feed_24) rfl rfl rfl
theorem z129_25 : Run d 129 25 [a0, a1, a2, some (.int x), a4, a5] [s0] M 0 0 Z ↔ Run d 129 26 [a0, a1, a2, some (.int x), a4, a5] [.int x, s0] M 0 0 Z := R_local (gd129 dX9_feed_25) rfl rfl rfl
theorem z129_26 : Run d 129 26 [a0, a1, a2, a3, a4, a5] [s1, .ref b] M 0 0 Z ↔ gObj M b 9 ∧ Call d 128 [.ref b, s1] M (fun r M1 => Run d 129 29 [a0, a1, a2, a3, a4, a5] (r.toList ++ []) M1 0 0 Z) := R_callV (gd129 dX9_feed_26) rfl rfl rfl rfl rfl rfl gc_9_174 rfl rfl (Nat.le_of_ble_eq_true rfl) (Nat.le_of_ble_eq_true rfl) rfl rfl (Nat.le_of_ble_eq_true rfl) (Nat.le_of_ble_eq_true rfl)
theorem z129_29 : Run d 129 29 [some (.ref o), a1, a2, a3, a4, a5] [] M 0 0 Z ↔ Run d 129 30 [some (.ref o), a1, a2, a3, a4, a5] [.ref o] M 0 0 Z := R_local (gd129 dX9_feed_29) rfl rfl rfl
theorem z129_30 : Run d 129 30 [a0, a1, a2, a3, some (.int x), a5] [s0] M 0 0 Z ↔ Run d 129 32 [a0, a1, a2, a3, some (.int x), a5] [.int x, s0] M 0 0 Z := R_local (gd129 dX9_feed_30) rfl rfl rfl
theorem z129_32 : Run d 129 32 [a0, a1, a2, a3, a4, a5] [s1, .ref b] M 0 0 Z ↔ gObj M b 9 ∧ Call d 128 [.ref b, s1] M (fun r M1 => Run d 129 35 [a0, a1, a2, a3, a4, a5] (r.toList ++ []) M1 0 0 Z) := R_callV (gd129 dX9_feed_32) rfl rfl rfl rfl rfl rfl gc_9_174 rfl rfl (Nat.le_of_ble_eq_true rfl) (Nat.le_of_ble_eq_true rfl) rfl rfl (Nat.le_of_ble_eq_true rfl) (Nat.le_of_ble_eq_true rfl)
theorem z129_35 : Run d 129 35 [some (.ref o), a1, a2, a3, a4, a5] [] M 0 0 Z ↔ Run d 129 36 [some (.ref o), a1, a2, a3, a4, a5] [.ref o] M 0 0 Z := R_local (gd129 dX9_feed_35) rfl rfl rfl
theorem z129_36 : Run d 129 36 [a0, a1, a2, a3, a4, some (.int x)] [s0] M 0 0 Z ↔ Run d 129 38 [a0, a1, a2, a3, a4, some (.int x)] [.int x, s0] M 0 0 Z := R_local (gd129 dX9_feed_36) rfl rfl rfl
theorem z129_38 : Run d 129 38 [a0, a1, a2, a3, a4, a5] [s1, .ref b] M 0 0 Z ↔ gObj M b 9 ∧ Call d 128 [.ref b, s1] M (fun r M1 => Run d 129 41 [a0, a1, a2, a3, a4, a5] (r.toList ++ []) M1 0 0 Z) := R_callV (gd129 dX9_feed_38) rfl rfl rfl rfl rfl rfl gc_9_174 rfl rfl (Nat.le_of_ble_eq_true rfl) (Nat.le_of_ble_eq_true rfl) rfl rfl (Nat.le_of_ble_eq_true rfl) (Nat.le_of_ble_eq_true rfl)
theorem z129_41 : Run d 129 41 [some (.ref o), a1, a2, a3, a4, a5] [] M 0 0 Z ↔ Run d 129 42 [some (.ref o), a1, a2, a3, a4, a5] [.ref o] M 0 0 Z := R_local (gd129 dX9_feed_41) rfl rfl rfl
theorem z129_42 : Run d 129 42 [a0, a1, a2, a3, a4, a5] [.ref o] M 0 0 Z ↔ gObj M o 9 ∧ Run d 129 45 [a0, a1, a2, a3, a4, a5] [.int (M.1 o 1)] M 0 0 Z := R_getI (gd129 dX9_feed_42) rfl gf_9_171 rfl
theorem z129_45 : Run d 129 45 [a0, a1, a2, a3, a4, a5] [.int x] M 0 0 Z ↔ Z (some (.int x)) M := R_iret (gd129 dX9_feed_45) rfl
theorem e129 : Call (d + 1) 129 [s0, s1, s2, s3, s4, s5] M Z ↔ Run d 129 0 [some s0, some s1, some s2, some s3, some s4, some s5] [] M 0 0 Z := Call_iff (Nat.lt_of_lt_of_le (Nat.lt_succ_self 129) (Nat.le_of_ble_eq_true rfl)) (Nat.le_of_ble_eq_true rfl)
/-! 130: X9_here ()I -/
theorem gd130 {pc : Nat} {r : Except _ _} (h : decode cX9_here pc = r) : decode (gby 130) pc = r := h
theorem z130_0 : Run d 130 0 [some (.ref o)] [] M 0 0 Z ↔ Run d 130 1 [some (.ref o)] [.ref o] M 0 0 Z := R_local (gd130 dX9_here_0) rfl rfl rfl
theorem z130_1 : Run d 130 1 [a0] [.ref o] M 0 0 Z ↔ gObj M o 9 ∧ Run d 130 4 [a0] [.int (M.1 o 13)] M 0 0 Z := R_getI (gd130 dX9_here_1) rfl gf_9_178 rfl
theorem z130_4 : Run d 130 4 [some (.ref o)] [s0] M 0 0 Z ↔ Run d 130 5 [some (.ref o)] [.ref o, s0] M 0 0 Z := R_local (gd130 dX9_here_4) rfl rfl rfl
theorem z130_5 : Run d 130 5 [a0] [.ref o, s0] M 0 0 Z ↔ gObj M o 9 ∧ Run d 130 8 [a0] [.int (M.1 o 14), s0] M 0 0 Z := R_getI (gd130 dX9_here_5) rfl gf_9_181 rfl
theorem z130_8 : Run d 130 8 [a0] [.int y, .int x] M 0 0 Z ↔ (y ≤ x → Run d 130 32 [a0] [] M 0 0 Z) ∧ (¬ (y ≤ x) → Run d 130 11 [a0] [] M 0 0 Z) := R_icmp (gd130 dX9_here_8) (show gTgt 8 24 = some 32 by decide) gIf_ge
theorem z130_11 : Run d 130 11 [some (.ref o)] [] M 0 0 Z ↔ Run d 130 12 [some (.ref o)] [.ref o] M 0 0 Z := R_local (gd130 dX9_here_11) rfl rfl rfl
theorem z130_12 : Run d 130 12 [a0] [.ref o] M 0 0 Z ↔ gObj M o 9 ∧ Run d 130 15 [a0] [va_rf (M.2.1 o 10)] M 0 0 Z := R_getR (gd130 dX9_here_12) rfl gf_9_29 rfl
theorem z130_15 : Run d 130 15 [some (.ref o)] [s0] M 0 0 Z ↔ Run d 130 16 [some (.ref o)] [.ref o, s0] M 0 0 Z := R_local (gd130 dX9_here_15) rfl rfl rfl
theorem z130_16 : Run d 130 16 [a0] [.ref o, s0] M 0 0 Z ↔ gObj M o 9 ∧ Run d 130 19 [a0] [.int (M.1 o 16), s0] M 0 0 Z := R_getI (gd130 dX9_here_16) rfl gf_9_184 rfl
theorem z130_19 : Run d 130 19 [some (.ref o)] [s1, s0] M 0 0 Z ↔ Run d 130 20 [some (.ref o)] [.ref o, s1, s0] M 0 0 Z := R_local (gd130 dX9_here_19) rfl rfl rfl
theorem z130_20 : Run d 130 20 [a0] [.ref o, s1, s0] M 0 0 Z ↔ gObj M o 9 ∧ Run d 130 23 [a0] [.int (M.1 o 13), s1, s0] M 0 0 Z := R_getI (gd130 dX9_here_20) rfl gf_9_178 rfl
theorem z130_23 : Run d 130 23 [a0] [.int y, .int x, s0] M 0 0 Z ↔ Run d 130 24 [a0] [.int (x + y), s0] M 0 0 Z := R_arith (gd130 dX9_here_23) rfl
theorem z130_24 (hg : gAr M o 1) : Run d 130 24 [a0] [.int x, .ref o] M 0 0 Z ↔ gIn x (gLen M o) = true ∧ Run d 130 25 [a0] [.int (M.1 o x.toNatClampNeg)] M 0 0 Z := R_bald (gd130 dX9_here_24) (by decide) hg
theorem z130_25 : Run d 130 25 [a0] [s0] M 0 0 Z ↔ Run d 130 28 [a0] [.int 255, s0] M 0 0 Z := R_sipush (gd130 dX9_here_25) (by decide)
theorem z130_28 : Run d 130 28 [a0] [.int y, .int x] M 0 0 Z ↔ Run d 130 29 [a0] [.int (x &&& y)] M 0 0 Z := R_arith (gd130 dX9_here_28) rfl
theorem z130_29 : Run d 130 29 [a0] [s0] M 0 0 Z ↔ Run d 130 33 [a0] [s0] M 0 0 Z := R_goto (gd130 dX9_here_29) (show gTgt 29 4 = some 33 by decide)
theorem z130_32 : Run d 130 32 [a0] [] M 0 0 Z ↔ Run d 130 33 [a0] [.int 0] M 0 0 Z := R_iconst (gd130 dX9_here_32) (by decide)
theorem z130_33 : Run d 130 33 [a0] [.int x] M 0 0 Z ↔ Z (some (.int x)) M := R_iret (gd130 dX9_here_33) rfl
theorem e130 : Call (d + 1) 130 [s0] M Z ↔ Run d 130 0 [some s0] [] M 0 0 Z := Call_iff (Nat.lt_of_lt_of_le (Nat.lt_succ_self 130) (Nat.le_of_ble_eq_true rfl)) (Nat.le_of_ble_eq_true rfl)
/-! 131: X9_fails (I)V -/
theorem gd131 {pc : Nat} {r : Except _ _} (h : decode cX9_fails pc = r) : decode (gby 131) pc = r := h
theorem z131_0 : Run d 131 0 [some (.ref o), a1] [] M 0 0 Z ↔ Run d 131 1 [some (.ref o), a1] [.ref o] M 0 0 Z := R_local (gd131 dX9_fails_0) rfl rfl rfl
theorem z131_1 : Run d 131 1 [some (.ref o), a1] [s0] M 0 0 Z ↔ Run d 131 2 [some (.ref o), a1] [.ref o, s0] M 0 0 Z := R_local (gd131 dX9_fails_1) rfl rfl rfl
theorem z131_2 : Run d 131 2 [a0, a1] [.ref o, s0] M 0 0 Z ↔ gObj M o 9 ∧ Run d 131 5 [a0, a1] [.int (M.1 o 15), s0] M 0 0 Z := R_getI (gd131 dX9_fails_2) rfl gf_9_187 rfl
theorem z131_5 : Run d 131 5 [a0, a1] [.int x, s0] M 0 0 Z ↔ (0 ≤ x → Run d 131 15 [a0, a1] [s0] M 0 0 Z) ∧ (¬ (0 ≤ x) → Run d 131 8 [a0, a1] [s0] M 0 0 Z) := R_if (gd131 dX9_fails_5) (show gTgt 5 10 = some 15 by decide) gIf_ge
theorem z131_8 : Run d 131 8 [some (.ref o), a1] [s0] M 0 0 Z ↔ Run d 131 9 [some (.ref o), a1] [.ref o, s0] M 0 0 Z := R_local (gd131 dX9_fails_8) rfl rfl rfl
theorem z131_9 : Run d 131 9 [a0, a1] [.ref o, s0] M 0 0 Z ↔ gObj M o 9 ∧ Run d 131 12 [a0, a1] [.int (M.1 o 15), s0] M 0 0 Z := R_getI (gd131 dX9_fails_9) rfl gf_9_187 rfl
theorem z131_12 : Run d 131 12 [a0, a1] [s1, s0] M 0 0 Z ↔ Run d 131 25 [a0, a1] [s1, s0] M 0 0 Z := R_goto (gd131 dX9_fails_12) (show gTgt 12 13 = some 25 by decide)
theorem z131_15 : Run d 131 15 [a0, a1] [s0] M 0 0 Z ↔ Run d 131 18 [a0, a1] [.int (-1000), s0] M 0 0 Z := R_sipush (gd131 dX9_fails_15) (by decide)
theorem z131_18 : Run d 131 18 [a0, some (.int x)] [s1, s0] M 0 0 Z ↔ Run d 131 19 [a0, some (.int x)] [.int x, s1, s0] M 0 0 Z := R_local (gd131 dX9_fails_18) rfl rfl rfl
theorem z131_19 : Run d 131 19 [a0, a1] [.int y, .int x, s0] M 0 0 Z ↔ Run d 131 20 [a0, a1] [.int (x * y), s0] M 0 0 Z := R_arith (gd131 dX9_fails_19) rfl
theorem z131_20 : Run d 131 20 [some (.ref o), a1] [s1, s0] M 0 0 Z ↔ Run d 131 21 [some (.ref o), a1] [.ref o, s1, s0] M 0 0 Z := R_local (gd131 dX9_fails_20) rfl rfl rfl
theorem z131_21 : Run d 131 21 [a0, a1] [.ref o, s1, s0] M 0 0 Z ↔ gObj M o 9 ∧ Run d 131 24 [a0, a1] [.int (M.1 o 13), s1, s0] M 0 0 Z := R_getI (gd131 dX9_fails_21) rfl gf_9_178 rfl
theorem z131_24 : Run d 131 24 [a0, a1] [.int y, .int x, s0] M 0 0 Z ↔ Run d 131 25 [a0, a1] [.int (x - y), s0] M 0 0 Z := R_arith (gd131 dX9_fails_24) rfl
theorem z131_25 : Run d 131 25 [a0, a1] [.int x, .ref o] M 0 0 Z ↔ gObj M o 9 ∧ Run d 131 28 [a0, a1] [] (gsI M o 15 x) 0 0 Z := R_putI (gd131 dX9_fails_25) rfl gf_9_187 (Or.inl rfl) rfl
theorem z131_28 : Run d 131 28 [a0, a1] [] M 0 0 Z ↔ Z none M := R_vret (gd131 dX9_fails_28) rfl
theorem e131 : Call (d + 1) 131 [s0, s1] M Z ↔ Run d 131 0 [some s0, some s1] [] M 0 0 Z := Call_iff (Nat.lt_of_lt_of_le (Nat.lt_succ_self 131) (Nat.le_of_ble_eq_true rfl)) (Nat.le_of_ble_eq_true rfl)
/-! 132: X9_isDigit (I)Z -/
theorem gd132 {pc : Nat} {r : Except _ _} (h : decode cX9_isDigit pc = r) : decode (gby 132) pc = r := h
theorem z132_0 : Run d 132 0 [some (.int x)] [] M 0 0 Z ↔ Run d 132 1 [some (.int x)] [.int x] M 0 0 Z := R_local (gd132 dX9_isDigit_0) rfl rfl rfl
theorem z132_1 : Run d 132 1 [a0] [s0] M 0 0 Z ↔ Run d 132 3 [a0] [.int 48, s0] M 0 0 Z := R_bipush (gd132 dX9_isDigit_1) (by decide)
theorem z132_3 : Run d 132 3 [a0] [.int y, .int x] M 0 0 Z ↔ (x < y → Run d 132 16 [a0] [] M 0 0 Z) ∧ (¬ (x < y) → Run d 132 6 [a0] [] M 0 0 Z) := R_icmp (gd132 dX9_isDigit_3) (show gTgt 3 13 = some 16 by decide) gIf_lt
theorem z132_6 : Run d 132 6 [some (.int x)] [] M 0 0 Z ↔ Run d 132 7 [some (.int x)] [.int x] M 0 0 Z := R_local (gd132 dX9_isDigit_6) rfl rfl rfl
theorem z132_7 : Run d 132 7 [a0] [s0] M 0 0 Z ↔ Run d 132 9 [a0] [.int 57, s0] M 0 0 Z := R_bipush (gd132 dX9_isDigit_7) (by decide)
theorem z132_9 : Run d 132 9 [a0] [.int y, .int x] M 0 0 Z ↔ (y < x → Run d 132 16 [a0] [] M 0 0 Z) ∧ (¬ (y < x) → Run d 132 12 [a0] [] M 0 0 Z) := R_icmp (gd132 dX9_isDigit_9) (show gTgt 9 7 = some 16 by decide) gIf_gt
theorem z132_12 : Run d 132 12 [a0] [] M 0 0 Z ↔ Run d 132 13 [a0] [.int 1] M 0 0 Z := R_iconst (gd132 dX9_isDigit_12) (by decide)
theorem z132_13 : Run d 132 13 [a0] [s0] M 0 0 Z ↔ Run d 132 17 [a0] [s0] M 0 0 Z := R_goto (gd132 dX9_isDigit_13) (show gTgt 13 4 = some 17 by decide)
theorem z132_16 : Run d 132 16 [a0] [] M 0 0 Z ↔ Run d 132 17 [a0] [.int 0] M 0 0 Z := R_iconst (gd132 dX9_isDigit_16) (by decide)
theorem z132_17 : Run d 132 17 [a0] [.int x] M 0 0 Z ↔ (x = 0 ∨ x = 1) ∧ Z (some (.int x)) M := R_iretZ (gd132 dX9_isDigit_17) rfl
theorem e132 : Call (d + 1) 132 [s0] M Z ↔ Run d 132 0 [some s0] [] M 0 0 Z := Call_iff (Nat.lt_of_lt_of_le (Nat.lt_succ_self 132) (Nat.le_of_ble_eq_true rfl)) (Nat.le_of_ble_eq_true rfl)
end
