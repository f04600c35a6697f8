/-! Rules of the methods, an instruction each, by program (wip/whole/rows.py). -/
theorem dX9_opens_0 : decode cX9_opens 0 = .ok (.aload_n 0, 1) := by decide +kernel
theorem dX9_opens_1 : decode cX9_opens 1 = .ok (.getfield 252, 3) := by decide +kernel
theorem dX9_opens_4 : decode cX9_opens 4 = .ok (.ifCond .eq 7, 3) := by decide +kernel
theorem dX9_opens_7 : decode cX9_opens 7 = .ok (.iconst 5, 1) := by decide +kernel
theorem dX9_opens_8 : decode cX9_opens 8 = .ok (.goto 15, 3) := by decide +kernel
theorem dX9_opens_11 : decode cX9_opens 11 = .ok (.iload_n 1, 1) := by decide +kernel
theorem dX9_opens_12 : decode cX9_opens 12 = .ok (.invokestatic 269, 3) := by decide +kernel
theorem dX9_opens_15 : decode cX9_opens 15 = .ok (.ifCond .ne 7, 3) := by decide +kernel
theorem dX9_opens_18 : decode cX9_opens 18 = .ok (.iconst 4, 1) := by decide +kernel
theorem dX9_opens_19 : decode cX9_opens 19 = .ok (.goto 4, 3) := by decide +kernel
theorem dX9_opens_22 : decode cX9_opens 22 = .ok (.iconst 0, 1) := by decide +kernel
theorem dX9_opens_23 : decode cX9_opens 23 = .ok (.istore_n 2, 1) := by decide +kernel
theorem dX9_opens_24 : decode cX9_opens 24 = .ok (.aload_n 0, 1) := by decide +kernel
theorem dX9_opens_25 : decode cX9_opens 25 = .ok (.dup, 1) := by decide +kernel
theorem dX9_opens_26 : decode cX9_opens 26 = .ok (.getfield 178, 3) := by decide +kernel
theorem dX9_opens_29 : decode cX9_opens 29 = .ok (.iconst 1, 1) := by decide +kernel
theorem dX9_opens_30 : decode cX9_opens 30 = .ok (.iadd, 1) := by decide +kernel
theorem dX9_opens_31 : decode cX9_opens 31 = .ok (.putfield 178, 3) := by decide +kernel
theorem dX9_opens_34 : decode cX9_opens 34 = .ok (.iload_n 2, 1) := by decide +kernel
theorem dX9_opens_35 : decode cX9_opens 35 = .ok (.ifCond .le 11, 3) := by decide +kernel
theorem dX9_opens_38 : decode cX9_opens 38 = .ok (.aload_n 0, 1) := by decide +kernel
theorem dX9_opens_39 : decode cX9_opens 39 = .ok (.iload_n 2, 1) := by decide +kernel
theorem dX9_opens_40 : decode cX9_opens 40 = .ok (.invokevirtual 275, 3) := by decide +kernel
theorem dX9_opens_43 : decode cX9_opens 43 = .ok (.goto 47, 3) := by decide +kernel
theorem dX9_opens_46 : decode cX9_opens 46 = .ok (.iload_n 1, 1) := by decide +kernel
theorem dX9_opens_47 : decode cX9_opens 47 = .ok (.ifCond .ne 10, 3) := by decide +kernel
theorem dX9_opens_50 : decode cX9_opens 50 = .ok (.aload_n 0, 1) := by decide +kernel
theorem dX9_opens_51 : decode cX9_opens 51 = .ok (.invokevirtual 288, 3) := by decide +kernel
theorem dX9_opens_54 : decode cX9_opens 54 = .ok (.goto 36, 3) := by decide +kernel
theorem dX9_opens_57 : decode cX9_opens 57 = .ok (.aload_n 0, 1) := by decide +kernel
theorem dX9_opens_58 : decode cX9_opens 58 = .ok (.getfield 98, 3) := by decide +kernel
theorem dX9_opens_61 : decode cX9_opens 61 = .ok (.aload_n 0, 1) := by decide +kernel
theorem dX9_opens_62 : decode cX9_opens 62 = .ok (.getfield 291, 3) := by decide +kernel
theorem dX9_opens_65 : decode cX9_opens 65 = .ok (.aload_n 0, 1) := by decide +kernel
theorem dX9_opens_66 : decode cX9_opens 66 = .ok (.getfield 178, 3) := by decide +kernel
theorem dX9_opens_69 : decode cX9_opens 69 = .ok (.iastore, 1) := by decide +kernel
theorem dX9_opens_70 : decode cX9_opens 70 = .ok (.aload_n 0, 1) := by decide +kernel
theorem dX9_opens_71 : decode cX9_opens 71 = .ok (.getfield 101, 3) := by decide +kernel
theorem dX9_opens_74 : decode cX9_opens 74 = .ok (.aload_n 0, 1) := by decide +kernel
theorem dX9_opens_75 : decode cX9_opens 75 = .ok (.getfield 291, 3) := by decide +kernel
theorem dX9_opens_78 : decode cX9_opens 78 = .ok (.iload_n 1, 1) := by decide +kernel
theorem dX9_opens_79 : decode cX9_opens 79 = .ok (.iastore, 1) := by decide +kernel
theorem dX9_opens_80 : decode cX9_opens 80 = .ok (.aload_n 0, 1) := by decide +kernel
theorem dX9_opens_81 : decode cX9_opens 81 = .ok (.dup, 1) := by decide +kernel
theorem dX9_opens_82 : decode cX9_opens 82 = .ok (.getfield 291, 3) := by decide +kernel
theorem dX9_opens_85 : decode cX9_opens 85 = .ok (.iconst 1, 1) := by decide +kernel
theorem dX9_opens_86 : decode cX9_opens 86 = .ok (.iadd, 1) := by decide +kernel
theorem dX9_opens_87 : decode cX9_opens 87 = .ok (.putfield 291, 3) := by decide +kernel
theorem dX9_opens_90 : decode cX9_opens 90 = .ok (.return_, 1) := by decide +kernel
theorem dX9_step_0 : decode cX9_step 0 = .ok (.aload_n 0, 1) := by decide +kernel
theorem dX9_step_1 : decode cX9_step 1 = .ok (.invokevirtual 196, 3) := by decide +kernel
theorem dX9_step_4 : decode cX9_step 4 = .ok (.istore_n 1, 1) := by decide +kernel
theorem dX9_step_5 : decode cX9_step 5 = .ok (.aload_n 0, 1) := by decide +kernel
theorem dX9_step_6 : decode cX9_step 6 = .ok (.dup, 1) := by decide +kernel
theorem dX9_step_7 : decode cX9_step 7 = .ok (.getfield 178, 3) := by decide +kernel
theorem dX9_step_10 : decode cX9_step 10 = .ok (.iconst 1, 1) := by decide +kernel
theorem dX9_step_11 : decode cX9_step 11 = .ok (.iadd, 1) := by decide +kernel
theorem dX9_step_12 : decode cX9_step 12 = .ok (.putfield 178, 3) := by decide +kernel
theorem dX9_step_15 : decode cX9_step 15 = .ok (.aload_n 0, 1) := by decide +kernel
theorem dX9_step_16 : decode cX9_step 16 = .ok (.iconst 0, 1) := by decide +kernel
theorem dX9_step_17 : decode cX9_step 17 = .ok (.putfield 252, 3) := by decide +kernel
theorem dX9_step_20 : decode cX9_step 20 = .ok (.iload_n 1, 1) := by decide +kernel
theorem dX9_step_21 : decode cX9_step 21 = .ok (.invokestatic 190, 3) := by decide +kernel
theorem dX9_step_24 : decode cX9_step 24 = .ok (.ifCond .eq 13, 3) := by decide +kernel
theorem dX9_step_27 : decode cX9_step 27 = .ok (.aload_n 0, 1) := by decide +kernel
theorem dX9_step_28 : decode cX9_step 28 = .ok (.dup, 1) := by decide +kernel
theorem dX9_step_29 : decode cX9_step 29 = .ok (.getfield 178, 3) := by decide +kernel
theorem dX9_step_32 : decode cX9_step 32 = .ok (.iconst 1, 1) := by decide +kernel
theorem dX9_step_33 : decode cX9_step 33 = .ok (.iadd, 1) := by decide +kernel
theorem dX9_step_34 : decode cX9_step 34 = .ok (.putfield 178, 3) := by decide +kernel
theorem dX9_step_37 : decode cX9_step 37 = .ok (.iload_n 1, 1) := by decide +kernel
theorem dX9_step_38 : decode cX9_step 38 = .ok (.invokestatic 215, 3) := by decide +kernel
theorem dX9_step_41 : decode cX9_step 41 = .ok (.ifCond .eq 7, 3) := by decide +kernel
theorem dX9_step_44 : decode cX9_step 44 = .ok (.iconst 0, 1) := by decide +kernel
theorem dX9_step_45 : decode cX9_step 45 = .ok (.goto 7, 3) := by decide +kernel
theorem dX9_step_48 : decode cX9_step 48 = .ok (.aload_n 0, 1) := by decide +kernel
theorem dX9_step_49 : decode cX9_step 49 = .ok (.invokevirtual 294, 3) := by decide +kernel
theorem dX9_step_52 : decode cX9_step 52 = .ok (.istore_n 2, 1) := by decide +kernel
theorem dX9_step_53 : decode cX9_step 53 = .ok (.iload_n 1, 1) := by decide +kernel
theorem dX9_step_54 : decode cX9_step 54 = .ok (.tableswitch 254 91 119 #[246, 254, 254, 254, 254, 254, 254, 254, 254, 160, 254, 223, 254, 186, 254, 254, 254, 254, 254, 254, 254, 138, 254, 201, 179, 194, 160, 254, 130], 130) := by decide +kernel
theorem dX9_step_184 : decode cX9_step 184 = .ok (.aload_n 0, 1) := by decide +kernel
theorem dX9_step_185 : decode cX9_step 185 = .ok (.iload_n 2, 1) := by decide +kernel
theorem dX9_step_186 : decode cX9_step 186 = .ok (.invokevirtual 297, 3) := by decide +kernel
theorem dX9_step_189 : decode cX9_step 189 = .ok (.goto 144, 3) := by decide +kernel
theorem dX9_step_192 : decode cX9_step 192 = .ok (.aload_n 0, 1) := by decide +kernel
theorem dX9_step_193 : decode cX9_step 193 = .ok (.dup, 1) := by decide +kernel
theorem dX9_step_194 : decode cX9_step 194 = .ok (.getfield 178, 3) := by decide +kernel
theorem dX9_step_197 : decode cX9_step 197 = .ok (.iconst 1, 1) := by decide +kernel
theorem dX9_step_198 : decode cX9_step 198 = .ok (.iadd, 1) := by decide +kernel
theorem dX9_step_199 : decode cX9_step 199 = .ok (.putfield 178, 3) := by decide +kernel
theorem dX9_step_202 : decode cX9_step 202 = .ok (.aload_n 0, 1) := by decide +kernel
theorem dX9_step_203 : decode cX9_step 203 = .ok (.iload_n 2, 1) := by decide +kernel
theorem dX9_step_204 : decode cX9_step 204 = .ok (.aload_n 0, 1) := by decide +kernel
theorem dX9_step_205 : decode cX9_step 205 = .ok (.invokevirtual 294, 3) := by decide +kernel
theorem dX9_step_208 : decode cX9_step 208 = .ok (.invokevirtual 300, 3) := by decide +kernel
theorem dX9_step_211 : decode cX9_step 211 = .ok (.goto 122, 3) := by decide +kernel
theorem dX9_step_214 : decode cX9_step 214 = .ok (.aload_n 0, 1) := by decide +kernel
theorem dX9_step_215 : decode cX9_step 215 = .ok (.iload_n 2, 1) := by decide +kernel
theorem dX9_step_216 : decode cX9_step 216 = .ok (.iload_n 1, 1) := by decide +kernel
theorem dX9_step_217 : decode cX9_step 217 = .ok (.bipush 117, 2) := by decide +kernel
theorem dX9_step_219 : decode cX9_step 219 = .ok (.if_icmp .ne 7, 3) := by decide +kernel
theorem dX9_step_222 : decode cX9_step 222 = .ok (.iconst 1, 1) := by decide +kernel
theorem dX9_step_223 : decode cX9_step 223 = .ok (.goto 4, 3) := by decide +kernel
theorem dX9_step_226 : decode cX9_step 226 = .ok (.iconst 0, 1) := by decide +kernel
theorem dX9_step_227 : decode cX9_step 227 = .ok (.invokevirtual 304, 3) := by decide +kernel
theorem dX9_step_230 : decode cX9_step 230 = .ok (.goto 103, 3) := by decide +kernel
theorem dX9_step_233 : decode cX9_step 233 = .ok (.aload_n 0, 1) := by decide +kernel
theorem dX9_step_234 : decode cX9_step 234 = .ok (.invokevirtual 308, 3) := by decide +kernel
theorem dX9_step_237 : decode cX9_step 237 = .ok (.goto 96, 3) := by decide +kernel
theorem dX9_step_240 : decode cX9_step 240 = .ok (.aload_n 0, 1) := by decide +kernel
theorem dX9_step_241 : decode cX9_step 241 = .ok (.iload_n 2, 1) := by decide +kernel
theorem dX9_step_242 : decode cX9_step 242 = .ok (.invokevirtual 311, 3) := by decide +kernel
theorem dX9_step_245 : decode cX9_step 245 = .ok (.goto 88, 3) := by decide +kernel
theorem dX9_step_248 : decode cX9_step 248 = .ok (.aload_n 0, 1) := by decide +kernel
theorem dX9_step_249 : decode cX9_step 249 = .ok (.invokevirtual 314, 3) := by decide +kernel
theorem dX9_step_252 : decode cX9_step 252 = .ok (.goto 81, 3) := by decide +kernel
theorem dX9_step_255 : decode cX9_step 255 = .ok (.aload_n 0, 1) := by decide +kernel
theorem dX9_step_256 : decode cX9_step 256 = .ok (.getfield 77, 3) := by decide +kernel
theorem dX9_step_259 : decode cX9_step 259 = .ok (.aload_n 0, 1) := by decide +kernel
theorem dX9_step_260 : decode cX9_step 260 = .ok (.getfield 233, 3) := by decide +kernel
theorem dX9_step_263 : decode cX9_step 263 = .ok (.aload_n 0, 1) := by decide +kernel
theorem dX9_step_264 : decode cX9_step 264 = .ok (.getfield 77, 3) := by decide +kernel
theorem dX9_step_267 : decode cX9_step 267 = .ok (.aload_n 0, 1) := by decide +kernel
theorem dX9_step_268 : decode cX9_step 268 = .ok (.getfield 233, 3) := by decide +kernel
theorem dX9_step_271 : decode cX9_step 271 = .ok (.iaload, 1) := by decide +kernel
theorem dX9_step_272 : decode cX9_step 272 = .ok (.ineg, 1) := by decide +kernel
theorem dX9_step_273 : decode cX9_step 273 = .ok (.iastore, 1) := by decide +kernel
theorem dX9_step_274 : decode cX9_step 274 = .ok (.goto 59, 3) := by decide +kernel
theorem dX9_step_277 : decode cX9_step 277 = .ok (.aload_n 0, 1) := by decide +kernel
theorem dX9_step_278 : decode cX9_step 278 = .ok (.getfield 80, 3) := by decide +kernel
theorem dX9_step_281 : decode cX9_step 281 = .ok (.aload_n 0, 1) := by decide +kernel
theorem dX9_step_282 : decode cX9_step 282 = .ok (.getfield 233, 3) := by decide +kernel
theorem dX9_step_285 : decode cX9_step 285 = .ok (.iconst 1, 1) := by decide +kernel
theorem dX9_step_286 : decode cX9_step 286 = .ok (.aload_n 0, 1) := by decide +kernel
theorem dX9_step_287 : decode cX9_step 287 = .ok (.getfield 80, 3) := by decide +kernel
theorem dX9_step_290 : decode cX9_step 290 = .ok (.aload_n 0, 1) := by decide +kernel
theorem dX9_step_291 : decode cX9_step 291 = .ok (.getfield 233, 3) := by decide +kernel
theorem dX9_step_294 : decode cX9_step 294 = .ok (.iaload, 1) := by decide +kernel
theorem dX9_step_295 : decode cX9_step 295 = .ok (.isub, 1) := by decide +kernel
theorem dX9_step_296 : decode cX9_step 296 = .ok (.iastore, 1) := by decide +kernel
theorem dX9_step_297 : decode cX9_step 297 = .ok (.goto 36, 3) := by decide +kernel
theorem dX9_step_300 : decode cX9_step 300 = .ok (.aload_n 0, 1) := by decide +kernel
theorem dX9_step_301 : decode cX9_step 301 = .ok (.iload_n 2, 1) := by decide +kernel
theorem dX9_step_302 : decode cX9_step 302 = .ok (.invokevirtual 317, 3) := by decide +kernel
theorem dX9_step_305 : decode cX9_step 305 = .ok (.goto 28, 3) := by decide +kernel
theorem dX9_step_308 : decode cX9_step 308 = .ok (.aload_n 0, 1) := by decide +kernel
theorem dX9_step_309 : decode cX9_step 309 = .ok (.getfield 252, 3) := by decide +kernel
theorem dX9_step_312 : decode cX9_step 312 = .ok (.ifCond .eq 11, 3) := by decide +kernel
theorem dX9_step_315 : decode cX9_step 315 = .ok (.aload_n 0, 1) := by decide +kernel
theorem dX9_step_316 : decode cX9_step 316 = .ok (.iconst 5, 1) := by decide +kernel
theorem dX9_step_317 : decode cX9_step 317 = .ok (.invokevirtual 275, 3) := by decide +kernel
theorem dX9_step_320 : decode cX9_step 320 = .ok (.goto 13, 3) := by decide +kernel
theorem dX9_step_323 : decode cX9_step 323 = .ok (.aload_n 0, 1) := by decide +kernel
theorem dX9_step_324 : decode cX9_step 324 = .ok (.getfield 95, 3) := by decide +kernel
theorem dX9_step_327 : decode cX9_step 327 = .ok (.iload_n 1, 1) := by decide +kernel
theorem dX9_step_328 : decode cX9_step 328 = .ok (.bipush 120, 2) := by decide +kernel
theorem dX9_step_330 : decode cX9_step 330 = .ok (.isub, 1) := by decide +kernel
theorem dX9_step_331 : decode cX9_step 331 = .ok (.iload_n 2, 1) := by decide +kernel
theorem dX9_step_332 : decode cX9_step 332 = .ok (.iastore, 1) := by decide +kernel
theorem dX9_step_333 : decode cX9_step 333 = .ok (.return_, 1) := by decide +kernel
theorem dX9_goesOn_0 : decode cX9_goesOn 0 = .ok (.aload_n 0, 1) := by decide +kernel
theorem dX9_goesOn_1 : decode cX9_goesOn 1 = .ok (.getfield 178, 3) := by decide +kernel
theorem dX9_goesOn_4 : decode cX9_goesOn 4 = .ok (.aload_n 0, 1) := by decide +kernel
theorem dX9_goesOn_5 : decode cX9_goesOn 5 = .ok (.getfield 181, 3) := by decide +kernel
theorem dX9_goesOn_8 : decode cX9_goesOn 8 = .ok (.if_icmp .ge 80, 3) := by decide +kernel
theorem dX9_goesOn_11 : decode cX9_goesOn 11 = .ok (.aload_n 0, 1) := by decide +kernel
theorem dX9_goesOn_12 : decode cX9_goesOn 12 = .ok (.invokevirtual 196, 3) := by decide +kernel
theorem dX9_goesOn_15 : decode cX9_goesOn 15 = .ok (.bipush 93, 2) := by decide +kernel
theorem dX9_goesOn_17 : decode cX9_goesOn 17 = .ok (.if_icmp .ne 71, 3) := by decide +kernel
theorem dX9_goesOn_20 : decode cX9_goesOn 20 = .ok (.aload_n 0, 1) := by decide +kernel
theorem dX9_goesOn_21 : decode cX9_goesOn 21 = .ok (.getfield 101, 3) := by decide +kernel
theorem dX9_goesOn_24 : decode cX9_goesOn 24 = .ok (.aload_n 0, 1) := by decide +kernel
theorem dX9_goesOn_25 : decode cX9_goesOn 25 = .ok (.getfield 291, 3) := by decide +kernel
theorem dX9_goesOn_28 : decode cX9_goesOn 28 = .ok (.iconst 1, 1) := by decide +kernel
theorem dX9_goesOn_29 : decode cX9_goesOn 29 = .ok (.isub, 1) := by decide +kernel
theorem dX9_goesOn_30 : decode cX9_goesOn 30 = .ok (.dup2, 1) := by decide +kernel
theorem dX9_goesOn_31 : decode cX9_goesOn 31 = .ok (.iaload, 1) := by decide +kernel
theorem dX9_goesOn_32 : decode cX9_goesOn 32 = .ok (.iconst 1, 1) := by decide +kernel
theorem dX9_goesOn_33 : decode cX9_goesOn 33 = .ok (.isub, 1) := by decide +kernel
theorem dX9_goesOn_34 : decode cX9_goesOn 34 = .ok (.iastore, 1) := by decide +kernel
theorem dX9_goesOn_35 : decode cX9_goesOn 35 = .ok (.aload_n 0, 1) := by decide +kernel
theorem dX9_goesOn_36 : decode cX9_goesOn 36 = .ok (.getfield 101, 3) := by decide +kernel
theorem dX9_goesOn_39 : decode cX9_goesOn 39 = .ok (.aload_n 0, 1) := by decide +kernel
theorem dX9_goesOn_40 : decode cX9_goesOn 40 = .ok (.getfield 291, 3) := by decide +kernel
theorem dX9_goesOn_43 : decode cX9_goesOn 43 = .ok (.iconst 1, 1) := by decide +kernel
theorem dX9_goesOn_44 : decode cX9_goesOn 44 = .ok (.isub, 1) := by decide +kernel
theorem dX9_goesOn_45 : decode cX9_goesOn 45 = .ok (.iaload, 1) := by decide +kernel
theorem dX9_goesOn_46 : decode cX9_goesOn 46 = .ok (.ifCond .le 19, 3) := by decide +kernel
theorem dX9_goesOn_49 : decode cX9_goesOn 49 = .ok (.aload_n 0, 1) := by decide +kernel
theorem dX9_goesOn_50 : decode cX9_goesOn 50 = .ok (.aload_n 0, 1) := by decide +kernel
theorem dX9_goesOn_51 : decode cX9_goesOn 51 = .ok (.getfield 98, 3) := by decide +kernel
theorem dX9_goesOn_54 : decode cX9_goesOn 54 = .ok (.aload_n 0, 1) := by decide +kernel
theorem dX9_goesOn_55 : decode cX9_goesOn 55 = .ok (.getfield 291, 3) := by decide +kernel
theorem dX9_goesOn_58 : decode cX9_goesOn 58 = .ok (.iconst 1, 1) := by decide +kernel
theorem dX9_goesOn_59 : decode cX9_goesOn 59 = .ok (.isub, 1) := by decide +kernel
theorem dX9_goesOn_60 : decode cX9_goesOn 60 = .ok (.iaload, 1) := by decide +kernel
theorem dX9_goesOn_61 : decode cX9_goesOn 61 = .ok (.putfield 178, 3) := by decide +kernel
theorem dX9_goesOn_64 : decode cX9_goesOn 64 = .ok (.return_, 1) := by decide +kernel
theorem dX9_goesOn_65 : decode cX9_goesOn 65 = .ok (.aload_n 0, 1) := by decide +kernel
theorem dX9_goesOn_66 : decode cX9_goesOn 66 = .ok (.dup, 1) := by decide +kernel
theorem dX9_goesOn_67 : decode cX9_goesOn 67 = .ok (.getfield 291, 3) := by decide +kernel
theorem dX9_goesOn_70 : decode cX9_goesOn 70 = .ok (.iconst 1, 1) := by decide +kernel
theorem dX9_goesOn_71 : decode cX9_goesOn 71 = .ok (.isub, 1) := by decide +kernel
theorem dX9_goesOn_72 : decode cX9_goesOn 72 = .ok (.putfield 291, 3) := by decide +kernel
theorem dX9_goesOn_75 : decode cX9_goesOn 75 = .ok (.aload_n 0, 1) := by decide +kernel
theorem dX9_goesOn_76 : decode cX9_goesOn 76 = .ok (.dup, 1) := by decide +kernel
theorem dX9_goesOn_77 : decode cX9_goesOn 77 = .ok (.getfield 178, 3) := by decide +kernel
theorem dX9_goesOn_80 : decode cX9_goesOn 80 = .ok (.iconst 1, 1) := by decide +kernel
theorem dX9_goesOn_81 : decode cX9_goesOn 81 = .ok (.iadd, 1) := by decide +kernel
theorem dX9_goesOn_82 : decode cX9_goesOn 82 = .ok (.putfield 178, 3) := by decide +kernel
theorem dX9_goesOn_85 : decode cX9_goesOn 85 = .ok (.goto (-85), 3) := by decide +kernel
theorem dX9_goesOn_88 : decode cX9_goesOn 88 = .ok (.aload_n 0, 1) := by decide +kernel
theorem dX9_goesOn_89 : decode cX9_goesOn 89 = .ok (.invokevirtual 196, 3) := by decide +kernel
theorem dX9_goesOn_92 : decode cX9_goesOn 92 = .ok (.bipush 59, 2) := by decide +kernel
theorem dX9_goesOn_94 : decode cX9_goesOn 94 = .ok (.if_icmp .ne 13, 3) := by decide +kernel
theorem dX9_goesOn_97 : decode cX9_goesOn 97 = .ok (.aload_n 0, 1) := by decide +kernel
theorem dX9_goesOn_98 : decode cX9_goesOn 98 = .ok (.dup, 1) := by decide +kernel
theorem dX9_goesOn_99 : decode cX9_goesOn 99 = .ok (.getfield 178, 3) := by decide +kernel
theorem dX9_goesOn_102 : decode cX9_goesOn 102 = .ok (.iconst 1, 1) := by decide +kernel
theorem dX9_goesOn_103 : decode cX9_goesOn 103 = .ok (.iadd, 1) := by decide +kernel
theorem dX9_goesOn_104 : decode cX9_goesOn 104 = .ok (.putfield 178, 3) := by decide +kernel
theorem dX9_goesOn_107 : decode cX9_goesOn 107 = .ok (.return_, 1) := by decide +kernel
theorem dX9_drapes_0 : decode cX9_drapes 0 = .ok (.aload_n 0, 1) := by decide +kernel
theorem dX9_drapes_1 : decode cX9_drapes 1 = .ok (.iload 6, 2) := by decide +kernel
theorem dX9_drapes_3 : decode cX9_drapes 3 = .ok (.putfield 233, 3) := by decide +kernel
theorem dX9_drapes_6 : decode cX9_drapes 6 = .ok (.aload_n 0, 1) := by decide +kernel
theorem dX9_drapes_7 : decode cX9_drapes 7 = .ok (.iload_n 2, 1) := by decide +kernel
theorem dX9_drapes_8 : decode cX9_drapes 8 = .ok (.putfield 239, 3) := by decide +kernel
theorem dX9_drapes_11 : decode cX9_drapes 11 = .ok (.aload_n 0, 1) := by decide +kernel
theorem dX9_drapes_12 : decode cX9_drapes 12 = .ok (.iload_n 3, 1) := by decide +kernel
theorem dX9_drapes_13 : decode cX9_drapes 13 = .ok (.putfield 230, 3) := by decide +kernel
theorem dX9_drapes_16 : decode cX9_drapes 16 = .ok (.aload_n 0, 1) := by decide +kernel
theorem dX9_drapes_17 : decode cX9_drapes 17 = .ok (.iload 4, 2) := by decide +kernel
theorem dX9_drapes_19 : decode cX9_drapes 19 = .ok (.putfield 236, 3) := by decide +kernel
theorem dX9_drapes_22 : decode cX9_drapes 22 = .ok (.aload_n 0, 1) := by decide +kernel
theorem dX9_drapes_23 : decode cX9_drapes 23 = .ok (.bipush 120, 2) := by decide +kernel
theorem dX9_drapes_25 : decode cX9_drapes 25 = .ok (.iload_n 1, 1) := by decide +kernel
theorem dX9_drapes_26 : decode cX9_drapes 26 = .ok (.imul, 1) := by decide +kernel
theorem dX9_drapes_27 : decode cX9_drapes 27 = .ok (.putfield 184, 3) := by decide +kernel
theorem dX9_drapes_30 : decode cX9_drapes 30 = .ok (.aload_n 0, 1) := by decide +kernel
theorem dX9_drapes_31 : decode cX9_drapes 31 = .ok (.aload_n 0, 1) := by decide +kernel
theorem dX9_drapes_32 : decode cX9_drapes 32 = .ok (.getfield 32, 3) := by decide +kernel
theorem dX9_drapes_35 : decode cX9_drapes 35 = .ok (.iload_n 1, 1) := by decide +kernel
theorem dX9_drapes_36 : decode cX9_drapes 36 = .ok (.iaload, 1) := by decide +kernel
theorem dX9_drapes_37 : decode cX9_drapes 37 = .ok (.putfield 181, 3) := by decide +kernel
theorem dX9_drapes_40 : decode cX9_drapes 40 = .ok (.aload_n 0, 1) := by decide +kernel
theorem dX9_drapes_41 : decode cX9_drapes 41 = .ok (.iconst 0, 1) := by decide +kernel
theorem dX9_drapes_42 : decode cX9_drapes 42 = .ok (.putfield 178, 3) := by decide +kernel
theorem dX9_drapes_45 : decode cX9_drapes 45 = .ok (.aload_n 0, 1) := by decide +kernel
theorem dX9_drapes_46 : decode cX9_drapes 46 = .ok (.iconst 0, 1) := by decide +kernel
theorem dX9_drapes_47 : decode cX9_drapes 47 = .ok (.putfield 291, 3) := by decide +kernel
theorem dX9_drapes_50 : decode cX9_drapes 50 = .ok (.aload_n 0, 1) := by decide +kernel
theorem dX9_drapes_51 : decode cX9_drapes 51 = .ok (.iconst 0, 1) := by decide +kernel
theorem dX9_drapes_52 : decode cX9_drapes 52 = .ok (.putfield 266, 3) := by decide +kernel
theorem dX9_drapes_55 : decode cX9_drapes 55 = .ok (.aload_n 0, 1) := by decide +kernel
theorem dX9_drapes_56 : decode cX9_drapes 56 = .ok (.getfield 62, 3) := by decide +kernel
theorem dX9_drapes_59 : decode cX9_drapes 59 = .ok (.aload_n 0, 1) := by decide +kernel
theorem dX9_drapes_60 : decode cX9_drapes 60 = .ok (.getfield 233, 3) := by decide +kernel
theorem dX9_drapes_63 : decode cX9_drapes 63 = .ok (.iconst 0, 1) := by decide +kernel
theorem dX9_drapes_64 : decode cX9_drapes 64 = .ok (.iastore, 1) := by decide +kernel
theorem dX9_drapes_65 : decode cX9_drapes 65 = .ok (.aload_n 0, 1) := by decide +kernel
theorem dX9_drapes_66 : decode cX9_drapes 66 = .ok (.getfield 65, 3) := by decide +kernel
theorem dX9_drapes_69 : decode cX9_drapes 69 = .ok (.aload_n 0, 1) := by decide +kernel
theorem dX9_drapes_70 : decode cX9_drapes 70 = .ok (.getfield 233, 3) := by decide +kernel
theorem dX9_drapes_73 : decode cX9_drapes 73 = .ok (.iconst 0, 1) := by decide +kernel
theorem dX9_drapes_74 : decode cX9_drapes 74 = .ok (.iastore, 1) := by decide +kernel
theorem dX9_drapes_75 : decode cX9_drapes 75 = .ok (.aload_n 0, 1) := by decide +kernel
theorem dX9_drapes_76 : decode cX9_drapes 76 = .ok (.getfield 68, 3) := by decide +kernel
theorem dX9_drapes_79 : decode cX9_drapes 79 = .ok (.aload_n 0, 1) := by decide +kernel
theorem dX9_drapes_80 : decode cX9_drapes 80 = .ok (.getfield 233, 3) := by decide +kernel
theorem dX9_drapes_83 : decode cX9_drapes 83 = .ok (.iconst 0, 1) := by decide +kernel
theorem dX9_drapes_84 : decode cX9_drapes 84 = .ok (.iastore, 1) := by decide +kernel
theorem dX9_drapes_85 : decode cX9_drapes 85 = .ok (.aload_n 0, 1) := by decide +kernel
theorem dX9_drapes_86 : decode cX9_drapes 86 = .ok (.getfield 71, 3) := by decide +kernel
theorem dX9_drapes_89 : decode cX9_drapes 89 = .ok (.aload_n 0, 1) := by decide +kernel
theorem dX9_drapes_90 : decode cX9_drapes 90 = .ok (.getfield 233, 3) := by decide +kernel
theorem dX9_drapes_93 : decode cX9_drapes 93 = .ok (.iconst 0, 1) := by decide +kernel
theorem dX9_drapes_94 : decode cX9_drapes 94 = .ok (.iastore, 1) := by decide +kernel
theorem dX9_drapes_95 : decode cX9_drapes 95 = .ok (.aload_n 0, 1) := by decide +kernel
theorem dX9_drapes_96 : decode cX9_drapes 96 = .ok (.getfield 74, 3) := by decide +kernel
theorem dX9_drapes_99 : decode cX9_drapes 99 = .ok (.aload_n 0, 1) := by decide +kernel
theorem dX9_drapes_100 : decode cX9_drapes 100 = .ok (.getfield 233, 3) := by decide +kernel
theorem dX9_drapes_103 : decode cX9_drapes 103 = .ok (.iconst 0, 1) := by decide +kernel
theorem dX9_drapes_104 : decode cX9_drapes 104 = .ok (.iastore, 1) := by decide +kernel
theorem dX9_drapes_105 : decode cX9_drapes 105 = .ok (.aload_n 0, 1) := by decide +kernel
theorem dX9_drapes_106 : decode cX9_drapes 106 = .ok (.getfield 77, 3) := by decide +kernel
theorem dX9_drapes_109 : decode cX9_drapes 109 = .ok (.aload_n 0, 1) := by decide +kernel
theorem dX9_drapes_110 : decode cX9_drapes 110 = .ok (.getfield 233, 3) := by decide +kernel
theorem dX9_drapes_113 : decode cX9_drapes 113 = .ok (.iconst 1, 1) := by decide +kernel
theorem dX9_drapes_114 : decode cX9_drapes 114 = .ok (.iastore, 1) := by decide +kernel
theorem dX9_drapes_115 : decode cX9_drapes 115 = .ok (.aload_n 0, 1) := by decide +kernel
theorem dX9_drapes_116 : decode cX9_drapes 116 = .ok (.getfield 80, 3) := by decide +kernel
theorem dX9_drapes_119 : decode cX9_drapes 119 = .ok (.aload_n 0, 1) := by decide +kernel
theorem dX9_drapes_120 : decode cX9_drapes 120 = .ok (.getfield 233, 3) := by decide +kernel
theorem dX9_drapes_123 : decode cX9_drapes 123 = .ok (.iconst 0, 1) := by decide +kernel
theorem dX9_drapes_124 : decode cX9_drapes 124 = .ok (.iastore, 1) := by decide +kernel
theorem dX9_drapes_125 : decode cX9_drapes 125 = .ok (.aload_n 0, 1) := by decide +kernel
theorem dX9_drapes_126 : decode cX9_drapes 126 = .ok (.getfield 83, 3) := by decide +kernel
theorem dX9_drapes_129 : decode cX9_drapes 129 = .ok (.aload_n 0, 1) := by decide +kernel
theorem dX9_drapes_130 : decode cX9_drapes 130 = .ok (.getfield 233, 3) := by decide +kernel
theorem dX9_drapes_133 : decode cX9_drapes 133 = .ok (.iconst (-1), 1) := by decide +kernel
theorem dX9_drapes_134 : decode cX9_drapes 134 = .ok (.iastore, 1) := by decide +kernel
theorem dX9_drapes_135 : decode cX9_drapes 135 = .ok (.aload_n 0, 1) := by decide +kernel
theorem dX9_drapes_136 : decode cX9_drapes 136 = .ok (.getfield 86, 3) := by decide +kernel
theorem dX9_drapes_139 : decode cX9_drapes 139 = .ok (.aload_n 0, 1) := by decide +kernel
theorem dX9_drapes_140 : decode cX9_drapes 140 = .ok (.getfield 233, 3) := by decide +kernel
theorem dX9_drapes_143 : decode cX9_drapes 143 = .ok (.iconst 0, 1) := by decide +kernel
theorem dX9_drapes_144 : decode cX9_drapes 144 = .ok (.iastore, 1) := by decide +kernel
theorem dX9_drapes_145 : decode cX9_drapes 145 = .ok (.aload_n 0, 1) := by decide +kernel
theorem dX9_drapes_146 : decode cX9_drapes 146 = .ok (.getfield 89, 3) := by decide +kernel
theorem dX9_drapes_149 : decode cX9_drapes 149 = .ok (.aload_n 0, 1) := by decide +kernel
theorem dX9_drapes_150 : decode cX9_drapes 150 = .ok (.getfield 233, 3) := by decide +kernel
theorem dX9_drapes_153 : decode cX9_drapes 153 = .ok (.iconst 0, 1) := by decide +kernel
theorem dX9_drapes_154 : decode cX9_drapes 154 = .ok (.iastore, 1) := by decide +kernel
theorem dX9_drapes_155 : decode cX9_drapes 155 = .ok (.aload_n 0, 1) := by decide +kernel
theorem dX9_drapes_156 : decode cX9_drapes 156 = .ok (.getfield 92, 3) := by decide +kernel
theorem dX9_drapes_159 : decode cX9_drapes 159 = .ok (.aload_n 0, 1) := by decide +kernel
theorem dX9_drapes_160 : decode cX9_drapes 160 = .ok (.getfield 233, 3) := by decide +kernel
theorem dX9_drapes_163 : decode cX9_drapes 163 = .ok (.iconst (-1), 1) := by decide +kernel
theorem dX9_drapes_164 : decode cX9_drapes 164 = .ok (.iastore, 1) := by decide +kernel
theorem dX9_drapes_165 : decode cX9_drapes 165 = .ok (.aload_n 0, 1) := by decide +kernel
theorem dX9_drapes_166 : decode cX9_drapes 166 = .ok (.iconst 0, 1) := by decide +kernel
theorem dX9_drapes_167 : decode cX9_drapes 167 = .ok (.putfield 320, 3) := by decide +kernel
theorem dX9_drapes_170 : decode cX9_drapes 170 = .ok (.aload_n 0, 1) := by decide +kernel
theorem dX9_drapes_171 : decode cX9_drapes 171 = .ok (.getfield 95, 3) := by decide +kernel
theorem dX9_drapes_174 : decode cX9_drapes 174 = .ok (.iconst 0, 1) := by decide +kernel
theorem dX9_drapes_175 : decode cX9_drapes 175 = .ok (.iconst 0, 1) := by decide +kernel
theorem dX9_drapes_176 : decode cX9_drapes 176 = .ok (.iastore, 1) := by decide +kernel
theorem dX9_drapes_177 : decode cX9_drapes 177 = .ok (.aload_n 0, 1) := by decide +kernel
theorem dX9_drapes_178 : decode cX9_drapes 178 = .ok (.getfield 95, 3) := by decide +kernel
theorem dX9_drapes_181 : decode cX9_drapes 181 = .ok (.iconst 1, 1) := by decide +kernel
theorem dX9_drapes_182 : decode cX9_drapes 182 = .ok (.iconst 0, 1) := by decide +kernel
theorem dX9_drapes_183 : decode cX9_drapes 183 = .ok (.iastore, 1) := by decide +kernel
theorem dX9_drapes_184 : decode cX9_drapes 184 = .ok (.aload_n 0, 1) := by decide +kernel
theorem dX9_drapes_185 : decode cX9_drapes 185 = .ok (.getfield 95, 3) := by decide +kernel
theorem dX9_drapes_188 : decode cX9_drapes 188 = .ok (.iconst 2, 1) := by decide +kernel
theorem dX9_drapes_189 : decode cX9_drapes 189 = .ok (.iload 5, 2) := by decide +kernel
theorem dX9_drapes_191 : decode cX9_drapes 191 = .ok (.iastore, 1) := by decide +kernel
theorem dX9_drapes_192 : decode cX9_drapes 192 = .ok (.aload_n 0, 1) := by decide +kernel
theorem dX9_drapes_193 : decode cX9_drapes 193 = .ok (.getfield 178, 3) := by decide +kernel
theorem dX9_drapes_196 : decode cX9_drapes 196 = .ok (.aload_n 0, 1) := by decide +kernel
theorem dX9_drapes_197 : decode cX9_drapes 197 = .ok (.getfield 181, 3) := by decide +kernel
theorem dX9_drapes_200 : decode cX9_drapes 200 = .ok (.if_icmp .ge 139, 3) := by decide +kernel
theorem dX9_drapes_203 : decode cX9_drapes 203 = .ok (.aload_n 0, 1) := by decide +kernel
theorem dX9_drapes_204 : decode cX9_drapes 204 = .ok (.getfield 89, 3) := by decide +kernel
theorem dX9_drapes_207 : decode cX9_drapes 207 = .ok (.aload_n 0, 1) := by decide +kernel
theorem dX9_drapes_208 : decode cX9_drapes 208 = .ok (.getfield 233, 3) := by decide +kernel
theorem dX9_drapes_211 : decode cX9_drapes 211 = .ok (.iaload, 1) := by decide +kernel
theorem dX9_drapes_212 : decode cX9_drapes 212 = .ok (.ifCond .ne 127, 3) := by decide +kernel
theorem dX9_drapes_215 : decode cX9_drapes 215 = .ok (.aload_n 0, 1) := by decide +kernel
theorem dX9_drapes_216 : decode cX9_drapes 216 = .ok (.getfield 266, 3) := by decide +kernel
theorem dX9_drapes_219 : decode cX9_drapes 219 = .ok (.sipush 2000, 3) := by decide +kernel
theorem dX9_drapes_222 : decode cX9_drapes 222 = .ok (.if_icmp .ne 10, 3) := by decide +kernel
theorem dX9_drapes_225 : decode cX9_drapes 225 = .ok (.aload_n 0, 1) := by decide +kernel
theorem dX9_drapes_226 : decode cX9_drapes 226 = .ok (.bipush 6, 2) := by decide +kernel
theorem dX9_drapes_228 : decode cX9_drapes 228 = .ok (.invokevirtual 275, 3) := by decide +kernel
theorem dX9_drapes_231 : decode cX9_drapes 231 = .ok (.return_, 1) := by decide +kernel
theorem dX9_drapes_232 : decode cX9_drapes 232 = .ok (.aload_n 0, 1) := by decide +kernel
theorem dX9_drapes_233 : decode cX9_drapes 233 = .ok (.invokevirtual 196, 3) := by decide +kernel
theorem dX9_drapes_236 : decode cX9_drapes 236 = .ok (.bipush 91, 2) := by decide +kernel
theorem dX9_drapes_238 : decode cX9_drapes 238 = .ok (.if_icmp .ne 7, 3) := by decide +kernel
theorem dX9_drapes_241 : decode cX9_drapes 241 = .ok (.iconst 1, 1) := by decide +kernel
theorem dX9_drapes_242 : decode cX9_drapes 242 = .ok (.goto 4, 3) := by decide +kernel
theorem dX9_drapes_245 : decode cX9_drapes 245 = .ok (.iconst 0, 1) := by decide +kernel
theorem dX9_drapes_246 : decode cX9_drapes 246 = .ok (.istore 7, 2) := by decide +kernel
theorem dX9_drapes_248 : decode cX9_drapes 248 = .ok (.aload_n 0, 1) := by decide +kernel
theorem dX9_drapes_249 : decode cX9_drapes 249 = .ok (.invokevirtual 196, 3) := by decide +kernel
theorem dX9_drapes_252 : decode cX9_drapes 252 = .ok (.bipush 104, 2) := by decide +kernel
theorem dX9_drapes_254 : decode cX9_drapes 254 = .ok (.if_icmp .ne 7, 3) := by decide +kernel
theorem dX9_drapes_257 : decode cX9_drapes 257 = .ok (.iconst 1, 1) := by decide +kernel
theorem dX9_drapes_258 : decode cX9_drapes 258 = .ok (.goto 4, 3) := by decide +kernel
theorem dX9_drapes_261 : decode cX9_drapes 261 = .ok (.iconst 0, 1) := by decide +kernel
theorem dX9_drapes_262 : decode cX9_drapes 262 = .ok (.istore 8, 2) := by decide +kernel
theorem dX9_drapes_264 : decode cX9_drapes 264 = .ok (.aload_n 0, 1) := by decide +kernel
theorem dX9_drapes_265 : decode cX9_drapes 265 = .ok (.getfield 291, 3) := by decide +kernel
theorem dX9_drapes_268 : decode cX9_drapes 268 = .ok (.istore 9, 2) := by decide +kernel
theorem dX9_drapes_270 : decode cX9_drapes 270 = .ok (.aload_n 0, 1) := by decide +kernel
theorem dX9_drapes_271 : decode cX9_drapes 271 = .ok (.invokevirtual 323, 3) := by decide +kernel
theorem dX9_drapes_274 : decode cX9_drapes 274 = .ok (.aload_n 0, 1) := by decide +kernel
theorem dX9_drapes_275 : decode cX9_drapes 275 = .ok (.getfield 89, 3) := by decide +kernel
theorem dX9_drapes_278 : decode cX9_drapes 278 = .ok (.aload_n 0, 1) := by decide +kernel
theorem dX9_drapes_279 : decode cX9_drapes 279 = .ok (.getfield 233, 3) := by decide +kernel
theorem dX9_drapes_282 : decode cX9_drapes 282 = .ok (.iaload, 1) := by decide +kernel
theorem dX9_drapes_283 : decode cX9_drapes 283 = .ok (.ifCond .le 4, 3) := by decide +kernel
theorem dX9_drapes_286 : decode cX9_drapes 286 = .ok (.return_, 1) := by decide +kernel
theorem dX9_drapes_287 : decode cX9_drapes 287 = .ok (.aload_n 0, 1) := by decide +kernel
theorem dX9_drapes_288 : decode cX9_drapes 288 = .ok (.aload_n 0, 1) := by decide +kernel
theorem dX9_drapes_289 : decode cX9_drapes 289 = .ok (.getfield 320, 3) := by decide +kernel
theorem dX9_drapes_292 : decode cX9_drapes 292 = .ok (.ifCond .ne 8, 3) := by decide +kernel
theorem dX9_drapes_295 : decode cX9_drapes 295 = .ok (.iload 8, 2) := by decide +kernel
theorem dX9_drapes_297 : decode cX9_drapes 297 = .ok (.ifCond .eq 7, 3) := by decide +kernel
theorem dX9_drapes_300 : decode cX9_drapes 300 = .ok (.iconst 1, 1) := by decide +kernel
theorem dX9_drapes_301 : decode cX9_drapes 301 = .ok (.goto 4, 3) := by decide +kernel
theorem dX9_drapes_304 : decode cX9_drapes 304 = .ok (.iconst 0, 1) := by decide +kernel
theorem dX9_drapes_305 : decode cX9_drapes 305 = .ok (.putfield 320, 3) := by decide +kernel
theorem dX9_drapes_308 : decode cX9_drapes 308 = .ok (.aload_n 0, 1) := by decide +kernel
theorem dX9_drapes_309 : decode cX9_drapes 309 = .ok (.dup, 1) := by decide +kernel
theorem dX9_drapes_310 : decode cX9_drapes 310 = .ok (.getfield 266, 3) := by decide +kernel
theorem dX9_drapes_313 : decode cX9_drapes 313 = .ok (.iconst 1, 1) := by decide +kernel
theorem dX9_drapes_314 : decode cX9_drapes 314 = .ok (.iadd, 1) := by decide +kernel
theorem dX9_drapes_315 : decode cX9_drapes 315 = .ok (.putfield 266, 3) := by decide +kernel
theorem dX9_drapes_318 : decode cX9_drapes 318 = .ok (.iload 7, 2) := by decide +kernel
theorem dX9_drapes_320 : decode cX9_drapes 320 = .ok (.ifCond .eq 12, 3) := by decide +kernel
theorem dX9_drapes_323 : decode cX9_drapes 323 = .ok (.aload_n 0, 1) := by decide +kernel
theorem dX9_drapes_324 : decode cX9_drapes 324 = .ok (.getfield 291, 3) := by decide +kernel
theorem dX9_drapes_327 : decode cX9_drapes 327 = .ok (.iload 9, 2) := by decide +kernel
theorem dX9_drapes_329 : decode cX9_drapes 329 = .ok (.if_icmp .ne 7, 3) := by decide +kernel
theorem dX9_drapes_332 : decode cX9_drapes 332 = .ok (.aload_n 0, 1) := by decide +kernel
theorem dX9_drapes_333 : decode cX9_drapes 333 = .ok (.invokevirtual 326, 3) := by decide +kernel
theorem dX9_drapes_336 : decode cX9_drapes 336 = .ok (.goto (-144), 3) := by decide +kernel
theorem dX9_drapes_339 : decode cX9_drapes 339 = .ok (.return_, 1) := by decide +kernel
theorem dX9_drape_0 : decode cX9_drape 0 = .ok (.aload_n 0, 1) := by decide +kernel
theorem dX9_drape_1 : decode cX9_drape 1 = .ok (.iload_n 1, 1) := by decide +kernel
theorem dX9_drape_2 : decode cX9_drape 2 = .ok (.invokevirtual 329, 3) := by decide +kernel
theorem dX9_drape_5 : decode cX9_drape 5 = .ok (.ifCond .eq 30, 3) := by decide +kernel
theorem dX9_drape_8 : decode cX9_drape 8 = .ok (.aload_n 0, 1) := by decide +kernel
theorem dX9_drape_9 : decode cX9_drape 9 = .ok (.iload_n 2, 1) := by decide +kernel
theorem dX9_drape_10 : decode cX9_drape 10 = .ok (.invokevirtual 332, 3) := by decide +kernel
theorem dX9_drape_13 : decode cX9_drape 13 = .ok (.ifCond .eq 22, 3) := by decide +kernel
theorem dX9_drape_16 : decode cX9_drape 16 = .ok (.aload_n 0, 1) := by decide +kernel
theorem dX9_drape_17 : decode cX9_drape 17 = .ok (.iload_n 3, 1) := by decide +kernel
theorem dX9_drape_18 : decode cX9_drape 18 = .ok (.invokevirtual 167, 3) := by decide +kernel
theorem dX9_drape_21 : decode cX9_drape 21 = .ok (.ifCond .eq 14, 3) := by decide +kernel
theorem dX9_drape_24 : decode cX9_drape 24 = .ok (.iload 4, 2) := by decide +kernel
theorem dX9_drape_26 : decode cX9_drape 26 = .ok (.iconst 0, 1) := by decide +kernel
theorem dX9_drape_27 : decode cX9_drape 27 = .ok (.bipush 60, 2) := by decide +kernel
theorem dX9_drape_29 : decode cX9_drape 29 = .ok (.invokestatic 157, 3) := by decide +kernel
theorem dX9_drape_32 : decode cX9_drape 32 = .ok (.ifCond .ne 5, 3) := by decide +kernel
theorem dX9_drape_35 : decode cX9_drape 35 = .ok (.iconst (-1), 1) := by decide +kernel
theorem dX9_drape_36 : decode cX9_drape 36 = .ok (.ireturn, 1) := by decide +kernel
theorem dX9_drape_37 : decode cX9_drape 37 = .ok (.aload_n 0, 1) := by decide +kernel
theorem dX9_drape_38 : decode cX9_drape 38 = .ok (.iload_n 1, 1) := by decide +kernel
theorem dX9_drape_39 : decode cX9_drape 39 = .ok (.iload_n 2, 1) := by decide +kernel
theorem dX9_drape_40 : decode cX9_drape 40 = .ok (.aload_n 0, 1) := by decide +kernel
theorem dX9_drape_41 : decode cX9_drape 41 = .ok (.getfield 17, 3) := by decide +kernel
theorem dX9_drape_44 : decode cX9_drape 44 = .ok (.iload_n 3, 1) := by decide +kernel
theorem dX9_drape_45 : decode cX9_drape 45 = .ok (.iaload, 1) := by decide +kernel
theorem dX9_drape_46 : decode cX9_drape 46 = .ok (.aload_n 0, 1) := by decide +kernel
theorem dX9_drape_47 : decode cX9_drape 47 = .ok (.getfield 20, 3) := by decide +kernel
theorem dX9_drape_50 : decode cX9_drape 50 = .ok (.iload_n 3, 1) := by decide +kernel
theorem dX9_drape_51 : decode cX9_drape 51 = .ok (.iaload, 1) := by decide +kernel
theorem dX9_drape_52 : decode cX9_drape 52 = .ok (.iload 4, 2) := by decide +kernel
theorem dX9_drape_54 : decode cX9_drape 54 = .ok (.iconst 0, 1) := by decide +kernel
theorem dX9_drape_55 : decode cX9_drape 55 = .ok (.invokevirtual 335, 3) := by decide +kernel
theorem dX9_drape_58 : decode cX9_drape 58 = .ok (.aload_n 0, 1) := by decide +kernel
theorem dX9_drape_59 : decode cX9_drape 59 = .ok (.iconst 1, 1) := by decide +kernel
theorem dX9_drape_60 : decode cX9_drape 60 = .ok (.putfield 339, 3) := by decide +kernel
theorem dX9_drape_63 : decode cX9_drape 63 = .ok (.aload_n 0, 1) := by decide +kernel
theorem dX9_drape_64 : decode cX9_drape 64 = .ok (.iconst 0, 1) := by decide +kernel
theorem dX9_drape_65 : decode cX9_drape 65 = .ok (.putfield 342, 3) := by decide +kernel
theorem dX9_drape_68 : decode cX9_drape 68 = .ok (.aload_n 0, 1) := by decide +kernel
theorem dX9_drape_69 : decode cX9_drape 69 = .ok (.iload_n 3, 1) := by decide +kernel
theorem dX9_drape_70 : decode cX9_drape 70 = .ok (.putfield 345, 3) := by decide +kernel
theorem dX9_drape_73 : decode cX9_drape 73 = .ok (.aload_n 0, 1) := by decide +kernel
theorem dX9_drape_74 : decode cX9_drape 74 = .ok (.iload_n 2, 1) := by decide +kernel
theorem dX9_drape_75 : decode cX9_drape 75 = .ok (.putfield 348, 3) := by decide +kernel
theorem dX9_drape_78 : decode cX9_drape 78 = .ok (.aload_n 0, 1) := by decide +kernel
theorem dX9_drape_79 : decode cX9_drape 79 = .ok (.getfield 89, 3) := by decide +kernel
theorem dX9_drape_82 : decode cX9_drape 82 = .ok (.iconst 0, 1) := by decide +kernel
theorem dX9_drape_83 : decode cX9_drape 83 = .ok (.iaload, 1) := by decide +kernel
theorem dX9_drape_84 : decode cX9_drape 84 = .ok (.ifCond .le 15, 3) := by decide +kernel
theorem dX9_drape_87 : decode cX9_drape 87 = .ok (.bipush (-10), 2) := by decide +kernel
theorem dX9_drape_89 : decode cX9_drape 89 = .ok (.aload_n 0, 1) := by decide +kernel
theorem dX9_drape_90 : decode cX9_drape 90 = .ok (.getfield 89, 3) := by decide +kernel
theorem dX9_drape_93 : decode cX9_drape 93 = .ok (.iconst 0, 1) := by decide +kernel
theorem dX9_drape_94 : decode cX9_drape 94 = .ok (.iaload, 1) := by decide +kernel
theorem dX9_drape_95 : decode cX9_drape 95 = .ok (.isub, 1) := by decide +kernel
theorem dX9_drape_96 : decode cX9_drape 96 = .ok (.goto 9, 3) := by decide +kernel
theorem dX9_drape_99 : decode cX9_drape 99 = .ok (.aload_n 0, 1) := by decide +kernel
theorem dX9_drape_100 : decode cX9_drape 100 = .ok (.getfield 65, 3) := by decide +kernel
theorem dX9_drape_103 : decode cX9_drape 103 = .ok (.iconst 0, 1) := by decide +kernel
theorem dX9_drape_104 : decode cX9_drape 104 = .ok (.iaload, 1) := by decide +kernel
theorem dX9_drape_105 : decode cX9_drape 105 = .ok (.ireturn, 1) := by decide +kernel
theorem dX9_colourOf_0 : decode cX9_colourOf 0 = .ok (.iload 4, 2) := by decide +kernel
theorem dX9_colourOf_2 : decode cX9_colourOf 2 = .ok (.iconst 1, 1) := by decide +kernel
theorem dX9_colourOf_3 : decode cX9_colourOf 3 = .ok (.if_icmp .ne 15, 3) := by decide +kernel
theorem dX9_colourOf_6 : decode cX9_colourOf 6 = .ok (.aload_n 0, 1) := by decide +kernel
theorem dX9_colourOf_7 : decode cX9_colourOf 7 = .ok (.getfield 26, 3) := by decide +kernel
theorem dX9_colourOf_10 : decode cX9_colourOf 10 = .ok (.bipush 6, 2) := by decide +kernel
theorem dX9_colourOf_12 : decode cX9_colourOf 12 = .ok (.iload_n 1, 1) := by decide +kernel
theorem dX9_colourOf_13 : decode cX9_colourOf 13 = .ok (.imul, 1) := by decide +kernel
theorem dX9_colourOf_14 : decode cX9_colourOf 14 = .ok (.iconst 5, 1) := by decide +kernel
theorem dX9_colourOf_15 : decode cX9_colourOf 15 = .ok (.iadd, 1) := by decide +kernel
theorem dX9_colourOf_16 : decode cX9_colourOf 16 = .ok (.iaload, 1) := by decide +kernel
theorem dX9_colourOf_17 : decode cX9_colourOf 17 = .ok (.ireturn, 1) := by decide +kernel
theorem dX9_colourOf_18 : decode cX9_colourOf 18 = .ok (.iload_n 2, 1) := by decide +kernel
theorem dX9_colourOf_19 : decode cX9_colourOf 19 = .ok (.aload_n 0, 1) := by decide +kernel
theorem dX9_colourOf_20 : decode cX9_colourOf 20 = .ok (.getfield 17, 3) := by decide +kernel
theorem dX9_colourOf_23 : decode cX9_colourOf 23 = .ok (.iload_n 1, 1) := by decide +kernel
theorem dX9_colourOf_24 : decode cX9_colourOf 24 = .ok (.iaload, 1) := by decide +kernel
theorem dX9_colourOf_25 : decode cX9_colourOf 25 = .ok (.aload_n 0, 1) := by decide +kernel
theorem dX9_colourOf_26 : decode cX9_colourOf 26 = .ok (.getfield 23, 3) := by decide +kernel
theorem dX9_colourOf_29 : decode cX9_colourOf 29 = .ok (.iload_n 1, 1) := by decide +kernel
theorem dX9_colourOf_30 : decode cX9_colourOf 30 = .ok (.iaload, 1) := by decide +kernel
theorem dX9_colourOf_31 : decode cX9_colourOf 31 = .ok (.isub, 1) := by decide +kernel
theorem dX9_colourOf_32 : decode cX9_colourOf 32 = .ok (.if_icmp .lt 17, 3) := by decide +kernel
theorem dX9_colourOf_35 : decode cX9_colourOf 35 = .ok (.aload_n 0, 1) := by decide +kernel
theorem dX9_colourOf_36 : decode cX9_colourOf 36 = .ok (.getfield 26, 3) := by decide +kernel
theorem dX9_colourOf_39 : decode cX9_colourOf 39 = .ok (.bipush 6, 2) := by decide +kernel
theorem dX9_colourOf_41 : decode cX9_colourOf 41 = .ok (.iload_n 1, 1) := by decide +kernel
theorem dX9_colourOf_42 : decode cX9_colourOf 42 = .ok (.imul, 1) := by decide +kernel
theorem dX9_colourOf_43 : decode cX9_colourOf 43 = .ok (.iconst 4, 1) := by decide +kernel
theorem dX9_colourOf_44 : decode cX9_colourOf 44 = .ok (.iadd, 1) := by decide +kernel
theorem dX9_colourOf_45 : decode cX9_colourOf 45 = .ok (.iaload, 1) := by decide +kernel
theorem dX9_colourOf_46 : decode cX9_colourOf 46 = .ok (.goto 14, 3) := by decide +kernel
theorem dX9_colourOf_49 : decode cX9_colourOf 49 = .ok (.aload_n 0, 1) := by decide +kernel
theorem dX9_colourOf_50 : decode cX9_colourOf 50 = .ok (.getfield 26, 3) := by decide +kernel
theorem dX9_colourOf_53 : decode cX9_colourOf 53 = .ok (.bipush 6, 2) := by decide +kernel
theorem dX9_colourOf_55 : decode cX9_colourOf 55 = .ok (.iload_n 1, 1) := by decide +kernel
theorem dX9_colourOf_56 : decode cX9_colourOf 56 = .ok (.imul, 1) := by decide +kernel
theorem dX9_colourOf_57 : decode cX9_colourOf 57 = .ok (.iload_n 3, 1) := by decide +kernel
theorem dX9_colourOf_58 : decode cX9_colourOf 58 = .ok (.iadd, 1) := by decide +kernel
theorem dX9_colourOf_59 : decode cX9_colourOf 59 = .ok (.iaload, 1) := by decide +kernel
theorem dX9_colourOf_60 : decode cX9_colourOf 60 = .ok (.ireturn, 1) := by decide +kernel
section
variable {d : Nat} {M : gM} {Z : Option Value → gM → Prop} {a0 a1 a2 a3 a4 a5 a6 a7 a8 a9 a10 a11 a12 : Option Value} {v s0 s1 s2 s3 s4 s5 s6 s7 s8 s9 s10 s11 : Value} {x y w : Int32} {o b u1 u2 : Nat}
/-! 162: X9_opens (I)V -/
theorem gd162 {pc : Nat} {r : Except _ _} (h : decode cX9_opens pc = r) : decode (gby 162) pc = r := h
theorem z162_0 : Run d 162 0 [some (.ref o), a1, a2] [] M 0 0 Z ↔ Run d 162 1 [some (.ref o), a1, a2] [.ref o] M 0 0 Z := R_local (gd162 dX9_opens_0) rfl rfl rfl
theorem z162_1 : Run d 162 1 [a0, a1, a2] [.ref o] M 0 0 Z ↔ gObj M o 9 ∧ Run d 162 4 [a0, a1, a2] [.int (M.1 o 49)] M 0 0 Z := R_getI (gd162 dX9_opens_1) rfl gf_9_252 rfl
theorem z162_4 : Run d 162 4 [a0, a1, a2] [.int x] M 0 0 Z ↔ (x = 0 → Run d 162 11 [a0, a1, a2] [] M 0 0 Z) ∧ (¬ (x = 0) → Run d 162 7 [a0, a1, a2] [] M 0 0 Z) := R_if (gd162 dX9_opens_4) (show gTgt 4 7 = some 11 by decide) gIf_eq
theorem z162_7 : Run d 162 7 [a0, a1, a2] [] M 0 0 Z ↔ Run d 162 8 [a0, a1, a2] [.int 5] M 0 0 Z := R_iconst (gd162 dX9_opens_7) (by decide)
theorem z162_8 : Run d 162 8 [a0, a1, a2] [s0] M 0 0 Z ↔ Run d 162 23 [a0, a1, a2] [s0] M 0 0 Z := R_goto (gd162 dX9_opens_8) (show gTgt 8 15 = some 23 by decide)
theorem z162_11 : Run d 162 11 [a0, some (.int x), a2] [] M 0 0 Z ↔ Run d 162 12 [a0, some (.int x), a2] [.int x] M 0 0 Z := R_local (gd162 dX9_opens_11) rfl rfl rfl
theorem z162_12 : Run d 162 12 [a0, a1, a2] [s0] M 0 0 Z ↔ Call d 150 [s0] M (fun r M1 => Run d 162 15 [a0, a1, a2] (r.toList ++ []) M1 0 0 Z) := R_call (gd162 dX9_opens_12) rfl rfl rfl rfl rfl rfl gc_9_269 rfl (by decide) (Nat.le_of_ble_eq_true rfl) (Nat.le_of_ble_eq_true rfl) rfl rfl rfl (Nat.le_of_ble_eq_true rfl) (Nat.le_of_ble_eq_true rfl)
theorem z162_15 : Run d 162 15 [a0, a1, a2] [.int x] M 0 0 Z ↔ (¬ x = 0 → Run d 162 22 [a0, a1, a2] [] M 0 0 Z) ∧ (¬ (¬ x = 0) → Run d 162 18 [a0, a1, a2] [] M 0 0 Z) := R_if (gd162 dX9_opens_15) (show gTgt 15 7 = some 22 by decide) gIf_ne
theorem z162_18 : Run d 162 18 [a0, a1, a2] [] M 0 0 Z ↔ Run d 162 19 [a0, a1, a2] [.int 4] M 0 0 Z := R_iconst (gd162 dX9_opens_18) (by decide)
theorem z162_19 : Run d 162 19 [a0, a1, a2] [s0] M 0 0 Z ↔ Run d 162 23 [a0, a1, a2] [s0] M 0 0 Z := R_goto (gd162 dX9_opens_19) (show gTgt 19 4 = some 23 by decide)
theorem z162_22 : Run d 162 22 [a0, a1, a2] [] M 0 0 Z ↔ Run d 162 23 [a0, a1, a2] [.int 0] M 0 0 Z := R_iconst (gd162 dX9_opens_22) (by decide)
theorem z162_23 : Run d 162 23 [a0, a1, a2] [.int x] M 0 0 Z ↔ Run d 162 24 [a0, a1, some (.int x)] [] M 0 0 Z := R_local (gd162 dX9_opens_23) rfl rfl rfl
theorem z162_24 : Run d 162 24 [some (.ref o), a1, a2] [] M 0 0 Z ↔ Run d 162 25 [some (.ref o), a1, a2] [.ref o] M 0 0 Z := R_local (gd162 dX9_opens_24) rfl rfl rfl
theorem z162_25 : Run d 162 25 [a0, a1, a2] [.ref o] M 0 0 Z ↔ Run d 162 26 [a0, a1, a2] [.ref o, .ref o] M 0 0 Z := R_arith (gd162 dX9_opens_25) rfl
theorem z162_26 : Run d 162 26 [a0, a1, a2] [.ref o, s0] M 0 0 Z ↔ gObj M o 9 ∧ Run d 162 29 [a0, a1, a2] [.int (M.1 o 13), s0] M 0 0 Z := R_getI (gd162 dX9_opens_26) rfl gf_9_178 rfl
theorem z162_29 : Run d 162 29 [a0, a1, a2] [s1, s0] M 0 0 Z ↔ Run d 162 30 [a0, a1, a2] [.int 1, s1, s0] M 0 0 Z := R_iconst (gd162 dX9_opens_29) (by decide)
theorem z162_30 : Run d 162 30 [a0, a1, a2] [.int y, .int x, s0] M 0 0 Z ↔ Run d 162 31 [a0, a1, a2] [.int (x + y), s0] M 0 0 Z := R_arith (gd162 dX9_opens_30) rfl
theorem z162_31 : Run d 162 31 [a0, a1, a2] [.int x, .ref o] M 0 0 Z ↔ gObj M o 9 ∧ Run d 162 34 [a0, a1, a2] [] (gsI M o 13 x) 0 0 Z := R_putI (gd162 dX9_opens_31) rfl gf_9_178 (Or.inl rfl) rfl
theorem z162_34 : Run d 162 34 [a0, a1, some (.int x)] [] M 0 0 Z ↔ Run d 162 35 [a0, a1, some (.int x)] [.int x] M 0 0 Z := R_local (gd162 dX9_opens_34) rfl rfl rfl
theorem z162_35 : Run d 162 35 [a0, a1, a2] [.int x] M 0 0 Z ↔ (x ≤ 0 → Run d 162 46 [a0, a1, a2] [] M 0 0 Z) ∧ (¬ (x ≤ 0) → Run d 162 38 [a0, a1, a2] [] M 0 0 Z) := R_if (gd162 dX9_opens_35) (show gTgt 35 11 = some 46 by decide) gIf_le
theorem z162_38 : Run d 162 38 [some (.ref o), a1, a2] [] M 0 0 Z ↔ Run d 162 39 [some (.ref o), a1, a2] [.ref o] M 0 0 Z := R_local (gd162 dX9_opens_38) rfl rfl rfl
theorem z162_39 : Run d 162 39 [a0, a1, some (.int x)] [s0] M 0 0 Z ↔ Run d 162 40 [a0, a1, some (.int x)] [.int x, s0] M 0 0 Z := R_local (gd162 dX9_opens_39) rfl rfl rfl
theorem z162_40 : Run d 162 40 [a0, a1, a2] [s1, .ref b] M 0 0 Z ↔ gObj M b 9 ∧ Call d 149 [.ref b, s1] M (fun r M1 => Run d 162 43 [a0, a1, a2] (r.toList ++ []) M1 0 0 Z) := R_callV (gd162 dX9_opens_40) rfl rfl rfl rfl rfl rfl gc_9_275 rfl rfl (Nat.le_of_ble_eq_true rfl) (Nat.le_of_ble_eq_true rfl) rfl rfl (Nat.le_of_ble_eq_true rfl) (Nat.le_of_ble_eq_true rfl)
theorem z162_43 : Run d 162 43 [a0, a1, a2] [] M 0 0 Z ↔ Run d 162 90 [a0, a1, a2] [] M 0 0 Z := R_goto (gd162 dX9_opens_43) (show gTgt 43 47 = some 90 by decide)
theorem z162_46 : Run d 162 46 [a0, some (.int x), a2] [] M 0 0 Z ↔ Run d 162 47 [a0, some (.int x), a2] [.int x] M 0 0 Z := R_local (gd162 dX9_opens_46) rfl rfl rfl
theorem z162_47 : Run d 162 47 [a0, a1, a2] [.int x] M 0 0 Z ↔ (¬ x = 0 → Run d 162 57 [a0, a1, a2] [] M 0 0 Z) ∧ (¬ (¬ x = 0) → Run d 162 50 [a0, a1, a2] [] M 0 0 Z) := R_if (gd162 dX9_opens_47) (show gTgt 47 10 = some 57 by decide) gIf_ne
theorem z162_50 : Run d 162 50 [some (.ref o), a1, a2] [] M 0 0 Z ↔ Run d 162 51 [some (.ref o), a1, a2] [.ref o] M 0 0 Z := R_local (gd162 dX9_opens_50) rfl rfl rfl
theorem z162_51 : Run d 162 51 [a0, a1, a2] [.ref b] M 0 0 Z ↔ gObj M b 9 ∧ Call d 161 [.ref b] M (fun r M1 => Run d 162 54 [a0, a1, a2] (r.toList ++ []) M1 0 0 Z) := R_callV (gd162 dX9_opens_51) rfl rfl rfl rfl rfl rfl gc_9_288 rfl rfl (Nat.le_of_ble_eq_true rfl) (Nat.le_of_ble_eq_true rfl) rfl rfl (Nat.le_of_ble_eq_true rfl) (Nat.le_of_ble_eq_true rfl)
theorem z162_54 : Run d 162 54 [a0, a1, a2] [] M 0 0 Z ↔ Run d 162 90 [a0, a1, a2] [] M 0 0 Z := R_goto (gd162 dX9_opens_54) (show gTgt 54 36 = some 90 by decide)
theorem z162_57 : Run d 162 57 [some (.ref o), a1, a2] [] M 0 0 Z ↔ Run d 162 58 [some (.ref o), a1, a2] [.ref o] M 0 0 Z := R_local (gd162 dX9_opens_57) rfl rfl rfl
theorem z162_58 : Run d 162 58 [a0, a1, a2] [.ref o] M 0 0 Z ↔ gObj M o 9 ∧ Run d 162 61 [a0, a1, a2] [va_rf (M.2.1 o 42)] M 0 0 Z := R_getR (gd162 dX9_opens_58) rfl gf_9_98 rfl
theorem z162_61 : Run d 162 61 [some (.ref o), a1, a2] [s0] M 0 0 Z ↔ Run d 162 62 [some (.ref o), a1, a2] [.ref o, s0] M 0 0 Z := R_local (gd162 dX9_opens_61) rfl rfl rfl
theorem z162_62 : Run d 162 62 [a0, a1, a2] [.ref o, s0] M 0 0 Z ↔ gObj M o 9 ∧ Run d 162 65 [a0, a1, a2] [.int (M.1 o 44), s0] M 0 0 Z := R_getI (gd162 dX9_opens_62) rfl gf_9_291 rfl
theorem z162_65 : Run d 162 65 [some (.ref o), a1, a2] [s1, s0] M 0 0 Z ↔ Run d 162 66 [some (.ref o), a1, a2] [.ref o, s1, s0] M 0 0 Z := R_local (gd162 dX9_opens_65) rfl rfl rfl
theorem z162_66 : Run d 162 66 [a0, a1, a2] [.ref o, s1, s0] M 0 0 Z ↔ gObj M o 9 ∧ Run d 162 69 [a0, a1, a2] [.int (M.1 o 13), s1, s0] M 0 0 Z := R_getI (gd162 dX9_opens_66) rfl gf_9_178 rfl
theorem z162_69 : Run d 162 69 [a0, a1, a2] [.int y, .int x, .ref o] M 0 0 Z ↔ gAr M o 0 ∧ gIn x (gLen M o) = true ∧ Run d 162 70 [a0, a1, a2] [] (gsI M o x.toNatClampNeg y) 0 0 Z := R_iast (gd162 dX9_opens_69)
theorem z162_70 : Run d 162 70 [some (.ref o), a1, a2] [] M 0 0 Z ↔ Run d 162 71 [some (.ref o), a1, a2] [.ref o] M 0 0 Z := R_local (gd162 dX9_opens_70) rfl rfl rfl
theorem z162_71 : Run d 162 71 [a0, a1, a2] [.ref o] M 0 0 Z ↔ gObj M o 9 ∧ Run d 162 74 [a0, a1, a2] [va_rf (M.2.1 o 43)] M 0 0 Z := R_getR (gd162 dX9_opens_71) rfl gf_9_101 rfl
theorem z162_74 : Run d 162 74 [some (.ref o), a1, a2] [s0] M 0 0 Z ↔ Run d 162 75 [some (.ref o), a1, a2] [.ref o, s0] M 0 0 Z := R_local (gd162 dX9_opens_74) rfl rfl rfl
theorem z162_75 : Run d 162 75 [a0, a1, a2] [.ref o, s0] M 0 0 Z ↔ gObj M o 9 ∧ Run d 162 78 [a0, a1, a2] [.int (M.1 o 44), s0] M 0 0 Z := R_getI (gd162 dX9_opens_75) rfl gf_9_291 rfl
theorem z162_78 : Run d 162 78 [a0, some (.int x), a2] [s1, s0] M 0 0 Z ↔ Run d 162 79 [a0, some (.int x), a2] [.int x, s1, s0] M 0 0 Z := R_local (gd162 dX9_opens_78) rfl rfl rfl
theorem z162_79 : Run d 162 79 [a0, a1, a2] [.int y, .int x, .ref o] M 0 0 Z ↔ gAr M o 0 ∧ gIn x (gLen M o) = true ∧ Run d 162 80 [a0, a1, a2] [] (gsI M o x.toNatClampNeg y) 0 0 Z := R_iast (gd162 dX9_opens_79)
theorem z162_80 : Run d 162 80 [some (.ref o), a1, a2] [] M 0 0 Z ↔ Run d 162 81 [some (.ref o), a1, a2] [.ref o] M 0 0 Z := R_local (gd162 dX9_opens_80) rfl rfl rfl
theorem z162_81 : Run d 162 81 [a0, a1, a2] [.ref o] M 0 0 Z ↔ Run d 162 82 [a0, a1, a2] [.ref o, .ref o] M 0 0 Z := R_arith (gd162 dX9_opens_81) rfl
theorem z162_82 : Run d 162 82 [a0, a1, a2] [.ref o, s0] M 0 0 Z ↔ gObj M o 9 ∧ Run d 162 85 [a0, a1, a2] [.int (M.1 o 44), s0] M 0 0 Z := R_getI (gd162 dX9_opens_82) rfl gf_9_291 rfl
theorem z162_85 : Run d 162 85 [a0, a1, a2] [s1, s0] M 0 0 Z ↔ Run d 162 86 [a0, a1, a2] [.int 1, s1, s0] M 0 0 Z := R_iconst (gd162 dX9_opens_85) (by decide)
theorem z162_86 : Run d 162 86 [a0, a1, a2] [.int y, .int x, s0] M 0 0 Z ↔ Run d 162 87 [a0, a1, a2] [.int (x + y), s0] M 0 0 Z := R_arith (gd162 dX9_opens_86) rfl
theorem z162_87 : Run d 162 87 [a0, a1, a2] [.int x, .ref o] M 0 0 Z ↔ gObj M o 9 ∧ Run d 162 90 [a0, a1, a2] [] (gsI M o 44 x) 0 0 Z := R_putI (gd162 dX9_opens_87) rfl gf_9_291 (Or.inl rfl) rfl
theorem z162_90 : Run d 162 90 [a0, a1, a2] [] M 0 0 Z ↔ Z none M := R_vret (gd162 dX9_opens_90) rfl
theorem e162 : Call (d + 1) 162 [s0, s1] M Z ↔ Run d 162 0 [some s0, some s1, none] [] M 0 0 Z := Call_iff (Nat.lt_of_lt_of_le (Nat.lt_succ_self 162) (Nat.le_of_ble_eq_true rfl)) (Nat.le_of_ble_eq_true rfl)
/-! 163: X9_step ()V -/
theorem gd163 {pc : Nat} {r : Except _ _} (h : decode cX9_step pc = r) : decode (gby 163) pc = r := h
theorem z163_0 : Run d 163 0 [some (.ref o), a1, a2] [] M 0 0 Z ↔ Run d 163 1 [some (.ref o), a1, a2] [.ref o] M 0 0 Z := R_local (gd163 dX9_step_0) rfl rfl rfl
theorem z163_1 : Run d 163 1 [a0, a1, a2] [.ref b] M 0 0 Z ↔ gObj M b 9 ∧ Call d 130 [.ref b] M (fun r M1 => Run d 163 4 [a0, a1, a2] (r.toList ++ []) M1 0 0 Z) := R_callV (gd163 dX9_step_1) rfl rfl rfl rfl rfl rfl gc_9_196 rfl rfl (Nat.le_of_ble_eq_true rfl) (Nat.le_of_ble_eq_true rfl) rfl rfl (Nat.le_of_ble_eq_true rfl) (Nat.le_of_ble_eq_true rfl)
theorem z163_4 : Run d 163 4 [a0, a1, a2] [.int x] M 0 0 Z ↔ Run d 163 5 [a0, some (.int x), a2] [] M 0 0 Z := R_local (gd163 dX9_step_4) rfl rfl rfl
theorem z163_5 : Run d 163 5 [some (.ref o), a1, a2] [] M 0 0 Z ↔ Run d 163 6 [some (.ref o), a1, a2] [.ref o] M 0 0 Z := R_local (gd163 dX9_step_5) rfl rfl rfl
theorem z163_6 : Run d 163 6 [a0, a1, a2] [.ref o] M 0 0 Z ↔ Run d 163 7 [a0, a1, a2] [.ref o, .ref o] M 0 0 Z := R_arith (gd163 dX9_step_6) rfl
theorem z163_7 : Run d 163 7 [a0, a1, a2] [.ref o, s0] M 0 0 Z ↔ gObj M o 9 ∧ Run d 163 10 [a0, a1, a2] [.int (M.1 o 13), s0] M 0 0 Z := R_getI (gd163 dX9_step_7) rfl gf_9_178 rfl
theorem z163_10 : Run d 163 10 [a0, a1, a2] [s1, s0] M 0 0 Z ↔ Run d 163 11 [a0, a1, a2] [.int 1, s1, s0] M 0 0 Z := R_iconst (gd163 dX9_step_10) (by decide)
theorem z163_11 : Run d 163 11 [a0, a1, a2] [.int y, .int x, s0] M 0 0 Z ↔ Run d 163 12 [a0, a1, a2] [.int (x + y), s0] M 0 0 Z := R_arith (gd163 dX9_step_11) rfl
theorem z163_12 : Run d 163 12 [a0, a1, a2] [.int x, .ref o] M 0 0 Z ↔ gObj M o 9 ∧ Run d 163 15 [a0, a1, a2] [] (gsI M o 13 x) 0 0 Z := R_putI (gd163 dX9_step_12) rfl gf_9_178 (Or.inl rfl) rfl
theorem z163_15 : Run d 163 15 [some (.ref o), a1, a2] [] M 0 0 Z ↔ Run d 163 16 [some (.ref o), a1, a2] [.ref o] M 0 0 Z := R_local (gd163 dX9_step_15) rfl rfl rfl
theorem z163_16 : Run d 163 16 [a0, a1, a2] [s0] M 0 0 Z ↔ Run d 163 17 [a0, a1, a2] [.int 0, s0] M 0 0 Z := R_iconst (gd163 dX9_step_16) (by decide)
theorem z163_17 : Run d 163 17 [a0, a1, a2] [.int x, .ref o] M 0 0 Z ↔ gObj M o 9 ∧ (x = 0 ∨ x = 1) ∧ Run d 163 20 [a0, a1, a2] [] (gsI M o 49 x) 0 0 Z := R_putZ (gd163 dX9_step_17) rfl gf_9_252 (Or.inl rfl) rfl
theorem z163_20 : Run d 163 20 [a0, some (.int x), a2] [] M 0 0 Z ↔ Run d 163 21 [a0, some (.int x), a2] [.int x] M 0 0 Z := R_local (gd163 dX9_step_20) rfl rfl rfl
theorem z163_21 : Run d 163 21 [a0, a1, a2] [s0] M 0 0 Z ↔ Call d 133 [s0] M (fun r M1 => Run d 163 24 [a0, a1, a2] (r.toList ++ []) M1 0 0 Z) := R_call (gd163 dX9_step_21) rfl rfl rfl rfl rfl rfl gc_9_190 rfl (by decide) (Nat.le_of_ble_eq_true rfl) (Nat.le_of_ble_eq_true rfl) rfl rfl rfl (Nat.le_of_ble_eq_true rfl) (Nat.le_of_ble_eq_true rfl)
theorem z163_24 : Run d 163 24 [a0, a1, a2] [.int x] M 0 0 Z ↔ (x = 0 → Run d 163 37 [a0, a1, a2] [] M 0 0 Z) ∧ (¬ (x = 0) → Run d 163 27 [a0, a1, a2] [] M 0 0 Z) := R_if (gd163 dX9_step_24) (show gTgt 24 13 = some 37 by decide) gIf_eq
theorem z163_27 : Run d 163 27 [some (.ref o), a1, a2] [] M 0 0 Z ↔ Run d 163 28 [some (.ref o), a1, a2] [.ref o] M 0 0 Z := R_local (gd163 dX9_step_27) rfl rfl rfl
theorem z163_28 : Run d 163 28 [a0, a1, a2] [.ref o] M 0 0 Z ↔ Run d 163 29 [a0, a1, a2] [.ref o, .ref o] M 0 0 Z := R_arith (gd163 dX9_step_28) rfl
theorem z163_29 : Run d 163 29 [a0, a1, a2] [.ref o, s0] M 0 0 Z ↔ gObj M o 9 ∧ Run d 163 32 [a0, a1, a2] [.int (M.1 o 13), s0] M 0 0 Z := R_getI (gd163 dX9_step_29) rfl gf_9_178 rfl
theorem z163_32 : Run d 163 32 [a0, a1, a2] [s1, s0] M 0 0 Z ↔ Run d 163 33 [a0, a1, a2] [.int 1, s1, s0] M 0 0 Z := R_iconst (gd163 dX9_step_32) (by decide)
theorem z163_33 : Run d 163 33 [a0, a1, a2] [.int y, .int x, s0] M 0 0 Z ↔ Run d 163 34 [a0, a1, a2] [.int (x + y), s0] M 0 0 Z := R_arith (gd163 dX9_step_33) rfl
theorem z163_34 : Run d 163 34 [a0, a1, a2] [.int x, .ref o] M 0 0 Z ↔ gObj M o 9 ∧ Run d 163 37 [a0, a1, a2] [] (gsI M o 13 x) 0 0 Z := R_putI (gd163 dX9_step_34) rfl gf_9_178 (Or.inl rfl) rfl
theorem z163_37 : Run d 163 37 [a0, some (.int x), a2] [] M 0 0 Z ↔ Run d 163 38 [a0, some (.int x), a2] [.int x] M 0 0 Z := R_local (gd163 dX9_step_37) rfl rfl rfl
theorem z163_38 : Run d 163 38 [a0, a1, a2] [s0] M 0 0 Z ↔ Call d 137 [s0] M (fun r M1 => Run d 163 41 [a0, a1, a2] (r.toList ++ []) M1 0 0 Z) := R_call (gd163 dX9_step_38) rfl rfl rfl rfl rfl rfl gc_9_215 rfl (by decide) (Nat.le_of_ble_eq_true rfl) (Nat.le_of_ble_eq_true rfl) rfl rfl rfl (Nat.le_of_ble_eq_true rfl) (Nat.le_of_ble_eq_true rfl)
theorem z163_41 : Run d 163 41 [a0, a1, a2] [.int x] M 0 0 Z ↔ (x = 0 → Run d 163 48 [a0, a1, a2] [] M 0 0 Z) ∧ (¬ (x = 0) → Run d 163 44 [a0, a1, a2] [] M 0 0 Z) := R_if (gd163 dX9_step_41) (show gTgt 41 7 = some 48 by decide) gIf_eq
theorem z163_44 : Run d 163 44 [a0, a1, a2] [] M 0 0 Z ↔ Run d 163 45 [a0, a1, a2] [.int 0] M 0 0 Z := R_iconst (gd163 dX9_step_44) (by decide)
theorem z163_45 : Run d 163 45 [a0, a1, a2] [s0] M 0 0 Z ↔ Run d 163 52 [a0, a1, a2] [s0] M 0 0 Z := R_goto (gd163 dX9_step_45) (show gTgt 45 7 = some 52 by decide)
theorem z163_48 : Run d 163 48 [some (.ref o), a1, a2] [] M 0 0 Z ↔ Run d 163 49 [some (.ref o), a1, a2] [.ref o] M 0 0 Z := R_local (gd163 dX9_step_48) rfl rfl rfl
theorem z163_49 : Run d 163 49 [a0, a1, a2] [.ref b] M 0 0 Z ↔ gObj M b 9 ∧ Call d 148 [.ref b] M (fun r M1 => Run d 163 52 [a0, a1, a2] (r.toList ++ []) M1 0 0 Z) := R_callV (gd163 dX9_step_49) rfl rfl rfl rfl rfl rfl gc_9_294 rfl rfl (Nat.le_of_ble_eq_true rfl) (Nat.le_of_ble_eq_true rfl) rfl rfl (Nat.le_of_ble_eq_true rfl) (Nat.le_of_ble_eq_true rfl)
theorem z163_52 : Run d 163 52 [a0, a1, a2] [.int x] M 0 0 Z ↔ Run d 163 53 [a0, a1, some (.int x)] [] M 0 0 Z := R_local (gd163 dX9_step_52) rfl rfl rfl
theorem z163_53 : Run d 163 53 [a0, some (.int x), a2] [] M 0 0 Z ↔ Run d 163 54 [a0, some (.int x), a2] [.int x] M 0 0 Z := R_local (gd163 dX9_step_53) rfl rfl rfl
theorem z163_54 : Run d 163 54 [a0, a1, a2] [.int x] M 0 0 Z ↔ (x = 91 → Run d 163 300 [a0, a1, a2] [] M 0 0 Z) ∧ (¬ x = 91 → ((x = 100 → Run d 163 214 [a0, a1, a2] [] M 0 0 Z) ∧ (¬ x = 100 → ((x = 102 → Run d 163 277 [a0, a1, a2] [] M 0 0 Z) ∧ (¬ x = 102 → ((x = 104 → Run d 163 240 [a0, a1, a2] [] M 0 0 Z) ∧ (¬ x = 104 → ((x = 112 → Run d 163 192 [a0, a1, a2] [] M 0 0 Z) ∧ (¬ x = 112 → ((x = 114 → Run d 163 255 [a0, a1, a2] [] M 0 0 Z) ∧ (¬ x = 114 → ((x = 115 → Run d 163 233 [a0, a1, a2] [] M 0 0 Z) ∧ (¬ x = 115 → ((x = 116 → Run d 163 248 [a0, a1, a2] [] M 0 0 Z) ∧ (¬ x = 116 → ((x = 117 → Run d 163 214 [a0, a1, a2] [] M 0 0 Z) ∧ (¬ x = 117 → ((x = 119 → Run d 163 184 [a0, a1, a2] [] M 0 0 Z) ∧ (¬ x = 119 → (Run d 163 308 [a0, a1, a2] [] M 0 0 Z)))))))))))))))))))) := R_table (tbl := [(91, 300), (100, 214), (102, 277), (104, 240), (112, 192), (114, 255), (115, 233), (116, 248), (117, 214), (119, 184)]) (dt := 308) (gd163 dX9_step_54) (by decide) (by decide) (by decide)
theorem z163_184 : Run d 163 184 [some (.ref o), a1, a2] [] M 0 0 Z ↔ Run d 163 185 [some (.ref o), a1, a2] [.ref o] M 0 0 Z := R_local (gd163 dX9_step_184) rfl rfl rfl
theorem z163_185 : Run d 163 185 [a0, a1, some (.int x)] [s0] M 0 0 Z ↔ Run d 163 186 [a0, a1, some (.int x)] [.int x, s0] M 0 0 Z := R_local (gd163 dX9_step_185) rfl rfl rfl
theorem z163_186 : Run d 163 186 [a0, a1, a2] [s1, .ref b] M 0 0 Z ↔ gObj M b 9 ∧ Call d 155 [.ref b, s1] M (fun r M1 => Run d 163 189 [a0, a1, a2] (r.toList ++ []) M1 0 0 Z) := R_callV (gd163 dX9_step_186) rfl rfl rfl rfl rfl rfl gc_9_297 rfl rfl (Nat.le_of_ble_eq_true rfl) (Nat.le_of_ble_eq_true rfl) rfl rfl (Nat.le_of_ble_eq_true rfl) (Nat.le_of_ble_eq_true rfl)
theorem z163_189 : Run d 163 189 [a0, a1, a2] [] M 0 0 Z ↔ Run d 163 333 [a0, a1, a2] [] M 0 0 Z := R_goto (gd163 dX9_step_189) (show gTgt 189 144 = some 333 by decide)
theorem z163_192 : Run d 163 192 [some (.ref o), a1, a2] [] M 0 0 Z ↔ Run d 163 193 [some (.ref o), a1, a2] [.ref o] M 0 0 Z := R_local (gd163 dX9_step_192) rfl rfl rfl
theorem z163_193 : Run d 163 193 [a0, a1, a2] [.ref o] M 0 0 Z ↔ Run d 163 194 [a0, a1, a2] [.ref o, .ref o] M 0 0 Z := R_arith (gd163 dX9_step_193) rfl
theorem z163_194 : Run d 163 194 [a0, a1, a2] [.ref o, s0] M 0 0 Z ↔ gObj M o 9 ∧ Run d 163 197 [a0, a1, a2] [.int (M.1 o 13), s0] M 0 0 Z := R_getI (gd163 dX9_step_194) rfl gf_9_178 rfl
theorem z163_197 : Run d 163 197 [a0, a1, a2] [s1, s0] M 0 0 Z ↔ Run d 163 198 [a0, a1, a2] [.int 1, s1, s0] M 0 0 Z := R_iconst (gd163 dX9_step_197) (by decide)
theorem z163_198 : Run d 163 198 [a0, a1, a2] [.int y, .int x, s0] M 0 0 Z ↔ Run d 163 199 [a0, a1, a2] [.int (x + y), s0] M 0 0 Z := R_arith (gd163 dX9_step_198) rfl
theorem z163_199 : Run d 163 199 [a0, a1, a2] [.int x, .ref o] M 0 0 Z ↔ gObj M o 9 ∧ Run d 163 202 [a0, a1, a2] [] (gsI M o 13 x) 0 0 Z := R_putI (gd163 dX9_step_199) rfl gf_9_178 (Or.inl rfl) rfl
theorem z163_202 : Run d 163 202 [some (.ref o), a1, a2] [] M 0 0 Z ↔ Run d 163 203 [some (.ref o), a1, a2] [.ref o] M 0 0 Z := R_local (gd163 dX9_step_202) rfl rfl rfl
theorem z163_203 : Run d 163 203 [a0, a1, some (.int x)] [s0] M 0 0 Z ↔ Run d 163 204 [a0, a1, some (.int x)] [.int x, s0] M 0 0 Z := R_local (gd163 dX9_step_203) rfl rfl rfl
theorem z163_204 : Run d 163 204 [some (.ref o), a1, a2] [s1, s0] M 0 0 Z ↔ Run d 163 205 [some (.ref o), a1, a2] [.ref o, s1, s0] M 0 0 Z := R_local (gd163 dX9_step_204) rfl rfl rfl
theorem z163_205 : Run d 163 205 [a0, a1, a2] [.ref b, s1, s0] M 0 0 Z ↔ gObj M b 9 ∧ Call d 148 [.ref b] M (fun r M1 => Run d 163 208 [a0, a1, a2] (r.toList ++ [s1, s0]) M1 0 0 Z) := R_callV (gd163 dX9_step_205) rfl rfl rfl rfl rfl rfl gc_9_294 rfl rfl (Nat.le_of_ble_eq_true rfl) (Nat.le_of_ble_eq_true rfl) rfl rfl (Nat.le_of_ble_eq_true rfl) (Nat.le_of_ble_eq_true rfl)
theorem z163_208 : Run d 163 208 [a0, a1, a2] [s2, s1, .ref b] M 0 0 Z ↔ gObj M b 9 ∧ Call d 156 [.ref b, s1, s2] M (fun r M1 => Run d 163 211 [a0, a1, a2] (r.toList ++ []) M1 0 0 Z) := R_callV (gd163 dX9_step_208) rfl rfl rfl rfl rfl rfl gc_9_300 rfl rfl (Nat.le_of_ble_eq_true rfl) (Nat.le_of_ble_eq_true rfl) rfl rfl (Nat.le_of_ble_eq_true rfl) (Nat.le_of_ble_eq_true rfl)
theorem z163_211 : Run d 163 211 [a0, a1, a2] [] M 0 0 Z ↔ Run d 163 333 [a0, a1, a2] [] M 0 0 Z := R_goto (gd163 dX9_step_211) (show gTgt 211 122 = some 333 by decide)
theorem z163_214 : Run d 163 214 [some (.ref o), a1, a2] [] M 0 0 Z ↔ Run d 163 215 [some (.ref o), a1, a2] [.ref o] M 0 0 Z := R_local (gd163 dX9_step_214) rfl rfl rfl
theorem z163_215 : Run d 163 215 [a0, a1, some (.int x)] [s0] M 0 0 Z ↔ Run d 163 216 [a0, a1, some (.int x)] [.int x, s0] M 0 0 Z := R_local (gd163 dX9_step_215) rfl rfl rfl
theorem z163_216 : Run d 163 216 [a0, some (.int x), a2] [s1, s0] M 0 0 Z ↔ Run d 163 217 [a0, some (.int x), a2] [.int x, s1, s0] M 0 0 Z := R_local (gd163 dX9_step_216) rfl rfl rfl
theorem z163_217 : Run d 163 217 [a0, a1, a2] [s2, s1, s0] M 0 0 Z ↔ Run d 163 219 [a0, a1, a2] [.int 117, s2, s1, s0] M 0 0 Z := R_bipush (gd163 dX9_step_217) (by decide)
theorem z163_219 : Run d 163 219 [a0, a1, a2] [.int y, .int x, s1, s0] M 0 0 Z ↔ (¬ x = y → Run d 163 226 [a0, a1, a2] [s1, s0] M 0 0 Z) ∧ (¬ (¬ x = y) → Run d 163 222 [a0, a1, a2] [s1, s0] M 0 0 Z) := R_icmp (gd163 dX9_step_219) (show gTgt 219 7 = some 226 by decide) gIf_ne
theorem z163_222 : Run d 163 222 [a0, a1, a2] [s1, s0] M 0 0 Z ↔ Run d 163 223 [a0, a1, a2] [.int 1, s1, s0] M 0 0 Z := R_iconst (gd163 dX9_step_222) (by decide)
theorem z163_223 : Run d 163 223 [a0, a1, a2] [s2, s1, s0] M 0 0 Z ↔ Run d 163 227 [a0, a1, a2] [s2, s1, s0] M 0 0 Z := R_goto (gd163 dX9_step_223) (show gTgt 223 4 = some 227 by decide)
theorem z163_226 : Run d 163 226 [a0, a1, a2] [s1, s0] M 0 0 Z ↔ Run d 163 227 [a0, a1, a2] [.int 0, s1, s0] M 0 0 Z := R_iconst (gd163 dX9_step_226) (by decide)
theorem z163_227 : Run d 163 227 [a0, a1, a2] [s2, s1, .ref b] M 0 0 Z ↔ gObj M b 9 ∧ Call d 157 [.ref b, s1, s2] M (fun r M1 => Run d 163 230 [a0, a1, a2] (r.toList ++ []) M1 0 0 Z) := R_callV (gd163 dX9_step_227) rfl rfl rfl rfl rfl rfl gc_9_304 rfl rfl (Nat.le_of_ble_eq_true rfl) (Nat.le_of_ble_eq_true rfl) rfl rfl (Nat.le_of_ble_eq_true rfl) (Nat.le_of_ble_eq_true rfl)
theorem z163_230 : Run d 163 230 [a0, a1, a2] [] M 0 0 Z ↔ Run d 163 333 [a0, a1, a2] [] M 0 0 Z := R_goto (gd163 dX9_step_230) (show gTgt 230 103 = some 333 by decide)
theorem z163_233 : Run d 163 233 [some (.ref o), a1, a2] [] M 0 0 Z ↔ Run d 163 234 [some (.ref o), a1, a2] [.ref o] M 0 0 Z := R_local (gd163 dX9_step_233) rfl rfl rfl
theorem z163_234 : Run d 163 234 [a0, a1, a2] [.ref b] M 0 0 Z ↔ gObj M b 9 ∧ Call d 158 [.ref b] M (fun r M1 => Run d 163 237 [a0, a1, a2] (r.toList ++ []) M1 0 0 Z) := R_callV (gd163 dX9_step_234) rfl rfl rfl rfl rfl rfl gc_9_308 rfl rfl (Nat.le_of_ble_eq_true rfl) (Nat.le_of_ble_eq_true rfl) rfl rfl (Nat.le_of_ble_eq_true rfl) (Nat.le_of_ble_eq_true rfl)
theorem z163_237 : Run d 163 237 [a0, a1, a2] [] M 0 0 Z ↔ Run d 163 333 [a0, a1, a2] [] M 0 0 Z := R_goto (gd163 dX9_step_237) (show gTgt 237 96 = some 333 by decide)
theorem z163_240 : Run d 163 240 [some (.ref o), a1, a2] [] M 0 0 Z ↔ Run d 163 241 [some (.ref o), a1, a2] [.ref o] M 0 0 Z := R_local (gd163 dX9_step_240) rfl rfl rfl
theorem z163_241 : Run d 163 241 [a0, a1, some (.int x)] [s0] M 0 0 Z ↔ Run d 163 242 [a0, a1, some (.int x)] [.int x, s0] M 0 0 Z := R_local (gd163 dX9_step_241) rfl rfl rfl
theorem z163_242 : Run d 163 242 [a0, a1, a2] [s1, .ref b] M 0 0 Z ↔ gObj M b 9 ∧ Call d 159 [.ref b, s1] M (fun r M1 => Run d 163 245 [a0, a1, a2] (r.toList ++ []) M1 0 0 Z) := R_callV (gd163 dX9_step_242) rfl rfl rfl rfl rfl rfl gc_9_311 rfl rfl (Nat.le_of_ble_eq_true rfl) (Nat.le_of_ble_eq_true rfl) rfl rfl (Nat.le_of_ble_eq_true rfl) (Nat.le_of_ble_eq_true rfl)
theorem z163_245 : Run d 163 245 [a0, a1, a2] [] M 0 0 Z ↔ Run d 163 333 [a0, a1, a2] [] M 0 0 Z := R_goto (gd163 dX9_step_245) (show gTgt 245 88 = some 333 by decide)
theorem z163_248 : Run d 163 248 [some (.ref o), a1, a2] [] M 0 0 Z ↔ Run d 163 249 [some (.ref o), a1, a2] [.ref o] M 0 0 Z := R_local (gd163 dX9_step_248) rfl rfl rfl
theorem z163_249 : Run d 163 249 [a0, a1, a2] [.ref b] M 0 0 Z ↔ gObj M b 9 ∧ Call d 160 [.ref b] M (fun r M1 => Run d 163 252 [a0, a1, a2] (r.toList ++ []) M1 0 0 Z) := R_callV (gd163 dX9_step_249) rfl rfl rfl rfl rfl rfl gc_9_314 rfl rfl (Nat.le_of_ble_eq_true rfl) (Nat.le_of_ble_eq_true rfl) rfl rfl (Nat.le_of_ble_eq_true rfl) (Nat.le_of_ble_eq_true rfl)
theorem z163_252 : Run d 163 252 [a0, a1, a2] [] M 0 0 Z ↔ Run d 163 333 [a0, a1, a2] [] M 0 0 Z := R_goto (gd163 dX9_step_252) (show gTgt 252 81 = some 333 by decide)
theorem z163_255 : Run d 163 255 [some (.ref o), a1, a2] [] M 0 0 Z ↔ Run d 163 256 [some (.ref o), a1, a2] [.ref o] M 0 0 Z := R_local (gd163 dX9_step_255) rfl rfl rfl
theorem z163_256 : Run d 163 256 [a0, a1, a2] [.ref o] M 0 0 Z ↔ gObj M o 9 ∧ Run d 163 259 [a0, a1, a2] [va_rf (M.2.1 o 30)] M 0 0 Z := R_getR (gd163 dX9_step_256) rfl gf_9_77 rfl
theorem z163_259 : Run d 163 259 [some (.ref o), a1, a2] [s0] M 0 0 Z ↔ Run d 163 260 [some (.ref o), a1, a2] [.ref o, s0] M 0 0 Z := R_local (gd163 dX9_step_259) rfl rfl rfl
theorem z163_260 : Run d 163 260 [a0, a1, a2] [.ref o, s0] M 0 0 Z ↔ gObj M o 9 ∧ Run d 163 263 [a0, a1, a2] [.int (M.1 o 36), s0] M 0 0 Z := R_getI (gd163 dX9_step_260) rfl gf_9_233 rfl
theorem z163_263 : Run d 163 263 [some (.ref o), a1, a2] [s1, s0] M 0 0 Z ↔ Run d 163 264 [some (.ref o), a1, a2] [.ref o, s1, s0] M 0 0 Z := R_local (gd163 dX9_step_263) rfl rfl rfl
theorem z163_264 : Run d 163 264 [a0, a1, a2] [.ref o, s1, s0] M 0 0 Z ↔ gObj M o 9 ∧ Run d 163 267 [a0, a1, a2] [va_rf (M.2.1 o 30), s1, s0] M 0 0 Z := R_getR (gd163 dX9_step_264) rfl gf_9_77 rfl
theorem z163_267 : Run d 163 267 [some (.ref o), a1, a2] [s2, s1, s0] M 0 0 Z ↔ Run d 163 268 [some (.ref o), a1, a2] [.ref o, s2, s1, s0] M 0 0 Z := R_local (gd163 dX9_step_267) rfl rfl rfl
theorem z163_268 : Run d 163 268 [a0, a1, a2] [.ref o, s2, s1, s0] M 0 0 Z ↔ gObj M o 9 ∧ Run d 163 271 [a0, a1, a2] [.int (M.1 o 36), s2, s1, s0] M 0 0 Z := R_getI (gd163 dX9_step_268) rfl gf_9_233 rfl
theorem z163_271 : Run d 163 271 [a0, a1, a2] [.int x, .ref o, s1, s0] M 0 0 Z ↔ gAr M o 0 ∧ gIn x (gLen M o) = true ∧ Run d 163 272 [a0, a1, a2] [.int (M.1 o x.toNatClampNeg), s1, s0] M 0 0 Z := R_iald (gd163 dX9_step_271)
theorem z163_272 : Run d 163 272 [a0, a1, a2] [.int x, s1, s0] M 0 0 Z ↔ Run d 163 273 [a0, a1, a2] [.int (-x), s1, s0] M 0 0 Z := R_arith (gd163 dX9_step_272) rfl
theorem z163_273 : Run d 163 273 [a0, a1, a2] [.int y, .int x, .ref o] M 0 0 Z ↔ gAr M o 0 ∧ gIn x (gLen M o) = true ∧ Run d 163 274 [a0, a1, a2] [] (gsI M o x.toNatClampNeg y) 0 0 Z := R_iast (gd163 dX9_step_273)
theorem z163_274 : Run d 163 274 [a0, a1, a2] [] M 0 0 Z ↔ Run d 163 333 [a0, a1, a2] [] M 0 0 Z := R_goto (gd163 dX9_step_274) (show gTgt 274 59 = some 333 by decide)
theorem z163_277 : Run d 163 277 [some (.ref o), a1, a2] [] M 0 0 Z ↔ Run d 163 278 [some (.ref o), a1, a2] [.ref o] M 0 0 Z := R_local (gd163 dX9_step_277) rfl rfl rfl
theorem z163_278 : Run d 163 278 [a0, a1, a2] [.ref o] M 0 0 Z ↔ gObj M o 9 ∧ Run d 163 281 [a0, a1, a2] [va_rf (M.2.1 o 31)] M 0 0 Z := R_getR (gd163 dX9_step_278) rfl gf_9_80 rfl
theorem z163_281 : Run d 163 281 [some (.ref o), a1, a2] [s0] M 0 0 Z ↔ Run d 163 282 [some (.ref o), a1, a2] [.ref o, s0] M 0 0 Z := R_local (gd163 dX9_step_281) rfl rfl rfl
theorem z163_282 : Run d 163 282 [a0, a1, a2] [.ref o, s0] M 0 0 Z ↔ gObj M o 9 ∧ Run d 163 285 [a0, a1, a2] [.int (M.1 o 36), s0] M 0 0 Z := R_getI (gd163 dX9_step_282) rfl gf_9_233 rfl
theorem z163_285 : Run d 163 285 [a0, a1, a2] [s1, s0] M 0 0 Z ↔ Run d 163 286 [a0, a1, a2] [.int 1, s1, s0] M 0 0 Z := R_iconst (gd163 dX9_step_285) (by decide)
theorem z163_286 : Run d 163 286 [some (.ref o), a1, a2] [s2, s1, s0] M 0 0 Z ↔ Run d 163 287 [some (.ref o), a1, a2] [.ref o, s2, s1, s0] M 0 0 Z := R_local (gd163 dX9_step_286) rfl rfl rfl
theorem z163_287 : Run d 163 287 [a0, a1, a2] [.ref o, s2, s1, s0] M 0 0 Z ↔ gObj M o 9 ∧ Run d 163 290 [a0, a1, a2] [va_rf (M.2.1 o 31), s2, s1, s0] M 0 0 Z := R_getR (gd163 dX9_step_287) rfl gf_9_80 rfl
theorem z163_290 : Run d 163 290 [some (.ref o), a1, a2] [s3, s2, s1, s0] M 0 0 Z ↔ Run d 163 291 [some (.ref o), a1, a2] [.ref o, s3, s2, s1, s0] M 0 0 Z := R_local (gd163 dX9_step_290) rfl rfl rfl
theorem z163_291 : Run d 163 291 [a0, a1, a2] [.ref o, s3, s2, s1, s0] M 0 0 Z ↔ gObj M o 9 ∧ Run d 163 294 [a0, a1, a2] [.int (M.1 o 36), s3, s2, s1, s0] M 0 0 Z := R_getI (gd163 dX9_step_291) rfl gf_9_233 rfl
theorem z163_294 : Run d 163 294 [a0, a1, a2] [.int x, .ref o, s2, s1, s0] M 0 0 Z ↔ gAr M o 0 ∧ gIn x (gLen M o) = true ∧ Run d 163 295 [a0, a1, a2] [.int (M.1 o x.toNatClampNeg), s2, s1, s0] M 0 0 Z := R_iald (gd163 dX9_step_294)
theorem z163_295 : Run d 163 295 [a0, a1, a2] [.int y, .int x, s1, s0] M 0 0 Z ↔ Run d 163 296 [a0, a1, a2] [.int (x - y), s1, s0] M 0 0 Z := R_arith (gd163 dX9_step_295) rfl
theorem z163_296 : Run d 163 296 [a0, a1, a2] [.int y, .int x, .ref o] M 0 0 Z ↔ gAr M o 0 ∧ gIn x (gLen M o) = true ∧ Run d 163 297 [a0, a1, a2] [] (gsI M o x.toNatClampNeg y) 0 0 Z := R_iast (gd163 dX9_step_296)
theorem z163_297 : Run d 163 297 [a0, a1, a2] [] M 0 0 Z ↔ Run d 163 333 [a0, a1, a2] [] M 0 0 Z := R_goto (gd163 dX9_step_297) (show gTgt 297 36 = some 333 by decide)
theorem z163_300 : Run d 163 300 [some (.ref o), a1, a2] [] M 0 0 Z ↔ Run d 163 301 [some (.ref o), a1, a2] [.ref o] M 0 0 Z := R_local (gd163 dX9_step_300) rfl rfl rfl
theorem z163_301 : Run d 163 301 [a0, a1, some (.int x)] [s0] M 0 0 Z ↔ Run d 163 302 [a0, a1, some (.int x)] [.int x, s0] M 0 0 Z := R_local (gd163 dX9_step_301) rfl rfl rfl
theorem z163_302 : Run d 163 302 [a0, a1, a2] [s1, .ref b] M 0 0 Z ↔ gObj M b 9 ∧ Call d 162 [.ref b, s1] M (fun r M1 => Run d 163 305 [a0, a1, a2] (r.toList ++ []) M1 0 0 Z) := R_callV (gd163 dX9_step_302) rfl rfl rfl rfl rfl rfl gc_9_317 rfl rfl (Nat.le_of_ble_eq_true rfl) (Nat.le_of_ble_eq_true rfl) rfl rfl (Nat.le_of_ble_eq_true rfl) (Nat.le_of_ble_eq_true rfl)
theorem z163_305 : Run d 163 305 [a0, a1, a2] [] M 0 0 Z ↔ Run d 163 333 [a0, a1, a2] [] M 0 0 Z := R_goto (gd163 dX9_step_305) (show gTgt 305 28 = some 333 by decide)
theorem z163_308 : Run d 163 308 [some (.ref o), a1, a2] [] M 0 0 Z ↔ Run d 163 309 [some (.ref o), a1, a2] [.ref o] M 0 0 Z := R_local (gd163 dX9_step_308) rfl rfl rfl
theorem z163_309 : Run d 163 309 [a0, a1, a2] [.ref o] M 0 0 Z ↔ gObj M o 9 ∧ Run d 163 312 [a0, a1, a2] [.int (M.1 o 49)] M 0 0 Z := R_getI (gd163 dX9_step_309) rfl gf_9_252 rfl
theorem z163_312 : Run d 163 312 [a0, a1, a2] [.int x] M 0 0 Z ↔ (x = 0 → Run d 163 323 [a0, a1, a2] [] M 0 0 Z) ∧ (¬ (x = 0) → Run d 163 315 [a0, a1, a2] [] M 0 0 Z) := R_if (gd163 dX9_step_312) (show gTgt 312 11 = some 323 by decide) gIf_eq
theorem z163_315 : Run d 163 315 [some (.ref o), a1, a2] [] M 0 0 Z ↔ Run d 163 316 [some (.ref o), a1, a2] [.ref o] M 0 0 Z := R_local (gd163 dX9_step_315) rfl rfl rfl
theorem z163_316 : Run d 163 316 [a0, a1, a2] [s0] M 0 0 Z ↔ Run d 163 317 [a0, a1, a2] [.int 5, s0] M 0 0 Z := R_iconst (gd163 dX9_step_316) (by decide)
theorem z163_317 : Run d 163 317 [a0, a1, a2] [s1, .ref b] M 0 0 Z ↔ gObj M b 9 ∧ Call d 149 [.ref b, s1] M (fun r M1 => Run d 163 320 [a0, a1, a2] (r.toList ++ []) M1 0 0 Z) := R_callV (gd163 dX9_step_317) rfl rfl rfl rfl rfl rfl gc_9_275 rfl rfl (Nat.le_of_ble_eq_true rfl) (Nat.le_of_ble_eq_true rfl) rfl rfl (Nat.le_of_ble_eq_true rfl) (Nat.le_of_ble_eq_true rfl)
theorem z163_320 : Run d 163 320 [a0, a1, a2] [] M 0 0 Z ↔ Run d 163 333 [a0, a1, a2] [] M 0 0 Z := R_goto (gd163 dX9_step_320) (show gTgt 320 13 = some 333 by decide)
theorem z163_323 : Run d 163 323 [some (.ref o), a1, a2] [] M 0 0 Z ↔ Run d 163 324 [some (.ref o), a1, a2] [.ref o] M 0 0 Z := R_local (gd163 dX9_step_323) rfl rfl rfl
theorem z163_324 : Run d 163 324 [a0, a1, a2] [.ref o] M 0 0 Z ↔ gObj M o 9 ∧ Run d 163 327 [a0, a1, a2] [va_rf (M.2.1 o 41)] M 0 0 Z := R_getR (gd163 dX9_step_324) rfl gf_9_95 rfl
theorem z163_327 : Run d 163 327 [a0, some (.int x), a2] [s0] M 0 0 Z ↔ Run d 163 328 [a0, some (.int x), a2] [.int x, s0] M 0 0 Z := R_local (gd163 dX9_step_327) rfl rfl rfl
theorem z163_328 : Run d 163 328 [a0, a1, a2] [s1, s0] M 0 0 Z ↔ Run d 163 330 [a0, a1, a2] [.int 120, s1, s0] M 0 0 Z := R_bipush (gd163 dX9_step_328) (by decide)
theorem z163_330 : Run d 163 330 [a0, a1, a2] [.int y, .int x, s0] M 0 0 Z ↔ Run d 163 331 [a0, a1, a2] [.int (x - y), s0] M 0 0 Z := R_arith (gd163 dX9_step_330) rfl
theorem z163_331 : Run d 163 331 [a0, a1, some (.int x)] [s1, s0] M 0 0 Z ↔ Run d 163 332 [a0, a1, some (.int x)] [.int x, s1, s0] M 0 0 Z := R_local (gd163 dX9_step_331) rfl rfl rfl
theorem z163_332 : Run d 163 332 [a0, a1, a2] [.int y, .int x, .ref o] M 0 0 Z ↔ gAr M o 0 ∧ gIn x (gLen M o) = true ∧ Run d 163 333 [a0, a1, a2] [] (gsI M o x.toNatClampNeg y) 0 0 Z := R_iast (gd163 dX9_step_332)
theorem z163_333 : Run d 163 333 [a0, a1, a2] [] M 0 0 Z ↔ Z none M := R_vret (gd163 dX9_step_333) rfl
theorem e163 : Call (d + 1) 163 [s0] M Z ↔ Run d 163 0 [some s0, none, none] [] M 0 0 Z := Call_iff (Nat.lt_of_lt_of_le (Nat.lt_succ_self 163) (Nat.le_of_ble_eq_true rfl)) (Nat.le_of_ble_eq_true rfl)
/-! 164: X9_goesOn ()V -/
theorem gd164 {pc : Nat} {r : Except _ _} (h : decode cX9_goesOn pc = r) : decode (gby 164) pc = r := h
theorem z164_0 : Run d 164 0 [some (.ref o)] [] M 0 0 Z ↔ Run d 164 1 [some (.ref o)] [.ref o] M 0 0 Z := R_local (gd164 dX9_goesOn_0) rfl rfl rfl
theorem z164_1 : Run d 164 1 [a0] [.ref o] M 0 0 Z ↔ gObj M o 9 ∧ Run d 164 4 [a0] [.int (M.1 o 13)] M 0 0 Z := R_getI (gd164 dX9_goesOn_1) rfl gf_9_178 rfl
theorem z164_4 : Run d 164 4 [some (.ref o)] [s0] M 0 0 Z ↔ Run d 164 5 [some (.ref o)] [.ref o, s0] M 0 0 Z := R_local (gd164 dX9_goesOn_4) rfl rfl rfl
theorem z164_5 : Run d 164 5 [a0] [.ref o, s0] M 0 0 Z ↔ gObj M o 9 ∧ Run d 164 8 [a0] [.int (M.1 o 14), s0] M 0 0 Z := R_getI (gd164 dX9_goesOn_5) rfl gf_9_181 rfl
theorem z164_8 : Run d 164 8 [a0] [.int y, .int x] M 0 0 Z ↔ (y ≤ x → Run d 164 88 [a0] [] M 0 0 Z) ∧ (¬ (y ≤ x) → Run d 164 11 [a0] [] M 0 0 Z) := R_icmp (gd164 dX9_goesOn_8) (show gTgt 8 80 = some 88 by decide) gIf_ge
theorem z164_11 : Run d 164 11 [some (.ref o)] [] M 0 0 Z ↔ Run d 164 12 [some (.ref o)] [.ref o] M 0 0 Z := R_local (gd164 dX9_goesOn_11) rfl rfl rfl
theorem z164_12 : Run d 164 12 [a0] [.ref b] M 0 0 Z ↔ gObj M b 9 ∧ Call d 130 [.ref b] M (fun r M1 => Run d 164 15 [a0] (r.toList ++ []) M1 0 0 Z) := R_callV (gd164 dX9_goesOn_12) rfl rfl rfl rfl rfl rfl gc_9_196 rfl rfl (Nat.le_of_ble_eq_true rfl) (Nat.le_of_ble_eq_true rfl) rfl rfl (Nat.le_of_ble_eq_true rfl) (Nat.le_of_ble_eq_true rfl)
theorem z164_15 : Run d 164 15 [a0] [s0] M 0 0 Z ↔ Run d 164 17 [a0] [.int 93, s0] M 0 0 Z := R_bipush (gd164 dX9_goesOn_15) (by decide)
theorem z164_17 : Run d 164 17 [a0] [.int y, .int x] M 0 0 Z ↔ (¬ x = y → Run d 164 88 [a0] [] M 0 0 Z) ∧ (¬ (¬ x = y) → Run d 164 20 [a0] [] M 0 0 Z) := R_icmp (gd164 dX9_goesOn_17) (show gTgt 17 71 = some 88 by decide) gIf_ne
theorem z164_20 : Run d 164 20 [some (.ref o)] [] M 0 0 Z ↔ Run d 164 21 [some (.ref o)] [.ref o] M 0 0 Z := R_local (gd164 dX9_goesOn_20) rfl rfl rfl
theorem z164_21 : Run d 164 21 [a0] [.ref o] M 0 0 Z ↔ gObj M o 9 ∧ Run d 164 24 [a0] [va_rf (M.2.1 o 43)] M 0 0 Z := R_getR (gd164 dX9_goesOn_21) rfl gf_9_101 rfl
theorem z164_24 : Run d 164 24 [some (.ref o)] [s0] M 0 0 Z ↔ Run d 164 25 [some (.ref o)] [.ref o, s0] M 0 0 Z := R_local (gd164 dX9_goesOn_24) rfl rfl rfl
theorem z164_25 : Run d 164 25 [a0] [.ref o, s0] M 0 0 Z ↔ gObj M o 9 ∧ Run d 164 28 [a0] [.int (M.1 o 44), s0] M 0 0 Z := R_getI (gd164 dX9_goesOn_25) rfl gf_9_291 rfl
theorem z164_28 : Run d 164 28 [a0] [s1, s0] M 0 0 Z ↔ Run d 164 29 [a0] [.int 1, s1, s0] M 0 0 Z := R_iconst (gd164 dX9_goesOn_28) (by decide)
theorem z164_29 : Run d 164 29 [a0] [.int y, .int x, s0] M 0 0 Z ↔ Run d 164 30 [a0] [.int (x - y), s0] M 0 0 Z := R_arith (gd164 dX9_goesOn_29) rfl
theorem z164_30 : Run d 164 30 [a0] [.int y, .ref o] M 0 0 Z ↔ Run d 164 31 [a0] [.int y, .ref o, .int y, .ref o] M 0 0 Z := R_arith (gd164 dX9_goesOn_30) rfl
theorem z164_31 : Run d 164 31 [a0] [.int x, .ref o, s1, s0] M 0 0 Z ↔ gAr M o 0 ∧ gIn x (gLen M o) = true ∧ Run d 164 32 [a0] [.int (M.1 o x.toNatClampNeg), s1, s0] M 0 0 Z := R_iald (gd164 dX9_goesOn_31)
theorem z164_32 : Run d 164 32 [a0] [s2, s1, s0] M 0 0 Z ↔ Run d 164 33 [a0] [.int 1, s2, s1, s0] M 0 0 Z := R_iconst (gd164 dX9_goesOn_32) (by decide)
theorem z164_33 : Run d 164 33 [a0] [.int y, .int x, s1, s0] M 0 0 Z ↔ Run d 164 34 [a0] [.int (x - y), s1, s0] M 0 0 Z := R_arith (gd164 dX9_goesOn_33) rfl
theorem z164_34 : Run d 164 34 [a0] [.int y, .int x, .ref o] M 0 0 Z ↔ gAr M o 0 ∧ gIn x (gLen M o) = true ∧ Run d 164 35 [a0] [] (gsI M o x.toNatClampNeg y) 0 0 Z := R_iast (gd164 dX9_goesOn_34)
theorem z164_35 : Run d 164 35 [some (.ref o)] [] M 0 0 Z ↔ Run d 164 36 [some (.ref o)] [.ref o] M 0 0 Z := R_local (gd164 dX9_goesOn_35) rfl rfl rfl
theorem z164_36 : Run d 164 36 [a0] [.ref o] M 0 0 Z ↔ gObj M o 9 ∧ Run d 164 39 [a0] [va_rf (M.2.1 o 43)] M 0 0 Z := R_getR (gd164 dX9_goesOn_36) rfl gf_9_101 rfl
theorem z164_39 : Run d 164 39 [some (.ref o)] [s0] M 0 0 Z ↔ Run d 164 40 [some (.ref o)] [.ref o, s0] M 0 0 Z := R_local (gd164 dX9_goesOn_39) rfl rfl rfl
theorem z164_40 : Run d 164 40 [a0] [.ref o, s0] M 0 0 Z ↔ gObj M o 9 ∧ Run d 164 43 [a0] [.int (M.1 o 44), s0] M 0 0 Z := R_getI (gd164 dX9_goesOn_40) rfl gf_9_291 rfl
theorem z164_43 : Run d 164 43 [a0] [s1, s0] M 0 0 Z ↔ Run d 164 44 [a0] [.int 1, s1, s0] M 0 0 Z := R_iconst (gd164 dX9_goesOn_43) (by decide)
theorem z164_44 : Run d 164 44 [a0] [.int y, .int x, s0] M 0 0 Z ↔ Run d 164 45 [a0] [.int (x - y), s0] M 0 0 Z := R_arith (gd164 dX9_goesOn_44) rfl
theorem z164_45 : Run d 164 45 [a0] [.int x, .ref o] M 0 0 Z ↔ gAr M o 0 ∧ gIn x (gLen M o) = true ∧ Run d 164 46 [a0] [.int (M.1 o x.toNatClampNeg)] M 0 0 Z := R_iald (gd164 dX9_goesOn_45)
theorem z164_46 : Run d 164 46 [a0] [.int x] M 0 0 Z ↔ (x ≤ 0 → Run d 164 65 [a0] [] M 0 0 Z) ∧ (¬ (x ≤ 0) → Run d 164 49 [a0] [] M 0 0 Z) := R_if (gd164 dX9_goesOn_46) (show gTgt 46 19 = some 65 by decide) gIf_le
theorem z164_49 : Run d 164 49 [some (.ref o)] [] M 0 0 Z ↔ Run d 164 50 [some (.ref o)] [.ref o] M 0 0 Z := R_local (gd164 dX9_goesOn_49) rfl rfl rfl
theorem z164_50 : Run d 164 50 [some (.ref o)] [s0] M 0 0 Z ↔ Run d 164 51 [some (.ref o)] [.ref o, s0] M 0 0 Z := R_local (gd164 dX9_goesOn_50) rfl rfl rfl
theorem z164_51 : Run d 164 51 [a0] [.ref o, s0] M 0 0 Z ↔ gObj M o 9 ∧ Run d 164 54 [a0] [va_rf (M.2.1 o 42), s0] M 0 0 Z := R_getR (gd164 dX9_goesOn_51) rfl gf_9_98 rfl
theorem z164_54 : Run d 164 54 [some (.ref o)] [s1, s0] M 0 0 Z ↔ Run d 164 55 [some (.ref o)] [.ref o, s1, s0] M 0 0 Z := R_local (gd164 dX9_goesOn_54) rfl rfl rfl
theorem z164_55 : Run d 164 55 [a0] [.ref o, s1, s0] M 0 0 Z ↔ gObj M o 9 ∧ Run d 164 58 [a0] [.int (M.1 o 44), s1, s0] M 0 0 Z := R_getI (gd164 dX9_goesOn_55) rfl gf_9_291 rfl
theorem z164_58 : Run d 164 58 [a0] [s2, s1, s0] M 0 0 Z ↔ Run d 164 59 [a0] [.int 1, s2, s1, s0] M 0 0 Z := R_iconst (gd164 dX9_goesOn_58) (by decide)
theorem z164_59 : Run d 164 59 [a0] [.int y, .int x, s1, s0] M 0 0 Z ↔ Run d 164 60 [a0] [.int (x - y), s1, s0] M 0 0 Z := R_arith (gd164 dX9_goesOn_59) rfl
theorem z164_60 : Run d 164 60 [a0] [.int x, .ref o, s0] M 0 0 Z ↔ gAr M o 0 ∧ gIn x (gLen M o) = true ∧ Run d 164 61 [a0] [.int (M.1 o x.toNatClampNeg), s0] M 0 0 Z := R_iald (gd164 dX9_goesOn_60)
theorem z164_61 : Run d 164 61 [a0] [.int x, .ref o] M 0 0 Z ↔ gObj M o 9 ∧ Run d 164 64 [a0] [] (gsI M o 13 x) 0 0 Z := R_putI (gd164 dX9_goesOn_61) rfl gf_9_178 (Or.inl rfl) rfl
theorem z164_64 : Run d 164 64 [a0] [] M 0 0 Z ↔ Z none M := R_vret (gd164 dX9_goesOn_64) rfl
theorem z164_65 : Run d 164 65 [some (.ref o)] [] M 0 0 Z ↔ Run d 164 66 [some (.ref o)] [.ref o] M 0 0 Z := R_local (gd164 dX9_goesOn_65) rfl rfl rfl
theorem z164_66 : Run d 164 66 [a0] [.ref o] M 0 0 Z ↔ Run d 164 67 [a0] [.ref o, .ref o] M 0 0 Z := R_arith (gd164 dX9_goesOn_66) rfl
theorem z164_67 : Run d 164 67 [a0] [.ref o, s0] M 0 0 Z ↔ gObj M o 9 ∧ Run d 164 70 [a0] [.int (M.1 o 44), s0] M 0 0 Z := R_getI (gd164 dX9_goesOn_67) rfl gf_9_291 rfl
theorem z164_70 : Run d 164 70 [a0] [s1, s0] M 0 0 Z ↔ Run d 164 71 [a0] [.int 1, s1, s0] M 0 0 Z := R_iconst (gd164 dX9_goesOn_70) (by decide)
theorem z164_71 : Run d 164 71 [a0] [.int y, .int x, s0] M 0 0 Z ↔ Run d 164 72 [a0] [.int (x - y), s0] M 0 0 Z := R_arith (gd164 dX9_goesOn_71) rfl
theorem z164_72 : Run d 164 72 [a0] [.int x, .ref o] M 0 0 Z ↔ gObj M o 9 ∧ Run d 164 75 [a0] [] (gsI M o 44 x) 0 0 Z := R_putI (gd164 dX9_goesOn_72) rfl gf_9_291 (Or.inl rfl) rfl
theorem z164_75 : Run d 164 75 [some (.ref o)] [] M 0 0 Z ↔ Run d 164 76 [some (.ref o)] [.ref o] M 0 0 Z := R_local (gd164 dX9_goesOn_75) rfl rfl rfl
theorem z164_76 : Run d 164 76 [a0] [.ref o] M 0 0 Z ↔ Run d 164 77 [a0] [.ref o, .ref o] M 0 0 Z := R_arith (gd164 dX9_goesOn_76) rfl
theorem z164_77 : Run d 164 77 [a0] [.ref o, s0] M 0 0 Z ↔ gObj M o 9 ∧ Run d 164 80 [a0] [.int (M.1 o 13), s0] M 0 0 Z := R_getI (gd164 dX9_goesOn_77) rfl gf_9_178 rfl
theorem z164_80 : Run d 164 80 [a0] [s1, s0] M 0 0 Z ↔ Run d 164 81 [a0] [.int 1, s1, s0] M 0 0 Z := R_iconst (gd164 dX9_goesOn_80) (by decide)
theorem z164_81 : Run d 164 81 [a0] [.int y, .int x, s0] M 0 0 Z ↔ Run d 164 82 [a0] [.int (x + y), s0] M 0 0 Z := R_arith (gd164 dX9_goesOn_81) rfl
theorem z164_82 : Run d 164 82 [a0] [.int x, .ref o] M 0 0 Z ↔ gObj M o 9 ∧ Run d 164 85 [a0] [] (gsI M o 13 x) 0 0 Z := R_putI (gd164 dX9_goesOn_82) rfl gf_9_178 (Or.inl rfl) rfl
theorem z164_85 : Run d 164 85 [a0] [] M 0 0 Z ↔ Run d 164 0 [a0] [] M 0 0 Z := R_goto (gd164 dX9_goesOn_85) (show gTgt 85 (-85) = some 0 by decide)
theorem z164_88 : Run d 164 88 [some (.ref o)] [] M 0 0 Z ↔ Run d 164 89 [some (.ref o)] [.ref o] M 0 0 Z := R_local (gd164 dX9_goesOn_88) rfl rfl rfl
theorem z164_89 : Run d 164 89 [a0] [.ref b] M 0 0 Z ↔ gObj M b 9 ∧ Call d 130 [.ref b] M (fun r M1 => Run d 164 92 [a0] (r.toList ++ []) M1 0 0 Z) := R_callV (gd164 dX9_goesOn_89) rfl rfl rfl rfl rfl rfl gc_9_196 rfl rfl (Nat.le_of_ble_eq_true rfl) (Nat.le_of_ble_eq_true rfl) rfl rfl (Nat.le_of_ble_eq_true rfl) (Nat.le_of_ble_eq_true rfl)
theorem z164_92 : Run d 164 92 [a0] [s0] M 0 0 Z ↔ Run d 164 94 [a0] [.int 59, s0] M 0 0 Z := R_bipush (gd164 dX9_goesOn_92) (by decide)
theorem z164_94 : Run d 164 94 [a0] [.int y, .int x] M 0 0 Z ↔ (¬ x = y → Run d 164 107 [a0] [] M 0 0 Z) ∧ (¬ (¬ x = y) → Run d 164 97 [a0] [] M 0 0 Z) := R_icmp (gd164 dX9_goesOn_94) (show gTgt 94 13 = some 107 by decide) gIf_ne
theorem z164_97 : Run d 164 97 [some (.ref o)] [] M 0 0 Z ↔ Run d 164 98 [some (.ref o)] [.ref o] M 0 0 Z := R_local (gd164 dX9_goesOn_97) rfl rfl rfl
theorem z164_98 : Run d 164 98 [a0] [.ref o] M 0 0 Z ↔ Run d 164 99 [a0] [.ref o, .ref o] M 0 0 Z := R_arith (gd164 dX9_goesOn_98) rfl
theorem z164_99 : Run d 164 99 [a0] [.ref o, s0] M 0 0 Z ↔ gObj M o 9 ∧ Run d 164 102 [a0] [.int (M.1 o 13), s0] M 0 0 Z := R_getI (gd164 dX9_goesOn_99) rfl gf_9_178 rfl
theorem z164_102 : Run d 164 102 [a0] [s1, s0] M 0 0 Z ↔ Run d 164 103 [a0] [.int 1, s1, s0] M 0 0 Z := R_iconst (gd164 dX9_goesOn_102) (by decide)
theorem z164_103 : Run d 164 103 [a0] [.int y, .int x, s0] M 0 0 Z ↔ Run d 164 104 [a0] [.int (x + y), s0] M 0 0 Z := R_arith (gd164 dX9_goesOn_103) rfl
theorem z164_104 : Run d 164 104 [a0] [.int x, .ref o] M 0 0 Z ↔ gObj M o 9 ∧ Run d 164 107 [a0] [] (gsI M o 13 x) 0 0 Z := R_putI (gd164 dX9_goesOn_104) rfl gf_9_178 (Or.inl rfl) rfl
theorem z164_107 : Run d 164 107 [a0] [] M 0 0 Z ↔ Z none M := R_vret (gd164 dX9_goesOn_107) rfl
theorem e164 : Call (d + 1) 164 [s0] M Z ↔ Run d 164 0 [some s0] [] M 0 0 Z := Call_iff (Nat.lt_of_lt_of_le (Nat.lt_succ_self 164) (Nat.le_of_ble_eq_true rfl)) (Nat.le_of_ble_eq_true rfl)
/-! 165: X9_drapes (IIIIII)V -/
theorem gd165 {pc : Nat} {r : Except _ _} (h : decode cX9_drapes pc = r) : decode (gby 165) pc = r := h
theorem z165_0 : Run d 165 0 [some (.ref o), a1, a2, a3, a4, a5, a6, a7, a8, a9] [] M 0 0 Z ↔ Run d 165 1 [some (.ref o), a1, a2, a3, a4, a5, a6, a7, a8, a9] [.ref o] M 0 0 Z := R_local (gd165 dX9_drapes_0) rfl rfl rfl
theorem z165_1 : Run d 165 1 [a0, a1, a2, a3, a4, a5, some (.int x), a7, a8, a9] [s0] M 0 0 Z ↔ Run d 165 3 [a0, a1, a2, a3, a4, a5, some (.int x), a7, a8, a9] [.int x, s0] M 0 0 Z := R_local (gd165 dX9_drapes_1) rfl rfl rfl
theorem z165_3 : Run d 165 3 [a0, a1, a2, a3, a4, a5, a6, a7, a8, a9] [.int x, .ref o] M 0 0 Z ↔ gObj M o 9 ∧ Run d 165 6 [a0, a1, a2, a3, a4, a5, a6, a7, a8, a9] [] (gsI M o 36 x) 0 0 Z := R_putI (gd165 dX9_drapes_3) rfl gf_9_233 (Or.inl rfl) rfl
theorem z165_6 : Run d 165 6 [some (.ref o), a1, a2, a3, a4, a5, a6, a7, a8, a9] [] M 0 0 Z ↔ Run d 165 7 [some (.ref o), a1, a2, a3, a4, a5, a6, a7, a8, a9] [.ref o] M 0 0 Z := R_local (gd165 dX9_drapes_6) rfl rfl rfl
theorem z165_7 : Run d 165 7 [a0, a1, some (.int x), a3, a4, a5, a6, a7, a8, a9] [s0] M 0 0 Z ↔ Run d 165 8 [a0, a1, some (.int x), a3, a4, a5, a6, a7, a8, a9] [.int x, s0] M 0 0 Z := R_local (gd165 dX9_drapes_7) rfl rfl rfl
theorem z165_8 : Run d 165 8 [a0, a1, a2, a3, a4, a5, a6, a7, a8, a9] [.int x, .ref o] M 0 0 Z ↔ gObj M o 9 ∧ Run d 165 11 [a0, a1, a2, a3, a4, a5, a6, a7, a8, a9] [] (gsI M o 37 x) 0 0 Z := R_putI (gd165 dX9_drapes_8) rfl gf_9_239 (Or.inl rfl) rfl
theorem z165_11 : Run d 165 11 [some (.ref o), a1, a2, a3, a4, a5, a6, a7, a8, a9] [] M 0 0 Z ↔ Run d 165 12 [some (.ref o), a1, a2, a3, a4, a5, a6, a7, a8, a9] [.ref o] M 0 0 Z := R_local (gd165 dX9_drapes_11) rfl rfl rfl
theorem z165_12 : Run d 165 12 [a0, a1, a2, some (.int x), a4, a5, a6, a7, a8, a9] [s0] M 0 0 Z ↔ Run d 165 13 [a0, a1, a2, some (.int x), a4, a5, a6, a7, a8, a9] [.int x, s0] M 0 0 Z := R_local (gd165 dX9_drapes_12) rfl rfl rfl
theorem z165_13 : Run d 165 13 [a0, a1, a2, a3, a4, a5, a6, a7, a8, a9] [.int x, .ref o] M 0 0 Z ↔ gObj M o 9 ∧ Run d 165 16 [a0, a1, a2, a3, a4, a5, a6, a7, a8, a9] [] (gsI M o 38 x) 0 0 Z := R_putI (gd165 dX9_drapes_13) rfl gf_9_230 (Or.inl rfl) rfl
theorem z165_16 : Run d 165 16 [some (.ref o), a1, a2, a3, a4, a5, a6, a7, a8, a9] [] M 0 0 Z ↔ Run d 165 17 [some (.ref o), a1, a2, a3, a4, a5, a6, a7, a8, a9] [.ref o] M 0 0 Z := R_local (gd165 dX9_drapes_16) rfl rfl rfl
theorem z165_17 : Run d 165 17 [a0, a1, a2, a3, some (.int x), a5, a6, a7, a8, a9] [s0] M 0 0 Z ↔ Run d 165 19 [a0, a1, a2, a3, some (.int x), a5, a6, a7, a8, a9] [.int x, s0] M 0 0 Z := R_local (gd165 dX9_drapes_17) rfl rfl rfl
theorem z165_19 : Run d 165 19 [a0, a1, a2, a3, a4, a5, a6, a7, a8, a9] [.int x, .ref o] M 0 0 Z ↔ gObj M o 9 ∧ Run d 165 22 [a0, a1, a2, a3, a4, a5, a6, a7, a8, a9] [] (gsI M o 39 x) 0 0 Z := R_putI (gd165 dX9_drapes_19) rfl gf_9_236 (Or.inl rfl) rfl
theorem z165_22 : Run d 165 22 [some (.ref o), a1, a2, a3, a4, a5, a6, a7, a8, a9] [] M 0 0 Z ↔ Run d 165 23 [some (.ref o), a1, a2, a3, a4, a5, a6, a7, a8, a9] [.ref o] M 0 0 Z := R_local (gd165 dX9_drapes_22) rfl rfl rfl
theorem z165_23 : Run d 165 23 [a0, a1, a2, a3, a4, a5, a6, a7, a8, a9] [s0] M 0 0 Z ↔ Run d 165 25 [a0, a1, a2, a3, a4, a5, a6, a7, a8, a9] [.int 120, s0] M 0 0 Z := R_bipush (gd165 dX9_drapes_23) (by decide)
theorem z165_25 : Run d 165 25 [a0, some (.int x), a2, a3, a4, a5, a6, a7, a8, a9] [s1, s0] M 0 0 Z ↔ Run d 165 26 [a0, some (.int x), a2, a3, a4, a5, a6, a7, a8, a9] [.int x, s1, s0] M 0 0 Z := R_local (gd165 dX9_drapes_25) rfl rfl rfl
theorem z165_26 : Run d 165 26 [a0, a1, a2, a3, a4, a5, a6, a7, a8, a9] [.int y, .int x, s0] M 0 0 Z ↔ Run d 165 27 [a0, a1, a2, a3, a4, a5, a6, a7, a8, a9] [.int (x * y), s0] M 0 0 Z := R_arith (gd165 dX9_drapes_26) rfl
theorem z165_27 : Run d 165 27 [a0, a1, a2, a3, a4, a5, a6, a7, a8, a9] [.int x, .ref o] M 0 0 Z ↔ gObj M o 9 ∧ Run d 165 30 [a0, a1, a2, a3, a4, a5, a6, a7, a8, a9] [] (gsI M o 16 x) 0 0 Z := R_putI (gd165 dX9_drapes_27) rfl gf_9_184 (Or.inl rfl) rfl
theorem z165_30 : Run d 165 30 [some (.ref o), a1, a2, a3, a4, a5, a6, a7, a8, a9] [] M 0 0 Z ↔ Run d 165 31 [some (.ref o), a1, a2, a3, a4, a5, a6, a7, a8, a9] [.ref o] M 0 0 Z := R_local (gd165 dX9_drapes_30) rfl rfl rfl
theorem z165_31 : Run d 165 31 [some (.ref o), a1, a2, a3, a4, a5, a6, a7, a8, a9] [s0] M 0 0 Z ↔ Run d 165 32 [some (.ref o), a1, a2, a3, a4, a5, a6, a7, a8, a9] [.ref o, s0] M 0 0 Z := R_local (gd165 dX9_drapes_31) rfl rfl rfl
theorem z165_32 : Run d 165 32 [a0, a1, a2, a3, a4, a5, a6, a7, a8, a9] [.ref o, s0] M 0 0 Z ↔ gObj M o 9 ∧ Run d 165 35 [a0, a1, a2, a3, a4, a5, a6, a7, a8, a9] [va_rf (M.2.1 o 11), s0] M 0 0 Z := R_getR (gd165 dX9_drapes_32) rfl gf_9_32 rfl
theorem z165_35 : Run d 165 35 [a0, some (.int x), a2, a3, a4, a5, a6, a7, a8, a9] [s1, s0] M 0 0 Z ↔ Run d 165 36 [a0, some (.int x), a2, a3, a4, a5, a6, a7, a8, a9] [.int x, s1, s0] M 0 0 Z := R_local (gd165 dX9_drapes_35) rfl rfl rfl
theorem z165_36 : Run d 165 36 [a0, a1, a2, a3, a4, a5, a6, a7, a8, a9] [.int x, .ref o, s0] M 0 0 Z ↔ gAr M o 0 ∧ gIn x (gLen M o) = true ∧ Run d 165 37 [a0, a1, a2, a3, a4, a5, a6, a7, a8, a9] [.int (M.1 o x.toNatClampNeg), s0] M 0 0 Z := R_iald (gd165 dX9_drapes_36)
theorem z165_37 : Run d 165 37 [a0, a1, a2, a3, a4, a5, a6, a7, a8, a9] [.int x, .ref o] M 0 0 Z ↔ gObj M o 9 ∧ Run d 165 40 [a0, a1, a2, a3, a4, a5, a6, a7, a8, a9] [] (gsI M o 14 x) 0 0 Z := R_putI (gd165 dX9_drapes_37) rfl gf_9_181 (Or.inl rfl) rfl
theorem z165_40 : Run d 165 40 [some (.ref o), a1, a2, a3, a4, a5, a6, a7, a8, a9] [] M 0 0 Z ↔ Run d 165 41 [some (.ref o), a1, a2, a3, a4, a5, a6, a7, a8, a9] [.ref o] M 0 0 Z := R_local (gd165 dX9_drapes_40) rfl rfl rfl
theorem z165_41 : Run d 165 41 [a0, a1, a2, a3, a4, a5, a6, a7, a8, a9] [s0] M 0 0 Z ↔ Run d 165 42 [a0, a1, a2, a3, a4, a5, a6, a7, a8, a9] [.int 0, s0] M 0 0 Z := R_iconst (gd165 dX9_drapes_41) (by decide)
theorem z165_42 : Run d 165 42 [a0, a1, a2, a3, a4, a5, a6, a7, a8, a9] [.int x, .ref o] M 0 0 Z ↔ gObj M o 9 ∧ Run d 165 45 [a0, a1, a2, a3, a4, a5, a6, a7, a8, a9] [] (gsI M o 13 x) 0 0 Z := R_putI (gd165 dX9_drapes_42) rfl gf_9_178 (Or.inl rfl) rfl
theorem z165_45 : Run d 165 45 [some (.ref o), a1, a2, a3, a4, a5, a6, a7, a8, a9] [] M 0 0 Z ↔ Run d 165 46 [some (.ref o), a1, a2, a3, a4, a5, a6, a7, a8, a9] [.ref o] M 0 0 Z := R_local (gd165 dX9_drapes_45) rfl rfl rfl
theorem z165_46 : Run d 165 46 [a0, a1, a2, a3, a4, a5, a6, a7, a8, a9] [s0] M 0 0 Z ↔ Run d 165 47 [a0, a1, a2, a3, a4, a5, a6, a7, a8, a9] [.int 0, s0] M 0 0 Z := R_iconst (gd165 dX9_drapes_46) (by decide)
theorem z165_47 : Run d 165 47 [a0, a1, a2, a3, a4, a5, a6, a7, a8, a9] [.int x, .ref o] M 0 0 Z ↔ gObj M o 9 ∧ Run d 165 50 [a0, a1, a2, a3, a4, a5, a6, a7, a8, a9] [] (gsI M o 44 x) 0 0 Z := R_putI (gd165 dX9_drapes_47) rfl gf_9_291 (Or.inl rfl) rfl
theorem z165_50 : Run d 165 50 [some (.ref o), a1, a2, a3, a4, a5, a6, a7, a8, a9] [] M 0 0 Z ↔ Run d 165 51 [some (.ref o), a1, a2, a3, a4, a5, a6, a7, a8, a9] [.ref o] M 0 0 Z := R_local (gd165 dX9_drapes_50) rfl rfl rfl
theorem z165_51 : Run d 165 51 [a0, a1, a2, a3, a4, a5, a6, a7, a8, a9] [s0] M 0 0 Z ↔ Run d 165 52 [a0, a1, a2, a3, a4, a5, a6, a7, a8, a9] [.int 0, s0] M 0 0 Z := R_iconst (gd165 dX9_drapes_51) (by decide)
theorem z165_52 : Run d 165 52 [a0, a1, a2, a3, a4, a5, a6, a7, a8, a9] [.int x, .ref o] M 0 0 Z ↔ gObj M o 9 ∧ Run d 165 55 [a0, a1, a2, a3, a4, a5, a6, a7, a8, a9] [] (gsI M o 40 x) 0 0 Z := R_putI (gd165 dX9_drapes_52) rfl gf_9_266 (Or.inl rfl) rfl
theorem z165_55 : Run d 165 55 [some (.ref o), a1, a2, a3, a4, a5, a6, a7, a8, a9] [] M 0 0 Z ↔ Run d 165 56 [some (.ref o), a1, a2, a3, a4, a5, a6, a7, a8, a9] [.ref o] M 0 0 Z := R_local (gd165 dX9_drapes_55) rfl rfl rfl
theorem z165_56 : Run d 165 56 [a0, a1, a2, a3, a4, a5, a6, a7, a8, a9] [.ref o] M 0 0 Z ↔ gObj M o 9 ∧ Run d 165 59 [a0, a1, a2, a3, a4, a5, a6, a7, a8, a9] [va_rf (M.2.1 o 25)] M 0 0 Z := R_getR (gd165 dX9_drapes_56) rfl gf_9_62 rfl
theorem z165_59 : Run d 165 59 [some (.ref o), a1, a2, a3, a4, a5, a6, a7, a8, a9] [s0] M 0 0 Z ↔ Run d 165 60 [some (.ref o), a1, a2, a3, a4, a5, a6, a7, a8, a9] [.ref o, s0] M 0 0 Z := R_local (gd165 dX9_drapes_59) rfl rfl rfl
theorem z165_60 : Run d 165 60 [a0, a1, a2, a3, a4, a5, a6, a7, a8, a9] [.ref o, s0] M 0 0 Z ↔ gObj M o 9 ∧ Run d 165 63 [a0, a1, a2, a3, a4, a5, a6, a7, a8, a9] [.int (M.1 o 36), s0] M 0 0 Z := R_getI (gd165 dX9_drapes_60) rfl gf_9_233 rfl
theorem z165_63 : Run d 165 63 [a0, a1, a2, a3, a4, a5, a6, a7, a8, a9] [s1, s0] M 0 0 Z ↔ Run d 165 64 [a0, a1, a2, a3, a4, a5, a6, a7, a8, a9] [.int 0, s1, s0] M 0 0 Z := R_iconst (gd165 dX9_drapes_63) (by decide)
theorem z165_64 : Run d 165 64 [a0, a1, a2, a3, a4, a5, a6, a7, a8, a9] [.int y, .int x, .ref o] M 0 0 Z ↔ gAr M o 0 ∧ gIn x (gLen M o) = true ∧ Run d 165 65 [a0, a1, a2, a3, a4, a5, a6, a7, a8, a9] [] (gsI M o x.toNatClampNeg y) 0 0 Z := R_iast (gd165 dX9_drapes_64)
theorem z165_65 : Run d 165 65 [some (.ref o), a1, a2, a3, a4, a5, a6, a7, a8, a9] [] M 0 0 Z ↔ Run d 165 66 [some (.ref o), a1, a2, a3, a4, a5, a6, a7, a8, a9] [.ref o] M 0 0 Z := R_local (gd165 dX9_drapes_65) rfl rfl rfl
theorem z165_66 : Run d 165 66 [a0, a1, a2, a3, a4, a5, a6, a7, a8, a9] [.ref o] M 0 0 Z ↔ gObj M o 9 ∧ Run d 165 69 [a0, a1, a2, a3, a4, a5, a6, a7, a8, a9] [va_rf (M.2.1 o 26)] M 0 0 Z := R_getR (gd165 dX9_drapes_66) rfl gf_9_65 rfl
theorem z165_69 : Run d 165 69 [some (.ref o), a1, a2, a3, a4, a5, a6, a7, a8, a9] [s0] M 0 0 Z ↔ Run d 165 70 [some (.ref o), a1, a2, a3, a4, a5, a6, a7, a8, a9] [.ref o, s0] M 0 0 Z := R_local (gd165 dX9_drapes_69) rfl rfl rfl
theorem z165_70 : Run d 165 70 [a0, a1, a2, a3, a4, a5, a6, a7, a8, a9] [.ref o, s0] M 0 0 Z ↔ gObj M o 9 ∧ Run d 165 73 [a0, a1, a2, a3, a4, a5, a6, a7, a8, a9] [.int (M.1 o 36), s0] M 0 0 Z := R_getI (gd165 dX9_drapes_70) rfl gf_9_233 rfl
theorem z165_73 : Run d 165 73 [a0, a1, a2, a3, a4, a5, a6, a7, a8, a9] [s1, s0] M 0 0 Z ↔ Run d 165 74 [a0, a1, a2, a3, a4, a5, a6, a7, a8, a9] [.int 0, s1, s0] M 0 0 Z := R_iconst (gd165 dX9_drapes_73) (by decide)
theorem z165_74 : Run d 165 74 [a0, a1, a2, a3, a4, a5, a6, a7, a8, a9] [.int y, .int x, .ref o] M 0 0 Z ↔ gAr M o 0 ∧ gIn x (gLen M o) = true ∧ Run d 165 75 [a0, a1, a2, a3, a4, a5, a6, a7, a8, a9] [] (gsI M o x.toNatClampNeg y) 0 0 Z := R_iast (gd165 dX9_drapes_74)
theorem z165_75 : Run d 165 75 [some (.ref o), a1, a2, a3, a4, a5, a6, a7, a8, a9] [] M 0 0 Z ↔ Run d 165 76 [some (.ref o), a1, a2, a3, a4, a5, a6, a7, a8, a9] [.ref o] M 0 0 Z := R_local (gd165 dX9_drapes_75) rfl rfl rfl
theorem z165_76 : Run d 165 76 [a0, a1, a2, a3, a4, a5, a6, a7, a8, a9] [.ref o] M 0 0 Z ↔ gObj M o 9 ∧ Run d 165 79 [a0, a1, a2, a3, a4, a5, a6, a7, a8, a9] [va_rf (M.2.1 o 27)] M 0 0 Z := R_getR (gd165 dX9_drapes_76) rfl gf_9_68 rfl
theorem z165_79 : Run d 165 79 [some (.ref o), a1, a2, a3, a4, a5, a6, a7, a8, a9] [s0] M 0 0 Z ↔ Run d 165 80 [some (.ref o), a1, a2, a3, a4, a5, a6, a7, a8, a9] [.ref o, s0] M 0 0 Z := R_local (gd165 dX9_drapes_79) rfl rfl rfl
theorem z165_80 : Run d 165 80 [a0, a1, a2, a3, a4, a5, a6, a7, a8, a9] [.ref o, s0] M 0 0 Z ↔ gObj M o 9 ∧ Run d 165 83 [a0, a1, a2, a3, a4, a5, a6, a7, a8, a9] [.int (M.1 o 36), s0] M 0 0 Z := R_getI (gd165 dX9_drapes_80) rfl gf_9_233 rfl
theorem z165_83 : Run d 165 83 [a0, a1, a2, a3, a4, a5, a6, a7, a8, a9] [s1, s0] M 0 0 Z ↔ Run d 165 84 [a0, a1, a2, a3, a4, a5, a6, a7, a8, a9] [.int 0, s1, s0] M 0 0 Z := R_iconst (gd165 dX9_drapes_83) (by decide)
theorem z165_84 : Run d 165 84 [a0, a1, a2, a3, a4, a5, a6, a7, a8, a9] [.int y, .int x, .ref o] M 0 0 Z ↔ gAr M o 0 ∧ gIn x (gLen M o) = true ∧ Run d 165 85 [a0, a1, a2, a3, a4, a5, a6, a7, a8, a9] [] (gsI M o x.toNatClampNeg y) 0 0 Z := R_iast (gd165 dX9_drapes_84)
theorem z165_85 : Run d 165 85 [some (.ref o), a1, a2, a3, a4, a5, a6, a7, a8, a9] [] M 0 0 Z ↔ Run d 165 86 [some (.ref o), a1, a2, a3, a4, a5, a6, a7, a8, a9] [.ref o] M 0 0 Z := R_local (gd165 dX9_drapes_85) rfl rfl rfl
theorem z165_86 : Run d 165 86 [a0, a1, a2, a3, a4, a5, a6, a7, a8, a9] [.ref o] M 0 0 Z ↔ gObj M o 9 ∧ Run d 165 89 [a0, a1, a2, a3, a4, a5, a6, a7, a8, a9] [va_rf (M.2.1 o 28)] M 0 0 Z := R_getR (gd165 dX9_drapes_86) rfl gf_9_71 rfl
theorem z165_89 : Run d 165 89 [some (.ref o), a1, a2, a3, a4, a5, a6, a7, a8, a9] [s0] M 0 0 Z ↔ Run d 165 90 [some (.ref o), a1, a2, a3, a4, a5, a6, a7, a8, a9] [.ref o, s0] M 0 0 Z := R_local (gd165 dX9_drapes_89) rfl rfl rfl
theorem z165_90 : Run d 165 90 [a0, a1, a2, a3, a4, a5, a6, a7, a8, a9] [.ref o, s0] M 0 0 Z ↔ gObj M o 9 ∧ Run d 165 93 [a0, a1, a2, a3, a4, a5, a6, a7, a8, a9] [.int (M.1 o 36), s0] M 0 0 Z := R_getI (gd165 dX9_drapes_90) rfl gf_9_233 rfl
theorem z165_93 : Run d 165 93 [a0, a1, a2, a3, a4, a5, a6, a7, a8, a9] [s1, s0] M 0 0 Z ↔ Run d 165 94 [a0, a1, a2, a3, a4, a5, a6, a7, a8, a9] [.int 0, s1, s0] M 0 0 Z := R_iconst (gd165 dX9_drapes_93) (by decide)
theorem z165_94 : Run d 165 94 [a0, a1, a2, a3, a4, a5, a6, a7, a8, a9] [.int y, .int x, .ref o] M 0 0 Z ↔ gAr M o 0 ∧ gIn x (gLen M o) = true ∧ Run d 165 95 [a0, a1, a2, a3, a4, a5, a6, a7, a8, a9] [] (gsI M o x.toNatClampNeg y) 0 0 Z := R_iast (gd165 dX9_drapes_94)
theorem z165_95 : Run d 165 95 [some (.ref o), a1, a2, a3, a4, a5, a6, a7, a8, a9] [] M 0 0 Z ↔ Run d 165 96 [some (.ref o), a1, a2, a3, a4, a5, a6, a7, a8, a9] [.ref o] M 0 0 Z := R_local (gd165 dX9_drapes_95) rfl rfl rfl
theorem z165_96 : Run d 165 96 [a0, a1, a2, a3, a4, a5, a6, a7, a8, a9] [.ref o] M 0 0 Z ↔ gObj M o 9 ∧ Run d 165 99 [a0, a1, a2, a3, a4, a5, a6, a7, a8, a9] [va_rf (M.2.1 o 29)] M 0 0 Z := R_getR (gd165 dX9_drapes_96) rfl gf_9_74 rfl
theorem z165_99 : Run d 165 99 [some (.ref o), a1, a2, a3, a4, a5, a6, a7, a8, a9] [s0] M 0 0 Z ↔ Run d 165 100 [some (.ref o), a1, a2, a3, a4, a5, a6, a7, a8, a9] [.ref o, s0] M 0 0 Z := R_local (gd165 dX9_drapes_99) rfl rfl rfl
theorem z165_100 : Run d 165 100 [a0, a1, a2, a3, a4, a5, a6, a7, a8, a9] [.ref o, s0] M 0 0 Z ↔ gObj M o 9 ∧ Run d 165 103 [a0, a1, a2, a3, a4, a5, a6, a7, a8, a9] [.int (M.1 o 36), s0] M 0 0 Z := R_getI (gd165 dX9_drapes_100) rfl gf_9_233 rfl
theorem z165_103 : Run d 165 103 [a0, a1, a2, a3, a4, a5, a6, a7, a8, a9] [s1, s0] M 0 0 Z ↔ Run d 165 104 [a0, a1, a2, a3, a4, a5, a6, a7, a8, a9] [.int 0, s1, s0] M 0 0 Z := R_iconst (gd165 dX9_drapes_103) (by decide)
theorem z165_104 : Run d 165 104 [a0, a1, a2, a3, a4, a5, a6, a7, a8, a9] [.int y, .int x, .ref o] M 0 0 Z ↔ gAr M o 0 ∧ gIn x (gLen M o) = true ∧ Run d 165 105 [a0, a1, a2, a3, a4, a5, a6, a7, a8, a9] [] (gsI M o x.toNatClampNeg y) 0 0 Z := R_iast (gd165 dX9_drapes_104)
theorem z165_105 : Run d 165 105 [some (.ref o), a1, a2, a3, a4, a5, a6, a7, a8, a9] [] M 0 0 Z ↔ Run d 165 106 [some (.ref o), a1, a2, a3, a4, a5, a6, a7, a8, a9] [.ref o] M 0 0 Z := R_local (gd165 dX9_drapes_105) rfl rfl rfl
theorem z165_106 : Run d 165 106 [a0, a1, a2, a3, a4, a5, a6, a7, a8, a9] [.ref o] M 0 0 Z ↔ gObj M o 9 ∧ Run d 165 109 [a0, a1, a2, a3, a4, a5, a6, a7, a8, a9] [va_rf (M.2.1 o 30)] M 0 0 Z := R_getR (gd165 dX9_drapes_106) rfl gf_9_77 rfl
theorem z165_109 : Run d 165 109 [some (.ref o), a1, a2, a3, a4, a5, a6, a7, a8, a9] [s0] M 0 0 Z ↔ Run d 165 110 [some (.ref o), a1, a2, a3, a4, a5, a6, a7, a8, a9] [.ref o, s0] M 0 0 Z := R_local (gd165 dX9_drapes_109) rfl rfl rfl
theorem z165_110 : Run d 165 110 [a0, a1, a2, a3, a4, a5, a6, a7, a8, a9] [.ref o, s0] M 0 0 Z ↔ gObj M o 9 ∧ Run d 165 113 [a0, a1, a2, a3, a4, a5, a6, a7, a8, a9] [.int (M.1 o 36), s0] M 0 0 Z := R_getI (gd165 dX9_drapes_110) rfl gf_9_233 rfl
theorem z165_113 : Run d 165 113 [a0, a1, a2, a3, a4, a5, a6, a7, a8, a9] [s1, s0] M 0 0 Z ↔ Run d 165 114 [a0, a1, a2, a3, a4, a5, a6, a7, a8, a9] [.int 1, s1, s0] M 0 0 Z := R_iconst (gd165 dX9_drapes_113) (by decide)
theorem z165_114 : Run d 165 114 [a0, a1, a2, a3, a4, a5, a6, a7, a8, a9] [.int y, .int x, .ref o] M 0 0 Z ↔ gAr M o 0 ∧ gIn x (gLen M o) = true ∧ Run d 165 115 [a0, a1, a2, a3, a4, a5, a6, a7, a8, a9] [] (gsI M o x.toNatClampNeg y) 0 0 Z := R_iast (gd165 dX9_drapes_114)
theorem z165_115 : Run d 165 115 [some (.ref o), a1, a2, a3, a4, a5, a6, a7, a8, a9] [] M 0 0 Z ↔ Run d 165 116 [some (.ref o), a1, a2, a3, a4, a5, a6, a7, a8, a9] [.ref o] M 0 0 Z := R_local (gd165 dX9_drapes_115) rfl rfl rfl
theorem z165_116 : Run d 165 116 [a0, a1, a2, a3, a4, a5, a6, a7, a8, a9] [.ref o] M 0 0 Z ↔ gObj M o 9 ∧ Run d 165 119 [a0, a1, a2, a3, a4, a5, a6, a7, a8, a9] [va_rf (M.2.1 o 31)] M 0 0 Z := R_getR (gd165 dX9_drapes_116) rfl gf_9_80 rfl
theorem z165_119 : Run d 165 119 [some (.ref o), a1, a2, a3, a4, a5, a6, a7, a8, a9] [s0] M 0 0 Z ↔ Run d 165 120 [some (.ref o), a1, a2, a3, a4, a5, a6, a7, a8, a9] [.ref o, s0] M 0 0 Z := R_local (gd165 dX9_drapes_119) rfl rfl rfl
theorem z165_120 : Run d 165 120 [a0, a1, a2, a3, a4, a5, a6, a7, a8, a9] [.ref o, s0] M 0 0 Z ↔ gObj M o 9 ∧ Run d 165 123 [a0, a1, a2, a3, a4, a5, a6, a7, a8, a9] [.int (M.1 o 36), s0] M 0 0 Z := R_getI (gd165 dX9_drapes_120) rfl gf_9_233 rfl
theorem z165_123 : Run d 165 123 [a0, a1, a2, a3, a4, a5, a6, a7, a8, a9] [s1, s0] M 0 0 Z ↔ Run d 165 124 [a0, a1, a2, a3, a4, a5, a6, a7, a8, a9] [.int 0, s1, s0] M 0 0 Z := R_iconst (gd165 dX9_drapes_123) (by decide)
theorem z165_124 : Run d 165 124 [a0, a1, a2, a3, a4, a5, a6, a7, a8, a9] [.int y, .int x, .ref o] M 0 0 Z ↔ gAr M o 0 ∧ gIn x (gLen M o) = true ∧ Run d 165 125 [a0, a1, a2, a3, a4, a5, a6, a7, a8, a9] [] (gsI M o x.toNatClampNeg y) 0 0 Z := R_iast (gd165 dX9_drapes_124)
theorem z165_125 : Run d 165 125 [some (.ref o), a1, a2, a3, a4, a5, a6, a7, a8, a9] [] M 0 0 Z ↔ Run d 165 126 [some (.ref o), a1, a2, a3, a4, a5, a6, a7, a8, a9] [.ref o] M 0 0 Z := R_local (gd165 dX9_drapes_125) rfl rfl rfl
theorem z165_126 : Run d 165 126 [a0, a1, a2, a3, a4, a5, a6, a7, a8, a9] [.ref o] M 0 0 Z ↔ gObj M o 9 ∧ Run d 165 129 [a0, a1, a2, a3, a4, a5, a6, a7, a8, a9] [va_rf (M.2.1 o 32)] M 0 0 Z := R_getR (gd165 dX9_drapes_126) rfl gf_9_83 rfl
theorem z165_129 : Run d 165 129 [some (.ref o), a1, a2, a3, a4, a5, a6, a7, a8, a9] [s0] M 0 0 Z ↔ Run d 165 130 [some (.ref o), a1, a2, a3, a4, a5, a6, a7, a8, a9] [.ref o, s0] M 0 0 Z := R_local (gd165 dX9_drapes_129) rfl rfl rfl
theorem z165_130 : Run d 165 130 [a0, a1, a2, a3, a4, a5, a6, a7, a8, a9] [.ref o, s0] M 0 0 Z ↔ gObj M o 9 ∧ Run d 165 133 [a0, a1, a2, a3, a4, a5, a6, a7, a8, a9] [.int (M.1 o 36), s0] M 0 0 Z := R_getI (gd165 dX9_drapes_130) rfl gf_9_233 rfl
theorem z165_133 : Run d 165 133 [a0, a1, a2, a3, a4, a5, a6, a7, a8, a9] [s1, s0] M 0 0 Z ↔ Run d 165 134 [a0, a1, a2, a3, a4, a5, a6, a7, a8, a9] [.int (-1), s1, s0] M 0 0 Z := R_iconst (gd165 dX9_drapes_133) (by decide)
theorem z165_134 : Run d 165 134 [a0, a1, a2, a3, a4, a5, a6, a7, a8, a9] [.int y, .int x, .ref o] M 0 0 Z ↔ gAr M o 0 ∧ gIn x (gLen M o) = true ∧ Run d 165 135 [a0, a1, a2, a3, a4, a5, a6, a7, a8, a9] [] (gsI M o x.toNatClampNeg y) 0 0 Z := R_iast (gd165 dX9_drapes_134)
theorem z165_135 : Run d 165 135 [some (.ref o), a1, a2, a3, a4, a5, a6, a7, a8, a9] [] M 0 0 Z ↔ Run d 165 136 [some (.ref o), a1, a2, a3, a4, a5, a6, a7, a8, a9] [.ref o] M 0 0 Z := R_local (gd165 dX9_drapes_135) rfl rfl rfl
theorem z165_136 : Run d 165 136 [a0, a1, a2, a3, a4, a5, a6, a7, a8, a9] [.ref o] M 0 0 Z ↔ gObj M o 9 ∧ Run d 165 139 [a0, a1, a2, a3, a4, a5, a6, a7, a8, a9] [va_rf (M.2.1 o 33)] M 0 0 Z := R_getR (gd165 dX9_drapes_136) rfl gf_9_86 rfl
theorem z165_139 : Run d 165 139 [some (.ref o), a1, a2, a3, a4, a5, a6, a7, a8, a9] [s0] M 0 0 Z ↔ Run d 165 140 [some (.ref o), a1, a2, a3, a4, a5, a6, a7, a8, a9] [.ref o, s0] M 0 0 Z := R_local (gd165 dX9_drapes_139) rfl rfl rfl
theorem z165_140 : Run d 165 140 [a0, a1, a2, a3, a4, a5, a6, a7, a8, a9] [.ref o, s0] M 0 0 Z ↔ gObj M o 9 ∧ Run d 165 143 [a0, a1, a2, a3, a4, a5, a6, a7, a8, a9] [.int (M.1 o 36), s0] M 0 0 Z := R_getI (gd165 dX9_drapes_140) rfl gf_9_233 rfl
theorem z165_143 : Run d 165 143 [a0, a1, a2, a3, a4, a5, a6, a7, a8, a9] [s1, s0] M 0 0 Z ↔ Run d 165 144 [a0, a1, a2, a3, a4, a5, a6, a7, a8, a9] [.int 0, s1, s0] M 0 0 Z := R_iconst (gd165 dX9_drapes_143) (by decide)
theorem z165_144 : Run d 165 144 [a0, a1, a2, a3, a4, a5, a6, a7, a8, a9] [.int y, .int x, .ref o] M 0 0 Z ↔ gAr M o 0 ∧ gIn x (gLen M o) = true ∧ Run d 165 145 [a0, a1, a2, a3, a4, a5, a6, a7, a8, a9] [] (gsI M o x.toNatClampNeg y) 0 0 Z := R_iast (gd165 dX9_drapes_144)
theorem z165_145 : Run d 165 145 [some (.ref o), a1, a2, a3, a4, a5, a6, a7, a8, a9] [] M 0 0 Z ↔ Run d 165 146 [some (.ref o), a1, a2, a3, a4, a5, a6, a7, a8, a9] [.ref o] M 0 0 Z := R_local (gd165 dX9_drapes_145) rfl rfl rfl
theorem z165_146 : Run d 165 146 [a0, a1, a2, a3, a4, a5, a6, a7, a8, a9] [.ref o] M 0 0 Z ↔ gObj M o 9 ∧ Run d 165 149 [a0, a1, a2, a3, a4, a5, a6, a7, a8, a9] [va_rf (M.2.1 o 34)] M 0 0 Z := R_getR (gd165 dX9_drapes_146) rfl gf_9_89 rfl
theorem z165_149 : Run d 165 149 [some (.ref o), a1, a2, a3, a4, a5, a6, a7, a8, a9] [s0] M 0 0 Z ↔ Run d 165 150 [some (.ref o), a1, a2, a3, a4, a5, a6, a7, a8, a9] [.ref o, s0] M 0 0 Z := R_local (gd165 dX9_drapes_149) rfl rfl rfl
theorem z165_150 : Run d 165 150 [a0, a1, a2, a3, a4, a5, a6, a7, a8, a9] [.ref o, s0] M 0 0 Z ↔ gObj M o 9 ∧ Run d 165 153 [a0, a1, a2, a3, a4, a5, a6, a7, a8, a9] [.int (M.1 o 36), s0] M 0 0 Z := R_getI (gd165 dX9_drapes_150) rfl gf_9_233 rfl
theorem z165_153 : Run d 165 153 [a0, a1, a2, a3, a4, a5, a6, a7, a8, a9] [s1, s0] M 0 0 Z ↔ Run d 165 154 [a0, a1, a2, a3, a4, a5, a6, a7, a8, a9] [.int 0, s1, s0] M 0 0 Z := R_iconst (gd165 dX9_drapes_153) (by decide)
theorem z165_154 : Run d 165 154 [a0, a1, a2, a3, a4, a5, a6, a7, a8, a9] [.int y, .int x, .ref o] M 0 0 Z ↔ gAr M o 0 ∧ gIn x (gLen M o) = true ∧ Run d 165 155 [a0, a1, a2, a3, a4, a5, a6, a7, a8, a9] [] (gsI M o x.toNatClampNeg y) 0 0 Z := R_iast (gd165 dX9_drapes_154)
theorem z165_155 : Run d 165 155 [some (.ref o), a1, a2, a3, a4, a5, a6, a7, a8, a9] [] M 0 0 Z ↔ Run d 165 156 [some (.ref o), a1, a2, a3, a4, a5, a6, a7, a8, a9] [.ref o] M 0 0 Z := R_local (gd165 dX9_drapes_155) rfl rfl rfl
theorem z165_156 : Run d 165 156 [a0, a1, a2, a3, a4, a5, a6, a7, a8, a9] [.ref o] M 0 0 Z ↔ gObj M o 9 ∧ Run d 165 159 [a0, a1, a2, a3, a4, a5, a6, a7, a8, a9] [va_rf (M.2.1 o 35)] M 0 0 Z := R_getR (gd165 dX9_drapes_156) rfl gf_9_92 rfl
theorem z165_159 : Run d 165 159 [some (.ref o), a1, a2, a3, a4, a5, a6, a7, a8, a9] [s0] M 0 0 Z ↔ Run d 165 160 [some (.ref o), a1, a2, a3, a4, a5, a6, a7, a8, a9] [.ref o, s0] M 0 0 Z := R_local (gd165 dX9_drapes_159) rfl rfl rfl
theorem z165_160 : Run d 165 160 [a0, a1, a2, a3, a4, a5, a6, a7, a8, a9] [.ref o, s0] M 0 0 Z ↔ gObj M o 9 ∧ Run d 165 163 [a0, a1, a2, a3, a4, a5, a6, a7, a8, a9] [.int (M.1 o 36), s0] M 0 0 Z := R_getI (gd165 dX9_drapes_160) rfl gf_9_233 rfl
theorem z165_163 : Run d 165 163 [a0, a1, a2, a3, a4, a5, a6, a7, a8, a9] [s1, s0] M 0 0 Z ↔ Run d 165 164 [a0, a1, a2, a3, a4, a5, a6, a7, a8, a9] [.int (-1), s1, s0] M 0 0 Z := R_iconst (gd165 dX9_drapes_163) (by decide)
theorem z165_164 : Run d 165 164 [a0, a1, a2, a3, a4, a5, a6, a7, a8, a9] [.int y, .int x, .ref o] M 0 0 Z ↔ gAr M o 0 ∧ gIn x (gLen M o) = true ∧ Run d 165 165 [a0, a1, a2, a3, a4, a5, a6, a7, a8, a9] [] (gsI M o x.toNatClampNeg y) 0 0 Z := R_iast (gd165 dX9_drapes_164)
theorem z165_165 : Run d 165 165 [some (.ref o), a1, a2, a3, a4, a5, a6, a7, a8, a9] [] M 0 0 Z ↔ Run d 165 166 [some (.ref o), a1, a2, a3, a4, a5, a6, a7, a8, a9] [.ref o] M 0 0 Z := R_local (gd165 dX9_drapes_165) rfl rfl rfl
theorem z165_166 : Run d 165 166 [a0, a1, a2, a3, a4, a5, a6, a7, a8, a9] [s0] M 0 0 Z ↔ Run d 165 167 [a0, a1, a2, a3, a4, a5, a6, a7, a8, a9] [.int 0, s0] M 0 0 Z := R_iconst (gd165 dX9_drapes_166) (by decide)
theorem z165_167 : Run d 165 167 [a0, a1, a2, a3, a4, a5, a6, a7, a8, a9] [.int x, .ref o] M 0 0 Z ↔ gObj M o 9 ∧ (x = 0 ∨ x = 1) ∧ Run d 165 170 [a0, a1, a2, a3, a4, a5, a6, a7, a8, a9] [] (gsI M o 50 x) 0 0 Z := R_putZ (gd165 dX9_drapes_167) rfl gf_9_320 (Or.inl rfl) rfl
theorem z165_170 : Run d 165 170 [some (.ref o), a1, a2, a3, a4, a5, a6, a7, a8, a9] [] M 0 0 Z ↔ Run d 165 171 [some (.ref o), a1, a2, a3, a4, a5, a6, a7, a8, a9] [.ref o] M 0 0 Z := R_local (gd165 dX9_drapes_170) rfl rfl rfl
theorem z165_171 : Run d 165 171 [a0, a1, a2, a3, a4, a5, a6, a7, a8, a9] [.ref o] M 0 0 Z ↔ gObj M o 9 ∧ Run d 165 174 [a0, a1, a2, a3, a4, a5, a6, a7, a8, a9] [va_rf (M.2.1 o 41)] M 0 0 Z := R_getR (gd165 dX9_drapes_171) rfl gf_9_95 rfl
theorem z165_174 : Run d 165 174 [a0, a1, a2, a3, a4, a5, a6, a7, a8, a9] [s0] M 0 0 Z ↔ Run d 165 175 [a0, a1, a2, a3, a4, a5, a6, a7, a8, a9] [.int 0, s0] M 0 0 Z := R_iconst (gd165 dX9_drapes_174) (by decide)
theorem z165_175 : Run d 165 175 [a0, a1, a2, a3, a4, a5, a6, a7, a8, a9] [s1, s0] M 0 0 Z ↔ Run d 165 176 [a0, a1, a2, a3, a4, a5, a6, a7, a8, a9] [.int 0, s1, s0] M 0 0 Z := R_iconst (gd165 dX9_drapes_175) (by decide)
theorem z165_176 : Run d 165 176 [a0, a1, a2, a3, a4, a5, a6, a7, a8, a9] [.int y, .int x, .ref o] M 0 0 Z ↔ gAr M o 0 ∧ gIn x (gLen M o) = true ∧ Run d 165 177 [a0, a1, a2, a3, a4, a5, a6, a7, a8, a9] [] (gsI M o x.toNatClampNeg y) 0 0 Z := R_iast (gd165 dX9_drapes_176)
theorem z165_177 : Run d 165 177 [some (.ref o), a1, a2, a3, a4, a5, a6, a7, a8, a9] [] M 0 0 Z ↔ Run d 165 178 [some (.ref o), a1, a2, a3, a4, a5, a6, a7, a8, a9] [.ref o] M 0 0 Z := R_local (gd165 dX9_drapes_177) rfl rfl rfl
theorem z165_178 : Run d 165 178 [a0, a1, a2, a3, a4, a5, a6, a7, a8, a9] [.ref o] M 0 0 Z ↔ gObj M o 9 ∧ Run d 165 181 [a0, a1, a2, a3, a4, a5, a6, a7, a8, a9] [va_rf (M.2.1 o 41)] M 0 0 Z := R_getR (gd165 dX9_drapes_178) rfl gf_9_95 rfl
theorem z165_181 : Run d 165 181 [a0, a1, a2, a3, a4, a5, a6, a7, a8, a9] [s0] M 0 0 Z ↔ Run d 165 182 [a0, a1, a2, a3, a4, a5, a6, a7, a8, a9] [.int 1, s0] M 0 0 Z := R_iconst (gd165 dX9_drapes_181) (by decide)
theorem z165_182 : Run d 165 182 [a0, a1, a2, a3, a4, a5, a6, a7, a8, a9] [s1, s0] M 0 0 Z ↔ Run d 165 183 [a0, a1, a2, a3, a4, a5, a6, a7, a8, a9] [.int 0, s1, s0] M 0 0 Z := R_iconst (gd165 dX9_drapes_182) (by decide)
theorem z165_183 : Run d 165 183 [a0, a1, a2, a3, a4, a5, a6, a7, a8, a9] [.int y, .int x, .ref o] M 0 0 Z ↔ gAr M o 0 ∧ gIn x (gLen M o) = true ∧ Run d 165 184 [a0, a1, a2, a3, a4, a5, a6, a7, a8, a9] [] (gsI M o x.toNatClampNeg y) 0 0 Z := R_iast (gd165 dX9_drapes_183)
theorem z165_184 : Run d 165 184 [some (.ref o), a1, a2, a3, a4, a5, a6, a7, a8, a9] [] M 0 0 Z ↔ Run d 165 185 [some (.ref o), a1, a2, a3, a4, a5, a6, a7, a8, a9] [.ref o] M 0 0 Z := R_local (gd165 dX9_drapes_184) rfl rfl rfl
theorem z165_185 : Run d 165 185 [a0, a1, a2, a3, a4, a5, a6, a7, a8, a9] [.ref o] M 0 0 Z ↔ gObj M o 9 ∧ Run d 165 188 [a0, a1, a2, a3, a4, a5, a6, a7, a8, a9] [va_rf (M.2.1 o 41)] M 0 0 Z := R_getR (gd165 dX9_drapes_185) rfl gf_9_95 rfl
theorem z165_188 : Run d 165 188 [a0, a1, a2, a3, a4, a5, a6, a7, a8, a9] [s0] M 0 0 Z ↔ Run d 165 189 [a0, a1, a2, a3, a4, a5, a6, a7, a8, a9] [.int 2, s0] M 0 0 Z := R_iconst (gd165 dX9_drapes_188) (by decide)
theorem z165_189 : Run d 165 189 [a0, a1, a2, a3, a4, some (.int x), a6, a7, a8, a9] [s1, s0] M 0 0 Z ↔ Run d 165 191 [a0, a1, a2, a3, a4, some (.int x), a6, a7, a8, a9] [.int x, s1, s0] M 0 0 Z := R_local (gd165 dX9_drapes_189) rfl rfl rfl
theorem z165_191 : Run d 165 191 [a0, a1, a2, a3, a4, a5, a6, a7, a8, a9] [.int y, .int x, .ref o] M 0 0 Z ↔ gAr M o 0 ∧ gIn x (gLen M o) = true ∧ Run d 165 192 [a0, a1, a2, a3, a4, a5, a6, a7, a8, a9] [] (gsI M o x.toNatClampNeg y) 0 0 Z := R_iast (gd165 dX9_drapes_191)
theorem z165_192 : Run d 165 192 [some (.ref o), a1, a2, a3, a4, a5, a6, a7, a8, a9] [] M 0 0 Z ↔ Run d 165 193 [some (.ref o), a1, a2, a3, a4, a5, a6, a7, a8, a9] [.ref o] M 0 0 Z := R_local (gd165 dX9_drapes_192) rfl rfl rfl
theorem z165_193 : Run d 165 193 [a0, a1, a2, a3, a4, a5, a6, a7, a8, a9] [.ref o] M 0 0 Z ↔ gObj M o 9 ∧ Run d 165 196 [a0, a1, a2, a3, a4, a5, a6, a7, a8, a9] [.int (M.1 o 13)] M 0 0 Z := R_getI (gd165 dX9_drapes_193) rfl gf_9_178 rfl
theorem z165_196 : Run d 165 196 [some (.ref o), a1, a2, a3, a4, a5, a6, a7, a8, a9] [s0] M 0 0 Z ↔ Run d 165 197 [some (.ref o), a1, a2, a3, a4, a5, a6, a7, a8, a9] [.ref o, s0] M 0 0 Z := R_local (gd165 dX9_drapes_196) rfl rfl rfl
theorem z165_197 : Run d 165 197 [a0, a1, a2, a3, a4, a5, a6, a7, a8, a9] [.ref o, s0] M 0 0 Z ↔ gObj M o 9 ∧ Run d 165 200 [a0, a1, a2, a3, a4, a5, a6, a7, a8, a9] [.int (M.1 o 14), s0] M 0 0 Z := R_getI (gd165 dX9_drapes_197) rfl gf_9_181 rfl
theorem z165_200 : Run d 165 200 [a0, a1, a2, a3, a4, a5, a6, a7, a8, a9] [.int y, .int x] M 0 0 Z ↔ (y ≤ x → Run d 165 339 [a0, a1, a2, a3, a4, a5, a6, a7, a8, a9] [] M 0 0 Z) ∧ (¬ (y ≤ x) → Run d 165 203 [a0, a1, a2, a3, a4, a5, a6, a7, a8, a9] [] M 0 0 Z) := R_icmp (gd165 dX9_drapes_200) (show gTgt 200 139 = some 339 by decide) gIf_ge
theorem z165_203 : Run d 165 203 [some (.ref o), a1, a2, a3, a4, a5, a6, a7, a8, a9] [] M 0 0 Z ↔ Run d 165 204 [some (.ref o), a1, a2, a3, a4, a5, a6, a7, a8, a9] [.ref o] M 0 0 Z := R_local (gd165 dX9_drapes_203) rfl rfl rfl
theorem z165_204 : Run d 165 204 [a0, a1, a2, a3, a4, a5, a6, a7, a8, a9] [.ref o] M 0 0 Z ↔ gObj M o 9 ∧ Run d 165 207 [a0, a1, a2, a3, a4, a5, a6, a7, a8, a9] [va_rf (M.2.1 o 34)] M 0 0 Z := R_getR (gd165 dX9_drapes_204) rfl gf_9_89 rfl
theorem z165_207 : Run d 165 207 [some (.ref o), a1, a2, a3, a4, a5, a6, a7, a8, a9] [s0] M 0 0 Z ↔ Run d 165 208 [some (.ref o), a1, a2, a3, a4, a5, a6, a7, a8, a9] [.ref o, s0] M 0 0 Z := R_local (gd165 dX9_drapes_207) rfl rfl rfl
theorem z165_208 : Run d 165 208 [a0, a1, a2, a3, a4, a5, a6, a7, a8, a9] [.ref o, s0] M 0 0 Z ↔ gObj M o 9 ∧ Run d 165 211 [a0, a1, a2, a3, a4, a5, a6, a7, a8, a9] [.int (M.1 o 36), s0] M 0 0 Z := R_getI (gd165 dX9_drapes_208) rfl gf_9_233 rfl
theorem z165_211 : Run d 165 211 [a0, a1, a2, a3, a4, a5, a6, a7, a8, a9] [.int x, .ref o] M 0 0 Z ↔ gAr M o 0 ∧ gIn x (gLen M o) = true ∧ Run d 165 212 [a0, a1, a2, a3, a4, a5, a6, a7, a8, a9] [.int (M.1 o x.toNatClampNeg)] M 0 0 Z := R_iald (gd165 dX9_drapes_211)
theorem z165_212 : Run d 165 212 [a0, a1, a2, a3, a4, a5, a6, a7, a8, a9] [.int x] M 0 0 Z ↔ (¬ x = 0 → Run d 165 339 [a0, a1, a2, a3, a4, a5, a6, a7, a8, a9] [] M 0 0 Z) ∧ (¬ (¬ x = 0) → Run d 165 215 [a0, a1, a2, a3, a4, a5, a6, a7, a8, a9] [] M 0 0 Z) := R_if (gd165 dX9_drapes_212) (show gTgt 212 127 = some 339 by decide) gIf_ne
theorem z165_215 : Run d 165 215 [some (.ref o), a1, a2, a3, a4, a5, a6, a7, a8, a9] [] M 0 0 Z ↔ Run d 165 216 [some (.ref o), a1, a2, a3, a4, a5, a6, a7, a8, a9] [.ref o] M 0 0 Z := R_local (gd165 dX9_drapes_215) rfl rfl rfl
theorem z165_216 : Run d 165 216 [a0, a1, a2, a3, a4, a5, a6, a7, a8, a9] [.ref o] M 0 0 Z ↔ gObj M o 9 ∧ Run d 165 219 [a0, a1, a2, a3, a4, a5, a6, a7, a8, a9] [.int (M.1 o 40)] M 0 0 Z := R_getI (gd165 dX9_drapes_216) rfl gf_9_266 rfl
theorem z165_219 : Run d 165 219 [a0, a1, a2, a3, a4, a5, a6, a7, a8, a9] [s0] M 0 0 Z ↔ Run d 165 222 [a0, a1, a2, a3, a4, a5, a6, a7, a8, a9] [.int 2000, s0] M 0 0 Z := R_sipush (gd165 dX9_drapes_219) (by decide)
theorem z165_222 : Run d 165 222 [a0, a1, a2, a3, a4, a5, a6, a7, a8, a9] [.int y, .int x] M 0 0 Z ↔ (¬ x = y → Run d 165 232 [a0, a1, a2, a3, a4, a5, a6, a7, a8, a9] [] M 0 0 Z) ∧ (¬ (¬ x = y) → Run d 165 225 [a0, a1, a2, a3, a4, a5, a6, a7, a8, a9] [] M 0 0 Z) := R_icmp (gd165 dX9_drapes_222) (show gTgt 222 10 = some 232 by decide) gIf_ne
theorem z165_225 : Run d 165 225 [some (.ref o), a1, a2, a3, a4, a5, a6, a7, a8, a9] [] M 0 0 Z ↔ Run d 165 226 [some (.ref o), a1, a2, a3, a4, a5, a6, a7, a8, a9] [.ref o] M 0 0 Z := R_local (gd165 dX9_drapes_225) rfl rfl rfl
theorem z165_226 : Run d 165 226 [a0, a1, a2, a3, a4, a5, a6, a7, a8, a9] [s0] M 0 0 Z ↔ Run d 165 228 [a0, a1, a2, a3, a4, a5, a6, a7, a8, a9] [.int 6, s0] M 0 0 Z := R_bipush (gd165 dX9_drapes_226) (by decide)
theorem z165_228 : Run d 165 228 [a0, a1, a2, a3, a4, a5, a6, a7, a8, a9] [s1, .ref b] M 0 0 Z ↔ gObj M b 9 ∧ Call d 149 [.ref b, s1] M (fun r M1 => Run d 165 231 [a0, a1, a2, a3, a4, a5, a6, a7, a8, a9] (r.toList ++ []) M1 0 0 Z) := R_callV (gd165 dX9_drapes_228) rfl rfl rfl rfl rfl rfl gc_9_275 rfl rfl (Nat.le_of_ble_eq_true rfl) (Nat.le_of_ble_eq_true rfl) rfl rfl (Nat.le_of_ble_eq_true rfl) (Nat.le_of_ble_eq_true rfl)
theorem z165_231 : Run d 165 231 [a0, a1, a2, a3, a4, a5, a6, a7, a8, a9] [] M 0 0 Z ↔ Z none M := R_vret (gd165 dX9_drapes_231) rfl
theorem z165_232 : Run d 165 232 [some (.ref o), a1, a2, a3, a4, a5, a6, a7, a8, a9] [] M 0 0 Z ↔ Run d 165 233 [some (.ref o), a1, a2, a3, a4, a5, a6, a7, a8, a9] [.ref o] M 0 0 Z := R_local (gd165 dX9_drapes_232) rfl rfl rfl
theorem z165_233 : Run d 165 233 [a0, a1, a2, a3, a4, a5, a6, a7, a8, a9] [.ref b] M 0 0 Z ↔ gObj M b 9 ∧ Call d 130 [.ref b] M (fun r M1 => Run d 165 236 [a0, a1, a2, a3, a4, a5, a6, a7, a8, a9] (r.toList ++ []) M1 0 0 Z) := R_callV (gd165 dX9_drapes_233) rfl rfl rfl rfl rfl rfl gc_9_196 rfl rfl (Nat.le_of_ble_eq_true rfl) (Nat.le_of_ble_eq_true rfl) rfl rfl (Nat.le_of_ble_eq_true rfl) (Nat.le_of_ble_eq_true rfl)
theorem z165_236 : Run d 165 236 [a0, a1, a2, a3, a4, a5, a6, a7, a8, a9] [s0] M 0 0 Z ↔ Run d 165 238 [a0, a1, a2, a3, a4, a5, a6, a7, a8, a9] [.int 91, s0] M 0 0 Z := R_bipush (gd165 dX9_drapes_236) (by decide)
theorem z165_238 : Run d 165 238 [a0, a1, a2, a3, a4, a5, a6, a7, a8, a9] [.int y, .int x] M 0 0 Z ↔ (¬ x = y → Run d 165 245 [a0, a1, a2, a3, a4, a5, a6, a7, a8, a9] [] M 0 0 Z) ∧ (¬ (¬ x = y) → Run d 165 241 [a0, a1, a2, a3, a4, a5, a6, a7, a8, a9] [] M 0 0 Z) := R_icmp (gd165 dX9_drapes_238) (show gTgt 238 7 = some 245 by decide) gIf_ne
theorem z165_241 : Run d 165 241 [a0, a1, a2, a3, a4, a5, a6, a7, a8, a9] [] M 0 0 Z ↔ Run d 165 242 [a0, a1, a2, a3, a4, a5, a6, a7, a8, a9] [.int 1] M 0 0 Z := R_iconst (gd165 dX9_drapes_241) (by decide)
theorem z165_242 : Run d 165 242 [a0, a1, a2, a3, a4, a5, a6, a7, a8, a9] [s0] M 0 0 Z ↔ Run d 165 246 [a0, a1, a2, a3, a4, a5, a6, a7, a8, a9] [s0] M 0 0 Z := R_goto (gd165 dX9_drapes_242) (show gTgt 242 4 = some 246 by decide)
theorem z165_245 : Run d 165 245 [a0, a1, a2, a3, a4, a5, a6, a7, a8, a9] [] M 0 0 Z ↔ Run d 165 246 [a0, a1, a2, a3, a4, a5, a6, a7, a8, a9] [.int 0] M 0 0 Z := R_iconst (gd165 dX9_drapes_245) (by decide)
theorem z165_246 : Run d 165 246 [a0, a1, a2, a3, a4, a5, a6, a7, a8, a9] [.int x] M 0 0 Z ↔ Run d 165 248 [a0, a1, a2, a3, a4, a5, a6, some (.int x), a8, a9] [] M 0 0 Z := R_local (gd165 dX9_drapes_246) rfl rfl rfl
theorem z165_248 : Run d 165 248 [some (.ref o), a1, a2, a3, a4, a5, a6, a7, a8, a9] [] M 0 0 Z ↔ Run d 165 249 [some (.ref o), a1, a2, a3, a4, a5, a6, a7, a8, a9] [.ref o] M 0 0 Z := R_local (gd165 dX9_drapes_248) rfl rfl rfl
theorem z165_249 : Run d 165 249 [a0, a1, a2, a3, a4, a5, a6, a7, a8, a9] [.ref b] M 0 0 Z ↔ gObj M b 9 ∧ Call d 130 [.ref b] M (fun r M1 => Run d 165 252 [a0, a1, a2, a3, a4, a5, a6, a7, a8, a9] (r.toList ++ []) M1 0 0 Z) := R_callV (gd165 dX9_drapes_249) rfl rfl rfl rfl rfl rfl gc_9_196 rfl rfl (Nat.le_of_ble_eq_true rfl) (Nat.le_of_ble_eq_true rfl) rfl rfl (Nat.le_of_ble_eq_true rfl) (Nat.le_of_ble_eq_true rfl)
theorem z165_252 : Run d 165 252 [a0, a1, a2, a3, a4, a5, a6, a7, a8, a9] [s0] M 0 0 Z ↔ Run d 165 254 [a0, a1, a2, a3, a4, a5, a6, a7, a8, a9] [.int 104, s0] M 0 0 Z := R_bipush (gd165 dX9_drapes_252) (by decide)
theorem z165_254 : Run d 165 254 [a0, a1, a2, a3, a4, a5, a6, a7, a8, a9] [.int y, .int x] M 0 0 Z ↔ (¬ x = y → Run d 165 261 [a0, a1, a2, a3, a4, a5, a6, a7, a8, a9] [] M 0 0 Z) ∧ (¬ (¬ x = y) → Run d 165 257 [a0, a1, a2, a3, a4, a5, a6, a7, a8, a9] [] M 0 0 Z) := R_icmp (gd165 dX9_drapes_254) (show gTgt 254 7 = some 261 by decide) gIf_ne
theorem z165_257 : Run d 165 257 [a0, a1, a2, a3, a4, a5, a6, a7, a8, a9] [] M 0 0 Z ↔ Run d 165 258 [a0, a1, a2, a3, a4, a5, a6, a7, a8, a9] [.int 1] M 0 0 Z := R_iconst (gd165 dX9_drapes_257) (by decide)
theorem z165_258 : Run d 165 258 [a0, a1, a2, a3, a4, a5, a6, a7, a8, a9] [s0] M 0 0 Z ↔ Run d 165 262 [a0, a1, a2, a3, a4, a5, a6, a7, a8, a9] [s0] M 0 0 Z := R_goto (gd165 dX9_drapes_258) (show gTgt 258 4 = some 262 by decide)
theorem z165_261 : Run d 165 261 [a0, a1, a2, a3, a4, a5, a6, a7, a8, a9] [] M 0 0 Z ↔ Run d 165 262 [a0, a1, a2, a3, a4, a5, a6, a7, a8, a9] [.int 0] M 0 0 Z := R_iconst (gd165 dX9_drapes_261) (by decide)
theorem z165_262 : Run d 165 262 [a0, a1, a2, a3, a4, a5, a6, a7, a8, a9] [.int x] M 0 0 Z ↔ Run d 165 264 [a0, a1, a2, a3, a4, a5, a6, a7, some (.int x), a9] [] M 0 0 Z := R_local (gd165 dX9_drapes_262) rfl rfl rfl
theorem z165_264 : Run d 165 264 [some (.ref o), a1, a2, a3, a4, a5, a6, a7, a8, a9] [] M 0 0 Z ↔ Run d 165 265 [some (.ref o), a1, a2, a3, a4, a5, a6, a7, a8, a9] [.ref o] M 0 0 Z := R_local (gd165 dX9_drapes_264) rfl rfl rfl
theorem z165_265 : Run d 165 265 [a0, a1, a2, a3, a4, a5, a6, a7, a8, a9] [.ref o] M 0 0 Z ↔ gObj M o 9 ∧ Run d 165 268 [a0, a1, a2, a3, a4, a5, a6, a7, a8, a9] [.int (M.1 o 44)] M 0 0 Z := R_getI (gd165 dX9_drapes_265) rfl gf_9_291 rfl
theorem z165_268 : Run d 165 268 [a0, a1, a2, a3, a4, a5, a6, a7, a8, a9] [.int x] M 0 0 Z ↔ Run d 165 270 [a0, a1, a2, a3, a4, a5, a6, a7, a8, some (.int x)] [] M 0 0 Z := R_local (gd165 dX9_drapes_268) rfl rfl rfl
theorem z165_270 : Run d 165 270 [some (.ref o), a1, a2, a3, a4, a5, a6, a7, a8, a9] [] M 0 0 Z ↔ Run d 165 271 [some (.ref o), a1, a2, a3, a4, a5, a6, a7, a8, a9] [.ref o] M 0 0 Z := R_local (gd165 dX9_drapes_270) rfl rfl rfl
theorem z165_271 : Run d 165 271 [a0, a1, a2, a3, a4, a5, a6, a7, a8, a9] [.ref b] M 0 0 Z ↔ gObj M b 9 ∧ Call d 163 [.ref b] M (fun r M1 => Run d 165 274 [a0, a1, a2, a3, a4, a5, a6, a7, a8, a9] (r.toList ++ []) M1 0 0 Z) := R_callV (gd165 dX9_drapes_271) rfl rfl rfl rfl rfl rfl gc_9_323 rfl rfl (Nat.le_of_ble_eq_true rfl) (Nat.le_of_ble_eq_true rfl) rfl rfl (Nat.le_of_ble_eq_true rfl) (Nat.le_of_ble_eq_true rfl)
theorem z165_274 : Run d 165 274 [some (.ref o), a1, a2, a3, a4, a5, a6, a7, a8, a9] [] M 0 0 Z ↔ Run d 165 275 [some (.ref o), a1, a2, a3, a4, a5, a6, a7, a8, a9] [.ref o] M 0 0 Z := R_local (gd165 dX9_drapes_274) rfl rfl rfl
theorem z165_275 : Run d 165 275 [a0, a1, a2, a3, a4, a5, a6, a7, a8, a9] [.ref o] M 0 0 Z ↔ gObj M o 9 ∧ Run d 165 278 [a0, a1, a2, a3, a4, a5, a6, a7, a8, a9] [va_rf (M.2.1 o 34)] M 0 0 Z := R_getR (gd165 dX9_drapes_275) rfl gf_9_89 rfl
theorem z165_278 : Run d 165 278 [some (.ref o), a1, a2, a3, a4, a5, a6, a7, a8, a9] [s0] M 0 0 Z ↔ Run d 165 279 [some (.ref o), a1, a2, a3, a4, a5, a6, a7, a8, a9] [.ref o, s0] M 0 0 Z := R_local (gd165 dX9_drapes_278) rfl rfl rfl
theorem z165_279 : Run d 165 279 [a0, a1, a2, a3, a4, a5, a6, a7, a8, a9] [.ref o, s0] M 0 0 Z ↔ gObj M o 9 ∧ Run d 165 282 [a0, a1, a2, a3, a4, a5, a6, a7, a8, a9] [.int (M.1 o 36), s0] M 0 0 Z := R_getI (gd165 dX9_drapes_279) rfl gf_9_233 rfl
theorem z165_282 : Run d 165 282 [a0, a1, a2, a3, a4, a5, a6, a7, a8, a9] [.int x, .ref o] M 0 0 Z ↔ gAr M o 0 ∧ gIn x (gLen M o) = true ∧ Run d 165 283 [a0, a1, a2, a3, a4, a5, a6, a7, a8, a9] [.int (M.1 o x.toNatClampNeg)] M 0 0 Z := R_iald (gd165 dX9_drapes_282)
theorem z165_283 : Run d 165 283 [a0, a1, a2, a3, a4, a5, a6, a7, a8, a9] [.int x] M 0 0 Z ↔ (x ≤ 0 → Run d 165 287 [a0, a1, a2, a3, a4, a5, a6, a7, a8, a9] [] M 0 0 Z) ∧ (¬ (x ≤ 0) → Run d 165 286 [a0, a1, a2, a3, a4, a5, a6, a7, a8, a9] [] M 0 0 Z) := R_if (gd165 dX9_drapes_283) (show gTgt 283 4 = some 287 by decide) gIf_le
theorem z165_286 : Run d 165 286 [a0, a1, a2, a3, a4, a5, a6, a7, a8, a9] [] M 0 0 Z ↔ Z none M := R_vret (gd165 dX9_drapes_286) rfl
theorem z165_287 : Run d 165 287 [some (.ref o), a1, a2, a3, a4, a5, a6, a7, a8, a9] [] M 0 0 Z ↔ Run d 165 288 [some (.ref o), a1, a2, a3, a4, a5, a6, a7, a8, a9] [.ref o] M 0 0 Z := R_local (gd165 dX9_drapes_287) rfl rfl rfl
theorem z165_288 : Run d 165 288 [some (.ref o), a1, a2, a3, a4, a5, a6, a7, a8, a9] [s0] M 0 0 Z ↔ Run d 165 289 [some (.ref o), a1, a2, a3, a4, a5, a6, a7, a8, a9] [.ref o, s0] M 0 0 Z := R_local (gd165 dX9_drapes_288) rfl rfl rfl
theorem z165_289 : Run d 165 289 [a0, a1, a2, a3, a4, a5, a6, a7, a8, a9] [.ref o, s0] M 0 0 Z ↔ gObj M o 9 ∧ Run d 165 292 [a0, a1, a2, a3, a4, a5, a6, a7, a8, a9] [.int (M.1 o 50), s0] M 0 0 Z := R_getI (gd165 dX9_drapes_289) rfl gf_9_320 rfl
theorem z165_292 : Run d 165 292 [a0, a1, a2, a3, a4, a5, a6, a7, a8, a9] [.int x, s0] M 0 0 Z ↔ (¬ x = 0 → Run d 165 300 [a0, a1, a2, a3, a4, a5, a6, a7, a8, a9] [s0] M 0 0 Z) ∧ (¬ (¬ x = 0) → Run d 165 295 [a0, a1, a2, a3, a4, a5, a6, a7, a8, a9] [s0] M 0 0 Z) := R_if (gd165 dX9_drapes_292) (show gTgt 292 8 = some 300 by decide) gIf_ne
theorem z165_295 : Run d 165 295 [a0, a1, a2, a3, a4, a5, a6, a7, some (.int x), a9] [s0] M 0 0 Z ↔ Run d 165 297 [a0, a1, a2, a3, a4, a5, a6, a7, some (.int x), a9] [.int x, s0] M 0 0 Z := R_local (gd165 dX9_drapes_295) rfl rfl rfl
theorem z165_297 : Run d 165 297 [a0, a1, a2, a3, a4, a5, a6, a7, a8, a9] [.int x, s0] M 0 0 Z ↔ (x = 0 → Run d 165 304 [a0, a1, a2, a3, a4, a5, a6, a7, a8, a9] [s0] M 0 0 Z) ∧ (¬ (x = 0) → Run d 165 300 [a0, a1, a2, a3, a4, a5, a6, a7, a8, a9] [s0] M 0 0 Z) := R_if (gd165 dX9_drapes_297) (show gTgt 297 7 = some 304 by decide) gIf_eq
theorem z165_300 : Run d 165 300 [a0, a1, a2, a3, a4, a5, a6, a7, a8, a9] [s0] M 0 0 Z ↔ Run d 165 301 [a0, a1, a2, a3, a4, a5, a6, a7, a8, a9] [.int 1, s0] M 0 0 Z := R_iconst (gd165 dX9_drapes_300) (by decide)
theorem z165_301 : Run d 165 301 [a0, a1, a2, a3, a4, a5, a6, a7, a8, a9] [s1, s0] M 0 0 Z ↔ Run d 165 305 [a0, a1, a2, a3, a4, a5, a6, a7, a8, a9] [s1, s0] M 0 0 Z := R_goto (gd165 dX9_drapes_301) (show gTgt 301 4 = some 305 by decide)
theorem z165_304 : Run d 165 304 [a0, a1, a2, a3, a4, a5, a6, a7, a8, a9] [s0] M 0 0 Z ↔ Run d 165 305 [a0, a1, a2, a3, a4, a5, a6, a7, a8, a9] [.int 0, s0] M 0 0 Z := R_iconst (gd165 dX9_drapes_304) (by decide)
theorem z165_305 : Run d 165 305 [a0, a1, a2, a3, a4, a5, a6, a7, a8, a9] [.int x, .ref o] M 0 0 Z ↔ gObj M o 9 ∧ (x = 0 ∨ x = 1) ∧ Run d 165 308 [a0, a1, a2, a3, a4, a5, a6, a7, a8, a9] [] (gsI M o 50 x) 0 0 Z := R_putZ (gd165 dX9_drapes_305) rfl gf_9_320 (Or.inl rfl) rfl
theorem z165_308 : Run d 165 308 [some (.ref o), a1, a2, a3, a4, a5, a6, a7, a8, a9] [] M 0 0 Z ↔ Run d 165 309 [some (.ref o), a1, a2, a3, a4, a5, a6, a7, a8, a9] [.ref o] M 0 0 Z := R_local (gd165 dX9_drapes_308) rfl rfl rfl
theorem z165_309 : Run d 165 309 [a0, a1, a2, a3, a4, a5, a6, a7, a8, a9] [.ref o] M 0 0 Z ↔ Run d 165 310 [a0, a1, a2, a3, a4, a5, a6, a7, a8, a9] [.ref o, .ref o] M 0 0 Z := R_arith (gd165 dX9_drapes_309) rfl
theorem z165_310 : Run d 165 310 [a0, a1, a2, a3, a4, a5, a6, a7, a8, a9] [.ref o, s0] M 0 0 Z ↔ gObj M o 9 ∧ Run d 165 313 [a0, a1, a2, a3, a4, a5, a6, a7, a8, a9] [.int (M.1 o 40), s0] M 0 0 Z := R_getI (gd165 dX9_drapes_310) rfl gf_9_266 rfl
theorem z165_313 : Run d 165 313 [a0, a1, a2, a3, a4, a5, a6, a7, a8, a9] [s1, s0] M 0 0 Z ↔ Run d 165 314 [a0, a1, a2, a3, a4, a5, a6, a7, a8, a9] [.int 1, s1, s0] M 0 0 Z := R_iconst (gd165 dX9_drapes_313) (by decide)
theorem z165_314 : Run d 165 314 [a0, a1, a2, a3, a4, a5, a6, a7, a8, a9] [.int y, .int x, s0] M 0 0 Z ↔ Run d 165 315 [a0, a1, a2, a3, a4, a5, a6, a7, a8, a9] [.int (x + y), s0] M 0 0 Z := R_arith (gd165 dX9_drapes_314) rfl
theorem z165_315 : Run d 165 315 [a0, a1, a2, a3, a4, a5, a6, a7, a8, a9] [.int x, .ref o] M 0 0 Z ↔ gObj M o 9 ∧ Run d 165 318 [a0, a1, a2, a3, a4, a5, a6, a7, a8, a9] [] (gsI M o 40 x) 0 0 Z := R_putI (gd165 dX9_drapes_315) rfl gf_9_266 (Or.inl rfl) rfl
theorem z165_318 : Run d 165 318 [a0, a1, a2, a3, a4, a5, a6, some (.int x), a8, a9] [] M 0 0 Z ↔ Run d 165 320 [a0, a1, a2, a3, a4, a5, a6, some (.int x), a8, a9] [.int x] M 0 0 Z := R_local (gd165 dX9_drapes_318) rfl rfl rfl
theorem z165_320 : Run d 165 320 [a0, a1, a2, a3, a4, a5, a6, a7, a8, a9] [.int x] M 0 0 Z ↔ (x = 0 → Run d 165 332 [a0, a1, a2, a3, a4, a5, a6, a7, a8, a9] [] M 0 0 Z) ∧ (¬ (x = 0) → Run d 165 323 [a0, a1, a2, a3, a4, a5, a6, a7, a8, a9] [] M 0 0 Z) := R_if (gd165 dX9_drapes_320) (show gTgt 320 12 = some 332 by decide) gIf_eq
theorem z165_323 : Run d 165 323 [some (.ref o), a1, a2, a3, a4, a5, a6, a7, a8, a9] [] M 0 0 Z ↔ Run d 165 324 [some (.ref o), a1, a2, a3, a4, a5, a6, a7, a8, a9] [.ref o] M 0 0 Z := R_local (gd165 dX9_drapes_323) rfl rfl rfl
theorem z165_324 : Run d 165 324 [a0, a1, a2, a3, a4, a5, a6, a7, a8, a9] [.ref o] M 0 0 Z ↔ gObj M o 9 ∧ Run d 165 327 [a0, a1, a2, a3, a4, a5, a6, a7, a8, a9] [.int (M.1 o 44)] M 0 0 Z := R_getI (gd165 dX9_drapes_324) rfl gf_9_291 rfl
theorem z165_327 : Run d 165 327 [a0, a1, a2, a3, a4, a5, a6, a7, a8, some (.int x)] [s0] M 0 0 Z ↔ Run d 165 329 [a0, a1, a2, a3, a4, a5, a6, a7, a8, some (.int x)] [.int x, s0] M 0 0 Z := R_local (gd165 dX9_drapes_327) rfl rfl rfl
theorem z165_329 : Run d 165 329 [a0, a1, a2, a3, a4, a5, a6, a7, a8, a9] [.int y, .int x] M 0 0 Z ↔ (¬ x = y → Run d 165 336 [a0, a1, a2, a3, a4, a5, a6, a7, a8, a9] [] M 0 0 Z) ∧ (¬ (¬ x = y) → Run d 165 332 [a0, a1, a2, a3, a4, a5, a6, a7, a8, a9] [] M 0 0 Z) := R_icmp (gd165 dX9_drapes_329) (show gTgt 329 7 = some 336 by decide) gIf_ne
theorem z165_332 : Run d 165 332 [some (.ref o), a1, a2, a3, a4, a5, a6, a7, a8, a9] [] M 0 0 Z ↔ Run d 165 333 [some (.ref o), a1, a2, a3, a4, a5, a6, a7, a8, a9] [.ref o] M 0 0 Z := R_local (gd165 dX9_drapes_332) rfl rfl rfl
theorem z165_333 : Run d 165 333 [a0, a1, a2, a3, a4, a5, a6, a7, a8, a9] [.ref b] M 0 0 Z ↔ gObj M b 9 ∧ Call d 164 [.ref b] M (fun r M1 => Run d 165 336 [a0, a1, a2, a3, a4, a5, a6, a7, a8, a9] (r.toList ++ []) M1 0 0 Z) := R_callV (gd165 dX9_drapes_333) rfl rfl rfl rfl rfl rfl gc_9_326 rfl rfl (Nat.le_of_ble_eq_true rfl) (Nat.le_of_ble_eq_true rfl) rfl rfl (Nat.le_of_ble_eq_true rfl) (Nat.le_of_ble_eq_true rfl)
theorem z165_336 : Run d 165 336 [a0, a1, a2, a3, a4, a5, a6, a7, a8, a9] [] M 0 0 Z ↔ Run d 165 192 [a0, a1, a2, a3, a4, a5, a6, a7, a8, a9] [] M 0 0 Z := R_goto (gd165 dX9_drapes_336) (show gTgt 336 (-144) = some 192 by decide)
theorem z165_339 : Run d 165 339 [a0, a1, a2, a3, a4, a5, a6, a7, a8, a9] [] M 0 0 Z ↔ Z none M := R_vret (gd165 dX9_drapes_339) rfl
theorem e165 : Call (d + 1) 165 [s0, s1, s2, s3, s4, s5, s6] M Z ↔ Run d 165 0 [some s0, some s1, some s2, some s3, some s4, some s5, some s6, none, none, none] [] M 0 0 Z := Call_iff (Nat.lt_of_lt_of_le (Nat.lt_succ_self 165) (Nat.le_of_ble_eq_true rfl)) (Nat.le_of_ble_eq_true rfl)
/-! 166: X9_drape (IIII)I -/
theorem gd166 {pc : Nat} {r : Except _ _} (h : decode cX9_drape pc = r) : decode (gby 166) pc = r := h
theorem z166_0 : Run d 166 0 [some (.ref o), a1, a2, a3, a4] [] M 0 0 Z ↔ Run d 166 1 [some (.ref o), a1, a2, a3, a4] [.ref o] M 0 0 Z := R_local (gd166 dX9_drape_0) rfl rfl rfl
theorem z166_1 : Run d 166 1 [a0, some (.int x), a2, a3, a4] [s0] M 0 0 Z ↔ Run d 166 2 [a0, some (.int x), a2, a3, a4] [.int x, s0] M 0 0 Z := R_local (gd166 dX9_drape_1) rfl rfl rfl
theorem z166_2 : Run d 166 2 [a0, a1, a2, a3, a4] [s1, .ref b] M 0 0 Z ↔ gObj M b 9 ∧ Call d 124 [.ref b, s1] M (fun r M1 => Run d 166 5 [a0, a1, a2, a3, a4] (r.toList ++ []) M1 0 0 Z) := R_callV (gd166 dX9_drape_2) rfl rfl rfl rfl rfl rfl gc_9_329 rfl rfl (Nat.le_of_ble_eq_true rfl) (Nat.le_of_ble_eq_true rfl) rfl rfl (Nat.le_of_ble_eq_true rfl) (Nat.le_of_ble_eq_true rfl)
theorem z166_5 : Run d 166 5 [a0, a1, a2, a3, a4] [.int x] M 0 0 Z ↔ (x = 0 → Run d 166 35 [a0, a1, a2, a3, a4] [] M 0 0 Z) ∧ (¬ (x = 0) → Run d 166 8 [a0, a1, a2, a3, a4] [] M 0 0 Z) := R_if (gd166 dX9_drape_5) (show gTgt 5 30 = some 35 by decide) gIf_eq
theorem z166_8 : Run d 166 8 [some (.ref o), a1, a2, a3, a4] [] M 0 0 Z ↔ Run d 166 9 [some (.ref o), a1, a2, a3, a4] [.ref o] M 0 0 Z := R_local (gd166 dX9_drape_8) rfl rfl rfl
theorem z166_9 : Run d 166 9 [a0, a1, some (.int x), a3, a4] [s0] M 0 0 Z ↔ Run d 166 10 [a0, a1, some (.int x), a3, a4] [.int x, s0] M 0 0 Z := R_local (gd166 dX9_drape_9) rfl rfl rfl
theorem z166_10 : Run d 166 10 [a0, a1, a2, a3, a4] [s1, .ref b] M 0 0 Z ↔ gObj M b 9 ∧ Call d 122 [.ref b, s1] M (fun r M1 => Run d 166 13 [a0, a1, a2, a3, a4] (r.toList ++ []) M1 0 0 Z) := R_callV (gd166 dX9_drape_10) rfl rfl rfl rfl rfl rfl gc_9_332 rfl rfl (Nat.le_of_ble_eq_true rfl) (Nat.le_of_ble_eq_true rfl) rfl rfl (Nat.le_of_ble_eq_true rfl) (Nat.le_of_ble_eq_true rfl)
theorem z166_13 : Run d 166 13 [a0, a1, a2, a3, a4] [.int x] M 0 0 Z ↔ (x = 0 → Run d 166 35 [a0, a1, a2, a3, a4] [] M 0 0 Z) ∧ (¬ (x = 0) → Run d 166 16 [a0, a1, a2, a3, a4] [] M 0 0 Z) := R_if (gd166 dX9_drape_13) (show gTgt 13 22 = some 35 by decide) gIf_eq
theorem z166_16 : Run d 166 16 [some (.ref o), a1, a2, a3, a4] [] M 0 0 Z ↔ Run d 166 17 [some (.ref o), a1, a2, a3, a4] [.ref o] M 0 0 Z := R_local (gd166 dX9_drape_16) rfl rfl rfl
theorem z166_17 : Run d 166 17 [a0, a1, a2, some (.int x), a4] [s0] M 0 0 Z ↔ Run d 166 18 [a0, a1, a2, some (.int x), a4] [.int x, s0] M 0 0 Z := R_local (gd166 dX9_drape_17) rfl rfl rfl
theorem z166_18 : Run d 166 18 [a0, a1, a2, a3, a4] [s1, .ref b] M 0 0 Z ↔ gObj M b 9 ∧ Call d 123 [.ref b, s1] M (fun r M1 => Run d 166 21 [a0, a1, a2, a3, a4] (r.toList ++ []) M1 0 0 Z) := R_callV (gd166 dX9_drape_18) rfl rfl rfl rfl rfl rfl gc_9_167 rfl rfl (Nat.le_of_ble_eq_true rfl) (Nat.le_of_ble_eq_true rfl) rfl rfl (Nat.le_of_ble_eq_true rfl) (Nat.le_of_ble_eq_true rfl)
theorem z166_21 : Run d 166 21 [a0, a1, a2, a3, a4] [.int x] M 0 0 Z ↔ (x = 0 → Run d 166 35 [a0, a1, a2, a3, a4] [] M 0 0 Z) ∧ (¬ (x = 0) → Run d 166 24 [a0, a1, a2, a3, a4] [] M 0 0 Z) := R_if (gd166 dX9_drape_21) (show gTgt 21 14 = some 35 by decide) gIf_eq
theorem z166_24 : Run d 166 24 [a0, a1, a2, a3, some (.int x)] [] M 0 0 Z ↔ Run d 166 26 [a0, a1, a2, a3, some (.int x)] [.int x] M 0 0 Z := R_local (gd166 dX9_drape_24) rfl rfl rfl
theorem z166_26 : Run d 166 26 [a0, a1, a2, a3, a4] [s0] M 0 0 Z ↔ Run d 166 27 [a0, a1, a2, a3, a4] [.int 0, s0] M 0 0 Z := R_iconst (gd166 dX9_drape_26) (by decide)
theorem z166_27 : Run d 166 27 [a0, a1, a2, a3, a4] [s1, s0] M 0 0 Z ↔ Run d 166 29 [a0, a1, a2, a3, a4] [.int 60, s1, s0] M 0 0 Z := R_bipush (gd166 dX9_drape_27) (by decide)
theorem z166_29 : Run d 166 29 [a0, a1, a2, a3, a4] [s2, s1, s0] M 0 0 Z ↔ Call d 120 [s0, s1, s2] M (fun r M1 => Run d 166 32 [a0, a1, a2, a3, a4] (r.toList ++ []) M1 0 0 Z) := R_call (gd166 dX9_drape_29) rfl rfl rfl rfl rfl rfl gc_9_157 rfl (by decide) (Nat.le_of_ble_eq_true rfl) (Nat.le_of_ble_eq_true rfl) rfl rfl rfl (Nat.le_of_ble_eq_true rfl) (Nat.le_of_ble_eq_true rfl)
theorem z166_32 : Run d 166 32 [a0, a1, a2, a3, a4] [.int x] M 0 0 Z ↔ (¬ x = 0 → Run d 166 37 [a0, a1, a2, a3, a4] [] M 0 0 Z) ∧ (¬ (¬ x = 0) → Run d 166 35 [a0, a1, a2, a3, a4] [] M 0 0 Z) := R_if (gd166 dX9_drape_32) (show gTgt 32 5 = some 37 by decide) gIf_ne
theorem z166_35 : Run d 166 35 [a0, a1, a2, a3, a4] [] M 0 0 Z ↔ Run d 166 36 [a0, a1, a2, a3, a4] [.int (-1)] M 0 0 Z := R_iconst (gd166 dX9_drape_35) (by decide)
theorem z166_36 : Run d 166 36 [a0, a1, a2, a3, a4] [.int x] M 0 0 Z ↔ Z (some (.int x)) M := R_iret (gd166 dX9_drape_36) rfl
theorem z166_37 : Run d 166 37 [some (.ref o), a1, a2, a3, a4] [] M 0 0 Z ↔ Run d 166 38 [some (.ref o), a1, a2, a3, a4] [.ref o] M 0 0 Z := R_local (gd166 dX9_drape_37) rfl rfl rfl
theorem z166_38 : Run d 166 38 [a0, some (.int x), a2, a3, a4] [s0] M 0 0 Z ↔ Run d 166 39 [a0, some (.int x), a2, a3, a4] [.int x, s0] M 0 0 Z := R_local (gd166 dX9_drape_38) rfl rfl rfl
theorem z166_39 : Run d 166 39 [a0, a1, some (.int x), a3, a4] [s1, s0] M 0 0 Z ↔ Run d 166 40 [a0, a1, some (.int x), a3, a4] [.int x, s1, s0] M 0 0 Z := R_local (gd166 dX9_drape_39) rfl rfl rfl
theorem z166_40 : Run d 166 40 [some (.ref o), a1, a2, a3, a4] [s2, s1, s0] M 0 0 Z ↔ Run d 166 41 [some (.ref o), a1, a2, a3, a4] [.ref o, s2, s1, s0] M 0 0 Z := R_local (gd166 dX9_drape_40) rfl rfl rfl
theorem z166_41 : Run d 166 41 [a0, a1, a2, a3, a4] [.ref o, s2, s1, s0] M 0 0 Z ↔ gObj M o 9 ∧ Run d 166 44 [a0, a1, a2, a3, a4] [va_rf (M.2.1 o 6), s2, s1, s0] M 0 0 Z := R_getR (gd166 dX9_drape_41) rfl gf_9_17 rfl
theorem z166_44 : Run d 166 44 [a0, a1, a2, some (.int x), a4] [s3, s2, s1, s0] M 0 0 Z ↔ Run d 166 45 [a0, a1, a2, some (.int x), a4] [.int x, s3, s2, s1, s0] M 0 0 Z := R_local (gd166 dX9_drape_44) rfl rfl rfl
theorem z166_45 : Run d 166 45 [a0, a1, a2, a3, a4] [.int x, .ref o, s2, s1, s0] M 0 0 Z ↔ gAr M o 0 ∧ gIn x (gLen M o) = true ∧ Run d 166 46 [a0, a1, a2, a3, a4] [.int (M.1 o x.toNatClampNeg), s2, s1, s0] M 0 0 Z := R_iald (gd166 dX9_drape_45)
theorem z166_46 : Run d 166 46 [some (.ref o), a1, a2, a3, a4] [s3, s2, s1, s0] M 0 0 Z ↔ Run d 166 47 [some (.ref o), a1, a2, a3, a4] [.ref o, s3, s2, s1, s0] M 0 0 Z := R_local (gd166 dX9_drape_46) rfl rfl rfl
theorem z166_47 : Run d 166 47 [a0, a1, a2, a3, a4] [.ref o, s3, s2, s1, s0] M 0 0 Z ↔ gObj M o 9 ∧ Run d 166 50 [a0, a1, a2, a3, a4] [va_rf (M.2.1 o 7), s3, s2, s1, s0] M 0 0 Z := R_getR (gd166 dX9_drape_47) rfl gf_9_20 rfl
theorem z166_50 : Run d 166 50 [a0, a1, a2, some (.int x), a4] [s4, s3, s2, s1, s0] M 0 0 Z ↔ Run d 166 51 [a0, a1, a2, some (.int x), a4] [.int x, s4, s3, s2, s1, s0] M 0 0 Z := R_local (gd166 dX9_drape_50) rfl rfl rfl
theorem z166_51 : Run d 166 51 [a0, a1, a2, a3, a4] [.int x, .ref o, s3, s2, s1, s0] M 0 0 Z ↔ gAr M o 0 ∧ gIn x (gLen M o) = true ∧ Run d 166 52 [a0, a1, a2, a3, a4] [.int (M.1 o x.toNatClampNeg), s3, s2, s1, s0] M 0 0 Z := R_iald (gd166 dX9_drape_51)
theorem z166_52 : Run d 166 52 [a0, a1, a2, a3, some (.int x)] [s4, s3, s2, s1, s0] M 0 0 Z ↔ Run d 166 54 [a0, a1, a2, a3, some (.int x)] [.int x, s4, s3, s2, s1, s0] M 0 0 Z := R_local (gd166 dX9_drape_52) rfl rfl rfl
theorem z166_54 : Run d 166 54 [a0, a1, a2, a3, a4] [s5, s4, s3, s2, s1, s0] M 0 0 Z ↔ Run d 166 55 [a0, a1, a2, a3, a4] [.int 0, s5, s4, s3, s2, s1, s0] M 0 0 Z := R_iconst (gd166 dX9_drape_54) (by decide)
theorem z166_55 : Run d 166 55 [a0, a1, a2, a3, a4] [s6, s5, s4, s3, s2, s1, .ref b] M 0 0 Z ↔ gObj M b 9 ∧ Call d 165 [.ref b, s1, s2, s3, s4, s5, s6] M (fun r M1 => Run d 166 58 [a0, a1, a2, a3, a4] (r.toList ++ []) M1 0 0 Z) := R_callV (gd166 dX9_drape_55) rfl rfl rfl rfl rfl rfl gc_9_335 rfl rfl (Nat.le_of_ble_eq_true rfl) (Nat.le_of_ble_eq_true rfl) rfl rfl (Nat.le_of_ble_eq_true rfl) (Nat.le_of_ble_eq_true rfl)
theorem z166_58 : Run d 166 58 [some (.ref o), a1, a2, a3, a4] [] M 0 0 Z ↔ Run d 166 59 [some (.ref o), a1, a2, a3, a4] [.ref o] M 0 0 Z := R_local (gd166 dX9_drape_58) rfl rfl rfl
theorem z166_59 : Run d 166 59 [a0, a1, a2, a3, a4] [s0] M 0 0 Z ↔ Run d 166 60 [a0, a1, a2, a3, a4] [.int 1, s0] M 0 0 Z := R_iconst (gd166 dX9_drape_59) (by decide)
theorem z166_60 : Run d 166 60 [a0, a1, a2, a3, a4] [.int x, .ref o] M 0 0 Z ↔ gObj M o 9 ∧ (x = 0 ∨ x = 1) ∧ Run d 166 63 [a0, a1, a2, a3, a4] [] (gsI M o 51 x) 0 0 Z := R_putZ (gd166 dX9_drape_60) rfl gf_9_339 (Or.inl rfl) rfl
theorem z166_63 : Run d 166 63 [some (.ref o), a1, a2, a3, a4] [] M 0 0 Z ↔ Run d 166 64 [some (.ref o), a1, a2, a3, a4] [.ref o] M 0 0 Z := R_local (gd166 dX9_drape_63) rfl rfl rfl
theorem z166_64 : Run d 166 64 [a0, a1, a2, a3, a4] [s0] M 0 0 Z ↔ Run d 166 65 [a0, a1, a2, a3, a4] [.int 0, s0] M 0 0 Z := R_iconst (gd166 dX9_drape_64) (by decide)
theorem z166_65 : Run d 166 65 [a0, a1, a2, a3, a4] [.int x, .ref o] M 0 0 Z ↔ gObj M o 9 ∧ (x = 0 ∨ x = 1) ∧ Run d 166 68 [a0, a1, a2, a3, a4] [] (gsI M o 52 x) 0 0 Z := R_putZ (gd166 dX9_drape_65) rfl gf_9_342 (Or.inl rfl) rfl
theorem z166_68 : Run d 166 68 [some (.ref o), a1, a2, a3, a4] [] M 0 0 Z ↔ Run d 166 69 [some (.ref o), a1, a2, a3, a4] [.ref o] M 0 0 Z := R_local (gd166 dX9_drape_68) rfl rfl rfl
theorem z166_69 : Run d 166 69 [a0, a1, a2, some (.int x), a4] [s0] M 0 0 Z ↔ Run d 166 70 [a0, a1, a2, some (.int x), a4] [.int x, s0] M 0 0 Z := R_local (gd166 dX9_drape_69) rfl rfl rfl
theorem z166_70 : Run d 166 70 [a0, a1, a2, a3, a4] [.int x, .ref o] M 0 0 Z ↔ gObj M o 9 ∧ Run d 166 73 [a0, a1, a2, a3, a4] [] (gsI M o 53 x) 0 0 Z := R_putI (gd166 dX9_drape_70) rfl gf_9_345 (Or.inl rfl) rfl
theorem z166_73 : Run d 166 73 [some (.ref o), a1, a2, a3, a4] [] M 0 0 Z ↔ Run d 166 74 [some (.ref o), a1, a2, a3, a4] [.ref o] M 0 0 Z := R_local (gd166 dX9_drape_73) rfl rfl rfl
theorem z166_74 : Run d 166 74 [a0, a1, some (.int x), a3, a4] [s0] M 0 0 Z ↔ Run d 166 75 [a0, a1, some (.int x), a3, a4] [.int x, s0] M 0 0 Z := R_local (gd166 dX9_drape_74) rfl rfl rfl
theorem z166_75 : Run d 166 75 [a0, a1, a2, a3, a4] [.int x, .ref o] M 0 0 Z ↔ gObj M o 9 ∧ Run d 166 78 [a0, a1, a2, a3, a4] [] (gsI M o 54 x) 0 0 Z := R_putI (gd166 dX9_drape_75) rfl gf_9_348 (Or.inl rfl) rfl
theorem z166_78 : Run d 166 78 [some (.ref o), a1, a2, a3, a4] [] M 0 0 Z ↔ Run d 166 79 [some (.ref o), a1, a2, a3, a4] [.ref o] M 0 0 Z := R_local (gd166 dX9_drape_78) rfl rfl rfl
theorem z166_79 : Run d 166 79 [a0, a1, a2, a3, a4] [.ref o] M 0 0 Z ↔ gObj M o 9 ∧ Run d 166 82 [a0, a1, a2, a3, a4] [va_rf (M.2.1 o 34)] M 0 0 Z := R_getR (gd166 dX9_drape_79) rfl gf_9_89 rfl
theorem z166_82 : Run d 166 82 [a0, a1, a2, a3, a4] [s0] M 0 0 Z ↔ Run d 166 83 [a0, a1, a2, a3, a4] [.int 0, s0] M 0 0 Z := R_iconst (gd166 dX9_drape_82) (by decide)
theorem z166_83 : Run d 166 83 [a0, a1, a2, a3, a4] [.int x, .ref o] M 0 0 Z ↔ gAr M o 0 ∧ gIn x (gLen M o) = true ∧ Run d 166 84 [a0, a1, a2, a3, a4] [.int (M.1 o x.toNatClampNeg)] M 0 0 Z := R_iald (gd166 dX9_drape_83)
theorem z166_84 : Run d 166 84 [a0, a1, a2, a3, a4] [.int x] M 0 0 Z ↔ (x ≤ 0 → Run d 166 99 [a0, a1, a2, a3, a4] [] M 0 0 Z) ∧ (¬ (x ≤ 0) → Run d 166 87 [a0, a1, a2, a3, a4] [] M 0 0 Z) := R_if (gd166 dX9_drape_84) (show gTgt 84 15 = some 99 by decide) gIf_le
theorem z166_87 : Run d 166 87 [a0, a1, a2, a3, a4] [] M 0 0 Z ↔ Run d 166 89 [a0, a1, a2, a3, a4] [.int (-10)] M 0 0 Z := R_bipush (gd166 dX9_drape_87) (by decide)
theorem z166_89 : Run d 166 89 [some (.ref o), a1, a2, a3, a4] [s0] M 0 0 Z ↔ Run d 166 90 [some (.ref o), a1, a2, a3, a4] [.ref o, s0] M 0 0 Z := R_local (gd166 dX9_drape_89) rfl rfl rfl
theorem z166_90 : Run d 166 90 [a0, a1, a2, a3, a4] [.ref o, s0] M 0 0 Z ↔ gObj M o 9 ∧ Run d 166 93 [a0, a1, a2, a3, a4] [va_rf (M.2.1 o 34), s0] M 0 0 Z := R_getR (gd166 dX9_drape_90) rfl gf_9_89 rfl
theorem z166_93 : Run d 166 93 [a0, a1, a2, a3, a4] [s1, s0] M 0 0 Z ↔ Run d 166 94 [a0, a1, a2, a3, a4] [.int 0, s1, s0] M 0 0 Z := R_iconst (gd166 dX9_drape_93) (by decide)
theorem z166_94 : Run d 166 94 [a0, a1, a2, a3, a4] [.int x, .ref o, s0] M 0 0 Z ↔ gAr M o 0 ∧ gIn x (gLen M o) = true ∧ Run d 166 95 [a0, a1, a2, a3, a4] [.int (M.1 o x.toNatClampNeg), s0] M 0 0 Z := R_iald (gd166 dX9_drape_94)
theorem z166_95 : Run d 166 95 [a0, a1, a2, a3, a4] [.int y, .int x] M 0 0 Z ↔ Run d 166 96 [a0, a1, a2, a3, a4] [.int (x - y)] M 0 0 Z := R_arith (gd166 dX9_drape_95) rfl
theorem z166_96 : Run d 166 96 [a0, a1, a2, a3, a4] [s0] M 0 0 Z ↔ Run d 166 105 [a0, a1, a2, a3, a4] [s0] M 0 0 Z := R_goto (gd166 dX9_drape_96) (show gTgt 96 9 = some 105 by decide)
theorem z166_99 : Run d 166 99 [some (.ref o), a1, a2, a3, a4] [] M 0 0 Z ↔ Run d 166 100 [some (.ref o), a1, a2, a3, a4] [.ref o] M 0 0 Z := R_local (gd166 dX9_drape_99) rfl rfl rfl
theorem z166_100 : Run d 166 100 [a0, a1, a2, a3, a4] [.ref o] M 0 0 Z ↔ gObj M o 9 ∧ Run d 166 103 [a0, a1, a2, a3, a4] [va_rf (M.2.1 o 26)] M 0 0 Z := R_getR (gd166 dX9_drape_100) rfl gf_9_65 rfl
theorem z166_103 : Run d 166 103 [a0, a1, a2, a3, a4] [s0] M 0 0 Z ↔ Run d 166 104 [a0, a1, a2, a3, a4] [.int 0, s0] M 0 0 Z := R_iconst (gd166 dX9_drape_103) (by decide)
theorem z166_104 : Run d 166 104 [a0, a1, a2, a3, a4] [.int x, .ref o] M 0 0 Z ↔ gAr M o 0 ∧ gIn x (gLen M o) = true ∧ Run d 166 105 [a0, a1, a2, a3, a4] [.int (M.1 o x.toNatClampNeg)] M 0 0 Z := R_iald (gd166 dX9_drape_104)
theorem z166_105 : Run d 166 105 [a0, a1, a2, a3, a4] [.int x] M 0 0 Z ↔ Z (some (.int x)) M := R_iret (gd166 dX9_drape_105) rfl
theorem e166 : Call (d + 1) 166 [s0, s1, s2, s3, s4] M Z ↔ Run d 166 0 [some s0, some s1, some s2, some s3, some s4] [] M 0 0 Z := Call_iff (Nat.lt_of_lt_of_le (Nat.lt_succ_self 166) (Nat.le_of_ble_eq_true rfl)) (Nat.le_of_ble_eq_true rfl)
/-! 167: X9_colourOf (IIII)I -/
theorem gd167 {pc : Nat} {r : Except _ _} (h : decode cX9_colourOf pc = r) : decode (gby 167) pc = r := h
theorem z167_0 : Run d 167 0 [a0, a1, a2, a3, some (.int x)] [] M 0 0 Z ↔ Run d 167 2 [a0, a1, a2, a3, some (.int x)] [.int x] M 0 0 Z := R_local (gd167 dX9_colourOf_0) rfl rfl rfl
theorem z167_2 : Run d 167 2 [a0, a1, a2, a3, a4] [s0] M 0 0 Z ↔ Run d 167 3 [a0, a1, a2, a3, a4] [.int 1, s0] M 0 0 Z := R_iconst (gd167 dX9_colourOf_2) (by decide)
theorem z167_3 : Run d 167 3 [a0, a1, a2, a3, a4] [.int y, .int x] M 0 0 Z ↔ (¬ x = y → Run d 167 18 [a0, a1, a2, a3, a4] [] M 0 0 Z) ∧ (¬ (¬ x = y) → Run d 167 6 [a0, a1, a2, a3, a4] [] M 0 0 Z) := R_icmp (gd167 dX9_colourOf_3) (show gTgt 3 15 = some 18 by decide) gIf_ne
theorem z167_6 : Run d 167 6 [some (.ref o), a1, a2, a3, a4] [] M 0 0 Z ↔ Run d 167 7 [some (.ref o), a1, a2, a3, a4] [.ref o] M 0 0 Z := R_local (gd167 dX9_colourOf_6) rfl rfl rfl
theorem z167_7 : Run d 167 7 [a0, a1, a2, a3, a4] [.ref o] M 0 0 Z ↔ gObj M o 9 ∧ Run d 167 10 [a0, a1, a2, a3, a4] [va_rf (M.2.1 o 9)] M 0 0 Z := R_getR (gd167 dX9_colourOf_7) rfl gf_9_26 rfl
theorem z167_10 : Run d 167 10 [a0, a1, a2, a3, a4] [s0] M 0 0 Z ↔ Run d 167 12 [a0, a1, a2, a3, a4] [.int 6, s0] M 0 0 Z := R_bipush (gd167 dX9_colourOf_10) (by decide)
theorem z167_12 : Run d 167 12 [a0, some (.int x), a2, a3, a4] [s1, s0] M 0 0 Z ↔ Run d 167 13 [a0, some (.int x), a2, a3, a4] [.int x, s1, s0] M 0 0 Z := R_local (gd167 dX9_colourOf_12) rfl rfl rfl
theorem z167_13 : Run d 167 13 [a0, a1, a2, a3, a4] [.int y, .int x, s0] M 0 0 Z ↔ Run d 167 14 [a0, a1, a2, a3, a4] [.int (x * y), s0] M 0 0 Z := R_arith (gd167 dX9_colourOf_13) rfl
theorem z167_14 : Run d 167 14 [a0, a1, a2, a3, a4] [s1, s0] M 0 0 Z ↔ Run d 167 15 [a0, a1, a2, a3, a4] [.int 5, s1, s0] M 0 0 Z := R_iconst (gd167 dX9_colourOf_14) (by decide)
theorem z167_15 : Run d 167 15 [a0, a1, a2, a3, a4] [.int y, .int x, s0] M 0 0 Z ↔ Run d 167 16 [a0, a1, a2, a3, a4] [.int (x + y), s0] M 0 0 Z := R_arith (gd167 dX9_colourOf_15) rfl
theorem z167_16 : Run d 167 16 [a0, a1, a2, a3, a4] [.int x, .ref o] M 0 0 Z ↔ gAr M o 0 ∧ gIn x (gLen M o) = true ∧ Run d 167 17 [a0, a1, a2, a3, a4] [.int (M.1 o x.toNatClampNeg)] M 0 0 Z := R_iald (gd167 dX9_colourOf_16)
theorem z167_17 : Run d 167 17 [a0, a1, a2, a3, a4] [.int x] M 0 0 Z ↔ Z (some (.int x)) M := R_iret (gd167 dX9_colourOf_17) rfl
theorem z167_18 : Run d 167 18 [a0, a1, some (.int x), a3, a4] [] M 0 0 Z ↔ Run d 167 19 [a0, a1, some (.int x), a3, a4] [.int x] M 0 0 Z := R_local (gd167 dX9_colourOf_18) rfl rfl rfl
theorem z167_19 : Run d 167 19 [some (.ref o), a1, a2, a3, a4] [s0] M 0 0 Z ↔ Run d 167 20 [some (.ref o), a1, a2, a3, a4] [.ref o, s0] M 0 0 Z := R_local (gd167 dX9_colourOf_19) rfl rfl rfl
theorem z167_20 : Run d 167 20 [a0, a1, a2, a3, a4] [.ref o, s0] M 0 0 Z ↔ gObj M o 9 ∧ Run d 167 23 [a0, a1, a2, a3, a4] [va_rf (M.2.1 o 6), s0] M 0 0 Z := R_getR (gd167 dX9_colourOf_20) rfl gf_9_17 rfl
theorem z167_23 : Run d 167 23 [a0, some (.int x), a2, a3, a4] [s1, s0] M 0 0 Z ↔ Run d 167 24 [a0, some (.int x), a2, a3, a4] [.int x, s1, s0] M 0 0 Z := R_local (gd167 dX9_colourOf_23) rfl rfl rfl
theorem z167_24 : Run d 167 24 [a0, a1, a2, a3, a4] [.int x, .ref o, s0] M 0 0 Z ↔ gAr M o 0 ∧ gIn x (gLen M o) = true ∧ Run d 167 25 [a0, a1, a2, a3, a4] [.int (M.1 o x.toNatClampNeg), s0] M 0 0 Z := R_iald (gd167 dX9_colourOf_24)
theorem z167_25 : Run d 167 25 [some (.ref o), a1, a2, a3, a4] [s1, s0] M 0 0 Z ↔ Run d 167 26 [some (.ref o), a1, a2, a3, a4] [.ref o, s1, s0] M 0 0 Z := R_local (gd167 dX9_colourOf_25) rfl rfl rfl
theorem z167_26 : Run d 167 26 [a0, a1, a2, a3, a4] [.ref o, s1, s0] M 0 0 Z ↔ gObj M o 9 ∧ Run d 167 29 [a0, a1, a2, a3, a4] [va_rf (M.2.1 o 8), s1, s0] M 0 0 Z := R_getR (gd167 dX9_colourOf_26) rfl gf_9_23 rfl
theorem z167_29 : Run d 167 29 [a0, some (.int x), a2, a3, a4] [s2, s1, s0] M 0 0 Z ↔ Run d 167 30 [a0, some (.int x), a2, a3, a4] [.int x, s2, s1, s0] M 0 0 Z := R_local (gd167 dX9_colourOf_29) rfl rfl rfl
theorem z167_30 : Run d 167 30 [a0, a1, a2, a3, a4] [.int x, .ref o, s1, s0] M 0 0 Z ↔ gAr M o 0 ∧ gIn x (gLen M o) = true ∧ Run d 167 31 [a0, a1, a2, a3, a4] [.int (M.1 o x.toNatClampNeg), s1, s0] M 0 0 Z := R_iald (gd167 dX9_colourOf_30)
theorem z167_31 : Run d 167 31 [a0, a1, a2, a3, a4] [.int y, .int x, s0] M 0 0 Z ↔ Run d 167 32 [a0, a1, a2, a3, a4] [.int (x - y), s0] M 0 0 Z := R_arith (gd167 dX9_colourOf_31) rfl
theorem z167_32 : Run d 167 32 [a0, a1, a2, a3, a4] [.int y, .int x] M 0 0 Z ↔ (x < y → Run d 167 49 [a0, a1, a2, a3, a4] [] M 0 0 Z) ∧ (¬ (x < y) → Run d 167 35 [a0, a1, a2, a3, a4] [] M 0 0 Z) := R_icmp (gd167 dX9_colourOf_32) (show gTgt 32 17 = some 49 by decide) gIf_lt
theorem z167_35 : Run d 167 35 [some (.ref o), a1, a2, a3, a4] [] M 0 0 Z ↔ Run d 167 36 [some (.ref o), a1, a2, a3, a4] [.ref o] M 0 0 Z := R_local (gd167 dX9_colourOf_35) rfl rfl rfl
theorem z167_36 : Run d 167 36 [a0, a1, a2, a3, a4] [.ref o] M 0 0 Z ↔ gObj M o 9 ∧ Run d 167 39 [a0, a1, a2, a3, a4] [va_rf (M.2.1 o 9)] M 0 0 Z := R_getR (gd167 dX9_colourOf_36) rfl gf_9_26 rfl
theorem z167_39 : Run d 167 39 [a0, a1, a2, a3, a4] [s0] M 0 0 Z ↔ Run d 167 41 [a0, a1, a2, a3, a4] [.int 6, s0] M 0 0 Z := R_bipush (gd167 dX9_colourOf_39) (by decide)
theorem z167_41 : Run d 167 41 [a0, some (.int x), a2, a3, a4] [s1, s0] M 0 0 Z ↔ Run d 167 42 [a0, some (.int x), a2, a3, a4] [.int x, s1, s0] M 0 0 Z := R_local (gd167 dX9_colourOf_41) rfl rfl rfl
theorem z167_42 : Run d 167 42 [a0, a1, a2, a3, a4] [.int y, .int x, s0] M 0 0 Z ↔ Run d 167 43 [a0, a1, a2, a3, a4] [.int (x * y), s0] M 0 0 Z := R_arith (gd167 dX9_colourOf_42) rfl
theorem z167_43 : Run d 167 43 [a0, a1, a2, a3, a4] [s1, s0] M 0 0 Z ↔ Run d 167 44 [a0, a1, a2, a3, a4] [.int 4, s1, s0] M 0 0 Z := R_iconst (gd167 dX9_colourOf_43) (by decide)
theorem z167_44 : Run d 167 44 [a0, a1, a2, a3, a4] [.int y, .int x, s0] M 0 0 Z ↔ Run d 167 45 [a0, a1, a2, a3, a4] [.int (x + y), s0] M 0 0 Z := R_arith (gd167 dX9_colourOf_44) rfl
theorem z167_45 : Run d 167 45 [a0, a1, a2, a3, a4] [.int x, .ref o] M 0 0 Z ↔ gAr M o 0 ∧ gIn x (gLen M o) = true ∧ Run d 167 46 [a0, a1, a2, a3, a4] [.int (M.1 o x.toNatClampNeg)] M 0 0 Z := R_iald (gd167 dX9_colourOf_45)
theorem z167_46 : Run d 167 46 [a0, a1, a2, a3, a4] [s0] M 0 0 Z ↔ Run d 167 60 [a0, a1, a2, a3, a4] [s0] M 0 0 Z := R_goto (gd167 dX9_colourOf_46) (show gTgt 46 14 = some 60 by decide)
theorem z167_49 : Run d 167 49 [some (.ref o), a1, a2, a3, a4] [] M 0 0 Z ↔ Run d 167 50 [some (.ref o), a1, a2, a3, a4] [.ref o] M 0 0 Z := R_local (gd167 dX9_colourOf_49) rfl rfl rfl
theorem z167_50 : Run d 167 50 [a0, a1, a2, a3, a4] [.ref o] M 0 0 Z ↔ gObj M o 9 ∧ Run d 167 53 [a0, a1, a2, a3, a4] [va_rf (M.2.1 o 9)] M 0 0 Z := R_getR (gd167 dX9_colourOf_50) rfl gf_9_26 rfl
theorem z167_53 : Run d 167 53 [a0, a1, a2, a3, a4] [s0] M 0 0 Z ↔ Run d 167 55 [a0, a1, a2, a3, a4] [.int 6, s0] M 0 0 Z := R_bipush (gd167 dX9_colourOf_53) (by decide)
theorem z167_55 : Run d 167 55 [a0, some (.int x), a2, a3, a4] [s1, s0] M 0 0 Z ↔ Run d 167 56 [a0, some (.int x), a2, a3, a4] [.int x, s1, s0] M 0 0 Z := R_local (gd167 dX9_colourOf_55) rfl rfl rfl
theorem z167_56 : Run d 167 56 [a0, a1, a2, a3, a4] [.int y, .int x, s0] M 0 0 Z ↔ Run d 167 57 [a0, a1, a2, a3, a4] [.int (x * y), s0] M 0 0 Z := R_arith (gd167 dX9_colourOf_56) rfl
theorem z167_57 : Run d 167 57 [a0, a1, a2, some (.int x), a4] [s1, s0] M 0 0 Z ↔ Run d 167 58 [a0, a1, a2, some (.int x), a4] [.int x, s1, s0] M 0 0 Z := R_local (gd167 dX9_colourOf_57) rfl rfl rfl
theorem z167_58 : Run d 167 58 [a0, a1, a2, a3, a4] [.int y, .int x, s0] M 0 0 Z ↔ Run d 167 59 [a0, a1, a2, a3, a4] [.int (x + y), s0] M 0 0 Z := R_arith (gd167 dX9_colourOf_58) rfl
theorem z167_59 : Run d 167 59 [a0, a1, a2, a3, a4] [.int x, .ref o] M 0 0 Z ↔ gAr M o 0 ∧ gIn x (gLen M o) = true ∧ Run d 167 60 [a0, a1, a2, a3, a4] [.int (M.1 o x.toNatClampNeg)] M 0 0 Z := R_iald (gd167 dX9_colourOf_59)
theorem z167_60 : Run d 167 60 [a0, a1, a2, a3, a4] [.int x] M 0 0 Z ↔ Z (some (.int x)) M := R_iret (gd167 dX9_colourOf_60) rfl
theorem e167 : Call (d + 1) 167 [s0, s1, s2, s3, s4] M Z ↔ Run d 167 0 [some s0, some s1, some s2, some s3, some s4] [] M 0 0 Z := Call_iff (Nat.lt_of_lt_of_le (Nat.lt_succ_self 167) (Nat.le_of_ble_eq_true rfl)) (Nat.le_of_ble_eq_true rfl)
end
