/-! Rules of the methods, an instruction each, by program (wip/whole/rows.py). -/
theorem dX9_read_0 : decode cX9_read 0 = .ok (.aload_n 0, 1) := by decide +kernel
theorem dX9_read_1 : decode cX9_read 1 = .ok (.iload_n 1, 1) := by decide +kernel
theorem dX9_read_2 : decode cX9_read 2 = .ok (.invokevirtual 332, 3) := by decide +kernel
theorem dX9_read_5 : decode cX9_read 5 = .ok (.ifCond .eq 20, 3) := by decide +kernel
theorem dX9_read_8 : decode cX9_read 8 = .ok (.aload_n 0, 1) := by decide +kernel
theorem dX9_read_9 : decode cX9_read 9 = .ok (.iload_n 2, 1) := by decide +kernel
theorem dX9_read_10 : decode cX9_read 10 = .ok (.invokevirtual 167, 3) := by decide +kernel
theorem dX9_read_13 : decode cX9_read 13 = .ok (.ifCond .eq 12, 3) := by decide +kernel
theorem dX9_read_16 : decode cX9_read 16 = .ok (.aload_n 0, 1) := by decide +kernel
theorem dX9_read_17 : decode cX9_read 17 = .ok (.getfield 171, 3) := by decide +kernel
theorem dX9_read_20 : decode cX9_read 20 = .ok (.bipush 64, 2) := by decide +kernel
theorem dX9_read_22 : decode cX9_read 22 = .ok (.if_icmp .ge 5, 3) := by decide +kernel
theorem dX9_read_25 : decode cX9_read 25 = .ok (.iconst (-1), 1) := by decide +kernel
theorem dX9_read_26 : decode cX9_read 26 = .ok (.ireturn, 1) := by decide +kernel
theorem dX9_read_27 : decode cX9_read 27 = .ok (.aload_n 0, 1) := by decide +kernel
theorem dX9_read_28 : decode cX9_read 28 = .ok (.iconst 0, 1) := by decide +kernel
theorem dX9_read_29 : decode cX9_read 29 = .ok (.putfield 171, 3) := by decide +kernel
theorem dX9_read_32 : decode cX9_read 32 = .ok (.iconst 0, 1) := by decide +kernel
theorem dX9_read_33 : decode cX9_read 33 = .ok (.istore_n 3, 1) := by decide +kernel
theorem dX9_read_34 : decode cX9_read 34 = .ok (.iload_n 3, 1) := by decide +kernel
theorem dX9_read_35 : decode cX9_read 35 = .ok (.bipush 64, 2) := by decide +kernel
theorem dX9_read_37 : decode cX9_read 37 = .ok (.if_icmp .ge 23, 3) := by decide +kernel
theorem dX9_read_40 : decode cX9_read 40 = .ok (.aload_n 0, 1) := by decide +kernel
theorem dX9_read_41 : decode cX9_read 41 = .ok (.getfield 7, 3) := by decide +kernel
theorem dX9_read_44 : decode cX9_read 44 = .ok (.iload_n 3, 1) := by decide +kernel
theorem dX9_read_45 : decode cX9_read 45 = .ok (.baload, 1) := by decide +kernel
theorem dX9_read_46 : decode cX9_read 46 = .ok (.invokestatic 391, 3) := by decide +kernel
theorem dX9_read_49 : decode cX9_read 49 = .ok (.ifCond .ne 5, 3) := by decide +kernel
theorem dX9_read_52 : decode cX9_read 52 = .ok (.iconst (-1), 1) := by decide +kernel
theorem dX9_read_53 : decode cX9_read 53 = .ok (.ireturn, 1) := by decide +kernel
theorem dX9_read_54 : decode cX9_read 54 = .ok (.iinc 3 1, 3) := by decide +kernel
theorem dX9_read_57 : decode cX9_read 57 = .ok (.goto (-23), 3) := by decide +kernel
theorem dX9_read_60 : decode cX9_read 60 = .ok (.iconst 0, 1) := by decide +kernel
theorem dX9_read_61 : decode cX9_read 61 = .ok (.istore_n 3, 1) := by decide +kernel
theorem dX9_read_62 : decode cX9_read 62 = .ok (.iload_n 3, 1) := by decide +kernel
theorem dX9_read_63 : decode cX9_read 63 = .ok (.bipush 64, 2) := by decide +kernel
theorem dX9_read_65 : decode cX9_read 65 = .ok (.if_icmp .ge 29, 3) := by decide +kernel
theorem dX9_read_68 : decode cX9_read 68 = .ok (.aload_n 0, 1) := by decide +kernel
theorem dX9_read_69 : decode cX9_read 69 = .ok (.getfield 150, 3) := by decide +kernel
theorem dX9_read_72 : decode cX9_read 72 = .ok (.iload_n 3, 1) := by decide +kernel
theorem dX9_read_73 : decode cX9_read 73 = .ok (.aload_n 0, 1) := by decide +kernel
theorem dX9_read_74 : decode cX9_read 74 = .ok (.getfield 7, 3) := by decide +kernel
theorem dX9_read_77 : decode cX9_read 77 = .ok (.iload_n 3, 1) := by decide +kernel
theorem dX9_read_78 : decode cX9_read 78 = .ok (.baload, 1) := by decide +kernel
theorem dX9_read_79 : decode cX9_read 79 = .ok (.iastore, 1) := by decide +kernel
theorem dX9_read_80 : decode cX9_read 80 = .ok (.aload_n 0, 1) := by decide +kernel
theorem dX9_read_81 : decode cX9_read 81 = .ok (.getfield 126, 3) := by decide +kernel
theorem dX9_read_84 : decode cX9_read 84 = .ok (.iload_n 3, 1) := by decide +kernel
theorem dX9_read_85 : decode cX9_read 85 = .ok (.bipush 8, 2) := by decide +kernel
theorem dX9_read_87 : decode cX9_read 87 = .ok (.iastore, 1) := by decide +kernel
theorem dX9_read_88 : decode cX9_read 88 = .ok (.iinc 3 1, 3) := by decide +kernel
theorem dX9_read_91 : decode cX9_read 91 = .ok (.goto (-29), 3) := by decide +kernel
theorem dX9_read_94 : decode cX9_read 94 = .ok (.aload_n 0, 1) := by decide +kernel
theorem dX9_read_95 : decode cX9_read 95 = .ok (.getfield 129, 3) := by decide +kernel
theorem dX9_read_98 : decode cX9_read 98 = .ok (.iconst 0, 1) := by decide +kernel
theorem dX9_read_99 : decode cX9_read 99 = .ok (.iconst 0, 1) := by decide +kernel
theorem dX9_read_100 : decode cX9_read 100 = .ok (.iastore, 1) := by decide +kernel
theorem dX9_read_101 : decode cX9_read 101 = .ok (.aload_n 0, 1) := by decide +kernel
theorem dX9_read_102 : decode cX9_read 102 = .ok (.getfield 132, 3) := by decide +kernel
theorem dX9_read_105 : decode cX9_read 105 = .ok (.iconst 0, 1) := by decide +kernel
theorem dX9_read_106 : decode cX9_read 106 = .ok (.iconst 0, 1) := by decide +kernel
theorem dX9_read_107 : decode cX9_read 107 = .ok (.iastore, 1) := by decide +kernel
theorem dX9_read_108 : decode cX9_read 108 = .ok (.aload_n 0, 1) := by decide +kernel
theorem dX9_read_109 : decode cX9_read 109 = .ok (.getfield 135, 3) := by decide +kernel
theorem dX9_read_112 : decode cX9_read 112 = .ok (.iconst 0, 1) := by decide +kernel
theorem dX9_read_113 : decode cX9_read 113 = .ok (.iconst 0, 1) := by decide +kernel
theorem dX9_read_114 : decode cX9_read 114 = .ok (.iastore, 1) := by decide +kernel
theorem dX9_read_115 : decode cX9_read 115 = .ok (.aload_n 0, 1) := by decide +kernel
theorem dX9_read_116 : decode cX9_read 116 = .ok (.getfield 138, 3) := by decide +kernel
theorem dX9_read_119 : decode cX9_read 119 = .ok (.iconst 0, 1) := by decide +kernel
theorem dX9_read_120 : decode cX9_read 120 = .ok (.iconst 1, 1) := by decide +kernel
theorem dX9_read_121 : decode cX9_read 121 = .ok (.iastore, 1) := by decide +kernel
theorem dX9_read_122 : decode cX9_read 122 = .ok (.aload_n 0, 1) := by decide +kernel
theorem dX9_read_123 : decode cX9_read 123 = .ok (.getfield 141, 3) := by decide +kernel
theorem dX9_read_126 : decode cX9_read 126 = .ok (.iconst 0, 1) := by decide +kernel
theorem dX9_read_127 : decode cX9_read 127 = .ok (.iconst 0, 1) := by decide +kernel
theorem dX9_read_128 : decode cX9_read 128 = .ok (.iastore, 1) := by decide +kernel
theorem dX9_read_129 : decode cX9_read 129 = .ok (.aload_n 0, 1) := by decide +kernel
theorem dX9_read_130 : decode cX9_read 130 = .ok (.iconst 0, 1) := by decide +kernel
theorem dX9_read_131 : decode cX9_read 131 = .ok (.putfield 394, 3) := by decide +kernel
theorem dX9_read_134 : decode cX9_read 134 = .ok (.iconst 0, 1) := by decide +kernel
theorem dX9_read_135 : decode cX9_read 135 = .ok (.istore_n 3, 1) := by decide +kernel
theorem dX9_read_136 : decode cX9_read 136 = .ok (.iconst 1, 1) := by decide +kernel
theorem dX9_read_137 : decode cX9_read 137 = .ok (.istore 4, 2) := by decide +kernel
theorem dX9_read_139 : decode cX9_read 139 = .ok (.iload 4, 2) := by decide +kernel
theorem dX9_read_141 : decode cX9_read 141 = .ok (.iconst 5, 1) := by decide +kernel
theorem dX9_read_142 : decode cX9_read 142 = .ok (.if_icmp .ge 162, 3) := by decide +kernel
theorem dX9_read_145 : decode cX9_read 145 = .ok (.iconst 0, 1) := by decide +kernel
theorem dX9_read_146 : decode cX9_read 146 = .ok (.istore 5, 2) := by decide +kernel
theorem dX9_read_148 : decode cX9_read 148 = .ok (.aload_n 0, 1) := by decide +kernel
theorem dX9_read_149 : decode cX9_read 149 = .ok (.getfield 144, 3) := by decide +kernel
theorem dX9_read_152 : decode cX9_read 152 = .ok (.iconst 0, 1) := by decide +kernel
theorem dX9_read_153 : decode cX9_read 153 = .ok (.iconst (-1), 1) := by decide +kernel
theorem dX9_read_154 : decode cX9_read 154 = .ok (.iastore, 1) := by decide +kernel
theorem dX9_read_155 : decode cX9_read 155 = .ok (.iload 5, 2) := by decide +kernel
theorem dX9_read_157 : decode cX9_read 157 = .ok (.ifCond .lt 141, 3) := by decide +kernel
theorem dX9_read_160 : decode cX9_read 160 = .ok (.aload_n 0, 1) := by decide +kernel
theorem dX9_read_161 : decode cX9_read 161 = .ok (.getfield 144, 3) := by decide +kernel
theorem dX9_read_164 : decode cX9_read 164 = .ok (.iload 5, 2) := by decide +kernel
theorem dX9_read_166 : decode cX9_read 166 = .ok (.dup2, 1) := by decide +kernel
theorem dX9_read_167 : decode cX9_read 167 = .ok (.iaload, 1) := by decide +kernel
theorem dX9_read_168 : decode cX9_read 168 = .ok (.iconst 1, 1) := by decide +kernel
theorem dX9_read_169 : decode cX9_read 169 = .ok (.iadd, 1) := by decide +kernel
theorem dX9_read_170 : decode cX9_read 170 = .ok (.iastore, 1) := by decide +kernel
theorem dX9_read_171 : decode cX9_read 171 = .ok (.aload_n 0, 1) := by decide +kernel
theorem dX9_read_172 : decode cX9_read 172 = .ok (.getfield 144, 3) := by decide +kernel
theorem dX9_read_175 : decode cX9_read 175 = .ok (.iload 5, 2) := by decide +kernel
theorem dX9_read_177 : decode cX9_read 177 = .ok (.iaload, 1) := by decide +kernel
theorem dX9_read_178 : decode cX9_read 178 = .ok (.bipush 11, 2) := by decide +kernel
theorem dX9_read_180 : decode cX9_read 180 = .ok (.if_icmp .ne 9, 3) := by decide +kernel
theorem dX9_read_183 : decode cX9_read 183 = .ok (.iinc 5 (-1), 3) := by decide +kernel
theorem dX9_read_186 : decode cX9_read 186 = .ok (.goto (-31), 3) := by decide +kernel
theorem dX9_read_189 : decode cX9_read 189 = .ok (.aload_n 0, 1) := by decide +kernel
theorem dX9_read_190 : decode cX9_read 190 = .ok (.iload_n 1, 1) := by decide +kernel
theorem dX9_read_191 : decode cX9_read 191 = .ok (.iload_n 2, 1) := by decide +kernel
theorem dX9_read_192 : decode cX9_read 192 = .ok (.iload 5, 2) := by decide +kernel
theorem dX9_read_194 : decode cX9_read 194 = .ok (.aload_n 0, 1) := by decide +kernel
theorem dX9_read_195 : decode cX9_read 195 = .ok (.getfield 144, 3) := by decide +kernel
theorem dX9_read_198 : decode cX9_read 198 = .ok (.iload 5, 2) := by decide +kernel
theorem dX9_read_200 : decode cX9_read 200 = .ok (.iaload, 1) := by decide +kernel
theorem dX9_read_201 : decode cX9_read 201 = .ok (.invokevirtual 397, 3) := by decide +kernel
theorem dX9_read_204 : decode cX9_read 204 = .ok (.ifCond .eq (-49), 3) := by decide +kernel
theorem dX9_read_207 : decode cX9_read 207 = .ok (.iload 5, 2) := by decide +kernel
theorem dX9_read_209 : decode cX9_read 209 = .ok (.iconst 1, 1) := by decide +kernel
theorem dX9_read_210 : decode cX9_read 210 = .ok (.iadd, 1) := by decide +kernel
theorem dX9_read_211 : decode cX9_read 211 = .ok (.iload 4, 2) := by decide +kernel
theorem dX9_read_213 : decode cX9_read 213 = .ok (.if_icmp .ge 17, 3) := by decide +kernel
theorem dX9_read_216 : decode cX9_read 216 = .ok (.iinc 5 1, 3) := by decide +kernel
theorem dX9_read_219 : decode cX9_read 219 = .ok (.aload_n 0, 1) := by decide +kernel
theorem dX9_read_220 : decode cX9_read 220 = .ok (.getfield 144, 3) := by decide +kernel
theorem dX9_read_223 : decode cX9_read 223 = .ok (.iload 5, 2) := by decide +kernel
theorem dX9_read_225 : decode cX9_read 225 = .ok (.iconst (-1), 1) := by decide +kernel
theorem dX9_read_226 : decode cX9_read 226 = .ok (.iastore, 1) := by decide +kernel
theorem dX9_read_227 : decode cX9_read 227 = .ok (.goto (-72), 3) := by decide +kernel
theorem dX9_read_230 : decode cX9_read 230 = .ok (.aload_n 0, 1) := by decide +kernel
theorem dX9_read_231 : decode cX9_read 231 = .ok (.iload 5, 2) := by decide +kernel
theorem dX9_read_233 : decode cX9_read 233 = .ok (.iconst 1, 1) := by decide +kernel
theorem dX9_read_234 : decode cX9_read 234 = .ok (.iadd, 1) := by decide +kernel
theorem dX9_read_235 : decode cX9_read 235 = .ok (.invokevirtual 401, 3) := by decide +kernel
theorem dX9_read_238 : decode cX9_read 238 = .ok (.ifCond .eq (-83), 3) := by decide +kernel
theorem dX9_read_241 : decode cX9_read 241 = .ok (.iconst 0, 1) := by decide +kernel
theorem dX9_read_242 : decode cX9_read 242 = .ok (.istore 6, 2) := by decide +kernel
theorem dX9_read_244 : decode cX9_read 244 = .ok (.iload 6, 2) := by decide +kernel
theorem dX9_read_246 : decode cX9_read 246 = .ok (.iload 4, 2) := by decide +kernel
theorem dX9_read_248 : decode cX9_read 248 = .ok (.if_icmp .ge 27, 3) := by decide +kernel
theorem dX9_read_251 : decode cX9_read 251 = .ok (.iload_n 3, 1) := by decide +kernel
theorem dX9_read_252 : decode cX9_read 252 = .ok (.ifCond .ne 23, 3) := by decide +kernel
theorem dX9_read_255 : decode cX9_read 255 = .ok (.aload_n 0, 1) := by decide +kernel
theorem dX9_read_256 : decode cX9_read 256 = .ok (.getfield 147, 3) := by decide +kernel
theorem dX9_read_259 : decode cX9_read 259 = .ok (.iload 6, 2) := by decide +kernel
theorem dX9_read_261 : decode cX9_read 261 = .ok (.aload_n 0, 1) := by decide +kernel
theorem dX9_read_262 : decode cX9_read 262 = .ok (.getfield 144, 3) := by decide +kernel
theorem dX9_read_265 : decode cX9_read 265 = .ok (.iload 6, 2) := by decide +kernel
theorem dX9_read_267 : decode cX9_read 267 = .ok (.iaload, 1) := by decide +kernel
theorem dX9_read_268 : decode cX9_read 268 = .ok (.iastore, 1) := by decide +kernel
theorem dX9_read_269 : decode cX9_read 269 = .ok (.iinc 6 1, 3) := by decide +kernel
theorem dX9_read_272 : decode cX9_read 272 = .ok (.goto (-28), 3) := by decide +kernel
theorem dX9_read_275 : decode cX9_read 275 = .ok (.aload_n 0, 1) := by decide +kernel
theorem dX9_read_276 : decode cX9_read 276 = .ok (.iload_n 3, 1) := by decide +kernel
theorem dX9_read_277 : decode cX9_read 277 = .ok (.ifCond .ne 8, 3) := by decide +kernel
theorem dX9_read_280 : decode cX9_read 280 = .ok (.iload 4, 2) := by decide +kernel
theorem dX9_read_282 : decode cX9_read 282 = .ok (.goto 7, 3) := by decide +kernel
theorem dX9_read_285 : decode cX9_read 285 = .ok (.aload_n 0, 1) := by decide +kernel
theorem dX9_read_286 : decode cX9_read 286 = .ok (.getfield 394, 3) := by decide +kernel
theorem dX9_read_289 : decode cX9_read 289 = .ok (.putfield 394, 3) := by decide +kernel
theorem dX9_read_292 : decode cX9_read 292 = .ok (.iinc 3 1, 3) := by decide +kernel
theorem dX9_read_295 : decode cX9_read 295 = .ok (.goto (-140), 3) := by decide +kernel
theorem dX9_read_298 : decode cX9_read 298 = .ok (.iinc 4 1, 3) := by decide +kernel
theorem dX9_read_301 : decode cX9_read 301 = .ok (.goto (-162), 3) := by decide +kernel
theorem dX9_read_304 : decode cX9_read 304 = .ok (.iload_n 3, 1) := by decide +kernel
theorem dX9_read_305 : decode cX9_read 305 = .ok (.ireturn, 1) := by decide +kernel
theorem dX9_wrote_0 : decode cX9_wrote 0 = .ok (.iload_n 1, 1) := by decide +kernel
theorem dX9_wrote_1 : decode cX9_wrote 1 = .ok (.iconst 0, 1) := by decide +kernel
theorem dX9_wrote_2 : decode cX9_wrote 2 = .ok (.aload_n 0, 1) := by decide +kernel
theorem dX9_wrote_3 : decode cX9_wrote 3 = .ok (.getfield 394, 3) := by decide +kernel
theorem dX9_wrote_6 : decode cX9_wrote 6 = .ok (.iconst 1, 1) := by decide +kernel
theorem dX9_wrote_7 : decode cX9_wrote 7 = .ok (.isub, 1) := by decide +kernel
theorem dX9_wrote_8 : decode cX9_wrote 8 = .ok (.invokestatic 157, 3) := by decide +kernel
theorem dX9_wrote_11 : decode cX9_wrote 11 = .ok (.ifCond .eq 12, 3) := by decide +kernel
theorem dX9_wrote_14 : decode cX9_wrote 14 = .ok (.aload_n 0, 1) := by decide +kernel
theorem dX9_wrote_15 : decode cX9_wrote 15 = .ok (.getfield 147, 3) := by decide +kernel
theorem dX9_wrote_18 : decode cX9_wrote 18 = .ok (.iload_n 1, 1) := by decide +kernel
theorem dX9_wrote_19 : decode cX9_wrote 19 = .ok (.iaload, 1) := by decide +kernel
theorem dX9_wrote_20 : decode cX9_wrote 20 = .ok (.goto 4, 3) := by decide +kernel
theorem dX9_wrote_23 : decode cX9_wrote 23 = .ok (.iconst (-1), 1) := by decide +kernel
theorem dX9_wrote_24 : decode cX9_wrote 24 = .ok (.ireturn, 1) := by decide +kernel
theorem dX9_count_0 : decode cX9_count 0 = .ok (.iload_n 1, 1) := by decide +kernel
theorem dX9_count_1 : decode cX9_count 1 = .ok (.bipush 10, 2) := by decide +kernel
theorem dX9_count_3 : decode cX9_count 3 = .ok (.bipush 9, 2) := by decide +kernel
theorem dX9_count_5 : decode cX9_count 5 = .ok (.bipush 8, 2) := by decide +kernel
theorem dX9_count_7 : decode cX9_count 7 = .ok (.aload_n 0, 1) := by decide +kernel
theorem dX9_count_8 : decode cX9_count 8 = .ok (.getfield 153, 3) := by decide +kernel
theorem dX9_count_11 : decode cX9_count 11 = .ok (.imul, 1) := by decide +kernel
theorem dX9_count_12 : decode cX9_count 12 = .ok (.iadd, 1) := by decide +kernel
theorem dX9_count_13 : decode cX9_count 13 = .ok (.invokestatic 157, 3) := by decide +kernel
theorem dX9_count_16 : decode cX9_count 16 = .ok (.ifCond .eq 13, 3) := by decide +kernel
theorem dX9_count_19 : decode cX9_count 19 = .ok (.aload_n 0, 1) := by decide +kernel
theorem dX9_count_20 : decode cX9_count 20 = .ok (.getfield 13, 3) := by decide +kernel
theorem dX9_count_23 : decode cX9_count 23 = .ok (.iload_n 1, 1) := by decide +kernel
theorem dX9_count_24 : decode cX9_count 24 = .ok (.bipush 10, 2) := by decide +kernel
theorem dX9_count_26 : decode cX9_count 26 = .ok (.isub, 1) := by decide +kernel
theorem dX9_count_27 : decode cX9_count 27 = .ok (.iaload, 1) := by decide +kernel
theorem dX9_count_28 : decode cX9_count 28 = .ok (.ireturn, 1) := by decide +kernel
theorem dX9_count_29 : decode cX9_count 29 = .ok (.iload_n 1, 1) := by decide +kernel
theorem dX9_count_30 : decode cX9_count 30 = .ok (.bipush 100, 2) := by decide +kernel
theorem dX9_count_32 : decode cX9_count 32 = .ok (.bipush 99, 2) := by decide +kernel
theorem dX9_count_34 : decode cX9_count 34 = .ok (.bipush 10, 2) := by decide +kernel
theorem dX9_count_36 : decode cX9_count 36 = .ok (.aload_n 0, 1) := by decide +kernel
theorem dX9_count_37 : decode cX9_count 37 = .ok (.getfield 161, 3) := by decide +kernel
theorem dX9_count_40 : decode cX9_count 40 = .ok (.imul, 1) := by decide +kernel
theorem dX9_count_41 : decode cX9_count 41 = .ok (.iadd, 1) := by decide +kernel
theorem dX9_count_42 : decode cX9_count 42 = .ok (.invokestatic 157, 3) := by decide +kernel
theorem dX9_count_45 : decode cX9_count 45 = .ok (.ifCond .eq 22, 3) := by decide +kernel
theorem dX9_count_48 : decode cX9_count 48 = .ok (.aload_n 0, 1) := by decide +kernel
theorem dX9_count_49 : decode cX9_count 49 = .ok (.iload_n 1, 1) := by decide +kernel
theorem dX9_count_50 : decode cX9_count 50 = .ok (.bipush 100, 2) := by decide +kernel
theorem dX9_count_52 : decode cX9_count 52 = .ok (.isub, 1) := by decide +kernel
theorem dX9_count_53 : decode cX9_count 53 = .ok (.bipush 10, 2) := by decide +kernel
theorem dX9_count_55 : decode cX9_count 55 = .ok (.idiv, 1) := by decide +kernel
theorem dX9_count_56 : decode cX9_count 56 = .ok (.iload_n 1, 1) := by decide +kernel
theorem dX9_count_57 : decode cX9_count 57 = .ok (.bipush 100, 2) := by decide +kernel
theorem dX9_count_59 : decode cX9_count 59 = .ok (.isub, 1) := by decide +kernel
theorem dX9_count_60 : decode cX9_count 60 = .ok (.bipush 10, 2) := by decide +kernel
theorem dX9_count_62 : decode cX9_count 62 = .ok (.irem, 1) := by decide +kernel
theorem dX9_count_63 : decode cX9_count 63 = .ok (.invokevirtual 404, 3) := by decide +kernel
theorem dX9_count_66 : decode cX9_count 66 = .ok (.ireturn, 1) := by decide +kernel
theorem dX9_count_67 : decode cX9_count 67 = .ok (.iload_n 1, 1) := by decide +kernel
theorem dX9_count_68 : decode cX9_count 68 = .ok (.sipush 200, 3) := by decide +kernel
theorem dX9_count_71 : decode cX9_count 71 = .ok (.sipush 199, 3) := by decide +kernel
theorem dX9_count_74 : decode cX9_count 74 = .ok (.aload_n 0, 1) := by decide +kernel
theorem dX9_count_75 : decode cX9_count 75 = .ok (.getfield 164, 3) := by decide +kernel
theorem dX9_count_78 : decode cX9_count 78 = .ok (.iadd, 1) := by decide +kernel
theorem dX9_count_79 : decode cX9_count 79 = .ok (.invokestatic 157, 3) := by decide +kernel
theorem dX9_count_82 : decode cX9_count 82 = .ok (.ifCond .eq 14, 3) := by decide +kernel
theorem dX9_count_85 : decode cX9_count 85 = .ok (.aload_n 0, 1) := by decide +kernel
theorem dX9_count_86 : decode cX9_count 86 = .ok (.getfield 35, 3) := by decide +kernel
theorem dX9_count_89 : decode cX9_count 89 = .ok (.iload_n 1, 1) := by decide +kernel
theorem dX9_count_90 : decode cX9_count 90 = .ok (.sipush 200, 3) := by decide +kernel
theorem dX9_count_93 : decode cX9_count 93 = .ok (.isub, 1) := by decide +kernel
theorem dX9_count_94 : decode cX9_count 94 = .ok (.iaload, 1) := by decide +kernel
theorem dX9_count_95 : decode cX9_count 95 = .ok (.ireturn, 1) := by decide +kernel
theorem dX9_count_96 : decode cX9_count 96 = .ok (.iload_n 1, 1) := by decide +kernel
theorem dX9_count_97 : decode cX9_count 97 = .ok (.tableswitch 51 0 3 #[31, 36, 41, 46], 31) := by decide +kernel
theorem dX9_count_128 : decode cX9_count 128 = .ok (.aload_n 0, 1) := by decide +kernel
theorem dX9_count_129 : decode cX9_count 129 = .ok (.getfield 153, 3) := by decide +kernel
theorem dX9_count_132 : decode cX9_count 132 = .ok (.ireturn, 1) := by decide +kernel
theorem dX9_count_133 : decode cX9_count 133 = .ok (.aload_n 0, 1) := by decide +kernel
theorem dX9_count_134 : decode cX9_count 134 = .ok (.getfield 161, 3) := by decide +kernel
theorem dX9_count_137 : decode cX9_count 137 = .ok (.ireturn, 1) := by decide +kernel
theorem dX9_count_138 : decode cX9_count 138 = .ok (.aload_n 0, 1) := by decide +kernel
theorem dX9_count_139 : decode cX9_count 139 = .ok (.getfield 164, 3) := by decide +kernel
theorem dX9_count_142 : decode cX9_count 142 = .ok (.ireturn, 1) := by decide +kernel
theorem dX9_count_143 : decode cX9_count 143 = .ok (.aload_n 0, 1) := by decide +kernel
theorem dX9_count_144 : decode cX9_count 144 = .ok (.getfield 171, 3) := by decide +kernel
theorem dX9_count_147 : decode cX9_count 147 = .ok (.ireturn, 1) := by decide +kernel
theorem dX9_count_148 : decode cX9_count 148 = .ok (.iconst (-1), 1) := by decide +kernel
theorem dX9_count_149 : decode cX9_count 149 = .ok (.ireturn, 1) := by decide +kernel
theorem dX9_ofCloth_0 : decode cX9_ofCloth 0 = .ok (.iload_n 2, 1) := by decide +kernel
theorem dX9_ofCloth_1 : decode cX9_ofCloth 1 = .ok (.tableswitch 110 0 8 #[51, 58, 65, 65, 65, 65, 79, 86, 98], 51) := by decide +kernel
theorem dX9_ofCloth_52 : decode cX9_ofCloth 52 = .ok (.aload_n 0, 1) := by decide +kernel
theorem dX9_ofCloth_53 : decode cX9_ofCloth 53 = .ok (.getfield 17, 3) := by decide +kernel
theorem dX9_ofCloth_56 : decode cX9_ofCloth 56 = .ok (.iload_n 1, 1) := by decide +kernel
theorem dX9_ofCloth_57 : decode cX9_ofCloth 57 = .ok (.iaload, 1) := by decide +kernel
theorem dX9_ofCloth_58 : decode cX9_ofCloth 58 = .ok (.ireturn, 1) := by decide +kernel
theorem dX9_ofCloth_59 : decode cX9_ofCloth 59 = .ok (.aload_n 0, 1) := by decide +kernel
theorem dX9_ofCloth_60 : decode cX9_ofCloth 60 = .ok (.getfield 20, 3) := by decide +kernel
theorem dX9_ofCloth_63 : decode cX9_ofCloth 63 = .ok (.iload_n 1, 1) := by decide +kernel
theorem dX9_ofCloth_64 : decode cX9_ofCloth 64 = .ok (.iaload, 1) := by decide +kernel
theorem dX9_ofCloth_65 : decode cX9_ofCloth 65 = .ok (.ireturn, 1) := by decide +kernel
theorem dX9_ofCloth_66 : decode cX9_ofCloth 66 = .ok (.aload_n 0, 1) := by decide +kernel
theorem dX9_ofCloth_67 : decode cX9_ofCloth 67 = .ok (.getfield 26, 3) := by decide +kernel
theorem dX9_ofCloth_70 : decode cX9_ofCloth 70 = .ok (.bipush 6, 2) := by decide +kernel
theorem dX9_ofCloth_72 : decode cX9_ofCloth 72 = .ok (.iload_n 1, 1) := by decide +kernel
theorem dX9_ofCloth_73 : decode cX9_ofCloth 73 = .ok (.imul, 1) := by decide +kernel
theorem dX9_ofCloth_74 : decode cX9_ofCloth 74 = .ok (.iload_n 2, 1) := by decide +kernel
theorem dX9_ofCloth_75 : decode cX9_ofCloth 75 = .ok (.iadd, 1) := by decide +kernel
theorem dX9_ofCloth_76 : decode cX9_ofCloth 76 = .ok (.iconst 2, 1) := by decide +kernel
theorem dX9_ofCloth_77 : decode cX9_ofCloth 77 = .ok (.isub, 1) := by decide +kernel
theorem dX9_ofCloth_78 : decode cX9_ofCloth 78 = .ok (.iaload, 1) := by decide +kernel
theorem dX9_ofCloth_79 : decode cX9_ofCloth 79 = .ok (.ireturn, 1) := by decide +kernel
theorem dX9_ofCloth_80 : decode cX9_ofCloth 80 = .ok (.aload_n 0, 1) := by decide +kernel
theorem dX9_ofCloth_81 : decode cX9_ofCloth 81 = .ok (.getfield 23, 3) := by decide +kernel
theorem dX9_ofCloth_84 : decode cX9_ofCloth 84 = .ok (.iload_n 1, 1) := by decide +kernel
theorem dX9_ofCloth_85 : decode cX9_ofCloth 85 = .ok (.iaload, 1) := by decide +kernel
theorem dX9_ofCloth_86 : decode cX9_ofCloth 86 = .ok (.ireturn, 1) := by decide +kernel
theorem dX9_ofCloth_87 : decode cX9_ofCloth 87 = .ok (.aload_n 0, 1) := by decide +kernel
theorem dX9_ofCloth_88 : decode cX9_ofCloth 88 = .ok (.getfield 26, 3) := by decide +kernel
theorem dX9_ofCloth_91 : decode cX9_ofCloth 91 = .ok (.bipush 6, 2) := by decide +kernel
theorem dX9_ofCloth_93 : decode cX9_ofCloth 93 = .ok (.iload_n 1, 1) := by decide +kernel
theorem dX9_ofCloth_94 : decode cX9_ofCloth 94 = .ok (.imul, 1) := by decide +kernel
theorem dX9_ofCloth_95 : decode cX9_ofCloth 95 = .ok (.iconst 4, 1) := by decide +kernel
theorem dX9_ofCloth_96 : decode cX9_ofCloth 96 = .ok (.iadd, 1) := by decide +kernel
theorem dX9_ofCloth_97 : decode cX9_ofCloth 97 = .ok (.iaload, 1) := by decide +kernel
theorem dX9_ofCloth_98 : decode cX9_ofCloth 98 = .ok (.ireturn, 1) := by decide +kernel
theorem dX9_ofCloth_99 : decode cX9_ofCloth 99 = .ok (.aload_n 0, 1) := by decide +kernel
theorem dX9_ofCloth_100 : decode cX9_ofCloth 100 = .ok (.getfield 26, 3) := by decide +kernel
theorem dX9_ofCloth_103 : decode cX9_ofCloth 103 = .ok (.bipush 6, 2) := by decide +kernel
theorem dX9_ofCloth_105 : decode cX9_ofCloth 105 = .ok (.iload_n 1, 1) := by decide +kernel
theorem dX9_ofCloth_106 : decode cX9_ofCloth 106 = .ok (.imul, 1) := by decide +kernel
theorem dX9_ofCloth_107 : decode cX9_ofCloth 107 = .ok (.iconst 5, 1) := by decide +kernel
theorem dX9_ofCloth_108 : decode cX9_ofCloth 108 = .ok (.iadd, 1) := by decide +kernel
theorem dX9_ofCloth_109 : decode cX9_ofCloth 109 = .ok (.iaload, 1) := by decide +kernel
theorem dX9_ofCloth_110 : decode cX9_ofCloth 110 = .ok (.ireturn, 1) := by decide +kernel
theorem dX9_ofCloth_111 : decode cX9_ofCloth 111 = .ok (.iconst (-1), 1) := by decide +kernel
theorem dX9_ofCloth_112 : decode cX9_ofCloth 112 = .ok (.ireturn, 1) := by decide +kernel
section
variable {d : Nat} {M : gM} {Z : Option Value → gM → Prop} {a0 a1 a2 a3 a4 a5 a6 a7 a8 a9 a10 a11 a12 : Option Value} {v s0 s1 s2 s3 s4 s5 s6 s7 s8 s9 s10 s11 : Value} {x y w : Int32} {o b u1 u2 : Nat}
/-! 194: X9_read (II)I -/
theorem gd194 {pc : Nat} {r : Except _ _} (h : decode cX9_read pc = r) : decode (gby 194) pc = r := h
theorem z194_0 : Run d 194 0 [some (.ref o), a1, a2, a3, a4, a5, a6] [] M 0 0 Z ↔ Run d 194 1 [some (.ref o), a1, a2, a3, a4, a5, a6] [.ref o] M 0 0 Z := R_local (gd194 dX9_read_0) rfl rfl rfl
theorem z194_1 : Run d 194 1 [a0, some (.int x), a2, a3, a4, a5, a6] [s0] M 0 0 Z ↔ Run d 194 2 [a0, some (.int x), a2, a3, a4, a5, a6] [.int x, s0] M 0 0 Z := R_local (gd194 dX9_read_1) rfl rfl rfl
theorem z194_2 : Run d 194 2 [a0, a1, a2, a3, a4, a5, a6] [s1, .ref b] M 0 0 Z ↔ gObj M b 9 ∧ Call d 122 [.ref b, s1] M (fun r M1 => Run d 194 5 [a0, a1, a2, a3, a4, a5, a6] (r.toList ++ []) M1 0 0 Z) := R_callV (gd194 dX9_read_2) rfl rfl rfl rfl rfl rfl gc_9_332 rfl rfl (Nat.le_of_ble_eq_true rfl) (Nat.le_of_ble_eq_true rfl) rfl rfl (Nat.le_of_ble_eq_true rfl) (Nat.le_of_ble_eq_true rfl)
theorem z194_5 : Run d 194 5 [a0, a1, a2, a3, a4, a5, a6] [.int x] M 0 0 Z ↔ (x = 0 → Run d 194 25 [a0, a1, a2, a3, a4, a5, a6] [] M 0 0 Z) ∧ (¬ (x = 0) → Run d 194 8 [a0, a1, a2, a3, a4, a5, a6] [] M 0 0 Z) := R_if (gd194 dX9_read_5) (show gTgt 5 20 = some 25 by decide) gIf_eq
theorem z194_8 : Run d 194 8 [some (.ref o), a1, a2, a3, a4, a5, a6] [] M 0 0 Z ↔ Run d 194 9 [some (.ref o), a1, a2, a3, a4, a5, a6] [.ref o] M 0 0 Z := R_local (gd194 dX9_read_8) rfl rfl rfl
theorem z194_9 : Run d 194 9 [a0, a1, some (.int x), a3, a4, a5, a6] [s0] M 0 0 Z ↔ Run d 194 10 [a0, a1, some (.int x), a3, a4, a5, a6] [.int x, s0] M 0 0 Z := R_local (gd194 dX9_read_9) rfl rfl rfl
theorem z194_10 : Run d 194 10 [a0, a1, a2, a3, a4, a5, a6] [s1, .ref b] M 0 0 Z ↔ gObj M b 9 ∧ Call d 123 [.ref b, s1] M (fun r M1 => Run d 194 13 [a0, a1, a2, a3, a4, a5, a6] (r.toList ++ []) M1 0 0 Z) := R_callV (gd194 dX9_read_10) rfl rfl rfl rfl rfl rfl gc_9_167 rfl rfl (Nat.le_of_ble_eq_true rfl) (Nat.le_of_ble_eq_true rfl) rfl rfl (Nat.le_of_ble_eq_true rfl) (Nat.le_of_ble_eq_true rfl)
theorem z194_13 : Run d 194 13 [a0, a1, a2, a3, a4, a5, a6] [.int x] M 0 0 Z ↔ (x = 0 → Run d 194 25 [a0, a1, a2, a3, a4, a5, a6] [] M 0 0 Z) ∧ (¬ (x = 0) → Run d 194 16 [a0, a1, a2, a3, a4, a5, a6] [] M 0 0 Z) := R_if (gd194 dX9_read_13) (show gTgt 13 12 = some 25 by decide) gIf_eq
theorem z194_16 : Run d 194 16 [some (.ref o), a1, a2, a3, a4, a5, a6] [] M 0 0 Z ↔ Run d 194 17 [some (.ref o), a1, a2, a3, a4, a5, a6] [.ref o] M 0 0 Z := R_local (gd194 dX9_read_16) rfl rfl rfl
theorem z194_17 : Run d 194 17 [a0, a1, a2, a3, a4, a5, a6] [.ref o] M 0 0 Z ↔ gObj M o 9 ∧ Run d 194 20 [a0, a1, a2, a3, a4, a5, a6] [.int (M.1 o 1)] M 0 0 Z := R_getI (gd194 dX9_read_17) rfl gf_9_171 rfl
theorem z194_20 : Run d 194 20 [a0, a1, a2, a3, a4, a5, a6] [s0] M 0 0 Z ↔ Run d 194 22 [a0, a1, a2, a3, a4, a5, a6] [.int 64, s0] M 0 0 Z := R_bipush (gd194 dX9_read_20) (by decide)
theorem z194_22 : Run d 194 22 [a0, a1, a2, a3, a4, a5, a6] [.int y, .int x] M 0 0 Z ↔ (y ≤ x → Run d 194 27 [a0, a1, a2, a3, a4, a5, a6] [] M 0 0 Z) ∧ (¬ (y ≤ x) → Run d 194 25 [a0, a1, a2, a3, a4, a5, a6] [] M 0 0 Z) := R_icmp (gd194 dX9_read_22) (show gTgt 22 5 = some 27 by decide) gIf_ge
theorem z194_25 : Run d 194 25 [a0, a1, a2, a3, a4, a5, a6] [] M 0 0 Z ↔ Run d 194 26 [a0, a1, a2, a3, a4, a5, a6] [.int (-1)] M 0 0 Z := R_iconst (gd194 dX9_read_25) (by decide)
theorem z194_26 : Run d 194 26 [a0, a1, a2, a3, a4, a5, a6] [.int x] M 0 0 Z ↔ Z (some (.int x)) M := R_iret (gd194 dX9_read_26) rfl
theorem z194_27 : Run d 194 27 [some (.ref o), a1, a2, a3, a4, a5, a6] [] M 0 0 Z ↔ Run d 194 28 [some (.ref o), a1, a2, a3, a4, a5, a6] [.ref o] M 0 0 Z := R_local (gd194 dX9_read_27) rfl rfl rfl
theorem z194_28 : Run d 194 28 [a0, a1, a2, a3, a4, a5, a6] [s0] M 0 0 Z ↔ Run d 194 29 [a0, a1, a2, a3, a4, a5, a6] [.int 0, s0] M 0 0 Z := R_iconst (gd194 dX9_read_28) (by decide)
theorem z194_29 : Run d 194 29 [a0, a1, a2, a3, a4, a5, a6] [.int x, .ref o] M 0 0 Z ↔ gObj M o 9 ∧ Run d 194 32 [a0, a1, a2, a3, a4, a5, a6] [] (gsI M o 1 x) 0 0 Z := R_putI (gd194 dX9_read_29) rfl gf_9_171 (Or.inl rfl) rfl
theorem z194_32 : Run d 194 32 [a0, a1, a2, a3, a4, a5, a6] [] M 0 0 Z ↔ Run d 194 33 [a0, a1, a2, a3, a4, a5, a6] [.int 0] M 0 0 Z := R_iconst (gd194 dX9_read_32) (by decide)
theorem z194_33 : Run d 194 33 [a0, a1, a2, a3, a4, a5, a6] [.int x] M 0 0 Z ↔ Run d 194 34 [a0, a1, a2, some (.int x), a4, a5, a6] [] M 0 0 Z := R_local (gd194 dX9_read_33) rfl rfl rfl
theorem z194_34 : Run d 194 34 [a0, a1, a2, some (.int x), a4, a5, a6] [] M 0 0 Z ↔ Run d 194 35 [a0, a1, a2, some (.int x), a4, a5, a6] [.int x] M 0 0 Z := R_local (gd194 dX9_read_34) rfl rfl rfl
theorem z194_35 : Run d 194 35 [a0, a1, a2, a3, a4, a5, a6] [s0] M 0 0 Z ↔ Run d 194 37 [a0, a1, a2, a3, a4, a5, a6] [.int 64, s0] M 0 0 Z := R_bipush (gd194 dX9_read_35) (by decide)
theorem z194_37 : Run d 194 37 [a0, a1, a2, a3, a4, a5, a6] [.int y, .int x] M 0 0 Z ↔ (y ≤ x → Run d 194 60 [a0, a1, a2, a3, a4, a5, a6] [] M 0 0 Z) ∧ (¬ (y ≤ x) → Run d 194 40 [a0, a1, a2, a3, a4, a5, a6] [] M 0 0 Z) := R_icmp (gd194 dX9_read_37) (show gTgt 37 23 = some 60 by decide) gIf_ge
theorem z194_40 : Run d 194 40 [some (.ref o), a1, a2, a3, a4, a5, a6] [] M 0 0 Z ↔ Run d 194 41 [some (.ref o), a1, a2, a3, a4, a5, a6] [.ref o] M 0 0 Z := R_local (gd194 dX9_read_40) rfl rfl rfl
theorem z194_41 : Run d 194 41 [a0, a1, a2, a3, a4, a5, a6] [.ref o] M 0 0 Z ↔ gObj M o 9 ∧ Run d 194 44 [a0, a1, a2, a3, a4, a5, a6] [va_rf (M.2.1 o 0)] M 0 0 Z := R_getR (gd194 dX9_read_41) rfl gf_9_7 rfl
theorem z194_44 : Run d 194 44 [a0, a1, a2, some (.int x), a4, a5, a6] [s0] M 0 0 Z ↔ Run d 194 45 [a0, a1, a2, some (.int x), a4, a5, a6] [.int x, s0] M 0 0 Z := R_local (gd194 dX9_read_44) rfl rfl rfl
theorem z194_45 (hg : gAr M o 1) : Run d 194 45 [a0, a1, a2, a3, a4, a5, a6] [.int x, .ref o] M 0 0 Z ↔ gIn x (gLen M o) = true ∧ Run d 194 46 [a0, a1, a2, a3, a4, a5, a6] [.int (M.1 o x.toNatClampNeg)] M 0 0 Z := R_bald (gd194 dX9_read_45) (by decide) hg
theorem z194_46 : Run d 194 46 [a0, a1, a2, a3, a4, a5, a6] [s0] M 0 0 Z ↔ Call d 193 [s0] M (fun r M1 => Run d 194 49 [a0, a1, a2, a3, a4, a5, a6] (r.toList ++ []) M1 0 0 Z) := R_call (gd194 dX9_read_46) rfl rfl rfl rfl rfl rfl gc_9_391 rfl (by decide) (Nat.le_of_ble_eq_true rfl) (Nat.le_of_ble_eq_true rfl) rfl rfl rfl (Nat.le_of_ble_eq_true rfl) (Nat.le_of_ble_eq_true rfl)
theorem z194_49 : Run d 194 49 [a0, a1, a2, a3, a4, a5, a6] [.int x] M 0 0 Z ↔ (¬ x = 0 → Run d 194 54 [a0, a1, a2, a3, a4, a5, a6] [] M 0 0 Z) ∧ (¬ (¬ x = 0) → Run d 194 52 [a0, a1, a2, a3, a4, a5, a6] [] M 0 0 Z) := R_if (gd194 dX9_read_49) (show gTgt 49 5 = some 54 by decide) gIf_ne
theorem z194_52 : Run d 194 52 [a0, a1, a2, a3, a4, a5, a6] [] M 0 0 Z ↔ Run d 194 53 [a0, a1, a2, a3, a4, a5, a6] [.int (-1)] M 0 0 Z := R_iconst (gd194 dX9_read_52) (by decide)
theorem z194_53 : Run d 194 53 [a0, a1, a2, a3, a4, a5, a6] [.int x] M 0 0 Z ↔ Z (some (.int x)) M := R_iret (gd194 dX9_read_53) rfl
theorem z194_54 : Run d 194 54 [a0, a1, a2, some (.int x), a4, a5, a6] [] M 0 0 Z ↔ Run d 194 57 [a0, a1, a2, some (.int (x + 1)), a4, a5, a6] [] M 0 0 Z := R_iinc (gd194 dX9_read_54) (by decide) rfl rfl
theorem z194_57 : Run d 194 57 [a0, a1, a2, a3, a4, a5, a6] [] M 0 0 Z ↔ Run d 194 34 [a0, a1, a2, a3, a4, a5, a6] [] M 0 0 Z := R_goto (gd194 dX9_read_57) (show gTgt 57 (-23) = some 34 by decide)
theorem z194_60 : Run d 194 60 [a0, a1, a2, a3, a4, a5, a6] [] M 0 0 Z ↔ Run d 194 61 [a0, a1, a2, a3, a4, a5, a6] [.int 0] M 0 0 Z := R_iconst (gd194 dX9_read_60) (by decide)
theorem z194_61 : Run d 194 61 [a0, a1, a2, a3, a4, a5, a6] [.int x] M 0 0 Z ↔ Run d 194 62 [a0, a1, a2, some (.int x), a4, a5, a6] [] M 0 0 Z := R_local (gd194 dX9_read_61) rfl rfl rfl
theorem z194_62 : Run d 194 62 [a0, a1, a2, some (.int x), a4, a5, a6] [] M 0 0 Z ↔ Run d 194 63 [a0, a1, a2, some (.int x), a4, a5, a6] [.int x] M 0 0 Z := R_local (gd194 dX9_read_62) rfl rfl rfl
theorem z194_63 : Run d 194 63 [a0, a1, a2, a3, a4, a5, a6] [s0] M 0 0 Z ↔ Run d 194 65 [a0, a1, a2, a3, a4, a5, a6] [.int 64, s0] M 0 0 Z := R_bipush (gd194 dX9_read_63) (by decide)
theorem z194_65 : Run d 194 65 [a0, a1, a2, a3, a4, a5, a6] [.int y, .int x] M 0 0 Z ↔ (y ≤ x → Run d 194 94 [a0, a1, a2, a3, a4, a5, a6] [] M 0 0 Z) ∧ (¬ (y ≤ x) → Run d 194 68 [a0, a1, a2, a3, a4, a5, a6] [] M 0 0 Z) := R_icmp (gd194 dX9_read_65) (show gTgt 65 29 = some 94 by decide) gIf_ge
theorem z194_68 : Run d 194 68 [some (.ref o), a1, a2, a3, a4, a5, a6] [] M 0 0 Z ↔ Run d 194 69 [some (.ref o), a1, a2, a3, a4, a5, a6] [.ref o] M 0 0 Z := R_local (gd194 dX9_read_68) rfl rfl rfl
theorem z194_69 : Run d 194 69 [a0, a1, a2, a3, a4, a5, a6] [.ref o] M 0 0 Z ↔ gObj M o 9 ∧ Run d 194 72 [a0, a1, a2, a3, a4, a5, a6] [va_rf (M.2.1 o 70)] M 0 0 Z := R_getR (gd194 dX9_read_69) rfl gf_9_150 rfl
theorem z194_72 : Run d 194 72 [a0, a1, a2, some (.int x), a4, a5, a6] [s0] M 0 0 Z ↔ Run d 194 73 [a0, a1, a2, some (.int x), a4, a5, a6] [.int x, s0] M 0 0 Z := R_local (gd194 dX9_read_72) rfl rfl rfl
theorem z194_73 : Run d 194 73 [some (.ref o), a1, a2, a3, a4, a5, a6] [s1, s0] M 0 0 Z ↔ Run d 194 74 [some (.ref o), a1, a2, a3, a4, a5, a6] [.ref o, s1, s0] M 0 0 Z := R_local (gd194 dX9_read_73) rfl rfl rfl
theorem z194_74 : Run d 194 74 [a0, a1, a2, a3, a4, a5, a6] [.ref o, s1, s0] M 0 0 Z ↔ gObj M o 9 ∧ Run d 194 77 [a0, a1, a2, a3, a4, a5, a6] [va_rf (M.2.1 o 0), s1, s0] M 0 0 Z := R_getR (gd194 dX9_read_74) rfl gf_9_7 rfl
theorem z194_77 : Run d 194 77 [a0, a1, a2, some (.int x), a4, a5, a6] [s2, s1, s0] M 0 0 Z ↔ Run d 194 78 [a0, a1, a2, some (.int x), a4, a5, a6] [.int x, s2, s1, s0] M 0 0 Z := R_local (gd194 dX9_read_77) rfl rfl rfl
theorem z194_78 (hg : gAr M o 1) : Run d 194 78 [a0, a1, a2, a3, a4, a5, a6] [.int x, .ref o, s1, s0] M 0 0 Z ↔ gIn x (gLen M o) = true ∧ Run d 194 79 [a0, a1, a2, a3, a4, a5, a6] [.int (M.1 o x.toNatClampNeg), s1, s0] M 0 0 Z := R_bald (gd194 dX9_read_78) (by decide) hg
theorem z194_79 : Run d 194 79 [a0, a1, a2, a3, a4, a5, a6] [.int y, .int x, .ref o] M 0 0 Z ↔ gAr M o 0 ∧ gIn x (gLen M o) = true ∧ Run d 194 80 [a0, a1, a2, a3, a4, a5, a6] [] (gsI M o x.toNatClampNeg y) 0 0 Z := R_iast (gd194 dX9_read_79)
theorem z194_80 : Run d 194 80 [some (.ref o), a1, a2, a3, a4, a5, a6] [] M 0 0 Z ↔ Run d 194 81 [some (.ref o), a1, a2, a3, a4, a5, a6] [.ref o] M 0 0 Z := R_local (gd194 dX9_read_80) rfl rfl rfl
theorem z194_81 : Run d 194 81 [a0, a1, a2, a3, a4, a5, a6] [.ref o] M 0 0 Z ↔ gObj M o 9 ∧ Run d 194 84 [a0, a1, a2, a3, a4, a5, a6] [va_rf (M.2.1 o 62)] M 0 0 Z := R_getR (gd194 dX9_read_81) rfl gf_9_126 rfl
theorem z194_84 : Run d 194 84 [a0, a1, a2, some (.int x), a4, a5, a6] [s0] M 0 0 Z ↔ Run d 194 85 [a0, a1, a2, some (.int x), a4, a5, a6] [.int x, s0] M 0 0 Z := R_local (gd194 dX9_read_84) rfl rfl rfl
theorem z194_85 : Run d 194 85 [a0, a1, a2, a3, a4, a5, a6] [s1, s0] M 0 0 Z ↔ Run d 194 87 [a0, a1, a2, a3, a4, a5, a6] [.int 8, s1, s0] M 0 0 Z := R_bipush (gd194 dX9_read_85) (by decide)
theorem z194_87 : Run d 194 87 [a0, a1, a2, a3, a4, a5, a6] [.int y, .int x, .ref o] M 0 0 Z ↔ gAr M o 0 ∧ gIn x (gLen M o) = true ∧ Run d 194 88 [a0, a1, a2, a3, a4, a5, a6] [] (gsI M o x.toNatClampNeg y) 0 0 Z := R_iast (gd194 dX9_read_87)
theorem z194_88 : Run d 194 88 [a0, a1, a2, some (.int x), a4, a5, a6] [] M 0 0 Z ↔ Run d 194 91 [a0, a1, a2, some (.int (x + 1)), a4, a5, a6] [] M 0 0 Z := R_iinc (gd194 dX9_read_88) (by decide) rfl rfl
theorem z194_91 : Run d 194 91 [a0, a1, a2, a3, a4, a5, a6] [] M 0 0 Z ↔ Run d 194 62 [a0, a1, a2, a3, a4, a5, a6] [] M 0 0 Z := R_goto (gd194 dX9_read_91) (show gTgt 91 (-29) = some 62 by decide)
theorem z194_94 : Run d 194 94 [some (.ref o), a1, a2, a3, a4, a5, a6] [] M 0 0 Z ↔ Run d 194 95 [some (.ref o), a1, a2, a3, a4, a5, a6] [.ref o] M 0 0 Z := R_local (gd194 dX9_read_94) rfl rfl rfl
theorem z194_95 : Run d 194 95 [a0, a1, a2, a3, a4, a5, a6] [.ref o] M 0 0 Z ↔ gObj M o 9 ∧ Run d 194 98 [a0, a1, a2, a3, a4, a5, a6] [va_rf (M.2.1 o 63)] M 0 0 Z := R_getR (gd194 dX9_read_95) rfl gf_9_129 rfl
theorem z194_98 : Run d 194 98 [a0, a1, a2, a3, a4, a5, a6] [s0] M 0 0 Z ↔ Run d 194 99 [a0, a1, a2, a3, a4, a5, a6] [.int 0, s0] M 0 0 Z := R_iconst (gd194 dX9_read_98) (by decide)
theorem z194_99 : Run d 194 99 [a0, a1, a2, a3, a4, a5, a6] [s1, s0] M 0 0 Z ↔ Run d 194 100 [a0, a1, a2, a3, a4, a5, a6] [.int 0, s1, s0] M 0 0 Z := R_iconst (gd194 dX9_read_99) (by decide)
theorem z194_100 : Run d 194 100 [a0, a1, a2, a3, a4, a5, a6] [.int y, .int x, .ref o] M 0 0 Z ↔ gAr M o 0 ∧ gIn x (gLen M o) = true ∧ Run d 194 101 [a0, a1, a2, a3, a4, a5, a6] [] (gsI M o x.toNatClampNeg y) 0 0 Z := R_iast (gd194 dX9_read_100)
theorem z194_101 : Run d 194 101 [some (.ref o), a1, a2, a3, a4, a5, a6] [] M 0 0 Z ↔ Run d 194 102 [some (.ref o), a1, a2, a3, a4, a5, a6] [.ref o] M 0 0 Z := R_local (gd194 dX9_read_101) rfl rfl rfl
theorem z194_102 : Run d 194 102 [a0, a1, a2, a3, a4, a5, a6] [.ref o] M 0 0 Z ↔ gObj M o 9 ∧ Run d 194 105 [a0, a1, a2, a3, a4, a5, a6] [va_rf (M.2.1 o 64)] M 0 0 Z := R_getR (gd194 dX9_read_102) rfl gf_9_132 rfl
theorem z194_105 : Run d 194 105 [a0, a1, a2, a3, a4, a5, a6] [s0] M 0 0 Z ↔ Run d 194 106 [a0, a1, a2, a3, a4, a5, a6] [.int 0, s0] M 0 0 Z := R_iconst (gd194 dX9_read_105) (by decide)
theorem z194_106 : Run d 194 106 [a0, a1, a2, a3, a4, a5, a6] [s1, s0] M 0 0 Z ↔ Run d 194 107 [a0, a1, a2, a3, a4, a5, a6] [.int 0, s1, s0] M 0 0 Z := R_iconst (gd194 dX9_read_106) (by decide)
theorem z194_107 : Run d 194 107 [a0, a1, a2, a3, a4, a5, a6] [.int y, .int x, .ref o] M 0 0 Z ↔ gAr M o 0 ∧ gIn x (gLen M o) = true ∧ Run d 194 108 [a0, a1, a2, a3, a4, a5, a6] [] (gsI M o x.toNatClampNeg y) 0 0 Z := R_iast (gd194 dX9_read_107)
theorem z194_108 : Run d 194 108 [some (.ref o), a1, a2, a3, a4, a5, a6] [] M 0 0 Z ↔ Run d 194 109 [some (.ref o), a1, a2, a3, a4, a5, a6] [.ref o] M 0 0 Z := R_local (gd194 dX9_read_108) rfl rfl rfl
theorem z194_109 : Run d 194 109 [a0, a1, a2, a3, a4, a5, a6] [.ref o] M 0 0 Z ↔ gObj M o 9 ∧ Run d 194 112 [a0, a1, a2, a3, a4, a5, a6] [va_rf (M.2.1 o 65)] M 0 0 Z := R_getR (gd194 dX9_read_109) rfl gf_9_135 rfl
theorem z194_112 : Run d 194 112 [a0, a1, a2, a3, a4, a5, a6] [s0] M 0 0 Z ↔ Run d 194 113 [a0, a1, a2, a3, a4, a5, a6] [.int 0, s0] M 0 0 Z := R_iconst (gd194 dX9_read_112) (by decide)
theorem z194_113 : Run d 194 113 [a0, a1, a2, a3, a4, a5, a6] [s1, s0] M 0 0 Z ↔ Run d 194 114 [a0, a1, a2, a3, a4, a5, a6] [.int 0, s1, s0] M 0 0 Z := R_iconst (gd194 dX9_read_113) (by decide)
theorem z194_114 : Run d 194 114 [a0, a1, a2, a3, a4, a5, a6] [.int y, .int x, .ref o] M 0 0 Z ↔ gAr M o 0 ∧ gIn x (gLen M o) = true ∧ Run d 194 115 [a0, a1, a2, a3, a4, a5, a6] [] (gsI M o x.toNatClampNeg y) 0 0 Z := R_iast (gd194 dX9_read_114)
theorem z194_115 : Run d 194 115 [some (.ref o), a1, a2, a3, a4, a5, a6] [] M 0 0 Z ↔ Run d 194 116 [some (.ref o), a1, a2, a3, a4, a5, a6] [.ref o] M 0 0 Z := R_local (gd194 dX9_read_115) rfl rfl rfl
theorem z194_116 : Run d 194 116 [a0, a1, a2, a3, a4, a5, a6] [.ref o] M 0 0 Z ↔ gObj M o 9 ∧ Run d 194 119 [a0, a1, a2, a3, a4, a5, a6] [va_rf (M.2.1 o 66)] M 0 0 Z := R_getR (gd194 dX9_read_116) rfl gf_9_138 rfl
theorem z194_119 : Run d 194 119 [a0, a1, a2, a3, a4, a5, a6] [s0] M 0 0 Z ↔ Run d 194 120 [a0, a1, a2, a3, a4, a5, a6] [.int 0, s0] M 0 0 Z := R_iconst (gd194 dX9_read_119) (by decide)
theorem z194_120 : Run d 194 120 [a0, a1, a2, a3, a4, a5, a6] [s1, s0] M 0 0 Z ↔ Run d 194 121 [a0, a1, a2, a3, a4, a5, a6] [.int 1, s1, s0] M 0 0 Z := R_iconst (gd194 dX9_read_120) (by decide)
theorem z194_121 : Run d 194 121 [a0, a1, a2, a3, a4, a5, a6] [.int y, .int x, .ref o] M 0 0 Z ↔ gAr M o 0 ∧ gIn x (gLen M o) = true ∧ Run d 194 122 [a0, a1, a2, a3, a4, a5, a6] [] (gsI M o x.toNatClampNeg y) 0 0 Z := R_iast (gd194 dX9_read_121)
theorem z194_122 : Run d 194 122 [some (.ref o), a1, a2, a3, a4, a5, a6] [] M 0 0 Z ↔ Run d 194 123 [some (.ref o), a1, a2, a3, a4, a5, a6] [.ref o] M 0 0 Z := R_local (gd194 dX9_read_122) rfl rfl rfl
theorem z194_123 : Run d 194 123 [a0, a1, a2, a3, a4, a5, a6] [.ref o] M 0 0 Z ↔ gObj M o 9 ∧ Run d 194 126 [a0, a1, a2, a3, a4, a5, a6] [va_rf (M.2.1 o 67)] M 0 0 Z := R_getR (gd194 dX9_read_123) rfl gf_9_141 rfl
theorem z194_126 : Run d 194 126 [a0, a1, a2, a3, a4, a5, a6] [s0] M 0 0 Z ↔ Run d 194 127 [a0, a1, a2, a3, a4, a5, a6] [.int 0, s0] M 0 0 Z := R_iconst (gd194 dX9_read_126) (by decide)
theorem z194_127 : Run d 194 127 [a0, a1, a2, a3, a4, a5, a6] [s1, s0] M 0 0 Z ↔ Run d 194 128 [a0, a1, a2, a3, a4, a5, a6] [.int 0, s1, s0] M 0 0 Z := R_iconst (gd194 dX9_read_127) (by decide)
theorem z194_128 : Run d 194 128 [a0, a1, a2, a3, a4, a5, a6] [.int y, .int x, .ref o] M 0 0 Z ↔ gAr M o 0 ∧ gIn x (gLen M o) = true ∧ Run d 194 129 [a0, a1, a2, a3, a4, a5, a6] [] (gsI M o x.toNatClampNeg y) 0 0 Z := R_iast (gd194 dX9_read_128)
theorem z194_129 : Run d 194 129 [some (.ref o), a1, a2, a3, a4, a5, a6] [] M 0 0 Z ↔ Run d 194 130 [some (.ref o), a1, a2, a3, a4, a5, a6] [.ref o] M 0 0 Z := R_local (gd194 dX9_read_129) rfl rfl rfl
theorem z194_130 : Run d 194 130 [a0, a1, a2, a3, a4, a5, a6] [s0] M 0 0 Z ↔ Run d 194 131 [a0, a1, a2, a3, a4, a5, a6] [.int 0, s0] M 0 0 Z := R_iconst (gd194 dX9_read_130) (by decide)
theorem z194_131 : Run d 194 131 [a0, a1, a2, a3, a4, a5, a6] [.int x, .ref o] M 0 0 Z ↔ gObj M o 9 ∧ Run d 194 134 [a0, a1, a2, a3, a4, a5, a6] [] (gsI M o 71 x) 0 0 Z := R_putI (gd194 dX9_read_131) rfl gf_9_394 (Or.inl rfl) rfl
theorem z194_134 : Run d 194 134 [a0, a1, a2, a3, a4, a5, a6] [] M 0 0 Z ↔ Run d 194 135 [a0, a1, a2, a3, a4, a5, a6] [.int 0] M 0 0 Z := R_iconst (gd194 dX9_read_134) (by decide)
theorem z194_135 : Run d 194 135 [a0, a1, a2, a3, a4, a5, a6] [.int x] M 0 0 Z ↔ Run d 194 136 [a0, a1, a2, some (.int x), a4, a5, a6] [] M 0 0 Z := R_local (gd194 dX9_read_135) rfl rfl rfl
theorem z194_136 : Run d 194 136 [a0, a1, a2, a3, a4, a5, a6] [] M 0 0 Z ↔ Run d 194 137 [a0, a1, a2, a3, a4, a5, a6] [.int 1] M 0 0 Z := R_iconst (gd194 dX9_read_136) (by decide)
theorem z194_137 : Run d 194 137 [a0, a1, a2, a3, a4, a5, a6] [.int x] M 0 0 Z ↔ Run d 194 139 [a0, a1, a2, a3, some (.int x), a5, a6] [] M 0 0 Z := R_local (gd194 dX9_read_137) rfl rfl rfl
theorem z194_139 : Run d 194 139 [a0, a1, a2, a3, some (.int x), a5, a6] [] M 0 0 Z ↔ Run d 194 141 [a0, a1, a2, a3, some (.int x), a5, a6] [.int x] M 0 0 Z := R_local (gd194 dX9_read_139) rfl rfl rfl
theorem z194_141 : Run d 194 141 [a0, a1, a2, a3, a4, a5, a6] [s0] M 0 0 Z ↔ Run d 194 142 [a0, a1, a2, a3, a4, a5, a6] [.int 5, s0] M 0 0 Z := R_iconst (gd194 dX9_read_141) (by decide)
theorem z194_142 : Run d 194 142 [a0, a1, a2, a3, a4, a5, a6] [.int y, .int x] M 0 0 Z ↔ (y ≤ x → Run d 194 304 [a0, a1, a2, a3, a4, a5, a6] [] M 0 0 Z) ∧ (¬ (y ≤ x) → Run d 194 145 [a0, a1, a2, a3, a4, a5, a6] [] M 0 0 Z) := R_icmp (gd194 dX9_read_142) (show gTgt 142 162 = some 304 by decide) gIf_ge
theorem z194_145 : Run d 194 145 [a0, a1, a2, a3, a4, a5, a6] [] M 0 0 Z ↔ Run d 194 146 [a0, a1, a2, a3, a4, a5, a6] [.int 0] M 0 0 Z := R_iconst (gd194 dX9_read_145) (by decide)
theorem z194_146 : Run d 194 146 [a0, a1, a2, a3, a4, a5, a6] [.int x] M 0 0 Z ↔ Run d 194 148 [a0, a1, a2, a3, a4, some (.int x), a6] [] M 0 0 Z := R_local (gd194 dX9_read_146) rfl rfl rfl
theorem z194_148 : Run d 194 148 [some (.ref o), a1, a2, a3, a4, a5, a6] [] M 0 0 Z ↔ Run d 194 149 [some (.ref o), a1, a2, a3, a4, a5, a6] [.ref o] M 0 0 Z := R_local (gd194 dX9_read_148) rfl rfl rfl
theorem z194_149 : Run d 194 149 [a0, a1, a2, a3, a4, a5, a6] [.ref o] M 0 0 Z ↔ gObj M o 9 ∧ Run d 194 152 [a0, a1, a2, a3, a4, a5, a6] [va_rf (M.2.1 o 68)] M 0 0 Z := R_getR (gd194 dX9_read_149) rfl gf_9_144 rfl
theorem z194_152 : Run d 194 152 [a0, a1, a2, a3, a4, a5, a6] [s0] M 0 0 Z ↔ Run d 194 153 [a0, a1, a2, a3, a4, a5, a6] [.int 0, s0] M 0 0 Z := R_iconst (gd194 dX9_read_152) (by decide)
theorem z194_153 : Run d 194 153 [a0, a1, a2, a3, a4, a5, a6] [s1, s0] M 0 0 Z ↔ Run d 194 154 [a0, a1, a2, a3, a4, a5, a6] [.int (-1), s1, s0] M 0 0 Z := R_iconst (gd194 dX9_read_153) (by decide)
theorem z194_154 : Run d 194 154 [a0, a1, a2, a3, a4, a5, a6] [.int y, .int x, .ref o] M 0 0 Z ↔ gAr M o 0 ∧ gIn x (gLen M o) = true ∧ Run d 194 155 [a0, a1, a2, a3, a4, a5, a6] [] (gsI M o x.toNatClampNeg y) 0 0 Z := R_iast (gd194 dX9_read_154)
theorem z194_155 : Run d 194 155 [a0, a1, a2, a3, a4, some (.int x), a6] [] M 0 0 Z ↔ Run d 194 157 [a0, a1, a2, a3, a4, some (.int x), a6] [.int x] M 0 0 Z := R_local (gd194 dX9_read_155) rfl rfl rfl
theorem z194_157 : Run d 194 157 [a0, a1, a2, a3, a4, a5, a6] [.int x] M 0 0 Z ↔ (x < 0 → Run d 194 298 [a0, a1, a2, a3, a4, a5, a6] [] M 0 0 Z) ∧ (¬ (x < 0) → Run d 194 160 [a0, a1, a2, a3, a4, a5, a6] [] M 0 0 Z) := R_if (gd194 dX9_read_157) (show gTgt 157 141 = some 298 by decide) gIf_lt
theorem z194_160 : Run d 194 160 [some (.ref o), a1, a2, a3, a4, a5, a6] [] M 0 0 Z ↔ Run d 194 161 [some (.ref o), a1, a2, a3, a4, a5, a6] [.ref o] M 0 0 Z := R_local (gd194 dX9_read_160) rfl rfl rfl
theorem z194_161 : Run d 194 161 [a0, a1, a2, a3, a4, a5, a6] [.ref o] M 0 0 Z ↔ gObj M o 9 ∧ Run d 194 164 [a0, a1, a2, a3, a4, a5, a6] [va_rf (M.2.1 o 68)] M 0 0 Z := R_getR (gd194 dX9_read_161) rfl gf_9_144 rfl
theorem z194_164 : Run d 194 164 [a0, a1, a2, a3, a4, some (.int x), a6] [s0] M 0 0 Z ↔ Run d 194 166 [a0, a1, a2, a3, a4, some (.int x), a6] [.int x, s0] M 0 0 Z := R_local (gd194 dX9_read_164) rfl rfl rfl
theorem z194_166 : Run d 194 166 [a0, a1, a2, a3, a4, a5, a6] [.int y, .ref o] M 0 0 Z ↔ Run d 194 167 [a0, a1, a2, a3, a4, a5, a6] [.int y, .ref o, .int y, .ref o] M 0 0 Z := R_arith (gd194 dX9_read_166) rfl
theorem z194_167 : Run d 194 167 [a0, a1, a2, a3, a4, a5, a6] [.int x, .ref o, s1, s0] M 0 0 Z ↔ gAr M o 0 ∧ gIn x (gLen M o) = true ∧ Run d 194 168 [a0, a1, a2, a3, a4, a5, a6] [.int (M.1 o x.toNatClampNeg), s1, s0] M 0 0 Z := R_iald (gd194 dX9_read_167)
theorem z194_168 : Run d 194 168 [a0, a1, a2, a3, a4, a5, a6] [s2, s1, s0] M 0 0 Z ↔ Run d 194 169 [a0, a1, a2, a3, a4, a5, a6] [.int 1, s2, s1, s0] M 0 0 Z := R_iconst (gd194 dX9_read_168) (by decide)
theorem z194_169 : Run d 194 169 [a0, a1, a2, a3, a4, a5, a6] [.int y, .int x, s1, s0] M 0 0 Z ↔ Run d 194 170 [a0, a1, a2, a3, a4, a5, a6] [.int (x + y), s1, s0] M 0 0 Z := R_arith (gd194 dX9_read_169) rfl
theorem z194_170 : Run d 194 170 [a0, a1, a2, a3, a4, a5, a6] [.int y, .int x, .ref o] M 0 0 Z ↔ gAr M o 0 ∧ gIn x (gLen M o) = true ∧ Run d 194 171 [a0, a1, a2, a3, a4, a5, a6] [] (gsI M o x.toNatClampNeg y) 0 0 Z := R_iast (gd194 dX9_read_170)
theorem z194_171 : Run d 194 171 [some (.ref o), a1, a2, a3, a4, a5, a6] [] M 0 0 Z ↔ Run d 194 172 [some (.ref o), a1, a2, a3, a4, a5, a6] [.ref o] M 0 0 Z := R_local (gd194 dX9_read_171) rfl rfl rfl
theorem z194_172 : Run d 194 172 [a0, a1, a2, a3, a4, a5, a6] [.ref o] M 0 0 Z ↔ gObj M o 9 ∧ Run d 194 175 [a0, a1, a2, a3, a4, a5, a6] [va_rf (M.2.1 o 68)] M 0 0 Z := R_getR (gd194 dX9_read_172) rfl gf_9_144 rfl
theorem z194_175 : Run d 194 175 [a0, a1, a2, a3, a4, some (.int x), a6] [s0] M 0 0 Z ↔ Run d 194 177 [a0, a1, a2, a3, a4, some (.int x), a6] [.int x, s0] M 0 0 Z := R_local (gd194 dX9_read_175) rfl rfl rfl
theorem z194_177 : Run d 194 177 [a0, a1, a2, a3, a4, a5, a6] [.int x, .ref o] M 0 0 Z ↔ gAr M o 0 ∧ gIn x (gLen M o) = true ∧ Run d 194 178 [a0, a1, a2, a3, a4, a5, a6] [.int (M.1 o x.toNatClampNeg)] M 0 0 Z := R_iald (gd194 dX9_read_177)
theorem z194_178 : Run d 194 178 [a0, a1, a2, a3, a4, a5, a6] [s0] M 0 0 Z ↔ Run d 194 180 [a0, a1, a2, a3, a4, a5, a6] [.int 11, s0] M 0 0 Z := R_bipush (gd194 dX9_read_178) (by decide)
theorem z194_180 : Run d 194 180 [a0, a1, a2, a3, a4, a5, a6] [.int y, .int x] M 0 0 Z ↔ (¬ x = y → Run d 194 189 [a0, a1, a2, a3, a4, a5, a6] [] M 0 0 Z) ∧ (¬ (¬ x = y) → Run d 194 183 [a0, a1, a2, a3, a4, a5, a6] [] M 0 0 Z) := R_icmp (gd194 dX9_read_180) (show gTgt 180 9 = some 189 by decide) gIf_ne
theorem z194_183 : Run d 194 183 [a0, a1, a2, a3, a4, some (.int x), a6] [] M 0 0 Z ↔ Run d 194 186 [a0, a1, a2, a3, a4, some (.int (x + (-1))), a6] [] M 0 0 Z := R_iinc (gd194 dX9_read_183) (by decide) rfl rfl
theorem z194_186 : Run d 194 186 [a0, a1, a2, a3, a4, a5, a6] [] M 0 0 Z ↔ Run d 194 155 [a0, a1, a2, a3, a4, a5, a6] [] M 0 0 Z := R_goto (gd194 dX9_read_186) (show gTgt 186 (-31) = some 155 by decide)
theorem z194_189 : Run d 194 189 [some (.ref o), a1, a2, a3, a4, a5, a6] [] M 0 0 Z ↔ Run d 194 190 [some (.ref o), a1, a2, a3, a4, a5, a6] [.ref o] M 0 0 Z := R_local (gd194 dX9_read_189) rfl rfl rfl
theorem z194_190 : Run d 194 190 [a0, some (.int x), a2, a3, a4, a5, a6] [s0] M 0 0 Z ↔ Run d 194 191 [a0, some (.int x), a2, a3, a4, a5, a6] [.int x, s0] M 0 0 Z := R_local (gd194 dX9_read_190) rfl rfl rfl
theorem z194_191 : Run d 194 191 [a0, a1, some (.int x), a3, a4, a5, a6] [s1, s0] M 0 0 Z ↔ Run d 194 192 [a0, a1, some (.int x), a3, a4, a5, a6] [.int x, s1, s0] M 0 0 Z := R_local (gd194 dX9_read_191) rfl rfl rfl
theorem z194_192 : Run d 194 192 [a0, a1, a2, a3, a4, some (.int x), a6] [s2, s1, s0] M 0 0 Z ↔ Run d 194 194 [a0, a1, a2, a3, a4, some (.int x), a6] [.int x, s2, s1, s0] M 0 0 Z := R_local (gd194 dX9_read_192) rfl rfl rfl
theorem z194_194 : Run d 194 194 [some (.ref o), a1, a2, a3, a4, a5, a6] [s3, s2, s1, s0] M 0 0 Z ↔ Run d 194 195 [some (.ref o), a1, a2, a3, a4, a5, a6] [.ref o, s3, s2, s1, s0] M 0 0 Z := R_local (gd194 dX9_read_194) rfl rfl rfl
theorem z194_195 : Run d 194 195 [a0, a1, a2, a3, a4, a5, a6] [.ref o, s3, s2, s1, s0] M 0 0 Z ↔ gObj M o 9 ∧ Run d 194 198 [a0, a1, a2, a3, a4, a5, a6] [va_rf (M.2.1 o 68), s3, s2, s1, s0] M 0 0 Z := R_getR (gd194 dX9_read_195) rfl gf_9_144 rfl
theorem z194_198 : Run d 194 198 [a0, a1, a2, a3, a4, some (.int x), a6] [s4, s3, s2, s1, s0] M 0 0 Z ↔ Run d 194 200 [a0, a1, a2, a3, a4, some (.int x), a6] [.int x, s4, s3, s2, s1, s0] M 0 0 Z := R_local (gd194 dX9_read_198) rfl rfl rfl
theorem z194_200 : Run d 194 200 [a0, a1, a2, a3, a4, a5, a6] [.int x, .ref o, s3, s2, s1, s0] M 0 0 Z ↔ gAr M o 0 ∧ gIn x (gLen M o) = true ∧ Run d 194 201 [a0, a1, a2, a3, a4, a5, a6] [.int (M.1 o x.toNatClampNeg), s3, s2, s1, s0] M 0 0 Z := R_iald (gd194 dX9_read_200)
theorem z194_201 : Run d 194 201 [a0, a1, a2, a3, a4, a5, a6] [s4, s3, s2, s1, .ref b] M 0 0 Z ↔ gObj M b 9 ∧ Call d 191 [.ref b, s1, s2, s3, s4] M (fun r M1 => Run d 194 204 [a0, a1, a2, a3, a4, a5, a6] (r.toList ++ []) M1 0 0 Z) := R_callV (gd194 dX9_read_201) rfl rfl rfl rfl rfl rfl gc_9_397 rfl rfl (Nat.le_of_ble_eq_true rfl) (Nat.le_of_ble_eq_true rfl) rfl rfl (Nat.le_of_ble_eq_true rfl) (Nat.le_of_ble_eq_true rfl)
theorem z194_204 : Run d 194 204 [a0, a1, a2, a3, a4, a5, a6] [.int x] M 0 0 Z ↔ (x = 0 → Run d 194 155 [a0, a1, a2, a3, a4, a5, a6] [] M 0 0 Z) ∧ (¬ (x = 0) → Run d 194 207 [a0, a1, a2, a3, a4, a5, a6] [] M 0 0 Z) := R_if (gd194 dX9_read_204) (show gTgt 204 (-49) = some 155 by decide) gIf_eq
theorem z194_207 : Run d 194 207 [a0, a1, a2, a3, a4, some (.int x), a6] [] M 0 0 Z ↔ Run d 194 209 [a0, a1, a2, a3, a4, some (.int x), a6] [.int x] M 0 0 Z := R_local (gd194 dX9_read_207) rfl rfl rfl
theorem z194_209 : Run d 194 209 [a0, a1, a2, a3, a4, a5, a6] [s0] M 0 0 Z ↔ Run d 194 210 [a0, a1, a2, a3, a4, a5, a6] [.int 1, s0] M 0 0 Z := R_iconst (gd194 dX9_read_209) (by decide)
theorem z194_210 : Run d 194 210 [a0, a1, a2, a3, a4, a5, a6] [.int y, .int x] M 0 0 Z ↔ Run d 194 211 [a0, a1, a2, a3, a4, a5, a6] [.int (x + y)] M 0 0 Z := R_arith (gd194 dX9_read_210) rfl
theorem z194_211 : Run d 194 211 [a0, a1, a2, a3, some (.int x), a5, a6] [s0] M 0 0 Z ↔ Run d 194 213 [a0, a1, a2, a3, some (.int x), a5, a6] [.int x, s0] M 0 0 Z := R_local (gd194 dX9_read_211) rfl rfl rfl
theorem z194_213 : Run d 194 213 [a0, a1, a2, a3, a4, a5, a6] [.int y, .int x] M 0 0 Z ↔ (y ≤ x → Run d 194 230 [a0, a1, a2, a3, a4, a5, a6] [] M 0 0 Z) ∧ (¬ (y ≤ x) → Run d 194 216 [a0, a1, a2, a3, a4, a5, a6] [] M 0 0 Z) := R_icmp (gd194 dX9_read_213) (show gTgt 213 17 = some 230 by decide) gIf_ge
theorem z194_216 : Run d 194 216 [a0, a1, a2, a3, a4, some (.int x), a6] [] M 0 0 Z ↔ Run d 194 219 [a0, a1, a2, a3, a4, some (.int (x + 1)), a6] [] M 0 0 Z := R_iinc (gd194 dX9_read_216) (by decide) rfl rfl
theorem z194_219 : Run d 194 219 [some (.ref o), a1, a2, a3, a4, a5, a6] [] M 0 0 Z ↔ Run d 194 220 [some (.ref o), a1, a2, a3, a4, a5, a6] [.ref o] M 0 0 Z := R_local (gd194 dX9_read_219) rfl rfl rfl
theorem z194_220 : Run d 194 220 [a0, a1, a2, a3, a4, a5, a6] [.ref o] M 0 0 Z ↔ gObj M o 9 ∧ Run d 194 223 [a0, a1, a2, a3, a4, a5, a6] [va_rf (M.2.1 o 68)] M 0 0 Z := R_getR (gd194 dX9_read_220) rfl gf_9_144 rfl
theorem z194_223 : Run d 194 223 [a0, a1, a2, a3, a4, some (.int x), a6] [s0] M 0 0 Z ↔ Run d 194 225 [a0, a1, a2, a3, a4, some (.int x), a6] [.int x, s0] M 0 0 Z := R_local (gd194 dX9_read_223) rfl rfl rfl
theorem z194_225 : Run d 194 225 [a0, a1, a2, a3, a4, a5, a6] [s1, s0] M 0 0 Z ↔ Run d 194 226 [a0, a1, a2, a3, a4, a5, a6] [.int (-1), s1, s0] M 0 0 Z := R_iconst (gd194 dX9_read_225) (by decide)
theorem z194_226 : Run d 194 226 [a0, a1, a2, a3, a4, a5, a6] [.int y, .int x, .ref o] M 0 0 Z ↔ gAr M o 0 ∧ gIn x (gLen M o) = true ∧ Run d 194 227 [a0, a1, a2, a3, a4, a5, a6] [] (gsI M o x.toNatClampNeg y) 0 0 Z := R_iast (gd194 dX9_read_226)
theorem z194_227 : Run d 194 227 [a0, a1, a2, a3, a4, a5, a6] [] M 0 0 Z ↔ Run d 194 155 [a0, a1, a2, a3, a4, a5, a6] [] M 0 0 Z := R_goto (gd194 dX9_read_227) (show gTgt 227 (-72) = some 155 by decide)
theorem z194_230 : Run d 194 230 [some (.ref o), a1, a2, a3, a4, a5, a6] [] M 0 0 Z ↔ Run d 194 231 [some (.ref o), a1, a2, a3, a4, a5, a6] [.ref o] M 0 0 Z := R_local (gd194 dX9_read_230) rfl rfl rfl
theorem z194_231 : Run d 194 231 [a0, a1, a2, a3, a4, some (.int x), a6] [s0] M 0 0 Z ↔ Run d 194 233 [a0, a1, a2, a3, a4, some (.int x), a6] [.int x, s0] M 0 0 Z := R_local (gd194 dX9_read_231) rfl rfl rfl
theorem z194_233 : Run d 194 233 [a0, a1, a2, a3, a4, a5, a6] [s1, s0] M 0 0 Z ↔ Run d 194 234 [a0, a1, a2, a3, a4, a5, a6] [.int 1, s1, s0] M 0 0 Z := R_iconst (gd194 dX9_read_233) (by decide)
theorem z194_234 : Run d 194 234 [a0, a1, a2, a3, a4, a5, a6] [.int y, .int x, s0] M 0 0 Z ↔ Run d 194 235 [a0, a1, a2, a3, a4, a5, a6] [.int (x + y), s0] M 0 0 Z := R_arith (gd194 dX9_read_234) rfl
theorem z194_235 : Run d 194 235 [a0, a1, a2, a3, a4, a5, a6] [s1, .ref b] M 0 0 Z ↔ gObj M b 9 ∧ Call d 192 [.ref b, s1] M (fun r M1 => Run d 194 238 [a0, a1, a2, a3, a4, a5, a6] (r.toList ++ []) M1 0 0 Z) := R_callV (gd194 dX9_read_235) rfl rfl rfl rfl rfl rfl gc_9_401 rfl rfl (Nat.le_of_ble_eq_true rfl) (Nat.le_of_ble_eq_true rfl) rfl rfl (Nat.le_of_ble_eq_true rfl) (Nat.le_of_ble_eq_true rfl)
theorem z194_238 : Run d 194 238 [a0, a1, a2, a3, a4, a5, a6] [.int x] M 0 0 Z ↔ (x = 0 → Run d 194 155 [a0, a1, a2, a3, a4, a5, a6] [] M 0 0 Z) ∧ (¬ (x = 0) → Run d 194 241 [a0, a1, a2, a3, a4, a5, a6] [] M 0 0 Z) := R_if (gd194 dX9_read_238) (show gTgt 238 (-83) = some 155 by decide) gIf_eq
theorem z194_241 : Run d 194 241 [a0, a1, a2, a3, a4, a5, a6] [] M 0 0 Z ↔ Run d 194 242 [a0, a1, a2, a3, a4, a5, a6] [.int 0] M 0 0 Z := R_iconst (gd194 dX9_read_241) (by decide)
theorem z194_242 : Run d 194 242 [a0, a1, a2, a3, a4, a5, a6] [.int x] M 0 0 Z ↔ Run d 194 244 [a0, a1, a2, a3, a4, a5, some (.int x)] [] M 0 0 Z := R_local (gd194 dX9_read_242) rfl rfl rfl
theorem z194_244 : Run d 194 244 [a0, a1, a2, a3, a4, a5, some (.int x)] [] M 0 0 Z ↔ Run d 194 246 [a0, a1, a2, a3, a4, a5, some (.int x)] [.int x] M 0 0 Z := R_local (gd194 dX9_read_244) rfl rfl rfl
theorem z194_246 : Run d 194 246 [a0, a1, a2, a3, some (.int x), a5, a6] [s0] M 0 0 Z ↔ Run d 194 248 [a0, a1, a2, a3, some (.int x), a5, a6] [.int x, s0] M 0 0 Z := R_local (gd194 dX9_read_246) rfl rfl rfl
theorem z194_248 : Run d 194 248 [a0, a1, a2, a3, a4, a5, a6] [.int y, .int x] M 0 0 Z ↔ (y ≤ x → Run d 194 275 [a0, a1, a2, a3, a4, a5, a6] [] M 0 0 Z) ∧ (¬ (y ≤ x) → Run d 194 251 [a0, a1, a2, a3, a4, a5, a6] [] M 0 0 Z) := R_icmp (gd194 dX9_read_248) (show gTgt 248 27 = some 275 by decide) gIf_ge
theorem z194_251 : Run d 194 251 [a0, a1, a2, some (.int x), a4, a5, a6] [] M 0 0 Z ↔ Run d 194 252 [a0, a1, a2, some (.int x), a4, a5, a6] [.int x] M 0 0 Z := R_local (gd194 dX9_read_251) rfl rfl rfl
theorem z194_252 : Run d 194 252 [a0, a1, a2, a3, a4, a5, a6] [.int x] M 0 0 Z ↔ (¬ x = 0 → Run d 194 275 [a0, a1, a2, a3, a4, a5, a6] [] M 0 0 Z) ∧ (¬ (¬ x = 0) → Run d 194 255 [a0, a1, a2, a3, a4, a5, a6] [] M 0 0 Z) := R_if (gd194 dX9_read_252) (show gTgt 252 23 = some 275 by decide) gIf_ne
theorem z194_255 : Run d 194 255 [some (.ref o), a1, a2, a3, a4, a5, a6] [] M 0 0 Z ↔ Run d 194 256 [some (.ref o), a1, a2, a3, a4, a5, a6] [.ref o] M 0 0 Z := R_local (gd194 dX9_read_255) rfl rfl rfl
theorem z194_256 : Run d 194 256 [a0, a1, a2, a3, a4, a5, a6] [.ref o] M 0 0 Z ↔ gObj M o 9 ∧ Run d 194 259 [a0, a1, a2, a3, a4, a5, a6] [va_rf (M.2.1 o 69)] M 0 0 Z := R_getR (gd194 dX9_read_256) rfl gf_9_147 rfl
theorem z194_259 : Run d 194 259 [a0, a1, a2, a3, a4, a5, some (.int x)] [s0] M 0 0 Z ↔ Run d 194 261 [a0, a1, a2, a3, a4, a5, some (.int x)] [.int x, s0] M 0 0 Z := R_local (gd194 dX9_read_259) rfl rfl rfl
theorem z194_261 : Run d 194 261 [some (.ref o), a1, a2, a3, a4, a5, a6] [s1, s0] M 0 0 Z ↔ Run d 194 262 [some (.ref o), a1, a2, a3, a4, a5, a6] [.ref o, s1, s0] M 0 0 Z := R_local (gd194 dX9_read_261) rfl rfl rfl
theorem z194_262 : Run d 194 262 [a0, a1, a2, a3, a4, a5, a6] [.ref o, s1, s0] M 0 0 Z ↔ gObj M o 9 ∧ Run d 194 265 [a0, a1, a2, a3, a4, a5, a6] [va_rf (M.2.1 o 68), s1, s0] M 0 0 Z := R_getR (gd194 dX9_read_262) rfl gf_9_144 rfl
theorem z194_265 : Run d 194 265 [a0, a1, a2, a3, a4, a5, some (.int x)] [s2, s1, s0] M 0 0 Z ↔ Run d 194 267 [a0, a1, a2, a3, a4, a5, some (.int x)] [.int x, s2, s1, s0] M 0 0 Z := R_local (gd194 dX9_read_265) rfl rfl rfl
theorem z194_267 : Run d 194 267 [a0, a1, a2, a3, a4, a5, a6] [.int x, .ref o, s1, s0] M 0 0 Z ↔ gAr M o 0 ∧ gIn x (gLen M o) = true ∧ Run d 194 268 [a0, a1, a2, a3, a4, a5, a6] [.int (M.1 o x.toNatClampNeg), s1, s0] M 0 0 Z := R_iald (gd194 dX9_read_267)
theorem z194_268 : Run d 194 268 [a0, a1, a2, a3, a4, a5, a6] [.int y, .int x, .ref o] M 0 0 Z ↔ gAr M o 0 ∧ gIn x (gLen M o) = true ∧ Run d 194 269 [a0, a1, a2, a3, a4, a5, a6] [] (gsI M o x.toNatClampNeg y) 0 0 Z := R_iast (gd194 dX9_read_268)
theorem z194_269 : Run d 194 269 [a0, a1, a2, a3, a4, a5, some (.int x)] [] M 0 0 Z ↔ Run d 194 272 [a0, a1, a2, a3, a4, a5, some (.int (x + 1))] [] M 0 0 Z := R_iinc (gd194 dX9_read_269) (by decide) rfl rfl
theorem z194_272 : Run d 194 272 [a0, a1, a2, a3, a4, a5, a6] [] M 0 0 Z ↔ Run d 194 244 [a0, a1, a2, a3, a4, a5, a6] [] M 0 0 Z := R_goto (gd194 dX9_read_272) (show gTgt 272 (-28) = some 244 by decide)
theorem z194_275 : Run d 194 275 [some (.ref o), a1, a2, a3, a4, a5, a6] [] M 0 0 Z ↔ Run d 194 276 [some (.ref o), a1, a2, a3, a4, a5, a6] [.ref o] M 0 0 Z := R_local (gd194 dX9_read_275) rfl rfl rfl
theorem z194_276 : Run d 194 276 [a0, a1, a2, some (.int x), a4, a5, a6] [s0] M 0 0 Z ↔ Run d 194 277 [a0, a1, a2, some (.int x), a4, a5, a6] [.int x, s0] M 0 0 Z := R_local (gd194 dX9_read_276) rfl rfl rfl
theorem z194_277 : Run d 194 277 [a0, a1, a2, a3, a4, a5, a6] [.int x, s0] M 0 0 Z ↔ (¬ x = 0 → Run d 194 285 [a0, a1, a2, a3, a4, a5, a6] [s0] M 0 0 Z) ∧ (¬ (¬ x = 0) → Run d 194 280 [a0, a1, a2, a3, a4, a5, a6] [s0] M 0 0 Z) := R_if (gd194 dX9_read_277) (show gTgt 277 8 = some 285 by decide) gIf_ne
theorem z194_280 : Run d 194 280 [a0, a1, a2, a3, some (.int x), a5, a6] [s0] M 0 0 Z ↔ Run d 194 282 [a0, a1, a2, a3, some (.int x), a5, a6] [.int x, s0] M 0 0 Z := R_local (gd194 dX9_read_280) rfl rfl rfl
theorem z194_282 : Run d 194 282 [a0, a1, a2, a3, a4, a5, a6] [s1, s0] M 0 0 Z ↔ Run d 194 289 [a0, a1, a2, a3, a4, a5, a6] [s1, s0] M 0 0 Z := R_goto (gd194 dX9_read_282) (show gTgt 282 7 = some 289 by decide)
theorem z194_285 : Run d 194 285 [some (.ref o), a1, a2, a3, a4, a5, a6] [s0] M 0 0 Z ↔ Run d 194 286 [some (.ref o), a1, a2, a3, a4, a5, a6] [.ref o, s0] M 0 0 Z := R_local (gd194 dX9_read_285) rfl rfl rfl
theorem z194_286 : Run d 194 286 [a0, a1, a2, a3, a4, a5, a6] [.ref o, s0] M 0 0 Z ↔ gObj M o 9 ∧ Run d 194 289 [a0, a1, a2, a3, a4, a5, a6] [.int (M.1 o 71), s0] M 0 0 Z := R_getI (gd194 dX9_read_286) rfl gf_9_394 rfl
theorem z194_289 : Run d 194 289 [a0, a1, a2, a3, a4, a5, a6] [.int x, .ref o] M 0 0 Z ↔ gObj M o 9 ∧ Run d 194 292 [a0, a1, a2, a3, a4, a5, a6] [] (gsI M o 71 x) 0 0 Z := R_putI (gd194 dX9_read_289) rfl gf_9_394 (Or.inl rfl) rfl
theorem z194_292 : Run d 194 292 [a0, a1, a2, some (.int x), a4, a5, a6] [] M 0 0 Z ↔ Run d 194 295 [a0, a1, a2, some (.int (x + 1)), a4, a5, a6] [] M 0 0 Z := R_iinc (gd194 dX9_read_292) (by decide) rfl rfl
theorem z194_295 : Run d 194 295 [a0, a1, a2, a3, a4, a5, a6] [] M 0 0 Z ↔ Run d 194 155 [a0, a1, a2, a3, a4, a5, a6] [] M 0 0 Z := R_goto (gd194 dX9_read_295) (show gTgt 295 (-140) = some 155 by decide)
theorem z194_298 : Run d 194 298 [a0, a1, a2, a3, some (.int x), a5, a6] [] M 0 0 Z ↔ Run d 194 301 [a0, a1, a2, a3, some (.int (x + 1)), a5, a6] [] M 0 0 Z := R_iinc (gd194 dX9_read_298) (by decide) rfl rfl
theorem z194_301 : Run d 194 301 [a0, a1, a2, a3, a4, a5, a6] [] M 0 0 Z ↔ Run d 194 139 [a0, a1, a2, a3, a4, a5, a6] [] M 0 0 Z := R_goto (gd194 dX9_read_301) (show gTgt 301 (-162) = some 139 by decide)
theorem z194_304 : Run d 194 304 [a0, a1, a2, some (.int x), a4, a5, a6] [] M 0 0 Z ↔ Run d 194 305 [a0, a1, a2, some (.int x), a4, a5, a6] [.int x] M 0 0 Z := R_local (gd194 dX9_read_304) rfl rfl rfl
theorem z194_305 : Run d 194 305 [a0, a1, a2, a3, a4, a5, a6] [.int x] M 0 0 Z ↔ Z (some (.int x)) M := R_iret (gd194 dX9_read_305) rfl
theorem e194 : Call (d + 1) 194 [s0, s1, s2] M Z ↔ Run d 194 0 [some s0, some s1, some s2, none, none, none, none] [] M 0 0 Z := Call_iff (Nat.lt_of_lt_of_le (Nat.lt_succ_self 194) (Nat.le_of_ble_eq_true rfl)) (Nat.le_of_ble_eq_true rfl)
/-! 195: X9_wrote (I)I -/
theorem gd195 {pc : Nat} {r : Except _ _} (h : decode cX9_wrote pc = r) : decode (gby 195) pc = r := h
theorem z195_0 : Run d 195 0 [a0, some (.int x)] [] M 0 0 Z ↔ Run d 195 1 [a0, some (.int x)] [.int x] M 0 0 Z := R_local (gd195 dX9_wrote_0) rfl rfl rfl
theorem z195_1 : Run d 195 1 [a0, a1] [s0] M 0 0 Z ↔ Run d 195 2 [a0, a1] [.int 0, s0] M 0 0 Z := R_iconst (gd195 dX9_wrote_1) (by decide)
theorem z195_2 : Run d 195 2 [some (.ref o), a1] [s1, s0] M 0 0 Z ↔ Run d 195 3 [some (.ref o), a1] [.ref o, s1, s0] M 0 0 Z := R_local (gd195 dX9_wrote_2) rfl rfl rfl
theorem z195_3 : Run d 195 3 [a0, a1] [.ref o, s1, s0] M 0 0 Z ↔ gObj M o 9 ∧ Run d 195 6 [a0, a1] [.int (M.1 o 71), s1, s0] M 0 0 Z := R_getI (gd195 dX9_wrote_3) rfl gf_9_394 rfl
theorem z195_6 : Run d 195 6 [a0, a1] [s2, s1, s0] M 0 0 Z ↔ Run d 195 7 [a0, a1] [.int 1, s2, s1, s0] M 0 0 Z := R_iconst (gd195 dX9_wrote_6) (by decide)
theorem z195_7 : Run d 195 7 [a0, a1] [.int y, .int x, s1, s0] M 0 0 Z ↔ Run d 195 8 [a0, a1] [.int (x - y), s1, s0] M 0 0 Z := R_arith (gd195 dX9_wrote_7) rfl
theorem z195_8 : Run d 195 8 [a0, a1] [s2, s1, s0] M 0 0 Z ↔ Call d 120 [s0, s1, s2] M (fun r M1 => Run d 195 11 [a0, a1] (r.toList ++ []) M1 0 0 Z) := R_call (gd195 dX9_wrote_8) rfl rfl rfl rfl rfl rfl gc_9_157 rfl (by decide) (Nat.le_of_ble_eq_true rfl) (Nat.le_of_ble_eq_true rfl) rfl rfl rfl (Nat.le_of_ble_eq_true rfl) (Nat.le_of_ble_eq_true rfl)
theorem z195_11 : Run d 195 11 [a0, a1] [.int x] M 0 0 Z ↔ (x = 0 → Run d 195 23 [a0, a1] [] M 0 0 Z) ∧ (¬ (x = 0) → Run d 195 14 [a0, a1] [] M 0 0 Z) := R_if (gd195 dX9_wrote_11) (show gTgt 11 12 = some 23 by decide) gIf_eq
theorem z195_14 : Run d 195 14 [some (.ref o), a1] [] M 0 0 Z ↔ Run d 195 15 [some (.ref o), a1] [.ref o] M 0 0 Z := R_local (gd195 dX9_wrote_14) rfl rfl rfl
theorem z195_15 : Run d 195 15 [a0, a1] [.ref o] M 0 0 Z ↔ gObj M o 9 ∧ Run d 195 18 [a0, a1] [va_rf (M.2.1 o 69)] M 0 0 Z := R_getR (gd195 dX9_wrote_15) rfl gf_9_147 rfl
theorem z195_18 : Run d 195 18 [a0, some (.int x)] [s0] M 0 0 Z ↔ Run d 195 19 [a0, some (.int x)] [.int x, s0] M 0 0 Z := R_local (gd195 dX9_wrote_18) rfl rfl rfl
theorem z195_19 : Run d 195 19 [a0, a1] [.int x, .ref o] M 0 0 Z ↔ gAr M o 0 ∧ gIn x (gLen M o) = true ∧ Run d 195 20 [a0, a1] [.int (M.1 o x.toNatClampNeg)] M 0 0 Z := R_iald (gd195 dX9_wrote_19)
theorem z195_20 : Run d 195 20 [a0, a1] [s0] M 0 0 Z ↔ Run d 195 24 [a0, a1] [s0] M 0 0 Z := R_goto (gd195 dX9_wrote_20) (show gTgt 20 4 = some 24 by decide)
theorem z195_23 : Run d 195 23 [a0, a1] [] M 0 0 Z ↔ Run d 195 24 [a0, a1] [.int (-1)] M 0 0 Z := R_iconst (gd195 dX9_wrote_23) (by decide)
theorem z195_24 : Run d 195 24 [a0, a1] [.int x] M 0 0 Z ↔ Z (some (.int x)) M := R_iret (gd195 dX9_wrote_24) rfl
theorem e195 : Call (d + 1) 195 [s0, s1] M Z ↔ Run d 195 0 [some s0, some s1] [] M 0 0 Z := Call_iff (Nat.lt_of_lt_of_le (Nat.lt_succ_self 195) (Nat.le_of_ble_eq_true rfl)) (Nat.le_of_ble_eq_true rfl)
/-! 196: X9_count (I)I -/
theorem gd196 {pc : Nat} {r : Except _ _} (h : decode cX9_count pc = r) : decode (gby 196) pc = r := h
theorem z196_0 : Run d 196 0 [a0, some (.int x)] [] M 0 0 Z ↔ Run d 196 1 [a0, some (.int x)] [.int x] M 0 0 Z := R_local (gd196 dX9_count_0) rfl rfl rfl
theorem z196_1 : Run d 196 1 [a0, a1] [s0] M 0 0 Z ↔ Run d 196 3 [a0, a1] [.int 10, s0] M 0 0 Z := R_bipush (gd196 dX9_count_1) (by decide)
theorem z196_3 : Run d 196 3 [a0, a1] [s1, s0] M 0 0 Z ↔ Run d 196 5 [a0, a1] [.int 9, s1, s0] M 0 0 Z := R_bipush (gd196 dX9_count_3) (by decide)
theorem z196_5 : Run d 196 5 [a0, a1] [s2, s1, s0] M 0 0 Z ↔ Run d 196 7 [a0, a1] [.int 8, s2, s1, s0] M 0 0 Z := R_bipush (gd196 dX9_count_5) (by decide)
theorem z196_7 : Run d 196 7 [some (.ref o), a1] [s3, s2, s1, s0] M 0 0 Z ↔ Run d 196 8 [some (.ref o), a1] [.ref o, s3, s2, s1, s0] M 0 0 Z := R_local (gd196 dX9_count_7) rfl rfl rfl
theorem z196_8 : Run d 196 8 [a0, a1] [.ref o, s3, s2, s1, s0] M 0 0 Z ↔ gObj M o 9 ∧ Run d 196 11 [a0, a1] [.int (M.1 o 2), s3, s2, s1, s0] M 0 0 Z := R_getI (gd196 dX9_count_8) rfl gf_9_153 rfl
theorem z196_11 : Run d 196 11 [a0, a1] [.int y, .int x, s2, s1, s0] M 0 0 Z ↔ Run d 196 12 [a0, a1] [.int (x * y), s2, s1, s0] M 0 0 Z := R_arith (gd196 dX9_count_11) rfl
theorem z196_12 : Run d 196 12 [a0, a1] [.int y, .int x, s1, s0] M 0 0 Z ↔ Run d 196 13 [a0, a1] [.int (x + y), s1, s0] M 0 0 Z := R_arith (gd196 dX9_count_12) rfl
theorem z196_13 : Run d 196 13 [a0, a1] [s2, s1, s0] M 0 0 Z ↔ Call d 120 [s0, s1, s2] M (fun r M1 => Run d 196 16 [a0, a1] (r.toList ++ []) M1 0 0 Z) := R_call (gd196 dX9_count_13) rfl rfl rfl rfl rfl rfl gc_9_157 rfl (by decide) (Nat.le_of_ble_eq_true rfl) (Nat.le_of_ble_eq_true rfl) rfl rfl rfl (Nat.le_of_ble_eq_true rfl) (Nat.le_of_ble_eq_true rfl)
theorem z196_16 : Run d 196 16 [a0, a1] [.int x] M 0 0 Z ↔ (x = 0 → Run d 196 29 [a0, a1] [] M 0 0 Z) ∧ (¬ (x = 0) → Run d 196 19 [a0, a1] [] M 0 0 Z) := R_if (gd196 dX9_count_16) (show gTgt 16 13 = some 29 by decide) gIf_eq
theorem z196_19 : Run d 196 19 [some (.ref o), a1] [] M 0 0 Z ↔ Run d 196 20 [some (.ref o), a1] [.ref o] M 0 0 Z := R_local (gd196 dX9_count_19) rfl rfl rfl
theorem z196_20 : Run d 196 20 [a0, a1] [.ref o] M 0 0 Z ↔ gObj M o 9 ∧ Run d 196 23 [a0, a1] [va_rf (M.2.1 o 5)] M 0 0 Z := R_getR (gd196 dX9_count_20) rfl gf_9_13 rfl
theorem z196_23 : Run d 196 23 [a0, some (.int x)] [s0] M 0 0 Z ↔ Run d 196 24 [a0, some (.int x)] [.int x, s0] M 0 0 Z := R_local (gd196 dX9_count_23) rfl rfl rfl
theorem z196_24 : Run d 196 24 [a0, a1] [s1, s0] M 0 0 Z ↔ Run d 196 26 [a0, a1] [.int 10, s1, s0] M 0 0 Z := R_bipush (gd196 dX9_count_24) (by decide)
theorem z196_26 : Run d 196 26 [a0, a1] [.int y, .int x, s0] M 0 0 Z ↔ Run d 196 27 [a0, a1] [.int (x - y), s0] M 0 0 Z := R_arith (gd196 dX9_count_26) rfl
theorem z196_27 : Run d 196 27 [a0, a1] [.int x, .ref o] M 0 0 Z ↔ gAr M o 0 ∧ gIn x (gLen M o) = true ∧ Run d 196 28 [a0, a1] [.int (M.1 o x.toNatClampNeg)] M 0 0 Z := R_iald (gd196 dX9_count_27)
theorem z196_28 : Run d 196 28 [a0, a1] [.int x] M 0 0 Z ↔ Z (some (.int x)) M := R_iret (gd196 dX9_count_28) rfl
theorem z196_29 : Run d 196 29 [a0, some (.int x)] [] M 0 0 Z ↔ Run d 196 30 [a0, some (.int x)] [.int x] M 0 0 Z := R_local (gd196 dX9_count_29) rfl rfl rfl
theorem z196_30 : Run d 196 30 [a0, a1] [s0] M 0 0 Z ↔ Run d 196 32 [a0, a1] [.int 100, s0] M 0 0 Z := R_bipush (gd196 dX9_count_30) (by decide)
theorem z196_32 : Run d 196 32 [a0, a1] [s1, s0] M 0 0 Z ↔ Run d 196 34 [a0, a1] [.int 99, s1, s0] M 0 0 Z := R_bipush (gd196 dX9_count_32) (by decide)
theorem z196_34 : Run d 196 34 [a0, a1] [s2, s1, s0] M 0 0 Z ↔ Run d 196 36 [a0, a1] [.int 10, s2, s1, s0] M 0 0 Z := R_bipush (gd196 dX9_count_34) (by decide)
theorem z196_36 : Run d 196 36 [some (.ref o), a1] [s3, s2, s1, s0] M 0 0 Z ↔ Run d 196 37 [some (.ref o), a1] [.ref o, s3, s2, s1, s0] M 0 0 Z := R_local (gd196 dX9_count_36) rfl rfl rfl
theorem z196_37 : Run d 196 37 [a0, a1] [.ref o, s3, s2, s1, s0] M 0 0 Z ↔ gObj M o 9 ∧ Run d 196 40 [a0, a1] [.int (M.1 o 3), s3, s2, s1, s0] M 0 0 Z := R_getI (gd196 dX9_count_37) rfl gf_9_161 rfl
theorem z196_40 : Run d 196 40 [a0, a1] [.int y, .int x, s2, s1, s0] M 0 0 Z ↔ Run d 196 41 [a0, a1] [.int (x * y), s2, s1, s0] M 0 0 Z := R_arith (gd196 dX9_count_40) rfl
theorem z196_41 : Run d 196 41 [a0, a1] [.int y, .int x, s1, s0] M 0 0 Z ↔ Run d 196 42 [a0, a1] [.int (x + y), s1, s0] M 0 0 Z := R_arith (gd196 dX9_count_41) rfl
theorem z196_42 : Run d 196 42 [a0, a1] [s2, s1, s0] M 0 0 Z ↔ Call d 120 [s0, s1, s2] M (fun r M1 => Run d 196 45 [a0, a1] (r.toList ++ []) M1 0 0 Z) := R_call (gd196 dX9_count_42) rfl rfl rfl rfl rfl rfl gc_9_157 rfl (by decide) (Nat.le_of_ble_eq_true rfl) (Nat.le_of_ble_eq_true rfl) rfl rfl rfl (Nat.le_of_ble_eq_true rfl) (Nat.le_of_ble_eq_true rfl)
theorem z196_45 : Run d 196 45 [a0, a1] [.int x] M 0 0 Z ↔ (x = 0 → Run d 196 67 [a0, a1] [] M 0 0 Z) ∧ (¬ (x = 0) → Run d 196 48 [a0, a1] [] M 0 0 Z) := R_if (gd196 dX9_count_45) (show gTgt 45 22 = some 67 by decide) gIf_eq
theorem z196_48 : Run d 196 48 [some (.ref o), a1] [] M 0 0 Z ↔ Run d 196 49 [some (.ref o), a1] [.ref o] M 0 0 Z := R_local (gd196 dX9_count_48) rfl rfl rfl
theorem z196_49 : Run d 196 49 [a0, some (.int x)] [s0] M 0 0 Z ↔ Run d 196 50 [a0, some (.int x)] [.int x, s0] M 0 0 Z := R_local (gd196 dX9_count_49) rfl rfl rfl
theorem z196_50 : Run d 196 50 [a0, a1] [s1, s0] M 0 0 Z ↔ Run d 196 52 [a0, a1] [.int 100, s1, s0] M 0 0 Z := R_bipush (gd196 dX9_count_50) (by decide)
theorem z196_52 : Run d 196 52 [a0, a1] [.int y, .int x, s0] M 0 0 Z ↔ Run d 196 53 [a0, a1] [.int (x - y), s0] M 0 0 Z := R_arith (gd196 dX9_count_52) rfl
theorem z196_53 : Run d 196 53 [a0, a1] [s1, s0] M 0 0 Z ↔ Run d 196 55 [a0, a1] [.int 10, s1, s0] M 0 0 Z := R_bipush (gd196 dX9_count_53) (by decide)
theorem z196_55 (hy : ¬ y = 0) : Run d 196 55 [a0, a1] [.int y, .int x, s0] M 0 0 Z ↔ Run d 196 56 [a0, a1] [.int (x / y), s0] M 0 0 Z := R_div (gd196 dX9_count_55) hy
theorem z196_56 : Run d 196 56 [a0, some (.int x)] [s1, s0] M 0 0 Z ↔ Run d 196 57 [a0, some (.int x)] [.int x, s1, s0] M 0 0 Z := R_local (gd196 dX9_count_56) rfl rfl rfl
theorem z196_57 : Run d 196 57 [a0, a1] [s2, s1, s0] M 0 0 Z ↔ Run d 196 59 [a0, a1] [.int 100, s2, s1, s0] M 0 0 Z := R_bipush (gd196 dX9_count_57) (by decide)
theorem z196_59 : Run d 196 59 [a0, a1] [.int y, .int x, s1, s0] M 0 0 Z ↔ Run d 196 60 [a0, a1] [.int (x - y), s1, s0] M 0 0 Z := R_arith (gd196 dX9_count_59) rfl
theorem z196_60 : Run d 196 60 [a0, a1] [s2, s1, s0] M 0 0 Z ↔ Run d 196 62 [a0, a1] [.int 10, s2, s1, s0] M 0 0 Z := R_bipush (gd196 dX9_count_60) (by decide)
theorem z196_62 (hy : ¬ y = 0) : Run d 196 62 [a0, a1] [.int y, .int x, s1, s0] M 0 0 Z ↔ Run d 196 63 [a0, a1] [.int (x - x / y * y), s1, s0] M 0 0 Z := R_rem (gd196 dX9_count_62) hy
theorem z196_63 : Run d 196 63 [a0, a1] [s2, s1, .ref b] M 0 0 Z ↔ gObj M b 9 ∧ Call d 197 [.ref b, s1, s2] M (fun r M1 => Run d 196 66 [a0, a1] (r.toList ++ []) M1 0 0 Z) := R_callV (gd196 dX9_count_63) rfl rfl rfl rfl rfl rfl gc_9_404 rfl rfl (Nat.le_of_ble_eq_true rfl) (Nat.le_of_ble_eq_true rfl) rfl rfl (Nat.le_of_ble_eq_true rfl) (Nat.le_of_ble_eq_true rfl)
theorem z196_66 : Run d 196 66 [a0, a1] [.int x] M 0 0 Z ↔ Z (some (.int x)) M := R_iret (gd196 dX9_count_66) rfl
theorem z196_67 : Run d 196 67 [a0, some (.int x)] [] M 0 0 Z ↔ Run d 196 68 [a0, some (.int x)] [.int x] M 0 0 Z := R_local (gd196 dX9_count_67) rfl rfl rfl
theorem z196_68 : Run d 196 68 [a0, a1] [s0] M 0 0 Z ↔ Run d 196 71 [a0, a1] [.int 200, s0] M 0 0 Z := R_sipush (gd196 dX9_count_68) (by decide)
theorem z196_71 : Run d 196 71 [a0, a1] [s1, s0] M 0 0 Z ↔ Run d 196 74 [a0, a1] [.int 199, s1, s0] M 0 0 Z := R_sipush (gd196 dX9_count_71) (by decide)
theorem z196_74 : Run d 196 74 [some (.ref o), a1] [s2, s1, s0] M 0 0 Z ↔ Run d 196 75 [some (.ref o), a1] [.ref o, s2, s1, s0] M 0 0 Z := R_local (gd196 dX9_count_74) rfl rfl rfl
theorem z196_75 : Run d 196 75 [a0, a1] [.ref o, s2, s1, s0] M 0 0 Z ↔ gObj M o 9 ∧ Run d 196 78 [a0, a1] [.int (M.1 o 4), s2, s1, s0] M 0 0 Z := R_getI (gd196 dX9_count_75) rfl gf_9_164 rfl
theorem z196_78 : Run d 196 78 [a0, a1] [.int y, .int x, s1, s0] M 0 0 Z ↔ Run d 196 79 [a0, a1] [.int (x + y), s1, s0] M 0 0 Z := R_arith (gd196 dX9_count_78) rfl
theorem z196_79 : Run d 196 79 [a0, a1] [s2, s1, s0] M 0 0 Z ↔ Call d 120 [s0, s1, s2] M (fun r M1 => Run d 196 82 [a0, a1] (r.toList ++ []) M1 0 0 Z) := R_call (gd196 dX9_count_79) rfl rfl rfl rfl rfl rfl gc_9_157 rfl (by decide) (Nat.le_of_ble_eq_true rfl) (Nat.le_of_ble_eq_true rfl) rfl rfl rfl (Nat.le_of_ble_eq_true rfl) (Nat.le_of_ble_eq_true rfl)
theorem z196_82 : Run d 196 82 [a0, a1] [.int x] M 0 0 Z ↔ (x = 0 → Run d 196 96 [a0, a1] [] M 0 0 Z) ∧ (¬ (x = 0) → Run d 196 85 [a0, a1] [] M 0 0 Z) := R_if (gd196 dX9_count_82) (show gTgt 82 14 = some 96 by decide) gIf_eq
theorem z196_85 : Run d 196 85 [some (.ref o), a1] [] M 0 0 Z ↔ Run d 196 86 [some (.ref o), a1] [.ref o] M 0 0 Z := R_local (gd196 dX9_count_85) rfl rfl rfl
theorem z196_86 : Run d 196 86 [a0, a1] [.ref o] M 0 0 Z ↔ gObj M o 9 ∧ Run d 196 89 [a0, a1] [va_rf (M.2.1 o 12)] M 0 0 Z := R_getR (gd196 dX9_count_86) rfl gf_9_35 rfl
theorem z196_89 : Run d 196 89 [a0, some (.int x)] [s0] M 0 0 Z ↔ Run d 196 90 [a0, some (.int x)] [.int x, s0] M 0 0 Z := R_local (gd196 dX9_count_89) rfl rfl rfl
theorem z196_90 : Run d 196 90 [a0, a1] [s1, s0] M 0 0 Z ↔ Run d 196 93 [a0, a1] [.int 200, s1, s0] M 0 0 Z := R_sipush (gd196 dX9_count_90) (by decide)
theorem z196_93 : Run d 196 93 [a0, a1] [.int y, .int x, s0] M 0 0 Z ↔ Run d 196 94 [a0, a1] [.int (x - y), s0] M 0 0 Z := R_arith (gd196 dX9_count_93) rfl
theorem z196_94 : Run d 196 94 [a0, a1] [.int x, .ref o] M 0 0 Z ↔ gAr M o 0 ∧ gIn x (gLen M o) = true ∧ Run d 196 95 [a0, a1] [.int (M.1 o x.toNatClampNeg)] M 0 0 Z := R_iald (gd196 dX9_count_94)
theorem z196_95 : Run d 196 95 [a0, a1] [.int x] M 0 0 Z ↔ Z (some (.int x)) M := R_iret (gd196 dX9_count_95) rfl
theorem z196_96 : Run d 196 96 [a0, some (.int x)] [] M 0 0 Z ↔ Run d 196 97 [a0, some (.int x)] [.int x] M 0 0 Z := R_local (gd196 dX9_count_96) rfl rfl rfl
theorem z196_97 : Run d 196 97 [a0, a1] [.int x] M 0 0 Z ↔ (x = 0 → Run d 196 128 [a0, a1] [] M 0 0 Z) ∧ (¬ x = 0 → ((x = 1 → Run d 196 133 [a0, a1] [] M 0 0 Z) ∧ (¬ x = 1 → ((x = 2 → Run d 196 138 [a0, a1] [] M 0 0 Z) ∧ (¬ x = 2 → ((x = 3 → Run d 196 143 [a0, a1] [] M 0 0 Z) ∧ (¬ x = 3 → (Run d 196 148 [a0, a1] [] M 0 0 Z)))))))) := R_table (tbl := [(0, 128), (1, 133), (2, 138), (3, 143)]) (dt := 148) (gd196 dX9_count_97) (by decide) (by decide) (by decide)
theorem z196_128 : Run d 196 128 [some (.ref o), a1] [] M 0 0 Z ↔ Run d 196 129 [some (.ref o), a1] [.ref o] M 0 0 Z := R_local (gd196 dX9_count_128) rfl rfl rfl
theorem z196_129 : Run d 196 129 [a0, a1] [.ref o] M 0 0 Z ↔ gObj M o 9 ∧ Run d 196 132 [a0, a1] [.int (M.1 o 2)] M 0 0 Z := R_getI (gd196 dX9_count_129) rfl gf_9_153 rfl
theorem z196_132 : Run d 196 132 [a0, a1] [.int x] M 0 0 Z ↔ Z (some (.int x)) M := R_iret (gd196 dX9_count_132) rfl
theorem z196_133 : Run d 196 133 [some (.ref o), a1] [] M 0 0 Z ↔ Run d 196 134 [some (.ref o), a1] [.ref o] M 0 0 Z := R_local (gd196 dX9_count_133) rfl rfl rfl
theorem z196_134 : Run d 196 134 [a0, a1] [.ref o] M 0 0 Z ↔ gObj M o 9 ∧ Run d 196 137 [a0, a1] [.int (M.1 o 3)] M 0 0 Z := R_getI (gd196 dX9_count_134) rfl gf_9_161 rfl
theorem z196_137 : Run d 196 137 [a0, a1] [.int x] M 0 0 Z ↔ Z (some (.int x)) M := R_iret (gd196 dX9_count_137) rfl
theorem z196_138 : Run d 196 138 [some (.ref o), a1] [] M 0 0 Z ↔ Run d 196 139 [some (.ref o), a1] [.ref o] M 0 0 Z := R_local (gd196 dX9_count_138) rfl rfl rfl
theorem z196_139 : Run d 196 139 [a0, a1] [.ref o] M 0 0 Z ↔ gObj M o 9 ∧ Run d 196 142 [a0, a1] [.int (M.1 o 4)] M 0 0 Z := R_getI (gd196 dX9_count_139) rfl gf_9_164 rfl
theorem z196_142 : Run d 196 142 [a0, a1] [.int x] M 0 0 Z ↔ Z (some (.int x)) M := R_iret (gd196 dX9_count_142) rfl
theorem z196_143 : Run d 196 143 [some (.ref o), a1] [] M 0 0 Z ↔ Run d 196 144 [some (.ref o), a1] [.ref o] M 0 0 Z := R_local (gd196 dX9_count_143) rfl rfl rfl
theorem z196_144 : Run d 196 144 [a0, a1] [.ref o] M 0 0 Z ↔ gObj M o 9 ∧ Run d 196 147 [a0, a1] [.int (M.1 o 1)] M 0 0 Z := R_getI (gd196 dX9_count_144) rfl gf_9_171 rfl
theorem z196_147 : Run d 196 147 [a0, a1] [.int x] M 0 0 Z ↔ Z (some (.int x)) M := R_iret (gd196 dX9_count_147) rfl
theorem z196_148 : Run d 196 148 [a0, a1] [] M 0 0 Z ↔ Run d 196 149 [a0, a1] [.int (-1)] M 0 0 Z := R_iconst (gd196 dX9_count_148) (by decide)
theorem z196_149 : Run d 196 149 [a0, a1] [.int x] M 0 0 Z ↔ Z (some (.int x)) M := R_iret (gd196 dX9_count_149) rfl
theorem e196 : Call (d + 1) 196 [s0, s1] M Z ↔ Run d 196 0 [some s0, some s1] [] M 0 0 Z := Call_iff (Nat.lt_of_lt_of_le (Nat.lt_succ_self 196) (Nat.le_of_ble_eq_true rfl)) (Nat.le_of_ble_eq_true rfl)
/-! 197: X9_ofCloth (II)I -/
theorem gd197 {pc : Nat} {r : Except _ _} (h : decode cX9_ofCloth pc = r) : decode (gby 197) pc = r := h
theorem z197_0 : Run d 197 0 [a0, a1, some (.int x)] [] M 0 0 Z ↔ Run d 197 1 [a0, a1, some (.int x)] [.int x] M 0 0 Z := R_local (gd197 dX9_ofCloth_0) rfl rfl rfl
theorem z197_1 : Run d 197 1 [a0, a1, a2] [.int x] M 0 0 Z ↔ (x = 0 → Run d 197 52 [a0, a1, a2] [] M 0 0 Z) ∧ (¬ x = 0 → ((x = 1 → Run d 197 59 [a0, a1, a2] [] M 0 0 Z) ∧ (¬ x = 1 → ((x = 2 → Run d 197 66 [a0, a1, a2] [] M 0 0 Z) ∧ (¬ x = 2 → ((x = 3 → Run d 197 66 [a0, a1, a2] [] M 0 0 Z) ∧ (¬ x = 3 → ((x = 4 → Run d 197 66 [a0, a1, a2] [] M 0 0 Z) ∧ (¬ x = 4 → ((x = 5 → Run d 197 66 [a0, a1, a2] [] M 0 0 Z) ∧ (¬ x = 5 → ((x = 6 → Run d 197 80 [a0, a1, a2] [] M 0 0 Z) ∧ (¬ x = 6 → ((x = 7 → Run d 197 87 [a0, a1, a2] [] M 0 0 Z) ∧ (¬ x = 7 → ((x = 8 → Run d 197 99 [a0, a1, a2] [] M 0 0 Z) ∧ (¬ x = 8 → (Run d 197 111 [a0, a1, a2] [] M 0 0 Z)))))))))))))))))) := R_table (tbl := [(0, 52), (1, 59), (2, 66), (3, 66), (4, 66), (5, 66), (6, 80), (7, 87), (8, 99)]) (dt := 111) (gd197 dX9_ofCloth_1) (by decide) (by decide) (by decide)
theorem z197_52 : Run d 197 52 [some (.ref o), a1, a2] [] M 0 0 Z ↔ Run d 197 53 [some (.ref o), a1, a2] [.ref o] M 0 0 Z := R_local (gd197 dX9_ofCloth_52) rfl rfl rfl
theorem z197_53 : Run d 197 53 [a0, a1, a2] [.ref o] M 0 0 Z ↔ gObj M o 9 ∧ Run d 197 56 [a0, a1, a2] [va_rf (M.2.1 o 6)] M 0 0 Z := R_getR (gd197 dX9_ofCloth_53) rfl gf_9_17 rfl
theorem z197_56 : Run d 197 56 [a0, some (.int x), a2] [s0] M 0 0 Z ↔ Run d 197 57 [a0, some (.int x), a2] [.int x, s0] M 0 0 Z := R_local (gd197 dX9_ofCloth_56) rfl rfl rfl
theorem z197_57 : Run d 197 57 [a0, a1, a2] [.int x, .ref o] M 0 0 Z ↔ gAr M o 0 ∧ gIn x (gLen M o) = true ∧ Run d 197 58 [a0, a1, a2] [.int (M.1 o x.toNatClampNeg)] M 0 0 Z := R_iald (gd197 dX9_ofCloth_57)
theorem z197_58 : Run d 197 58 [a0, a1, a2] [.int x] M 0 0 Z ↔ Z (some (.int x)) M := R_iret (gd197 dX9_ofCloth_58) rfl
theorem z197_59 : Run d 197 59 [some (.ref o), a1, a2] [] M 0 0 Z ↔ Run d 197 60 [some (.ref o), a1, a2] [.ref o] M 0 0 Z := R_local (gd197 dX9_ofCloth_59) rfl rfl rfl
theorem z197_60 : Run d 197 60 [a0, a1, a2] [.ref o] M 0 0 Z ↔ gObj M o 9 ∧ Run d 197 63 [a0, a1, a2] [va_rf (M.2.1 o 7)] M 0 0 Z := R_getR (gd197 dX9_ofCloth_60) rfl gf_9_20 rfl
theorem z197_63 : Run d 197 63 [a0, some (.int x), a2] [s0] M 0 0 Z ↔ Run d 197 64 [a0, some (.int x), a2] [.int x, s0] M 0 0 Z := R_local (gd197 dX9_ofCloth_63) rfl rfl rfl
theorem z197_64 : Run d 197 64 [a0, a1, a2] [.int x, .ref o] M 0 0 Z ↔ gAr M o 0 ∧ gIn x (gLen M o) = true ∧ Run d 197 65 [a0, a1, a2] [.int (M.1 o x.toNatClampNeg)] M 0 0 Z := R_iald (gd197 dX9_ofCloth_64)
theorem z197_65 : Run d 197 65 [a0, a1, a2] [.int x] M 0 0 Z ↔ Z (some (.int x)) M := R_iret (gd197 dX9_ofCloth_65) rfl
theorem z197_66 : Run d 197 66 [some (.ref o), a1, a2] [] M 0 0 Z ↔ Run d 197 67 [some (.ref o), a1, a2] [.ref o] M 0 0 Z := R_local (gd197 dX9_ofCloth_66) rfl rfl rfl
theorem z197_67 : Run d 197 67 [a0, a1, a2] [.ref o] M 0 0 Z ↔ gObj M o 9 ∧ Run d 197 70 [a0, a1, a2] [va_rf (M.2.1 o 9)] M 0 0 Z := R_getR (gd197 dX9_ofCloth_67) rfl gf_9_26 rfl
theorem z197_70 : Run d 197 70 [a0, a1, a2] [s0] M 0 0 Z ↔ Run d 197 72 [a0, a1, a2] [.int 6, s0] M 0 0 Z := R_bipush (gd197 dX9_ofCloth_70) (by decide)
theorem z197_72 : Run d 197 72 [a0, some (.int x), a2] [s1, s0] M 0 0 Z ↔ Run d 197 73 [a0, some (.int x), a2] [.int x, s1, s0] M 0 0 Z := R_local (gd197 dX9_ofCloth_72) rfl rfl rfl
theorem z197_73 : Run d 197 73 [a0, a1, a2] [.int y, .int x, s0] M 0 0 Z ↔ Run d 197 74 [a0, a1, a2] [.int (x * y), s0] M 0 0 Z := R_arith (gd197 dX9_ofCloth_73) rfl
theorem z197_74 : Run d 197 74 [a0, a1, some (.int x)] [s1, s0] M 0 0 Z ↔ Run d 197 75 [a0, a1, some (.int x)] [.int x, s1, s0] M 0 0 Z := R_local (gd197 dX9_ofCloth_74) rfl rfl rfl
theorem z197_75 : Run d 197 75 [a0, a1, a2] [.int y, .int x, s0] M 0 0 Z ↔ Run d 197 76 [a0, a1, a2] [.int (x + y), s0] M 0 0 Z := R_arith (gd197 dX9_ofCloth_75) rfl
theorem z197_76 : Run d 197 76 [a0, a1, a2] [s1, s0] M 0 0 Z ↔ Run d 197 77 [a0, a1, a2] [.int 2, s1, s0] M 0 0 Z := R_iconst (gd197 dX9_ofCloth_76) (by decide)
theorem z197_77 : Run d 197 77 [a0, a1, a2] [.int y, .int x, s0] M 0 0 Z ↔ Run d 197 78 [a0, a1, a2] [.int (x - y), s0] M 0 0 Z := R_arith (gd197 dX9_ofCloth_77) rfl
theorem z197_78 : Run d 197 78 [a0, a1, a2] [.int x, .ref o] M 0 0 Z ↔ gAr M o 0 ∧ gIn x (gLen M o) = true ∧ Run d 197 79 [a0, a1, a2] [.int (M.1 o x.toNatClampNeg)] M 0 0 Z := R_iald (gd197 dX9_ofCloth_78)
theorem z197_79 : Run d 197 79 [a0, a1, a2] [.int x] M 0 0 Z ↔ Z (some (.int x)) M := R_iret (gd197 dX9_ofCloth_79) rfl
theorem z197_80 : Run d 197 80 [some (.ref o), a1, a2] [] M 0 0 Z ↔ Run d 197 81 [some (.ref o), a1, a2] [.ref o] M 0 0 Z := R_local (gd197 dX9_ofCloth_80) rfl rfl rfl
theorem z197_81 : Run d 197 81 [a0, a1, a2] [.ref o] M 0 0 Z ↔ gObj M o 9 ∧ Run d 197 84 [a0, a1, a2] [va_rf (M.2.1 o 8)] M 0 0 Z := R_getR (gd197 dX9_ofCloth_81) rfl gf_9_23 rfl
theorem z197_84 : Run d 197 84 [a0, some (.int x), a2] [s0] M 0 0 Z ↔ Run d 197 85 [a0, some (.int x), a2] [.int x, s0] M 0 0 Z := R_local (gd197 dX9_ofCloth_84) rfl rfl rfl
theorem z197_85 : Run d 197 85 [a0, a1, a2] [.int x, .ref o] M 0 0 Z ↔ gAr M o 0 ∧ gIn x (gLen M o) = true ∧ Run d 197 86 [a0, a1, a2] [.int (M.1 o x.toNatClampNeg)] M 0 0 Z := R_iald (gd197 dX9_ofCloth_85)
theorem z197_86 : Run d 197 86 [a0, a1, a2] [.int x] M 0 0 Z ↔ Z (some (.int x)) M := R_iret (gd197 dX9_ofCloth_86) rfl
theorem z197_87 : Run d 197 87 [some (.ref o), a1, a2] [] M 0 0 Z ↔ Run d 197 88 [some (.ref o), a1, a2] [.ref o] M 0 0 Z := R_local (gd197 dX9_ofCloth_87) rfl rfl rfl
theorem z197_88 : Run d 197 88 [a0, a1, a2] [.ref o] M 0 0 Z ↔ gObj M o 9 ∧ Run d 197 91 [a0, a1, a2] [va_rf (M.2.1 o 9)] M 0 0 Z := R_getR (gd197 dX9_ofCloth_88) rfl gf_9_26 rfl
theorem z197_91 : Run d 197 91 [a0, a1, a2] [s0] M 0 0 Z ↔ Run d 197 93 [a0, a1, a2] [.int 6, s0] M 0 0 Z := R_bipush (gd197 dX9_ofCloth_91) (by decide)
theorem z197_93 : Run d 197 93 [a0, some (.int x), a2] [s1, s0] M 0 0 Z ↔ Run d 197 94 [a0, some (.int x), a2] [.int x, s1, s0] M 0 0 Z := R_local (gd197 dX9_ofCloth_93) rfl rfl rfl
theorem z197_94 : Run d 197 94 [a0, a1, a2] [.int y, .int x, s0] M 0 0 Z ↔ Run d 197 95 [a0, a1, a2] [.int (x * y), s0] M 0 0 Z := R_arith (gd197 dX9_ofCloth_94) rfl
theorem z197_95 : Run d 197 95 [a0, a1, a2] [s1, s0] M 0 0 Z ↔ Run d 197 96 [a0, a1, a2] [.int 4, s1, s0] M 0 0 Z := R_iconst (gd197 dX9_ofCloth_95) (by decide)
theorem z197_96 : Run d 197 96 [a0, a1, a2] [.int y, .int x, s0] M 0 0 Z ↔ Run d 197 97 [a0, a1, a2] [.int (x + y), s0] M 0 0 Z := R_arith (gd197 dX9_ofCloth_96) rfl
theorem z197_97 : Run d 197 97 [a0, a1, a2] [.int x, .ref o] M 0 0 Z ↔ gAr M o 0 ∧ gIn x (gLen M o) = true ∧ Run d 197 98 [a0, a1, a2] [.int (M.1 o x.toNatClampNeg)] M 0 0 Z := R_iald (gd197 dX9_ofCloth_97)
theorem z197_98 : Run d 197 98 [a0, a1, a2] [.int x] M 0 0 Z ↔ Z (some (.int x)) M := R_iret (gd197 dX9_ofCloth_98) rfl
theorem z197_99 : Run d 197 99 [some (.ref o), a1, a2] [] M 0 0 Z ↔ Run d 197 100 [some (.ref o), a1, a2] [.ref o] M 0 0 Z := R_local (gd197 dX9_ofCloth_99) rfl rfl rfl
theorem z197_100 : Run d 197 100 [a0, a1, a2] [.ref o] M 0 0 Z ↔ gObj M o 9 ∧ Run d 197 103 [a0, a1, a2] [va_rf (M.2.1 o 9)] M 0 0 Z := R_getR (gd197 dX9_ofCloth_100) rfl gf_9_26 rfl
theorem z197_103 : Run d 197 103 [a0, a1, a2] [s0] M 0 0 Z ↔ Run d 197 105 [a0, a1, a2] [.int 6, s0] M 0 0 Z := R_bipush (gd197 dX9_ofCloth_103) (by decide)
theorem z197_105 : Run d 197 105 [a0, some (.int x), a2] [s1, s0] M 0 0 Z ↔ Run d 197 106 [a0, some (.int x), a2] [.int x, s1, s0] M 0 0 Z := R_local (gd197 dX9_ofCloth_105) rfl rfl rfl
theorem z197_106 : Run d 197 106 [a0, a1, a2] [.int y, .int x, s0] M 0 0 Z ↔ Run d 197 107 [a0, a1, a2] [.int (x * y), s0] M 0 0 Z := R_arith (gd197 dX9_ofCloth_106) rfl
theorem z197_107 : Run d 197 107 [a0, a1, a2] [s1, s0] M 0 0 Z ↔ Run d 197 108 [a0, a1, a2] [.int 5, s1, s0] M 0 0 Z := R_iconst (gd197 dX9_ofCloth_107) (by decide)
theorem z197_108 : Run d 197 108 [a0, a1, a2] [.int y, .int x, s0] M 0 0 Z ↔ Run d 197 109 [a0, a1, a2] [.int (x + y), s0] M 0 0 Z := R_arith (gd197 dX9_ofCloth_108) rfl
theorem z197_109 : Run d 197 109 [a0, a1, a2] [.int x, .ref o] M 0 0 Z ↔ gAr M o 0 ∧ gIn x (gLen M o) = true ∧ Run d 197 110 [a0, a1, a2] [.int (M.1 o x.toNatClampNeg)] M 0 0 Z := R_iald (gd197 dX9_ofCloth_109)
theorem z197_110 : Run d 197 110 [a0, a1, a2] [.int x] M 0 0 Z ↔ Z (some (.int x)) M := R_iret (gd197 dX9_ofCloth_110) rfl
theorem z197_111 : Run d 197 111 [a0, a1, a2] [] M 0 0 Z ↔ Run d 197 112 [a0, a1, a2] [.int (-1)] M 0 0 Z := R_iconst (gd197 dX9_ofCloth_111) (by decide)
theorem z197_112 : Run d 197 112 [a0, a1, a2] [.int x] M 0 0 Z ↔ Z (some (.int x)) M := R_iret (gd197 dX9_ofCloth_112) rfl
theorem e197 : Call (d + 1) 197 [s0, s1, s2] M Z ↔ Run d 197 0 [some s0, some s1, some s2] [] M 0 0 Z := Call_iff (Nat.lt_of_lt_of_le (Nat.lt_succ_self 197) (Nat.le_of_ble_eq_true rfl)) (Nat.le_of_ble_eq_true rfl)
/-! 198: J7_fill_53178 ([II)V -/
theorem gd198 {pc : Nat} {r : Except _ _} (h : decode cJ7_fill_53178 pc = r) : decode (gby 198) pc = r := h
theorem z198_0 : Run d 198 0 [a0, a1, a2, a3] [] M 0 0 Z ↔ Run d 198 1 [a0, a1, a2, a3] [.int 0] M 0 0 Z := R_iconst (gd198 dJ7_fill_53178_0) (by decide)
theorem z198_1 : Run d 198 1 [a0, a1, a2, a3] [.int x] M 0 0 Z ↔ Run d 198 2 [a0, a1, some (.int x), a3] [] M 0 0 Z := R_local (gd198 dJ7_fill_53178_1) rfl rfl rfl
theorem z198_2 : Run d 198 2 [some (.ref o), a1, a2, a3] [] M 0 0 Z ↔ Run d 198 3 [some (.ref o), a1, a2, a3] [.ref o] M 0 0 Z := R_local (gd198 dJ7_fill_53178_2) rfl rfl rfl
theorem z198_2n : Run d 198 2 [some .null, a1, a2, a3] [] M 0 0 Z ↔ Run d 198 3 [some .null, a1, a2, a3] [.null] M 0 0 Z := R_local (gd198 dJ7_fill_53178_2) rfl rfl rfl
theorem z198_3 : Run d 198 3 [a0, a1, a2, a3] [.ref o] M 0 0 Z ↔ (gTy M o).isSome = true ∧ Run d 198 4 [a0, a1, a2, a3] [.int (nI (gLen M o))] M 0 0 Z := R_alen (gd198 dJ7_fill_53178_3)
theorem z198_4 : Run d 198 4 [a0, a1, a2, a3] [.int x] M 0 0 Z ↔ Run d 198 5 [a0, a1, a2, some (.int x)] [] M 0 0 Z := R_local (gd198 dJ7_fill_53178_4) rfl rfl rfl
theorem z198_5 : Run d 198 5 [a0, a1, some (.int x), a3] [] M 0 0 Z ↔ Run d 198 6 [a0, a1, some (.int x), a3] [.int x] M 0 0 Z := R_local (gd198 dJ7_fill_53178_5) rfl rfl rfl
theorem z198_6 : Run d 198 6 [a0, a1, a2, some (.int x)] [s0] M 0 0 Z ↔ Run d 198 7 [a0, a1, a2, some (.int x)] [.int x, s0] M 0 0 Z := R_local (gd198 dJ7_fill_53178_6) rfl rfl rfl
theorem z198_7 : Run d 198 7 [a0, a1, a2, a3] [.int y, .int x] M 0 0 Z ↔ (y ≤ x → Run d 198 20 [a0, a1, a2, a3] [] M 0 0 Z) ∧ (¬ (y ≤ x) → Run d 198 10 [a0, a1, a2, a3] [] M 0 0 Z) := R_icmp (gd198 dJ7_fill_53178_7) (show gTgt 7 13 = some 20 by decide) gIf_ge
theorem z198_10 : Run d 198 10 [some (.ref o), a1, a2, a3] [] M 0 0 Z ↔ Run d 198 11 [some (.ref o), a1, a2, a3] [.ref o] M 0 0 Z := R_local (gd198 dJ7_fill_53178_10) rfl rfl rfl
theorem z198_10n : Run d 198 10 [some .null, a1, a2, a3] [] M 0 0 Z ↔ Run d 198 11 [some .null, a1, a2, a3] [.null] M 0 0 Z := R_local (gd198 dJ7_fill_53178_10) rfl rfl rfl
theorem z198_11 : Run d 198 11 [a0, a1, some (.int x), a3] [s0] M 0 0 Z ↔ Run d 198 12 [a0, a1, some (.int x), a3] [.int x, s0] M 0 0 Z := R_local (gd198 dJ7_fill_53178_11) rfl rfl rfl
theorem z198_12 : Run d 198 12 [a0, some (.int x), a2, a3] [s1, s0] M 0 0 Z ↔ Run d 198 13 [a0, some (.int x), a2, a3] [.int x, s1, s0] M 0 0 Z := R_local (gd198 dJ7_fill_53178_12) rfl rfl rfl
theorem z198_13 : Run d 198 13 [a0, a1, a2, a3] [.int y, .int x, .ref o] M 0 0 Z ↔ gAr M o 0 ∧ gIn x (gLen M o) = true ∧ Run d 198 14 [a0, a1, a2, a3] [] (gsI M o x.toNatClampNeg y) 0 0 Z := R_iast (gd198 dJ7_fill_53178_13)
theorem z198_14 : Run d 198 14 [a0, a1, some (.int x), a3] [] M 0 0 Z ↔ Run d 198 17 [a0, a1, some (.int (x + 1)), a3] [] M 0 0 Z := R_iinc (gd198 dJ7_fill_53178_14) (by decide) rfl rfl
theorem z198_17 : Run d 198 17 [a0, a1, a2, a3] [] M 0 0 Z ↔ Run d 198 5 [a0, a1, a2, a3] [] M 0 0 Z := R_goto (gd198 dJ7_fill_53178_17) (show gTgt 17 (-12) = some 5 by decide)
theorem z198_20 : Run d 198 20 [a0, a1, a2, a3] [] M 0 0 Z ↔ Z none M := R_vret (gd198 dJ7_fill_53178_20) rfl
theorem e198 : Call (d + 1) 198 [s0, s1] M Z ↔ Run d 198 0 [some s0, some s1, none, none] [] M 0 0 Z := Call_iff (Nat.lt_of_lt_of_le (Nat.lt_succ_self 198) (Nat.le_of_ble_eq_true rfl)) (Nat.le_of_ble_eq_true rfl)
/-! 199: J7_copyOf_59c91 ([II)[I -/
theorem gd199 {pc : Nat} {r : Except _ _} (h : decode cJ7_copyOf_59c91 pc = r) : decode (gby 199) pc = r := h
theorem z199_0 : Run d 199 0 [a0, some (.int x), a2] [] M u1 u2 Z ↔ Run d 199 1 [a0, some (.int x), a2] [.int x] M u1 u2 Z := R_local (gd199 dJ7_copyOf_59c91_0) rfl rfl rfl
theorem z199_1 : Run d 199 1 [some (.ref o), a1, a2] [s0] M u1 u2 Z ↔ Run d 199 2 [some (.ref o), a1, a2] [.ref o, s0] M u1 u2 Z := R_local (gd199 dJ7_copyOf_59c91_1) rfl rfl rfl
theorem z199_1n : Run d 199 1 [some .null, a1, a2] [s0] M u1 u2 Z ↔ Run d 199 2 [some .null, a1, a2] [.null, s0] M u1 u2 Z := R_local (gd199 dJ7_copyOf_59c91_1) rfl rfl rfl
theorem z199_2 : Run d 199 2 [a0, a1, a2] [.ref o, s0] M u1 u2 Z ↔ (gTy M o).isSome = true ∧ Run d 199 3 [a0, a1, a2] [.int (nI (gLen M o)), s0] M u1 u2 Z := R_alen (gd199 dJ7_copyOf_59c91_2)
theorem z199_3 : Run d 199 3 [a0, a1, a2] [.int y, .int x] M u1 u2 Z ↔ (¬ x = y → Run d 199 14 [a0, a1, a2] [] M u1 u2 Z) ∧ (¬ (¬ x = y) → Run d 199 6 [a0, a1, a2] [] M u1 u2 Z) := R_icmp (gd199 dJ7_copyOf_59c91_3) (show gTgt 3 11 = some 14 by decide) gIf_ne
theorem z199_14 : Run d 199 14 [a0, some (.int x), a2] [] M u1 u2 Z ↔ Run d 199 15 [a0, some (.int x), a2] [.int x] M u1 u2 Z := R_local (gd199 dJ7_copyOf_59c91_14) rfl rfl rfl
theorem z199_15 : Run d 199 15 [a0, a1, a2] [.int x] M u1 u2 Z ↔ (¬ x < 0 ∧ x.toNatClampNeg ≤ 100000 ∧ u1 + 1 ≤ gmc 199 ∧ u2 + x.toNatClampNeg ≤ gms 199) ∧ Run d 199 17 [a0, a1, a2] [.ref M.2.2.length] (gNew M (.inr (0, x.toNatClampNeg))) (u1 + 1) (u2 + x.toNatClampNeg) Z := R_newa (gd199 dJ7_copyOf_59c91_15) (by decide)
theorem z199_17 : Run d 199 17 [a0, a1, a2] [.ref o] M u1 u2 Z ↔ Run d 199 18 [a0, a1, some (.ref o)] [] M u1 u2 Z := R_local (gd199 dJ7_copyOf_59c91_17) rfl rfl rfl
theorem z199_17n : Run d 199 17 [a0, a1, a2] [.null] M u1 u2 Z ↔ Run d 199 18 [a0, a1, some .null] [] M u1 u2 Z := R_local (gd199 dJ7_copyOf_59c91_17) rfl rfl rfl
theorem z199_18 : Run d 199 18 [some (.ref o), a1, a2] [] M u1 u2 Z ↔ Run d 199 19 [some (.ref o), a1, a2] [.ref o] M u1 u2 Z := R_local (gd199 dJ7_copyOf_59c91_18) rfl rfl rfl
theorem z199_18n : Run d 199 18 [some .null, a1, a2] [] M u1 u2 Z ↔ Run d 199 19 [some .null, a1, a2] [.null] M u1 u2 Z := R_local (gd199 dJ7_copyOf_59c91_18) rfl rfl rfl
theorem z199_19 : Run d 199 19 [a0, a1, a2] [s0] M u1 u2 Z ↔ Run d 199 20 [a0, a1, a2] [.int 0, s0] M u1 u2 Z := R_iconst (gd199 dJ7_copyOf_59c91_19) (by decide)
theorem z199_20 : Run d 199 20 [a0, a1, some (.ref o)] [s1, s0] M u1 u2 Z ↔ Run d 199 21 [a0, a1, some (.ref o)] [.ref o, s1, s0] M u1 u2 Z := R_local (gd199 dJ7_copyOf_59c91_20) rfl rfl rfl
theorem z199_20n : Run d 199 20 [a0, a1, some .null] [s1, s0] M u1 u2 Z ↔ Run d 199 21 [a0, a1, some .null] [.null, s1, s0] M u1 u2 Z := R_local (gd199 dJ7_copyOf_59c91_20) rfl rfl rfl
theorem z199_21 : Run d 199 21 [a0, a1, a2] [s2, s1, s0] M u1 u2 Z ↔ Run d 199 22 [a0, a1, a2] [.int 0, s2, s1, s0] M u1 u2 Z := R_iconst (gd199 dJ7_copyOf_59c91_21) (by decide)
theorem z199_22 : Run d 199 22 [some (.ref o), a1, a2] [s3, s2, s1, s0] M u1 u2 Z ↔ Run d 199 23 [some (.ref o), a1, a2] [.ref o, s3, s2, s1, s0] M u1 u2 Z := R_local (gd199 dJ7_copyOf_59c91_22) rfl rfl rfl
theorem z199_22n : Run d 199 22 [some .null, a1, a2] [s3, s2, s1, s0] M u1 u2 Z ↔ Run d 199 23 [some .null, a1, a2] [.null, s3, s2, s1, s0] M u1 u2 Z := R_local (gd199 dJ7_copyOf_59c91_22) rfl rfl rfl
theorem z199_23 : Run d 199 23 [a0, a1, a2] [.ref o, s3, s2, s1, s0] M u1 u2 Z ↔ (gTy M o).isSome = true ∧ Run d 199 24 [a0, a1, a2] [.int (nI (gLen M o)), s3, s2, s1, s0] M u1 u2 Z := R_alen (gd199 dJ7_copyOf_59c91_23)
theorem z199_24 : Run d 199 24 [a0, some (.int x), a2] [s4, s3, s2, s1, s0] M u1 u2 Z ↔ Run d 199 25 [a0, some (.int x), a2] [.int x, s4, s3, s2, s1, s0] M u1 u2 Z := R_local (gd199 dJ7_copyOf_59c91_24) rfl rfl rfl
theorem z199_25 : Run d 199 25 [a0, a1, a2] [.int y, .int x, s3, s2, s1, s0] M u1 u2 Z ↔ Run d 199 28 [a0, a1, a2] [.int (if y < x then y else x), s3, s2, s1, s0] M u1 u2 Z := R_prim (gd199 dJ7_copyOf_59c91_25) rfl rfl rfl rfl rfl rfl gc_10_304 rfl (by decide) rfl (Nat.le_of_ble_eq_true rfl)
theorem z199_28 (hc : gTy M o = some 0 ∧ gTy M b = some 0 ∧ o ≠ b ∧ ¬ x < 0 ∧ ¬ y < 0 ∧ ¬ w < 0 ∧ x.toNatClampNeg + w.toNatClampNeg ≤ gLen M o ∧ y.toNatClampNeg + w.toNatClampNeg ≤ gLen M b) : Run d 199 28 [a0, a1, a2] [.int w, .int y, .ref b, .int x, .ref o] M u1 u2 Z ↔ Run d 199 31 [a0, a1, a2] [] (gCp M o x.toNatClampNeg b y.toNatClampNeg w.toNatClampNeg) u1 u2 Z := R_prim (gd199 dJ7_copyOf_59c91_28) rfl rfl rfl rfl rfl rfl gc_10_150 rfl (by decide) (by simp only [gPrim]; exact if_pos hc) (Nat.le_of_ble_eq_true rfl)
theorem z199_31 : Run d 199 31 [a0, a1, some (.ref o)] [] M u1 u2 Z ↔ Run d 199 32 [a0, a1, some (.ref o)] [.ref o] M u1 u2 Z := R_local (gd199 dJ7_copyOf_59c91_31) rfl rfl rfl
theorem z199_31n : Run d 199 31 [a0, a1, some .null] [] M u1 u2 Z ↔ Run d 199 32 [a0, a1, some .null] [.null] M u1 u2 Z := R_local (gd199 dJ7_copyOf_59c91_31) rfl rfl rfl
theorem z199_32 : Run d 199 32 [a0, a1, a2] [v] M u1 u2 Z ↔ gisRef v = true ∧ Z (some v) M := R_aret (gd199 dJ7_copyOf_59c91_32) rfl
theorem e199 : Call (d + 1) 199 [s0, s1] M Z ↔ Run d 199 0 [some s0, some s1, none] [] M 0 0 Z := Call_iff (Nat.lt_of_lt_of_le (Nat.lt_succ_self 199) (Nat.le_of_ble_eq_true rfl)) (Nat.le_of_ble_eq_true rfl)
end
