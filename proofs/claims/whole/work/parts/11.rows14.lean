/-! Rules of the methods, an instruction each, by program (wip/whole/rows.py). -/
theorem dX9_pull_0 : decode cX9_pull 0 = .ok (.aload_n 0, 1) := by decide +kernel
theorem dX9_pull_1 : decode cX9_pull 1 = .ok (.getfield 339, 3) := by decide +kernel
theorem dX9_pull_4 : decode cX9_pull 4 = .ok (.ifCond .eq 38, 3) := by decide +kernel
theorem dX9_pull_7 : decode cX9_pull 7 = .ok (.iload_n 1, 1) := by decide +kernel
theorem dX9_pull_8 : decode cX9_pull 8 = .ok (.iconst 0, 1) := by decide +kernel
theorem dX9_pull_9 : decode cX9_pull 9 = .ok (.iconst 5, 1) := by decide +kernel
theorem dX9_pull_10 : decode cX9_pull 10 = .ok (.invokestatic 157, 3) := by decide +kernel
theorem dX9_pull_13 : decode cX9_pull 13 = .ok (.ifCond .eq 29, 3) := by decide +kernel
theorem dX9_pull_16 : decode cX9_pull 16 = .ok (.iload_n 2, 1) := by decide +kernel
theorem dX9_pull_17 : decode cX9_pull 17 = .ok (.iconst 0, 1) := by decide +kernel
theorem dX9_pull_18 : decode cX9_pull 18 = .ok (.aload_n 0, 1) := by decide +kernel
theorem dX9_pull_19 : decode cX9_pull 19 = .ok (.getfield 65, 3) := by decide +kernel
theorem dX9_pull_22 : decode cX9_pull 22 = .ok (.iconst 0, 1) := by decide +kernel
theorem dX9_pull_23 : decode cX9_pull 23 = .ok (.iaload, 1) := by decide +kernel
theorem dX9_pull_24 : decode cX9_pull 24 = .ok (.iconst 1, 1) := by decide +kernel
theorem dX9_pull_25 : decode cX9_pull 25 = .ok (.isub, 1) := by decide +kernel
theorem dX9_pull_26 : decode cX9_pull 26 = .ok (.invokestatic 157, 3) := by decide +kernel
theorem dX9_pull_29 : decode cX9_pull 29 = .ok (.ifCond .eq 13, 3) := by decide +kernel
theorem dX9_pull_32 : decode cX9_pull 32 = .ok (.aload_n 0, 1) := by decide +kernel
theorem dX9_pull_33 : decode cX9_pull 33 = .ok (.iload_n 1, 1) := by decide +kernel
theorem dX9_pull_34 : decode cX9_pull 34 = .ok (.iload_n 2, 1) := by decide +kernel
theorem dX9_pull_35 : decode cX9_pull 35 = .ok (.iconst 0, 1) := by decide +kernel
theorem dX9_pull_36 : decode cX9_pull 36 = .ok (.invokevirtual 376, 3) := by decide +kernel
theorem dX9_pull_39 : decode cX9_pull 39 = .ok (.goto 4, 3) := by decide +kernel
theorem dX9_pull_42 : decode cX9_pull 42 = .ok (.iconst (-1), 1) := by decide +kernel
theorem dX9_pull_43 : decode cX9_pull 43 = .ok (.ireturn, 1) := by decide +kernel
theorem dX9_hasLayers_0 : decode cX9_hasLayers 0 = .ok (.iconst 0, 1) := by decide +kernel
theorem dX9_hasLayers_1 : decode cX9_hasLayers 1 = .ok (.istore_n 2, 1) := by decide +kernel
theorem dX9_hasLayers_2 : decode cX9_hasLayers 2 = .ok (.iload_n 2, 1) := by decide +kernel
theorem dX9_hasLayers_3 : decode cX9_hasLayers 3 = .ok (.aload_n 0, 1) := by decide +kernel
theorem dX9_hasLayers_4 : decode cX9_hasLayers 4 = .ok (.getfield 68, 3) := by decide +kernel
theorem dX9_hasLayers_7 : decode cX9_hasLayers 7 = .ok (.iconst 0, 1) := by decide +kernel
theorem dX9_hasLayers_8 : decode cX9_hasLayers 8 = .ok (.iaload, 1) := by decide +kernel
theorem dX9_hasLayers_9 : decode cX9_hasLayers 9 = .ok (.if_icmp .ge 21, 3) := by decide +kernel
theorem dX9_hasLayers_12 : decode cX9_hasLayers 12 = .ok (.aload_n 0, 1) := by decide +kernel
theorem dX9_hasLayers_13 : decode cX9_hasLayers 13 = .ok (.getfield 38, 3) := by decide +kernel
theorem dX9_hasLayers_16 : decode cX9_hasLayers 16 = .ok (.iload_n 2, 1) := by decide +kernel
theorem dX9_hasLayers_17 : decode cX9_hasLayers 17 = .ok (.iaload, 1) := by decide +kernel
theorem dX9_hasLayers_18 : decode cX9_hasLayers 18 = .ok (.iload_n 1, 1) := by decide +kernel
theorem dX9_hasLayers_19 : decode cX9_hasLayers 19 = .ok (.if_icmp .ne 5, 3) := by decide +kernel
theorem dX9_hasLayers_22 : decode cX9_hasLayers 22 = .ok (.iconst 1, 1) := by decide +kernel
theorem dX9_hasLayers_23 : decode cX9_hasLayers 23 = .ok (.ireturn, 1) := by decide +kernel
theorem dX9_hasLayers_24 : decode cX9_hasLayers 24 = .ok (.iinc 2 1, 3) := by decide +kernel
theorem dX9_hasLayers_27 : decode cX9_hasLayers 27 = .ok (.goto (-25), 3) := by decide +kernel
theorem dX9_hasLayers_30 : decode cX9_hasLayers 30 = .ok (.iconst 0, 1) := by decide +kernel
theorem dX9_hasLayers_31 : decode cX9_hasLayers 31 = .ok (.ireturn, 1) := by decide +kernel
theorem dX9_moves_0 : decode cX9_moves 0 = .ok (.aload_n 0, 1) := by decide +kernel
theorem dX9_moves_1 : decode cX9_moves 1 = .ok (.getfield 339, 3) := by decide +kernel
theorem dX9_moves_4 : decode cX9_moves 4 = .ok (.ifCond .eq 21, 3) := by decide +kernel
theorem dX9_moves_7 : decode cX9_moves 7 = .ok (.iload_n 1, 1) := by decide +kernel
theorem dX9_moves_8 : decode cX9_moves 8 = .ok (.iconst 1, 1) := by decide +kernel
theorem dX9_moves_9 : decode cX9_moves 9 = .ok (.bipush 6, 2) := by decide +kernel
theorem dX9_moves_11 : decode cX9_moves 11 = .ok (.invokestatic 157, 3) := by decide +kernel
theorem dX9_moves_14 : decode cX9_moves 14 = .ok (.ifCond .eq 11, 3) := by decide +kernel
theorem dX9_moves_17 : decode cX9_moves 17 = .ok (.iload_n 1, 1) := by decide +kernel
theorem dX9_moves_18 : decode cX9_moves 18 = .ok (.aload_n 0, 1) := by decide +kernel
theorem dX9_moves_19 : decode cX9_moves 19 = .ok (.getfield 171, 3) := by decide +kernel
theorem dX9_moves_22 : decode cX9_moves 22 = .ok (.if_icmp .le 5, 3) := by decide +kernel
theorem dX9_moves_25 : decode cX9_moves 25 = .ok (.iconst (-1), 1) := by decide +kernel
theorem dX9_moves_26 : decode cX9_moves 26 = .ok (.ireturn, 1) := by decide +kernel
theorem dX9_moves_27 : decode cX9_moves 27 = .ok (.aload_n 0, 1) := by decide +kernel
theorem dX9_moves_28 : decode cX9_moves 28 = .ok (.iconst 0, 1) := by decide +kernel
theorem dX9_moves_29 : decode cX9_moves 29 = .ok (.putfield 171, 3) := by decide +kernel
theorem dX9_moves_32 : decode cX9_moves 32 = .ok (.iconst 0, 1) := by decide +kernel
theorem dX9_moves_33 : decode cX9_moves 33 = .ok (.istore_n 2, 1) := by decide +kernel
theorem dX9_moves_34 : decode cX9_moves 34 = .ok (.iload_n 2, 1) := by decide +kernel
theorem dX9_moves_35 : decode cX9_moves 35 = .ok (.iload_n 1, 1) := by decide +kernel
theorem dX9_moves_36 : decode cX9_moves 36 = .ok (.if_icmp .ge 25, 3) := by decide +kernel
theorem dX9_moves_39 : decode cX9_moves 39 = .ok (.aload_n 0, 1) := by decide +kernel
theorem dX9_moves_40 : decode cX9_moves 40 = .ok (.getfield 7, 3) := by decide +kernel
theorem dX9_moves_43 : decode cX9_moves 43 = .ok (.iload_n 2, 1) := by decide +kernel
theorem dX9_moves_44 : decode cX9_moves 44 = .ok (.baload, 1) := by decide +kernel
theorem dX9_moves_45 : decode cX9_moves 45 = .ok (.iconst 0, 1) := by decide +kernel
theorem dX9_moves_46 : decode cX9_moves 46 = .ok (.iconst 5, 1) := by decide +kernel
theorem dX9_moves_47 : decode cX9_moves 47 = .ok (.invokestatic 157, 3) := by decide +kernel
theorem dX9_moves_50 : decode cX9_moves 50 = .ok (.ifCond .ne 5, 3) := by decide +kernel
theorem dX9_moves_53 : decode cX9_moves 53 = .ok (.iconst (-1), 1) := by decide +kernel
theorem dX9_moves_54 : decode cX9_moves 54 = .ok (.ireturn, 1) := by decide +kernel
theorem dX9_moves_55 : decode cX9_moves 55 = .ok (.iinc 2 1, 3) := by decide +kernel
theorem dX9_moves_58 : decode cX9_moves 58 = .ok (.goto (-24), 3) := by decide +kernel
theorem dX9_moves_61 : decode cX9_moves 61 = .ok (.aload_n 0, 1) := by decide +kernel
theorem dX9_moves_62 : decode cX9_moves 62 = .ok (.iconst 1, 1) := by decide +kernel
theorem dX9_moves_63 : decode cX9_moves 63 = .ok (.putfield 342, 3) := by decide +kernel
theorem dX9_moves_66 : decode cX9_moves 66 = .ok (.aload_n 0, 1) := by decide +kernel
theorem dX9_moves_67 : decode cX9_moves 67 = .ok (.iload_n 1, 1) := by decide +kernel
theorem dX9_moves_68 : decode cX9_moves 68 = .ok (.putfield 379, 3) := by decide +kernel
theorem dX9_moves_71 : decode cX9_moves 71 = .ok (.aload_n 0, 1) := by decide +kernel
theorem dX9_moves_72 : decode cX9_moves 72 = .ok (.iconst 0, 1) := by decide +kernel
theorem dX9_moves_73 : decode cX9_moves 73 = .ok (.putfield 382, 3) := by decide +kernel
theorem dX9_moves_76 : decode cX9_moves 76 = .ok (.iconst 0, 1) := by decide +kernel
theorem dX9_moves_77 : decode cX9_moves 77 = .ok (.istore_n 2, 1) := by decide +kernel
theorem dX9_moves_78 : decode cX9_moves 78 = .ok (.iload_n 2, 1) := by decide +kernel
theorem dX9_moves_79 : decode cX9_moves 79 = .ok (.iload_n 1, 1) := by decide +kernel
theorem dX9_moves_80 : decode cX9_moves 80 = .ok (.if_icmp .ge 21, 3) := by decide +kernel
theorem dX9_moves_83 : decode cX9_moves 83 = .ok (.aload_n 0, 1) := by decide +kernel
theorem dX9_moves_84 : decode cX9_moves 84 = .ok (.getfield 120, 3) := by decide +kernel
theorem dX9_moves_87 : decode cX9_moves 87 = .ok (.iload_n 2, 1) := by decide +kernel
theorem dX9_moves_88 : decode cX9_moves 88 = .ok (.aload_n 0, 1) := by decide +kernel
theorem dX9_moves_89 : decode cX9_moves 89 = .ok (.getfield 7, 3) := by decide +kernel
theorem dX9_moves_92 : decode cX9_moves 92 = .ok (.iload_n 2, 1) := by decide +kernel
theorem dX9_moves_93 : decode cX9_moves 93 = .ok (.baload, 1) := by decide +kernel
theorem dX9_moves_94 : decode cX9_moves 94 = .ok (.iastore, 1) := by decide +kernel
theorem dX9_moves_95 : decode cX9_moves 95 = .ok (.iinc 2 1, 3) := by decide +kernel
theorem dX9_moves_98 : decode cX9_moves 98 = .ok (.goto (-20), 3) := by decide +kernel
theorem dX9_moves_101 : decode cX9_moves 101 = .ok (.iconst 0, 1) := by decide +kernel
theorem dX9_moves_102 : decode cX9_moves 102 = .ok (.istore_n 2, 1) := by decide +kernel
theorem dX9_moves_103 : decode cX9_moves 103 = .ok (.iload_n 2, 1) := by decide +kernel
theorem dX9_moves_104 : decode cX9_moves 104 = .ok (.bipush 48, 2) := by decide +kernel
theorem dX9_moves_106 : decode cX9_moves 106 = .ok (.if_icmp .ge 21, 3) := by decide +kernel
theorem dX9_moves_109 : decode cX9_moves 109 = .ok (.aload_n 0, 1) := by decide +kernel
theorem dX9_moves_110 : decode cX9_moves 110 = .ok (.getfield 117, 3) := by decide +kernel
theorem dX9_moves_113 : decode cX9_moves 113 = .ok (.iload_n 2, 1) := by decide +kernel
theorem dX9_moves_114 : decode cX9_moves 114 = .ok (.aload_n 0, 1) := by decide +kernel
theorem dX9_moves_115 : decode cX9_moves 115 = .ok (.getfield 114, 3) := by decide +kernel
theorem dX9_moves_118 : decode cX9_moves 118 = .ok (.iload_n 2, 1) := by decide +kernel
theorem dX9_moves_119 : decode cX9_moves 119 = .ok (.iaload, 1) := by decide +kernel
theorem dX9_moves_120 : decode cX9_moves 120 = .ok (.iastore, 1) := by decide +kernel
theorem dX9_moves_121 : decode cX9_moves 121 = .ok (.iinc 2 1, 3) := by decide +kernel
theorem dX9_moves_124 : decode cX9_moves 124 = .ok (.goto (-21), 3) := by decide +kernel
theorem dX9_moves_127 : decode cX9_moves 127 = .ok (.iconst 0, 1) := by decide +kernel
theorem dX9_moves_128 : decode cX9_moves 128 = .ok (.istore_n 2, 1) := by decide +kernel
theorem dX9_moves_129 : decode cX9_moves 129 = .ok (.iload_n 2, 1) := by decide +kernel
theorem dX9_moves_130 : decode cX9_moves 130 = .ok (.aload_n 0, 1) := by decide +kernel
theorem dX9_moves_131 : decode cX9_moves 131 = .ok (.getfield 65, 3) := by decide +kernel
theorem dX9_moves_134 : decode cX9_moves 134 = .ok (.iconst 0, 1) := by decide +kernel
theorem dX9_moves_135 : decode cX9_moves 135 = .ok (.iaload, 1) := by decide +kernel
theorem dX9_moves_136 : decode cX9_moves 136 = .ok (.if_icmp .ge 16, 3) := by decide +kernel
theorem dX9_moves_139 : decode cX9_moves 139 = .ok (.aload_n 0, 1) := by decide +kernel
theorem dX9_moves_140 : decode cX9_moves 140 = .ok (.getfield 110, 3) := by decide +kernel
theorem dX9_moves_143 : decode cX9_moves 143 = .ok (.iload_n 2, 1) := by decide +kernel
theorem dX9_moves_144 : decode cX9_moves 144 = .ok (.iconst 0, 1) := by decide +kernel
theorem dX9_moves_145 : decode cX9_moves 145 = .ok (.bastore, 1) := by decide +kernel
theorem dX9_moves_146 : decode cX9_moves 146 = .ok (.iinc 2 1, 3) := by decide +kernel
theorem dX9_moves_149 : decode cX9_moves 149 = .ok (.goto (-20), 3) := by decide +kernel
theorem dX9_moves_152 : decode cX9_moves 152 = .ok (.iconst 0, 1) := by decide +kernel
theorem dX9_moves_153 : decode cX9_moves 153 = .ok (.istore_n 2, 1) := by decide +kernel
theorem dX9_moves_154 : decode cX9_moves 154 = .ok (.iload_n 2, 1) := by decide +kernel
theorem dX9_moves_155 : decode cX9_moves 155 = .ok (.iload_n 1, 1) := by decide +kernel
theorem dX9_moves_156 : decode cX9_moves 156 = .ok (.if_icmp .ge 96, 3) := by decide +kernel
theorem dX9_moves_159 : decode cX9_moves 159 = .ok (.aload_n 0, 1) := by decide +kernel
theorem dX9_moves_160 : decode cX9_moves 160 = .ok (.getfield 65, 3) := by decide +kernel
theorem dX9_moves_163 : decode cX9_moves 163 = .ok (.iconst 0, 1) := by decide +kernel
theorem dX9_moves_164 : decode cX9_moves 164 = .ok (.iaload, 1) := by decide +kernel
theorem dX9_moves_165 : decode cX9_moves 165 = .ok (.iconst 1, 1) := by decide +kernel
theorem dX9_moves_166 : decode cX9_moves 166 = .ok (.isub, 1) := by decide +kernel
theorem dX9_moves_167 : decode cX9_moves 167 = .ok (.istore_n 3, 1) := by decide +kernel
theorem dX9_moves_168 : decode cX9_moves 168 = .ok (.iload_n 3, 1) := by decide +kernel
theorem dX9_moves_169 : decode cX9_moves 169 = .ok (.ifCond .lt 77, 3) := by decide +kernel
theorem dX9_moves_172 : decode cX9_moves 172 = .ok (.aload_n 0, 1) := by decide +kernel
theorem dX9_moves_173 : decode cX9_moves 173 = .ok (.getfield 110, 3) := by decide +kernel
theorem dX9_moves_176 : decode cX9_moves 176 = .ok (.iload_n 3, 1) := by decide +kernel
theorem dX9_moves_177 : decode cX9_moves 177 = .ok (.baload, 1) := by decide +kernel
theorem dX9_moves_178 : decode cX9_moves 178 = .ok (.ifCond .ne 62, 3) := by decide +kernel
theorem dX9_moves_181 : decode cX9_moves 181 = .ok (.aload_n 0, 1) := by decide +kernel
theorem dX9_moves_182 : decode cX9_moves 182 = .ok (.iload_n 3, 1) := by decide +kernel
theorem dX9_moves_183 : decode cX9_moves 183 = .ok (.invokevirtual 385, 3) := by decide +kernel
theorem dX9_moves_186 : decode cX9_moves 186 = .ok (.ifCond .eq 54, 3) := by decide +kernel
theorem dX9_moves_189 : decode cX9_moves 189 = .ok (.aload_n 0, 1) := by decide +kernel
theorem dX9_moves_190 : decode cX9_moves 190 = .ok (.aload_n 0, 1) := by decide +kernel
theorem dX9_moves_191 : decode cX9_moves 191 = .ok (.getfield 120, 3) := by decide +kernel
theorem dX9_moves_194 : decode cX9_moves 194 = .ok (.iload_n 2, 1) := by decide +kernel
theorem dX9_moves_195 : decode cX9_moves 195 = .ok (.iaload, 1) := by decide +kernel
theorem dX9_moves_196 : decode cX9_moves 196 = .ok (.iload_n 3, 1) := by decide +kernel
theorem dX9_moves_197 : decode cX9_moves 197 = .ok (.iconst 1, 1) := by decide +kernel
theorem dX9_moves_198 : decode cX9_moves 198 = .ok (.invokevirtual 376, 3) := by decide +kernel
theorem dX9_moves_201 : decode cX9_moves 201 = .ok (.aload_n 0, 1) := by decide +kernel
theorem dX9_moves_202 : decode cX9_moves 202 = .ok (.iload_n 3, 1) := by decide +kernel
theorem dX9_moves_203 : decode cX9_moves 203 = .ok (.iconst 0, 1) := by decide +kernel
theorem dX9_moves_204 : decode cX9_moves 204 = .ok (.invokevirtual 372, 3) := by decide +kernel
theorem dX9_moves_207 : decode cX9_moves 207 = .ok (.if_icmp .gt 6, 3) := by decide +kernel
theorem dX9_moves_210 : decode cX9_moves 210 = .ok (.goto 30, 3) := by decide +kernel
theorem dX9_moves_213 : decode cX9_moves 213 = .ok (.aload_n 0, 1) := by decide +kernel
theorem dX9_moves_214 : decode cX9_moves 214 = .ok (.getfield 110, 3) := by decide +kernel
theorem dX9_moves_217 : decode cX9_moves 217 = .ok (.iload_n 3, 1) := by decide +kernel
theorem dX9_moves_218 : decode cX9_moves 218 = .ok (.iconst 1, 1) := by decide +kernel
theorem dX9_moves_219 : decode cX9_moves 219 = .ok (.bastore, 1) := by decide +kernel
theorem dX9_moves_220 : decode cX9_moves 220 = .ok (.aload_n 0, 1) := by decide +kernel
theorem dX9_moves_221 : decode cX9_moves 221 = .ok (.getfield 123, 3) := by decide +kernel
theorem dX9_moves_224 : decode cX9_moves 224 = .ok (.aload_n 0, 1) := by decide +kernel
theorem dX9_moves_225 : decode cX9_moves 225 = .ok (.getfield 382, 3) := by decide +kernel
theorem dX9_moves_228 : decode cX9_moves 228 = .ok (.iload_n 3, 1) := by decide +kernel
theorem dX9_moves_229 : decode cX9_moves 229 = .ok (.iastore, 1) := by decide +kernel
theorem dX9_moves_230 : decode cX9_moves 230 = .ok (.aload_n 0, 1) := by decide +kernel
theorem dX9_moves_231 : decode cX9_moves 231 = .ok (.dup, 1) := by decide +kernel
theorem dX9_moves_232 : decode cX9_moves 232 = .ok (.getfield 382, 3) := by decide +kernel
theorem dX9_moves_235 : decode cX9_moves 235 = .ok (.iconst 1, 1) := by decide +kernel
theorem dX9_moves_236 : decode cX9_moves 236 = .ok (.iadd, 1) := by decide +kernel
theorem dX9_moves_237 : decode cX9_moves 237 = .ok (.putfield 382, 3) := by decide +kernel
theorem dX9_moves_240 : decode cX9_moves 240 = .ok (.iinc 3 (-1), 3) := by decide +kernel
theorem dX9_moves_243 : decode cX9_moves 243 = .ok (.goto (-75), 3) := by decide +kernel
theorem dX9_moves_246 : decode cX9_moves 246 = .ok (.iinc 2 1, 3) := by decide +kernel
theorem dX9_moves_249 : decode cX9_moves 249 = .ok (.goto (-95), 3) := by decide +kernel
theorem dX9_moves_252 : decode cX9_moves 252 = .ok (.aload_n 0, 1) := by decide +kernel
theorem dX9_moves_253 : decode cX9_moves 253 = .ok (.getfield 382, 3) := by decide +kernel
theorem dX9_moves_256 : decode cX9_moves 256 = .ok (.ireturn, 1) := by decide +kernel
theorem dX9_slipped_0 : decode cX9_slipped 0 = .ok (.aload_n 0, 1) := by decide +kernel
theorem dX9_slipped_1 : decode cX9_slipped 1 = .ok (.getfield 339, 3) := by decide +kernel
theorem dX9_slipped_4 : decode cX9_slipped 4 = .ok (.ifCond .eq 33, 3) := by decide +kernel
theorem dX9_slipped_7 : decode cX9_slipped 7 = .ok (.aload_n 0, 1) := by decide +kernel
theorem dX9_slipped_8 : decode cX9_slipped 8 = .ok (.getfield 342, 3) := by decide +kernel
theorem dX9_slipped_11 : decode cX9_slipped 11 = .ok (.ifCond .eq 26, 3) := by decide +kernel
theorem dX9_slipped_14 : decode cX9_slipped 14 = .ok (.iload_n 1, 1) := by decide +kernel
theorem dX9_slipped_15 : decode cX9_slipped 15 = .ok (.iconst 0, 1) := by decide +kernel
theorem dX9_slipped_16 : decode cX9_slipped 16 = .ok (.aload_n 0, 1) := by decide +kernel
theorem dX9_slipped_17 : decode cX9_slipped 17 = .ok (.getfield 382, 3) := by decide +kernel
theorem dX9_slipped_20 : decode cX9_slipped 20 = .ok (.iconst 1, 1) := by decide +kernel
theorem dX9_slipped_21 : decode cX9_slipped 21 = .ok (.isub, 1) := by decide +kernel
theorem dX9_slipped_22 : decode cX9_slipped 22 = .ok (.invokestatic 157, 3) := by decide +kernel
theorem dX9_slipped_25 : decode cX9_slipped 25 = .ok (.ifCond .eq 12, 3) := by decide +kernel
theorem dX9_slipped_28 : decode cX9_slipped 28 = .ok (.aload_n 0, 1) := by decide +kernel
theorem dX9_slipped_29 : decode cX9_slipped 29 = .ok (.getfield 123, 3) := by decide +kernel
theorem dX9_slipped_32 : decode cX9_slipped 32 = .ok (.iload_n 1, 1) := by decide +kernel
theorem dX9_slipped_33 : decode cX9_slipped 33 = .ok (.iaload, 1) := by decide +kernel
theorem dX9_slipped_34 : decode cX9_slipped 34 = .ok (.goto 4, 3) := by decide +kernel
theorem dX9_slipped_37 : decode cX9_slipped 37 = .ok (.iconst (-1), 1) := by decide +kernel
theorem dX9_slipped_38 : decode cX9_slipped 38 = .ok (.ireturn, 1) := by decide +kernel
theorem dX9_after_0 : decode cX9_after 0 = .ok (.aload_n 0, 1) := by decide +kernel
theorem dX9_after_1 : decode cX9_after 1 = .ok (.getfield 339, 3) := by decide +kernel
theorem dX9_after_4 : decode cX9_after 4 = .ok (.ifCond .eq 28, 3) := by decide +kernel
theorem dX9_after_7 : decode cX9_after 7 = .ok (.aload_n 0, 1) := by decide +kernel
theorem dX9_after_8 : decode cX9_after 8 = .ok (.getfield 342, 3) := by decide +kernel
theorem dX9_after_11 : decode cX9_after 11 = .ok (.ifCond .eq 21, 3) := by decide +kernel
theorem dX9_after_14 : decode cX9_after 14 = .ok (.iload_n 1, 1) := by decide +kernel
theorem dX9_after_15 : decode cX9_after 15 = .ok (.iload_n 2, 1) := by decide +kernel
theorem dX9_after_16 : decode cX9_after 16 = .ok (.invokestatic 358, 3) := by decide +kernel
theorem dX9_after_19 : decode cX9_after 19 = .ok (.ifCond .eq 13, 3) := by decide +kernel
theorem dX9_after_22 : decode cX9_after 22 = .ok (.aload_n 0, 1) := by decide +kernel
theorem dX9_after_23 : decode cX9_after 23 = .ok (.iload_n 1, 1) := by decide +kernel
theorem dX9_after_24 : decode cX9_after 24 = .ok (.iload_n 2, 1) := by decide +kernel
theorem dX9_after_25 : decode cX9_after 25 = .ok (.iconst 0, 1) := by decide +kernel
theorem dX9_after_26 : decode cX9_after 26 = .ok (.invokevirtual 362, 3) := by decide +kernel
theorem dX9_after_29 : decode cX9_after 29 = .ok (.goto 4, 3) := by decide +kernel
theorem dX9_after_32 : decode cX9_after 32 = .ok (.iconst (-1), 1) := by decide +kernel
theorem dX9_after_33 : decode cX9_after 33 = .ok (.ireturn, 1) := by decide +kernel
theorem dX9_fix_0 : decode cX9_fix 0 = .ok (.aload_n 0, 1) := by decide +kernel
theorem dX9_fix_1 : decode cX9_fix 1 = .ok (.getfield 339, 3) := by decide +kernel
theorem dX9_fix_4 : decode cX9_fix 4 = .ok (.ifCond .eq 10, 3) := by decide +kernel
theorem dX9_fix_7 : decode cX9_fix 7 = .ok (.aload_n 0, 1) := by decide +kernel
theorem dX9_fix_8 : decode cX9_fix 8 = .ok (.getfield 342, 3) := by decide +kernel
theorem dX9_fix_11 : decode cX9_fix 11 = .ok (.ifCond .ne 5, 3) := by decide +kernel
theorem dX9_fix_14 : decode cX9_fix 14 = .ok (.iconst (-1), 1) := by decide +kernel
theorem dX9_fix_15 : decode cX9_fix 15 = .ok (.ireturn, 1) := by decide +kernel
theorem dX9_fix_16 : decode cX9_fix 16 = .ok (.aload_n 0, 1) := by decide +kernel
theorem dX9_fix_17 : decode cX9_fix 17 = .ok (.getfield 382, 3) := by decide +kernel
theorem dX9_fix_20 : decode cX9_fix 20 = .ok (.ifCond .ne 6, 3) := by decide +kernel
theorem dX9_fix_23 : decode cX9_fix 23 = .ok (.bipush (-2), 2) := by decide +kernel
theorem dX9_fix_25 : decode cX9_fix 25 = .ok (.ireturn, 1) := by decide +kernel
theorem dX9_fix_26 : decode cX9_fix 26 = .ok (.iconst (-1), 1) := by decide +kernel
theorem dX9_fix_27 : decode cX9_fix 27 = .ok (.istore_n 1, 1) := by decide +kernel
theorem dX9_fix_28 : decode cX9_fix 28 = .ok (.iconst 0, 1) := by decide +kernel
theorem dX9_fix_29 : decode cX9_fix 29 = .ok (.istore_n 2, 1) := by decide +kernel
theorem dX9_fix_30 : decode cX9_fix 30 = .ok (.iload_n 2, 1) := by decide +kernel
theorem dX9_fix_31 : decode cX9_fix 31 = .ok (.aload_n 0, 1) := by decide +kernel
theorem dX9_fix_32 : decode cX9_fix 32 = .ok (.getfield 65, 3) := by decide +kernel
theorem dX9_fix_35 : decode cX9_fix 35 = .ok (.iconst 0, 1) := by decide +kernel
theorem dX9_fix_36 : decode cX9_fix 36 = .ok (.iaload, 1) := by decide +kernel
theorem dX9_fix_37 : decode cX9_fix 37 = .ok (.if_icmp .ge 102, 3) := by decide +kernel
theorem dX9_fix_40 : decode cX9_fix 40 = .ok (.iconst 0, 1) := by decide +kernel
theorem dX9_fix_41 : decode cX9_fix 41 = .ok (.istore_n 3, 1) := by decide +kernel
theorem dX9_fix_42 : decode cX9_fix 42 = .ok (.iconst 0, 1) := by decide +kernel
theorem dX9_fix_43 : decode cX9_fix 43 = .ok (.istore 4, 2) := by decide +kernel
theorem dX9_fix_45 : decode cX9_fix 45 = .ok (.iload 4, 2) := by decide +kernel
theorem dX9_fix_47 : decode cX9_fix 47 = .ok (.aload_n 0, 1) := by decide +kernel
theorem dX9_fix_48 : decode cX9_fix 48 = .ok (.getfield 379, 3) := by decide +kernel
theorem dX9_fix_51 : decode cX9_fix 51 = .ok (.if_icmp .ge 37, 3) := by decide +kernel
theorem dX9_fix_54 : decode cX9_fix 54 = .ok (.aload_n 0, 1) := by decide +kernel
theorem dX9_fix_55 : decode cX9_fix 55 = .ok (.aload_n 0, 1) := by decide +kernel
theorem dX9_fix_56 : decode cX9_fix 56 = .ok (.getfield 120, 3) := by decide +kernel
theorem dX9_fix_59 : decode cX9_fix 59 = .ok (.iload 4, 2) := by decide +kernel
theorem dX9_fix_61 : decode cX9_fix 61 = .ok (.iaload, 1) := by decide +kernel
theorem dX9_fix_62 : decode cX9_fix 62 = .ok (.iload_n 2, 1) := by decide +kernel
theorem dX9_fix_63 : decode cX9_fix 63 = .ok (.iconst 1, 1) := by decide +kernel
theorem dX9_fix_64 : decode cX9_fix 64 = .ok (.invokevirtual 376, 3) := by decide +kernel
theorem dX9_fix_67 : decode cX9_fix 67 = .ok (.istore 5, 2) := by decide +kernel
theorem dX9_fix_69 : decode cX9_fix 69 = .ok (.iload 5, 2) := by decide +kernel
theorem dX9_fix_71 : decode cX9_fix 71 = .ok (.iload_n 3, 1) := by decide +kernel
theorem dX9_fix_72 : decode cX9_fix 72 = .ok (.if_icmp .le 8, 3) := by decide +kernel
theorem dX9_fix_75 : decode cX9_fix 75 = .ok (.iload 5, 2) := by decide +kernel
theorem dX9_fix_77 : decode cX9_fix 77 = .ok (.goto 4, 3) := by decide +kernel
theorem dX9_fix_80 : decode cX9_fix 80 = .ok (.iload_n 3, 1) := by decide +kernel
theorem dX9_fix_81 : decode cX9_fix 81 = .ok (.istore_n 3, 1) := by decide +kernel
theorem dX9_fix_82 : decode cX9_fix 82 = .ok (.iinc 4 1, 3) := by decide +kernel
theorem dX9_fix_85 : decode cX9_fix 85 = .ok (.goto (-40), 3) := by decide +kernel
theorem dX9_fix_88 : decode cX9_fix 88 = .ok (.aload_n 0, 1) := by decide +kernel
theorem dX9_fix_89 : decode cX9_fix 89 = .ok (.iload_n 2, 1) := by decide +kernel
theorem dX9_fix_90 : decode cX9_fix 90 = .ok (.invokevirtual 385, 3) := by decide +kernel
theorem dX9_fix_93 : decode cX9_fix 93 = .ok (.ifCond .eq 14, 3) := by decide +kernel
theorem dX9_fix_96 : decode cX9_fix 96 = .ok (.iload_n 3, 1) := by decide +kernel
theorem dX9_fix_97 : decode cX9_fix 97 = .ok (.aload_n 0, 1) := by decide +kernel
theorem dX9_fix_98 : decode cX9_fix 98 = .ok (.iload_n 2, 1) := by decide +kernel
theorem dX9_fix_99 : decode cX9_fix 99 = .ok (.iconst 1, 1) := by decide +kernel
theorem dX9_fix_100 : decode cX9_fix 100 = .ok (.invokevirtual 372, 3) := by decide +kernel
theorem dX9_fix_103 : decode cX9_fix 103 = .ok (.isub, 1) := by decide +kernel
theorem dX9_fix_104 : decode cX9_fix 104 = .ok (.goto 4, 3) := by decide +kernel
theorem dX9_fix_107 : decode cX9_fix 107 = .ok (.iconst 0, 1) := by decide +kernel
theorem dX9_fix_108 : decode cX9_fix 108 = .ok (.istore 4, 2) := by decide +kernel
theorem dX9_fix_110 : decode cX9_fix 110 = .ok (.iload 4, 2) := by decide +kernel
theorem dX9_fix_112 : decode cX9_fix 112 = .ok (.ifCond .gt 6, 3) := by decide +kernel
theorem dX9_fix_115 : decode cX9_fix 115 = .ok (.goto 18, 3) := by decide +kernel
theorem dX9_fix_118 : decode cX9_fix 118 = .ok (.iload_n 1, 1) := by decide +kernel
theorem dX9_fix_119 : decode cX9_fix 119 = .ok (.iconst (-1), 1) := by decide +kernel
theorem dX9_fix_120 : decode cX9_fix 120 = .ok (.if_icmp .ne 9, 3) := by decide +kernel
theorem dX9_fix_123 : decode cX9_fix 123 = .ok (.iload 4, 2) := by decide +kernel
theorem dX9_fix_125 : decode cX9_fix 125 = .ok (.iconst 4, 1) := by decide +kernel
theorem dX9_fix_126 : decode cX9_fix 126 = .ok (.if_icmp .le 5, 3) := by decide +kernel
theorem dX9_fix_129 : decode cX9_fix 129 = .ok (.iconst (-1), 1) := by decide +kernel
theorem dX9_fix_130 : decode cX9_fix 130 = .ok (.ireturn, 1) := by decide +kernel
theorem dX9_fix_131 : decode cX9_fix 131 = .ok (.iload_n 2, 1) := by decide +kernel
theorem dX9_fix_132 : decode cX9_fix 132 = .ok (.istore_n 1, 1) := by decide +kernel
theorem dX9_fix_133 : decode cX9_fix 133 = .ok (.iinc 2 1, 3) := by decide +kernel
theorem dX9_fix_136 : decode cX9_fix 136 = .ok (.goto (-106), 3) := by decide +kernel
theorem dX9_fix_139 : decode cX9_fix 139 = .ok (.iload_n 1, 1) := by decide +kernel
theorem dX9_fix_140 : decode cX9_fix 140 = .ok (.ireturn, 1) := by decide +kernel
theorem dX9_breaths_0 : decode cX9_breaths 0 = .ok (.aload_n 0, 1) := by decide +kernel
theorem dX9_breaths_1 : decode cX9_breaths 1 = .ok (.getfield 339, 3) := by decide +kernel
theorem dX9_breaths_4 : decode cX9_breaths 4 = .ok (.ifCond .eq 12, 3) := by decide +kernel
theorem dX9_breaths_7 : decode cX9_breaths 7 = .ok (.iconst 1, 1) := by decide +kernel
theorem dX9_breaths_8 : decode cX9_breaths 8 = .ok (.aload_n 0, 1) := by decide +kernel
theorem dX9_breaths_9 : decode cX9_breaths 9 = .ok (.invokevirtual 366, 3) := by decide +kernel
theorem dX9_breaths_12 : decode cX9_breaths 12 = .ok (.iadd, 1) := by decide +kernel
theorem dX9_breaths_13 : decode cX9_breaths 13 = .ok (.goto 4, 3) := by decide +kernel
theorem dX9_breaths_16 : decode cX9_breaths 16 = .ok (.iconst (-1), 1) := by decide +kernel
theorem dX9_breaths_17 : decode cX9_breaths 17 = .ok (.ireturn, 1) := by decide +kernel
theorem dX9_shortest_0 : decode cX9_shortest 0 = .ok (.aload_n 0, 1) := by decide +kernel
theorem dX9_shortest_1 : decode cX9_shortest 1 = .ok (.iload_n 1, 1) := by decide +kernel
theorem dX9_shortest_2 : decode cX9_shortest 2 = .ok (.invokevirtual 329, 3) := by decide +kernel
theorem dX9_shortest_5 : decode cX9_shortest 5 = .ok (.ifCond .eq 31, 3) := by decide +kernel
theorem dX9_shortest_8 : decode cX9_shortest 8 = .ok (.aload_n 0, 1) := by decide +kernel
theorem dX9_shortest_9 : decode cX9_shortest 9 = .ok (.iload_n 2, 1) := by decide +kernel
theorem dX9_shortest_10 : decode cX9_shortest 10 = .ok (.invokevirtual 332, 3) := by decide +kernel
theorem dX9_shortest_13 : decode cX9_shortest 13 = .ok (.ifCond .eq 23, 3) := by decide +kernel
theorem dX9_shortest_16 : decode cX9_shortest 16 = .ok (.iload_n 3, 1) := by decide +kernel
theorem dX9_shortest_17 : decode cX9_shortest 17 = .ok (.iconst 1, 1) := by decide +kernel
theorem dX9_shortest_18 : decode cX9_shortest 18 = .ok (.iconst 4, 1) := by decide +kernel
theorem dX9_shortest_19 : decode cX9_shortest 19 = .ok (.invokestatic 157, 3) := by decide +kernel
theorem dX9_shortest_22 : decode cX9_shortest 22 = .ok (.ifCond .eq 14, 3) := by decide +kernel
theorem dX9_shortest_25 : decode cX9_shortest 25 = .ok (.iload 4, 2) := by decide +kernel
theorem dX9_shortest_27 : decode cX9_shortest 27 = .ok (.iconst 0, 1) := by decide +kernel
theorem dX9_shortest_28 : decode cX9_shortest 28 = .ok (.bipush 60, 2) := by decide +kernel
theorem dX9_shortest_30 : decode cX9_shortest 30 = .ok (.invokestatic 157, 3) := by decide +kernel
theorem dX9_shortest_33 : decode cX9_shortest 33 = .ok (.ifCond .ne 5, 3) := by decide +kernel
theorem dX9_shortest_36 : decode cX9_shortest 36 = .ok (.iconst (-1), 1) := by decide +kernel
theorem dX9_shortest_37 : decode cX9_shortest 37 = .ok (.ireturn, 1) := by decide +kernel
theorem dX9_shortest_38 : decode cX9_shortest 38 = .ok (.bipush 10, 2) := by decide +kernel
theorem dX9_shortest_40 : decode cX9_shortest 40 = .ok (.istore 5, 2) := by decide +kernel
theorem dX9_shortest_42 : decode cX9_shortest 42 = .ok (.iload 5, 2) := by decide +kernel
theorem dX9_shortest_44 : decode cX9_shortest 44 = .ok (.sipush 400, 3) := by decide +kernel
theorem dX9_shortest_47 : decode cX9_shortest 47 = .ok (.if_icmp .gt 33, 3) := by decide +kernel
theorem dX9_shortest_50 : decode cX9_shortest 50 = .ok (.aload_n 0, 1) := by decide +kernel
theorem dX9_shortest_51 : decode cX9_shortest 51 = .ok (.iload_n 1, 1) := by decide +kernel
theorem dX9_shortest_52 : decode cX9_shortest 52 = .ok (.iload_n 2, 1) := by decide +kernel
theorem dX9_shortest_53 : decode cX9_shortest 53 = .ok (.iload 5, 2) := by decide +kernel
theorem dX9_shortest_55 : decode cX9_shortest 55 = .ok (.iload_n 3, 1) := by decide +kernel
theorem dX9_shortest_56 : decode cX9_shortest 56 = .ok (.iload 4, 2) := by decide +kernel
theorem dX9_shortest_58 : decode cX9_shortest 58 = .ok (.iconst 1, 1) := by decide +kernel
theorem dX9_shortest_59 : decode cX9_shortest 59 = .ok (.invokevirtual 335, 3) := by decide +kernel
theorem dX9_shortest_62 : decode cX9_shortest 62 = .ok (.aload_n 0, 1) := by decide +kernel
theorem dX9_shortest_63 : decode cX9_shortest 63 = .ok (.getfield 89, 3) := by decide +kernel
theorem dX9_shortest_66 : decode cX9_shortest 66 = .ok (.iconst 1, 1) := by decide +kernel
theorem dX9_shortest_67 : decode cX9_shortest 67 = .ok (.iaload, 1) := by decide +kernel
theorem dX9_shortest_68 : decode cX9_shortest 68 = .ok (.ifCond .ne 6, 3) := by decide +kernel
theorem dX9_shortest_71 : decode cX9_shortest 71 = .ok (.iload 5, 2) := by decide +kernel
theorem dX9_shortest_73 : decode cX9_shortest 73 = .ok (.ireturn, 1) := by decide +kernel
theorem dX9_shortest_74 : decode cX9_shortest 74 = .ok (.iinc 5 1, 3) := by decide +kernel
theorem dX9_shortest_77 : decode cX9_shortest 77 = .ok (.goto (-35), 3) := by decide +kernel
theorem dX9_shortest_80 : decode cX9_shortest 80 = .ok (.iconst (-1), 1) := by decide +kernel
theorem dX9_shortest_81 : decode cX9_shortest 81 = .ok (.ireturn, 1) := by decide +kernel
theorem dX9_solve_0 : decode cX9_solve 0 = .ok (.aload_n 0, 1) := by decide +kernel
theorem dX9_solve_1 : decode cX9_solve 1 = .ok (.iload_n 1, 1) := by decide +kernel
theorem dX9_solve_2 : decode cX9_solve 2 = .ok (.invokevirtual 329, 3) := by decide +kernel
theorem dX9_solve_5 : decode cX9_solve 5 = .ok (.ifCond .eq 42, 3) := by decide +kernel
theorem dX9_solve_8 : decode cX9_solve 8 = .ok (.aload_n 0, 1) := by decide +kernel
theorem dX9_solve_9 : decode cX9_solve 9 = .ok (.iload_n 2, 1) := by decide +kernel
theorem dX9_solve_10 : decode cX9_solve 10 = .ok (.invokevirtual 332, 3) := by decide +kernel
theorem dX9_solve_13 : decode cX9_solve 13 = .ok (.ifCond .eq 34, 3) := by decide +kernel
theorem dX9_solve_16 : decode cX9_solve 16 = .ok (.aload_n 0, 1) := by decide +kernel
theorem dX9_solve_17 : decode cX9_solve 17 = .ok (.iload_n 3, 1) := by decide +kernel
theorem dX9_solve_18 : decode cX9_solve 18 = .ok (.invokevirtual 167, 3) := by decide +kernel
theorem dX9_solve_21 : decode cX9_solve 21 = .ok (.ifCond .eq 26, 3) := by decide +kernel
theorem dX9_solve_24 : decode cX9_solve 24 = .ok (.iload 4, 2) := by decide +kernel
theorem dX9_solve_26 : decode cX9_solve 26 = .ok (.iconst 0, 1) := by decide +kernel
theorem dX9_solve_27 : decode cX9_solve 27 = .ok (.sipush 400, 3) := by decide +kernel
theorem dX9_solve_30 : decode cX9_solve 30 = .ok (.invokestatic 157, 3) := by decide +kernel
theorem dX9_solve_33 : decode cX9_solve 33 = .ok (.ifCond .eq 14, 3) := by decide +kernel
theorem dX9_solve_36 : decode cX9_solve 36 = .ok (.iload 5, 2) := by decide +kernel
theorem dX9_solve_38 : decode cX9_solve 38 = .ok (.iconst (-1), 1) := by decide +kernel
theorem dX9_solve_39 : decode cX9_solve 39 = .ok (.bipush 7, 2) := by decide +kernel
theorem dX9_solve_41 : decode cX9_solve 41 = .ok (.invokestatic 157, 3) := by decide +kernel
theorem dX9_solve_44 : decode cX9_solve 44 = .ok (.ifCond .ne 5, 3) := by decide +kernel
theorem dX9_solve_47 : decode cX9_solve 47 = .ok (.iconst (-1), 1) := by decide +kernel
theorem dX9_solve_48 : decode cX9_solve 48 = .ok (.ireturn, 1) := by decide +kernel
theorem dX9_solve_49 : decode cX9_solve 49 = .ok (.iconst 0, 1) := by decide +kernel
theorem dX9_solve_50 : decode cX9_solve 50 = .ok (.istore 6, 2) := by decide +kernel
theorem dX9_solve_52 : decode cX9_solve 52 = .ok (.iload 6, 2) := by decide +kernel
theorem dX9_solve_54 : decode cX9_solve 54 = .ok (.bipush 60, 2) := by decide +kernel
theorem dX9_solve_56 : decode cX9_solve 56 = .ok (.if_icmp .gt 76, 3) := by decide +kernel
theorem dX9_solve_59 : decode cX9_solve 59 = .ok (.aload_n 0, 1) := by decide +kernel
theorem dX9_solve_60 : decode cX9_solve 60 = .ok (.iload_n 1, 1) := by decide +kernel
theorem dX9_solve_61 : decode cX9_solve 61 = .ok (.iload_n 2, 1) := by decide +kernel
theorem dX9_solve_62 : decode cX9_solve 62 = .ok (.aload_n 0, 1) := by decide +kernel
theorem dX9_solve_63 : decode cX9_solve 63 = .ok (.getfield 17, 3) := by decide +kernel
theorem dX9_solve_66 : decode cX9_solve 66 = .ok (.iload_n 3, 1) := by decide +kernel
theorem dX9_solve_67 : decode cX9_solve 67 = .ok (.iaload, 1) := by decide +kernel
theorem dX9_solve_68 : decode cX9_solve 68 = .ok (.aload_n 0, 1) := by decide +kernel
theorem dX9_solve_69 : decode cX9_solve 69 = .ok (.getfield 20, 3) := by decide +kernel
theorem dX9_solve_72 : decode cX9_solve 72 = .ok (.iload_n 3, 1) := by decide +kernel
theorem dX9_solve_73 : decode cX9_solve 73 = .ok (.iaload, 1) := by decide +kernel
theorem dX9_solve_74 : decode cX9_solve 74 = .ok (.iload 6, 2) := by decide +kernel
theorem dX9_solve_76 : decode cX9_solve 76 = .ok (.iconst 1, 1) := by decide +kernel
theorem dX9_solve_77 : decode cX9_solve 77 = .ok (.invokevirtual 335, 3) := by decide +kernel
theorem dX9_solve_80 : decode cX9_solve 80 = .ok (.aload_n 0, 1) := by decide +kernel
theorem dX9_solve_81 : decode cX9_solve 81 = .ok (.getfield 89, 3) := by decide +kernel
theorem dX9_solve_84 : decode cX9_solve 84 = .ok (.iconst 1, 1) := by decide +kernel
theorem dX9_solve_85 : decode cX9_solve 85 = .ok (.iaload, 1) := by decide +kernel
theorem dX9_solve_86 : decode cX9_solve 86 = .ok (.ifCond .ne 40, 3) := by decide +kernel
theorem dX9_solve_89 : decode cX9_solve 89 = .ok (.aload_n 0, 1) := by decide +kernel
theorem dX9_solve_90 : decode cX9_solve 90 = .ok (.getfield 320, 3) := by decide +kernel
theorem dX9_solve_93 : decode cX9_solve 93 = .ok (.ifCond .eq 33, 3) := by decide +kernel
theorem dX9_solve_96 : decode cX9_solve 96 = .ok (.aload_n 0, 1) := by decide +kernel
theorem dX9_solve_97 : decode cX9_solve 97 = .ok (.getfield 83, 3) := by decide +kernel
theorem dX9_solve_100 : decode cX9_solve 100 = .ok (.iconst 1, 1) := by decide +kernel
theorem dX9_solve_101 : decode cX9_solve 101 = .ok (.iaload, 1) := by decide +kernel
theorem dX9_solve_102 : decode cX9_solve 102 = .ok (.iload 5, 2) := by decide +kernel
theorem dX9_solve_104 : decode cX9_solve 104 = .ok (.if_icmp .ne 22, 3) := by decide +kernel
theorem dX9_solve_107 : decode cX9_solve 107 = .ok (.aload_n 0, 1) := by decide +kernel
theorem dX9_solve_108 : decode cX9_solve 108 = .ok (.getfield 230, 3) := by decide +kernel
theorem dX9_solve_111 : decode cX9_solve 111 = .ok (.aload_n 0, 1) := by decide +kernel
theorem dX9_solve_112 : decode cX9_solve 112 = .ok (.getfield 62, 3) := by decide +kernel
theorem dX9_solve_115 : decode cX9_solve 115 = .ok (.iconst 1, 1) := by decide +kernel
theorem dX9_solve_116 : decode cX9_solve 116 = .ok (.iaload, 1) := by decide +kernel
theorem dX9_solve_117 : decode cX9_solve 117 = .ok (.isub, 1) := by decide +kernel
theorem dX9_solve_118 : decode cX9_solve 118 = .ok (.iload 4, 2) := by decide +kernel
theorem dX9_solve_120 : decode cX9_solve 120 = .ok (.if_icmp .gt 6, 3) := by decide +kernel
theorem dX9_solve_123 : decode cX9_solve 123 = .ok (.iload 6, 2) := by decide +kernel
theorem dX9_solve_125 : decode cX9_solve 125 = .ok (.ireturn, 1) := by decide +kernel
theorem dX9_solve_126 : decode cX9_solve 126 = .ok (.iinc 6 1, 3) := by decide +kernel
theorem dX9_solve_129 : decode cX9_solve 129 = .ok (.goto (-77), 3) := by decide +kernel
theorem dX9_solve_132 : decode cX9_solve 132 = .ok (.iconst (-1), 1) := by decide +kernel
theorem dX9_solve_133 : decode cX9_solve 133 = .ok (.ireturn, 1) := by decide +kernel
theorem dX9_paints_0 : decode cX9_paints 0 = .ok (.iconst 0, 1) := by decide +kernel
theorem dX9_paints_1 : decode cX9_paints 1 = .ok (.istore 7, 2) := by decide +kernel
theorem dX9_paints_3 : decode cX9_paints 3 = .ok (.iload 7, 2) := by decide +kernel
theorem dX9_paints_5 : decode cX9_paints 5 = .ok (.iload 4, 2) := by decide +kernel
theorem dX9_paints_7 : decode cX9_paints 7 = .ok (.if_icmp .ge 48, 3) := by decide +kernel
theorem dX9_paints_10 : decode cX9_paints 10 = .ok (.aload_n 0, 1) := by decide +kernel
theorem dX9_paints_11 : decode cX9_paints 11 = .ok (.getfield 126, 3) := by decide +kernel
theorem dX9_paints_14 : decode cX9_paints 14 = .ok (.bipush 64, 2) := by decide +kernel
theorem dX9_paints_16 : decode cX9_paints 16 = .ok (.iload_n 1, 1) := by decide +kernel
theorem dX9_paints_17 : decode cX9_paints 17 = .ok (.imul, 1) := by decide +kernel
theorem dX9_paints_18 : decode cX9_paints 18 = .ok (.bipush 8, 2) := by decide +kernel
theorem dX9_paints_20 : decode cX9_paints 20 = .ok (.iload_n 3, 1) := by decide +kernel
theorem dX9_paints_21 : decode cX9_paints 21 = .ok (.iload 7, 2) := by decide +kernel
theorem dX9_paints_23 : decode cX9_paints 23 = .ok (.iadd, 1) := by decide +kernel
theorem dX9_paints_24 : decode cX9_paints 24 = .ok (.imul, 1) := by decide +kernel
theorem dX9_paints_25 : decode cX9_paints 25 = .ok (.iadd, 1) := by decide +kernel
theorem dX9_paints_26 : decode cX9_paints 26 = .ok (.aload_n 0, 1) := by decide +kernel
theorem dX9_paints_27 : decode cX9_paints 27 = .ok (.getfield 135, 3) := by decide +kernel
theorem dX9_paints_30 : decode cX9_paints 30 = .ok (.iload_n 1, 1) := by decide +kernel
theorem dX9_paints_31 : decode cX9_paints 31 = .ok (.iaload, 1) := by decide +kernel
theorem dX9_paints_32 : decode cX9_paints 32 = .ok (.iadd, 1) := by decide +kernel
theorem dX9_paints_33 : decode cX9_paints 33 = .ok (.aload_n 0, 1) := by decide +kernel
theorem dX9_paints_34 : decode cX9_paints 34 = .ok (.iload_n 2, 1) := by decide +kernel
theorem dX9_paints_35 : decode cX9_paints 35 = .ok (.aload_n 0, 1) := by decide +kernel
theorem dX9_paints_36 : decode cX9_paints 36 = .ok (.getfield 129, 3) := by decide +kernel
theorem dX9_paints_39 : decode cX9_paints 39 = .ok (.iload_n 1, 1) := by decide +kernel
theorem dX9_paints_40 : decode cX9_paints 40 = .ok (.iaload, 1) := by decide +kernel
theorem dX9_paints_41 : decode cX9_paints 41 = .ok (.iload 7, 2) := by decide +kernel
theorem dX9_paints_43 : decode cX9_paints 43 = .ok (.iload 6, 2) := by decide +kernel
theorem dX9_paints_45 : decode cX9_paints 45 = .ok (.invokevirtual 354, 3) := by decide +kernel
theorem dX9_paints_48 : decode cX9_paints 48 = .ok (.iastore, 1) := by decide +kernel
theorem dX9_paints_49 : decode cX9_paints 49 = .ok (.iinc 7 1, 3) := by decide +kernel
theorem dX9_paints_52 : decode cX9_paints 52 = .ok (.goto (-49), 3) := by decide +kernel
theorem dX9_paints_55 : decode cX9_paints 55 = .ok (.aload_n 0, 1) := by decide +kernel
theorem dX9_paints_56 : decode cX9_paints 56 = .ok (.getfield 129, 3) := by decide +kernel
theorem dX9_paints_59 : decode cX9_paints 59 = .ok (.iload_n 1, 1) := by decide +kernel
theorem dX9_paints_60 : decode cX9_paints 60 = .ok (.dup2, 1) := by decide +kernel
theorem dX9_paints_61 : decode cX9_paints 61 = .ok (.iaload, 1) := by decide +kernel
theorem dX9_paints_62 : decode cX9_paints 62 = .ok (.iload 5, 2) := by decide +kernel
theorem dX9_paints_64 : decode cX9_paints 64 = .ok (.iadd, 1) := by decide +kernel
theorem dX9_paints_65 : decode cX9_paints 65 = .ok (.iastore, 1) := by decide +kernel
theorem dX9_paints_66 : decode cX9_paints 66 = .ok (.return_, 1) := by decide +kernel
section
variable {d : Nat} {M : gM} {Z : Option Value → gM → Prop} {a0 a1 a2 a3 a4 a5 a6 a7 a8 a9 a10 a11 a12 : Option Value} {v s0 s1 s2 s3 s4 s5 s6 s7 s8 s9 s10 s11 : Value} {x y w : Int32} {o b u1 u2 : Nat}
/-! 181: X9_pull (II)I -/
theorem gd181 {pc : Nat} {r : Except _ _} (h : decode cX9_pull pc = r) : decode (gby 181) pc = r := h
theorem z181_0 : Run d 181 0 [some (.ref o), a1, a2] [] M 0 0 Z ↔ Run d 181 1 [some (.ref o), a1, a2] [.ref o] M 0 0 Z := R_local (gd181 dX9_pull_0) rfl rfl rfl
theorem z181_1 : Run d 181 1 [a0, a1, a2] [.ref o] M 0 0 Z ↔ gObj M o 9 ∧ Run d 181 4 [a0, a1, a2] [.int (M.1 o 51)] M 0 0 Z := R_getI (gd181 dX9_pull_1) rfl gf_9_339 rfl
theorem z181_4 : Run d 181 4 [a0, a1, a2] [.int x] M 0 0 Z ↔ (x = 0 → Run d 181 42 [a0, a1, a2] [] M 0 0 Z) ∧ (¬ (x = 0) → Run d 181 7 [a0, a1, a2] [] M 0 0 Z) := R_if (gd181 dX9_pull_4) (show gTgt 4 38 = some 42 by decide) gIf_eq
theorem z181_7 : Run d 181 7 [a0, some (.int x), a2] [] M 0 0 Z ↔ Run d 181 8 [a0, some (.int x), a2] [.int x] M 0 0 Z := R_local (gd181 dX9_pull_7) rfl rfl rfl
theorem z181_8 : Run d 181 8 [a0, a1, a2] [s0] M 0 0 Z ↔ Run d 181 9 [a0, a1, a2] [.int 0, s0] M 0 0 Z := R_iconst (gd181 dX9_pull_8) (by decide)
theorem z181_9 : Run d 181 9 [a0, a1, a2] [s1, s0] M 0 0 Z ↔ Run d 181 10 [a0, a1, a2] [.int 5, s1, s0] M 0 0 Z := R_iconst (gd181 dX9_pull_9) (by decide)
theorem z181_10 : Run d 181 10 [a0, a1, a2] [s2, s1, s0] M 0 0 Z ↔ Call d 120 [s0, s1, s2] M (fun r M1 => Run d 181 13 [a0, a1, a2] (r.toList ++ []) M1 0 0 Z) := R_call (gd181 dX9_pull_10) rfl rfl rfl rfl rfl rfl gc_9_157 rfl (by decide) (Nat.le_of_ble_eq_true rfl) (Nat.le_of_ble_eq_true rfl) rfl rfl rfl (Nat.le_of_ble_eq_true rfl) (Nat.le_of_ble_eq_true rfl)
theorem z181_13 : Run d 181 13 [a0, a1, a2] [.int x] M 0 0 Z ↔ (x = 0 → Run d 181 42 [a0, a1, a2] [] M 0 0 Z) ∧ (¬ (x = 0) → Run d 181 16 [a0, a1, a2] [] M 0 0 Z) := R_if (gd181 dX9_pull_13) (show gTgt 13 29 = some 42 by decide) gIf_eq
theorem z181_16 : Run d 181 16 [a0, a1, some (.int x)] [] M 0 0 Z ↔ Run d 181 17 [a0, a1, some (.int x)] [.int x] M 0 0 Z := R_local (gd181 dX9_pull_16) rfl rfl rfl
theorem z181_17 : Run d 181 17 [a0, a1, a2] [s0] M 0 0 Z ↔ Run d 181 18 [a0, a1, a2] [.int 0, s0] M 0 0 Z := R_iconst (gd181 dX9_pull_17) (by decide)
theorem z181_18 : Run d 181 18 [some (.ref o), a1, a2] [s1, s0] M 0 0 Z ↔ Run d 181 19 [some (.ref o), a1, a2] [.ref o, s1, s0] M 0 0 Z := R_local (gd181 dX9_pull_18) rfl rfl rfl
theorem z181_19 : Run d 181 19 [a0, a1, a2] [.ref o, s1, s0] M 0 0 Z ↔ gObj M o 9 ∧ Run d 181 22 [a0, a1, a2] [va_rf (M.2.1 o 26), s1, s0] M 0 0 Z := R_getR (gd181 dX9_pull_19) rfl gf_9_65 rfl
theorem z181_22 : Run d 181 22 [a0, a1, a2] [s2, s1, s0] M 0 0 Z ↔ Run d 181 23 [a0, a1, a2] [.int 0, s2, s1, s0] M 0 0 Z := R_iconst (gd181 dX9_pull_22) (by decide)
theorem z181_23 : Run d 181 23 [a0, a1, a2] [.int x, .ref o, s1, s0] M 0 0 Z ↔ gAr M o 0 ∧ gIn x (gLen M o) = true ∧ Run d 181 24 [a0, a1, a2] [.int (M.1 o x.toNatClampNeg), s1, s0] M 0 0 Z := R_iald (gd181 dX9_pull_23)
theorem z181_24 : Run d 181 24 [a0, a1, a2] [s2, s1, s0] M 0 0 Z ↔ Run d 181 25 [a0, a1, a2] [.int 1, s2, s1, s0] M 0 0 Z := R_iconst (gd181 dX9_pull_24) (by decide)
theorem z181_25 : Run d 181 25 [a0, a1, a2] [.int y, .int x, s1, s0] M 0 0 Z ↔ Run d 181 26 [a0, a1, a2] [.int (x - y), s1, s0] M 0 0 Z := R_arith (gd181 dX9_pull_25) rfl
theorem z181_26 : Run d 181 26 [a0, a1, a2] [s2, s1, s0] M 0 0 Z ↔ Call d 120 [s0, s1, s2] M (fun r M1 => Run d 181 29 [a0, a1, a2] (r.toList ++ []) M1 0 0 Z) := R_call (gd181 dX9_pull_26) rfl rfl rfl rfl rfl rfl gc_9_157 rfl (by decide) (Nat.le_of_ble_eq_true rfl) (Nat.le_of_ble_eq_true rfl) rfl rfl rfl (Nat.le_of_ble_eq_true rfl) (Nat.le_of_ble_eq_true rfl)
theorem z181_29 : Run d 181 29 [a0, a1, a2] [.int x] M 0 0 Z ↔ (x = 0 → Run d 181 42 [a0, a1, a2] [] M 0 0 Z) ∧ (¬ (x = 0) → Run d 181 32 [a0, a1, a2] [] M 0 0 Z) := R_if (gd181 dX9_pull_29) (show gTgt 29 13 = some 42 by decide) gIf_eq
theorem z181_32 : Run d 181 32 [some (.ref o), a1, a2] [] M 0 0 Z ↔ Run d 181 33 [some (.ref o), a1, a2] [.ref o] M 0 0 Z := R_local (gd181 dX9_pull_32) rfl rfl rfl
theorem z181_33 : Run d 181 33 [a0, some (.int x), a2] [s0] M 0 0 Z ↔ Run d 181 34 [a0, some (.int x), a2] [.int x, s0] M 0 0 Z := R_local (gd181 dX9_pull_33) rfl rfl rfl
theorem z181_34 : Run d 181 34 [a0, a1, some (.int x)] [s1, s0] M 0 0 Z ↔ Run d 181 35 [a0, a1, some (.int x)] [.int x, s1, s0] M 0 0 Z := R_local (gd181 dX9_pull_34) rfl rfl rfl
theorem z181_35 : Run d 181 35 [a0, a1, a2] [s2, s1, s0] M 0 0 Z ↔ Run d 181 36 [a0, a1, a2] [.int 0, s2, s1, s0] M 0 0 Z := R_iconst (gd181 dX9_pull_35) (by decide)
theorem z181_36 : Run d 181 36 [a0, a1, a2] [s3, s2, s1, .ref b] M 0 0 Z ↔ gObj M b 9 ∧ Call d 180 [.ref b, s1, s2, s3] M (fun r M1 => Run d 181 39 [a0, a1, a2] (r.toList ++ []) M1 0 0 Z) := R_callV (gd181 dX9_pull_36) rfl rfl rfl rfl rfl rfl gc_9_376 rfl rfl (Nat.le_of_ble_eq_true rfl) (Nat.le_of_ble_eq_true rfl) rfl rfl (Nat.le_of_ble_eq_true rfl) (Nat.le_of_ble_eq_true rfl)
theorem z181_39 : Run d 181 39 [a0, a1, a2] [s0] M 0 0 Z ↔ Run d 181 43 [a0, a1, a2] [s0] M 0 0 Z := R_goto (gd181 dX9_pull_39) (show gTgt 39 4 = some 43 by decide)
theorem z181_42 : Run d 181 42 [a0, a1, a2] [] M 0 0 Z ↔ Run d 181 43 [a0, a1, a2] [.int (-1)] M 0 0 Z := R_iconst (gd181 dX9_pull_42) (by decide)
theorem z181_43 : Run d 181 43 [a0, a1, a2] [.int x] M 0 0 Z ↔ Z (some (.int x)) M := R_iret (gd181 dX9_pull_43) rfl
theorem e181 : Call (d + 1) 181 [s0, s1, s2] M Z ↔ Run d 181 0 [some s0, some s1, some s2] [] M 0 0 Z := Call_iff (Nat.lt_of_lt_of_le (Nat.lt_succ_self 181) (Nat.le_of_ble_eq_true rfl)) (Nat.le_of_ble_eq_true rfl)
/-! 182: X9_hasLayers (I)Z -/
theorem gd182 {pc : Nat} {r : Except _ _} (h : decode cX9_hasLayers pc = r) : decode (gby 182) pc = r := h
theorem z182_0 : Run d 182 0 [a0, a1, a2] [] M 0 0 Z ↔ Run d 182 1 [a0, a1, a2] [.int 0] M 0 0 Z := R_iconst (gd182 dX9_hasLayers_0) (by decide)
theorem z182_1 : Run d 182 1 [a0, a1, a2] [.int x] M 0 0 Z ↔ Run d 182 2 [a0, a1, some (.int x)] [] M 0 0 Z := R_local (gd182 dX9_hasLayers_1) rfl rfl rfl
theorem z182_2 : Run d 182 2 [a0, a1, some (.int x)] [] M 0 0 Z ↔ Run d 182 3 [a0, a1, some (.int x)] [.int x] M 0 0 Z := R_local (gd182 dX9_hasLayers_2) rfl rfl rfl
theorem z182_3 : Run d 182 3 [some (.ref o), a1, a2] [s0] M 0 0 Z ↔ Run d 182 4 [some (.ref o), a1, a2] [.ref o, s0] M 0 0 Z := R_local (gd182 dX9_hasLayers_3) rfl rfl rfl
theorem z182_4 : Run d 182 4 [a0, a1, a2] [.ref o, s0] M 0 0 Z ↔ gObj M o 9 ∧ Run d 182 7 [a0, a1, a2] [va_rf (M.2.1 o 27), s0] M 0 0 Z := R_getR (gd182 dX9_hasLayers_4) rfl gf_9_68 rfl
theorem z182_7 : Run d 182 7 [a0, a1, a2] [s1, s0] M 0 0 Z ↔ Run d 182 8 [a0, a1, a2] [.int 0, s1, s0] M 0 0 Z := R_iconst (gd182 dX9_hasLayers_7) (by decide)
theorem z182_8 : Run d 182 8 [a0, a1, a2] [.int x, .ref o, s0] M 0 0 Z ↔ gAr M o 0 ∧ gIn x (gLen M o) = true ∧ Run d 182 9 [a0, a1, a2] [.int (M.1 o x.toNatClampNeg), s0] M 0 0 Z := R_iald (gd182 dX9_hasLayers_8)
theorem z182_9 : Run d 182 9 [a0, a1, a2] [.int y, .int x] M 0 0 Z ↔ (y ≤ x → Run d 182 30 [a0, a1, a2] [] M 0 0 Z) ∧ (¬ (y ≤ x) → Run d 182 12 [a0, a1, a2] [] M 0 0 Z) := R_icmp (gd182 dX9_hasLayers_9) (show gTgt 9 21 = some 30 by decide) gIf_ge
theorem z182_12 : Run d 182 12 [some (.ref o), a1, a2] [] M 0 0 Z ↔ Run d 182 13 [some (.ref o), a1, a2] [.ref o] M 0 0 Z := R_local (gd182 dX9_hasLayers_12) rfl rfl rfl
theorem z182_13 : Run d 182 13 [a0, a1, a2] [.ref o] M 0 0 Z ↔ gObj M o 9 ∧ Run d 182 16 [a0, a1, a2] [va_rf (M.2.1 o 17)] M 0 0 Z := R_getR (gd182 dX9_hasLayers_13) rfl gf_9_38 rfl
theorem z182_16 : Run d 182 16 [a0, a1, some (.int x)] [s0] M 0 0 Z ↔ Run d 182 17 [a0, a1, some (.int x)] [.int x, s0] M 0 0 Z := R_local (gd182 dX9_hasLayers_16) rfl rfl rfl
theorem z182_17 : Run d 182 17 [a0, a1, a2] [.int x, .ref o] M 0 0 Z ↔ gAr M o 0 ∧ gIn x (gLen M o) = true ∧ Run d 182 18 [a0, a1, a2] [.int (M.1 o x.toNatClampNeg)] M 0 0 Z := R_iald (gd182 dX9_hasLayers_17)
theorem z182_18 : Run d 182 18 [a0, some (.int x), a2] [s0] M 0 0 Z ↔ Run d 182 19 [a0, some (.int x), a2] [.int x, s0] M 0 0 Z := R_local (gd182 dX9_hasLayers_18) rfl rfl rfl
theorem z182_19 : Run d 182 19 [a0, a1, a2] [.int y, .int x] M 0 0 Z ↔ (¬ x = y → Run d 182 24 [a0, a1, a2] [] M 0 0 Z) ∧ (¬ (¬ x = y) → Run d 182 22 [a0, a1, a2] [] M 0 0 Z) := R_icmp (gd182 dX9_hasLayers_19) (show gTgt 19 5 = some 24 by decide) gIf_ne
theorem z182_22 : Run d 182 22 [a0, a1, a2] [] M 0 0 Z ↔ Run d 182 23 [a0, a1, a2] [.int 1] M 0 0 Z := R_iconst (gd182 dX9_hasLayers_22) (by decide)
theorem z182_23 : Run d 182 23 [a0, a1, a2] [.int x] M 0 0 Z ↔ (x = 0 ∨ x = 1) ∧ Z (some (.int x)) M := R_iretZ (gd182 dX9_hasLayers_23) rfl
theorem z182_24 : Run d 182 24 [a0, a1, some (.int x)] [] M 0 0 Z ↔ Run d 182 27 [a0, a1, some (.int (x + 1))] [] M 0 0 Z := R_iinc (gd182 dX9_hasLayers_24) (by decide) rfl rfl
theorem z182_27 : Run d 182 27 [a0, a1, a2] [] M 0 0 Z ↔ Run d 182 2 [a0, a1, a2] [] M 0 0 Z := R_goto (gd182 dX9_hasLayers_27) (show gTgt 27 (-25) = some 2 by decide)
theorem z182_30 : Run d 182 30 [a0, a1, a2] [] M 0 0 Z ↔ Run d 182 31 [a0, a1, a2] [.int 0] M 0 0 Z := R_iconst (gd182 dX9_hasLayers_30) (by decide)
theorem z182_31 : Run d 182 31 [a0, a1, a2] [.int x] M 0 0 Z ↔ (x = 0 ∨ x = 1) ∧ Z (some (.int x)) M := R_iretZ (gd182 dX9_hasLayers_31) rfl
theorem e182 : Call (d + 1) 182 [s0, s1] M Z ↔ Run d 182 0 [some s0, some s1, none] [] M 0 0 Z := Call_iff (Nat.lt_of_lt_of_le (Nat.lt_succ_self 182) (Nat.le_of_ble_eq_true rfl)) (Nat.le_of_ble_eq_true rfl)
/-! 183: X9_moves (I)I -/
theorem gd183 {pc : Nat} {r : Except _ _} (h : decode cX9_moves pc = r) : decode (gby 183) pc = r := h
theorem z183_0 : Run d 183 0 [some (.ref o), a1, a2, a3] [] M 0 0 Z ↔ Run d 183 1 [some (.ref o), a1, a2, a3] [.ref o] M 0 0 Z := R_local (gd183 dX9_moves_0) rfl rfl rfl
theorem z183_1 : Run d 183 1 [a0, a1, a2, a3] [.ref o] M 0 0 Z ↔ gObj M o 9 ∧ Run d 183 4 [a0, a1, a2, a3] [.int (M.1 o 51)] M 0 0 Z := R_getI (gd183 dX9_moves_1) rfl gf_9_339 rfl
theorem z183_4 : Run d 183 4 [a0, a1, a2, a3] [.int x] M 0 0 Z ↔ (x = 0 → Run d 183 25 [a0, a1, a2, a3] [] M 0 0 Z) ∧ (¬ (x = 0) → Run d 183 7 [a0, a1, a2, a3] [] M 0 0 Z) := R_if (gd183 dX9_moves_4) (show gTgt 4 21 = some 25 by decide) gIf_eq
theorem z183_7 : Run d 183 7 [a0, some (.int x), a2, a3] [] M 0 0 Z ↔ Run d 183 8 [a0, some (.int x), a2, a3] [.int x] M 0 0 Z := R_local (gd183 dX9_moves_7) rfl rfl rfl
theorem z183_8 : Run d 183 8 [a0, a1, a2, a3] [s0] M 0 0 Z ↔ Run d 183 9 [a0, a1, a2, a3] [.int 1, s0] M 0 0 Z := R_iconst (gd183 dX9_moves_8) (by decide)
theorem z183_9 : Run d 183 9 [a0, a1, a2, a3] [s1, s0] M 0 0 Z ↔ Run d 183 11 [a0, a1, a2, a3] [.int 6, s1, s0] M 0 0 Z := R_bipush (gd183 dX9_moves_9) (by decide)
theorem z183_11 : Run d 183 11 [a0, a1, a2, a3] [s2, s1, s0] M 0 0 Z ↔ Call d 120 [s0, s1, s2] M (fun r M1 => Run d 183 14 [a0, a1, a2, a3] (r.toList ++ []) M1 0 0 Z) := R_call (gd183 dX9_moves_11) rfl rfl rfl rfl rfl rfl gc_9_157 rfl (by decide) (Nat.le_of_ble_eq_true rfl) (Nat.le_of_ble_eq_true rfl) rfl rfl rfl (Nat.le_of_ble_eq_true rfl) (Nat.le_of_ble_eq_true rfl)
theorem z183_14 : Run d 183 14 [a0, a1, a2, a3] [.int x] M 0 0 Z ↔ (x = 0 → Run d 183 25 [a0, a1, a2, a3] [] M 0 0 Z) ∧ (¬ (x = 0) → Run d 183 17 [a0, a1, a2, a3] [] M 0 0 Z) := R_if (gd183 dX9_moves_14) (show gTgt 14 11 = some 25 by decide) gIf_eq
theorem z183_17 : Run d 183 17 [a0, some (.int x), a2, a3] [] M 0 0 Z ↔ Run d 183 18 [a0, some (.int x), a2, a3] [.int x] M 0 0 Z := R_local (gd183 dX9_moves_17) rfl rfl rfl
theorem z183_18 : Run d 183 18 [some (.ref o), a1, a2, a3] [s0] M 0 0 Z ↔ Run d 183 19 [some (.ref o), a1, a2, a3] [.ref o, s0] M 0 0 Z := R_local (gd183 dX9_moves_18) rfl rfl rfl
theorem z183_19 : Run d 183 19 [a0, a1, a2, a3] [.ref o, s0] M 0 0 Z ↔ gObj M o 9 ∧ Run d 183 22 [a0, a1, a2, a3] [.int (M.1 o 1), s0] M 0 0 Z := R_getI (gd183 dX9_moves_19) rfl gf_9_171 rfl
theorem z183_22 : Run d 183 22 [a0, a1, a2, a3] [.int y, .int x] M 0 0 Z ↔ (x ≤ y → Run d 183 27 [a0, a1, a2, a3] [] M 0 0 Z) ∧ (¬ (x ≤ y) → Run d 183 25 [a0, a1, a2, a3] [] M 0 0 Z) := R_icmp (gd183 dX9_moves_22) (show gTgt 22 5 = some 27 by decide) gIf_le
theorem z183_25 : Run d 183 25 [a0, a1, a2, a3] [] M 0 0 Z ↔ Run d 183 26 [a0, a1, a2, a3] [.int (-1)] M 0 0 Z := R_iconst (gd183 dX9_moves_25) (by decide)
theorem z183_26 : Run d 183 26 [a0, a1, a2, a3] [.int x] M 0 0 Z ↔ Z (some (.int x)) M := R_iret (gd183 dX9_moves_26) rfl
theorem z183_27 : Run d 183 27 [some (.ref o), a1, a2, a3] [] M 0 0 Z ↔ Run d 183 28 [some (.ref o), a1, a2, a3] [.ref o] M 0 0 Z := R_local (gd183 dX9_moves_27) rfl rfl rfl
theorem z183_28 : Run d 183 28 [a0, a1, a2, a3] [s0] M 0 0 Z ↔ Run d 183 29 [a0, a1, a2, a3] [.int 0, s0] M 0 0 Z := R_iconst (gd183 dX9_moves_28) (by decide)
theorem z183_29 : Run d 183 29 [a0, a1, a2, a3] [.int x, .ref o] M 0 0 Z ↔ gObj M o 9 ∧ Run d 183 32 [a0, a1, a2, a3] [] (gsI M o 1 x) 0 0 Z := R_putI (gd183 dX9_moves_29) rfl gf_9_171 (Or.inl rfl) rfl
theorem z183_32 : Run d 183 32 [a0, a1, a2, a3] [] M 0 0 Z ↔ Run d 183 33 [a0, a1, a2, a3] [.int 0] M 0 0 Z := R_iconst (gd183 dX9_moves_32) (by decide)
theorem z183_33 : Run d 183 33 [a0, a1, a2, a3] [.int x] M 0 0 Z ↔ Run d 183 34 [a0, a1, some (.int x), a3] [] M 0 0 Z := R_local (gd183 dX9_moves_33) rfl rfl rfl
theorem z183_34 : Run d 183 34 [a0, a1, some (.int x), a3] [] M 0 0 Z ↔ Run d 183 35 [a0, a1, some (.int x), a3] [.int x] M 0 0 Z := R_local (gd183 dX9_moves_34) rfl rfl rfl
theorem z183_35 : Run d 183 35 [a0, some (.int x), a2, a3] [s0] M 0 0 Z ↔ Run d 183 36 [a0, some (.int x), a2, a3] [.int x, s0] M 0 0 Z := R_local (gd183 dX9_moves_35) rfl rfl rfl
theorem z183_36 : Run d 183 36 [a0, a1, a2, a3] [.int y, .int x] M 0 0 Z ↔ (y ≤ x → Run d 183 61 [a0, a1, a2, a3] [] M 0 0 Z) ∧ (¬ (y ≤ x) → Run d 183 39 [a0, a1, a2, a3] [] M 0 0 Z) := R_icmp (gd183 dX9_moves_36) (show gTgt 36 25 = some 61 by decide) gIf_ge
theorem z183_39 : Run d 183 39 [some (.ref o), a1, a2, a3] [] M 0 0 Z ↔ Run d 183 40 [some (.ref o), a1, a2, a3] [.ref o] M 0 0 Z := R_local (gd183 dX9_moves_39) rfl rfl rfl
theorem z183_40 : Run d 183 40 [a0, a1, a2, a3] [.ref o] M 0 0 Z ↔ gObj M o 9 ∧ Run d 183 43 [a0, a1, a2, a3] [va_rf (M.2.1 o 0)] M 0 0 Z := R_getR (gd183 dX9_moves_40) rfl gf_9_7 rfl
theorem z183_43 : Run d 183 43 [a0, a1, some (.int x), a3] [s0] M 0 0 Z ↔ Run d 183 44 [a0, a1, some (.int x), a3] [.int x, s0] M 0 0 Z := R_local (gd183 dX9_moves_43) rfl rfl rfl
theorem z183_44 (hg : gAr M o 1) : Run d 183 44 [a0, a1, a2, a3] [.int x, .ref o] M 0 0 Z ↔ gIn x (gLen M o) = true ∧ Run d 183 45 [a0, a1, a2, a3] [.int (M.1 o x.toNatClampNeg)] M 0 0 Z := R_bald (gd183 dX9_moves_44) (by decide) hg
theorem z183_45 : Run d 183 45 [a0, a1, a2, a3] [s0] M 0 0 Z ↔ Run d 183 46 [a0, a1, a2, a3] [.int 0, s0] M 0 0 Z := R_iconst (gd183 dX9_moves_45) (by decide)
theorem z183_46 : Run d 183 46 [a0, a1, a2, a3] [s1, s0] M 0 0 Z ↔ Run d 183 47 [a0, a1, a2, a3] [.int 5, s1, s0] M 0 0 Z := R_iconst (gd183 dX9_moves_46) (by decide)
theorem z183_47 : Run d 183 47 [a0, a1, a2, a3] [s2, s1, s0] M 0 0 Z ↔ Call d 120 [s0, s1, s2] M (fun r M1 => Run d 183 50 [a0, a1, a2, a3] (r.toList ++ []) M1 0 0 Z) := R_call (gd183 dX9_moves_47) rfl rfl rfl rfl rfl rfl gc_9_157 rfl (by decide) (Nat.le_of_ble_eq_true rfl) (Nat.le_of_ble_eq_true rfl) rfl rfl rfl (Nat.le_of_ble_eq_true rfl) (Nat.le_of_ble_eq_true rfl)
theorem z183_50 : Run d 183 50 [a0, a1, a2, a3] [.int x] M 0 0 Z ↔ (¬ x = 0 → Run d 183 55 [a0, a1, a2, a3] [] M 0 0 Z) ∧ (¬ (¬ x = 0) → Run d 183 53 [a0, a1, a2, a3] [] M 0 0 Z) := R_if (gd183 dX9_moves_50) (show gTgt 50 5 = some 55 by decide) gIf_ne
theorem z183_53 : Run d 183 53 [a0, a1, a2, a3] [] M 0 0 Z ↔ Run d 183 54 [a0, a1, a2, a3] [.int (-1)] M 0 0 Z := R_iconst (gd183 dX9_moves_53) (by decide)
theorem z183_54 : Run d 183 54 [a0, a1, a2, a3] [.int x] M 0 0 Z ↔ Z (some (.int x)) M := R_iret (gd183 dX9_moves_54) rfl
theorem z183_55 : Run d 183 55 [a0, a1, some (.int x), a3] [] M 0 0 Z ↔ Run d 183 58 [a0, a1, some (.int (x + 1)), a3] [] M 0 0 Z := R_iinc (gd183 dX9_moves_55) (by decide) rfl rfl
theorem z183_58 : Run d 183 58 [a0, a1, a2, a3] [] M 0 0 Z ↔ Run d 183 34 [a0, a1, a2, a3] [] M 0 0 Z := R_goto (gd183 dX9_moves_58) (show gTgt 58 (-24) = some 34 by decide)
theorem z183_61 : Run d 183 61 [some (.ref o), a1, a2, a3] [] M 0 0 Z ↔ Run d 183 62 [some (.ref o), a1, a2, a3] [.ref o] M 0 0 Z := R_local (gd183 dX9_moves_61) rfl rfl rfl
theorem z183_62 : Run d 183 62 [a0, a1, a2, a3] [s0] M 0 0 Z ↔ Run d 183 63 [a0, a1, a2, a3] [.int 1, s0] M 0 0 Z := R_iconst (gd183 dX9_moves_62) (by decide)
theorem z183_63 : Run d 183 63 [a0, a1, a2, a3] [.int x, .ref o] M 0 0 Z ↔ gObj M o 9 ∧ (x = 0 ∨ x = 1) ∧ Run d 183 66 [a0, a1, a2, a3] [] (gsI M o 52 x) 0 0 Z := R_putZ (gd183 dX9_moves_63) rfl gf_9_342 (Or.inl rfl) rfl
theorem z183_66 : Run d 183 66 [some (.ref o), a1, a2, a3] [] M 0 0 Z ↔ Run d 183 67 [some (.ref o), a1, a2, a3] [.ref o] M 0 0 Z := R_local (gd183 dX9_moves_66) rfl rfl rfl
theorem z183_67 : Run d 183 67 [a0, some (.int x), a2, a3] [s0] M 0 0 Z ↔ Run d 183 68 [a0, some (.int x), a2, a3] [.int x, s0] M 0 0 Z := R_local (gd183 dX9_moves_67) rfl rfl rfl
theorem z183_68 : Run d 183 68 [a0, a1, a2, a3] [.int x, .ref o] M 0 0 Z ↔ gObj M o 9 ∧ Run d 183 71 [a0, a1, a2, a3] [] (gsI M o 60 x) 0 0 Z := R_putI (gd183 dX9_moves_68) rfl gf_9_379 (Or.inl rfl) rfl
theorem z183_71 : Run d 183 71 [some (.ref o), a1, a2, a3] [] M 0 0 Z ↔ Run d 183 72 [some (.ref o), a1, a2, a3] [.ref o] M 0 0 Z := R_local (gd183 dX9_moves_71) rfl rfl rfl
theorem z183_72 : Run d 183 72 [a0, a1, a2, a3] [s0] M 0 0 Z ↔ Run d 183 73 [a0, a1, a2, a3] [.int 0, s0] M 0 0 Z := R_iconst (gd183 dX9_moves_72) (by decide)
theorem z183_73 : Run d 183 73 [a0, a1, a2, a3] [.int x, .ref o] M 0 0 Z ↔ gObj M o 9 ∧ Run d 183 76 [a0, a1, a2, a3] [] (gsI M o 61 x) 0 0 Z := R_putI (gd183 dX9_moves_73) rfl gf_9_382 (Or.inl rfl) rfl
theorem z183_76 : Run d 183 76 [a0, a1, a2, a3] [] M 0 0 Z ↔ Run d 183 77 [a0, a1, a2, a3] [.int 0] M 0 0 Z := R_iconst (gd183 dX9_moves_76) (by decide)
theorem z183_77 : Run d 183 77 [a0, a1, a2, a3] [.int x] M 0 0 Z ↔ Run d 183 78 [a0, a1, some (.int x), a3] [] M 0 0 Z := R_local (gd183 dX9_moves_77) rfl rfl rfl
theorem z183_78 : Run d 183 78 [a0, a1, some (.int x), a3] [] M 0 0 Z ↔ Run d 183 79 [a0, a1, some (.int x), a3] [.int x] M 0 0 Z := R_local (gd183 dX9_moves_78) rfl rfl rfl
theorem z183_79 : Run d 183 79 [a0, some (.int x), a2, a3] [s0] M 0 0 Z ↔ Run d 183 80 [a0, some (.int x), a2, a3] [.int x, s0] M 0 0 Z := R_local (gd183 dX9_moves_79) rfl rfl rfl
theorem z183_80 : Run d 183 80 [a0, a1, a2, a3] [.int y, .int x] M 0 0 Z ↔ (y ≤ x → Run d 183 101 [a0, a1, a2, a3] [] M 0 0 Z) ∧ (¬ (y ≤ x) → Run d 183 83 [a0, a1, a2, a3] [] M 0 0 Z) := R_icmp (gd183 dX9_moves_80) (show gTgt 80 21 = some 101 by decide) gIf_ge
theorem z183_83 : Run d 183 83 [some (.ref o), a1, a2, a3] [] M 0 0 Z ↔ Run d 183 84 [some (.ref o), a1, a2, a3] [.ref o] M 0 0 Z := R_local (gd183 dX9_moves_83) rfl rfl rfl
theorem z183_84 : Run d 183 84 [a0, a1, a2, a3] [.ref o] M 0 0 Z ↔ gObj M o 9 ∧ Run d 183 87 [a0, a1, a2, a3] [va_rf (M.2.1 o 58)] M 0 0 Z := R_getR (gd183 dX9_moves_84) rfl gf_9_120 rfl
theorem z183_87 : Run d 183 87 [a0, a1, some (.int x), a3] [s0] M 0 0 Z ↔ Run d 183 88 [a0, a1, some (.int x), a3] [.int x, s0] M 0 0 Z := R_local (gd183 dX9_moves_87) rfl rfl rfl
theorem z183_88 : Run d 183 88 [some (.ref o), a1, a2, a3] [s1, s0] M 0 0 Z ↔ Run d 183 89 [some (.ref o), a1, a2, a3] [.ref o, s1, s0] M 0 0 Z := R_local (gd183 dX9_moves_88) rfl rfl rfl
theorem z183_89 : Run d 183 89 [a0, a1, a2, a3] [.ref o, s1, s0] M 0 0 Z ↔ gObj M o 9 ∧ Run d 183 92 [a0, a1, a2, a3] [va_rf (M.2.1 o 0), s1, s0] M 0 0 Z := R_getR (gd183 dX9_moves_89) rfl gf_9_7 rfl
theorem z183_92 : Run d 183 92 [a0, a1, some (.int x), a3] [s2, s1, s0] M 0 0 Z ↔ Run d 183 93 [a0, a1, some (.int x), a3] [.int x, s2, s1, s0] M 0 0 Z := R_local (gd183 dX9_moves_92) rfl rfl rfl
theorem z183_93 (hg : gAr M o 1) : Run d 183 93 [a0, a1, a2, a3] [.int x, .ref o, s1, s0] M 0 0 Z ↔ gIn x (gLen M o) = true ∧ Run d 183 94 [a0, a1, a2, a3] [.int (M.1 o x.toNatClampNeg), s1, s0] M 0 0 Z := R_bald (gd183 dX9_moves_93) (by decide) hg
theorem z183_94 : Run d 183 94 [a0, a1, a2, a3] [.int y, .int x, .ref o] M 0 0 Z ↔ gAr M o 0 ∧ gIn x (gLen M o) = true ∧ Run d 183 95 [a0, a1, a2, a3] [] (gsI M o x.toNatClampNeg y) 0 0 Z := R_iast (gd183 dX9_moves_94)
theorem z183_95 : Run d 183 95 [a0, a1, some (.int x), a3] [] M 0 0 Z ↔ Run d 183 98 [a0, a1, some (.int (x + 1)), a3] [] M 0 0 Z := R_iinc (gd183 dX9_moves_95) (by decide) rfl rfl
theorem z183_98 : Run d 183 98 [a0, a1, a2, a3] [] M 0 0 Z ↔ Run d 183 78 [a0, a1, a2, a3] [] M 0 0 Z := R_goto (gd183 dX9_moves_98) (show gTgt 98 (-20) = some 78 by decide)
theorem z183_101 : Run d 183 101 [a0, a1, a2, a3] [] M 0 0 Z ↔ Run d 183 102 [a0, a1, a2, a3] [.int 0] M 0 0 Z := R_iconst (gd183 dX9_moves_101) (by decide)
theorem z183_102 : Run d 183 102 [a0, a1, a2, a3] [.int x] M 0 0 Z ↔ Run d 183 103 [a0, a1, some (.int x), a3] [] M 0 0 Z := R_local (gd183 dX9_moves_102) rfl rfl rfl
theorem z183_103 : Run d 183 103 [a0, a1, some (.int x), a3] [] M 0 0 Z ↔ Run d 183 104 [a0, a1, some (.int x), a3] [.int x] M 0 0 Z := R_local (gd183 dX9_moves_103) rfl rfl rfl
theorem z183_104 : Run d 183 104 [a0, a1, a2, a3] [s0] M 0 0 Z ↔ Run d 183 106 [a0, a1, a2, a3] [.int 48, s0] M 0 0 Z := R_bipush (gd183 dX9_moves_104) (by decide)
theorem z183_106 : Run d 183 106 [a0, a1, a2, a3] [.int y, .int x] M 0 0 Z ↔ (y ≤ x → Run d 183 127 [a0, a1, a2, a3] [] M 0 0 Z) ∧ (¬ (y ≤ x) → Run d 183 109 [a0, a1, a2, a3] [] M 0 0 Z) := R_icmp (gd183 dX9_moves_106) (show gTgt 106 21 = some 127 by decide) gIf_ge
theorem z183_109 : Run d 183 109 [some (.ref o), a1, a2, a3] [] M 0 0 Z ↔ Run d 183 110 [some (.ref o), a1, a2, a3] [.ref o] M 0 0 Z := R_local (gd183 dX9_moves_109) rfl rfl rfl
theorem z183_110 : Run d 183 110 [a0, a1, a2, a3] [.ref o] M 0 0 Z ↔ gObj M o 9 ∧ Run d 183 113 [a0, a1, a2, a3] [va_rf (M.2.1 o 57)] M 0 0 Z := R_getR (gd183 dX9_moves_110) rfl gf_9_117 rfl
theorem z183_113 : Run d 183 113 [a0, a1, some (.int x), a3] [s0] M 0 0 Z ↔ Run d 183 114 [a0, a1, some (.int x), a3] [.int x, s0] M 0 0 Z := R_local (gd183 dX9_moves_113) rfl rfl rfl
theorem z183_114 : Run d 183 114 [some (.ref o), a1, a2, a3] [s1, s0] M 0 0 Z ↔ Run d 183 115 [some (.ref o), a1, a2, a3] [.ref o, s1, s0] M 0 0 Z := R_local (gd183 dX9_moves_114) rfl rfl rfl
theorem z183_115 : Run d 183 115 [a0, a1, a2, a3] [.ref o, s1, s0] M 0 0 Z ↔ gObj M o 9 ∧ Run d 183 118 [a0, a1, a2, a3] [va_rf (M.2.1 o 56), s1, s0] M 0 0 Z := R_getR (gd183 dX9_moves_115) rfl gf_9_114 rfl
theorem z183_118 : Run d 183 118 [a0, a1, some (.int x), a3] [s2, s1, s0] M 0 0 Z ↔ Run d 183 119 [a0, a1, some (.int x), a3] [.int x, s2, s1, s0] M 0 0 Z := R_local (gd183 dX9_moves_118) rfl rfl rfl
theorem z183_119 : Run d 183 119 [a0, a1, a2, a3] [.int x, .ref o, s1, s0] M 0 0 Z ↔ gAr M o 0 ∧ gIn x (gLen M o) = true ∧ Run d 183 120 [a0, a1, a2, a3] [.int (M.1 o x.toNatClampNeg), s1, s0] M 0 0 Z := R_iald (gd183 dX9_moves_119)
theorem z183_120 : Run d 183 120 [a0, a1, a2, a3] [.int y, .int x, .ref o] M 0 0 Z ↔ gAr M o 0 ∧ gIn x (gLen M o) = true ∧ Run d 183 121 [a0, a1, a2, a3] [] (gsI M o x.toNatClampNeg y) 0 0 Z := R_iast (gd183 dX9_moves_120)
theorem z183_121 : Run d 183 121 [a0, a1, some (.int x), a3] [] M 0 0 Z ↔ Run d 183 124 [a0, a1, some (.int (x + 1)), a3] [] M 0 0 Z := R_iinc (gd183 dX9_moves_121) (by decide) rfl rfl
theorem z183_124 : Run d 183 124 [a0, a1, a2, a3] [] M 0 0 Z ↔ Run d 183 103 [a0, a1, a2, a3] [] M 0 0 Z := R_goto (gd183 dX9_moves_124) (show gTgt 124 (-21) = some 103 by decide)
theorem z183_127 : Run d 183 127 [a0, a1, a2, a3] [] M 0 0 Z ↔ Run d 183 128 [a0, a1, a2, a3] [.int 0] M 0 0 Z := R_iconst (gd183 dX9_moves_127) (by decide)
theorem z183_128 : Run d 183 128 [a0, a1, a2, a3] [.int x] M 0 0 Z ↔ Run d 183 129 [a0, a1, some (.int x), a3] [] M 0 0 Z := R_local (gd183 dX9_moves_128) rfl rfl rfl
theorem z183_129 : Run d 183 129 [a0, a1, some (.int x), a3] [] M 0 0 Z ↔ Run d 183 130 [a0, a1, some (.int x), a3] [.int x] M 0 0 Z := R_local (gd183 dX9_moves_129) rfl rfl rfl
theorem z183_130 : Run d 183 130 [some (.ref o), a1, a2, a3] [s0] M 0 0 Z ↔ Run d 183 131 [some (.ref o), a1, a2, a3] [.ref o, s0] M 0 0 Z := R_local (gd183 dX9_moves_130) rfl rfl rfl
theorem z183_131 : Run d 183 131 [a0, a1, a2, a3] [.ref o, s0] M 0 0 Z ↔ gObj M o 9 ∧ Run d 183 134 [a0, a1, a2, a3] [va_rf (M.2.1 o 26), s0] M 0 0 Z := R_getR (gd183 dX9_moves_131) rfl gf_9_65 rfl
theorem z183_134 : Run d 183 134 [a0, a1, a2, a3] [s1, s0] M 0 0 Z ↔ Run d 183 135 [a0, a1, a2, a3] [.int 0, s1, s0] M 0 0 Z := R_iconst (gd183 dX9_moves_134) (by decide)
theorem z183_135 : Run d 183 135 [a0, a1, a2, a3] [.int x, .ref o, s0] M 0 0 Z ↔ gAr M o 0 ∧ gIn x (gLen M o) = true ∧ Run d 183 136 [a0, a1, a2, a3] [.int (M.1 o x.toNatClampNeg), s0] M 0 0 Z := R_iald (gd183 dX9_moves_135)
theorem z183_136 : Run d 183 136 [a0, a1, a2, a3] [.int y, .int x] M 0 0 Z ↔ (y ≤ x → Run d 183 152 [a0, a1, a2, a3] [] M 0 0 Z) ∧ (¬ (y ≤ x) → Run d 183 139 [a0, a1, a2, a3] [] M 0 0 Z) := R_icmp (gd183 dX9_moves_136) (show gTgt 136 16 = some 152 by decide) gIf_ge
theorem z183_139 : Run d 183 139 [some (.ref o), a1, a2, a3] [] M 0 0 Z ↔ Run d 183 140 [some (.ref o), a1, a2, a3] [.ref o] M 0 0 Z := R_local (gd183 dX9_moves_139) rfl rfl rfl
theorem z183_140 : Run d 183 140 [a0, a1, a2, a3] [.ref o] M 0 0 Z ↔ gObj M o 9 ∧ Run d 183 143 [a0, a1, a2, a3] [va_rf (M.2.1 o 55)] M 0 0 Z := R_getR (gd183 dX9_moves_140) rfl gf_9_110 rfl
theorem z183_143 : Run d 183 143 [a0, a1, some (.int x), a3] [s0] M 0 0 Z ↔ Run d 183 144 [a0, a1, some (.int x), a3] [.int x, s0] M 0 0 Z := R_local (gd183 dX9_moves_143) rfl rfl rfl
theorem z183_144 : Run d 183 144 [a0, a1, a2, a3] [s1, s0] M 0 0 Z ↔ Run d 183 145 [a0, a1, a2, a3] [.int 0, s1, s0] M 0 0 Z := R_iconst (gd183 dX9_moves_144) (by decide)
theorem z183_145 (hg : gAr M o 2) : Run d 183 145 [a0, a1, a2, a3] [.int y, .int x, .ref o] M 0 0 Z ↔ gIn x (gLen M o) = true ∧ Run d 183 146 [a0, a1, a2, a3] [] (gsI M o x.toNatClampNeg (y &&& 1)) 0 0 Z := R_zast (gd183 dX9_moves_145) hg
theorem z183_146 : Run d 183 146 [a0, a1, some (.int x), a3] [] M 0 0 Z ↔ Run d 183 149 [a0, a1, some (.int (x + 1)), a3] [] M 0 0 Z := R_iinc (gd183 dX9_moves_146) (by decide) rfl rfl
theorem z183_149 : Run d 183 149 [a0, a1, a2, a3] [] M 0 0 Z ↔ Run d 183 129 [a0, a1, a2, a3] [] M 0 0 Z := R_goto (gd183 dX9_moves_149) (show gTgt 149 (-20) = some 129 by decide)
theorem z183_152 : Run d 183 152 [a0, a1, a2, a3] [] M 0 0 Z ↔ Run d 183 153 [a0, a1, a2, a3] [.int 0] M 0 0 Z := R_iconst (gd183 dX9_moves_152) (by decide)
theorem z183_153 : Run d 183 153 [a0, a1, a2, a3] [.int x] M 0 0 Z ↔ Run d 183 154 [a0, a1, some (.int x), a3] [] M 0 0 Z := R_local (gd183 dX9_moves_153) rfl rfl rfl
theorem z183_154 : Run d 183 154 [a0, a1, some (.int x), a3] [] M 0 0 Z ↔ Run d 183 155 [a0, a1, some (.int x), a3] [.int x] M 0 0 Z := R_local (gd183 dX9_moves_154) rfl rfl rfl
theorem z183_155 : Run d 183 155 [a0, some (.int x), a2, a3] [s0] M 0 0 Z ↔ Run d 183 156 [a0, some (.int x), a2, a3] [.int x, s0] M 0 0 Z := R_local (gd183 dX9_moves_155) rfl rfl rfl
theorem z183_156 : Run d 183 156 [a0, a1, a2, a3] [.int y, .int x] M 0 0 Z ↔ (y ≤ x → Run d 183 252 [a0, a1, a2, a3] [] M 0 0 Z) ∧ (¬ (y ≤ x) → Run d 183 159 [a0, a1, a2, a3] [] M 0 0 Z) := R_icmp (gd183 dX9_moves_156) (show gTgt 156 96 = some 252 by decide) gIf_ge
theorem z183_159 : Run d 183 159 [some (.ref o), a1, a2, a3] [] M 0 0 Z ↔ Run d 183 160 [some (.ref o), a1, a2, a3] [.ref o] M 0 0 Z := R_local (gd183 dX9_moves_159) rfl rfl rfl
theorem z183_160 : Run d 183 160 [a0, a1, a2, a3] [.ref o] M 0 0 Z ↔ gObj M o 9 ∧ Run d 183 163 [a0, a1, a2, a3] [va_rf (M.2.1 o 26)] M 0 0 Z := R_getR (gd183 dX9_moves_160) rfl gf_9_65 rfl
theorem z183_163 : Run d 183 163 [a0, a1, a2, a3] [s0] M 0 0 Z ↔ Run d 183 164 [a0, a1, a2, a3] [.int 0, s0] M 0 0 Z := R_iconst (gd183 dX9_moves_163) (by decide)
theorem z183_164 : Run d 183 164 [a0, a1, a2, a3] [.int x, .ref o] M 0 0 Z ↔ gAr M o 0 ∧ gIn x (gLen M o) = true ∧ Run d 183 165 [a0, a1, a2, a3] [.int (M.1 o x.toNatClampNeg)] M 0 0 Z := R_iald (gd183 dX9_moves_164)
theorem z183_165 : Run d 183 165 [a0, a1, a2, a3] [s0] M 0 0 Z ↔ Run d 183 166 [a0, a1, a2, a3] [.int 1, s0] M 0 0 Z := R_iconst (gd183 dX9_moves_165) (by decide)
theorem z183_166 : Run d 183 166 [a0, a1, a2, a3] [.int y, .int x] M 0 0 Z ↔ Run d 183 167 [a0, a1, a2, a3] [.int (x - y)] M 0 0 Z := R_arith (gd183 dX9_moves_166) rfl
theorem z183_167 : Run d 183 167 [a0, a1, a2, a3] [.int x] M 0 0 Z ↔ Run d 183 168 [a0, a1, a2, some (.int x)] [] M 0 0 Z := R_local (gd183 dX9_moves_167) rfl rfl rfl
theorem z183_168 : Run d 183 168 [a0, a1, a2, some (.int x)] [] M 0 0 Z ↔ Run d 183 169 [a0, a1, a2, some (.int x)] [.int x] M 0 0 Z := R_local (gd183 dX9_moves_168) rfl rfl rfl
theorem z183_169 : Run d 183 169 [a0, a1, a2, a3] [.int x] M 0 0 Z ↔ (x < 0 → Run d 183 246 [a0, a1, a2, a3] [] M 0 0 Z) ∧ (¬ (x < 0) → Run d 183 172 [a0, a1, a2, a3] [] M 0 0 Z) := R_if (gd183 dX9_moves_169) (show gTgt 169 77 = some 246 by decide) gIf_lt
theorem z183_172 : Run d 183 172 [some (.ref o), a1, a2, a3] [] M 0 0 Z ↔ Run d 183 173 [some (.ref o), a1, a2, a3] [.ref o] M 0 0 Z := R_local (gd183 dX9_moves_172) rfl rfl rfl
theorem z183_173 : Run d 183 173 [a0, a1, a2, a3] [.ref o] M 0 0 Z ↔ gObj M o 9 ∧ Run d 183 176 [a0, a1, a2, a3] [va_rf (M.2.1 o 55)] M 0 0 Z := R_getR (gd183 dX9_moves_173) rfl gf_9_110 rfl
theorem z183_176 : Run d 183 176 [a0, a1, a2, some (.int x)] [s0] M 0 0 Z ↔ Run d 183 177 [a0, a1, a2, some (.int x)] [.int x, s0] M 0 0 Z := R_local (gd183 dX9_moves_176) rfl rfl rfl
theorem z183_177 (hg : gAr M o 2) : Run d 183 177 [a0, a1, a2, a3] [.int x, .ref o] M 0 0 Z ↔ gIn x (gLen M o) = true ∧ Run d 183 178 [a0, a1, a2, a3] [.int (M.1 o x.toNatClampNeg)] M 0 0 Z := R_bald (gd183 dX9_moves_177) (by decide) hg
theorem z183_178 : Run d 183 178 [a0, a1, a2, a3] [.int x] M 0 0 Z ↔ (¬ x = 0 → Run d 183 240 [a0, a1, a2, a3] [] M 0 0 Z) ∧ (¬ (¬ x = 0) → Run d 183 181 [a0, a1, a2, a3] [] M 0 0 Z) := R_if (gd183 dX9_moves_178) (show gTgt 178 62 = some 240 by decide) gIf_ne
theorem z183_181 : Run d 183 181 [some (.ref o), a1, a2, a3] [] M 0 0 Z ↔ Run d 183 182 [some (.ref o), a1, a2, a3] [.ref o] M 0 0 Z := R_local (gd183 dX9_moves_181) rfl rfl rfl
theorem z183_182 : Run d 183 182 [a0, a1, a2, some (.int x)] [s0] M 0 0 Z ↔ Run d 183 183 [a0, a1, a2, some (.int x)] [.int x, s0] M 0 0 Z := R_local (gd183 dX9_moves_182) rfl rfl rfl
theorem z183_183 : Run d 183 183 [a0, a1, a2, a3] [s1, .ref b] M 0 0 Z ↔ gObj M b 9 ∧ Call d 182 [.ref b, s1] M (fun r M1 => Run d 183 186 [a0, a1, a2, a3] (r.toList ++ []) M1 0 0 Z) := R_callV (gd183 dX9_moves_183) rfl rfl rfl rfl rfl rfl gc_9_385 rfl rfl (Nat.le_of_ble_eq_true rfl) (Nat.le_of_ble_eq_true rfl) rfl rfl (Nat.le_of_ble_eq_true rfl) (Nat.le_of_ble_eq_true rfl)
theorem z183_186 : Run d 183 186 [a0, a1, a2, a3] [.int x] M 0 0 Z ↔ (x = 0 → Run d 183 240 [a0, a1, a2, a3] [] M 0 0 Z) ∧ (¬ (x = 0) → Run d 183 189 [a0, a1, a2, a3] [] M 0 0 Z) := R_if (gd183 dX9_moves_186) (show gTgt 186 54 = some 240 by decide) gIf_eq
theorem z183_189 : Run d 183 189 [some (.ref o), a1, a2, a3] [] M 0 0 Z ↔ Run d 183 190 [some (.ref o), a1, a2, a3] [.ref o] M 0 0 Z := R_local (gd183 dX9_moves_189) rfl rfl rfl
theorem z183_190 : Run d 183 190 [some (.ref o), a1, a2, a3] [s0] M 0 0 Z ↔ Run d 183 191 [some (.ref o), a1, a2, a3] [.ref o, s0] M 0 0 Z := R_local (gd183 dX9_moves_190) rfl rfl rfl
theorem z183_191 : Run d 183 191 [a0, a1, a2, a3] [.ref o, s0] M 0 0 Z ↔ gObj M o 9 ∧ Run d 183 194 [a0, a1, a2, a3] [va_rf (M.2.1 o 58), s0] M 0 0 Z := R_getR (gd183 dX9_moves_191) rfl gf_9_120 rfl
theorem z183_194 : Run d 183 194 [a0, a1, some (.int x), a3] [s1, s0] M 0 0 Z ↔ Run d 183 195 [a0, a1, some (.int x), a3] [.int x, s1, s0] M 0 0 Z := R_local (gd183 dX9_moves_194) rfl rfl rfl
theorem z183_195 : Run d 183 195 [a0, a1, a2, a3] [.int x, .ref o, s0] M 0 0 Z ↔ gAr M o 0 ∧ gIn x (gLen M o) = true ∧ Run d 183 196 [a0, a1, a2, a3] [.int (M.1 o x.toNatClampNeg), s0] M 0 0 Z := R_iald (gd183 dX9_moves_195)
theorem z183_196 : Run d 183 196 [a0, a1, a2, some (.int x)] [s1, s0] M 0 0 Z ↔ Run d 183 197 [a0, a1, a2, some (.int x)] [.int x, s1, s0] M 0 0 Z := R_local (gd183 dX9_moves_196) rfl rfl rfl
theorem z183_197 : Run d 183 197 [a0, a1, a2, a3] [s2, s1, s0] M 0 0 Z ↔ Run d 183 198 [a0, a1, a2, a3] [.int 1, s2, s1, s0] M 0 0 Z := R_iconst (gd183 dX9_moves_197) (by decide)
theorem z183_198 : Run d 183 198 [a0, a1, a2, a3] [s3, s2, s1, .ref b] M 0 0 Z ↔ gObj M b 9 ∧ Call d 180 [.ref b, s1, s2, s3] M (fun r M1 => Run d 183 201 [a0, a1, a2, a3] (r.toList ++ []) M1 0 0 Z) := R_callV (gd183 dX9_moves_198) rfl rfl rfl rfl rfl rfl gc_9_376 rfl rfl (Nat.le_of_ble_eq_true rfl) (Nat.le_of_ble_eq_true rfl) rfl rfl (Nat.le_of_ble_eq_true rfl) (Nat.le_of_ble_eq_true rfl)
theorem z183_201 : Run d 183 201 [some (.ref o), a1, a2, a3] [s0] M 0 0 Z ↔ Run d 183 202 [some (.ref o), a1, a2, a3] [.ref o, s0] M 0 0 Z := R_local (gd183 dX9_moves_201) rfl rfl rfl
theorem z183_202 : Run d 183 202 [a0, a1, a2, some (.int x)] [s1, s0] M 0 0 Z ↔ Run d 183 203 [a0, a1, a2, some (.int x)] [.int x, s1, s0] M 0 0 Z := R_local (gd183 dX9_moves_202) rfl rfl rfl
theorem z183_203 : Run d 183 203 [a0, a1, a2, a3] [s2, s1, s0] M 0 0 Z ↔ Run d 183 204 [a0, a1, a2, a3] [.int 0, s2, s1, s0] M 0 0 Z := R_iconst (gd183 dX9_moves_203) (by decide)
theorem z183_204 : Run d 183 204 [a0, a1, a2, a3] [s3, s2, .ref b, s0] M 0 0 Z ↔ gObj M b 9 ∧ Call d 177 [.ref b, s2, s3] M (fun r M1 => Run d 183 207 [a0, a1, a2, a3] (r.toList ++ [s0]) M1 0 0 Z) := R_callV (gd183 dX9_moves_204) rfl rfl rfl rfl rfl rfl gc_9_372 rfl rfl (Nat.le_of_ble_eq_true rfl) (Nat.le_of_ble_eq_true rfl) rfl rfl (Nat.le_of_ble_eq_true rfl) (Nat.le_of_ble_eq_true rfl)
theorem z183_207 : Run d 183 207 [a0, a1, a2, a3] [.int y, .int x] M 0 0 Z ↔ (y < x → Run d 183 213 [a0, a1, a2, a3] [] M 0 0 Z) ∧ (¬ (y < x) → Run d 183 210 [a0, a1, a2, a3] [] M 0 0 Z) := R_icmp (gd183 dX9_moves_207) (show gTgt 207 6 = some 213 by decide) gIf_gt
theorem z183_210 : Run d 183 210 [a0, a1, a2, a3] [] M 0 0 Z ↔ Run d 183 240 [a0, a1, a2, a3] [] M 0 0 Z := R_goto (gd183 dX9_moves_210) (show gTgt 210 30 = some 240 by decide)
theorem z183_213 : Run d 183 213 [some (.ref o), a1, a2, a3] [] M 0 0 Z ↔ Run d 183 214 [some (.ref o), a1, a2, a3] [.ref o] M 0 0 Z := R_local (gd183 dX9_moves_213) rfl rfl rfl
theorem z183_214 : Run d 183 214 [a0, a1, a2, a3] [.ref o] M 0 0 Z ↔ gObj M o 9 ∧ Run d 183 217 [a0, a1, a2, a3] [va_rf (M.2.1 o 55)] M 0 0 Z := R_getR (gd183 dX9_moves_214) rfl gf_9_110 rfl
theorem z183_217 : Run d 183 217 [a0, a1, a2, some (.int x)] [s0] M 0 0 Z ↔ Run d 183 218 [a0, a1, a2, some (.int x)] [.int x, s0] M 0 0 Z := R_local (gd183 dX9_moves_217) rfl rfl rfl
theorem z183_218 : Run d 183 218 [a0, a1, a2, a3] [s1, s0] M 0 0 Z ↔ Run d 183 219 [a0, a1, a2, a3] [.int 1, s1, s0] M 0 0 Z := R_iconst (gd183 dX9_moves_218) (by decide)
theorem z183_219 (hg : gAr M o 2) : Run d 183 219 [a0, a1, a2, a3] [.int y, .int x, .ref o] M 0 0 Z ↔ gIn x (gLen M o) = true ∧ Run d 183 220 [a0, a1, a2, a3] [] (gsI M o x.toNatClampNeg (y &&& 1)) 0 0 Z := R_zast (gd183 dX9_moves_219) hg
theorem z183_220 : Run d 183 220 [some (.ref o), a1, a2, a3] [] M 0 0 Z ↔ Run d 183 221 [some (.ref o), a1, a2, a3] [.ref o] M 0 0 Z := R_local (gd183 dX9_moves_220) rfl rfl rfl
theorem z183_221 : Run d 183 221 [a0, a1, a2, a3] [.ref o] M 0 0 Z ↔ gObj M o 9 ∧ Run d 183 224 [a0, a1, a2, a3] [va_rf (M.2.1 o 59)] M 0 0 Z := R_getR (gd183 dX9_moves_221) rfl gf_9_123 rfl
theorem z183_224 : Run d 183 224 [some (.ref o), a1, a2, a3] [s0] M 0 0 Z ↔ Run d 183 225 [some (.ref o), a1, a2, a3] [.ref o, s0] M 0 0 Z := R_local (gd183 dX9_moves_224) rfl rfl rfl
theorem z183_225 : Run d 183 225 [a0, a1, a2, a3] [.ref o, s0] M 0 0 Z ↔ gObj M o 9 ∧ Run d 183 228 [a0, a1, a2, a3] [.int (M.1 o 61), s0] M 0 0 Z := R_getI (gd183 dX9_moves_225) rfl gf_9_382 rfl
theorem z183_228 : Run d 183 228 [a0, a1, a2, some (.int x)] [s1, s0] M 0 0 Z ↔ Run d 183 229 [a0, a1, a2, some (.int x)] [.int x, s1, s0] M 0 0 Z := R_local (gd183 dX9_moves_228) rfl rfl rfl
theorem z183_229 : Run d 183 229 [a0, a1, a2, a3] [.int y, .int x, .ref o] M 0 0 Z ↔ gAr M o 0 ∧ gIn x (gLen M o) = true ∧ Run d 183 230 [a0, a1, a2, a3] [] (gsI M o x.toNatClampNeg y) 0 0 Z := R_iast (gd183 dX9_moves_229)
theorem z183_230 : Run d 183 230 [some (.ref o), a1, a2, a3] [] M 0 0 Z ↔ Run d 183 231 [some (.ref o), a1, a2, a3] [.ref o] M 0 0 Z := R_local (gd183 dX9_moves_230) rfl rfl rfl
theorem z183_231 : Run d 183 231 [a0, a1, a2, a3] [.ref o] M 0 0 Z ↔ Run d 183 232 [a0, a1, a2, a3] [.ref o, .ref o] M 0 0 Z := R_arith (gd183 dX9_moves_231) rfl
theorem z183_232 : Run d 183 232 [a0, a1, a2, a3] [.ref o, s0] M 0 0 Z ↔ gObj M o 9 ∧ Run d 183 235 [a0, a1, a2, a3] [.int (M.1 o 61), s0] M 0 0 Z := R_getI (gd183 dX9_moves_232) rfl gf_9_382 rfl
theorem z183_235 : Run d 183 235 [a0, a1, a2, a3] [s1, s0] M 0 0 Z ↔ Run d 183 236 [a0, a1, a2, a3] [.int 1, s1, s0] M 0 0 Z := R_iconst (gd183 dX9_moves_235) (by decide)
theorem z183_236 : Run d 183 236 [a0, a1, a2, a3] [.int y, .int x, s0] M 0 0 Z ↔ Run d 183 237 [a0, a1, a2, a3] [.int (x + y), s0] M 0 0 Z := R_arith (gd183 dX9_moves_236) rfl
theorem z183_237 : Run d 183 237 [a0, a1, a2, a3] [.int x, .ref o] M 0 0 Z ↔ gObj M o 9 ∧ Run d 183 240 [a0, a1, a2, a3] [] (gsI M o 61 x) 0 0 Z := R_putI (gd183 dX9_moves_237) rfl gf_9_382 (Or.inl rfl) rfl
theorem z183_240 : Run d 183 240 [a0, a1, a2, some (.int x)] [] M 0 0 Z ↔ Run d 183 243 [a0, a1, a2, some (.int (x + (-1)))] [] M 0 0 Z := R_iinc (gd183 dX9_moves_240) (by decide) rfl rfl
theorem z183_243 : Run d 183 243 [a0, a1, a2, a3] [] M 0 0 Z ↔ Run d 183 168 [a0, a1, a2, a3] [] M 0 0 Z := R_goto (gd183 dX9_moves_243) (show gTgt 243 (-75) = some 168 by decide)
theorem z183_246 : Run d 183 246 [a0, a1, some (.int x), a3] [] M 0 0 Z ↔ Run d 183 249 [a0, a1, some (.int (x + 1)), a3] [] M 0 0 Z := R_iinc (gd183 dX9_moves_246) (by decide) rfl rfl
theorem z183_249 : Run d 183 249 [a0, a1, a2, a3] [] M 0 0 Z ↔ Run d 183 154 [a0, a1, a2, a3] [] M 0 0 Z := R_goto (gd183 dX9_moves_249) (show gTgt 249 (-95) = some 154 by decide)
theorem z183_252 : Run d 183 252 [some (.ref o), a1, a2, a3] [] M 0 0 Z ↔ Run d 183 253 [some (.ref o), a1, a2, a3] [.ref o] M 0 0 Z := R_local (gd183 dX9_moves_252) rfl rfl rfl
theorem z183_253 : Run d 183 253 [a0, a1, a2, a3] [.ref o] M 0 0 Z ↔ gObj M o 9 ∧ Run d 183 256 [a0, a1, a2, a3] [.int (M.1 o 61)] M 0 0 Z := R_getI (gd183 dX9_moves_253) rfl gf_9_382 rfl
theorem z183_256 : Run d 183 256 [a0, a1, a2, a3] [.int x] M 0 0 Z ↔ Z (some (.int x)) M := R_iret (gd183 dX9_moves_256) rfl
theorem e183 : Call (d + 1) 183 [s0, s1] M Z ↔ Run d 183 0 [some s0, some s1, none, none] [] M 0 0 Z := Call_iff (Nat.lt_of_lt_of_le (Nat.lt_succ_self 183) (Nat.le_of_ble_eq_true rfl)) (Nat.le_of_ble_eq_true rfl)
/-! 184: X9_slipped (I)I -/
theorem gd184 {pc : Nat} {r : Except _ _} (h : decode cX9_slipped pc = r) : decode (gby 184) pc = r := h
theorem z184_0 : Run d 184 0 [some (.ref o), a1] [] M 0 0 Z ↔ Run d 184 1 [some (.ref o), a1] [.ref o] M 0 0 Z := R_local (gd184 dX9_slipped_0) rfl rfl rfl
theorem z184_1 : Run d 184 1 [a0, a1] [.ref o] M 0 0 Z ↔ gObj M o 9 ∧ Run d 184 4 [a0, a1] [.int (M.1 o 51)] M 0 0 Z := R_getI (gd184 dX9_slipped_1) rfl gf_9_339 rfl
theorem z184_4 : Run d 184 4 [a0, a1] [.int x] M 0 0 Z ↔ (x = 0 → Run d 184 37 [a0, a1] [] M 0 0 Z) ∧ (¬ (x = 0) → Run d 184 7 [a0, a1] [] M 0 0 Z) := R_if (gd184 dX9_slipped_4) (show gTgt 4 33 = some 37 by decide) gIf_eq
theorem z184_7 : Run d 184 7 [some (.ref o), a1] [] M 0 0 Z ↔ Run d 184 8 [some (.ref o), a1] [.ref o] M 0 0 Z := R_local (gd184 dX9_slipped_7) rfl rfl rfl
theorem z184_8 : Run d 184 8 [a0, a1] [.ref o] M 0 0 Z ↔ gObj M o 9 ∧ Run d 184 11 [a0, a1] [.int (M.1 o 52)] M 0 0 Z := R_getI (gd184 dX9_slipped_8) rfl gf_9_342 rfl
theorem z184_11 : Run d 184 11 [a0, a1] [.int x] M 0 0 Z ↔ (x = 0 → Run d 184 37 [a0, a1] [] M 0 0 Z) ∧ (¬ (x = 0) → Run d 184 14 [a0, a1] [] M 0 0 Z) := R_if (gd184 dX9_slipped_11) (show gTgt 11 26 = some 37 by decide) gIf_eq
theorem z184_14 : Run d 184 14 [a0, some (.int x)] [] M 0 0 Z ↔ Run d 184 15 [a0, some (.int x)] [.int x] M 0 0 Z := R_local (gd184 dX9_slipped_14) rfl rfl rfl
theorem z184_15 : Run d 184 15 [a0, a1] [s0] M 0 0 Z ↔ Run d 184 16 [a0, a1] [.int 0, s0] M 0 0 Z := R_iconst (gd184 dX9_slipped_15) (by decide)
theorem z184_16 : Run d 184 16 [some (.ref o), a1] [s1, s0] M 0 0 Z ↔ Run d 184 17 [some (.ref o), a1] [.ref o, s1, s0] M 0 0 Z := R_local (gd184 dX9_slipped_16) rfl rfl rfl
theorem z184_17 : Run d 184 17 [a0, a1] [.ref o, s1, s0] M 0 0 Z ↔ gObj M o 9 ∧ Run d 184 20 [a0, a1] [.int (M.1 o 61), s1, s0] M 0 0 Z := R_getI (gd184 dX9_slipped_17) rfl gf_9_382 rfl
theorem z184_20 : Run d 184 20 [a0, a1] [s2, s1, s0] M 0 0 Z ↔ Run d 184 21 [a0, a1] [.int 1, s2, s1, s0] M 0 0 Z := R_iconst (gd184 dX9_slipped_20) (by decide)
theorem z184_21 : Run d 184 21 [a0, a1] [.int y, .int x, s1, s0] M 0 0 Z ↔ Run d 184 22 [a0, a1] [.int (x - y), s1, s0] M 0 0 Z := R_arith (gd184 dX9_slipped_21) rfl
theorem z184_22 : Run d 184 22 [a0, a1] [s2, s1, s0] M 0 0 Z ↔ Call d 120 [s0, s1, s2] M (fun r M1 => Run d 184 25 [a0, a1] (r.toList ++ []) M1 0 0 Z) := R_call (gd184 dX9_slipped_22) rfl rfl rfl rfl rfl rfl gc_9_157 rfl (by decide) (Nat.le_of_ble_eq_true rfl) (Nat.le_of_ble_eq_true rfl) rfl rfl rfl (Nat.le_of_ble_eq_true rfl) (Nat.le_of_ble_eq_true rfl)
theorem z184_25 : Run d 184 25 [a0, a1] [.int x] M 0 0 Z ↔ (x = 0 → Run d 184 37 [a0, a1] [] M 0 0 Z) ∧ (¬ (x = 0) → Run d 184 28 [a0, a1] [] M 0 0 Z) := R_if (gd184 dX9_slipped_25) (show gTgt 25 12 = some 37 by decide) gIf_eq
theorem z184_28 : Run d 184 28 [some (.ref o), a1] [] M 0 0 Z ↔ Run d 184 29 [some (.ref o), a1] [.ref o] M 0 0 Z := R_local (gd184 dX9_slipped_28) rfl rfl rfl
theorem z184_29 : Run d 184 29 [a0, a1] [.ref o] M 0 0 Z ↔ gObj M o 9 ∧ Run d 184 32 [a0, a1] [va_rf (M.2.1 o 59)] M 0 0 Z := R_getR (gd184 dX9_slipped_29) rfl gf_9_123 rfl
theorem z184_32 : Run d 184 32 [a0, some (.int x)] [s0] M 0 0 Z ↔ Run d 184 33 [a0, some (.int x)] [.int x, s0] M 0 0 Z := R_local (gd184 dX9_slipped_32) rfl rfl rfl
theorem z184_33 : Run d 184 33 [a0, a1] [.int x, .ref o] M 0 0 Z ↔ gAr M o 0 ∧ gIn x (gLen M o) = true ∧ Run d 184 34 [a0, a1] [.int (M.1 o x.toNatClampNeg)] M 0 0 Z := R_iald (gd184 dX9_slipped_33)
theorem z184_34 : Run d 184 34 [a0, a1] [s0] M 0 0 Z ↔ Run d 184 38 [a0, a1] [s0] M 0 0 Z := R_goto (gd184 dX9_slipped_34) (show gTgt 34 4 = some 38 by decide)
theorem z184_37 : Run d 184 37 [a0, a1] [] M 0 0 Z ↔ Run d 184 38 [a0, a1] [.int (-1)] M 0 0 Z := R_iconst (gd184 dX9_slipped_37) (by decide)
theorem z184_38 : Run d 184 38 [a0, a1] [.int x] M 0 0 Z ↔ Z (some (.int x)) M := R_iret (gd184 dX9_slipped_38) rfl
theorem e184 : Call (d + 1) 184 [s0, s1] M Z ↔ Run d 184 0 [some s0, some s1] [] M 0 0 Z := Call_iff (Nat.lt_of_lt_of_le (Nat.lt_succ_self 184) (Nat.le_of_ble_eq_true rfl)) (Nat.le_of_ble_eq_true rfl)
/-! 185: X9_after (II)I -/
theorem gd185 {pc : Nat} {r : Except _ _} (h : decode cX9_after pc = r) : decode (gby 185) pc = r := h
theorem z185_0 : Run d 185 0 [some (.ref o), a1, a2] [] M 0 0 Z ↔ Run d 185 1 [some (.ref o), a1, a2] [.ref o] M 0 0 Z := R_local (gd185 dX9_after_0) rfl rfl rfl
theorem z185_1 : Run d 185 1 [a0, a1, a2] [.ref o] M 0 0 Z ↔ gObj M o 9 ∧ Run d 185 4 [a0, a1, a2] [.int (M.1 o 51)] M 0 0 Z := R_getI (gd185 dX9_after_1) rfl gf_9_339 rfl
theorem z185_4 : Run d 185 4 [a0, a1, a2] [.int x] M 0 0 Z ↔ (x = 0 → Run d 185 32 [a0, a1, a2] [] M 0 0 Z) ∧ (¬ (x = 0) → Run d 185 7 [a0, a1, a2] [] M 0 0 Z) := R_if (gd185 dX9_after_4) (show gTgt 4 28 = some 32 by decide) gIf_eq
theorem z185_7 : Run d 185 7 [some (.ref o), a1, a2] [] M 0 0 Z ↔ Run d 185 8 [some (.ref o), a1, a2] [.ref o] M 0 0 Z := R_local (gd185 dX9_after_7) rfl rfl rfl
theorem z185_8 : Run d 185 8 [a0, a1, a2] [.ref o] M 0 0 Z ↔ gObj M o 9 ∧ Run d 185 11 [a0, a1, a2] [.int (M.1 o 52)] M 0 0 Z := R_getI (gd185 dX9_after_8) rfl gf_9_342 rfl
theorem z185_11 : Run d 185 11 [a0, a1, a2] [.int x] M 0 0 Z ↔ (x = 0 → Run d 185 32 [a0, a1, a2] [] M 0 0 Z) ∧ (¬ (x = 0) → Run d 185 14 [a0, a1, a2] [] M 0 0 Z) := R_if (gd185 dX9_after_11) (show gTgt 11 21 = some 32 by decide) gIf_eq
theorem z185_14 : Run d 185 14 [a0, some (.int x), a2] [] M 0 0 Z ↔ Run d 185 15 [a0, some (.int x), a2] [.int x] M 0 0 Z := R_local (gd185 dX9_after_14) rfl rfl rfl
theorem z185_15 : Run d 185 15 [a0, a1, some (.int x)] [s0] M 0 0 Z ↔ Run d 185 16 [a0, a1, some (.int x)] [.int x, s0] M 0 0 Z := R_local (gd185 dX9_after_15) rfl rfl rfl
theorem z185_16 : Run d 185 16 [a0, a1, a2] [s1, s0] M 0 0 Z ↔ Call d 168 [s0, s1] M (fun r M1 => Run d 185 19 [a0, a1, a2] (r.toList ++ []) M1 0 0 Z) := R_call (gd185 dX9_after_16) rfl rfl rfl rfl rfl rfl gc_9_358 rfl (by decide) (Nat.le_of_ble_eq_true rfl) (Nat.le_of_ble_eq_true rfl) rfl rfl rfl (Nat.le_of_ble_eq_true rfl) (Nat.le_of_ble_eq_true rfl)
theorem z185_19 : Run d 185 19 [a0, a1, a2] [.int x] M 0 0 Z ↔ (x = 0 → Run d 185 32 [a0, a1, a2] [] M 0 0 Z) ∧ (¬ (x = 0) → Run d 185 22 [a0, a1, a2] [] M 0 0 Z) := R_if (gd185 dX9_after_19) (show gTgt 19 13 = some 32 by decide) gIf_eq
theorem z185_22 : Run d 185 22 [some (.ref o), a1, a2] [] M 0 0 Z ↔ Run d 185 23 [some (.ref o), a1, a2] [.ref o] M 0 0 Z := R_local (gd185 dX9_after_22) rfl rfl rfl
theorem z185_23 : Run d 185 23 [a0, some (.int x), a2] [s0] M 0 0 Z ↔ Run d 185 24 [a0, some (.int x), a2] [.int x, s0] M 0 0 Z := R_local (gd185 dX9_after_23) rfl rfl rfl
theorem z185_24 : Run d 185 24 [a0, a1, some (.int x)] [s1, s0] M 0 0 Z ↔ Run d 185 25 [a0, a1, some (.int x)] [.int x, s1, s0] M 0 0 Z := R_local (gd185 dX9_after_24) rfl rfl rfl
theorem z185_25 : Run d 185 25 [a0, a1, a2] [s2, s1, s0] M 0 0 Z ↔ Run d 185 26 [a0, a1, a2] [.int 0, s2, s1, s0] M 0 0 Z := R_iconst (gd185 dX9_after_25) (by decide)
theorem z185_26 : Run d 185 26 [a0, a1, a2] [s3, s2, s1, .ref b] M 0 0 Z ↔ gObj M b 9 ∧ Call d 170 [.ref b, s1, s2, s3] M (fun r M1 => Run d 185 29 [a0, a1, a2] (r.toList ++ []) M1 0 0 Z) := R_callV (gd185 dX9_after_26) rfl rfl rfl rfl rfl rfl gc_9_362 rfl rfl (Nat.le_of_ble_eq_true rfl) (Nat.le_of_ble_eq_true rfl) rfl rfl (Nat.le_of_ble_eq_true rfl) (Nat.le_of_ble_eq_true rfl)
theorem z185_29 : Run d 185 29 [a0, a1, a2] [s0] M 0 0 Z ↔ Run d 185 33 [a0, a1, a2] [s0] M 0 0 Z := R_goto (gd185 dX9_after_29) (show gTgt 29 4 = some 33 by decide)
theorem z185_32 : Run d 185 32 [a0, a1, a2] [] M 0 0 Z ↔ Run d 185 33 [a0, a1, a2] [.int (-1)] M 0 0 Z := R_iconst (gd185 dX9_after_32) (by decide)
theorem z185_33 : Run d 185 33 [a0, a1, a2] [.int x] M 0 0 Z ↔ Z (some (.int x)) M := R_iret (gd185 dX9_after_33) rfl
theorem e185 : Call (d + 1) 185 [s0, s1, s2] M Z ↔ Run d 185 0 [some s0, some s1, some s2] [] M 0 0 Z := Call_iff (Nat.lt_of_lt_of_le (Nat.lt_succ_self 185) (Nat.le_of_ble_eq_true rfl)) (Nat.le_of_ble_eq_true rfl)
/-! 186: X9_fix ()I -/
theorem gd186 {pc : Nat} {r : Except _ _} (h : decode cX9_fix pc = r) : decode (gby 186) pc = r := h
theorem z186_0 : Run d 186 0 [some (.ref o), a1, a2, a3, a4, a5] [] M 0 0 Z ↔ Run d 186 1 [some (.ref o), a1, a2, a3, a4, a5] [.ref o] M 0 0 Z := R_local (gd186 dX9_fix_0) rfl rfl rfl
theorem z186_1 : Run d 186 1 [a0, a1, a2, a3, a4, a5] [.ref o] M 0 0 Z ↔ gObj M o 9 ∧ Run d 186 4 [a0, a1, a2, a3, a4, a5] [.int (M.1 o 51)] M 0 0 Z := R_getI (gd186 dX9_fix_1) rfl gf_9_339 rfl
theorem z186_4 : Run d 186 4 [a0, a1, a2, a3, a4, a5] [.int x] M 0 0 Z ↔ (x = 0 → Run d 186 14 [a0, a1, a2, a3, a4, a5] [] M 0 0 Z) ∧ (¬ (x = 0) → Run d 186 7 [a0, a1, a2, a3, a4, a5] [] M 0 0 Z) := R_if (gd186 dX9_fix_4) (show gTgt 4 10 = some 14 by decide) gIf_eq
theorem z186_7 : Run d 186 7 [some (.ref o), a1, a2, a3, a4, a5] [] M 0 0 Z ↔ Run d 186 8 [some (.ref o), a1, a2, a3, a4, a5] [.ref o] M 0 0 Z := R_local (gd186 dX9_fix_7) rfl rfl rfl
theorem z186_8 : Run d 186 8 [a0, a1, a2, a3, a4, a5] [.ref o] M 0 0 Z ↔ gObj M o 9 ∧ Run d 186 11 [a0, a1, a2, a3, a4, a5] [.int (M.1 o 52)] M 0 0 Z := R_getI (gd186 dX9_fix_8) rfl gf_9_342 rfl
theorem z186_11 : Run d 186 11 [a0, a1, a2, a3, a4, a5] [.int x] M 0 0 Z ↔ (¬ x = 0 → Run d 186 16 [a0, a1, a2, a3, a4, a5] [] M 0 0 Z) ∧ (¬ (¬ x = 0) → Run d 186 14 [a0, a1, a2, a3, a4, a5] [] M 0 0 Z) := R_if (gd186 dX9_fix_11) (show gTgt 11 5 = some 16 by decide) gIf_ne
theorem z186_14 : Run d 186 14 [a0, a1, a2, a3, a4, a5] [] M 0 0 Z ↔ Run d 186 15 [a0, a1, a2, a3, a4, a5] [.int (-1)] M 0 0 Z := R_iconst (gd186 dX9_fix_14) (by decide)
theorem z186_15 : Run d 186 15 [a0, a1, a2, a3, a4, a5] [.int x] M 0 0 Z ↔ Z (some (.int x)) M := R_iret (gd186 dX9_fix_15) rfl
theorem z186_16 : Run d 186 16 [some (.ref o), a1, a2, a3, a4, a5] [] M 0 0 Z ↔ Run d 186 17 [some (.ref o), a1, a2, a3, a4, a5] [.ref o] M 0 0 Z := R_local (gd186 dX9_fix_16) rfl rfl rfl
theorem z186_17 : Run d 186 17 [a0, a1, a2, a3, a4, a5] [.ref o] M 0 0 Z ↔ gObj M o 9 ∧ Run d 186 20 [a0, a1, a2, a3, a4, a5] [.int (M.1 o 61)] M 0 0 Z := R_getI (gd186 dX9_fix_17) rfl gf_9_382 rfl
theorem z186_20 : Run d 186 20 [a0, a1, a2, a3, a4, a5] [.int x] M 0 0 Z ↔ (¬ x = 0 → Run d 186 26 [a0, a1, a2, a3, a4, a5] [] M 0 0 Z) ∧ (¬ (¬ x = 0) → Run d 186 23 [a0, a1, a2, a3, a4, a5] [] M 0 0 Z) := R_if (gd186 dX9_fix_20) (show gTgt 20 6 = some 26 by decide) gIf_ne
theorem z186_23 : Run d 186 23 [a0, a1, a2, a3, a4, a5] [] M 0 0 Z ↔ Run d 186 25 [a0, a1, a2, a3, a4, a5] [.int (-2)] M 0 0 Z := R_bipush (gd186 dX9_fix_23) (by decide)
theorem z186_25 : Run d 186 25 [a0, a1, a2, a3, a4, a5] [.int x] M 0 0 Z ↔ Z (some (.int x)) M := R_iret (gd186 dX9_fix_25) rfl
theorem z186_26 : Run d 186 26 [a0, a1, a2, a3, a4, a5] [] M 0 0 Z ↔ Run d 186 27 [a0, a1, a2, a3, a4, a5] [.int (-1)] M 0 0 Z := R_iconst (gd186 dX9_fix_26) (by decide)
theorem z186_27 : Run d 186 27 [a0, a1, a2, a3, a4, a5] [.int x] M 0 0 Z ↔ Run d 186 28 [a0, some (.int x), a2, a3, a4, a5] [] M 0 0 Z := R_local (gd186 dX9_fix_27) rfl rfl rfl
theorem z186_28 : Run d 186 28 [a0, a1, a2, a3, a4, a5] [] M 0 0 Z ↔ Run d 186 29 [a0, a1, a2, a3, a4, a5] [.int 0] M 0 0 Z := R_iconst (gd186 dX9_fix_28) (by decide)
theorem z186_29 : Run d 186 29 [a0, a1, a2, a3, a4, a5] [.int x] M 0 0 Z ↔ Run d 186 30 [a0, a1, some (.int x), a3, a4, a5] [] M 0 0 Z := R_local (gd186 dX9_fix_29) rfl rfl rfl
theorem z186_30 : Run d 186 30 [a0, a1, some (.int x), a3, a4, a5] [] M 0 0 Z ↔ Run d 186 31 [a0, a1, some (.int x), a3, a4, a5] [.int x] M 0 0 Z := R_local (gd186 dX9_fix_30) rfl rfl rfl
theorem z186_31 : Run d 186 31 [some (.ref o), a1, a2, a3, a4, a5] [s0] M 0 0 Z ↔ Run d 186 32 [some (.ref o), a1, a2, a3, a4, a5] [.ref o, s0] M 0 0 Z := R_local (gd186 dX9_fix_31) rfl rfl rfl
theorem z186_32 : Run d 186 32 [a0, a1, a2, a3, a4, a5] [.ref o, s0] M 0 0 Z ↔ gObj M o 9 ∧ Run d 186 35 [a0, a1, a2, a3, a4, a5] [va_rf (M.2.1 o 26), s0] M 0 0 Z := R_getR (gd186 dX9_fix_32) rfl gf_9_65 rfl
theorem z186_35 : Run d 186 35 [a0, a1, a2, a3, a4, a5] [s1, s0] M 0 0 Z ↔ Run d 186 36 [a0, a1, a2, a3, a4, a5] [.int 0, s1, s0] M 0 0 Z := R_iconst (gd186 dX9_fix_35) (by decide)
theorem z186_36 : Run d 186 36 [a0, a1, a2, a3, a4, a5] [.int x, .ref o, s0] M 0 0 Z ↔ gAr M o 0 ∧ gIn x (gLen M o) = true ∧ Run d 186 37 [a0, a1, a2, a3, a4, a5] [.int (M.1 o x.toNatClampNeg), s0] M 0 0 Z := R_iald (gd186 dX9_fix_36)
theorem z186_37 : Run d 186 37 [a0, a1, a2, a3, a4, a5] [.int y, .int x] M 0 0 Z ↔ (y ≤ x → Run d 186 139 [a0, a1, a2, a3, a4, a5] [] M 0 0 Z) ∧ (¬ (y ≤ x) → Run d 186 40 [a0, a1, a2, a3, a4, a5] [] M 0 0 Z) := R_icmp (gd186 dX9_fix_37) (show gTgt 37 102 = some 139 by decide) gIf_ge
theorem z186_40 : Run d 186 40 [a0, a1, a2, a3, a4, a5] [] M 0 0 Z ↔ Run d 186 41 [a0, a1, a2, a3, a4, a5] [.int 0] M 0 0 Z := R_iconst (gd186 dX9_fix_40) (by decide)
theorem z186_41 : Run d 186 41 [a0, a1, a2, a3, a4, a5] [.int x] M 0 0 Z ↔ Run d 186 42 [a0, a1, a2, some (.int x), a4, a5] [] M 0 0 Z := R_local (gd186 dX9_fix_41) rfl rfl rfl
theorem z186_42 : Run d 186 42 [a0, a1, a2, a3, a4, a5] [] M 0 0 Z ↔ Run d 186 43 [a0, a1, a2, a3, a4, a5] [.int 0] M 0 0 Z := R_iconst (gd186 dX9_fix_42) (by decide)
theorem z186_43 : Run d 186 43 [a0, a1, a2, a3, a4, a5] [.int x] M 0 0 Z ↔ Run d 186 45 [a0, a1, a2, a3, some (.int x), a5] [] M 0 0 Z := R_local (gd186 dX9_fix_43) rfl rfl rfl
theorem z186_45 : Run d 186 45 [a0, a1, a2, a3, some (.int x), a5] [] M 0 0 Z ↔ Run d 186 47 [a0, a1, a2, a3, some (.int x), a5] [.int x] M 0 0 Z := R_local (gd186 dX9_fix_45) rfl rfl rfl
theorem z186_47 : Run d 186 47 [some (.ref o), a1, a2, a3, a4, a5] [s0] M 0 0 Z ↔ Run d 186 48 [some (.ref o), a1, a2, a3, a4, a5] [.ref o, s0] M 0 0 Z := R_local (gd186 dX9_fix_47) rfl rfl rfl
theorem z186_48 : Run d 186 48 [a0, a1, a2, a3, a4, a5] [.ref o, s0] M 0 0 Z ↔ gObj M o 9 ∧ Run d 186 51 [a0, a1, a2, a3, a4, a5] [.int (M.1 o 60), s0] M 0 0 Z := R_getI (gd186 dX9_fix_48) rfl gf_9_379 rfl
theorem z186_51 : Run d 186 51 [a0, a1, a2, a3, a4, a5] [.int y, .int x] M 0 0 Z ↔ (y ≤ x → Run d 186 88 [a0, a1, a2, a3, a4, a5] [] M 0 0 Z) ∧ (¬ (y ≤ x) → Run d 186 54 [a0, a1, a2, a3, a4, a5] [] M 0 0 Z) := R_icmp (gd186 dX9_fix_51) (show gTgt 51 37 = some 88 by decide) gIf_ge
theorem z186_54 : Run d 186 54 [some (.ref o), a1, a2, a3, a4, a5] [] M 0 0 Z ↔ Run d 186 55 [some (.ref o), a1, a2, a3, a4, a5] [.ref o] M 0 0 Z := R_local (gd186 dX9_fix_54) rfl rfl rfl
theorem z186_55 : Run d 186 55 [some (.ref o), a1, a2, a3, a4, a5] [s0] M 0 0 Z ↔ Run d 186 56 [some (.ref o), a1, a2, a3, a4, a5] [.ref o, s0] M 0 0 Z := R_local (gd186 dX9_fix_55) rfl rfl rfl
theorem z186_56 : Run d 186 56 [a0, a1, a2, a3, a4, a5] [.ref o, s0] M 0 0 Z ↔ gObj M o 9 ∧ Run d 186 59 [a0, a1, a2, a3, a4, a5] [va_rf (M.2.1 o 58), s0] M 0 0 Z := R_getR (gd186 dX9_fix_56) rfl gf_9_120 rfl
theorem z186_59 : Run d 186 59 [a0, a1, a2, a3, some (.int x), a5] [s1, s0] M 0 0 Z ↔ Run d 186 61 [a0, a1, a2, a3, some (.int x), a5] [.int x, s1, s0] M 0 0 Z := R_local (gd186 dX9_fix_59) rfl rfl rfl
theorem z186_61 : Run d 186 61 [a0, a1, a2, a3, a4, a5] [.int x, .ref o, s0] M 0 0 Z ↔ gAr M o 0 ∧ gIn x (gLen M o) = true ∧ Run d 186 62 [a0, a1, a2, a3, a4, a5] [.int (M.1 o x.toNatClampNeg), s0] M 0 0 Z := R_iald (gd186 dX9_fix_61)
theorem z186_62 : Run d 186 62 [a0, a1, some (.int x), a3, a4, a5] [s1, s0] M 0 0 Z ↔ Run d 186 63 [a0, a1, some (.int x), a3, a4, a5] [.int x, s1, s0] M 0 0 Z := R_local (gd186 dX9_fix_62) rfl rfl rfl
theorem z186_63 : Run d 186 63 [a0, a1, a2, a3, a4, a5] [s2, s1, s0] M 0 0 Z ↔ Run d 186 64 [a0, a1, a2, a3, a4, a5] [.int 1, s2, s1, s0] M 0 0 Z := R_iconst (gd186 dX9_fix_63) (by decide)
theorem z186_64 : Run d 186 64 [a0, a1, a2, a3, a4, a5] [s3, s2, s1, .ref b] M 0 0 Z ↔ gObj M b 9 ∧ Call d 180 [.ref b, s1, s2, s3] M (fun r M1 => Run d 186 67 [a0, a1, a2, a3, a4, a5] (r.toList ++ []) M1 0 0 Z) := R_callV (gd186 dX9_fix_64) rfl rfl rfl rfl rfl rfl gc_9_376 rfl rfl (Nat.le_of_ble_eq_true rfl) (Nat.le_of_ble_eq_true rfl) rfl rfl (Nat.le_of_ble_eq_true rfl) (Nat.le_of_ble_eq_true rfl)
theorem z186_67 : Run d 186 67 [a0, a1, a2, a3, a4, a5] [.int x] M 0 0 Z ↔ Run d 186 69 [a0, a1, a2, a3, a4, some (.int x)] [] M 0 0 Z := R_local (gd186 dX9_fix_67) rfl rfl rfl
theorem z186_69 : Run d 186 69 [a0, a1, a2, a3, a4, some (.int x)] [] M 0 0 Z ↔ Run d 186 71 [a0, a1, a2, a3, a4, some (.int x)] [.int x] M 0 0 Z := R_local (gd186 dX9_fix_69) rfl rfl rfl
theorem z186_71 : Run d 186 71 [a0, a1, a2, some (.int x), a4, a5] [s0] M 0 0 Z ↔ Run d 186 72 [a0, a1, a2, some (.int x), a4, a5] [.int x, s0] M 0 0 Z := R_local (gd186 dX9_fix_71) rfl rfl rfl
theorem z186_72 : Run d 186 72 [a0, a1, a2, a3, a4, a5] [.int y, .int x] M 0 0 Z ↔ (x ≤ y → Run d 186 80 [a0, a1, a2, a3, a4, a5] [] M 0 0 Z) ∧ (¬ (x ≤ y) → Run d 186 75 [a0, a1, a2, a3, a4, a5] [] M 0 0 Z) := R_icmp (gd186 dX9_fix_72) (show gTgt 72 8 = some 80 by decide) gIf_le
theorem z186_75 : Run d 186 75 [a0, a1, a2, a3, a4, some (.int x)] [] M 0 0 Z ↔ Run d 186 77 [a0, a1, a2, a3, a4, some (.int x)] [.int x] M 0 0 Z := R_local (gd186 dX9_fix_75) rfl rfl rfl
theorem z186_77 : Run d 186 77 [a0, a1, a2, a3, a4, a5] [s0] M 0 0 Z ↔ Run d 186 81 [a0, a1, a2, a3, a4, a5] [s0] M 0 0 Z := R_goto (gd186 dX9_fix_77) (show gTgt 77 4 = some 81 by decide)
theorem z186_80 : Run d 186 80 [a0, a1, a2, some (.int x), a4, a5] [] M 0 0 Z ↔ Run d 186 81 [a0, a1, a2, some (.int x), a4, a5] [.int x] M 0 0 Z := R_local (gd186 dX9_fix_80) rfl rfl rfl
theorem z186_81 : Run d 186 81 [a0, a1, a2, a3, a4, a5] [.int x] M 0 0 Z ↔ Run d 186 82 [a0, a1, a2, some (.int x), a4, a5] [] M 0 0 Z := R_local (gd186 dX9_fix_81) rfl rfl rfl
theorem z186_82 : Run d 186 82 [a0, a1, a2, a3, some (.int x), a5] [] M 0 0 Z ↔ Run d 186 85 [a0, a1, a2, a3, some (.int (x + 1)), a5] [] M 0 0 Z := R_iinc (gd186 dX9_fix_82) (by decide) rfl rfl
theorem z186_85 : Run d 186 85 [a0, a1, a2, a3, a4, a5] [] M 0 0 Z ↔ Run d 186 45 [a0, a1, a2, a3, a4, a5] [] M 0 0 Z := R_goto (gd186 dX9_fix_85) (show gTgt 85 (-40) = some 45 by decide)
theorem z186_88 : Run d 186 88 [some (.ref o), a1, a2, a3, a4, a5] [] M 0 0 Z ↔ Run d 186 89 [some (.ref o), a1, a2, a3, a4, a5] [.ref o] M 0 0 Z := R_local (gd186 dX9_fix_88) rfl rfl rfl
theorem z186_89 : Run d 186 89 [a0, a1, some (.int x), a3, a4, a5] [s0] M 0 0 Z ↔ Run d 186 90 [a0, a1, some (.int x), a3, a4, a5] [.int x, s0] M 0 0 Z := R_local (gd186 dX9_fix_89) rfl rfl rfl
theorem z186_90 : Run d 186 90 [a0, a1, a2, a3, a4, a5] [s1, .ref b] M 0 0 Z ↔ gObj M b 9 ∧ Call d 182 [.ref b, s1] M (fun r M1 => Run d 186 93 [a0, a1, a2, a3, a4, a5] (r.toList ++ []) M1 0 0 Z) := R_callV (gd186 dX9_fix_90) rfl rfl rfl rfl rfl rfl gc_9_385 rfl rfl (Nat.le_of_ble_eq_true rfl) (Nat.le_of_ble_eq_true rfl) rfl rfl (Nat.le_of_ble_eq_true rfl) (Nat.le_of_ble_eq_true rfl)
theorem z186_93 : Run d 186 93 [a0, a1, a2, a3, a4, a5] [.int x] M 0 0 Z ↔ (x = 0 → Run d 186 107 [a0, a1, a2, a3, a4, a5] [] M 0 0 Z) ∧ (¬ (x = 0) → Run d 186 96 [a0, a1, a2, a3, a4, a5] [] M 0 0 Z) := R_if (gd186 dX9_fix_93) (show gTgt 93 14 = some 107 by decide) gIf_eq
theorem z186_96 : Run d 186 96 [a0, a1, a2, some (.int x), a4, a5] [] M 0 0 Z ↔ Run d 186 97 [a0, a1, a2, some (.int x), a4, a5] [.int x] M 0 0 Z := R_local (gd186 dX9_fix_96) rfl rfl rfl
theorem z186_97 : Run d 186 97 [some (.ref o), a1, a2, a3, a4, a5] [s0] M 0 0 Z ↔ Run d 186 98 [some (.ref o), a1, a2, a3, a4, a5] [.ref o, s0] M 0 0 Z := R_local (gd186 dX9_fix_97) rfl rfl rfl
theorem z186_98 : Run d 186 98 [a0, a1, some (.int x), a3, a4, a5] [s1, s0] M 0 0 Z ↔ Run d 186 99 [a0, a1, some (.int x), a3, a4, a5] [.int x, s1, s0] M 0 0 Z := R_local (gd186 dX9_fix_98) rfl rfl rfl
theorem z186_99 : Run d 186 99 [a0, a1, a2, a3, a4, a5] [s2, s1, s0] M 0 0 Z ↔ Run d 186 100 [a0, a1, a2, a3, a4, a5] [.int 1, s2, s1, s0] M 0 0 Z := R_iconst (gd186 dX9_fix_99) (by decide)
theorem z186_100 : Run d 186 100 [a0, a1, a2, a3, a4, a5] [s3, s2, .ref b, s0] M 0 0 Z ↔ gObj M b 9 ∧ Call d 177 [.ref b, s2, s3] M (fun r M1 => Run d 186 103 [a0, a1, a2, a3, a4, a5] (r.toList ++ [s0]) M1 0 0 Z) := R_callV (gd186 dX9_fix_100) rfl rfl rfl rfl rfl rfl gc_9_372 rfl rfl (Nat.le_of_ble_eq_true rfl) (Nat.le_of_ble_eq_true rfl) rfl rfl (Nat.le_of_ble_eq_true rfl) (Nat.le_of_ble_eq_true rfl)
theorem z186_103 : Run d 186 103 [a0, a1, a2, a3, a4, a5] [.int y, .int x] M 0 0 Z ↔ Run d 186 104 [a0, a1, a2, a3, a4, a5] [.int (x - y)] M 0 0 Z := R_arith (gd186 dX9_fix_103) rfl
theorem z186_104 : Run d 186 104 [a0, a1, a2, a3, a4, a5] [s0] M 0 0 Z ↔ Run d 186 108 [a0, a1, a2, a3, a4, a5] [s0] M 0 0 Z := R_goto (gd186 dX9_fix_104) (show gTgt 104 4 = some 108 by decide)
theorem z186_107 : Run d 186 107 [a0, a1, a2, a3, a4, a5] [] M 0 0 Z ↔ Run d 186 108 [a0, a1, a2, a3, a4, a5] [.int 0] M 0 0 Z := R_iconst (gd186 dX9_fix_107) (by decide)
theorem z186_108 : Run d 186 108 [a0, a1, a2, a3, a4, a5] [.int x] M 0 0 Z ↔ Run d 186 110 [a0, a1, a2, a3, some (.int x), a5] [] M 0 0 Z := R_local (gd186 dX9_fix_108) rfl rfl rfl
theorem z186_110 : Run d 186 110 [a0, a1, a2, a3, some (.int x), a5] [] M 0 0 Z ↔ Run d 186 112 [a0, a1, a2, a3, some (.int x), a5] [.int x] M 0 0 Z := R_local (gd186 dX9_fix_110) rfl rfl rfl
theorem z186_112 : Run d 186 112 [a0, a1, a2, a3, a4, a5] [.int x] M 0 0 Z ↔ (0 < x → Run d 186 118 [a0, a1, a2, a3, a4, a5] [] M 0 0 Z) ∧ (¬ (0 < x) → Run d 186 115 [a0, a1, a2, a3, a4, a5] [] M 0 0 Z) := R_if (gd186 dX9_fix_112) (show gTgt 112 6 = some 118 by decide) gIf_gt
theorem z186_115 : Run d 186 115 [a0, a1, a2, a3, a4, a5] [] M 0 0 Z ↔ Run d 186 133 [a0, a1, a2, a3, a4, a5] [] M 0 0 Z := R_goto (gd186 dX9_fix_115) (show gTgt 115 18 = some 133 by decide)
theorem z186_118 : Run d 186 118 [a0, some (.int x), a2, a3, a4, a5] [] M 0 0 Z ↔ Run d 186 119 [a0, some (.int x), a2, a3, a4, a5] [.int x] M 0 0 Z := R_local (gd186 dX9_fix_118) rfl rfl rfl
theorem z186_119 : Run d 186 119 [a0, a1, a2, a3, a4, a5] [s0] M 0 0 Z ↔ Run d 186 120 [a0, a1, a2, a3, a4, a5] [.int (-1), s0] M 0 0 Z := R_iconst (gd186 dX9_fix_119) (by decide)
theorem z186_120 : Run d 186 120 [a0, a1, a2, a3, a4, a5] [.int y, .int x] M 0 0 Z ↔ (¬ x = y → Run d 186 129 [a0, a1, a2, a3, a4, a5] [] M 0 0 Z) ∧ (¬ (¬ x = y) → Run d 186 123 [a0, a1, a2, a3, a4, a5] [] M 0 0 Z) := R_icmp (gd186 dX9_fix_120) (show gTgt 120 9 = some 129 by decide) gIf_ne
theorem z186_123 : Run d 186 123 [a0, a1, a2, a3, some (.int x), a5] [] M 0 0 Z ↔ Run d 186 125 [a0, a1, a2, a3, some (.int x), a5] [.int x] M 0 0 Z := R_local (gd186 dX9_fix_123) rfl rfl rfl
theorem z186_125 : Run d 186 125 [a0, a1, a2, a3, a4, a5] [s0] M 0 0 Z ↔ Run d 186 126 [a0, a1, a2, a3, a4, a5] [.int 4, s0] M 0 0 Z := R_iconst (gd186 dX9_fix_125) (by decide)
theorem z186_126 : Run d 186 126 [a0, a1, a2, a3, a4, a5] [.int y, .int x] M 0 0 Z ↔ (x ≤ y → Run d 186 131 [a0, a1, a2, a3, a4, a5] [] M 0 0 Z) ∧ (¬ (x ≤ y) → Run d 186 129 [a0, a1, a2, a3, a4, a5] [] M 0 0 Z) := R_icmp (gd186 dX9_fix_126) (show gTgt 126 5 = some 131 by decide) gIf_le
theorem z186_129 : Run d 186 129 [a0, a1, a2, a3, a4, a5] [] M 0 0 Z ↔ Run d 186 130 [a0, a1, a2, a3, a4, a5] [.int (-1)] M 0 0 Z := R_iconst (gd186 dX9_fix_129) (by decide)
theorem z186_130 : Run d 186 130 [a0, a1, a2, a3, a4, a5] [.int x] M 0 0 Z ↔ Z (some (.int x)) M := R_iret (gd186 dX9_fix_130) rfl
theorem z186_131 : Run d 186 131 [a0, a1, some (.int x), a3, a4, a5] [] M 0 0 Z ↔ Run d 186 132 [a0, a1, some (.int x), a3, a4, a5] [.int x] M 0 0 Z := R_local (gd186 dX9_fix_131) rfl rfl rfl
theorem z186_132 : Run d 186 132 [a0, a1, a2, a3, a4, a5] [.int x] M 0 0 Z ↔ Run d 186 133 [a0, some (.int x), a2, a3, a4, a5] [] M 0 0 Z := R_local (gd186 dX9_fix_132) rfl rfl rfl
theorem z186_133 : Run d 186 133 [a0, a1, some (.int x), a3, a4, a5] [] M 0 0 Z ↔ Run d 186 136 [a0, a1, some (.int (x + 1)), a3, a4, a5] [] M 0 0 Z := R_iinc (gd186 dX9_fix_133) (by decide) rfl rfl
theorem z186_136 : Run d 186 136 [a0, a1, a2, a3, a4, a5] [] M 0 0 Z ↔ Run d 186 30 [a0, a1, a2, a3, a4, a5] [] M 0 0 Z := R_goto (gd186 dX9_fix_136) (show gTgt 136 (-106) = some 30 by decide)
theorem z186_139 : Run d 186 139 [a0, some (.int x), a2, a3, a4, a5] [] M 0 0 Z ↔ Run d 186 140 [a0, some (.int x), a2, a3, a4, a5] [.int x] M 0 0 Z := R_local (gd186 dX9_fix_139) rfl rfl rfl
theorem z186_140 : Run d 186 140 [a0, a1, a2, a3, a4, a5] [.int x] M 0 0 Z ↔ Z (some (.int x)) M := R_iret (gd186 dX9_fix_140) rfl
theorem e186 : Call (d + 1) 186 [s0] M Z ↔ Run d 186 0 [some s0, none, none, none, none, none] [] M 0 0 Z := Call_iff (Nat.lt_of_lt_of_le (Nat.lt_succ_self 186) (Nat.le_of_ble_eq_true rfl)) (Nat.le_of_ble_eq_true rfl)
/-! 187: X9_breaths ()I -/
theorem gd187 {pc : Nat} {r : Except _ _} (h : decode cX9_breaths pc = r) : decode (gby 187) pc = r := h
theorem z187_0 : Run d 187 0 [some (.ref o)] [] M 0 0 Z ↔ Run d 187 1 [some (.ref o)] [.ref o] M 0 0 Z := R_local (gd187 dX9_breaths_0) rfl rfl rfl
theorem z187_1 : Run d 187 1 [a0] [.ref o] M 0 0 Z ↔ gObj M o 9 ∧ Run d 187 4 [a0] [.int (M.1 o 51)] M 0 0 Z := R_getI (gd187 dX9_breaths_1) rfl gf_9_339 rfl
theorem z187_4 : Run d 187 4 [a0] [.int x] M 0 0 Z ↔ (x = 0 → Run d 187 16 [a0] [] M 0 0 Z) ∧ (¬ (x = 0) → Run d 187 7 [a0] [] M 0 0 Z) := R_if (gd187 dX9_breaths_4) (show gTgt 4 12 = some 16 by decide) gIf_eq
theorem z187_7 : Run d 187 7 [a0] [] M 0 0 Z ↔ Run d 187 8 [a0] [.int 1] M 0 0 Z := R_iconst (gd187 dX9_breaths_7) (by decide)
theorem z187_8 : Run d 187 8 [some (.ref o)] [s0] M 0 0 Z ↔ Run d 187 9 [some (.ref o)] [.ref o, s0] M 0 0 Z := R_local (gd187 dX9_breaths_8) rfl rfl rfl
theorem z187_9 : Run d 187 9 [a0] [.ref b, s0] M 0 0 Z ↔ gObj M b 9 ∧ Call d 174 [.ref b] M (fun r M1 => Run d 187 12 [a0] (r.toList ++ [s0]) M1 0 0 Z) := R_callV (gd187 dX9_breaths_9) rfl rfl rfl rfl rfl rfl gc_9_366 rfl rfl (Nat.le_of_ble_eq_true rfl) (Nat.le_of_ble_eq_true rfl) rfl rfl (Nat.le_of_ble_eq_true rfl) (Nat.le_of_ble_eq_true rfl)
theorem z187_12 : Run d 187 12 [a0] [.int y, .int x] M 0 0 Z ↔ Run d 187 13 [a0] [.int (x + y)] M 0 0 Z := R_arith (gd187 dX9_breaths_12) rfl
theorem z187_13 : Run d 187 13 [a0] [s0] M 0 0 Z ↔ Run d 187 17 [a0] [s0] M 0 0 Z := R_goto (gd187 dX9_breaths_13) (show gTgt 13 4 = some 17 by decide)
theorem z187_16 : Run d 187 16 [a0] [] M 0 0 Z ↔ Run d 187 17 [a0] [.int (-1)] M 0 0 Z := R_iconst (gd187 dX9_breaths_16) (by decide)
theorem z187_17 : Run d 187 17 [a0] [.int x] M 0 0 Z ↔ Z (some (.int x)) M := R_iret (gd187 dX9_breaths_17) rfl
theorem e187 : Call (d + 1) 187 [s0] M Z ↔ Run d 187 0 [some s0] [] M 0 0 Z := Call_iff (Nat.lt_of_lt_of_le (Nat.lt_succ_self 187) (Nat.le_of_ble_eq_true rfl)) (Nat.le_of_ble_eq_true rfl)
/-! 188: X9_shortest (IIII)I -/
theorem gd188 {pc : Nat} {r : Except _ _} (h : decode cX9_shortest pc = r) : decode (gby 188) pc = r := h
theorem z188_0 : Run d 188 0 [some (.ref o), a1, a2, a3, a4, a5] [] M 0 0 Z ↔ Run d 188 1 [some (.ref o), a1, a2, a3, a4, a5] [.ref o] M 0 0 Z := R_local (gd188 dX9_shortest_0) rfl rfl rfl
theorem z188_1 : Run d 188 1 [a0, some (.int x), a2, a3, a4, a5] [s0] M 0 0 Z ↔ Run d 188 2 [a0, some (.int x), a2, a3, a4, a5] [.int x, s0] M 0 0 Z := R_local (gd188 dX9_shortest_1) rfl rfl rfl
theorem z188_2 : Run d 188 2 [a0, a1, a2, a3, a4, a5] [s1, .ref b] M 0 0 Z ↔ gObj M b 9 ∧ Call d 124 [.ref b, s1] M (fun r M1 => Run d 188 5 [a0, a1, a2, a3, a4, a5] (r.toList ++ []) M1 0 0 Z) := R_callV (gd188 dX9_shortest_2) rfl rfl rfl rfl rfl rfl gc_9_329 rfl rfl (Nat.le_of_ble_eq_true rfl) (Nat.le_of_ble_eq_true rfl) rfl rfl (Nat.le_of_ble_eq_true rfl) (Nat.le_of_ble_eq_true rfl)
theorem z188_5 : Run d 188 5 [a0, a1, a2, a3, a4, a5] [.int x] M 0 0 Z ↔ (x = 0 → Run d 188 36 [a0, a1, a2, a3, a4, a5] [] M 0 0 Z) ∧ (¬ (x = 0) → Run d 188 8 [a0, a1, a2, a3, a4, a5] [] M 0 0 Z) := R_if (gd188 dX9_shortest_5) (show gTgt 5 31 = some 36 by decide) gIf_eq
theorem z188_8 : Run d 188 8 [some (.ref o), a1, a2, a3, a4, a5] [] M 0 0 Z ↔ Run d 188 9 [some (.ref o), a1, a2, a3, a4, a5] [.ref o] M 0 0 Z := R_local (gd188 dX9_shortest_8) rfl rfl rfl
theorem z188_9 : Run d 188 9 [a0, a1, some (.int x), a3, a4, a5] [s0] M 0 0 Z ↔ Run d 188 10 [a0, a1, some (.int x), a3, a4, a5] [.int x, s0] M 0 0 Z := R_local (gd188 dX9_shortest_9) rfl rfl rfl
theorem z188_10 : Run d 188 10 [a0, a1, a2, a3, a4, a5] [s1, .ref b] M 0 0 Z ↔ gObj M b 9 ∧ Call d 122 [.ref b, s1] M (fun r M1 => Run d 188 13 [a0, a1, a2, a3, a4, a5] (r.toList ++ []) M1 0 0 Z) := R_callV (gd188 dX9_shortest_10) rfl rfl rfl rfl rfl rfl gc_9_332 rfl rfl (Nat.le_of_ble_eq_true rfl) (Nat.le_of_ble_eq_true rfl) rfl rfl (Nat.le_of_ble_eq_true rfl) (Nat.le_of_ble_eq_true rfl)
theorem z188_13 : Run d 188 13 [a0, a1, a2, a3, a4, a5] [.int x] M 0 0 Z ↔ (x = 0 → Run d 188 36 [a0, a1, a2, a3, a4, a5] [] M 0 0 Z) ∧ (¬ (x = 0) → Run d 188 16 [a0, a1, a2, a3, a4, a5] [] M 0 0 Z) := R_if (gd188 dX9_shortest_13) (show gTgt 13 23 = some 36 by decide) gIf_eq
theorem z188_16 : Run d 188 16 [a0, a1, a2, some (.int x), a4, a5] [] M 0 0 Z ↔ Run d 188 17 [a0, a1, a2, some (.int x), a4, a5] [.int x] M 0 0 Z := R_local (gd188 dX9_shortest_16) rfl rfl rfl
theorem z188_17 : Run d 188 17 [a0, a1, a2, a3, a4, a5] [s0] M 0 0 Z ↔ Run d 188 18 [a0, a1, a2, a3, a4, a5] [.int 1, s0] M 0 0 Z := R_iconst (gd188 dX9_shortest_17) (by decide)
theorem z188_18 : Run d 188 18 [a0, a1, a2, a3, a4, a5] [s1, s0] M 0 0 Z ↔ Run d 188 19 [a0, a1, a2, a3, a4, a5] [.int 4, s1, s0] M 0 0 Z := R_iconst (gd188 dX9_shortest_18) (by decide)
theorem z188_19 : Run d 188 19 [a0, a1, a2, a3, a4, a5] [s2, s1, s0] M 0 0 Z ↔ Call d 120 [s0, s1, s2] M (fun r M1 => Run d 188 22 [a0, a1, a2, a3, a4, a5] (r.toList ++ []) M1 0 0 Z) := R_call (gd188 dX9_shortest_19) rfl rfl rfl rfl rfl rfl gc_9_157 rfl (by decide) (Nat.le_of_ble_eq_true rfl) (Nat.le_of_ble_eq_true rfl) rfl rfl rfl (Nat.le_of_ble_eq_true rfl) (Nat.le_of_ble_eq_true rfl)
theorem z188_22 : Run d 188 22 [a0, a1, a2, a3, a4, a5] [.int x] M 0 0 Z ↔ (x = 0 → Run d 188 36 [a0, a1, a2, a3, a4, a5] [] M 0 0 Z) ∧ (¬ (x = 0) → Run d 188 25 [a0, a1, a2, a3, a4, a5] [] M 0 0 Z) := R_if (gd188 dX9_shortest_22) (show gTgt 22 14 = some 36 by decide) gIf_eq
theorem z188_25 : Run d 188 25 [a0, a1, a2, a3, some (.int x), a5] [] M 0 0 Z ↔ Run d 188 27 [a0, a1, a2, a3, some (.int x), a5] [.int x] M 0 0 Z := R_local (gd188 dX9_shortest_25) rfl rfl rfl
theorem z188_27 : Run d 188 27 [a0, a1, a2, a3, a4, a5] [s0] M 0 0 Z ↔ Run d 188 28 [a0, a1, a2, a3, a4, a5] [.int 0, s0] M 0 0 Z := R_iconst (gd188 dX9_shortest_27) (by decide)
theorem z188_28 : Run d 188 28 [a0, a1, a2, a3, a4, a5] [s1, s0] M 0 0 Z ↔ Run d 188 30 [a0, a1, a2, a3, a4, a5] [.int 60, s1, s0] M 0 0 Z := R_bipush (gd188 dX9_shortest_28) (by decide)
theorem z188_30 : Run d 188 30 [a0, a1, a2, a3, a4, a5] [s2, s1, s0] M 0 0 Z ↔ Call d 120 [s0, s1, s2] M (fun r M1 => Run d 188 33 [a0, a1, a2, a3, a4, a5] (r.toList ++ []) M1 0 0 Z) := R_call (gd188 dX9_shortest_30) rfl rfl rfl rfl rfl rfl gc_9_157 rfl (by decide) (Nat.le_of_ble_eq_true rfl) (Nat.le_of_ble_eq_true rfl) rfl rfl rfl (Nat.le_of_ble_eq_true rfl) (Nat.le_of_ble_eq_true rfl)
theorem z188_33 : Run d 188 33 [a0, a1, a2, a3, a4, a5] [.int x] M 0 0 Z ↔ (¬ x = 0 → Run d 188 38 [a0, a1, a2, a3, a4, a5] [] M 0 0 Z) ∧ (¬ (¬ x = 0) → Run d 188 36 [a0, a1, a2, a3, a4, a5] [] M 0 0 Z) := R_if (gd188 dX9_shortest_33) (show gTgt 33 5 = some 38 by decide) gIf_ne
theorem z188_36 : Run d 188 36 [a0, a1, a2, a3, a4, a5] [] M 0 0 Z ↔ Run d 188 37 [a0, a1, a2, a3, a4, a5] [.int (-1)] M 0 0 Z := R_iconst (gd188 dX9_shortest_36) (by decide)
theorem z188_37 : Run d 188 37 [a0, a1, a2, a3, a4, a5] [.int x] M 0 0 Z ↔ Z (some (.int x)) M := R_iret (gd188 dX9_shortest_37) rfl
theorem z188_38 : Run d 188 38 [a0, a1, a2, a3, a4, a5] [] M 0 0 Z ↔ Run d 188 40 [a0, a1, a2, a3, a4, a5] [.int 10] M 0 0 Z := R_bipush (gd188 dX9_shortest_38) (by decide)
theorem z188_40 : Run d 188 40 [a0, a1, a2, a3, a4, a5] [.int x] M 0 0 Z ↔ Run d 188 42 [a0, a1, a2, a3, a4, some (.int x)] [] M 0 0 Z := R_local (gd188 dX9_shortest_40) rfl rfl rfl
theorem z188_42 : Run d 188 42 [a0, a1, a2, a3, a4, some (.int x)] [] M 0 0 Z ↔ Run d 188 44 [a0, a1, a2, a3, a4, some (.int x)] [.int x] M 0 0 Z := R_local (gd188 dX9_shortest_42) rfl rfl rfl
theorem z188_44 : Run d 188 44 [a0, a1, a2, a3, a4, a5] [s0] M 0 0 Z ↔ Run d 188 47 [a0, a1, a2, a3, a4, a5] [.int 400, s0] M 0 0 Z := R_sipush (gd188 dX9_shortest_44) (by decide)
theorem z188_47 : Run d 188 47 [a0, a1, a2, a3, a4, a5] [.int y, .int x] M 0 0 Z ↔ (y < x → Run d 188 80 [a0, a1, a2, a3, a4, a5] [] M 0 0 Z) ∧ (¬ (y < x) → Run d 188 50 [a0, a1, a2, a3, a4, a5] [] M 0 0 Z) := R_icmp (gd188 dX9_shortest_47) (show gTgt 47 33 = some 80 by decide) gIf_gt
theorem z188_50 : Run d 188 50 [some (.ref o), a1, a2, a3, a4, a5] [] M 0 0 Z ↔ Run d 188 51 [some (.ref o), a1, a2, a3, a4, a5] [.ref o] M 0 0 Z := R_local (gd188 dX9_shortest_50) rfl rfl rfl
theorem z188_51 : Run d 188 51 [a0, some (.int x), a2, a3, a4, a5] [s0] M 0 0 Z ↔ Run d 188 52 [a0, some (.int x), a2, a3, a4, a5] [.int x, s0] M 0 0 Z := R_local (gd188 dX9_shortest_51) rfl rfl rfl
theorem z188_52 : Run d 188 52 [a0, a1, some (.int x), a3, a4, a5] [s1, s0] M 0 0 Z ↔ Run d 188 53 [a0, a1, some (.int x), a3, a4, a5] [.int x, s1, s0] M 0 0 Z := R_local (gd188 dX9_shortest_52) rfl rfl rfl
theorem z188_53 : Run d 188 53 [a0, a1, a2, a3, a4, some (.int x)] [s2, s1, s0] M 0 0 Z ↔ Run d 188 55 [a0, a1, a2, a3, a4, some (.int x)] [.int x, s2, s1, s0] M 0 0 Z := R_local (gd188 dX9_shortest_53) rfl rfl rfl
theorem z188_55 : Run d 188 55 [a0, a1, a2, some (.int x), a4, a5] [s3, s2, s1, s0] M 0 0 Z ↔ Run d 188 56 [a0, a1, a2, some (.int x), a4, a5] [.int x, s3, s2, s1, s0] M 0 0 Z := R_local (gd188 dX9_shortest_55) rfl rfl rfl
theorem z188_56 : Run d 188 56 [a0, a1, a2, a3, some (.int x), a5] [s4, s3, s2, s1, s0] M 0 0 Z ↔ Run d 188 58 [a0, a1, a2, a3, some (.int x), a5] [.int x, s4, s3, s2, s1, s0] M 0 0 Z := R_local (gd188 dX9_shortest_56) rfl rfl rfl
theorem z188_58 : Run d 188 58 [a0, a1, a2, a3, a4, a5] [s5, s4, s3, s2, s1, s0] M 0 0 Z ↔ Run d 188 59 [a0, a1, a2, a3, a4, a5] [.int 1, s5, s4, s3, s2, s1, s0] M 0 0 Z := R_iconst (gd188 dX9_shortest_58) (by decide)
theorem z188_59 : Run d 188 59 [a0, a1, a2, a3, a4, a5] [s6, s5, s4, s3, s2, s1, .ref b] M 0 0 Z ↔ gObj M b 9 ∧ Call d 165 [.ref b, s1, s2, s3, s4, s5, s6] M (fun r M1 => Run d 188 62 [a0, a1, a2, a3, a4, a5] (r.toList ++ []) M1 0 0 Z) := R_callV (gd188 dX9_shortest_59) rfl rfl rfl rfl rfl rfl gc_9_335 rfl rfl (Nat.le_of_ble_eq_true rfl) (Nat.le_of_ble_eq_true rfl) rfl rfl (Nat.le_of_ble_eq_true rfl) (Nat.le_of_ble_eq_true rfl)
theorem z188_62 : Run d 188 62 [some (.ref o), a1, a2, a3, a4, a5] [] M 0 0 Z ↔ Run d 188 63 [some (.ref o), a1, a2, a3, a4, a5] [.ref o] M 0 0 Z := R_local (gd188 dX9_shortest_62) rfl rfl rfl
theorem z188_63 : Run d 188 63 [a0, a1, a2, a3, a4, a5] [.ref o] M 0 0 Z ↔ gObj M o 9 ∧ Run d 188 66 [a0, a1, a2, a3, a4, a5] [va_rf (M.2.1 o 34)] M 0 0 Z := R_getR (gd188 dX9_shortest_63) rfl gf_9_89 rfl
theorem z188_66 : Run d 188 66 [a0, a1, a2, a3, a4, a5] [s0] M 0 0 Z ↔ Run d 188 67 [a0, a1, a2, a3, a4, a5] [.int 1, s0] M 0 0 Z := R_iconst (gd188 dX9_shortest_66) (by decide)
theorem z188_67 : Run d 188 67 [a0, a1, a2, a3, a4, a5] [.int x, .ref o] M 0 0 Z ↔ gAr M o 0 ∧ gIn x (gLen M o) = true ∧ Run d 188 68 [a0, a1, a2, a3, a4, a5] [.int (M.1 o x.toNatClampNeg)] M 0 0 Z := R_iald (gd188 dX9_shortest_67)
theorem z188_68 : Run d 188 68 [a0, a1, a2, a3, a4, a5] [.int x] M 0 0 Z ↔ (¬ x = 0 → Run d 188 74 [a0, a1, a2, a3, a4, a5] [] M 0 0 Z) ∧ (¬ (¬ x = 0) → Run d 188 71 [a0, a1, a2, a3, a4, a5] [] M 0 0 Z) := R_if (gd188 dX9_shortest_68) (show gTgt 68 6 = some 74 by decide) gIf_ne
theorem z188_71 : Run d 188 71 [a0, a1, a2, a3, a4, some (.int x)] [] M 0 0 Z ↔ Run d 188 73 [a0, a1, a2, a3, a4, some (.int x)] [.int x] M 0 0 Z := R_local (gd188 dX9_shortest_71) rfl rfl rfl
theorem z188_73 : Run d 188 73 [a0, a1, a2, a3, a4, a5] [.int x] M 0 0 Z ↔ Z (some (.int x)) M := R_iret (gd188 dX9_shortest_73) rfl
theorem z188_74 : Run d 188 74 [a0, a1, a2, a3, a4, some (.int x)] [] M 0 0 Z ↔ Run d 188 77 [a0, a1, a2, a3, a4, some (.int (x + 1))] [] M 0 0 Z := R_iinc (gd188 dX9_shortest_74) (by decide) rfl rfl
theorem z188_77 : Run d 188 77 [a0, a1, a2, a3, a4, a5] [] M 0 0 Z ↔ Run d 188 42 [a0, a1, a2, a3, a4, a5] [] M 0 0 Z := R_goto (gd188 dX9_shortest_77) (show gTgt 77 (-35) = some 42 by decide)
theorem z188_80 : Run d 188 80 [a0, a1, a2, a3, a4, a5] [] M 0 0 Z ↔ Run d 188 81 [a0, a1, a2, a3, a4, a5] [.int (-1)] M 0 0 Z := R_iconst (gd188 dX9_shortest_80) (by decide)
theorem z188_81 : Run d 188 81 [a0, a1, a2, a3, a4, a5] [.int x] M 0 0 Z ↔ Z (some (.int x)) M := R_iret (gd188 dX9_shortest_81) rfl
theorem e188 : Call (d + 1) 188 [s0, s1, s2, s3, s4] M Z ↔ Run d 188 0 [some s0, some s1, some s2, some s3, some s4, none] [] M 0 0 Z := Call_iff (Nat.lt_of_lt_of_le (Nat.lt_succ_self 188) (Nat.le_of_ble_eq_true rfl)) (Nat.le_of_ble_eq_true rfl)
/-! 189: X9_solve (IIIII)I -/
theorem gd189 {pc : Nat} {r : Except _ _} (h : decode cX9_solve pc = r) : decode (gby 189) pc = r := h
theorem z189_0 : Run d 189 0 [some (.ref o), a1, a2, a3, a4, a5, a6] [] M 0 0 Z ↔ Run d 189 1 [some (.ref o), a1, a2, a3, a4, a5, a6] [.ref o] M 0 0 Z := R_local (gd189 dX9_solve_0) rfl rfl rfl
theorem z189_1 : Run d 189 1 [a0, some (.int x), a2, a3, a4, a5, a6] [s0] M 0 0 Z ↔ Run d 189 2 [a0, some (.int x), a2, a3, a4, a5, a6] [.int x, s0] M 0 0 Z := R_local (gd189 dX9_solve_1) rfl rfl rfl
theorem z189_2 : Run d 189 2 [a0, a1, a2, a3, a4, a5, a6] [s1, .ref b] M 0 0 Z ↔ gObj M b 9 ∧ Call d 124 [.ref b, s1] M (fun r M1 => Run d 189 5 [a0, a1, a2, a3, a4, a5, a6] (r.toList ++ []) M1 0 0 Z) := R_callV (gd189 dX9_solve_2) rfl rfl rfl rfl rfl rfl gc_9_329 rfl rfl (Nat.le_of_ble_eq_true rfl) (Nat.le_of_ble_eq_true rfl) rfl rfl (Nat.le_of_ble_eq_true rfl) (Nat.le_of_ble_eq_true rfl)
theorem z189_5 : Run d 189 5 [a0, a1, a2, a3, a4, a5, a6] [.int x] M 0 0 Z ↔ (x = 0 → Run d 189 47 [a0, a1, a2, a3, a4, a5, a6] [] M 0 0 Z) ∧ (¬ (x = 0) → Run d 189 8 [a0, a1, a2, a3, a4, a5, a6] [] M 0 0 Z) := R_if (gd189 dX9_solve_5) (show gTgt 5 42 = some 47 by decide) gIf_eq
theorem z189_8 : Run d 189 8 [some (.ref o), a1, a2, a3, a4, a5, a6] [] M 0 0 Z ↔ Run d 189 9 [some (.ref o), a1, a2, a3, a4, a5, a6] [.ref o] M 0 0 Z := R_local (gd189 dX9_solve_8) rfl rfl rfl
theorem z189_9 : Run d 189 9 [a0, a1, some (.int x), a3, a4, a5, a6] [s0] M 0 0 Z ↔ Run d 189 10 [a0, a1, some (.int x), a3, a4, a5, a6] [.int x, s0] M 0 0 Z := R_local (gd189 dX9_solve_9) rfl rfl rfl
theorem z189_10 : Run d 189 10 [a0, a1, a2, a3, a4, a5, a6] [s1, .ref b] M 0 0 Z ↔ gObj M b 9 ∧ Call d 122 [.ref b, s1] M (fun r M1 => Run d 189 13 [a0, a1, a2, a3, a4, a5, a6] (r.toList ++ []) M1 0 0 Z) := R_callV (gd189 dX9_solve_10) rfl rfl rfl rfl rfl rfl gc_9_332 rfl rfl (Nat.le_of_ble_eq_true rfl) (Nat.le_of_ble_eq_true rfl) rfl rfl (Nat.le_of_ble_eq_true rfl) (Nat.le_of_ble_eq_true rfl)
theorem z189_13 : Run d 189 13 [a0, a1, a2, a3, a4, a5, a6] [.int x] M 0 0 Z ↔ (x = 0 → Run d 189 47 [a0, a1, a2, a3, a4, a5, a6] [] M 0 0 Z) ∧ (¬ (x = 0) → Run d 189 16 [a0, a1, a2, a3, a4, a5, a6] [] M 0 0 Z) := R_if (gd189 dX9_solve_13) (show gTgt 13 34 = some 47 by decide) gIf_eq
theorem z189_16 : Run d 189 16 [some (.ref o), a1, a2, a3, a4, a5, a6] [] M 0 0 Z ↔ Run d 189 17 [some (.ref o), a1, a2, a3, a4, a5, a6] [.ref o] M 0 0 Z := R_local (gd189 dX9_solve_16) rfl rfl rfl
theorem z189_17 : Run d 189 17 [a0, a1, a2, some (.int x), a4, a5, a6] [s0] M 0 0 Z ↔ Run d 189 18 [a0, a1, a2, some (.int x), a4, a5, a6] [.int x, s0] M 0 0 Z := R_local (gd189 dX9_solve_17) rfl rfl rfl
theorem z189_18 : Run d 189 18 [a0, a1, a2, a3, a4, a5, a6] [s1, .ref b] M 0 0 Z ↔ gObj M b 9 ∧ Call d 123 [.ref b, s1] M (fun r M1 => Run d 189 21 [a0, a1, a2, a3, a4, a5, a6] (r.toList ++ []) M1 0 0 Z) := R_callV (gd189 dX9_solve_18) rfl rfl rfl rfl rfl rfl gc_9_167 rfl rfl (Nat.le_of_ble_eq_true rfl) (Nat.le_of_ble_eq_true rfl) rfl rfl (Nat.le_of_ble_eq_true rfl) (Nat.le_of_ble_eq_true rfl)
theorem z189_21 : Run d 189 21 [a0, a1, a2, a3, a4, a5, a6] [.int x] M 0 0 Z ↔ (x = 0 → Run d 189 47 [a0, a1, a2, a3, a4, a5, a6] [] M 0 0 Z) ∧ (¬ (x = 0) → Run d 189 24 [a0, a1, a2, a3, a4, a5, a6] [] M 0 0 Z) := R_if (gd189 dX9_solve_21) (show gTgt 21 26 = some 47 by decide) gIf_eq
theorem z189_24 : Run d 189 24 [a0, a1, a2, a3, some (.int x), a5, a6] [] M 0 0 Z ↔ Run d 189 26 [a0, a1, a2, a3, some (.int x), a5, a6] [.int x] M 0 0 Z := R_local (gd189 dX9_solve_24) rfl rfl rfl
theorem z189_26 : Run d 189 26 [a0, a1, a2, a3, a4, a5, a6] [s0] M 0 0 Z ↔ Run d 189 27 [a0, a1, a2, a3, a4, a5, a6] [.int 0, s0] M 0 0 Z := R_iconst (gd189 dX9_solve_26) (by decide)
theorem z189_27 : Run d 189 27 [a0, a1, a2, a3, a4, a5, a6] [s1, s0] M 0 0 Z ↔ Run d 189 30 [a0, a1, a2, a3, a4, a5, a6] [.int 400, s1, s0] M 0 0 Z := R_sipush (gd189 dX9_solve_27) (by decide)
theorem z189_30 : Run d 189 30 [a0, a1, a2, a3, a4, a5, a6] [s2, s1, s0] M 0 0 Z ↔ Call d 120 [s0, s1, s2] M (fun r M1 => Run d 189 33 [a0, a1, a2, a3, a4, a5, a6] (r.toList ++ []) M1 0 0 Z) := R_call (gd189 dX9_solve_30) rfl rfl rfl rfl rfl rfl gc_9_157 rfl (by decide) (Nat.le_of_ble_eq_true rfl) (Nat.le_of_ble_eq_true rfl) rfl rfl rfl (Nat.le_of_ble_eq_true rfl) (Nat.le_of_ble_eq_true rfl)
theorem z189_33 : Run d 189 33 [a0, a1, a2, a3, a4, a5, a6] [.int x] M 0 0 Z ↔ (x = 0 → Run d 189 47 [a0, a1, a2, a3, a4, a5, a6] [] M 0 0 Z) ∧ (¬ (x = 0) → Run d 189 36 [a0, a1, a2, a3, a4, a5, a6] [] M 0 0 Z) := R_if (gd189 dX9_solve_33) (show gTgt 33 14 = some 47 by decide) gIf_eq
theorem z189_36 : Run d 189 36 [a0, a1, a2, a3, a4, some (.int x), a6] [] M 0 0 Z ↔ Run d 189 38 [a0, a1, a2, a3, a4, some (.int x), a6] [.int x] M 0 0 Z := R_local (gd189 dX9_solve_36) rfl rfl rfl
theorem z189_38 : Run d 189 38 [a0, a1, a2, a3, a4, a5, a6] [s0] M 0 0 Z ↔ Run d 189 39 [a0, a1, a2, a3, a4, a5, a6] [.int (-1), s0] M 0 0 Z := R_iconst (gd189 dX9_solve_38) (by decide)
theorem z189_39 : Run d 189 39 [a0, a1, a2, a3, a4, a5, a6] [s1, s0] M 0 0 Z ↔ Run d 189 41 [a0, a1, a2, a3, a4, a5, a6] [.int 7, s1, s0] M 0 0 Z := R_bipush (gd189 dX9_solve_39) (by decide)
theorem z189_41 : Run d 189 41 [a0, a1, a2, a3, a4, a5, a6] [s2, s1, s0] M 0 0 Z ↔ Call d 120 [s0, s1, s2] M (fun r M1 => Run d 189 44 [a0, a1, a2, a3, a4, a5, a6] (r.toList ++ []) M1 0 0 Z) := R_call (gd189 dX9_solve_41) rfl rfl rfl rfl rfl rfl gc_9_157 rfl (by decide) (Nat.le_of_ble_eq_true rfl) (Nat.le_of_ble_eq_true rfl) rfl rfl rfl (Nat.le_of_ble_eq_true rfl) (Nat.le_of_ble_eq_true rfl)
theorem z189_44 : Run d 189 44 [a0, a1, a2, a3, a4, a5, a6] [.int x] M 0 0 Z ↔ (¬ x = 0 → Run d 189 49 [a0, a1, a2, a3, a4, a5, a6] [] M 0 0 Z) ∧ (¬ (¬ x = 0) → Run d 189 47 [a0, a1, a2, a3, a4, a5, a6] [] M 0 0 Z) := R_if (gd189 dX9_solve_44) (show gTgt 44 5 = some 49 by decide) gIf_ne
theorem z189_47 : Run d 189 47 [a0, a1, a2, a3, a4, a5, a6] [] M 0 0 Z ↔ Run d 189 48 [a0, a1, a2, a3, a4, a5, a6] [.int (-1)] M 0 0 Z := R_iconst (gd189 dX9_solve_47) (by decide)
theorem z189_48 : Run d 189 48 [a0, a1, a2, a3, a4, a5, a6] [.int x] M 0 0 Z ↔ Z (some (.int x)) M := R_iret (gd189 dX9_solve_48) rfl
theorem z189_49 : Run d 189 49 [a0, a1, a2, a3, a4, a5, a6] [] M 0 0 Z ↔ Run d 189 50 [a0, a1, a2, a3, a4, a5, a6] [.int 0] M 0 0 Z := R_iconst (gd189 dX9_solve_49) (by decide)
theorem z189_50 : Run d 189 50 [a0, a1, a2, a3, a4, a5, a6] [.int x] M 0 0 Z ↔ Run d 189 52 [a0, a1, a2, a3, a4, a5, some (.int x)] [] M 0 0 Z := R_local (gd189 dX9_solve_50) rfl rfl rfl
theorem z189_52 : Run d 189 52 [a0, a1, a2, a3, a4, a5, some (.int x)] [] M 0 0 Z ↔ Run d 189 54 [a0, a1, a2, a3, a4, a5, some (.int x)] [.int x] M 0 0 Z := R_local (gd189 dX9_solve_52) rfl rfl rfl
theorem z189_54 : Run d 189 54 [a0, a1, a2, a3, a4, a5, a6] [s0] M 0 0 Z ↔ Run d 189 56 [a0, a1, a2, a3, a4, a5, a6] [.int 60, s0] M 0 0 Z := R_bipush (gd189 dX9_solve_54) (by decide)
theorem z189_56 : Run d 189 56 [a0, a1, a2, a3, a4, a5, a6] [.int y, .int x] M 0 0 Z ↔ (y < x → Run d 189 132 [a0, a1, a2, a3, a4, a5, a6] [] M 0 0 Z) ∧ (¬ (y < x) → Run d 189 59 [a0, a1, a2, a3, a4, a5, a6] [] M 0 0 Z) := R_icmp (gd189 dX9_solve_56) (show gTgt 56 76 = some 132 by decide) gIf_gt
theorem z189_59 : Run d 189 59 [some (.ref o), a1, a2, a3, a4, a5, a6] [] M 0 0 Z ↔ Run d 189 60 [some (.ref o), a1, a2, a3, a4, a5, a6] [.ref o] M 0 0 Z := R_local (gd189 dX9_solve_59) rfl rfl rfl
theorem z189_60 : Run d 189 60 [a0, some (.int x), a2, a3, a4, a5, a6] [s0] M 0 0 Z ↔ Run d 189 61 [a0, some (.int x), a2, a3, a4, a5, a6] [.int x, s0] M 0 0 Z := R_local (gd189 dX9_solve_60) rfl rfl rfl
theorem z189_61 : Run d 189 61 [a0, a1, some (.int x), a3, a4, a5, a6] [s1, s0] M 0 0 Z ↔ Run d 189 62 [a0, a1, some (.int x), a3, a4, a5, a6] [.int x, s1, s0] M 0 0 Z := R_local (gd189 dX9_solve_61) rfl rfl rfl
theorem z189_62 : Run d 189 62 [some (.ref o), a1, a2, a3, a4, a5, a6] [s2, s1, s0] M 0 0 Z ↔ Run d 189 63 [some (.ref o), a1, a2, a3, a4, a5, a6] [.ref o, s2, s1, s0] M 0 0 Z := R_local (gd189 dX9_solve_62) rfl rfl rfl
theorem z189_63 : Run d 189 63 [a0, a1, a2, a3, a4, a5, a6] [.ref o, s2, s1, s0] M 0 0 Z ↔ gObj M o 9 ∧ Run d 189 66 [a0, a1, a2, a3, a4, a5, a6] [va_rf (M.2.1 o 6), s2, s1, s0] M 0 0 Z := R_getR (gd189 dX9_solve_63) rfl gf_9_17 rfl
theorem z189_66 : Run d 189 66 [a0, a1, a2, some (.int x), a4, a5, a6] [s3, s2, s1, s0] M 0 0 Z ↔ Run d 189 67 [a0, a1, a2, some (.int x), a4, a5, a6] [.int x, s3, s2, s1, s0] M 0 0 Z := R_local (gd189 dX9_solve_66) rfl rfl rfl
theorem z189_67 : Run d 189 67 [a0, a1, a2, a3, a4, a5, a6] [.int x, .ref o, s2, s1, s0] M 0 0 Z ↔ gAr M o 0 ∧ gIn x (gLen M o) = true ∧ Run d 189 68 [a0, a1, a2, a3, a4, a5, a6] [.int (M.1 o x.toNatClampNeg), s2, s1, s0] M 0 0 Z := R_iald (gd189 dX9_solve_67)
theorem z189_68 : Run d 189 68 [some (.ref o), a1, a2, a3, a4, a5, a6] [s3, s2, s1, s0] M 0 0 Z ↔ Run d 189 69 [some (.ref o), a1, a2, a3, a4, a5, a6] [.ref o, s3, s2, s1, s0] M 0 0 Z := R_local (gd189 dX9_solve_68) rfl rfl rfl
theorem z189_69 : Run d 189 69 [a0, a1, a2, a3, a4, a5, a6] [.ref o, s3, s2, s1, s0] M 0 0 Z ↔ gObj M o 9 ∧ Run d 189 72 [a0, a1, a2, a3, a4, a5, a6] [va_rf (M.2.1 o 7), s3, s2, s1, s0] M 0 0 Z := R_getR (gd189 dX9_solve_69) rfl gf_9_20 rfl
theorem z189_72 : Run d 189 72 [a0, a1, a2, some (.int x), a4, a5, a6] [s4, s3, s2, s1, s0] M 0 0 Z ↔ Run d 189 73 [a0, a1, a2, some (.int x), a4, a5, a6] [.int x, s4, s3, s2, s1, s0] M 0 0 Z := R_local (gd189 dX9_solve_72) rfl rfl rfl
theorem z189_73 : Run d 189 73 [a0, a1, a2, a3, a4, a5, a6] [.int x, .ref o, s3, s2, s1, s0] M 0 0 Z ↔ gAr M o 0 ∧ gIn x (gLen M o) = true ∧ Run d 189 74 [a0, a1, a2, a3, a4, a5, a6] [.int (M.1 o x.toNatClampNeg), s3, s2, s1, s0] M 0 0 Z := R_iald (gd189 dX9_solve_73)
theorem z189_74 : Run d 189 74 [a0, a1, a2, a3, a4, a5, some (.int x)] [s4, s3, s2, s1, s0] M 0 0 Z ↔ Run d 189 76 [a0, a1, a2, a3, a4, a5, some (.int x)] [.int x, s4, s3, s2, s1, s0] M 0 0 Z := R_local (gd189 dX9_solve_74) rfl rfl rfl
theorem z189_76 : Run d 189 76 [a0, a1, a2, a3, a4, a5, a6] [s5, s4, s3, s2, s1, s0] M 0 0 Z ↔ Run d 189 77 [a0, a1, a2, a3, a4, a5, a6] [.int 1, s5, s4, s3, s2, s1, s0] M 0 0 Z := R_iconst (gd189 dX9_solve_76) (by decide)
theorem z189_77 : Run d 189 77 [a0, a1, a2, a3, a4, a5, a6] [s6, s5, s4, s3, s2, s1, .ref b] M 0 0 Z ↔ gObj M b 9 ∧ Call d 165 [.ref b, s1, s2, s3, s4, s5, s6] M (fun r M1 => Run d 189 80 [a0, a1, a2, a3, a4, a5, a6] (r.toList ++ []) M1 0 0 Z) := R_callV (gd189 dX9_solve_77) rfl rfl rfl rfl rfl rfl gc_9_335 rfl rfl (Nat.le_of_ble_eq_true rfl) (Nat.le_of_ble_eq_true rfl) rfl rfl (Nat.le_of_ble_eq_true rfl) (Nat.le_of_ble_eq_true rfl)
theorem z189_80 : Run d 189 80 [some (.ref o), a1, a2, a3, a4, a5, a6] [] M 0 0 Z ↔ Run d 189 81 [some (.ref o), a1, a2, a3, a4, a5, a6] [.ref o] M 0 0 Z := R_local (gd189 dX9_solve_80) rfl rfl rfl
theorem z189_81 : Run d 189 81 [a0, a1, a2, a3, a4, a5, a6] [.ref o] M 0 0 Z ↔ gObj M o 9 ∧ Run d 189 84 [a0, a1, a2, a3, a4, a5, a6] [va_rf (M.2.1 o 34)] M 0 0 Z := R_getR (gd189 dX9_solve_81) rfl gf_9_89 rfl
theorem z189_84 : Run d 189 84 [a0, a1, a2, a3, a4, a5, a6] [s0] M 0 0 Z ↔ Run d 189 85 [a0, a1, a2, a3, a4, a5, a6] [.int 1, s0] M 0 0 Z := R_iconst (gd189 dX9_solve_84) (by decide)
theorem z189_85 : Run d 189 85 [a0, a1, a2, a3, a4, a5, a6] [.int x, .ref o] M 0 0 Z ↔ gAr M o 0 ∧ gIn x (gLen M o) = true ∧ Run d 189 86 [a0, a1, a2, a3, a4, a5, a6] [.int (M.1 o x.toNatClampNeg)] M 0 0 Z := R_iald (gd189 dX9_solve_85)
theorem z189_86 : Run d 189 86 [a0, a1, a2, a3, a4, a5, a6] [.int x] M 0 0 Z ↔ (¬ x = 0 → Run d 189 126 [a0, a1, a2, a3, a4, a5, a6] [] M 0 0 Z) ∧ (¬ (¬ x = 0) → Run d 189 89 [a0, a1, a2, a3, a4, a5, a6] [] M 0 0 Z) := R_if (gd189 dX9_solve_86) (show gTgt 86 40 = some 126 by decide) gIf_ne
theorem z189_89 : Run d 189 89 [some (.ref o), a1, a2, a3, a4, a5, a6] [] M 0 0 Z ↔ Run d 189 90 [some (.ref o), a1, a2, a3, a4, a5, a6] [.ref o] M 0 0 Z := R_local (gd189 dX9_solve_89) rfl rfl rfl
theorem z189_90 : Run d 189 90 [a0, a1, a2, a3, a4, a5, a6] [.ref o] M 0 0 Z ↔ gObj M o 9 ∧ Run d 189 93 [a0, a1, a2, a3, a4, a5, a6] [.int (M.1 o 50)] M 0 0 Z := R_getI (gd189 dX9_solve_90) rfl gf_9_320 rfl
theorem z189_93 : Run d 189 93 [a0, a1, a2, a3, a4, a5, a6] [.int x] M 0 0 Z ↔ (x = 0 → Run d 189 126 [a0, a1, a2, a3, a4, a5, a6] [] M 0 0 Z) ∧ (¬ (x = 0) → Run d 189 96 [a0, a1, a2, a3, a4, a5, a6] [] M 0 0 Z) := R_if (gd189 dX9_solve_93) (show gTgt 93 33 = some 126 by decide) gIf_eq
theorem z189_96 : Run d 189 96 [some (.ref o), a1, a2, a3, a4, a5, a6] [] M 0 0 Z ↔ Run d 189 97 [some (.ref o), a1, a2, a3, a4, a5, a6] [.ref o] M 0 0 Z := R_local (gd189 dX9_solve_96) rfl rfl rfl
theorem z189_97 : Run d 189 97 [a0, a1, a2, a3, a4, a5, a6] [.ref o] M 0 0 Z ↔ gObj M o 9 ∧ Run d 189 100 [a0, a1, a2, a3, a4, a5, a6] [va_rf (M.2.1 o 32)] M 0 0 Z := R_getR (gd189 dX9_solve_97) rfl gf_9_83 rfl
theorem z189_100 : Run d 189 100 [a0, a1, a2, a3, a4, a5, a6] [s0] M 0 0 Z ↔ Run d 189 101 [a0, a1, a2, a3, a4, a5, a6] [.int 1, s0] M 0 0 Z := R_iconst (gd189 dX9_solve_100) (by decide)
theorem z189_101 : Run d 189 101 [a0, a1, a2, a3, a4, a5, a6] [.int x, .ref o] M 0 0 Z ↔ gAr M o 0 ∧ gIn x (gLen M o) = true ∧ Run d 189 102 [a0, a1, a2, a3, a4, a5, a6] [.int (M.1 o x.toNatClampNeg)] M 0 0 Z := R_iald (gd189 dX9_solve_101)
theorem z189_102 : Run d 189 102 [a0, a1, a2, a3, a4, some (.int x), a6] [s0] M 0 0 Z ↔ Run d 189 104 [a0, a1, a2, a3, a4, some (.int x), a6] [.int x, s0] M 0 0 Z := R_local (gd189 dX9_solve_102) rfl rfl rfl
theorem z189_104 : Run d 189 104 [a0, a1, a2, a3, a4, a5, a6] [.int y, .int x] M 0 0 Z ↔ (¬ x = y → Run d 189 126 [a0, a1, a2, a3, a4, a5, a6] [] M 0 0 Z) ∧ (¬ (¬ x = y) → Run d 189 107 [a0, a1, a2, a3, a4, a5, a6] [] M 0 0 Z) := R_icmp (gd189 dX9_solve_104) (show gTgt 104 22 = some 126 by decide) gIf_ne
theorem z189_107 : Run d 189 107 [some (.ref o), a1, a2, a3, a4, a5, a6] [] M 0 0 Z ↔ Run d 189 108 [some (.ref o), a1, a2, a3, a4, a5, a6] [.ref o] M 0 0 Z := R_local (gd189 dX9_solve_107) rfl rfl rfl
theorem z189_108 : Run d 189 108 [a0, a1, a2, a3, a4, a5, a6] [.ref o] M 0 0 Z ↔ gObj M o 9 ∧ Run d 189 111 [a0, a1, a2, a3, a4, a5, a6] [.int (M.1 o 38)] M 0 0 Z := R_getI (gd189 dX9_solve_108) rfl gf_9_230 rfl
theorem z189_111 : Run d 189 111 [some (.ref o), a1, a2, a3, a4, a5, a6] [s0] M 0 0 Z ↔ Run d 189 112 [some (.ref o), a1, a2, a3, a4, a5, a6] [.ref o, s0] M 0 0 Z := R_local (gd189 dX9_solve_111) rfl rfl rfl
theorem z189_112 : Run d 189 112 [a0, a1, a2, a3, a4, a5, a6] [.ref o, s0] M 0 0 Z ↔ gObj M o 9 ∧ Run d 189 115 [a0, a1, a2, a3, a4, a5, a6] [va_rf (M.2.1 o 25), s0] M 0 0 Z := R_getR (gd189 dX9_solve_112) rfl gf_9_62 rfl
theorem z189_115 : Run d 189 115 [a0, a1, a2, a3, a4, a5, a6] [s1, s0] M 0 0 Z ↔ Run d 189 116 [a0, a1, a2, a3, a4, a5, a6] [.int 1, s1, s0] M 0 0 Z := R_iconst (gd189 dX9_solve_115) (by decide)
theorem z189_116 : Run d 189 116 [a0, a1, a2, a3, a4, a5, a6] [.int x, .ref o, s0] M 0 0 Z ↔ gAr M o 0 ∧ gIn x (gLen M o) = true ∧ Run d 189 117 [a0, a1, a2, a3, a4, a5, a6] [.int (M.1 o x.toNatClampNeg), s0] M 0 0 Z := R_iald (gd189 dX9_solve_116)
theorem z189_117 : Run d 189 117 [a0, a1, a2, a3, a4, a5, a6] [.int y, .int x] M 0 0 Z ↔ Run d 189 118 [a0, a1, a2, a3, a4, a5, a6] [.int (x - y)] M 0 0 Z := R_arith (gd189 dX9_solve_117) rfl
theorem z189_118 : Run d 189 118 [a0, a1, a2, a3, some (.int x), a5, a6] [s0] M 0 0 Z ↔ Run d 189 120 [a0, a1, a2, a3, some (.int x), a5, a6] [.int x, s0] M 0 0 Z := R_local (gd189 dX9_solve_118) rfl rfl rfl
theorem z189_120 : Run d 189 120 [a0, a1, a2, a3, a4, a5, a6] [.int y, .int x] M 0 0 Z ↔ (y < x → Run d 189 126 [a0, a1, a2, a3, a4, a5, a6] [] M 0 0 Z) ∧ (¬ (y < x) → Run d 189 123 [a0, a1, a2, a3, a4, a5, a6] [] M 0 0 Z) := R_icmp (gd189 dX9_solve_120) (show gTgt 120 6 = some 126 by decide) gIf_gt
theorem z189_123 : Run d 189 123 [a0, a1, a2, a3, a4, a5, some (.int x)] [] M 0 0 Z ↔ Run d 189 125 [a0, a1, a2, a3, a4, a5, some (.int x)] [.int x] M 0 0 Z := R_local (gd189 dX9_solve_123) rfl rfl rfl
theorem z189_125 : Run d 189 125 [a0, a1, a2, a3, a4, a5, a6] [.int x] M 0 0 Z ↔ Z (some (.int x)) M := R_iret (gd189 dX9_solve_125) rfl
theorem z189_126 : Run d 189 126 [a0, a1, a2, a3, a4, a5, some (.int x)] [] M 0 0 Z ↔ Run d 189 129 [a0, a1, a2, a3, a4, a5, some (.int (x + 1))] [] M 0 0 Z := R_iinc (gd189 dX9_solve_126) (by decide) rfl rfl
theorem z189_129 : Run d 189 129 [a0, a1, a2, a3, a4, a5, a6] [] M 0 0 Z ↔ Run d 189 52 [a0, a1, a2, a3, a4, a5, a6] [] M 0 0 Z := R_goto (gd189 dX9_solve_129) (show gTgt 129 (-77) = some 52 by decide)
theorem z189_132 : Run d 189 132 [a0, a1, a2, a3, a4, a5, a6] [] M 0 0 Z ↔ Run d 189 133 [a0, a1, a2, a3, a4, a5, a6] [.int (-1)] M 0 0 Z := R_iconst (gd189 dX9_solve_132) (by decide)
theorem z189_133 : Run d 189 133 [a0, a1, a2, a3, a4, a5, a6] [.int x] M 0 0 Z ↔ Z (some (.int x)) M := R_iret (gd189 dX9_solve_133) rfl
theorem e189 : Call (d + 1) 189 [s0, s1, s2, s3, s4, s5] M Z ↔ Run d 189 0 [some s0, some s1, some s2, some s3, some s4, some s5, none] [] M 0 0 Z := Call_iff (Nat.lt_of_lt_of_le (Nat.lt_succ_self 189) (Nat.le_of_ble_eq_true rfl)) (Nat.le_of_ble_eq_true rfl)
/-! 190: X9_paints (IIIIII)V -/
theorem gd190 {pc : Nat} {r : Except _ _} (h : decode cX9_paints pc = r) : decode (gby 190) pc = r := h
theorem z190_0 : Run d 190 0 [a0, a1, a2, a3, a4, a5, a6, a7] [] M 0 0 Z ↔ Run d 190 1 [a0, a1, a2, a3, a4, a5, a6, a7] [.int 0] M 0 0 Z := R_iconst (gd190 dX9_paints_0) (by decide)
theorem z190_1 : Run d 190 1 [a0, a1, a2, a3, a4, a5, a6, a7] [.int x] M 0 0 Z ↔ Run d 190 3 [a0, a1, a2, a3, a4, a5, a6, some (.int x)] [] M 0 0 Z := R_local (gd190 dX9_paints_1) rfl rfl rfl
theorem z190_3 : Run d 190 3 [a0, a1, a2, a3, a4, a5, a6, some (.int x)] [] M 0 0 Z ↔ Run d 190 5 [a0, a1, a2, a3, a4, a5, a6, some (.int x)] [.int x] M 0 0 Z := R_local (gd190 dX9_paints_3) rfl rfl rfl
theorem z190_5 : Run d 190 5 [a0, a1, a2, a3, some (.int x), a5, a6, a7] [s0] M 0 0 Z ↔ Run d 190 7 [a0, a1, a2, a3, some (.int x), a5, a6, a7] [.int x, s0] M 0 0 Z := R_local (gd190 dX9_paints_5) rfl rfl rfl
theorem z190_7 : Run d 190 7 [a0, a1, a2, a3, a4, a5, a6, a7] [.int y, .int x] M 0 0 Z ↔ (y ≤ x → Run d 190 55 [a0, a1, a2, a3, a4, a5, a6, a7] [] M 0 0 Z) ∧ (¬ (y ≤ x) → Run d 190 10 [a0, a1, a2, a3, a4, a5, a6, a7] [] M 0 0 Z) := R_icmp (gd190 dX9_paints_7) (show gTgt 7 48 = some 55 by decide) gIf_ge
theorem z190_10 : Run d 190 10 [some (.ref o), a1, a2, a3, a4, a5, a6, a7] [] M 0 0 Z ↔ Run d 190 11 [some (.ref o), a1, a2, a3, a4, a5, a6, a7] [.ref o] M 0 0 Z := R_local (gd190 dX9_paints_10) rfl rfl rfl
theorem z190_11 : Run d 190 11 [a0, a1, a2, a3, a4, a5, a6, a7] [.ref o] M 0 0 Z ↔ gObj M o 9 ∧ Run d 190 14 [a0, a1, a2, a3, a4, a5, a6, a7] [va_rf (M.2.1 o 62)] M 0 0 Z := R_getR (gd190 dX9_paints_11) rfl gf_9_126 rfl
theorem z190_14 : Run d 190 14 [a0, a1, a2, a3, a4, a5, a6, a7] [s0] M 0 0 Z ↔ Run d 190 16 [a0, a1, a2, a3, a4, a5, a6, a7] [.int 64, s0] M 0 0 Z := R_bipush (gd190 dX9_paints_14) (by decide)
theorem z190_16 : Run d 190 16 [a0, some (.int x), a2, a3, a4, a5, a6, a7] [s1, s0] M 0 0 Z ↔ Run d 190 17 [a0, some (.int x), a2, a3, a4, a5, a6, a7] [.int x, s1, s0] M 0 0 Z := R_local (gd190 dX9_paints_16) rfl rfl rfl
theorem z190_17 : Run d 190 17 [a0, a1, a2, a3, a4, a5, a6, a7] [.int y, .int x, s0] M 0 0 Z ↔ Run d 190 18 [a0, a1, a2, a3, a4, a5, a6, a7] [.int (x * y), s0] M 0 0 Z := R_arith (gd190 dX9_paints_17) rfl
theorem z190_18 : Run d 190 18 [a0, a1, a2, a3, a4, a5, a6, a7] [s1, s0] M 0 0 Z ↔ Run d 190 20 [a0, a1, a2, a3, a4, a5, a6, a7] [.int 8, s1, s0] M 0 0 Z := R_bipush (gd190 dX9_paints_18) (by decide)
theorem z190_20 : Run d 190 20 [a0, a1, a2, some (.int x), a4, a5, a6, a7] [s2, s1, s0] M 0 0 Z ↔ Run d 190 21 [a0, a1, a2, some (.int x), a4, a5, a6, a7] [.int x, s2, s1, s0] M 0 0 Z := R_local (gd190 dX9_paints_20) rfl rfl rfl
theorem z190_21 : Run d 190 21 [a0, a1, a2, a3, a4, a5, a6, some (.int x)] [s3, s2, s1, s0] M 0 0 Z ↔ Run d 190 23 [a0, a1, a2, a3, a4, a5, a6, some (.int x)] [.int x, s3, s2, s1, s0] M 0 0 Z := R_local (gd190 dX9_paints_21) rfl rfl rfl
theorem z190_23 : Run d 190 23 [a0, a1, a2, a3, a4, a5, a6, a7] [.int y, .int x, s2, s1, s0] M 0 0 Z ↔ Run d 190 24 [a0, a1, a2, a3, a4, a5, a6, a7] [.int (x + y), s2, s1, s0] M 0 0 Z := R_arith (gd190 dX9_paints_23) rfl
theorem z190_24 : Run d 190 24 [a0, a1, a2, a3, a4, a5, a6, a7] [.int y, .int x, s1, s0] M 0 0 Z ↔ Run d 190 25 [a0, a1, a2, a3, a4, a5, a6, a7] [.int (x * y), s1, s0] M 0 0 Z := R_arith (gd190 dX9_paints_24) rfl
theorem z190_25 : Run d 190 25 [a0, a1, a2, a3, a4, a5, a6, a7] [.int y, .int x, s0] M 0 0 Z ↔ Run d 190 26 [a0, a1, a2, a3, a4, a5, a6, a7] [.int (x + y), s0] M 0 0 Z := R_arith (gd190 dX9_paints_25) rfl
theorem z190_26 : Run d 190 26 [some (.ref o), a1, a2, a3, a4, a5, a6, a7] [s1, s0] M 0 0 Z ↔ Run d 190 27 [some (.ref o), a1, a2, a3, a4, a5, a6, a7] [.ref o, s1, s0] M 0 0 Z := R_local (gd190 dX9_paints_26) rfl rfl rfl
theorem z190_27 : Run d 190 27 [a0, a1, a2, a3, a4, a5, a6, a7] [.ref o, s1, s0] M 0 0 Z ↔ gObj M o 9 ∧ Run d 190 30 [a0, a1, a2, a3, a4, a5, a6, a7] [va_rf (M.2.1 o 65), s1, s0] M 0 0 Z := R_getR (gd190 dX9_paints_27) rfl gf_9_135 rfl
theorem z190_30 : Run d 190 30 [a0, some (.int x), a2, a3, a4, a5, a6, a7] [s2, s1, s0] M 0 0 Z ↔ Run d 190 31 [a0, some (.int x), a2, a3, a4, a5, a6, a7] [.int x, s2, s1, s0] M 0 0 Z := R_local (gd190 dX9_paints_30) rfl rfl rfl
theorem z190_31 : Run d 190 31 [a0, a1, a2, a3, a4, a5, a6, a7] [.int x, .ref o, s1, s0] M 0 0 Z ↔ gAr M o 0 ∧ gIn x (gLen M o) = true ∧ Run d 190 32 [a0, a1, a2, a3, a4, a5, a6, a7] [.int (M.1 o x.toNatClampNeg), s1, s0] M 0 0 Z := R_iald (gd190 dX9_paints_31)
theorem z190_32 : Run d 190 32 [a0, a1, a2, a3, a4, a5, a6, a7] [.int y, .int x, s0] M 0 0 Z ↔ Run d 190 33 [a0, a1, a2, a3, a4, a5, a6, a7] [.int (x + y), s0] M 0 0 Z := R_arith (gd190 dX9_paints_32) rfl
theorem z190_33 : Run d 190 33 [some (.ref o), a1, a2, a3, a4, a5, a6, a7] [s1, s0] M 0 0 Z ↔ Run d 190 34 [some (.ref o), a1, a2, a3, a4, a5, a6, a7] [.ref o, s1, s0] M 0 0 Z := R_local (gd190 dX9_paints_33) rfl rfl rfl
theorem z190_34 : Run d 190 34 [a0, a1, some (.int x), a3, a4, a5, a6, a7] [s2, s1, s0] M 0 0 Z ↔ Run d 190 35 [a0, a1, some (.int x), a3, a4, a5, a6, a7] [.int x, s2, s1, s0] M 0 0 Z := R_local (gd190 dX9_paints_34) rfl rfl rfl
theorem z190_35 : Run d 190 35 [some (.ref o), a1, a2, a3, a4, a5, a6, a7] [s3, s2, s1, s0] M 0 0 Z ↔ Run d 190 36 [some (.ref o), a1, a2, a3, a4, a5, a6, a7] [.ref o, s3, s2, s1, s0] M 0 0 Z := R_local (gd190 dX9_paints_35) rfl rfl rfl
theorem z190_36 : Run d 190 36 [a0, a1, a2, a3, a4, a5, a6, a7] [.ref o, s3, s2, s1, s0] M 0 0 Z ↔ gObj M o 9 ∧ Run d 190 39 [a0, a1, a2, a3, a4, a5, a6, a7] [va_rf (M.2.1 o 63), s3, s2, s1, s0] M 0 0 Z := R_getR (gd190 dX9_paints_36) rfl gf_9_129 rfl
theorem z190_39 : Run d 190 39 [a0, some (.int x), a2, a3, a4, a5, a6, a7] [s4, s3, s2, s1, s0] M 0 0 Z ↔ Run d 190 40 [a0, some (.int x), a2, a3, a4, a5, a6, a7] [.int x, s4, s3, s2, s1, s0] M 0 0 Z := R_local (gd190 dX9_paints_39) rfl rfl rfl
theorem z190_40 : Run d 190 40 [a0, a1, a2, a3, a4, a5, a6, a7] [.int x, .ref o, s3, s2, s1, s0] M 0 0 Z ↔ gAr M o 0 ∧ gIn x (gLen M o) = true ∧ Run d 190 41 [a0, a1, a2, a3, a4, a5, a6, a7] [.int (M.1 o x.toNatClampNeg), s3, s2, s1, s0] M 0 0 Z := R_iald (gd190 dX9_paints_40)
theorem z190_41 : Run d 190 41 [a0, a1, a2, a3, a4, a5, a6, some (.int x)] [s4, s3, s2, s1, s0] M 0 0 Z ↔ Run d 190 43 [a0, a1, a2, a3, a4, a5, a6, some (.int x)] [.int x, s4, s3, s2, s1, s0] M 0 0 Z := R_local (gd190 dX9_paints_41) rfl rfl rfl
theorem z190_43 : Run d 190 43 [a0, a1, a2, a3, a4, a5, some (.int x), a7] [s5, s4, s3, s2, s1, s0] M 0 0 Z ↔ Run d 190 45 [a0, a1, a2, a3, a4, a5, some (.int x), a7] [.int x, s5, s4, s3, s2, s1, s0] M 0 0 Z := R_local (gd190 dX9_paints_43) rfl rfl rfl
theorem z190_45 : Run d 190 45 [a0, a1, a2, a3, a4, a5, a6, a7] [s6, s5, s4, s3, .ref b, s1, s0] M 0 0 Z ↔ gObj M b 9 ∧ Call d 167 [.ref b, s3, s4, s5, s6] M (fun r M1 => Run d 190 48 [a0, a1, a2, a3, a4, a5, a6, a7] (r.toList ++ [s1, s0]) M1 0 0 Z) := R_callV (gd190 dX9_paints_45) rfl rfl rfl rfl rfl rfl gc_9_354 rfl rfl (Nat.le_of_ble_eq_true rfl) (Nat.le_of_ble_eq_true rfl) rfl rfl (Nat.le_of_ble_eq_true rfl) (Nat.le_of_ble_eq_true rfl)
theorem z190_48 : Run d 190 48 [a0, a1, a2, a3, a4, a5, a6, a7] [.int y, .int x, .ref o] M 0 0 Z ↔ gAr M o 0 ∧ gIn x (gLen M o) = true ∧ Run d 190 49 [a0, a1, a2, a3, a4, a5, a6, a7] [] (gsI M o x.toNatClampNeg y) 0 0 Z := R_iast (gd190 dX9_paints_48)
theorem z190_49 : Run d 190 49 [a0, a1, a2, a3, a4, a5, a6, some (.int x)] [] M 0 0 Z ↔ Run d 190 52 [a0, a1, a2, a3, a4, a5, a6, some (.int (x + 1))] [] M 0 0 Z := R_iinc (gd190 dX9_paints_49) (by decide) rfl rfl
theorem z190_52 : Run d 190 52 [a0, a1, a2, a3, a4, a5, a6, a7] [] M 0 0 Z ↔ Run d 190 3 [a0, a1, a2, a3, a4, a5, a6, a7] [] M 0 0 Z := R_goto (gd190 dX9_paints_52) (show gTgt 52 (-49) = some 3 by decide)
theorem z190_55 : Run d 190 55 [some (.ref o), a1, a2, a3, a4, a5, a6, a7] [] M 0 0 Z ↔ Run d 190 56 [some (.ref o), a1, a2, a3, a4, a5, a6, a7] [.ref o] M 0 0 Z := R_local (gd190 dX9_paints_55) rfl rfl rfl
theorem z190_56 : Run d 190 56 [a0, a1, a2, a3, a4, a5, a6, a7] [.ref o] M 0 0 Z ↔ gObj M o 9 ∧ Run d 190 59 [a0, a1, a2, a3, a4, a5, a6, a7] [va_rf (M.2.1 o 63)] M 0 0 Z := R_getR (gd190 dX9_paints_56) rfl gf_9_129 rfl
theorem z190_59 : Run d 190 59 [a0, some (.int x), a2, a3, a4, a5, a6, a7] [s0] M 0 0 Z ↔ Run d 190 60 [a0, some (.int x), a2, a3, a4, a5, a6, a7] [.int x, s0] M 0 0 Z := R_local (gd190 dX9_paints_59) rfl rfl rfl
theorem z190_60 : Run d 190 60 [a0, a1, a2, a3, a4, a5, a6, a7] [.int y, .ref o] M 0 0 Z ↔ Run d 190 61 [a0, a1, a2, a3, a4, a5, a6, a7] [.int y, .ref o, .int y, .ref o] M 0 0 Z := R_arith (gd190 dX9_paints_60) rfl
theorem z190_61 : Run d 190 61 [a0, a1, a2, a3, a4, a5, a6, a7] [.int x, .ref o, s1, s0] M 0 0 Z ↔ gAr M o 0 ∧ gIn x (gLen M o) = true ∧ Run d 190 62 [a0, a1, a2, a3, a4, a5, a6, a7] [.int (M.1 o x.toNatClampNeg), s1, s0] M 0 0 Z := R_iald (gd190 dX9_paints_61)
theorem z190_62 : Run d 190 62 [a0, a1, a2, a3, a4, some (.int x), a6, a7] [s2, s1, s0] M 0 0 Z ↔ Run d 190 64 [a0, a1, a2, a3, a4, some (.int x), a6, a7] [.int x, s2, s1, s0] M 0 0 Z := R_local (gd190 dX9_paints_62) rfl rfl rfl
theorem z190_64 : Run d 190 64 [a0, a1, a2, a3, a4, a5, a6, a7] [.int y, .int x, s1, s0] M 0 0 Z ↔ Run d 190 65 [a0, a1, a2, a3, a4, a5, a6, a7] [.int (x + y), s1, s0] M 0 0 Z := R_arith (gd190 dX9_paints_64) rfl
theorem z190_65 : Run d 190 65 [a0, a1, a2, a3, a4, a5, a6, a7] [.int y, .int x, .ref o] M 0 0 Z ↔ gAr M o 0 ∧ gIn x (gLen M o) = true ∧ Run d 190 66 [a0, a1, a2, a3, a4, a5, a6, a7] [] (gsI M o x.toNatClampNeg y) 0 0 Z := R_iast (gd190 dX9_paints_65)
theorem z190_66 : Run d 190 66 [a0, a1, a2, a3, a4, a5, a6, a7] [] M 0 0 Z ↔ Z none M := R_vret (gd190 dX9_paints_66) rfl
theorem e190 : Call (d + 1) 190 [s0, s1, s2, s3, s4, s5, s6] M Z ↔ Run d 190 0 [some s0, some s1, some s2, some s3, some s4, some s5, some s6, none] [] M 0 0 Z := Call_iff (Nat.lt_of_lt_of_le (Nat.lt_succ_self 190) (Nat.le_of_ble_eq_true rfl)) (Nat.le_of_ble_eq_true rfl)
end
