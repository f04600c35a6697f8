/-! The links of the classes, by program. -/
theorem gf_0_9 : gfld 0 9 = some (0, 2) := by decide +kernel
theorem gf_0_15 : gfld 0 15 = some (0, 3) := by decide +kernel
theorem gf_0_19 : gfld 0 19 = some (0, 0) := by decide +kernel
theorem gf_0_22 : gfld 0 22 = some (0, 1) := by decide +kernel
theorem gf_1_12 : gfld 1 12 = some (1, 0) := by decide +kernel
theorem gf_1_18 : gfld 1 18 = some (1, 1) := by decide +kernel
theorem gf_1_22 : gfld 1 22 = some (1, 2) := by decide +kernel
theorem gf_1_26 : gfld 1 26 = some (1, 3) := by decide +kernel
theorem gf_1_29 : gfld 1 29 = some (1, 4) := by decide +kernel
theorem gf_1_32 : gfld 1 32 = some (1, 5) := by decide +kernel
theorem gf_1_35 : gfld 1 35 = some (1, 6) := by decide +kernel
theorem gf_1_38 : gfld 1 38 = some (1, 7) := by decide +kernel
theorem gf_1_41 : gfld 1 41 = some (1, 8) := by decide +kernel
theorem gf_1_44 : gfld 1 44 = some (1, 9) := by decide +kernel
theorem gf_1_47 : gfld 1 47 = some (1, 10) := by decide +kernel
theorem gf_1_50 : gfld 1 50 = some (1, 11) := by decide +kernel
theorem gf_1_54 : gfld 1 54 = some (1, 12) := by decide +kernel
theorem gf_1_57 : gfld 1 57 = some (1, 13) := by decide +kernel
theorem gf_1_60 : gfld 1 60 = some (1, 14) := by decide +kernel
theorem gf_1_63 : gfld 1 63 = some (1, 15) := by decide +kernel
theorem gf_1_74 : gfld 1 74 = some (4, 8) := by decide +kernel
theorem gf_2_9 : gfld 2 9 = some (2, 0) := by decide +kernel
theorem gf_2_15 : gfld 2 15 = some (2, 1) := by decide +kernel
theorem gf_2_21 : gfld 2 21 = some (2, 2) := by decide +kernel
theorem gf_2_24 : gfld 2 24 = some (2, 3) := by decide +kernel
theorem gf_2_27 : gfld 2 27 = some (2, 4) := by decide +kernel
theorem gf_2_30 : gfld 2 30 = some (2, 5) := by decide +kernel
theorem gf_2_33 : gfld 2 33 = some (2, 6) := by decide +kernel
theorem gf_2_36 : gfld 2 36 = some (2, 7) := by decide +kernel
theorem gf_2_39 : gfld 2 39 = some (2, 8) := by decide +kernel
theorem gf_2_42 : gfld 2 42 = some (2, 9) := by decide +kernel
theorem gf_2_46 : gfld 2 46 = some (7, 0) := by decide +kernel
theorem gf_2_50 : gfld 2 50 = some (1, 14) := by decide +kernel
theorem gf_2_63 : gfld 2 63 = some (1, 15) := by decide +kernel
theorem gf_2_126 : gfld 2 126 = some (1, 6) := by decide +kernel
theorem gf_2_129 : gfld 2 129 = some (1, 5) := by decide +kernel
theorem gf_3_9 : gfld 3 9 = some (3, 0) := by decide +kernel
theorem gf_3_15 : gfld 3 15 = some (3, 1) := by decide +kernel
theorem gf_3_19 : gfld 3 19 = some (3, 2) := by decide +kernel
theorem gf_3_23 : gfld 3 23 = some (3, 3) := by decide +kernel
theorem gf_3_26 : gfld 3 26 = some (3, 4) := by decide +kernel
theorem gf_3_29 : gfld 3 29 = some (3, 5) := by decide +kernel
theorem gf_3_48 : gfld 3 48 = some (4, 8) := by decide +kernel
theorem gf_4_9 : gfld 4 9 = some (4, 0) := by decide +kernel
theorem gf_4_15 : gfld 4 15 = some (4, 1) := by decide +kernel
theorem gf_4_18 : gfld 4 18 = some (4, 2) := by decide +kernel
theorem gf_4_21 : gfld 4 21 = some (4, 3) := by decide +kernel
theorem gf_4_24 : gfld 4 24 = some (4, 4) := by decide +kernel
theorem gf_4_27 : gfld 4 27 = some (4, 5) := by decide +kernel
theorem gf_4_30 : gfld 4 30 = some (4, 6) := by decide +kernel
theorem gf_4_33 : gfld 4 33 = some (4, 7) := by decide +kernel
theorem gf_4_36 : gfld 4 36 = some (4, 8) := by decide +kernel
theorem gf_5_9 : gfld 5 9 = some (5, 0) := by decide +kernel
theorem gf_5_15 : gfld 5 15 = some (5, 1) := by decide +kernel
theorem gf_5_18 : gfld 5 18 = some (5, 2) := by decide +kernel
theorem gf_5_22 : gfld 5 22 = some (5, 3) := by decide +kernel
theorem gf_5_25 : gfld 5 25 = some (5, 4) := by decide +kernel
theorem gf_5_28 : gfld 5 28 = some (5, 5) := by decide +kernel
theorem gf_5_31 : gfld 5 31 = some (5, 6) := by decide +kernel
theorem gf_5_34 : gfld 5 34 = some (5, 7) := by decide +kernel
theorem gf_5_37 : gfld 5 37 = some (5, 8) := by decide +kernel
theorem gf_5_40 : gfld 5 40 = some (5, 9) := by decide +kernel
theorem gf_5_61 : gfld 5 61 = some (1, 5) := by decide +kernel
theorem gf_5_66 : gfld 5 66 = some (1, 6) := by decide +kernel
theorem gf_5_69 : gfld 5 69 = some (1, 4) := by decide +kernel
theorem gf_5_72 : gfld 5 72 = some (1, 7) := by decide +kernel
theorem gf_5_75 : gfld 5 75 = some (1, 8) := by decide +kernel
theorem gf_5_78 : gfld 5 78 = some (1, 0) := by decide +kernel
theorem gf_5_82 : gfld 5 82 = some (4, 8) := by decide +kernel
theorem gf_6_9 : gfld 6 9 = some (6, 0) := by decide +kernel
theorem gf_6_15 : gfld 6 15 = some (6, 1) := by decide +kernel
theorem gf_6_19 : gfld 6 19 = some (6, 2) := by decide +kernel
theorem gf_6_22 : gfld 6 22 = some (6, 3) := by decide +kernel
theorem gf_6_25 : gfld 6 25 = some (6, 4) := by decide +kernel
theorem gf_6_28 : gfld 6 28 = some (6, 5) := by decide +kernel
theorem gf_6_31 : gfld 6 31 = some (6, 6) := by decide +kernel
theorem gf_6_34 : gfld 6 34 = some (6, 7) := by decide +kernel
theorem gf_7_7 : gfld 7 7 = some (7, 0) := by decide +kernel
theorem gf_7_13 : gfld 7 13 = some (7, 1) := by decide +kernel
theorem gf_8_9 : gfld 8 9 = some (8, 0) := by decide +kernel
theorem gf_8_13 : gfld 8 13 = some (8, 1) := by decide +kernel
theorem gf_8_19 : gfld 8 19 = some (8, 2) := by decide +kernel
theorem gf_8_23 : gfld 8 23 = some (8, 3) := by decide +kernel
theorem gf_8_28 : gfld 8 28 = some (8, 4) := by decide +kernel
theorem gf_8_32 : gfld 8 32 = some (8, 5) := by decide +kernel
theorem gf_8_35 : gfld 8 35 = some (8, 6) := by decide +kernel
theorem gf_8_38 : gfld 8 38 = some (8, 7) := by decide +kernel
theorem gf_8_41 : gfld 8 41 = some (8, 8) := by decide +kernel
theorem gf_8_47 : gfld 8 47 = some (8, 9) := by decide +kernel
theorem gf_8_54 : gfld 8 54 = some (8, 10) := by decide +kernel
theorem gf_8_61 : gfld 8 61 = some (8, 11) := by decide +kernel
theorem gf_8_65 : gfld 8 65 = some (8, 12) := by decide +kernel
theorem gf_8_71 : gfld 8 71 = some (8, 13) := by decide +kernel
theorem gf_8_78 : gfld 8 78 = some (8, 14) := by decide +kernel
theorem gf_8_82 : gfld 8 82 = some (8, 15) := by decide +kernel
theorem gf_8_107 : gfld 8 107 = some (0, 2) := by decide +kernel
theorem gf_8_110 : gfld 8 110 = some (0, 0) := by decide +kernel
theorem gf_8_113 : gfld 8 113 = some (0, 3) := by decide +kernel
theorem gf_8_124 : gfld 8 124 = some (6, 6) := by decide +kernel
theorem gf_8_127 : gfld 8 127 = some (6, 7) := by decide +kernel
theorem gf_8_134 : gfld 8 134 = some (0, 1) := by decide +kernel
theorem gf_8_148 : gfld 8 148 = some (1, 14) := by decide +kernel
theorem gf_8_151 : gfld 8 151 = some (1, 9) := by decide +kernel
theorem gf_8_157 : gfld 8 157 = some (1, 0) := by decide +kernel
theorem gf_8_204 : gfld 8 204 = some (3, 4) := by decide +kernel
theorem gf_8_207 : gfld 8 207 = some (3, 3) := by decide +kernel
theorem gf_8_210 : gfld 8 210 = some (3, 1) := by decide +kernel
theorem gf_8_221 : gfld 8 221 = some (1, 10) := by decide +kernel
theorem gf_8_224 : gfld 8 224 = some (2, 9) := by decide +kernel
theorem gf_8_232 : gfld 8 232 = some (1, 11) := by decide +kernel
theorem gf_8_235 : gfld 8 235 = some (1, 12) := by decide +kernel
theorem gf_8_246 : gfld 8 246 = some (5, 9) := by decide +kernel
theorem gf_8_249 : gfld 8 249 = some (5, 8) := by decide +kernel
theorem gf_8_252 : gfld 8 252 = some (7, 1) := by decide +kernel
theorem gf_9_7 : gfld 9 7 = some (9, 0) := by decide +kernel
theorem gf_9_13 : gfld 9 13 = some (9, 5) := by decide +kernel
theorem gf_9_17 : gfld 9 17 = some (9, 6) := by decide +kernel
theorem gf_9_20 : gfld 9 20 = some (9, 7) := by decide +kernel
theorem gf_9_23 : gfld 9 23 = some (9, 8) := by decide +kernel
theorem gf_9_26 : gfld 9 26 = some (9, 9) := by decide +kernel
theorem gf_9_29 : gfld 9 29 = some (9, 10) := by decide +kernel
theorem gf_9_32 : gfld 9 32 = some (9, 11) := by decide +kernel
theorem gf_9_35 : gfld 9 35 = some (9, 12) := by decide +kernel
theorem gf_9_38 : gfld 9 38 = some (9, 17) := by decide +kernel
theorem gf_9_41 : gfld 9 41 = some (9, 18) := by decide +kernel
theorem gf_9_44 : gfld 9 44 = some (9, 19) := by decide +kernel
theorem gf_9_47 : gfld 9 47 = some (9, 20) := by decide +kernel
theorem gf_9_50 : gfld 9 50 = some (9, 21) := by decide +kernel
theorem gf_9_53 : gfld 9 53 = some (9, 22) := by decide +kernel
theorem gf_9_56 : gfld 9 56 = some (9, 23) := by decide +kernel
theorem gf_9_59 : gfld 9 59 = some (9, 24) := by decide +kernel
theorem gf_9_62 : gfld 9 62 = some (9, 25) := by decide +kernel
theorem gf_9_65 : gfld 9 65 = some (9, 26) := by decide +kernel
theorem gf_9_68 : gfld 9 68 = some (9, 27) := by decide +kernel
theorem gf_9_71 : gfld 9 71 = some (9, 28) := by decide +kernel
theorem gf_9_74 : gfld 9 74 = some (9, 29) := by decide +kernel
theorem gf_9_77 : gfld 9 77 = some (9, 30) := by decide +kernel
theorem gf_9_80 : gfld 9 80 = some (9, 31) := by decide +kernel
theorem gf_9_83 : gfld 9 83 = some (9, 32) := by decide +kernel
theorem gf_9_86 : gfld 9 86 = some (9, 33) := by decide +kernel
theorem gf_9_89 : gfld 9 89 = some (9, 34) := by decide +kernel
theorem gf_9_92 : gfld 9 92 = some (9, 35) := by decide +kernel
theorem gf_9_95 : gfld 9 95 = some (9, 41) := by decide +kernel
theorem gf_9_98 : gfld 9 98 = some (9, 42) := by decide +kernel
theorem gf_9_101 : gfld 9 101 = some (9, 43) := by decide +kernel
theorem gf_9_104 : gfld 9 104 = some (9, 45) := by decide +kernel
theorem gf_9_107 : gfld 9 107 = some (9, 46) := by decide +kernel
theorem gf_9_110 : gfld 9 110 = some (9, 55) := by decide +kernel
theorem gf_9_114 : gfld 9 114 = some (9, 56) := by decide +kernel
theorem gf_9_117 : gfld 9 117 = some (9, 57) := by decide +kernel
theorem gf_9_120 : gfld 9 120 = some (9, 58) := by decide +kernel
theorem gf_9_123 : gfld 9 123 = some (9, 59) := by decide +kernel
theorem gf_9_126 : gfld 9 126 = some (9, 62) := by decide +kernel
theorem gf_9_129 : gfld 9 129 = some (9, 63) := by decide +kernel
theorem gf_9_132 : gfld 9 132 = some (9, 64) := by decide +kernel
theorem gf_9_135 : gfld 9 135 = some (9, 65) := by decide +kernel
theorem gf_9_138 : gfld 9 138 = some (9, 66) := by decide +kernel
theorem gf_9_141 : gfld 9 141 = some (9, 67) := by decide +kernel
theorem gf_9_144 : gfld 9 144 = some (9, 68) := by decide +kernel
theorem gf_9_147 : gfld 9 147 = some (9, 69) := by decide +kernel
theorem gf_9_150 : gfld 9 150 = some (9, 70) := by decide +kernel
theorem gf_9_153 : gfld 9 153 = some (9, 2) := by decide +kernel
theorem gf_9_161 : gfld 9 161 = some (9, 3) := by decide +kernel
theorem gf_9_164 : gfld 9 164 = some (9, 4) := by decide +kernel
theorem gf_9_171 : gfld 9 171 = some (9, 1) := by decide +kernel
theorem gf_9_178 : gfld 9 178 = some (9, 13) := by decide +kernel
theorem gf_9_181 : gfld 9 181 = some (9, 14) := by decide +kernel
theorem gf_9_184 : gfld 9 184 = some (9, 16) := by decide +kernel
theorem gf_9_187 : gfld 9 187 = some (9, 15) := by decide +kernel
theorem gf_9_230 : gfld 9 230 = some (9, 38) := by decide +kernel
theorem gf_9_233 : gfld 9 233 = some (9, 36) := by decide +kernel
theorem gf_9_236 : gfld 9 236 = some (9, 39) := by decide +kernel
theorem gf_9_239 : gfld 9 239 = some (9, 37) := by decide +kernel
theorem gf_9_246 : gfld 9 246 = some (9, 48) := by decide +kernel
theorem gf_9_249 : gfld 9 249 = some (9, 47) := by decide +kernel
theorem gf_9_252 : gfld 9 252 = some (9, 49) := by decide +kernel
theorem gf_9_266 : gfld 9 266 = some (9, 40) := by decide +kernel
theorem gf_9_291 : gfld 9 291 = some (9, 44) := by decide +kernel
theorem gf_9_320 : gfld 9 320 = some (9, 50) := by decide +kernel
theorem gf_9_339 : gfld 9 339 = some (9, 51) := by decide +kernel
theorem gf_9_342 : gfld 9 342 = some (9, 52) := by decide +kernel
theorem gf_9_345 : gfld 9 345 = some (9, 53) := by decide +kernel
theorem gf_9_348 : gfld 9 348 = some (9, 54) := by decide +kernel
theorem gf_9_379 : gfld 9 379 = some (9, 60) := by decide +kernel
theorem gf_9_382 : gfld 9 382 = some (9, 61) := by decide +kernel
theorem gf_9_394 : gfld 9 394 = some (9, 71) := by decide +kernel
theorem gc_0_3 : gcal 0 3 = some (3, 0) := by decide +kernel
theorem gc_0_25 : gcal 0 25 = some (7, 110) := by decide +kernel
theorem gc_1_3 : gcal 1 3 = some (3, 0) := by decide +kernel
theorem gc_1_11 : gcal 1 11 = some (8, 39) := by decide +kernel
theorem gc_1_66 : gcal 1 66 = some (7, 110) := by decide +kernel
theorem gc_1_70 : gcal 1 70 = some (0, 5) := by decide +kernel
theorem gc_1_77 : gcal 1 77 = some (4, 0) := by decide +kernel
theorem gc_1_83 : gcal 1 83 = some (1, 8) := by decide +kernel
theorem gc_1_87 : gcal 1 87 = some (0, 7) := by decide +kernel
theorem gc_1_91 : gcal 1 91 = some (0, 6) := by decide +kernel
theorem gc_1_94 : gcal 1 94 = some (0, 40) := by decide +kernel
theorem gc_1_98 : gcal 1 98 = some (0, 42) := by decide +kernel
theorem gc_1_102 : gcal 1 102 = some (5, 0) := by decide +kernel
theorem gc_2_3 : gcal 2 3 = some (3, 0) := by decide +kernel
theorem gc_2_55 : gcal 2 55 = some (7, 110) := by decide +kernel
theorem gc_2_59 : gcal 2 59 = some (0, 20) := by decide +kernel
theorem gc_2_66 : gcal 2 66 = some (0, 28) := by decide +kernel
theorem gc_2_70 : gcal 2 70 = some (0, 24) := by decide +kernel
theorem gc_2_73 : gcal 2 73 = some (0, 25) := by decide +kernel
theorem gc_2_76 : gcal 2 76 = some (0, 26) := by decide +kernel
theorem gc_2_80 : gcal 2 80 = some (0, 27) := by decide +kernel
theorem gc_2_83 : gcal 2 83 = some (0, 23) := by decide +kernel
theorem gc_2_86 : gcal 2 86 = some (0, 21) := by decide +kernel
theorem gc_2_89 : gcal 2 89 = some (0, 29) := by decide +kernel
theorem gc_2_92 : gcal 2 92 = some (0, 9) := by decide +kernel
theorem gc_2_95 : gcal 2 95 = some (0, 22) := by decide +kernel
theorem gc_2_99 : gcal 2 99 = some (0, 11) := by decide +kernel
theorem gc_2_102 : gcal 2 102 = some (0, 12) := by decide +kernel
theorem gc_2_106 : gcal 2 106 = some (0, 13) := by decide +kernel
theorem gc_2_109 : gcal 2 109 = some (0, 14) := by decide +kernel
theorem gc_2_112 : gcal 2 112 = some (0, 15) := by decide +kernel
theorem gc_2_115 : gcal 2 115 = some (0, 16) := by decide +kernel
theorem gc_2_118 : gcal 2 118 = some (0, 10) := by decide +kernel
theorem gc_2_120 : gcal 2 120 = some (0, 6) := by decide +kernel
theorem gc_2_123 : gcal 2 123 = some (0, 7) := by decide +kernel
theorem gc_2_132 : gcal 2 132 = some (1, 8) := by decide +kernel
theorem gc_3_3 : gcal 3 3 = some (3, 0) := by decide +kernel
theorem gc_3_32 : gcal 3 32 = some (7, 110) := by decide +kernel
theorem gc_3_36 : gcal 3 36 = some (0, 52) := by decide +kernel
theorem gc_3_42 : gcal 3 42 = some (1, 198) := by decide +kernel
theorem gc_3_51 : gcal 3 51 = some (0, 56) := by decide +kernel
theorem gc_3_55 : gcal 3 55 = some (0, 53) := by decide +kernel
theorem gc_3_58 : gcal 3 58 = some (0, 55) := by decide +kernel
theorem gc_3_62 : gcal 3 62 = some (0, 35) := by decide +kernel
theorem gc_3_66 : gcal 3 66 = some (0, 48) := by decide +kernel
theorem gc_3_69 : gcal 3 69 = some (0, 54) := by decide +kernel
theorem gc_3_73 : gcal 3 73 = some (0, 36) := by decide +kernel
theorem gc_3_77 : gcal 3 77 = some (0, 44) := by decide +kernel
theorem gc_3_81 : gcal 3 81 = some (0, 34) := by decide +kernel
theorem gc_4_3 : gcal 4 3 = some (3, 0) := by decide +kernel
theorem gc_4_40 : gcal 4 40 = some (0, 41) := by decide +kernel
theorem gc_4_44 : gcal 4 44 = some (0, 44) := by decide +kernel
theorem gc_4_48 : gcal 4 48 = some (0, 1) := by decide +kernel
theorem gc_4_54 : gcal 4 54 = some (0, 48) := by decide +kernel
theorem gc_4_58 : gcal 4 58 = some (4, 0) := by decide +kernel
theorem gc_4_64 : gcal 4 64 = some (0, 49) := by decide +kernel
theorem gc_4_67 : gcal 4 67 = some (0, 50) := by decide +kernel
theorem gc_4_70 : gcal 4 70 = some (7, 110) := by decide +kernel
theorem gc_4_74 : gcal 4 74 = some (0, 51) := by decide +kernel
theorem gc_5_3 : gcal 5 3 = some (3, 0) := by decide +kernel
theorem gc_5_43 : gcal 5 43 = some (1, 198) := by decide +kernel
theorem gc_5_49 : gcal 5 49 = some (0, 63) := by decide +kernel
theorem gc_5_53 : gcal 5 53 = some (0, 60) := by decide +kernel
theorem gc_5_57 : gcal 5 57 = some (7, 110) := by decide +kernel
theorem gc_5_87 : gcal 5 87 = some (1, 61) := by decide +kernel
theorem gc_5_91 : gcal 5 91 = some (0, 65) := by decide +kernel
theorem gc_5_95 : gcal 5 95 = some (0, 62) := by decide +kernel
theorem gc_5_99 : gcal 5 99 = some (0, 66) := by decide +kernel
theorem gc_5_102 : gcal 5 102 = some (0, 5) := by decide +kernel
theorem gc_5_106 : gcal 5 106 = some (0, 9) := by decide +kernel
theorem gc_5_110 : gcal 5 110 = some (0, 10) := by decide +kernel
theorem gc_5_114 : gcal 5 114 = some (0, 12) := by decide +kernel
theorem gc_5_117 : gcal 5 117 = some (0, 13) := by decide +kernel
theorem gc_5_121 : gcal 5 121 = some (0, 14) := by decide +kernel
theorem gc_5_124 : gcal 5 124 = some (0, 15) := by decide +kernel
theorem gc_5_127 : gcal 5 127 = some (0, 16) := by decide +kernel
theorem gc_5_130 : gcal 5 130 = some (5, 0) := by decide +kernel
theorem gc_5_135 : gcal 5 135 = some (6, 0) := by decide +kernel
theorem gc_5_141 : gcal 5 141 = some (0, 49) := by decide +kernel
theorem gc_5_144 : gcal 5 144 = some (0, 50) := by decide +kernel
theorem gc_5_147 : gcal 5 147 = some (0, 51) := by decide +kernel
theorem gc_5_150 : gcal 5 150 = some (0, 47) := by decide +kernel
theorem gc_5_154 : gcal 5 154 = some (0, 64) := by decide +kernel
theorem gc_6_3 : gcal 6 3 = some (3, 0) := by decide +kernel
theorem gc_6_37 : gcal 6 37 = some (5, 0) := by decide +kernel
theorem gc_6_43 : gcal 6 43 = some (4, 0) := by decide +kernel
theorem gc_6_46 : gcal 6 46 = some (6, 0) := by decide +kernel
theorem gc_6_52 : gcal 6 52 = some (0, 73) := by decide +kernel
theorem gc_6_56 : gcal 6 56 = some (0, 70) := by decide +kernel
theorem gc_6_61 : gcal 6 61 = some (1, 199) := by decide +kernel
theorem gc_6_67 : gcal 6 67 = some (2, 84) := by decide +kernel
theorem gc_6_70 : gcal 6 70 = some (7, 110) := by decide +kernel
theorem gc_6_74 : gcal 6 74 = some (0, 69) := by decide +kernel
theorem gc_6_78 : gcal 6 78 = some (0, 74) := by decide +kernel
theorem gc_6_81 : gcal 6 81 = some (1, 82) := by decide +kernel
theorem gc_6_85 : gcal 6 85 = some (0, 71) := by decide +kernel
theorem gc_6_88 : gcal 6 88 = some (0, 75) := by decide +kernel
theorem gc_6_92 : gcal 6 92 = some (0, 77) := by decide +kernel
theorem gc_6_95 : gcal 6 95 = some (0, 72) := by decide +kernel
theorem gc_6_98 : gcal 6 98 = some (0, 76) := by decide +kernel
theorem gc_6_101 : gcal 6 101 = some (0, 78) := by decide +kernel
theorem gc_6_104 : gcal 6 104 = some (0, 79) := by decide +kernel
theorem gc_6_107 : gcal 6 107 = some (1, 81) := by decide +kernel
theorem gc_6_110 : gcal 6 110 = some (0, 80) := by decide +kernel
theorem gc_6_113 : gcal 6 113 = some (1, 83) := by decide +kernel
theorem gc_7_1 : gcal 7 1 = some (3, 0) := by decide +kernel
theorem gc_8_1 : gcal 8 1 = some (3, 0) := by decide +kernel
theorem gc_8_46 : gcal 8 46 = some (8, 67) := by decide +kernel
theorem gc_8_53 : gcal 8 53 = some (8, 18) := by decide +kernel
theorem gc_8_60 : gcal 8 60 = some (8, 3) := by decide +kernel
theorem gc_8_70 : gcal 8 70 = some (8, 30) := by decide +kernel
theorem gc_8_77 : gcal 8 77 = some (8, 57) := by decide +kernel
theorem gc_8_86 : gcal 8 86 = some (1, 111) := by decide +kernel
theorem gc_8_90 : gcal 8 90 = some (0, 114) := by decide +kernel
theorem gc_8_94 : gcal 8 94 = some (1, 112) := by decide +kernel
theorem gc_8_97 : gcal 8 97 = some (1, 110) := by decide +kernel
theorem gc_8_101 : gcal 8 101 = some (2, 0) := by decide +kernel
theorem gc_8_103 : gcal 8 103 = some (0, 115) := by decide +kernel
theorem gc_8_116 : gcal 8 116 = some (0, 117) := by decide +kernel
theorem gc_8_120 : gcal 8 120 = some (0, 68) := by decide +kernel
theorem gc_8_130 : gcal 8 130 = some (0, 116) := by decide +kernel
theorem gc_8_137 : gcal 8 137 = some (0, 4) := by decide +kernel
theorem gc_8_141 : gcal 8 141 = some (0, 19) := by decide +kernel
theorem gc_8_145 : gcal 8 145 = some (0, 31) := by decide +kernel
theorem gc_8_154 : gcal 8 154 = some (1, 113) := by decide +kernel
theorem gc_8_161 : gcal 8 161 = some (0, 45) := by decide +kernel
theorem gc_8_167 : gcal 8 167 = some (0, 47) := by decide +kernel
theorem gc_8_171 : gcal 8 171 = some (0, 46) := by decide +kernel
theorem gc_8_174 : gcal 8 174 = some (0, 43) := by decide +kernel
theorem gc_8_177 : gcal 8 177 = some (0, 17) := by decide +kernel
theorem gc_8_180 : gcal 8 180 = some (0, 33) := by decide +kernel
theorem gc_8_184 : gcal 8 184 = some (0, 52) := by decide +kernel
theorem gc_8_187 : gcal 8 187 = some (0, 53) := by decide +kernel
theorem gc_8_190 : gcal 8 190 = some (0, 54) := by decide +kernel
theorem gc_8_194 : gcal 8 194 = some (0, 118) := by decide +kernel
theorem gc_8_197 : gcal 8 197 = some (0, 32) := by decide +kernel
theorem gc_8_201 : gcal 8 201 = some (0, 34) := by decide +kernel
theorem gc_8_213 : gcal 8 213 = some (0, 37) := by decide +kernel
theorem gc_8_217 : gcal 8 217 = some (0, 38) := by decide +kernel
theorem gc_8_228 : gcal 8 228 = some (0, 6) := by decide +kernel
theorem gc_8_238 : gcal 8 238 = some (0, 58) := by decide +kernel
theorem gc_8_242 : gcal 8 242 = some (0, 59) := by decide +kernel
theorem gc_8_255 : gcal 8 255 = some (0, 2) := by decide +kernel
theorem gc_9_1 : gcal 9 1 = some (3, 0) := by decide +kernel
theorem gc_9_157 : gcal 9 157 = some (1, 120) := by decide +kernel
theorem gc_9_167 : gcal 9 167 = some (0, 123) := by decide +kernel
theorem gc_9_174 : gcal 9 174 = some (0, 128) := by decide +kernel
theorem gc_9_190 : gcal 9 190 = some (1, 133) := by decide +kernel
theorem gc_9_193 : gcal 9 193 = some (1, 135) := by decide +kernel
theorem gc_9_196 : gcal 9 196 = some (0, 130) := by decide +kernel
theorem gc_9_200 : gcal 9 200 = some (0, 131) := by decide +kernel
theorem gc_9_203 : gcal 9 203 = some (1, 132) := by decide +kernel
theorem gc_9_206 : gcal 9 206 = some (0, 140) := by decide +kernel
theorem gc_9_209 : gcal 9 209 = some (1, 134) := by decide +kernel
theorem gc_9_212 : gcal 9 212 = some (1, 136) := by decide +kernel
theorem gc_9_215 : gcal 9 215 = some (1, 137) := by decide +kernel
theorem gc_9_218 : gcal 9 218 = some (1, 138) := by decide +kernel
theorem gc_9_221 : gcal 9 221 = some (0, 139) := by decide +kernel
theorem gc_9_224 : gcal 9 224 = some (0, 141) := by decide +kernel
theorem gc_9_227 : gcal 9 227 = some (0, 142) := by decide +kernel
theorem gc_9_242 : gcal 9 242 = some (0, 144) := by decide +kernel
theorem gc_9_256 : gcal 9 256 = some (0, 145) := by decide +kernel
theorem gc_9_260 : gcal 9 260 = some (1, 147) := by decide +kernel
theorem gc_9_263 : gcal 9 263 = some (0, 146) := by decide +kernel
theorem gc_9_269 : gcal 9 269 = some (1, 150) := by decide +kernel
theorem gc_9_272 : gcal 9 272 = some (0, 151) := by decide +kernel
theorem gc_9_275 : gcal 9 275 = some (0, 149) := by decide +kernel
theorem gc_9_278 : gcal 9 278 = some (0, 152) := by decide +kernel
theorem gc_9_282 : gcal 9 282 = some (0, 153) := by decide +kernel
theorem gc_9_285 : gcal 9 285 = some (0, 154) := by decide +kernel
theorem gc_9_288 : gcal 9 288 = some (0, 161) := by decide +kernel
theorem gc_9_294 : gcal 9 294 = some (0, 148) := by decide +kernel
theorem gc_9_297 : gcal 9 297 = some (0, 155) := by decide +kernel
theorem gc_9_300 : gcal 9 300 = some (0, 156) := by decide +kernel
theorem gc_9_304 : gcal 9 304 = some (0, 157) := by decide +kernel
theorem gc_9_308 : gcal 9 308 = some (0, 158) := by decide +kernel
theorem gc_9_311 : gcal 9 311 = some (0, 159) := by decide +kernel
theorem gc_9_314 : gcal 9 314 = some (0, 160) := by decide +kernel
theorem gc_9_317 : gcal 9 317 = some (0, 162) := by decide +kernel
theorem gc_9_323 : gcal 9 323 = some (0, 163) := by decide +kernel
theorem gc_9_326 : gcal 9 326 = some (0, 164) := by decide +kernel
theorem gc_9_329 : gcal 9 329 = some (0, 124) := by decide +kernel
theorem gc_9_332 : gcal 9 332 = some (0, 122) := by decide +kernel
theorem gc_9_335 : gcal 9 335 = some (0, 165) := by decide +kernel
theorem gc_9_351 : gcal 9 351 = some (0, 169) := by decide +kernel
theorem gc_9_354 : gcal 9 354 = some (0, 167) := by decide +kernel
theorem gc_9_358 : gcal 9 358 = some (1, 168) := by decide +kernel
theorem gc_9_362 : gcal 9 362 = some (0, 170) := by decide +kernel
theorem gc_9_366 : gcal 9 366 = some (0, 174) := by decide +kernel
theorem gc_9_369 : gcal 9 369 = some (0, 176) := by decide +kernel
theorem gc_9_372 : gcal 9 372 = some (0, 177) := by decide +kernel
theorem gc_9_376 : gcal 9 376 = some (0, 180) := by decide +kernel
theorem gc_9_385 : gcal 9 385 = some (0, 182) := by decide +kernel
theorem gc_9_388 : gcal 9 388 = some (0, 190) := by decide +kernel
theorem gc_9_391 : gcal 9 391 = some (1, 193) := by decide +kernel
theorem gc_9_397 : gcal 9 397 = some (0, 191) := by decide +kernel
theorem gc_9_401 : gcal 9 401 = some (0, 192) := by decide +kernel
theorem gc_9_404 : gcal 9 404 = some (0, 197) := by decide +kernel
theorem gc_10_150 : gcal 10 150 = some (6, 0) := by decide +kernel
theorem gc_10_304 : gcal 10 304 = some (5, 0) := by decide +kernel
/-! rules for the rows -/
section GROWS
variable {d j pc : Nat} {ls ls' : List (Option Value)} {st : List Value} {M : gM} {u1 u2 : Nat} {Z : Option Value → gM → Prop} {i : Instr} {own idx ci k o b : Nat}
theorem R_iconst {n : Int} {v : Int32} (hd : decode (gby j) pc = .ok (.iconst n, 1)) (hv : Int32.ofInt n = v) : Run d j pc ls st M u1 u2 Z ↔ Run d j (pc + 1) ls (.int v :: st) M u1 u2 Z := by subst hv; exact R_arith hd rfl
theorem R_bipush {n : Int} {v : Int32} (hd : decode (gby j) pc = .ok (.bipush n, 2)) (hv : (Int8.ofInt n).toInt32 = v) : Run d j pc ls st M u1 u2 Z ↔ Run d j (pc + 2) ls (.int v :: st) M u1 u2 Z := by subst hv; exact R_arith hd rfl
theorem R_sipush {n : Int} {v : Int32} (hd : decode (gby j) pc = .ok (.sipush n, 3)) (hv : (Int16.ofInt n).toInt32 = v) : Run d j pc ls st M u1 u2 Z ↔ Run d j (pc + 3) ls (.int v :: st) M u1 u2 Z := by subst hv; exact R_arith hd rfl
theorem R_iinc {q : Nat} {n : Int} {x v : Int32} (hd : decode (gby j) pc = .ok (.iinc q n, 3)) (hv : Int32.ofInt n = v) (h1 : gLoad ls q false = some (.int x)) (h2 : gStore ls q (.int (x + v)) = some ls') : Run d j pc ls st M u1 u2 Z ↔ Run d j (pc + 3) ls' st M u1 u2 Z := by
  subst hv
  exact R_local hd rfl rfl (by simp only [gLocal, h1, h2, Option.map_some])
theorem R_goto {off : Int} {t : Nat} (hd : decode (gby j) pc = .ok (.goto off, 3)) (ht : gTgt pc off = some t) : Run d j pc ls st M u1 u2 Z ↔ Run d j t ls st M u1 u2 Z := R_branch hd rfl (by simp only [gBranch, ht, Option.map_some])
theorem R_nullN {off : Int} {t : Nat} (hd : decode (gby j) pc = .ok (.ifnull off, 3)) (ht : gTgt pc off = some t) : Run d j pc ls (.null :: st) M u1 u2 Z ↔ Run d j t ls st M u1 u2 Z := by rw [R_null hd ht rfl]; simp
theorem R_nullR {off : Int} {t : Nat} (hd : decode (gby j) pc = .ok (.ifnull off, 3)) (ht : gTgt pc off = some t) : Run d j pc ls (.ref o :: st) M u1 u2 Z ↔ Run d j (pc + 3) ls st M u1 u2 Z := by rw [R_null hd ht rfl]; simp
theorem R_nonnullN {off : Int} {t : Nat} (hd : decode (gby j) pc = .ok (.ifnonnull off, 3)) (ht : gTgt pc off = some t) : Run d j pc ls (.null :: st) M u1 u2 Z ↔ Run d j (pc + 3) ls st M u1 u2 Z := by rw [R_nonnull hd ht rfl]; simp
theorem R_nonnullR {off : Int} {t : Nat} (hd : decode (gby j) pc = .ok (.ifnonnull off, 3)) (ht : gTgt pc off = some t) : Run d j pc ls (.ref o :: st) M u1 u2 Z ↔ Run d j t ls st M u1 u2 Z := by rw [R_nonnull hd ht rfl]; simp
def gSw (F : Nat → Prop) (dt : Nat) (x : Int32) : List (Int32 × Nat) → Prop
  | [] => F dt
  | (c, t) :: l => (x = c → F t) ∧ (¬ x = c → gSw F dt x l)
theorem gSw_hit {F : Nat → Prop} {dt t : Nat} {x : Int32} : ∀ {l : List (Int32 × Nat)}, (l.find? (fun q => q.1 == x)) = some (x, t) → (gSw F dt x l ↔ F t)
  | [], h => by cases h
  | (c, t1) :: l, h => by
    by_cases hc : x = c
    · subst hc
      rw [List.find?_cons_of_pos (by simp)] at h
      cases h
      simp [gSw]
    · rw [List.find?_cons_of_neg (by simpa using fun q => hc q.symm)] at h
      simp only [gSw, hc, false_imp_iff, true_and, not_false_eq_true, true_imp_iff]
      exact gSw_hit h
theorem gSw_miss {F : Nat → Prop} {dt : Nat} {x : Int32} : ∀ {l : List (Int32 × Nat)}, (∀ q ∈ l, x ≠ q.1) → (gSw F dt x l ↔ F dt)
  | [], _ => Iff.rfl
  | (c, t) :: l, h => by
    have h1 : ¬ x = c := h (c, t) List.mem_cons_self
    simp only [gSw, h1, false_imp_iff, true_and, not_false_eq_true, true_imp_iff]
    exact gSw_miss (fun q hq => h q (List.mem_cons_of_mem _ hq))
theorem gSw_of {F : Nat → Prop} {dt : Nat} {x : Int32} {l : List (Int32 × Nat)} {A : Prop} (h1 : ∀ t, l.find? (fun q => q.1 == x) = some (x, t) → (A ↔ F t)) (h2 : (∀ q ∈ l, x ≠ q.1) → (A ↔ F dt)) : A ↔ gSw F dt x l := by
  cases h : l.find? (fun q => q.1 == x) with
  | none =>
    have h3 : ∀ q ∈ l, x ≠ q.1 := fun q hq e => by
      have := List.find?_eq_none.mp h q hq
      simp [e] at this
    rw [gSw_miss h3]
    exact h2 h3
  | some p =>
    obtain ⟨c, t⟩ := p
    have h3 := List.find?_some h
    simp only [beq_iff_eq] at h3
    subst h3
    rw [gSw_hit h]
    exact h1 t h
theorem R_table {dflt lo hi : Int} {offs : Array Int} {len dt : Nat} {x : Int32} {tbl : List (Int32 × Nat)} (hd : decode (gby j) pc = .ok (.tableswitch dflt lo hi offs, len)) (h0 : gTgt pc dflt = some dt) (hT : tbl.all (fun q => decide (¬ (q.1.toInt < lo ∨ hi < q.1.toInt) ∧ (offs[(q.1.toInt - lo).toNat]?).bind (gTgt pc) = some q.2)) = true)
    (hO : (List.range (hi - lo + 1).toNat).all (fun m => tbl.any (fun q => decide (q.1.toInt = lo + m)) || decide ((offs[m]?).bind (gTgt pc) = some dt)) = true) :
    Run d j pc ls (.int x :: st) M u1 u2 Z ↔ gSw (fun t => Run d j t ls st M u1 u2 Z) dt x tbl := by
  refine gSw_of (fun t ht => ?_) (fun hm => ?_)
  · have h1 := List.all_eq_true.mp hT _ (List.mem_of_find?_eq_some ht)
    simp only [decide_eq_true_eq] at h1
    refine R_branch hd rfl ?_
    unfold gBranch
    dsimp only
    rw [if_neg h1.1]
    obtain ⟨off, h2, h3⟩ := Option.bind_eq_some_iff.mp h1.2
    rw [h2]
    simp only [Option.bind_some, h3, Option.map_some]
  · refine R_branch hd rfl ?_
    unfold gBranch
    dsimp only
    by_cases hx : x.toInt < lo ∨ hi < x.toInt
    · rw [if_pos hx, h0]
      rfl
    · rw [if_neg hx]
      have h1 := List.all_eq_true.mp hO (x.toInt - lo).toNat (List.mem_range.mpr (by omega))
      simp only [Bool.or_eq_true, List.any_eq_true, decide_eq_true_eq] at h1
      rcases h1 with ⟨q, hq, h1⟩ | h1
      · exact absurd (Int32.toInt_inj.mp (by omega)) (hm q hq)
      · obtain ⟨off, h2, h3⟩ := Option.bind_eq_some_iff.mp h1
        rw [h2]
        simp only [Option.bind_some, h3, Option.map_some]
theorem look_miss {d : Int} {x : Int32} : ∀ {l : List (Int × Int)}, (∀ q ∈ l, x.toInt ≠ q.1) → Op.lookupswitch.offset l d x.toInt = d
  | [], _ => rfl
  | (a, o) :: l, h => by
    have h1 : ¬ x.toInt = a := h (a, o) List.mem_cons_self
    have h2 := look_miss (l := l) (d := d) (x := x) (fun q hq => h q (List.mem_cons_of_mem _ hq))
    refine Eq.trans ?_ h2
    simp [Op.lookupswitch.offset, h1, Ne.symm h1]
theorem R_look {dflt : Int} {ps : Array (Int × Int)} {len dt : Nat} {x : Int32} {tbl : List (Int32 × Nat)} (hd : decode (gby j) pc = .ok (.lookupswitch dflt ps, len)) (h0 : gTgt pc dflt = some dt) (hp : (ps.toList.zip (ps.toList.drop 1)).all (fun (a, next) => a.1 < next.1) = true) (hT : tbl.all (fun q => decide (gTgt pc (Op.lookupswitch.offset ps.toList dflt q.1.toInt) = some q.2)) = true)
    (hO : ps.toList.all (fun p => tbl.any (fun q => decide (q.1.toInt = p.1))) = true) :
    Run d j pc ls (.int x :: st) M u1 u2 Z ↔ gSw (fun t => Run d j t ls st M u1 u2 Z) dt x tbl := by
  refine gSw_of (fun t ht => ?_) (fun hm => ?_)
  · have h1 := List.all_eq_true.mp hT _ (List.mem_of_find?_eq_some ht)
    simp only [decide_eq_true_eq] at h1
    refine R_branch hd rfl ?_
    unfold gBranch
    dsimp only
    rw [if_pos hp, h1]
    rfl
  · refine R_branch hd rfl ?_
    unfold gBranch
    dsimp only
    rw [if_pos hp, look_miss (fun q hq e => ?_), h0]
    · rfl
    · have h1 := List.all_eq_true.mp hO q hq
      simp only [List.any_eq_true, decide_eq_true_eq] at h1
      obtain ⟨r, hr, h2⟩ := h1
      exact hm r hr (Int32.toInt_inj.mp (by omega))
theorem R_new2 {n : Nat} (hd : decode (gby j) pc = .ok (.new idx, 3)) (ho : gow j = own) (hf : gnew own idx = some ci) (hn : gN ci = n) (hu : u1 + 1 ≤ gmc j ∧ u2 + n ≤ gms j) : Run d j pc ls st M u1 u2 Z ↔ Run d j (pc + 3) ls (.ref M.2.2.length :: st) (gNew M (.inl ci)) (u1 + 1) (u2 + n) Z := by
  rw [R_new hd ho hf hn]
  exact ⟨fun q => q.2, fun q => ⟨hu, q⟩⟩
theorem R_newa2 {at_ : ArrayType} {t n : Nat} {x : Int32} (hd : decode (gby j) pc = .ok (.newarray at_, 2)) (hf : gat at_ = some t) (hx : ¬ x < 0 ∧ x.toNatClampNeg = n ∧ n ≤ 100000) (hu : u1 + 1 ≤ gmc j ∧ u2 + n ≤ gms j) : Run d j pc ls (.int x :: st) M u1 u2 Z ↔ Run d j (pc + 2) ls (.ref M.2.2.length :: st) (gNew M (.inr (t, n))) (u1 + 1) (u2 + n) Z := by
  obtain ⟨h1, rfl, h3⟩ := hx
  rw [R_newa hd hf]
  exact ⟨fun q => q.2, fun q => ⟨⟨h1, h3, hu⟩, q⟩⟩
theorem R_anew2 {t n : Nat} {x : Int32} (hd : decode (gby j) pc = .ok (.anewarray idx, 3)) (ho : gow j = own) (hf : gan own idx = some t) (hx : ¬ x < 0 ∧ x.toNatClampNeg = n ∧ n ≤ 100000) (hu : u1 + 1 ≤ gmc j ∧ u2 + n ≤ gms j) : Run d j pc ls (.int x :: st) M u1 u2 Z ↔ Run d j (pc + 3) ls (.ref M.2.2.length :: st) (gNew M (.inr (t, n))) (u1 + 1) (u2 + n) Z := by
  obtain ⟨h1, rfl, h3⟩ := hx
  rw [R_anew hd ho hf]
  exact ⟨fun q => q.2, fun q => ⟨⟨h1, h3, hu⟩, q⟩⟩
theorem R_iret {x : Int32} (hd : decode (gby j) pc = .ok (.ireturn, 1)) (hr : gre j = some .int) : Run d j pc ls [.int x] M u1 u2 Z ↔ Z (some (.int x)) M := R_ret hd rfl rfl rfl rfl rfl (by simp only [gRet]; exact if_pos (Or.inl hr))
theorem R_iretZ {x : Int32} (hd : decode (gby j) pc = .ok (.ireturn, 1)) (hr : gre j = some .boolean) : Run d j pc ls [.int x] M u1 u2 Z ↔ (x = 0 ∨ x = 1) ∧ Z (some (.int x)) M := by
  by_cases h : x = 0 ∨ x = 1
  · rw [R_ret hd rfl rfl rfl rfl rfl (r := some (.int x)) (M' := M) (by simp only [gRet]; exact if_pos (Or.inr ⟨hr, h⟩))]
    exact ⟨fun q => ⟨h, q⟩, fun q => q.2⟩
  · rw [R_heapN hd rfl rfl rfl rfl (by simp only [gRet]; exact if_neg (fun q => q.elim (fun q => by rw [hr] at q; cases q) (fun q => h q.2))) rfl]
    exact ⟨False.elim, fun q => h q.1⟩
theorem R_aret {v : Value} (hd : decode (gby j) pc = .ok (.areturn, 1)) (hr : (match gre j with | some (.object _) => true | some (.array _) => true | _ => false) = true) : Run d j pc ls [v] M u1 u2 Z ↔ gisRef v = true ∧ Z (some v) M := by
  by_cases h : gisRef v = true
  · rw [R_ret hd rfl rfl rfl rfl rfl (r := some v) (M' := M) (by
      unfold gRet
      split at hr
      · rename_i n hn; rw [hn]; exact if_pos h
      · rename_i n hn; rw [hn]; exact if_pos h
      · cases hr)]
    exact ⟨fun q => ⟨h, q⟩, fun q => q.2⟩
  · rw [R_heapN hd rfl rfl rfl rfl (by
      unfold gRet
      split at hr
      · rename_i n hn; rw [hn]; exact if_neg h
      · rename_i n hn; rw [hn]; exact if_neg h
      · cases hr) rfl]
    exact ⟨False.elim, fun q => h q.1⟩
theorem R_vret (hd : decode (gby j) pc = .ok (.return_, 1)) (hr : gre j = none) : Run d j pc ls [] M u1 u2 Z ↔ Z none M := R_ret hd rfl rfl rfl rfl rfl (by simp only [gRet]; exact if_pos hr)
theorem R_callV {as rest : List Value} (hd : decode (gby j) pc = .ok (i, 3)) (h0 : gArith i 3 st = none) (h1 : gBranch i 3 pc st = none) (h2 : gLocal i 3 ls st = none) (h3 : gHeap j i 3 st M u1 u2 = none) (hk : gKind i 3 = some idx) (ho : gow j = own) (hc : gcal own idx = some (0, k)) (hki : gKindOk i 0 = true) (hw : gow k = ci)
    (hn1 : gNargs 0 k ≤ st.length) (hn2 : st.length ≤ gNargs 0 k + 8) (has : (st.take (gNargs 0 k)).reverse = .ref b :: as) (hre : st.drop (gNargs 0 k) = rest) (hu1 : u1 + gmc k ≤ gmc j) (hu2 : u2 + gms k ≤ gms j) :
    Run d j pc ls st M u1 u2 Z ↔ gObj M b ci ∧ Call d k (.ref b :: as) M (fun r M' => Run d j (pc + 3) ls (r.toList ++ rest) M' (u1 + gmc k) (u2 + gms k) Z) := by
  subst hw
  by_cases h : gObj M b (gow k)
  · rw [R_call hd h0 h1 h2 h3 hk ho hc hki (by decide) hn1 hn2 has hre (by unfold gObj at h; simp only [gRecv]; exact decide_eq_true h) hu1 hu2]
    exact ⟨fun q => ⟨h, q⟩, fun q => q.2⟩
  · subst ho
    rw [Run_none (fun rec => by
      rw [R_callI hd h0 h1 h2 h3 hk (by rw [hc]; exact hki)]
      unfold gCall
      rw [hc]
      dsimp only
      rw [if_neg (by decide), if_neg (fun q => h (by
        have h9 := q.2.2.1
        rw [has] at h9
        show M.2.2[b]? = some (.inl (gow k))
        exact of_decide_eq_true h9))]
      rfl)]
    exact ⟨False.elim, fun q => h q.1⟩
end GROWS
