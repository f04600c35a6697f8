/-! Rules of the methods, an instruction each, by program (wip/whole/rows.py). -/
theorem dX8_body_0 : decode cX8_body 0 = .ok (.iload_n 1, 1) := by decide +kernel
theorem dX8_body_1 : decode cX8_body 1 = .ok (.invokestatic 86, 3) := by decide +kernel
theorem dX8_body_4 : decode cX8_body 4 = .ok (.ifCond .eq 29, 3) := by decide +kernel
theorem dX8_body_7 : decode cX8_body 7 = .ok (.iload_n 2, 1) := by decide +kernel
theorem dX8_body_8 : decode cX8_body 8 = .ok (.invokestatic 86, 3) := by decide +kernel
theorem dX8_body_11 : decode cX8_body 11 = .ok (.ifCond .eq 22, 3) := by decide +kernel
theorem dX8_body_14 : decode cX8_body 14 = .ok (.iload_n 3, 1) := by decide +kernel
theorem dX8_body_15 : decode cX8_body 15 = .ok (.invokestatic 86, 3) := by decide +kernel
theorem dX8_body_18 : decode cX8_body 18 = .ok (.ifCond .eq 15, 3) := by decide +kernel
theorem dX8_body_21 : decode cX8_body 21 = .ok (.iload 4, 2) := by decide +kernel
theorem dX8_body_23 : decode cX8_body 23 = .ok (.invokestatic 86, 3) := by decide +kernel
theorem dX8_body_26 : decode cX8_body 26 = .ok (.ifCond .eq 7, 3) := by decide +kernel
theorem dX8_body_29 : decode cX8_body 29 = .ok (.iconst 1, 1) := by decide +kernel
theorem dX8_body_30 : decode cX8_body 30 = .ok (.goto 4, 3) := by decide +kernel
theorem dX8_body_33 : decode cX8_body 33 = .ok (.iconst 0, 1) := by decide +kernel
theorem dX8_body_34 : decode cX8_body 34 = .ok (.istore 9, 2) := by decide +kernel
theorem dX8_body_36 : decode cX8_body 36 = .ok (.iload 5, 2) := by decide +kernel
theorem dX8_body_38 : decode cX8_body 38 = .ok (.invokestatic 86, 3) := by decide +kernel
theorem dX8_body_41 : decode cX8_body 41 = .ok (.ifCond .eq 31, 3) := by decide +kernel
theorem dX8_body_44 : decode cX8_body 44 = .ok (.iload 6, 2) := by decide +kernel
theorem dX8_body_46 : decode cX8_body 46 = .ok (.invokestatic 86, 3) := by decide +kernel
theorem dX8_body_49 : decode cX8_body 49 = .ok (.ifCond .eq 23, 3) := by decide +kernel
theorem dX8_body_52 : decode cX8_body 52 = .ok (.iload 7, 2) := by decide +kernel
theorem dX8_body_54 : decode cX8_body 54 = .ok (.invokestatic 86, 3) := by decide +kernel
theorem dX8_body_57 : decode cX8_body 57 = .ok (.ifCond .eq 15, 3) := by decide +kernel
theorem dX8_body_60 : decode cX8_body 60 = .ok (.iload 8, 2) := by decide +kernel
theorem dX8_body_62 : decode cX8_body 62 = .ok (.invokestatic 86, 3) := by decide +kernel
theorem dX8_body_65 : decode cX8_body 65 = .ok (.ifCond .eq 7, 3) := by decide +kernel
theorem dX8_body_68 : decode cX8_body 68 = .ok (.iconst 1, 1) := by decide +kernel
theorem dX8_body_69 : decode cX8_body 69 = .ok (.goto 4, 3) := by decide +kernel
theorem dX8_body_72 : decode cX8_body 72 = .ok (.iconst 0, 1) := by decide +kernel
theorem dX8_body_73 : decode cX8_body 73 = .ok (.istore 10, 2) := by decide +kernel
theorem dX8_body_75 : decode cX8_body 75 = .ok (.iload 9, 2) := by decide +kernel
theorem dX8_body_77 : decode cX8_body 77 = .ok (.ifCond .eq 17, 3) := by decide +kernel
theorem dX8_body_80 : decode cX8_body 80 = .ok (.iload 10, 2) := by decide +kernel
theorem dX8_body_82 : decode cX8_body 82 = .ok (.ifCond .eq 12, 3) := by decide +kernel
theorem dX8_body_85 : decode cX8_body 85 = .ok (.aload_n 0, 1) := by decide +kernel
theorem dX8_body_86 : decode cX8_body 86 = .ok (.getfield 13, 3) := by decide +kernel
theorem dX8_body_89 : decode cX8_body 89 = .ok (.bipush 6, 2) := by decide +kernel
theorem dX8_body_91 : decode cX8_body 91 = .ok (.if_icmp .lt 5, 3) := by decide +kernel
theorem dX8_body_94 : decode cX8_body 94 = .ok (.iconst (-1), 1) := by decide +kernel
theorem dX8_body_95 : decode cX8_body 95 = .ok (.ireturn, 1) := by decide +kernel
theorem dX8_body_96 : decode cX8_body 96 = .ok (.aload_n 0, 1) := by decide +kernel
theorem dX8_body_97 : decode cX8_body 97 = .ok (.iconst 0, 1) := by decide +kernel
theorem dX8_body_98 : decode cX8_body 98 = .ok (.iload_n 1, 1) := by decide +kernel
theorem dX8_body_99 : decode cX8_body 99 = .ok (.invokevirtual 90, 3) := by decide +kernel
theorem dX8_body_102 : decode cX8_body 102 = .ok (.aload_n 0, 1) := by decide +kernel
theorem dX8_body_103 : decode cX8_body 103 = .ok (.iconst 1, 1) := by decide +kernel
theorem dX8_body_104 : decode cX8_body 104 = .ok (.iload_n 2, 1) := by decide +kernel
theorem dX8_body_105 : decode cX8_body 105 = .ok (.invokevirtual 90, 3) := by decide +kernel
theorem dX8_body_108 : decode cX8_body 108 = .ok (.aload_n 0, 1) := by decide +kernel
theorem dX8_body_109 : decode cX8_body 109 = .ok (.iconst 2, 1) := by decide +kernel
theorem dX8_body_110 : decode cX8_body 110 = .ok (.iload_n 3, 1) := by decide +kernel
theorem dX8_body_111 : decode cX8_body 111 = .ok (.invokevirtual 90, 3) := by decide +kernel
theorem dX8_body_114 : decode cX8_body 114 = .ok (.aload_n 0, 1) := by decide +kernel
theorem dX8_body_115 : decode cX8_body 115 = .ok (.iconst 3, 1) := by decide +kernel
theorem dX8_body_116 : decode cX8_body 116 = .ok (.iload 4, 2) := by decide +kernel
theorem dX8_body_118 : decode cX8_body 118 = .ok (.invokevirtual 90, 3) := by decide +kernel
theorem dX8_body_121 : decode cX8_body 121 = .ok (.aload_n 0, 1) := by decide +kernel
theorem dX8_body_122 : decode cX8_body 122 = .ok (.iconst 4, 1) := by decide +kernel
theorem dX8_body_123 : decode cX8_body 123 = .ok (.iload 5, 2) := by decide +kernel
theorem dX8_body_125 : decode cX8_body 125 = .ok (.invokevirtual 90, 3) := by decide +kernel
theorem dX8_body_128 : decode cX8_body 128 = .ok (.aload_n 0, 1) := by decide +kernel
theorem dX8_body_129 : decode cX8_body 129 = .ok (.iconst 5, 1) := by decide +kernel
theorem dX8_body_130 : decode cX8_body 130 = .ok (.iload 6, 2) := by decide +kernel
theorem dX8_body_132 : decode cX8_body 132 = .ok (.invokevirtual 90, 3) := by decide +kernel
theorem dX8_body_135 : decode cX8_body 135 = .ok (.aload_n 0, 1) := by decide +kernel
theorem dX8_body_136 : decode cX8_body 136 = .ok (.bipush 6, 2) := by decide +kernel
theorem dX8_body_138 : decode cX8_body 138 = .ok (.iload 7, 2) := by decide +kernel
theorem dX8_body_140 : decode cX8_body 140 = .ok (.invokevirtual 90, 3) := by decide +kernel
theorem dX8_body_143 : decode cX8_body 143 = .ok (.aload_n 0, 1) := by decide +kernel
theorem dX8_body_144 : decode cX8_body 144 = .ok (.bipush 7, 2) := by decide +kernel
theorem dX8_body_146 : decode cX8_body 146 = .ok (.iload 8, 2) := by decide +kernel
theorem dX8_body_148 : decode cX8_body 148 = .ok (.invokevirtual 90, 3) := by decide +kernel
theorem dX8_body_151 : decode cX8_body 151 = .ok (.aload_n 0, 1) := by decide +kernel
theorem dX8_body_152 : decode cX8_body 152 = .ok (.dup, 1) := by decide +kernel
theorem dX8_body_153 : decode cX8_body 153 = .ok (.getfield 13, 3) := by decide +kernel
theorem dX8_body_156 : decode cX8_body 156 = .ok (.iconst 1, 1) := by decide +kernel
theorem dX8_body_157 : decode cX8_body 157 = .ok (.iadd, 1) := by decide +kernel
theorem dX8_body_158 : decode cX8_body 158 = .ok (.putfield 13, 3) := by decide +kernel
theorem dX8_body_161 : decode cX8_body 161 = .ok (.aload_n 0, 1) := by decide +kernel
theorem dX8_body_162 : decode cX8_body 162 = .ok (.getfield 13, 3) := by decide +kernel
theorem dX8_body_165 : decode cX8_body 165 = .ok (.iconst 1, 1) := by decide +kernel
theorem dX8_body_166 : decode cX8_body 166 = .ok (.isub, 1) := by decide +kernel
theorem dX8_body_167 : decode cX8_body 167 = .ok (.ireturn, 1) := by decide +kernel
theorem dX8_cloth_0 : decode cX8_cloth 0 = .ok (.iload_n 1, 1) := by decide +kernel
theorem dX8_cloth_1 : decode cX8_cloth 1 = .ok (.bipush 10, 2) := by decide +kernel
theorem dX8_cloth_3 : decode cX8_cloth 3 = .ok (.if_icmp .lt 21, 3) := by decide +kernel
theorem dX8_cloth_6 : decode cX8_cloth 6 = .ok (.iload_n 1, 1) := by decide +kernel
theorem dX8_cloth_7 : decode cX8_cloth 7 = .ok (.sipush 400, 3) := by decide +kernel
theorem dX8_cloth_10 : decode cX8_cloth 10 = .ok (.if_icmp .gt 14, 3) := by decide +kernel
theorem dX8_cloth_13 : decode cX8_cloth 13 = .ok (.iload_n 2, 1) := by decide +kernel
theorem dX8_cloth_14 : decode cX8_cloth 14 = .ok (.invokestatic 94, 3) := by decide +kernel
theorem dX8_cloth_17 : decode cX8_cloth 17 = .ok (.ifCond .eq 7, 3) := by decide +kernel
theorem dX8_cloth_20 : decode cX8_cloth 20 = .ok (.iconst 1, 1) := by decide +kernel
theorem dX8_cloth_21 : decode cX8_cloth 21 = .ok (.goto 4, 3) := by decide +kernel
theorem dX8_cloth_24 : decode cX8_cloth 24 = .ok (.iconst 0, 1) := by decide +kernel
theorem dX8_cloth_25 : decode cX8_cloth 25 = .ok (.istore_n 3, 1) := by decide +kernel
theorem dX8_cloth_26 : decode cX8_cloth 26 = .ok (.iload_n 3, 1) := by decide +kernel
theorem dX8_cloth_27 : decode cX8_cloth 27 = .ok (.ifCond .eq 18, 3) := by decide +kernel
theorem dX8_cloth_30 : decode cX8_cloth 30 = .ok (.aload_n 0, 1) := by decide +kernel
theorem dX8_cloth_31 : decode cX8_cloth 31 = .ok (.getfield 23, 3) := by decide +kernel
theorem dX8_cloth_34 : decode cX8_cloth 34 = .ok (.aload_n 0, 1) := by decide +kernel
theorem dX8_cloth_35 : decode cX8_cloth 35 = .ok (.getfield 19, 3) := by decide +kernel
theorem dX8_cloth_38 : decode cX8_cloth 38 = .ok (.arraylength, 1) := by decide +kernel
theorem dX8_cloth_39 : decode cX8_cloth 39 = .ok (.invokestatic 97, 3) := by decide +kernel
theorem dX8_cloth_42 : decode cX8_cloth 42 = .ok (.ifCond .ne 5, 3) := by decide +kernel
theorem dX8_cloth_45 : decode cX8_cloth 45 = .ok (.iconst (-1), 1) := by decide +kernel
theorem dX8_cloth_46 : decode cX8_cloth 46 = .ok (.ireturn, 1) := by decide +kernel
theorem dX8_cloth_47 : decode cX8_cloth 47 = .ok (.aload_n 0, 1) := by decide +kernel
theorem dX8_cloth_48 : decode cX8_cloth 48 = .ok (.getfield 19, 3) := by decide +kernel
theorem dX8_cloth_51 : decode cX8_cloth 51 = .ok (.aload_n 0, 1) := by decide +kernel
theorem dX8_cloth_52 : decode cX8_cloth 52 = .ok (.getfield 23, 3) := by decide +kernel
theorem dX8_cloth_55 : decode cX8_cloth 55 = .ok (.new 17, 3) := by decide +kernel
theorem dX8_cloth_58 : decode cX8_cloth 58 = .ok (.dup, 1) := by decide +kernel
theorem dX8_cloth_59 : decode cX8_cloth 59 = .ok (.iload_n 1, 1) := by decide +kernel
theorem dX8_cloth_60 : decode cX8_cloth 60 = .ok (.iload_n 2, 1) := by decide +kernel
theorem dX8_cloth_61 : decode cX8_cloth 61 = .ok (.invokespecial 101, 3) := by decide +kernel
theorem dX8_cloth_64 : decode cX8_cloth 64 = .ok (.aastore, 1) := by decide +kernel
theorem dX8_cloth_65 : decode cX8_cloth 65 = .ok (.aload_n 0, 1) := by decide +kernel
theorem dX8_cloth_66 : decode cX8_cloth 66 = .ok (.dup, 1) := by decide +kernel
theorem dX8_cloth_67 : decode cX8_cloth 67 = .ok (.getfield 23, 3) := by decide +kernel
theorem dX8_cloth_70 : decode cX8_cloth 70 = .ok (.iconst 1, 1) := by decide +kernel
theorem dX8_cloth_71 : decode cX8_cloth 71 = .ok (.iadd, 1) := by decide +kernel
theorem dX8_cloth_72 : decode cX8_cloth 72 = .ok (.putfield 23, 3) := by decide +kernel
theorem dX8_cloth_75 : decode cX8_cloth 75 = .ok (.aload_n 0, 1) := by decide +kernel
theorem dX8_cloth_76 : decode cX8_cloth 76 = .ok (.getfield 23, 3) := by decide +kernel
theorem dX8_cloth_79 : decode cX8_cloth 79 = .ok (.iconst 1, 1) := by decide +kernel
theorem dX8_cloth_80 : decode cX8_cloth 80 = .ok (.isub, 1) := by decide +kernel
theorem dX8_cloth_81 : decode cX8_cloth 81 = .ok (.ireturn, 1) := by decide +kernel
theorem dX8_colour_0 : decode cX8_colour 0 = .ok (.aload_n 0, 1) := by decide +kernel
theorem dX8_colour_1 : decode cX8_colour 1 = .ok (.iload_n 1, 1) := by decide +kernel
theorem dX8_colour_2 : decode cX8_colour 2 = .ok (.invokevirtual 103, 3) := by decide +kernel
theorem dX8_colour_5 : decode cX8_colour 5 = .ok (.astore 4, 2) := by decide +kernel
theorem dX8_colour_7 : decode cX8_colour 7 = .ok (.aload 4, 2) := by decide +kernel
theorem dX8_colour_9 : decode cX8_colour 9 = .ok (.ifnull 25, 3) := by decide +kernel
theorem dX8_colour_12 : decode cX8_colour 12 = .ok (.iload_n 2, 1) := by decide +kernel
theorem dX8_colour_13 : decode cX8_colour 13 = .ok (.aload 4, 2) := by decide +kernel
theorem dX8_colour_15 : decode cX8_colour 15 = .ok (.getfield 107, 3) := by decide +kernel
theorem dX8_colour_18 : decode cX8_colour 18 = .ok (.arraylength, 1) := by decide +kernel
theorem dX8_colour_19 : decode cX8_colour 19 = .ok (.invokestatic 97, 3) := by decide +kernel
theorem dX8_colour_22 : decode cX8_colour 22 = .ok (.ifCond .eq 12, 3) := by decide +kernel
theorem dX8_colour_25 : decode cX8_colour 25 = .ok (.iload_n 3, 1) := by decide +kernel
theorem dX8_colour_26 : decode cX8_colour 26 = .ok (.bipush 8, 2) := by decide +kernel
theorem dX8_colour_28 : decode cX8_colour 28 = .ok (.invokestatic 97, 3) := by decide +kernel
theorem dX8_colour_31 : decode cX8_colour 31 = .ok (.ifCond .ne 5, 3) := by decide +kernel
theorem dX8_colour_34 : decode cX8_colour 34 = .ok (.iconst 0, 1) := by decide +kernel
theorem dX8_colour_35 : decode cX8_colour 35 = .ok (.ireturn, 1) := by decide +kernel
theorem dX8_colour_36 : decode cX8_colour 36 = .ok (.aload 4, 2) := by decide +kernel
theorem dX8_colour_38 : decode cX8_colour 38 = .ok (.getfield 107, 3) := by decide +kernel
theorem dX8_colour_41 : decode cX8_colour 41 = .ok (.iload_n 2, 1) := by decide +kernel
theorem dX8_colour_42 : decode cX8_colour 42 = .ok (.iload_n 3, 1) := by decide +kernel
theorem dX8_colour_43 : decode cX8_colour 43 = .ok (.iastore, 1) := by decide +kernel
theorem dX8_colour_44 : decode cX8_colour 44 = .ok (.iconst 1, 1) := by decide +kernel
theorem dX8_colour_45 : decode cX8_colour 45 = .ok (.ireturn, 1) := by decide +kernel
theorem dX8_end_0 : decode cX8_end 0 = .ok (.aload_n 0, 1) := by decide +kernel
theorem dX8_end_1 : decode cX8_end 1 = .ok (.iload_n 1, 1) := by decide +kernel
theorem dX8_end_2 : decode cX8_end 2 = .ok (.invokevirtual 103, 3) := by decide +kernel
theorem dX8_end_5 : decode cX8_end 5 = .ok (.astore_n 3, 1) := by decide +kernel
theorem dX8_end_6 : decode cX8_end 6 = .ok (.aload_n 3, 1) := by decide +kernel
theorem dX8_end_7 : decode cX8_end 7 = .ok (.ifnull 15, 3) := by decide +kernel
theorem dX8_end_10 : decode cX8_end 10 = .ok (.iload_n 2, 1) := by decide +kernel
theorem dX8_end_11 : decode cX8_end 11 = .ok (.ifCond .lt 11, 3) := by decide +kernel
theorem dX8_end_14 : decode cX8_end 14 = .ok (.iload_n 2, 1) := by decide +kernel
theorem dX8_end_15 : decode cX8_end 15 = .ok (.aload_n 3, 1) := by decide +kernel
theorem dX8_end_16 : decode cX8_end 16 = .ok (.getfield 110, 3) := by decide +kernel
theorem dX8_end_19 : decode cX8_end 19 = .ok (.if_icmp .le 5, 3) := by decide +kernel
theorem dX8_end_22 : decode cX8_end 22 = .ok (.iconst 0, 1) := by decide +kernel
theorem dX8_end_23 : decode cX8_end 23 = .ok (.ireturn, 1) := by decide +kernel
theorem dX8_end_24 : decode cX8_end 24 = .ok (.aload_n 3, 1) := by decide +kernel
theorem dX8_end_25 : decode cX8_end 25 = .ok (.iload_n 2, 1) := by decide +kernel
theorem dX8_end_26 : decode cX8_end 26 = .ok (.putfield 113, 3) := by decide +kernel
theorem dX8_end_29 : decode cX8_end 29 = .ok (.iconst 1, 1) := by decide +kernel
theorem dX8_end_30 : decode cX8_end 30 = .ok (.ireturn, 1) := by decide +kernel
theorem dX8_feed_0 : decode cX8_feed 0 = .ok (.aload_n 0, 1) := by decide +kernel
theorem dX8_feed_1 : decode cX8_feed 1 = .ok (.getfield 38, 3) := by decide +kernel
theorem dX8_feed_4 : decode cX8_feed 4 = .ok (.bipush 100, 2) := by decide +kernel
theorem dX8_feed_6 : decode cX8_feed 6 = .ok (.if_icmp .le 5, 3) := by decide +kernel
theorem dX8_feed_9 : decode cX8_feed 9 = .ok (.iconst (-1), 1) := by decide +kernel
theorem dX8_feed_10 : decode cX8_feed 10 = .ok (.ireturn, 1) := by decide +kernel
theorem dX8_feed_11 : decode cX8_feed 11 = .ok (.aload_n 0, 1) := by decide +kernel
theorem dX8_feed_12 : decode cX8_feed 12 = .ok (.iload_n 1, 1) := by decide +kernel
theorem dX8_feed_13 : decode cX8_feed 13 = .ok (.invokevirtual 116, 3) := by decide +kernel
theorem dX8_feed_16 : decode cX8_feed 16 = .ok (.aload_n 0, 1) := by decide +kernel
theorem dX8_feed_17 : decode cX8_feed 17 = .ok (.iload_n 2, 1) := by decide +kernel
theorem dX8_feed_18 : decode cX8_feed 18 = .ok (.invokevirtual 116, 3) := by decide +kernel
theorem dX8_feed_21 : decode cX8_feed 21 = .ok (.aload_n 0, 1) := by decide +kernel
theorem dX8_feed_22 : decode cX8_feed 22 = .ok (.iload_n 3, 1) := by decide +kernel
theorem dX8_feed_23 : decode cX8_feed 23 = .ok (.invokevirtual 116, 3) := by decide +kernel
theorem dX8_feed_26 : decode cX8_feed 26 = .ok (.aload_n 0, 1) := by decide +kernel
theorem dX8_feed_27 : decode cX8_feed 27 = .ok (.iload 4, 2) := by decide +kernel
theorem dX8_feed_29 : decode cX8_feed 29 = .ok (.invokevirtual 116, 3) := by decide +kernel
theorem dX8_feed_32 : decode cX8_feed 32 = .ok (.aload_n 0, 1) := by decide +kernel
theorem dX8_feed_33 : decode cX8_feed 33 = .ok (.iload 5, 2) := by decide +kernel
theorem dX8_feed_35 : decode cX8_feed 35 = .ok (.invokevirtual 116, 3) := by decide +kernel
theorem dX8_feed_38 : decode cX8_feed 38 = .ok (.aload_n 0, 1) := by decide +kernel
theorem dX8_feed_39 : decode cX8_feed 39 = .ok (.getfield 38, 3) := by decide +kernel
theorem dX8_feed_42 : decode cX8_feed 42 = .ok (.ireturn, 1) := by decide +kernel
theorem dX8_style_0 : decode cX8_style 0 = .ok (.aload_n 0, 1) := by decide +kernel
theorem dX8_style_1 : decode cX8_style 1 = .ok (.getfield 32, 3) := by decide +kernel
theorem dX8_style_4 : decode cX8_style 4 = .ok (.aload_n 0, 1) := by decide +kernel
theorem dX8_style_5 : decode cX8_style 5 = .ok (.getfield 28, 3) := by decide +kernel
theorem dX8_style_8 : decode cX8_style 8 = .ok (.arraylength, 1) := by decide +kernel
theorem dX8_style_9 : decode cX8_style 9 = .ok (.invokestatic 97, 3) := by decide +kernel
theorem dX8_style_12 : decode cX8_style 12 = .ok (.ifCond .eq 16, 3) := by decide +kernel
theorem dX8_style_15 : decode cX8_style 15 = .ok (.iload_n 1, 1) := by decide +kernel
theorem dX8_style_16 : decode cX8_style 16 = .ok (.iconst 1, 1) := by decide +kernel
theorem dX8_style_17 : decode cX8_style 17 = .ok (.if_icmp .lt 11, 3) := by decide +kernel
theorem dX8_style_20 : decode cX8_style 20 = .ok (.iload_n 1, 1) := by decide +kernel
theorem dX8_style_21 : decode cX8_style 21 = .ok (.aload_n 0, 1) := by decide +kernel
theorem dX8_style_22 : decode cX8_style 22 = .ok (.getfield 38, 3) := by decide +kernel
theorem dX8_style_25 : decode cX8_style 25 = .ok (.if_icmp .le 5, 3) := by decide +kernel
theorem dX8_style_28 : decode cX8_style 28 = .ok (.iconst (-1), 1) := by decide +kernel
theorem dX8_style_29 : decode cX8_style 29 = .ok (.ireturn, 1) := by decide +kernel
theorem dX8_style_30 : decode cX8_style 30 = .ok (.aload_n 0, 1) := by decide +kernel
theorem dX8_style_31 : decode cX8_style 31 = .ok (.iconst 0, 1) := by decide +kernel
theorem dX8_style_32 : decode cX8_style 32 = .ok (.putfield 38, 3) := by decide +kernel
theorem dX8_style_35 : decode cX8_style 35 = .ok (.aload_n 0, 1) := by decide +kernel
theorem dX8_style_36 : decode cX8_style 36 = .ok (.getfield 47, 3) := by decide +kernel
theorem dX8_style_39 : decode cX8_style 39 = .ok (.aload_n 0, 1) := by decide +kernel
theorem dX8_style_40 : decode cX8_style 40 = .ok (.getfield 35, 3) := by decide +kernel
theorem dX8_style_43 : decode cX8_style 43 = .ok (.iload_n 1, 1) := by decide +kernel
theorem dX8_style_44 : decode cX8_style 44 = .ok (.invokevirtual 120, 3) := by decide +kernel
theorem dX8_style_47 : decode cX8_style 47 = .ok (.astore_n 2, 1) := by decide +kernel
theorem dX8_style_48 : decode cX8_style 48 = .ok (.aload_n 2, 1) := by decide +kernel
theorem dX8_style_49 : decode cX8_style 49 = .ok (.ifnonnull 23, 3) := by decide +kernel
theorem dX8_style_52 : decode cX8_style 52 = .ok (.sipush (-1000), 3) := by decide +kernel
theorem dX8_style_55 : decode cX8_style 55 = .ok (.aload_n 0, 1) := by decide +kernel
theorem dX8_style_56 : decode cX8_style 56 = .ok (.getfield 47, 3) := by decide +kernel
theorem dX8_style_59 : decode cX8_style 59 = .ok (.getfield 124, 3) := by decide +kernel
theorem dX8_style_62 : decode cX8_style 62 = .ok (.imul, 1) := by decide +kernel
theorem dX8_style_63 : decode cX8_style 63 = .ok (.aload_n 0, 1) := by decide +kernel
theorem dX8_style_64 : decode cX8_style 64 = .ok (.getfield 47, 3) := by decide +kernel
theorem dX8_style_67 : decode cX8_style 67 = .ok (.getfield 127, 3) := by decide +kernel
theorem dX8_style_70 : decode cX8_style 70 = .ok (.isub, 1) := by decide +kernel
theorem dX8_style_71 : decode cX8_style 71 = .ok (.ireturn, 1) := by decide +kernel
theorem dX8_style_72 : decode cX8_style 72 = .ok (.aload_n 0, 1) := by decide +kernel
theorem dX8_style_73 : decode cX8_style 73 = .ok (.getfield 28, 3) := by decide +kernel
theorem dX8_style_76 : decode cX8_style 76 = .ok (.aload_n 0, 1) := by decide +kernel
theorem dX8_style_77 : decode cX8_style 77 = .ok (.getfield 32, 3) := by decide +kernel
theorem dX8_style_80 : decode cX8_style 80 = .ok (.aload_n 2, 1) := by decide +kernel
theorem dX8_style_81 : decode cX8_style 81 = .ok (.aastore, 1) := by decide +kernel
theorem dX8_style_82 : decode cX8_style 82 = .ok (.aload_n 0, 1) := by decide +kernel
theorem dX8_style_83 : decode cX8_style 83 = .ok (.dup, 1) := by decide +kernel
theorem dX8_style_84 : decode cX8_style 84 = .ok (.getfield 32, 3) := by decide +kernel
theorem dX8_style_87 : decode cX8_style 87 = .ok (.iconst 1, 1) := by decide +kernel
theorem dX8_style_88 : decode cX8_style 88 = .ok (.iadd, 1) := by decide +kernel
theorem dX8_style_89 : decode cX8_style 89 = .ok (.putfield 32, 3) := by decide +kernel
theorem dX8_style_92 : decode cX8_style 92 = .ok (.aload_n 0, 1) := by decide +kernel
theorem dX8_style_93 : decode cX8_style 93 = .ok (.getfield 32, 3) := by decide +kernel
theorem dX8_style_96 : decode cX8_style 96 = .ok (.iconst 1, 1) := by decide +kernel
theorem dX8_style_97 : decode cX8_style 97 = .ok (.isub, 1) := by decide +kernel
theorem dX8_style_98 : decode cX8_style 98 = .ok (.ireturn, 1) := by decide +kernel
theorem dX8_drape_0 : decode cX8_drape 0 = .ok (.aload_n 0, 1) := by decide +kernel
theorem dX8_drape_1 : decode cX8_drape 1 = .ok (.iload_n 1, 1) := by decide +kernel
theorem dX8_drape_2 : decode cX8_drape 2 = .ok (.invokevirtual 130, 3) := by decide +kernel
theorem dX8_drape_5 : decode cX8_drape 5 = .ok (.astore 5, 2) := by decide +kernel
theorem dX8_drape_7 : decode cX8_drape 7 = .ok (.aload_n 0, 1) := by decide +kernel
theorem dX8_drape_8 : decode cX8_drape 8 = .ok (.iload_n 3, 1) := by decide +kernel
theorem dX8_drape_9 : decode cX8_drape 9 = .ok (.invokevirtual 103, 3) := by decide +kernel
theorem dX8_drape_12 : decode cX8_drape 12 = .ok (.astore 6, 2) := by decide +kernel
theorem dX8_drape_14 : decode cX8_drape 14 = .ok (.aload 5, 2) := by decide +kernel
theorem dX8_drape_16 : decode cX8_drape 16 = .ok (.ifnull 29, 3) := by decide +kernel
theorem dX8_drape_19 : decode cX8_drape 19 = .ok (.aload 6, 2) := by decide +kernel
theorem dX8_drape_21 : decode cX8_drape 21 = .ok (.ifnull 24, 3) := by decide +kernel
theorem dX8_drape_24 : decode cX8_drape 24 = .ok (.iload_n 2, 1) := by decide +kernel
theorem dX8_drape_25 : decode cX8_drape 25 = .ok (.aload_n 0, 1) := by decide +kernel
theorem dX8_drape_26 : decode cX8_drape 26 = .ok (.getfield 13, 3) := by decide +kernel
theorem dX8_drape_29 : decode cX8_drape 29 = .ok (.invokestatic 97, 3) := by decide +kernel
theorem dX8_drape_32 : decode cX8_drape 32 = .ok (.ifCond .eq 13, 3) := by decide +kernel
theorem dX8_drape_35 : decode cX8_drape 35 = .ok (.iload 4, 2) := by decide +kernel
theorem dX8_drape_37 : decode cX8_drape 37 = .ok (.bipush 61, 2) := by decide +kernel
theorem dX8_drape_39 : decode cX8_drape 39 = .ok (.invokestatic 97, 3) := by decide +kernel
theorem dX8_drape_42 : decode cX8_drape 42 = .ok (.ifCond .ne 5, 3) := by decide +kernel
theorem dX8_drape_45 : decode cX8_drape 45 = .ok (.iconst (-1), 1) := by decide +kernel
theorem dX8_drape_46 : decode cX8_drape 46 = .ok (.ireturn, 1) := by decide +kernel
theorem dX8_drape_47 : decode cX8_drape 47 = .ok (.aload_n 0, 1) := by decide +kernel
theorem dX8_drape_48 : decode cX8_drape 48 = .ok (.getfield 61, 3) := by decide +kernel
theorem dX8_drape_51 : decode cX8_drape 51 = .ok (.aload_n 0, 1) := by decide +kernel
theorem dX8_drape_52 : decode cX8_drape 52 = .ok (.getfield 9, 3) := by decide +kernel
theorem dX8_drape_55 : decode cX8_drape 55 = .ok (.iload_n 2, 1) := by decide +kernel
theorem dX8_drape_56 : decode cX8_drape 56 = .ok (.aload 6, 2) := by decide +kernel
theorem dX8_drape_58 : decode cX8_drape 58 = .ok (.getfield 110, 3) := by decide +kernel
theorem dX8_drape_61 : decode cX8_drape 61 = .ok (.aload 6, 2) := by decide +kernel
theorem dX8_drape_63 : decode cX8_drape 63 = .ok (.getfield 134, 3) := by decide +kernel
theorem dX8_drape_66 : decode cX8_drape 66 = .ok (.invokevirtual 137, 3) := by decide +kernel
theorem dX8_drape_69 : decode cX8_drape 69 = .ok (.aload_n 0, 1) := by decide +kernel
theorem dX8_drape_70 : decode cX8_drape 70 = .ok (.getfield 54, 3) := by decide +kernel
theorem dX8_drape_73 : decode cX8_drape 73 = .ok (.aload 5, 2) := by decide +kernel
theorem dX8_drape_75 : decode cX8_drape 75 = .ok (.aload_n 0, 1) := by decide +kernel
theorem dX8_drape_76 : decode cX8_drape 76 = .ok (.getfield 61, 3) := by decide +kernel
theorem dX8_drape_79 : decode cX8_drape 79 = .ok (.iload 4, 2) := by decide +kernel
theorem dX8_drape_81 : decode cX8_drape 81 = .ok (.invokevirtual 141, 3) := by decide +kernel
theorem dX8_drape_84 : decode cX8_drape 84 = .ok (.aload_n 0, 1) := by decide +kernel
theorem dX8_drape_85 : decode cX8_drape 85 = .ok (.aload 6, 2) := by decide +kernel
theorem dX8_drape_87 : decode cX8_drape 87 = .ok (.putfield 82, 3) := by decide +kernel
theorem dX8_drape_90 : decode cX8_drape 90 = .ok (.aload_n 0, 1) := by decide +kernel
theorem dX8_drape_91 : decode cX8_drape 91 = .ok (.getfield 71, 3) := by decide +kernel
theorem dX8_drape_94 : decode cX8_drape 94 = .ok (.invokevirtual 145, 3) := by decide +kernel
theorem dX8_drape_97 : decode cX8_drape 97 = .ok (.aload_n 0, 1) := by decide +kernel
theorem dX8_drape_98 : decode cX8_drape 98 = .ok (.getfield 61, 3) := by decide +kernel
theorem dX8_drape_101 : decode cX8_drape 101 = .ok (.getfield 148, 3) := by decide +kernel
theorem dX8_drape_104 : decode cX8_drape 104 = .ok (.ifCond .ne 13, 3) := by decide +kernel
theorem dX8_drape_107 : decode cX8_drape 107 = .ok (.aload_n 0, 1) := by decide +kernel
theorem dX8_drape_108 : decode cX8_drape 108 = .ok (.getfield 61, 3) := by decide +kernel
theorem dX8_drape_111 : decode cX8_drape 111 = .ok (.getfield 151, 3) := by decide +kernel
theorem dX8_drape_114 : decode cX8_drape 114 = .ok (.goto 13, 3) := by decide +kernel
theorem dX8_drape_117 : decode cX8_drape 117 = .ok (.bipush (-10), 2) := by decide +kernel
theorem dX8_drape_119 : decode cX8_drape 119 = .ok (.aload_n 0, 1) := by decide +kernel
theorem dX8_drape_120 : decode cX8_drape 120 = .ok (.getfield 61, 3) := by decide +kernel
theorem dX8_drape_123 : decode cX8_drape 123 = .ok (.getfield 148, 3) := by decide +kernel
theorem dX8_drape_126 : decode cX8_drape 126 = .ok (.isub, 1) := by decide +kernel
theorem dX8_drape_127 : decode cX8_drape 127 = .ok (.ireturn, 1) := by decide +kernel
theorem dX8_shows_0 : decode cX8_shows 0 = .ok (.aload_n 0, 1) := by decide +kernel
theorem dX8_shows_1 : decode cX8_shows 1 = .ok (.getfield 82, 3) := by decide +kernel
theorem dX8_shows_4 : decode cX8_shows 4 = .ok (.ifnull 11, 3) := by decide +kernel
theorem dX8_shows_7 : decode cX8_shows 7 = .ok (.iload_n 1, 1) := by decide +kernel
theorem dX8_shows_8 : decode cX8_shows 8 = .ok (.iload_n 2, 1) := by decide +kernel
theorem dX8_shows_9 : decode cX8_shows 9 = .ok (.invokestatic 154, 3) := by decide +kernel
theorem dX8_shows_12 : decode cX8_shows 12 = .ok (.ifCond .ne 5, 3) := by decide +kernel
theorem dX8_shows_15 : decode cX8_shows 15 = .ok (.iconst (-1), 1) := by decide +kernel
theorem dX8_shows_16 : decode cX8_shows 16 = .ok (.ireturn, 1) := by decide +kernel
theorem dX8_shows_17 : decode cX8_shows 17 = .ok (.aload_n 0, 1) := by decide +kernel
theorem dX8_shows_18 : decode cX8_shows 18 = .ok (.getfield 61, 3) := by decide +kernel
theorem dX8_shows_21 : decode cX8_shows 21 = .ok (.getfield 157, 3) := by decide +kernel
theorem dX8_shows_24 : decode cX8_shows 24 = .ok (.aload_n 0, 1) := by decide +kernel
theorem dX8_shows_25 : decode cX8_shows 25 = .ok (.getfield 61, 3) := by decide +kernel
theorem dX8_shows_28 : decode cX8_shows 28 = .ok (.getfield 157, 3) := by decide +kernel
theorem dX8_shows_31 : decode cX8_shows 31 = .ok (.iload_n 1, 1) := by decide +kernel
theorem dX8_shows_32 : decode cX8_shows 32 = .ok (.iload_n 2, 1) := by decide +kernel
theorem dX8_shows_33 : decode cX8_shows 33 = .ok (.invokevirtual 161, 3) := by decide +kernel
theorem dX8_shows_36 : decode cX8_shows 36 = .ok (.iload_n 1, 1) := by decide +kernel
theorem dX8_shows_37 : decode cX8_shows 37 = .ok (.aload_n 0, 1) := by decide +kernel
theorem dX8_shows_38 : decode cX8_shows 38 = .ok (.getfield 82, 3) := by decide +kernel
theorem dX8_shows_41 : decode cX8_shows 41 = .ok (.invokevirtual 167, 3) := by decide +kernel
theorem dX8_shows_44 : decode cX8_shows 44 = .ok (.ireturn, 1) := by decide +kernel
theorem dX8_layers_0 : decode cX8_layers 0 = .ok (.aload_n 0, 1) := by decide +kernel
theorem dX8_layers_1 : decode cX8_layers 1 = .ok (.getfield 82, 3) := by decide +kernel
theorem dX8_layers_4 : decode cX8_layers 4 = .ok (.ifnull 11, 3) := by decide +kernel
theorem dX8_layers_7 : decode cX8_layers 7 = .ok (.iload_n 1, 1) := by decide +kernel
theorem dX8_layers_8 : decode cX8_layers 8 = .ok (.iload_n 2, 1) := by decide +kernel
theorem dX8_layers_9 : decode cX8_layers 9 = .ok (.invokestatic 154, 3) := by decide +kernel
theorem dX8_layers_12 : decode cX8_layers 12 = .ok (.ifCond .ne 5, 3) := by decide +kernel
theorem dX8_layers_15 : decode cX8_layers 15 = .ok (.iconst (-1), 1) := by decide +kernel
theorem dX8_layers_16 : decode cX8_layers 16 = .ok (.ireturn, 1) := by decide +kernel
theorem dX8_layers_17 : decode cX8_layers 17 = .ok (.aload_n 0, 1) := by decide +kernel
theorem dX8_layers_18 : decode cX8_layers 18 = .ok (.getfield 61, 3) := by decide +kernel
theorem dX8_layers_21 : decode cX8_layers 21 = .ok (.getfield 157, 3) := by decide +kernel
theorem dX8_layers_24 : decode cX8_layers 24 = .ok (.iload_n 1, 1) := by decide +kernel
theorem dX8_layers_25 : decode cX8_layers 25 = .ok (.iload_n 2, 1) := by decide +kernel
theorem dX8_layers_26 : decode cX8_layers 26 = .ok (.invokevirtual 171, 3) := by decide +kernel
theorem dX8_layers_29 : decode cX8_layers 29 = .ok (.ireturn, 1) := by decide +kernel
theorem dX8_layer_0 : decode cX8_layer 0 = .ok (.aload_n 0, 1) := by decide +kernel
theorem dX8_layer_1 : decode cX8_layer 1 = .ok (.getfield 82, 3) := by decide +kernel
theorem dX8_layer_4 : decode cX8_layer 4 = .ok (.ifnonnull 5, 3) := by decide +kernel
theorem dX8_layer_7 : decode cX8_layer 7 = .ok (.iconst (-1), 1) := by decide +kernel
theorem dX8_layer_8 : decode cX8_layer 8 = .ok (.ireturn, 1) := by decide +kernel
theorem dX8_layer_9 : decode cX8_layer 9 = .ok (.aload_n 0, 1) := by decide +kernel
theorem dX8_layer_10 : decode cX8_layer 10 = .ok (.getfield 61, 3) := by decide +kernel
theorem dX8_layer_13 : decode cX8_layer 13 = .ok (.getfield 157, 3) := by decide +kernel
theorem dX8_layer_16 : decode cX8_layer 16 = .ok (.iload_n 1, 1) := by decide +kernel
theorem dX8_layer_17 : decode cX8_layer 17 = .ok (.iload_n 2, 1) := by decide +kernel
theorem dX8_layer_18 : decode cX8_layer 18 = .ok (.invokevirtual 174, 3) := by decide +kernel
theorem dX8_layer_21 : decode cX8_layer 21 = .ok (.ireturn, 1) := by decide +kernel
theorem dX8_look_0 : decode cX8_look 0 = .ok (.aload_n 0, 1) := by decide +kernel
theorem dX8_look_1 : decode cX8_look 1 = .ok (.getfield 82, 3) := by decide +kernel
theorem dX8_look_4 : decode cX8_look 4 = .ok (.ifnonnull 5, 3) := by decide +kernel
theorem dX8_look_7 : decode cX8_look 7 = .ok (.iconst (-1), 1) := by decide +kernel
theorem dX8_look_8 : decode cX8_look 8 = .ok (.ireturn, 1) := by decide +kernel
theorem dX8_look_9 : decode cX8_look 9 = .ok (.aload_n 0, 1) := by decide +kernel
theorem dX8_look_10 : decode cX8_look 10 = .ok (.getfield 61, 3) := by decide +kernel
theorem dX8_look_13 : decode cX8_look 13 = .ok (.iload_n 1, 1) := by decide +kernel
theorem dX8_look_14 : decode cX8_look 14 = .ok (.invokevirtual 177, 3) := by decide +kernel
theorem dX8_look_17 : decode cX8_look 17 = .ok (.ireturn, 1) := by decide +kernel
theorem dX8_strength_0 : decode cX8_strength 0 = .ok (.aload_n 0, 1) := by decide +kernel
theorem dX8_strength_1 : decode cX8_strength 1 = .ok (.getfield 82, 3) := by decide +kernel
theorem dX8_strength_4 : decode cX8_strength 4 = .ok (.ifnull 17, 3) := by decide +kernel
theorem dX8_strength_7 : decode cX8_strength 7 = .ok (.iload_n 1, 1) := by decide +kernel
theorem dX8_strength_8 : decode cX8_strength 8 = .ok (.aload_n 0, 1) := by decide +kernel
theorem dX8_strength_9 : decode cX8_strength 9 = .ok (.getfield 61, 3) := by decide +kernel
theorem dX8_strength_12 : decode cX8_strength 12 = .ok (.getfield 151, 3) := by decide +kernel
theorem dX8_strength_15 : decode cX8_strength 15 = .ok (.invokestatic 97, 3) := by decide +kernel
theorem dX8_strength_18 : decode cX8_strength 18 = .ok (.ifCond .ne 5, 3) := by decide +kernel
theorem dX8_strength_21 : decode cX8_strength 21 = .ok (.iconst (-1), 1) := by decide +kernel
theorem dX8_strength_22 : decode cX8_strength 22 = .ok (.ireturn, 1) := by decide +kernel
theorem dX8_strength_23 : decode cX8_strength 23 = .ok (.aload_n 0, 1) := by decide +kernel
theorem dX8_strength_24 : decode cX8_strength 24 = .ok (.getfield 71, 3) := by decide +kernel
theorem dX8_strength_27 : decode cX8_strength 27 = .ok (.aload_n 0, 1) := by decide +kernel
theorem dX8_strength_28 : decode cX8_strength 28 = .ok (.getfield 61, 3) := by decide +kernel
theorem dX8_strength_31 : decode cX8_strength 31 = .ok (.getfield 157, 3) := by decide +kernel
theorem dX8_strength_34 : decode cX8_strength 34 = .ok (.iload_n 1, 1) := by decide +kernel
theorem dX8_strength_35 : decode cX8_strength 35 = .ok (.invokevirtual 180, 3) := by decide +kernel
theorem dX8_strength_38 : decode cX8_strength 38 = .ok (.ireturn, 1) := by decide +kernel
theorem dX8_stretch_0 : decode cX8_stretch 0 = .ok (.iload_n 1, 1) := by decide +kernel
theorem dX8_stretch_1 : decode cX8_stretch 1 = .ok (.bipush 6, 2) := by decide +kernel
theorem dX8_stretch_3 : decode cX8_stretch 3 = .ok (.invokestatic 97, 3) := by decide +kernel
theorem dX8_stretch_6 : decode cX8_stretch 6 = .ok (.ifCond .eq 21, 3) := by decide +kernel
theorem dX8_stretch_9 : decode cX8_stretch 9 = .ok (.iload_n 2, 1) := by decide +kernel
theorem dX8_stretch_10 : decode cX8_stretch 10 = .ok (.bipush 8, 2) := by decide +kernel
theorem dX8_stretch_12 : decode cX8_stretch 12 = .ok (.invokestatic 97, 3) := by decide +kernel
theorem dX8_stretch_15 : decode cX8_stretch 15 = .ok (.ifCond .eq 12, 3) := by decide +kernel
theorem dX8_stretch_18 : decode cX8_stretch 18 = .ok (.iload_n 3, 1) := by decide +kernel
theorem dX8_stretch_19 : decode cX8_stretch 19 = .ok (.bipush 10, 2) := by decide +kernel
theorem dX8_stretch_21 : decode cX8_stretch 21 = .ok (.invokestatic 97, 3) := by decide +kernel
theorem dX8_stretch_24 : decode cX8_stretch 24 = .ok (.ifCond .ne 5, 3) := by decide +kernel
theorem dX8_stretch_27 : decode cX8_stretch 27 = .ok (.iconst 0, 1) := by decide +kernel
theorem dX8_stretch_28 : decode cX8_stretch 28 = .ok (.ireturn, 1) := by decide +kernel
theorem dX8_stretch_29 : decode cX8_stretch 29 = .ok (.aload_n 0, 1) := by decide +kernel
theorem dX8_stretch_30 : decode cX8_stretch 30 = .ok (.getfield 41, 3) := by decide +kernel
theorem dX8_stretch_33 : decode cX8_stretch 33 = .ok (.iload_n 1, 1) := by decide +kernel
theorem dX8_stretch_34 : decode cX8_stretch 34 = .ok (.bipush 8, 2) := by decide +kernel
theorem dX8_stretch_36 : decode cX8_stretch 36 = .ok (.imul, 1) := by decide +kernel
theorem dX8_stretch_37 : decode cX8_stretch 37 = .ok (.iload_n 2, 1) := by decide +kernel
theorem dX8_stretch_38 : decode cX8_stretch 38 = .ok (.iadd, 1) := by decide +kernel
theorem dX8_stretch_39 : decode cX8_stretch 39 = .ok (.iload_n 3, 1) := by decide +kernel
theorem dX8_stretch_40 : decode cX8_stretch 40 = .ok (.iastore, 1) := by decide +kernel
theorem dX8_stretch_41 : decode cX8_stretch 41 = .ok (.iconst 1, 1) := by decide +kernel
theorem dX8_stretch_42 : decode cX8_stretch 42 = .ok (.ireturn, 1) := by decide +kernel
theorem dX8_pull_0 : decode cX8_pull 0 = .ok (.aload_n 0, 1) := by decide +kernel
theorem dX8_pull_1 : decode cX8_pull 1 = .ok (.getfield 82, 3) := by decide +kernel
theorem dX8_pull_4 : decode cX8_pull 4 = .ok (.ifnull 26, 3) := by decide +kernel
theorem dX8_pull_7 : decode cX8_pull 7 = .ok (.iload_n 1, 1) := by decide +kernel
theorem dX8_pull_8 : decode cX8_pull 8 = .ok (.bipush 6, 2) := by decide +kernel
theorem dX8_pull_10 : decode cX8_pull 10 = .ok (.invokestatic 97, 3) := by decide +kernel
theorem dX8_pull_13 : decode cX8_pull 13 = .ok (.ifCond .eq 17, 3) := by decide +kernel
theorem dX8_pull_16 : decode cX8_pull 16 = .ok (.iload_n 2, 1) := by decide +kernel
theorem dX8_pull_17 : decode cX8_pull 17 = .ok (.aload_n 0, 1) := by decide +kernel
theorem dX8_pull_18 : decode cX8_pull 18 = .ok (.getfield 61, 3) := by decide +kernel
theorem dX8_pull_21 : decode cX8_pull 21 = .ok (.getfield 151, 3) := by decide +kernel
theorem dX8_pull_24 : decode cX8_pull 24 = .ok (.invokestatic 97, 3) := by decide +kernel
theorem dX8_pull_27 : decode cX8_pull 27 = .ok (.ifCond .ne 5, 3) := by decide +kernel
theorem dX8_pull_30 : decode cX8_pull 30 = .ok (.iconst (-1), 1) := by decide +kernel
theorem dX8_pull_31 : decode cX8_pull 31 = .ok (.ireturn, 1) := by decide +kernel
theorem dX8_pull_32 : decode cX8_pull 32 = .ok (.aload_n 0, 1) := by decide +kernel
theorem dX8_pull_33 : decode cX8_pull 33 = .ok (.getfield 61, 3) := by decide +kernel
theorem dX8_pull_36 : decode cX8_pull 36 = .ok (.getfield 157, 3) := by decide +kernel
theorem dX8_pull_39 : decode cX8_pull 39 = .ok (.astore_n 3, 1) := by decide +kernel
theorem dX8_pull_40 : decode cX8_pull 40 = .ok (.aload_n 3, 1) := by decide +kernel
theorem dX8_pull_41 : decode cX8_pull 41 = .ok (.iload_n 2, 1) := by decide +kernel
theorem dX8_pull_42 : decode cX8_pull 42 = .ok (.invokevirtual 184, 3) := by decide +kernel
theorem dX8_pull_45 : decode cX8_pull 45 = .ok (.istore 4, 2) := by decide +kernel
theorem dX8_pull_47 : decode cX8_pull 47 = .ok (.aload_n 3, 1) := by decide +kernel
theorem dX8_pull_48 : decode cX8_pull 48 = .ok (.aload_n 3, 1) := by decide +kernel
theorem dX8_pull_49 : decode cX8_pull 49 = .ok (.iload 4, 2) := by decide +kernel
theorem dX8_pull_51 : decode cX8_pull 51 = .ok (.invokevirtual 187, 3) := by decide +kernel
theorem dX8_pull_54 : decode cX8_pull 54 = .ok (.iload 4, 2) := by decide +kernel
theorem dX8_pull_56 : decode cX8_pull 56 = .ok (.aload_n 0, 1) := by decide +kernel
theorem dX8_pull_57 : decode cX8_pull 57 = .ok (.getfield 41, 3) := by decide +kernel
theorem dX8_pull_60 : decode cX8_pull 60 = .ok (.iload_n 1, 1) := by decide +kernel
theorem dX8_pull_61 : decode cX8_pull 61 = .ok (.bipush 8, 2) := by decide +kernel
theorem dX8_pull_63 : decode cX8_pull 63 = .ok (.imul, 1) := by decide +kernel
theorem dX8_pull_64 : decode cX8_pull 64 = .ok (.invokevirtual 190, 3) := by decide +kernel
theorem dX8_pull_67 : decode cX8_pull 67 = .ok (.ireturn, 1) := by decide +kernel
theorem dX8_moves_0 : decode cX8_moves 0 = .ok (.aload_n 0, 1) := by decide +kernel
theorem dX8_moves_1 : decode cX8_moves 1 = .ok (.getfield 82, 3) := by decide +kernel
theorem dX8_moves_4 : decode cX8_moves 4 = .ok (.ifnull 22, 3) := by decide +kernel
theorem dX8_moves_7 : decode cX8_moves 7 = .ok (.iload_n 1, 1) := by decide +kernel
theorem dX8_moves_8 : decode cX8_moves 8 = .ok (.iconst 1, 1) := by decide +kernel
theorem dX8_moves_9 : decode cX8_moves 9 = .ok (.if_icmp .lt 17, 3) := by decide +kernel
theorem dX8_moves_12 : decode cX8_moves 12 = .ok (.iload_n 1, 1) := by decide +kernel
theorem dX8_moves_13 : decode cX8_moves 13 = .ok (.bipush 6, 2) := by decide +kernel
theorem dX8_moves_15 : decode cX8_moves 15 = .ok (.if_icmp .gt 11, 3) := by decide +kernel
theorem dX8_moves_18 : decode cX8_moves 18 = .ok (.iload_n 1, 1) := by decide +kernel
theorem dX8_moves_19 : decode cX8_moves 19 = .ok (.aload_n 0, 1) := by decide +kernel
theorem dX8_moves_20 : decode cX8_moves 20 = .ok (.getfield 38, 3) := by decide +kernel
theorem dX8_moves_23 : decode cX8_moves 23 = .ok (.if_icmp .le 5, 3) := by decide +kernel
theorem dX8_moves_26 : decode cX8_moves 26 = .ok (.iconst (-1), 1) := by decide +kernel
theorem dX8_moves_27 : decode cX8_moves 27 = .ok (.ireturn, 1) := by decide +kernel
theorem dX8_moves_28 : decode cX8_moves 28 = .ok (.aload_n 0, 1) := by decide +kernel
theorem dX8_moves_29 : decode cX8_moves 29 = .ok (.iconst 0, 1) := by decide +kernel
theorem dX8_moves_30 : decode cX8_moves 30 = .ok (.putfield 38, 3) := by decide +kernel
theorem dX8_moves_33 : decode cX8_moves 33 = .ok (.aload_n 0, 1) := by decide +kernel
theorem dX8_moves_34 : decode cX8_moves 34 = .ok (.iload_n 1, 1) := by decide +kernel
theorem dX8_moves_35 : decode cX8_moves 35 = .ok (.bipush 6, 2) := by decide +kernel
theorem dX8_moves_37 : decode cX8_moves 37 = .ok (.invokevirtual 194, 3) := by decide +kernel
theorem dX8_moves_40 : decode cX8_moves 40 = .ok (.ifCond .ne 5, 3) := by decide +kernel
theorem dX8_moves_43 : decode cX8_moves 43 = .ok (.iconst (-1), 1) := by decide +kernel
theorem dX8_moves_44 : decode cX8_moves 44 = .ok (.ireturn, 1) := by decide +kernel
theorem dX8_moves_45 : decode cX8_moves 45 = .ok (.aload_n 0, 1) := by decide +kernel
theorem dX8_moves_46 : decode cX8_moves 46 = .ok (.getfield 71, 3) := by decide +kernel
theorem dX8_moves_49 : decode cX8_moves 49 = .ok (.invokevirtual 145, 3) := by decide +kernel
theorem dX8_moves_52 : decode cX8_moves 52 = .ok (.iconst 0, 1) := by decide +kernel
theorem dX8_moves_53 : decode cX8_moves 53 = .ok (.istore_n 2, 1) := by decide +kernel
theorem dX8_moves_54 : decode cX8_moves 54 = .ok (.iload_n 2, 1) := by decide +kernel
theorem dX8_moves_55 : decode cX8_moves 55 = .ok (.iload_n 1, 1) := by decide +kernel
theorem dX8_moves_56 : decode cX8_moves 56 = .ok (.if_icmp .ge 35, 3) := by decide +kernel
theorem dX8_moves_59 : decode cX8_moves 59 = .ok (.iload_n 2, 1) := by decide +kernel
theorem dX8_moves_60 : decode cX8_moves 60 = .ok (.aload_n 0, 1) := by decide +kernel
theorem dX8_moves_61 : decode cX8_moves 61 = .ok (.getfield 35, 3) := by decide +kernel
theorem dX8_moves_64 : decode cX8_moves 64 = .ok (.arraylength, 1) := by decide +kernel
theorem dX8_moves_65 : decode cX8_moves 65 = .ok (.if_icmp .ge 26, 3) := by decide +kernel
theorem dX8_moves_68 : decode cX8_moves 68 = .ok (.aload_n 0, 1) := by decide +kernel
theorem dX8_moves_69 : decode cX8_moves 69 = .ok (.getfield 71, 3) := by decide +kernel
theorem dX8_moves_72 : decode cX8_moves 72 = .ok (.aload_n 0, 1) := by decide +kernel
theorem dX8_moves_73 : decode cX8_moves 73 = .ok (.getfield 41, 3) := by decide +kernel
theorem dX8_moves_76 : decode cX8_moves 76 = .ok (.aload_n 0, 1) := by decide +kernel
theorem dX8_moves_77 : decode cX8_moves 77 = .ok (.getfield 35, 3) := by decide +kernel
theorem dX8_moves_80 : decode cX8_moves 80 = .ok (.iload_n 2, 1) := by decide +kernel
theorem dX8_moves_81 : decode cX8_moves 81 = .ok (.iaload, 1) := by decide +kernel
theorem dX8_moves_82 : decode cX8_moves 82 = .ok (.invokevirtual 197, 3) := by decide +kernel
theorem dX8_moves_85 : decode cX8_moves 85 = .ok (.iinc 2 1, 3) := by decide +kernel
theorem dX8_moves_88 : decode cX8_moves 88 = .ok (.goto (-34), 3) := by decide +kernel
theorem dX8_moves_91 : decode cX8_moves 91 = .ok (.aload_n 0, 1) := by decide +kernel
theorem dX8_moves_92 : decode cX8_moves 92 = .ok (.getfield 71, 3) := by decide +kernel
theorem dX8_moves_95 : decode cX8_moves 95 = .ok (.aload_n 0, 1) := by decide +kernel
theorem dX8_moves_96 : decode cX8_moves 96 = .ok (.getfield 61, 3) := by decide +kernel
theorem dX8_moves_99 : decode cX8_moves 99 = .ok (.getfield 157, 3) := by decide +kernel
theorem dX8_moves_102 : decode cX8_moves 102 = .ok (.iconst (-1), 1) := by decide +kernel
theorem dX8_moves_103 : decode cX8_moves 103 = .ok (.invokevirtual 201, 3) := by decide +kernel
theorem dX8_moves_106 : decode cX8_moves 106 = .ok (.ireturn, 1) := by decide +kernel
section
variable {d : Nat} {M : gM} {Z : Option Value → gM → Prop} {a0 a1 a2 a3 a4 a5 a6 a7 a8 a9 a10 a11 a12 : Option Value} {v s0 s1 s2 s3 s4 s5 s6 s7 s8 s9 s10 s11 : Value} {x y w : Int32} {o b u1 u2 : Nat}
/-! 86: X8_body (IIIIIIII)I -/
theorem gd86 {pc : Nat} {r : Except _ _} (h : decode cX8_body pc = r) : decode (gby 86) pc = r := h
theorem z86_0 : Run d 86 0 [a0, some (.int x), a2, a3, a4, a5, a6, a7, a8, a9, a10] [] M 0 0 Z ↔ Run d 86 1 [a0, some (.int x), a2, a3, a4, a5, a6, a7, a8, a9, a10] [.int x] M 0 0 Z := R_local (gd86 dX8_body_0) rfl rfl rfl
theorem z86_1 : Run d 86 1 [a0, a1, a2, a3, a4, a5, a6, a7, a8, a9, a10] [s0] M 0 0 Z ↔ Call d 111 [s0] M (fun r M1 => Run d 86 4 [a0, a1, a2, a3, a4, a5, a6, a7, a8, a9, a10] (r.toList ++ []) M1 0 0 Z) := R_call (gd86 dX8_body_1) rfl rfl rfl rfl rfl rfl gc_8_86 rfl (by decide) (Nat.le_of_ble_eq_true rfl) (Nat.le_of_ble_eq_true rfl) rfl rfl rfl (Nat.le_of_ble_eq_true rfl) (Nat.le_of_ble_eq_true rfl)
theorem z86_4 : Run d 86 4 [a0, a1, a2, a3, a4, a5, a6, a7, a8, a9, a10] [.int x] M 0 0 Z ↔ (x = 0 → Run d 86 33 [a0, a1, a2, a3, a4, a5, a6, a7, a8, a9, a10] [] M 0 0 Z) ∧ (¬ (x = 0) → Run d 86 7 [a0, a1, a2, a3, a4, a5, a6, a7, a8, a9, a10] [] M 0 0 Z) := R_if (gd86 dX8_body_4) (show gTgt 4 29 = some 33 by decide) gIf_eq
theorem z86_7 : Run d 86 7 [a0, a1, some (.int x), a3, a4, a5, a6, a7, a8, a9, a10] [] M 0 0 Z ↔ Run d 86 8 [a0, a1, some (.int x), a3, a4, a5, a6, a7, a8, a9, a10] [.int x] M 0 0 Z := R_local (gd86 dX8_body_7) rfl rfl rfl
theorem z86_8 : Run d 86 8 [a0, a1, a2, a3, a4, a5, a6, a7, a8, a9, a10] [s0] M 0 0 Z ↔ Call d 111 [s0] M (fun r M1 => Run d 86 11 [a0, a1, a2, a3, a4, a5, a6, a7, a8, a9, a10] (r.toList ++ []) M1 0 0 Z) := R_call (gd86 dX8_body_8) rfl rfl rfl rfl rfl rfl gc_8_86 rfl (by decide) (Nat.le_of_ble_eq_true rfl) (Nat.le_of_ble_eq_true rfl) rfl rfl rfl (Nat.le_of_ble_eq_true rfl) (Nat.le_of_ble_eq_true rfl)
theorem z86_11 : Run d 86 11 [a0, a1, a2, a3, a4, a5, a6, a7, a8, a9, a10] [.int x] M 0 0 Z ↔ (x = 0 → Run d 86 33 [a0, a1, a2, a3, a4, a5, a6, a7, a8, a9, a10] [] M 0 0 Z) ∧ (¬ (x = 0) → Run d 86 14 [a0, a1, a2, a3, a4, a5, a6, a7, a8, a9, a10] [] M 0 0 Z) := R_if (gd86 dX8_body_11) (show gTgt 11 22 = some 33 by decide) gIf_eq
theorem z86_14 : Run d 86 14 [a0, a1, a2, some (.int x), a4, a5, a6, a7, a8, a9, a10] [] M 0 0 Z ↔ Run d 86 15 [a0, a1, a2, some (.int x), a4, a5, a6, a7, a8, a9, a10] [.int x] M 0 0 Z := R_local (gd86 dX8_body_14) rfl rfl rfl
theorem z86_15 : Run d 86 15 [a0, a1, a2, a3, a4, a5, a6, a7, a8, a9, a10] [s0] M 0 0 Z ↔ Call d 111 [s0] M (fun r M1 => Run d 86 18 [a0, a1, a2, a3, a4, a5, a6, a7, a8, a9, a10] (r.toList ++ []) M1 0 0 Z) := R_call (gd86 dX8_body_15) rfl rfl rfl rfl rfl rfl gc_8_86 rfl (by decide) (Nat.le_of_ble_eq_true rfl) (Nat.le_of_ble_eq_true rfl) rfl rfl rfl (Nat.le_of_ble_eq_true rfl) (Nat.le_of_ble_eq_true rfl)
theorem z86_18 : Run d 86 18 [a0, a1, a2, a3, a4, a5, a6, a7, a8, a9, a10] [.int x] M 0 0 Z ↔ (x = 0 → Run d 86 33 [a0, a1, a2, a3, a4, a5, a6, a7, a8, a9, a10] [] M 0 0 Z) ∧ (¬ (x = 0) → Run d 86 21 [a0, a1, a2, a3, a4, a5, a6, a7, a8, a9, a10] [] M 0 0 Z) := R_if (gd86 dX8_body_18) (show gTgt 18 15 = some 33 by decide) gIf_eq
theorem z86_21 : Run d 86 21 [a0, a1, a2, a3, some (.int x), a5, a6, a7, a8, a9, a10] [] M 0 0 Z ↔ Run d 86 23 [a0, a1, a2, a3, some (.int x), a5, a6, a7, a8, a9, a10] [.int x] M 0 0 Z := R_local (gd86 dX8_body_21) rfl rfl rfl
theorem z86_23 : Run d 86 23 [a0, a1, a2, a3, a4, a5, a6, a7, a8, a9, a10] [s0] M 0 0 Z ↔ Call d 111 [s0] M (fun r M1 => Run d 86 26 [a0, a1, a2, a3, a4, a5, a6, a7, a8, a9, a10] (r.toList ++ []) M1 0 0 Z) := R_call (gd86 dX8_body_23) rfl rfl rfl rfl rfl rfl gc_8_86 rfl (by decide) (Nat.le_of_ble_eq_true rfl) (Nat.le_of_ble_eq_true rfl) rfl rfl rfl (Nat.le_of_ble_eq_true rfl) (Nat.le_of_ble_eq_true rfl)
theorem z86_26 : Run d 86 26 [a0, a1, a2, a3, a4, a5, a6, a7, a8, a9, a10] [.int x] M 0 0 Z ↔ (x = 0 → Run d 86 33 [a0, a1, a2, a3, a4, a5, a6, a7, a8, a9, a10] [] M 0 0 Z) ∧ (¬ (x = 0) → Run d 86 29 [a0, a1, a2, a3, a4, a5, a6, a7, a8, a9, a10] [] M 0 0 Z) := R_if (gd86 dX8_body_26) (show gTgt 26 7 = some 33 by decide) gIf_eq
theorem z86_29 : Run d 86 29 [a0, a1, a2, a3, a4, a5, a6, a7, a8, a9, a10] [] M 0 0 Z ↔ Run d 86 30 [a0, a1, a2, a3, a4, a5, a6, a7, a8, a9, a10] [.int 1] M 0 0 Z := R_iconst (gd86 dX8_body_29) (by decide)
theorem z86_30 : Run d 86 30 [a0, a1, a2, a3, a4, a5, a6, a7, a8, a9, a10] [s0] M 0 0 Z ↔ Run d 86 34 [a0, a1, a2, a3, a4, a5, a6, a7, a8, a9, a10] [s0] M 0 0 Z := R_goto (gd86 dX8_body_30) (show gTgt 30 4 = some 34 by decide)
theorem z86_33 : Run d 86 33 [a0, a1, a2, a3, a4, a5, a6, a7, a8, a9, a10] [] M 0 0 Z ↔ Run d 86 34 [a0, a1, a2, a3, a4, a5, a6, a7, a8, a9, a10] [.int 0] M 0 0 Z := R_iconst (gd86 dX8_body_33) (by decide)
theorem z86_34 : Run d 86 34 [a0, a1, a2, a3, a4, a5, a6, a7, a8, a9, a10] [.int x] M 0 0 Z ↔ Run d 86 36 [a0, a1, a2, a3, a4, a5, a6, a7, a8, some (.int x), a10] [] M 0 0 Z := R_local (gd86 dX8_body_34) rfl rfl rfl
theorem z86_36 : Run d 86 36 [a0, a1, a2, a3, a4, some (.int x), a6, a7, a8, a9, a10] [] M 0 0 Z ↔ Run d 86 38 [a0, a1, a2, a3, a4, some (.int x), a6, a7, a8, a9, a10] [.int x] M 0 0 Z := R_local (gd86 dX8_body_36) rfl rfl rfl
theorem z86_38 : Run d 86 38 [a0, a1, a2, a3, a4, a5, a6, a7, a8, a9, a10] [s0] M 0 0 Z ↔ Call d 111 [s0] M (fun r M1 => Run d 86 41 [a0, a1, a2, a3, a4, a5, a6, a7, a8, a9, a10] (r.toList ++ []) M1 0 0 Z) := R_call (gd86 dX8_body_38) rfl rfl rfl rfl rfl rfl gc_8_86 rfl (by decide) (Nat.le_of_ble_eq_true rfl) (Nat.le_of_ble_eq_true rfl) rfl rfl rfl (Nat.le_of_ble_eq_true rfl) (Nat.le_of_ble_eq_true rfl)
theorem z86_41 : Run d 86 41 [a0, a1, a2, a3, a4, a5, a6, a7, a8, a9, a10] [.int x] M 0 0 Z ↔ (x = 0 → Run d 86 72 [a0, a1, a2, a3, a4, a5, a6, a7, a8, a9, a10] [] M 0 0 Z) ∧ (¬ (x = 0) → Run d 86 44 [a0, a1, a2, a3, a4, a5, a6, a7, a8, a9, a10] [] M 0 0 Z) := R_if (gd86 dX8_body_41) (show gTgt 41 31 = some 72 by decide) gIf_eq
theorem z86_44 : Run d 86 44 [a0, a1, a2, a3, a4, a5, some (.int x), a7, a8, a9, a10] [] M 0 0 Z ↔ Run d 86 46 [a0, a1, a2, a3, a4, a5, some (.int x), a7, a8, a9, a10] [.int x] M 0 0 Z := R_local (gd86 dX8_body_44) rfl rfl rfl
theorem z86_46 : Run d 86 46 [a0, a1, a2, a3, a4, a5, a6, a7, a8, a9, a10] [s0] M 0 0 Z ↔ Call d 111 [s0] M (fun r M1 => Run d 86 49 [a0, a1, a2, a3, a4, a5, a6, a7, a8, a9, a10] (r.toList ++ []) M1 0 0 Z) := R_call (gd86 dX8_body_46) rfl rfl rfl rfl rfl rfl gc_8_86 rfl (by decide) (Nat.le_of_ble_eq_true rfl) (Nat.le_of_ble_eq_true rfl) rfl rfl rfl (Nat.le_of_ble_eq_true rfl) (Nat.le_of_ble_eq_true rfl)
theorem z86_49 : Run d 86 49 [a0, a1, a2, a3, a4, a5, a6, a7, a8, a9, a10] [.int x] M 0 0 Z ↔ (x = 0 → Run d 86 72 [a0, a1, a2, a3, a4, a5, a6, a7, a8, a9, a10] [] M 0 0 Z) ∧ (¬ (x = 0) → Run d 86 52 [a0, a1, a2, a3, a4, a5, a6, a7, a8, a9, a10] [] M 0 0 Z) := R_if (gd86 dX8_body_49) (show gTgt 49 23 = some 72 by decide) gIf_eq
theorem z86_52 : Run d 86 52 [a0, a1, a2, a3, a4, a5, a6, some (.int x), a8, a9, a10] [] M 0 0 Z ↔ Run d 86 54 [a0, a1, a2, a3, a4, a5, a6, some (.int x), a8, a9, a10] [.int x] M 0 0 Z := R_local (gd86 dX8_body_52) rfl rfl rfl
theorem z86_54 : Run d 86 54 [a0, a1, a2, a3, a4, a5, a6, a7, a8, a9, a10] [s0] M 0 0 Z ↔ Call d 111 [s0] M (fun r M1 => Run d 86 57 [a0, a1, a2, a3, a4, a5, a6, a7, a8, a9, a10] (r.toList ++ []) M1 0 0 Z) := R_call (gd86 dX8_body_54) rfl rfl rfl rfl rfl rfl gc_8_86 rfl (by decide) (Nat.le_of_ble_eq_true rfl) (Nat.le_of_ble_eq_true rfl) rfl rfl rfl (Nat.le_of_ble_eq_true rfl) (Nat.le_of_ble_eq_true rfl)
theorem z86_57 : Run d 86 57 [a0, a1, a2, a3, a4, a5, a6, a7, a8, a9, a10] [.int x] M 0 0 Z ↔ (x = 0 → Run d 86 72 [a0, a1, a2, a3, a4, a5, a6, a7, a8, a9, a10] [] M 0 0 Z) ∧ (¬ (x = 0) → Run d 86 60 [a0, a1, a2, a3, a4, a5, a6, a7, a8, a9, a10] [] M 0 0 Z) := R_if (gd86 dX8_body_57) (show gTgt 57 15 = some 72 by decide) gIf_eq
theorem z86_60 : Run d 86 60 [a0, a1, a2, a3, a4, a5, a6, a7, some (.int x), a9, a10] [] M 0 0 Z ↔ Run d 86 62 [a0, a1, a2, a3, a4, a5, a6, a7, some (.int x), a9, a10] [.int x] M 0 0 Z := R_local (gd86 dX8_body_60) rfl rfl rfl
theorem z86_62 : Run d 86 62 [a0, a1, a2, a3, a4, a5, a6, a7, a8, a9, a10] [s0] M 0 0 Z ↔ Call d 111 [s0] M (fun r M1 => Run d 86 65 [a0, a1, a2, a3, a4, a5, a6, a7, a8, a9, a10] (r.toList ++ []) M1 0 0 Z) := R_call (gd86 dX8_body_62) rfl rfl rfl rfl rfl rfl gc_8_86 rfl (by decide) (Nat.le_of_ble_eq_true rfl) (Nat.le_of_ble_eq_true rfl) rfl rfl rfl (Nat.le_of_ble_eq_true rfl) (Nat.le_of_ble_eq_true rfl)
theorem z86_65 : Run d 86 65 [a0, a1, a2, a3, a4, a5, a6, a7, a8, a9, a10] [.int x] M 0 0 Z ↔ (x = 0 → Run d 86 72 [a0, a1, a2, a3, a4, a5, a6, a7, a8, a9, a10] [] M 0 0 Z) ∧ (¬ (x = 0) → Run d 86 68 [a0, a1, a2, a3, a4, a5, a6, a7, a8, a9, a10] [] M 0 0 Z) := R_if (gd86 dX8_body_65) (show gTgt 65 7 = some 72 by decide) gIf_eq
theorem z86_68 : Run d 86 68 [a0, a1, a2, a3, a4, a5, a6, a7, a8, a9, a10] [] M 0 0 Z ↔ Run d 86 69 [a0, a1, a2, a3, a4, a5, a6, a7, a8, a9, a10] [.int 1] M 0 0 Z := R_iconst (gd86 dX8_body_68) (by decide)
theorem z86_69 : Run d 86 69 [a0, a1, a2, a3, a4, a5, a6, a7, a8, a9, a10] [s0] M 0 0 Z ↔ Run d 86 73 [a0, a1, a2, a3, a4, a5, a6, a7, a8, a9, a10] [s0] M 0 0 Z := R_goto (gd86 dX8_body_69) (show gTgt 69 4 = some 73 by decide)
theorem z86_72 : Run d 86 72 [a0, a1, a2, a3, a4, a5, a6, a7, a8, a9, a10] [] M 0 0 Z ↔ Run d 86 73 [a0, a1, a2, a3, a4, a5, a6, a7, a8, a9, a10] [.int 0] M 0 0 Z := R_iconst (gd86 dX8_body_72) (by decide)
theorem z86_73 : Run d 86 73 [a0, a1, a2, a3, a4, a5, a6, a7, a8, a9, a10] [.int x] M 0 0 Z ↔ Run d 86 75 [a0, a1, a2, a3, a4, a5, a6, a7, a8, a9, some (.int x)] [] M 0 0 Z := R_local (gd86 dX8_body_73) rfl rfl rfl
theorem z86_75 : Run d 86 75 [a0, a1, a2, a3, a4, a5, a6, a7, a8, some (.int x), a10] [] M 0 0 Z ↔ Run d 86 77 [a0, a1, a2, a3, a4, a5, a6, a7, a8, some (.int x), a10] [.int x] M 0 0 Z := R_local (gd86 dX8_body_75) rfl rfl rfl
theorem z86_77 : Run d 86 77 [a0, a1, a2, a3, a4, a5, a6, a7, a8, a9, a10] [.int x] M 0 0 Z ↔ (x = 0 → Run d 86 94 [a0, a1, a2, a3, a4, a5, a6, a7, a8, a9, a10] [] M 0 0 Z) ∧ (¬ (x = 0) → Run d 86 80 [a0, a1, a2, a3, a4, a5, a6, a7, a8, a9, a10] [] M 0 0 Z) := R_if (gd86 dX8_body_77) (show gTgt 77 17 = some 94 by decide) gIf_eq
theorem z86_80 : Run d 86 80 [a0, a1, a2, a3, a4, a5, a6, a7, a8, a9, some (.int x)] [] M 0 0 Z ↔ Run d 86 82 [a0, a1, a2, a3, a4, a5, a6, a7, a8, a9, some (.int x)] [.int x] M 0 0 Z := R_local (gd86 dX8_body_80) rfl rfl rfl
theorem z86_82 : Run d 86 82 [a0, a1, a2, a3, a4, a5, a6, a7, a8, a9, a10] [.int x] M 0 0 Z ↔ (x = 0 → Run d 86 94 [a0, a1, a2, a3, a4, a5, a6, a7, a8, a9, a10] [] M 0 0 Z) ∧ (¬ (x = 0) → Run d 86 85 [a0, a1, a2, a3, a4, a5, a6, a7, a8, a9, a10] [] M 0 0 Z) := R_if (gd86 dX8_body_82) (show gTgt 82 12 = some 94 by decide) gIf_eq
theorem z86_85 : Run d 86 85 [some (.ref o), a1, a2, a3, a4, a5, a6, a7, a8, a9, a10] [] M 0 0 Z ↔ Run d 86 86 [some (.ref o), a1, a2, a3, a4, a5, a6, a7, a8, a9, a10] [.ref o] M 0 0 Z := R_local (gd86 dX8_body_85) rfl rfl rfl
theorem z86_86 : Run d 86 86 [a0, a1, a2, a3, a4, a5, a6, a7, a8, a9, a10] [.ref o] M 0 0 Z ↔ gObj M o 8 ∧ Run d 86 89 [a0, a1, a2, a3, a4, a5, a6, a7, a8, a9, a10] [.int (M.1 o 1)] M 0 0 Z := R_getI (gd86 dX8_body_86) rfl gf_8_13 rfl
theorem z86_89 : Run d 86 89 [a0, a1, a2, a3, a4, a5, a6, a7, a8, a9, a10] [s0] M 0 0 Z ↔ Run d 86 91 [a0, a1, a2, a3, a4, a5, a6, a7, a8, a9, a10] [.int 6, s0] M 0 0 Z := R_bipush (gd86 dX8_body_89) (by decide)
theorem z86_91 : Run d 86 91 [a0, a1, a2, a3, a4, a5, a6, a7, a8, a9, a10] [.int y, .int x] M 0 0 Z ↔ (x < y → Run d 86 96 [a0, a1, a2, a3, a4, a5, a6, a7, a8, a9, a10] [] M 0 0 Z) ∧ (¬ (x < y) → Run d 86 94 [a0, a1, a2, a3, a4, a5, a6, a7, a8, a9, a10] [] M 0 0 Z) := R_icmp (gd86 dX8_body_91) (show gTgt 91 5 = some 96 by decide) gIf_lt
theorem z86_94 : Run d 86 94 [a0, a1, a2, a3, a4, a5, a6, a7, a8, a9, a10] [] M 0 0 Z ↔ Run d 86 95 [a0, a1, a2, a3, a4, a5, a6, a7, a8, a9, a10] [.int (-1)] M 0 0 Z := R_iconst (gd86 dX8_body_94) (by decide)
theorem z86_95 : Run d 86 95 [a0, a1, a2, a3, a4, a5, a6, a7, a8, a9, a10] [.int x] M 0 0 Z ↔ Z (some (.int x)) M := R_iret (gd86 dX8_body_95) rfl
theorem z86_96 : Run d 86 96 [some (.ref o), a1, a2, a3, a4, a5, a6, a7, a8, a9, a10] [] M 0 0 Z ↔ Run d 86 97 [some (.ref o), a1, a2, a3, a4, a5, a6, a7, a8, a9, a10] [.ref o] M 0 0 Z := R_local (gd86 dX8_body_96) rfl rfl rfl
theorem z86_97 : Run d 86 97 [a0, a1, a2, a3, a4, a5, a6, a7, a8, a9, a10] [s0] M 0 0 Z ↔ Run d 86 98 [a0, a1, a2, a3, a4, a5, a6, a7, a8, a9, a10] [.int 0, s0] M 0 0 Z := R_iconst (gd86 dX8_body_97) (by decide)
theorem z86_98 : Run d 86 98 [a0, some (.int x), a2, a3, a4, a5, a6, a7, a8, a9, a10] [s1, s0] M 0 0 Z ↔ Run d 86 99 [a0, some (.int x), a2, a3, a4, a5, a6, a7, a8, a9, a10] [.int x, s1, s0] M 0 0 Z := R_local (gd86 dX8_body_98) rfl rfl rfl
theorem z86_99 : Run d 86 99 [a0, a1, a2, a3, a4, a5, a6, a7, a8, a9, a10] [s2, s1, .ref b] M 0 0 Z ↔ gObj M b 8 ∧ Call d 114 [.ref b, s1, s2] M (fun r M1 => Run d 86 102 [a0, a1, a2, a3, a4, a5, a6, a7, a8, a9, a10] (r.toList ++ []) M1 0 0 Z) := R_callV (gd86 dX8_body_99) rfl rfl rfl rfl rfl rfl gc_8_90 rfl rfl (Nat.le_of_ble_eq_true rfl) (Nat.le_of_ble_eq_true rfl) rfl rfl (Nat.le_of_ble_eq_true rfl) (Nat.le_of_ble_eq_true rfl)
theorem z86_102 : Run d 86 102 [some (.ref o), a1, a2, a3, a4, a5, a6, a7, a8, a9, a10] [] M 0 0 Z ↔ Run d 86 103 [some (.ref o), a1, a2, a3, a4, a5, a6, a7, a8, a9, a10] [.ref o] M 0 0 Z := R_local (gd86 dX8_body_102) rfl rfl rfl
theorem z86_103 : Run d 86 103 [a0, a1, a2, a3, a4, a5, a6, a7, a8, a9, a10] [s0] M 0 0 Z ↔ Run d 86 104 [a0, a1, a2, a3, a4, a5, a6, a7, a8, a9, a10] [.int 1, s0] M 0 0 Z := R_iconst (gd86 dX8_body_103) (by decide)
theorem z86_104 : Run d 86 104 [a0, a1, some (.int x), a3, a4, a5, a6, a7, a8, a9, a10] [s1, s0] M 0 0 Z ↔ Run d 86 105 [a0, a1, some (.int x), a3, a4, a5, a6, a7, a8, a9, a10] [.int x, s1, s0] M 0 0 Z := R_local (gd86 dX8_body_104) rfl rfl rfl
theorem z86_105 : Run d 86 105 [a0, a1, a2, a3, a4, a5, a6, a7, a8, a9, a10] [s2, s1, .ref b] M 0 0 Z ↔ gObj M b 8 ∧ Call d 114 [.ref b, s1, s2] M (fun r M1 => Run d 86 108 [a0, a1, a2, a3, a4, a5, a6, a7, a8, a9, a10] (r.toList ++ []) M1 0 0 Z) := R_callV (gd86 dX8_body_105) rfl rfl rfl rfl rfl rfl gc_8_90 rfl rfl (Nat.le_of_ble_eq_true rfl) (Nat.le_of_ble_eq_true rfl) rfl rfl (Nat.le_of_ble_eq_true rfl) (Nat.le_of_ble_eq_true rfl)
theorem z86_108 : Run d 86 108 [some (.ref o), a1, a2, a3, a4, a5, a6, a7, a8, a9, a10] [] M 0 0 Z ↔ Run d 86 109 [some (.ref o), a1, a2, a3, a4, a5, a6, a7, a8, a9, a10] [.ref o] M 0 0 Z := R_local (gd86 dX8_body_108) rfl rfl rfl
theorem z86_109 : Run d 86 109 [a0, a1, a2, a3, a4, a5, a6, a7, a8, a9, a10] [s0] M 0 0 Z ↔ Run d 86 110 [a0, a1, a2, a3, a4, a5, a6, a7, a8, a9, a10] [.int 2, s0] M 0 0 Z := R_iconst (gd86 dX8_body_109) (by decide)
theorem z86_110 : Run d 86 110 [a0, a1, a2, some (.int x), a4, a5, a6, a7, a8, a9, a10] [s1, s0] M 0 0 Z ↔ Run d 86 111 [a0, a1, a2, some (.int x), a4, a5, a6, a7, a8, a9, a10] [.int x, s1, s0] M 0 0 Z := R_local (gd86 dX8_body_110) rfl rfl rfl
theorem z86_111 : Run d 86 111 [a0, a1, a2, a3, a4, a5, a6, a7, a8, a9, a10] [s2, s1, .ref b] M 0 0 Z ↔ gObj M b 8 ∧ Call d 114 [.ref b, s1, s2] M (fun r M1 => Run d 86 114 [a0, a1, a2, a3, a4, a5, a6, a7, a8, a9, a10] (r.toList ++ []) M1 0 0 Z) := R_callV (gd86 dX8_body_111) rfl rfl rfl rfl rfl rfl gc_8_90 rfl rfl (Nat.le_of_ble_eq_true rfl) (Nat.le_of_ble_eq_true rfl) rfl rfl (Nat.le_of_ble_eq_true rfl) (Nat.le_of_ble_eq_true rfl)
theorem z86_114 : Run d 86 114 [some (.ref o), a1, a2, a3, a4, a5, a6, a7, a8, a9, a10] [] M 0 0 Z ↔ Run d 86 115 [some (.ref o), a1, a2, a3, a4, a5, a6, a7, a8, a9, a10] [.ref o] M 0 0 Z := R_local (gd86 dX8_body_114) rfl rfl rfl
theorem z86_115 : Run d 86 115 [a0, a1, a2, a3, a4, a5, a6, a7, a8, a9, a10] [s0] M 0 0 Z ↔ Run d 86 116 [a0, a1, a2, a3, a4, a5, a6, a7, a8, a9, a10] [.int 3, s0] M 0 0 Z := R_iconst (gd86 dX8_body_115) (by decide)
theorem z86_116 : Run d 86 116 [a0, a1, a2, a3, some (.int x), a5, a6, a7, a8, a9, a10] [s1, s0] M 0 0 Z ↔ Run d 86 118 [a0, a1, a2, a3, some (.int x), a5, a6, a7, a8, a9, a10] [.int x, s1, s0] M 0 0 Z := R_local (gd86 dX8_body_116) rfl rfl rfl
theorem z86_118 : Run d 86 118 [a0, a1, a2, a3, a4, a5, a6, a7, a8, a9, a10] [s2, s1, .ref b] M 0 0 Z ↔ gObj M b 8 ∧ Call d 114 [.ref b, s1, s2] M (fun r M1 => Run d 86 121 [a0, a1, a2, a3, a4, a5, a6, a7, a8, a9, a10] (r.toList ++ []) M1 0 0 Z) := R_callV (gd86 dX8_body_118) rfl rfl rfl rfl rfl rfl gc_8_90 rfl rfl (Nat.le_of_ble_eq_true rfl) (Nat.le_of_ble_eq_true rfl) rfl rfl (Nat.le_of_ble_eq_true rfl) (Nat.le_of_ble_eq_true rfl)
theorem z86_121 : Run d 86 121 [some (.ref o), a1, a2, a3, a4, a5, a6, a7, a8, a9, a10] [] M 0 0 Z ↔ Run d 86 122 [some (.ref o), a1, a2, a3, a4, a5, a6, a7, a8, a9, a10] [.ref o] M 0 0 Z := R_local (gd86 dX8_body_121) rfl rfl rfl
theorem z86_122 : Run d 86 122 [a0, a1, a2, a3, a4, a5, a6, a7, a8, a9, a10] [s0] M 0 0 Z ↔ Run d 86 123 [a0, a1, a2, a3, a4, a5, a6, a7, a8, a9, a10] [.int 4, s0] M 0 0 Z := R_iconst (gd86 dX8_body_122) (by decide)
theorem z86_123 : Run d 86 123 [a0, a1, a2, a3, a4, some (.int x), a6, a7, a8, a9, a10] [s1, s0] M 0 0 Z ↔ Run d 86 125 [a0, a1, a2, a3, a4, some (.int x), a6, a7, a8, a9, a10] [.int x, s1, s0] M 0 0 Z := R_local (gd86 dX8_body_123) rfl rfl rfl
theorem z86_125 : Run d 86 125 [a0, a1, a2, a3, a4, a5, a6, a7, a8, a9, a10] [s2, s1, .ref b] M 0 0 Z ↔ gObj M b 8 ∧ Call d 114 [.ref b, s1, s2] M (fun r M1 => Run d 86 128 [a0, a1, a2, a3, a4, a5, a6, a7, a8, a9, a10] (r.toList ++ []) M1 0 0 Z) := R_callV (gd86 dX8_body_125) rfl rfl rfl rfl rfl rfl gc_8_90 rfl rfl (Nat.le_of_ble_eq_true rfl) (Nat.le_of_ble_eq_true rfl) rfl rfl (Nat.le_of_ble_eq_true rfl) (Nat.le_of_ble_eq_true rfl)
theorem z86_128 : Run d 86 128 [some (.ref o), a1, a2, a3, a4, a5, a6, a7, a8, a9, a10] [] M 0 0 Z ↔ Run d 86 129 [some (.ref o), a1, a2, a3, a4, a5, a6, a7, a8, a9, a10] [.ref o] M 0 0 Z := R_local (gd86 dX8_body_128) rfl rfl rfl
theorem z86_129 : Run d 86 129 [a0, a1, a2, a3, a4, a5, a6, a7, a8, a9, a10] [s0] M 0 0 Z ↔ Run d 86 130 [a0, a1, a2, a3, a4, a5, a6, a7, a8, a9, a10] [.int 5, s0] M 0 0 Z := R_iconst (gd86 dX8_body_129) (by decide)
theorem z86_130 : Run d 86 130 [a0, a1, a2, a3, a4, a5, some (.int x), a7, a8, a9, a10] [s1, s0] M 0 0 Z ↔ Run d 86 132 [a0, a1, a2, a3, a4, a5, some (.int x), a7, a8, a9, a10] [.int x, s1, s0] M 0 0 Z := R_local (gd86 dX8_body_130) rfl rfl rfl
theorem z86_132 : Run d 86 132 [a0, a1, a2, a3, a4, a5, a6, a7, a8, a9, a10] [s2, s1, .ref b] M 0 0 Z ↔ gObj M b 8 ∧ Call d 114 [.ref b, s1, s2] M (fun r M1 => Run d 86 135 [a0, a1, a2, a3, a4, a5, a6, a7, a8, a9, a10] (r.toList ++ []) M1 0 0 Z) := R_callV (gd86 dX8_body_132) rfl rfl rfl rfl rfl rfl gc_8_90 rfl rfl (Nat.le_of_ble_eq_true rfl) (Nat.le_of_ble_eq_true rfl) rfl rfl (Nat.le_of_ble_eq_true rfl) (Nat.le_of_ble_eq_true rfl)
theorem z86_135 : Run d 86 135 [some (.ref o), a1, a2, a3, a4, a5, a6, a7, a8, a9, a10] [] M 0 0 Z ↔ Run d 86 136 [some (.ref o), a1, a2, a3, a4, a5, a6, a7, a8, a9, a10] [.ref o] M 0 0 Z := R_local (gd86 dX8_body_135) rfl rfl rfl
theorem z86_136 : Run d 86 136 [a0, a1, a2, a3, a4, a5, a6, a7, a8, a9, a10] [s0] M 0 0 Z ↔ Run d 86 138 [a0, a1, a2, a3, a4, a5, a6, a7, a8, a9, a10] [.int 6, s0] M 0 0 Z := R_bipush (gd86 dX8_body_136) (by decide)
theorem z86_138 : Run d 86 138 [a0, a1, a2, a3, a4, a5, a6, some (.int x), a8, a9, a10] [s1, s0] M 0 0 Z ↔ Run d 86 140 [a0, a1, a2, a3, a4, a5, a6, some (.int x), a8, a9, a10] [.int x, s1, s0] M 0 0 Z := R_local (gd86 dX8_body_138) rfl rfl rfl
theorem z86_140 : Run d 86 140 [a0, a1, a2, a3, a4, a5, a6, a7, a8, a9, a10] [s2, s1, .ref b] M 0 0 Z ↔ gObj M b 8 ∧ Call d 114 [.ref b, s1, s2] M (fun r M1 => Run d 86 143 [a0, a1, a2, a3, a4, a5, a6, a7, a8, a9, a10] (r.toList ++ []) M1 0 0 Z) := R_callV (gd86 dX8_body_140) rfl rfl rfl rfl rfl rfl gc_8_90 rfl rfl (Nat.le_of_ble_eq_true rfl) (Nat.le_of_ble_eq_true rfl) rfl rfl (Nat.le_of_ble_eq_true rfl) (Nat.le_of_ble_eq_true rfl)
theorem z86_143 : Run d 86 143 [some (.ref o), a1, a2, a3, a4, a5, a6, a7, a8, a9, a10] [] M 0 0 Z ↔ Run d 86 144 [some (.ref o), a1, a2, a3, a4, a5, a6, a7, a8, a9, a10] [.ref o] M 0 0 Z := R_local (gd86 dX8_body_143) rfl rfl rfl
theorem z86_144 : Run d 86 144 [a0, a1, a2, a3, a4, a5, a6, a7, a8, a9, a10] [s0] M 0 0 Z ↔ Run d 86 146 [a0, a1, a2, a3, a4, a5, a6, a7, a8, a9, a10] [.int 7, s0] M 0 0 Z := R_bipush (gd86 dX8_body_144) (by decide)
theorem z86_146 : Run d 86 146 [a0, a1, a2, a3, a4, a5, a6, a7, some (.int x), a9, a10] [s1, s0] M 0 0 Z ↔ Run d 86 148 [a0, a1, a2, a3, a4, a5, a6, a7, some (.int x), a9, a10] [.int x, s1, s0] M 0 0 Z := R_local (gd86 dX8_body_146) rfl rfl rfl
theorem z86_148 : Run d 86 148 [a0, a1, a2, a3, a4, a5, a6, a7, a8, a9, a10] [s2, s1, .ref b] M 0 0 Z ↔ gObj M b 8 ∧ Call d 114 [.ref b, s1, s2] M (fun r M1 => Run d 86 151 [a0, a1, a2, a3, a4, a5, a6, a7, a8, a9, a10] (r.toList ++ []) M1 0 0 Z) := R_callV (gd86 dX8_body_148) rfl rfl rfl rfl rfl rfl gc_8_90 rfl rfl (Nat.le_of_ble_eq_true rfl) (Nat.le_of_ble_eq_true rfl) rfl rfl (Nat.le_of_ble_eq_true rfl) (Nat.le_of_ble_eq_true rfl)
theorem z86_151 : Run d 86 151 [some (.ref o), a1, a2, a3, a4, a5, a6, a7, a8, a9, a10] [] M 0 0 Z ↔ Run d 86 152 [some (.ref o), a1, a2, a3, a4, a5, a6, a7, a8, a9, a10] [.ref o] M 0 0 Z := R_local (gd86 dX8_body_151) rfl rfl rfl
theorem z86_152 : Run d 86 152 [a0, a1, a2, a3, a4, a5, a6, a7, a8, a9, a10] [.ref o] M 0 0 Z ↔ Run d 86 153 [a0, a1, a2, a3, a4, a5, a6, a7, a8, a9, a10] [.ref o, .ref o] M 0 0 Z := R_arith (gd86 dX8_body_152) rfl
theorem z86_153 : Run d 86 153 [a0, a1, a2, a3, a4, a5, a6, a7, a8, a9, a10] [.ref o, s0] M 0 0 Z ↔ gObj M o 8 ∧ Run d 86 156 [a0, a1, a2, a3, a4, a5, a6, a7, a8, a9, a10] [.int (M.1 o 1), s0] M 0 0 Z := R_getI (gd86 dX8_body_153) rfl gf_8_13 rfl
theorem z86_156 : Run d 86 156 [a0, a1, a2, a3, a4, a5, a6, a7, a8, a9, a10] [s1, s0] M 0 0 Z ↔ Run d 86 157 [a0, a1, a2, a3, a4, a5, a6, a7, a8, a9, a10] [.int 1, s1, s0] M 0 0 Z := R_iconst (gd86 dX8_body_156) (by decide)
theorem z86_157 : Run d 86 157 [a0, a1, a2, a3, a4, a5, a6, a7, a8, a9, a10] [.int y, .int x, s0] M 0 0 Z ↔ Run d 86 158 [a0, a1, a2, a3, a4, a5, a6, a7, a8, a9, a10] [.int (x + y), s0] M 0 0 Z := R_arith (gd86 dX8_body_157) rfl
theorem z86_158 : Run d 86 158 [a0, a1, a2, a3, a4, a5, a6, a7, a8, a9, a10] [.int x, .ref o] M 0 0 Z ↔ gObj M o 8 ∧ Run d 86 161 [a0, a1, a2, a3, a4, a5, a6, a7, a8, a9, a10] [] (gsI M o 1 x) 0 0 Z := R_putI (gd86 dX8_body_158) rfl gf_8_13 (Or.inl rfl) rfl
theorem z86_161 : Run d 86 161 [some (.ref o), a1, a2, a3, a4, a5, a6, a7, a8, a9, a10] [] M 0 0 Z ↔ Run d 86 162 [some (.ref o), a1, a2, a3, a4, a5, a6, a7, a8, a9, a10] [.ref o] M 0 0 Z := R_local (gd86 dX8_body_161) rfl rfl rfl
theorem z86_162 : Run d 86 162 [a0, a1, a2, a3, a4, a5, a6, a7, a8, a9, a10] [.ref o] M 0 0 Z ↔ gObj M o 8 ∧ Run d 86 165 [a0, a1, a2, a3, a4, a5, a6, a7, a8, a9, a10] [.int (M.1 o 1)] M 0 0 Z := R_getI (gd86 dX8_body_162) rfl gf_8_13 rfl
theorem z86_165 : Run d 86 165 [a0, a1, a2, a3, a4, a5, a6, a7, a8, a9, a10] [s0] M 0 0 Z ↔ Run d 86 166 [a0, a1, a2, a3, a4, a5, a6, a7, a8, a9, a10] [.int 1, s0] M 0 0 Z := R_iconst (gd86 dX8_body_165) (by decide)
theorem z86_166 : Run d 86 166 [a0, a1, a2, a3, a4, a5, a6, a7, a8, a9, a10] [.int y, .int x] M 0 0 Z ↔ Run d 86 167 [a0, a1, a2, a3, a4, a5, a6, a7, a8, a9, a10] [.int (x - y)] M 0 0 Z := R_arith (gd86 dX8_body_166) rfl
theorem z86_167 : Run d 86 167 [a0, a1, a2, a3, a4, a5, a6, a7, a8, a9, a10] [.int x] M 0 0 Z ↔ Z (some (.int x)) M := R_iret (gd86 dX8_body_167) rfl
theorem e86 : Call (d + 1) 86 [s0, s1, s2, s3, s4, s5, s6, s7, s8] M Z ↔ Run d 86 0 [some s0, some s1, some s2, some s3, some s4, some s5, some s6, some s7, some s8, none, none] [] M 0 0 Z := Call_iff (Nat.lt_of_lt_of_le (Nat.lt_succ_self 86) (Nat.le_of_ble_eq_true rfl)) (Nat.le_of_ble_eq_true rfl)
/-! 87: X8_cloth (II)I -/
theorem gd87 {pc : Nat} {r : Except _ _} (h : decode cX8_cloth pc = r) : decode (gby 87) pc = r := h
theorem z87_0 : Run d 87 0 [a0, some (.int x), a2, a3] [] M 0 0 Z ↔ Run d 87 1 [a0, some (.int x), a2, a3] [.int x] M 0 0 Z := R_local (gd87 dX8_cloth_0) rfl rfl rfl
theorem z87_1 : Run d 87 1 [a0, a1, a2, a3] [s0] M 0 0 Z ↔ Run d 87 3 [a0, a1, a2, a3] [.int 10, s0] M 0 0 Z := R_bipush (gd87 dX8_cloth_1) (by decide)
theorem z87_3 : Run d 87 3 [a0, a1, a2, a3] [.int y, .int x] M 0 0 Z ↔ (x < y → Run d 87 24 [a0, a1, a2, a3] [] M 0 0 Z) ∧ (¬ (x < y) → Run d 87 6 [a0, a1, a2, a3] [] M 0 0 Z) := R_icmp (gd87 dX8_cloth_3) (show gTgt 3 21 = some 24 by decide) gIf_lt
theorem z87_6 : Run d 87 6 [a0, some (.int x), a2, a3] [] M 0 0 Z ↔ Run d 87 7 [a0, some (.int x), a2, a3] [.int x] M 0 0 Z := R_local (gd87 dX8_cloth_6) rfl rfl rfl
theorem z87_7 : Run d 87 7 [a0, a1, a2, a3] [s0] M 0 0 Z ↔ Run d 87 10 [a0, a1, a2, a3] [.int 400, s0] M 0 0 Z := R_sipush (gd87 dX8_cloth_7) (by decide)
theorem z87_10 : Run d 87 10 [a0, a1, a2, a3] [.int y, .int x] M 0 0 Z ↔ (y < x → Run d 87 24 [a0, a1, a2, a3] [] M 0 0 Z) ∧ (¬ (y < x) → Run d 87 13 [a0, a1, a2, a3] [] M 0 0 Z) := R_icmp (gd87 dX8_cloth_10) (show gTgt 10 14 = some 24 by decide) gIf_gt
theorem z87_13 : Run d 87 13 [a0, a1, some (.int x), a3] [] M 0 0 Z ↔ Run d 87 14 [a0, a1, some (.int x), a3] [.int x] M 0 0 Z := R_local (gd87 dX8_cloth_13) rfl rfl rfl
theorem z87_14 : Run d 87 14 [a0, a1, a2, a3] [s0] M 0 0 Z ↔ Call d 112 [s0] M (fun r M1 => Run d 87 17 [a0, a1, a2, a3] (r.toList ++ []) M1 0 0 Z) := R_call (gd87 dX8_cloth_14) rfl rfl rfl rfl rfl rfl gc_8_94 rfl (by decide) (Nat.le_of_ble_eq_true rfl) (Nat.le_of_ble_eq_true rfl) rfl rfl rfl (Nat.le_of_ble_eq_true rfl) (Nat.le_of_ble_eq_true rfl)
theorem z87_17 : Run d 87 17 [a0, a1, a2, a3] [.int x] M 0 0 Z ↔ (x = 0 → Run d 87 24 [a0, a1, a2, a3] [] M 0 0 Z) ∧ (¬ (x = 0) → Run d 87 20 [a0, a1, a2, a3] [] M 0 0 Z) := R_if (gd87 dX8_cloth_17) (show gTgt 17 7 = some 24 by decide) gIf_eq
theorem z87_20 : Run d 87 20 [a0, a1, a2, a3] [] M 0 0 Z ↔ Run d 87 21 [a0, a1, a2, a3] [.int 1] M 0 0 Z := R_iconst (gd87 dX8_cloth_20) (by decide)
theorem z87_21 : Run d 87 21 [a0, a1, a2, a3] [s0] M 0 0 Z ↔ Run d 87 25 [a0, a1, a2, a3] [s0] M 0 0 Z := R_goto (gd87 dX8_cloth_21) (show gTgt 21 4 = some 25 by decide)
theorem z87_24 : Run d 87 24 [a0, a1, a2, a3] [] M 0 0 Z ↔ Run d 87 25 [a0, a1, a2, a3] [.int 0] M 0 0 Z := R_iconst (gd87 dX8_cloth_24) (by decide)
theorem z87_25 : Run d 87 25 [a0, a1, a2, a3] [.int x] M 0 0 Z ↔ Run d 87 26 [a0, a1, a2, some (.int x)] [] M 0 0 Z := R_local (gd87 dX8_cloth_25) rfl rfl rfl
theorem z87_26 : Run d 87 26 [a0, a1, a2, some (.int x)] [] M 0 0 Z ↔ Run d 87 27 [a0, a1, a2, some (.int x)] [.int x] M 0 0 Z := R_local (gd87 dX8_cloth_26) rfl rfl rfl
theorem z87_27 : Run d 87 27 [a0, a1, a2, a3] [.int x] M 0 0 Z ↔ (x = 0 → Run d 87 45 [a0, a1, a2, a3] [] M 0 0 Z) ∧ (¬ (x = 0) → Run d 87 30 [a0, a1, a2, a3] [] M 0 0 Z) := R_if (gd87 dX8_cloth_27) (show gTgt 27 18 = some 45 by decide) gIf_eq
theorem z87_30 : Run d 87 30 [some (.ref o), a1, a2, a3] [] M 0 0 Z ↔ Run d 87 31 [some (.ref o), a1, a2, a3] [.ref o] M 0 0 Z := R_local (gd87 dX8_cloth_30) rfl rfl rfl
theorem z87_31 : Run d 87 31 [a0, a1, a2, a3] [.ref o] M 0 0 Z ↔ gObj M o 8 ∧ Run d 87 34 [a0, a1, a2, a3] [.int (M.1 o 3)] M 0 0 Z := R_getI (gd87 dX8_cloth_31) rfl gf_8_23 rfl
theorem z87_34 : Run d 87 34 [some (.ref o), a1, a2, a3] [s0] M 0 0 Z ↔ Run d 87 35 [some (.ref o), a1, a2, a3] [.ref o, s0] M 0 0 Z := R_local (gd87 dX8_cloth_34) rfl rfl rfl
theorem z87_35 : Run d 87 35 [a0, a1, a2, a3] [.ref o, s0] M 0 0 Z ↔ gObj M o 8 ∧ Run d 87 38 [a0, a1, a2, a3] [va_rf (M.2.1 o 2), s0] M 0 0 Z := R_getR (gd87 dX8_cloth_35) rfl gf_8_19 rfl
theorem z87_38 : Run d 87 38 [a0, a1, a2, a3] [.ref o, s0] M 0 0 Z ↔ (gTy M o).isSome = true ∧ Run d 87 39 [a0, a1, a2, a3] [.int (nI (gLen M o)), s0] M 0 0 Z := R_alen (gd87 dX8_cloth_38)
theorem z87_39 : Run d 87 39 [a0, a1, a2, a3] [s1, s0] M 0 0 Z ↔ Call d 110 [s0, s1] M (fun r M1 => Run d 87 42 [a0, a1, a2, a3] (r.toList ++ []) M1 0 0 Z) := R_call (gd87 dX8_cloth_39) rfl rfl rfl rfl rfl rfl gc_8_97 rfl (by decide) (Nat.le_of_ble_eq_true rfl) (Nat.le_of_ble_eq_true rfl) rfl rfl rfl (Nat.le_of_ble_eq_true rfl) (Nat.le_of_ble_eq_true rfl)
theorem z87_42 : Run d 87 42 [a0, a1, a2, a3] [.int x] M 0 0 Z ↔ (¬ x = 0 → Run d 87 47 [a0, a1, a2, a3] [] M 0 0 Z) ∧ (¬ (¬ x = 0) → Run d 87 45 [a0, a1, a2, a3] [] M 0 0 Z) := R_if (gd87 dX8_cloth_42) (show gTgt 42 5 = some 47 by decide) gIf_ne
theorem z87_45 : Run d 87 45 [a0, a1, a2, a3] [] M 0 0 Z ↔ Run d 87 46 [a0, a1, a2, a3] [.int (-1)] M 0 0 Z := R_iconst (gd87 dX8_cloth_45) (by decide)
theorem z87_46 : Run d 87 46 [a0, a1, a2, a3] [.int x] M 0 0 Z ↔ Z (some (.int x)) M := R_iret (gd87 dX8_cloth_46) rfl
theorem z87_47 : Run d 87 47 [some (.ref o), a1, a2, a3] [] M 0 0 Z ↔ Run d 87 48 [some (.ref o), a1, a2, a3] [.ref o] M 0 0 Z := R_local (gd87 dX8_cloth_47) rfl rfl rfl
theorem z87_48 : Run d 87 48 [a0, a1, a2, a3] [.ref o] M 0 0 Z ↔ gObj M o 8 ∧ Run d 87 51 [a0, a1, a2, a3] [va_rf (M.2.1 o 2)] M 0 0 Z := R_getR (gd87 dX8_cloth_48) rfl gf_8_19 rfl
theorem z87_51 : Run d 87 51 [some (.ref o), a1, a2, a3] [s0] M 0 0 Z ↔ Run d 87 52 [some (.ref o), a1, a2, a3] [.ref o, s0] M 0 0 Z := R_local (gd87 dX8_cloth_51) rfl rfl rfl
theorem z87_52 : Run d 87 52 [a0, a1, a2, a3] [.ref o, s0] M 0 0 Z ↔ gObj M o 8 ∧ Run d 87 55 [a0, a1, a2, a3] [.int (M.1 o 3), s0] M 0 0 Z := R_getI (gd87 dX8_cloth_52) rfl gf_8_23 rfl
theorem z87_55 : Run d 87 55 [a0, a1, a2, a3] [s1, s0] M 0 0 Z ↔ Run d 87 58 [a0, a1, a2, a3] [.ref M.2.2.length, s1, s0] (gNew M (.inl 0)) 1 4 Z := R_new2 (gd87 dX8_cloth_55) rfl (ci := 0) rfl rfl (by decide)
theorem z87_58 : Run d 87 58 [a0, a1, a2, a3] [.ref o, s1, s0] M 1 4 Z ↔ Run d 87 59 [a0, a1, a2, a3] [.ref o, .ref o, s1, s0] M 1 4 Z := R_arith (gd87 dX8_cloth_58) rfl
theorem z87_59 : Run d 87 59 [a0, some (.int x), a2, a3] [s3, s2, s1, s0] M 1 4 Z ↔ Run d 87 60 [a0, some (.int x), a2, a3] [.int x, s3, s2, s1, s0] M 1 4 Z := R_local (gd87 dX8_cloth_59) rfl rfl rfl
theorem z87_60 : Run d 87 60 [a0, a1, some (.int x), a3] [s4, s3, s2, s1, s0] M 1 4 Z ↔ Run d 87 61 [a0, a1, some (.int x), a3] [.int x, s4, s3, s2, s1, s0] M 1 4 Z := R_local (gd87 dX8_cloth_60) rfl rfl rfl
theorem z87_61 : Run d 87 61 [a0, a1, a2, a3] [s5, s4, .ref b, s2, s1, s0] M 1 4 Z ↔ Call d 0 [.ref b, s4, s5] M (fun r M1 => Run d 87 64 [a0, a1, a2, a3] (r.toList ++ [s2, s1, s0]) M1 2 10 Z) := R_call (gd87 dX8_cloth_61) rfl rfl rfl rfl rfl rfl gc_8_101 rfl (by decide) (Nat.le_of_ble_eq_true rfl) (Nat.le_of_ble_eq_true rfl) rfl rfl rfl (Nat.le_of_ble_eq_true rfl) (Nat.le_of_ble_eq_true rfl)
theorem z87_64 : Run d 87 64 [a0, a1, a2, a3] [.ref b, .int x, .ref o] M 2 10 Z ↔ ((gAr M o 3 ∧ gObj M b 0) ∨ (gAr M o 4 ∧ gObj M b 7)) ∧ gIn x (gLen M o) = true ∧ Run d 87 65 [a0, a1, a2, a3] [] (gsR M o x.toNatClampNeg (some b)) 2 10 Z := R_aast (gd87 dX8_cloth_64)
theorem z87_65 : Run d 87 65 [some (.ref o), a1, a2, a3] [] M 2 10 Z ↔ Run d 87 66 [some (.ref o), a1, a2, a3] [.ref o] M 2 10 Z := R_local (gd87 dX8_cloth_65) rfl rfl rfl
theorem z87_66 : Run d 87 66 [a0, a1, a2, a3] [.ref o] M 2 10 Z ↔ Run d 87 67 [a0, a1, a2, a3] [.ref o, .ref o] M 2 10 Z := R_arith (gd87 dX8_cloth_66) rfl
theorem z87_67 : Run d 87 67 [a0, a1, a2, a3] [.ref o, s0] M 2 10 Z ↔ gObj M o 8 ∧ Run d 87 70 [a0, a1, a2, a3] [.int (M.1 o 3), s0] M 2 10 Z := R_getI (gd87 dX8_cloth_67) rfl gf_8_23 rfl
theorem z87_70 : Run d 87 70 [a0, a1, a2, a3] [s1, s0] M 2 10 Z ↔ Run d 87 71 [a0, a1, a2, a3] [.int 1, s1, s0] M 2 10 Z := R_iconst (gd87 dX8_cloth_70) (by decide)
theorem z87_71 : Run d 87 71 [a0, a1, a2, a3] [.int y, .int x, s0] M 2 10 Z ↔ Run d 87 72 [a0, a1, a2, a3] [.int (x + y), s0] M 2 10 Z := R_arith (gd87 dX8_cloth_71) rfl
theorem z87_72 : Run d 87 72 [a0, a1, a2, a3] [.int x, .ref o] M 2 10 Z ↔ gObj M o 8 ∧ Run d 87 75 [a0, a1, a2, a3] [] (gsI M o 3 x) 2 10 Z := R_putI (gd87 dX8_cloth_72) rfl gf_8_23 (Or.inl rfl) rfl
theorem z87_75 : Run d 87 75 [some (.ref o), a1, a2, a3] [] M 2 10 Z ↔ Run d 87 76 [some (.ref o), a1, a2, a3] [.ref o] M 2 10 Z := R_local (gd87 dX8_cloth_75) rfl rfl rfl
theorem z87_76 : Run d 87 76 [a0, a1, a2, a3] [.ref o] M 2 10 Z ↔ gObj M o 8 ∧ Run d 87 79 [a0, a1, a2, a3] [.int (M.1 o 3)] M 2 10 Z := R_getI (gd87 dX8_cloth_76) rfl gf_8_23 rfl
theorem z87_79 : Run d 87 79 [a0, a1, a2, a3] [s0] M 2 10 Z ↔ Run d 87 80 [a0, a1, a2, a3] [.int 1, s0] M 2 10 Z := R_iconst (gd87 dX8_cloth_79) (by decide)
theorem z87_80 : Run d 87 80 [a0, a1, a2, a3] [.int y, .int x] M 2 10 Z ↔ Run d 87 81 [a0, a1, a2, a3] [.int (x - y)] M 2 10 Z := R_arith (gd87 dX8_cloth_80) rfl
theorem z87_81 : Run d 87 81 [a0, a1, a2, a3] [.int x] M 2 10 Z ↔ Z (some (.int x)) M := R_iret (gd87 dX8_cloth_81) rfl
theorem e87 : Call (d + 1) 87 [s0, s1, s2] M Z ↔ Run d 87 0 [some s0, some s1, some s2, none] [] M 0 0 Z := Call_iff (Nat.lt_of_lt_of_le (Nat.lt_succ_self 87) (Nat.le_of_ble_eq_true rfl)) (Nat.le_of_ble_eq_true rfl)
/-! 88: X8_colour (III)Z -/
theorem gd88 {pc : Nat} {r : Except _ _} (h : decode cX8_colour pc = r) : decode (gby 88) pc = r := h
theorem z88_0 : Run d 88 0 [some (.ref o), a1, a2, a3, a4] [] M 0 0 Z ↔ Run d 88 1 [some (.ref o), a1, a2, a3, a4] [.ref o] M 0 0 Z := R_local (gd88 dX8_colour_0) rfl rfl rfl
theorem z88_1 : Run d 88 1 [a0, some (.int x), a2, a3, a4] [s0] M 0 0 Z ↔ Run d 88 2 [a0, some (.int x), a2, a3, a4] [.int x, s0] M 0 0 Z := R_local (gd88 dX8_colour_1) rfl rfl rfl
theorem z88_2 : Run d 88 2 [a0, a1, a2, a3, a4] [s1, .ref b] M 0 0 Z ↔ gObj M b 8 ∧ Call d 115 [.ref b, s1] M (fun r M1 => Run d 88 5 [a0, a1, a2, a3, a4] (r.toList ++ []) M1 0 0 Z) := R_callV (gd88 dX8_colour_2) rfl rfl rfl rfl rfl rfl gc_8_103 rfl rfl (Nat.le_of_ble_eq_true rfl) (Nat.le_of_ble_eq_true rfl) rfl rfl (Nat.le_of_ble_eq_true rfl) (Nat.le_of_ble_eq_true rfl)
theorem z88_5 : Run d 88 5 [a0, a1, a2, a3, a4] [.ref o] M 0 0 Z ↔ Run d 88 7 [a0, a1, a2, a3, some (.ref o)] [] M 0 0 Z := R_local (gd88 dX8_colour_5) rfl rfl rfl
theorem z88_5n : Run d 88 5 [a0, a1, a2, a3, a4] [.null] M 0 0 Z ↔ Run d 88 7 [a0, a1, a2, a3, some .null] [] M 0 0 Z := R_local (gd88 dX8_colour_5) rfl rfl rfl
theorem z88_7 : Run d 88 7 [a0, a1, a2, a3, some (.ref o)] [] M 0 0 Z ↔ Run d 88 9 [a0, a1, a2, a3, some (.ref o)] [.ref o] M 0 0 Z := R_local (gd88 dX8_colour_7) rfl rfl rfl
theorem z88_7n : Run d 88 7 [a0, a1, a2, a3, some .null] [] M 0 0 Z ↔ Run d 88 9 [a0, a1, a2, a3, some .null] [.null] M 0 0 Z := R_local (gd88 dX8_colour_7) rfl rfl rfl
theorem z88_9n : Run d 88 9 [a0, a1, a2, a3, a4] [.null] M 0 0 Z ↔ Run d 88 34 [a0, a1, a2, a3, a4] [] M 0 0 Z := R_nullN (gd88 dX8_colour_9) (show gTgt 9 25 = some 34 by decide)
theorem z88_9 : Run d 88 9 [a0, a1, a2, a3, a4] [.ref o] M 0 0 Z ↔ Run d 88 12 [a0, a1, a2, a3, a4] [] M 0 0 Z := R_nullR (gd88 dX8_colour_9) (show gTgt 9 25 = some 34 by decide)
theorem z88_12 : Run d 88 12 [a0, a1, some (.int x), a3, a4] [] M 0 0 Z ↔ Run d 88 13 [a0, a1, some (.int x), a3, a4] [.int x] M 0 0 Z := R_local (gd88 dX8_colour_12) rfl rfl rfl
theorem z88_13 : Run d 88 13 [a0, a1, a2, a3, some (.ref o)] [s0] M 0 0 Z ↔ Run d 88 15 [a0, a1, a2, a3, some (.ref o)] [.ref o, s0] M 0 0 Z := R_local (gd88 dX8_colour_13) rfl rfl rfl
theorem z88_13n : Run d 88 13 [a0, a1, a2, a3, some .null] [s0] M 0 0 Z ↔ Run d 88 15 [a0, a1, a2, a3, some .null] [.null, s0] M 0 0 Z := R_local (gd88 dX8_colour_13) rfl rfl rfl
theorem z88_15 : Run d 88 15 [a0, a1, a2, a3, a4] [.ref o, s0] M 0 0 Z ↔ gObj M o 0 ∧ Run d 88 18 [a0, a1, a2, a3, a4] [va_rf (M.2.1 o 2), s0] M 0 0 Z := R_getR (gd88 dX8_colour_15) rfl gf_8_107 rfl
theorem z88_18 : Run d 88 18 [a0, a1, a2, a3, a4] [.ref o, s0] M 0 0 Z ↔ (gTy M o).isSome = true ∧ Run d 88 19 [a0, a1, a2, a3, a4] [.int (nI (gLen M o)), s0] M 0 0 Z := R_alen (gd88 dX8_colour_18)
theorem z88_19 : Run d 88 19 [a0, a1, a2, a3, a4] [s1, s0] M 0 0 Z ↔ Call d 110 [s0, s1] M (fun r M1 => Run d 88 22 [a0, a1, a2, a3, a4] (r.toList ++ []) M1 0 0 Z) := R_call (gd88 dX8_colour_19) rfl rfl rfl rfl rfl rfl gc_8_97 rfl (by decide) (Nat.le_of_ble_eq_true rfl) (Nat.le_of_ble_eq_true rfl) rfl rfl rfl (Nat.le_of_ble_eq_true rfl) (Nat.le_of_ble_eq_true rfl)
theorem z88_22 : Run d 88 22 [a0, a1, a2, a3, a4] [.int x] M 0 0 Z ↔ (x = 0 → Run d 88 34 [a0, a1, a2, a3, a4] [] M 0 0 Z) ∧ (¬ (x = 0) → Run d 88 25 [a0, a1, a2, a3, a4] [] M 0 0 Z) := R_if (gd88 dX8_colour_22) (show gTgt 22 12 = some 34 by decide) gIf_eq
theorem z88_25 : Run d 88 25 [a0, a1, a2, some (.int x), a4] [] M 0 0 Z ↔ Run d 88 26 [a0, a1, a2, some (.int x), a4] [.int x] M 0 0 Z := R_local (gd88 dX8_colour_25) rfl rfl rfl
theorem z88_26 : Run d 88 26 [a0, a1, a2, a3, a4] [s0] M 0 0 Z ↔ Run d 88 28 [a0, a1, a2, a3, a4] [.int 8, s0] M 0 0 Z := R_bipush (gd88 dX8_colour_26) (by decide)
theorem z88_28 : Run d 88 28 [a0, a1, a2, a3, a4] [s1, s0] M 0 0 Z ↔ Call d 110 [s0, s1] M (fun r M1 => Run d 88 31 [a0, a1, a2, a3, a4] (r.toList ++ []) M1 0 0 Z) := R_call (gd88 dX8_colour_28) rfl rfl rfl rfl rfl rfl gc_8_97 rfl (by decide) (Nat.le_of_ble_eq_true rfl) (Nat.le_of_ble_eq_true rfl) rfl rfl rfl (Nat.le_of_ble_eq_true rfl) (Nat.le_of_ble_eq_true rfl)
theorem z88_31 : Run d 88 31 [a0, a1, a2, a3, a4] [.int x] M 0 0 Z ↔ (¬ x = 0 → Run d 88 36 [a0, a1, a2, a3, a4] [] M 0 0 Z) ∧ (¬ (¬ x = 0) → Run d 88 34 [a0, a1, a2, a3, a4] [] M 0 0 Z) := R_if (gd88 dX8_colour_31) (show gTgt 31 5 = some 36 by decide) gIf_ne
theorem z88_34 : Run d 88 34 [a0, a1, a2, a3, a4] [] M 0 0 Z ↔ Run d 88 35 [a0, a1, a2, a3, a4] [.int 0] M 0 0 Z := R_iconst (gd88 dX8_colour_34) (by decide)
theorem z88_35 : Run d 88 35 [a0, a1, a2, a3, a4] [.int x] M 0 0 Z ↔ (x = 0 ∨ x = 1) ∧ Z (some (.int x)) M := R_iretZ (gd88 dX8_colour_35) rfl
theorem z88_36 : Run d 88 36 [a0, a1, a2, a3, some (.ref o)] [] M 0 0 Z ↔ Run d 88 38 [a0, a1, a2, a3, some (.ref o)] [.ref o] M 0 0 Z := R_local (gd88 dX8_colour_36) rfl rfl rfl
theorem z88_36n : Run d 88 36 [a0, a1, a2, a3, some .null] [] M 0 0 Z ↔ Run d 88 38 [a0, a1, a2, a3, some .null] [.null] M 0 0 Z := R_local (gd88 dX8_colour_36) rfl rfl rfl
theorem z88_38 : Run d 88 38 [a0, a1, a2, a3, a4] [.ref o] M 0 0 Z ↔ gObj M o 0 ∧ Run d 88 41 [a0, a1, a2, a3, a4] [va_rf (M.2.1 o 2)] M 0 0 Z := R_getR (gd88 dX8_colour_38) rfl gf_8_107 rfl
theorem z88_41 : Run d 88 41 [a0, a1, some (.int x), a3, a4] [s0] M 0 0 Z ↔ Run d 88 42 [a0, a1, some (.int x), a3, a4] [.int x, s0] M 0 0 Z := R_local (gd88 dX8_colour_41) rfl rfl rfl
theorem z88_42 : Run d 88 42 [a0, a1, a2, some (.int x), a4] [s1, s0] M 0 0 Z ↔ Run d 88 43 [a0, a1, a2, some (.int x), a4] [.int x, s1, s0] M 0 0 Z := R_local (gd88 dX8_colour_42) rfl rfl rfl
theorem z88_43 : Run d 88 43 [a0, a1, a2, a3, a4] [.int y, .int x, .ref o] M 0 0 Z ↔ gAr M o 0 ∧ gIn x (gLen M o) = true ∧ Run d 88 44 [a0, a1, a2, a3, a4] [] (gsI M o x.toNatClampNeg y) 0 0 Z := R_iast (gd88 dX8_colour_43)
theorem z88_44 : Run d 88 44 [a0, a1, a2, a3, a4] [] M 0 0 Z ↔ Run d 88 45 [a0, a1, a2, a3, a4] [.int 1] M 0 0 Z := R_iconst (gd88 dX8_colour_44) (by decide)
theorem z88_45 : Run d 88 45 [a0, a1, a2, a3, a4] [.int x] M 0 0 Z ↔ (x = 0 ∨ x = 1) ∧ Z (some (.int x)) M := R_iretZ (gd88 dX8_colour_45) rfl
theorem e88 : Call (d + 1) 88 [s0, s1, s2, s3] M Z ↔ Run d 88 0 [some s0, some s1, some s2, some s3, none] [] M 0 0 Z := Call_iff (Nat.lt_of_lt_of_le (Nat.lt_succ_self 88) (Nat.le_of_ble_eq_true rfl)) (Nat.le_of_ble_eq_true rfl)
/-! 89: X8_end (II)Z -/
theorem gd89 {pc : Nat} {r : Except _ _} (h : decode cX8_end pc = r) : decode (gby 89) pc = r := h
theorem z89_0 : Run d 89 0 [some (.ref o), a1, a2, a3] [] M 0 0 Z ↔ Run d 89 1 [some (.ref o), a1, a2, a3] [.ref o] M 0 0 Z := R_local (gd89 dX8_end_0) rfl rfl rfl
theorem z89_1 : Run d 89 1 [a0, some (.int x), a2, a3] [s0] M 0 0 Z ↔ Run d 89 2 [a0, some (.int x), a2, a3] [.int x, s0] M 0 0 Z := R_local (gd89 dX8_end_1) rfl rfl rfl
theorem z89_2 : Run d 89 2 [a0, a1, a2, a3] [s1, .ref b] M 0 0 Z ↔ gObj M b 8 ∧ Call d 115 [.ref b, s1] M (fun r M1 => Run d 89 5 [a0, a1, a2, a3] (r.toList ++ []) M1 0 0 Z) := R_callV (gd89 dX8_end_2) rfl rfl rfl rfl rfl rfl gc_8_103 rfl rfl (Nat.le_of_ble_eq_true rfl) (Nat.le_of_ble_eq_true rfl) rfl rfl (Nat.le_of_ble_eq_true rfl) (Nat.le_of_ble_eq_true rfl)
theorem z89_5 : Run d 89 5 [a0, a1, a2, a3] [.ref o] M 0 0 Z ↔ Run d 89 6 [a0, a1, a2, some (.ref o)] [] M 0 0 Z := R_local (gd89 dX8_end_5) rfl rfl rfl
theorem z89_5n : Run d 89 5 [a0, a1, a2, a3] [.null] M 0 0 Z ↔ Run d 89 6 [a0, a1, a2, some .null] [] M 0 0 Z := R_local (gd89 dX8_end_5) rfl rfl rfl
theorem z89_6 : Run d 89 6 [a0, a1, a2, some (.ref o)] [] M 0 0 Z ↔ Run d 89 7 [a0, a1, a2, some (.ref o)] [.ref o] M 0 0 Z := R_local (gd89 dX8_end_6) rfl rfl rfl
theorem z89_6n : Run d 89 6 [a0, a1, a2, some .null] [] M 0 0 Z ↔ Run d 89 7 [a0, a1, a2, some .null] [.null] M 0 0 Z := R_local (gd89 dX8_end_6) rfl rfl rfl
theorem z89_7n : Run d 89 7 [a0, a1, a2, a3] [.null] M 0 0 Z ↔ Run d 89 22 [a0, a1, a2, a3] [] M 0 0 Z := R_nullN (gd89 dX8_end_7) (show gTgt 7 15 = some 22 by decide)
theorem z89_7 : Run d 89 7 [a0, a1, a2, a3] [.ref o] M 0 0 Z ↔ Run d 89 10 [a0, a1, a2, a3] [] M 0 0 Z := R_nullR (gd89 dX8_end_7) (show gTgt 7 15 = some 22 by decide)
theorem z89_10 : Run d 89 10 [a0, a1, some (.int x), a3] [] M 0 0 Z ↔ Run d 89 11 [a0, a1, some (.int x), a3] [.int x] M 0 0 Z := R_local (gd89 dX8_end_10) rfl rfl rfl
theorem z89_11 : Run d 89 11 [a0, a1, a2, a3] [.int x] M 0 0 Z ↔ (x < 0 → Run d 89 22 [a0, a1, a2, a3] [] M 0 0 Z) ∧ (¬ (x < 0) → Run d 89 14 [a0, a1, a2, a3] [] M 0 0 Z) := R_if (gd89 dX8_end_11) (show gTgt 11 11 = some 22 by decide) gIf_lt
theorem z89_14 : Run d 89 14 [a0, a1, some (.int x), a3] [] M 0 0 Z ↔ Run d 89 15 [a0, a1, some (.int x), a3] [.int x] M 0 0 Z := R_local (gd89 dX8_end_14) rfl rfl rfl
theorem z89_15 : Run d 89 15 [a0, a1, a2, some (.ref o)] [s0] M 0 0 Z ↔ Run d 89 16 [a0, a1, a2, some (.ref o)] [.ref o, s0] M 0 0 Z := R_local (gd89 dX8_end_15) rfl rfl rfl
theorem z89_15n : Run d 89 15 [a0, a1, a2, some .null] [s0] M 0 0 Z ↔ Run d 89 16 [a0, a1, a2, some .null] [.null, s0] M 0 0 Z := R_local (gd89 dX8_end_15) rfl rfl rfl
theorem z89_16 : Run d 89 16 [a0, a1, a2, a3] [.ref o, s0] M 0 0 Z ↔ gObj M o 0 ∧ Run d 89 19 [a0, a1, a2, a3] [.int (M.1 o 0), s0] M 0 0 Z := R_getI (gd89 dX8_end_16) rfl gf_8_110 rfl
theorem z89_19 : Run d 89 19 [a0, a1, a2, a3] [.int y, .int x] M 0 0 Z ↔ (x ≤ y → Run d 89 24 [a0, a1, a2, a3] [] M 0 0 Z) ∧ (¬ (x ≤ y) → Run d 89 22 [a0, a1, a2, a3] [] M 0 0 Z) := R_icmp (gd89 dX8_end_19) (show gTgt 19 5 = some 24 by decide) gIf_le
theorem z89_22 : Run d 89 22 [a0, a1, a2, a3] [] M 0 0 Z ↔ Run d 89 23 [a0, a1, a2, a3] [.int 0] M 0 0 Z := R_iconst (gd89 dX8_end_22) (by decide)
theorem z89_23 : Run d 89 23 [a0, a1, a2, a3] [.int x] M 0 0 Z ↔ (x = 0 ∨ x = 1) ∧ Z (some (.int x)) M := R_iretZ (gd89 dX8_end_23) rfl
theorem z89_24 : Run d 89 24 [a0, a1, a2, some (.ref o)] [] M 0 0 Z ↔ Run d 89 25 [a0, a1, a2, some (.ref o)] [.ref o] M 0 0 Z := R_local (gd89 dX8_end_24) rfl rfl rfl
theorem z89_24n : Run d 89 24 [a0, a1, a2, some .null] [] M 0 0 Z ↔ Run d 89 25 [a0, a1, a2, some .null] [.null] M 0 0 Z := R_local (gd89 dX8_end_24) rfl rfl rfl
theorem z89_25 : Run d 89 25 [a0, a1, some (.int x), a3] [s0] M 0 0 Z ↔ Run d 89 26 [a0, a1, some (.int x), a3] [.int x, s0] M 0 0 Z := R_local (gd89 dX8_end_25) rfl rfl rfl
theorem z89_26 : Run d 89 26 [a0, a1, a2, a3] [.int x, .ref o] M 0 0 Z ↔ gObj M o 0 ∧ Run d 89 29 [a0, a1, a2, a3] [] (gsI M o 3 x) 0 0 Z := R_putI (gd89 dX8_end_26) rfl gf_8_113 (Or.inl rfl) rfl
theorem z89_29 : Run d 89 29 [a0, a1, a2, a3] [] M 0 0 Z ↔ Run d 89 30 [a0, a1, a2, a3] [.int 1] M 0 0 Z := R_iconst (gd89 dX8_end_29) (by decide)
theorem z89_30 : Run d 89 30 [a0, a1, a2, a3] [.int x] M 0 0 Z ↔ (x = 0 ∨ x = 1) ∧ Z (some (.int x)) M := R_iretZ (gd89 dX8_end_30) rfl
theorem e89 : Call (d + 1) 89 [s0, s1, s2] M Z ↔ Run d 89 0 [some s0, some s1, some s2, none] [] M 0 0 Z := Call_iff (Nat.lt_of_lt_of_le (Nat.lt_succ_self 89) (Nat.le_of_ble_eq_true rfl)) (Nat.le_of_ble_eq_true rfl)
/-! 90: X8_feed (IIIII)I -/
theorem gd90 {pc : Nat} {r : Except _ _} (h : decode cX8_feed pc = r) : decode (gby 90) pc = r := h
theorem z90_0 : Run d 90 0 [some (.ref o), a1, a2, a3, a4, a5] [] M 0 0 Z ↔ Run d 90 1 [some (.ref o), a1, a2, a3, a4, a5] [.ref o] M 0 0 Z := R_local (gd90 dX8_feed_0) rfl rfl rfl
theorem z90_1 : Run d 90 1 [a0, a1, a2, a3, a4, a5] [.ref o] M 0 0 Z ↔ gObj M o 8 ∧ Run d 90 4 [a0, a1, a2, a3, a4, a5] [.int (M.1 o 7)] M 0 0 Z := R_getI (gd90 dX8_feed_1) rfl gf_8_38 rfl
theorem z90_4 : Run d 90 4 [a0, a1, a2, a3, a4, a5] [s0] M 0 0 Z ↔ Run d 90 6 [a0, a1, a2, a3, a4, a5] [.int 100, s0] M 0 0 Z := R_bipush (gd90 dX8_feed_4) (by decide)
theorem z90_6 : Run d 90 6 [a0, a1, a2, a3, a4, a5] [.int y, .int x] M 0 0 Z ↔ (x ≤ y → Run d 90 11 [a0, a1, a2, a3, a4, a5] [] M 0 0 Z) ∧ (¬ (x ≤ y) → Run d 90 9 [a0, a1, a2, a3, a4, a5] [] M 0 0 Z) := R_icmp (gd90 dX8_feed_6) (show gTgt 6 5 = some 11 by decide) gIf_le
theorem z90_9 : Run d 90 9 [a0, a1, a2, a3, a4, a5] [] M 0 0 Z ↔ Run d 90 10 [a0, a1, a2, a3, a4, a5] [.int (-1)] M 0 0 Z := R_iconst (gd90 dX8_feed_9) (by decide)
theorem z90_10 : Run d 90 10 [a0, a1, a2, a3, a4, a5] [.int x] M 0 0 Z ↔ Z (some (.int x)) M := R_iret (gd90 dX8_feed_10) rfl
theorem z90_11 : Run d 90 11 [some (.ref o), a1, a2, a3, a4, a5] [] M 0 0 Z ↔ Run d 90 12 [some (.ref o), a1, a2, a3, a4, a5] [.ref o] M 0 0 Z := R_local (gd90 dX8_feed_11) rfl rfl rfl
theorem z90_12 : Run d 90 12 [a0, some (.int x), a2, a3, a4, a5] [s0] M 0 0 Z ↔ Run d 90 13 [a0, some (.int x), a2, a3, a4, a5] [.int x, s0] M 0 0 Z := R_local (gd90 dX8_feed_12) rfl rfl rfl
theorem z90_13 : Run d 90 13 [a0, a1, a2, a3, a4, a5] [s1, .ref b] M 0 0 Z ↔ gObj M b 8 ∧ Call d 117 [.ref b, s1] M (fun r M1 => Run d 90 16 [a0, a1, a2, a3, a4, a5] (r.toList ++ []) M1 0 0 Z) := R_callV (gd90 dX8_feed_13) rfl rfl rfl rfl rfl rfl gc_8_116 rfl rfl (Nat.le_of_ble_eq_true rfl) (Nat.le_of_ble_eq_true rfl) rfl rfl (Nat.le_of_ble_eq_true rfl) (Nat.le_of_ble_eq_true rfl)
theorem z90_16 : Run d 90 16 [some (.ref o), a1, a2, a3, a4, a5] [] M 0 0 Z ↔ Run d 90 17 [some (.ref o), a1, a2, a3, a4, a5] [.ref o] M 0 0 Z := R_local (gd90 dX8_feed_16) rfl rfl rfl
theorem z90_17 : Run d 90 17 [a0, a1, some (.int x), a3, a4, a5] [s0] M 0 0 Z ↔ Run d 90 18 [a0, a1, some (.int x), a3, a4, a5] [.int x, s0] M 0 0 Z := R_local (gd90 dX8_feed_17) rfl rfl rfl
theorem z90_18 : Run d 90 18 [a0, a1, a2, a3, a4, a5] [s1, .ref b] M 0 0 Z ↔ gObj M b 8 ∧ Call d 117 [.ref b, s1] M (fun r M1 => Run d 90 21 [a0, a1, a2, a3, a4, a5] (r.toList ++ []) M1 0 0 Z) := R_callV (gd90 dX8_feed_18) rfl rfl rfl rfl rfl rfl gc_8_116 rfl rfl (Nat.le_of_ble_eq_true rfl) (Nat.le_of_ble_eq_true rfl) rfl rfl (Nat.le_of_ble_eq_true rfl) (Nat.le_of_ble_eq_true rfl)
theorem z90_21 : Run d 90 21 [some (.ref o), a1, a2, a3, a4, a5] [] M 0 0 Z ↔ Run d 90 22 [some (.ref o), a1, a2, a3, a4, a5] [.ref o] M 0 0 Z := R_local (gd90 dX8_feed_21) rfl rfl rfl
theorem z90_22 : Run d 90 22 [a0, a1, a2, some (.int x), a4, a5] [s0] M 0 0 Z ↔ Run d 90 23 [a0, a1, a2, some (.int x), a4, a5] [.int x, s0] M 0 0 Z := R_local (gd90 dX8_feed_22) rfl rfl rfl
theorem z90_23 : Run d 90 23 [a0, a1, a2, a3, a4, a5] [s1, .ref b] M 0 0 Z ↔ gObj M b 8 ∧ Call d 117 [.ref b, s1] M (fun r M1 => Run d 90 26 [a0, a1, a2, a3, a4, a5] (r.toList ++ []) M1 0 0 Z) := R_callV (gd90 dX8_feed_23) rfl rfl rfl rfl rfl rfl gc_8_116 rfl rfl (Nat.le_of_ble_eq_true rfl) (Nat.le_of_ble_eq_true rfl) rfl rfl (Nat.le_of_ble_eq_true rfl) (Nat.le_of_ble_eq_true rfl)
theorem z90_26 : Run d 90 26 [some (.ref o), a1, a2, a3, a4, a5] [] M 0 0 Z ↔ Run d 90 27 [some (.ref o), a1, a2, a3, a4, a5] [.ref o] M 0 0 Z := R_local (gd90 dX8_feed_26) rfl rfl rfl
theorem z90_27 : Run d 90 27 [a0, a1, a2, a3, some (.int x), a5] [s0] M 0 0 Z ↔ Run d 90 29 [a0, a1, a2, a3, some (.int x), a5] [.int x, s0] M 0 0 Z := R_local (gd90 dX8_feed_27) rfl rfl rfl
theorem z90_29 : Run d 90 29 [a0, a1, a2, a3, a4, a5] [s1, .ref b] M 0 0 Z ↔ gObj M b 8 ∧ Call d 117 [.ref b, s1] M (fun r M1 => Run d 90 32 [a0, a1, a2, a3, a4, a5] (r.toList ++ []) M1 0 0 Z) := R_callV (gd90 dX8_feed_29) rfl rfl rfl rfl rfl rfl gc_8_116 rfl rfl (Nat.le_of_ble_eq_true rfl) (Nat.le_of_ble_eq_true rfl) rfl rfl (Nat.le_of_ble_eq_true rfl) (Nat.le_of_ble_eq_true rfl)
theorem z90_32 : Run d 90 32 [some (.ref o), a1, a2, a3, a4, a5] [] M 0 0 Z ↔ Run d 90 33 [some (.ref o), a1, a2, a3, a4, a5] [.ref o] M 0 0 Z := R_local (gd90 dX8_feed_32) rfl rfl rfl
theorem z90_33 : Run d 90 33 [a0, a1, a2, a3, a4, some (.int x)] [s0] M 0 0 Z ↔ Run d 90 35 [a0, a1, a2, a3, a4, some (.int x)] [.int x, s0] M 0 0 Z := R_local (gd90 dX8_feed_33) rfl rfl rfl
theorem z90_35 : Run d 90 35 [a0, a1, a2, a3, a4, a5] [s1, .ref b] M 0 0 Z ↔ gObj M b 8 ∧ Call d 117 [.ref b, s1] M (fun r M1 => Run d 90 38 [a0, a1, a2, a3, a4, a5] (r.toList ++ []) M1 0 0 Z) := R_callV (gd90 dX8_feed_35) rfl rfl rfl rfl rfl rfl gc_8_116 rfl rfl (Nat.le_of_ble_eq_true rfl) (Nat.le_of_ble_eq_true rfl) rfl rfl (Nat.le_of_ble_eq_true rfl) (Nat.le_of_ble_eq_true rfl)
theorem z90_38 : Run d 90 38 [some (.ref o), a1, a2, a3, a4, a5] [] M 0 0 Z ↔ Run d 90 39 [some (.ref o), a1, a2, a3, a4, a5] [.ref o] M 0 0 Z := R_local (gd90 dX8_feed_38) rfl rfl rfl
theorem z90_39 : Run d 90 39 [a0, a1, a2, a3, a4, a5] [.ref o] M 0 0 Z ↔ gObj M o 8 ∧ Run d 90 42 [a0, a1, a2, a3, a4, a5] [.int (M.1 o 7)] M 0 0 Z := R_getI (gd90 dX8_feed_39) rfl gf_8_38 rfl
theorem z90_42 : Run d 90 42 [a0, a1, a2, a3, a4, a5] [.int x] M 0 0 Z ↔ Z (some (.int x)) M := R_iret (gd90 dX8_feed_42) rfl
theorem e90 : Call (d + 1) 90 [s0, s1, s2, s3, s4, s5] M Z ↔ Run d 90 0 [some s0, some s1, some s2, some s3, some s4, some s5] [] M 0 0 Z := Call_iff (Nat.lt_of_lt_of_le (Nat.lt_succ_self 90) (Nat.le_of_ble_eq_true rfl)) (Nat.le_of_ble_eq_true rfl)
/-! 91: X8_style (I)I -/
theorem gd91 {pc : Nat} {r : Except _ _} (h : decode cX8_style pc = r) : decode (gby 91) pc = r := h
theorem z91_0 : Run d 91 0 [some (.ref o), a1, a2] [] M 0 0 Z ↔ Run d 91 1 [some (.ref o), a1, a2] [.ref o] M 0 0 Z := R_local (gd91 dX8_style_0) rfl rfl rfl
theorem z91_1 : Run d 91 1 [a0, a1, a2] [.ref o] M 0 0 Z ↔ gObj M o 8 ∧ Run d 91 4 [a0, a1, a2] [.int (M.1 o 5)] M 0 0 Z := R_getI (gd91 dX8_style_1) rfl gf_8_32 rfl
theorem z91_4 : Run d 91 4 [some (.ref o), a1, a2] [s0] M 0 0 Z ↔ Run d 91 5 [some (.ref o), a1, a2] [.ref o, s0] M 0 0 Z := R_local (gd91 dX8_style_4) rfl rfl rfl
theorem z91_5 : Run d 91 5 [a0, a1, a2] [.ref o, s0] M 0 0 Z ↔ gObj M o 8 ∧ Run d 91 8 [a0, a1, a2] [va_rf (M.2.1 o 4), s0] M 0 0 Z := R_getR (gd91 dX8_style_5) rfl gf_8_28 rfl
theorem z91_8 : Run d 91 8 [a0, a1, a2] [.ref o, s0] M 0 0 Z ↔ (gTy M o).isSome = true ∧ Run d 91 9 [a0, a1, a2] [.int (nI (gLen M o)), s0] M 0 0 Z := R_alen (gd91 dX8_style_8)
theorem z91_9 : Run d 91 9 [a0, a1, a2] [s1, s0] M 0 0 Z ↔ Call d 110 [s0, s1] M (fun r M1 => Run d 91 12 [a0, a1, a2] (r.toList ++ []) M1 0 0 Z) := R_call (gd91 dX8_style_9) rfl rfl rfl rfl rfl rfl gc_8_97 rfl (by decide) (Nat.le_of_ble_eq_true rfl) (Nat.le_of_ble_eq_true rfl) rfl rfl rfl (Nat.le_of_ble_eq_true rfl) (Nat.le_of_ble_eq_true rfl)
theorem z91_12 : Run d 91 12 [a0, a1, a2] [.int x] M 0 0 Z ↔ (x = 0 → Run d 91 28 [a0, a1, a2] [] M 0 0 Z) ∧ (¬ (x = 0) → Run d 91 15 [a0, a1, a2] [] M 0 0 Z) := R_if (gd91 dX8_style_12) (show gTgt 12 16 = some 28 by decide) gIf_eq
theorem z91_15 : Run d 91 15 [a0, some (.int x), a2] [] M 0 0 Z ↔ Run d 91 16 [a0, some (.int x), a2] [.int x] M 0 0 Z := R_local (gd91 dX8_style_15) rfl rfl rfl
theorem z91_16 : Run d 91 16 [a0, a1, a2] [s0] M 0 0 Z ↔ Run d 91 17 [a0, a1, a2] [.int 1, s0] M 0 0 Z := R_iconst (gd91 dX8_style_16) (by decide)
theorem z91_17 : Run d 91 17 [a0, a1, a2] [.int y, .int x] M 0 0 Z ↔ (x < y → Run d 91 28 [a0, a1, a2] [] M 0 0 Z) ∧ (¬ (x < y) → Run d 91 20 [a0, a1, a2] [] M 0 0 Z) := R_icmp (gd91 dX8_style_17) (show gTgt 17 11 = some 28 by decide) gIf_lt
theorem z91_20 : Run d 91 20 [a0, some (.int x), a2] [] M 0 0 Z ↔ Run d 91 21 [a0, some (.int x), a2] [.int x] M 0 0 Z := R_local (gd91 dX8_style_20) rfl rfl rfl
theorem z91_21 : Run d 91 21 [some (.ref o), a1, a2] [s0] M 0 0 Z ↔ Run d 91 22 [some (.ref o), a1, a2] [.ref o, s0] M 0 0 Z := R_local (gd91 dX8_style_21) rfl rfl rfl
theorem z91_22 : Run d 91 22 [a0, a1, a2] [.ref o, s0] M 0 0 Z ↔ gObj M o 8 ∧ Run d 91 25 [a0, a1, a2] [.int (M.1 o 7), s0] M 0 0 Z := R_getI (gd91 dX8_style_22) rfl gf_8_38 rfl
theorem z91_25 : Run d 91 25 [a0, a1, a2] [.int y, .int x] M 0 0 Z ↔ (x ≤ y → Run d 91 30 [a0, a1, a2] [] M 0 0 Z) ∧ (¬ (x ≤ y) → Run d 91 28 [a0, a1, a2] [] M 0 0 Z) := R_icmp (gd91 dX8_style_25) (show gTgt 25 5 = some 30 by decide) gIf_le
theorem z91_28 : Run d 91 28 [a0, a1, a2] [] M 0 0 Z ↔ Run d 91 29 [a0, a1, a2] [.int (-1)] M 0 0 Z := R_iconst (gd91 dX8_style_28) (by decide)
theorem z91_29 : Run d 91 29 [a0, a1, a2] [.int x] M 0 0 Z ↔ Z (some (.int x)) M := R_iret (gd91 dX8_style_29) rfl
theorem z91_30 : Run d 91 30 [some (.ref o), a1, a2] [] M 0 0 Z ↔ Run d 91 31 [some (.ref o), a1, a2] [.ref o] M 0 0 Z := R_local (gd91 dX8_style_30) rfl rfl rfl
theorem z91_31 : Run d 91 31 [a0, a1, a2] [s0] M 0 0 Z ↔ Run d 91 32 [a0, a1, a2] [.int 0, s0] M 0 0 Z := R_iconst (gd91 dX8_style_31) (by decide)
theorem z91_32 : Run d 91 32 [a0, a1, a2] [.int x, .ref o] M 0 0 Z ↔ gObj M o 8 ∧ Run d 91 35 [a0, a1, a2] [] (gsI M o 7 x) 0 0 Z := R_putI (gd91 dX8_style_32) rfl gf_8_38 (Or.inl rfl) rfl
theorem z91_35 : Run d 91 35 [some (.ref o), a1, a2] [] M 0 0 Z ↔ Run d 91 36 [some (.ref o), a1, a2] [.ref o] M 0 0 Z := R_local (gd91 dX8_style_35) rfl rfl rfl
theorem z91_36 : Run d 91 36 [a0, a1, a2] [.ref o] M 0 0 Z ↔ gObj M o 8 ∧ Run d 91 39 [a0, a1, a2] [va_rf (M.2.1 o 9)] M 0 0 Z := R_getR (gd91 dX8_style_36) rfl gf_8_47 rfl
theorem z91_39 : Run d 91 39 [some (.ref o), a1, a2] [s0] M 0 0 Z ↔ Run d 91 40 [some (.ref o), a1, a2] [.ref o, s0] M 0 0 Z := R_local (gd91 dX8_style_39) rfl rfl rfl
theorem z91_40 : Run d 91 40 [a0, a1, a2] [.ref o, s0] M 0 0 Z ↔ gObj M o 8 ∧ Run d 91 43 [a0, a1, a2] [va_rf (M.2.1 o 6), s0] M 0 0 Z := R_getR (gd91 dX8_style_40) rfl gf_8_35 rfl
theorem z91_43 : Run d 91 43 [a0, some (.int x), a2] [s1, s0] M 0 0 Z ↔ Run d 91 44 [a0, some (.int x), a2] [.int x, s1, s0] M 0 0 Z := R_local (gd91 dX8_style_43) rfl rfl rfl
theorem z91_44 : Run d 91 44 [a0, a1, a2] [s2, s1, .ref b] M 0 0 Z ↔ gObj M b 6 ∧ Call d 68 [.ref b, s1, s2] M (fun r M1 => Run d 91 47 [a0, a1, a2] (r.toList ++ []) M1 2 250 Z) := R_callV (gd91 dX8_style_44) rfl rfl rfl rfl rfl rfl gc_8_120 rfl rfl (Nat.le_of_ble_eq_true rfl) (Nat.le_of_ble_eq_true rfl) rfl rfl (Nat.le_of_ble_eq_true rfl) (Nat.le_of_ble_eq_true rfl)
theorem z91_47 : Run d 91 47 [a0, a1, a2] [.ref o] M 2 250 Z ↔ Run d 91 48 [a0, a1, some (.ref o)] [] M 2 250 Z := R_local (gd91 dX8_style_47) rfl rfl rfl
theorem z91_47n : Run d 91 47 [a0, a1, a2] [.null] M 2 250 Z ↔ Run d 91 48 [a0, a1, some .null] [] M 2 250 Z := R_local (gd91 dX8_style_47) rfl rfl rfl
theorem z91_48 : Run d 91 48 [a0, a1, some (.ref o)] [] M 2 250 Z ↔ Run d 91 49 [a0, a1, some (.ref o)] [.ref o] M 2 250 Z := R_local (gd91 dX8_style_48) rfl rfl rfl
theorem z91_48n : Run d 91 48 [a0, a1, some .null] [] M 2 250 Z ↔ Run d 91 49 [a0, a1, some .null] [.null] M 2 250 Z := R_local (gd91 dX8_style_48) rfl rfl rfl
theorem z91_49n : Run d 91 49 [a0, a1, a2] [.null] M 2 250 Z ↔ Run d 91 52 [a0, a1, a2] [] M 2 250 Z := R_nonnullN (gd91 dX8_style_49) (show gTgt 49 23 = some 72 by decide)
theorem z91_49 : Run d 91 49 [a0, a1, a2] [.ref o] M 2 250 Z ↔ Run d 91 72 [a0, a1, a2] [] M 2 250 Z := R_nonnullR (gd91 dX8_style_49) (show gTgt 49 23 = some 72 by decide)
theorem z91_52 : Run d 91 52 [a0, a1, a2] [] M 2 250 Z ↔ Run d 91 55 [a0, a1, a2] [.int (-1000)] M 2 250 Z := R_sipush (gd91 dX8_style_52) (by decide)
theorem z91_55 : Run d 91 55 [some (.ref o), a1, a2] [s0] M 2 250 Z ↔ Run d 91 56 [some (.ref o), a1, a2] [.ref o, s0] M 2 250 Z := R_local (gd91 dX8_style_55) rfl rfl rfl
theorem z91_56 : Run d 91 56 [a0, a1, a2] [.ref o, s0] M 2 250 Z ↔ gObj M o 8 ∧ Run d 91 59 [a0, a1, a2] [va_rf (M.2.1 o 9), s0] M 2 250 Z := R_getR (gd91 dX8_style_56) rfl gf_8_47 rfl
theorem z91_59 : Run d 91 59 [a0, a1, a2] [.ref o, s0] M 2 250 Z ↔ gObj M o 6 ∧ Run d 91 62 [a0, a1, a2] [.int (M.1 o 6), s0] M 2 250 Z := R_getI (gd91 dX8_style_59) rfl gf_8_124 rfl
theorem z91_62 : Run d 91 62 [a0, a1, a2] [.int y, .int x] M 2 250 Z ↔ Run d 91 63 [a0, a1, a2] [.int (x * y)] M 2 250 Z := R_arith (gd91 dX8_style_62) rfl
theorem z91_63 : Run d 91 63 [some (.ref o), a1, a2] [s0] M 2 250 Z ↔ Run d 91 64 [some (.ref o), a1, a2] [.ref o, s0] M 2 250 Z := R_local (gd91 dX8_style_63) rfl rfl rfl
theorem z91_64 : Run d 91 64 [a0, a1, a2] [.ref o, s0] M 2 250 Z ↔ gObj M o 8 ∧ Run d 91 67 [a0, a1, a2] [va_rf (M.2.1 o 9), s0] M 2 250 Z := R_getR (gd91 dX8_style_64) rfl gf_8_47 rfl
theorem z91_67 : Run d 91 67 [a0, a1, a2] [.ref o, s0] M 2 250 Z ↔ gObj M o 6 ∧ Run d 91 70 [a0, a1, a2] [.int (M.1 o 7), s0] M 2 250 Z := R_getI (gd91 dX8_style_67) rfl gf_8_127 rfl
theorem z91_70 : Run d 91 70 [a0, a1, a2] [.int y, .int x] M 2 250 Z ↔ Run d 91 71 [a0, a1, a2] [.int (x - y)] M 2 250 Z := R_arith (gd91 dX8_style_70) rfl
theorem z91_71 : Run d 91 71 [a0, a1, a2] [.int x] M 2 250 Z ↔ Z (some (.int x)) M := R_iret (gd91 dX8_style_71) rfl
theorem z91_72 : Run d 91 72 [some (.ref o), a1, a2] [] M 2 250 Z ↔ Run d 91 73 [some (.ref o), a1, a2] [.ref o] M 2 250 Z := R_local (gd91 dX8_style_72) rfl rfl rfl
theorem z91_73 : Run d 91 73 [a0, a1, a2] [.ref o] M 2 250 Z ↔ gObj M o 8 ∧ Run d 91 76 [a0, a1, a2] [va_rf (M.2.1 o 4)] M 2 250 Z := R_getR (gd91 dX8_style_73) rfl gf_8_28 rfl
theorem z91_76 : Run d 91 76 [some (.ref o), a1, a2] [s0] M 2 250 Z ↔ Run d 91 77 [some (.ref o), a1, a2] [.ref o, s0] M 2 250 Z := R_local (gd91 dX8_style_76) rfl rfl rfl
theorem z91_77 : Run d 91 77 [a0, a1, a2] [.ref o, s0] M 2 250 Z ↔ gObj M o 8 ∧ Run d 91 80 [a0, a1, a2] [.int (M.1 o 5), s0] M 2 250 Z := R_getI (gd91 dX8_style_77) rfl gf_8_32 rfl
theorem z91_80 : Run d 91 80 [a0, a1, some (.ref o)] [s1, s0] M 2 250 Z ↔ Run d 91 81 [a0, a1, some (.ref o)] [.ref o, s1, s0] M 2 250 Z := R_local (gd91 dX8_style_80) rfl rfl rfl
theorem z91_80n : Run d 91 80 [a0, a1, some .null] [s1, s0] M 2 250 Z ↔ Run d 91 81 [a0, a1, some .null] [.null, s1, s0] M 2 250 Z := R_local (gd91 dX8_style_80) rfl rfl rfl
theorem z91_81 : Run d 91 81 [a0, a1, a2] [.ref b, .int x, .ref o] M 2 250 Z ↔ ((gAr M o 3 ∧ gObj M b 0) ∨ (gAr M o 4 ∧ gObj M b 7)) ∧ gIn x (gLen M o) = true ∧ Run d 91 82 [a0, a1, a2] [] (gsR M o x.toNatClampNeg (some b)) 2 250 Z := R_aast (gd91 dX8_style_81)
theorem z91_82 : Run d 91 82 [some (.ref o), a1, a2] [] M 2 250 Z ↔ Run d 91 83 [some (.ref o), a1, a2] [.ref o] M 2 250 Z := R_local (gd91 dX8_style_82) rfl rfl rfl
theorem z91_83 : Run d 91 83 [a0, a1, a2] [.ref o] M 2 250 Z ↔ Run d 91 84 [a0, a1, a2] [.ref o, .ref o] M 2 250 Z := R_arith (gd91 dX8_style_83) rfl
theorem z91_84 : Run d 91 84 [a0, a1, a2] [.ref o, s0] M 2 250 Z ↔ gObj M o 8 ∧ Run d 91 87 [a0, a1, a2] [.int (M.1 o 5), s0] M 2 250 Z := R_getI (gd91 dX8_style_84) rfl gf_8_32 rfl
theorem z91_87 : Run d 91 87 [a0, a1, a2] [s1, s0] M 2 250 Z ↔ Run d 91 88 [a0, a1, a2] [.int 1, s1, s0] M 2 250 Z := R_iconst (gd91 dX8_style_87) (by decide)
theorem z91_88 : Run d 91 88 [a0, a1, a2] [.int y, .int x, s0] M 2 250 Z ↔ Run d 91 89 [a0, a1, a2] [.int (x + y), s0] M 2 250 Z := R_arith (gd91 dX8_style_88) rfl
theorem z91_89 : Run d 91 89 [a0, a1, a2] [.int x, .ref o] M 2 250 Z ↔ gObj M o 8 ∧ Run d 91 92 [a0, a1, a2] [] (gsI M o 5 x) 2 250 Z := R_putI (gd91 dX8_style_89) rfl gf_8_32 (Or.inl rfl) rfl
theorem z91_92 : Run d 91 92 [some (.ref o), a1, a2] [] M 2 250 Z ↔ Run d 91 93 [some (.ref o), a1, a2] [.ref o] M 2 250 Z := R_local (gd91 dX8_style_92) rfl rfl rfl
theorem z91_93 : Run d 91 93 [a0, a1, a2] [.ref o] M 2 250 Z ↔ gObj M o 8 ∧ Run d 91 96 [a0, a1, a2] [.int (M.1 o 5)] M 2 250 Z := R_getI (gd91 dX8_style_93) rfl gf_8_32 rfl
theorem z91_96 : Run d 91 96 [a0, a1, a2] [s0] M 2 250 Z ↔ Run d 91 97 [a0, a1, a2] [.int 1, s0] M 2 250 Z := R_iconst (gd91 dX8_style_96) (by decide)
theorem z91_97 : Run d 91 97 [a0, a1, a2] [.int y, .int x] M 2 250 Z ↔ Run d 91 98 [a0, a1, a2] [.int (x - y)] M 2 250 Z := R_arith (gd91 dX8_style_97) rfl
theorem z91_98 : Run d 91 98 [a0, a1, a2] [.int x] M 2 250 Z ↔ Z (some (.int x)) M := R_iret (gd91 dX8_style_98) rfl
theorem e91 : Call (d + 1) 91 [s0, s1] M Z ↔ Run d 91 0 [some s0, some s1, none] [] M 0 0 Z := Call_iff (Nat.lt_of_lt_of_le (Nat.lt_succ_self 91) (Nat.le_of_ble_eq_true rfl)) (Nat.le_of_ble_eq_true rfl)
/-! 92: X8_drape (IIII)I -/
theorem gd92 {pc : Nat} {r : Except _ _} (h : decode cX8_drape pc = r) : decode (gby 92) pc = r := h
theorem z92_0 : Run d 92 0 [some (.ref o), a1, a2, a3, a4, a5, a6] [] M 0 0 Z ↔ Run d 92 1 [some (.ref o), a1, a2, a3, a4, a5, a6] [.ref o] M 0 0 Z := R_local (gd92 dX8_drape_0) rfl rfl rfl
theorem z92_1 : Run d 92 1 [a0, some (.int x), a2, a3, a4, a5, a6] [s0] M 0 0 Z ↔ Run d 92 2 [a0, some (.int x), a2, a3, a4, a5, a6] [.int x, s0] M 0 0 Z := R_local (gd92 dX8_drape_1) rfl rfl rfl
theorem z92_2 : Run d 92 2 [a0, a1, a2, a3, a4, a5, a6] [s1, .ref b] M 0 0 Z ↔ gObj M b 8 ∧ Call d 116 [.ref b, s1] M (fun r M1 => Run d 92 5 [a0, a1, a2, a3, a4, a5, a6] (r.toList ++ []) M1 0 0 Z) := R_callV (gd92 dX8_drape_2) rfl rfl rfl rfl rfl rfl gc_8_130 rfl rfl (Nat.le_of_ble_eq_true rfl) (Nat.le_of_ble_eq_true rfl) rfl rfl (Nat.le_of_ble_eq_true rfl) (Nat.le_of_ble_eq_true rfl)
theorem z92_5 : Run d 92 5 [a0, a1, a2, a3, a4, a5, a6] [.ref o] M 0 0 Z ↔ Run d 92 7 [a0, a1, a2, a3, a4, some (.ref o), a6] [] M 0 0 Z := R_local (gd92 dX8_drape_5) rfl rfl rfl
theorem z92_5n : Run d 92 5 [a0, a1, a2, a3, a4, a5, a6] [.null] M 0 0 Z ↔ Run d 92 7 [a0, a1, a2, a3, a4, some .null, a6] [] M 0 0 Z := R_local (gd92 dX8_drape_5) rfl rfl rfl
theorem z92_7 : Run d 92 7 [some (.ref o), a1, a2, a3, a4, a5, a6] [] M 0 0 Z ↔ Run d 92 8 [some (.ref o), a1, a2, a3, a4, a5, a6] [.ref o] M 0 0 Z := R_local (gd92 dX8_drape_7) rfl rfl rfl
theorem z92_8 : Run d 92 8 [a0, a1, a2, some (.int x), a4, a5, a6] [s0] M 0 0 Z ↔ Run d 92 9 [a0, a1, a2, some (.int x), a4, a5, a6] [.int x, s0] M 0 0 Z := R_local (gd92 dX8_drape_8) rfl rfl rfl
theorem z92_9 : Run d 92 9 [a0, a1, a2, a3, a4, a5, a6] [s1, .ref b] M 0 0 Z ↔ gObj M b 8 ∧ Call d 115 [.ref b, s1] M (fun r M1 => Run d 92 12 [a0, a1, a2, a3, a4, a5, a6] (r.toList ++ []) M1 0 0 Z) := R_callV (gd92 dX8_drape_9) rfl rfl rfl rfl rfl rfl gc_8_103 rfl rfl (Nat.le_of_ble_eq_true rfl) (Nat.le_of_ble_eq_true rfl) rfl rfl (Nat.le_of_ble_eq_true rfl) (Nat.le_of_ble_eq_true rfl)
theorem z92_12 : Run d 92 12 [a0, a1, a2, a3, a4, a5, a6] [.ref o] M 0 0 Z ↔ Run d 92 14 [a0, a1, a2, a3, a4, a5, some (.ref o)] [] M 0 0 Z := R_local (gd92 dX8_drape_12) rfl rfl rfl
theorem z92_12n : Run d 92 12 [a0, a1, a2, a3, a4, a5, a6] [.null] M 0 0 Z ↔ Run d 92 14 [a0, a1, a2, a3, a4, a5, some .null] [] M 0 0 Z := R_local (gd92 dX8_drape_12) rfl rfl rfl
theorem z92_14 : Run d 92 14 [a0, a1, a2, a3, a4, some (.ref o), a6] [] M 0 0 Z ↔ Run d 92 16 [a0, a1, a2, a3, a4, some (.ref o), a6] [.ref o] M 0 0 Z := R_local (gd92 dX8_drape_14) rfl rfl rfl
theorem z92_14n : Run d 92 14 [a0, a1, a2, a3, a4, some .null, a6] [] M 0 0 Z ↔ Run d 92 16 [a0, a1, a2, a3, a4, some .null, a6] [.null] M 0 0 Z := R_local (gd92 dX8_drape_14) rfl rfl rfl
theorem z92_16n : Run d 92 16 [a0, a1, a2, a3, a4, a5, a6] [.null] M 0 0 Z ↔ Run d 92 45 [a0, a1, a2, a3, a4, a5, a6] [] M 0 0 Z := R_nullN (gd92 dX8_drape_16) (show gTgt 16 29 = some 45 by decide)
theorem z92_16 : Run d 92 16 [a0, a1, a2, a3, a4, a5, a6] [.ref o] M 0 0 Z ↔ Run d 92 19 [a0, a1, a2, a3, a4, a5, a6] [] M 0 0 Z := R_nullR (gd92 dX8_drape_16) (show gTgt 16 29 = some 45 by decide)
theorem z92_19 : Run d 92 19 [a0, a1, a2, a3, a4, a5, some (.ref o)] [] M 0 0 Z ↔ Run d 92 21 [a0, a1, a2, a3, a4, a5, some (.ref o)] [.ref o] M 0 0 Z := R_local (gd92 dX8_drape_19) rfl rfl rfl
theorem z92_19n : Run d 92 19 [a0, a1, a2, a3, a4, a5, some .null] [] M 0 0 Z ↔ Run d 92 21 [a0, a1, a2, a3, a4, a5, some .null] [.null] M 0 0 Z := R_local (gd92 dX8_drape_19) rfl rfl rfl
theorem z92_21n : Run d 92 21 [a0, a1, a2, a3, a4, a5, a6] [.null] M 0 0 Z ↔ Run d 92 45 [a0, a1, a2, a3, a4, a5, a6] [] M 0 0 Z := R_nullN (gd92 dX8_drape_21) (show gTgt 21 24 = some 45 by decide)
theorem z92_21 : Run d 92 21 [a0, a1, a2, a3, a4, a5, a6] [.ref o] M 0 0 Z ↔ Run d 92 24 [a0, a1, a2, a3, a4, a5, a6] [] M 0 0 Z := R_nullR (gd92 dX8_drape_21) (show gTgt 21 24 = some 45 by decide)
theorem z92_24 : Run d 92 24 [a0, a1, some (.int x), a3, a4, a5, a6] [] M 0 0 Z ↔ Run d 92 25 [a0, a1, some (.int x), a3, a4, a5, a6] [.int x] M 0 0 Z := R_local (gd92 dX8_drape_24) rfl rfl rfl
theorem z92_25 : Run d 92 25 [some (.ref o), a1, a2, a3, a4, a5, a6] [s0] M 0 0 Z ↔ Run d 92 26 [some (.ref o), a1, a2, a3, a4, a5, a6] [.ref o, s0] M 0 0 Z := R_local (gd92 dX8_drape_25) rfl rfl rfl
theorem z92_26 : Run d 92 26 [a0, a1, a2, a3, a4, a5, a6] [.ref o, s0] M 0 0 Z ↔ gObj M o 8 ∧ Run d 92 29 [a0, a1, a2, a3, a4, a5, a6] [.int (M.1 o 1), s0] M 0 0 Z := R_getI (gd92 dX8_drape_26) rfl gf_8_13 rfl
theorem z92_29 : Run d 92 29 [a0, a1, a2, a3, a4, a5, a6] [s1, s0] M 0 0 Z ↔ Call d 110 [s0, s1] M (fun r M1 => Run d 92 32 [a0, a1, a2, a3, a4, a5, a6] (r.toList ++ []) M1 0 0 Z) := R_call (gd92 dX8_drape_29) rfl rfl rfl rfl rfl rfl gc_8_97 rfl (by decide) (Nat.le_of_ble_eq_true rfl) (Nat.le_of_ble_eq_true rfl) rfl rfl rfl (Nat.le_of_ble_eq_true rfl) (Nat.le_of_ble_eq_true rfl)
theorem z92_32 : Run d 92 32 [a0, a1, a2, a3, a4, a5, a6] [.int x] M 0 0 Z ↔ (x = 0 → Run d 92 45 [a0, a1, a2, a3, a4, a5, a6] [] M 0 0 Z) ∧ (¬ (x = 0) → Run d 92 35 [a0, a1, a2, a3, a4, a5, a6] [] M 0 0 Z) := R_if (gd92 dX8_drape_32) (show gTgt 32 13 = some 45 by decide) gIf_eq
theorem z92_35 : Run d 92 35 [a0, a1, a2, a3, some (.int x), a5, a6] [] M 0 0 Z ↔ Run d 92 37 [a0, a1, a2, a3, some (.int x), a5, a6] [.int x] M 0 0 Z := R_local (gd92 dX8_drape_35) rfl rfl rfl
theorem z92_37 : Run d 92 37 [a0, a1, a2, a3, a4, a5, a6] [s0] M 0 0 Z ↔ Run d 92 39 [a0, a1, a2, a3, a4, a5, a6] [.int 61, s0] M 0 0 Z := R_bipush (gd92 dX8_drape_37) (by decide)
theorem z92_39 : Run d 92 39 [a0, a1, a2, a3, a4, a5, a6] [s1, s0] M 0 0 Z ↔ Call d 110 [s0, s1] M (fun r M1 => Run d 92 42 [a0, a1, a2, a3, a4, a5, a6] (r.toList ++ []) M1 0 0 Z) := R_call (gd92 dX8_drape_39) rfl rfl rfl rfl rfl rfl gc_8_97 rfl (by decide) (Nat.le_of_ble_eq_true rfl) (Nat.le_of_ble_eq_true rfl) rfl rfl rfl (Nat.le_of_ble_eq_true rfl) (Nat.le_of_ble_eq_true rfl)
theorem z92_42 : Run d 92 42 [a0, a1, a2, a3, a4, a5, a6] [.int x] M 0 0 Z ↔ (¬ x = 0 → Run d 92 47 [a0, a1, a2, a3, a4, a5, a6] [] M 0 0 Z) ∧ (¬ (¬ x = 0) → Run d 92 45 [a0, a1, a2, a3, a4, a5, a6] [] M 0 0 Z) := R_if (gd92 dX8_drape_42) (show gTgt 42 5 = some 47 by decide) gIf_ne
theorem z92_45 : Run d 92 45 [a0, a1, a2, a3, a4, a5, a6] [] M 0 0 Z ↔ Run d 92 46 [a0, a1, a2, a3, a4, a5, a6] [.int (-1)] M 0 0 Z := R_iconst (gd92 dX8_drape_45) (by decide)
theorem z92_46 : Run d 92 46 [a0, a1, a2, a3, a4, a5, a6] [.int x] M 0 0 Z ↔ Z (some (.int x)) M := R_iret (gd92 dX8_drape_46) rfl
theorem z92_47 : Run d 92 47 [some (.ref o), a1, a2, a3, a4, a5, a6] [] M 0 0 Z ↔ Run d 92 48 [some (.ref o), a1, a2, a3, a4, a5, a6] [.ref o] M 0 0 Z := R_local (gd92 dX8_drape_47) rfl rfl rfl
theorem z92_48 : Run d 92 48 [a0, a1, a2, a3, a4, a5, a6] [.ref o] M 0 0 Z ↔ gObj M o 8 ∧ Run d 92 51 [a0, a1, a2, a3, a4, a5, a6] [va_rf (M.2.1 o 11)] M 0 0 Z := R_getR (gd92 dX8_drape_48) rfl gf_8_61 rfl
theorem z92_51 : Run d 92 51 [some (.ref o), a1, a2, a3, a4, a5, a6] [s0] M 0 0 Z ↔ Run d 92 52 [some (.ref o), a1, a2, a3, a4, a5, a6] [.ref o, s0] M 0 0 Z := R_local (gd92 dX8_drape_51) rfl rfl rfl
theorem z92_52 : Run d 92 52 [a0, a1, a2, a3, a4, a5, a6] [.ref o, s0] M 0 0 Z ↔ gObj M o 8 ∧ Run d 92 55 [a0, a1, a2, a3, a4, a5, a6] [va_rf (M.2.1 o 0), s0] M 0 0 Z := R_getR (gd92 dX8_drape_52) rfl gf_8_9 rfl
theorem z92_55 : Run d 92 55 [a0, a1, some (.int x), a3, a4, a5, a6] [s1, s0] M 0 0 Z ↔ Run d 92 56 [a0, a1, some (.int x), a3, a4, a5, a6] [.int x, s1, s0] M 0 0 Z := R_local (gd92 dX8_drape_55) rfl rfl rfl
theorem z92_56 : Run d 92 56 [a0, a1, a2, a3, a4, a5, some (.ref o)] [s2, s1, s0] M 0 0 Z ↔ Run d 92 58 [a0, a1, a2, a3, a4, a5, some (.ref o)] [.ref o, s2, s1, s0] M 0 0 Z := R_local (gd92 dX8_drape_56) rfl rfl rfl
theorem z92_56n : Run d 92 56 [a0, a1, a2, a3, a4, a5, some .null] [s2, s1, s0] M 0 0 Z ↔ Run d 92 58 [a0, a1, a2, a3, a4, a5, some .null] [.null, s2, s1, s0] M 0 0 Z := R_local (gd92 dX8_drape_56) rfl rfl rfl
theorem z92_58 : Run d 92 58 [a0, a1, a2, a3, a4, a5, a6] [.ref o, s2, s1, s0] M 0 0 Z ↔ gObj M o 0 ∧ Run d 92 61 [a0, a1, a2, a3, a4, a5, a6] [.int (M.1 o 0), s2, s1, s0] M 0 0 Z := R_getI (gd92 dX8_drape_58) rfl gf_8_110 rfl
theorem z92_61 : Run d 92 61 [a0, a1, a2, a3, a4, a5, some (.ref o)] [s3, s2, s1, s0] M 0 0 Z ↔ Run d 92 63 [a0, a1, a2, a3, a4, a5, some (.ref o)] [.ref o, s3, s2, s1, s0] M 0 0 Z := R_local (gd92 dX8_drape_61) rfl rfl rfl
theorem z92_61n : Run d 92 61 [a0, a1, a2, a3, a4, a5, some .null] [s3, s2, s1, s0] M 0 0 Z ↔ Run d 92 63 [a0, a1, a2, a3, a4, a5, some .null] [.null, s3, s2, s1, s0] M 0 0 Z := R_local (gd92 dX8_drape_61) rfl rfl rfl
theorem z92_63 : Run d 92 63 [a0, a1, a2, a3, a4, a5, a6] [.ref o, s3, s2, s1, s0] M 0 0 Z ↔ gObj M o 0 ∧ Run d 92 66 [a0, a1, a2, a3, a4, a5, a6] [.int (M.1 o 1), s3, s2, s1, s0] M 0 0 Z := R_getI (gd92 dX8_drape_63) rfl gf_8_134 rfl
theorem z92_66 : Run d 92 66 [a0, a1, a2, a3, a4, a5, a6] [s4, s3, s2, s1, .ref b] M 0 0 Z ↔ gObj M b 1 ∧ Call d 4 [.ref b, s1, s2, s3, s4] M (fun r M1 => Run d 92 69 [a0, a1, a2, a3, a4, a5, a6] (r.toList ++ []) M1 0 0 Z) := R_callV (gd92 dX8_drape_66) rfl rfl rfl rfl rfl rfl gc_8_137 rfl rfl (Nat.le_of_ble_eq_true rfl) (Nat.le_of_ble_eq_true rfl) rfl rfl (Nat.le_of_ble_eq_true rfl) (Nat.le_of_ble_eq_true rfl)
theorem z92_69 : Run d 92 69 [some (.ref o), a1, a2, a3, a4, a5, a6] [] M 0 0 Z ↔ Run d 92 70 [some (.ref o), a1, a2, a3, a4, a5, a6] [.ref o] M 0 0 Z := R_local (gd92 dX8_drape_69) rfl rfl rfl
theorem z92_70 : Run d 92 70 [a0, a1, a2, a3, a4, a5, a6] [.ref o] M 0 0 Z ↔ gObj M o 8 ∧ Run d 92 73 [a0, a1, a2, a3, a4, a5, a6] [va_rf (M.2.1 o 10)] M 0 0 Z := R_getR (gd92 dX8_drape_70) rfl gf_8_54 rfl
theorem z92_73 : Run d 92 73 [a0, a1, a2, a3, a4, some (.ref o), a6] [s0] M 0 0 Z ↔ Run d 92 75 [a0, a1, a2, a3, a4, some (.ref o), a6] [.ref o, s0] M 0 0 Z := R_local (gd92 dX8_drape_73) rfl rfl rfl
theorem z92_73n : Run d 92 73 [a0, a1, a2, a3, a4, some .null, a6] [s0] M 0 0 Z ↔ Run d 92 75 [a0, a1, a2, a3, a4, some .null, a6] [.null, s0] M 0 0 Z := R_local (gd92 dX8_drape_73) rfl rfl rfl
theorem z92_75 : Run d 92 75 [some (.ref o), a1, a2, a3, a4, a5, a6] [s1, s0] M 0 0 Z ↔ Run d 92 76 [some (.ref o), a1, a2, a3, a4, a5, a6] [.ref o, s1, s0] M 0 0 Z := R_local (gd92 dX8_drape_75) rfl rfl rfl
theorem z92_76 : Run d 92 76 [a0, a1, a2, a3, a4, a5, a6] [.ref o, s1, s0] M 0 0 Z ↔ gObj M o 8 ∧ Run d 92 79 [a0, a1, a2, a3, a4, a5, a6] [va_rf (M.2.1 o 11), s1, s0] M 0 0 Z := R_getR (gd92 dX8_drape_76) rfl gf_8_61 rfl
theorem z92_79 : Run d 92 79 [a0, a1, a2, a3, some (.int x), a5, a6] [s2, s1, s0] M 0 0 Z ↔ Run d 92 81 [a0, a1, a2, a3, some (.int x), a5, a6] [.int x, s2, s1, s0] M 0 0 Z := R_local (gd92 dX8_drape_79) rfl rfl rfl
theorem z92_81 : Run d 92 81 [a0, a1, a2, a3, a4, a5, a6] [s3, s2, s1, .ref b] M 0 0 Z ↔ gObj M b 2 ∧ Call d 19 [.ref b, s1, s2, s3] M (fun r M1 => Run d 92 84 [a0, a1, a2, a3, a4, a5, a6] (r.toList ++ []) M1 0 0 Z) := R_callV (gd92 dX8_drape_81) rfl rfl rfl rfl rfl rfl gc_8_141 rfl rfl (Nat.le_of_ble_eq_true rfl) (Nat.le_of_ble_eq_true rfl) rfl rfl (Nat.le_of_ble_eq_true rfl) (Nat.le_of_ble_eq_true rfl)
theorem z92_84 : Run d 92 84 [some (.ref o), a1, a2, a3, a4, a5, a6] [] M 0 0 Z ↔ Run d 92 85 [some (.ref o), a1, a2, a3, a4, a5, a6] [.ref o] M 0 0 Z := R_local (gd92 dX8_drape_84) rfl rfl rfl
theorem z92_85 : Run d 92 85 [a0, a1, a2, a3, a4, a5, some (.ref o)] [s0] M 0 0 Z ↔ Run d 92 87 [a0, a1, a2, a3, a4, a5, some (.ref o)] [.ref o, s0] M 0 0 Z := R_local (gd92 dX8_drape_85) rfl rfl rfl
theorem z92_85n : Run d 92 85 [a0, a1, a2, a3, a4, a5, some .null] [s0] M 0 0 Z ↔ Run d 92 87 [a0, a1, a2, a3, a4, a5, some .null] [.null, s0] M 0 0 Z := R_local (gd92 dX8_drape_85) rfl rfl rfl
theorem z92_87 : Run d 92 87 [a0, a1, a2, a3, a4, a5, a6] [v, .ref o] M 0 0 Z ↔ gObj M o 8 ∧ gisRef v = true ∧ Run d 92 90 [a0, a1, a2, a3, a4, a5, a6] [] (gsR M o 15 (gU v)) 0 0 Z := R_putR (gd92 dX8_drape_87) rfl gf_8_82 (Or.inl rfl) rfl
theorem z92_90 : Run d 92 90 [some (.ref o), a1, a2, a3, a4, a5, a6] [] M 0 0 Z ↔ Run d 92 91 [some (.ref o), a1, a2, a3, a4, a5, a6] [.ref o] M 0 0 Z := R_local (gd92 dX8_drape_90) rfl rfl rfl
theorem z92_91 : Run d 92 91 [a0, a1, a2, a3, a4, a5, a6] [.ref o] M 0 0 Z ↔ gObj M o 8 ∧ Run d 92 94 [a0, a1, a2, a3, a4, a5, a6] [va_rf (M.2.1 o 13)] M 0 0 Z := R_getR (gd92 dX8_drape_91) rfl gf_8_71 rfl
theorem z92_94 : Run d 92 94 [a0, a1, a2, a3, a4, a5, a6] [.ref b] M 0 0 Z ↔ gObj M b 3 ∧ Call d 31 [.ref b] M (fun r M1 => Run d 92 97 [a0, a1, a2, a3, a4, a5, a6] (r.toList ++ []) M1 0 0 Z) := R_callV (gd92 dX8_drape_94) rfl rfl rfl rfl rfl rfl gc_8_145 rfl rfl (Nat.le_of_ble_eq_true rfl) (Nat.le_of_ble_eq_true rfl) rfl rfl (Nat.le_of_ble_eq_true rfl) (Nat.le_of_ble_eq_true rfl)
theorem z92_97 : Run d 92 97 [some (.ref o), a1, a2, a3, a4, a5, a6] [] M 0 0 Z ↔ Run d 92 98 [some (.ref o), a1, a2, a3, a4, a5, a6] [.ref o] M 0 0 Z := R_local (gd92 dX8_drape_97) rfl rfl rfl
theorem z92_98 : Run d 92 98 [a0, a1, a2, a3, a4, a5, a6] [.ref o] M 0 0 Z ↔ gObj M o 8 ∧ Run d 92 101 [a0, a1, a2, a3, a4, a5, a6] [va_rf (M.2.1 o 11)] M 0 0 Z := R_getR (gd92 dX8_drape_98) rfl gf_8_61 rfl
theorem z92_101 : Run d 92 101 [a0, a1, a2, a3, a4, a5, a6] [.ref o] M 0 0 Z ↔ gObj M o 1 ∧ Run d 92 104 [a0, a1, a2, a3, a4, a5, a6] [.int (M.1 o 14)] M 0 0 Z := R_getI (gd92 dX8_drape_101) rfl gf_8_148 rfl
theorem z92_104 : Run d 92 104 [a0, a1, a2, a3, a4, a5, a6] [.int x] M 0 0 Z ↔ (¬ x = 0 → Run d 92 117 [a0, a1, a2, a3, a4, a5, a6] [] M 0 0 Z) ∧ (¬ (¬ x = 0) → Run d 92 107 [a0, a1, a2, a3, a4, a5, a6] [] M 0 0 Z) := R_if (gd92 dX8_drape_104) (show gTgt 104 13 = some 117 by decide) gIf_ne
theorem z92_107 : Run d 92 107 [some (.ref o), a1, a2, a3, a4, a5, a6] [] M 0 0 Z ↔ Run d 92 108 [some (.ref o), a1, a2, a3, a4, a5, a6] [.ref o] M 0 0 Z := R_local (gd92 dX8_drape_107) rfl rfl rfl
theorem z92_108 : Run d 92 108 [a0, a1, a2, a3, a4, a5, a6] [.ref o] M 0 0 Z ↔ gObj M o 8 ∧ Run d 92 111 [a0, a1, a2, a3, a4, a5, a6] [va_rf (M.2.1 o 11)] M 0 0 Z := R_getR (gd92 dX8_drape_108) rfl gf_8_61 rfl
theorem z92_111 : Run d 92 111 [a0, a1, a2, a3, a4, a5, a6] [.ref o] M 0 0 Z ↔ gObj M o 1 ∧ Run d 92 114 [a0, a1, a2, a3, a4, a5, a6] [.int (M.1 o 9)] M 0 0 Z := R_getI (gd92 dX8_drape_111) rfl gf_8_151 rfl
theorem z92_114 : Run d 92 114 [a0, a1, a2, a3, a4, a5, a6] [s0] M 0 0 Z ↔ Run d 92 127 [a0, a1, a2, a3, a4, a5, a6] [s0] M 0 0 Z := R_goto (gd92 dX8_drape_114) (show gTgt 114 13 = some 127 by decide)
theorem z92_117 : Run d 92 117 [a0, a1, a2, a3, a4, a5, a6] [] M 0 0 Z ↔ Run d 92 119 [a0, a1, a2, a3, a4, a5, a6] [.int (-10)] M 0 0 Z := R_bipush (gd92 dX8_drape_117) (by decide)
theorem z92_119 : Run d 92 119 [some (.ref o), a1, a2, a3, a4, a5, a6] [s0] M 0 0 Z ↔ Run d 92 120 [some (.ref o), a1, a2, a3, a4, a5, a6] [.ref o, s0] M 0 0 Z := R_local (gd92 dX8_drape_119) rfl rfl rfl
theorem z92_120 : Run d 92 120 [a0, a1, a2, a3, a4, a5, a6] [.ref o, s0] M 0 0 Z ↔ gObj M o 8 ∧ Run d 92 123 [a0, a1, a2, a3, a4, a5, a6] [va_rf (M.2.1 o 11), s0] M 0 0 Z := R_getR (gd92 dX8_drape_120) rfl gf_8_61 rfl
theorem z92_123 : Run d 92 123 [a0, a1, a2, a3, a4, a5, a6] [.ref o, s0] M 0 0 Z ↔ gObj M o 1 ∧ Run d 92 126 [a0, a1, a2, a3, a4, a5, a6] [.int (M.1 o 14), s0] M 0 0 Z := R_getI (gd92 dX8_drape_123) rfl gf_8_148 rfl
theorem z92_126 : Run d 92 126 [a0, a1, a2, a3, a4, a5, a6] [.int y, .int x] M 0 0 Z ↔ Run d 92 127 [a0, a1, a2, a3, a4, a5, a6] [.int (x - y)] M 0 0 Z := R_arith (gd92 dX8_drape_126) rfl
theorem z92_127 : Run d 92 127 [a0, a1, a2, a3, a4, a5, a6] [.int x] M 0 0 Z ↔ Z (some (.int x)) M := R_iret (gd92 dX8_drape_127) rfl
theorem e92 : Call (d + 1) 92 [s0, s1, s2, s3, s4] M Z ↔ Run d 92 0 [some s0, some s1, some s2, some s3, some s4, none, none] [] M 0 0 Z := Call_iff (Nat.lt_of_lt_of_le (Nat.lt_succ_self 92) (Nat.le_of_ble_eq_true rfl)) (Nat.le_of_ble_eq_true rfl)
/-! 93: X8_shows (II)I -/
theorem gd93 {pc : Nat} {r : Except _ _} (h : decode cX8_shows pc = r) : decode (gby 93) pc = r := h
theorem z93_0 : Run d 93 0 [some (.ref o), a1, a2] [] M 0 0 Z ↔ Run d 93 1 [some (.ref o), a1, a2] [.ref o] M 0 0 Z := R_local (gd93 dX8_shows_0) rfl rfl rfl
theorem z93_1 : Run d 93 1 [a0, a1, a2] [.ref o] M 0 0 Z ↔ gObj M o 8 ∧ Run d 93 4 [a0, a1, a2] [va_rf (M.2.1 o 15)] M 0 0 Z := R_getR (gd93 dX8_shows_1) rfl gf_8_82 rfl
theorem z93_4n : Run d 93 4 [a0, a1, a2] [.null] M 0 0 Z ↔ Run d 93 15 [a0, a1, a2] [] M 0 0 Z := R_nullN (gd93 dX8_shows_4) (show gTgt 4 11 = some 15 by decide)
theorem z93_4 : Run d 93 4 [a0, a1, a2] [.ref o] M 0 0 Z ↔ Run d 93 7 [a0, a1, a2] [] M 0 0 Z := R_nullR (gd93 dX8_shows_4) (show gTgt 4 11 = some 15 by decide)
theorem z93_7 : Run d 93 7 [a0, some (.int x), a2] [] M 0 0 Z ↔ Run d 93 8 [a0, some (.int x), a2] [.int x] M 0 0 Z := R_local (gd93 dX8_shows_7) rfl rfl rfl
theorem z93_8 : Run d 93 8 [a0, a1, some (.int x)] [s0] M 0 0 Z ↔ Run d 93 9 [a0, a1, some (.int x)] [.int x, s0] M 0 0 Z := R_local (gd93 dX8_shows_8) rfl rfl rfl
theorem z93_9 : Run d 93 9 [a0, a1, a2] [s1, s0] M 0 0 Z ↔ Call d 113 [s0, s1] M (fun r M1 => Run d 93 12 [a0, a1, a2] (r.toList ++ []) M1 0 0 Z) := R_call (gd93 dX8_shows_9) rfl rfl rfl rfl rfl rfl gc_8_154 rfl (by decide) (Nat.le_of_ble_eq_true rfl) (Nat.le_of_ble_eq_true rfl) rfl rfl rfl (Nat.le_of_ble_eq_true rfl) (Nat.le_of_ble_eq_true rfl)
theorem z93_12 : Run d 93 12 [a0, a1, a2] [.int x] M 0 0 Z ↔ (¬ x = 0 → Run d 93 17 [a0, a1, a2] [] M 0 0 Z) ∧ (¬ (¬ x = 0) → Run d 93 15 [a0, a1, a2] [] M 0 0 Z) := R_if (gd93 dX8_shows_12) (show gTgt 12 5 = some 17 by decide) gIf_ne
theorem z93_15 : Run d 93 15 [a0, a1, a2] [] M 0 0 Z ↔ Run d 93 16 [a0, a1, a2] [.int (-1)] M 0 0 Z := R_iconst (gd93 dX8_shows_15) (by decide)
theorem z93_16 : Run d 93 16 [a0, a1, a2] [.int x] M 0 0 Z ↔ Z (some (.int x)) M := R_iret (gd93 dX8_shows_16) rfl
theorem z93_17 : Run d 93 17 [some (.ref o), a1, a2] [] M 0 0 Z ↔ Run d 93 18 [some (.ref o), a1, a2] [.ref o] M 0 0 Z := R_local (gd93 dX8_shows_17) rfl rfl rfl
theorem z93_18 : Run d 93 18 [a0, a1, a2] [.ref o] M 0 0 Z ↔ gObj M o 8 ∧ Run d 93 21 [a0, a1, a2] [va_rf (M.2.1 o 11)] M 0 0 Z := R_getR (gd93 dX8_shows_18) rfl gf_8_61 rfl
theorem z93_21 : Run d 93 21 [a0, a1, a2] [.ref o] M 0 0 Z ↔ gObj M o 1 ∧ Run d 93 24 [a0, a1, a2] [va_rf (M.2.1 o 0)] M 0 0 Z := R_getR (gd93 dX8_shows_21) rfl gf_8_157 rfl
theorem z93_24 : Run d 93 24 [some (.ref o), a1, a2] [s0] M 0 0 Z ↔ Run d 93 25 [some (.ref o), a1, a2] [.ref o, s0] M 0 0 Z := R_local (gd93 dX8_shows_24) rfl rfl rfl
theorem z93_25 : Run d 93 25 [a0, a1, a2] [.ref o, s0] M 0 0 Z ↔ gObj M o 8 ∧ Run d 93 28 [a0, a1, a2] [va_rf (M.2.1 o 11), s0] M 0 0 Z := R_getR (gd93 dX8_shows_25) rfl gf_8_61 rfl
theorem z93_28 : Run d 93 28 [a0, a1, a2] [.ref o, s0] M 0 0 Z ↔ gObj M o 1 ∧ Run d 93 31 [a0, a1, a2] [va_rf (M.2.1 o 0), s0] M 0 0 Z := R_getR (gd93 dX8_shows_28) rfl gf_8_157 rfl
theorem z93_31 : Run d 93 31 [a0, some (.int x), a2] [s1, s0] M 0 0 Z ↔ Run d 93 32 [a0, some (.int x), a2] [.int x, s1, s0] M 0 0 Z := R_local (gd93 dX8_shows_31) rfl rfl rfl
theorem z93_32 : Run d 93 32 [a0, a1, some (.int x)] [s2, s1, s0] M 0 0 Z ↔ Run d 93 33 [a0, a1, some (.int x)] [.int x, s2, s1, s0] M 0 0 Z := R_local (gd93 dX8_shows_32) rfl rfl rfl
theorem z93_33 : Run d 93 33 [a0, a1, a2] [s3, s2, .ref b, s0] M 0 0 Z ↔ gObj M b 4 ∧ Call d 45 [.ref b, s2, s3] M (fun r M1 => Run d 93 36 [a0, a1, a2] (r.toList ++ [s0]) M1 0 0 Z) := R_callV (gd93 dX8_shows_33) rfl rfl rfl rfl rfl rfl gc_8_161 rfl rfl (Nat.le_of_ble_eq_true rfl) (Nat.le_of_ble_eq_true rfl) rfl rfl (Nat.le_of_ble_eq_true rfl) (Nat.le_of_ble_eq_true rfl)
theorem z93_36 : Run d 93 36 [a0, some (.int x), a2] [s1, s0] M 0 0 Z ↔ Run d 93 37 [a0, some (.int x), a2] [.int x, s1, s0] M 0 0 Z := R_local (gd93 dX8_shows_36) rfl rfl rfl
theorem z93_37 : Run d 93 37 [some (.ref o), a1, a2] [s2, s1, s0] M 0 0 Z ↔ Run d 93 38 [some (.ref o), a1, a2] [.ref o, s2, s1, s0] M 0 0 Z := R_local (gd93 dX8_shows_37) rfl rfl rfl
theorem z93_38 : Run d 93 38 [a0, a1, a2] [.ref o, s2, s1, s0] M 0 0 Z ↔ gObj M o 8 ∧ Run d 93 41 [a0, a1, a2] [va_rf (M.2.1 o 15), s2, s1, s0] M 0 0 Z := R_getR (gd93 dX8_shows_38) rfl gf_8_82 rfl
theorem z93_41 : Run d 93 41 [a0, a1, a2] [s3, s2, s1, .ref b] M 0 0 Z ↔ gObj M b 4 ∧ Call d 47 [.ref b, s1, s2, s3] M (fun r M1 => Run d 93 44 [a0, a1, a2] (r.toList ++ []) M1 0 0 Z) := R_callV (gd93 dX8_shows_41) rfl rfl rfl rfl rfl rfl gc_8_167 rfl rfl (Nat.le_of_ble_eq_true rfl) (Nat.le_of_ble_eq_true rfl) rfl rfl (Nat.le_of_ble_eq_true rfl) (Nat.le_of_ble_eq_true rfl)
theorem z93_44 : Run d 93 44 [a0, a1, a2] [.int x] M 0 0 Z ↔ Z (some (.int x)) M := R_iret (gd93 dX8_shows_44) rfl
theorem e93 : Call (d + 1) 93 [s0, s1, s2] M Z ↔ Run d 93 0 [some s0, some s1, some s2] [] M 0 0 Z := Call_iff (Nat.lt_of_lt_of_le (Nat.lt_succ_self 93) (Nat.le_of_ble_eq_true rfl)) (Nat.le_of_ble_eq_true rfl)
/-! 94: X8_layers (II)I -/
theorem gd94 {pc : Nat} {r : Except _ _} (h : decode cX8_layers pc = r) : decode (gby 94) pc = r := h
theorem z94_0 : Run d 94 0 [some (.ref o), a1, a2] [] M 0 0 Z ↔ Run d 94 1 [some (.ref o), a1, a2] [.ref o] M 0 0 Z := R_local (gd94 dX8_layers_0) rfl rfl rfl
theorem z94_1 : Run d 94 1 [a0, a1, a2] [.ref o] M 0 0 Z ↔ gObj M o 8 ∧ Run d 94 4 [a0, a1, a2] [va_rf (M.2.1 o 15)] M 0 0 Z := R_getR (gd94 dX8_layers_1) rfl gf_8_82 rfl
theorem z94_4n : Run d 94 4 [a0, a1, a2] [.null] M 0 0 Z ↔ Run d 94 15 [a0, a1, a2] [] M 0 0 Z := R_nullN (gd94 dX8_layers_4) (show gTgt 4 11 = some 15 by decide)
theorem z94_4 : Run d 94 4 [a0, a1, a2] [.ref o] M 0 0 Z ↔ Run d 94 7 [a0, a1, a2] [] M 0 0 Z := R_nullR (gd94 dX8_layers_4) (show gTgt 4 11 = some 15 by decide)
theorem z94_7 : Run d 94 7 [a0, some (.int x), a2] [] M 0 0 Z ↔ Run d 94 8 [a0, some (.int x), a2] [.int x] M 0 0 Z := R_local (gd94 dX8_layers_7) rfl rfl rfl
theorem z94_8 : Run d 94 8 [a0, a1, some (.int x)] [s0] M 0 0 Z ↔ Run d 94 9 [a0, a1, some (.int x)] [.int x, s0] M 0 0 Z := R_local (gd94 dX8_layers_8) rfl rfl rfl
theorem z94_9 : Run d 94 9 [a0, a1, a2] [s1, s0] M 0 0 Z ↔ Call d 113 [s0, s1] M (fun r M1 => Run d 94 12 [a0, a1, a2] (r.toList ++ []) M1 0 0 Z) := R_call (gd94 dX8_layers_9) rfl rfl rfl rfl rfl rfl gc_8_154 rfl (by decide) (Nat.le_of_ble_eq_true rfl) (Nat.le_of_ble_eq_true rfl) rfl rfl rfl (Nat.le_of_ble_eq_true rfl) (Nat.le_of_ble_eq_true rfl)
theorem z94_12 : Run d 94 12 [a0, a1, a2] [.int x] M 0 0 Z ↔ (¬ x = 0 → Run d 94 17 [a0, a1, a2] [] M 0 0 Z) ∧ (¬ (¬ x = 0) → Run d 94 15 [a0, a1, a2] [] M 0 0 Z) := R_if (gd94 dX8_layers_12) (show gTgt 12 5 = some 17 by decide) gIf_ne
theorem z94_15 : Run d 94 15 [a0, a1, a2] [] M 0 0 Z ↔ Run d 94 16 [a0, a1, a2] [.int (-1)] M 0 0 Z := R_iconst (gd94 dX8_layers_15) (by decide)
theorem z94_16 : Run d 94 16 [a0, a1, a2] [.int x] M 0 0 Z ↔ Z (some (.int x)) M := R_iret (gd94 dX8_layers_16) rfl
theorem z94_17 : Run d 94 17 [some (.ref o), a1, a2] [] M 0 0 Z ↔ Run d 94 18 [some (.ref o), a1, a2] [.ref o] M 0 0 Z := R_local (gd94 dX8_layers_17) rfl rfl rfl
theorem z94_18 : Run d 94 18 [a0, a1, a2] [.ref o] M 0 0 Z ↔ gObj M o 8 ∧ Run d 94 21 [a0, a1, a2] [va_rf (M.2.1 o 11)] M 0 0 Z := R_getR (gd94 dX8_layers_18) rfl gf_8_61 rfl
theorem z94_21 : Run d 94 21 [a0, a1, a2] [.ref o] M 0 0 Z ↔ gObj M o 1 ∧ Run d 94 24 [a0, a1, a2] [va_rf (M.2.1 o 0)] M 0 0 Z := R_getR (gd94 dX8_layers_21) rfl gf_8_157 rfl
theorem z94_24 : Run d 94 24 [a0, some (.int x), a2] [s0] M 0 0 Z ↔ Run d 94 25 [a0, some (.int x), a2] [.int x, s0] M 0 0 Z := R_local (gd94 dX8_layers_24) rfl rfl rfl
theorem z94_25 : Run d 94 25 [a0, a1, some (.int x)] [s1, s0] M 0 0 Z ↔ Run d 94 26 [a0, a1, some (.int x)] [.int x, s1, s0] M 0 0 Z := R_local (gd94 dX8_layers_25) rfl rfl rfl
theorem z94_26 : Run d 94 26 [a0, a1, a2] [s2, s1, .ref b] M 0 0 Z ↔ gObj M b 4 ∧ Call d 46 [.ref b, s1, s2] M (fun r M1 => Run d 94 29 [a0, a1, a2] (r.toList ++ []) M1 0 0 Z) := R_callV (gd94 dX8_layers_26) rfl rfl rfl rfl rfl rfl gc_8_171 rfl rfl (Nat.le_of_ble_eq_true rfl) (Nat.le_of_ble_eq_true rfl) rfl rfl (Nat.le_of_ble_eq_true rfl) (Nat.le_of_ble_eq_true rfl)
theorem z94_29 : Run d 94 29 [a0, a1, a2] [.int x] M 0 0 Z ↔ Z (some (.int x)) M := R_iret (gd94 dX8_layers_29) rfl
theorem e94 : Call (d + 1) 94 [s0, s1, s2] M Z ↔ Run d 94 0 [some s0, some s1, some s2] [] M 0 0 Z := Call_iff (Nat.lt_of_lt_of_le (Nat.lt_succ_self 94) (Nat.le_of_ble_eq_true rfl)) (Nat.le_of_ble_eq_true rfl)
/-! 95: X8_layer (II)I -/
theorem gd95 {pc : Nat} {r : Except _ _} (h : decode cX8_layer pc = r) : decode (gby 95) pc = r := h
theorem z95_0 : Run d 95 0 [some (.ref o), a1, a2] [] M 0 0 Z ↔ Run d 95 1 [some (.ref o), a1, a2] [.ref o] M 0 0 Z := R_local (gd95 dX8_layer_0) rfl rfl rfl
theorem z95_1 : Run d 95 1 [a0, a1, a2] [.ref o] M 0 0 Z ↔ gObj M o 8 ∧ Run d 95 4 [a0, a1, a2] [va_rf (M.2.1 o 15)] M 0 0 Z := R_getR (gd95 dX8_layer_1) rfl gf_8_82 rfl
theorem z95_4n : Run d 95 4 [a0, a1, a2] [.null] M 0 0 Z ↔ Run d 95 7 [a0, a1, a2] [] M 0 0 Z := R_nonnullN (gd95 dX8_layer_4) (show gTgt 4 5 = some 9 by decide)
theorem z95_4 : Run d 95 4 [a0, a1, a2] [.ref o] M 0 0 Z ↔ Run d 95 9 [a0, a1, a2] [] M 0 0 Z := R_nonnullR (gd95 dX8_layer_4) (show gTgt 4 5 = some 9 by decide)
theorem z95_7 : Run d 95 7 [a0, a1, a2] [] M 0 0 Z ↔ Run d 95 8 [a0, a1, a2] [.int (-1)] M 0 0 Z := R_iconst (gd95 dX8_layer_7) (by decide)
theorem z95_8 : Run d 95 8 [a0, a1, a2] [.int x] M 0 0 Z ↔ Z (some (.int x)) M := R_iret (gd95 dX8_layer_8) rfl
theorem z95_9 : Run d 95 9 [some (.ref o), a1, a2] [] M 0 0 Z ↔ Run d 95 10 [some (.ref o), a1, a2] [.ref o] M 0 0 Z := R_local (gd95 dX8_layer_9) rfl rfl rfl
theorem z95_10 : Run d 95 10 [a0, a1, a2] [.ref o] M 0 0 Z ↔ gObj M o 8 ∧ Run d 95 13 [a0, a1, a2] [va_rf (M.2.1 o 11)] M 0 0 Z := R_getR (gd95 dX8_layer_10) rfl gf_8_61 rfl
theorem z95_13 : Run d 95 13 [a0, a1, a2] [.ref o] M 0 0 Z ↔ gObj M o 1 ∧ Run d 95 16 [a0, a1, a2] [va_rf (M.2.1 o 0)] M 0 0 Z := R_getR (gd95 dX8_layer_13) rfl gf_8_157 rfl
theorem z95_16 : Run d 95 16 [a0, some (.int x), a2] [s0] M 0 0 Z ↔ Run d 95 17 [a0, some (.int x), a2] [.int x, s0] M 0 0 Z := R_local (gd95 dX8_layer_16) rfl rfl rfl
theorem z95_17 : Run d 95 17 [a0, a1, some (.int x)] [s1, s0] M 0 0 Z ↔ Run d 95 18 [a0, a1, some (.int x)] [.int x, s1, s0] M 0 0 Z := R_local (gd95 dX8_layer_17) rfl rfl rfl
theorem z95_18 : Run d 95 18 [a0, a1, a2] [s2, s1, .ref b] M 0 0 Z ↔ gObj M b 4 ∧ Call d 43 [.ref b, s1, s2] M (fun r M1 => Run d 95 21 [a0, a1, a2] (r.toList ++ []) M1 0 0 Z) := R_callV (gd95 dX8_layer_18) rfl rfl rfl rfl rfl rfl gc_8_174 rfl rfl (Nat.le_of_ble_eq_true rfl) (Nat.le_of_ble_eq_true rfl) rfl rfl (Nat.le_of_ble_eq_true rfl) (Nat.le_of_ble_eq_true rfl)
theorem z95_21 : Run d 95 21 [a0, a1, a2] [.int x] M 0 0 Z ↔ Z (some (.int x)) M := R_iret (gd95 dX8_layer_21) rfl
theorem e95 : Call (d + 1) 95 [s0, s1, s2] M Z ↔ Run d 95 0 [some s0, some s1, some s2] [] M 0 0 Z := Call_iff (Nat.lt_of_lt_of_le (Nat.lt_succ_self 95) (Nat.le_of_ble_eq_true rfl)) (Nat.le_of_ble_eq_true rfl)
/-! 96: X8_look (I)I -/
theorem gd96 {pc : Nat} {r : Except _ _} (h : decode cX8_look pc = r) : decode (gby 96) pc = r := h
theorem z96_0 : Run d 96 0 [some (.ref o), a1] [] M 0 0 Z ↔ Run d 96 1 [some (.ref o), a1] [.ref o] M 0 0 Z := R_local (gd96 dX8_look_0) rfl rfl rfl
theorem z96_1 : Run d 96 1 [a0, a1] [.ref o] M 0 0 Z ↔ gObj M o 8 ∧ Run d 96 4 [a0, a1] [va_rf (M.2.1 o 15)] M 0 0 Z := R_getR (gd96 dX8_look_1) rfl gf_8_82 rfl
theorem z96_4n : Run d 96 4 [a0, a1] [.null] M 0 0 Z ↔ Run d 96 7 [a0, a1] [] M 0 0 Z := R_nonnullN (gd96 dX8_look_4) (show gTgt 4 5 = some 9 by decide)
theorem z96_4 : Run d 96 4 [a0, a1] [.ref o] M 0 0 Z ↔ Run d 96 9 [a0, a1] [] M 0 0 Z := R_nonnullR (gd96 dX8_look_4) (show gTgt 4 5 = some 9 by decide)
theorem z96_7 : Run d 96 7 [a0, a1] [] M 0 0 Z ↔ Run d 96 8 [a0, a1] [.int (-1)] M 0 0 Z := R_iconst (gd96 dX8_look_7) (by decide)
theorem z96_8 : Run d 96 8 [a0, a1] [.int x] M 0 0 Z ↔ Z (some (.int x)) M := R_iret (gd96 dX8_look_8) rfl
theorem z96_9 : Run d 96 9 [some (.ref o), a1] [] M 0 0 Z ↔ Run d 96 10 [some (.ref o), a1] [.ref o] M 0 0 Z := R_local (gd96 dX8_look_9) rfl rfl rfl
theorem z96_10 : Run d 96 10 [a0, a1] [.ref o] M 0 0 Z ↔ gObj M o 8 ∧ Run d 96 13 [a0, a1] [va_rf (M.2.1 o 11)] M 0 0 Z := R_getR (gd96 dX8_look_10) rfl gf_8_61 rfl
theorem z96_13 : Run d 96 13 [a0, some (.int x)] [s0] M 0 0 Z ↔ Run d 96 14 [a0, some (.int x)] [.int x, s0] M 0 0 Z := R_local (gd96 dX8_look_13) rfl rfl rfl
theorem z96_14 : Run d 96 14 [a0, a1] [s1, .ref b] M 0 0 Z ↔ gObj M b 1 ∧ Call d 17 [.ref b, s1] M (fun r M1 => Run d 96 17 [a0, a1] (r.toList ++ []) M1 0 0 Z) := R_callV (gd96 dX8_look_14) rfl rfl rfl rfl rfl rfl gc_8_177 rfl rfl (Nat.le_of_ble_eq_true rfl) (Nat.le_of_ble_eq_true rfl) rfl rfl (Nat.le_of_ble_eq_true rfl) (Nat.le_of_ble_eq_true rfl)
theorem z96_17 : Run d 96 17 [a0, a1] [.int x] M 0 0 Z ↔ Z (some (.int x)) M := R_iret (gd96 dX8_look_17) rfl
theorem e96 : Call (d + 1) 96 [s0, s1] M Z ↔ Run d 96 0 [some s0, some s1] [] M 0 0 Z := Call_iff (Nat.lt_of_lt_of_le (Nat.lt_succ_self 96) (Nat.le_of_ble_eq_true rfl)) (Nat.le_of_ble_eq_true rfl)
/-! 97: X8_strength (I)I -/
theorem gd97 {pc : Nat} {r : Except _ _} (h : decode cX8_strength pc = r) : decode (gby 97) pc = r := h
theorem z97_0 : Run d 97 0 [some (.ref o), a1] [] M 0 0 Z ↔ Run d 97 1 [some (.ref o), a1] [.ref o] M 0 0 Z := R_local (gd97 dX8_strength_0) rfl rfl rfl
theorem z97_1 : Run d 97 1 [a0, a1] [.ref o] M 0 0 Z ↔ gObj M o 8 ∧ Run d 97 4 [a0, a1] [va_rf (M.2.1 o 15)] M 0 0 Z := R_getR (gd97 dX8_strength_1) rfl gf_8_82 rfl
theorem z97_4n : Run d 97 4 [a0, a1] [.null] M 0 0 Z ↔ Run d 97 21 [a0, a1] [] M 0 0 Z := R_nullN (gd97 dX8_strength_4) (show gTgt 4 17 = some 21 by decide)
theorem z97_4 : Run d 97 4 [a0, a1] [.ref o] M 0 0 Z ↔ Run d 97 7 [a0, a1] [] M 0 0 Z := R_nullR (gd97 dX8_strength_4) (show gTgt 4 17 = some 21 by decide)
theorem z97_7 : Run d 97 7 [a0, some (.int x)] [] M 0 0 Z ↔ Run d 97 8 [a0, some (.int x)] [.int x] M 0 0 Z := R_local (gd97 dX8_strength_7) rfl rfl rfl
theorem z97_8 : Run d 97 8 [some (.ref o), a1] [s0] M 0 0 Z ↔ Run d 97 9 [some (.ref o), a1] [.ref o, s0] M 0 0 Z := R_local (gd97 dX8_strength_8) rfl rfl rfl
theorem z97_9 : Run d 97 9 [a0, a1] [.ref o, s0] M 0 0 Z ↔ gObj M o 8 ∧ Run d 97 12 [a0, a1] [va_rf (M.2.1 o 11), s0] M 0 0 Z := R_getR (gd97 dX8_strength_9) rfl gf_8_61 rfl
theorem z97_12 : Run d 97 12 [a0, a1] [.ref o, s0] M 0 0 Z ↔ gObj M o 1 ∧ Run d 97 15 [a0, a1] [.int (M.1 o 9), s0] M 0 0 Z := R_getI (gd97 dX8_strength_12) rfl gf_8_151 rfl
theorem z97_15 : Run d 97 15 [a0, a1] [s1, s0] M 0 0 Z ↔ Call d 110 [s0, s1] M (fun r M1 => Run d 97 18 [a0, a1] (r.toList ++ []) M1 0 0 Z) := R_call (gd97 dX8_strength_15) rfl rfl rfl rfl rfl rfl gc_8_97 rfl (by decide) (Nat.le_of_ble_eq_true rfl) (Nat.le_of_ble_eq_true rfl) rfl rfl rfl (Nat.le_of_ble_eq_true rfl) (Nat.le_of_ble_eq_true rfl)
theorem z97_18 : Run d 97 18 [a0, a1] [.int x] M 0 0 Z ↔ (¬ x = 0 → Run d 97 23 [a0, a1] [] M 0 0 Z) ∧ (¬ (¬ x = 0) → Run d 97 21 [a0, a1] [] M 0 0 Z) := R_if (gd97 dX8_strength_18) (show gTgt 18 5 = some 23 by decide) gIf_ne
theorem z97_21 : Run d 97 21 [a0, a1] [] M 0 0 Z ↔ Run d 97 22 [a0, a1] [.int (-1)] M 0 0 Z := R_iconst (gd97 dX8_strength_21) (by decide)
theorem z97_22 : Run d 97 22 [a0, a1] [.int x] M 0 0 Z ↔ Z (some (.int x)) M := R_iret (gd97 dX8_strength_22) rfl
theorem z97_23 : Run d 97 23 [some (.ref o), a1] [] M 0 0 Z ↔ Run d 97 24 [some (.ref o), a1] [.ref o] M 0 0 Z := R_local (gd97 dX8_strength_23) rfl rfl rfl
theorem z97_24 : Run d 97 24 [a0, a1] [.ref o] M 0 0 Z ↔ gObj M o 8 ∧ Run d 97 27 [a0, a1] [va_rf (M.2.1 o 13)] M 0 0 Z := R_getR (gd97 dX8_strength_24) rfl gf_8_71 rfl
theorem z97_27 : Run d 97 27 [some (.ref o), a1] [s0] M 0 0 Z ↔ Run d 97 28 [some (.ref o), a1] [.ref o, s0] M 0 0 Z := R_local (gd97 dX8_strength_27) rfl rfl rfl
theorem z97_28 : Run d 97 28 [a0, a1] [.ref o, s0] M 0 0 Z ↔ gObj M o 8 ∧ Run d 97 31 [a0, a1] [va_rf (M.2.1 o 11), s0] M 0 0 Z := R_getR (gd97 dX8_strength_28) rfl gf_8_61 rfl
theorem z97_31 : Run d 97 31 [a0, a1] [.ref o, s0] M 0 0 Z ↔ gObj M o 1 ∧ Run d 97 34 [a0, a1] [va_rf (M.2.1 o 0), s0] M 0 0 Z := R_getR (gd97 dX8_strength_31) rfl gf_8_157 rfl
theorem z97_34 : Run d 97 34 [a0, some (.int x)] [s1, s0] M 0 0 Z ↔ Run d 97 35 [a0, some (.int x)] [.int x, s1, s0] M 0 0 Z := R_local (gd97 dX8_strength_34) rfl rfl rfl
theorem z97_35 : Run d 97 35 [a0, a1] [s2, s1, .ref b] M 0 0 Z ↔ gObj M b 3 ∧ Call d 33 [.ref b, s1, s2] M (fun r M1 => Run d 97 38 [a0, a1] (r.toList ++ []) M1 0 0 Z) := R_callV (gd97 dX8_strength_35) rfl rfl rfl rfl rfl rfl gc_8_180 rfl rfl (Nat.le_of_ble_eq_true rfl) (Nat.le_of_ble_eq_true rfl) rfl rfl (Nat.le_of_ble_eq_true rfl) (Nat.le_of_ble_eq_true rfl)
theorem z97_38 : Run d 97 38 [a0, a1] [.int x] M 0 0 Z ↔ Z (some (.int x)) M := R_iret (gd97 dX8_strength_38) rfl
theorem e97 : Call (d + 1) 97 [s0, s1] M Z ↔ Run d 97 0 [some s0, some s1] [] M 0 0 Z := Call_iff (Nat.lt_of_lt_of_le (Nat.lt_succ_self 97) (Nat.le_of_ble_eq_true rfl)) (Nat.le_of_ble_eq_true rfl)
/-! 98: X8_stretch (III)Z -/
theorem gd98 {pc : Nat} {r : Except _ _} (h : decode cX8_stretch pc = r) : decode (gby 98) pc = r := h
theorem z98_0 : Run d 98 0 [a0, some (.int x), a2, a3] [] M 0 0 Z ↔ Run d 98 1 [a0, some (.int x), a2, a3] [.int x] M 0 0 Z := R_local (gd98 dX8_stretch_0) rfl rfl rfl
theorem z98_1 : Run d 98 1 [a0, a1, a2, a3] [s0] M 0 0 Z ↔ Run d 98 3 [a0, a1, a2, a3] [.int 6, s0] M 0 0 Z := R_bipush (gd98 dX8_stretch_1) (by decide)
theorem z98_3 : Run d 98 3 [a0, a1, a2, a3] [s1, s0] M 0 0 Z ↔ Call d 110 [s0, s1] M (fun r M1 => Run d 98 6 [a0, a1, a2, a3] (r.toList ++ []) M1 0 0 Z) := R_call (gd98 dX8_stretch_3) rfl rfl rfl rfl rfl rfl gc_8_97 rfl (by decide) (Nat.le_of_ble_eq_true rfl) (Nat.le_of_ble_eq_true rfl) rfl rfl rfl (Nat.le_of_ble_eq_true rfl) (Nat.le_of_ble_eq_true rfl)
theorem z98_6 : Run d 98 6 [a0, a1, a2, a3] [.int x] M 0 0 Z ↔ (x = 0 → Run d 98 27 [a0, a1, a2, a3] [] M 0 0 Z) ∧ (¬ (x = 0) → Run d 98 9 [a0, a1, a2, a3] [] M 0 0 Z) := R_if (gd98 dX8_stretch_6) (show gTgt 6 21 = some 27 by decide) gIf_eq
theorem z98_9 : Run d 98 9 [a0, a1, some (.int x), a3] [] M 0 0 Z ↔ Run d 98 10 [a0, a1, some (.int x), a3] [.int x] M 0 0 Z := R_local (gd98 dX8_stretch_9) rfl rfl rfl
theorem z98_10 : Run d 98 10 [a0, a1, a2, a3] [s0] M 0 0 Z ↔ Run d 98 12 [a0, a1, a2, a3] [.int 8, s0] M 0 0 Z := R_bipush (gd98 dX8_stretch_10) (by decide)
theorem z98_12 : Run d 98 12 [a0, a1, a2, a3] [s1, s0] M 0 0 Z ↔ Call d 110 [s0, s1] M (fun r M1 => Run d 98 15 [a0, a1, a2, a3] (r.toList ++ []) M1 0 0 Z) := R_call (gd98 dX8_stretch_12) rfl rfl rfl rfl rfl rfl gc_8_97 rfl (by decide) (Nat.le_of_ble_eq_true rfl) (Nat.le_of_ble_eq_true rfl) rfl rfl rfl (Nat.le_of_ble_eq_true rfl) (Nat.le_of_ble_eq_true rfl)
theorem z98_15 : Run d 98 15 [a0, a1, a2, a3] [.int x] M 0 0 Z ↔ (x = 0 → Run d 98 27 [a0, a1, a2, a3] [] M 0 0 Z) ∧ (¬ (x = 0) → Run d 98 18 [a0, a1, a2, a3] [] M 0 0 Z) := R_if (gd98 dX8_stretch_15) (show gTgt 15 12 = some 27 by decide) gIf_eq
theorem z98_18 : Run d 98 18 [a0, a1, a2, some (.int x)] [] M 0 0 Z ↔ Run d 98 19 [a0, a1, a2, some (.int x)] [.int x] M 0 0 Z := R_local (gd98 dX8_stretch_18) rfl rfl rfl
theorem z98_19 : Run d 98 19 [a0, a1, a2, a3] [s0] M 0 0 Z ↔ Run d 98 21 [a0, a1, a2, a3] [.int 10, s0] M 0 0 Z := R_bipush (gd98 dX8_stretch_19) (by decide)
theorem z98_21 : Run d 98 21 [a0, a1, a2, a3] [s1, s0] M 0 0 Z ↔ Call d 110 [s0, s1] M (fun r M1 => Run d 98 24 [a0, a1, a2, a3] (r.toList ++ []) M1 0 0 Z) := R_call (gd98 dX8_stretch_21) rfl rfl rfl rfl rfl rfl gc_8_97 rfl (by decide) (Nat.le_of_ble_eq_true rfl) (Nat.le_of_ble_eq_true rfl) rfl rfl rfl (Nat.le_of_ble_eq_true rfl) (Nat.le_of_ble_eq_true rfl)
theorem z98_24 : Run d 98 24 [a0, a1, a2, a3] [.int x] M 0 0 Z ↔ (¬ x = 0 → Run d 98 29 [a0, a1, a2, a3] [] M 0 0 Z) ∧ (¬ (¬ x = 0) → Run d 98 27 [a0, a1, a2, a3] [] M 0 0 Z) := R_if (gd98 dX8_stretch_24) (show gTgt 24 5 = some 29 by decide) gIf_ne
theorem z98_27 : Run d 98 27 [a0, a1, a2, a3] [] M 0 0 Z ↔ Run d 98 28 [a0, a1, a2, a3] [.int 0] M 0 0 Z := R_iconst (gd98 dX8_stretch_27) (by decide)
theorem z98_28 : Run d 98 28 [a0, a1, a2, a3] [.int x] M 0 0 Z ↔ (x = 0 ∨ x = 1) ∧ Z (some (.int x)) M := R_iretZ (gd98 dX8_stretch_28) rfl
theorem z98_29 : Run d 98 29 [some (.ref o), a1, a2, a3] [] M 0 0 Z ↔ Run d 98 30 [some (.ref o), a1, a2, a3] [.ref o] M 0 0 Z := R_local (gd98 dX8_stretch_29) rfl rfl rfl
theorem z98_30 : Run d 98 30 [a0, a1, a2, a3] [.ref o] M 0 0 Z ↔ gObj M o 8 ∧ Run d 98 33 [a0, a1, a2, a3] [va_rf (M.2.1 o 8)] M 0 0 Z := R_getR (gd98 dX8_stretch_30) rfl gf_8_41 rfl
theorem z98_33 : Run d 98 33 [a0, some (.int x), a2, a3] [s0] M 0 0 Z ↔ Run d 98 34 [a0, some (.int x), a2, a3] [.int x, s0] M 0 0 Z := R_local (gd98 dX8_stretch_33) rfl rfl rfl
theorem z98_34 : Run d 98 34 [a0, a1, a2, a3] [s1, s0] M 0 0 Z ↔ Run d 98 36 [a0, a1, a2, a3] [.int 8, s1, s0] M 0 0 Z := R_bipush (gd98 dX8_stretch_34) (by decide)
theorem z98_36 : Run d 98 36 [a0, a1, a2, a3] [.int y, .int x, s0] M 0 0 Z ↔ Run d 98 37 [a0, a1, a2, a3] [.int (x * y), s0] M 0 0 Z := R_arith (gd98 dX8_stretch_36) rfl
theorem z98_37 : Run d 98 37 [a0, a1, some (.int x), a3] [s1, s0] M 0 0 Z ↔ Run d 98 38 [a0, a1, some (.int x), a3] [.int x, s1, s0] M 0 0 Z := R_local (gd98 dX8_stretch_37) rfl rfl rfl
theorem z98_38 : Run d 98 38 [a0, a1, a2, a3] [.int y, .int x, s0] M 0 0 Z ↔ Run d 98 39 [a0, a1, a2, a3] [.int (x + y), s0] M 0 0 Z := R_arith (gd98 dX8_stretch_38) rfl
theorem z98_39 : Run d 98 39 [a0, a1, a2, some (.int x)] [s1, s0] M 0 0 Z ↔ Run d 98 40 [a0, a1, a2, some (.int x)] [.int x, s1, s0] M 0 0 Z := R_local (gd98 dX8_stretch_39) rfl rfl rfl
theorem z98_40 : Run d 98 40 [a0, a1, a2, a3] [.int y, .int x, .ref o] M 0 0 Z ↔ gAr M o 0 ∧ gIn x (gLen M o) = true ∧ Run d 98 41 [a0, a1, a2, a3] [] (gsI M o x.toNatClampNeg y) 0 0 Z := R_iast (gd98 dX8_stretch_40)
theorem z98_41 : Run d 98 41 [a0, a1, a2, a3] [] M 0 0 Z ↔ Run d 98 42 [a0, a1, a2, a3] [.int 1] M 0 0 Z := R_iconst (gd98 dX8_stretch_41) (by decide)
theorem z98_42 : Run d 98 42 [a0, a1, a2, a3] [.int x] M 0 0 Z ↔ (x = 0 ∨ x = 1) ∧ Z (some (.int x)) M := R_iretZ (gd98 dX8_stretch_42) rfl
theorem e98 : Call (d + 1) 98 [s0, s1, s2, s3] M Z ↔ Run d 98 0 [some s0, some s1, some s2, some s3] [] M 0 0 Z := Call_iff (Nat.lt_of_lt_of_le (Nat.lt_succ_self 98) (Nat.le_of_ble_eq_true rfl)) (Nat.le_of_ble_eq_true rfl)
/-! 99: X8_pull (II)I -/
theorem gd99 {pc : Nat} {r : Except _ _} (h : decode cX8_pull pc = r) : decode (gby 99) pc = r := h
theorem z99_0 : Run d 99 0 [some (.ref o), a1, a2, a3, a4] [] M 0 0 Z ↔ Run d 99 1 [some (.ref o), a1, a2, a3, a4] [.ref o] M 0 0 Z := R_local (gd99 dX8_pull_0) rfl rfl rfl
theorem z99_1 : Run d 99 1 [a0, a1, a2, a3, a4] [.ref o] M 0 0 Z ↔ gObj M o 8 ∧ Run d 99 4 [a0, a1, a2, a3, a4] [va_rf (M.2.1 o 15)] M 0 0 Z := R_getR (gd99 dX8_pull_1) rfl gf_8_82 rfl
theorem z99_4n : Run d 99 4 [a0, a1, a2, a3, a4] [.null] M 0 0 Z ↔ Run d 99 30 [a0, a1, a2, a3, a4] [] M 0 0 Z := R_nullN (gd99 dX8_pull_4) (show gTgt 4 26 = some 30 by decide)
theorem z99_4 : Run d 99 4 [a0, a1, a2, a3, a4] [.ref o] M 0 0 Z ↔ Run d 99 7 [a0, a1, a2, a3, a4] [] M 0 0 Z := R_nullR (gd99 dX8_pull_4) (show gTgt 4 26 = some 30 by decide)
theorem z99_7 : Run d 99 7 [a0, some (.int x), a2, a3, a4] [] M 0 0 Z ↔ Run d 99 8 [a0, some (.int x), a2, a3, a4] [.int x] M 0 0 Z := R_local (gd99 dX8_pull_7) rfl rfl rfl
theorem z99_8 : Run d 99 8 [a0, a1, a2, a3, a4] [s0] M 0 0 Z ↔ Run d 99 10 [a0, a1, a2, a3, a4] [.int 6, s0] M 0 0 Z := R_bipush (gd99 dX8_pull_8) (by decide)
theorem z99_10 : Run d 99 10 [a0, a1, a2, a3, a4] [s1, s0] M 0 0 Z ↔ Call d 110 [s0, s1] M (fun r M1 => Run d 99 13 [a0, a1, a2, a3, a4] (r.toList ++ []) M1 0 0 Z) := R_call (gd99 dX8_pull_10) rfl rfl rfl rfl rfl rfl gc_8_97 rfl (by decide) (Nat.le_of_ble_eq_true rfl) (Nat.le_of_ble_eq_true rfl) rfl rfl rfl (Nat.le_of_ble_eq_true rfl) (Nat.le_of_ble_eq_true rfl)
theorem z99_13 : Run d 99 13 [a0, a1, a2, a3, a4] [.int x] M 0 0 Z ↔ (x = 0 → Run d 99 30 [a0, a1, a2, a3, a4] [] M 0 0 Z) ∧ (¬ (x = 0) → Run d 99 16 [a0, a1, a2, a3, a4] [] M 0 0 Z) := R_if (gd99 dX8_pull_13) (show gTgt 13 17 = some 30 by decide) gIf_eq
theorem z99_16 : Run d 99 16 [a0, a1, some (.int x), a3, a4] [] M 0 0 Z ↔ Run d 99 17 [a0, a1, some (.int x), a3, a4] [.int x] M 0 0 Z := R_local (gd99 dX8_pull_16) rfl rfl rfl
theorem z99_17 : Run d 99 17 [some (.ref o), a1, a2, a3, a4] [s0] M 0 0 Z ↔ Run d 99 18 [some (.ref o), a1, a2, a3, a4] [.ref o, s0] M 0 0 Z := R_local (gd99 dX8_pull_17) rfl rfl rfl
theorem z99_18 : Run d 99 18 [a0, a1, a2, a3, a4] [.ref o, s0] M 0 0 Z ↔ gObj M o 8 ∧ Run d 99 21 [a0, a1, a2, a3, a4] [va_rf (M.2.1 o 11), s0] M 0 0 Z := R_getR (gd99 dX8_pull_18) rfl gf_8_61 rfl
theorem z99_21 : Run d 99 21 [a0, a1, a2, a3, a4] [.ref o, s0] M 0 0 Z ↔ gObj M o 1 ∧ Run d 99 24 [a0, a1, a2, a3, a4] [.int (M.1 o 9), s0] M 0 0 Z := R_getI (gd99 dX8_pull_21) rfl gf_8_151 rfl
theorem z99_24 : Run d 99 24 [a0, a1, a2, a3, a4] [s1, s0] M 0 0 Z ↔ Call d 110 [s0, s1] M (fun r M1 => Run d 99 27 [a0, a1, a2, a3, a4] (r.toList ++ []) M1 0 0 Z) := R_call (gd99 dX8_pull_24) rfl rfl rfl rfl rfl rfl gc_8_97 rfl (by decide) (Nat.le_of_ble_eq_true rfl) (Nat.le_of_ble_eq_true rfl) rfl rfl rfl (Nat.le_of_ble_eq_true rfl) (Nat.le_of_ble_eq_true rfl)
theorem z99_27 : Run d 99 27 [a0, a1, a2, a3, a4] [.int x] M 0 0 Z ↔ (¬ x = 0 → Run d 99 32 [a0, a1, a2, a3, a4] [] M 0 0 Z) ∧ (¬ (¬ x = 0) → Run d 99 30 [a0, a1, a2, a3, a4] [] M 0 0 Z) := R_if (gd99 dX8_pull_27) (show gTgt 27 5 = some 32 by decide) gIf_ne
theorem z99_30 : Run d 99 30 [a0, a1, a2, a3, a4] [] M 0 0 Z ↔ Run d 99 31 [a0, a1, a2, a3, a4] [.int (-1)] M 0 0 Z := R_iconst (gd99 dX8_pull_30) (by decide)
theorem z99_31 : Run d 99 31 [a0, a1, a2, a3, a4] [.int x] M 0 0 Z ↔ Z (some (.int x)) M := R_iret (gd99 dX8_pull_31) rfl
theorem z99_32 : Run d 99 32 [some (.ref o), a1, a2, a3, a4] [] M 0 0 Z ↔ Run d 99 33 [some (.ref o), a1, a2, a3, a4] [.ref o] M 0 0 Z := R_local (gd99 dX8_pull_32) rfl rfl rfl
theorem z99_33 : Run d 99 33 [a0, a1, a2, a3, a4] [.ref o] M 0 0 Z ↔ gObj M o 8 ∧ Run d 99 36 [a0, a1, a2, a3, a4] [va_rf (M.2.1 o 11)] M 0 0 Z := R_getR (gd99 dX8_pull_33) rfl gf_8_61 rfl
theorem z99_36 : Run d 99 36 [a0, a1, a2, a3, a4] [.ref o] M 0 0 Z ↔ gObj M o 1 ∧ Run d 99 39 [a0, a1, a2, a3, a4] [va_rf (M.2.1 o 0)] M 0 0 Z := R_getR (gd99 dX8_pull_36) rfl gf_8_157 rfl
theorem z99_39 : Run d 99 39 [a0, a1, a2, a3, a4] [.ref o] M 0 0 Z ↔ Run d 99 40 [a0, a1, a2, some (.ref o), a4] [] M 0 0 Z := R_local (gd99 dX8_pull_39) rfl rfl rfl
theorem z99_39n : Run d 99 39 [a0, a1, a2, a3, a4] [.null] M 0 0 Z ↔ Run d 99 40 [a0, a1, a2, some .null, a4] [] M 0 0 Z := R_local (gd99 dX8_pull_39) rfl rfl rfl
theorem z99_40 : Run d 99 40 [a0, a1, a2, some (.ref o), a4] [] M 0 0 Z ↔ Run d 99 41 [a0, a1, a2, some (.ref o), a4] [.ref o] M 0 0 Z := R_local (gd99 dX8_pull_40) rfl rfl rfl
theorem z99_40n : Run d 99 40 [a0, a1, a2, some .null, a4] [] M 0 0 Z ↔ Run d 99 41 [a0, a1, a2, some .null, a4] [.null] M 0 0 Z := R_local (gd99 dX8_pull_40) rfl rfl rfl
theorem z99_41 : Run d 99 41 [a0, a1, some (.int x), a3, a4] [s0] M 0 0 Z ↔ Run d 99 42 [a0, a1, some (.int x), a3, a4] [.int x, s0] M 0 0 Z := R_local (gd99 dX8_pull_41) rfl rfl rfl
theorem z99_42 : Run d 99 42 [a0, a1, a2, a3, a4] [s1, .ref b] M 0 0 Z ↔ gObj M b 4 ∧ Call d 52 [.ref b, s1] M (fun r M1 => Run d 99 45 [a0, a1, a2, a3, a4] (r.toList ++ []) M1 0 0 Z) := R_callV (gd99 dX8_pull_42) rfl rfl rfl rfl rfl rfl gc_8_184 rfl rfl (Nat.le_of_ble_eq_true rfl) (Nat.le_of_ble_eq_true rfl) rfl rfl (Nat.le_of_ble_eq_true rfl) (Nat.le_of_ble_eq_true rfl)
theorem z99_45 : Run d 99 45 [a0, a1, a2, a3, a4] [.int x] M 0 0 Z ↔ Run d 99 47 [a0, a1, a2, a3, some (.int x)] [] M 0 0 Z := R_local (gd99 dX8_pull_45) rfl rfl rfl
theorem z99_47 : Run d 99 47 [a0, a1, a2, some (.ref o), a4] [] M 0 0 Z ↔ Run d 99 48 [a0, a1, a2, some (.ref o), a4] [.ref o] M 0 0 Z := R_local (gd99 dX8_pull_47) rfl rfl rfl
theorem z99_47n : Run d 99 47 [a0, a1, a2, some .null, a4] [] M 0 0 Z ↔ Run d 99 48 [a0, a1, a2, some .null, a4] [.null] M 0 0 Z := R_local (gd99 dX8_pull_47) rfl rfl rfl
theorem z99_48 : Run d 99 48 [a0, a1, a2, some (.ref o), a4] [s0] M 0 0 Z ↔ Run d 99 49 [a0, a1, a2, some (.ref o), a4] [.ref o, s0] M 0 0 Z := R_local (gd99 dX8_pull_48) rfl rfl rfl
theorem z99_48n : Run d 99 48 [a0, a1, a2, some .null, a4] [s0] M 0 0 Z ↔ Run d 99 49 [a0, a1, a2, some .null, a4] [.null, s0] M 0 0 Z := R_local (gd99 dX8_pull_48) rfl rfl rfl
theorem z99_49 : Run d 99 49 [a0, a1, a2, a3, some (.int x)] [s1, s0] M 0 0 Z ↔ Run d 99 51 [a0, a1, a2, a3, some (.int x)] [.int x, s1, s0] M 0 0 Z := R_local (gd99 dX8_pull_49) rfl rfl rfl
theorem z99_51 : Run d 99 51 [a0, a1, a2, a3, a4] [s2, .ref b, s0] M 0 0 Z ↔ gObj M b 4 ∧ Call d 53 [.ref b, s2] M (fun r M1 => Run d 99 54 [a0, a1, a2, a3, a4] (r.toList ++ [s0]) M1 0 0 Z) := R_callV (gd99 dX8_pull_51) rfl rfl rfl rfl rfl rfl gc_8_187 rfl rfl (Nat.le_of_ble_eq_true rfl) (Nat.le_of_ble_eq_true rfl) rfl rfl (Nat.le_of_ble_eq_true rfl) (Nat.le_of_ble_eq_true rfl)
theorem z99_54 : Run d 99 54 [a0, a1, a2, a3, some (.int x)] [s1, s0] M 0 0 Z ↔ Run d 99 56 [a0, a1, a2, a3, some (.int x)] [.int x, s1, s0] M 0 0 Z := R_local (gd99 dX8_pull_54) rfl rfl rfl
theorem z99_56 : Run d 99 56 [some (.ref o), a1, a2, a3, a4] [s2, s1, s0] M 0 0 Z ↔ Run d 99 57 [some (.ref o), a1, a2, a3, a4] [.ref o, s2, s1, s0] M 0 0 Z := R_local (gd99 dX8_pull_56) rfl rfl rfl
theorem z99_57 : Run d 99 57 [a0, a1, a2, a3, a4] [.ref o, s2, s1, s0] M 0 0 Z ↔ gObj M o 8 ∧ Run d 99 60 [a0, a1, a2, a3, a4] [va_rf (M.2.1 o 8), s2, s1, s0] M 0 0 Z := R_getR (gd99 dX8_pull_57) rfl gf_8_41 rfl
theorem z99_60 : Run d 99 60 [a0, some (.int x), a2, a3, a4] [s3, s2, s1, s0] M 0 0 Z ↔ Run d 99 61 [a0, some (.int x), a2, a3, a4] [.int x, s3, s2, s1, s0] M 0 0 Z := R_local (gd99 dX8_pull_60) rfl rfl rfl
theorem z99_61 : Run d 99 61 [a0, a1, a2, a3, a4] [s4, s3, s2, s1, s0] M 0 0 Z ↔ Run d 99 63 [a0, a1, a2, a3, a4] [.int 8, s4, s3, s2, s1, s0] M 0 0 Z := R_bipush (gd99 dX8_pull_61) (by decide)
theorem z99_63 : Run d 99 63 [a0, a1, a2, a3, a4] [.int y, .int x, s3, s2, s1, s0] M 0 0 Z ↔ Run d 99 64 [a0, a1, a2, a3, a4] [.int (x * y), s3, s2, s1, s0] M 0 0 Z := R_arith (gd99 dX8_pull_63) rfl
theorem z99_64 : Run d 99 64 [a0, a1, a2, a3, a4] [s4, s3, s2, s1, .ref b] M 0 0 Z ↔ gObj M b 4 ∧ Call d 54 [.ref b, s1, s2, s3, s4] M (fun r M1 => Run d 99 67 [a0, a1, a2, a3, a4] (r.toList ++ []) M1 0 0 Z) := R_callV (gd99 dX8_pull_64) rfl rfl rfl rfl rfl rfl gc_8_190 rfl rfl (Nat.le_of_ble_eq_true rfl) (Nat.le_of_ble_eq_true rfl) rfl rfl (Nat.le_of_ble_eq_true rfl) (Nat.le_of_ble_eq_true rfl)
theorem z99_67 : Run d 99 67 [a0, a1, a2, a3, a4] [.int x] M 0 0 Z ↔ Z (some (.int x)) M := R_iret (gd99 dX8_pull_67) rfl
theorem e99 : Call (d + 1) 99 [s0, s1, s2] M Z ↔ Run d 99 0 [some s0, some s1, some s2, none, none] [] M 0 0 Z := Call_iff (Nat.lt_of_lt_of_le (Nat.lt_succ_self 99) (Nat.le_of_ble_eq_true rfl)) (Nat.le_of_ble_eq_true rfl)
/-! 100: X8_moves (I)I -/
theorem gd100 {pc : Nat} {r : Except _ _} (h : decode cX8_moves pc = r) : decode (gby 100) pc = r := h
theorem z100_0 : Run d 100 0 [some (.ref o), a1, a2] [] M 0 0 Z ↔ Run d 100 1 [some (.ref o), a1, a2] [.ref o] M 0 0 Z := R_local (gd100 dX8_moves_0) rfl rfl rfl
theorem z100_1 : Run d 100 1 [a0, a1, a2] [.ref o] M 0 0 Z ↔ gObj M o 8 ∧ Run d 100 4 [a0, a1, a2] [va_rf (M.2.1 o 15)] M 0 0 Z := R_getR (gd100 dX8_moves_1) rfl gf_8_82 rfl
theorem z100_4n : Run d 100 4 [a0, a1, a2] [.null] M 0 0 Z ↔ Run d 100 26 [a0, a1, a2] [] M 0 0 Z := R_nullN (gd100 dX8_moves_4) (show gTgt 4 22 = some 26 by decide)
theorem z100_4 : Run d 100 4 [a0, a1, a2] [.ref o] M 0 0 Z ↔ Run d 100 7 [a0, a1, a2] [] M 0 0 Z := R_nullR (gd100 dX8_moves_4) (show gTgt 4 22 = some 26 by decide)
theorem z100_7 : Run d 100 7 [a0, some (.int x), a2] [] M 0 0 Z ↔ Run d 100 8 [a0, some (.int x), a2] [.int x] M 0 0 Z := R_local (gd100 dX8_moves_7) rfl rfl rfl
theorem z100_8 : Run d 100 8 [a0, a1, a2] [s0] M 0 0 Z ↔ Run d 100 9 [a0, a1, a2] [.int 1, s0] M 0 0 Z := R_iconst (gd100 dX8_moves_8) (by decide)
theorem z100_9 : Run d 100 9 [a0, a1, a2] [.int y, .int x] M 0 0 Z ↔ (x < y → Run d 100 26 [a0, a1, a2] [] M 0 0 Z) ∧ (¬ (x < y) → Run d 100 12 [a0, a1, a2] [] M 0 0 Z) := R_icmp (gd100 dX8_moves_9) (show gTgt 9 17 = some 26 by decide) gIf_lt
theorem z100_12 : Run d 100 12 [a0, some (.int x), a2] [] M 0 0 Z ↔ Run d 100 13 [a0, some (.int x), a2] [.int x] M 0 0 Z := R_local (gd100 dX8_moves_12) rfl rfl rfl
theorem z100_13 : Run d 100 13 [a0, a1, a2] [s0] M 0 0 Z ↔ Run d 100 15 [a0, a1, a2] [.int 6, s0] M 0 0 Z := R_bipush (gd100 dX8_moves_13) (by decide)
theorem z100_15 : Run d 100 15 [a0, a1, a2] [.int y, .int x] M 0 0 Z ↔ (y < x → Run d 100 26 [a0, a1, a2] [] M 0 0 Z) ∧ (¬ (y < x) → Run d 100 18 [a0, a1, a2] [] M 0 0 Z) := R_icmp (gd100 dX8_moves_15) (show gTgt 15 11 = some 26 by decide) gIf_gt
theorem z100_18 : Run d 100 18 [a0, some (.int x), a2] [] M 0 0 Z ↔ Run d 100 19 [a0, some (.int x), a2] [.int x] M 0 0 Z := R_local (gd100 dX8_moves_18) rfl rfl rfl
theorem z100_19 : Run d 100 19 [some (.ref o), a1, a2] [s0] M 0 0 Z ↔ Run d 100 20 [some (.ref o), a1, a2] [.ref o, s0] M 0 0 Z := R_local (gd100 dX8_moves_19) rfl rfl rfl
theorem z100_20 : Run d 100 20 [a0, a1, a2] [.ref o, s0] M 0 0 Z ↔ gObj M o 8 ∧ Run d 100 23 [a0, a1, a2] [.int (M.1 o 7), s0] M 0 0 Z := R_getI (gd100 dX8_moves_20) rfl gf_8_38 rfl
theorem z100_23 : Run d 100 23 [a0, a1, a2] [.int y, .int x] M 0 0 Z ↔ (x ≤ y → Run d 100 28 [a0, a1, a2] [] M 0 0 Z) ∧ (¬ (x ≤ y) → Run d 100 26 [a0, a1, a2] [] M 0 0 Z) := R_icmp (gd100 dX8_moves_23) (show gTgt 23 5 = some 28 by decide) gIf_le
theorem z100_26 : Run d 100 26 [a0, a1, a2] [] M 0 0 Z ↔ Run d 100 27 [a0, a1, a2] [.int (-1)] M 0 0 Z := R_iconst (gd100 dX8_moves_26) (by decide)
theorem z100_27 : Run d 100 27 [a0, a1, a2] [.int x] M 0 0 Z ↔ Z (some (.int x)) M := R_iret (gd100 dX8_moves_27) rfl
theorem z100_28 : Run d 100 28 [some (.ref o), a1, a2] [] M 0 0 Z ↔ Run d 100 29 [some (.ref o), a1, a2] [.ref o] M 0 0 Z := R_local (gd100 dX8_moves_28) rfl rfl rfl
theorem z100_29 : Run d 100 29 [a0, a1, a2] [s0] M 0 0 Z ↔ Run d 100 30 [a0, a1, a2] [.int 0, s0] M 0 0 Z := R_iconst (gd100 dX8_moves_29) (by decide)
theorem z100_30 : Run d 100 30 [a0, a1, a2] [.int x, .ref o] M 0 0 Z ↔ gObj M o 8 ∧ Run d 100 33 [a0, a1, a2] [] (gsI M o 7 x) 0 0 Z := R_putI (gd100 dX8_moves_30) rfl gf_8_38 (Or.inl rfl) rfl
theorem z100_33 : Run d 100 33 [some (.ref o), a1, a2] [] M 0 0 Z ↔ Run d 100 34 [some (.ref o), a1, a2] [.ref o] M 0 0 Z := R_local (gd100 dX8_moves_33) rfl rfl rfl
theorem z100_34 : Run d 100 34 [a0, some (.int x), a2] [s0] M 0 0 Z ↔ Run d 100 35 [a0, some (.int x), a2] [.int x, s0] M 0 0 Z := R_local (gd100 dX8_moves_34) rfl rfl rfl
theorem z100_35 : Run d 100 35 [a0, a1, a2] [s1, s0] M 0 0 Z ↔ Run d 100 37 [a0, a1, a2] [.int 6, s1, s0] M 0 0 Z := R_bipush (gd100 dX8_moves_35) (by decide)
theorem z100_37 : Run d 100 37 [a0, a1, a2] [s2, s1, .ref b] M 0 0 Z ↔ gObj M b 8 ∧ Call d 118 [.ref b, s1, s2] M (fun r M1 => Run d 100 40 [a0, a1, a2] (r.toList ++ []) M1 0 0 Z) := R_callV (gd100 dX8_moves_37) rfl rfl rfl rfl rfl rfl gc_8_194 rfl rfl (Nat.le_of_ble_eq_true rfl) (Nat.le_of_ble_eq_true rfl) rfl rfl (Nat.le_of_ble_eq_true rfl) (Nat.le_of_ble_eq_true rfl)
theorem z100_40 : Run d 100 40 [a0, a1, a2] [.int x] M 0 0 Z ↔ (¬ x = 0 → Run d 100 45 [a0, a1, a2] [] M 0 0 Z) ∧ (¬ (¬ x = 0) → Run d 100 43 [a0, a1, a2] [] M 0 0 Z) := R_if (gd100 dX8_moves_40) (show gTgt 40 5 = some 45 by decide) gIf_ne
theorem z100_43 : Run d 100 43 [a0, a1, a2] [] M 0 0 Z ↔ Run d 100 44 [a0, a1, a2] [.int (-1)] M 0 0 Z := R_iconst (gd100 dX8_moves_43) (by decide)
theorem z100_44 : Run d 100 44 [a0, a1, a2] [.int x] M 0 0 Z ↔ Z (some (.int x)) M := R_iret (gd100 dX8_moves_44) rfl
theorem z100_45 : Run d 100 45 [some (.ref o), a1, a2] [] M 0 0 Z ↔ Run d 100 46 [some (.ref o), a1, a2] [.ref o] M 0 0 Z := R_local (gd100 dX8_moves_45) rfl rfl rfl
theorem z100_46 : Run d 100 46 [a0, a1, a2] [.ref o] M 0 0 Z ↔ gObj M o 8 ∧ Run d 100 49 [a0, a1, a2] [va_rf (M.2.1 o 13)] M 0 0 Z := R_getR (gd100 dX8_moves_46) rfl gf_8_71 rfl
theorem z100_49 : Run d 100 49 [a0, a1, a2] [.ref b] M 0 0 Z ↔ gObj M b 3 ∧ Call d 31 [.ref b] M (fun r M1 => Run d 100 52 [a0, a1, a2] (r.toList ++ []) M1 0 0 Z) := R_callV (gd100 dX8_moves_49) rfl rfl rfl rfl rfl rfl gc_8_145 rfl rfl (Nat.le_of_ble_eq_true rfl) (Nat.le_of_ble_eq_true rfl) rfl rfl (Nat.le_of_ble_eq_true rfl) (Nat.le_of_ble_eq_true rfl)
theorem z100_52 : Run d 100 52 [a0, a1, a2] [] M 0 0 Z ↔ Run d 100 53 [a0, a1, a2] [.int 0] M 0 0 Z := R_iconst (gd100 dX8_moves_52) (by decide)
theorem z100_53 : Run d 100 53 [a0, a1, a2] [.int x] M 0 0 Z ↔ Run d 100 54 [a0, a1, some (.int x)] [] M 0 0 Z := R_local (gd100 dX8_moves_53) rfl rfl rfl
theorem z100_54 : Run d 100 54 [a0, a1, some (.int x)] [] M 0 0 Z ↔ Run d 100 55 [a0, a1, some (.int x)] [.int x] M 0 0 Z := R_local (gd100 dX8_moves_54) rfl rfl rfl
theorem z100_55 : Run d 100 55 [a0, some (.int x), a2] [s0] M 0 0 Z ↔ Run d 100 56 [a0, some (.int x), a2] [.int x, s0] M 0 0 Z := R_local (gd100 dX8_moves_55) rfl rfl rfl
theorem z100_56 : Run d 100 56 [a0, a1, a2] [.int y, .int x] M 0 0 Z ↔ (y ≤ x → Run d 100 91 [a0, a1, a2] [] M 0 0 Z) ∧ (¬ (y ≤ x) → Run d 100 59 [a0, a1, a2] [] M 0 0 Z) := R_icmp (gd100 dX8_moves_56) (show gTgt 56 35 = some 91 by decide) gIf_ge
theorem z100_59 : Run d 100 59 [a0, a1, some (.int x)] [] M 0 0 Z ↔ Run d 100 60 [a0, a1, some (.int x)] [.int x] M 0 0 Z := R_local (gd100 dX8_moves_59) rfl rfl rfl
theorem z100_60 : Run d 100 60 [some (.ref o), a1, a2] [s0] M 0 0 Z ↔ Run d 100 61 [some (.ref o), a1, a2] [.ref o, s0] M 0 0 Z := R_local (gd100 dX8_moves_60) rfl rfl rfl
theorem z100_61 : Run d 100 61 [a0, a1, a2] [.ref o, s0] M 0 0 Z ↔ gObj M o 8 ∧ Run d 100 64 [a0, a1, a2] [va_rf (M.2.1 o 6), s0] M 0 0 Z := R_getR (gd100 dX8_moves_61) rfl gf_8_35 rfl
theorem z100_64 : Run d 100 64 [a0, a1, a2] [.ref o, s0] M 0 0 Z ↔ (gTy M o).isSome = true ∧ Run d 100 65 [a0, a1, a2] [.int (nI (gLen M o)), s0] M 0 0 Z := R_alen (gd100 dX8_moves_64)
theorem z100_65 : Run d 100 65 [a0, a1, a2] [.int y, .int x] M 0 0 Z ↔ (y ≤ x → Run d 100 91 [a0, a1, a2] [] M 0 0 Z) ∧ (¬ (y ≤ x) → Run d 100 68 [a0, a1, a2] [] M 0 0 Z) := R_icmp (gd100 dX8_moves_65) (show gTgt 65 26 = some 91 by decide) gIf_ge
theorem z100_68 : Run d 100 68 [some (.ref o), a1, a2] [] M 0 0 Z ↔ Run d 100 69 [some (.ref o), a1, a2] [.ref o] M 0 0 Z := R_local (gd100 dX8_moves_68) rfl rfl rfl
theorem z100_69 : Run d 100 69 [a0, a1, a2] [.ref o] M 0 0 Z ↔ gObj M o 8 ∧ Run d 100 72 [a0, a1, a2] [va_rf (M.2.1 o 13)] M 0 0 Z := R_getR (gd100 dX8_moves_69) rfl gf_8_71 rfl
theorem z100_72 : Run d 100 72 [some (.ref o), a1, a2] [s0] M 0 0 Z ↔ Run d 100 73 [some (.ref o), a1, a2] [.ref o, s0] M 0 0 Z := R_local (gd100 dX8_moves_72) rfl rfl rfl
theorem z100_73 : Run d 100 73 [a0, a1, a2] [.ref o, s0] M 0 0 Z ↔ gObj M o 8 ∧ Run d 100 76 [a0, a1, a2] [va_rf (M.2.1 o 8), s0] M 0 0 Z := R_getR (gd100 dX8_moves_73) rfl gf_8_41 rfl
theorem z100_76 : Run d 100 76 [some (.ref o), a1, a2] [s1, s0] M 0 0 Z ↔ Run d 100 77 [some (.ref o), a1, a2] [.ref o, s1, s0] M 0 0 Z := R_local (gd100 dX8_moves_76) rfl rfl rfl
theorem z100_77 : Run d 100 77 [a0, a1, a2] [.ref o, s1, s0] M 0 0 Z ↔ gObj M o 8 ∧ Run d 100 80 [a0, a1, a2] [va_rf (M.2.1 o 6), s1, s0] M 0 0 Z := R_getR (gd100 dX8_moves_77) rfl gf_8_35 rfl
theorem z100_80 : Run d 100 80 [a0, a1, some (.int x)] [s2, s1, s0] M 0 0 Z ↔ Run d 100 81 [a0, a1, some (.int x)] [.int x, s2, s1, s0] M 0 0 Z := R_local (gd100 dX8_moves_80) rfl rfl rfl
theorem z100_81 : Run d 100 81 [a0, a1, a2] [.int x, .ref o, s1, s0] M 0 0 Z ↔ gAr M o 0 ∧ gIn x (gLen M o) = true ∧ Run d 100 82 [a0, a1, a2] [.int (M.1 o x.toNatClampNeg), s1, s0] M 0 0 Z := R_iald (gd100 dX8_moves_81)
theorem z100_82 : Run d 100 82 [a0, a1, a2] [s2, s1, .ref b] M 0 0 Z ↔ gObj M b 3 ∧ Call d 32 [.ref b, s1, s2] M (fun r M1 => Run d 100 85 [a0, a1, a2] (r.toList ++ []) M1 0 0 Z) := R_callV (gd100 dX8_moves_82) rfl rfl rfl rfl rfl rfl gc_8_197 rfl rfl (Nat.le_of_ble_eq_true rfl) (Nat.le_of_ble_eq_true rfl) rfl rfl (Nat.le_of_ble_eq_true rfl) (Nat.le_of_ble_eq_true rfl)
theorem z100_85 : Run d 100 85 [a0, a1, some (.int x)] [] M 0 0 Z ↔ Run d 100 88 [a0, a1, some (.int (x + 1))] [] M 0 0 Z := R_iinc (gd100 dX8_moves_85) (by decide) rfl rfl
theorem z100_88 : Run d 100 88 [a0, a1, a2] [] M 0 0 Z ↔ Run d 100 54 [a0, a1, a2] [] M 0 0 Z := R_goto (gd100 dX8_moves_88) (show gTgt 88 (-34) = some 54 by decide)
theorem z100_91 : Run d 100 91 [some (.ref o), a1, a2] [] M 0 0 Z ↔ Run d 100 92 [some (.ref o), a1, a2] [.ref o] M 0 0 Z := R_local (gd100 dX8_moves_91) rfl rfl rfl
theorem z100_92 : Run d 100 92 [a0, a1, a2] [.ref o] M 0 0 Z ↔ gObj M o 8 ∧ Run d 100 95 [a0, a1, a2] [va_rf (M.2.1 o 13)] M 0 0 Z := R_getR (gd100 dX8_moves_92) rfl gf_8_71 rfl
theorem z100_95 : Run d 100 95 [some (.ref o), a1, a2] [s0] M 0 0 Z ↔ Run d 100 96 [some (.ref o), a1, a2] [.ref o, s0] M 0 0 Z := R_local (gd100 dX8_moves_95) rfl rfl rfl
theorem z100_96 : Run d 100 96 [a0, a1, a2] [.ref o, s0] M 0 0 Z ↔ gObj M o 8 ∧ Run d 100 99 [a0, a1, a2] [va_rf (M.2.1 o 11), s0] M 0 0 Z := R_getR (gd100 dX8_moves_96) rfl gf_8_61 rfl
theorem z100_99 : Run d 100 99 [a0, a1, a2] [.ref o, s0] M 0 0 Z ↔ gObj M o 1 ∧ Run d 100 102 [a0, a1, a2] [va_rf (M.2.1 o 0), s0] M 0 0 Z := R_getR (gd100 dX8_moves_99) rfl gf_8_157 rfl
theorem z100_102 : Run d 100 102 [a0, a1, a2] [s1, s0] M 0 0 Z ↔ Run d 100 103 [a0, a1, a2] [.int (-1), s1, s0] M 0 0 Z := R_iconst (gd100 dX8_moves_102) (by decide)
theorem z100_103 : Run d 100 103 [a0, a1, a2] [s2, s1, .ref b] M 0 0 Z ↔ gObj M b 3 ∧ Call d 34 [.ref b, s1, s2] M (fun r M1 => Run d 100 106 [a0, a1, a2] (r.toList ++ []) M1 0 0 Z) := R_callV (gd100 dX8_moves_103) rfl rfl rfl rfl rfl rfl gc_8_201 rfl rfl (Nat.le_of_ble_eq_true rfl) (Nat.le_of_ble_eq_true rfl) rfl rfl (Nat.le_of_ble_eq_true rfl) (Nat.le_of_ble_eq_true rfl)
theorem z100_106 : Run d 100 106 [a0, a1, a2] [.int x] M 0 0 Z ↔ Z (some (.int x)) M := R_iret (gd100 dX8_moves_106) rfl
theorem e100 : Call (d + 1) 100 [s0, s1] M Z ↔ Run d 100 0 [some s0, some s1, none] [] M 0 0 Z := Call_iff (Nat.lt_of_lt_of_le (Nat.lt_succ_self 100) (Nat.le_of_ble_eq_true rfl)) (Nat.le_of_ble_eq_true rfl)
end
