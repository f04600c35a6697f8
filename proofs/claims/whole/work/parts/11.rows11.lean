/-! Rules of the methods, an instruction each, by program (wip/whole/rows.py). -/
theorem dX9_winds_0 : decode cX9_winds 0 = .ok (.aload_n 0, 1) := by decide +kernel
theorem dX9_winds_1 : decode cX9_winds 1 = .ok (.aload_n 0, 1) := by decide +kernel
theorem dX9_winds_2 : decode cX9_winds 2 = .ok (.getfield 71, 3) := by decide +kernel
theorem dX9_winds_5 : decode cX9_winds 5 = .ok (.aload_n 0, 1) := by decide +kernel
theorem dX9_winds_6 : decode cX9_winds 6 = .ok (.getfield 233, 3) := by decide +kernel
theorem dX9_winds_9 : decode cX9_winds 9 = .ok (.iaload, 1) := by decide +kernel
theorem dX9_winds_10 : decode cX9_winds 10 = .ok (.aload_n 0, 1) := by decide +kernel
theorem dX9_winds_11 : decode cX9_winds 11 = .ok (.getfield 236, 3) := by decide +kernel
theorem dX9_winds_14 : decode cX9_winds 14 = .ok (.aload_n 0, 1) := by decide +kernel
theorem dX9_winds_15 : decode cX9_winds 15 = .ok (.getfield 239, 3) := by decide +kernel
theorem dX9_winds_18 : decode cX9_winds 18 = .ok (.invokevirtual 242, 3) := by decide +kernel
theorem dX9_winds_21 : decode cX9_winds 21 = .ok (.istore_n 2, 1) := by decide +kernel
theorem dX9_winds_22 : decode cX9_winds 22 = .ok (.aload_n 0, 1) := by decide +kernel
theorem dX9_winds_23 : decode cX9_winds 23 = .ok (.getfield 252, 3) := by decide +kernel
theorem dX9_winds_26 : decode cX9_winds 26 = .ok (.ifCond .eq 7, 3) := by decide +kernel
theorem dX9_winds_29 : decode cX9_winds 29 = .ok (.iconst 5, 1) := by decide +kernel
theorem dX9_winds_30 : decode cX9_winds 30 = .ok (.goto 51, 3) := by decide +kernel
theorem dX9_winds_33 : decode cX9_winds 33 = .ok (.iload_n 1, 1) := by decide +kernel
theorem dX9_winds_34 : decode cX9_winds 34 = .ok (.invokestatic 269, 3) := by decide +kernel
theorem dX9_winds_37 : decode cX9_winds 37 = .ok (.ifCond .ne 7, 3) := by decide +kernel
theorem dX9_winds_40 : decode cX9_winds 40 = .ok (.iconst 4, 1) := by decide +kernel
theorem dX9_winds_41 : decode cX9_winds 41 = .ok (.goto 40, 3) := by decide +kernel
theorem dX9_winds_44 : decode cX9_winds 44 = .ok (.iload_n 1, 1) := by decide +kernel
theorem dX9_winds_45 : decode cX9_winds 45 = .ok (.iload_n 2, 1) := by decide +kernel
theorem dX9_winds_46 : decode cX9_winds 46 = .ok (.imul, 1) := by decide +kernel
theorem dX9_winds_47 : decode cX9_winds 47 = .ok (.aload_n 0, 1) := by decide +kernel
theorem dX9_winds_48 : decode cX9_winds 48 = .ok (.invokevirtual 272, 3) := by decide +kernel
theorem dX9_winds_51 : decode cX9_winds 51 = .ok (.if_icmp .le 7, 3) := by decide +kernel
theorem dX9_winds_54 : decode cX9_winds 54 = .ok (.iconst 1, 1) := by decide +kernel
theorem dX9_winds_55 : decode cX9_winds 55 = .ok (.goto 26, 3) := by decide +kernel
theorem dX9_winds_58 : decode cX9_winds 58 = .ok (.aload_n 0, 1) := by decide +kernel
theorem dX9_winds_59 : decode cX9_winds 59 = .ok (.getfield 68, 3) := by decide +kernel
theorem dX9_winds_62 : decode cX9_winds 62 = .ok (.aload_n 0, 1) := by decide +kernel
theorem dX9_winds_63 : decode cX9_winds 63 = .ok (.getfield 233, 3) := by decide +kernel
theorem dX9_winds_66 : decode cX9_winds 66 = .ok (.iaload, 1) := by decide +kernel
theorem dX9_winds_67 : decode cX9_winds 67 = .ok (.iload_n 1, 1) := by decide +kernel
theorem dX9_winds_68 : decode cX9_winds 68 = .ok (.iadd, 1) := by decide +kernel
theorem dX9_winds_69 : decode cX9_winds 69 = .ok (.sipush 400, 3) := by decide +kernel
theorem dX9_winds_72 : decode cX9_winds 72 = .ok (.if_icmp .le 8, 3) := by decide +kernel
theorem dX9_winds_75 : decode cX9_winds 75 = .ok (.bipush 6, 2) := by decide +kernel
theorem dX9_winds_77 : decode cX9_winds 77 = .ok (.goto 4, 3) := by decide +kernel
theorem dX9_winds_80 : decode cX9_winds 80 = .ok (.iconst 0, 1) := by decide +kernel
theorem dX9_winds_81 : decode cX9_winds 81 = .ok (.istore_n 3, 1) := by decide +kernel
theorem dX9_winds_82 : decode cX9_winds 82 = .ok (.iload_n 3, 1) := by decide +kernel
theorem dX9_winds_83 : decode cX9_winds 83 = .ok (.ifCond .le 9, 3) := by decide +kernel
theorem dX9_winds_86 : decode cX9_winds 86 = .ok (.aload_n 0, 1) := by decide +kernel
theorem dX9_winds_87 : decode cX9_winds 87 = .ok (.iload_n 3, 1) := by decide +kernel
theorem dX9_winds_88 : decode cX9_winds 88 = .ok (.invokevirtual 275, 3) := by decide +kernel
theorem dX9_winds_91 : decode cX9_winds 91 = .ok (.return_, 1) := by decide +kernel
theorem dX9_winds_92 : decode cX9_winds 92 = .ok (.aload_n 0, 1) := by decide +kernel
theorem dX9_winds_93 : decode cX9_winds 93 = .ok (.getfield 59, 3) := by decide +kernel
theorem dX9_winds_96 : decode cX9_winds 96 = .ok (.sipush 2001, 3) := by decide +kernel
theorem dX9_winds_99 : decode cX9_winds 99 = .ok (.aload_n 0, 1) := by decide +kernel
theorem dX9_winds_100 : decode cX9_winds 100 = .ok (.getfield 233, 3) := by decide +kernel
theorem dX9_winds_103 : decode cX9_winds 103 = .ok (.imul, 1) := by decide +kernel
theorem dX9_winds_104 : decode cX9_winds 104 = .ok (.aload_n 0, 1) := by decide +kernel
theorem dX9_winds_105 : decode cX9_winds 105 = .ok (.getfield 65, 3) := by decide +kernel
theorem dX9_winds_108 : decode cX9_winds 108 = .ok (.aload_n 0, 1) := by decide +kernel
theorem dX9_winds_109 : decode cX9_winds 109 = .ok (.getfield 233, 3) := by decide +kernel
theorem dX9_winds_112 : decode cX9_winds 112 = .ok (.iaload, 1) := by decide +kernel
theorem dX9_winds_113 : decode cX9_winds 113 = .ok (.iadd, 1) := by decide +kernel
theorem dX9_winds_114 : decode cX9_winds 114 = .ok (.iconst 0, 1) := by decide +kernel
theorem dX9_winds_115 : decode cX9_winds 115 = .ok (.iastore, 1) := by decide +kernel
theorem dX9_winds_116 : decode cX9_winds 116 = .ok (.iconst 0, 1) := by decide +kernel
theorem dX9_winds_117 : decode cX9_winds 117 = .ok (.istore 4, 2) := by decide +kernel
theorem dX9_winds_119 : decode cX9_winds 119 = .ok (.iload 4, 2) := by decide +kernel
theorem dX9_winds_121 : decode cX9_winds 121 = .ok (.iload_n 1, 1) := by decide +kernel
theorem dX9_winds_122 : decode cX9_winds 122 = .ok (.if_icmp .ge 70, 3) := by decide +kernel
theorem dX9_winds_125 : decode cX9_winds 125 = .ok (.aload_n 0, 1) := by decide +kernel
theorem dX9_winds_126 : decode cX9_winds 126 = .ok (.aload_n 0, 1) := by decide +kernel
theorem dX9_winds_127 : decode cX9_winds 127 = .ok (.getfield 71, 3) := by decide +kernel
theorem dX9_winds_130 : decode cX9_winds 130 = .ok (.aload_n 0, 1) := by decide +kernel
theorem dX9_winds_131 : decode cX9_winds 131 = .ok (.getfield 233, 3) := by decide +kernel
theorem dX9_winds_134 : decode cX9_winds 134 = .ok (.iaload, 1) := by decide +kernel
theorem dX9_winds_135 : decode cX9_winds 135 = .ok (.iload_n 2, 1) := by decide +kernel
theorem dX9_winds_136 : decode cX9_winds 136 = .ok (.aload_n 0, 1) := by decide +kernel
theorem dX9_winds_137 : decode cX9_winds 137 = .ok (.getfield 236, 3) := by decide +kernel
theorem dX9_winds_140 : decode cX9_winds 140 = .ok (.aload_n 0, 1) := by decide +kernel
theorem dX9_winds_141 : decode cX9_winds 141 = .ok (.getfield 80, 3) := by decide +kernel
theorem dX9_winds_144 : decode cX9_winds 144 = .ok (.aload_n 0, 1) := by decide +kernel
theorem dX9_winds_145 : decode cX9_winds 145 = .ok (.getfield 233, 3) := by decide +kernel
theorem dX9_winds_148 : decode cX9_winds 148 = .ok (.iaload, 1) := by decide +kernel
theorem dX9_winds_149 : decode cX9_winds 149 = .ok (.invokevirtual 278, 3) := by decide +kernel
theorem dX9_winds_152 : decode cX9_winds 152 = .ok (.aload_n 0, 1) := by decide +kernel
theorem dX9_winds_153 : decode cX9_winds 153 = .ok (.getfield 74, 3) := by decide +kernel
theorem dX9_winds_156 : decode cX9_winds 156 = .ok (.aload_n 0, 1) := by decide +kernel
theorem dX9_winds_157 : decode cX9_winds 157 = .ok (.getfield 233, 3) := by decide +kernel
theorem dX9_winds_160 : decode cX9_winds 160 = .ok (.aload_n 0, 1) := by decide +kernel
theorem dX9_winds_161 : decode cX9_winds 161 = .ok (.getfield 74, 3) := by decide +kernel
theorem dX9_winds_164 : decode cX9_winds 164 = .ok (.aload_n 0, 1) := by decide +kernel
theorem dX9_winds_165 : decode cX9_winds 165 = .ok (.getfield 233, 3) := by decide +kernel
theorem dX9_winds_168 : decode cX9_winds 168 = .ok (.iaload, 1) := by decide +kernel
theorem dX9_winds_169 : decode cX9_winds 169 = .ok (.aload_n 0, 1) := by decide +kernel
theorem dX9_winds_170 : decode cX9_winds 170 = .ok (.getfield 77, 3) := by decide +kernel
theorem dX9_winds_173 : decode cX9_winds 173 = .ok (.aload_n 0, 1) := by decide +kernel
theorem dX9_winds_174 : decode cX9_winds 174 = .ok (.getfield 233, 3) := by decide +kernel
theorem dX9_winds_177 : decode cX9_winds 177 = .ok (.iaload, 1) := by decide +kernel
theorem dX9_winds_178 : decode cX9_winds 178 = .ok (.iadd, 1) := by decide +kernel
theorem dX9_winds_179 : decode cX9_winds 179 = .ok (.bipush 8, 2) := by decide +kernel
theorem dX9_winds_181 : decode cX9_winds 181 = .ok (.iadd, 1) := by decide +kernel
theorem dX9_winds_182 : decode cX9_winds 182 = .ok (.bipush 8, 2) := by decide +kernel
theorem dX9_winds_184 : decode cX9_winds 184 = .ok (.irem, 1) := by decide +kernel
theorem dX9_winds_185 : decode cX9_winds 185 = .ok (.iastore, 1) := by decide +kernel
theorem dX9_winds_186 : decode cX9_winds 186 = .ok (.iinc 4 1, 3) := by decide +kernel
theorem dX9_winds_189 : decode cX9_winds 189 = .ok (.goto (-70), 3) := by decide +kernel
theorem dX9_winds_192 : decode cX9_winds 192 = .ok (.aload_n 0, 1) := by decide +kernel
theorem dX9_winds_193 : decode cX9_winds 193 = .ok (.invokevirtual 282, 3) := by decide +kernel
theorem dX9_winds_196 : decode cX9_winds 196 = .ok (.return_, 1) := by decide +kernel
theorem dX9_pleats_0 : decode cX9_pleats 0 = .ok (.aload_n 0, 1) := by decide +kernel
theorem dX9_pleats_1 : decode cX9_pleats 1 = .ok (.getfield 252, 3) := by decide +kernel
theorem dX9_pleats_4 : decode cX9_pleats 4 = .ok (.ifCond .eq 7, 3) := by decide +kernel
theorem dX9_pleats_7 : decode cX9_pleats 7 = .ok (.iconst 5, 1) := by decide +kernel
theorem dX9_pleats_8 : decode cX9_pleats 8 = .ok (.goto 66, 3) := by decide +kernel
theorem dX9_pleats_11 : decode cX9_pleats 11 = .ok (.iload_n 1, 1) := by decide +kernel
theorem dX9_pleats_12 : decode cX9_pleats 12 = .ok (.invokestatic 269, 3) := by decide +kernel
theorem dX9_pleats_15 : decode cX9_pleats 15 = .ok (.ifCond .eq 14, 3) := by decide +kernel
theorem dX9_pleats_18 : decode cX9_pleats 18 = .ok (.iload_n 2, 1) := by decide +kernel
theorem dX9_pleats_19 : decode cX9_pleats 19 = .ok (.iconst 1, 1) := by decide +kernel
theorem dX9_pleats_20 : decode cX9_pleats 20 = .ok (.sipush 200, 3) := by decide +kernel
theorem dX9_pleats_23 : decode cX9_pleats 23 = .ok (.invokestatic 157, 3) := by decide +kernel
theorem dX9_pleats_26 : decode cX9_pleats 26 = .ok (.ifCond .ne 7, 3) := by decide +kernel
theorem dX9_pleats_29 : decode cX9_pleats 29 = .ok (.iconst 4, 1) := by decide +kernel
theorem dX9_pleats_30 : decode cX9_pleats 30 = .ok (.goto 44, 3) := by decide +kernel
theorem dX9_pleats_33 : decode cX9_pleats 33 = .ok (.iconst 2, 1) := by decide +kernel
theorem dX9_pleats_34 : decode cX9_pleats 34 = .ok (.iload_n 1, 1) := by decide +kernel
theorem dX9_pleats_35 : decode cX9_pleats 35 = .ok (.imul, 1) := by decide +kernel
theorem dX9_pleats_36 : decode cX9_pleats 36 = .ok (.iload_n 2, 1) := by decide +kernel
theorem dX9_pleats_37 : decode cX9_pleats 37 = .ok (.imul, 1) := by decide +kernel
theorem dX9_pleats_38 : decode cX9_pleats 38 = .ok (.aload_n 0, 1) := by decide +kernel
theorem dX9_pleats_39 : decode cX9_pleats 39 = .ok (.invokevirtual 272, 3) := by decide +kernel
theorem dX9_pleats_42 : decode cX9_pleats 42 = .ok (.if_icmp .le 7, 3) := by decide +kernel
theorem dX9_pleats_45 : decode cX9_pleats 45 = .ok (.iconst 1, 1) := by decide +kernel
theorem dX9_pleats_46 : decode cX9_pleats 46 = .ok (.goto 28, 3) := by decide +kernel
theorem dX9_pleats_49 : decode cX9_pleats 49 = .ok (.aload_n 0, 1) := by decide +kernel
theorem dX9_pleats_50 : decode cX9_pleats 50 = .ok (.getfield 68, 3) := by decide +kernel
theorem dX9_pleats_53 : decode cX9_pleats 53 = .ok (.aload_n 0, 1) := by decide +kernel
theorem dX9_pleats_54 : decode cX9_pleats 54 = .ok (.getfield 233, 3) := by decide +kernel
theorem dX9_pleats_57 : decode cX9_pleats 57 = .ok (.iaload, 1) := by decide +kernel
theorem dX9_pleats_58 : decode cX9_pleats 58 = .ok (.iconst 2, 1) := by decide +kernel
theorem dX9_pleats_59 : decode cX9_pleats 59 = .ok (.iload_n 1, 1) := by decide +kernel
theorem dX9_pleats_60 : decode cX9_pleats 60 = .ok (.imul, 1) := by decide +kernel
theorem dX9_pleats_61 : decode cX9_pleats 61 = .ok (.iadd, 1) := by decide +kernel
theorem dX9_pleats_62 : decode cX9_pleats 62 = .ok (.sipush 400, 3) := by decide +kernel
theorem dX9_pleats_65 : decode cX9_pleats 65 = .ok (.if_icmp .le 8, 3) := by decide +kernel
theorem dX9_pleats_68 : decode cX9_pleats 68 = .ok (.bipush 6, 2) := by decide +kernel
theorem dX9_pleats_70 : decode cX9_pleats 70 = .ok (.goto 4, 3) := by decide +kernel
theorem dX9_pleats_73 : decode cX9_pleats 73 = .ok (.iconst 0, 1) := by decide +kernel
theorem dX9_pleats_74 : decode cX9_pleats 74 = .ok (.istore_n 3, 1) := by decide +kernel
theorem dX9_pleats_75 : decode cX9_pleats 75 = .ok (.iload_n 3, 1) := by decide +kernel
theorem dX9_pleats_76 : decode cX9_pleats 76 = .ok (.ifCond .le 9, 3) := by decide +kernel
theorem dX9_pleats_79 : decode cX9_pleats 79 = .ok (.aload_n 0, 1) := by decide +kernel
theorem dX9_pleats_80 : decode cX9_pleats 80 = .ok (.iload_n 3, 1) := by decide +kernel
theorem dX9_pleats_81 : decode cX9_pleats 81 = .ok (.invokevirtual 275, 3) := by decide +kernel
theorem dX9_pleats_84 : decode cX9_pleats 84 = .ok (.return_, 1) := by decide +kernel
theorem dX9_pleats_85 : decode cX9_pleats 85 = .ok (.iconst 0, 1) := by decide +kernel
theorem dX9_pleats_86 : decode cX9_pleats 86 = .ok (.istore 4, 2) := by decide +kernel
theorem dX9_pleats_88 : decode cX9_pleats 88 = .ok (.iload 4, 2) := by decide +kernel
theorem dX9_pleats_90 : decode cX9_pleats 90 = .ok (.iload_n 1, 1) := by decide +kernel
theorem dX9_pleats_91 : decode cX9_pleats 91 = .ok (.if_icmp .ge 65, 3) := by decide +kernel
theorem dX9_pleats_94 : decode cX9_pleats 94 = .ok (.aload_n 0, 1) := by decide +kernel
theorem dX9_pleats_95 : decode cX9_pleats 95 = .ok (.aload_n 0, 1) := by decide +kernel
theorem dX9_pleats_96 : decode cX9_pleats 96 = .ok (.getfield 71, 3) := by decide +kernel
theorem dX9_pleats_99 : decode cX9_pleats 99 = .ok (.aload_n 0, 1) := by decide +kernel
theorem dX9_pleats_100 : decode cX9_pleats 100 = .ok (.getfield 233, 3) := by decide +kernel
theorem dX9_pleats_103 : decode cX9_pleats 103 = .ok (.iaload, 1) := by decide +kernel
theorem dX9_pleats_104 : decode cX9_pleats 104 = .ok (.iload_n 2, 1) := by decide +kernel
theorem dX9_pleats_105 : decode cX9_pleats 105 = .ok (.aload_n 0, 1) := by decide +kernel
theorem dX9_pleats_106 : decode cX9_pleats 106 = .ok (.getfield 236, 3) := by decide +kernel
theorem dX9_pleats_109 : decode cX9_pleats 109 = .ok (.iconst 1, 1) := by decide +kernel
theorem dX9_pleats_110 : decode cX9_pleats 110 = .ok (.aload_n 0, 1) := by decide +kernel
theorem dX9_pleats_111 : decode cX9_pleats 111 = .ok (.getfield 80, 3) := by decide +kernel
theorem dX9_pleats_114 : decode cX9_pleats 114 = .ok (.aload_n 0, 1) := by decide +kernel
theorem dX9_pleats_115 : decode cX9_pleats 115 = .ok (.getfield 233, 3) := by decide +kernel
theorem dX9_pleats_118 : decode cX9_pleats 118 = .ok (.iaload, 1) := by decide +kernel
theorem dX9_pleats_119 : decode cX9_pleats 119 = .ok (.isub, 1) := by decide +kernel
theorem dX9_pleats_120 : decode cX9_pleats 120 = .ok (.invokevirtual 278, 3) := by decide +kernel
theorem dX9_pleats_123 : decode cX9_pleats 123 = .ok (.aload_n 0, 1) := by decide +kernel
theorem dX9_pleats_124 : decode cX9_pleats 124 = .ok (.aload_n 0, 1) := by decide +kernel
theorem dX9_pleats_125 : decode cX9_pleats 125 = .ok (.getfield 71, 3) := by decide +kernel
theorem dX9_pleats_128 : decode cX9_pleats 128 = .ok (.aload_n 0, 1) := by decide +kernel
theorem dX9_pleats_129 : decode cX9_pleats 129 = .ok (.getfield 233, 3) := by decide +kernel
theorem dX9_pleats_132 : decode cX9_pleats 132 = .ok (.iaload, 1) := by decide +kernel
theorem dX9_pleats_133 : decode cX9_pleats 133 = .ok (.iload_n 2, 1) := by decide +kernel
theorem dX9_pleats_134 : decode cX9_pleats 134 = .ok (.aload_n 0, 1) := by decide +kernel
theorem dX9_pleats_135 : decode cX9_pleats 135 = .ok (.getfield 236, 3) := by decide +kernel
theorem dX9_pleats_138 : decode cX9_pleats 138 = .ok (.aload_n 0, 1) := by decide +kernel
theorem dX9_pleats_139 : decode cX9_pleats 139 = .ok (.getfield 80, 3) := by decide +kernel
theorem dX9_pleats_142 : decode cX9_pleats 142 = .ok (.aload_n 0, 1) := by decide +kernel
theorem dX9_pleats_143 : decode cX9_pleats 143 = .ok (.getfield 233, 3) := by decide +kernel
theorem dX9_pleats_146 : decode cX9_pleats 146 = .ok (.iaload, 1) := by decide +kernel
theorem dX9_pleats_147 : decode cX9_pleats 147 = .ok (.invokevirtual 278, 3) := by decide +kernel
theorem dX9_pleats_150 : decode cX9_pleats 150 = .ok (.iinc 4 1, 3) := by decide +kernel
theorem dX9_pleats_153 : decode cX9_pleats 153 = .ok (.goto (-65), 3) := by decide +kernel
theorem dX9_pleats_156 : decode cX9_pleats 156 = .ok (.aload_n 0, 1) := by decide +kernel
theorem dX9_pleats_157 : decode cX9_pleats 157 = .ok (.invokevirtual 282, 3) := by decide +kernel
theorem dX9_pleats_160 : decode cX9_pleats 160 = .ok (.return_, 1) := by decide +kernel
theorem dX9_climbs_0 : decode cX9_climbs 0 = .ok (.iload_n 2, 1) := by decide +kernel
theorem dX9_climbs_1 : decode cX9_climbs 1 = .ok (.ifCond .eq 17, 3) := by decide +kernel
theorem dX9_climbs_4 : decode cX9_climbs 4 = .ok (.aload_n 0, 1) := by decide +kernel
theorem dX9_climbs_5 : decode cX9_climbs 5 = .ok (.getfield 71, 3) := by decide +kernel
theorem dX9_climbs_8 : decode cX9_climbs 8 = .ok (.aload_n 0, 1) := by decide +kernel
theorem dX9_climbs_9 : decode cX9_climbs 9 = .ok (.getfield 233, 3) := by decide +kernel
theorem dX9_climbs_12 : decode cX9_climbs 12 = .ok (.iaload, 1) := by decide +kernel
theorem dX9_climbs_13 : decode cX9_climbs 13 = .ok (.iload_n 1, 1) := by decide +kernel
theorem dX9_climbs_14 : decode cX9_climbs 14 = .ok (.iadd, 1) := by decide +kernel
theorem dX9_climbs_15 : decode cX9_climbs 15 = .ok (.goto 14, 3) := by decide +kernel
theorem dX9_climbs_18 : decode cX9_climbs 18 = .ok (.aload_n 0, 1) := by decide +kernel
theorem dX9_climbs_19 : decode cX9_climbs 19 = .ok (.getfield 71, 3) := by decide +kernel
theorem dX9_climbs_22 : decode cX9_climbs 22 = .ok (.aload_n 0, 1) := by decide +kernel
theorem dX9_climbs_23 : decode cX9_climbs 23 = .ok (.getfield 233, 3) := by decide +kernel
theorem dX9_climbs_26 : decode cX9_climbs 26 = .ok (.iaload, 1) := by decide +kernel
theorem dX9_climbs_27 : decode cX9_climbs 27 = .ok (.iload_n 1, 1) := by decide +kernel
theorem dX9_climbs_28 : decode cX9_climbs 28 = .ok (.isub, 1) := by decide +kernel
theorem dX9_climbs_29 : decode cX9_climbs 29 = .ok (.istore_n 3, 1) := by decide +kernel
theorem dX9_climbs_30 : decode cX9_climbs 30 = .ok (.aload_n 0, 1) := by decide +kernel
theorem dX9_climbs_31 : decode cX9_climbs 31 = .ok (.getfield 252, 3) := by decide +kernel
theorem dX9_climbs_34 : decode cX9_climbs 34 = .ok (.ifCond .eq 7, 3) := by decide +kernel
theorem dX9_climbs_37 : decode cX9_climbs 37 = .ok (.iconst 5, 1) := by decide +kernel
theorem dX9_climbs_38 : decode cX9_climbs 38 = .ok (.goto 46, 3) := by decide +kernel
theorem dX9_climbs_41 : decode cX9_climbs 41 = .ok (.iload_n 1, 1) := by decide +kernel
theorem dX9_climbs_42 : decode cX9_climbs 42 = .ok (.invokestatic 269, 3) := by decide +kernel
theorem dX9_climbs_45 : decode cX9_climbs 45 = .ok (.ifCond .ne 7, 3) := by decide +kernel
theorem dX9_climbs_48 : decode cX9_climbs 48 = .ok (.iconst 4, 1) := by decide +kernel
theorem dX9_climbs_49 : decode cX9_climbs 49 = .ok (.goto 35, 3) := by decide +kernel
theorem dX9_climbs_52 : decode cX9_climbs 52 = .ok (.iload_n 3, 1) := by decide +kernel
theorem dX9_climbs_53 : decode cX9_climbs 53 = .ok (.ifCond .lt 14, 3) := by decide +kernel
theorem dX9_climbs_56 : decode cX9_climbs 56 = .ok (.iload_n 3, 1) := by decide +kernel
theorem dX9_climbs_57 : decode cX9_climbs 57 = .ok (.aload_n 0, 1) := by decide +kernel
theorem dX9_climbs_58 : decode cX9_climbs 58 = .ok (.getfield 236, 3) := by decide +kernel
theorem dX9_climbs_61 : decode cX9_climbs 61 = .ok (.iadd, 1) := by decide +kernel
theorem dX9_climbs_62 : decode cX9_climbs 62 = .ok (.bipush 8, 2) := by decide +kernel
theorem dX9_climbs_64 : decode cX9_climbs 64 = .ok (.if_icmp .le 7, 3) := by decide +kernel
theorem dX9_climbs_67 : decode cX9_climbs 67 = .ok (.iconst 2, 1) := by decide +kernel
theorem dX9_climbs_68 : decode cX9_climbs 68 = .ok (.goto 16, 3) := by decide +kernel
theorem dX9_climbs_71 : decode cX9_climbs 71 = .ok (.iload_n 1, 1) := by decide +kernel
theorem dX9_climbs_72 : decode cX9_climbs 72 = .ok (.aload_n 0, 1) := by decide +kernel
theorem dX9_climbs_73 : decode cX9_climbs 73 = .ok (.invokevirtual 272, 3) := by decide +kernel
theorem dX9_climbs_76 : decode cX9_climbs 76 = .ok (.if_icmp .le 7, 3) := by decide +kernel
theorem dX9_climbs_79 : decode cX9_climbs 79 = .ok (.iconst 1, 1) := by decide +kernel
theorem dX9_climbs_80 : decode cX9_climbs 80 = .ok (.goto 4, 3) := by decide +kernel
theorem dX9_climbs_83 : decode cX9_climbs 83 = .ok (.iconst 0, 1) := by decide +kernel
theorem dX9_climbs_84 : decode cX9_climbs 84 = .ok (.istore 4, 2) := by decide +kernel
theorem dX9_climbs_86 : decode cX9_climbs 86 = .ok (.iload 4, 2) := by decide +kernel
theorem dX9_climbs_88 : decode cX9_climbs 88 = .ok (.ifCond .le 10, 3) := by decide +kernel
theorem dX9_climbs_91 : decode cX9_climbs 91 = .ok (.aload_n 0, 1) := by decide +kernel
theorem dX9_climbs_92 : decode cX9_climbs 92 = .ok (.iload 4, 2) := by decide +kernel
theorem dX9_climbs_94 : decode cX9_climbs 94 = .ok (.invokevirtual 275, 3) := by decide +kernel
theorem dX9_climbs_97 : decode cX9_climbs 97 = .ok (.return_, 1) := by decide +kernel
theorem dX9_climbs_98 : decode cX9_climbs 98 = .ok (.aload_n 0, 1) := by decide +kernel
theorem dX9_climbs_99 : decode cX9_climbs 99 = .ok (.getfield 71, 3) := by decide +kernel
theorem dX9_climbs_102 : decode cX9_climbs 102 = .ok (.aload_n 0, 1) := by decide +kernel
theorem dX9_climbs_103 : decode cX9_climbs 103 = .ok (.getfield 233, 3) := by decide +kernel
theorem dX9_climbs_106 : decode cX9_climbs 106 = .ok (.iload_n 3, 1) := by decide +kernel
theorem dX9_climbs_107 : decode cX9_climbs 107 = .ok (.iastore, 1) := by decide +kernel
theorem dX9_climbs_108 : decode cX9_climbs 108 = .ok (.aload_n 0, 1) := by decide +kernel
theorem dX9_climbs_109 : decode cX9_climbs 109 = .ok (.iload_n 1, 1) := by decide +kernel
theorem dX9_climbs_110 : decode cX9_climbs 110 = .ok (.invokevirtual 285, 3) := by decide +kernel
theorem dX9_climbs_113 : decode cX9_climbs 113 = .ok (.aload_n 0, 1) := by decide +kernel
theorem dX9_climbs_114 : decode cX9_climbs 114 = .ok (.invokevirtual 282, 3) := by decide +kernel
theorem dX9_climbs_117 : decode cX9_climbs 117 = .ok (.return_, 1) := by decide +kernel
theorem dX9_shoulders_0 : decode cX9_shoulders 0 = .ok (.iconst 2, 1) := by decide +kernel
theorem dX9_shoulders_1 : decode cX9_shoulders 1 = .ok (.aload_n 0, 1) := by decide +kernel
theorem dX9_shoulders_2 : decode cX9_shoulders 2 = .ok (.getfield 13, 3) := by decide +kernel
theorem dX9_shoulders_5 : decode cX9_shoulders 5 = .ok (.bipush 8, 2) := by decide +kernel
theorem dX9_shoulders_7 : decode cX9_shoulders 7 = .ok (.aload_n 0, 1) := by decide +kernel
theorem dX9_shoulders_8 : decode cX9_shoulders 8 = .ok (.getfield 239, 3) := by decide +kernel
theorem dX9_shoulders_11 : decode cX9_shoulders 11 = .ok (.imul, 1) := by decide +kernel
theorem dX9_shoulders_12 : decode cX9_shoulders 12 = .ok (.bipush 8, 2) := by decide +kernel
theorem dX9_shoulders_14 : decode cX9_shoulders 14 = .ok (.iadd, 1) := by decide +kernel
theorem dX9_shoulders_15 : decode cX9_shoulders 15 = .ok (.iconst 1, 1) := by decide +kernel
theorem dX9_shoulders_16 : decode cX9_shoulders 16 = .ok (.isub, 1) := by decide +kernel
theorem dX9_shoulders_17 : decode cX9_shoulders 17 = .ok (.iaload, 1) := by decide +kernel
theorem dX9_shoulders_18 : decode cX9_shoulders 18 = .ok (.imul, 1) := by decide +kernel
theorem dX9_shoulders_19 : decode cX9_shoulders 19 = .ok (.istore_n 1, 1) := by decide +kernel
theorem dX9_shoulders_20 : decode cX9_shoulders 20 = .ok (.aload_n 0, 1) := by decide +kernel
theorem dX9_shoulders_21 : decode cX9_shoulders 21 = .ok (.getfield 71, 3) := by decide +kernel
theorem dX9_shoulders_24 : decode cX9_shoulders 24 = .ok (.aload_n 0, 1) := by decide +kernel
theorem dX9_shoulders_25 : decode cX9_shoulders 25 = .ok (.getfield 233, 3) := by decide +kernel
theorem dX9_shoulders_28 : decode cX9_shoulders 28 = .ok (.iaload, 1) := by decide +kernel
theorem dX9_shoulders_29 : decode cX9_shoulders 29 = .ok (.aload_n 0, 1) := by decide +kernel
theorem dX9_shoulders_30 : decode cX9_shoulders 30 = .ok (.getfield 236, 3) := by decide +kernel
theorem dX9_shoulders_33 : decode cX9_shoulders 33 = .ok (.iadd, 1) := by decide +kernel
theorem dX9_shoulders_34 : decode cX9_shoulders 34 = .ok (.bipush 8, 2) := by decide +kernel
theorem dX9_shoulders_36 : decode cX9_shoulders 36 = .ok (.if_icmp .eq 7, 3) := by decide +kernel
theorem dX9_shoulders_39 : decode cX9_shoulders 39 = .ok (.iconst 3, 1) := by decide +kernel
theorem dX9_shoulders_40 : decode cX9_shoulders 40 = .ok (.goto 16, 3) := by decide +kernel
theorem dX9_shoulders_43 : decode cX9_shoulders 43 = .ok (.iload_n 1, 1) := by decide +kernel
theorem dX9_shoulders_44 : decode cX9_shoulders 44 = .ok (.aload_n 0, 1) := by decide +kernel
theorem dX9_shoulders_45 : decode cX9_shoulders 45 = .ok (.invokevirtual 272, 3) := by decide +kernel
theorem dX9_shoulders_48 : decode cX9_shoulders 48 = .ok (.if_icmp .le 7, 3) := by decide +kernel
theorem dX9_shoulders_51 : decode cX9_shoulders 51 = .ok (.iconst 1, 1) := by decide +kernel
theorem dX9_shoulders_52 : decode cX9_shoulders 52 = .ok (.goto 4, 3) := by decide +kernel
theorem dX9_shoulders_55 : decode cX9_shoulders 55 = .ok (.iconst 0, 1) := by decide +kernel
theorem dX9_shoulders_56 : decode cX9_shoulders 56 = .ok (.istore_n 2, 1) := by decide +kernel
theorem dX9_shoulders_57 : decode cX9_shoulders 57 = .ok (.iload_n 2, 1) := by decide +kernel
theorem dX9_shoulders_58 : decode cX9_shoulders 58 = .ok (.ifCond .le 9, 3) := by decide +kernel
theorem dX9_shoulders_61 : decode cX9_shoulders 61 = .ok (.aload_n 0, 1) := by decide +kernel
theorem dX9_shoulders_62 : decode cX9_shoulders 62 = .ok (.iload_n 2, 1) := by decide +kernel
theorem dX9_shoulders_63 : decode cX9_shoulders 63 = .ok (.invokevirtual 275, 3) := by decide +kernel
theorem dX9_shoulders_66 : decode cX9_shoulders 66 = .ok (.return_, 1) := by decide +kernel
theorem dX9_shoulders_67 : decode cX9_shoulders 67 = .ok (.aload_n 0, 1) := by decide +kernel
theorem dX9_shoulders_68 : decode cX9_shoulders 68 = .ok (.iload_n 1, 1) := by decide +kernel
theorem dX9_shoulders_69 : decode cX9_shoulders 69 = .ok (.invokevirtual 285, 3) := by decide +kernel
theorem dX9_shoulders_72 : decode cX9_shoulders 72 = .ok (.aload_n 0, 1) := by decide +kernel
theorem dX9_shoulders_73 : decode cX9_shoulders 73 = .ok (.getfield 74, 3) := by decide +kernel
theorem dX9_shoulders_76 : decode cX9_shoulders 76 = .ok (.aload_n 0, 1) := by decide +kernel
theorem dX9_shoulders_77 : decode cX9_shoulders 77 = .ok (.getfield 233, 3) := by decide +kernel
theorem dX9_shoulders_80 : decode cX9_shoulders 80 = .ok (.aload_n 0, 1) := by decide +kernel
theorem dX9_shoulders_81 : decode cX9_shoulders 81 = .ok (.getfield 74, 3) := by decide +kernel
theorem dX9_shoulders_84 : decode cX9_shoulders 84 = .ok (.aload_n 0, 1) := by decide +kernel
theorem dX9_shoulders_85 : decode cX9_shoulders 85 = .ok (.getfield 233, 3) := by decide +kernel
theorem dX9_shoulders_88 : decode cX9_shoulders 88 = .ok (.iaload, 1) := by decide +kernel
theorem dX9_shoulders_89 : decode cX9_shoulders 89 = .ok (.iconst 4, 1) := by decide +kernel
theorem dX9_shoulders_90 : decode cX9_shoulders 90 = .ok (.iadd, 1) := by decide +kernel
theorem dX9_shoulders_91 : decode cX9_shoulders 91 = .ok (.bipush 8, 2) := by decide +kernel
theorem dX9_shoulders_93 : decode cX9_shoulders 93 = .ok (.irem, 1) := by decide +kernel
theorem dX9_shoulders_94 : decode cX9_shoulders 94 = .ok (.iastore, 1) := by decide +kernel
theorem dX9_shoulders_95 : decode cX9_shoulders 95 = .ok (.aload_n 0, 1) := by decide +kernel
theorem dX9_shoulders_96 : decode cX9_shoulders 96 = .ok (.invokevirtual 282, 3) := by decide +kernel
theorem dX9_shoulders_99 : decode cX9_shoulders 99 = .ok (.return_, 1) := by decide +kernel
theorem dX9_hangs_0 : decode cX9_hangs 0 = .ok (.iload_n 1, 1) := by decide +kernel
theorem dX9_hangs_1 : decode cX9_hangs 1 = .ok (.iconst 4, 1) := by decide +kernel
theorem dX9_hangs_2 : decode cX9_hangs 2 = .ok (.iadd, 1) := by decide +kernel
theorem dX9_hangs_3 : decode cX9_hangs 3 = .ok (.iconst 5, 1) := by decide +kernel
theorem dX9_hangs_4 : decode cX9_hangs 4 = .ok (.idiv, 1) := by decide +kernel
theorem dX9_hangs_5 : decode cX9_hangs 5 = .ok (.istore_n 2, 1) := by decide +kernel
theorem dX9_hangs_6 : decode cX9_hangs 6 = .ok (.iload_n 2, 1) := by decide +kernel
theorem dX9_hangs_7 : decode cX9_hangs 7 = .ok (.aload_n 0, 1) := by decide +kernel
theorem dX9_hangs_8 : decode cX9_hangs 8 = .ok (.getfield 71, 3) := by decide +kernel
theorem dX9_hangs_11 : decode cX9_hangs 11 = .ok (.aload_n 0, 1) := by decide +kernel
theorem dX9_hangs_12 : decode cX9_hangs 12 = .ok (.getfield 233, 3) := by decide +kernel
theorem dX9_hangs_15 : decode cX9_hangs 15 = .ok (.iaload, 1) := by decide +kernel
theorem dX9_hangs_16 : decode cX9_hangs 16 = .ok (.if_icmp .ge 7, 3) := by decide +kernel
theorem dX9_hangs_19 : decode cX9_hangs 19 = .ok (.iload_n 2, 1) := by decide +kernel
theorem dX9_hangs_20 : decode cX9_hangs 20 = .ok (.goto 12, 3) := by decide +kernel
theorem dX9_hangs_23 : decode cX9_hangs 23 = .ok (.aload_n 0, 1) := by decide +kernel
theorem dX9_hangs_24 : decode cX9_hangs 24 = .ok (.getfield 71, 3) := by decide +kernel
theorem dX9_hangs_27 : decode cX9_hangs 27 = .ok (.aload_n 0, 1) := by decide +kernel
theorem dX9_hangs_28 : decode cX9_hangs 28 = .ok (.getfield 233, 3) := by decide +kernel
theorem dX9_hangs_31 : decode cX9_hangs 31 = .ok (.iaload, 1) := by decide +kernel
theorem dX9_hangs_32 : decode cX9_hangs 32 = .ok (.istore_n 3, 1) := by decide +kernel
theorem dX9_hangs_33 : decode cX9_hangs 33 = .ok (.aload_n 0, 1) := by decide +kernel
theorem dX9_hangs_34 : decode cX9_hangs 34 = .ok (.getfield 252, 3) := by decide +kernel
theorem dX9_hangs_37 : decode cX9_hangs 37 = .ok (.ifCond .eq 7, 3) := by decide +kernel
theorem dX9_hangs_40 : decode cX9_hangs 40 = .ok (.iconst 5, 1) := by decide +kernel
theorem dX9_hangs_41 : decode cX9_hangs 41 = .ok (.goto 49, 3) := by decide +kernel
theorem dX9_hangs_44 : decode cX9_hangs 44 = .ok (.iload_n 1, 1) := by decide +kernel
theorem dX9_hangs_45 : decode cX9_hangs 45 = .ok (.invokestatic 269, 3) := by decide +kernel
theorem dX9_hangs_48 : decode cX9_hangs 48 = .ok (.ifCond .ne 7, 3) := by decide +kernel
theorem dX9_hangs_51 : decode cX9_hangs 51 = .ok (.iconst 4, 1) := by decide +kernel
theorem dX9_hangs_52 : decode cX9_hangs 52 = .ok (.goto 38, 3) := by decide +kernel
theorem dX9_hangs_55 : decode cX9_hangs 55 = .ok (.iload_n 1, 1) := by decide +kernel
theorem dX9_hangs_56 : decode cX9_hangs 56 = .ok (.aload_n 0, 1) := by decide +kernel
theorem dX9_hangs_57 : decode cX9_hangs 57 = .ok (.invokevirtual 272, 3) := by decide +kernel
theorem dX9_hangs_60 : decode cX9_hangs 60 = .ok (.if_icmp .le 7, 3) := by decide +kernel
theorem dX9_hangs_63 : decode cX9_hangs 63 = .ok (.iconst 1, 1) := by decide +kernel
theorem dX9_hangs_64 : decode cX9_hangs 64 = .ok (.goto 26, 3) := by decide +kernel
theorem dX9_hangs_67 : decode cX9_hangs 67 = .ok (.aload_n 0, 1) := by decide +kernel
theorem dX9_hangs_68 : decode cX9_hangs 68 = .ok (.getfield 68, 3) := by decide +kernel
theorem dX9_hangs_71 : decode cX9_hangs 71 = .ok (.aload_n 0, 1) := by decide +kernel
theorem dX9_hangs_72 : decode cX9_hangs 72 = .ok (.getfield 233, 3) := by decide +kernel
theorem dX9_hangs_75 : decode cX9_hangs 75 = .ok (.iaload, 1) := by decide +kernel
theorem dX9_hangs_76 : decode cX9_hangs 76 = .ok (.iload_n 3, 1) := by decide +kernel
theorem dX9_hangs_77 : decode cX9_hangs 77 = .ok (.iadd, 1) := by decide +kernel
theorem dX9_hangs_78 : decode cX9_hangs 78 = .ok (.sipush 400, 3) := by decide +kernel
theorem dX9_hangs_81 : decode cX9_hangs 81 = .ok (.if_icmp .le 8, 3) := by decide +kernel
theorem dX9_hangs_84 : decode cX9_hangs 84 = .ok (.bipush 6, 2) := by decide +kernel
theorem dX9_hangs_86 : decode cX9_hangs 86 = .ok (.goto 4, 3) := by decide +kernel
theorem dX9_hangs_89 : decode cX9_hangs 89 = .ok (.iconst 0, 1) := by decide +kernel
theorem dX9_hangs_90 : decode cX9_hangs 90 = .ok (.istore 4, 2) := by decide +kernel
theorem dX9_hangs_92 : decode cX9_hangs 92 = .ok (.iload 4, 2) := by decide +kernel
theorem dX9_hangs_94 : decode cX9_hangs 94 = .ok (.ifCond .le 10, 3) := by decide +kernel
theorem dX9_hangs_97 : decode cX9_hangs 97 = .ok (.aload_n 0, 1) := by decide +kernel
theorem dX9_hangs_98 : decode cX9_hangs 98 = .ok (.iload 4, 2) := by decide +kernel
theorem dX9_hangs_100 : decode cX9_hangs 100 = .ok (.invokevirtual 275, 3) := by decide +kernel
theorem dX9_hangs_103 : decode cX9_hangs 103 = .ok (.return_, 1) := by decide +kernel
theorem dX9_hangs_104 : decode cX9_hangs 104 = .ok (.iload_n 1, 1) := by decide +kernel
theorem dX9_hangs_105 : decode cX9_hangs 105 = .ok (.istore 5, 2) := by decide +kernel
theorem dX9_hangs_107 : decode cX9_hangs 107 = .ok (.iconst 0, 1) := by decide +kernel
theorem dX9_hangs_108 : decode cX9_hangs 108 = .ok (.istore 6, 2) := by decide +kernel
theorem dX9_hangs_110 : decode cX9_hangs 110 = .ok (.iload 6, 2) := by decide +kernel
theorem dX9_hangs_112 : decode cX9_hangs 112 = .ok (.iload_n 3, 1) := by decide +kernel
theorem dX9_hangs_113 : decode cX9_hangs 113 = .ok (.if_icmp .ge 60, 3) := by decide +kernel
theorem dX9_hangs_116 : decode cX9_hangs 116 = .ok (.iload 5, 2) := by decide +kernel
theorem dX9_hangs_118 : decode cX9_hangs 118 = .ok (.iconst 5, 1) := by decide +kernel
theorem dX9_hangs_119 : decode cX9_hangs 119 = .ok (.if_icmp .ge 8, 3) := by decide +kernel
theorem dX9_hangs_122 : decode cX9_hangs 122 = .ok (.iload 5, 2) := by decide +kernel
theorem dX9_hangs_124 : decode cX9_hangs 124 = .ok (.goto 4, 3) := by decide +kernel
theorem dX9_hangs_127 : decode cX9_hangs 127 = .ok (.iconst 5, 1) := by decide +kernel
theorem dX9_hangs_128 : decode cX9_hangs 128 = .ok (.istore 7, 2) := by decide +kernel
theorem dX9_hangs_130 : decode cX9_hangs 130 = .ok (.aload_n 0, 1) := by decide +kernel
theorem dX9_hangs_131 : decode cX9_hangs 131 = .ok (.aload_n 0, 1) := by decide +kernel
theorem dX9_hangs_132 : decode cX9_hangs 132 = .ok (.getfield 71, 3) := by decide +kernel
theorem dX9_hangs_135 : decode cX9_hangs 135 = .ok (.aload_n 0, 1) := by decide +kernel
theorem dX9_hangs_136 : decode cX9_hangs 136 = .ok (.getfield 233, 3) := by decide +kernel
theorem dX9_hangs_139 : decode cX9_hangs 139 = .ok (.iaload, 1) := by decide +kernel
theorem dX9_hangs_140 : decode cX9_hangs 140 = .ok (.iconst 1, 1) := by decide +kernel
theorem dX9_hangs_141 : decode cX9_hangs 141 = .ok (.isub, 1) := by decide +kernel
theorem dX9_hangs_142 : decode cX9_hangs 142 = .ok (.iload 6, 2) := by decide +kernel
theorem dX9_hangs_144 : decode cX9_hangs 144 = .ok (.isub, 1) := by decide +kernel
theorem dX9_hangs_145 : decode cX9_hangs 145 = .ok (.iload 7, 2) := by decide +kernel
theorem dX9_hangs_147 : decode cX9_hangs 147 = .ok (.iconst 1, 1) := by decide +kernel
theorem dX9_hangs_148 : decode cX9_hangs 148 = .ok (.aload_n 0, 1) := by decide +kernel
theorem dX9_hangs_149 : decode cX9_hangs 149 = .ok (.getfield 80, 3) := by decide +kernel
theorem dX9_hangs_152 : decode cX9_hangs 152 = .ok (.aload_n 0, 1) := by decide +kernel
theorem dX9_hangs_153 : decode cX9_hangs 153 = .ok (.getfield 233, 3) := by decide +kernel
theorem dX9_hangs_156 : decode cX9_hangs 156 = .ok (.iaload, 1) := by decide +kernel
theorem dX9_hangs_157 : decode cX9_hangs 157 = .ok (.invokevirtual 278, 3) := by decide +kernel
theorem dX9_hangs_160 : decode cX9_hangs 160 = .ok (.iload 5, 2) := by decide +kernel
theorem dX9_hangs_162 : decode cX9_hangs 162 = .ok (.iload 7, 2) := by decide +kernel
theorem dX9_hangs_164 : decode cX9_hangs 164 = .ok (.isub, 1) := by decide +kernel
theorem dX9_hangs_165 : decode cX9_hangs 165 = .ok (.istore 5, 2) := by decide +kernel
theorem dX9_hangs_167 : decode cX9_hangs 167 = .ok (.iinc 6 1, 3) := by decide +kernel
theorem dX9_hangs_170 : decode cX9_hangs 170 = .ok (.goto (-60), 3) := by decide +kernel
theorem dX9_hangs_173 : decode cX9_hangs 173 = .ok (.aload_n 0, 1) := by decide +kernel
theorem dX9_hangs_174 : decode cX9_hangs 174 = .ok (.iload 5, 2) := by decide +kernel
theorem dX9_hangs_176 : decode cX9_hangs 176 = .ok (.invokevirtual 285, 3) := by decide +kernel
theorem dX9_hangs_179 : decode cX9_hangs 179 = .ok (.aload_n 0, 1) := by decide +kernel
theorem dX9_hangs_180 : decode cX9_hangs 180 = .ok (.getfield 83, 3) := by decide +kernel
theorem dX9_hangs_183 : decode cX9_hangs 183 = .ok (.aload_n 0, 1) := by decide +kernel
theorem dX9_hangs_184 : decode cX9_hangs 184 = .ok (.getfield 233, 3) := by decide +kernel
theorem dX9_hangs_187 : decode cX9_hangs 187 = .ok (.iload_n 1, 1) := by decide +kernel
theorem dX9_hangs_188 : decode cX9_hangs 188 = .ok (.ifCond .ne 15, 3) := by decide +kernel
theorem dX9_hangs_191 : decode cX9_hangs 191 = .ok (.aload_n 0, 1) := by decide +kernel
theorem dX9_hangs_192 : decode cX9_hangs 192 = .ok (.getfield 71, 3) := by decide +kernel
theorem dX9_hangs_195 : decode cX9_hangs 195 = .ok (.aload_n 0, 1) := by decide +kernel
theorem dX9_hangs_196 : decode cX9_hangs 196 = .ok (.getfield 233, 3) := by decide +kernel
theorem dX9_hangs_199 : decode cX9_hangs 199 = .ok (.iaload, 1) := by decide +kernel
theorem dX9_hangs_200 : decode cX9_hangs 200 = .ok (.goto 31, 3) := by decide +kernel
theorem dX9_hangs_203 : decode cX9_hangs 203 = .ok (.iload_n 2, 1) := by decide +kernel
theorem dX9_hangs_204 : decode cX9_hangs 204 = .ok (.aload_n 0, 1) := by decide +kernel
theorem dX9_hangs_205 : decode cX9_hangs 205 = .ok (.getfield 71, 3) := by decide +kernel
theorem dX9_hangs_208 : decode cX9_hangs 208 = .ok (.aload_n 0, 1) := by decide +kernel
theorem dX9_hangs_209 : decode cX9_hangs 209 = .ok (.getfield 233, 3) := by decide +kernel
theorem dX9_hangs_212 : decode cX9_hangs 212 = .ok (.iaload, 1) := by decide +kernel
theorem dX9_hangs_213 : decode cX9_hangs 213 = .ok (.if_icmp .le 7, 3) := by decide +kernel
theorem dX9_hangs_216 : decode cX9_hangs 216 = .ok (.iconst (-1), 1) := by decide +kernel
theorem dX9_hangs_217 : decode cX9_hangs 217 = .ok (.goto 14, 3) := by decide +kernel
theorem dX9_hangs_220 : decode cX9_hangs 220 = .ok (.aload_n 0, 1) := by decide +kernel
theorem dX9_hangs_221 : decode cX9_hangs 221 = .ok (.getfield 71, 3) := by decide +kernel
theorem dX9_hangs_224 : decode cX9_hangs 224 = .ok (.aload_n 0, 1) := by decide +kernel
theorem dX9_hangs_225 : decode cX9_hangs 225 = .ok (.getfield 233, 3) := by decide +kernel
theorem dX9_hangs_228 : decode cX9_hangs 228 = .ok (.iaload, 1) := by decide +kernel
theorem dX9_hangs_229 : decode cX9_hangs 229 = .ok (.iload_n 2, 1) := by decide +kernel
theorem dX9_hangs_230 : decode cX9_hangs 230 = .ok (.isub, 1) := by decide +kernel
theorem dX9_hangs_231 : decode cX9_hangs 231 = .ok (.iastore, 1) := by decide +kernel
theorem dX9_hangs_232 : decode cX9_hangs 232 = .ok (.aload_n 0, 1) := by decide +kernel
theorem dX9_hangs_233 : decode cX9_hangs 233 = .ok (.invokevirtual 282, 3) := by decide +kernel
theorem dX9_hangs_236 : decode cX9_hangs 236 = .ok (.return_, 1) := by decide +kernel
theorem dX9_tucks_0 : decode cX9_tucks 0 = .ok (.aload_n 0, 1) := by decide +kernel
theorem dX9_tucks_1 : decode cX9_tucks 1 = .ok (.getfield 68, 3) := by decide +kernel
theorem dX9_tucks_4 : decode cX9_tucks 4 = .ok (.aload_n 0, 1) := by decide +kernel
theorem dX9_tucks_5 : decode cX9_tucks 5 = .ok (.getfield 233, 3) := by decide +kernel
theorem dX9_tucks_8 : decode cX9_tucks 8 = .ok (.iaload, 1) := by decide +kernel
theorem dX9_tucks_9 : decode cX9_tucks 9 = .ok (.ifCond .ne 12, 3) := by decide +kernel
theorem dX9_tucks_12 : decode cX9_tucks 12 = .ok (.aload_n 0, 1) := by decide +kernel
theorem dX9_tucks_13 : decode cX9_tucks 13 = .ok (.bipush 6, 2) := by decide +kernel
theorem dX9_tucks_15 : decode cX9_tucks 15 = .ok (.invokevirtual 275, 3) := by decide +kernel
theorem dX9_tucks_18 : decode cX9_tucks 18 = .ok (.goto 46, 3) := by decide +kernel
theorem dX9_tucks_21 : decode cX9_tucks 21 = .ok (.aload_n 0, 1) := by decide +kernel
theorem dX9_tucks_22 : decode cX9_tucks 22 = .ok (.getfield 59, 3) := by decide +kernel
theorem dX9_tucks_25 : decode cX9_tucks 25 = .ok (.sipush 2001, 3) := by decide +kernel
theorem dX9_tucks_28 : decode cX9_tucks 28 = .ok (.aload_n 0, 1) := by decide +kernel
theorem dX9_tucks_29 : decode cX9_tucks 29 = .ok (.getfield 233, 3) := by decide +kernel
theorem dX9_tucks_32 : decode cX9_tucks 32 = .ok (.imul, 1) := by decide +kernel
theorem dX9_tucks_33 : decode cX9_tucks 33 = .ok (.aload_n 0, 1) := by decide +kernel
theorem dX9_tucks_34 : decode cX9_tucks 34 = .ok (.getfield 38, 3) := by decide +kernel
theorem dX9_tucks_37 : decode cX9_tucks 37 = .ok (.sipush 400, 3) := by decide +kernel
theorem dX9_tucks_40 : decode cX9_tucks 40 = .ok (.aload_n 0, 1) := by decide +kernel
theorem dX9_tucks_41 : decode cX9_tucks 41 = .ok (.getfield 233, 3) := by decide +kernel
theorem dX9_tucks_44 : decode cX9_tucks 44 = .ok (.imul, 1) := by decide +kernel
theorem dX9_tucks_45 : decode cX9_tucks 45 = .ok (.aload_n 0, 1) := by decide +kernel
theorem dX9_tucks_46 : decode cX9_tucks 46 = .ok (.getfield 68, 3) := by decide +kernel
theorem dX9_tucks_49 : decode cX9_tucks 49 = .ok (.aload_n 0, 1) := by decide +kernel
theorem dX9_tucks_50 : decode cX9_tucks 50 = .ok (.getfield 233, 3) := by decide +kernel
theorem dX9_tucks_53 : decode cX9_tucks 53 = .ok (.iaload, 1) := by decide +kernel
theorem dX9_tucks_54 : decode cX9_tucks 54 = .ok (.iadd, 1) := by decide +kernel
theorem dX9_tucks_55 : decode cX9_tucks 55 = .ok (.iconst 1, 1) := by decide +kernel
theorem dX9_tucks_56 : decode cX9_tucks 56 = .ok (.isub, 1) := by decide +kernel
theorem dX9_tucks_57 : decode cX9_tucks 57 = .ok (.iaload, 1) := by decide +kernel
theorem dX9_tucks_58 : decode cX9_tucks 58 = .ok (.iadd, 1) := by decide +kernel
theorem dX9_tucks_59 : decode cX9_tucks 59 = .ok (.dup2, 1) := by decide +kernel
theorem dX9_tucks_60 : decode cX9_tucks 60 = .ok (.iaload, 1) := by decide +kernel
theorem dX9_tucks_61 : decode cX9_tucks 61 = .ok (.iconst 1, 1) := by decide +kernel
theorem dX9_tucks_62 : decode cX9_tucks 62 = .ok (.iadd, 1) := by decide +kernel
theorem dX9_tucks_63 : decode cX9_tucks 63 = .ok (.iastore, 1) := by decide +kernel
theorem dX9_tucks_64 : decode cX9_tucks 64 = .ok (.return_, 1) := by decide +kernel
theorem dX9_skips_0 : decode cX9_skips 0 = .ok (.iconst 1, 1) := by decide +kernel
theorem dX9_skips_1 : decode cX9_skips 1 = .ok (.istore_n 1, 1) := by decide +kernel
theorem dX9_skips_2 : decode cX9_skips 2 = .ok (.iload_n 1, 1) := by decide +kernel
theorem dX9_skips_3 : decode cX9_skips 3 = .ok (.ifCond .le 46, 3) := by decide +kernel
theorem dX9_skips_6 : decode cX9_skips 6 = .ok (.iload_n 1, 1) := by decide +kernel
theorem dX9_skips_7 : decode cX9_skips 7 = .ok (.aload_n 0, 1) := by decide +kernel
theorem dX9_skips_8 : decode cX9_skips 8 = .ok (.invokevirtual 196, 3) := by decide +kernel
theorem dX9_skips_11 : decode cX9_skips 11 = .ok (.bipush 91, 2) := by decide +kernel
theorem dX9_skips_13 : decode cX9_skips 13 = .ok (.if_icmp .ne 7, 3) := by decide +kernel
theorem dX9_skips_16 : decode cX9_skips 16 = .ok (.iconst 1, 1) := by decide +kernel
theorem dX9_skips_17 : decode cX9_skips 17 = .ok (.goto 17, 3) := by decide +kernel
theorem dX9_skips_20 : decode cX9_skips 20 = .ok (.aload_n 0, 1) := by decide +kernel
theorem dX9_skips_21 : decode cX9_skips 21 = .ok (.invokevirtual 196, 3) := by decide +kernel
theorem dX9_skips_24 : decode cX9_skips 24 = .ok (.bipush 93, 2) := by decide +kernel
theorem dX9_skips_26 : decode cX9_skips 26 = .ok (.if_icmp .ne 7, 3) := by decide +kernel
theorem dX9_skips_29 : decode cX9_skips 29 = .ok (.iconst (-1), 1) := by decide +kernel
theorem dX9_skips_30 : decode cX9_skips 30 = .ok (.goto 4, 3) := by decide +kernel
theorem dX9_skips_33 : decode cX9_skips 33 = .ok (.iconst 0, 1) := by decide +kernel
theorem dX9_skips_34 : decode cX9_skips 34 = .ok (.iadd, 1) := by decide +kernel
theorem dX9_skips_35 : decode cX9_skips 35 = .ok (.istore_n 1, 1) := by decide +kernel
theorem dX9_skips_36 : decode cX9_skips 36 = .ok (.aload_n 0, 1) := by decide +kernel
theorem dX9_skips_37 : decode cX9_skips 37 = .ok (.dup, 1) := by decide +kernel
theorem dX9_skips_38 : decode cX9_skips 38 = .ok (.getfield 178, 3) := by decide +kernel
theorem dX9_skips_41 : decode cX9_skips 41 = .ok (.iconst 1, 1) := by decide +kernel
theorem dX9_skips_42 : decode cX9_skips 42 = .ok (.iadd, 1) := by decide +kernel
theorem dX9_skips_43 : decode cX9_skips 43 = .ok (.putfield 178, 3) := by decide +kernel
theorem dX9_skips_46 : decode cX9_skips 46 = .ok (.goto (-44), 3) := by decide +kernel
theorem dX9_skips_49 : decode cX9_skips 49 = .ok (.return_, 1) := by decide +kernel
section
variable {d : Nat} {M : gM} {Z : Option Value → gM → Prop} {a0 a1 a2 a3 a4 a5 a6 a7 a8 a9 a10 a11 a12 : Option Value} {v s0 s1 s2 s3 s4 s5 s6 s7 s8 s9 s10 s11 : Value} {x y w : Int32} {o b u1 u2 : Nat}
/-! 155: X9_winds (I)V -/
theorem gd155 {pc : Nat} {r : Except _ _} (h : decode cX9_winds pc = r) : decode (gby 155) pc = r := h
theorem z155_0 : Run d 155 0 [some (.ref o), a1, a2, a3, a4] [] M 0 0 Z ↔ Run d 155 1 [some (.ref o), a1, a2, a3, a4] [.ref o] M 0 0 Z := R_local (gd155 dX9_winds_0) rfl rfl rfl
theorem z155_1 : Run d 155 1 [some (.ref o), a1, a2, a3, a4] [s0] M 0 0 Z ↔ Run d 155 2 [some (.ref o), a1, a2, a3, a4] [.ref o, s0] M 0 0 Z := R_local (gd155 dX9_winds_1) rfl rfl rfl
theorem z155_2 : Run d 155 2 [a0, a1, a2, a3, a4] [.ref o, s0] M 0 0 Z ↔ gObj M o 9 ∧ Run d 155 5 [a0, a1, a2, a3, a4] [va_rf (M.2.1 o 28), s0] M 0 0 Z := R_getR (gd155 dX9_winds_2) rfl gf_9_71 rfl
theorem z155_5 : Run d 155 5 [some (.ref o), a1, a2, a3, a4] [s1, s0] M 0 0 Z ↔ Run d 155 6 [some (.ref o), a1, a2, a3, a4] [.ref o, s1, s0] M 0 0 Z := R_local (gd155 dX9_winds_5) rfl rfl rfl
theorem z155_6 : Run d 155 6 [a0, a1, a2, a3, a4] [.ref o, s1, s0] M 0 0 Z ↔ gObj M o 9 ∧ Run d 155 9 [a0, a1, a2, a3, a4] [.int (M.1 o 36), s1, s0] M 0 0 Z := R_getI (gd155 dX9_winds_6) rfl gf_9_233 rfl
theorem z155_9 : Run d 155 9 [a0, a1, a2, a3, a4] [.int x, .ref o, s0] M 0 0 Z ↔ gAr M o 0 ∧ gIn x (gLen M o) = true ∧ Run d 155 10 [a0, a1, a2, a3, a4] [.int (M.1 o x.toNatClampNeg), s0] M 0 0 Z := R_iald (gd155 dX9_winds_9)
theorem z155_10 : Run d 155 10 [some (.ref o), a1, a2, a3, a4] [s1, s0] M 0 0 Z ↔ Run d 155 11 [some (.ref o), a1, a2, a3, a4] [.ref o, s1, s0] M 0 0 Z := R_local (gd155 dX9_winds_10) rfl rfl rfl
theorem z155_11 : Run d 155 11 [a0, a1, a2, a3, a4] [.ref o, s1, s0] M 0 0 Z ↔ gObj M o 9 ∧ Run d 155 14 [a0, a1, a2, a3, a4] [.int (M.1 o 39), s1, s0] M 0 0 Z := R_getI (gd155 dX9_winds_11) rfl gf_9_236 rfl
theorem z155_14 : Run d 155 14 [some (.ref o), a1, a2, a3, a4] [s2, s1, s0] M 0 0 Z ↔ Run d 155 15 [some (.ref o), a1, a2, a3, a4] [.ref o, s2, s1, s0] M 0 0 Z := R_local (gd155 dX9_winds_14) rfl rfl rfl
theorem z155_15 : Run d 155 15 [a0, a1, a2, a3, a4] [.ref o, s2, s1, s0] M 0 0 Z ↔ gObj M o 9 ∧ Run d 155 18 [a0, a1, a2, a3, a4] [.int (M.1 o 37), s2, s1, s0] M 0 0 Z := R_getI (gd155 dX9_winds_15) rfl gf_9_239 rfl
theorem z155_18 : Run d 155 18 [a0, a1, a2, a3, a4] [s3, s2, s1, .ref b] M 0 0 Z ↔ gObj M b 9 ∧ Call d 144 [.ref b, s1, s2, s3] M (fun r M1 => Run d 155 21 [a0, a1, a2, a3, a4] (r.toList ++ []) M1 0 0 Z) := R_callV (gd155 dX9_winds_18) rfl rfl rfl rfl rfl rfl gc_9_242 rfl rfl (Nat.le_of_ble_eq_true rfl) (Nat.le_of_ble_eq_true rfl) rfl rfl (Nat.le_of_ble_eq_true rfl) (Nat.le_of_ble_eq_true rfl)
theorem z155_21 : Run d 155 21 [a0, a1, a2, a3, a4] [.int x] M 0 0 Z ↔ Run d 155 22 [a0, a1, some (.int x), a3, a4] [] M 0 0 Z := R_local (gd155 dX9_winds_21) rfl rfl rfl
theorem z155_22 : Run d 155 22 [some (.ref o), a1, a2, a3, a4] [] M 0 0 Z ↔ Run d 155 23 [some (.ref o), a1, a2, a3, a4] [.ref o] M 0 0 Z := R_local (gd155 dX9_winds_22) rfl rfl rfl
theorem z155_23 : Run d 155 23 [a0, a1, a2, a3, a4] [.ref o] M 0 0 Z ↔ gObj M o 9 ∧ Run d 155 26 [a0, a1, a2, a3, a4] [.int (M.1 o 49)] M 0 0 Z := R_getI (gd155 dX9_winds_23) rfl gf_9_252 rfl
theorem z155_26 : Run d 155 26 [a0, a1, a2, a3, a4] [.int x] M 0 0 Z ↔ (x = 0 → Run d 155 33 [a0, a1, a2, a3, a4] [] M 0 0 Z) ∧ (¬ (x = 0) → Run d 155 29 [a0, a1, a2, a3, a4] [] M 0 0 Z) := R_if (gd155 dX9_winds_26) (show gTgt 26 7 = some 33 by decide) gIf_eq
theorem z155_29 : Run d 155 29 [a0, a1, a2, a3, a4] [] M 0 0 Z ↔ Run d 155 30 [a0, a1, a2, a3, a4] [.int 5] M 0 0 Z := R_iconst (gd155 dX9_winds_29) (by decide)
theorem z155_30 : Run d 155 30 [a0, a1, a2, a3, a4] [s0] M 0 0 Z ↔ Run d 155 81 [a0, a1, a2, a3, a4] [s0] M 0 0 Z := R_goto (gd155 dX9_winds_30) (show gTgt 30 51 = some 81 by decide)
theorem z155_33 : Run d 155 33 [a0, some (.int x), a2, a3, a4] [] M 0 0 Z ↔ Run d 155 34 [a0, some (.int x), a2, a3, a4] [.int x] M 0 0 Z := R_local (gd155 dX9_winds_33) rfl rfl rfl
theorem z155_34 : Run d 155 34 [a0, a1, a2, a3, a4] [s0] M 0 0 Z ↔ Call d 150 [s0] M (fun r M1 => Run d 155 37 [a0, a1, a2, a3, a4] (r.toList ++ []) M1 0 0 Z) := R_call (gd155 dX9_winds_34) rfl rfl rfl rfl rfl rfl gc_9_269 rfl (by decide) (Nat.le_of_ble_eq_true rfl) (Nat.le_of_ble_eq_true rfl) rfl rfl rfl (Nat.le_of_ble_eq_true rfl) (Nat.le_of_ble_eq_true rfl)
theorem z155_37 : Run d 155 37 [a0, a1, a2, a3, a4] [.int x] M 0 0 Z ↔ (¬ x = 0 → Run d 155 44 [a0, a1, a2, a3, a4] [] M 0 0 Z) ∧ (¬ (¬ x = 0) → Run d 155 40 [a0, a1, a2, a3, a4] [] M 0 0 Z) := R_if (gd155 dX9_winds_37) (show gTgt 37 7 = some 44 by decide) gIf_ne
theorem z155_40 : Run d 155 40 [a0, a1, a2, a3, a4] [] M 0 0 Z ↔ Run d 155 41 [a0, a1, a2, a3, a4] [.int 4] M 0 0 Z := R_iconst (gd155 dX9_winds_40) (by decide)
theorem z155_41 : Run d 155 41 [a0, a1, a2, a3, a4] [s0] M 0 0 Z ↔ Run d 155 81 [a0, a1, a2, a3, a4] [s0] M 0 0 Z := R_goto (gd155 dX9_winds_41) (show gTgt 41 40 = some 81 by decide)
theorem z155_44 : Run d 155 44 [a0, some (.int x), a2, a3, a4] [] M 0 0 Z ↔ Run d 155 45 [a0, some (.int x), a2, a3, a4] [.int x] M 0 0 Z := R_local (gd155 dX9_winds_44) rfl rfl rfl
theorem z155_45 : Run d 155 45 [a0, a1, some (.int x), a3, a4] [s0] M 0 0 Z ↔ Run d 155 46 [a0, a1, some (.int x), a3, a4] [.int x, s0] M 0 0 Z := R_local (gd155 dX9_winds_45) rfl rfl rfl
theorem z155_46 : Run d 155 46 [a0, a1, a2, a3, a4] [.int y, .int x] M 0 0 Z ↔ Run d 155 47 [a0, a1, a2, a3, a4] [.int (x * y)] M 0 0 Z := R_arith (gd155 dX9_winds_46) rfl
theorem z155_47 : Run d 155 47 [some (.ref o), a1, a2, a3, a4] [s0] M 0 0 Z ↔ Run d 155 48 [some (.ref o), a1, a2, a3, a4] [.ref o, s0] M 0 0 Z := R_local (gd155 dX9_winds_47) rfl rfl rfl
theorem z155_48 : Run d 155 48 [a0, a1, a2, a3, a4] [.ref b, s0] M 0 0 Z ↔ gObj M b 9 ∧ Call d 151 [.ref b] M (fun r M1 => Run d 155 51 [a0, a1, a2, a3, a4] (r.toList ++ [s0]) M1 0 0 Z) := R_callV (gd155 dX9_winds_48) rfl rfl rfl rfl rfl rfl gc_9_272 rfl rfl (Nat.le_of_ble_eq_true rfl) (Nat.le_of_ble_eq_true rfl) rfl rfl (Nat.le_of_ble_eq_true rfl) (Nat.le_of_ble_eq_true rfl)
theorem z155_51 : Run d 155 51 [a0, a1, a2, a3, a4] [.int y, .int x] M 0 0 Z ↔ (x ≤ y → Run d 155 58 [a0, a1, a2, a3, a4] [] M 0 0 Z) ∧ (¬ (x ≤ y) → Run d 155 54 [a0, a1, a2, a3, a4] [] M 0 0 Z) := R_icmp (gd155 dX9_winds_51) (show gTgt 51 7 = some 58 by decide) gIf_le
theorem z155_54 : Run d 155 54 [a0, a1, a2, a3, a4] [] M 0 0 Z ↔ Run d 155 55 [a0, a1, a2, a3, a4] [.int 1] M 0 0 Z := R_iconst (gd155 dX9_winds_54) (by decide)
theorem z155_55 : Run d 155 55 [a0, a1, a2, a3, a4] [s0] M 0 0 Z ↔ Run d 155 81 [a0, a1, a2, a3, a4] [s0] M 0 0 Z := R_goto (gd155 dX9_winds_55) (show gTgt 55 26 = some 81 by decide)
theorem z155_58 : Run d 155 58 [some (.ref o), a1, a2, a3, a4] [] M 0 0 Z ↔ Run d 155 59 [some (.ref o), a1, a2, a3, a4] [.ref o] M 0 0 Z := R_local (gd155 dX9_winds_58) rfl rfl rfl
theorem z155_59 : Run d 155 59 [a0, a1, a2, a3, a4] [.ref o] M 0 0 Z ↔ gObj M o 9 ∧ Run d 155 62 [a0, a1, a2, a3, a4] [va_rf (M.2.1 o 27)] M 0 0 Z := R_getR (gd155 dX9_winds_59) rfl gf_9_68 rfl
theorem z155_62 : Run d 155 62 [some (.ref o), a1, a2, a3, a4] [s0] M 0 0 Z ↔ Run d 155 63 [some (.ref o), a1, a2, a3, a4] [.ref o, s0] M 0 0 Z := R_local (gd155 dX9_winds_62) rfl rfl rfl
theorem z155_63 : Run d 155 63 [a0, a1, a2, a3, a4] [.ref o, s0] M 0 0 Z ↔ gObj M o 9 ∧ Run d 155 66 [a0, a1, a2, a3, a4] [.int (M.1 o 36), s0] M 0 0 Z := R_getI (gd155 dX9_winds_63) rfl gf_9_233 rfl
theorem z155_66 : Run d 155 66 [a0, a1, a2, a3, a4] [.int x, .ref o] M 0 0 Z ↔ gAr M o 0 ∧ gIn x (gLen M o) = true ∧ Run d 155 67 [a0, a1, a2, a3, a4] [.int (M.1 o x.toNatClampNeg)] M 0 0 Z := R_iald (gd155 dX9_winds_66)
theorem z155_67 : Run d 155 67 [a0, some (.int x), a2, a3, a4] [s0] M 0 0 Z ↔ Run d 155 68 [a0, some (.int x), a2, a3, a4] [.int x, s0] M 0 0 Z := R_local (gd155 dX9_winds_67) rfl rfl rfl
theorem z155_68 : Run d 155 68 [a0, a1, a2, a3, a4] [.int y, .int x] M 0 0 Z ↔ Run d 155 69 [a0, a1, a2, a3, a4] [.int (x + y)] M 0 0 Z := R_arith (gd155 dX9_winds_68) rfl
theorem z155_69 : Run d 155 69 [a0, a1, a2, a3, a4] [s0] M 0 0 Z ↔ Run d 155 72 [a0, a1, a2, a3, a4] [.int 400, s0] M 0 0 Z := R_sipush (gd155 dX9_winds_69) (by decide)
theorem z155_72 : Run d 155 72 [a0, a1, a2, a3, a4] [.int y, .int x] M 0 0 Z ↔ (x ≤ y → Run d 155 80 [a0, a1, a2, a3, a4] [] M 0 0 Z) ∧ (¬ (x ≤ y) → Run d 155 75 [a0, a1, a2, a3, a4] [] M 0 0 Z) := R_icmp (gd155 dX9_winds_72) (show gTgt 72 8 = some 80 by decide) gIf_le
theorem z155_75 : Run d 155 75 [a0, a1, a2, a3, a4] [] M 0 0 Z ↔ Run d 155 77 [a0, a1, a2, a3, a4] [.int 6] M 0 0 Z := R_bipush (gd155 dX9_winds_75) (by decide)
theorem z155_77 : Run d 155 77 [a0, a1, a2, a3, a4] [s0] M 0 0 Z ↔ Run d 155 81 [a0, a1, a2, a3, a4] [s0] M 0 0 Z := R_goto (gd155 dX9_winds_77) (show gTgt 77 4 = some 81 by decide)
theorem z155_80 : Run d 155 80 [a0, a1, a2, a3, a4] [] M 0 0 Z ↔ Run d 155 81 [a0, a1, a2, a3, a4] [.int 0] M 0 0 Z := R_iconst (gd155 dX9_winds_80) (by decide)
theorem z155_81 : Run d 155 81 [a0, a1, a2, a3, a4] [.int x] M 0 0 Z ↔ Run d 155 82 [a0, a1, a2, some (.int x), a4] [] M 0 0 Z := R_local (gd155 dX9_winds_81) rfl rfl rfl
theorem z155_82 : Run d 155 82 [a0, a1, a2, some (.int x), a4] [] M 0 0 Z ↔ Run d 155 83 [a0, a1, a2, some (.int x), a4] [.int x] M 0 0 Z := R_local (gd155 dX9_winds_82) rfl rfl rfl
theorem z155_83 : Run d 155 83 [a0, a1, a2, a3, a4] [.int x] M 0 0 Z ↔ (x ≤ 0 → Run d 155 92 [a0, a1, a2, a3, a4] [] M 0 0 Z) ∧ (¬ (x ≤ 0) → Run d 155 86 [a0, a1, a2, a3, a4] [] M 0 0 Z) := R_if (gd155 dX9_winds_83) (show gTgt 83 9 = some 92 by decide) gIf_le
theorem z155_86 : Run d 155 86 [some (.ref o), a1, a2, a3, a4] [] M 0 0 Z ↔ Run d 155 87 [some (.ref o), a1, a2, a3, a4] [.ref o] M 0 0 Z := R_local (gd155 dX9_winds_86) rfl rfl rfl
theorem z155_87 : Run d 155 87 [a0, a1, a2, some (.int x), a4] [s0] M 0 0 Z ↔ Run d 155 88 [a0, a1, a2, some (.int x), a4] [.int x, s0] M 0 0 Z := R_local (gd155 dX9_winds_87) rfl rfl rfl
theorem z155_88 : Run d 155 88 [a0, a1, a2, a3, a4] [s1, .ref b] M 0 0 Z ↔ gObj M b 9 ∧ Call d 149 [.ref b, s1] M (fun r M1 => Run d 155 91 [a0, a1, a2, a3, a4] (r.toList ++ []) M1 0 0 Z) := R_callV (gd155 dX9_winds_88) rfl rfl rfl rfl rfl rfl gc_9_275 rfl rfl (Nat.le_of_ble_eq_true rfl) (Nat.le_of_ble_eq_true rfl) rfl rfl (Nat.le_of_ble_eq_true rfl) (Nat.le_of_ble_eq_true rfl)
theorem z155_91 : Run d 155 91 [a0, a1, a2, a3, a4] [] M 0 0 Z ↔ Z none M := R_vret (gd155 dX9_winds_91) rfl
theorem z155_92 : Run d 155 92 [some (.ref o), a1, a2, a3, a4] [] M 0 0 Z ↔ Run d 155 93 [some (.ref o), a1, a2, a3, a4] [.ref o] M 0 0 Z := R_local (gd155 dX9_winds_92) rfl rfl rfl
theorem z155_93 : Run d 155 93 [a0, a1, a2, a3, a4] [.ref o] M 0 0 Z ↔ gObj M o 9 ∧ Run d 155 96 [a0, a1, a2, a3, a4] [va_rf (M.2.1 o 24)] M 0 0 Z := R_getR (gd155 dX9_winds_93) rfl gf_9_59 rfl
theorem z155_96 : Run d 155 96 [a0, a1, a2, a3, a4] [s0] M 0 0 Z ↔ Run d 155 99 [a0, a1, a2, a3, a4] [.int 2001, s0] M 0 0 Z := R_sipush (gd155 dX9_winds_96) (by decide)
theorem z155_99 : Run d 155 99 [some (.ref o), a1, a2, a3, a4] [s1, s0] M 0 0 Z ↔ Run d 155 100 [some (.ref o), a1, a2, a3, a4] [.ref o, s1, s0] M 0 0 Z := R_local (gd155 dX9_winds_99) rfl rfl rfl
theorem z155_100 : Run d 155 100 [a0, a1, a2, a3, a4] [.ref o, s1, s0] M 0 0 Z ↔ gObj M o 9 ∧ Run d 155 103 [a0, a1, a2, a3, a4] [.int (M.1 o 36), s1, s0] M 0 0 Z := R_getI (gd155 dX9_winds_100) rfl gf_9_233 rfl
theorem z155_103 : Run d 155 103 [a0, a1, a2, a3, a4] [.int y, .int x, s0] M 0 0 Z ↔ Run d 155 104 [a0, a1, a2, a3, a4] [.int (x * y), s0] M 0 0 Z := R_arith (gd155 dX9_winds_103) rfl
theorem z155_104 : Run d 155 104 [some (.ref o), a1, a2, a3, a4] [s1, s0] M 0 0 Z ↔ Run d 155 105 [some (.ref o), a1, a2, a3, a4] [.ref o, s1, s0] M 0 0 Z := R_local (gd155 dX9_winds_104) rfl rfl rfl
theorem z155_105 : Run d 155 105 [a0, a1, a2, a3, a4] [.ref o, s1, s0] M 0 0 Z ↔ gObj M o 9 ∧ Run d 155 108 [a0, a1, a2, a3, a4] [va_rf (M.2.1 o 26), s1, s0] M 0 0 Z := R_getR (gd155 dX9_winds_105) rfl gf_9_65 rfl
theorem z155_108 : Run d 155 108 [some (.ref o), a1, a2, a3, a4] [s2, s1, s0] M 0 0 Z ↔ Run d 155 109 [some (.ref o), a1, a2, a3, a4] [.ref o, s2, s1, s0] M 0 0 Z := R_local (gd155 dX9_winds_108) rfl rfl rfl
theorem z155_109 : Run d 155 109 [a0, a1, a2, a3, a4] [.ref o, s2, s1, s0] M 0 0 Z ↔ gObj M o 9 ∧ Run d 155 112 [a0, a1, a2, a3, a4] [.int (M.1 o 36), s2, s1, s0] M 0 0 Z := R_getI (gd155 dX9_winds_109) rfl gf_9_233 rfl
theorem z155_112 : Run d 155 112 [a0, a1, a2, a3, a4] [.int x, .ref o, s1, s0] M 0 0 Z ↔ gAr M o 0 ∧ gIn x (gLen M o) = true ∧ Run d 155 113 [a0, a1, a2, a3, a4] [.int (M.1 o x.toNatClampNeg), s1, s0] M 0 0 Z := R_iald (gd155 dX9_winds_112)
theorem z155_113 : Run d 155 113 [a0, a1, a2, a3, a4] [.int y, .int x, s0] M 0 0 Z ↔ Run d 155 114 [a0, a1, a2, a3, a4] [.int (x + y), s0] M 0 0 Z := R_arith (gd155 dX9_winds_113) rfl
theorem z155_114 : Run d 155 114 [a0, a1, a2, a3, a4] [s1, s0] M 0 0 Z ↔ Run d 155 115 [a0, a1, a2, a3, a4] [.int 0, s1, s0] M 0 0 Z := R_iconst (gd155 dX9_winds_114) (by decide)
theorem z155_115 : Run d 155 115 [a0, a1, a2, a3, a4] [.int y, .int x, .ref o] M 0 0 Z ↔ gAr M o 0 ∧ gIn x (gLen M o) = true ∧ Run d 155 116 [a0, a1, a2, a3, a4] [] (gsI M o x.toNatClampNeg y) 0 0 Z := R_iast (gd155 dX9_winds_115)
theorem z155_116 : Run d 155 116 [a0, a1, a2, a3, a4] [] M 0 0 Z ↔ Run d 155 117 [a0, a1, a2, a3, a4] [.int 0] M 0 0 Z := R_iconst (gd155 dX9_winds_116) (by decide)
theorem z155_117 : Run d 155 117 [a0, a1, a2, a3, a4] [.int x] M 0 0 Z ↔ Run d 155 119 [a0, a1, a2, a3, some (.int x)] [] M 0 0 Z := R_local (gd155 dX9_winds_117) rfl rfl rfl
theorem z155_119 : Run d 155 119 [a0, a1, a2, a3, some (.int x)] [] M 0 0 Z ↔ Run d 155 121 [a0, a1, a2, a3, some (.int x)] [.int x] M 0 0 Z := R_local (gd155 dX9_winds_119) rfl rfl rfl
theorem z155_121 : Run d 155 121 [a0, some (.int x), a2, a3, a4] [s0] M 0 0 Z ↔ Run d 155 122 [a0, some (.int x), a2, a3, a4] [.int x, s0] M 0 0 Z := R_local (gd155 dX9_winds_121) rfl rfl rfl
theorem z155_122 : Run d 155 122 [a0, a1, a2, a3, a4] [.int y, .int x] M 0 0 Z ↔ (y ≤ x → Run d 155 192 [a0, a1, a2, a3, a4] [] M 0 0 Z) ∧ (¬ (y ≤ x) → Run d 155 125 [a0, a1, a2, a3, a4] [] M 0 0 Z) := R_icmp (gd155 dX9_winds_122) (show gTgt 122 70 = some 192 by decide) gIf_ge
theorem z155_125 : Run d 155 125 [some (.ref o), a1, a2, a3, a4] [] M 0 0 Z ↔ Run d 155 126 [some (.ref o), a1, a2, a3, a4] [.ref o] M 0 0 Z := R_local (gd155 dX9_winds_125) rfl rfl rfl
theorem z155_126 : Run d 155 126 [some (.ref o), a1, a2, a3, a4] [s0] M 0 0 Z ↔ Run d 155 127 [some (.ref o), a1, a2, a3, a4] [.ref o, s0] M 0 0 Z := R_local (gd155 dX9_winds_126) rfl rfl rfl
theorem z155_127 : Run d 155 127 [a0, a1, a2, a3, a4] [.ref o, s0] M 0 0 Z ↔ gObj M o 9 ∧ Run d 155 130 [a0, a1, a2, a3, a4] [va_rf (M.2.1 o 28), s0] M 0 0 Z := R_getR (gd155 dX9_winds_127) rfl gf_9_71 rfl
theorem z155_130 : Run d 155 130 [some (.ref o), a1, a2, a3, a4] [s1, s0] M 0 0 Z ↔ Run d 155 131 [some (.ref o), a1, a2, a3, a4] [.ref o, s1, s0] M 0 0 Z := R_local (gd155 dX9_winds_130) rfl rfl rfl
theorem z155_131 : Run d 155 131 [a0, a1, a2, a3, a4] [.ref o, s1, s0] M 0 0 Z ↔ gObj M o 9 ∧ Run d 155 134 [a0, a1, a2, a3, a4] [.int (M.1 o 36), s1, s0] M 0 0 Z := R_getI (gd155 dX9_winds_131) rfl gf_9_233 rfl
theorem z155_134 : Run d 155 134 [a0, a1, a2, a3, a4] [.int x, .ref o, s0] M 0 0 Z ↔ gAr M o 0 ∧ gIn x (gLen M o) = true ∧ Run d 155 135 [a0, a1, a2, a3, a4] [.int (M.1 o x.toNatClampNeg), s0] M 0 0 Z := R_iald (gd155 dX9_winds_134)
theorem z155_135 : Run d 155 135 [a0, a1, some (.int x), a3, a4] [s1, s0] M 0 0 Z ↔ Run d 155 136 [a0, a1, some (.int x), a3, a4] [.int x, s1, s0] M 0 0 Z := R_local (gd155 dX9_winds_135) rfl rfl rfl
theorem z155_136 : Run d 155 136 [some (.ref o), a1, a2, a3, a4] [s2, s1, s0] M 0 0 Z ↔ Run d 155 137 [some (.ref o), a1, a2, a3, a4] [.ref o, s2, s1, s0] M 0 0 Z := R_local (gd155 dX9_winds_136) rfl rfl rfl
theorem z155_137 : Run d 155 137 [a0, a1, a2, a3, a4] [.ref o, s2, s1, s0] M 0 0 Z ↔ gObj M o 9 ∧ Run d 155 140 [a0, a1, a2, a3, a4] [.int (M.1 o 39), s2, s1, s0] M 0 0 Z := R_getI (gd155 dX9_winds_137) rfl gf_9_236 rfl
theorem z155_140 : Run d 155 140 [some (.ref o), a1, a2, a3, a4] [s3, s2, s1, s0] M 0 0 Z ↔ Run d 155 141 [some (.ref o), a1, a2, a3, a4] [.ref o, s3, s2, s1, s0] M 0 0 Z := R_local (gd155 dX9_winds_140) rfl rfl rfl
theorem z155_141 : Run d 155 141 [a0, a1, a2, a3, a4] [.ref o, s3, s2, s1, s0] M 0 0 Z ↔ gObj M o 9 ∧ Run d 155 144 [a0, a1, a2, a3, a4] [va_rf (M.2.1 o 31), s3, s2, s1, s0] M 0 0 Z := R_getR (gd155 dX9_winds_141) rfl gf_9_80 rfl
theorem z155_144 : Run d 155 144 [some (.ref o), a1, a2, a3, a4] [s4, s3, s2, s1, s0] M 0 0 Z ↔ Run d 155 145 [some (.ref o), a1, a2, a3, a4] [.ref o, s4, s3, s2, s1, s0] M 0 0 Z := R_local (gd155 dX9_winds_144) rfl rfl rfl
theorem z155_145 : Run d 155 145 [a0, a1, a2, a3, a4] [.ref o, s4, s3, s2, s1, s0] M 0 0 Z ↔ gObj M o 9 ∧ Run d 155 148 [a0, a1, a2, a3, a4] [.int (M.1 o 36), s4, s3, s2, s1, s0] M 0 0 Z := R_getI (gd155 dX9_winds_145) rfl gf_9_233 rfl
theorem z155_148 : Run d 155 148 [a0, a1, a2, a3, a4] [.int x, .ref o, s3, s2, s1, s0] M 0 0 Z ↔ gAr M o 0 ∧ gIn x (gLen M o) = true ∧ Run d 155 149 [a0, a1, a2, a3, a4] [.int (M.1 o x.toNatClampNeg), s3, s2, s1, s0] M 0 0 Z := R_iald (gd155 dX9_winds_148)
theorem z155_149 : Run d 155 149 [a0, a1, a2, a3, a4] [s4, s3, s2, s1, .ref b] M 0 0 Z ↔ gObj M b 9 ∧ Call d 152 [.ref b, s1, s2, s3, s4] M (fun r M1 => Run d 155 152 [a0, a1, a2, a3, a4] (r.toList ++ []) M1 0 0 Z) := R_callV (gd155 dX9_winds_149) rfl rfl rfl rfl rfl rfl gc_9_278 rfl rfl (Nat.le_of_ble_eq_true rfl) (Nat.le_of_ble_eq_true rfl) rfl rfl (Nat.le_of_ble_eq_true rfl) (Nat.le_of_ble_eq_true rfl)
theorem z155_152 : Run d 155 152 [some (.ref o), a1, a2, a3, a4] [] M 0 0 Z ↔ Run d 155 153 [some (.ref o), a1, a2, a3, a4] [.ref o] M 0 0 Z := R_local (gd155 dX9_winds_152) rfl rfl rfl
theorem z155_153 : Run d 155 153 [a0, a1, a2, a3, a4] [.ref o] M 0 0 Z ↔ gObj M o 9 ∧ Run d 155 156 [a0, a1, a2, a3, a4] [va_rf (M.2.1 o 29)] M 0 0 Z := R_getR (gd155 dX9_winds_153) rfl gf_9_74 rfl
theorem z155_156 : Run d 155 156 [some (.ref o), a1, a2, a3, a4] [s0] M 0 0 Z ↔ Run d 155 157 [some (.ref o), a1, a2, a3, a4] [.ref o, s0] M 0 0 Z := R_local (gd155 dX9_winds_156) rfl rfl rfl
theorem z155_157 : Run d 155 157 [a0, a1, a2, a3, a4] [.ref o, s0] M 0 0 Z ↔ gObj M o 9 ∧ Run d 155 160 [a0, a1, a2, a3, a4] [.int (M.1 o 36), s0] M 0 0 Z := R_getI (gd155 dX9_winds_157) rfl gf_9_233 rfl
theorem z155_160 : Run d 155 160 [some (.ref o), a1, a2, a3, a4] [s1, s0] M 0 0 Z ↔ Run d 155 161 [some (.ref o), a1, a2, a3, a4] [.ref o, s1, s0] M 0 0 Z := R_local (gd155 dX9_winds_160) rfl rfl rfl
theorem z155_161 : Run d 155 161 [a0, a1, a2, a3, a4] [.ref o, s1, s0] M 0 0 Z ↔ gObj M o 9 ∧ Run d 155 164 [a0, a1, a2, a3, a4] [va_rf (M.2.1 o 29), s1, s0] M 0 0 Z := R_getR (gd155 dX9_winds_161) rfl gf_9_74 rfl
theorem z155_164 : Run d 155 164 [some (.ref o), a1, a2, a3, a4] [s2, s1, s0] M 0 0 Z ↔ Run d 155 165 [some (.ref o), a1, a2, a3, a4] [.ref o, s2, s1, s0] M 0 0 Z := R_local (gd155 dX9_winds_164) rfl rfl rfl
theorem z155_165 : Run d 155 165 [a0, a1, a2, a3, a4] [.ref o, s2, s1, s0] M 0 0 Z ↔ gObj M o 9 ∧ Run d 155 168 [a0, a1, a2, a3, a4] [.int (M.1 o 36), s2, s1, s0] M 0 0 Z := R_getI (gd155 dX9_winds_165) rfl gf_9_233 rfl
theorem z155_168 : Run d 155 168 [a0, a1, a2, a3, a4] [.int x, .ref o, s1, s0] M 0 0 Z ↔ gAr M o 0 ∧ gIn x (gLen M o) = true ∧ Run d 155 169 [a0, a1, a2, a3, a4] [.int (M.1 o x.toNatClampNeg), s1, s0] M 0 0 Z := R_iald (gd155 dX9_winds_168)
theorem z155_169 : Run d 155 169 [some (.ref o), a1, a2, a3, a4] [s2, s1, s0] M 0 0 Z ↔ Run d 155 170 [some (.ref o), a1, a2, a3, a4] [.ref o, s2, s1, s0] M 0 0 Z := R_local (gd155 dX9_winds_169) rfl rfl rfl
theorem z155_170 : Run d 155 170 [a0, a1, a2, a3, a4] [.ref o, s2, s1, s0] M 0 0 Z ↔ gObj M o 9 ∧ Run d 155 173 [a0, a1, a2, a3, a4] [va_rf (M.2.1 o 30), s2, s1, s0] M 0 0 Z := R_getR (gd155 dX9_winds_170) rfl gf_9_77 rfl
theorem z155_173 : Run d 155 173 [some (.ref o), a1, a2, a3, a4] [s3, s2, s1, s0] M 0 0 Z ↔ Run d 155 174 [some (.ref o), a1, a2, a3, a4] [.ref o, s3, s2, s1, s0] M 0 0 Z := R_local (gd155 dX9_winds_173) rfl rfl rfl
theorem z155_174 : Run d 155 174 [a0, a1, a2, a3, a4] [.ref o, s3, s2, s1, s0] M 0 0 Z ↔ gObj M o 9 ∧ Run d 155 177 [a0, a1, a2, a3, a4] [.int (M.1 o 36), s3, s2, s1, s0] M 0 0 Z := R_getI (gd155 dX9_winds_174) rfl gf_9_233 rfl
theorem z155_177 : Run d 155 177 [a0, a1, a2, a3, a4] [.int x, .ref o, s2, s1, s0] M 0 0 Z ↔ gAr M o 0 ∧ gIn x (gLen M o) = true ∧ Run d 155 178 [a0, a1, a2, a3, a4] [.int (M.1 o x.toNatClampNeg), s2, s1, s0] M 0 0 Z := R_iald (gd155 dX9_winds_177)
theorem z155_178 : Run d 155 178 [a0, a1, a2, a3, a4] [.int y, .int x, s1, s0] M 0 0 Z ↔ Run d 155 179 [a0, a1, a2, a3, a4] [.int (x + y), s1, s0] M 0 0 Z := R_arith (gd155 dX9_winds_178) rfl
theorem z155_179 : Run d 155 179 [a0, a1, a2, a3, a4] [s2, s1, s0] M 0 0 Z ↔ Run d 155 181 [a0, a1, a2, a3, a4] [.int 8, s2, s1, s0] M 0 0 Z := R_bipush (gd155 dX9_winds_179) (by decide)
theorem z155_181 : Run d 155 181 [a0, a1, a2, a3, a4] [.int y, .int x, s1, s0] M 0 0 Z ↔ Run d 155 182 [a0, a1, a2, a3, a4] [.int (x + y), s1, s0] M 0 0 Z := R_arith (gd155 dX9_winds_181) rfl
theorem z155_182 : Run d 155 182 [a0, a1, a2, a3, a4] [s2, s1, s0] M 0 0 Z ↔ Run d 155 184 [a0, a1, a2, a3, a4] [.int 8, s2, s1, s0] M 0 0 Z := R_bipush (gd155 dX9_winds_182) (by decide)
theorem z155_184 (hy : ¬ y = 0) : Run d 155 184 [a0, a1, a2, a3, a4] [.int y, .int x, s1, s0] M 0 0 Z ↔ Run d 155 185 [a0, a1, a2, a3, a4] [.int (x - x / y * y), s1, s0] M 0 0 Z := R_rem (gd155 dX9_winds_184) hy
theorem z155_185 : Run d 155 185 [a0, a1, a2, a3, a4] [.int y, .int x, .ref o] M 0 0 Z ↔ gAr M o 0 ∧ gIn x (gLen M o) = true ∧ Run d 155 186 [a0, a1, a2, a3, a4] [] (gsI M o x.toNatClampNeg y) 0 0 Z := R_iast (gd155 dX9_winds_185)
theorem z155_186 : Run d 155 186 [a0, a1, a2, a3, some (.int x)] [] M 0 0 Z ↔ Run d 155 189 [a0, a1, a2, a3, some (.int (x + 1))] [] M 0 0 Z := R_iinc (gd155 dX9_winds_186) (by decide) rfl rfl
theorem z155_189 : Run d 155 189 [a0, a1, a2, a3, a4] [] M 0 0 Z ↔ Run d 155 119 [a0, a1, a2, a3, a4] [] M 0 0 Z := R_goto (gd155 dX9_winds_189) (show gTgt 189 (-70) = some 119 by decide)
theorem z155_192 : Run d 155 192 [some (.ref o), a1, a2, a3, a4] [] M 0 0 Z ↔ Run d 155 193 [some (.ref o), a1, a2, a3, a4] [.ref o] M 0 0 Z := R_local (gd155 dX9_winds_192) rfl rfl rfl
theorem z155_193 : Run d 155 193 [a0, a1, a2, a3, a4] [.ref b] M 0 0 Z ↔ gObj M b 9 ∧ Call d 153 [.ref b] M (fun r M1 => Run d 155 196 [a0, a1, a2, a3, a4] (r.toList ++ []) M1 0 0 Z) := R_callV (gd155 dX9_winds_193) rfl rfl rfl rfl rfl rfl gc_9_282 rfl rfl (Nat.le_of_ble_eq_true rfl) (Nat.le_of_ble_eq_true rfl) rfl rfl (Nat.le_of_ble_eq_true rfl) (Nat.le_of_ble_eq_true rfl)
theorem z155_196 : Run d 155 196 [a0, a1, a2, a3, a4] [] M 0 0 Z ↔ Z none M := R_vret (gd155 dX9_winds_196) rfl
theorem e155 : Call (d + 1) 155 [s0, s1] M Z ↔ Run d 155 0 [some s0, some s1, none, none, none] [] M 0 0 Z := Call_iff (Nat.lt_of_lt_of_le (Nat.lt_succ_self 155) (Nat.le_of_ble_eq_true rfl)) (Nat.le_of_ble_eq_true rfl)
/-! 156: X9_pleats (II)V -/
theorem gd156 {pc : Nat} {r : Except _ _} (h : decode cX9_pleats pc = r) : decode (gby 156) pc = r := h
theorem z156_0 : Run d 156 0 [some (.ref o), a1, a2, a3, a4] [] M 0 0 Z ↔ Run d 156 1 [some (.ref o), a1, a2, a3, a4] [.ref o] M 0 0 Z := R_local (gd156 dX9_pleats_0) rfl rfl rfl
theorem z156_1 : Run d 156 1 [a0, a1, a2, a3, a4] [.ref o] M 0 0 Z ↔ gObj M o 9 ∧ Run d 156 4 [a0, a1, a2, a3, a4] [.int (M.1 o 49)] M 0 0 Z := R_getI (gd156 dX9_pleats_1) rfl gf_9_252 rfl
theorem z156_4 : Run d 156 4 [a0, a1, a2, a3, a4] [.int x] M 0 0 Z ↔ (x = 0 → Run d 156 11 [a0, a1, a2, a3, a4] [] M 0 0 Z) ∧ (¬ (x = 0) → Run d 156 7 [a0, a1, a2, a3, a4] [] M 0 0 Z) := R_if (gd156 dX9_pleats_4) (show gTgt 4 7 = some 11 by decide) gIf_eq
theorem z156_7 : Run d 156 7 [a0, a1, a2, a3, a4] [] M 0 0 Z ↔ Run d 156 8 [a0, a1, a2, a3, a4] [.int 5] M 0 0 Z := R_iconst (gd156 dX9_pleats_7) (by decide)
theorem z156_8 : Run d 156 8 [a0, a1, a2, a3, a4] [s0] M 0 0 Z ↔ Run d 156 74 [a0, a1, a2, a3, a4] [s0] M 0 0 Z := R_goto (gd156 dX9_pleats_8) (show gTgt 8 66 = some 74 by decide)
theorem z156_11 : Run d 156 11 [a0, some (.int x), a2, a3, a4] [] M 0 0 Z ↔ Run d 156 12 [a0, some (.int x), a2, a3, a4] [.int x] M 0 0 Z := R_local (gd156 dX9_pleats_11) rfl rfl rfl
theorem z156_12 : Run d 156 12 [a0, a1, a2, a3, a4] [s0] M 0 0 Z ↔ Call d 150 [s0] M (fun r M1 => Run d 156 15 [a0, a1, a2, a3, a4] (r.toList ++ []) M1 0 0 Z) := R_call (gd156 dX9_pleats_12) rfl rfl rfl rfl rfl rfl gc_9_269 rfl (by decide) (Nat.le_of_ble_eq_true rfl) (Nat.le_of_ble_eq_true rfl) rfl rfl rfl (Nat.le_of_ble_eq_true rfl) (Nat.le_of_ble_eq_true rfl)
theorem z156_15 : Run d 156 15 [a0, a1, a2, a3, a4] [.int x] M 0 0 Z ↔ (x = 0 → Run d 156 29 [a0, a1, a2, a3, a4] [] M 0 0 Z) ∧ (¬ (x = 0) → Run d 156 18 [a0, a1, a2, a3, a4] [] M 0 0 Z) := R_if (gd156 dX9_pleats_15) (show gTgt 15 14 = some 29 by decide) gIf_eq
theorem z156_18 : Run d 156 18 [a0, a1, some (.int x), a3, a4] [] M 0 0 Z ↔ Run d 156 19 [a0, a1, some (.int x), a3, a4] [.int x] M 0 0 Z := R_local (gd156 dX9_pleats_18) rfl rfl rfl
theorem z156_19 : Run d 156 19 [a0, a1, a2, a3, a4] [s0] M 0 0 Z ↔ Run d 156 20 [a0, a1, a2, a3, a4] [.int 1, s0] M 0 0 Z := R_iconst (gd156 dX9_pleats_19) (by decide)
theorem z156_20 : Run d 156 20 [a0, a1, a2, a3, a4] [s1, s0] M 0 0 Z ↔ Run d 156 23 [a0, a1, a2, a3, a4] [.int 200, s1, s0] M 0 0 Z := R_sipush (gd156 dX9_pleats_20) (by decide)
theorem z156_23 : Run d 156 23 [a0, a1, a2, a3, a4] [s2, s1, s0] M 0 0 Z ↔ Call d 120 [s0, s1, s2] M (fun r M1 => Run d 156 26 [a0, a1, a2, a3, a4] (r.toList ++ []) M1 0 0 Z) := R_call (gd156 dX9_pleats_23) rfl rfl rfl rfl rfl rfl gc_9_157 rfl (by decide) (Nat.le_of_ble_eq_true rfl) (Nat.le_of_ble_eq_true rfl) rfl rfl rfl (Nat.le_of_ble_eq_true rfl) (Nat.le_of_ble_eq_true rfl)
theorem z156_26 : Run d 156 26 [a0, a1, a2, a3, a4] [.int x] M 0 0 Z ↔ (¬ x = 0 → Run d 156 33 [a0, a1, a2, a3, a4] [] M 0 0 Z) ∧ (¬ (¬ x = 0) → Run d 156 29 [a0, a1, a2, a3, a4] [] M 0 0 Z) := R_if (gd156 dX9_pleats_26) (show gTgt 26 7 = some 33 by decide) gIf_ne
theorem z156_29 : Run d 156 29 [a0, a1, a2, a3, a4] [] M 0 0 Z ↔ Run d 156 30 [a0, a1, a2, a3, a4] [.int 4] M 0 0 Z := R_iconst (gd156 dX9_pleats_29) (by decide)
theorem z156_30 : Run d 156 30 [a0, a1, a2, a3, a4] [s0] M 0 0 Z ↔ Run d 156 74 [a0, a1, a2, a3, a4] [s0] M 0 0 Z := R_goto (gd156 dX9_pleats_30) (show gTgt 30 44 = some 74 by decide)
theorem z156_33 : Run d 156 33 [a0, a1, a2, a3, a4] [] M 0 0 Z ↔ Run d 156 34 [a0, a1, a2, a3, a4] [.int 2] M 0 0 Z := R_iconst (gd156 dX9_pleats_33) (by decide)
theorem z156_34 : Run d 156 34 [a0, some (.int x), a2, a3, a4] [s0] M 0 0 Z ↔ Run d 156 35 [a0, some (.int x), a2, a3, a4] [.int x, s0] M 0 0 Z := R_local (gd156 dX9_pleats_34) rfl rfl rfl
theorem z156_35 : Run d 156 35 [a0, a1, a2, a3, a4] [.int y, .int x] M 0 0 Z ↔ Run d 156 36 [a0, a1, a2, a3, a4] [.int (x * y)] M 0 0 Z := R_arith (gd156 dX9_pleats_35) rfl
theorem z156_36 : Run d 156 36 [a0, a1, some (.int x), a3, a4] [s0] M 0 0 Z ↔ Run d 156 37 [a0, a1, some (.int x), a3, a4] [.int x, s0] M 0 0 Z := R_local (gd156 dX9_pleats_36) rfl rfl rfl
theorem z156_37 : Run d 156 37 [a0, a1, a2, a3, a4] [.int y, .int x] M 0 0 Z ↔ Run d 156 38 [a0, a1, a2, a3, a4] [.int (x * y)] M 0 0 Z := R_arith (gd156 dX9_pleats_37) rfl
theorem z156_38 : Run d 156 38 [some (.ref o), a1, a2, a3, a4] [s0] M 0 0 Z ↔ Run d 156 39 [some (.ref o), a1, a2, a3, a4] [.ref o, s0] M 0 0 Z := R_local (gd156 dX9_pleats_38) rfl rfl rfl
theorem z156_39 : Run d 156 39 [a0, a1, a2, a3, a4] [.ref b, s0] M 0 0 Z ↔ gObj M b 9 ∧ Call d 151 [.ref b] M (fun r M1 => Run d 156 42 [a0, a1, a2, a3, a4] (r.toList ++ [s0]) M1 0 0 Z) := R_callV (gd156 dX9_pleats_39) rfl rfl rfl rfl rfl rfl gc_9_272 rfl rfl (Nat.le_of_ble_eq_true rfl) (Nat.le_of_ble_eq_true rfl) rfl rfl (Nat.le_of_ble_eq_true rfl) (Nat.le_of_ble_eq_true rfl)
theorem z156_42 : Run d 156 42 [a0, a1, a2, a3, a4] [.int y, .int x] M 0 0 Z ↔ (x ≤ y → Run d 156 49 [a0, a1, a2, a3, a4] [] M 0 0 Z) ∧ (¬ (x ≤ y) → Run d 156 45 [a0, a1, a2, a3, a4] [] M 0 0 Z) := R_icmp (gd156 dX9_pleats_42) (show gTgt 42 7 = some 49 by decide) gIf_le
theorem z156_45 : Run d 156 45 [a0, a1, a2, a3, a4] [] M 0 0 Z ↔ Run d 156 46 [a0, a1, a2, a3, a4] [.int 1] M 0 0 Z := R_iconst (gd156 dX9_pleats_45) (by decide)
theorem z156_46 : Run d 156 46 [a0, a1, a2, a3, a4] [s0] M 0 0 Z ↔ Run d 156 74 [a0, a1, a2, a3, a4] [s0] M 0 0 Z := R_goto (gd156 dX9_pleats_46) (show gTgt 46 28 = some 74 by decide)
theorem z156_49 : Run d 156 49 [some (.ref o), a1, a2, a3, a4] [] M 0 0 Z ↔ Run d 156 50 [some (.ref o), a1, a2, a3, a4] [.ref o] M 0 0 Z := R_local (gd156 dX9_pleats_49) rfl rfl rfl
theorem z156_50 : Run d 156 50 [a0, a1, a2, a3, a4] [.ref o] M 0 0 Z ↔ gObj M o 9 ∧ Run d 156 53 [a0, a1, a2, a3, a4] [va_rf (M.2.1 o 27)] M 0 0 Z := R_getR (gd156 dX9_pleats_50) rfl gf_9_68 rfl
theorem z156_53 : Run d 156 53 [some (.ref o), a1, a2, a3, a4] [s0] M 0 0 Z ↔ Run d 156 54 [some (.ref o), a1, a2, a3, a4] [.ref o, s0] M 0 0 Z := R_local (gd156 dX9_pleats_53) rfl rfl rfl
theorem z156_54 : Run d 156 54 [a0, a1, a2, a3, a4] [.ref o, s0] M 0 0 Z ↔ gObj M o 9 ∧ Run d 156 57 [a0, a1, a2, a3, a4] [.int (M.1 o 36), s0] M 0 0 Z := R_getI (gd156 dX9_pleats_54) rfl gf_9_233 rfl
theorem z156_57 : Run d 156 57 [a0, a1, a2, a3, a4] [.int x, .ref o] M 0 0 Z ↔ gAr M o 0 ∧ gIn x (gLen M o) = true ∧ Run d 156 58 [a0, a1, a2, a3, a4] [.int (M.1 o x.toNatClampNeg)] M 0 0 Z := R_iald (gd156 dX9_pleats_57)
theorem z156_58 : Run d 156 58 [a0, a1, a2, a3, a4] [s0] M 0 0 Z ↔ Run d 156 59 [a0, a1, a2, a3, a4] [.int 2, s0] M 0 0 Z := R_iconst (gd156 dX9_pleats_58) (by decide)
theorem z156_59 : Run d 156 59 [a0, some (.int x), a2, a3, a4] [s1, s0] M 0 0 Z ↔ Run d 156 60 [a0, some (.int x), a2, a3, a4] [.int x, s1, s0] M 0 0 Z := R_local (gd156 dX9_pleats_59) rfl rfl rfl
theorem z156_60 : Run d 156 60 [a0, a1, a2, a3, a4] [.int y, .int x, s0] M 0 0 Z ↔ Run d 156 61 [a0, a1, a2, a3, a4] [.int (x * y), s0] M 0 0 Z := R_arith (gd156 dX9_pleats_60) rfl
theorem z156_61 : Run d 156 61 [a0, a1, a2, a3, a4] [.int y, .int x] M 0 0 Z ↔ Run d 156 62 [a0, a1, a2, a3, a4] [.int (x + y)] M 0 0 Z := R_arith (gd156 dX9_pleats_61) rfl
theorem z156_62 : Run d 156 62 [a0, a1, a2, a3, a4] [s0] M 0 0 Z ↔ Run d 156 65 [a0, a1, a2, a3, a4] [.int 400, s0] M 0 0 Z := R_sipush (gd156 dX9_pleats_62) (by decide)
theorem z156_65 : Run d 156 65 [a0, a1, a2, a3, a4] [.int y, .int x] M 0 0 Z ↔ (x ≤ y → Run d 156 73 [a0, a1, a2, a3, a4] [] M 0 0 Z) ∧ (¬ (x ≤ y) → Run d 156 68 [a0, a1, a2, a3, a4] [] M 0 0 Z) := R_icmp (gd156 dX9_pleats_65) (show gTgt 65 8 = some 73 by decide) gIf_le
theorem z156_68 : Run d 156 68 [a0, a1, a2, a3, a4] [] M 0 0 Z ↔ Run d 156 70 [a0, a1, a2, a3, a4] [.int 6] M 0 0 Z := R_bipush (gd156 dX9_pleats_68) (by decide)
theorem z156_70 : Run d 156 70 [a0, a1, a2, a3, a4] [s0] M 0 0 Z ↔ Run d 156 74 [a0, a1, a2, a3, a4] [s0] M 0 0 Z := R_goto (gd156 dX9_pleats_70) (show gTgt 70 4 = some 74 by decide)
theorem z156_73 : Run d 156 73 [a0, a1, a2, a3, a4] [] M 0 0 Z ↔ Run d 156 74 [a0, a1, a2, a3, a4] [.int 0] M 0 0 Z := R_iconst (gd156 dX9_pleats_73) (by decide)
theorem z156_74 : Run d 156 74 [a0, a1, a2, a3, a4] [.int x] M 0 0 Z ↔ Run d 156 75 [a0, a1, a2, some (.int x), a4] [] M 0 0 Z := R_local (gd156 dX9_pleats_74) rfl rfl rfl
theorem z156_75 : Run d 156 75 [a0, a1, a2, some (.int x), a4] [] M 0 0 Z ↔ Run d 156 76 [a0, a1, a2, some (.int x), a4] [.int x] M 0 0 Z := R_local (gd156 dX9_pleats_75) rfl rfl rfl
theorem z156_76 : Run d 156 76 [a0, a1, a2, a3, a4] [.int x] M 0 0 Z ↔ (x ≤ 0 → Run d 156 85 [a0, a1, a2, a3, a4] [] M 0 0 Z) ∧ (¬ (x ≤ 0) → Run d 156 79 [a0, a1, a2, a3, a4] [] M 0 0 Z) := R_if (gd156 dX9_pleats_76) (show gTgt 76 9 = some 85 by decide) gIf_le
theorem z156_79 : Run d 156 79 [some (.ref o), a1, a2, a3, a4] [] M 0 0 Z ↔ Run d 156 80 [some (.ref o), a1, a2, a3, a4] [.ref o] M 0 0 Z := R_local (gd156 dX9_pleats_79) rfl rfl rfl
theorem z156_80 : Run d 156 80 [a0, a1, a2, some (.int x), a4] [s0] M 0 0 Z ↔ Run d 156 81 [a0, a1, a2, some (.int x), a4] [.int x, s0] M 0 0 Z := R_local (gd156 dX9_pleats_80) rfl rfl rfl
theorem z156_81 : Run d 156 81 [a0, a1, a2, a3, a4] [s1, .ref b] M 0 0 Z ↔ gObj M b 9 ∧ Call d 149 [.ref b, s1] M (fun r M1 => Run d 156 84 [a0, a1, a2, a3, a4] (r.toList ++ []) M1 0 0 Z) := R_callV (gd156 dX9_pleats_81) rfl rfl rfl rfl rfl rfl gc_9_275 rfl rfl (Nat.le_of_ble_eq_true rfl) (Nat.le_of_ble_eq_true rfl) rfl rfl (Nat.le_of_ble_eq_true rfl) (Nat.le_of_ble_eq_true rfl)
theorem z156_84 : Run d 156 84 [a0, a1, a2, a3, a4] [] M 0 0 Z ↔ Z none M := R_vret (gd156 dX9_pleats_84) rfl
theorem z156_85 : Run d 156 85 [a0, a1, a2, a3, a4] [] M 0 0 Z ↔ Run d 156 86 [a0, a1, a2, a3, a4] [.int 0] M 0 0 Z := R_iconst (gd156 dX9_pleats_85) (by decide)
theorem z156_86 : Run d 156 86 [a0, a1, a2, a3, a4] [.int x] M 0 0 Z ↔ Run d 156 88 [a0, a1, a2, a3, some (.int x)] [] M 0 0 Z := R_local (gd156 dX9_pleats_86) rfl rfl rfl
theorem z156_88 : Run d 156 88 [a0, a1, a2, a3, some (.int x)] [] M 0 0 Z ↔ Run d 156 90 [a0, a1, a2, a3, some (.int x)] [.int x] M 0 0 Z := R_local (gd156 dX9_pleats_88) rfl rfl rfl
theorem z156_90 : Run d 156 90 [a0, some (.int x), a2, a3, a4] [s0] M 0 0 Z ↔ Run d 156 91 [a0, some (.int x), a2, a3, a4] [.int x, s0] M 0 0 Z := R_local (gd156 dX9_pleats_90) rfl rfl rfl
theorem z156_91 : Run d 156 91 [a0, a1, a2, a3, a4] [.int y, .int x] M 0 0 Z ↔ (y ≤ x → Run d 156 156 [a0, a1, a2, a3, a4] [] M 0 0 Z) ∧ (¬ (y ≤ x) → Run d 156 94 [a0, a1, a2, a3, a4] [] M 0 0 Z) := R_icmp (gd156 dX9_pleats_91) (show gTgt 91 65 = some 156 by decide) gIf_ge
theorem z156_94 : Run d 156 94 [some (.ref o), a1, a2, a3, a4] [] M 0 0 Z ↔ Run d 156 95 [some (.ref o), a1, a2, a3, a4] [.ref o] M 0 0 Z := R_local (gd156 dX9_pleats_94) rfl rfl rfl
theorem z156_95 : Run d 156 95 [some (.ref o), a1, a2, a3, a4] [s0] M 0 0 Z ↔ Run d 156 96 [some (.ref o), a1, a2, a3, a4] [.ref o, s0] M 0 0 Z := R_local (gd156 dX9_pleats_95) rfl rfl rfl
theorem z156_96 : Run d 156 96 [a0, a1, a2, a3, a4] [.ref o, s0] M 0 0 Z ↔ gObj M o 9 ∧ Run d 156 99 [a0, a1, a2, a3, a4] [va_rf (M.2.1 o 28), s0] M 0 0 Z := R_getR (gd156 dX9_pleats_96) rfl gf_9_71 rfl
theorem z156_99 : Run d 156 99 [some (.ref o), a1, a2, a3, a4] [s1, s0] M 0 0 Z ↔ Run d 156 100 [some (.ref o), a1, a2, a3, a4] [.ref o, s1, s0] M 0 0 Z := R_local (gd156 dX9_pleats_99) rfl rfl rfl
theorem z156_100 : Run d 156 100 [a0, a1, a2, a3, a4] [.ref o, s1, s0] M 0 0 Z ↔ gObj M o 9 ∧ Run d 156 103 [a0, a1, a2, a3, a4] [.int (M.1 o 36), s1, s0] M 0 0 Z := R_getI (gd156 dX9_pleats_100) rfl gf_9_233 rfl
theorem z156_103 : Run d 156 103 [a0, a1, a2, a3, a4] [.int x, .ref o, s0] M 0 0 Z ↔ gAr M o 0 ∧ gIn x (gLen M o) = true ∧ Run d 156 104 [a0, a1, a2, a3, a4] [.int (M.1 o x.toNatClampNeg), s0] M 0 0 Z := R_iald (gd156 dX9_pleats_103)
theorem z156_104 : Run d 156 104 [a0, a1, some (.int x), a3, a4] [s1, s0] M 0 0 Z ↔ Run d 156 105 [a0, a1, some (.int x), a3, a4] [.int x, s1, s0] M 0 0 Z := R_local (gd156 dX9_pleats_104) rfl rfl rfl
theorem z156_105 : Run d 156 105 [some (.ref o), a1, a2, a3, a4] [s2, s1, s0] M 0 0 Z ↔ Run d 156 106 [some (.ref o), a1, a2, a3, a4] [.ref o, s2, s1, s0] M 0 0 Z := R_local (gd156 dX9_pleats_105) rfl rfl rfl
theorem z156_106 : Run d 156 106 [a0, a1, a2, a3, a4] [.ref o, s2, s1, s0] M 0 0 Z ↔ gObj M o 9 ∧ Run d 156 109 [a0, a1, a2, a3, a4] [.int (M.1 o 39), s2, s1, s0] M 0 0 Z := R_getI (gd156 dX9_pleats_106) rfl gf_9_236 rfl
theorem z156_109 : Run d 156 109 [a0, a1, a2, a3, a4] [s3, s2, s1, s0] M 0 0 Z ↔ Run d 156 110 [a0, a1, a2, a3, a4] [.int 1, s3, s2, s1, s0] M 0 0 Z := R_iconst (gd156 dX9_pleats_109) (by decide)
theorem z156_110 : Run d 156 110 [some (.ref o), a1, a2, a3, a4] [s4, s3, s2, s1, s0] M 0 0 Z ↔ Run d 156 111 [some (.ref o), a1, a2, a3, a4] [.ref o, s4, s3, s2, s1, s0] M 0 0 Z := R_local (gd156 dX9_pleats_110) rfl rfl rfl
theorem z156_111 : Run d 156 111 [a0, a1, a2, a3, a4] [.ref o, s4, s3, s2, s1, s0] M 0 0 Z ↔ gObj M o 9 ∧ Run d 156 114 [a0, a1, a2, a3, a4] [va_rf (M.2.1 o 31), s4, s3, s2, s1, s0] M 0 0 Z := R_getR (gd156 dX9_pleats_111) rfl gf_9_80 rfl
theorem z156_114 : Run d 156 114 [some (.ref o), a1, a2, a3, a4] [s5, s4, s3, s2, s1, s0] M 0 0 Z ↔ Run d 156 115 [some (.ref o), a1, a2, a3, a4] [.ref o, s5, s4, s3, s2, s1, s0] M 0 0 Z := R_local (gd156 dX9_pleats_114) rfl rfl rfl
theorem z156_115 : Run d 156 115 [a0, a1, a2, a3, a4] [.ref o, s5, s4, s3, s2, s1, s0] M 0 0 Z ↔ gObj M o 9 ∧ Run d 156 118 [a0, a1, a2, a3, a4] [.int (M.1 o 36), s5, s4, s3, s2, s1, s0] M 0 0 Z := R_getI (gd156 dX9_pleats_115) rfl gf_9_233 rfl
theorem z156_118 : Run d 156 118 [a0, a1, a2, a3, a4] [.int x, .ref o, s4, s3, s2, s1, s0] M 0 0 Z ↔ gAr M o 0 ∧ gIn x (gLen M o) = true ∧ Run d 156 119 [a0, a1, a2, a3, a4] [.int (M.1 o x.toNatClampNeg), s4, s3, s2, s1, s0] M 0 0 Z := R_iald (gd156 dX9_pleats_118)
theorem z156_119 : Run d 156 119 [a0, a1, a2, a3, a4] [.int y, .int x, s3, s2, s1, s0] M 0 0 Z ↔ Run d 156 120 [a0, a1, a2, a3, a4] [.int (x - y), s3, s2, s1, s0] M 0 0 Z := R_arith (gd156 dX9_pleats_119) rfl
theorem z156_120 : Run d 156 120 [a0, a1, a2, a3, a4] [s4, s3, s2, s1, .ref b] M 0 0 Z ↔ gObj M b 9 ∧ Call d 152 [.ref b, s1, s2, s3, s4] M (fun r M1 => Run d 156 123 [a0, a1, a2, a3, a4] (r.toList ++ []) M1 0 0 Z) := R_callV (gd156 dX9_pleats_120) rfl rfl rfl rfl rfl rfl gc_9_278 rfl rfl (Nat.le_of_ble_eq_true rfl) (Nat.le_of_ble_eq_true rfl) rfl rfl (Nat.le_of_ble_eq_true rfl) (Nat.le_of_ble_eq_true rfl)
theorem z156_123 : Run d 156 123 [some (.ref o), a1, a2, a3, a4] [] M 0 0 Z ↔ Run d 156 124 [some (.ref o), a1, a2, a3, a4] [.ref o] M 0 0 Z := R_local (gd156 dX9_pleats_123) rfl rfl rfl
theorem z156_124 : Run d 156 124 [some (.ref o), a1, a2, a3, a4] [s0] M 0 0 Z ↔ Run d 156 125 [some (.ref o), a1, a2, a3, a4] [.ref o, s0] M 0 0 Z := R_local (gd156 dX9_pleats_124) rfl rfl rfl
theorem z156_125 : Run d 156 125 [a0, a1, a2, a3, a4] [.ref o, s0] M 0 0 Z ↔ gObj M o 9 ∧ Run d 156 128 [a0, a1, a2, a3, a4] [va_rf (M.2.1 o 28), s0] M 0 0 Z := R_getR (gd156 dX9_pleats_125) rfl gf_9_71 rfl
theorem z156_128 : Run d 156 128 [some (.ref o), a1, a2, a3, a4] [s1, s0] M 0 0 Z ↔ Run d 156 129 [some (.ref o), a1, a2, a3, a4] [.ref o, s1, s0] M 0 0 Z := R_local (gd156 dX9_pleats_128) rfl rfl rfl
theorem z156_129 : Run d 156 129 [a0, a1, a2, a3, a4] [.ref o, s1, s0] M 0 0 Z ↔ gObj M o 9 ∧ Run d 156 132 [a0, a1, a2, a3, a4] [.int (M.1 o 36), s1, s0] M 0 0 Z := R_getI (gd156 dX9_pleats_129) rfl gf_9_233 rfl
theorem z156_132 : Run d 156 132 [a0, a1, a2, a3, a4] [.int x, .ref o, s0] M 0 0 Z ↔ gAr M o 0 ∧ gIn x (gLen M o) = true ∧ Run d 156 133 [a0, a1, a2, a3, a4] [.int (M.1 o x.toNatClampNeg), s0] M 0 0 Z := R_iald (gd156 dX9_pleats_132)
theorem z156_133 : Run d 156 133 [a0, a1, some (.int x), a3, a4] [s1, s0] M 0 0 Z ↔ Run d 156 134 [a0, a1, some (.int x), a3, a4] [.int x, s1, s0] M 0 0 Z := R_local (gd156 dX9_pleats_133) rfl rfl rfl
theorem z156_134 : Run d 156 134 [some (.ref o), a1, a2, a3, a4] [s2, s1, s0] M 0 0 Z ↔ Run d 156 135 [some (.ref o), a1, a2, a3, a4] [.ref o, s2, s1, s0] M 0 0 Z := R_local (gd156 dX9_pleats_134) rfl rfl rfl
theorem z156_135 : Run d 156 135 [a0, a1, a2, a3, a4] [.ref o, s2, s1, s0] M 0 0 Z ↔ gObj M o 9 ∧ Run d 156 138 [a0, a1, a2, a3, a4] [.int (M.1 o 39), s2, s1, s0] M 0 0 Z := R_getI (gd156 dX9_pleats_135) rfl gf_9_236 rfl
theorem z156_138 : Run d 156 138 [some (.ref o), a1, a2, a3, a4] [s3, s2, s1, s0] M 0 0 Z ↔ Run d 156 139 [some (.ref o), a1, a2, a3, a4] [.ref o, s3, s2, s1, s0] M 0 0 Z := R_local (gd156 dX9_pleats_138) rfl rfl rfl
theorem z156_139 : Run d 156 139 [a0, a1, a2, a3, a4] [.ref o, s3, s2, s1, s0] M 0 0 Z ↔ gObj M o 9 ∧ Run d 156 142 [a0, a1, a2, a3, a4] [va_rf (M.2.1 o 31), s3, s2, s1, s0] M 0 0 Z := R_getR (gd156 dX9_pleats_139) rfl gf_9_80 rfl
theorem z156_142 : Run d 156 142 [some (.ref o), a1, a2, a3, a4] [s4, s3, s2, s1, s0] M 0 0 Z ↔ Run d 156 143 [some (.ref o), a1, a2, a3, a4] [.ref o, s4, s3, s2, s1, s0] M 0 0 Z := R_local (gd156 dX9_pleats_142) rfl rfl rfl
theorem z156_143 : Run d 156 143 [a0, a1, a2, a3, a4] [.ref o, s4, s3, s2, s1, s0] M 0 0 Z ↔ gObj M o 9 ∧ Run d 156 146 [a0, a1, a2, a3, a4] [.int (M.1 o 36), s4, s3, s2, s1, s0] M 0 0 Z := R_getI (gd156 dX9_pleats_143) rfl gf_9_233 rfl
theorem z156_146 : Run d 156 146 [a0, a1, a2, a3, a4] [.int x, .ref o, s3, s2, s1, s0] M 0 0 Z ↔ gAr M o 0 ∧ gIn x (gLen M o) = true ∧ Run d 156 147 [a0, a1, a2, a3, a4] [.int (M.1 o x.toNatClampNeg), s3, s2, s1, s0] M 0 0 Z := R_iald (gd156 dX9_pleats_146)
theorem z156_147 : Run d 156 147 [a0, a1, a2, a3, a4] [s4, s3, s2, s1, .ref b] M 0 0 Z ↔ gObj M b 9 ∧ Call d 152 [.ref b, s1, s2, s3, s4] M (fun r M1 => Run d 156 150 [a0, a1, a2, a3, a4] (r.toList ++ []) M1 0 0 Z) := R_callV (gd156 dX9_pleats_147) rfl rfl rfl rfl rfl rfl gc_9_278 rfl rfl (Nat.le_of_ble_eq_true rfl) (Nat.le_of_ble_eq_true rfl) rfl rfl (Nat.le_of_ble_eq_true rfl) (Nat.le_of_ble_eq_true rfl)
theorem z156_150 : Run d 156 150 [a0, a1, a2, a3, some (.int x)] [] M 0 0 Z ↔ Run d 156 153 [a0, a1, a2, a3, some (.int (x + 1))] [] M 0 0 Z := R_iinc (gd156 dX9_pleats_150) (by decide) rfl rfl
theorem z156_153 : Run d 156 153 [a0, a1, a2, a3, a4] [] M 0 0 Z ↔ Run d 156 88 [a0, a1, a2, a3, a4] [] M 0 0 Z := R_goto (gd156 dX9_pleats_153) (show gTgt 153 (-65) = some 88 by decide)
theorem z156_156 : Run d 156 156 [some (.ref o), a1, a2, a3, a4] [] M 0 0 Z ↔ Run d 156 157 [some (.ref o), a1, a2, a3, a4] [.ref o] M 0 0 Z := R_local (gd156 dX9_pleats_156) rfl rfl rfl
theorem z156_157 : Run d 156 157 [a0, a1, a2, a3, a4] [.ref b] M 0 0 Z ↔ gObj M b 9 ∧ Call d 153 [.ref b] M (fun r M1 => Run d 156 160 [a0, a1, a2, a3, a4] (r.toList ++ []) M1 0 0 Z) := R_callV (gd156 dX9_pleats_157) rfl rfl rfl rfl rfl rfl gc_9_282 rfl rfl (Nat.le_of_ble_eq_true rfl) (Nat.le_of_ble_eq_true rfl) rfl rfl (Nat.le_of_ble_eq_true rfl) (Nat.le_of_ble_eq_true rfl)
theorem z156_160 : Run d 156 160 [a0, a1, a2, a3, a4] [] M 0 0 Z ↔ Z none M := R_vret (gd156 dX9_pleats_160) rfl
theorem e156 : Call (d + 1) 156 [s0, s1, s2] M Z ↔ Run d 156 0 [some s0, some s1, some s2, none, none] [] M 0 0 Z := Call_iff (Nat.lt_of_lt_of_le (Nat.lt_succ_self 156) (Nat.le_of_ble_eq_true rfl)) (Nat.le_of_ble_eq_true rfl)
/-! 157: X9_climbs (IZ)V -/
theorem gd157 {pc : Nat} {r : Except _ _} (h : decode cX9_climbs pc = r) : decode (gby 157) pc = r := h
theorem z157_0 : Run d 157 0 [a0, a1, some (.int x), a3, a4] [] M 0 0 Z ↔ Run d 157 1 [a0, a1, some (.int x), a3, a4] [.int x] M 0 0 Z := R_local (gd157 dX9_climbs_0) rfl rfl rfl
theorem z157_1 : Run d 157 1 [a0, a1, a2, a3, a4] [.int x] M 0 0 Z ↔ (x = 0 → Run d 157 18 [a0, a1, a2, a3, a4] [] M 0 0 Z) ∧ (¬ (x = 0) → Run d 157 4 [a0, a1, a2, a3, a4] [] M 0 0 Z) := R_if (gd157 dX9_climbs_1) (show gTgt 1 17 = some 18 by decide) gIf_eq
theorem z157_4 : Run d 157 4 [some (.ref o), a1, a2, a3, a4] [] M 0 0 Z ↔ Run d 157 5 [some (.ref o), a1, a2, a3, a4] [.ref o] M 0 0 Z := R_local (gd157 dX9_climbs_4) rfl rfl rfl
theorem z157_5 : Run d 157 5 [a0, a1, a2, a3, a4] [.ref o] M 0 0 Z ↔ gObj M o 9 ∧ Run d 157 8 [a0, a1, a2, a3, a4] [va_rf (M.2.1 o 28)] M 0 0 Z := R_getR (gd157 dX9_climbs_5) rfl gf_9_71 rfl
theorem z157_8 : Run d 157 8 [some (.ref o), a1, a2, a3, a4] [s0] M 0 0 Z ↔ Run d 157 9 [some (.ref o), a1, a2, a3, a4] [.ref o, s0] M 0 0 Z := R_local (gd157 dX9_climbs_8) rfl rfl rfl
theorem z157_9 : Run d 157 9 [a0, a1, a2, a3, a4] [.ref o, s0] M 0 0 Z ↔ gObj M o 9 ∧ Run d 157 12 [a0, a1, a2, a3, a4] [.int (M.1 o 36), s0] M 0 0 Z := R_getI (gd157 dX9_climbs_9) rfl gf_9_233 rfl
theorem z157_12 : Run d 157 12 [a0, a1, a2, a3, a4] [.int x, .ref o] M 0 0 Z ↔ gAr M o 0 ∧ gIn x (gLen M o) = true ∧ Run d 157 13 [a0, a1, a2, a3, a4] [.int (M.1 o x.toNatClampNeg)] M 0 0 Z := R_iald (gd157 dX9_climbs_12)
theorem z157_13 : Run d 157 13 [a0, some (.int x), a2, a3, a4] [s0] M 0 0 Z ↔ Run d 157 14 [a0, some (.int x), a2, a3, a4] [.int x, s0] M 0 0 Z := R_local (gd157 dX9_climbs_13) rfl rfl rfl
theorem z157_14 : Run d 157 14 [a0, a1, a2, a3, a4] [.int y, .int x] M 0 0 Z ↔ Run d 157 15 [a0, a1, a2, a3, a4] [.int (x + y)] M 0 0 Z := R_arith (gd157 dX9_climbs_14) rfl
theorem z157_15 : Run d 157 15 [a0, a1, a2, a3, a4] [s0] M 0 0 Z ↔ Run d 157 29 [a0, a1, a2, a3, a4] [s0] M 0 0 Z := R_goto (gd157 dX9_climbs_15) (show gTgt 15 14 = some 29 by decide)
theorem z157_18 : Run d 157 18 [some (.ref o), a1, a2, a3, a4] [] M 0 0 Z ↔ Run d 157 19 [some (.ref o), a1, a2, a3, a4] [.ref o] M 0 0 Z := R_local (gd157 dX9_climbs_18) rfl rfl rfl
theorem z157_19 : Run d 157 19 [a0, a1, a2, a3, a4] [.ref o] M 0 0 Z ↔ gObj M o 9 ∧ Run d 157 22 [a0, a1, a2, a3, a4] [va_rf (M.2.1 o 28)] M 0 0 Z := R_getR (gd157 dX9_climbs_19) rfl gf_9_71 rfl
theorem z157_22 : Run d 157 22 [some (.ref o), a1, a2, a3, a4] [s0] M 0 0 Z ↔ Run d 157 23 [some (.ref o), a1, a2, a3, a4] [.ref o, s0] M 0 0 Z := R_local (gd157 dX9_climbs_22) rfl rfl rfl
theorem z157_23 : Run d 157 23 [a0, a1, a2, a3, a4] [.ref o, s0] M 0 0 Z ↔ gObj M o 9 ∧ Run d 157 26 [a0, a1, a2, a3, a4] [.int (M.1 o 36), s0] M 0 0 Z := R_getI (gd157 dX9_climbs_23) rfl gf_9_233 rfl
theorem z157_26 : Run d 157 26 [a0, a1, a2, a3, a4] [.int x, .ref o] M 0 0 Z ↔ gAr M o 0 ∧ gIn x (gLen M o) = true ∧ Run d 157 27 [a0, a1, a2, a3, a4] [.int (M.1 o x.toNatClampNeg)] M 0 0 Z := R_iald (gd157 dX9_climbs_26)
theorem z157_27 : Run d 157 27 [a0, some (.int x), a2, a3, a4] [s0] M 0 0 Z ↔ Run d 157 28 [a0, some (.int x), a2, a3, a4] [.int x, s0] M 0 0 Z := R_local (gd157 dX9_climbs_27) rfl rfl rfl
theorem z157_28 : Run d 157 28 [a0, a1, a2, a3, a4] [.int y, .int x] M 0 0 Z ↔ Run d 157 29 [a0, a1, a2, a3, a4] [.int (x - y)] M 0 0 Z := R_arith (gd157 dX9_climbs_28) rfl
theorem z157_29 : Run d 157 29 [a0, a1, a2, a3, a4] [.int x] M 0 0 Z ↔ Run d 157 30 [a0, a1, a2, some (.int x), a4] [] M 0 0 Z := R_local (gd157 dX9_climbs_29) rfl rfl rfl
theorem z157_30 : Run d 157 30 [some (.ref o), a1, a2, a3, a4] [] M 0 0 Z ↔ Run d 157 31 [some (.ref o), a1, a2, a3, a4] [.ref o] M 0 0 Z := R_local (gd157 dX9_climbs_30) rfl rfl rfl
theorem z157_31 : Run d 157 31 [a0, a1, a2, a3, a4] [.ref o] M 0 0 Z ↔ gObj M o 9 ∧ Run d 157 34 [a0, a1, a2, a3, a4] [.int (M.1 o 49)] M 0 0 Z := R_getI (gd157 dX9_climbs_31) rfl gf_9_252 rfl
theorem z157_34 : Run d 157 34 [a0, a1, a2, a3, a4] [.int x] M 0 0 Z ↔ (x = 0 → Run d 157 41 [a0, a1, a2, a3, a4] [] M 0 0 Z) ∧ (¬ (x = 0) → Run d 157 37 [a0, a1, a2, a3, a4] [] M 0 0 Z) := R_if (gd157 dX9_climbs_34) (show gTgt 34 7 = some 41 by decide) gIf_eq
theorem z157_37 : Run d 157 37 [a0, a1, a2, a3, a4] [] M 0 0 Z ↔ Run d 157 38 [a0, a1, a2, a3, a4] [.int 5] M 0 0 Z := R_iconst (gd157 dX9_climbs_37) (by decide)
theorem z157_38 : Run d 157 38 [a0, a1, a2, a3, a4] [s0] M 0 0 Z ↔ Run d 157 84 [a0, a1, a2, a3, a4] [s0] M 0 0 Z := R_goto (gd157 dX9_climbs_38) (show gTgt 38 46 = some 84 by decide)
theorem z157_41 : Run d 157 41 [a0, some (.int x), a2, a3, a4] [] M 0 0 Z ↔ Run d 157 42 [a0, some (.int x), a2, a3, a4] [.int x] M 0 0 Z := R_local (gd157 dX9_climbs_41) rfl rfl rfl
theorem z157_42 : Run d 157 42 [a0, a1, a2, a3, a4] [s0] M 0 0 Z ↔ Call d 150 [s0] M (fun r M1 => Run d 157 45 [a0, a1, a2, a3, a4] (r.toList ++ []) M1 0 0 Z) := R_call (gd157 dX9_climbs_42) rfl rfl rfl rfl rfl rfl gc_9_269 rfl (by decide) (Nat.le_of_ble_eq_true rfl) (Nat.le_of_ble_eq_true rfl) rfl rfl rfl (Nat.le_of_ble_eq_true rfl) (Nat.le_of_ble_eq_true rfl)
theorem z157_45 : Run d 157 45 [a0, a1, a2, a3, a4] [.int x] M 0 0 Z ↔ (¬ x = 0 → Run d 157 52 [a0, a1, a2, a3, a4] [] M 0 0 Z) ∧ (¬ (¬ x = 0) → Run d 157 48 [a0, a1, a2, a3, a4] [] M 0 0 Z) := R_if (gd157 dX9_climbs_45) (show gTgt 45 7 = some 52 by decide) gIf_ne
theorem z157_48 : Run d 157 48 [a0, a1, a2, a3, a4] [] M 0 0 Z ↔ Run d 157 49 [a0, a1, a2, a3, a4] [.int 4] M 0 0 Z := R_iconst (gd157 dX9_climbs_48) (by decide)
theorem z157_49 : Run d 157 49 [a0, a1, a2, a3, a4] [s0] M 0 0 Z ↔ Run d 157 84 [a0, a1, a2, a3, a4] [s0] M 0 0 Z := R_goto (gd157 dX9_climbs_49) (show gTgt 49 35 = some 84 by decide)
theorem z157_52 : Run d 157 52 [a0, a1, a2, some (.int x), a4] [] M 0 0 Z ↔ Run d 157 53 [a0, a1, a2, some (.int x), a4] [.int x] M 0 0 Z := R_local (gd157 dX9_climbs_52) rfl rfl rfl
theorem z157_53 : Run d 157 53 [a0, a1, a2, a3, a4] [.int x] M 0 0 Z ↔ (x < 0 → Run d 157 67 [a0, a1, a2, a3, a4] [] M 0 0 Z) ∧ (¬ (x < 0) → Run d 157 56 [a0, a1, a2, a3, a4] [] M 0 0 Z) := R_if (gd157 dX9_climbs_53) (show gTgt 53 14 = some 67 by decide) gIf_lt
theorem z157_56 : Run d 157 56 [a0, a1, a2, some (.int x), a4] [] M 0 0 Z ↔ Run d 157 57 [a0, a1, a2, some (.int x), a4] [.int x] M 0 0 Z := R_local (gd157 dX9_climbs_56) rfl rfl rfl
theorem z157_57 : Run d 157 57 [some (.ref o), a1, a2, a3, a4] [s0] M 0 0 Z ↔ Run d 157 58 [some (.ref o), a1, a2, a3, a4] [.ref o, s0] M 0 0 Z := R_local (gd157 dX9_climbs_57) rfl rfl rfl
theorem z157_58 : Run d 157 58 [a0, a1, a2, a3, a4] [.ref o, s0] M 0 0 Z ↔ gObj M o 9 ∧ Run d 157 61 [a0, a1, a2, a3, a4] [.int (M.1 o 39), s0] M 0 0 Z := R_getI (gd157 dX9_climbs_58) rfl gf_9_236 rfl
theorem z157_61 : Run d 157 61 [a0, a1, a2, a3, a4] [.int y, .int x] M 0 0 Z ↔ Run d 157 62 [a0, a1, a2, a3, a4] [.int (x + y)] M 0 0 Z := R_arith (gd157 dX9_climbs_61) rfl
theorem z157_62 : Run d 157 62 [a0, a1, a2, a3, a4] [s0] M 0 0 Z ↔ Run d 157 64 [a0, a1, a2, a3, a4] [.int 8, s0] M 0 0 Z := R_bipush (gd157 dX9_climbs_62) (by decide)
theorem z157_64 : Run d 157 64 [a0, a1, a2, a3, a4] [.int y, .int x] M 0 0 Z ↔ (x ≤ y → Run d 157 71 [a0, a1, a2, a3, a4] [] M 0 0 Z) ∧ (¬ (x ≤ y) → Run d 157 67 [a0, a1, a2, a3, a4] [] M 0 0 Z) := R_icmp (gd157 dX9_climbs_64) (show gTgt 64 7 = some 71 by decide) gIf_le
theorem z157_67 : Run d 157 67 [a0, a1, a2, a3, a4] [] M 0 0 Z ↔ Run d 157 68 [a0, a1, a2, a3, a4] [.int 2] M 0 0 Z := R_iconst (gd157 dX9_climbs_67) (by decide)
theorem z157_68 : Run d 157 68 [a0, a1, a2, a3, a4] [s0] M 0 0 Z ↔ Run d 157 84 [a0, a1, a2, a3, a4] [s0] M 0 0 Z := R_goto (gd157 dX9_climbs_68) (show gTgt 68 16 = some 84 by decide)
theorem z157_71 : Run d 157 71 [a0, some (.int x), a2, a3, a4] [] M 0 0 Z ↔ Run d 157 72 [a0, some (.int x), a2, a3, a4] [.int x] M 0 0 Z := R_local (gd157 dX9_climbs_71) rfl rfl rfl
theorem z157_72 : Run d 157 72 [some (.ref o), a1, a2, a3, a4] [s0] M 0 0 Z ↔ Run d 157 73 [some (.ref o), a1, a2, a3, a4] [.ref o, s0] M 0 0 Z := R_local (gd157 dX9_climbs_72) rfl rfl rfl
theorem z157_73 : Run d 157 73 [a0, a1, a2, a3, a4] [.ref b, s0] M 0 0 Z ↔ gObj M b 9 ∧ Call d 151 [.ref b] M (fun r M1 => Run d 157 76 [a0, a1, a2, a3, a4] (r.toList ++ [s0]) M1 0 0 Z) := R_callV (gd157 dX9_climbs_73) rfl rfl rfl rfl rfl rfl gc_9_272 rfl rfl (Nat.le_of_ble_eq_true rfl) (Nat.le_of_ble_eq_true rfl) rfl rfl (Nat.le_of_ble_eq_true rfl) (Nat.le_of_ble_eq_true rfl)
theorem z157_76 : Run d 157 76 [a0, a1, a2, a3, a4] [.int y, .int x] M 0 0 Z ↔ (x ≤ y → Run d 157 83 [a0, a1, a2, a3, a4] [] M 0 0 Z) ∧ (¬ (x ≤ y) → Run d 157 79 [a0, a1, a2, a3, a4] [] M 0 0 Z) := R_icmp (gd157 dX9_climbs_76) (show gTgt 76 7 = some 83 by decide) gIf_le
theorem z157_79 : Run d 157 79 [a0, a1, a2, a3, a4] [] M 0 0 Z ↔ Run d 157 80 [a0, a1, a2, a3, a4] [.int 1] M 0 0 Z := R_iconst (gd157 dX9_climbs_79) (by decide)
theorem z157_80 : Run d 157 80 [a0, a1, a2, a3, a4] [s0] M 0 0 Z ↔ Run d 157 84 [a0, a1, a2, a3, a4] [s0] M 0 0 Z := R_goto (gd157 dX9_climbs_80) (show gTgt 80 4 = some 84 by decide)
theorem z157_83 : Run d 157 83 [a0, a1, a2, a3, a4] [] M 0 0 Z ↔ Run d 157 84 [a0, a1, a2, a3, a4] [.int 0] M 0 0 Z := R_iconst (gd157 dX9_climbs_83) (by decide)
theorem z157_84 : Run d 157 84 [a0, a1, a2, a3, a4] [.int x] M 0 0 Z ↔ Run d 157 86 [a0, a1, a2, a3, some (.int x)] [] M 0 0 Z := R_local (gd157 dX9_climbs_84) rfl rfl rfl
theorem z157_86 : Run d 157 86 [a0, a1, a2, a3, some (.int x)] [] M 0 0 Z ↔ Run d 157 88 [a0, a1, a2, a3, some (.int x)] [.int x] M 0 0 Z := R_local (gd157 dX9_climbs_86) rfl rfl rfl
theorem z157_88 : Run d 157 88 [a0, a1, a2, a3, a4] [.int x] M 0 0 Z ↔ (x ≤ 0 → Run d 157 98 [a0, a1, a2, a3, a4] [] M 0 0 Z) ∧ (¬ (x ≤ 0) → Run d 157 91 [a0, a1, a2, a3, a4] [] M 0 0 Z) := R_if (gd157 dX9_climbs_88) (show gTgt 88 10 = some 98 by decide) gIf_le
theorem z157_91 : Run d 157 91 [some (.ref o), a1, a2, a3, a4] [] M 0 0 Z ↔ Run d 157 92 [some (.ref o), a1, a2, a3, a4] [.ref o] M 0 0 Z := R_local (gd157 dX9_climbs_91) rfl rfl rfl
theorem z157_92 : Run d 157 92 [a0, a1, a2, a3, some (.int x)] [s0] M 0 0 Z ↔ Run d 157 94 [a0, a1, a2, a3, some (.int x)] [.int x, s0] M 0 0 Z := R_local (gd157 dX9_climbs_92) rfl rfl rfl
theorem z157_94 : Run d 157 94 [a0, a1, a2, a3, a4] [s1, .ref b] M 0 0 Z ↔ gObj M b 9 ∧ Call d 149 [.ref b, s1] M (fun r M1 => Run d 157 97 [a0, a1, a2, a3, a4] (r.toList ++ []) M1 0 0 Z) := R_callV (gd157 dX9_climbs_94) rfl rfl rfl rfl rfl rfl gc_9_275 rfl rfl (Nat.le_of_ble_eq_true rfl) (Nat.le_of_ble_eq_true rfl) rfl rfl (Nat.le_of_ble_eq_true rfl) (Nat.le_of_ble_eq_true rfl)
theorem z157_97 : Run d 157 97 [a0, a1, a2, a3, a4] [] M 0 0 Z ↔ Z none M := R_vret (gd157 dX9_climbs_97) rfl
theorem z157_98 : Run d 157 98 [some (.ref o), a1, a2, a3, a4] [] M 0 0 Z ↔ Run d 157 99 [some (.ref o), a1, a2, a3, a4] [.ref o] M 0 0 Z := R_local (gd157 dX9_climbs_98) rfl rfl rfl
theorem z157_99 : Run d 157 99 [a0, a1, a2, a3, a4] [.ref o] M 0 0 Z ↔ gObj M o 9 ∧ Run d 157 102 [a0, a1, a2, a3, a4] [va_rf (M.2.1 o 28)] M 0 0 Z := R_getR (gd157 dX9_climbs_99) rfl gf_9_71 rfl
theorem z157_102 : Run d 157 102 [some (.ref o), a1, a2, a3, a4] [s0] M 0 0 Z ↔ Run d 157 103 [some (.ref o), a1, a2, a3, a4] [.ref o, s0] M 0 0 Z := R_local (gd157 dX9_climbs_102) rfl rfl rfl
theorem z157_103 : Run d 157 103 [a0, a1, a2, a3, a4] [.ref o, s0] M 0 0 Z ↔ gObj M o 9 ∧ Run d 157 106 [a0, a1, a2, a3, a4] [.int (M.1 o 36), s0] M 0 0 Z := R_getI (gd157 dX9_climbs_103) rfl gf_9_233 rfl
theorem z157_106 : Run d 157 106 [a0, a1, a2, some (.int x), a4] [s1, s0] M 0 0 Z ↔ Run d 157 107 [a0, a1, a2, some (.int x), a4] [.int x, s1, s0] M 0 0 Z := R_local (gd157 dX9_climbs_106) rfl rfl rfl
theorem z157_107 : Run d 157 107 [a0, a1, a2, a3, a4] [.int y, .int x, .ref o] M 0 0 Z ↔ gAr M o 0 ∧ gIn x (gLen M o) = true ∧ Run d 157 108 [a0, a1, a2, a3, a4] [] (gsI M o x.toNatClampNeg y) 0 0 Z := R_iast (gd157 dX9_climbs_107)
theorem z157_108 : Run d 157 108 [some (.ref o), a1, a2, a3, a4] [] M 0 0 Z ↔ Run d 157 109 [some (.ref o), a1, a2, a3, a4] [.ref o] M 0 0 Z := R_local (gd157 dX9_climbs_108) rfl rfl rfl
theorem z157_109 : Run d 157 109 [a0, some (.int x), a2, a3, a4] [s0] M 0 0 Z ↔ Run d 157 110 [a0, some (.int x), a2, a3, a4] [.int x, s0] M 0 0 Z := R_local (gd157 dX9_climbs_109) rfl rfl rfl
theorem z157_110 : Run d 157 110 [a0, a1, a2, a3, a4] [s1, .ref b] M 0 0 Z ↔ gObj M b 9 ∧ Call d 154 [.ref b, s1] M (fun r M1 => Run d 157 113 [a0, a1, a2, a3, a4] (r.toList ++ []) M1 0 0 Z) := R_callV (gd157 dX9_climbs_110) rfl rfl rfl rfl rfl rfl gc_9_285 rfl rfl (Nat.le_of_ble_eq_true rfl) (Nat.le_of_ble_eq_true rfl) rfl rfl (Nat.le_of_ble_eq_true rfl) (Nat.le_of_ble_eq_true rfl)
theorem z157_113 : Run d 157 113 [some (.ref o), a1, a2, a3, a4] [] M 0 0 Z ↔ Run d 157 114 [some (.ref o), a1, a2, a3, a4] [.ref o] M 0 0 Z := R_local (gd157 dX9_climbs_113) rfl rfl rfl
theorem z157_114 : Run d 157 114 [a0, a1, a2, a3, a4] [.ref b] M 0 0 Z ↔ gObj M b 9 ∧ Call d 153 [.ref b] M (fun r M1 => Run d 157 117 [a0, a1, a2, a3, a4] (r.toList ++ []) M1 0 0 Z) := R_callV (gd157 dX9_climbs_114) rfl rfl rfl rfl rfl rfl gc_9_282 rfl rfl (Nat.le_of_ble_eq_true rfl) (Nat.le_of_ble_eq_true rfl) rfl rfl (Nat.le_of_ble_eq_true rfl) (Nat.le_of_ble_eq_true rfl)
theorem z157_117 : Run d 157 117 [a0, a1, a2, a3, a4] [] M 0 0 Z ↔ Z none M := R_vret (gd157 dX9_climbs_117) rfl
theorem e157 : Call (d + 1) 157 [s0, s1, s2] M Z ↔ Run d 157 0 [some s0, some s1, some s2, none, none] [] M 0 0 Z := Call_iff (Nat.lt_of_lt_of_le (Nat.lt_succ_self 157) (Nat.le_of_ble_eq_true rfl)) (Nat.le_of_ble_eq_true rfl)
/-! 158: X9_shoulders ()V -/
theorem gd158 {pc : Nat} {r : Except _ _} (h : decode cX9_shoulders pc = r) : decode (gby 158) pc = r := h
theorem z158_0 : Run d 158 0 [a0, a1, a2] [] M 0 0 Z ↔ Run d 158 1 [a0, a1, a2] [.int 2] M 0 0 Z := R_iconst (gd158 dX9_shoulders_0) (by decide)
theorem z158_1 : Run d 158 1 [some (.ref o), a1, a2] [s0] M 0 0 Z ↔ Run d 158 2 [some (.ref o), a1, a2] [.ref o, s0] M 0 0 Z := R_local (gd158 dX9_shoulders_1) rfl rfl rfl
theorem z158_2 : Run d 158 2 [a0, a1, a2] [.ref o, s0] M 0 0 Z ↔ gObj M o 9 ∧ Run d 158 5 [a0, a1, a2] [va_rf (M.2.1 o 5), s0] M 0 0 Z := R_getR (gd158 dX9_shoulders_2) rfl gf_9_13 rfl
theorem z158_5 : Run d 158 5 [a0, a1, a2] [s1, s0] M 0 0 Z ↔ Run d 158 7 [a0, a1, a2] [.int 8, s1, s0] M 0 0 Z := R_bipush (gd158 dX9_shoulders_5) (by decide)
theorem z158_7 : Run d 158 7 [some (.ref o), a1, a2] [s2, s1, s0] M 0 0 Z ↔ Run d 158 8 [some (.ref o), a1, a2] [.ref o, s2, s1, s0] M 0 0 Z := R_local (gd158 dX9_shoulders_7) rfl rfl rfl
theorem z158_8 : Run d 158 8 [a0, a1, a2] [.ref o, s2, s1, s0] M 0 0 Z ↔ gObj M o 9 ∧ Run d 158 11 [a0, a1, a2] [.int (M.1 o 37), s2, s1, s0] M 0 0 Z := R_getI (gd158 dX9_shoulders_8) rfl gf_9_239 rfl
theorem z158_11 : Run d 158 11 [a0, a1, a2] [.int y, .int x, s1, s0] M 0 0 Z ↔ Run d 158 12 [a0, a1, a2] [.int (x * y), s1, s0] M 0 0 Z := R_arith (gd158 dX9_shoulders_11) rfl
theorem z158_12 : Run d 158 12 [a0, a1, a2] [s2, s1, s0] M 0 0 Z ↔ Run d 158 14 [a0, a1, a2] [.int 8, s2, s1, s0] M 0 0 Z := R_bipush (gd158 dX9_shoulders_12) (by decide)
theorem z158_14 : Run d 158 14 [a0, a1, a2] [.int y, .int x, s1, s0] M 0 0 Z ↔ Run d 158 15 [a0, a1, a2] [.int (x + y), s1, s0] M 0 0 Z := R_arith (gd158 dX9_shoulders_14) rfl
theorem z158_15 : Run d 158 15 [a0, a1, a2] [s2, s1, s0] M 0 0 Z ↔ Run d 158 16 [a0, a1, a2] [.int 1, s2, s1, s0] M 0 0 Z := R_iconst (gd158 dX9_shoulders_15) (by decide)
theorem z158_16 : Run d 158 16 [a0, a1, a2] [.int y, .int x, s1, s0] M 0 0 Z ↔ Run d 158 17 [a0, a1, a2] [.int (x - y), s1, s0] M 0 0 Z := R_arith (gd158 dX9_shoulders_16) rfl
theorem z158_17 : Run d 158 17 [a0, a1, a2] [.int x, .ref o, s0] M 0 0 Z ↔ gAr M o 0 ∧ gIn x (gLen M o) = true ∧ Run d 158 18 [a0, a1, a2] [.int (M.1 o x.toNatClampNeg), s0] M 0 0 Z := R_iald (gd158 dX9_shoulders_17)
theorem z158_18 : Run d 158 18 [a0, a1, a2] [.int y, .int x] M 0 0 Z ↔ Run d 158 19 [a0, a1, a2] [.int (x * y)] M 0 0 Z := R_arith (gd158 dX9_shoulders_18) rfl
theorem z158_19 : Run d 158 19 [a0, a1, a2] [.int x] M 0 0 Z ↔ Run d 158 20 [a0, some (.int x), a2] [] M 0 0 Z := R_local (gd158 dX9_shoulders_19) rfl rfl rfl
theorem z158_20 : Run d 158 20 [some (.ref o), a1, a2] [] M 0 0 Z ↔ Run d 158 21 [some (.ref o), a1, a2] [.ref o] M 0 0 Z := R_local (gd158 dX9_shoulders_20) rfl rfl rfl
theorem z158_21 : Run d 158 21 [a0, a1, a2] [.ref o] M 0 0 Z ↔ gObj M o 9 ∧ Run d 158 24 [a0, a1, a2] [va_rf (M.2.1 o 28)] M 0 0 Z := R_getR (gd158 dX9_shoulders_21) rfl gf_9_71 rfl
theorem z158_24 : Run d 158 24 [some (.ref o), a1, a2] [s0] M 0 0 Z ↔ Run d 158 25 [some (.ref o), a1, a2] [.ref o, s0] M 0 0 Z := R_local (gd158 dX9_shoulders_24) rfl rfl rfl
theorem z158_25 : Run d 158 25 [a0, a1, a2] [.ref o, s0] M 0 0 Z ↔ gObj M o 9 ∧ Run d 158 28 [a0, a1, a2] [.int (M.1 o 36), s0] M 0 0 Z := R_getI (gd158 dX9_shoulders_25) rfl gf_9_233 rfl
theorem z158_28 : Run d 158 28 [a0, a1, a2] [.int x, .ref o] M 0 0 Z ↔ gAr M o 0 ∧ gIn x (gLen M o) = true ∧ Run d 158 29 [a0, a1, a2] [.int (M.1 o x.toNatClampNeg)] M 0 0 Z := R_iald (gd158 dX9_shoulders_28)
theorem z158_29 : Run d 158 29 [some (.ref o), a1, a2] [s0] M 0 0 Z ↔ Run d 158 30 [some (.ref o), a1, a2] [.ref o, s0] M 0 0 Z := R_local (gd158 dX9_shoulders_29) rfl rfl rfl
theorem z158_30 : Run d 158 30 [a0, a1, a2] [.ref o, s0] M 0 0 Z ↔ gObj M o 9 ∧ Run d 158 33 [a0, a1, a2] [.int (M.1 o 39), s0] M 0 0 Z := R_getI (gd158 dX9_shoulders_30) rfl gf_9_236 rfl
theorem z158_33 : Run d 158 33 [a0, a1, a2] [.int y, .int x] M 0 0 Z ↔ Run d 158 34 [a0, a1, a2] [.int (x + y)] M 0 0 Z := R_arith (gd158 dX9_shoulders_33) rfl
theorem z158_34 : Run d 158 34 [a0, a1, a2] [s0] M 0 0 Z ↔ Run d 158 36 [a0, a1, a2] [.int 8, s0] M 0 0 Z := R_bipush (gd158 dX9_shoulders_34) (by decide)
theorem z158_36 : Run d 158 36 [a0, a1, a2] [.int y, .int x] M 0 0 Z ↔ (x = y → Run d 158 43 [a0, a1, a2] [] M 0 0 Z) ∧ (¬ (x = y) → Run d 158 39 [a0, a1, a2] [] M 0 0 Z) := R_icmp (gd158 dX9_shoulders_36) (show gTgt 36 7 = some 43 by decide) gIf_eq
theorem z158_39 : Run d 158 39 [a0, a1, a2] [] M 0 0 Z ↔ Run d 158 40 [a0, a1, a2] [.int 3] M 0 0 Z := R_iconst (gd158 dX9_shoulders_39) (by decide)
theorem z158_40 : Run d 158 40 [a0, a1, a2] [s0] M 0 0 Z ↔ Run d 158 56 [a0, a1, a2] [s0] M 0 0 Z := R_goto (gd158 dX9_shoulders_40) (show gTgt 40 16 = some 56 by decide)
theorem z158_43 : Run d 158 43 [a0, some (.int x), a2] [] M 0 0 Z ↔ Run d 158 44 [a0, some (.int x), a2] [.int x] M 0 0 Z := R_local (gd158 dX9_shoulders_43) rfl rfl rfl
theorem z158_44 : Run d 158 44 [some (.ref o), a1, a2] [s0] M 0 0 Z ↔ Run d 158 45 [some (.ref o), a1, a2] [.ref o, s0] M 0 0 Z := R_local (gd158 dX9_shoulders_44) rfl rfl rfl
theorem z158_45 : Run d 158 45 [a0, a1, a2] [.ref b, s0] M 0 0 Z ↔ gObj M b 9 ∧ Call d 151 [.ref b] M (fun r M1 => Run d 158 48 [a0, a1, a2] (r.toList ++ [s0]) M1 0 0 Z) := R_callV (gd158 dX9_shoulders_45) rfl rfl rfl rfl rfl rfl gc_9_272 rfl rfl (Nat.le_of_ble_eq_true rfl) (Nat.le_of_ble_eq_true rfl) rfl rfl (Nat.le_of_ble_eq_true rfl) (Nat.le_of_ble_eq_true rfl)
theorem z158_48 : Run d 158 48 [a0, a1, a2] [.int y, .int x] M 0 0 Z ↔ (x ≤ y → Run d 158 55 [a0, a1, a2] [] M 0 0 Z) ∧ (¬ (x ≤ y) → Run d 158 51 [a0, a1, a2] [] M 0 0 Z) := R_icmp (gd158 dX9_shoulders_48) (show gTgt 48 7 = some 55 by decide) gIf_le
theorem z158_51 : Run d 158 51 [a0, a1, a2] [] M 0 0 Z ↔ Run d 158 52 [a0, a1, a2] [.int 1] M 0 0 Z := R_iconst (gd158 dX9_shoulders_51) (by decide)
theorem z158_52 : Run d 158 52 [a0, a1, a2] [s0] M 0 0 Z ↔ Run d 158 56 [a0, a1, a2] [s0] M 0 0 Z := R_goto (gd158 dX9_shoulders_52) (show gTgt 52 4 = some 56 by decide)
theorem z158_55 : Run d 158 55 [a0, a1, a2] [] M 0 0 Z ↔ Run d 158 56 [a0, a1, a2] [.int 0] M 0 0 Z := R_iconst (gd158 dX9_shoulders_55) (by decide)
theorem z158_56 : Run d 158 56 [a0, a1, a2] [.int x] M 0 0 Z ↔ Run d 158 57 [a0, a1, some (.int x)] [] M 0 0 Z := R_local (gd158 dX9_shoulders_56) rfl rfl rfl
theorem z158_57 : Run d 158 57 [a0, a1, some (.int x)] [] M 0 0 Z ↔ Run d 158 58 [a0, a1, some (.int x)] [.int x] M 0 0 Z := R_local (gd158 dX9_shoulders_57) rfl rfl rfl
theorem z158_58 : Run d 158 58 [a0, a1, a2] [.int x] M 0 0 Z ↔ (x ≤ 0 → Run d 158 67 [a0, a1, a2] [] M 0 0 Z) ∧ (¬ (x ≤ 0) → Run d 158 61 [a0, a1, a2] [] M 0 0 Z) := R_if (gd158 dX9_shoulders_58) (show gTgt 58 9 = some 67 by decide) gIf_le
theorem z158_61 : Run d 158 61 [some (.ref o), a1, a2] [] M 0 0 Z ↔ Run d 158 62 [some (.ref o), a1, a2] [.ref o] M 0 0 Z := R_local (gd158 dX9_shoulders_61) rfl rfl rfl
theorem z158_62 : Run d 158 62 [a0, a1, some (.int x)] [s0] M 0 0 Z ↔ Run d 158 63 [a0, a1, some (.int x)] [.int x, s0] M 0 0 Z := R_local (gd158 dX9_shoulders_62) rfl rfl rfl
theorem z158_63 : Run d 158 63 [a0, a1, a2] [s1, .ref b] M 0 0 Z ↔ gObj M b 9 ∧ Call d 149 [.ref b, s1] M (fun r M1 => Run d 158 66 [a0, a1, a2] (r.toList ++ []) M1 0 0 Z) := R_callV (gd158 dX9_shoulders_63) rfl rfl rfl rfl rfl rfl gc_9_275 rfl rfl (Nat.le_of_ble_eq_true rfl) (Nat.le_of_ble_eq_true rfl) rfl rfl (Nat.le_of_ble_eq_true rfl) (Nat.le_of_ble_eq_true rfl)
theorem z158_66 : Run d 158 66 [a0, a1, a2] [] M 0 0 Z ↔ Z none M := R_vret (gd158 dX9_shoulders_66) rfl
theorem z158_67 : Run d 158 67 [some (.ref o), a1, a2] [] M 0 0 Z ↔ Run d 158 68 [some (.ref o), a1, a2] [.ref o] M 0 0 Z := R_local (gd158 dX9_shoulders_67) rfl rfl rfl
theorem z158_68 : Run d 158 68 [a0, some (.int x), a2] [s0] M 0 0 Z ↔ Run d 158 69 [a0, some (.int x), a2] [.int x, s0] M 0 0 Z := R_local (gd158 dX9_shoulders_68) rfl rfl rfl
theorem z158_69 : Run d 158 69 [a0, a1, a2] [s1, .ref b] M 0 0 Z ↔ gObj M b 9 ∧ Call d 154 [.ref b, s1] M (fun r M1 => Run d 158 72 [a0, a1, a2] (r.toList ++ []) M1 0 0 Z) := R_callV (gd158 dX9_shoulders_69) rfl rfl rfl rfl rfl rfl gc_9_285 rfl rfl (Nat.le_of_ble_eq_true rfl) (Nat.le_of_ble_eq_true rfl) rfl rfl (Nat.le_of_ble_eq_true rfl) (Nat.le_of_ble_eq_true rfl)
theorem z158_72 : Run d 158 72 [some (.ref o), a1, a2] [] M 0 0 Z ↔ Run d 158 73 [some (.ref o), a1, a2] [.ref o] M 0 0 Z := R_local (gd158 dX9_shoulders_72) rfl rfl rfl
theorem z158_73 : Run d 158 73 [a0, a1, a2] [.ref o] M 0 0 Z ↔ gObj M o 9 ∧ Run d 158 76 [a0, a1, a2] [va_rf (M.2.1 o 29)] M 0 0 Z := R_getR (gd158 dX9_shoulders_73) rfl gf_9_74 rfl
theorem z158_76 : Run d 158 76 [some (.ref o), a1, a2] [s0] M 0 0 Z ↔ Run d 158 77 [some (.ref o), a1, a2] [.ref o, s0] M 0 0 Z := R_local (gd158 dX9_shoulders_76) rfl rfl rfl
theorem z158_77 : Run d 158 77 [a0, a1, a2] [.ref o, s0] M 0 0 Z ↔ gObj M o 9 ∧ Run d 158 80 [a0, a1, a2] [.int (M.1 o 36), s0] M 0 0 Z := R_getI (gd158 dX9_shoulders_77) rfl gf_9_233 rfl
theorem z158_80 : Run d 158 80 [some (.ref o), a1, a2] [s1, s0] M 0 0 Z ↔ Run d 158 81 [some (.ref o), a1, a2] [.ref o, s1, s0] M 0 0 Z := R_local (gd158 dX9_shoulders_80) rfl rfl rfl
theorem z158_81 : Run d 158 81 [a0, a1, a2] [.ref o, s1, s0] M 0 0 Z ↔ gObj M o 9 ∧ Run d 158 84 [a0, a1, a2] [va_rf (M.2.1 o 29), s1, s0] M 0 0 Z := R_getR (gd158 dX9_shoulders_81) rfl gf_9_74 rfl
theorem z158_84 : Run d 158 84 [some (.ref o), a1, a2] [s2, s1, s0] M 0 0 Z ↔ Run d 158 85 [some (.ref o), a1, a2] [.ref o, s2, s1, s0] M 0 0 Z := R_local (gd158 dX9_shoulders_84) rfl rfl rfl
theorem z158_85 : Run d 158 85 [a0, a1, a2] [.ref o, s2, s1, s0] M 0 0 Z ↔ gObj M o 9 ∧ Run d 158 88 [a0, a1, a2] [.int (M.1 o 36), s2, s1, s0] M 0 0 Z := R_getI (gd158 dX9_shoulders_85) rfl gf_9_233 rfl
theorem z158_88 : Run d 158 88 [a0, a1, a2] [.int x, .ref o, s1, s0] M 0 0 Z ↔ gAr M o 0 ∧ gIn x (gLen M o) = true ∧ Run d 158 89 [a0, a1, a2] [.int (M.1 o x.toNatClampNeg), s1, s0] M 0 0 Z := R_iald (gd158 dX9_shoulders_88)
theorem z158_89 : Run d 158 89 [a0, a1, a2] [s2, s1, s0] M 0 0 Z ↔ Run d 158 90 [a0, a1, a2] [.int 4, s2, s1, s0] M 0 0 Z := R_iconst (gd158 dX9_shoulders_89) (by decide)
theorem z158_90 : Run d 158 90 [a0, a1, a2] [.int y, .int x, s1, s0] M 0 0 Z ↔ Run d 158 91 [a0, a1, a2] [.int (x + y), s1, s0] M 0 0 Z := R_arith (gd158 dX9_shoulders_90) rfl
theorem z158_91 : Run d 158 91 [a0, a1, a2] [s2, s1, s0] M 0 0 Z ↔ Run d 158 93 [a0, a1, a2] [.int 8, s2, s1, s0] M 0 0 Z := R_bipush (gd158 dX9_shoulders_91) (by decide)
theorem z158_93 (hy : ¬ y = 0) : Run d 158 93 [a0, a1, a2] [.int y, .int x, s1, s0] M 0 0 Z ↔ Run d 158 94 [a0, a1, a2] [.int (x - x / y * y), s1, s0] M 0 0 Z := R_rem (gd158 dX9_shoulders_93) hy
theorem z158_94 : Run d 158 94 [a0, a1, a2] [.int y, .int x, .ref o] M 0 0 Z ↔ gAr M o 0 ∧ gIn x (gLen M o) = true ∧ Run d 158 95 [a0, a1, a2] [] (gsI M o x.toNatClampNeg y) 0 0 Z := R_iast (gd158 dX9_shoulders_94)
theorem z158_95 : Run d 158 95 [some (.ref o), a1, a2] [] M 0 0 Z ↔ Run d 158 96 [some (.ref o), a1, a2] [.ref o] M 0 0 Z := R_local (gd158 dX9_shoulders_95) rfl rfl rfl
theorem z158_96 : Run d 158 96 [a0, a1, a2] [.ref b] M 0 0 Z ↔ gObj M b 9 ∧ Call d 153 [.ref b] M (fun r M1 => Run d 158 99 [a0, a1, a2] (r.toList ++ []) M1 0 0 Z) := R_callV (gd158 dX9_shoulders_96) rfl rfl rfl rfl rfl rfl gc_9_282 rfl rfl (Nat.le_of_ble_eq_true rfl) (Nat.le_of_ble_eq_true rfl) rfl rfl (Nat.le_of_ble_eq_true rfl) (Nat.le_of_ble_eq_true rfl)
theorem z158_99 : Run d 158 99 [a0, a1, a2] [] M 0 0 Z ↔ Z none M := R_vret (gd158 dX9_shoulders_99) rfl
theorem e158 : Call (d + 1) 158 [s0] M Z ↔ Run d 158 0 [some s0, none, none] [] M 0 0 Z := Call_iff (Nat.lt_of_lt_of_le (Nat.lt_succ_self 158) (Nat.le_of_ble_eq_true rfl)) (Nat.le_of_ble_eq_true rfl)
/-! 159: X9_hangs (I)V -/
theorem gd159 {pc : Nat} {r : Except _ _} (h : decode cX9_hangs pc = r) : decode (gby 159) pc = r := h
theorem z159_0 : Run d 159 0 [a0, some (.int x), a2, a3, a4, a5, a6, a7] [] M 0 0 Z ↔ Run d 159 1 [a0, some (.int x), a2, a3, a4, a5, a6, a7] [.int x] M 0 0 Z := R_local (gd159 dX9_hangs_0) rfl rfl rfl
theorem z159_1 : Run d 159 1 [a0, a1, a2, a3, a4, a5, a6, a7] [s0] M 0 0 Z ↔ Run d 159 2 [a0, a1, a2, a3, a4, a5, a6, a7] [.int 4, s0] M 0 0 Z := R_iconst (gd159 dX9_hangs_1) (by decide)
theorem z159_2 : Run d 159 2 [a0, a1, a2, a3, a4, a5, a6, a7] [.int y, .int x] M 0 0 Z ↔ Run d 159 3 [a0, a1, a2, a3, a4, a5, a6, a7] [.int (x + y)] M 0 0 Z := R_arith (gd159 dX9_hangs_2) rfl
theorem z159_3 : Run d 159 3 [a0, a1, a2, a3, a4, a5, a6, a7] [s0] M 0 0 Z ↔ Run d 159 4 [a0, a1, a2, a3, a4, a5, a6, a7] [.int 5, s0] M 0 0 Z := R_iconst (gd159 dX9_hangs_3) (by decide)
theorem z159_4 (hy : ¬ y = 0) : Run d 159 4 [a0, a1, a2, a3, a4, a5, a6, a7] [.int y, .int x] M 0 0 Z ↔ Run d 159 5 [a0, a1, a2, a3, a4, a5, a6, a7] [.int (x / y)] M 0 0 Z := R_div (gd159 dX9_hangs_4) hy
theorem z159_5 : Run d 159 5 [a0, a1, a2, a3, a4, a5, a6, a7] [.int x] M 0 0 Z ↔ Run d 159 6 [a0, a1, some (.int x), a3, a4, a5, a6, a7] [] M 0 0 Z := R_local (gd159 dX9_hangs_5) rfl rfl rfl
theorem z159_6 : Run d 159 6 [a0, a1, some (.int x), a3, a4, a5, a6, a7] [] M 0 0 Z ↔ Run d 159 7 [a0, a1, some (.int x), a3, a4, a5, a6, a7] [.int x] M 0 0 Z := R_local (gd159 dX9_hangs_6) rfl rfl rfl
theorem z159_7 : Run d 159 7 [some (.ref o), a1, a2, a3, a4, a5, a6, a7] [s0] M 0 0 Z ↔ Run d 159 8 [some (.ref o), a1, a2, a3, a4, a5, a6, a7] [.ref o, s0] M 0 0 Z := R_local (gd159 dX9_hangs_7) rfl rfl rfl
theorem z159_8 : Run d 159 8 [a0, a1, a2, a3, a4, a5, a6, a7] [.ref o, s0] M 0 0 Z ↔ gObj M o 9 ∧ Run d 159 11 [a0, a1, a2, a3, a4, a5, a6, a7] [va_rf (M.2.1 o 28), s0] M 0 0 Z := R_getR (gd159 dX9_hangs_8) rfl gf_9_71 rfl
theorem z159_11 : Run d 159 11 [some (.ref o), a1, a2, a3, a4, a5, a6, a7] [s1, s0] M 0 0 Z ↔ Run d 159 12 [some (.ref o), a1, a2, a3, a4, a5, a6, a7] [.ref o, s1, s0] M 0 0 Z := R_local (gd159 dX9_hangs_11) rfl rfl rfl
theorem z159_12 : Run d 159 12 [a0, a1, a2, a3, a4, a5, a6, a7] [.ref o, s1, s0] M 0 0 Z ↔ gObj M o 9 ∧ Run d 159 15 [a0, a1, a2, a3, a4, a5, a6, a7] [.int (M.1 o 36), s1, s0] M 0 0 Z := R_getI (gd159 dX9_hangs_12) rfl gf_9_233 rfl
theorem z159_15 : Run d 159 15 [a0, a1, a2, a3, a4, a5, a6, a7] [.int x, .ref o, s0] M 0 0 Z ↔ gAr M o 0 ∧ gIn x (gLen M o) = true ∧ Run d 159 16 [a0, a1, a2, a3, a4, a5, a6, a7] [.int (M.1 o x.toNatClampNeg), s0] M 0 0 Z := R_iald (gd159 dX9_hangs_15)
theorem z159_16 : Run d 159 16 [a0, a1, a2, a3, a4, a5, a6, a7] [.int y, .int x] M 0 0 Z ↔ (y ≤ x → Run d 159 23 [a0, a1, a2, a3, a4, a5, a6, a7] [] M 0 0 Z) ∧ (¬ (y ≤ x) → Run d 159 19 [a0, a1, a2, a3, a4, a5, a6, a7] [] M 0 0 Z) := R_icmp (gd159 dX9_hangs_16) (show gTgt 16 7 = some 23 by decide) gIf_ge
theorem z159_19 : Run d 159 19 [a0, a1, some (.int x), a3, a4, a5, a6, a7] [] M 0 0 Z ↔ Run d 159 20 [a0, a1, some (.int x), a3, a4, a5, a6, a7] [.int x] M 0 0 Z := R_local (gd159 dX9_hangs_19) rfl rfl rfl
theorem z159_20 : Run d 159 20 [a0, a1, a2, a3, a4, a5, a6, a7] [s0] M 0 0 Z ↔ Run d 159 32 [a0, a1, a2, a3, a4, a5, a6, a7] [s0] M 0 0 Z := R_goto (gd159 dX9_hangs_20) (show gTgt 20 12 = some 32 by decide)
theorem z159_23 : Run d 159 23 [some (.ref o), a1, a2, a3, a4, a5, a6, a7] [] M 0 0 Z ↔ Run d 159 24 [some (.ref o), a1, a2, a3, a4, a5, a6, a7] [.ref o] M 0 0 Z := R_local (gd159 dX9_hangs_23) rfl rfl rfl
theorem z159_24 : Run d 159 24 [a0, a1, a2, a3, a4, a5, a6, a7] [.ref o] M 0 0 Z ↔ gObj M o 9 ∧ Run d 159 27 [a0, a1, a2, a3, a4, a5, a6, a7] [va_rf (M.2.1 o 28)] M 0 0 Z := R_getR (gd159 dX9_hangs_24) rfl gf_9_71 rfl
theorem z159_27 : Run d 159 27 [some (.ref o), a1, a2, a3, a4, a5, a6, a7] [s0] M 0 0 Z ↔ Run d 159 28 [some (.ref o), a1, a2, a3, a4, a5, a6, a7] [.ref o, s0] M 0 0 Z := R_local (gd159 dX9_hangs_27) rfl rfl rfl
theorem z159_28 : Run d 159 28 [a0, a1, a2, a3, a4, a5, a6, a7] [.ref o, s0] M 0 0 Z ↔ gObj M o 9 ∧ Run d 159 31 [a0, a1, a2, a3, a4, a5, a6, a7] [.int (M.1 o 36), s0] M 0 0 Z := R_getI (gd159 dX9_hangs_28) rfl gf_9_233 rfl
theorem z159_31 : Run d 159 31 [a0, a1, a2, a3, a4, a5, a6, a7] [.int x, .ref o] M 0 0 Z ↔ gAr M o 0 ∧ gIn x (gLen M o) = true ∧ Run d 159 32 [a0, a1, a2, a3, a4, a5, a6, a7] [.int (M.1 o x.toNatClampNeg)] M 0 0 Z := R_iald (gd159 dX9_hangs_31)
theorem z159_32 : Run d 159 32 [a0, a1, a2, a3, a4, a5, a6, a7] [.int x] M 0 0 Z ↔ Run d 159 33 [a0, a1, a2, some (.int x), a4, a5, a6, a7] [] M 0 0 Z := R_local (gd159 dX9_hangs_32) rfl rfl rfl
theorem z159_33 : Run d 159 33 [some (.ref o), a1, a2, a3, a4, a5, a6, a7] [] M 0 0 Z ↔ Run d 159 34 [some (.ref o), a1, a2, a3, a4, a5, a6, a7] [.ref o] M 0 0 Z := R_local (gd159 dX9_hangs_33) rfl rfl rfl
theorem z159_34 : Run d 159 34 [a0, a1, a2, a3, a4, a5, a6, a7] [.ref o] M 0 0 Z ↔ gObj M o 9 ∧ Run d 159 37 [a0, a1, a2, a3, a4, a5, a6, a7] [.int (M.1 o 49)] M 0 0 Z := R_getI (gd159 dX9_hangs_34) rfl gf_9_252 rfl
theorem z159_37 : Run d 159 37 [a0, a1, a2, a3, a4, a5, a6, a7] [.int x] M 0 0 Z ↔ (x = 0 → Run d 159 44 [a0, a1, a2, a3, a4, a5, a6, a7] [] M 0 0 Z) ∧ (¬ (x = 0) → Run d 159 40 [a0, a1, a2, a3, a4, a5, a6, a7] [] M 0 0 Z) := R_if (gd159 dX9_hangs_37) (show gTgt 37 7 = some 44 by decide) gIf_eq
theorem z159_40 : Run d 159 40 [a0, a1, a2, a3, a4, a5, a6, a7] [] M 0 0 Z ↔ Run d 159 41 [a0, a1, a2, a3, a4, a5, a6, a7] [.int 5] M 0 0 Z := R_iconst (gd159 dX9_hangs_40) (by decide)
theorem z159_41 : Run d 159 41 [a0, a1, a2, a3, a4, a5, a6, a7] [s0] M 0 0 Z ↔ Run d 159 90 [a0, a1, a2, a3, a4, a5, a6, a7] [s0] M 0 0 Z := R_goto (gd159 dX9_hangs_41) (show gTgt 41 49 = some 90 by decide)
theorem z159_44 : Run d 159 44 [a0, some (.int x), a2, a3, a4, a5, a6, a7] [] M 0 0 Z ↔ Run d 159 45 [a0, some (.int x), a2, a3, a4, a5, a6, a7] [.int x] M 0 0 Z := R_local (gd159 dX9_hangs_44) rfl rfl rfl
theorem z159_45 : Run d 159 45 [a0, a1, a2, a3, a4, a5, a6, a7] [s0] M 0 0 Z ↔ Call d 150 [s0] M (fun r M1 => Run d 159 48 [a0, a1, a2, a3, a4, a5, a6, a7] (r.toList ++ []) M1 0 0 Z) := R_call (gd159 dX9_hangs_45) rfl rfl rfl rfl rfl rfl gc_9_269 rfl (by decide) (Nat.le_of_ble_eq_true rfl) (Nat.le_of_ble_eq_true rfl) rfl rfl rfl (Nat.le_of_ble_eq_true rfl) (Nat.le_of_ble_eq_true rfl)
theorem z159_48 : Run d 159 48 [a0, a1, a2, a3, a4, a5, a6, a7] [.int x] M 0 0 Z ↔ (¬ x = 0 → Run d 159 55 [a0, a1, a2, a3, a4, a5, a6, a7] [] M 0 0 Z) ∧ (¬ (¬ x = 0) → Run d 159 51 [a0, a1, a2, a3, a4, a5, a6, a7] [] M 0 0 Z) := R_if (gd159 dX9_hangs_48) (show gTgt 48 7 = some 55 by decide) gIf_ne
theorem z159_51 : Run d 159 51 [a0, a1, a2, a3, a4, a5, a6, a7] [] M 0 0 Z ↔ Run d 159 52 [a0, a1, a2, a3, a4, a5, a6, a7] [.int 4] M 0 0 Z := R_iconst (gd159 dX9_hangs_51) (by decide)
theorem z159_52 : Run d 159 52 [a0, a1, a2, a3, a4, a5, a6, a7] [s0] M 0 0 Z ↔ Run d 159 90 [a0, a1, a2, a3, a4, a5, a6, a7] [s0] M 0 0 Z := R_goto (gd159 dX9_hangs_52) (show gTgt 52 38 = some 90 by decide)
theorem z159_55 : Run d 159 55 [a0, some (.int x), a2, a3, a4, a5, a6, a7] [] M 0 0 Z ↔ Run d 159 56 [a0, some (.int x), a2, a3, a4, a5, a6, a7] [.int x] M 0 0 Z := R_local (gd159 dX9_hangs_55) rfl rfl rfl
theorem z159_56 : Run d 159 56 [some (.ref o), a1, a2, a3, a4, a5, a6, a7] [s0] M 0 0 Z ↔ Run d 159 57 [some (.ref o), a1, a2, a3, a4, a5, a6, a7] [.ref o, s0] M 0 0 Z := R_local (gd159 dX9_hangs_56) rfl rfl rfl
theorem z159_57 : Run d 159 57 [a0, a1, a2, a3, a4, a5, a6, a7] [.ref b, s0] M 0 0 Z ↔ gObj M b 9 ∧ Call d 151 [.ref b] M (fun r M1 => Run d 159 60 [a0, a1, a2, a3, a4, a5, a6, a7] (r.toList ++ [s0]) M1 0 0 Z) := R_callV (gd159 dX9_hangs_57) rfl rfl rfl rfl rfl rfl gc_9_272 rfl rfl (Nat.le_of_ble_eq_true rfl) (Nat.le_of_ble_eq_true rfl) rfl rfl (Nat.le_of_ble_eq_true rfl) (Nat.le_of_ble_eq_true rfl)
theorem z159_60 : Run d 159 60 [a0, a1, a2, a3, a4, a5, a6, a7] [.int y, .int x] M 0 0 Z ↔ (x ≤ y → Run d 159 67 [a0, a1, a2, a3, a4, a5, a6, a7] [] M 0 0 Z) ∧ (¬ (x ≤ y) → Run d 159 63 [a0, a1, a2, a3, a4, a5, a6, a7] [] M 0 0 Z) := R_icmp (gd159 dX9_hangs_60) (show gTgt 60 7 = some 67 by decide) gIf_le
theorem z159_63 : Run d 159 63 [a0, a1, a2, a3, a4, a5, a6, a7] [] M 0 0 Z ↔ Run d 159 64 [a0, a1, a2, a3, a4, a5, a6, a7] [.int 1] M 0 0 Z := R_iconst (gd159 dX9_hangs_63) (by decide)
theorem z159_64 : Run d 159 64 [a0, a1, a2, a3, a4, a5, a6, a7] [s0] M 0 0 Z ↔ Run d 159 90 [a0, a1, a2, a3, a4, a5, a6, a7] [s0] M 0 0 Z := R_goto (gd159 dX9_hangs_64) (show gTgt 64 26 = some 90 by decide)
theorem z159_67 : Run d 159 67 [some (.ref o), a1, a2, a3, a4, a5, a6, a7] [] M 0 0 Z ↔ Run d 159 68 [some (.ref o), a1, a2, a3, a4, a5, a6, a7] [.ref o] M 0 0 Z := R_local (gd159 dX9_hangs_67) rfl rfl rfl
theorem z159_68 : Run d 159 68 [a0, a1, a2, a3, a4, a5, a6, a7] [.ref o] M 0 0 Z ↔ gObj M o 9 ∧ Run d 159 71 [a0, a1, a2, a3, a4, a5, a6, a7] [va_rf (M.2.1 o 27)] M 0 0 Z := R_getR (gd159 dX9_hangs_68) rfl gf_9_68 rfl
theorem z159_71 : Run d 159 71 [some (.ref o), a1, a2, a3, a4, a5, a6, a7] [s0] M 0 0 Z ↔ Run d 159 72 [some (.ref o), a1, a2, a3, a4, a5, a6, a7] [.ref o, s0] M 0 0 Z := R_local (gd159 dX9_hangs_71) rfl rfl rfl
theorem z159_72 : Run d 159 72 [a0, a1, a2, a3, a4, a5, a6, a7] [.ref o, s0] M 0 0 Z ↔ gObj M o 9 ∧ Run d 159 75 [a0, a1, a2, a3, a4, a5, a6, a7] [.int (M.1 o 36), s0] M 0 0 Z := R_getI (gd159 dX9_hangs_72) rfl gf_9_233 rfl
theorem z159_75 : Run d 159 75 [a0, a1, a2, a3, a4, a5, a6, a7] [.int x, .ref o] M 0 0 Z ↔ gAr M o 0 ∧ gIn x (gLen M o) = true ∧ Run d 159 76 [a0, a1, a2, a3, a4, a5, a6, a7] [.int (M.1 o x.toNatClampNeg)] M 0 0 Z := R_iald (gd159 dX9_hangs_75)
theorem z159_76 : Run d 159 76 [a0, a1, a2, some (.int x), a4, a5, a6, a7] [s0] M 0 0 Z ↔ Run d 159 77 [a0, a1, a2, some (.int x), a4, a5, a6, a7] [.int x, s0] M 0 0 Z := R_local (gd159 dX9_hangs_76) rfl rfl rfl
theorem z159_77 : Run d 159 77 [a0, a1, a2, a3, a4, a5, a6, a7] [.int y, .int x] M 0 0 Z ↔ Run d 159 78 [a0, a1, a2, a3, a4, a5, a6, a7] [.int (x + y)] M 0 0 Z := R_arith (gd159 dX9_hangs_77) rfl
theorem z159_78 : Run d 159 78 [a0, a1, a2, a3, a4, a5, a6, a7] [s0] M 0 0 Z ↔ Run d 159 81 [a0, a1, a2, a3, a4, a5, a6, a7] [.int 400, s0] M 0 0 Z := R_sipush (gd159 dX9_hangs_78) (by decide)
theorem z159_81 : Run d 159 81 [a0, a1, a2, a3, a4, a5, a6, a7] [.int y, .int x] M 0 0 Z ↔ (x ≤ y → Run d 159 89 [a0, a1, a2, a3, a4, a5, a6, a7] [] M 0 0 Z) ∧ (¬ (x ≤ y) → Run d 159 84 [a0, a1, a2, a3, a4, a5, a6, a7] [] M 0 0 Z) := R_icmp (gd159 dX9_hangs_81) (show gTgt 81 8 = some 89 by decide) gIf_le
theorem z159_84 : Run d 159 84 [a0, a1, a2, a3, a4, a5, a6, a7] [] M 0 0 Z ↔ Run d 159 86 [a0, a1, a2, a3, a4, a5, a6, a7] [.int 6] M 0 0 Z := R_bipush (gd159 dX9_hangs_84) (by decide)
theorem z159_86 : Run d 159 86 [a0, a1, a2, a3, a4, a5, a6, a7] [s0] M 0 0 Z ↔ Run d 159 90 [a0, a1, a2, a3, a4, a5, a6, a7] [s0] M 0 0 Z := R_goto (gd159 dX9_hangs_86) (show gTgt 86 4 = some 90 by decide)
theorem z159_89 : Run d 159 89 [a0, a1, a2, a3, a4, a5, a6, a7] [] M 0 0 Z ↔ Run d 159 90 [a0, a1, a2, a3, a4, a5, a6, a7] [.int 0] M 0 0 Z := R_iconst (gd159 dX9_hangs_89) (by decide)
theorem z159_90 : Run d 159 90 [a0, a1, a2, a3, a4, a5, a6, a7] [.int x] M 0 0 Z ↔ Run d 159 92 [a0, a1, a2, a3, some (.int x), a5, a6, a7] [] M 0 0 Z := R_local (gd159 dX9_hangs_90) rfl rfl rfl
theorem z159_92 : Run d 159 92 [a0, a1, a2, a3, some (.int x), a5, a6, a7] [] M 0 0 Z ↔ Run d 159 94 [a0, a1, a2, a3, some (.int x), a5, a6, a7] [.int x] M 0 0 Z := R_local (gd159 dX9_hangs_92) rfl rfl rfl
theorem z159_94 : Run d 159 94 [a0, a1, a2, a3, a4, a5, a6, a7] [.int x] M 0 0 Z ↔ (x ≤ 0 → Run d 159 104 [a0, a1, a2, a3, a4, a5, a6, a7] [] M 0 0 Z) ∧ (¬ (x ≤ 0) → Run d 159 97 [a0, a1, a2, a3, a4, a5, a6, a7] [] M 0 0 Z) := R_if (gd159 dX9_hangs_94) (show gTgt 94 10 = some 104 by decide) gIf_le
theorem z159_97 : Run d 159 97 [some (.ref o), a1, a2, a3, a4, a5, a6, a7] [] M 0 0 Z ↔ Run d 159 98 [some (.ref o), a1, a2, a3, a4, a5, a6, a7] [.ref o] M 0 0 Z := R_local (gd159 dX9_hangs_97) rfl rfl rfl
theorem z159_98 : Run d 159 98 [a0, a1, a2, a3, some (.int x), a5, a6, a7] [s0] M 0 0 Z ↔ Run d 159 100 [a0, a1, a2, a3, some (.int x), a5, a6, a7] [.int x, s0] M 0 0 Z := R_local (gd159 dX9_hangs_98) rfl rfl rfl
theorem z159_100 : Run d 159 100 [a0, a1, a2, a3, a4, a5, a6, a7] [s1, .ref b] M 0 0 Z ↔ gObj M b 9 ∧ Call d 149 [.ref b, s1] M (fun r M1 => Run d 159 103 [a0, a1, a2, a3, a4, a5, a6, a7] (r.toList ++ []) M1 0 0 Z) := R_callV (gd159 dX9_hangs_100) rfl rfl rfl rfl rfl rfl gc_9_275 rfl rfl (Nat.le_of_ble_eq_true rfl) (Nat.le_of_ble_eq_true rfl) rfl rfl (Nat.le_of_ble_eq_true rfl) (Nat.le_of_ble_eq_true rfl)
theorem z159_103 : Run d 159 103 [a0, a1, a2, a3, a4, a5, a6, a7] [] M 0 0 Z ↔ Z none M := R_vret (gd159 dX9_hangs_103) rfl
theorem z159_104 : Run d 159 104 [a0, some (.int x), a2, a3, a4, a5, a6, a7] [] M 0 0 Z ↔ Run d 159 105 [a0, some (.int x), a2, a3, a4, a5, a6, a7] [.int x] M 0 0 Z := R_local (gd159 dX9_hangs_104) rfl rfl rfl
theorem z159_105 : Run d 159 105 [a0, a1, a2, a3, a4, a5, a6, a7] [.int x] M 0 0 Z ↔ Run d 159 107 [a0, a1, a2, a3, a4, some (.int x), a6, a7] [] M 0 0 Z := R_local (gd159 dX9_hangs_105) rfl rfl rfl
theorem z159_107 : Run d 159 107 [a0, a1, a2, a3, a4, a5, a6, a7] [] M 0 0 Z ↔ Run d 159 108 [a0, a1, a2, a3, a4, a5, a6, a7] [.int 0] M 0 0 Z := R_iconst (gd159 dX9_hangs_107) (by decide)
theorem z159_108 : Run d 159 108 [a0, a1, a2, a3, a4, a5, a6, a7] [.int x] M 0 0 Z ↔ Run d 159 110 [a0, a1, a2, a3, a4, a5, some (.int x), a7] [] M 0 0 Z := R_local (gd159 dX9_hangs_108) rfl rfl rfl
theorem z159_110 : Run d 159 110 [a0, a1, a2, a3, a4, a5, some (.int x), a7] [] M 0 0 Z ↔ Run d 159 112 [a0, a1, a2, a3, a4, a5, some (.int x), a7] [.int x] M 0 0 Z := R_local (gd159 dX9_hangs_110) rfl rfl rfl
theorem z159_112 : Run d 159 112 [a0, a1, a2, some (.int x), a4, a5, a6, a7] [s0] M 0 0 Z ↔ Run d 159 113 [a0, a1, a2, some (.int x), a4, a5, a6, a7] [.int x, s0] M 0 0 Z := R_local (gd159 dX9_hangs_112) rfl rfl rfl
theorem z159_113 : Run d 159 113 [a0, a1, a2, a3, a4, a5, a6, a7] [.int y, .int x] M 0 0 Z ↔ (y ≤ x → Run d 159 173 [a0, a1, a2, a3, a4, a5, a6, a7] [] M 0 0 Z) ∧ (¬ (y ≤ x) → Run d 159 116 [a0, a1, a2, a3, a4, a5, a6, a7] [] M 0 0 Z) := R_icmp (gd159 dX9_hangs_113) (show gTgt 113 60 = some 173 by decide) gIf_ge
theorem z159_116 : Run d 159 116 [a0, a1, a2, a3, a4, some (.int x), a6, a7] [] M 0 0 Z ↔ Run d 159 118 [a0, a1, a2, a3, a4, some (.int x), a6, a7] [.int x] M 0 0 Z := R_local (gd159 dX9_hangs_116) rfl rfl rfl
theorem z159_118 : Run d 159 118 [a0, a1, a2, a3, a4, a5, a6, a7] [s0] M 0 0 Z ↔ Run d 159 119 [a0, a1, a2, a3, a4, a5, a6, a7] [.int 5, s0] M 0 0 Z := R_iconst (gd159 dX9_hangs_118) (by decide)
theorem z159_119 : Run d 159 119 [a0, a1, a2, a3, a4, a5, a6, a7] [.int y, .int x] M 0 0 Z ↔ (y ≤ x → Run d 159 127 [a0, a1, a2, a3, a4, a5, a6, a7] [] M 0 0 Z) ∧ (¬ (y ≤ x) → Run d 159 122 [a0, a1, a2, a3, a4, a5, a6, a7] [] M 0 0 Z) := R_icmp (gd159 dX9_hangs_119) (show gTgt 119 8 = some 127 by decide) gIf_ge
theorem z159_122 : Run d 159 122 [a0, a1, a2, a3, a4, some (.int x), a6, a7] [] M 0 0 Z ↔ Run d 159 124 [a0, a1, a2, a3, a4, some (.int x), a6, a7] [.int x] M 0 0 Z := R_local (gd159 dX9_hangs_122) rfl rfl rfl
theorem z159_124 : Run d 159 124 [a0, a1, a2, a3, a4, a5, a6, a7] [s0] M 0 0 Z ↔ Run d 159 128 [a0, a1, a2, a3, a4, a5, a6, a7] [s0] M 0 0 Z := R_goto (gd159 dX9_hangs_124) (show gTgt 124 4 = some 128 by decide)
theorem z159_127 : Run d 159 127 [a0, a1, a2, a3, a4, a5, a6, a7] [] M 0 0 Z ↔ Run d 159 128 [a0, a1, a2, a3, a4, a5, a6, a7] [.int 5] M 0 0 Z := R_iconst (gd159 dX9_hangs_127) (by decide)
theorem z159_128 : Run d 159 128 [a0, a1, a2, a3, a4, a5, a6, a7] [.int x] M 0 0 Z ↔ Run d 159 130 [a0, a1, a2, a3, a4, a5, a6, some (.int x)] [] M 0 0 Z := R_local (gd159 dX9_hangs_128) rfl rfl rfl
theorem z159_130 : Run d 159 130 [some (.ref o), a1, a2, a3, a4, a5, a6, a7] [] M 0 0 Z ↔ Run d 159 131 [some (.ref o), a1, a2, a3, a4, a5, a6, a7] [.ref o] M 0 0 Z := R_local (gd159 dX9_hangs_130) rfl rfl rfl
theorem z159_131 : Run d 159 131 [some (.ref o), a1, a2, a3, a4, a5, a6, a7] [s0] M 0 0 Z ↔ Run d 159 132 [some (.ref o), a1, a2, a3, a4, a5, a6, a7] [.ref o, s0] M 0 0 Z := R_local (gd159 dX9_hangs_131) rfl rfl rfl
theorem z159_132 : Run d 159 132 [a0, a1, a2, a3, a4, a5, a6, a7] [.ref o, s0] M 0 0 Z ↔ gObj M o 9 ∧ Run d 159 135 [a0, a1, a2, a3, a4, a5, a6, a7] [va_rf (M.2.1 o 28), s0] M 0 0 Z := R_getR (gd159 dX9_hangs_132) rfl gf_9_71 rfl
theorem z159_135 : Run d 159 135 [some (.ref o), a1, a2, a3, a4, a5, a6, a7] [s1, s0] M 0 0 Z ↔ Run d 159 136 [some (.ref o), a1, a2, a3, a4, a5, a6, a7] [.ref o, s1, s0] M 0 0 Z := R_local (gd159 dX9_hangs_135) rfl rfl rfl
theorem z159_136 : Run d 159 136 [a0, a1, a2, a3, a4, a5, a6, a7] [.ref o, s1, s0] M 0 0 Z ↔ gObj M o 9 ∧ Run d 159 139 [a0, a1, a2, a3, a4, a5, a6, a7] [.int (M.1 o 36), s1, s0] M 0 0 Z := R_getI (gd159 dX9_hangs_136) rfl gf_9_233 rfl
theorem z159_139 : Run d 159 139 [a0, a1, a2, a3, a4, a5, a6, a7] [.int x, .ref o, s0] M 0 0 Z ↔ gAr M o 0 ∧ gIn x (gLen M o) = true ∧ Run d 159 140 [a0, a1, a2, a3, a4, a5, a6, a7] [.int (M.1 o x.toNatClampNeg), s0] M 0 0 Z := R_iald (gd159 dX9_hangs_139)
theorem z159_140 : Run d 159 140 [a0, a1, a2, a3, a4, a5, a6, a7] [s1, s0] M 0 0 Z ↔ Run d 159 141 [a0, a1, a2, a3, a4, a5, a6, a7] [.int 1, s1, s0] M 0 0 Z := R_iconst (gd159 dX9_hangs_140) (by decide)
theorem z159_141 : Run d 159 141 [a0, a1, a2, a3, a4, a5, a6, a7] [.int y, .int x, s0] M 0 0 Z ↔ Run d 159 142 [a0, a1, a2, a3, a4, a5, a6, a7] [.int (x - y), s0] M 0 0 Z := R_arith (gd159 dX9_hangs_141) rfl
theorem z159_142 : Run d 159 142 [a0, a1, a2, a3, a4, a5, some (.int x), a7] [s1, s0] M 0 0 Z ↔ Run d 159 144 [a0, a1, a2, a3, a4, a5, some (.int x), a7] [.int x, s1, s0] M 0 0 Z := R_local (gd159 dX9_hangs_142) rfl rfl rfl
theorem z159_144 : Run d 159 144 [a0, a1, a2, a3, a4, a5, a6, a7] [.int y, .int x, s0] M 0 0 Z ↔ Run d 159 145 [a0, a1, a2, a3, a4, a5, a6, a7] [.int (x - y), s0] M 0 0 Z := R_arith (gd159 dX9_hangs_144) rfl
theorem z159_145 : Run d 159 145 [a0, a1, a2, a3, a4, a5, a6, some (.int x)] [s1, s0] M 0 0 Z ↔ Run d 159 147 [a0, a1, a2, a3, a4, a5, a6, some (.int x)] [.int x, s1, s0] M 0 0 Z := R_local (gd159 dX9_hangs_145) rfl rfl rfl
theorem z159_147 : Run d 159 147 [a0, a1, a2, a3, a4, a5, a6, a7] [s2, s1, s0] M 0 0 Z ↔ Run d 159 148 [a0, a1, a2, a3, a4, a5, a6, a7] [.int 1, s2, s1, s0] M 0 0 Z := R_iconst (gd159 dX9_hangs_147) (by decide)
theorem z159_148 : Run d 159 148 [some (.ref o), a1, a2, a3, a4, a5, a6, a7] [s3, s2, s1, s0] M 0 0 Z ↔ Run d 159 149 [some (.ref o), a1, a2, a3, a4, a5, a6, a7] [.ref o, s3, s2, s1, s0] M 0 0 Z := R_local (gd159 dX9_hangs_148) rfl rfl rfl
theorem z159_149 : Run d 159 149 [a0, a1, a2, a3, a4, a5, a6, a7] [.ref o, s3, s2, s1, s0] M 0 0 Z ↔ gObj M o 9 ∧ Run d 159 152 [a0, a1, a2, a3, a4, a5, a6, a7] [va_rf (M.2.1 o 31), s3, s2, s1, s0] M 0 0 Z := R_getR (gd159 dX9_hangs_149) rfl gf_9_80 rfl
theorem z159_152 : Run d 159 152 [some (.ref o), a1, a2, a3, a4, a5, a6, a7] [s4, s3, s2, s1, s0] M 0 0 Z ↔ Run d 159 153 [some (.ref o), a1, a2, a3, a4, a5, a6, a7] [.ref o, s4, s3, s2, s1, s0] M 0 0 Z := R_local (gd159 dX9_hangs_152) rfl rfl rfl
theorem z159_153 : Run d 159 153 [a0, a1, a2, a3, a4, a5, a6, a7] [.ref o, s4, s3, s2, s1, s0] M 0 0 Z ↔ gObj M o 9 ∧ Run d 159 156 [a0, a1, a2, a3, a4, a5, a6, a7] [.int (M.1 o 36), s4, s3, s2, s1, s0] M 0 0 Z := R_getI (gd159 dX9_hangs_153) rfl gf_9_233 rfl
theorem z159_156 : Run d 159 156 [a0, a1, a2, a3, a4, a5, a6, a7] [.int x, .ref o, s3, s2, s1, s0] M 0 0 Z ↔ gAr M o 0 ∧ gIn x (gLen M o) = true ∧ Run d 159 157 [a0, a1, a2, a3, a4, a5, a6, a7] [.int (M.1 o x.toNatClampNeg), s3, s2, s1, s0] M 0 0 Z := R_iald (gd159 dX9_hangs_156)
theorem z159_157 : Run d 159 157 [a0, a1, a2, a3, a4, a5, a6, a7] [s4, s3, s2, s1, .ref b] M 0 0 Z ↔ gObj M b 9 ∧ Call d 152 [.ref b, s1, s2, s3, s4] M (fun r M1 => Run d 159 160 [a0, a1, a2, a3, a4, a5, a6, a7] (r.toList ++ []) M1 0 0 Z) := R_callV (gd159 dX9_hangs_157) rfl rfl rfl rfl rfl rfl gc_9_278 rfl rfl (Nat.le_of_ble_eq_true rfl) (Nat.le_of_ble_eq_true rfl) rfl rfl (Nat.le_of_ble_eq_true rfl) (Nat.le_of_ble_eq_true rfl)
theorem z159_160 : Run d 159 160 [a0, a1, a2, a3, a4, some (.int x), a6, a7] [] M 0 0 Z ↔ Run d 159 162 [a0, a1, a2, a3, a4, some (.int x), a6, a7] [.int x] M 0 0 Z := R_local (gd159 dX9_hangs_160) rfl rfl rfl
theorem z159_162 : Run d 159 162 [a0, a1, a2, a3, a4, a5, a6, some (.int x)] [s0] M 0 0 Z ↔ Run d 159 164 [a0, a1, a2, a3, a4, a5, a6, some (.int x)] [.int x, s0] M 0 0 Z := R_local (gd159 dX9_hangs_162) rfl rfl rfl
theorem z159_164 : Run d 159 164 [a0, a1, a2, a3, a4, a5, a6, a7] [.int y, .int x] M 0 0 Z ↔ Run d 159 165 [a0, a1, a2, a3, a4, a5, a6, a7] [.int (x - y)] M 0 0 Z := R_arith (gd159 dX9_hangs_164) rfl
theorem z159_165 : Run d 159 165 [a0, a1, a2, a3, a4, a5, a6, a7] [.int x] M 0 0 Z ↔ Run d 159 167 [a0, a1, a2, a3, a4, some (.int x), a6, a7] [] M 0 0 Z := R_local (gd159 dX9_hangs_165) rfl rfl rfl
theorem z159_167 : Run d 159 167 [a0, a1, a2, a3, a4, a5, some (.int x), a7] [] M 0 0 Z ↔ Run d 159 170 [a0, a1, a2, a3, a4, a5, some (.int (x + 1)), a7] [] M 0 0 Z := R_iinc (gd159 dX9_hangs_167) (by decide) rfl rfl
theorem z159_170 : Run d 159 170 [a0, a1, a2, a3, a4, a5, a6, a7] [] M 0 0 Z ↔ Run d 159 110 [a0, a1, a2, a3, a4, a5, a6, a7] [] M 0 0 Z := R_goto (gd159 dX9_hangs_170) (show gTgt 170 (-60) = some 110 by decide)
theorem z159_173 : Run d 159 173 [some (.ref o), a1, a2, a3, a4, a5, a6, a7] [] M 0 0 Z ↔ Run d 159 174 [some (.ref o), a1, a2, a3, a4, a5, a6, a7] [.ref o] M 0 0 Z := R_local (gd159 dX9_hangs_173) rfl rfl rfl
theorem z159_174 : Run d 159 174 [a0, a1, a2, a3, a4, some (.int x), a6, a7] [s0] M 0 0 Z ↔ Run d 159 176 [a0, a1, a2, a3, a4, some (.int x), a6, a7] [.int x, s0] M 0 0 Z := R_local (gd159 dX9_hangs_174) rfl rfl rfl
theorem z159_176 : Run d 159 176 [a0, a1, a2, a3, a4, a5, a6, a7] [s1, .ref b] M 0 0 Z ↔ gObj M b 9 ∧ Call d 154 [.ref b, s1] M (fun r M1 => Run d 159 179 [a0, a1, a2, a3, a4, a5, a6, a7] (r.toList ++ []) M1 0 0 Z) := R_callV (gd159 dX9_hangs_176) rfl rfl rfl rfl rfl rfl gc_9_285 rfl rfl (Nat.le_of_ble_eq_true rfl) (Nat.le_of_ble_eq_true rfl) rfl rfl (Nat.le_of_ble_eq_true rfl) (Nat.le_of_ble_eq_true rfl)
theorem z159_179 : Run d 159 179 [some (.ref o), a1, a2, a3, a4, a5, a6, a7] [] M 0 0 Z ↔ Run d 159 180 [some (.ref o), a1, a2, a3, a4, a5, a6, a7] [.ref o] M 0 0 Z := R_local (gd159 dX9_hangs_179) rfl rfl rfl
theorem z159_180 : Run d 159 180 [a0, a1, a2, a3, a4, a5, a6, a7] [.ref o] M 0 0 Z ↔ gObj M o 9 ∧ Run d 159 183 [a0, a1, a2, a3, a4, a5, a6, a7] [va_rf (M.2.1 o 32)] M 0 0 Z := R_getR (gd159 dX9_hangs_180) rfl gf_9_83 rfl
theorem z159_183 : Run d 159 183 [some (.ref o), a1, a2, a3, a4, a5, a6, a7] [s0] M 0 0 Z ↔ Run d 159 184 [some (.ref o), a1, a2, a3, a4, a5, a6, a7] [.ref o, s0] M 0 0 Z := R_local (gd159 dX9_hangs_183) rfl rfl rfl
theorem z159_184 : Run d 159 184 [a0, a1, a2, a3, a4, a5, a6, a7] [.ref o, s0] M 0 0 Z ↔ gObj M o 9 ∧ Run d 159 187 [a0, a1, a2, a3, a4, a5, a6, a7] [.int (M.1 o 36), s0] M 0 0 Z := R_getI (gd159 dX9_hangs_184) rfl gf_9_233 rfl
theorem z159_187 : Run d 159 187 [a0, some (.int x), a2, a3, a4, a5, a6, a7] [s1, s0] M 0 0 Z ↔ Run d 159 188 [a0, some (.int x), a2, a3, a4, a5, a6, a7] [.int x, s1, s0] M 0 0 Z := R_local (gd159 dX9_hangs_187) rfl rfl rfl
theorem z159_188 : Run d 159 188 [a0, a1, a2, a3, a4, a5, a6, a7] [.int x, s1, s0] M 0 0 Z ↔ (¬ x = 0 → Run d 159 203 [a0, a1, a2, a3, a4, a5, a6, a7] [s1, s0] M 0 0 Z) ∧ (¬ (¬ x = 0) → Run d 159 191 [a0, a1, a2, a3, a4, a5, a6, a7] [s1, s0] M 0 0 Z) := R_if (gd159 dX9_hangs_188) (show gTgt 188 15 = some 203 by decide) gIf_ne
theorem z159_191 : Run d 159 191 [some (.ref o), a1, a2, a3, a4, a5, a6, a7] [s1, s0] M 0 0 Z ↔ Run d 159 192 [some (.ref o), a1, a2, a3, a4, a5, a6, a7] [.ref o, s1, s0] M 0 0 Z := R_local (gd159 dX9_hangs_191) rfl rfl rfl
theorem z159_192 : Run d 159 192 [a0, a1, a2, a3, a4, a5, a6, a7] [.ref o, s1, s0] M 0 0 Z ↔ gObj M o 9 ∧ Run d 159 195 [a0, a1, a2, a3, a4, a5, a6, a7] [va_rf (M.2.1 o 28), s1, s0] M 0 0 Z := R_getR (gd159 dX9_hangs_192) rfl gf_9_71 rfl
theorem z159_195 : Run d 159 195 [some (.ref o), a1, a2, a3, a4, a5, a6, a7] [s2, s1, s0] M 0 0 Z ↔ Run d 159 196 [some (.ref o), a1, a2, a3, a4, a5, a6, a7] [.ref o, s2, s1, s0] M 0 0 Z := R_local (gd159 dX9_hangs_195) rfl rfl rfl
theorem z159_196 : Run d 159 196 [a0, a1, a2, a3, a4, a5, a6, a7] [.ref o, s2, s1, s0] M 0 0 Z ↔ gObj M o 9 ∧ Run d 159 199 [a0, a1, a2, a3, a4, a5, a6, a7] [.int (M.1 o 36), s2, s1, s0] M 0 0 Z := R_getI (gd159 dX9_hangs_196) rfl gf_9_233 rfl
theorem z159_199 : Run d 159 199 [a0, a1, a2, a3, a4, a5, a6, a7] [.int x, .ref o, s1, s0] M 0 0 Z ↔ gAr M o 0 ∧ gIn x (gLen M o) = true ∧ Run d 159 200 [a0, a1, a2, a3, a4, a5, a6, a7] [.int (M.1 o x.toNatClampNeg), s1, s0] M 0 0 Z := R_iald (gd159 dX9_hangs_199)
theorem z159_200 : Run d 159 200 [a0, a1, a2, a3, a4, a5, a6, a7] [s2, s1, s0] M 0 0 Z ↔ Run d 159 231 [a0, a1, a2, a3, a4, a5, a6, a7] [s2, s1, s0] M 0 0 Z := R_goto (gd159 dX9_hangs_200) (show gTgt 200 31 = some 231 by decide)
theorem z159_203 : Run d 159 203 [a0, a1, some (.int x), a3, a4, a5, a6, a7] [s1, s0] M 0 0 Z ↔ Run d 159 204 [a0, a1, some (.int x), a3, a4, a5, a6, a7] [.int x, s1, s0] M 0 0 Z := R_local (gd159 dX9_hangs_203) rfl rfl rfl
theorem z159_204 : Run d 159 204 [some (.ref o), a1, a2, a3, a4, a5, a6, a7] [s2, s1, s0] M 0 0 Z ↔ Run d 159 205 [some (.ref o), a1, a2, a3, a4, a5, a6, a7] [.ref o, s2, s1, s0] M 0 0 Z := R_local (gd159 dX9_hangs_204) rfl rfl rfl
theorem z159_205 : Run d 159 205 [a0, a1, a2, a3, a4, a5, a6, a7] [.ref o, s2, s1, s0] M 0 0 Z ↔ gObj M o 9 ∧ Run d 159 208 [a0, a1, a2, a3, a4, a5, a6, a7] [va_rf (M.2.1 o 28), s2, s1, s0] M 0 0 Z := R_getR (gd159 dX9_hangs_205) rfl gf_9_71 rfl
theorem z159_208 : Run d 159 208 [some (.ref o), a1, a2, a3, a4, a5, a6, a7] [s3, s2, s1, s0] M 0 0 Z ↔ Run d 159 209 [some (.ref o), a1, a2, a3, a4, a5, a6, a7] [.ref o, s3, s2, s1, s0] M 0 0 Z := R_local (gd159 dX9_hangs_208) rfl rfl rfl
theorem z159_209 : Run d 159 209 [a0, a1, a2, a3, a4, a5, a6, a7] [.ref o, s3, s2, s1, s0] M 0 0 Z ↔ gObj M o 9 ∧ Run d 159 212 [a0, a1, a2, a3, a4, a5, a6, a7] [.int (M.1 o 36), s3, s2, s1, s0] M 0 0 Z := R_getI (gd159 dX9_hangs_209) rfl gf_9_233 rfl
theorem z159_212 : Run d 159 212 [a0, a1, a2, a3, a4, a5, a6, a7] [.int x, .ref o, s2, s1, s0] M 0 0 Z ↔ gAr M o 0 ∧ gIn x (gLen M o) = true ∧ Run d 159 213 [a0, a1, a2, a3, a4, a5, a6, a7] [.int (M.1 o x.toNatClampNeg), s2, s1, s0] M 0 0 Z := R_iald (gd159 dX9_hangs_212)
theorem z159_213 : Run d 159 213 [a0, a1, a2, a3, a4, a5, a6, a7] [.int y, .int x, s1, s0] M 0 0 Z ↔ (x ≤ y → Run d 159 220 [a0, a1, a2, a3, a4, a5, a6, a7] [s1, s0] M 0 0 Z) ∧ (¬ (x ≤ y) → Run d 159 216 [a0, a1, a2, a3, a4, a5, a6, a7] [s1, s0] M 0 0 Z) := R_icmp (gd159 dX9_hangs_213) (show gTgt 213 7 = some 220 by decide) gIf_le
theorem z159_216 : Run d 159 216 [a0, a1, a2, a3, a4, a5, a6, a7] [s1, s0] M 0 0 Z ↔ Run d 159 217 [a0, a1, a2, a3, a4, a5, a6, a7] [.int (-1), s1, s0] M 0 0 Z := R_iconst (gd159 dX9_hangs_216) (by decide)
theorem z159_217 : Run d 159 217 [a0, a1, a2, a3, a4, a5, a6, a7] [s2, s1, s0] M 0 0 Z ↔ Run d 159 231 [a0, a1, a2, a3, a4, a5, a6, a7] [s2, s1, s0] M 0 0 Z := R_goto (gd159 dX9_hangs_217) (show gTgt 217 14 = some 231 by decide)
theorem z159_220 : Run d 159 220 [some (.ref o), a1, a2, a3, a4, a5, a6, a7] [s1, s0] M 0 0 Z ↔ Run d 159 221 [some (.ref o), a1, a2, a3, a4, a5, a6, a7] [.ref o, s1, s0] M 0 0 Z := R_local (gd159 dX9_hangs_220) rfl rfl rfl
theorem z159_221 : Run d 159 221 [a0, a1, a2, a3, a4, a5, a6, a7] [.ref o, s1, s0] M 0 0 Z ↔ gObj M o 9 ∧ Run d 159 224 [a0, a1, a2, a3, a4, a5, a6, a7] [va_rf (M.2.1 o 28), s1, s0] M 0 0 Z := R_getR (gd159 dX9_hangs_221) rfl gf_9_71 rfl
theorem z159_224 : Run d 159 224 [some (.ref o), a1, a2, a3, a4, a5, a6, a7] [s2, s1, s0] M 0 0 Z ↔ Run d 159 225 [some (.ref o), a1, a2, a3, a4, a5, a6, a7] [.ref o, s2, s1, s0] M 0 0 Z := R_local (gd159 dX9_hangs_224) rfl rfl rfl
theorem z159_225 : Run d 159 225 [a0, a1, a2, a3, a4, a5, a6, a7] [.ref o, s2, s1, s0] M 0 0 Z ↔ gObj M o 9 ∧ Run d 159 228 [a0, a1, a2, a3, a4, a5, a6, a7] [.int (M.1 o 36), s2, s1, s0] M 0 0 Z := R_getI (gd159 dX9_hangs_225) rfl gf_9_233 rfl
theorem z159_228 : Run d 159 228 [a0, a1, a2, a3, a4, a5, a6, a7] [.int x, .ref o, s1, s0] M 0 0 Z ↔ gAr M o 0 ∧ gIn x (gLen M o) = true ∧ Run d 159 229 [a0, a1, a2, a3, a4, a5, a6, a7] [.int (M.1 o x.toNatClampNeg), s1, s0] M 0 0 Z := R_iald (gd159 dX9_hangs_228)
theorem z159_229 : Run d 159 229 [a0, a1, some (.int x), a3, a4, a5, a6, a7] [s2, s1, s0] M 0 0 Z ↔ Run d 159 230 [a0, a1, some (.int x), a3, a4, a5, a6, a7] [.int x, s2, s1, s0] M 0 0 Z := R_local (gd159 dX9_hangs_229) rfl rfl rfl
theorem z159_230 : Run d 159 230 [a0, a1, a2, a3, a4, a5, a6, a7] [.int y, .int x, s1, s0] M 0 0 Z ↔ Run d 159 231 [a0, a1, a2, a3, a4, a5, a6, a7] [.int (x - y), s1, s0] M 0 0 Z := R_arith (gd159 dX9_hangs_230) rfl
theorem z159_231 : Run d 159 231 [a0, a1, a2, a3, a4, a5, a6, a7] [.int y, .int x, .ref o] M 0 0 Z ↔ gAr M o 0 ∧ gIn x (gLen M o) = true ∧ Run d 159 232 [a0, a1, a2, a3, a4, a5, a6, a7] [] (gsI M o x.toNatClampNeg y) 0 0 Z := R_iast (gd159 dX9_hangs_231)
theorem z159_232 : Run d 159 232 [some (.ref o), a1, a2, a3, a4, a5, a6, a7] [] M 0 0 Z ↔ Run d 159 233 [some (.ref o), a1, a2, a3, a4, a5, a6, a7] [.ref o] M 0 0 Z := R_local (gd159 dX9_hangs_232) rfl rfl rfl
theorem z159_233 : Run d 159 233 [a0, a1, a2, a3, a4, a5, a6, a7] [.ref b] M 0 0 Z ↔ gObj M b 9 ∧ Call d 153 [.ref b] M (fun r M1 => Run d 159 236 [a0, a1, a2, a3, a4, a5, a6, a7] (r.toList ++ []) M1 0 0 Z) := R_callV (gd159 dX9_hangs_233) rfl rfl rfl rfl rfl rfl gc_9_282 rfl rfl (Nat.le_of_ble_eq_true rfl) (Nat.le_of_ble_eq_true rfl) rfl rfl (Nat.le_of_ble_eq_true rfl) (Nat.le_of_ble_eq_true rfl)
theorem z159_236 : Run d 159 236 [a0, a1, a2, a3, a4, a5, a6, a7] [] M 0 0 Z ↔ Z none M := R_vret (gd159 dX9_hangs_236) rfl
theorem e159 : Call (d + 1) 159 [s0, s1] M Z ↔ Run d 159 0 [some s0, some s1, none, none, none, none, none, none] [] M 0 0 Z := Call_iff (Nat.lt_of_lt_of_le (Nat.lt_succ_self 159) (Nat.le_of_ble_eq_true rfl)) (Nat.le_of_ble_eq_true rfl)
/-! 160: X9_tucks ()V -/
theorem gd160 {pc : Nat} {r : Except _ _} (h : decode cX9_tucks pc = r) : decode (gby 160) pc = r := h
theorem z160_0 : Run d 160 0 [some (.ref o)] [] M 0 0 Z ↔ Run d 160 1 [some (.ref o)] [.ref o] M 0 0 Z := R_local (gd160 dX9_tucks_0) rfl rfl rfl
theorem z160_1 : Run d 160 1 [a0] [.ref o] M 0 0 Z ↔ gObj M o 9 ∧ Run d 160 4 [a0] [va_rf (M.2.1 o 27)] M 0 0 Z := R_getR (gd160 dX9_tucks_1) rfl gf_9_68 rfl
theorem z160_4 : Run d 160 4 [some (.ref o)] [s0] M 0 0 Z ↔ Run d 160 5 [some (.ref o)] [.ref o, s0] M 0 0 Z := R_local (gd160 dX9_tucks_4) rfl rfl rfl
theorem z160_5 : Run d 160 5 [a0] [.ref o, s0] M 0 0 Z ↔ gObj M o 9 ∧ Run d 160 8 [a0] [.int (M.1 o 36), s0] M 0 0 Z := R_getI (gd160 dX9_tucks_5) rfl gf_9_233 rfl
theorem z160_8 : Run d 160 8 [a0] [.int x, .ref o] M 0 0 Z ↔ gAr M o 0 ∧ gIn x (gLen M o) = true ∧ Run d 160 9 [a0] [.int (M.1 o x.toNatClampNeg)] M 0 0 Z := R_iald (gd160 dX9_tucks_8)
theorem z160_9 : Run d 160 9 [a0] [.int x] M 0 0 Z ↔ (¬ x = 0 → Run d 160 21 [a0] [] M 0 0 Z) ∧ (¬ (¬ x = 0) → Run d 160 12 [a0] [] M 0 0 Z) := R_if (gd160 dX9_tucks_9) (show gTgt 9 12 = some 21 by decide) gIf_ne
theorem z160_12 : Run d 160 12 [some (.ref o)] [] M 0 0 Z ↔ Run d 160 13 [some (.ref o)] [.ref o] M 0 0 Z := R_local (gd160 dX9_tucks_12) rfl rfl rfl
theorem z160_13 : Run d 160 13 [a0] [s0] M 0 0 Z ↔ Run d 160 15 [a0] [.int 6, s0] M 0 0 Z := R_bipush (gd160 dX9_tucks_13) (by decide)
theorem z160_15 : Run d 160 15 [a0] [s1, .ref b] M 0 0 Z ↔ gObj M b 9 ∧ Call d 149 [.ref b, s1] M (fun r M1 => Run d 160 18 [a0] (r.toList ++ []) M1 0 0 Z) := R_callV (gd160 dX9_tucks_15) rfl rfl rfl rfl rfl rfl gc_9_275 rfl rfl (Nat.le_of_ble_eq_true rfl) (Nat.le_of_ble_eq_true rfl) rfl rfl (Nat.le_of_ble_eq_true rfl) (Nat.le_of_ble_eq_true rfl)
theorem z160_18 : Run d 160 18 [a0] [] M 0 0 Z ↔ Run d 160 64 [a0] [] M 0 0 Z := R_goto (gd160 dX9_tucks_18) (show gTgt 18 46 = some 64 by decide)
theorem z160_21 : Run d 160 21 [some (.ref o)] [] M 0 0 Z ↔ Run d 160 22 [some (.ref o)] [.ref o] M 0 0 Z := R_local (gd160 dX9_tucks_21) rfl rfl rfl
theorem z160_22 : Run d 160 22 [a0] [.ref o] M 0 0 Z ↔ gObj M o 9 ∧ Run d 160 25 [a0] [va_rf (M.2.1 o 24)] M 0 0 Z := R_getR (gd160 dX9_tucks_22) rfl gf_9_59 rfl
theorem z160_25 : Run d 160 25 [a0] [s0] M 0 0 Z ↔ Run d 160 28 [a0] [.int 2001, s0] M 0 0 Z := R_sipush (gd160 dX9_tucks_25) (by decide)
theorem z160_28 : Run d 160 28 [some (.ref o)] [s1, s0] M 0 0 Z ↔ Run d 160 29 [some (.ref o)] [.ref o, s1, s0] M 0 0 Z := R_local (gd160 dX9_tucks_28) rfl rfl rfl
theorem z160_29 : Run d 160 29 [a0] [.ref o, s1, s0] M 0 0 Z ↔ gObj M o 9 ∧ Run d 160 32 [a0] [.int (M.1 o 36), s1, s0] M 0 0 Z := R_getI (gd160 dX9_tucks_29) rfl gf_9_233 rfl
theorem z160_32 : Run d 160 32 [a0] [.int y, .int x, s0] M 0 0 Z ↔ Run d 160 33 [a0] [.int (x * y), s0] M 0 0 Z := R_arith (gd160 dX9_tucks_32) rfl
theorem z160_33 : Run d 160 33 [some (.ref o)] [s1, s0] M 0 0 Z ↔ Run d 160 34 [some (.ref o)] [.ref o, s1, s0] M 0 0 Z := R_local (gd160 dX9_tucks_33) rfl rfl rfl
theorem z160_34 : Run d 160 34 [a0] [.ref o, s1, s0] M 0 0 Z ↔ gObj M o 9 ∧ Run d 160 37 [a0] [va_rf (M.2.1 o 17), s1, s0] M 0 0 Z := R_getR (gd160 dX9_tucks_34) rfl gf_9_38 rfl
theorem z160_37 : Run d 160 37 [a0] [s2, s1, s0] M 0 0 Z ↔ Run d 160 40 [a0] [.int 400, s2, s1, s0] M 0 0 Z := R_sipush (gd160 dX9_tucks_37) (by decide)
theorem z160_40 : Run d 160 40 [some (.ref o)] [s3, s2, s1, s0] M 0 0 Z ↔ Run d 160 41 [some (.ref o)] [.ref o, s3, s2, s1, s0] M 0 0 Z := R_local (gd160 dX9_tucks_40) rfl rfl rfl
theorem z160_41 : Run d 160 41 [a0] [.ref o, s3, s2, s1, s0] M 0 0 Z ↔ gObj M o 9 ∧ Run d 160 44 [a0] [.int (M.1 o 36), s3, s2, s1, s0] M 0 0 Z := R_getI (gd160 dX9_tucks_41) rfl gf_9_233 rfl
theorem z160_44 : Run d 160 44 [a0] [.int y, .int x, s2, s1, s0] M 0 0 Z ↔ Run d 160 45 [a0] [.int (x * y), s2, s1, s0] M 0 0 Z := R_arith (gd160 dX9_tucks_44) rfl
theorem z160_45 : Run d 160 45 [some (.ref o)] [s3, s2, s1, s0] M 0 0 Z ↔ Run d 160 46 [some (.ref o)] [.ref o, s3, s2, s1, s0] M 0 0 Z := R_local (gd160 dX9_tucks_45) rfl rfl rfl
theorem z160_46 : Run d 160 46 [a0] [.ref o, s3, s2, s1, s0] M 0 0 Z ↔ gObj M o 9 ∧ Run d 160 49 [a0] [va_rf (M.2.1 o 27), s3, s2, s1, s0] M 0 0 Z := R_getR (gd160 dX9_tucks_46) rfl gf_9_68 rfl
theorem z160_49 : Run d 160 49 [some (.ref o)] [s4, s3, s2, s1, s0] M 0 0 Z ↔ Run d 160 50 [some (.ref o)] [.ref o, s4, s3, s2, s1, s0] M 0 0 Z := R_local (gd160 dX9_tucks_49) rfl rfl rfl
theorem z160_50 : Run d 160 50 [a0] [.ref o, s4, s3, s2, s1, s0] M 0 0 Z ↔ gObj M o 9 ∧ Run d 160 53 [a0] [.int (M.1 o 36), s4, s3, s2, s1, s0] M 0 0 Z := R_getI (gd160 dX9_tucks_50) rfl gf_9_233 rfl
theorem z160_53 : Run d 160 53 [a0] [.int x, .ref o, s3, s2, s1, s0] M 0 0 Z ↔ gAr M o 0 ∧ gIn x (gLen M o) = true ∧ Run d 160 54 [a0] [.int (M.1 o x.toNatClampNeg), s3, s2, s1, s0] M 0 0 Z := R_iald (gd160 dX9_tucks_53)
theorem z160_54 : Run d 160 54 [a0] [.int y, .int x, s2, s1, s0] M 0 0 Z ↔ Run d 160 55 [a0] [.int (x + y), s2, s1, s0] M 0 0 Z := R_arith (gd160 dX9_tucks_54) rfl
theorem z160_55 : Run d 160 55 [a0] [s3, s2, s1, s0] M 0 0 Z ↔ Run d 160 56 [a0] [.int 1, s3, s2, s1, s0] M 0 0 Z := R_iconst (gd160 dX9_tucks_55) (by decide)
theorem z160_56 : Run d 160 56 [a0] [.int y, .int x, s2, s1, s0] M 0 0 Z ↔ Run d 160 57 [a0] [.int (x - y), s2, s1, s0] M 0 0 Z := R_arith (gd160 dX9_tucks_56) rfl
theorem z160_57 : Run d 160 57 [a0] [.int x, .ref o, s1, s0] M 0 0 Z ↔ gAr M o 0 ∧ gIn x (gLen M o) = true ∧ Run d 160 58 [a0] [.int (M.1 o x.toNatClampNeg), s1, s0] M 0 0 Z := R_iald (gd160 dX9_tucks_57)
theorem z160_58 : Run d 160 58 [a0] [.int y, .int x, s0] M 0 0 Z ↔ Run d 160 59 [a0] [.int (x + y), s0] M 0 0 Z := R_arith (gd160 dX9_tucks_58) rfl
theorem z160_59 : Run d 160 59 [a0] [.int y, .ref o] M 0 0 Z ↔ Run d 160 60 [a0] [.int y, .ref o, .int y, .ref o] M 0 0 Z := R_arith (gd160 dX9_tucks_59) rfl
theorem z160_60 : Run d 160 60 [a0] [.int x, .ref o, s1, s0] M 0 0 Z ↔ gAr M o 0 ∧ gIn x (gLen M o) = true ∧ Run d 160 61 [a0] [.int (M.1 o x.toNatClampNeg), s1, s0] M 0 0 Z := R_iald (gd160 dX9_tucks_60)
theorem z160_61 : Run d 160 61 [a0] [s2, s1, s0] M 0 0 Z ↔ Run d 160 62 [a0] [.int 1, s2, s1, s0] M 0 0 Z := R_iconst (gd160 dX9_tucks_61) (by decide)
theorem z160_62 : Run d 160 62 [a0] [.int y, .int x, s1, s0] M 0 0 Z ↔ Run d 160 63 [a0] [.int (x + y), s1, s0] M 0 0 Z := R_arith (gd160 dX9_tucks_62) rfl
theorem z160_63 : Run d 160 63 [a0] [.int y, .int x, .ref o] M 0 0 Z ↔ gAr M o 0 ∧ gIn x (gLen M o) = true ∧ Run d 160 64 [a0] [] (gsI M o x.toNatClampNeg y) 0 0 Z := R_iast (gd160 dX9_tucks_63)
theorem z160_64 : Run d 160 64 [a0] [] M 0 0 Z ↔ Z none M := R_vret (gd160 dX9_tucks_64) rfl
theorem e160 : Call (d + 1) 160 [s0] M Z ↔ Run d 160 0 [some s0] [] M 0 0 Z := Call_iff (Nat.lt_of_lt_of_le (Nat.lt_succ_self 160) (Nat.le_of_ble_eq_true rfl)) (Nat.le_of_ble_eq_true rfl)
/-! 161: X9_skips ()V -/
theorem gd161 {pc : Nat} {r : Except _ _} (h : decode cX9_skips pc = r) : decode (gby 161) pc = r := h
theorem z161_0 : Run d 161 0 [a0, a1] [] M 0 0 Z ↔ Run d 161 1 [a0, a1] [.int 1] M 0 0 Z := R_iconst (gd161 dX9_skips_0) (by decide)
theorem z161_1 : Run d 161 1 [a0, a1] [.int x] M 0 0 Z ↔ Run d 161 2 [a0, some (.int x)] [] M 0 0 Z := R_local (gd161 dX9_skips_1) rfl rfl rfl
theorem z161_2 : Run d 161 2 [a0, some (.int x)] [] M 0 0 Z ↔ Run d 161 3 [a0, some (.int x)] [.int x] M 0 0 Z := R_local (gd161 dX9_skips_2) rfl rfl rfl
theorem z161_3 : Run d 161 3 [a0, a1] [.int x] M 0 0 Z ↔ (x ≤ 0 → Run d 161 49 [a0, a1] [] M 0 0 Z) ∧ (¬ (x ≤ 0) → Run d 161 6 [a0, a1] [] M 0 0 Z) := R_if (gd161 dX9_skips_3) (show gTgt 3 46 = some 49 by decide) gIf_le
theorem z161_6 : Run d 161 6 [a0, some (.int x)] [] M 0 0 Z ↔ Run d 161 7 [a0, some (.int x)] [.int x] M 0 0 Z := R_local (gd161 dX9_skips_6) rfl rfl rfl
theorem z161_7 : Run d 161 7 [some (.ref o), a1] [s0] M 0 0 Z ↔ Run d 161 8 [some (.ref o), a1] [.ref o, s0] M 0 0 Z := R_local (gd161 dX9_skips_7) rfl rfl rfl
theorem z161_8 : Run d 161 8 [a0, a1] [.ref b, s0] M 0 0 Z ↔ gObj M b 9 ∧ Call d 130 [.ref b] M (fun r M1 => Run d 161 11 [a0, a1] (r.toList ++ [s0]) M1 0 0 Z) := R_callV (gd161 dX9_skips_8) rfl rfl rfl rfl rfl rfl gc_9_196 rfl rfl (Nat.le_of_ble_eq_true rfl) (Nat.le_of_ble_eq_true rfl) rfl rfl (Nat.le_of_ble_eq_true rfl) (Nat.le_of_ble_eq_true rfl)
theorem z161_11 : Run d 161 11 [a0, a1] [s1, s0] M 0 0 Z ↔ Run d 161 13 [a0, a1] [.int 91, s1, s0] M 0 0 Z := R_bipush (gd161 dX9_skips_11) (by decide)
theorem z161_13 : Run d 161 13 [a0, a1] [.int y, .int x, s0] M 0 0 Z ↔ (¬ x = y → Run d 161 20 [a0, a1] [s0] M 0 0 Z) ∧ (¬ (¬ x = y) → Run d 161 16 [a0, a1] [s0] M 0 0 Z) := R_icmp (gd161 dX9_skips_13) (show gTgt 13 7 = some 20 by decide) gIf_ne
theorem z161_16 : Run d 161 16 [a0, a1] [s0] M 0 0 Z ↔ Run d 161 17 [a0, a1] [.int 1, s0] M 0 0 Z := R_iconst (gd161 dX9_skips_16) (by decide)
theorem z161_17 : Run d 161 17 [a0, a1] [s1, s0] M 0 0 Z ↔ Run d 161 34 [a0, a1] [s1, s0] M 0 0 Z := R_goto (gd161 dX9_skips_17) (show gTgt 17 17 = some 34 by decide)
theorem z161_20 : Run d 161 20 [some (.ref o), a1] [s0] M 0 0 Z ↔ Run d 161 21 [some (.ref o), a1] [.ref o, s0] M 0 0 Z := R_local (gd161 dX9_skips_20) rfl rfl rfl
theorem z161_21 : Run d 161 21 [a0, a1] [.ref b, s0] M 0 0 Z ↔ gObj M b 9 ∧ Call d 130 [.ref b] M (fun r M1 => Run d 161 24 [a0, a1] (r.toList ++ [s0]) M1 0 0 Z) := R_callV (gd161 dX9_skips_21) rfl rfl rfl rfl rfl rfl gc_9_196 rfl rfl (Nat.le_of_ble_eq_true rfl) (Nat.le_of_ble_eq_true rfl) rfl rfl (Nat.le_of_ble_eq_true rfl) (Nat.le_of_ble_eq_true rfl)
theorem z161_24 : Run d 161 24 [a0, a1] [s1, s0] M 0 0 Z ↔ Run d 161 26 [a0, a1] [.int 93, s1, s0] M 0 0 Z := R_bipush (gd161 dX9_skips_24) (by decide)
theorem z161_26 : Run d 161 26 [a0, a1] [.int y, .int x, s0] M 0 0 Z ↔ (¬ x = y → Run d 161 33 [a0, a1] [s0] M 0 0 Z) ∧ (¬ (¬ x = y) → Run d 161 29 [a0, a1] [s0] M 0 0 Z) := R_icmp (gd161 dX9_skips_26) (show gTgt 26 7 = some 33 by decide) gIf_ne
theorem z161_29 : Run d 161 29 [a0, a1] [s0] M 0 0 Z ↔ Run d 161 30 [a0, a1] [.int (-1), s0] M 0 0 Z := R_iconst (gd161 dX9_skips_29) (by decide)
theorem z161_30 : Run d 161 30 [a0, a1] [s1, s0] M 0 0 Z ↔ Run d 161 34 [a0, a1] [s1, s0] M 0 0 Z := R_goto (gd161 dX9_skips_30) (show gTgt 30 4 = some 34 by decide)
theorem z161_33 : Run d 161 33 [a0, a1] [s0] M 0 0 Z ↔ Run d 161 34 [a0, a1] [.int 0, s0] M 0 0 Z := R_iconst (gd161 dX9_skips_33) (by decide)
theorem z161_34 : Run d 161 34 [a0, a1] [.int y, .int x] M 0 0 Z ↔ Run d 161 35 [a0, a1] [.int (x + y)] M 0 0 Z := R_arith (gd161 dX9_skips_34) rfl
theorem z161_35 : Run d 161 35 [a0, a1] [.int x] M 0 0 Z ↔ Run d 161 36 [a0, some (.int x)] [] M 0 0 Z := R_local (gd161 dX9_skips_35) rfl rfl rfl
theorem z161_36 : Run d 161 36 [some (.ref o), a1] [] M 0 0 Z ↔ Run d 161 37 [some (.ref o), a1] [.ref o] M 0 0 Z := R_local (gd161 dX9_skips_36) rfl rfl rfl
theorem z161_37 : Run d 161 37 [a0, a1] [.ref o] M 0 0 Z ↔ Run d 161 38 [a0, a1] [.ref o, .ref o] M 0 0 Z := R_arith (gd161 dX9_skips_37) rfl
theorem z161_38 : Run d 161 38 [a0, a1] [.ref o, s0] M 0 0 Z ↔ gObj M o 9 ∧ Run d 161 41 [a0, a1] [.int (M.1 o 13), s0] M 0 0 Z := R_getI (gd161 dX9_skips_38) rfl gf_9_178 rfl
theorem z161_41 : Run d 161 41 [a0, a1] [s1, s0] M 0 0 Z ↔ Run d 161 42 [a0, a1] [.int 1, s1, s0] M 0 0 Z := R_iconst (gd161 dX9_skips_41) (by decide)
theorem z161_42 : Run d 161 42 [a0, a1] [.int y, .int x, s0] M 0 0 Z ↔ Run d 161 43 [a0, a1] [.int (x + y), s0] M 0 0 Z := R_arith (gd161 dX9_skips_42) rfl
theorem z161_43 : Run d 161 43 [a0, a1] [.int x, .ref o] M 0 0 Z ↔ gObj M o 9 ∧ Run d 161 46 [a0, a1] [] (gsI M o 13 x) 0 0 Z := R_putI (gd161 dX9_skips_43) rfl gf_9_178 (Or.inl rfl) rfl
theorem z161_46 : Run d 161 46 [a0, a1] [] M 0 0 Z ↔ Run d 161 2 [a0, a1] [] M 0 0 Z := R_goto (gd161 dX9_skips_46) (show gTgt 46 (-44) = some 2 by decide)
theorem z161_49 : Run d 161 49 [a0, a1] [] M 0 0 Z ↔ Z none M := R_vret (gd161 dX9_skips_49) rfl
theorem e161 : Call (d + 1) 161 [s0] M Z ↔ Run d 161 0 [some s0, none] [] M 0 0 Z := Call_iff (Nat.lt_of_lt_of_le (Nat.lt_succ_self 161) (Nat.le_of_ble_eq_true rfl)) (Nat.le_of_ble_eq_true rfl)
end
