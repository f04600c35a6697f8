/-! Rules of the methods, an instruction each, by program (wip/whole/rows.py). -/
theorem dX1_cross_0 : decode cX1_cross 0 = .ok (.aload_n 0, 1) := by decide +kernel
theorem dX1_cross_1 : decode cX1_cross 1 = .ok (.getfield 32, 3) := by decide +kernel
theorem dX1_cross_4 : decode cX1_cross 4 = .ok (.aload_n 0, 1) := by decide +kernel
theorem dX1_cross_5 : decode cX1_cross 5 = .ok (.getfield 26, 3) := by decide +kernel
theorem dX1_cross_8 : decode cX1_cross 8 = .ok (.iadd, 1) := by decide +kernel
theorem dX1_cross_9 : decode cX1_cross 9 = .ok (.bipush 8, 2) := by decide +kernel
theorem dX1_cross_11 : decode cX1_cross 11 = .ok (.if_icmp .eq 5, 3) := by decide +kernel
theorem dX1_cross_14 : decode cX1_cross 14 = .ok (.iconst 3, 1) := by decide +kernel
theorem dX1_cross_15 : decode cX1_cross 15 = .ok (.ireturn, 1) := by decide +kernel
theorem dX1_cross_16 : decode cX1_cross 16 = .ok (.iconst 2, 1) := by decide +kernel
theorem dX1_cross_17 : decode cX1_cross 17 = .ok (.aload_n 0, 1) := by decide +kernel
theorem dX1_cross_18 : decode cX1_cross 18 = .ok (.getfield 18, 3) := by decide +kernel
theorem dX1_cross_21 : decode cX1_cross 21 = .ok (.bipush 7, 2) := by decide +kernel
theorem dX1_cross_23 : decode cX1_cross 23 = .ok (.iaload, 1) := by decide +kernel
theorem dX1_cross_24 : decode cX1_cross 24 = .ok (.imul, 1) := by decide +kernel
theorem dX1_cross_25 : decode cX1_cross 25 = .ok (.istore_n 1, 1) := by decide +kernel
theorem dX1_cross_26 : decode cX1_cross 26 = .ok (.iload_n 1, 1) := by decide +kernel
theorem dX1_cross_27 : decode cX1_cross 27 = .ok (.aload_n 0, 1) := by decide +kernel
theorem dX1_cross_28 : decode cX1_cross 28 = .ok (.invokevirtual 91, 3) := by decide +kernel
theorem dX1_cross_31 : decode cX1_cross 31 = .ok (.if_icmp .le 5, 3) := by decide +kernel
theorem dX1_cross_34 : decode cX1_cross 34 = .ok (.iconst 1, 1) := by decide +kernel
theorem dX1_cross_35 : decode cX1_cross 35 = .ok (.ireturn, 1) := by decide +kernel
theorem dX1_cross_36 : decode cX1_cross 36 = .ok (.aload_n 0, 1) := by decide +kernel
theorem dX1_cross_37 : decode cX1_cross 37 = .ok (.aload_n 0, 1) := by decide +kernel
theorem dX1_cross_38 : decode cX1_cross 38 = .ok (.getfield 32, 3) := by decide +kernel
theorem dX1_cross_41 : decode cX1_cross 41 = .ok (.aload_n 0, 1) := by decide +kernel
theorem dX1_cross_42 : decode cX1_cross 42 = .ok (.getfield 35, 3) := by decide +kernel
theorem dX1_cross_45 : decode cX1_cross 45 = .ok (.iconst 4, 1) := by decide +kernel
theorem dX1_cross_46 : decode cX1_cross 46 = .ok (.iadd, 1) := by decide +kernel
theorem dX1_cross_47 : decode cX1_cross 47 = .ok (.bipush 7, 2) := by decide +kernel
theorem dX1_cross_49 : decode cX1_cross 49 = .ok (.iand, 1) := by decide +kernel
theorem dX1_cross_50 : decode cX1_cross 50 = .ok (.aload_n 0, 1) := by decide +kernel
theorem dX1_cross_51 : decode cX1_cross 51 = .ok (.getfield 29, 3) := by decide +kernel
theorem dX1_cross_54 : decode cX1_cross 54 = .ok (.iload_n 1, 1) := by decide +kernel
theorem dX1_cross_55 : decode cX1_cross 55 = .ok (.iadd, 1) := by decide +kernel
theorem dX1_cross_56 : decode cX1_cross 56 = .ok (.invokevirtual 70, 3) := by decide +kernel
theorem dX1_cross_59 : decode cX1_cross 59 = .ok (.aload_n 0, 1) := by decide +kernel
theorem dX1_cross_60 : decode cX1_cross 60 = .ok (.dup, 1) := by decide +kernel
theorem dX1_cross_61 : decode cX1_cross 61 = .ok (.getfield 57, 3) := by decide +kernel
theorem dX1_cross_64 : decode cX1_cross 64 = .ok (.iload_n 1, 1) := by decide +kernel
theorem dX1_cross_65 : decode cX1_cross 65 = .ok (.iadd, 1) := by decide +kernel
theorem dX1_cross_66 : decode cX1_cross 66 = .ok (.putfield 57, 3) := by decide +kernel
theorem dX1_cross_69 : decode cX1_cross 69 = .ok (.aload_n 0, 1) := by decide +kernel
theorem dX1_cross_70 : decode cX1_cross 70 = .ok (.dup, 1) := by decide +kernel
theorem dX1_cross_71 : decode cX1_cross 71 = .ok (.getfield 44, 3) := by decide +kernel
theorem dX1_cross_74 : decode cX1_cross 74 = .ok (.iconst 1, 1) := by decide +kernel
theorem dX1_cross_75 : decode cX1_cross 75 = .ok (.iadd, 1) := by decide +kernel
theorem dX1_cross_76 : decode cX1_cross 76 = .ok (.putfield 44, 3) := by decide +kernel
theorem dX1_cross_79 : decode cX1_cross 79 = .ok (.iconst 0, 1) := by decide +kernel
theorem dX1_cross_80 : decode cX1_cross 80 = .ok (.ireturn, 1) := by decide +kernel
theorem dX1_hang_0 : decode cX1_hang 0 = .ok (.iload_n 1, 1) := by decide +kernel
theorem dX1_hang_1 : decode cX1_hang 1 = .ok (.invokestatic 83, 3) := by decide +kernel
theorem dX1_hang_4 : decode cX1_hang 4 = .ok (.ifCond .ne 5, 3) := by decide +kernel
theorem dX1_hang_7 : decode cX1_hang 7 = .ok (.iconst 4, 1) := by decide +kernel
theorem dX1_hang_8 : decode cX1_hang 8 = .ok (.ireturn, 1) := by decide +kernel
theorem dX1_hang_9 : decode cX1_hang 9 = .ok (.iload_n 1, 1) := by decide +kernel
theorem dX1_hang_10 : decode cX1_hang 10 = .ok (.aload_n 0, 1) := by decide +kernel
theorem dX1_hang_11 : decode cX1_hang 11 = .ok (.invokevirtual 91, 3) := by decide +kernel
theorem dX1_hang_14 : decode cX1_hang 14 = .ok (.if_icmp .le 5, 3) := by decide +kernel
theorem dX1_hang_17 : decode cX1_hang 17 = .ok (.iconst 1, 1) := by decide +kernel
theorem dX1_hang_18 : decode cX1_hang 18 = .ok (.ireturn, 1) := by decide +kernel
theorem dX1_hang_19 : decode cX1_hang 19 = .ok (.iload_n 1, 1) := by decide +kernel
theorem dX1_hang_20 : decode cX1_hang 20 = .ok (.iconst 5, 1) := by decide +kernel
theorem dX1_hang_21 : decode cX1_hang 21 = .ok (.iadd, 1) := by decide +kernel
theorem dX1_hang_22 : decode cX1_hang 22 = .ok (.iconst 1, 1) := by decide +kernel
theorem dX1_hang_23 : decode cX1_hang 23 = .ok (.isub, 1) := by decide +kernel
theorem dX1_hang_24 : decode cX1_hang 24 = .ok (.iconst 5, 1) := by decide +kernel
theorem dX1_hang_25 : decode cX1_hang 25 = .ok (.idiv, 1) := by decide +kernel
theorem dX1_hang_26 : decode cX1_hang 26 = .ok (.istore_n 2, 1) := by decide +kernel
theorem dX1_hang_27 : decode cX1_hang 27 = .ok (.iload_n 2, 1) := by decide +kernel
theorem dX1_hang_28 : decode cX1_hang 28 = .ok (.aload_n 0, 1) := by decide +kernel
theorem dX1_hang_29 : decode cX1_hang 29 = .ok (.getfield 32, 3) := by decide +kernel
theorem dX1_hang_32 : decode cX1_hang 32 = .ok (.invokestatic 102, 3) := by decide +kernel
theorem dX1_hang_35 : decode cX1_hang 35 = .ok (.istore_n 3, 1) := by decide +kernel
theorem dX1_hang_36 : decode cX1_hang 36 = .ok (.aload_n 0, 1) := by decide +kernel
theorem dX1_hang_37 : decode cX1_hang 37 = .ok (.getfield 12, 3) := by decide +kernel
theorem dX1_hang_40 : decode cX1_hang 40 = .ok (.getfield 74, 3) := by decide +kernel
theorem dX1_hang_43 : decode cX1_hang 43 = .ok (.iload_n 3, 1) := by decide +kernel
theorem dX1_hang_44 : decode cX1_hang 44 = .ok (.iadd, 1) := by decide +kernel
theorem dX1_hang_45 : decode cX1_hang 45 = .ok (.sipush 400, 3) := by decide +kernel
theorem dX1_hang_48 : decode cX1_hang 48 = .ok (.if_icmp .le 6, 3) := by decide +kernel
theorem dX1_hang_51 : decode cX1_hang 51 = .ok (.bipush 6, 2) := by decide +kernel
theorem dX1_hang_53 : decode cX1_hang 53 = .ok (.ireturn, 1) := by decide +kernel
theorem dX1_hang_54 : decode cX1_hang 54 = .ok (.iconst 0, 1) := by decide +kernel
theorem dX1_hang_55 : decode cX1_hang 55 = .ok (.istore 4, 2) := by decide +kernel
theorem dX1_hang_57 : decode cX1_hang 57 = .ok (.iload 4, 2) := by decide +kernel
theorem dX1_hang_59 : decode cX1_hang 59 = .ok (.iload_n 3, 1) := by decide +kernel
theorem dX1_hang_60 : decode cX1_hang 60 = .ok (.if_icmp .ge 63, 3) := by decide +kernel
theorem dX1_hang_63 : decode cX1_hang 63 = .ok (.iload 4, 2) := by decide +kernel
theorem dX1_hang_65 : decode cX1_hang 65 = .ok (.iconst 5, 1) := by decide +kernel
theorem dX1_hang_66 : decode cX1_hang 66 = .ok (.imul, 1) := by decide +kernel
theorem dX1_hang_67 : decode cX1_hang 67 = .ok (.istore 5, 2) := by decide +kernel
theorem dX1_hang_69 : decode cX1_hang 69 = .ok (.iconst 5, 1) := by decide +kernel
theorem dX1_hang_70 : decode cX1_hang 70 = .ok (.iload_n 1, 1) := by decide +kernel
theorem dX1_hang_71 : decode cX1_hang 71 = .ok (.iload 5, 2) := by decide +kernel
theorem dX1_hang_73 : decode cX1_hang 73 = .ok (.isub, 1) := by decide +kernel
theorem dX1_hang_74 : decode cX1_hang 74 = .ok (.invokestatic 102, 3) := by decide +kernel
theorem dX1_hang_77 : decode cX1_hang 77 = .ok (.istore 6, 2) := by decide +kernel
theorem dX1_hang_79 : decode cX1_hang 79 = .ok (.aload_n 0, 1) := by decide +kernel
theorem dX1_hang_80 : decode cX1_hang 80 = .ok (.getfield 12, 3) := by decide +kernel
theorem dX1_hang_83 : decode cX1_hang 83 = .ok (.aload_n 0, 1) := by decide +kernel
theorem dX1_hang_84 : decode cX1_hang 84 = .ok (.getfield 44, 3) := by decide +kernel
theorem dX1_hang_87 : decode cX1_hang 87 = .ok (.aload_n 0, 1) := by decide +kernel
theorem dX1_hang_88 : decode cX1_hang 88 = .ok (.getfield 32, 3) := by decide +kernel
theorem dX1_hang_91 : decode cX1_hang 91 = .ok (.iconst 1, 1) := by decide +kernel
theorem dX1_hang_92 : decode cX1_hang 92 = .ok (.isub, 1) := by decide +kernel
theorem dX1_hang_93 : decode cX1_hang 93 = .ok (.iload 4, 2) := by decide +kernel
theorem dX1_hang_95 : decode cX1_hang 95 = .ok (.isub, 1) := by decide +kernel
theorem dX1_hang_96 : decode cX1_hang 96 = .ok (.aload_n 0, 1) := by decide +kernel
theorem dX1_hang_97 : decode cX1_hang 97 = .ok (.getfield 35, 3) := by decide +kernel
theorem dX1_hang_100 : decode cX1_hang 100 = .ok (.aload_n 0, 1) := by decide +kernel
theorem dX1_hang_101 : decode cX1_hang 101 = .ok (.getfield 29, 3) := by decide +kernel
theorem dX1_hang_104 : decode cX1_hang 104 = .ok (.iload 5, 2) := by decide +kernel
theorem dX1_hang_106 : decode cX1_hang 106 = .ok (.iadd, 1) := by decide +kernel
theorem dX1_hang_107 : decode cX1_hang 107 = .ok (.iload 6, 2) := by decide +kernel
theorem dX1_hang_109 : decode cX1_hang 109 = .ok (.iconst 1, 1) := by decide +kernel
theorem dX1_hang_110 : decode cX1_hang 110 = .ok (.aload_n 0, 1) := by decide +kernel
theorem dX1_hang_111 : decode cX1_hang 111 = .ok (.getfield 41, 3) := by decide +kernel
theorem dX1_hang_114 : decode cX1_hang 114 = .ok (.invokevirtual 94, 3) := by decide +kernel
theorem dX1_hang_117 : decode cX1_hang 117 = .ok (.iinc 4 1, 3) := by decide +kernel
theorem dX1_hang_120 : decode cX1_hang 120 = .ok (.goto (-63), 3) := by decide +kernel
theorem dX1_hang_123 : decode cX1_hang 123 = .ok (.aload_n 0, 1) := by decide +kernel
theorem dX1_hang_124 : decode cX1_hang 124 = .ok (.dup, 1) := by decide +kernel
theorem dX1_hang_125 : decode cX1_hang 125 = .ok (.getfield 29, 3) := by decide +kernel
theorem dX1_hang_128 : decode cX1_hang 128 = .ok (.iload_n 1, 1) := by decide +kernel
theorem dX1_hang_129 : decode cX1_hang 129 = .ok (.iadd, 1) := by decide +kernel
theorem dX1_hang_130 : decode cX1_hang 130 = .ok (.putfield 29, 3) := by decide +kernel
theorem dX1_hang_133 : decode cX1_hang 133 = .ok (.aload_n 0, 1) := by decide +kernel
theorem dX1_hang_134 : decode cX1_hang 134 = .ok (.dup, 1) := by decide +kernel
theorem dX1_hang_135 : decode cX1_hang 135 = .ok (.getfield 57, 3) := by decide +kernel
theorem dX1_hang_138 : decode cX1_hang 138 = .ok (.iconst 0, 1) := by decide +kernel
theorem dX1_hang_139 : decode cX1_hang 139 = .ok (.iload_n 1, 1) := by decide +kernel
theorem dX1_hang_140 : decode cX1_hang 140 = .ok (.iconst 5, 1) := by decide +kernel
theorem dX1_hang_141 : decode cX1_hang 141 = .ok (.iload_n 3, 1) := by decide +kernel
theorem dX1_hang_142 : decode cX1_hang 142 = .ok (.imul, 1) := by decide +kernel
theorem dX1_hang_143 : decode cX1_hang 143 = .ok (.isub, 1) := by decide +kernel
theorem dX1_hang_144 : decode cX1_hang 144 = .ok (.invokestatic 77, 3) := by decide +kernel
theorem dX1_hang_147 : decode cX1_hang 147 = .ok (.iadd, 1) := by decide +kernel
theorem dX1_hang_148 : decode cX1_hang 148 = .ok (.putfield 57, 3) := by decide +kernel
theorem dX1_hang_151 : decode cX1_hang 151 = .ok (.aload_n 0, 1) := by decide +kernel
theorem dX1_hang_152 : decode cX1_hang 152 = .ok (.iconst 1, 1) := by decide +kernel
theorem dX1_hang_153 : decode cX1_hang 153 = .ok (.putfield 50, 3) := by decide +kernel
theorem dX1_hang_156 : decode cX1_hang 156 = .ok (.aload_n 0, 1) := by decide +kernel
theorem dX1_hang_157 : decode cX1_hang 157 = .ok (.iconst (-1), 1) := by decide +kernel
theorem dX1_hang_158 : decode cX1_hang 158 = .ok (.aload_n 0, 1) := by decide +kernel
theorem dX1_hang_159 : decode cX1_hang 159 = .ok (.getfield 32, 3) := by decide +kernel
theorem dX1_hang_162 : decode cX1_hang 162 = .ok (.iload_n 2, 1) := by decide +kernel
theorem dX1_hang_163 : decode cX1_hang 163 = .ok (.isub, 1) := by decide +kernel
theorem dX1_hang_164 : decode cX1_hang 164 = .ok (.invokestatic 77, 3) := by decide +kernel
theorem dX1_hang_167 : decode cX1_hang 167 = .ok (.putfield 54, 3) := by decide +kernel
theorem dX1_hang_170 : decode cX1_hang 170 = .ok (.aload_n 0, 1) := by decide +kernel
theorem dX1_hang_171 : decode cX1_hang 171 = .ok (.dup, 1) := by decide +kernel
theorem dX1_hang_172 : decode cX1_hang 172 = .ok (.getfield 44, 3) := by decide +kernel
theorem dX1_hang_175 : decode cX1_hang 175 = .ok (.iconst 1, 1) := by decide +kernel
theorem dX1_hang_176 : decode cX1_hang 176 = .ok (.iadd, 1) := by decide +kernel
theorem dX1_hang_177 : decode cX1_hang 177 = .ok (.putfield 44, 3) := by decide +kernel
theorem dX1_hang_180 : decode cX1_hang 180 = .ok (.iconst 0, 1) := by decide +kernel
theorem dX1_hang_181 : decode cX1_hang 181 = .ok (.ireturn, 1) := by decide +kernel
theorem dX1_told_0 : decode cX1_told 0 = .ok (.iload_n 1, 1) := by decide +kernel
theorem dX1_told_1 : decode cX1_told 1 = .ok (.tableswitch 126 0 11 #[63, 68, 73, 81, 86, 91, 96, 101, 106, 111, 116, 121], 63) := by decide +kernel
theorem dX1_told_64 : decode cX1_told 64 = .ok (.aload_n 0, 1) := by decide +kernel
theorem dX1_told_65 : decode cX1_told 65 = .ok (.invokevirtual 91, 3) := by decide +kernel
theorem dX1_told_68 : decode cX1_told 68 = .ok (.ireturn, 1) := by decide +kernel
theorem dX1_told_69 : decode cX1_told 69 = .ok (.aload_n 0, 1) := by decide +kernel
theorem dX1_told_70 : decode cX1_told 70 = .ok (.getfield 44, 3) := by decide +kernel
theorem dX1_told_73 : decode cX1_told 73 = .ok (.ireturn, 1) := by decide +kernel
theorem dX1_told_74 : decode cX1_told 74 = .ok (.aload_n 0, 1) := by decide +kernel
theorem dX1_told_75 : decode cX1_told 75 = .ok (.getfield 12, 3) := by decide +kernel
theorem dX1_told_78 : decode cX1_told 78 = .ok (.getfield 74, 3) := by decide +kernel
theorem dX1_told_81 : decode cX1_told 81 = .ok (.ireturn, 1) := by decide +kernel
theorem dX1_told_82 : decode cX1_told 82 = .ok (.aload_n 0, 1) := by decide +kernel
theorem dX1_told_83 : decode cX1_told 83 = .ok (.getfield 47, 3) := by decide +kernel
theorem dX1_told_86 : decode cX1_told 86 = .ok (.ireturn, 1) := by decide +kernel
theorem dX1_told_87 : decode cX1_told 87 = .ok (.aload_n 0, 1) := by decide +kernel
theorem dX1_told_88 : decode cX1_told 88 = .ok (.getfield 32, 3) := by decide +kernel
theorem dX1_told_91 : decode cX1_told 91 = .ok (.ireturn, 1) := by decide +kernel
theorem dX1_told_92 : decode cX1_told 92 = .ok (.aload_n 0, 1) := by decide +kernel
theorem dX1_told_93 : decode cX1_told 93 = .ok (.getfield 35, 3) := by decide +kernel
theorem dX1_told_96 : decode cX1_told 96 = .ok (.ireturn, 1) := by decide +kernel
theorem dX1_told_97 : decode cX1_told 97 = .ok (.aload_n 0, 1) := by decide +kernel
theorem dX1_told_98 : decode cX1_told 98 = .ok (.getfield 38, 3) := by decide +kernel
theorem dX1_told_101 : decode cX1_told 101 = .ok (.ireturn, 1) := by decide +kernel
theorem dX1_told_102 : decode cX1_told 102 = .ok (.aload_n 0, 1) := by decide +kernel
theorem dX1_told_103 : decode cX1_told 103 = .ok (.getfield 41, 3) := by decide +kernel
theorem dX1_told_106 : decode cX1_told 106 = .ok (.ireturn, 1) := by decide +kernel
theorem dX1_told_107 : decode cX1_told 107 = .ok (.aload_n 0, 1) := by decide +kernel
theorem dX1_told_108 : decode cX1_told 108 = .ok (.getfield 54, 3) := by decide +kernel
theorem dX1_told_111 : decode cX1_told 111 = .ok (.ireturn, 1) := by decide +kernel
theorem dX1_told_112 : decode cX1_told 112 = .ok (.aload_n 0, 1) := by decide +kernel
theorem dX1_told_113 : decode cX1_told 113 = .ok (.getfield 57, 3) := by decide +kernel
theorem dX1_told_116 : decode cX1_told 116 = .ok (.ireturn, 1) := by decide +kernel
theorem dX1_told_117 : decode cX1_told 117 = .ok (.aload_n 0, 1) := by decide +kernel
theorem dX1_told_118 : decode cX1_told 118 = .ok (.getfield 60, 3) := by decide +kernel
theorem dX1_told_121 : decode cX1_told 121 = .ok (.ireturn, 1) := by decide +kernel
theorem dX1_told_122 : decode cX1_told 122 = .ok (.aload_n 0, 1) := by decide +kernel
theorem dX1_told_123 : decode cX1_told 123 = .ok (.getfield 63, 3) := by decide +kernel
theorem dX1_told_126 : decode cX1_told 126 = .ok (.ireturn, 1) := by decide +kernel
theorem dX1_told_127 : decode cX1_told 127 = .ok (.iconst (-1), 1) := by decide +kernel
theorem dX1_told_128 : decode cX1_told 128 = .ok (.ireturn, 1) := by decide +kernel
theorem dX2_init_0 : decode cX2_init 0 = .ok (.aload_n 0, 1) := by decide +kernel
theorem dX2_init_1 : decode cX2_init 1 = .ok (.invokespecial 3, 3) := by decide +kernel
theorem dX2_init_4 : decode cX2_init 4 = .ok (.aload_n 0, 1) := by decide +kernel
theorem dX2_init_5 : decode cX2_init 5 = .ok (.bipush 32, 2) := by decide +kernel
theorem dX2_init_7 : decode cX2_init 7 = .ok (.newarray .int, 2) := by decide +kernel
theorem dX2_init_9 : decode cX2_init 9 = .ok (.putfield 9, 3) := by decide +kernel
theorem dX2_init_12 : decode cX2_init 12 = .ok (.aload_n 0, 1) := by decide +kernel
theorem dX2_init_13 : decode cX2_init 13 = .ok (.iconst 0, 1) := by decide +kernel
theorem dX2_init_14 : decode cX2_init 14 = .ok (.putfield 15, 3) := by decide +kernel
theorem dX2_init_17 : decode cX2_init 17 = .ok (.aload_n 0, 1) := by decide +kernel
theorem dX2_init_18 : decode cX2_init 18 = .ok (.iconst 3, 1) := by decide +kernel
theorem dX2_init_19 : decode cX2_init 19 = .ok (.newarray .int, 2) := by decide +kernel
theorem dX2_init_21 : decode cX2_init 21 = .ok (.putfield 21, 3) := by decide +kernel
theorem dX2_init_24 : decode cX2_init 24 = .ok (.aload_n 0, 1) := by decide +kernel
theorem dX2_init_25 : decode cX2_init 25 = .ok (.iconst 3, 1) := by decide +kernel
theorem dX2_init_26 : decode cX2_init 26 = .ok (.newarray .int, 2) := by decide +kernel
theorem dX2_init_28 : decode cX2_init 28 = .ok (.putfield 24, 3) := by decide +kernel
theorem dX2_init_31 : decode cX2_init 31 = .ok (.aload_n 0, 1) := by decide +kernel
theorem dX2_init_32 : decode cX2_init 32 = .ok (.iconst 0, 1) := by decide +kernel
theorem dX2_init_33 : decode cX2_init 33 = .ok (.putfield 27, 3) := by decide +kernel
theorem dX2_init_36 : decode cX2_init 36 = .ok (.aload_n 0, 1) := by decide +kernel
theorem dX2_init_37 : decode cX2_init 37 = .ok (.iconst 3, 1) := by decide +kernel
theorem dX2_init_38 : decode cX2_init 38 = .ok (.newarray .int, 2) := by decide +kernel
theorem dX2_init_40 : decode cX2_init 40 = .ok (.putfield 30, 3) := by decide +kernel
theorem dX2_init_43 : decode cX2_init 43 = .ok (.aload_n 0, 1) := by decide +kernel
theorem dX2_init_44 : decode cX2_init 44 = .ok (.iconst 0, 1) := by decide +kernel
theorem dX2_init_45 : decode cX2_init 45 = .ok (.newarray .int, 2) := by decide +kernel
theorem dX2_init_47 : decode cX2_init 47 = .ok (.putfield 33, 3) := by decide +kernel
theorem dX2_init_50 : decode cX2_init 50 = .ok (.aload_n 0, 1) := by decide +kernel
theorem dX2_init_51 : decode cX2_init 51 = .ok (.iconst 0, 1) := by decide +kernel
theorem dX2_init_52 : decode cX2_init 52 = .ok (.putfield 36, 3) := by decide +kernel
theorem dX2_init_55 : decode cX2_init 55 = .ok (.aload_n 0, 1) := by decide +kernel
theorem dX2_init_56 : decode cX2_init 56 = .ok (.iconst (-1), 1) := by decide +kernel
theorem dX2_init_57 : decode cX2_init 57 = .ok (.putfield 39, 3) := by decide +kernel
theorem dX2_init_60 : decode cX2_init 60 = .ok (.aload_n 0, 1) := by decide +kernel
theorem dX2_init_61 : decode cX2_init 61 = .ok (.iconst 0, 1) := by decide +kernel
theorem dX2_init_62 : decode cX2_init 62 = .ok (.putfield 42, 3) := by decide +kernel
theorem dX2_init_65 : decode cX2_init 65 = .ok (.return_, 1) := by decide +kernel
theorem dX2_work_0 : decode cX2_work 0 = .ok (.aload_n 0, 1) := by decide +kernel
theorem dX2_work_1 : decode cX2_work 1 = .ok (.aload_n 1, 1) := by decide +kernel
theorem dX2_work_2 : decode cX2_work 2 = .ok (.getfield 46, 3) := by decide +kernel
theorem dX2_work_5 : decode cX2_work 5 = .ok (.putfield 33, 3) := by decide +kernel
theorem dX2_work_8 : decode cX2_work 8 = .ok (.aload_n 0, 1) := by decide +kernel
theorem dX2_work_9 : decode cX2_work 9 = .ok (.iconst 0, 1) := by decide +kernel
theorem dX2_work_10 : decode cX2_work 10 = .ok (.putfield 15, 3) := by decide +kernel
theorem dX2_work_13 : decode cX2_work 13 = .ok (.aload_n 0, 1) := by decide +kernel
theorem dX2_work_14 : decode cX2_work 14 = .ok (.iconst 0, 1) := by decide +kernel
theorem dX2_work_15 : decode cX2_work 15 = .ok (.putfield 27, 3) := by decide +kernel
theorem dX2_work_18 : decode cX2_work 18 = .ok (.aload_n 0, 1) := by decide +kernel
theorem dX2_work_19 : decode cX2_work 19 = .ok (.getfield 30, 3) := by decide +kernel
theorem dX2_work_22 : decode cX2_work 22 = .ok (.iconst 0, 1) := by decide +kernel
theorem dX2_work_23 : decode cX2_work 23 = .ok (.iconst 0, 1) := by decide +kernel
theorem dX2_work_24 : decode cX2_work 24 = .ok (.iastore, 1) := by decide +kernel
theorem dX2_work_25 : decode cX2_work 25 = .ok (.aload_n 0, 1) := by decide +kernel
theorem dX2_work_26 : decode cX2_work 26 = .ok (.getfield 30, 3) := by decide +kernel
theorem dX2_work_29 : decode cX2_work 29 = .ok (.iconst 1, 1) := by decide +kernel
theorem dX2_work_30 : decode cX2_work 30 = .ok (.iconst 0, 1) := by decide +kernel
theorem dX2_work_31 : decode cX2_work 31 = .ok (.iastore, 1) := by decide +kernel
theorem dX2_work_32 : decode cX2_work 32 = .ok (.aload_n 0, 1) := by decide +kernel
theorem dX2_work_33 : decode cX2_work 33 = .ok (.getfield 30, 3) := by decide +kernel
theorem dX2_work_36 : decode cX2_work 36 = .ok (.iconst 2, 1) := by decide +kernel
theorem dX2_work_37 : decode cX2_work 37 = .ok (.iload_n 3, 1) := by decide +kernel
theorem dX2_work_38 : decode cX2_work 38 = .ok (.iastore, 1) := by decide +kernel
theorem dX2_work_39 : decode cX2_work 39 = .ok (.aload_n 0, 1) := by decide +kernel
theorem dX2_work_40 : decode cX2_work 40 = .ok (.iconst 0, 1) := by decide +kernel
theorem dX2_work_41 : decode cX2_work 41 = .ok (.putfield 36, 3) := by decide +kernel
theorem dX2_work_44 : decode cX2_work 44 = .ok (.aload_n 0, 1) := by decide +kernel
theorem dX2_work_45 : decode cX2_work 45 = .ok (.iconst (-1), 1) := by decide +kernel
theorem dX2_work_46 : decode cX2_work 46 = .ok (.putfield 39, 3) := by decide +kernel
theorem dX2_work_49 : decode cX2_work 49 = .ok (.aload_n 0, 1) := by decide +kernel
theorem dX2_work_50 : decode cX2_work 50 = .ok (.iconst 0, 1) := by decide +kernel
theorem dX2_work_51 : decode cX2_work 51 = .ok (.putfield 42, 3) := by decide +kernel
theorem dX2_work_54 : decode cX2_work 54 = .ok (.iconst 0, 1) := by decide +kernel
theorem dX2_work_55 : decode cX2_work 55 = .ok (.istore 4, 2) := by decide +kernel
theorem dX2_work_57 : decode cX2_work 57 = .ok (.iload 4, 2) := by decide +kernel
theorem dX2_work_59 : decode cX2_work 59 = .ok (.ldc 49, 2) := by decide +kernel
theorem dX2_work_61 : decode cX2_work 61 = .ok (.if_icmp .ge 80, 3) := by decide +kernel
theorem dX2_work_64 : decode cX2_work 64 = .ok (.aload_n 2, 1) := by decide +kernel
theorem dX2_work_65 : decode cX2_work 65 = .ok (.getfield 50, 3) := by decide +kernel
theorem dX2_work_68 : decode cX2_work 68 = .ok (.ifCond .ne 73, 3) := by decide +kernel
theorem dX2_work_71 : decode cX2_work 71 = .ok (.aload_n 0, 1) := by decide +kernel
theorem dX2_work_72 : decode cX2_work 72 = .ok (.getfield 36, 3) := by decide +kernel
theorem dX2_work_75 : decode cX2_work 75 = .ok (.aload_n 0, 1) := by decide +kernel
theorem dX2_work_76 : decode cX2_work 76 = .ok (.getfield 33, 3) := by decide +kernel
theorem dX2_work_79 : decode cX2_work 79 = .ok (.arraylength, 1) := by decide +kernel
theorem dX2_work_80 : decode cX2_work 80 = .ok (.invokestatic 55, 3) := by decide +kernel
theorem dX2_work_83 : decode cX2_work 83 = .ok (.ifCond .eq 58, 3) := by decide +kernel
theorem dX2_work_86 : decode cX2_work 86 = .ok (.aload_n 0, 1) := by decide +kernel
theorem dX2_work_87 : decode cX2_work 87 = .ok (.getfield 33, 3) := by decide +kernel
theorem dX2_work_90 : decode cX2_work 90 = .ok (.aload_n 0, 1) := by decide +kernel
theorem dX2_work_91 : decode cX2_work 91 = .ok (.getfield 36, 3) := by decide +kernel
theorem dX2_work_94 : decode cX2_work 94 = .ok (.iaload, 1) := by decide +kernel
theorem dX2_work_95 : decode cX2_work 95 = .ok (.istore 5, 2) := by decide +kernel
theorem dX2_work_97 : decode cX2_work 97 = .ok (.aload_n 0, 1) := by decide +kernel
theorem dX2_work_98 : decode cX2_work 98 = .ok (.dup, 1) := by decide +kernel
theorem dX2_work_99 : decode cX2_work 99 = .ok (.getfield 36, 3) := by decide +kernel
theorem dX2_work_102 : decode cX2_work 102 = .ok (.iconst 1, 1) := by decide +kernel
theorem dX2_work_103 : decode cX2_work 103 = .ok (.iadd, 1) := by decide +kernel
theorem dX2_work_104 : decode cX2_work 104 = .ok (.putfield 36, 3) := by decide +kernel
theorem dX2_work_107 : decode cX2_work 107 = .ok (.aload_n 0, 1) := by decide +kernel
theorem dX2_work_108 : decode cX2_work 108 = .ok (.iload 5, 2) := by decide +kernel
theorem dX2_work_110 : decode cX2_work 110 = .ok (.aload_n 2, 1) := by decide +kernel
theorem dX2_work_111 : decode cX2_work 111 = .ok (.invokevirtual 59, 3) := by decide +kernel
theorem dX2_work_114 : decode cX2_work 114 = .ok (.istore 6, 2) := by decide +kernel
theorem dX2_work_116 : decode cX2_work 116 = .ok (.iload 6, 2) := by decide +kernel
theorem dX2_work_118 : decode cX2_work 118 = .ok (.ifCond .eq 17, 3) := by decide +kernel
theorem dX2_work_121 : decode cX2_work 121 = .ok (.aload_n 2, 1) := by decide +kernel
theorem dX2_work_122 : decode cX2_work 122 = .ok (.iload 6, 2) := by decide +kernel
theorem dX2_work_124 : decode cX2_work 124 = .ok (.putfield 50, 3) := by decide +kernel
theorem dX2_work_127 : decode cX2_work 127 = .ok (.aload_n 2, 1) := by decide +kernel
theorem dX2_work_128 : decode cX2_work 128 = .ok (.aload_n 0, 1) := by decide +kernel
theorem dX2_work_129 : decode cX2_work 129 = .ok (.getfield 39, 3) := by decide +kernel
theorem dX2_work_132 : decode cX2_work 132 = .ok (.putfield 63, 3) := by decide +kernel
theorem dX2_work_135 : decode cX2_work 135 = .ok (.iinc 4 1, 3) := by decide +kernel
theorem dX2_work_138 : decode cX2_work 138 = .ok (.goto (-81), 3) := by decide +kernel
theorem dX2_work_141 : decode cX2_work 141 = .ok (.return_, 1) := by decide +kernel
theorem dX2_obey_0 : decode cX2_obey 0 = .ok (.iload_n 1, 1) := by decide +kernel
theorem dX2_obey_1 : decode cX2_obey 1 = .ok (.sipush 256, 3) := by decide +kernel
theorem dX2_obey_4 : decode cX2_obey 4 = .ok (.if_icmp .lt 13, 3) := by decide +kernel
theorem dX2_obey_7 : decode cX2_obey 7 = .ok (.aload_n 0, 1) := by decide +kernel
theorem dX2_obey_8 : decode cX2_obey 8 = .ok (.iload_n 1, 1) := by decide +kernel
theorem dX2_obey_9 : decode cX2_obey 9 = .ok (.sipush 256, 3) := by decide +kernel
theorem dX2_obey_12 : decode cX2_obey 12 = .ok (.isub, 1) := by decide +kernel
theorem dX2_obey_13 : decode cX2_obey 13 = .ok (.invokevirtual 66, 3) := by decide +kernel
theorem dX2_obey_16 : decode cX2_obey 16 = .ok (.ireturn, 1) := by decide +kernel
theorem dX2_obey_17 : decode cX2_obey 17 = .ok (.iload_n 1, 1) := by decide +kernel
theorem dX2_obey_18 : decode cX2_obey 18 = .ok (.sipush 128, 3) := by decide +kernel
theorem dX2_obey_21 : decode cX2_obey 21 = .ok (.if_icmp .lt 16, 3) := by decide +kernel
theorem dX2_obey_24 : decode cX2_obey 24 = .ok (.aload_n 0, 1) := by decide +kernel
theorem dX2_obey_25 : decode cX2_obey 25 = .ok (.iload_n 1, 1) := by decide +kernel
theorem dX2_obey_26 : decode cX2_obey 26 = .ok (.sipush 128, 3) := by decide +kernel
theorem dX2_obey_29 : decode cX2_obey 29 = .ok (.isub, 1) := by decide +kernel
theorem dX2_obey_30 : decode cX2_obey 30 = .ok (.bipush 120, 2) := by decide +kernel
theorem dX2_obey_32 : decode cX2_obey 32 = .ok (.isub, 1) := by decide +kernel
theorem dX2_obey_33 : decode cX2_obey 33 = .ok (.invokevirtual 70, 3) := by decide +kernel
theorem dX2_obey_36 : decode cX2_obey 36 = .ok (.ireturn, 1) := by decide +kernel
theorem dX2_obey_37 : decode cX2_obey 37 = .ok (.iload_n 1, 1) := by decide +kernel
theorem dX2_obey_38 : decode cX2_obey 38 = .ok (.lookupswitch 176 #[(42, 149), (43, 149), (45, 149), (47, 149), (59, 122), (91, 155), (93, 160), (103, 165), (105, 165), (107, 165), (108, 165), (120, 165), (121, 165), (122, 165)], 122) := by decide +kernel
theorem dX2_obey_160 : decode cX2_obey 160 = .ok (.aload_n 0, 1) := by decide +kernel
theorem dX2_obey_161 : decode cX2_obey 161 = .ok (.dup, 1) := by decide +kernel
theorem dX2_obey_162 : decode cX2_obey 162 = .ok (.getfield 39, 3) := by decide +kernel
theorem dX2_obey_165 : decode cX2_obey 165 = .ok (.iconst 1, 1) := by decide +kernel
theorem dX2_obey_166 : decode cX2_obey 166 = .ok (.iadd, 1) := by decide +kernel
theorem dX2_obey_167 : decode cX2_obey 167 = .ok (.putfield 39, 3) := by decide +kernel
theorem dX2_obey_170 : decode cX2_obey 170 = .ok (.aload_n 0, 1) := by decide +kernel
theorem dX2_obey_171 : decode cX2_obey 171 = .ok (.getfield 39, 3) := by decide +kernel
theorem dX2_obey_174 : decode cX2_obey 174 = .ok (.sipush 2000, 3) := by decide +kernel
theorem dX2_obey_177 : decode cX2_obey 177 = .ok (.if_icmp .lt 8, 3) := by decide +kernel
theorem dX2_obey_180 : decode cX2_obey 180 = .ok (.bipush 6, 2) := by decide +kernel
theorem dX2_obey_182 : decode cX2_obey 182 = .ok (.goto 4, 3) := by decide +kernel
theorem dX2_obey_185 : decode cX2_obey 185 = .ok (.iconst 0, 1) := by decide +kernel
theorem dX2_obey_186 : decode cX2_obey 186 = .ok (.ireturn, 1) := by decide +kernel
theorem dX2_obey_187 : decode cX2_obey 187 = .ok (.aload_n 0, 1) := by decide +kernel
theorem dX2_obey_188 : decode cX2_obey 188 = .ok (.iload_n 1, 1) := by decide +kernel
theorem dX2_obey_189 : decode cX2_obey 189 = .ok (.invokevirtual 73, 3) := by decide +kernel
theorem dX2_obey_192 : decode cX2_obey 192 = .ok (.ireturn, 1) := by decide +kernel
theorem dX2_obey_193 : decode cX2_obey 193 = .ok (.aload_n 0, 1) := by decide +kernel
theorem dX2_obey_194 : decode cX2_obey 194 = .ok (.invokevirtual 76, 3) := by decide +kernel
theorem dX2_obey_197 : decode cX2_obey 197 = .ok (.ireturn, 1) := by decide +kernel
theorem dX2_obey_198 : decode cX2_obey 198 = .ok (.aload_n 0, 1) := by decide +kernel
theorem dX2_obey_199 : decode cX2_obey 199 = .ok (.invokevirtual 80, 3) := by decide +kernel
theorem dX2_obey_202 : decode cX2_obey 202 = .ok (.ireturn, 1) := by decide +kernel
theorem dX2_obey_203 : decode cX2_obey 203 = .ok (.aload_n 0, 1) := by decide +kernel
theorem dX2_obey_204 : decode cX2_obey 204 = .ok (.aload_n 0, 1) := by decide +kernel
theorem dX2_obey_205 : decode cX2_obey 205 = .ok (.iload_n 1, 1) := by decide +kernel
theorem dX2_obey_206 : decode cX2_obey 206 = .ok (.aload_n 2, 1) := by decide +kernel
theorem dX2_obey_207 : decode cX2_obey 207 = .ok (.invokevirtual 83, 3) := by decide +kernel
theorem dX2_obey_210 : decode cX2_obey 210 = .ok (.invokevirtual 66, 3) := by decide +kernel
theorem dX2_obey_213 : decode cX2_obey 213 = .ok (.ireturn, 1) := by decide +kernel
theorem dX2_obey_214 : decode cX2_obey 214 = .ok (.aload_n 0, 1) := by decide +kernel
theorem dX2_obey_215 : decode cX2_obey 215 = .ok (.iload_n 1, 1) := by decide +kernel
theorem dX2_obey_216 : decode cX2_obey 216 = .ok (.aload_n 2, 1) := by decide +kernel
theorem dX2_obey_217 : decode cX2_obey 217 = .ok (.invokevirtual 86, 3) := by decide +kernel
theorem dX2_obey_220 : decode cX2_obey 220 = .ok (.ireturn, 1) := by decide +kernel
theorem dX2_act_0 : decode cX2_act 0 = .ok (.iload_n 1, 1) := by decide +kernel
theorem dX2_act_1 : decode cX2_act 1 = .ok (.tableswitch 159 100 119 #[125, 159, 140, 159, 150, 159, 159, 159, 159, 159, 159, 159, 104, 159, 135, 145, 110, 115, 159, 95], 95) := by decide +kernel
theorem dX2_act_96 : decode cX2_act 96 = .ok (.aload_n 2, 1) := by decide +kernel
theorem dX2_act_97 : decode cX2_act 97 = .ok (.aload_n 0, 1) := by decide +kernel
theorem dX2_act_98 : decode cX2_act 98 = .ok (.invokevirtual 89, 3) := by decide +kernel
theorem dX2_act_101 : decode cX2_act 101 = .ok (.invokevirtual 92, 3) := by decide +kernel
theorem dX2_act_104 : decode cX2_act 104 = .ok (.ireturn, 1) := by decide +kernel
theorem dX2_act_105 : decode cX2_act 105 = .ok (.aload_n 0, 1) := by decide +kernel
theorem dX2_act_106 : decode cX2_act 106 = .ok (.aload_n 2, 1) := by decide +kernel
theorem dX2_act_107 : decode cX2_act 107 = .ok (.invokevirtual 95, 3) := by decide +kernel
theorem dX2_act_110 : decode cX2_act 110 = .ok (.ireturn, 1) := by decide +kernel
theorem dX2_act_111 : decode cX2_act 111 = .ok (.aload_n 2, 1) := by decide +kernel
theorem dX2_act_112 : decode cX2_act 112 = .ok (.invokevirtual 99, 3) := by decide +kernel
theorem dX2_act_115 : decode cX2_act 115 = .ok (.ireturn, 1) := by decide +kernel
theorem dX2_act_116 : decode cX2_act 116 = .ok (.aload_n 2, 1) := by decide +kernel
theorem dX2_act_117 : decode cX2_act 117 = .ok (.aload_n 0, 1) := by decide +kernel
theorem dX2_act_118 : decode cX2_act 118 = .ok (.invokevirtual 89, 3) := by decide +kernel
theorem dX2_act_121 : decode cX2_act 121 = .ok (.iconst 1, 1) := by decide +kernel
theorem dX2_act_122 : decode cX2_act 122 = .ok (.invokevirtual 102, 3) := by decide +kernel
theorem dX2_act_125 : decode cX2_act 125 = .ok (.ireturn, 1) := by decide +kernel
theorem dX2_act_126 : decode cX2_act 126 = .ok (.aload_n 2, 1) := by decide +kernel
theorem dX2_act_127 : decode cX2_act 127 = .ok (.aload_n 0, 1) := by decide +kernel
theorem dX2_act_128 : decode cX2_act 128 = .ok (.invokevirtual 89, 3) := by decide +kernel
theorem dX2_act_131 : decode cX2_act 131 = .ok (.iconst (-1), 1) := by decide +kernel
theorem dX2_act_132 : decode cX2_act 132 = .ok (.invokevirtual 102, 3) := by decide +kernel
theorem dX2_act_135 : decode cX2_act 135 = .ok (.ireturn, 1) := by decide +kernel
theorem dX2_act_136 : decode cX2_act 136 = .ok (.aload_n 2, 1) := by decide +kernel
theorem dX2_act_137 : decode cX2_act 137 = .ok (.invokevirtual 106, 3) := by decide +kernel
theorem dX2_act_140 : decode cX2_act 140 = .ok (.ireturn, 1) := by decide +kernel
theorem dX2_act_141 : decode cX2_act 141 = .ok (.aload_n 2, 1) := by decide +kernel
theorem dX2_act_142 : decode cX2_act 142 = .ok (.invokevirtual 109, 3) := by decide +kernel
theorem dX2_act_145 : decode cX2_act 145 = .ok (.ireturn, 1) := by decide +kernel
theorem dX2_act_146 : decode cX2_act 146 = .ok (.aload_n 2, 1) := by decide +kernel
theorem dX2_act_147 : decode cX2_act 147 = .ok (.invokevirtual 112, 3) := by decide +kernel
theorem dX2_act_150 : decode cX2_act 150 = .ok (.ireturn, 1) := by decide +kernel
theorem dX2_act_151 : decode cX2_act 151 = .ok (.aload_n 2, 1) := by decide +kernel
theorem dX2_act_152 : decode cX2_act 152 = .ok (.aload_n 0, 1) := by decide +kernel
theorem dX2_act_153 : decode cX2_act 153 = .ok (.invokevirtual 89, 3) := by decide +kernel
theorem dX2_act_156 : decode cX2_act 156 = .ok (.invokevirtual 115, 3) := by decide +kernel
theorem dX2_act_159 : decode cX2_act 159 = .ok (.ireturn, 1) := by decide +kernel
theorem dX2_act_160 : decode cX2_act 160 = .ok (.iconst 0, 1) := by decide +kernel
theorem dX2_act_161 : decode cX2_act 161 = .ok (.ireturn, 1) := by decide +kernel
theorem dX2_pleat_0 : decode cX2_pleat 0 = .ok (.aload_n 0, 1) := by decide +kernel
theorem dX2_pleat_1 : decode cX2_pleat 1 = .ok (.invokevirtual 89, 3) := by decide +kernel
theorem dX2_pleat_4 : decode cX2_pleat 4 = .ok (.istore_n 2, 1) := by decide +kernel
theorem dX2_pleat_5 : decode cX2_pleat 5 = .ok (.aload_n 0, 1) := by decide +kernel
theorem dX2_pleat_6 : decode cX2_pleat 6 = .ok (.invokevirtual 89, 3) := by decide +kernel
theorem dX2_pleat_9 : decode cX2_pleat 9 = .ok (.istore_n 3, 1) := by decide +kernel
theorem dX2_pleat_10 : decode cX2_pleat 10 = .ok (.aload_n 1, 1) := by decide +kernel
theorem dX2_pleat_11 : decode cX2_pleat 11 = .ok (.iload_n 3, 1) := by decide +kernel
theorem dX2_pleat_12 : decode cX2_pleat 12 = .ok (.iload_n 2, 1) := by decide +kernel
theorem dX2_pleat_13 : decode cX2_pleat 13 = .ok (.invokevirtual 118, 3) := by decide +kernel
theorem dX2_pleat_16 : decode cX2_pleat 16 = .ok (.ireturn, 1) := by decide +kernel
theorem dX2_valueOf_0 : decode cX2_valueOf 0 = .ok (.iload_n 1, 1) := by decide +kernel
theorem dX2_valueOf_1 : decode cX2_valueOf 1 = .ok (.tableswitch 64 103 108 #[49, 64, 59, 64, 54, 39], 39) := by decide +kernel
theorem dX2_valueOf_40 : decode cX2_valueOf 40 = .ok (.aload_n 0, 1) := by decide +kernel
theorem dX2_valueOf_41 : decode cX2_valueOf 41 = .ok (.iconst 1, 1) := by decide +kernel
theorem dX2_valueOf_42 : decode cX2_valueOf 42 = .ok (.putfield 42, 3) := by decide +kernel
theorem dX2_valueOf_45 : decode cX2_valueOf 45 = .ok (.aload_n 2, 1) := by decide +kernel
theorem dX2_valueOf_46 : decode cX2_valueOf 46 = .ok (.invokevirtual 120, 3) := by decide +kernel
theorem dX2_valueOf_49 : decode cX2_valueOf 49 = .ok (.ireturn, 1) := by decide +kernel
theorem dX2_valueOf_50 : decode cX2_valueOf 50 = .ok (.aload_n 2, 1) := by decide +kernel
theorem dX2_valueOf_51 : decode cX2_valueOf 51 = .ok (.invokevirtual 123, 3) := by decide +kernel
theorem dX2_valueOf_54 : decode cX2_valueOf 54 = .ok (.ireturn, 1) := by decide +kernel
theorem dX2_valueOf_55 : decode cX2_valueOf 55 = .ok (.aload_n 2, 1) := by decide +kernel
theorem dX2_valueOf_56 : decode cX2_valueOf 56 = .ok (.getfield 126, 3) := by decide +kernel
theorem dX2_valueOf_59 : decode cX2_valueOf 59 = .ok (.ireturn, 1) := by decide +kernel
theorem dX2_valueOf_60 : decode cX2_valueOf 60 = .ok (.aload_n 2, 1) := by decide +kernel
theorem dX2_valueOf_61 : decode cX2_valueOf 61 = .ok (.getfield 129, 3) := by decide +kernel
theorem dX2_valueOf_64 : decode cX2_valueOf 64 = .ok (.ireturn, 1) := by decide +kernel
theorem dX2_valueOf_65 : decode cX2_valueOf 65 = .ok (.iload_n 1, 1) := by decide +kernel
theorem dX2_valueOf_66 : decode cX2_valueOf 66 = .ok (.bipush 120, 2) := by decide +kernel
theorem dX2_valueOf_68 : decode cX2_valueOf 68 = .ok (.isub, 1) := by decide +kernel
theorem dX2_valueOf_69 : decode cX2_valueOf 69 = .ok (.aload_n 0, 1) := by decide +kernel
theorem dX2_valueOf_70 : decode cX2_valueOf 70 = .ok (.getfield 30, 3) := by decide +kernel
theorem dX2_valueOf_73 : decode cX2_valueOf 73 = .ok (.arraylength, 1) := by decide +kernel
theorem dX2_valueOf_74 : decode cX2_valueOf 74 = .ok (.invokestatic 55, 3) := by decide +kernel
theorem dX2_valueOf_77 : decode cX2_valueOf 77 = .ok (.ifCond .eq 15, 3) := by decide +kernel
theorem dX2_valueOf_80 : decode cX2_valueOf 80 = .ok (.aload_n 0, 1) := by decide +kernel
theorem dX2_valueOf_81 : decode cX2_valueOf 81 = .ok (.getfield 30, 3) := by decide +kernel
theorem dX2_valueOf_84 : decode cX2_valueOf 84 = .ok (.iload_n 1, 1) := by decide +kernel
theorem dX2_valueOf_85 : decode cX2_valueOf 85 = .ok (.bipush 120, 2) := by decide +kernel
theorem dX2_valueOf_87 : decode cX2_valueOf 87 = .ok (.isub, 1) := by decide +kernel
theorem dX2_valueOf_88 : decode cX2_valueOf 88 = .ok (.iaload, 1) := by decide +kernel
theorem dX2_valueOf_89 : decode cX2_valueOf 89 = .ok (.goto 4, 3) := by decide +kernel
theorem dX2_valueOf_92 : decode cX2_valueOf 92 = .ok (.iconst 0, 1) := by decide +kernel
theorem dX2_valueOf_93 : decode cX2_valueOf 93 = .ok (.ireturn, 1) := by decide +kernel
theorem dX2_name_0 : decode cX2_name 0 = .ok (.aload_n 0, 1) := by decide +kernel
theorem dX2_name_1 : decode cX2_name 1 = .ok (.invokevirtual 89, 3) := by decide +kernel
theorem dX2_name_4 : decode cX2_name 4 = .ok (.istore_n 2, 1) := by decide +kernel
theorem dX2_name_5 : decode cX2_name 5 = .ok (.iload_n 1, 1) := by decide +kernel
theorem dX2_name_6 : decode cX2_name 6 = .ok (.aload_n 0, 1) := by decide +kernel
theorem dX2_name_7 : decode cX2_name 7 = .ok (.getfield 30, 3) := by decide +kernel
theorem dX2_name_10 : decode cX2_name 10 = .ok (.arraylength, 1) := by decide +kernel
theorem dX2_name_11 : decode cX2_name 11 = .ok (.invokestatic 55, 3) := by decide +kernel
theorem dX2_name_14 : decode cX2_name 14 = .ok (.ifCond .eq 10, 3) := by decide +kernel
theorem dX2_name_17 : decode cX2_name 17 = .ok (.aload_n 0, 1) := by decide +kernel
theorem dX2_name_18 : decode cX2_name 18 = .ok (.getfield 30, 3) := by decide +kernel
theorem dX2_name_21 : decode cX2_name 21 = .ok (.iload_n 1, 1) := by decide +kernel
theorem dX2_name_22 : decode cX2_name 22 = .ok (.iload_n 2, 1) := by decide +kernel
theorem dX2_name_23 : decode cX2_name 23 = .ok (.iastore, 1) := by decide +kernel
theorem dX2_name_24 : decode cX2_name 24 = .ok (.iconst 0, 1) := by decide +kernel
theorem dX2_name_25 : decode cX2_name 25 = .ok (.ireturn, 1) := by decide +kernel
theorem dX2_reckon_0 : decode cX2_reckon 0 = .ok (.aload_n 0, 1) := by decide +kernel
theorem dX2_reckon_1 : decode cX2_reckon 1 = .ok (.invokevirtual 89, 3) := by decide +kernel
theorem dX2_reckon_4 : decode cX2_reckon 4 = .ok (.istore_n 2, 1) := by decide +kernel
theorem dX2_reckon_5 : decode cX2_reckon 5 = .ok (.aload_n 0, 1) := by decide +kernel
theorem dX2_reckon_6 : decode cX2_reckon 6 = .ok (.invokevirtual 89, 3) := by decide +kernel
theorem dX2_reckon_9 : decode cX2_reckon 9 = .ok (.istore_n 3, 1) := by decide +kernel
theorem dX2_reckon_10 : decode cX2_reckon 10 = .ok (.iload_n 1, 1) := by decide +kernel
theorem dX2_reckon_11 : decode cX2_reckon 11 = .ok (.tableswitch 53 42 45 #[45, 29, 53, 37], 29) := by decide +kernel
theorem dX2_reckon_40 : decode cX2_reckon 40 = .ok (.aload_n 0, 1) := by decide +kernel
theorem dX2_reckon_41 : decode cX2_reckon 41 = .ok (.iload_n 3, 1) := by decide +kernel
theorem dX2_reckon_42 : decode cX2_reckon 42 = .ok (.iload_n 2, 1) := by decide +kernel
theorem dX2_reckon_43 : decode cX2_reckon 43 = .ok (.iadd, 1) := by decide +kernel
theorem dX2_reckon_44 : decode cX2_reckon 44 = .ok (.invokevirtual 66, 3) := by decide +kernel
theorem dX2_reckon_47 : decode cX2_reckon 47 = .ok (.ireturn, 1) := by decide +kernel
theorem dX2_reckon_48 : decode cX2_reckon 48 = .ok (.aload_n 0, 1) := by decide +kernel
theorem dX2_reckon_49 : decode cX2_reckon 49 = .ok (.iload_n 3, 1) := by decide +kernel
theorem dX2_reckon_50 : decode cX2_reckon 50 = .ok (.iload_n 2, 1) := by decide +kernel
theorem dX2_reckon_51 : decode cX2_reckon 51 = .ok (.isub, 1) := by decide +kernel
theorem dX2_reckon_52 : decode cX2_reckon 52 = .ok (.invokevirtual 66, 3) := by decide +kernel
theorem dX2_reckon_55 : decode cX2_reckon 55 = .ok (.ireturn, 1) := by decide +kernel
theorem dX2_reckon_56 : decode cX2_reckon 56 = .ok (.aload_n 0, 1) := by decide +kernel
theorem dX2_reckon_57 : decode cX2_reckon 57 = .ok (.iload_n 3, 1) := by decide +kernel
theorem dX2_reckon_58 : decode cX2_reckon 58 = .ok (.iload_n 2, 1) := by decide +kernel
theorem dX2_reckon_59 : decode cX2_reckon 59 = .ok (.imul, 1) := by decide +kernel
theorem dX2_reckon_60 : decode cX2_reckon 60 = .ok (.invokevirtual 66, 3) := by decide +kernel
theorem dX2_reckon_63 : decode cX2_reckon 63 = .ok (.ireturn, 1) := by decide +kernel
theorem dX2_reckon_64 : decode cX2_reckon 64 = .ok (.iload_n 2, 1) := by decide +kernel
theorem dX2_reckon_65 : decode cX2_reckon 65 = .ok (.ifCond .ne 7, 3) := by decide +kernel
theorem dX2_reckon_68 : decode cX2_reckon 68 = .ok (.iconst 5, 1) := by decide +kernel
theorem dX2_reckon_69 : decode cX2_reckon 69 = .ok (.goto 10, 3) := by decide +kernel
theorem dX2_reckon_72 : decode cX2_reckon 72 = .ok (.aload_n 0, 1) := by decide +kernel
theorem dX2_reckon_73 : decode cX2_reckon 73 = .ok (.iload_n 3, 1) := by decide +kernel
theorem dX2_reckon_74 : decode cX2_reckon 74 = .ok (.iload_n 2, 1) := by decide +kernel
theorem dX2_reckon_75 : decode cX2_reckon 75 = .ok (.idiv, 1) := by decide +kernel
theorem dX2_reckon_76 : decode cX2_reckon 76 = .ok (.invokevirtual 66, 3) := by decide +kernel
theorem dX2_reckon_79 : decode cX2_reckon 79 = .ok (.ireturn, 1) := by decide +kernel
section
variable {d : Nat} {M : gM} {Z : Option Value → gM → Prop} {a0 a1 a2 a3 a4 a5 a6 a7 a8 a9 a10 a11 a12 : Option Value} {v s0 s1 s2 s3 s4 s5 s6 s7 s8 s9 s10 s11 : Value} {x y w : Int32} {o b u1 u2 : Nat}
/-! 15: X1_cross ()I -/
theorem gd15 {pc : Nat} {r : Except _ _} (h : decode cX1_cross pc = r) : decode (gby 15) pc = r := h
theorem z15_0 : Run d 15 0 [some (.ref o), a1] [] M 0 0 Z ↔ Run d 15 1 [some (.ref o), a1] [.ref o] M 0 0 Z := R_local (gd15 dX1_cross_0) rfl rfl rfl
theorem z15_1 : Run d 15 1 [a0, a1] [.ref o] M 0 0 Z ↔ gObj M o 1 ∧ Run d 15 4 [a0, a1] [.int (M.1 o 5)] M 0 0 Z := R_getI (gd15 dX1_cross_1) rfl gf_1_32 rfl
theorem z15_4 : Run d 15 4 [some (.ref o), a1] [s0] M 0 0 Z ↔ Run d 15 5 [some (.ref o), a1] [.ref o, s0] M 0 0 Z := R_local (gd15 dX1_cross_4) rfl rfl rfl
theorem z15_5 : Run d 15 5 [a0, a1] [.ref o, s0] M 0 0 Z ↔ gObj M o 1 ∧ Run d 15 8 [a0, a1] [.int (M.1 o 3), s0] M 0 0 Z := R_getI (gd15 dX1_cross_5) rfl gf_1_26 rfl
theorem z15_8 : Run d 15 8 [a0, a1] [.int y, .int x] M 0 0 Z ↔ Run d 15 9 [a0, a1] [.int (x + y)] M 0 0 Z := R_arith (gd15 dX1_cross_8) rfl
theorem z15_9 : Run d 15 9 [a0, a1] [s0] M 0 0 Z ↔ Run d 15 11 [a0, a1] [.int 8, s0] M 0 0 Z := R_bipush (gd15 dX1_cross_9) (by decide)
theorem z15_11 : Run d 15 11 [a0, a1] [.int y, .int x] M 0 0 Z ↔ (x = y → Run d 15 16 [a0, a1] [] M 0 0 Z) ∧ (¬ (x = y) → Run d 15 14 [a0, a1] [] M 0 0 Z) := R_icmp (gd15 dX1_cross_11) (show gTgt 11 5 = some 16 by decide) gIf_eq
theorem z15_14 : Run d 15 14 [a0, a1] [] M 0 0 Z ↔ Run d 15 15 [a0, a1] [.int 3] M 0 0 Z := R_iconst (gd15 dX1_cross_14) (by decide)
theorem z15_15 : Run d 15 15 [a0, a1] [.int x] M 0 0 Z ↔ Z (some (.int x)) M := R_iret (gd15 dX1_cross_15) rfl
theorem z15_16 : Run d 15 16 [a0, a1] [] M 0 0 Z ↔ Run d 15 17 [a0, a1] [.int 2] M 0 0 Z := R_iconst (gd15 dX1_cross_16) (by decide)
theorem z15_17 : Run d 15 17 [some (.ref o), a1] [s0] M 0 0 Z ↔ Run d 15 18 [some (.ref o), a1] [.ref o, s0] M 0 0 Z := R_local (gd15 dX1_cross_17) rfl rfl rfl
theorem z15_18 : Run d 15 18 [a0, a1] [.ref o, s0] M 0 0 Z ↔ gObj M o 1 ∧ Run d 15 21 [a0, a1] [va_rf (M.2.1 o 1), s0] M 0 0 Z := R_getR (gd15 dX1_cross_18) rfl gf_1_18 rfl
theorem z15_21 : Run d 15 21 [a0, a1] [s1, s0] M 0 0 Z ↔ Run d 15 23 [a0, a1] [.int 7, s1, s0] M 0 0 Z := R_bipush (gd15 dX1_cross_21) (by decide)
theorem z15_23 : Run d 15 23 [a0, a1] [.int x, .ref o, s0] M 0 0 Z ↔ gAr M o 0 ∧ gIn x (gLen M o) = true ∧ Run d 15 24 [a0, a1] [.int (M.1 o x.toNatClampNeg), s0] M 0 0 Z := R_iald (gd15 dX1_cross_23)
theorem z15_24 : Run d 15 24 [a0, a1] [.int y, .int x] M 0 0 Z ↔ Run d 15 25 [a0, a1] [.int (x * y)] M 0 0 Z := R_arith (gd15 dX1_cross_24) rfl
theorem z15_25 : Run d 15 25 [a0, a1] [.int x] M 0 0 Z ↔ Run d 15 26 [a0, some (.int x)] [] M 0 0 Z := R_local (gd15 dX1_cross_25) rfl rfl rfl
theorem z15_26 : Run d 15 26 [a0, some (.int x)] [] M 0 0 Z ↔ Run d 15 27 [a0, some (.int x)] [.int x] M 0 0 Z := R_local (gd15 dX1_cross_26) rfl rfl rfl
theorem z15_27 : Run d 15 27 [some (.ref o), a1] [s0] M 0 0 Z ↔ Run d 15 28 [some (.ref o), a1] [.ref o, s0] M 0 0 Z := R_local (gd15 dX1_cross_27) rfl rfl rfl
theorem z15_28 : Run d 15 28 [a0, a1] [.ref b, s0] M 0 0 Z ↔ gObj M b 1 ∧ Call d 6 [.ref b] M (fun r M1 => Run d 15 31 [a0, a1] (r.toList ++ [s0]) M1 0 0 Z) := R_callV (gd15 dX1_cross_28) rfl rfl rfl rfl rfl rfl gc_1_91 rfl rfl (Nat.le_of_ble_eq_true rfl) (Nat.le_of_ble_eq_true rfl) rfl rfl (Nat.le_of_ble_eq_true rfl) (Nat.le_of_ble_eq_true rfl)
theorem z15_31 : Run d 15 31 [a0, a1] [.int y, .int x] M 0 0 Z ↔ (x ≤ y → Run d 15 36 [a0, a1] [] M 0 0 Z) ∧ (¬ (x ≤ y) → Run d 15 34 [a0, a1] [] M 0 0 Z) := R_icmp (gd15 dX1_cross_31) (show gTgt 31 5 = some 36 by decide) gIf_le
theorem z15_34 : Run d 15 34 [a0, a1] [] M 0 0 Z ↔ Run d 15 35 [a0, a1] [.int 1] M 0 0 Z := R_iconst (gd15 dX1_cross_34) (by decide)
theorem z15_35 : Run d 15 35 [a0, a1] [.int x] M 0 0 Z ↔ Z (some (.int x)) M := R_iret (gd15 dX1_cross_35) rfl
theorem z15_36 : Run d 15 36 [some (.ref o), a1] [] M 0 0 Z ↔ Run d 15 37 [some (.ref o), a1] [.ref o] M 0 0 Z := R_local (gd15 dX1_cross_36) rfl rfl rfl
theorem z15_37 : Run d 15 37 [some (.ref o), a1] [s0] M 0 0 Z ↔ Run d 15 38 [some (.ref o), a1] [.ref o, s0] M 0 0 Z := R_local (gd15 dX1_cross_37) rfl rfl rfl
theorem z15_38 : Run d 15 38 [a0, a1] [.ref o, s0] M 0 0 Z ↔ gObj M o 1 ∧ Run d 15 41 [a0, a1] [.int (M.1 o 5), s0] M 0 0 Z := R_getI (gd15 dX1_cross_38) rfl gf_1_32 rfl
theorem z15_41 : Run d 15 41 [some (.ref o), a1] [s1, s0] M 0 0 Z ↔ Run d 15 42 [some (.ref o), a1] [.ref o, s1, s0] M 0 0 Z := R_local (gd15 dX1_cross_41) rfl rfl rfl
theorem z15_42 : Run d 15 42 [a0, a1] [.ref o, s1, s0] M 0 0 Z ↔ gObj M o 1 ∧ Run d 15 45 [a0, a1] [.int (M.1 o 6), s1, s0] M 0 0 Z := R_getI (gd15 dX1_cross_42) rfl gf_1_35 rfl
theorem z15_45 : Run d 15 45 [a0, a1] [s2, s1, s0] M 0 0 Z ↔ Run d 15 46 [a0, a1] [.int 4, s2, s1, s0] M 0 0 Z := R_iconst (gd15 dX1_cross_45) (by decide)
theorem z15_46 : Run d 15 46 [a0, a1] [.int y, .int x, s1, s0] M 0 0 Z ↔ Run d 15 47 [a0, a1] [.int (x + y), s1, s0] M 0 0 Z := R_arith (gd15 dX1_cross_46) rfl
theorem z15_47 : Run d 15 47 [a0, a1] [s2, s1, s0] M 0 0 Z ↔ Run d 15 49 [a0, a1] [.int 7, s2, s1, s0] M 0 0 Z := R_bipush (gd15 dX1_cross_47) (by decide)
theorem z15_49 : Run d 15 49 [a0, a1] [.int y, .int x, s1, s0] M 0 0 Z ↔ Run d 15 50 [a0, a1] [.int (x &&& y), s1, s0] M 0 0 Z := R_arith (gd15 dX1_cross_49) rfl
theorem z15_50 : Run d 15 50 [some (.ref o), a1] [s2, s1, s0] M 0 0 Z ↔ Run d 15 51 [some (.ref o), a1] [.ref o, s2, s1, s0] M 0 0 Z := R_local (gd15 dX1_cross_50) rfl rfl rfl
theorem z15_51 : Run d 15 51 [a0, a1] [.ref o, s2, s1, s0] M 0 0 Z ↔ gObj M o 1 ∧ Run d 15 54 [a0, a1] [.int (M.1 o 4), s2, s1, s0] M 0 0 Z := R_getI (gd15 dX1_cross_51) rfl gf_1_29 rfl
theorem z15_54 : Run d 15 54 [a0, some (.int x)] [s3, s2, s1, s0] M 0 0 Z ↔ Run d 15 55 [a0, some (.int x)] [.int x, s3, s2, s1, s0] M 0 0 Z := R_local (gd15 dX1_cross_54) rfl rfl rfl
theorem z15_55 : Run d 15 55 [a0, a1] [.int y, .int x, s2, s1, s0] M 0 0 Z ↔ Run d 15 56 [a0, a1] [.int (x + y), s2, s1, s0] M 0 0 Z := R_arith (gd15 dX1_cross_55) rfl
theorem z15_56 : Run d 15 56 [a0, a1] [s3, s2, s1, .ref b] M 0 0 Z ↔ gObj M b 1 ∧ Call d 5 [.ref b, s1, s2, s3] M (fun r M1 => Run d 15 59 [a0, a1] (r.toList ++ []) M1 0 0 Z) := R_callV (gd15 dX1_cross_56) rfl rfl rfl rfl rfl rfl gc_1_70 rfl rfl (Nat.le_of_ble_eq_true rfl) (Nat.le_of_ble_eq_true rfl) rfl rfl (Nat.le_of_ble_eq_true rfl) (Nat.le_of_ble_eq_true rfl)
theorem z15_59 : Run d 15 59 [some (.ref o), a1] [] M 0 0 Z ↔ Run d 15 60 [some (.ref o), a1] [.ref o] M 0 0 Z := R_local (gd15 dX1_cross_59) rfl rfl rfl
theorem z15_60 : Run d 15 60 [a0, a1] [.ref o] M 0 0 Z ↔ Run d 15 61 [a0, a1] [.ref o, .ref o] M 0 0 Z := R_arith (gd15 dX1_cross_60) rfl
theorem z15_61 : Run d 15 61 [a0, a1] [.ref o, s0] M 0 0 Z ↔ gObj M o 1 ∧ Run d 15 64 [a0, a1] [.int (M.1 o 13), s0] M 0 0 Z := R_getI (gd15 dX1_cross_61) rfl gf_1_57 rfl
theorem z15_64 : Run d 15 64 [a0, some (.int x)] [s1, s0] M 0 0 Z ↔ Run d 15 65 [a0, some (.int x)] [.int x, s1, s0] M 0 0 Z := R_local (gd15 dX1_cross_64) rfl rfl rfl
theorem z15_65 : Run d 15 65 [a0, a1] [.int y, .int x, s0] M 0 0 Z ↔ Run d 15 66 [a0, a1] [.int (x + y), s0] M 0 0 Z := R_arith (gd15 dX1_cross_65) rfl
theorem z15_66 : Run d 15 66 [a0, a1] [.int x, .ref o] M 0 0 Z ↔ gObj M o 1 ∧ Run d 15 69 [a0, a1] [] (gsI M o 13 x) 0 0 Z := R_putI (gd15 dX1_cross_66) rfl gf_1_57 (Or.inl rfl) rfl
theorem z15_69 : Run d 15 69 [some (.ref o), a1] [] M 0 0 Z ↔ Run d 15 70 [some (.ref o), a1] [.ref o] M 0 0 Z := R_local (gd15 dX1_cross_69) rfl rfl rfl
theorem z15_70 : Run d 15 70 [a0, a1] [.ref o] M 0 0 Z ↔ Run d 15 71 [a0, a1] [.ref o, .ref o] M 0 0 Z := R_arith (gd15 dX1_cross_70) rfl
theorem z15_71 : Run d 15 71 [a0, a1] [.ref o, s0] M 0 0 Z ↔ gObj M o 1 ∧ Run d 15 74 [a0, a1] [.int (M.1 o 9), s0] M 0 0 Z := R_getI (gd15 dX1_cross_71) rfl gf_1_44 rfl
theorem z15_74 : Run d 15 74 [a0, a1] [s1, s0] M 0 0 Z ↔ Run d 15 75 [a0, a1] [.int 1, s1, s0] M 0 0 Z := R_iconst (gd15 dX1_cross_74) (by decide)
theorem z15_75 : Run d 15 75 [a0, a1] [.int y, .int x, s0] M 0 0 Z ↔ Run d 15 76 [a0, a1] [.int (x + y), s0] M 0 0 Z := R_arith (gd15 dX1_cross_75) rfl
theorem z15_76 : Run d 15 76 [a0, a1] [.int x, .ref o] M 0 0 Z ↔ gObj M o 1 ∧ Run d 15 79 [a0, a1] [] (gsI M o 9 x) 0 0 Z := R_putI (gd15 dX1_cross_76) rfl gf_1_44 (Or.inl rfl) rfl
theorem z15_79 : Run d 15 79 [a0, a1] [] M 0 0 Z ↔ Run d 15 80 [a0, a1] [.int 0] M 0 0 Z := R_iconst (gd15 dX1_cross_79) (by decide)
theorem z15_80 : Run d 15 80 [a0, a1] [.int x] M 0 0 Z ↔ Z (some (.int x)) M := R_iret (gd15 dX1_cross_80) rfl
theorem e15 : Call (d + 1) 15 [s0] M Z ↔ Run d 15 0 [some s0, none] [] M 0 0 Z := Call_iff (Nat.lt_of_lt_of_le (Nat.lt_succ_self 15) (Nat.le_of_ble_eq_true rfl)) (Nat.le_of_ble_eq_true rfl)
/-! 16: X1_hang (I)I -/
theorem gd16 {pc : Nat} {r : Except _ _} (h : decode cX1_hang pc = r) : decode (gby 16) pc = r := h
theorem z16_0 : Run d 16 0 [a0, some (.int x), a2, a3, a4, a5, a6] [] M 0 0 Z ↔ Run d 16 1 [a0, some (.int x), a2, a3, a4, a5, a6] [.int x] M 0 0 Z := R_local (gd16 dX1_hang_0) rfl rfl rfl
theorem z16_1 : Run d 16 1 [a0, a1, a2, a3, a4, a5, a6] [s0] M 0 0 Z ↔ Call d 8 [s0] M (fun r M1 => Run d 16 4 [a0, a1, a2, a3, a4, a5, a6] (r.toList ++ []) M1 0 0 Z) := R_call (gd16 dX1_hang_1) rfl rfl rfl rfl rfl rfl gc_1_83 rfl (by decide) (Nat.le_of_ble_eq_true rfl) (Nat.le_of_ble_eq_true rfl) rfl rfl rfl (Nat.le_of_ble_eq_true rfl) (Nat.le_of_ble_eq_true rfl)
theorem z16_4 : Run d 16 4 [a0, a1, a2, a3, a4, a5, a6] [.int x] M 0 0 Z ↔ (¬ x = 0 → Run d 16 9 [a0, a1, a2, a3, a4, a5, a6] [] M 0 0 Z) ∧ (¬ (¬ x = 0) → Run d 16 7 [a0, a1, a2, a3, a4, a5, a6] [] M 0 0 Z) := R_if (gd16 dX1_hang_4) (show gTgt 4 5 = some 9 by decide) gIf_ne
theorem z16_7 : Run d 16 7 [a0, a1, a2, a3, a4, a5, a6] [] M 0 0 Z ↔ Run d 16 8 [a0, a1, a2, a3, a4, a5, a6] [.int 4] M 0 0 Z := R_iconst (gd16 dX1_hang_7) (by decide)
theorem z16_8 : Run d 16 8 [a0, a1, a2, a3, a4, a5, a6] [.int x] M 0 0 Z ↔ Z (some (.int x)) M := R_iret (gd16 dX1_hang_8) rfl
theorem z16_9 : Run d 16 9 [a0, some (.int x), a2, a3, a4, a5, a6] [] M 0 0 Z ↔ Run d 16 10 [a0, some (.int x), a2, a3, a4, a5, a6] [.int x] M 0 0 Z := R_local (gd16 dX1_hang_9) rfl rfl rfl
theorem z16_10 : Run d 16 10 [some (.ref o), a1, a2, a3, a4, a5, a6] [s0] M 0 0 Z ↔ Run d 16 11 [some (.ref o), a1, a2, a3, a4, a5, a6] [.ref o, s0] M 0 0 Z := R_local (gd16 dX1_hang_10) rfl rfl rfl
theorem z16_11 : Run d 16 11 [a0, a1, a2, a3, a4, a5, a6] [.ref b, s0] M 0 0 Z ↔ gObj M b 1 ∧ Call d 6 [.ref b] M (fun r M1 => Run d 16 14 [a0, a1, a2, a3, a4, a5, a6] (r.toList ++ [s0]) M1 0 0 Z) := R_callV (gd16 dX1_hang_11) rfl rfl rfl rfl rfl rfl gc_1_91 rfl rfl (Nat.le_of_ble_eq_true rfl) (Nat.le_of_ble_eq_true rfl) rfl rfl (Nat.le_of_ble_eq_true rfl) (Nat.le_of_ble_eq_true rfl)
theorem z16_14 : Run d 16 14 [a0, a1, a2, a3, a4, a5, a6] [.int y, .int x] M 0 0 Z ↔ (x ≤ y → Run d 16 19 [a0, a1, a2, a3, a4, a5, a6] [] M 0 0 Z) ∧ (¬ (x ≤ y) → Run d 16 17 [a0, a1, a2, a3, a4, a5, a6] [] M 0 0 Z) := R_icmp (gd16 dX1_hang_14) (show gTgt 14 5 = some 19 by decide) gIf_le
theorem z16_17 : Run d 16 17 [a0, a1, a2, a3, a4, a5, a6] [] M 0 0 Z ↔ Run d 16 18 [a0, a1, a2, a3, a4, a5, a6] [.int 1] M 0 0 Z := R_iconst (gd16 dX1_hang_17) (by decide)
theorem z16_18 : Run d 16 18 [a0, a1, a2, a3, a4, a5, a6] [.int x] M 0 0 Z ↔ Z (some (.int x)) M := R_iret (gd16 dX1_hang_18) rfl
theorem z16_19 : Run d 16 19 [a0, some (.int x), a2, a3, a4, a5, a6] [] M 0 0 Z ↔ Run d 16 20 [a0, some (.int x), a2, a3, a4, a5, a6] [.int x] M 0 0 Z := R_local (gd16 dX1_hang_19) rfl rfl rfl
theorem z16_20 : Run d 16 20 [a0, a1, a2, a3, a4, a5, a6] [s0] M 0 0 Z ↔ Run d 16 21 [a0, a1, a2, a3, a4, a5, a6] [.int 5, s0] M 0 0 Z := R_iconst (gd16 dX1_hang_20) (by decide)
theorem z16_21 : Run d 16 21 [a0, a1, a2, a3, a4, a5, a6] [.int y, .int x] M 0 0 Z ↔ Run d 16 22 [a0, a1, a2, a3, a4, a5, a6] [.int (x + y)] M 0 0 Z := R_arith (gd16 dX1_hang_21) rfl
theorem z16_22 : Run d 16 22 [a0, a1, a2, a3, a4, a5, a6] [s0] M 0 0 Z ↔ Run d 16 23 [a0, a1, a2, a3, a4, a5, a6] [.int 1, s0] M 0 0 Z := R_iconst (gd16 dX1_hang_22) (by decide)
theorem z16_23 : Run d 16 23 [a0, a1, a2, a3, a4, a5, a6] [.int y, .int x] M 0 0 Z ↔ Run d 16 24 [a0, a1, a2, a3, a4, a5, a6] [.int (x - y)] M 0 0 Z := R_arith (gd16 dX1_hang_23) rfl
theorem z16_24 : Run d 16 24 [a0, a1, a2, a3, a4, a5, a6] [s0] M 0 0 Z ↔ Run d 16 25 [a0, a1, a2, a3, a4, a5, a6] [.int 5, s0] M 0 0 Z := R_iconst (gd16 dX1_hang_24) (by decide)
theorem z16_25 (hy : ¬ y = 0) : Run d 16 25 [a0, a1, a2, a3, a4, a5, a6] [.int y, .int x] M 0 0 Z ↔ Run d 16 26 [a0, a1, a2, a3, a4, a5, a6] [.int (x / y)] M 0 0 Z := R_div (gd16 dX1_hang_25) hy
theorem z16_26 : Run d 16 26 [a0, a1, a2, a3, a4, a5, a6] [.int x] M 0 0 Z ↔ Run d 16 27 [a0, a1, some (.int x), a3, a4, a5, a6] [] M 0 0 Z := R_local (gd16 dX1_hang_26) rfl rfl rfl
theorem z16_27 : Run d 16 27 [a0, a1, some (.int x), a3, a4, a5, a6] [] M 0 0 Z ↔ Run d 16 28 [a0, a1, some (.int x), a3, a4, a5, a6] [.int x] M 0 0 Z := R_local (gd16 dX1_hang_27) rfl rfl rfl
theorem z16_28 : Run d 16 28 [some (.ref o), a1, a2, a3, a4, a5, a6] [s0] M 0 0 Z ↔ Run d 16 29 [some (.ref o), a1, a2, a3, a4, a5, a6] [.ref o, s0] M 0 0 Z := R_local (gd16 dX1_hang_28) rfl rfl rfl
theorem z16_29 : Run d 16 29 [a0, a1, a2, a3, a4, a5, a6] [.ref o, s0] M 0 0 Z ↔ gObj M o 1 ∧ Run d 16 32 [a0, a1, a2, a3, a4, a5, a6] [.int (M.1 o 5), s0] M 0 0 Z := R_getI (gd16 dX1_hang_29) rfl gf_1_32 rfl
theorem z16_32 : Run d 16 32 [a0, a1, a2, a3, a4, a5, a6] [.int y, .int x] M 0 0 Z ↔ Run d 16 35 [a0, a1, a2, a3, a4, a5, a6] [.int (if y < x then y else x)] M 0 0 Z := R_prim (gd16 dX1_hang_32) rfl rfl rfl rfl rfl rfl gc_1_102 rfl (by decide) rfl (Nat.le_of_ble_eq_true rfl)
theorem z16_35 : Run d 16 35 [a0, a1, a2, a3, a4, a5, a6] [.int x] M 0 0 Z ↔ Run d 16 36 [a0, a1, a2, some (.int x), a4, a5, a6] [] M 0 0 Z := R_local (gd16 dX1_hang_35) rfl rfl rfl
theorem z16_36 : Run d 16 36 [some (.ref o), a1, a2, a3, a4, a5, a6] [] M 0 0 Z ↔ Run d 16 37 [some (.ref o), a1, a2, a3, a4, a5, a6] [.ref o] M 0 0 Z := R_local (gd16 dX1_hang_36) rfl rfl rfl
theorem z16_37 : Run d 16 37 [a0, a1, a2, a3, a4, a5, a6] [.ref o] M 0 0 Z ↔ gObj M o 1 ∧ Run d 16 40 [a0, a1, a2, a3, a4, a5, a6] [va_rf (M.2.1 o 0)] M 0 0 Z := R_getR (gd16 dX1_hang_37) rfl gf_1_12 rfl
theorem z16_40 : Run d 16 40 [a0, a1, a2, a3, a4, a5, a6] [.ref o] M 0 0 Z ↔ gObj M o 4 ∧ Run d 16 43 [a0, a1, a2, a3, a4, a5, a6] [.int (M.1 o 8)] M 0 0 Z := R_getI (gd16 dX1_hang_40) rfl gf_1_74 rfl
theorem z16_43 : Run d 16 43 [a0, a1, a2, some (.int x), a4, a5, a6] [s0] M 0 0 Z ↔ Run d 16 44 [a0, a1, a2, some (.int x), a4, a5, a6] [.int x, s0] M 0 0 Z := R_local (gd16 dX1_hang_43) rfl rfl rfl
theorem z16_44 : Run d 16 44 [a0, a1, a2, a3, a4, a5, a6] [.int y, .int x] M 0 0 Z ↔ Run d 16 45 [a0, a1, a2, a3, a4, a5, a6] [.int (x + y)] M 0 0 Z := R_arith (gd16 dX1_hang_44) rfl
theorem z16_45 : Run d 16 45 [a0, a1, a2, a3, a4, a5, a6] [s0] M 0 0 Z ↔ Run d 16 48 [a0, a1, a2, a3, a4, a5, a6] [.int 400, s0] M 0 0 Z := R_sipush (gd16 dX1_hang_45) (by decide)
theorem z16_48 : Run d 16 48 [a0, a1, a2, a3, a4, a5, a6] [.int y, .int x] M 0 0 Z ↔ (x ≤ y → Run d 16 54 [a0, a1, a2, a3, a4, a5, a6] [] M 0 0 Z) ∧ (¬ (x ≤ y) → Run d 16 51 [a0, a1, a2, a3, a4, a5, a6] [] M 0 0 Z) := R_icmp (gd16 dX1_hang_48) (show gTgt 48 6 = some 54 by decide) gIf_le
theorem z16_51 : Run d 16 51 [a0, a1, a2, a3, a4, a5, a6] [] M 0 0 Z ↔ Run d 16 53 [a0, a1, a2, a3, a4, a5, a6] [.int 6] M 0 0 Z := R_bipush (gd16 dX1_hang_51) (by decide)
theorem z16_53 : Run d 16 53 [a0, a1, a2, a3, a4, a5, a6] [.int x] M 0 0 Z ↔ Z (some (.int x)) M := R_iret (gd16 dX1_hang_53) rfl
theorem z16_54 : Run d 16 54 [a0, a1, a2, a3, a4, a5, a6] [] M 0 0 Z ↔ Run d 16 55 [a0, a1, a2, a3, a4, a5, a6] [.int 0] M 0 0 Z := R_iconst (gd16 dX1_hang_54) (by decide)
theorem z16_55 : Run d 16 55 [a0, a1, a2, a3, a4, a5, a6] [.int x] M 0 0 Z ↔ Run d 16 57 [a0, a1, a2, a3, some (.int x), a5, a6] [] M 0 0 Z := R_local (gd16 dX1_hang_55) rfl rfl rfl
theorem z16_57 : Run d 16 57 [a0, a1, a2, a3, some (.int x), a5, a6] [] M 0 0 Z ↔ Run d 16 59 [a0, a1, a2, a3, some (.int x), a5, a6] [.int x] M 0 0 Z := R_local (gd16 dX1_hang_57) rfl rfl rfl
theorem z16_59 : Run d 16 59 [a0, a1, a2, some (.int x), a4, a5, a6] [s0] M 0 0 Z ↔ Run d 16 60 [a0, a1, a2, some (.int x), a4, a5, a6] [.int x, s0] M 0 0 Z := R_local (gd16 dX1_hang_59) rfl rfl rfl
theorem z16_60 : Run d 16 60 [a0, a1, a2, a3, a4, a5, a6] [.int y, .int x] M 0 0 Z ↔ (y ≤ x → Run d 16 123 [a0, a1, a2, a3, a4, a5, a6] [] M 0 0 Z) ∧ (¬ (y ≤ x) → Run d 16 63 [a0, a1, a2, a3, a4, a5, a6] [] M 0 0 Z) := R_icmp (gd16 dX1_hang_60) (show gTgt 60 63 = some 123 by decide) gIf_ge
theorem z16_63 : Run d 16 63 [a0, a1, a2, a3, some (.int x), a5, a6] [] M 0 0 Z ↔ Run d 16 65 [a0, a1, a2, a3, some (.int x), a5, a6] [.int x] M 0 0 Z := R_local (gd16 dX1_hang_63) rfl rfl rfl
theorem z16_65 : Run d 16 65 [a0, a1, a2, a3, a4, a5, a6] [s0] M 0 0 Z ↔ Run d 16 66 [a0, a1, a2, a3, a4, a5, a6] [.int 5, s0] M 0 0 Z := R_iconst (gd16 dX1_hang_65) (by decide)
theorem z16_66 : Run d 16 66 [a0, a1, a2, a3, a4, a5, a6] [.int y, .int x] M 0 0 Z ↔ Run d 16 67 [a0, a1, a2, a3, a4, a5, a6] [.int (x * y)] M 0 0 Z := R_arith (gd16 dX1_hang_66) rfl
theorem z16_67 : Run d 16 67 [a0, a1, a2, a3, a4, a5, a6] [.int x] M 0 0 Z ↔ Run d 16 69 [a0, a1, a2, a3, a4, some (.int x), a6] [] M 0 0 Z := R_local (gd16 dX1_hang_67) rfl rfl rfl
theorem z16_69 : Run d 16 69 [a0, a1, a2, a3, a4, a5, a6] [] M 0 0 Z ↔ Run d 16 70 [a0, a1, a2, a3, a4, a5, a6] [.int 5] M 0 0 Z := R_iconst (gd16 dX1_hang_69) (by decide)
theorem z16_70 : Run d 16 70 [a0, some (.int x), a2, a3, a4, a5, a6] [s0] M 0 0 Z ↔ Run d 16 71 [a0, some (.int x), a2, a3, a4, a5, a6] [.int x, s0] M 0 0 Z := R_local (gd16 dX1_hang_70) rfl rfl rfl
theorem z16_71 : Run d 16 71 [a0, a1, a2, a3, a4, some (.int x), a6] [s1, s0] M 0 0 Z ↔ Run d 16 73 [a0, a1, a2, a3, a4, some (.int x), a6] [.int x, s1, s0] M 0 0 Z := R_local (gd16 dX1_hang_71) rfl rfl rfl
theorem z16_73 : Run d 16 73 [a0, a1, a2, a3, a4, a5, a6] [.int y, .int x, s0] M 0 0 Z ↔ Run d 16 74 [a0, a1, a2, a3, a4, a5, a6] [.int (x - y), s0] M 0 0 Z := R_arith (gd16 dX1_hang_73) rfl
theorem z16_74 : Run d 16 74 [a0, a1, a2, a3, a4, a5, a6] [.int y, .int x] M 0 0 Z ↔ Run d 16 77 [a0, a1, a2, a3, a4, a5, a6] [.int (if y < x then y else x)] M 0 0 Z := R_prim (gd16 dX1_hang_74) rfl rfl rfl rfl rfl rfl gc_1_102 rfl (by decide) rfl (Nat.le_of_ble_eq_true rfl)
theorem z16_77 : Run d 16 77 [a0, a1, a2, a3, a4, a5, a6] [.int x] M 0 0 Z ↔ Run d 16 79 [a0, a1, a2, a3, a4, a5, some (.int x)] [] M 0 0 Z := R_local (gd16 dX1_hang_77) rfl rfl rfl
theorem z16_79 : Run d 16 79 [some (.ref o), a1, a2, a3, a4, a5, a6] [] M 0 0 Z ↔ Run d 16 80 [some (.ref o), a1, a2, a3, a4, a5, a6] [.ref o] M 0 0 Z := R_local (gd16 dX1_hang_79) rfl rfl rfl
theorem z16_80 : Run d 16 80 [a0, a1, a2, a3, a4, a5, a6] [.ref o] M 0 0 Z ↔ gObj M o 1 ∧ Run d 16 83 [a0, a1, a2, a3, a4, a5, a6] [va_rf (M.2.1 o 0)] M 0 0 Z := R_getR (gd16 dX1_hang_80) rfl gf_1_12 rfl
theorem z16_83 : Run d 16 83 [some (.ref o), a1, a2, a3, a4, a5, a6] [s0] M 0 0 Z ↔ Run d 16 84 [some (.ref o), a1, a2, a3, a4, a5, a6] [.ref o, s0] M 0 0 Z := R_local (gd16 dX1_hang_83) rfl rfl rfl
theorem z16_84 : Run d 16 84 [a0, a1, a2, a3, a4, a5, a6] [.ref o, s0] M 0 0 Z ↔ gObj M o 1 ∧ Run d 16 87 [a0, a1, a2, a3, a4, a5, a6] [.int (M.1 o 9), s0] M 0 0 Z := R_getI (gd16 dX1_hang_84) rfl gf_1_44 rfl
theorem z16_87 : Run d 16 87 [some (.ref o), a1, a2, a3, a4, a5, a6] [s1, s0] M 0 0 Z ↔ Run d 16 88 [some (.ref o), a1, a2, a3, a4, a5, a6] [.ref o, s1, s0] M 0 0 Z := R_local (gd16 dX1_hang_87) rfl rfl rfl
theorem z16_88 : Run d 16 88 [a0, a1, a2, a3, a4, a5, a6] [.ref o, s1, s0] M 0 0 Z ↔ gObj M o 1 ∧ Run d 16 91 [a0, a1, a2, a3, a4, a5, a6] [.int (M.1 o 5), s1, s0] M 0 0 Z := R_getI (gd16 dX1_hang_88) rfl gf_1_32 rfl
theorem z16_91 : Run d 16 91 [a0, a1, a2, a3, a4, a5, a6] [s2, s1, s0] M 0 0 Z ↔ Run d 16 92 [a0, a1, a2, a3, a4, a5, a6] [.int 1, s2, s1, s0] M 0 0 Z := R_iconst (gd16 dX1_hang_91) (by decide)
theorem z16_92 : Run d 16 92 [a0, a1, a2, a3, a4, a5, a6] [.int y, .int x, s1, s0] M 0 0 Z ↔ Run d 16 93 [a0, a1, a2, a3, a4, a5, a6] [.int (x - y), s1, s0] M 0 0 Z := R_arith (gd16 dX1_hang_92) rfl
theorem z16_93 : Run d 16 93 [a0, a1, a2, a3, some (.int x), a5, a6] [s2, s1, s0] M 0 0 Z ↔ Run d 16 95 [a0, a1, a2, a3, some (.int x), a5, a6] [.int x, s2, s1, s0] M 0 0 Z := R_local (gd16 dX1_hang_93) rfl rfl rfl
theorem z16_95 : Run d 16 95 [a0, a1, a2, a3, a4, a5, a6] [.int y, .int x, s1, s0] M 0 0 Z ↔ Run d 16 96 [a0, a1, a2, a3, a4, a5, a6] [.int (x - y), s1, s0] M 0 0 Z := R_arith (gd16 dX1_hang_95) rfl
theorem z16_96 : Run d 16 96 [some (.ref o), a1, a2, a3, a4, a5, a6] [s2, s1, s0] M 0 0 Z ↔ Run d 16 97 [some (.ref o), a1, a2, a3, a4, a5, a6] [.ref o, s2, s1, s0] M 0 0 Z := R_local (gd16 dX1_hang_96) rfl rfl rfl
theorem z16_97 : Run d 16 97 [a0, a1, a2, a3, a4, a5, a6] [.ref o, s2, s1, s0] M 0 0 Z ↔ gObj M o 1 ∧ Run d 16 100 [a0, a1, a2, a3, a4, a5, a6] [.int (M.1 o 6), s2, s1, s0] M 0 0 Z := R_getI (gd16 dX1_hang_97) rfl gf_1_35 rfl
theorem z16_100 : Run d 16 100 [some (.ref o), a1, a2, a3, a4, a5, a6] [s3, s2, s1, s0] M 0 0 Z ↔ Run d 16 101 [some (.ref o), a1, a2, a3, a4, a5, a6] [.ref o, s3, s2, s1, s0] M 0 0 Z := R_local (gd16 dX1_hang_100) rfl rfl rfl
theorem z16_101 : Run d 16 101 [a0, a1, a2, a3, a4, a5, a6] [.ref o, s3, s2, s1, s0] M 0 0 Z ↔ gObj M o 1 ∧ Run d 16 104 [a0, a1, a2, a3, a4, a5, a6] [.int (M.1 o 4), s3, s2, s1, s0] M 0 0 Z := R_getI (gd16 dX1_hang_101) rfl gf_1_29 rfl
theorem z16_104 : Run d 16 104 [a0, a1, a2, a3, a4, some (.int x), a6] [s4, s3, s2, s1, s0] M 0 0 Z ↔ Run d 16 106 [a0, a1, a2, a3, a4, some (.int x), a6] [.int x, s4, s3, s2, s1, s0] M 0 0 Z := R_local (gd16 dX1_hang_104) rfl rfl rfl
theorem z16_106 : Run d 16 106 [a0, a1, a2, a3, a4, a5, a6] [.int y, .int x, s3, s2, s1, s0] M 0 0 Z ↔ Run d 16 107 [a0, a1, a2, a3, a4, a5, a6] [.int (x + y), s3, s2, s1, s0] M 0 0 Z := R_arith (gd16 dX1_hang_106) rfl
theorem z16_107 : Run d 16 107 [a0, a1, a2, a3, a4, a5, some (.int x)] [s4, s3, s2, s1, s0] M 0 0 Z ↔ Run d 16 109 [a0, a1, a2, a3, a4, a5, some (.int x)] [.int x, s4, s3, s2, s1, s0] M 0 0 Z := R_local (gd16 dX1_hang_107) rfl rfl rfl
theorem z16_109 : Run d 16 109 [a0, a1, a2, a3, a4, a5, a6] [s5, s4, s3, s2, s1, s0] M 0 0 Z ↔ Run d 16 110 [a0, a1, a2, a3, a4, a5, a6] [.int 1, s5, s4, s3, s2, s1, s0] M 0 0 Z := R_iconst (gd16 dX1_hang_109) (by decide)
theorem z16_110 : Run d 16 110 [some (.ref o), a1, a2, a3, a4, a5, a6] [s6, s5, s4, s3, s2, s1, s0] M 0 0 Z ↔ Run d 16 111 [some (.ref o), a1, a2, a3, a4, a5, a6] [.ref o, s6, s5, s4, s3, s2, s1, s0] M 0 0 Z := R_local (gd16 dX1_hang_110) rfl rfl rfl
theorem z16_111 : Run d 16 111 [a0, a1, a2, a3, a4, a5, a6] [.ref o, s6, s5, s4, s3, s2, s1, s0] M 0 0 Z ↔ gObj M o 1 ∧ Run d 16 114 [a0, a1, a2, a3, a4, a5, a6] [.int (M.1 o 8), s6, s5, s4, s3, s2, s1, s0] M 0 0 Z := R_getI (gd16 dX1_hang_111) rfl gf_1_41 rfl
theorem z16_114 : Run d 16 114 [a0, a1, a2, a3, a4, a5, a6] [s7, s6, s5, s4, s3, s2, s1, .ref b] M 0 0 Z ↔ gObj M b 4 ∧ Call d 40 [.ref b, s1, s2, s3, s4, s5, s6, s7] M (fun r M1 => Run d 16 117 [a0, a1, a2, a3, a4, a5, a6] (r.toList ++ []) M1 0 0 Z) := R_callV (gd16 dX1_hang_114) rfl rfl rfl rfl rfl rfl gc_1_94 rfl rfl (Nat.le_of_ble_eq_true rfl) (Nat.le_of_ble_eq_true rfl) rfl rfl (Nat.le_of_ble_eq_true rfl) (Nat.le_of_ble_eq_true rfl)
theorem z16_117 : Run d 16 117 [a0, a1, a2, a3, some (.int x), a5, a6] [] M 0 0 Z ↔ Run d 16 120 [a0, a1, a2, a3, some (.int (x + 1)), a5, a6] [] M 0 0 Z := R_iinc (gd16 dX1_hang_117) (by decide) rfl rfl
theorem z16_120 : Run d 16 120 [a0, a1, a2, a3, a4, a5, a6] [] M 0 0 Z ↔ Run d 16 57 [a0, a1, a2, a3, a4, a5, a6] [] M 0 0 Z := R_goto (gd16 dX1_hang_120) (show gTgt 120 (-63) = some 57 by decide)
theorem z16_123 : Run d 16 123 [some (.ref o), a1, a2, a3, a4, a5, a6] [] M 0 0 Z ↔ Run d 16 124 [some (.ref o), a1, a2, a3, a4, a5, a6] [.ref o] M 0 0 Z := R_local (gd16 dX1_hang_123) rfl rfl rfl
theorem z16_124 : Run d 16 124 [a0, a1, a2, a3, a4, a5, a6] [.ref o] M 0 0 Z ↔ Run d 16 125 [a0, a1, a2, a3, a4, a5, a6] [.ref o, .ref o] M 0 0 Z := R_arith (gd16 dX1_hang_124) rfl
theorem z16_125 : Run d 16 125 [a0, a1, a2, a3, a4, a5, a6] [.ref o, s0] M 0 0 Z ↔ gObj M o 1 ∧ Run d 16 128 [a0, a1, a2, a3, a4, a5, a6] [.int (M.1 o 4), s0] M 0 0 Z := R_getI (gd16 dX1_hang_125) rfl gf_1_29 rfl
theorem z16_128 : Run d 16 128 [a0, some (.int x), a2, a3, a4, a5, a6] [s1, s0] M 0 0 Z ↔ Run d 16 129 [a0, some (.int x), a2, a3, a4, a5, a6] [.int x, s1, s0] M 0 0 Z := R_local (gd16 dX1_hang_128) rfl rfl rfl
theorem z16_129 : Run d 16 129 [a0, a1, a2, a3, a4, a5, a6] [.int y, .int x, s0] M 0 0 Z ↔ Run d 16 130 [a0, a1, a2, a3, a4, a5, a6] [.int (x + y), s0] M 0 0 Z := R_arith (gd16 dX1_hang_129) rfl
theorem z16_130 : Run d 16 130 [a0, a1, a2, a3, a4, a5, a6] [.int x, .ref o] M 0 0 Z ↔ gObj M o 1 ∧ Run d 16 133 [a0, a1, a2, a3, a4, a5, a6] [] (gsI M o 4 x) 0 0 Z := R_putI (gd16 dX1_hang_130) rfl gf_1_29 (Or.inl rfl) rfl
theorem z16_133 : Run d 16 133 [some (.ref o), a1, a2, a3, a4, a5, a6] [] M 0 0 Z ↔ Run d 16 134 [some (.ref o), a1, a2, a3, a4, a5, a6] [.ref o] M 0 0 Z := R_local (gd16 dX1_hang_133) rfl rfl rfl
theorem z16_134 : Run d 16 134 [a0, a1, a2, a3, a4, a5, a6] [.ref o] M 0 0 Z ↔ Run d 16 135 [a0, a1, a2, a3, a4, a5, a6] [.ref o, .ref o] M 0 0 Z := R_arith (gd16 dX1_hang_134) rfl
theorem z16_135 : Run d 16 135 [a0, a1, a2, a3, a4, a5, a6] [.ref o, s0] M 0 0 Z ↔ gObj M o 1 ∧ Run d 16 138 [a0, a1, a2, a3, a4, a5, a6] [.int (M.1 o 13), s0] M 0 0 Z := R_getI (gd16 dX1_hang_135) rfl gf_1_57 rfl
theorem z16_138 : Run d 16 138 [a0, a1, a2, a3, a4, a5, a6] [s1, s0] M 0 0 Z ↔ Run d 16 139 [a0, a1, a2, a3, a4, a5, a6] [.int 0, s1, s0] M 0 0 Z := R_iconst (gd16 dX1_hang_138) (by decide)
theorem z16_139 : Run d 16 139 [a0, some (.int x), a2, a3, a4, a5, a6] [s2, s1, s0] M 0 0 Z ↔ Run d 16 140 [a0, some (.int x), a2, a3, a4, a5, a6] [.int x, s2, s1, s0] M 0 0 Z := R_local (gd16 dX1_hang_139) rfl rfl rfl
theorem z16_140 : Run d 16 140 [a0, a1, a2, a3, a4, a5, a6] [s3, s2, s1, s0] M 0 0 Z ↔ Run d 16 141 [a0, a1, a2, a3, a4, a5, a6] [.int 5, s3, s2, s1, s0] M 0 0 Z := R_iconst (gd16 dX1_hang_140) (by decide)
theorem z16_141 : Run d 16 141 [a0, a1, a2, some (.int x), a4, a5, a6] [s4, s3, s2, s1, s0] M 0 0 Z ↔ Run d 16 142 [a0, a1, a2, some (.int x), a4, a5, a6] [.int x, s4, s3, s2, s1, s0] M 0 0 Z := R_local (gd16 dX1_hang_141) rfl rfl rfl
theorem z16_142 : Run d 16 142 [a0, a1, a2, a3, a4, a5, a6] [.int y, .int x, s3, s2, s1, s0] M 0 0 Z ↔ Run d 16 143 [a0, a1, a2, a3, a4, a5, a6] [.int (x * y), s3, s2, s1, s0] M 0 0 Z := R_arith (gd16 dX1_hang_142) rfl
theorem z16_143 : Run d 16 143 [a0, a1, a2, a3, a4, a5, a6] [.int y, .int x, s2, s1, s0] M 0 0 Z ↔ Run d 16 144 [a0, a1, a2, a3, a4, a5, a6] [.int (x - y), s2, s1, s0] M 0 0 Z := R_arith (gd16 dX1_hang_143) rfl
theorem z16_144 : Run d 16 144 [a0, a1, a2, a3, a4, a5, a6] [.int y, .int x, s1, s0] M 0 0 Z ↔ Run d 16 147 [a0, a1, a2, a3, a4, a5, a6] [.int (if x < y then y else x), s1, s0] M 0 0 Z := R_prim (gd16 dX1_hang_144) rfl rfl rfl rfl rfl rfl gc_1_77 rfl (by decide) rfl (Nat.le_of_ble_eq_true rfl)
theorem z16_147 : Run d 16 147 [a0, a1, a2, a3, a4, a5, a6] [.int y, .int x, s0] M 0 0 Z ↔ Run d 16 148 [a0, a1, a2, a3, a4, a5, a6] [.int (x + y), s0] M 0 0 Z := R_arith (gd16 dX1_hang_147) rfl
theorem z16_148 : Run d 16 148 [a0, a1, a2, a3, a4, a5, a6] [.int x, .ref o] M 0 0 Z ↔ gObj M o 1 ∧ Run d 16 151 [a0, a1, a2, a3, a4, a5, a6] [] (gsI M o 13 x) 0 0 Z := R_putI (gd16 dX1_hang_148) rfl gf_1_57 (Or.inl rfl) rfl
theorem z16_151 : Run d 16 151 [some (.ref o), a1, a2, a3, a4, a5, a6] [] M 0 0 Z ↔ Run d 16 152 [some (.ref o), a1, a2, a3, a4, a5, a6] [.ref o] M 0 0 Z := R_local (gd16 dX1_hang_151) rfl rfl rfl
theorem z16_152 : Run d 16 152 [a0, a1, a2, a3, a4, a5, a6] [s0] M 0 0 Z ↔ Run d 16 153 [a0, a1, a2, a3, a4, a5, a6] [.int 1, s0] M 0 0 Z := R_iconst (gd16 dX1_hang_152) (by decide)
theorem z16_153 : Run d 16 153 [a0, a1, a2, a3, a4, a5, a6] [.int x, .ref o] M 0 0 Z ↔ gObj M o 1 ∧ (x = 0 ∨ x = 1) ∧ Run d 16 156 [a0, a1, a2, a3, a4, a5, a6] [] (gsI M o 11 x) 0 0 Z := R_putZ (gd16 dX1_hang_153) rfl gf_1_50 (Or.inl rfl) rfl
theorem z16_156 : Run d 16 156 [some (.ref o), a1, a2, a3, a4, a5, a6] [] M 0 0 Z ↔ Run d 16 157 [some (.ref o), a1, a2, a3, a4, a5, a6] [.ref o] M 0 0 Z := R_local (gd16 dX1_hang_156) rfl rfl rfl
theorem z16_157 : Run d 16 157 [a0, a1, a2, a3, a4, a5, a6] [s0] M 0 0 Z ↔ Run d 16 158 [a0, a1, a2, a3, a4, a5, a6] [.int (-1), s0] M 0 0 Z := R_iconst (gd16 dX1_hang_157) (by decide)
theorem z16_158 : Run d 16 158 [some (.ref o), a1, a2, a3, a4, a5, a6] [s1, s0] M 0 0 Z ↔ Run d 16 159 [some (.ref o), a1, a2, a3, a4, a5, a6] [.ref o, s1, s0] M 0 0 Z := R_local (gd16 dX1_hang_158) rfl rfl rfl
theorem z16_159 : Run d 16 159 [a0, a1, a2, a3, a4, a5, a6] [.ref o, s1, s0] M 0 0 Z ↔ gObj M o 1 ∧ Run d 16 162 [a0, a1, a2, a3, a4, a5, a6] [.int (M.1 o 5), s1, s0] M 0 0 Z := R_getI (gd16 dX1_hang_159) rfl gf_1_32 rfl
theorem z16_162 : Run d 16 162 [a0, a1, some (.int x), a3, a4, a5, a6] [s2, s1, s0] M 0 0 Z ↔ Run d 16 163 [a0, a1, some (.int x), a3, a4, a5, a6] [.int x, s2, s1, s0] M 0 0 Z := R_local (gd16 dX1_hang_162) rfl rfl rfl
theorem z16_163 : Run d 16 163 [a0, a1, a2, a3, a4, a5, a6] [.int y, .int x, s1, s0] M 0 0 Z ↔ Run d 16 164 [a0, a1, a2, a3, a4, a5, a6] [.int (x - y), s1, s0] M 0 0 Z := R_arith (gd16 dX1_hang_163) rfl
theorem z16_164 : Run d 16 164 [a0, a1, a2, a3, a4, a5, a6] [.int y, .int x, s0] M 0 0 Z ↔ Run d 16 167 [a0, a1, a2, a3, a4, a5, a6] [.int (if x < y then y else x), s0] M 0 0 Z := R_prim (gd16 dX1_hang_164) rfl rfl rfl rfl rfl rfl gc_1_77 rfl (by decide) rfl (Nat.le_of_ble_eq_true rfl)
theorem z16_167 : Run d 16 167 [a0, a1, a2, a3, a4, a5, a6] [.int x, .ref o] M 0 0 Z ↔ gObj M o 1 ∧ Run d 16 170 [a0, a1, a2, a3, a4, a5, a6] [] (gsI M o 12 x) 0 0 Z := R_putI (gd16 dX1_hang_167) rfl gf_1_54 (Or.inl rfl) rfl
theorem z16_170 : Run d 16 170 [some (.ref o), a1, a2, a3, a4, a5, a6] [] M 0 0 Z ↔ Run d 16 171 [some (.ref o), a1, a2, a3, a4, a5, a6] [.ref o] M 0 0 Z := R_local (gd16 dX1_hang_170) rfl rfl rfl
theorem z16_171 : Run d 16 171 [a0, a1, a2, a3, a4, a5, a6] [.ref o] M 0 0 Z ↔ Run d 16 172 [a0, a1, a2, a3, a4, a5, a6] [.ref o, .ref o] M 0 0 Z := R_arith (gd16 dX1_hang_171) rfl
theorem z16_172 : Run d 16 172 [a0, a1, a2, a3, a4, a5, a6] [.ref o, s0] M 0 0 Z ↔ gObj M o 1 ∧ Run d 16 175 [a0, a1, a2, a3, a4, a5, a6] [.int (M.1 o 9), s0] M 0 0 Z := R_getI (gd16 dX1_hang_172) rfl gf_1_44 rfl
theorem z16_175 : Run d 16 175 [a0, a1, a2, a3, a4, a5, a6] [s1, s0] M 0 0 Z ↔ Run d 16 176 [a0, a1, a2, a3, a4, a5, a6] [.int 1, s1, s0] M 0 0 Z := R_iconst (gd16 dX1_hang_175) (by decide)
theorem z16_176 : Run d 16 176 [a0, a1, a2, a3, a4, a5, a6] [.int y, .int x, s0] M 0 0 Z ↔ Run d 16 177 [a0, a1, a2, a3, a4, a5, a6] [.int (x + y), s0] M 0 0 Z := R_arith (gd16 dX1_hang_176) rfl
theorem z16_177 : Run d 16 177 [a0, a1, a2, a3, a4, a5, a6] [.int x, .ref o] M 0 0 Z ↔ gObj M o 1 ∧ Run d 16 180 [a0, a1, a2, a3, a4, a5, a6] [] (gsI M o 9 x) 0 0 Z := R_putI (gd16 dX1_hang_177) rfl gf_1_44 (Or.inl rfl) rfl
theorem z16_180 : Run d 16 180 [a0, a1, a2, a3, a4, a5, a6] [] M 0 0 Z ↔ Run d 16 181 [a0, a1, a2, a3, a4, a5, a6] [.int 0] M 0 0 Z := R_iconst (gd16 dX1_hang_180) (by decide)
theorem z16_181 : Run d 16 181 [a0, a1, a2, a3, a4, a5, a6] [.int x] M 0 0 Z ↔ Z (some (.int x)) M := R_iret (gd16 dX1_hang_181) rfl
theorem e16 : Call (d + 1) 16 [s0, s1] M Z ↔ Run d 16 0 [some s0, some s1, none, none, none, none, none] [] M 0 0 Z := Call_iff (Nat.lt_of_lt_of_le (Nat.lt_succ_self 16) (Nat.le_of_ble_eq_true rfl)) (Nat.le_of_ble_eq_true rfl)
/-! 17: X1_told (I)I -/
theorem gd17 {pc : Nat} {r : Except _ _} (h : decode cX1_told pc = r) : decode (gby 17) pc = r := h
theorem z17_0 : Run d 17 0 [a0, some (.int x)] [] M 0 0 Z ↔ Run d 17 1 [a0, some (.int x)] [.int x] M 0 0 Z := R_local (gd17 dX1_told_0) rfl rfl rfl
theorem z17_1 : Run d 17 1 [a0, a1] [.int x] M 0 0 Z ↔ (x = 0 → Run d 17 64 [a0, a1] [] M 0 0 Z) ∧ (¬ x = 0 → ((x = 1 → Run d 17 69 [a0, a1] [] M 0 0 Z) ∧ (¬ x = 1 → ((x = 2 → Run d 17 74 [a0, a1] [] M 0 0 Z) ∧ (¬ x = 2 → ((x = 3 → Run d 17 82 [a0, a1] [] M 0 0 Z) ∧ (¬ x = 3 → ((x = 4 → Run d 17 87 [a0, a1] [] M 0 0 Z) ∧ (¬ x = 4 → ((x = 5 → Run d 17 92 [a0, a1] [] M 0 0 Z) ∧ (¬ x = 5 → ((x = 6 → Run d 17 97 [a0, a1] [] M 0 0 Z) ∧ (¬ x = 6 → ((x = 7 → Run d 17 102 [a0, a1] [] M 0 0 Z) ∧ (¬ x = 7 → ((x = 8 → Run d 17 107 [a0, a1] [] M 0 0 Z) ∧ (¬ x = 8 → ((x = 9 → Run d 17 112 [a0, a1] [] M 0 0 Z) ∧ (¬ x = 9 → ((x = 10 → Run d 17 117 [a0, a1] [] M 0 0 Z) ∧ (¬ x = 10 → ((x = 11 → Run d 17 122 [a0, a1] [] M 0 0 Z) ∧ (¬ x = 11 → (Run d 17 127 [a0, a1] [] M 0 0 Z)))))))))))))))))))))))) := R_table (tbl := [(0, 64), (1, 69), (2, 74), (3, 82), (4, 87), (5, 92), (6, 97), (7, 102), (8, 107), (9, 112), (10, 117), (11, 122)]) (dt := 127) (gd17 dX1_told_1) (by decide) (by decide) (by decide)
theorem z17_64 : Run d 17 64 [some (.ref o), a1] [] M 0 0 Z ↔ Run d 17 65 [some (.ref o), a1] [.ref o] M 0 0 Z := R_local (gd17 dX1_told_64) rfl rfl rfl
theorem z17_65 : Run d 17 65 [a0, a1] [.ref b] M 0 0 Z ↔ gObj M b 1 ∧ Call d 6 [.ref b] M (fun r M1 => Run d 17 68 [a0, a1] (r.toList ++ []) M1 0 0 Z) := R_callV (gd17 dX1_told_65) rfl rfl rfl rfl rfl rfl gc_1_91 rfl rfl (Nat.le_of_ble_eq_true rfl) (Nat.le_of_ble_eq_true rfl) rfl rfl (Nat.le_of_ble_eq_true rfl) (Nat.le_of_ble_eq_true rfl)
theorem z17_68 : Run d 17 68 [a0, a1] [.int x] M 0 0 Z ↔ Z (some (.int x)) M := R_iret (gd17 dX1_told_68) rfl
theorem z17_69 : Run d 17 69 [some (.ref o), a1] [] M 0 0 Z ↔ Run d 17 70 [some (.ref o), a1] [.ref o] M 0 0 Z := R_local (gd17 dX1_told_69) rfl rfl rfl
theorem z17_70 : Run d 17 70 [a0, a1] [.ref o] M 0 0 Z ↔ gObj M o 1 ∧ Run d 17 73 [a0, a1] [.int (M.1 o 9)] M 0 0 Z := R_getI (gd17 dX1_told_70) rfl gf_1_44 rfl
theorem z17_73 : Run d 17 73 [a0, a1] [.int x] M 0 0 Z ↔ Z (some (.int x)) M := R_iret (gd17 dX1_told_73) rfl
theorem z17_74 : Run d 17 74 [some (.ref o), a1] [] M 0 0 Z ↔ Run d 17 75 [some (.ref o), a1] [.ref o] M 0 0 Z := R_local (gd17 dX1_told_74) rfl rfl rfl
theorem z17_75 : Run d 17 75 [a0, a1] [.ref o] M 0 0 Z ↔ gObj M o 1 ∧ Run d 17 78 [a0, a1] [va_rf (M.2.1 o 0)] M 0 0 Z := R_getR (gd17 dX1_told_75) rfl gf_1_12 rfl
theorem z17_78 : Run d 17 78 [a0, a1] [.ref o] M 0 0 Z ↔ gObj M o 4 ∧ Run d 17 81 [a0, a1] [.int (M.1 o 8)] M 0 0 Z := R_getI (gd17 dX1_told_78) rfl gf_1_74 rfl
theorem z17_81 : Run d 17 81 [a0, a1] [.int x] M 0 0 Z ↔ Z (some (.int x)) M := R_iret (gd17 dX1_told_81) rfl
theorem z17_82 : Run d 17 82 [some (.ref o), a1] [] M 0 0 Z ↔ Run d 17 83 [some (.ref o), a1] [.ref o] M 0 0 Z := R_local (gd17 dX1_told_82) rfl rfl rfl
theorem z17_83 : Run d 17 83 [a0, a1] [.ref o] M 0 0 Z ↔ gObj M o 1 ∧ Run d 17 86 [a0, a1] [.int (M.1 o 10)] M 0 0 Z := R_getI (gd17 dX1_told_83) rfl gf_1_47 rfl
theorem z17_86 : Run d 17 86 [a0, a1] [.int x] M 0 0 Z ↔ Z (some (.int x)) M := R_iret (gd17 dX1_told_86) rfl
theorem z17_87 : Run d 17 87 [some (.ref o), a1] [] M 0 0 Z ↔ Run d 17 88 [some (.ref o), a1] [.ref o] M 0 0 Z := R_local (gd17 dX1_told_87) rfl rfl rfl
theorem z17_88 : Run d 17 88 [a0, a1] [.ref o] M 0 0 Z ↔ gObj M o 1 ∧ Run d 17 91 [a0, a1] [.int (M.1 o 5)] M 0 0 Z := R_getI (gd17 dX1_told_88) rfl gf_1_32 rfl
theorem z17_91 : Run d 17 91 [a0, a1] [.int x] M 0 0 Z ↔ Z (some (.int x)) M := R_iret (gd17 dX1_told_91) rfl
theorem z17_92 : Run d 17 92 [some (.ref o), a1] [] M 0 0 Z ↔ Run d 17 93 [some (.ref o), a1] [.ref o] M 0 0 Z := R_local (gd17 dX1_told_92) rfl rfl rfl
theorem z17_93 : Run d 17 93 [a0, a1] [.ref o] M 0 0 Z ↔ gObj M o 1 ∧ Run d 17 96 [a0, a1] [.int (M.1 o 6)] M 0 0 Z := R_getI (gd17 dX1_told_93) rfl gf_1_35 rfl
theorem z17_96 : Run d 17 96 [a0, a1] [.int x] M 0 0 Z ↔ Z (some (.int x)) M := R_iret (gd17 dX1_told_96) rfl
theorem z17_97 : Run d 17 97 [some (.ref o), a1] [] M 0 0 Z ↔ Run d 17 98 [some (.ref o), a1] [.ref o] M 0 0 Z := R_local (gd17 dX1_told_97) rfl rfl rfl
theorem z17_98 : Run d 17 98 [a0, a1] [.ref o] M 0 0 Z ↔ gObj M o 1 ∧ Run d 17 101 [a0, a1] [.int (M.1 o 7)] M 0 0 Z := R_getI (gd17 dX1_told_98) rfl gf_1_38 rfl
theorem z17_101 : Run d 17 101 [a0, a1] [.int x] M 0 0 Z ↔ Z (some (.int x)) M := R_iret (gd17 dX1_told_101) rfl
theorem z17_102 : Run d 17 102 [some (.ref o), a1] [] M 0 0 Z ↔ Run d 17 103 [some (.ref o), a1] [.ref o] M 0 0 Z := R_local (gd17 dX1_told_102) rfl rfl rfl
theorem z17_103 : Run d 17 103 [a0, a1] [.ref o] M 0 0 Z ↔ gObj M o 1 ∧ Run d 17 106 [a0, a1] [.int (M.1 o 8)] M 0 0 Z := R_getI (gd17 dX1_told_103) rfl gf_1_41 rfl
theorem z17_106 : Run d 17 106 [a0, a1] [.int x] M 0 0 Z ↔ Z (some (.int x)) M := R_iret (gd17 dX1_told_106) rfl
theorem z17_107 : Run d 17 107 [some (.ref o), a1] [] M 0 0 Z ↔ Run d 17 108 [some (.ref o), a1] [.ref o] M 0 0 Z := R_local (gd17 dX1_told_107) rfl rfl rfl
theorem z17_108 : Run d 17 108 [a0, a1] [.ref o] M 0 0 Z ↔ gObj M o 1 ∧ Run d 17 111 [a0, a1] [.int (M.1 o 12)] M 0 0 Z := R_getI (gd17 dX1_told_108) rfl gf_1_54 rfl
theorem z17_111 : Run d 17 111 [a0, a1] [.int x] M 0 0 Z ↔ Z (some (.int x)) M := R_iret (gd17 dX1_told_111) rfl
theorem z17_112 : Run d 17 112 [some (.ref o), a1] [] M 0 0 Z ↔ Run d 17 113 [some (.ref o), a1] [.ref o] M 0 0 Z := R_local (gd17 dX1_told_112) rfl rfl rfl
theorem z17_113 : Run d 17 113 [a0, a1] [.ref o] M 0 0 Z ↔ gObj M o 1 ∧ Run d 17 116 [a0, a1] [.int (M.1 o 13)] M 0 0 Z := R_getI (gd17 dX1_told_113) rfl gf_1_57 rfl
theorem z17_116 : Run d 17 116 [a0, a1] [.int x] M 0 0 Z ↔ Z (some (.int x)) M := R_iret (gd17 dX1_told_116) rfl
theorem z17_117 : Run d 17 117 [some (.ref o), a1] [] M 0 0 Z ↔ Run d 17 118 [some (.ref o), a1] [.ref o] M 0 0 Z := R_local (gd17 dX1_told_117) rfl rfl rfl
theorem z17_118 : Run d 17 118 [a0, a1] [.ref o] M 0 0 Z ↔ gObj M o 1 ∧ Run d 17 121 [a0, a1] [.int (M.1 o 14)] M 0 0 Z := R_getI (gd17 dX1_told_118) rfl gf_1_60 rfl
theorem z17_121 : Run d 17 121 [a0, a1] [.int x] M 0 0 Z ↔ Z (some (.int x)) M := R_iret (gd17 dX1_told_121) rfl
theorem z17_122 : Run d 17 122 [some (.ref o), a1] [] M 0 0 Z ↔ Run d 17 123 [some (.ref o), a1] [.ref o] M 0 0 Z := R_local (gd17 dX1_told_122) rfl rfl rfl
theorem z17_123 : Run d 17 123 [a0, a1] [.ref o] M 0 0 Z ↔ gObj M o 1 ∧ Run d 17 126 [a0, a1] [.int (M.1 o 15)] M 0 0 Z := R_getI (gd17 dX1_told_123) rfl gf_1_63 rfl
theorem z17_126 : Run d 17 126 [a0, a1] [.int x] M 0 0 Z ↔ Z (some (.int x)) M := R_iret (gd17 dX1_told_126) rfl
theorem z17_127 : Run d 17 127 [a0, a1] [] M 0 0 Z ↔ Run d 17 128 [a0, a1] [.int (-1)] M 0 0 Z := R_iconst (gd17 dX1_told_127) (by decide)
theorem z17_128 : Run d 17 128 [a0, a1] [.int x] M 0 0 Z ↔ Z (some (.int x)) M := R_iret (gd17 dX1_told_128) rfl
theorem e17 : Call (d + 1) 17 [s0, s1] M Z ↔ Run d 17 0 [some s0, some s1] [] M 0 0 Z := Call_iff (Nat.lt_of_lt_of_le (Nat.lt_succ_self 17) (Nat.le_of_ble_eq_true rfl)) (Nat.le_of_ble_eq_true rfl)
/-! 18: X2_init ()V -/
theorem gd18 {pc : Nat} {r : Except _ _} (h : decode cX2_init pc = r) : decode (gby 18) pc = r := h
theorem z18_0 : Run d 18 0 [some (.ref o)] [] M 0 0 Z ↔ Run d 18 1 [some (.ref o)] [.ref o] M 0 0 Z := R_local (gd18 dX2_init_0) rfl rfl rfl
theorem z18_1 : Run d 18 1 [a0] [.ref o] M 0 0 Z ↔ Run d 18 4 [a0] [] M 0 0 Z := R_prim (gd18 dX2_init_1) rfl rfl rfl rfl rfl rfl gc_2_3 rfl (by decide) rfl (Nat.le_of_ble_eq_true rfl)
theorem z18_4 : Run d 18 4 [some (.ref o)] [] M 0 0 Z ↔ Run d 18 5 [some (.ref o)] [.ref o] M 0 0 Z := R_local (gd18 dX2_init_4) rfl rfl rfl
theorem z18_5 : Run d 18 5 [a0] [s0] M 0 0 Z ↔ Run d 18 7 [a0] [.int 32, s0] M 0 0 Z := R_bipush (gd18 dX2_init_5) (by decide)
theorem z18_7 : Run d 18 7 [a0] [.int 32, s0] M 0 0 Z ↔ Run d 18 9 [a0] [.ref M.2.2.length, s0] (gNew M (.inr (0, 32))) 1 32 Z := R_newa2 (gd18 dX2_init_7) (t := 0) (by decide) (n := 32) (by decide) (by decide)
theorem z18_9 : Run d 18 9 [a0] [v, .ref o] M 1 32 Z ↔ gObj M o 2 ∧ gisRef v = true ∧ Run d 18 12 [a0] [] (gsR M o 0 (gU v)) 1 32 Z := R_putR (gd18 dX2_init_9) rfl gf_2_9 (Or.inr ⟨rfl, rfl⟩) rfl
theorem z18_12 : Run d 18 12 [some (.ref o)] [] M 1 32 Z ↔ Run d 18 13 [some (.ref o)] [.ref o] M 1 32 Z := R_local (gd18 dX2_init_12) rfl rfl rfl
theorem z18_13 : Run d 18 13 [a0] [s0] M 1 32 Z ↔ Run d 18 14 [a0] [.int 0, s0] M 1 32 Z := R_iconst (gd18 dX2_init_13) (by decide)
theorem z18_14 : Run d 18 14 [a0] [.int x, .ref o] M 1 32 Z ↔ gObj M o 2 ∧ Run d 18 17 [a0] [] (gsI M o 1 x) 1 32 Z := R_putI (gd18 dX2_init_14) rfl gf_2_15 (Or.inl rfl) rfl
theorem z18_17 : Run d 18 17 [some (.ref o)] [] M 1 32 Z ↔ Run d 18 18 [some (.ref o)] [.ref o] M 1 32 Z := R_local (gd18 dX2_init_17) rfl rfl rfl
theorem z18_18 : Run d 18 18 [a0] [s0] M 1 32 Z ↔ Run d 18 19 [a0] [.int 3, s0] M 1 32 Z := R_iconst (gd18 dX2_init_18) (by decide)
theorem z18_19 : Run d 18 19 [a0] [.int 3, s0] M 1 32 Z ↔ Run d 18 21 [a0] [.ref M.2.2.length, s0] (gNew M (.inr (0, 3))) 2 35 Z := R_newa2 (gd18 dX2_init_19) (t := 0) (by decide) (n := 3) (by decide) (by decide)
theorem z18_21 : Run d 18 21 [a0] [v, .ref o] M 2 35 Z ↔ gObj M o 2 ∧ gisRef v = true ∧ Run d 18 24 [a0] [] (gsR M o 2 (gU v)) 2 35 Z := R_putR (gd18 dX2_init_21) rfl gf_2_21 (Or.inr ⟨rfl, rfl⟩) rfl
theorem z18_24 : Run d 18 24 [some (.ref o)] [] M 2 35 Z ↔ Run d 18 25 [some (.ref o)] [.ref o] M 2 35 Z := R_local (gd18 dX2_init_24) rfl rfl rfl
theorem z18_25 : Run d 18 25 [a0] [s0] M 2 35 Z ↔ Run d 18 26 [a0] [.int 3, s0] M 2 35 Z := R_iconst (gd18 dX2_init_25) (by decide)
theorem z18_26 : Run d 18 26 [a0] [.int 3, s0] M 2 35 Z ↔ Run d 18 28 [a0] [.ref M.2.2.length, s0] (gNew M (.inr (0, 3))) 3 38 Z := R_newa2 (gd18 dX2_init_26) (t := 0) (by decide) (n := 3) (by decide) (by decide)
theorem z18_28 : Run d 18 28 [a0] [v, .ref o] M 3 38 Z ↔ gObj M o 2 ∧ gisRef v = true ∧ Run d 18 31 [a0] [] (gsR M o 3 (gU v)) 3 38 Z := R_putR (gd18 dX2_init_28) rfl gf_2_24 (Or.inr ⟨rfl, rfl⟩) rfl
theorem z18_31 : Run d 18 31 [some (.ref o)] [] M 3 38 Z ↔ Run d 18 32 [some (.ref o)] [.ref o] M 3 38 Z := R_local (gd18 dX2_init_31) rfl rfl rfl
theorem z18_32 : Run d 18 32 [a0] [s0] M 3 38 Z ↔ Run d 18 33 [a0] [.int 0, s0] M 3 38 Z := R_iconst (gd18 dX2_init_32) (by decide)
theorem z18_33 : Run d 18 33 [a0] [.int x, .ref o] M 3 38 Z ↔ gObj M o 2 ∧ Run d 18 36 [a0] [] (gsI M o 4 x) 3 38 Z := R_putI (gd18 dX2_init_33) rfl gf_2_27 (Or.inl rfl) rfl
theorem z18_36 : Run d 18 36 [some (.ref o)] [] M 3 38 Z ↔ Run d 18 37 [some (.ref o)] [.ref o] M 3 38 Z := R_local (gd18 dX2_init_36) rfl rfl rfl
theorem z18_37 : Run d 18 37 [a0] [s0] M 3 38 Z ↔ Run d 18 38 [a0] [.int 3, s0] M 3 38 Z := R_iconst (gd18 dX2_init_37) (by decide)
theorem z18_38 : Run d 18 38 [a0] [.int 3, s0] M 3 38 Z ↔ Run d 18 40 [a0] [.ref M.2.2.length, s0] (gNew M (.inr (0, 3))) 4 41 Z := R_newa2 (gd18 dX2_init_38) (t := 0) (by decide) (n := 3) (by decide) (by decide)
theorem z18_40 : Run d 18 40 [a0] [v, .ref o] M 4 41 Z ↔ gObj M o 2 ∧ gisRef v = true ∧ Run d 18 43 [a0] [] (gsR M o 5 (gU v)) 4 41 Z := R_putR (gd18 dX2_init_40) rfl gf_2_30 (Or.inr ⟨rfl, rfl⟩) rfl
theorem z18_43 : Run d 18 43 [some (.ref o)] [] M 4 41 Z ↔ Run d 18 44 [some (.ref o)] [.ref o] M 4 41 Z := R_local (gd18 dX2_init_43) rfl rfl rfl
theorem z18_44 : Run d 18 44 [a0] [s0] M 4 41 Z ↔ Run d 18 45 [a0] [.int 0, s0] M 4 41 Z := R_iconst (gd18 dX2_init_44) (by decide)
theorem z18_45 : Run d 18 45 [a0] [.int 0, s0] M 4 41 Z ↔ Run d 18 47 [a0] [.ref M.2.2.length, s0] (gNew M (.inr (0, 0))) 5 41 Z := R_newa2 (gd18 dX2_init_45) (t := 0) (by decide) (n := 0) (by decide) (by decide)
theorem z18_47 : Run d 18 47 [a0] [v, .ref o] M 5 41 Z ↔ gObj M o 2 ∧ gisRef v = true ∧ Run d 18 50 [a0] [] (gsR M o 6 (gU v)) 5 41 Z := R_putR (gd18 dX2_init_47) rfl gf_2_33 (Or.inl rfl) rfl
theorem z18_50 : Run d 18 50 [some (.ref o)] [] M 5 41 Z ↔ Run d 18 51 [some (.ref o)] [.ref o] M 5 41 Z := R_local (gd18 dX2_init_50) rfl rfl rfl
theorem z18_51 : Run d 18 51 [a0] [s0] M 5 41 Z ↔ Run d 18 52 [a0] [.int 0, s0] M 5 41 Z := R_iconst (gd18 dX2_init_51) (by decide)
theorem z18_52 : Run d 18 52 [a0] [.int x, .ref o] M 5 41 Z ↔ gObj M o 2 ∧ Run d 18 55 [a0] [] (gsI M o 7 x) 5 41 Z := R_putI (gd18 dX2_init_52) rfl gf_2_36 (Or.inl rfl) rfl
theorem z18_55 : Run d 18 55 [some (.ref o)] [] M 5 41 Z ↔ Run d 18 56 [some (.ref o)] [.ref o] M 5 41 Z := R_local (gd18 dX2_init_55) rfl rfl rfl
theorem z18_56 : Run d 18 56 [a0] [s0] M 5 41 Z ↔ Run d 18 57 [a0] [.int (-1), s0] M 5 41 Z := R_iconst (gd18 dX2_init_56) (by decide)
theorem z18_57 : Run d 18 57 [a0] [.int x, .ref o] M 5 41 Z ↔ gObj M o 2 ∧ Run d 18 60 [a0] [] (gsI M o 8 x) 5 41 Z := R_putI (gd18 dX2_init_57) rfl gf_2_39 (Or.inl rfl) rfl
theorem z18_60 : Run d 18 60 [some (.ref o)] [] M 5 41 Z ↔ Run d 18 61 [some (.ref o)] [.ref o] M 5 41 Z := R_local (gd18 dX2_init_60) rfl rfl rfl
theorem z18_61 : Run d 18 61 [a0] [s0] M 5 41 Z ↔ Run d 18 62 [a0] [.int 0, s0] M 5 41 Z := R_iconst (gd18 dX2_init_61) (by decide)
theorem z18_62 : Run d 18 62 [a0] [.int x, .ref o] M 5 41 Z ↔ gObj M o 2 ∧ (x = 0 ∨ x = 1) ∧ Run d 18 65 [a0] [] (gsI M o 9 x) 5 41 Z := R_putZ (gd18 dX2_init_62) rfl gf_2_42 (Or.inl rfl) rfl
theorem z18_65 : Run d 18 65 [a0] [] M 5 41 Z ↔ Z none M := R_vret (gd18 dX2_init_65) rfl
theorem e18 : Call (d + 1) 18 [s0] M Z ↔ Run d 18 0 [some s0] [] M 0 0 Z := Call_iff (Nat.lt_of_lt_of_le (Nat.lt_succ_self 18) (Nat.le_of_ble_eq_true rfl)) (Nat.le_of_ble_eq_true rfl)
/-! 19: X2_work (LClothSchool$Style;LClothSchool$Drape;I)V -/
theorem gd19 {pc : Nat} {r : Except _ _} (h : decode cX2_work pc = r) : decode (gby 19) pc = r := h
theorem z19_0 : Run d 19 0 [some (.ref o), a1, a2, a3, a4, a5, a6] [] M 0 0 Z ↔ Run d 19 1 [some (.ref o), a1, a2, a3, a4, a5, a6] [.ref o] M 0 0 Z := R_local (gd19 dX2_work_0) rfl rfl rfl
theorem z19_1 : Run d 19 1 [a0, some (.ref o), a2, a3, a4, a5, a6] [s0] M 0 0 Z ↔ Run d 19 2 [a0, some (.ref o), a2, a3, a4, a5, a6] [.ref o, s0] M 0 0 Z := R_local (gd19 dX2_work_1) rfl rfl rfl
theorem z19_1n : Run d 19 1 [a0, some .null, a2, a3, a4, a5, a6] [s0] M 0 0 Z ↔ Run d 19 2 [a0, some .null, a2, a3, a4, a5, a6] [.null, s0] M 0 0 Z := R_local (gd19 dX2_work_1) rfl rfl rfl
theorem z19_2 : Run d 19 2 [a0, a1, a2, a3, a4, a5, a6] [.ref o, s0] M 0 0 Z ↔ gObj M o 7 ∧ Run d 19 5 [a0, a1, a2, a3, a4, a5, a6] [va_rf (M.2.1 o 0), s0] M 0 0 Z := R_getR (gd19 dX2_work_2) rfl gf_2_46 rfl
theorem z19_5 : Run d 19 5 [a0, a1, a2, a3, a4, a5, a6] [v, .ref o] M 0 0 Z ↔ gObj M o 2 ∧ gisRef v = true ∧ Run d 19 8 [a0, a1, a2, a3, a4, a5, a6] [] (gsR M o 6 (gU v)) 0 0 Z := R_putR (gd19 dX2_work_5) rfl gf_2_33 (Or.inl rfl) rfl
theorem z19_8 : Run d 19 8 [some (.ref o), a1, a2, a3, a4, a5, a6] [] M 0 0 Z ↔ Run d 19 9 [some (.ref o), a1, a2, a3, a4, a5, a6] [.ref o] M 0 0 Z := R_local (gd19 dX2_work_8) rfl rfl rfl
theorem z19_9 : Run d 19 9 [a0, a1, a2, a3, a4, a5, a6] [s0] M 0 0 Z ↔ Run d 19 10 [a0, a1, a2, a3, a4, a5, a6] [.int 0, s0] M 0 0 Z := R_iconst (gd19 dX2_work_9) (by decide)
theorem z19_10 : Run d 19 10 [a0, a1, a2, a3, a4, a5, a6] [.int x, .ref o] M 0 0 Z ↔ gObj M o 2 ∧ Run d 19 13 [a0, a1, a2, a3, a4, a5, a6] [] (gsI M o 1 x) 0 0 Z := R_putI (gd19 dX2_work_10) rfl gf_2_15 (Or.inl rfl) rfl
theorem z19_13 : Run d 19 13 [some (.ref o), a1, a2, a3, a4, a5, a6] [] M 0 0 Z ↔ Run d 19 14 [some (.ref o), a1, a2, a3, a4, a5, a6] [.ref o] M 0 0 Z := R_local (gd19 dX2_work_13) rfl rfl rfl
theorem z19_14 : Run d 19 14 [a0, a1, a2, a3, a4, a5, a6] [s0] M 0 0 Z ↔ Run d 19 15 [a0, a1, a2, a3, a4, a5, a6] [.int 0, s0] M 0 0 Z := R_iconst (gd19 dX2_work_14) (by decide)
theorem z19_15 : Run d 19 15 [a0, a1, a2, a3, a4, a5, a6] [.int x, .ref o] M 0 0 Z ↔ gObj M o 2 ∧ Run d 19 18 [a0, a1, a2, a3, a4, a5, a6] [] (gsI M o 4 x) 0 0 Z := R_putI (gd19 dX2_work_15) rfl gf_2_27 (Or.inl rfl) rfl
theorem z19_18 : Run d 19 18 [some (.ref o), a1, a2, a3, a4, a5, a6] [] M 0 0 Z ↔ Run d 19 19 [some (.ref o), a1, a2, a3, a4, a5, a6] [.ref o] M 0 0 Z := R_local (gd19 dX2_work_18) rfl rfl rfl
theorem z19_19 : Run d 19 19 [a0, a1, a2, a3, a4, a5, a6] [.ref o] M 0 0 Z ↔ gObj M o 2 ∧ Run d 19 22 [a0, a1, a2, a3, a4, a5, a6] [va_rf (M.2.1 o 5)] M 0 0 Z := R_getR (gd19 dX2_work_19) rfl gf_2_30 rfl
theorem z19_22 : Run d 19 22 [a0, a1, a2, a3, a4, a5, a6] [s0] M 0 0 Z ↔ Run d 19 23 [a0, a1, a2, a3, a4, a5, a6] [.int 0, s0] M 0 0 Z := R_iconst (gd19 dX2_work_22) (by decide)
theorem z19_23 : Run d 19 23 [a0, a1, a2, a3, a4, a5, a6] [s1, s0] M 0 0 Z ↔ Run d 19 24 [a0, a1, a2, a3, a4, a5, a6] [.int 0, s1, s0] M 0 0 Z := R_iconst (gd19 dX2_work_23) (by decide)
theorem z19_24 : Run d 19 24 [a0, a1, a2, a3, a4, a5, a6] [.int y, .int x, .ref o] M 0 0 Z ↔ gAr M o 0 ∧ gIn x (gLen M o) = true ∧ Run d 19 25 [a0, a1, a2, a3, a4, a5, a6] [] (gsI M o x.toNatClampNeg y) 0 0 Z := R_iast (gd19 dX2_work_24)
theorem z19_25 : Run d 19 25 [some (.ref o), a1, a2, a3, a4, a5, a6] [] M 0 0 Z ↔ Run d 19 26 [some (.ref o), a1, a2, a3, a4, a5, a6] [.ref o] M 0 0 Z := R_local (gd19 dX2_work_25) rfl rfl rfl
theorem z19_26 : Run d 19 26 [a0, a1, a2, a3, a4, a5, a6] [.ref o] M 0 0 Z ↔ gObj M o 2 ∧ Run d 19 29 [a0, a1, a2, a3, a4, a5, a6] [va_rf (M.2.1 o 5)] M 0 0 Z := R_getR (gd19 dX2_work_26) rfl gf_2_30 rfl
theorem z19_29 : Run d 19 29 [a0, a1, a2, a3, a4, a5, a6] [s0] M 0 0 Z ↔ Run d 19 30 [a0, a1, a2, a3, a4, a5, a6] [.int 1, s0] M 0 0 Z := R_iconst (gd19 dX2_work_29) (by decide)
theorem z19_30 : Run d 19 30 [a0, a1, a2, a3, a4, a5, a6] [s1, s0] M 0 0 Z ↔ Run d 19 31 [a0, a1, a2, a3, a4, a5, a6] [.int 0, s1, s0] M 0 0 Z := R_iconst (gd19 dX2_work_30) (by decide)
theorem z19_31 : Run d 19 31 [a0, a1, a2, a3, a4, a5, a6] [.int y, .int x, .ref o] M 0 0 Z ↔ gAr M o 0 ∧ gIn x (gLen M o) = true ∧ Run d 19 32 [a0, a1, a2, a3, a4, a5, a6] [] (gsI M o x.toNatClampNeg y) 0 0 Z := R_iast (gd19 dX2_work_31)
theorem z19_32 : Run d 19 32 [some (.ref o), a1, a2, a3, a4, a5, a6] [] M 0 0 Z ↔ Run d 19 33 [some (.ref o), a1, a2, a3, a4, a5, a6] [.ref o] M 0 0 Z := R_local (gd19 dX2_work_32) rfl rfl rfl
theorem z19_33 : Run d 19 33 [a0, a1, a2, a3, a4, a5, a6] [.ref o] M 0 0 Z ↔ gObj M o 2 ∧ Run d 19 36 [a0, a1, a2, a3, a4, a5, a6] [va_rf (M.2.1 o 5)] M 0 0 Z := R_getR (gd19 dX2_work_33) rfl gf_2_30 rfl
theorem z19_36 : Run d 19 36 [a0, a1, a2, a3, a4, a5, a6] [s0] M 0 0 Z ↔ Run d 19 37 [a0, a1, a2, a3, a4, a5, a6] [.int 2, s0] M 0 0 Z := R_iconst (gd19 dX2_work_36) (by decide)
theorem z19_37 : Run d 19 37 [a0, a1, a2, some (.int x), a4, a5, a6] [s1, s0] M 0 0 Z ↔ Run d 19 38 [a0, a1, a2, some (.int x), a4, a5, a6] [.int x, s1, s0] M 0 0 Z := R_local (gd19 dX2_work_37) rfl rfl rfl
theorem z19_38 : Run d 19 38 [a0, a1, a2, a3, a4, a5, a6] [.int y, .int x, .ref o] M 0 0 Z ↔ gAr M o 0 ∧ gIn x (gLen M o) = true ∧ Run d 19 39 [a0, a1, a2, a3, a4, a5, a6] [] (gsI M o x.toNatClampNeg y) 0 0 Z := R_iast (gd19 dX2_work_38)
theorem z19_39 : Run d 19 39 [some (.ref o), a1, a2, a3, a4, a5, a6] [] M 0 0 Z ↔ Run d 19 40 [some (.ref o), a1, a2, a3, a4, a5, a6] [.ref o] M 0 0 Z := R_local (gd19 dX2_work_39) rfl rfl rfl
theorem z19_40 : Run d 19 40 [a0, a1, a2, a3, a4, a5, a6] [s0] M 0 0 Z ↔ Run d 19 41 [a0, a1, a2, a3, a4, a5, a6] [.int 0, s0] M 0 0 Z := R_iconst (gd19 dX2_work_40) (by decide)
theorem z19_41 : Run d 19 41 [a0, a1, a2, a3, a4, a5, a6] [.int x, .ref o] M 0 0 Z ↔ gObj M o 2 ∧ Run d 19 44 [a0, a1, a2, a3, a4, a5, a6] [] (gsI M o 7 x) 0 0 Z := R_putI (gd19 dX2_work_41) rfl gf_2_36 (Or.inl rfl) rfl
theorem z19_44 : Run d 19 44 [some (.ref o), a1, a2, a3, a4, a5, a6] [] M 0 0 Z ↔ Run d 19 45 [some (.ref o), a1, a2, a3, a4, a5, a6] [.ref o] M 0 0 Z := R_local (gd19 dX2_work_44) rfl rfl rfl
theorem z19_45 : Run d 19 45 [a0, a1, a2, a3, a4, a5, a6] [s0] M 0 0 Z ↔ Run d 19 46 [a0, a1, a2, a3, a4, a5, a6] [.int (-1), s0] M 0 0 Z := R_iconst (gd19 dX2_work_45) (by decide)
theorem z19_46 : Run d 19 46 [a0, a1, a2, a3, a4, a5, a6] [.int x, .ref o] M 0 0 Z ↔ gObj M o 2 ∧ Run d 19 49 [a0, a1, a2, a3, a4, a5, a6] [] (gsI M o 8 x) 0 0 Z := R_putI (gd19 dX2_work_46) rfl gf_2_39 (Or.inl rfl) rfl
theorem z19_49 : Run d 19 49 [some (.ref o), a1, a2, a3, a4, a5, a6] [] M 0 0 Z ↔ Run d 19 50 [some (.ref o), a1, a2, a3, a4, a5, a6] [.ref o] M 0 0 Z := R_local (gd19 dX2_work_49) rfl rfl rfl
theorem z19_50 : Run d 19 50 [a0, a1, a2, a3, a4, a5, a6] [s0] M 0 0 Z ↔ Run d 19 51 [a0, a1, a2, a3, a4, a5, a6] [.int 0, s0] M 0 0 Z := R_iconst (gd19 dX2_work_50) (by decide)
theorem z19_51 : Run d 19 51 [a0, a1, a2, a3, a4, a5, a6] [.int x, .ref o] M 0 0 Z ↔ gObj M o 2 ∧ (x = 0 ∨ x = 1) ∧ Run d 19 54 [a0, a1, a2, a3, a4, a5, a6] [] (gsI M o 9 x) 0 0 Z := R_putZ (gd19 dX2_work_51) rfl gf_2_42 (Or.inl rfl) rfl
theorem z19_54 : Run d 19 54 [a0, a1, a2, a3, a4, a5, a6] [] M 0 0 Z ↔ Run d 19 55 [a0, a1, a2, a3, a4, a5, a6] [.int 0] M 0 0 Z := R_iconst (gd19 dX2_work_54) (by decide)
theorem z19_55 : Run d 19 55 [a0, a1, a2, a3, a4, a5, a6] [.int x] M 0 0 Z ↔ Run d 19 57 [a0, a1, a2, a3, some (.int x), a5, a6] [] M 0 0 Z := R_local (gd19 dX2_work_55) rfl rfl rfl
theorem z19_57 : Run d 19 57 [a0, a1, a2, a3, some (.int x), a5, a6] [] M 0 0 Z ↔ Run d 19 59 [a0, a1, a2, a3, some (.int x), a5, a6] [.int x] M 0 0 Z := R_local (gd19 dX2_work_57) rfl rfl rfl
theorem z19_59 : Run d 19 59 [a0, a1, a2, a3, a4, a5, a6] [s0] M 0 0 Z ↔ Run d 19 61 [a0, a1, a2, a3, a4, a5, a6] [.int 1000000, s0] M 0 0 Z := R_heap (gd19 dX2_work_59) rfl rfl rfl (by rfl)
theorem z19_61 : Run d 19 61 [a0, a1, a2, a3, a4, a5, a6] [.int y, .int x] M 0 0 Z ↔ (y ≤ x → Run d 19 141 [a0, a1, a2, a3, a4, a5, a6] [] M 0 0 Z) ∧ (¬ (y ≤ x) → Run d 19 64 [a0, a1, a2, a3, a4, a5, a6] [] M 0 0 Z) := R_icmp (gd19 dX2_work_61) (show gTgt 61 80 = some 141 by decide) gIf_ge
theorem z19_64 : Run d 19 64 [a0, a1, some (.ref o), a3, a4, a5, a6] [] M 0 0 Z ↔ Run d 19 65 [a0, a1, some (.ref o), a3, a4, a5, a6] [.ref o] M 0 0 Z := R_local (gd19 dX2_work_64) rfl rfl rfl
theorem z19_64n : Run d 19 64 [a0, a1, some .null, a3, a4, a5, a6] [] M 0 0 Z ↔ Run d 19 65 [a0, a1, some .null, a3, a4, a5, a6] [.null] M 0 0 Z := R_local (gd19 dX2_work_64) rfl rfl rfl
theorem z19_65 : Run d 19 65 [a0, a1, a2, a3, a4, a5, a6] [.ref o] M 0 0 Z ↔ gObj M o 1 ∧ Run d 19 68 [a0, a1, a2, a3, a4, a5, a6] [.int (M.1 o 14)] M 0 0 Z := R_getI (gd19 dX2_work_65) rfl gf_2_50 rfl
theorem z19_68 : Run d 19 68 [a0, a1, a2, a3, a4, a5, a6] [.int x] M 0 0 Z ↔ (¬ x = 0 → Run d 19 141 [a0, a1, a2, a3, a4, a5, a6] [] M 0 0 Z) ∧ (¬ (¬ x = 0) → Run d 19 71 [a0, a1, a2, a3, a4, a5, a6] [] M 0 0 Z) := R_if (gd19 dX2_work_68) (show gTgt 68 73 = some 141 by decide) gIf_ne
theorem z19_71 : Run d 19 71 [some (.ref o), a1, a2, a3, a4, a5, a6] [] M 0 0 Z ↔ Run d 19 72 [some (.ref o), a1, a2, a3, a4, a5, a6] [.ref o] M 0 0 Z := R_local (gd19 dX2_work_71) rfl rfl rfl
theorem z19_72 : Run d 19 72 [a0, a1, a2, a3, a4, a5, a6] [.ref o] M 0 0 Z ↔ gObj M o 2 ∧ Run d 19 75 [a0, a1, a2, a3, a4, a5, a6] [.int (M.1 o 7)] M 0 0 Z := R_getI (gd19 dX2_work_72) rfl gf_2_36 rfl
theorem z19_75 : Run d 19 75 [some (.ref o), a1, a2, a3, a4, a5, a6] [s0] M 0 0 Z ↔ Run d 19 76 [some (.ref o), a1, a2, a3, a4, a5, a6] [.ref o, s0] M 0 0 Z := R_local (gd19 dX2_work_75) rfl rfl rfl
theorem z19_76 : Run d 19 76 [a0, a1, a2, a3, a4, a5, a6] [.ref o, s0] M 0 0 Z ↔ gObj M o 2 ∧ Run d 19 79 [a0, a1, a2, a3, a4, a5, a6] [va_rf (M.2.1 o 6), s0] M 0 0 Z := R_getR (gd19 dX2_work_76) rfl gf_2_33 rfl
theorem z19_79 : Run d 19 79 [a0, a1, a2, a3, a4, a5, a6] [.ref o, s0] M 0 0 Z ↔ (gTy M o).isSome = true ∧ Run d 19 80 [a0, a1, a2, a3, a4, a5, a6] [.int (nI (gLen M o)), s0] M 0 0 Z := R_alen (gd19 dX2_work_79)
theorem z19_80 : Run d 19 80 [a0, a1, a2, a3, a4, a5, a6] [s1, s0] M 0 0 Z ↔ Call d 110 [s0, s1] M (fun r M1 => Run d 19 83 [a0, a1, a2, a3, a4, a5, a6] (r.toList ++ []) M1 0 0 Z) := R_call (gd19 dX2_work_80) rfl rfl rfl rfl rfl rfl gc_2_55 rfl (by decide) (Nat.le_of_ble_eq_true rfl) (Nat.le_of_ble_eq_true rfl) rfl rfl rfl (Nat.le_of_ble_eq_true rfl) (Nat.le_of_ble_eq_true rfl)
theorem z19_83 : Run d 19 83 [a0, a1, a2, a3, a4, a5, a6] [.int x] M 0 0 Z ↔ (x = 0 → Run d 19 141 [a0, a1, a2, a3, a4, a5, a6] [] M 0 0 Z) ∧ (¬ (x = 0) → Run d 19 86 [a0, a1, a2, a3, a4, a5, a6] [] M 0 0 Z) := R_if (gd19 dX2_work_83) (show gTgt 83 58 = some 141 by decide) gIf_eq
theorem z19_86 : Run d 19 86 [some (.ref o), a1, a2, a3, a4, a5, a6] [] M 0 0 Z ↔ Run d 19 87 [some (.ref o), a1, a2, a3, a4, a5, a6] [.ref o] M 0 0 Z := R_local (gd19 dX2_work_86) rfl rfl rfl
theorem z19_87 : Run d 19 87 [a0, a1, a2, a3, a4, a5, a6] [.ref o] M 0 0 Z ↔ gObj M o 2 ∧ Run d 19 90 [a0, a1, a2, a3, a4, a5, a6] [va_rf (M.2.1 o 6)] M 0 0 Z := R_getR (gd19 dX2_work_87) rfl gf_2_33 rfl
theorem z19_90 : Run d 19 90 [some (.ref o), a1, a2, a3, a4, a5, a6] [s0] M 0 0 Z ↔ Run d 19 91 [some (.ref o), a1, a2, a3, a4, a5, a6] [.ref o, s0] M 0 0 Z := R_local (gd19 dX2_work_90) rfl rfl rfl
theorem z19_91 : Run d 19 91 [a0, a1, a2, a3, a4, a5, a6] [.ref o, s0] M 0 0 Z ↔ gObj M o 2 ∧ Run d 19 94 [a0, a1, a2, a3, a4, a5, a6] [.int (M.1 o 7), s0] M 0 0 Z := R_getI (gd19 dX2_work_91) rfl gf_2_36 rfl
theorem z19_94 : Run d 19 94 [a0, a1, a2, a3, a4, a5, a6] [.int x, .ref o] M 0 0 Z ↔ gAr M o 0 ∧ gIn x (gLen M o) = true ∧ Run d 19 95 [a0, a1, a2, a3, a4, a5, a6] [.int (M.1 o x.toNatClampNeg)] M 0 0 Z := R_iald (gd19 dX2_work_94)
theorem z19_95 : Run d 19 95 [a0, a1, a2, a3, a4, a5, a6] [.int x] M 0 0 Z ↔ Run d 19 97 [a0, a1, a2, a3, a4, some (.int x), a6] [] M 0 0 Z := R_local (gd19 dX2_work_95) rfl rfl rfl
theorem z19_97 : Run d 19 97 [some (.ref o), a1, a2, a3, a4, a5, a6] [] M 0 0 Z ↔ Run d 19 98 [some (.ref o), a1, a2, a3, a4, a5, a6] [.ref o] M 0 0 Z := R_local (gd19 dX2_work_97) rfl rfl rfl
theorem z19_98 : Run d 19 98 [a0, a1, a2, a3, a4, a5, a6] [.ref o] M 0 0 Z ↔ Run d 19 99 [a0, a1, a2, a3, a4, a5, a6] [.ref o, .ref o] M 0 0 Z := R_arith (gd19 dX2_work_98) rfl
theorem z19_99 : Run d 19 99 [a0, a1, a2, a3, a4, a5, a6] [.ref o, s0] M 0 0 Z ↔ gObj M o 2 ∧ Run d 19 102 [a0, a1, a2, a3, a4, a5, a6] [.int (M.1 o 7), s0] M 0 0 Z := R_getI (gd19 dX2_work_99) rfl gf_2_36 rfl
theorem z19_102 : Run d 19 102 [a0, a1, a2, a3, a4, a5, a6] [s1, s0] M 0 0 Z ↔ Run d 19 103 [a0, a1, a2, a3, a4, a5, a6] [.int 1, s1, s0] M 0 0 Z := R_iconst (gd19 dX2_work_102) (by decide)
theorem z19_103 : Run d 19 103 [a0, a1, a2, a3, a4, a5, a6] [.int y, .int x, s0] M 0 0 Z ↔ Run d 19 104 [a0, a1, a2, a3, a4, a5, a6] [.int (x + y), s0] M 0 0 Z := R_arith (gd19 dX2_work_103) rfl
theorem z19_104 : Run d 19 104 [a0, a1, a2, a3, a4, a5, a6] [.int x, .ref o] M 0 0 Z ↔ gObj M o 2 ∧ Run d 19 107 [a0, a1, a2, a3, a4, a5, a6] [] (gsI M o 7 x) 0 0 Z := R_putI (gd19 dX2_work_104) rfl gf_2_36 (Or.inl rfl) rfl
theorem z19_107 : Run d 19 107 [some (.ref o), a1, a2, a3, a4, a5, a6] [] M 0 0 Z ↔ Run d 19 108 [some (.ref o), a1, a2, a3, a4, a5, a6] [.ref o] M 0 0 Z := R_local (gd19 dX2_work_107) rfl rfl rfl
theorem z19_108 : Run d 19 108 [a0, a1, a2, a3, a4, some (.int x), a6] [s0] M 0 0 Z ↔ Run d 19 110 [a0, a1, a2, a3, a4, some (.int x), a6] [.int x, s0] M 0 0 Z := R_local (gd19 dX2_work_108) rfl rfl rfl
theorem z19_110 : Run d 19 110 [a0, a1, some (.ref o), a3, a4, a5, a6] [s1, s0] M 0 0 Z ↔ Run d 19 111 [a0, a1, some (.ref o), a3, a4, a5, a6] [.ref o, s1, s0] M 0 0 Z := R_local (gd19 dX2_work_110) rfl rfl rfl
theorem z19_110n : Run d 19 110 [a0, a1, some .null, a3, a4, a5, a6] [s1, s0] M 0 0 Z ↔ Run d 19 111 [a0, a1, some .null, a3, a4, a5, a6] [.null, s1, s0] M 0 0 Z := R_local (gd19 dX2_work_110) rfl rfl rfl
theorem z19_111 : Run d 19 111 [a0, a1, a2, a3, a4, a5, a6] [s2, s1, .ref b] M 0 0 Z ↔ gObj M b 2 ∧ Call d 20 [.ref b, s1, s2] M (fun r M1 => Run d 19 114 [a0, a1, a2, a3, a4, a5, a6] (r.toList ++ []) M1 0 0 Z) := R_callV (gd19 dX2_work_111) rfl rfl rfl rfl rfl rfl gc_2_59 rfl rfl (Nat.le_of_ble_eq_true rfl) (Nat.le_of_ble_eq_true rfl) rfl rfl (Nat.le_of_ble_eq_true rfl) (Nat.le_of_ble_eq_true rfl)
theorem z19_114 : Run d 19 114 [a0, a1, a2, a3, a4, a5, a6] [.int x] M 0 0 Z ↔ Run d 19 116 [a0, a1, a2, a3, a4, a5, some (.int x)] [] M 0 0 Z := R_local (gd19 dX2_work_114) rfl rfl rfl
theorem z19_116 : Run d 19 116 [a0, a1, a2, a3, a4, a5, some (.int x)] [] M 0 0 Z ↔ Run d 19 118 [a0, a1, a2, a3, a4, a5, some (.int x)] [.int x] M 0 0 Z := R_local (gd19 dX2_work_116) rfl rfl rfl
theorem z19_118 : Run d 19 118 [a0, a1, a2, a3, a4, a5, a6] [.int x] M 0 0 Z ↔ (x = 0 → Run d 19 135 [a0, a1, a2, a3, a4, a5, a6] [] M 0 0 Z) ∧ (¬ (x = 0) → Run d 19 121 [a0, a1, a2, a3, a4, a5, a6] [] M 0 0 Z) := R_if (gd19 dX2_work_118) (show gTgt 118 17 = some 135 by decide) gIf_eq
theorem z19_121 : Run d 19 121 [a0, a1, some (.ref o), a3, a4, a5, a6] [] M 0 0 Z ↔ Run d 19 122 [a0, a1, some (.ref o), a3, a4, a5, a6] [.ref o] M 0 0 Z := R_local (gd19 dX2_work_121) rfl rfl rfl
theorem z19_121n : Run d 19 121 [a0, a1, some .null, a3, a4, a5, a6] [] M 0 0 Z ↔ Run d 19 122 [a0, a1, some .null, a3, a4, a5, a6] [.null] M 0 0 Z := R_local (gd19 dX2_work_121) rfl rfl rfl
theorem z19_122 : Run d 19 122 [a0, a1, a2, a3, a4, a5, some (.int x)] [s0] M 0 0 Z ↔ Run d 19 124 [a0, a1, a2, a3, a4, a5, some (.int x)] [.int x, s0] M 0 0 Z := R_local (gd19 dX2_work_122) rfl rfl rfl
theorem z19_124 : Run d 19 124 [a0, a1, a2, a3, a4, a5, a6] [.int x, .ref o] M 0 0 Z ↔ gObj M o 1 ∧ Run d 19 127 [a0, a1, a2, a3, a4, a5, a6] [] (gsI M o 14 x) 0 0 Z := R_putI (gd19 dX2_work_124) rfl gf_2_50 (Or.inl rfl) rfl
theorem z19_127 : Run d 19 127 [a0, a1, some (.ref o), a3, a4, a5, a6] [] M 0 0 Z ↔ Run d 19 128 [a0, a1, some (.ref o), a3, a4, a5, a6] [.ref o] M 0 0 Z := R_local (gd19 dX2_work_127) rfl rfl rfl
theorem z19_127n : Run d 19 127 [a0, a1, some .null, a3, a4, a5, a6] [] M 0 0 Z ↔ Run d 19 128 [a0, a1, some .null, a3, a4, a5, a6] [.null] M 0 0 Z := R_local (gd19 dX2_work_127) rfl rfl rfl
theorem z19_128 : Run d 19 128 [some (.ref o), a1, a2, a3, a4, a5, a6] [s0] M 0 0 Z ↔ Run d 19 129 [some (.ref o), a1, a2, a3, a4, a5, a6] [.ref o, s0] M 0 0 Z := R_local (gd19 dX2_work_128) rfl rfl rfl
theorem z19_129 : Run d 19 129 [a0, a1, a2, a3, a4, a5, a6] [.ref o, s0] M 0 0 Z ↔ gObj M o 2 ∧ Run d 19 132 [a0, a1, a2, a3, a4, a5, a6] [.int (M.1 o 8), s0] M 0 0 Z := R_getI (gd19 dX2_work_129) rfl gf_2_39 rfl
theorem z19_132 : Run d 19 132 [a0, a1, a2, a3, a4, a5, a6] [.int x, .ref o] M 0 0 Z ↔ gObj M o 1 ∧ Run d 19 135 [a0, a1, a2, a3, a4, a5, a6] [] (gsI M o 15 x) 0 0 Z := R_putI (gd19 dX2_work_132) rfl gf_2_63 (Or.inl rfl) rfl
theorem z19_135 : Run d 19 135 [a0, a1, a2, a3, some (.int x), a5, a6] [] M 0 0 Z ↔ Run d 19 138 [a0, a1, a2, a3, some (.int (x + 1)), a5, a6] [] M 0 0 Z := R_iinc (gd19 dX2_work_135) (by decide) rfl rfl
theorem z19_138 : Run d 19 138 [a0, a1, a2, a3, a4, a5, a6] [] M 0 0 Z ↔ Run d 19 57 [a0, a1, a2, a3, a4, a5, a6] [] M 0 0 Z := R_goto (gd19 dX2_work_138) (show gTgt 138 (-81) = some 57 by decide)
theorem z19_141 : Run d 19 141 [a0, a1, a2, a3, a4, a5, a6] [] M 0 0 Z ↔ Z none M := R_vret (gd19 dX2_work_141) rfl
theorem e19 : Call (d + 1) 19 [s0, s1, s2, s3] M Z ↔ Run d 19 0 [some s0, some s1, some s2, some s3, none, none, none] [] M 0 0 Z := Call_iff (Nat.lt_of_lt_of_le (Nat.lt_succ_self 19) (Nat.le_of_ble_eq_true rfl)) (Nat.le_of_ble_eq_true rfl)
/-! 20: X2_obey (ILClothSchool$Drape;)I -/
theorem gd20 {pc : Nat} {r : Except _ _} (h : decode cX2_obey pc = r) : decode (gby 20) pc = r := h
theorem z20_0 : Run d 20 0 [a0, some (.int x), a2] [] M 0 0 Z ↔ Run d 20 1 [a0, some (.int x), a2] [.int x] M 0 0 Z := R_local (gd20 dX2_obey_0) rfl rfl rfl
theorem z20_1 : Run d 20 1 [a0, a1, a2] [s0] M 0 0 Z ↔ Run d 20 4 [a0, a1, a2] [.int 256, s0] M 0 0 Z := R_sipush (gd20 dX2_obey_1) (by decide)
theorem z20_4 : Run d 20 4 [a0, a1, a2] [.int y, .int x] M 0 0 Z ↔ (x < y → Run d 20 17 [a0, a1, a2] [] M 0 0 Z) ∧ (¬ (x < y) → Run d 20 7 [a0, a1, a2] [] M 0 0 Z) := R_icmp (gd20 dX2_obey_4) (show gTgt 4 13 = some 17 by decide) gIf_lt
theorem z20_7 : Run d 20 7 [some (.ref o), a1, a2] [] M 0 0 Z ↔ Run d 20 8 [some (.ref o), a1, a2] [.ref o] M 0 0 Z := R_local (gd20 dX2_obey_7) rfl rfl rfl
theorem z20_8 : Run d 20 8 [a0, some (.int x), a2] [s0] M 0 0 Z ↔ Run d 20 9 [a0, some (.int x), a2] [.int x, s0] M 0 0 Z := R_local (gd20 dX2_obey_8) rfl rfl rfl
theorem z20_9 : Run d 20 9 [a0, a1, a2] [s1, s0] M 0 0 Z ↔ Run d 20 12 [a0, a1, a2] [.int 256, s1, s0] M 0 0 Z := R_sipush (gd20 dX2_obey_9) (by decide)
theorem z20_12 : Run d 20 12 [a0, a1, a2] [.int y, .int x, s0] M 0 0 Z ↔ Run d 20 13 [a0, a1, a2] [.int (x - y), s0] M 0 0 Z := R_arith (gd20 dX2_obey_12) rfl
theorem z20_13 : Run d 20 13 [a0, a1, a2] [s1, .ref b] M 0 0 Z ↔ gObj M b 2 ∧ Call d 28 [.ref b, s1] M (fun r M1 => Run d 20 16 [a0, a1, a2] (r.toList ++ []) M1 0 0 Z) := R_callV (gd20 dX2_obey_13) rfl rfl rfl rfl rfl rfl gc_2_66 rfl rfl (Nat.le_of_ble_eq_true rfl) (Nat.le_of_ble_eq_true rfl) rfl rfl (Nat.le_of_ble_eq_true rfl) (Nat.le_of_ble_eq_true rfl)
theorem z20_16 : Run d 20 16 [a0, a1, a2] [.int x] M 0 0 Z ↔ Z (some (.int x)) M := R_iret (gd20 dX2_obey_16) rfl
theorem z20_17 : Run d 20 17 [a0, some (.int x), a2] [] M 0 0 Z ↔ Run d 20 18 [a0, some (.int x), a2] [.int x] M 0 0 Z := R_local (gd20 dX2_obey_17) rfl rfl rfl
theorem z20_18 : Run d 20 18 [a0, a1, a2] [s0] M 0 0 Z ↔ Run d 20 21 [a0, a1, a2] [.int 128, s0] M 0 0 Z := R_sipush (gd20 dX2_obey_18) (by decide)
theorem z20_21 : Run d 20 21 [a0, a1, a2] [.int y, .int x] M 0 0 Z ↔ (x < y → Run d 20 37 [a0, a1, a2] [] M 0 0 Z) ∧ (¬ (x < y) → Run d 20 24 [a0, a1, a2] [] M 0 0 Z) := R_icmp (gd20 dX2_obey_21) (show gTgt 21 16 = some 37 by decide) gIf_lt
theorem z20_24 : Run d 20 24 [some (.ref o), a1, a2] [] M 0 0 Z ↔ Run d 20 25 [some (.ref o), a1, a2] [.ref o] M 0 0 Z := R_local (gd20 dX2_obey_24) rfl rfl rfl
theorem z20_25 : Run d 20 25 [a0, some (.int x), a2] [s0] M 0 0 Z ↔ Run d 20 26 [a0, some (.int x), a2] [.int x, s0] M 0 0 Z := R_local (gd20 dX2_obey_25) rfl rfl rfl
theorem z20_26 : Run d 20 26 [a0, a1, a2] [s1, s0] M 0 0 Z ↔ Run d 20 29 [a0, a1, a2] [.int 128, s1, s0] M 0 0 Z := R_sipush (gd20 dX2_obey_26) (by decide)
theorem z20_29 : Run d 20 29 [a0, a1, a2] [.int y, .int x, s0] M 0 0 Z ↔ Run d 20 30 [a0, a1, a2] [.int (x - y), s0] M 0 0 Z := R_arith (gd20 dX2_obey_29) rfl
theorem z20_30 : Run d 20 30 [a0, a1, a2] [s1, s0] M 0 0 Z ↔ Run d 20 32 [a0, a1, a2] [.int 120, s1, s0] M 0 0 Z := R_bipush (gd20 dX2_obey_30) (by decide)
theorem z20_32 : Run d 20 32 [a0, a1, a2] [.int y, .int x, s0] M 0 0 Z ↔ Run d 20 33 [a0, a1, a2] [.int (x - y), s0] M 0 0 Z := R_arith (gd20 dX2_obey_32) rfl
theorem z20_33 : Run d 20 33 [a0, a1, a2] [s1, .ref b] M 0 0 Z ↔ gObj M b 2 ∧ Call d 24 [.ref b, s1] M (fun r M1 => Run d 20 36 [a0, a1, a2] (r.toList ++ []) M1 0 0 Z) := R_callV (gd20 dX2_obey_33) rfl rfl rfl rfl rfl rfl gc_2_70 rfl rfl (Nat.le_of_ble_eq_true rfl) (Nat.le_of_ble_eq_true rfl) rfl rfl (Nat.le_of_ble_eq_true rfl) (Nat.le_of_ble_eq_true rfl)
theorem z20_36 : Run d 20 36 [a0, a1, a2] [.int x] M 0 0 Z ↔ Z (some (.int x)) M := R_iret (gd20 dX2_obey_36) rfl
theorem z20_37 : Run d 20 37 [a0, some (.int x), a2] [] M 0 0 Z ↔ Run d 20 38 [a0, some (.int x), a2] [.int x] M 0 0 Z := R_local (gd20 dX2_obey_37) rfl rfl rfl
theorem z20_38 : Run d 20 38 [a0, a1, a2] [.int x] M 0 0 Z ↔ (x = 42 → Run d 20 187 [a0, a1, a2] [] M 0 0 Z) ∧ (¬ x = 42 → ((x = 43 → Run d 20 187 [a0, a1, a2] [] M 0 0 Z) ∧ (¬ x = 43 → ((x = 45 → Run d 20 187 [a0, a1, a2] [] M 0 0 Z) ∧ (¬ x = 45 → ((x = 47 → Run d 20 187 [a0, a1, a2] [] M 0 0 Z) ∧ (¬ x = 47 → ((x = 59 → Run d 20 160 [a0, a1, a2] [] M 0 0 Z) ∧ (¬ x = 59 → ((x = 91 → Run d 20 193 [a0, a1, a2] [] M 0 0 Z) ∧ (¬ x = 91 → ((x = 93 → Run d 20 198 [a0, a1, a2] [] M 0 0 Z) ∧ (¬ x = 93 → ((x = 103 → Run d 20 203 [a0, a1, a2] [] M 0 0 Z) ∧ (¬ x = 103 → ((x = 105 → Run d 20 203 [a0, a1, a2] [] M 0 0 Z) ∧ (¬ x = 105 → ((x = 107 → Run d 20 203 [a0, a1, a2] [] M 0 0 Z) ∧ (¬ x = 107 → ((x = 108 → Run d 20 203 [a0, a1, a2] [] M 0 0 Z) ∧ (¬ x = 108 → ((x = 120 → Run d 20 203 [a0, a1, a2] [] M 0 0 Z) ∧ (¬ x = 120 → ((x = 121 → Run d 20 203 [a0, a1, a2] [] M 0 0 Z) ∧ (¬ x = 121 → ((x = 122 → Run d 20 203 [a0, a1, a2] [] M 0 0 Z) ∧ (¬ x = 122 → (Run d 20 214 [a0, a1, a2] [] M 0 0 Z)))))))))))))))))))))))))))) := R_look (tbl := [(42, 187), (43, 187), (45, 187), (47, 187), (59, 160), (91, 193), (93, 198), (103, 203), (105, 203), (107, 203), (108, 203), (120, 203), (121, 203), (122, 203)]) (dt := 214) (gd20 dX2_obey_38) (by decide) (by decide) (by decide) (by decide)
theorem z20_160 : Run d 20 160 [some (.ref o), a1, a2] [] M 0 0 Z ↔ Run d 20 161 [some (.ref o), a1, a2] [.ref o] M 0 0 Z := R_local (gd20 dX2_obey_160) rfl rfl rfl
theorem z20_161 : Run d 20 161 [a0, a1, a2] [.ref o] M 0 0 Z ↔ Run d 20 162 [a0, a1, a2] [.ref o, .ref o] M 0 0 Z := R_arith (gd20 dX2_obey_161) rfl
theorem z20_162 : Run d 20 162 [a0, a1, a2] [.ref o, s0] M 0 0 Z ↔ gObj M o 2 ∧ Run d 20 165 [a0, a1, a2] [.int (M.1 o 8), s0] M 0 0 Z := R_getI (gd20 dX2_obey_162) rfl gf_2_39 rfl
theorem z20_165 : Run d 20 165 [a0, a1, a2] [s1, s0] M 0 0 Z ↔ Run d 20 166 [a0, a1, a2] [.int 1, s1, s0] M 0 0 Z := R_iconst (gd20 dX2_obey_165) (by decide)
theorem z20_166 : Run d 20 166 [a0, a1, a2] [.int y, .int x, s0] M 0 0 Z ↔ Run d 20 167 [a0, a1, a2] [.int (x + y), s0] M 0 0 Z := R_arith (gd20 dX2_obey_166) rfl
theorem z20_167 : Run d 20 167 [a0, a1, a2] [.int x, .ref o] M 0 0 Z ↔ gObj M o 2 ∧ Run d 20 170 [a0, a1, a2] [] (gsI M o 8 x) 0 0 Z := R_putI (gd20 dX2_obey_167) rfl gf_2_39 (Or.inl rfl) rfl
theorem z20_170 : Run d 20 170 [some (.ref o), a1, a2] [] M 0 0 Z ↔ Run d 20 171 [some (.ref o), a1, a2] [.ref o] M 0 0 Z := R_local (gd20 dX2_obey_170) rfl rfl rfl
theorem z20_171 : Run d 20 171 [a0, a1, a2] [.ref o] M 0 0 Z ↔ gObj M o 2 ∧ Run d 20 174 [a0, a1, a2] [.int (M.1 o 8)] M 0 0 Z := R_getI (gd20 dX2_obey_171) rfl gf_2_39 rfl
theorem z20_174 : Run d 20 174 [a0, a1, a2] [s0] M 0 0 Z ↔ Run d 20 177 [a0, a1, a2] [.int 2000, s0] M 0 0 Z := R_sipush (gd20 dX2_obey_174) (by decide)
theorem z20_177 : Run d 20 177 [a0, a1, a2] [.int y, .int x] M 0 0 Z ↔ (x < y → Run d 20 185 [a0, a1, a2] [] M 0 0 Z) ∧ (¬ (x < y) → Run d 20 180 [a0, a1, a2] [] M 0 0 Z) := R_icmp (gd20 dX2_obey_177) (show gTgt 177 8 = some 185 by decide) gIf_lt
theorem z20_180 : Run d 20 180 [a0, a1, a2] [] M 0 0 Z ↔ Run d 20 182 [a0, a1, a2] [.int 6] M 0 0 Z := R_bipush (gd20 dX2_obey_180) (by decide)
theorem z20_182 : Run d 20 182 [a0, a1, a2] [s0] M 0 0 Z ↔ Run d 20 186 [a0, a1, a2] [s0] M 0 0 Z := R_goto (gd20 dX2_obey_182) (show gTgt 182 4 = some 186 by decide)
theorem z20_185 : Run d 20 185 [a0, a1, a2] [] M 0 0 Z ↔ Run d 20 186 [a0, a1, a2] [.int 0] M 0 0 Z := R_iconst (gd20 dX2_obey_185) (by decide)
theorem z20_186 : Run d 20 186 [a0, a1, a2] [.int x] M 0 0 Z ↔ Z (some (.int x)) M := R_iret (gd20 dX2_obey_186) rfl
theorem z20_187 : Run d 20 187 [some (.ref o), a1, a2] [] M 0 0 Z ↔ Run d 20 188 [some (.ref o), a1, a2] [.ref o] M 0 0 Z := R_local (gd20 dX2_obey_187) rfl rfl rfl
theorem z20_188 : Run d 20 188 [a0, some (.int x), a2] [s0] M 0 0 Z ↔ Run d 20 189 [a0, some (.int x), a2] [.int x, s0] M 0 0 Z := R_local (gd20 dX2_obey_188) rfl rfl rfl
theorem z20_189 : Run d 20 189 [a0, a1, a2] [s1, .ref b] M 0 0 Z ↔ gObj M b 2 ∧ Call d 25 [.ref b, s1] M (fun r M1 => Run d 20 192 [a0, a1, a2] (r.toList ++ []) M1 0 0 Z) := R_callV (gd20 dX2_obey_189) rfl rfl rfl rfl rfl rfl gc_2_73 rfl rfl (Nat.le_of_ble_eq_true rfl) (Nat.le_of_ble_eq_true rfl) rfl rfl (Nat.le_of_ble_eq_true rfl) (Nat.le_of_ble_eq_true rfl)
theorem z20_192 : Run d 20 192 [a0, a1, a2] [.int x] M 0 0 Z ↔ Z (some (.int x)) M := R_iret (gd20 dX2_obey_192) rfl
theorem z20_193 : Run d 20 193 [some (.ref o), a1, a2] [] M 0 0 Z ↔ Run d 20 194 [some (.ref o), a1, a2] [.ref o] M 0 0 Z := R_local (gd20 dX2_obey_193) rfl rfl rfl
theorem z20_194 : Run d 20 194 [a0, a1, a2] [.ref b] M 0 0 Z ↔ gObj M b 2 ∧ Call d 26 [.ref b] M (fun r M1 => Run d 20 197 [a0, a1, a2] (r.toList ++ []) M1 0 0 Z) := R_callV (gd20 dX2_obey_194) rfl rfl rfl rfl rfl rfl gc_2_76 rfl rfl (Nat.le_of_ble_eq_true rfl) (Nat.le_of_ble_eq_true rfl) rfl rfl (Nat.le_of_ble_eq_true rfl) (Nat.le_of_ble_eq_true rfl)
theorem z20_197 : Run d 20 197 [a0, a1, a2] [.int x] M 0 0 Z ↔ Z (some (.int x)) M := R_iret (gd20 dX2_obey_197) rfl
theorem z20_198 : Run d 20 198 [some (.ref o), a1, a2] [] M 0 0 Z ↔ Run d 20 199 [some (.ref o), a1, a2] [.ref o] M 0 0 Z := R_local (gd20 dX2_obey_198) rfl rfl rfl
theorem z20_199 : Run d 20 199 [a0, a1, a2] [.ref b] M 0 0 Z ↔ gObj M b 2 ∧ Call d 27 [.ref b] M (fun r M1 => Run d 20 202 [a0, a1, a2] (r.toList ++ []) M1 0 0 Z) := R_callV (gd20 dX2_obey_199) rfl rfl rfl rfl rfl rfl gc_2_80 rfl rfl (Nat.le_of_ble_eq_true rfl) (Nat.le_of_ble_eq_true rfl) rfl rfl (Nat.le_of_ble_eq_true rfl) (Nat.le_of_ble_eq_true rfl)
theorem z20_202 : Run d 20 202 [a0, a1, a2] [.int x] M 0 0 Z ↔ Z (some (.int x)) M := R_iret (gd20 dX2_obey_202) rfl
theorem z20_203 : Run d 20 203 [some (.ref o), a1, a2] [] M 0 0 Z ↔ Run d 20 204 [some (.ref o), a1, a2] [.ref o] M 0 0 Z := R_local (gd20 dX2_obey_203) rfl rfl rfl
theorem z20_204 : Run d 20 204 [some (.ref o), a1, a2] [s0] M 0 0 Z ↔ Run d 20 205 [some (.ref o), a1, a2] [.ref o, s0] M 0 0 Z := R_local (gd20 dX2_obey_204) rfl rfl rfl
theorem z20_205 : Run d 20 205 [a0, some (.int x), a2] [s1, s0] M 0 0 Z ↔ Run d 20 206 [a0, some (.int x), a2] [.int x, s1, s0] M 0 0 Z := R_local (gd20 dX2_obey_205) rfl rfl rfl
theorem z20_206 : Run d 20 206 [a0, a1, some (.ref o)] [s2, s1, s0] M 0 0 Z ↔ Run d 20 207 [a0, a1, some (.ref o)] [.ref o, s2, s1, s0] M 0 0 Z := R_local (gd20 dX2_obey_206) rfl rfl rfl
theorem z20_206n : Run d 20 206 [a0, a1, some .null] [s2, s1, s0] M 0 0 Z ↔ Run d 20 207 [a0, a1, some .null] [.null, s2, s1, s0] M 0 0 Z := R_local (gd20 dX2_obey_206) rfl rfl rfl
theorem z20_207 : Run d 20 207 [a0, a1, a2] [s3, s2, .ref b, s0] M 0 0 Z ↔ gObj M b 2 ∧ Call d 23 [.ref b, s2, s3] M (fun r M1 => Run d 20 210 [a0, a1, a2] (r.toList ++ [s0]) M1 0 0 Z) := R_callV (gd20 dX2_obey_207) rfl rfl rfl rfl rfl rfl gc_2_83 rfl rfl (Nat.le_of_ble_eq_true rfl) (Nat.le_of_ble_eq_true rfl) rfl rfl (Nat.le_of_ble_eq_true rfl) (Nat.le_of_ble_eq_true rfl)
theorem z20_210 : Run d 20 210 [a0, a1, a2] [s1, .ref b] M 0 0 Z ↔ gObj M b 2 ∧ Call d 28 [.ref b, s1] M (fun r M1 => Run d 20 213 [a0, a1, a2] (r.toList ++ []) M1 0 0 Z) := R_callV (gd20 dX2_obey_210) rfl rfl rfl rfl rfl rfl gc_2_66 rfl rfl (Nat.le_of_ble_eq_true rfl) (Nat.le_of_ble_eq_true rfl) rfl rfl (Nat.le_of_ble_eq_true rfl) (Nat.le_of_ble_eq_true rfl)
theorem z20_213 : Run d 20 213 [a0, a1, a2] [.int x] M 0 0 Z ↔ Z (some (.int x)) M := R_iret (gd20 dX2_obey_213) rfl
theorem z20_214 : Run d 20 214 [some (.ref o), a1, a2] [] M 0 0 Z ↔ Run d 20 215 [some (.ref o), a1, a2] [.ref o] M 0 0 Z := R_local (gd20 dX2_obey_214) rfl rfl rfl
theorem z20_215 : Run d 20 215 [a0, some (.int x), a2] [s0] M 0 0 Z ↔ Run d 20 216 [a0, some (.int x), a2] [.int x, s0] M 0 0 Z := R_local (gd20 dX2_obey_215) rfl rfl rfl
theorem z20_216 : Run d 20 216 [a0, a1, some (.ref o)] [s1, s0] M 0 0 Z ↔ Run d 20 217 [a0, a1, some (.ref o)] [.ref o, s1, s0] M 0 0 Z := R_local (gd20 dX2_obey_216) rfl rfl rfl
theorem z20_216n : Run d 20 216 [a0, a1, some .null] [s1, s0] M 0 0 Z ↔ Run d 20 217 [a0, a1, some .null] [.null, s1, s0] M 0 0 Z := R_local (gd20 dX2_obey_216) rfl rfl rfl
theorem z20_217 : Run d 20 217 [a0, a1, a2] [s2, s1, .ref b] M 0 0 Z ↔ gObj M b 2 ∧ Call d 21 [.ref b, s1, s2] M (fun r M1 => Run d 20 220 [a0, a1, a2] (r.toList ++ []) M1 0 0 Z) := R_callV (gd20 dX2_obey_217) rfl rfl rfl rfl rfl rfl gc_2_86 rfl rfl (Nat.le_of_ble_eq_true rfl) (Nat.le_of_ble_eq_true rfl) rfl rfl (Nat.le_of_ble_eq_true rfl) (Nat.le_of_ble_eq_true rfl)
theorem z20_220 : Run d 20 220 [a0, a1, a2] [.int x] M 0 0 Z ↔ Z (some (.int x)) M := R_iret (gd20 dX2_obey_220) rfl
theorem e20 : Call (d + 1) 20 [s0, s1, s2] M Z ↔ Run d 20 0 [some s0, some s1, some s2] [] M 0 0 Z := Call_iff (Nat.lt_of_lt_of_le (Nat.lt_succ_self 20) (Nat.le_of_ble_eq_true rfl)) (Nat.le_of_ble_eq_true rfl)
/-! 21: X2_act (ILClothSchool$Drape;)I -/
theorem gd21 {pc : Nat} {r : Except _ _} (h : decode cX2_act pc = r) : decode (gby 21) pc = r := h
theorem z21_0 : Run d 21 0 [a0, some (.int x), a2] [] M 0 0 Z ↔ Run d 21 1 [a0, some (.int x), a2] [.int x] M 0 0 Z := R_local (gd21 dX2_act_0) rfl rfl rfl
theorem z21_1 : Run d 21 1 [a0, a1, a2] [.int x] M 0 0 Z ↔ (x = 100 → Run d 21 126 [a0, a1, a2] [] M 0 0 Z) ∧ (¬ x = 100 → ((x = 102 → Run d 21 141 [a0, a1, a2] [] M 0 0 Z) ∧ (¬ x = 102 → ((x = 104 → Run d 21 151 [a0, a1, a2] [] M 0 0 Z) ∧ (¬ x = 104 → ((x = 112 → Run d 21 105 [a0, a1, a2] [] M 0 0 Z) ∧ (¬ x = 112 → ((x = 114 → Run d 21 136 [a0, a1, a2] [] M 0 0 Z) ∧ (¬ x = 114 → ((x = 115 → Run d 21 146 [a0, a1, a2] [] M 0 0 Z) ∧ (¬ x = 115 → ((x = 116 → Run d 21 111 [a0, a1, a2] [] M 0 0 Z) ∧ (¬ x = 116 → ((x = 117 → Run d 21 116 [a0, a1, a2] [] M 0 0 Z) ∧ (¬ x = 117 → ((x = 119 → Run d 21 96 [a0, a1, a2] [] M 0 0 Z) ∧ (¬ x = 119 → (Run d 21 160 [a0, a1, a2] [] M 0 0 Z)))))))))))))))))) := R_table (tbl := [(100, 126), (102, 141), (104, 151), (112, 105), (114, 136), (115, 146), (116, 111), (117, 116), (119, 96)]) (dt := 160) (gd21 dX2_act_1) (by decide) (by decide) (by decide)
theorem z21_96 : Run d 21 96 [a0, a1, some (.ref o)] [] M 0 0 Z ↔ Run d 21 97 [a0, a1, some (.ref o)] [.ref o] M 0 0 Z := R_local (gd21 dX2_act_96) rfl rfl rfl
theorem z21_96n : Run d 21 96 [a0, a1, some .null] [] M 0 0 Z ↔ Run d 21 97 [a0, a1, some .null] [.null] M 0 0 Z := R_local (gd21 dX2_act_96) rfl rfl rfl
theorem z21_97 : Run d 21 97 [some (.ref o), a1, a2] [s0] M 0 0 Z ↔ Run d 21 98 [some (.ref o), a1, a2] [.ref o, s0] M 0 0 Z := R_local (gd21 dX2_act_97) rfl rfl rfl
theorem z21_98 : Run d 21 98 [a0, a1, a2] [.ref b, s0] M 0 0 Z ↔ gObj M b 2 ∧ Call d 29 [.ref b] M (fun r M1 => Run d 21 101 [a0, a1, a2] (r.toList ++ [s0]) M1 0 0 Z) := R_callV (gd21 dX2_act_98) rfl rfl rfl rfl rfl rfl gc_2_89 rfl rfl (Nat.le_of_ble_eq_true rfl) (Nat.le_of_ble_eq_true rfl) rfl rfl (Nat.le_of_ble_eq_true rfl) (Nat.le_of_ble_eq_true rfl)
theorem z21_101 : Run d 21 101 [a0, a1, a2] [s1, .ref b] M 0 0 Z ↔ gObj M b 1 ∧ Call d 9 [.ref b, s1] M (fun r M1 => Run d 21 104 [a0, a1, a2] (r.toList ++ []) M1 0 0 Z) := R_callV (gd21 dX2_act_101) rfl rfl rfl rfl rfl rfl gc_2_92 rfl rfl (Nat.le_of_ble_eq_true rfl) (Nat.le_of_ble_eq_true rfl) rfl rfl (Nat.le_of_ble_eq_true rfl) (Nat.le_of_ble_eq_true rfl)
theorem z21_104 : Run d 21 104 [a0, a1, a2] [.int x] M 0 0 Z ↔ Z (some (.int x)) M := R_iret (gd21 dX2_act_104) rfl
theorem z21_105 : Run d 21 105 [some (.ref o), a1, a2] [] M 0 0 Z ↔ Run d 21 106 [some (.ref o), a1, a2] [.ref o] M 0 0 Z := R_local (gd21 dX2_act_105) rfl rfl rfl
theorem z21_106 : Run d 21 106 [a0, a1, some (.ref o)] [s0] M 0 0 Z ↔ Run d 21 107 [a0, a1, some (.ref o)] [.ref o, s0] M 0 0 Z := R_local (gd21 dX2_act_106) rfl rfl rfl
theorem z21_106n : Run d 21 106 [a0, a1, some .null] [s0] M 0 0 Z ↔ Run d 21 107 [a0, a1, some .null] [.null, s0] M 0 0 Z := R_local (gd21 dX2_act_106) rfl rfl rfl
theorem z21_107 : Run d 21 107 [a0, a1, a2] [s1, .ref b] M 0 0 Z ↔ gObj M b 2 ∧ Call d 22 [.ref b, s1] M (fun r M1 => Run d 21 110 [a0, a1, a2] (r.toList ++ []) M1 0 0 Z) := R_callV (gd21 dX2_act_107) rfl rfl rfl rfl rfl rfl gc_2_95 rfl rfl (Nat.le_of_ble_eq_true rfl) (Nat.le_of_ble_eq_true rfl) rfl rfl (Nat.le_of_ble_eq_true rfl) (Nat.le_of_ble_eq_true rfl)
theorem z21_110 : Run d 21 110 [a0, a1, a2] [.int x] M 0 0 Z ↔ Z (some (.int x)) M := R_iret (gd21 dX2_act_110) rfl
theorem z21_111 : Run d 21 111 [a0, a1, some (.ref o)] [] M 0 0 Z ↔ Run d 21 112 [a0, a1, some (.ref o)] [.ref o] M 0 0 Z := R_local (gd21 dX2_act_111) rfl rfl rfl
theorem z21_111n : Run d 21 111 [a0, a1, some .null] [] M 0 0 Z ↔ Run d 21 112 [a0, a1, some .null] [.null] M 0 0 Z := R_local (gd21 dX2_act_111) rfl rfl rfl
theorem z21_112 : Run d 21 112 [a0, a1, a2] [.ref b] M 0 0 Z ↔ gObj M b 1 ∧ Call d 11 [.ref b] M (fun r M1 => Run d 21 115 [a0, a1, a2] (r.toList ++ []) M1 0 0 Z) := R_callV (gd21 dX2_act_112) rfl rfl rfl rfl rfl rfl gc_2_99 rfl rfl (Nat.le_of_ble_eq_true rfl) (Nat.le_of_ble_eq_true rfl) rfl rfl (Nat.le_of_ble_eq_true rfl) (Nat.le_of_ble_eq_true rfl)
theorem z21_115 : Run d 21 115 [a0, a1, a2] [.int x] M 0 0 Z ↔ Z (some (.int x)) M := R_iret (gd21 dX2_act_115) rfl
theorem z21_116 : Run d 21 116 [a0, a1, some (.ref o)] [] M 0 0 Z ↔ Run d 21 117 [a0, a1, some (.ref o)] [.ref o] M 0 0 Z := R_local (gd21 dX2_act_116) rfl rfl rfl
theorem z21_116n : Run d 21 116 [a0, a1, some .null] [] M 0 0 Z ↔ Run d 21 117 [a0, a1, some .null] [.null] M 0 0 Z := R_local (gd21 dX2_act_116) rfl rfl rfl
theorem z21_117 : Run d 21 117 [some (.ref o), a1, a2] [s0] M 0 0 Z ↔ Run d 21 118 [some (.ref o), a1, a2] [.ref o, s0] M 0 0 Z := R_local (gd21 dX2_act_117) rfl rfl rfl
theorem z21_118 : Run d 21 118 [a0, a1, a2] [.ref b, s0] M 0 0 Z ↔ gObj M b 2 ∧ Call d 29 [.ref b] M (fun r M1 => Run d 21 121 [a0, a1, a2] (r.toList ++ [s0]) M1 0 0 Z) := R_callV (gd21 dX2_act_118) rfl rfl rfl rfl rfl rfl gc_2_89 rfl rfl (Nat.le_of_ble_eq_true rfl) (Nat.le_of_ble_eq_true rfl) rfl rfl (Nat.le_of_ble_eq_true rfl) (Nat.le_of_ble_eq_true rfl)
theorem z21_121 : Run d 21 121 [a0, a1, a2] [s1, s0] M 0 0 Z ↔ Run d 21 122 [a0, a1, a2] [.int 1, s1, s0] M 0 0 Z := R_iconst (gd21 dX2_act_121) (by decide)
theorem z21_122 : Run d 21 122 [a0, a1, a2] [s2, s1, .ref b] M 0 0 Z ↔ gObj M b 1 ∧ Call d 12 [.ref b, s1, s2] M (fun r M1 => Run d 21 125 [a0, a1, a2] (r.toList ++ []) M1 0 0 Z) := R_callV (gd21 dX2_act_122) rfl rfl rfl rfl rfl rfl gc_2_102 rfl rfl (Nat.le_of_ble_eq_true rfl) (Nat.le_of_ble_eq_true rfl) rfl rfl (Nat.le_of_ble_eq_true rfl) (Nat.le_of_ble_eq_true rfl)
theorem z21_125 : Run d 21 125 [a0, a1, a2] [.int x] M 0 0 Z ↔ Z (some (.int x)) M := R_iret (gd21 dX2_act_125) rfl
theorem z21_126 : Run d 21 126 [a0, a1, some (.ref o)] [] M 0 0 Z ↔ Run d 21 127 [a0, a1, some (.ref o)] [.ref o] M 0 0 Z := R_local (gd21 dX2_act_126) rfl rfl rfl
theorem z21_126n : Run d 21 126 [a0, a1, some .null] [] M 0 0 Z ↔ Run d 21 127 [a0, a1, some .null] [.null] M 0 0 Z := R_local (gd21 dX2_act_126) rfl rfl rfl
theorem z21_127 : Run d 21 127 [some (.ref o), a1, a2] [s0] M 0 0 Z ↔ Run d 21 128 [some (.ref o), a1, a2] [.ref o, s0] M 0 0 Z := R_local (gd21 dX2_act_127) rfl rfl rfl
theorem z21_128 : Run d 21 128 [a0, a1, a2] [.ref b, s0] M 0 0 Z ↔ gObj M b 2 ∧ Call d 29 [.ref b] M (fun r M1 => Run d 21 131 [a0, a1, a2] (r.toList ++ [s0]) M1 0 0 Z) := R_callV (gd21 dX2_act_128) rfl rfl rfl rfl rfl rfl gc_2_89 rfl rfl (Nat.le_of_ble_eq_true rfl) (Nat.le_of_ble_eq_true rfl) rfl rfl (Nat.le_of_ble_eq_true rfl) (Nat.le_of_ble_eq_true rfl)
theorem z21_131 : Run d 21 131 [a0, a1, a2] [s1, s0] M 0 0 Z ↔ Run d 21 132 [a0, a1, a2] [.int (-1), s1, s0] M 0 0 Z := R_iconst (gd21 dX2_act_131) (by decide)
theorem z21_132 : Run d 21 132 [a0, a1, a2] [s2, s1, .ref b] M 0 0 Z ↔ gObj M b 1 ∧ Call d 12 [.ref b, s1, s2] M (fun r M1 => Run d 21 135 [a0, a1, a2] (r.toList ++ []) M1 0 0 Z) := R_callV (gd21 dX2_act_132) rfl rfl rfl rfl rfl rfl gc_2_102 rfl rfl (Nat.le_of_ble_eq_true rfl) (Nat.le_of_ble_eq_true rfl) rfl rfl (Nat.le_of_ble_eq_true rfl) (Nat.le_of_ble_eq_true rfl)
theorem z21_135 : Run d 21 135 [a0, a1, a2] [.int x] M 0 0 Z ↔ Z (some (.int x)) M := R_iret (gd21 dX2_act_135) rfl
theorem z21_136 : Run d 21 136 [a0, a1, some (.ref o)] [] M 0 0 Z ↔ Run d 21 137 [a0, a1, some (.ref o)] [.ref o] M 0 0 Z := R_local (gd21 dX2_act_136) rfl rfl rfl
theorem z21_136n : Run d 21 136 [a0, a1, some .null] [] M 0 0 Z ↔ Run d 21 137 [a0, a1, some .null] [.null] M 0 0 Z := R_local (gd21 dX2_act_136) rfl rfl rfl
theorem z21_137 : Run d 21 137 [a0, a1, a2] [.ref b] M 0 0 Z ↔ gObj M b 1 ∧ Call d 13 [.ref b] M (fun r M1 => Run d 21 140 [a0, a1, a2] (r.toList ++ []) M1 0 0 Z) := R_callV (gd21 dX2_act_137) rfl rfl rfl rfl rfl rfl gc_2_106 rfl rfl (Nat.le_of_ble_eq_true rfl) (Nat.le_of_ble_eq_true rfl) rfl rfl (Nat.le_of_ble_eq_true rfl) (Nat.le_of_ble_eq_true rfl)
theorem z21_140 : Run d 21 140 [a0, a1, a2] [.int x] M 0 0 Z ↔ Z (some (.int x)) M := R_iret (gd21 dX2_act_140) rfl
theorem z21_141 : Run d 21 141 [a0, a1, some (.ref o)] [] M 0 0 Z ↔ Run d 21 142 [a0, a1, some (.ref o)] [.ref o] M 0 0 Z := R_local (gd21 dX2_act_141) rfl rfl rfl
theorem z21_141n : Run d 21 141 [a0, a1, some .null] [] M 0 0 Z ↔ Run d 21 142 [a0, a1, some .null] [.null] M 0 0 Z := R_local (gd21 dX2_act_141) rfl rfl rfl
theorem z21_142 : Run d 21 142 [a0, a1, a2] [.ref b] M 0 0 Z ↔ gObj M b 1 ∧ Call d 14 [.ref b] M (fun r M1 => Run d 21 145 [a0, a1, a2] (r.toList ++ []) M1 0 0 Z) := R_callV (gd21 dX2_act_142) rfl rfl rfl rfl rfl rfl gc_2_109 rfl rfl (Nat.le_of_ble_eq_true rfl) (Nat.le_of_ble_eq_true rfl) rfl rfl (Nat.le_of_ble_eq_true rfl) (Nat.le_of_ble_eq_true rfl)
theorem z21_145 : Run d 21 145 [a0, a1, a2] [.int x] M 0 0 Z ↔ Z (some (.int x)) M := R_iret (gd21 dX2_act_145) rfl
theorem z21_146 : Run d 21 146 [a0, a1, some (.ref o)] [] M 0 0 Z ↔ Run d 21 147 [a0, a1, some (.ref o)] [.ref o] M 0 0 Z := R_local (gd21 dX2_act_146) rfl rfl rfl
theorem z21_146n : Run d 21 146 [a0, a1, some .null] [] M 0 0 Z ↔ Run d 21 147 [a0, a1, some .null] [.null] M 0 0 Z := R_local (gd21 dX2_act_146) rfl rfl rfl
theorem z21_147 : Run d 21 147 [a0, a1, a2] [.ref b] M 0 0 Z ↔ gObj M b 1 ∧ Call d 15 [.ref b] M (fun r M1 => Run d 21 150 [a0, a1, a2] (r.toList ++ []) M1 0 0 Z) := R_callV (gd21 dX2_act_147) rfl rfl rfl rfl rfl rfl gc_2_112 rfl rfl (Nat.le_of_ble_eq_true rfl) (Nat.le_of_ble_eq_true rfl) rfl rfl (Nat.le_of_ble_eq_true rfl) (Nat.le_of_ble_eq_true rfl)
theorem z21_150 : Run d 21 150 [a0, a1, a2] [.int x] M 0 0 Z ↔ Z (some (.int x)) M := R_iret (gd21 dX2_act_150) rfl
theorem z21_151 : Run d 21 151 [a0, a1, some (.ref o)] [] M 0 0 Z ↔ Run d 21 152 [a0, a1, some (.ref o)] [.ref o] M 0 0 Z := R_local (gd21 dX2_act_151) rfl rfl rfl
theorem z21_151n : Run d 21 151 [a0, a1, some .null] [] M 0 0 Z ↔ Run d 21 152 [a0, a1, some .null] [.null] M 0 0 Z := R_local (gd21 dX2_act_151) rfl rfl rfl
theorem z21_152 : Run d 21 152 [some (.ref o), a1, a2] [s0] M 0 0 Z ↔ Run d 21 153 [some (.ref o), a1, a2] [.ref o, s0] M 0 0 Z := R_local (gd21 dX2_act_152) rfl rfl rfl
theorem z21_153 : Run d 21 153 [a0, a1, a2] [.ref b, s0] M 0 0 Z ↔ gObj M b 2 ∧ Call d 29 [.ref b] M (fun r M1 => Run d 21 156 [a0, a1, a2] (r.toList ++ [s0]) M1 0 0 Z) := R_callV (gd21 dX2_act_153) rfl rfl rfl rfl rfl rfl gc_2_89 rfl rfl (Nat.le_of_ble_eq_true rfl) (Nat.le_of_ble_eq_true rfl) rfl rfl (Nat.le_of_ble_eq_true rfl) (Nat.le_of_ble_eq_true rfl)
theorem z21_156 : Run d 21 156 [a0, a1, a2] [s1, .ref b] M 0 0 Z ↔ gObj M b 1 ∧ Call d 16 [.ref b, s1] M (fun r M1 => Run d 21 159 [a0, a1, a2] (r.toList ++ []) M1 0 0 Z) := R_callV (gd21 dX2_act_156) rfl rfl rfl rfl rfl rfl gc_2_115 rfl rfl (Nat.le_of_ble_eq_true rfl) (Nat.le_of_ble_eq_true rfl) rfl rfl (Nat.le_of_ble_eq_true rfl) (Nat.le_of_ble_eq_true rfl)
theorem z21_159 : Run d 21 159 [a0, a1, a2] [.int x] M 0 0 Z ↔ Z (some (.int x)) M := R_iret (gd21 dX2_act_159) rfl
theorem z21_160 : Run d 21 160 [a0, a1, a2] [] M 0 0 Z ↔ Run d 21 161 [a0, a1, a2] [.int 0] M 0 0 Z := R_iconst (gd21 dX2_act_160) (by decide)
theorem z21_161 : Run d 21 161 [a0, a1, a2] [.int x] M 0 0 Z ↔ Z (some (.int x)) M := R_iret (gd21 dX2_act_161) rfl
theorem e21 : Call (d + 1) 21 [s0, s1, s2] M Z ↔ Run d 21 0 [some s0, some s1, some s2] [] M 0 0 Z := Call_iff (Nat.lt_of_lt_of_le (Nat.lt_succ_self 21) (Nat.le_of_ble_eq_true rfl)) (Nat.le_of_ble_eq_true rfl)
/-! 22: X2_pleat (LClothSchool$Drape;)I -/
theorem gd22 {pc : Nat} {r : Except _ _} (h : decode cX2_pleat pc = r) : decode (gby 22) pc = r := h
theorem z22_0 : Run d 22 0 [some (.ref o), a1, a2, a3] [] M 0 0 Z ↔ Run d 22 1 [some (.ref o), a1, a2, a3] [.ref o] M 0 0 Z := R_local (gd22 dX2_pleat_0) rfl rfl rfl
theorem z22_1 : Run d 22 1 [a0, a1, a2, a3] [.ref b] M 0 0 Z ↔ gObj M b 2 ∧ Call d 29 [.ref b] M (fun r M1 => Run d 22 4 [a0, a1, a2, a3] (r.toList ++ []) M1 0 0 Z) := R_callV (gd22 dX2_pleat_1) rfl rfl rfl rfl rfl rfl gc_2_89 rfl rfl (Nat.le_of_ble_eq_true rfl) (Nat.le_of_ble_eq_true rfl) rfl rfl (Nat.le_of_ble_eq_true rfl) (Nat.le_of_ble_eq_true rfl)
theorem z22_4 : Run d 22 4 [a0, a1, a2, a3] [.int x] M 0 0 Z ↔ Run d 22 5 [a0, a1, some (.int x), a3] [] M 0 0 Z := R_local (gd22 dX2_pleat_4) rfl rfl rfl
theorem z22_5 : Run d 22 5 [some (.ref o), a1, a2, a3] [] M 0 0 Z ↔ Run d 22 6 [some (.ref o), a1, a2, a3] [.ref o] M 0 0 Z := R_local (gd22 dX2_pleat_5) rfl rfl rfl
theorem z22_6 : Run d 22 6 [a0, a1, a2, a3] [.ref b] M 0 0 Z ↔ gObj M b 2 ∧ Call d 29 [.ref b] M (fun r M1 => Run d 22 9 [a0, a1, a2, a3] (r.toList ++ []) M1 0 0 Z) := R_callV (gd22 dX2_pleat_6) rfl rfl rfl rfl rfl rfl gc_2_89 rfl rfl (Nat.le_of_ble_eq_true rfl) (Nat.le_of_ble_eq_true rfl) rfl rfl (Nat.le_of_ble_eq_true rfl) (Nat.le_of_ble_eq_true rfl)
theorem z22_9 : Run d 22 9 [a0, a1, a2, a3] [.int x] M 0 0 Z ↔ Run d 22 10 [a0, a1, a2, some (.int x)] [] M 0 0 Z := R_local (gd22 dX2_pleat_9) rfl rfl rfl
theorem z22_10 : Run d 22 10 [a0, some (.ref o), a2, a3] [] M 0 0 Z ↔ Run d 22 11 [a0, some (.ref o), a2, a3] [.ref o] M 0 0 Z := R_local (gd22 dX2_pleat_10) rfl rfl rfl
theorem z22_10n : Run d 22 10 [a0, some .null, a2, a3] [] M 0 0 Z ↔ Run d 22 11 [a0, some .null, a2, a3] [.null] M 0 0 Z := R_local (gd22 dX2_pleat_10) rfl rfl rfl
theorem z22_11 : Run d 22 11 [a0, a1, a2, some (.int x)] [s0] M 0 0 Z ↔ Run d 22 12 [a0, a1, a2, some (.int x)] [.int x, s0] M 0 0 Z := R_local (gd22 dX2_pleat_11) rfl rfl rfl
theorem z22_12 : Run d 22 12 [a0, a1, some (.int x), a3] [s1, s0] M 0 0 Z ↔ Run d 22 13 [a0, a1, some (.int x), a3] [.int x, s1, s0] M 0 0 Z := R_local (gd22 dX2_pleat_12) rfl rfl rfl
theorem z22_13 : Run d 22 13 [a0, a1, a2, a3] [s2, s1, .ref b] M 0 0 Z ↔ gObj M b 1 ∧ Call d 10 [.ref b, s1, s2] M (fun r M1 => Run d 22 16 [a0, a1, a2, a3] (r.toList ++ []) M1 0 0 Z) := R_callV (gd22 dX2_pleat_13) rfl rfl rfl rfl rfl rfl gc_2_118 rfl rfl (Nat.le_of_ble_eq_true rfl) (Nat.le_of_ble_eq_true rfl) rfl rfl (Nat.le_of_ble_eq_true rfl) (Nat.le_of_ble_eq_true rfl)
theorem z22_16 : Run d 22 16 [a0, a1, a2, a3] [.int x] M 0 0 Z ↔ Z (some (.int x)) M := R_iret (gd22 dX2_pleat_16) rfl
theorem e22 : Call (d + 1) 22 [s0, s1] M Z ↔ Run d 22 0 [some s0, some s1, none, none] [] M 0 0 Z := Call_iff (Nat.lt_of_lt_of_le (Nat.lt_succ_self 22) (Nat.le_of_ble_eq_true rfl)) (Nat.le_of_ble_eq_true rfl)
/-! 23: X2_valueOf (ILClothSchool$Drape;)I -/
theorem gd23 {pc : Nat} {r : Except _ _} (h : decode cX2_valueOf pc = r) : decode (gby 23) pc = r := h
theorem z23_0 : Run d 23 0 [a0, some (.int x), a2] [] M 0 0 Z ↔ Run d 23 1 [a0, some (.int x), a2] [.int x] M 0 0 Z := R_local (gd23 dX2_valueOf_0) rfl rfl rfl
theorem z23_1 : Run d 23 1 [a0, a1, a2] [.int x] M 0 0 Z ↔ (x = 103 → Run d 23 50 [a0, a1, a2] [] M 0 0 Z) ∧ (¬ x = 103 → ((x = 105 → Run d 23 60 [a0, a1, a2] [] M 0 0 Z) ∧ (¬ x = 105 → ((x = 107 → Run d 23 55 [a0, a1, a2] [] M 0 0 Z) ∧ (¬ x = 107 → ((x = 108 → Run d 23 40 [a0, a1, a2] [] M 0 0 Z) ∧ (¬ x = 108 → (Run d 23 65 [a0, a1, a2] [] M 0 0 Z)))))))) := R_table (tbl := [(103, 50), (105, 60), (107, 55), (108, 40)]) (dt := 65) (gd23 dX2_valueOf_1) (by decide) (by decide) (by decide)
theorem z23_40 : Run d 23 40 [some (.ref o), a1, a2] [] M 0 0 Z ↔ Run d 23 41 [some (.ref o), a1, a2] [.ref o] M 0 0 Z := R_local (gd23 dX2_valueOf_40) rfl rfl rfl
theorem z23_41 : Run d 23 41 [a0, a1, a2] [s0] M 0 0 Z ↔ Run d 23 42 [a0, a1, a2] [.int 1, s0] M 0 0 Z := R_iconst (gd23 dX2_valueOf_41) (by decide)
theorem z23_42 : Run d 23 42 [a0, a1, a2] [.int x, .ref o] M 0 0 Z ↔ gObj M o 2 ∧ (x = 0 ∨ x = 1) ∧ Run d 23 45 [a0, a1, a2] [] (gsI M o 9 x) 0 0 Z := R_putZ (gd23 dX2_valueOf_42) rfl gf_2_42 (Or.inl rfl) rfl
theorem z23_45 : Run d 23 45 [a0, a1, some (.ref o)] [] M 0 0 Z ↔ Run d 23 46 [a0, a1, some (.ref o)] [.ref o] M 0 0 Z := R_local (gd23 dX2_valueOf_45) rfl rfl rfl
theorem z23_45n : Run d 23 45 [a0, a1, some .null] [] M 0 0 Z ↔ Run d 23 46 [a0, a1, some .null] [.null] M 0 0 Z := R_local (gd23 dX2_valueOf_45) rfl rfl rfl
theorem z23_46 : Run d 23 46 [a0, a1, a2] [.ref b] M 0 0 Z ↔ gObj M b 1 ∧ Call d 6 [.ref b] M (fun r M1 => Run d 23 49 [a0, a1, a2] (r.toList ++ []) M1 0 0 Z) := R_callV (gd23 dX2_valueOf_46) rfl rfl rfl rfl rfl rfl gc_2_120 rfl rfl (Nat.le_of_ble_eq_true rfl) (Nat.le_of_ble_eq_true rfl) rfl rfl (Nat.le_of_ble_eq_true rfl) (Nat.le_of_ble_eq_true rfl)
theorem z23_49 : Run d 23 49 [a0, a1, a2] [.int x] M 0 0 Z ↔ Z (some (.int x)) M := R_iret (gd23 dX2_valueOf_49) rfl
theorem z23_50 : Run d 23 50 [a0, a1, some (.ref o)] [] M 0 0 Z ↔ Run d 23 51 [a0, a1, some (.ref o)] [.ref o] M 0 0 Z := R_local (gd23 dX2_valueOf_50) rfl rfl rfl
theorem z23_50n : Run d 23 50 [a0, a1, some .null] [] M 0 0 Z ↔ Run d 23 51 [a0, a1, some .null] [.null] M 0 0 Z := R_local (gd23 dX2_valueOf_50) rfl rfl rfl
theorem z23_51 : Run d 23 51 [a0, a1, a2] [.ref b] M 0 0 Z ↔ gObj M b 1 ∧ Call d 7 [.ref b] M (fun r M1 => Run d 23 54 [a0, a1, a2] (r.toList ++ []) M1 0 0 Z) := R_callV (gd23 dX2_valueOf_51) rfl rfl rfl rfl rfl rfl gc_2_123 rfl rfl (Nat.le_of_ble_eq_true rfl) (Nat.le_of_ble_eq_true rfl) rfl rfl (Nat.le_of_ble_eq_true rfl) (Nat.le_of_ble_eq_true rfl)
theorem z23_54 : Run d 23 54 [a0, a1, a2] [.int x] M 0 0 Z ↔ Z (some (.int x)) M := R_iret (gd23 dX2_valueOf_54) rfl
theorem z23_55 : Run d 23 55 [a0, a1, some (.ref o)] [] M 0 0 Z ↔ Run d 23 56 [a0, a1, some (.ref o)] [.ref o] M 0 0 Z := R_local (gd23 dX2_valueOf_55) rfl rfl rfl
theorem z23_55n : Run d 23 55 [a0, a1, some .null] [] M 0 0 Z ↔ Run d 23 56 [a0, a1, some .null] [.null] M 0 0 Z := R_local (gd23 dX2_valueOf_55) rfl rfl rfl
theorem z23_56 : Run d 23 56 [a0, a1, a2] [.ref o] M 0 0 Z ↔ gObj M o 1 ∧ Run d 23 59 [a0, a1, a2] [.int (M.1 o 6)] M 0 0 Z := R_getI (gd23 dX2_valueOf_56) rfl gf_2_126 rfl
theorem z23_59 : Run d 23 59 [a0, a1, a2] [.int x] M 0 0 Z ↔ Z (some (.int x)) M := R_iret (gd23 dX2_valueOf_59) rfl
theorem z23_60 : Run d 23 60 [a0, a1, some (.ref o)] [] M 0 0 Z ↔ Run d 23 61 [a0, a1, some (.ref o)] [.ref o] M 0 0 Z := R_local (gd23 dX2_valueOf_60) rfl rfl rfl
theorem z23_60n : Run d 23 60 [a0, a1, some .null] [] M 0 0 Z ↔ Run d 23 61 [a0, a1, some .null] [.null] M 0 0 Z := R_local (gd23 dX2_valueOf_60) rfl rfl rfl
theorem z23_61 : Run d 23 61 [a0, a1, a2] [.ref o] M 0 0 Z ↔ gObj M o 1 ∧ Run d 23 64 [a0, a1, a2] [.int (M.1 o 5)] M 0 0 Z := R_getI (gd23 dX2_valueOf_61) rfl gf_2_129 rfl
theorem z23_64 : Run d 23 64 [a0, a1, a2] [.int x] M 0 0 Z ↔ Z (some (.int x)) M := R_iret (gd23 dX2_valueOf_64) rfl
theorem z23_65 : Run d 23 65 [a0, some (.int x), a2] [] M 0 0 Z ↔ Run d 23 66 [a0, some (.int x), a2] [.int x] M 0 0 Z := R_local (gd23 dX2_valueOf_65) rfl rfl rfl
theorem z23_66 : Run d 23 66 [a0, a1, a2] [s0] M 0 0 Z ↔ Run d 23 68 [a0, a1, a2] [.int 120, s0] M 0 0 Z := R_bipush (gd23 dX2_valueOf_66) (by decide)
theorem z23_68 : Run d 23 68 [a0, a1, a2] [.int y, .int x] M 0 0 Z ↔ Run d 23 69 [a0, a1, a2] [.int (x - y)] M 0 0 Z := R_arith (gd23 dX2_valueOf_68) rfl
theorem z23_69 : Run d 23 69 [some (.ref o), a1, a2] [s0] M 0 0 Z ↔ Run d 23 70 [some (.ref o), a1, a2] [.ref o, s0] M 0 0 Z := R_local (gd23 dX2_valueOf_69) rfl rfl rfl
theorem z23_70 : Run d 23 70 [a0, a1, a2] [.ref o, s0] M 0 0 Z ↔ gObj M o 2 ∧ Run d 23 73 [a0, a1, a2] [va_rf (M.2.1 o 5), s0] M 0 0 Z := R_getR (gd23 dX2_valueOf_70) rfl gf_2_30 rfl
theorem z23_73 : Run d 23 73 [a0, a1, a2] [.ref o, s0] M 0 0 Z ↔ (gTy M o).isSome = true ∧ Run d 23 74 [a0, a1, a2] [.int (nI (gLen M o)), s0] M 0 0 Z := R_alen (gd23 dX2_valueOf_73)
theorem z23_74 : Run d 23 74 [a0, a1, a2] [s1, s0] M 0 0 Z ↔ Call d 110 [s0, s1] M (fun r M1 => Run d 23 77 [a0, a1, a2] (r.toList ++ []) M1 0 0 Z) := R_call (gd23 dX2_valueOf_74) rfl rfl rfl rfl rfl rfl gc_2_55 rfl (by decide) (Nat.le_of_ble_eq_true rfl) (Nat.le_of_ble_eq_true rfl) rfl rfl rfl (Nat.le_of_ble_eq_true rfl) (Nat.le_of_ble_eq_true rfl)
theorem z23_77 : Run d 23 77 [a0, a1, a2] [.int x] M 0 0 Z ↔ (x = 0 → Run d 23 92 [a0, a1, a2] [] M 0 0 Z) ∧ (¬ (x = 0) → Run d 23 80 [a0, a1, a2] [] M 0 0 Z) := R_if (gd23 dX2_valueOf_77) (show gTgt 77 15 = some 92 by decide) gIf_eq
theorem z23_80 : Run d 23 80 [some (.ref o), a1, a2] [] M 0 0 Z ↔ Run d 23 81 [some (.ref o), a1, a2] [.ref o] M 0 0 Z := R_local (gd23 dX2_valueOf_80) rfl rfl rfl
theorem z23_81 : Run d 23 81 [a0, a1, a2] [.ref o] M 0 0 Z ↔ gObj M o 2 ∧ Run d 23 84 [a0, a1, a2] [va_rf (M.2.1 o 5)] M 0 0 Z := R_getR (gd23 dX2_valueOf_81) rfl gf_2_30 rfl
theorem z23_84 : Run d 23 84 [a0, some (.int x), a2] [s0] M 0 0 Z ↔ Run d 23 85 [a0, some (.int x), a2] [.int x, s0] M 0 0 Z := R_local (gd23 dX2_valueOf_84) rfl rfl rfl
theorem z23_85 : Run d 23 85 [a0, a1, a2] [s1, s0] M 0 0 Z ↔ Run d 23 87 [a0, a1, a2] [.int 120, s1, s0] M 0 0 Z := R_bipush (gd23 dX2_valueOf_85) (by decide)
theorem z23_87 : Run d 23 87 [a0, a1, a2] [.int y, .int x, s0] M 0 0 Z ↔ Run d 23 88 [a0, a1, a2] [.int (x - y), s0] M 0 0 Z := R_arith (gd23 dX2_valueOf_87) rfl
theorem z23_88 : Run d 23 88 [a0, a1, a2] [.int x, .ref o] M 0 0 Z ↔ gAr M o 0 ∧ gIn x (gLen M o) = true ∧ Run d 23 89 [a0, a1, a2] [.int (M.1 o x.toNatClampNeg)] M 0 0 Z := R_iald (gd23 dX2_valueOf_88)
theorem z23_89 : Run d 23 89 [a0, a1, a2] [s0] M 0 0 Z ↔ Run d 23 93 [a0, a1, a2] [s0] M 0 0 Z := R_goto (gd23 dX2_valueOf_89) (show gTgt 89 4 = some 93 by decide)
theorem z23_92 : Run d 23 92 [a0, a1, a2] [] M 0 0 Z ↔ Run d 23 93 [a0, a1, a2] [.int 0] M 0 0 Z := R_iconst (gd23 dX2_valueOf_92) (by decide)
theorem z23_93 : Run d 23 93 [a0, a1, a2] [.int x] M 0 0 Z ↔ Z (some (.int x)) M := R_iret (gd23 dX2_valueOf_93) rfl
theorem e23 : Call (d + 1) 23 [s0, s1, s2] M Z ↔ Run d 23 0 [some s0, some s1, some s2] [] M 0 0 Z := Call_iff (Nat.lt_of_lt_of_le (Nat.lt_succ_self 23) (Nat.le_of_ble_eq_true rfl)) (Nat.le_of_ble_eq_true rfl)
/-! 24: X2_name (I)I -/
theorem gd24 {pc : Nat} {r : Except _ _} (h : decode cX2_name pc = r) : decode (gby 24) pc = r := h
theorem z24_0 : Run d 24 0 [some (.ref o), a1, a2] [] M 0 0 Z ↔ Run d 24 1 [some (.ref o), a1, a2] [.ref o] M 0 0 Z := R_local (gd24 dX2_name_0) rfl rfl rfl
theorem z24_1 : Run d 24 1 [a0, a1, a2] [.ref b] M 0 0 Z ↔ gObj M b 2 ∧ Call d 29 [.ref b] M (fun r M1 => Run d 24 4 [a0, a1, a2] (r.toList ++ []) M1 0 0 Z) := R_callV (gd24 dX2_name_1) rfl rfl rfl rfl rfl rfl gc_2_89 rfl rfl (Nat.le_of_ble_eq_true rfl) (Nat.le_of_ble_eq_true rfl) rfl rfl (Nat.le_of_ble_eq_true rfl) (Nat.le_of_ble_eq_true rfl)
theorem z24_4 : Run d 24 4 [a0, a1, a2] [.int x] M 0 0 Z ↔ Run d 24 5 [a0, a1, some (.int x)] [] M 0 0 Z := R_local (gd24 dX2_name_4) rfl rfl rfl
theorem z24_5 : Run d 24 5 [a0, some (.int x), a2] [] M 0 0 Z ↔ Run d 24 6 [a0, some (.int x), a2] [.int x] M 0 0 Z := R_local (gd24 dX2_name_5) rfl rfl rfl
theorem z24_6 : Run d 24 6 [some (.ref o), a1, a2] [s0] M 0 0 Z ↔ Run d 24 7 [some (.ref o), a1, a2] [.ref o, s0] M 0 0 Z := R_local (gd24 dX2_name_6) rfl rfl rfl
theorem z24_7 : Run d 24 7 [a0, a1, a2] [.ref o, s0] M 0 0 Z ↔ gObj M o 2 ∧ Run d 24 10 [a0, a1, a2] [va_rf (M.2.1 o 5), s0] M 0 0 Z := R_getR (gd24 dX2_name_7) rfl gf_2_30 rfl
theorem z24_10 : Run d 24 10 [a0, a1, a2] [.ref o, s0] M 0 0 Z ↔ (gTy M o).isSome = true ∧ Run d 24 11 [a0, a1, a2] [.int (nI (gLen M o)), s0] M 0 0 Z := R_alen (gd24 dX2_name_10)
theorem z24_11 : Run d 24 11 [a0, a1, a2] [s1, s0] M 0 0 Z ↔ Call d 110 [s0, s1] M (fun r M1 => Run d 24 14 [a0, a1, a2] (r.toList ++ []) M1 0 0 Z) := R_call (gd24 dX2_name_11) rfl rfl rfl rfl rfl rfl gc_2_55 rfl (by decide) (Nat.le_of_ble_eq_true rfl) (Nat.le_of_ble_eq_true rfl) rfl rfl rfl (Nat.le_of_ble_eq_true rfl) (Nat.le_of_ble_eq_true rfl)
theorem z24_14 : Run d 24 14 [a0, a1, a2] [.int x] M 0 0 Z ↔ (x = 0 → Run d 24 24 [a0, a1, a2] [] M 0 0 Z) ∧ (¬ (x = 0) → Run d 24 17 [a0, a1, a2] [] M 0 0 Z) := R_if (gd24 dX2_name_14) (show gTgt 14 10 = some 24 by decide) gIf_eq
theorem z24_17 : Run d 24 17 [some (.ref o), a1, a2] [] M 0 0 Z ↔ Run d 24 18 [some (.ref o), a1, a2] [.ref o] M 0 0 Z := R_local (gd24 dX2_name_17) rfl rfl rfl
theorem z24_18 : Run d 24 18 [a0, a1, a2] [.ref o] M 0 0 Z ↔ gObj M o 2 ∧ Run d 24 21 [a0, a1, a2] [va_rf (M.2.1 o 5)] M 0 0 Z := R_getR (gd24 dX2_name_18) rfl gf_2_30 rfl
theorem z24_21 : Run d 24 21 [a0, some (.int x), a2] [s0] M 0 0 Z ↔ Run d 24 22 [a0, some (.int x), a2] [.int x, s0] M 0 0 Z := R_local (gd24 dX2_name_21) rfl rfl rfl
theorem z24_22 : Run d 24 22 [a0, a1, some (.int x)] [s1, s0] M 0 0 Z ↔ Run d 24 23 [a0, a1, some (.int x)] [.int x, s1, s0] M 0 0 Z := R_local (gd24 dX2_name_22) rfl rfl rfl
theorem z24_23 : Run d 24 23 [a0, a1, a2] [.int y, .int x, .ref o] M 0 0 Z ↔ gAr M o 0 ∧ gIn x (gLen M o) = true ∧ Run d 24 24 [a0, a1, a2] [] (gsI M o x.toNatClampNeg y) 0 0 Z := R_iast (gd24 dX2_name_23)
theorem z24_24 : Run d 24 24 [a0, a1, a2] [] M 0 0 Z ↔ Run d 24 25 [a0, a1, a2] [.int 0] M 0 0 Z := R_iconst (gd24 dX2_name_24) (by decide)
theorem z24_25 : Run d 24 25 [a0, a1, a2] [.int x] M 0 0 Z ↔ Z (some (.int x)) M := R_iret (gd24 dX2_name_25) rfl
theorem e24 : Call (d + 1) 24 [s0, s1] M Z ↔ Run d 24 0 [some s0, some s1, none] [] M 0 0 Z := Call_iff (Nat.lt_of_lt_of_le (Nat.lt_succ_self 24) (Nat.le_of_ble_eq_true rfl)) (Nat.le_of_ble_eq_true rfl)
/-! 25: X2_reckon (I)I -/
theorem gd25 {pc : Nat} {r : Except _ _} (h : decode cX2_reckon pc = r) : decode (gby 25) pc = r := h
theorem z25_0 : Run d 25 0 [some (.ref o), a1, a2, a3] [] M 0 0 Z ↔ Run d 25 1 [some (.ref o), a1, a2, a3] [.ref o] M 0 0 Z := R_local (gd25 dX2_reckon_0) rfl rfl rfl
theorem z25_1 : Run d 25 1 [a0, a1, a2, a3] [.ref b] M 0 0 Z ↔ gObj M b 2 ∧ Call d 29 [.ref b] M (fun r M1 => Run d 25 4 [a0, a1, a2, a3] (r.toList ++ []) M1 0 0 Z) := R_callV (gd25 dX2_reckon_1) rfl rfl rfl rfl rfl rfl gc_2_89 rfl rfl (Nat.le_of_ble_eq_true rfl) (Nat.le_of_ble_eq_true rfl) rfl rfl (Nat.le_of_ble_eq_true rfl) (Nat.le_of_ble_eq_true rfl)
theorem z25_4 : Run d 25 4 [a0, a1, a2, a3] [.int x] M 0 0 Z ↔ Run d 25 5 [a0, a1, some (.int x), a3] [] M 0 0 Z := R_local (gd25 dX2_reckon_4) rfl rfl rfl
theorem z25_5 : Run d 25 5 [some (.ref o), a1, a2, a3] [] M 0 0 Z ↔ Run d 25 6 [some (.ref o), a1, a2, a3] [.ref o] M 0 0 Z := R_local (gd25 dX2_reckon_5) rfl rfl rfl
theorem z25_6 : Run d 25 6 [a0, a1, a2, a3] [.ref b] M 0 0 Z ↔ gObj M b 2 ∧ Call d 29 [.ref b] M (fun r M1 => Run d 25 9 [a0, a1, a2, a3] (r.toList ++ []) M1 0 0 Z) := R_callV (gd25 dX2_reckon_6) rfl rfl rfl rfl rfl rfl gc_2_89 rfl rfl (Nat.le_of_ble_eq_true rfl) (Nat.le_of_ble_eq_true rfl) rfl rfl (Nat.le_of_ble_eq_true rfl) (Nat.le_of_ble_eq_true rfl)
theorem z25_9 : Run d 25 9 [a0, a1, a2, a3] [.int x] M 0 0 Z ↔ Run d 25 10 [a0, a1, a2, some (.int x)] [] M 0 0 Z := R_local (gd25 dX2_reckon_9) rfl rfl rfl
theorem z25_10 : Run d 25 10 [a0, some (.int x), a2, a3] [] M 0 0 Z ↔ Run d 25 11 [a0, some (.int x), a2, a3] [.int x] M 0 0 Z := R_local (gd25 dX2_reckon_10) rfl rfl rfl
theorem z25_11 : Run d 25 11 [a0, a1, a2, a3] [.int x] M 0 0 Z ↔ (x = 42 → Run d 25 56 [a0, a1, a2, a3] [] M 0 0 Z) ∧ (¬ x = 42 → ((x = 43 → Run d 25 40 [a0, a1, a2, a3] [] M 0 0 Z) ∧ (¬ x = 43 → ((x = 45 → Run d 25 48 [a0, a1, a2, a3] [] M 0 0 Z) ∧ (¬ x = 45 → (Run d 25 64 [a0, a1, a2, a3] [] M 0 0 Z)))))) := R_table (tbl := [(42, 56), (43, 40), (45, 48)]) (dt := 64) (gd25 dX2_reckon_11) (by decide) (by decide) (by decide)
theorem z25_40 : Run d 25 40 [some (.ref o), a1, a2, a3] [] M 0 0 Z ↔ Run d 25 41 [some (.ref o), a1, a2, a3] [.ref o] M 0 0 Z := R_local (gd25 dX2_reckon_40) rfl rfl rfl
theorem z25_41 : Run d 25 41 [a0, a1, a2, some (.int x)] [s0] M 0 0 Z ↔ Run d 25 42 [a0, a1, a2, some (.int x)] [.int x, s0] M 0 0 Z := R_local (gd25 dX2_reckon_41) rfl rfl rfl
theorem z25_42 : Run d 25 42 [a0, a1, some (.int x), a3] [s1, s0] M 0 0 Z ↔ Run d 25 43 [a0, a1, some (.int x), a3] [.int x, s1, s0] M 0 0 Z := R_local (gd25 dX2_reckon_42) rfl rfl rfl
theorem z25_43 : Run d 25 43 [a0, a1, a2, a3] [.int y, .int x, s0] M 0 0 Z ↔ Run d 25 44 [a0, a1, a2, a3] [.int (x + y), s0] M 0 0 Z := R_arith (gd25 dX2_reckon_43) rfl
theorem z25_44 : Run d 25 44 [a0, a1, a2, a3] [s1, .ref b] M 0 0 Z ↔ gObj M b 2 ∧ Call d 28 [.ref b, s1] M (fun r M1 => Run d 25 47 [a0, a1, a2, a3] (r.toList ++ []) M1 0 0 Z) := R_callV (gd25 dX2_reckon_44) rfl rfl rfl rfl rfl rfl gc_2_66 rfl rfl (Nat.le_of_ble_eq_true rfl) (Nat.le_of_ble_eq_true rfl) rfl rfl (Nat.le_of_ble_eq_true rfl) (Nat.le_of_ble_eq_true rfl)
theorem z25_47 : Run d 25 47 [a0, a1, a2, a3] [.int x] M 0 0 Z ↔ Z (some (.int x)) M := R_iret (gd25 dX2_reckon_47) rfl
theorem z25_48 : Run d 25 48 [some (.ref o), a1, a2, a3] [] M 0 0 Z ↔ Run d 25 49 [some (.ref o), a1, a2, a3] [.ref o] M 0 0 Z := R_local (gd25 dX2_reckon_48) rfl rfl rfl
theorem z25_49 : Run d 25 49 [a0, a1, a2, some (.int x)] [s0] M 0 0 Z ↔ Run d 25 50 [a0, a1, a2, some (.int x)] [.int x, s0] M 0 0 Z := R_local (gd25 dX2_reckon_49) rfl rfl rfl
theorem z25_50 : Run d 25 50 [a0, a1, some (.int x), a3] [s1, s0] M 0 0 Z ↔ Run d 25 51 [a0, a1, some (.int x), a3] [.int x, s1, s0] M 0 0 Z := R_local (gd25 dX2_reckon_50) rfl rfl rfl
theorem z25_51 : Run d 25 51 [a0, a1, a2, a3] [.int y, .int x, s0] M 0 0 Z ↔ Run d 25 52 [a0, a1, a2, a3] [.int (x - y), s0] M 0 0 Z := R_arith (gd25 dX2_reckon_51) rfl
theorem z25_52 : Run d 25 52 [a0, a1, a2, a3] [s1, .ref b] M 0 0 Z ↔ gObj M b 2 ∧ Call d 28 [.ref b, s1] M (fun r M1 => Run d 25 55 [a0, a1, a2, a3] (r.toList ++ []) M1 0 0 Z) := R_callV (gd25 dX2_reckon_52) rfl rfl rfl rfl rfl rfl gc_2_66 rfl rfl (Nat.le_of_ble_eq_true rfl) (Nat.le_of_ble_eq_true rfl) rfl rfl (Nat.le_of_ble_eq_true rfl) (Nat.le_of_ble_eq_true rfl)
theorem z25_55 : Run d 25 55 [a0, a1, a2, a3] [.int x] M 0 0 Z ↔ Z (some (.int x)) M := R_iret (gd25 dX2_reckon_55) rfl
theorem z25_56 : Run d 25 56 [some (.ref o), a1, a2, a3] [] M 0 0 Z ↔ Run d 25 57 [some (.ref o), a1, a2, a3] [.ref o] M 0 0 Z := R_local (gd25 dX2_reckon_56) rfl rfl rfl
theorem z25_57 : Run d 25 57 [a0, a1, a2, some (.int x)] [s0] M 0 0 Z ↔ Run d 25 58 [a0, a1, a2, some (.int x)] [.int x, s0] M 0 0 Z := R_local (gd25 dX2_reckon_57) rfl rfl rfl
theorem z25_58 : Run d 25 58 [a0, a1, some (.int x), a3] [s1, s0] M 0 0 Z ↔ Run d 25 59 [a0, a1, some (.int x), a3] [.int x, s1, s0] M 0 0 Z := R_local (gd25 dX2_reckon_58) rfl rfl rfl
theorem z25_59 : Run d 25 59 [a0, a1, a2, a3] [.int y, .int x, s0] M 0 0 Z ↔ Run d 25 60 [a0, a1, a2, a3] [.int (x * y), s0] M 0 0 Z := R_arith (gd25 dX2_reckon_59) rfl
theorem z25_60 : Run d 25 60 [a0, a1, a2, a3] [s1, .ref b] M 0 0 Z ↔ gObj M b 2 ∧ Call d 28 [.ref b, s1] M (fun r M1 => Run d 25 63 [a0, a1, a2, a3] (r.toList ++ []) M1 0 0 Z) := R_callV (gd25 dX2_reckon_60) rfl rfl rfl rfl rfl rfl gc_2_66 rfl rfl (Nat.le_of_ble_eq_true rfl) (Nat.le_of_ble_eq_true rfl) rfl rfl (Nat.le_of_ble_eq_true rfl) (Nat.le_of_ble_eq_true rfl)
theorem z25_63 : Run d 25 63 [a0, a1, a2, a3] [.int x] M 0 0 Z ↔ Z (some (.int x)) M := R_iret (gd25 dX2_reckon_63) rfl
theorem z25_64 : Run d 25 64 [a0, a1, some (.int x), a3] [] M 0 0 Z ↔ Run d 25 65 [a0, a1, some (.int x), a3] [.int x] M 0 0 Z := R_local (gd25 dX2_reckon_64) rfl rfl rfl
theorem z25_65 : Run d 25 65 [a0, a1, a2, a3] [.int x] M 0 0 Z ↔ (¬ x = 0 → Run d 25 72 [a0, a1, a2, a3] [] M 0 0 Z) ∧ (¬ (¬ x = 0) → Run d 25 68 [a0, a1, a2, a3] [] M 0 0 Z) := R_if (gd25 dX2_reckon_65) (show gTgt 65 7 = some 72 by decide) gIf_ne
theorem z25_68 : Run d 25 68 [a0, a1, a2, a3] [] M 0 0 Z ↔ Run d 25 69 [a0, a1, a2, a3] [.int 5] M 0 0 Z := R_iconst (gd25 dX2_reckon_68) (by decide)
theorem z25_69 : Run d 25 69 [a0, a1, a2, a3] [s0] M 0 0 Z ↔ Run d 25 79 [a0, a1, a2, a3] [s0] M 0 0 Z := R_goto (gd25 dX2_reckon_69) (show gTgt 69 10 = some 79 by decide)
theorem z25_72 : Run d 25 72 [some (.ref o), a1, a2, a3] [] M 0 0 Z ↔ Run d 25 73 [some (.ref o), a1, a2, a3] [.ref o] M 0 0 Z := R_local (gd25 dX2_reckon_72) rfl rfl rfl
theorem z25_73 : Run d 25 73 [a0, a1, a2, some (.int x)] [s0] M 0 0 Z ↔ Run d 25 74 [a0, a1, a2, some (.int x)] [.int x, s0] M 0 0 Z := R_local (gd25 dX2_reckon_73) rfl rfl rfl
theorem z25_74 : Run d 25 74 [a0, a1, some (.int x), a3] [s1, s0] M 0 0 Z ↔ Run d 25 75 [a0, a1, some (.int x), a3] [.int x, s1, s0] M 0 0 Z := R_local (gd25 dX2_reckon_74) rfl rfl rfl
theorem z25_75 (hy : ¬ y = 0) : Run d 25 75 [a0, a1, a2, a3] [.int y, .int x, s0] M 0 0 Z ↔ Run d 25 76 [a0, a1, a2, a3] [.int (x / y), s0] M 0 0 Z := R_div (gd25 dX2_reckon_75) hy
theorem z25_76 : Run d 25 76 [a0, a1, a2, a3] [s1, .ref b] M 0 0 Z ↔ gObj M b 2 ∧ Call d 28 [.ref b, s1] M (fun r M1 => Run d 25 79 [a0, a1, a2, a3] (r.toList ++ []) M1 0 0 Z) := R_callV (gd25 dX2_reckon_76) rfl rfl rfl rfl rfl rfl gc_2_66 rfl rfl (Nat.le_of_ble_eq_true rfl) (Nat.le_of_ble_eq_true rfl) rfl rfl (Nat.le_of_ble_eq_true rfl) (Nat.le_of_ble_eq_true rfl)
theorem z25_79 : Run d 25 79 [a0, a1, a2, a3] [.int x] M 0 0 Z ↔ Z (some (.int x)) M := R_iret (gd25 dX2_reckon_79) rfl
theorem e25 : Call (d + 1) 25 [s0, s1] M Z ↔ Run d 25 0 [some s0, some s1, none, none] [] M 0 0 Z := Call_iff (Nat.lt_of_lt_of_le (Nat.lt_succ_self 25) (Nat.le_of_ble_eq_true rfl)) (Nat.le_of_ble_eq_true rfl)
end
