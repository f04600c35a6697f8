/-! Rules of the methods, an instruction each, by program (wip/whole/rows.py). -/
theorem dX9_valueOf_0 : decode cX9_valueOf 0 = .ok (.iload_n 1, 1) := by decide +kernel
theorem dX9_valueOf_1 : decode cX9_valueOf 1 = .ok (.tableswitch 163 103 122 #[131, 163, 163, 163, 153, 116, 163, 163, 163, 163, 163, 163, 163, 163, 163, 163, 163, 95, 102, 109], 95) := by decide +kernel
theorem dX9_valueOf_96 : decode cX9_valueOf 96 = .ok (.aload_n 0, 1) := by decide +kernel
theorem dX9_valueOf_97 : decode cX9_valueOf 97 = .ok (.getfield 95, 3) := by decide +kernel
theorem dX9_valueOf_100 : decode cX9_valueOf 100 = .ok (.iconst 0, 1) := by decide +kernel
theorem dX9_valueOf_101 : decode cX9_valueOf 101 = .ok (.iaload, 1) := by decide +kernel
theorem dX9_valueOf_102 : decode cX9_valueOf 102 = .ok (.ireturn, 1) := by decide +kernel
theorem dX9_valueOf_103 : decode cX9_valueOf 103 = .ok (.aload_n 0, 1) := by decide +kernel
theorem dX9_valueOf_104 : decode cX9_valueOf 104 = .ok (.getfield 95, 3) := by decide +kernel
theorem dX9_valueOf_107 : decode cX9_valueOf 107 = .ok (.iconst 1, 1) := by decide +kernel
theorem dX9_valueOf_108 : decode cX9_valueOf 108 = .ok (.iaload, 1) := by decide +kernel
theorem dX9_valueOf_109 : decode cX9_valueOf 109 = .ok (.ireturn, 1) := by decide +kernel
theorem dX9_valueOf_110 : decode cX9_valueOf 110 = .ok (.aload_n 0, 1) := by decide +kernel
theorem dX9_valueOf_111 : decode cX9_valueOf 111 = .ok (.getfield 95, 3) := by decide +kernel
theorem dX9_valueOf_114 : decode cX9_valueOf 114 = .ok (.iconst 2, 1) := by decide +kernel
theorem dX9_valueOf_115 : decode cX9_valueOf 115 = .ok (.iaload, 1) := by decide +kernel
theorem dX9_valueOf_116 : decode cX9_valueOf 116 = .ok (.ireturn, 1) := by decide +kernel
theorem dX9_valueOf_117 : decode cX9_valueOf 117 = .ok (.aload_n 0, 1) := by decide +kernel
theorem dX9_valueOf_118 : decode cX9_valueOf 118 = .ok (.getfield 230, 3) := by decide +kernel
theorem dX9_valueOf_121 : decode cX9_valueOf 121 = .ok (.aload_n 0, 1) := by decide +kernel
theorem dX9_valueOf_122 : decode cX9_valueOf 122 = .ok (.getfield 62, 3) := by decide +kernel
theorem dX9_valueOf_125 : decode cX9_valueOf 125 = .ok (.aload_n 0, 1) := by decide +kernel
theorem dX9_valueOf_126 : decode cX9_valueOf 126 = .ok (.getfield 233, 3) := by decide +kernel
theorem dX9_valueOf_129 : decode cX9_valueOf 129 = .ok (.iaload, 1) := by decide +kernel
theorem dX9_valueOf_130 : decode cX9_valueOf 130 = .ok (.isub, 1) := by decide +kernel
theorem dX9_valueOf_131 : decode cX9_valueOf 131 = .ok (.ireturn, 1) := by decide +kernel
theorem dX9_valueOf_132 : decode cX9_valueOf 132 = .ok (.aload_n 0, 1) := by decide +kernel
theorem dX9_valueOf_133 : decode cX9_valueOf 133 = .ok (.aload_n 0, 1) := by decide +kernel
theorem dX9_valueOf_134 : decode cX9_valueOf 134 = .ok (.getfield 71, 3) := by decide +kernel
theorem dX9_valueOf_137 : decode cX9_valueOf 137 = .ok (.aload_n 0, 1) := by decide +kernel
theorem dX9_valueOf_138 : decode cX9_valueOf 138 = .ok (.getfield 233, 3) := by decide +kernel
theorem dX9_valueOf_141 : decode cX9_valueOf 141 = .ok (.iaload, 1) := by decide +kernel
theorem dX9_valueOf_142 : decode cX9_valueOf 142 = .ok (.aload_n 0, 1) := by decide +kernel
theorem dX9_valueOf_143 : decode cX9_valueOf 143 = .ok (.getfield 236, 3) := by decide +kernel
theorem dX9_valueOf_146 : decode cX9_valueOf 146 = .ok (.aload_n 0, 1) := by decide +kernel
theorem dX9_valueOf_147 : decode cX9_valueOf 147 = .ok (.getfield 239, 3) := by decide +kernel
theorem dX9_valueOf_150 : decode cX9_valueOf 150 = .ok (.invokevirtual 242, 3) := by decide +kernel
theorem dX9_valueOf_153 : decode cX9_valueOf 153 = .ok (.ireturn, 1) := by decide +kernel
theorem dX9_valueOf_154 : decode cX9_valueOf 154 = .ok (.aload_n 0, 1) := by decide +kernel
theorem dX9_valueOf_155 : decode cX9_valueOf 155 = .ok (.getfield 74, 3) := by decide +kernel
theorem dX9_valueOf_158 : decode cX9_valueOf 158 = .ok (.aload_n 0, 1) := by decide +kernel
theorem dX9_valueOf_159 : decode cX9_valueOf 159 = .ok (.getfield 233, 3) := by decide +kernel
theorem dX9_valueOf_162 : decode cX9_valueOf 162 = .ok (.iaload, 1) := by decide +kernel
theorem dX9_valueOf_163 : decode cX9_valueOf 163 = .ok (.ireturn, 1) := by decide +kernel
theorem dX9_valueOf_164 : decode cX9_valueOf 164 = .ok (.aload_n 0, 1) := by decide +kernel
theorem dX9_valueOf_165 : decode cX9_valueOf 165 = .ok (.getfield 71, 3) := by decide +kernel
theorem dX9_valueOf_168 : decode cX9_valueOf 168 = .ok (.aload_n 0, 1) := by decide +kernel
theorem dX9_valueOf_169 : decode cX9_valueOf 169 = .ok (.getfield 233, 3) := by decide +kernel
theorem dX9_valueOf_172 : decode cX9_valueOf 172 = .ok (.iaload, 1) := by decide +kernel
theorem dX9_valueOf_173 : decode cX9_valueOf 173 = .ok (.ireturn, 1) := by decide +kernel
theorem dX9_works_0 : decode cX9_works 0 = .ok (.aload_n 0, 1) := by decide +kernel
theorem dX9_works_1 : decode cX9_works 1 = .ok (.dup, 1) := by decide +kernel
theorem dX9_works_2 : decode cX9_works 2 = .ok (.getfield 246, 3) := by decide +kernel
theorem dX9_works_5 : decode cX9_works 5 = .ok (.iconst 1, 1) := by decide +kernel
theorem dX9_works_6 : decode cX9_works 6 = .ok (.isub, 1) := by decide +kernel
theorem dX9_works_7 : decode cX9_works 7 = .ok (.putfield 246, 3) := by decide +kernel
theorem dX9_works_10 : decode cX9_works 10 = .ok (.aload_n 0, 1) := by decide +kernel
theorem dX9_works_11 : decode cX9_works 11 = .ok (.dup, 1) := by decide +kernel
theorem dX9_works_12 : decode cX9_works 12 = .ok (.getfield 249, 3) := by decide +kernel
theorem dX9_works_15 : decode cX9_works 15 = .ok (.iconst 1, 1) := by decide +kernel
theorem dX9_works_16 : decode cX9_works 16 = .ok (.isub, 1) := by decide +kernel
theorem dX9_works_17 : decode cX9_works 17 = .ok (.putfield 249, 3) := by decide +kernel
theorem dX9_works_20 : decode cX9_works 20 = .ok (.aload_n 0, 1) := by decide +kernel
theorem dX9_works_21 : decode cX9_works 21 = .ok (.getfield 104, 3) := by decide +kernel
theorem dX9_works_24 : decode cX9_works 24 = .ok (.aload_n 0, 1) := by decide +kernel
theorem dX9_works_25 : decode cX9_works 25 = .ok (.getfield 249, 3) := by decide +kernel
theorem dX9_works_28 : decode cX9_works 28 = .ok (.iconst 1, 1) := by decide +kernel
theorem dX9_works_29 : decode cX9_works 29 = .ok (.isub, 1) := by decide +kernel
theorem dX9_works_30 : decode cX9_works 30 = .ok (.iaload, 1) := by decide +kernel
theorem dX9_works_31 : decode cX9_works 31 = .ok (.istore_n 1, 1) := by decide +kernel
theorem dX9_works_32 : decode cX9_works 32 = .ok (.aload_n 0, 1) := by decide +kernel
theorem dX9_works_33 : decode cX9_works 33 = .ok (.getfield 104, 3) := by decide +kernel
theorem dX9_works_36 : decode cX9_works 36 = .ok (.aload_n 0, 1) := by decide +kernel
theorem dX9_works_37 : decode cX9_works 37 = .ok (.getfield 249, 3) := by decide +kernel
theorem dX9_works_40 : decode cX9_works 40 = .ok (.iaload, 1) := by decide +kernel
theorem dX9_works_41 : decode cX9_works 41 = .ok (.istore_n 2, 1) := by decide +kernel
theorem dX9_works_42 : decode cX9_works 42 = .ok (.aload_n 0, 1) := by decide +kernel
theorem dX9_works_43 : decode cX9_works 43 = .ok (.getfield 107, 3) := by decide +kernel
theorem dX9_works_46 : decode cX9_works 46 = .ok (.aload_n 0, 1) := by decide +kernel
theorem dX9_works_47 : decode cX9_works 47 = .ok (.getfield 246, 3) := by decide +kernel
theorem dX9_works_50 : decode cX9_works 50 = .ok (.iaload, 1) := by decide +kernel
theorem dX9_works_51 : decode cX9_works 51 = .ok (.istore_n 3, 1) := by decide +kernel
theorem dX9_works_52 : decode cX9_works 52 = .ok (.iload_n 3, 1) := by decide +kernel
theorem dX9_works_53 : decode cX9_works 53 = .ok (.bipush 47, 2) := by decide +kernel
theorem dX9_works_55 : decode cX9_works 55 = .ok (.if_icmp .ne 14, 3) := by decide +kernel
theorem dX9_works_58 : decode cX9_works 58 = .ok (.iload_n 2, 1) := by decide +kernel
theorem dX9_works_59 : decode cX9_works 59 = .ok (.ifCond .ne 10, 3) := by decide +kernel
theorem dX9_works_62 : decode cX9_works 62 = .ok (.aload_n 0, 1) := by decide +kernel
theorem dX9_works_63 : decode cX9_works 63 = .ok (.iconst 1, 1) := by decide +kernel
theorem dX9_works_64 : decode cX9_works 64 = .ok (.putfield 252, 3) := by decide +kernel
theorem dX9_works_67 : decode cX9_works 67 = .ok (.iconst 1, 1) := by decide +kernel
theorem dX9_works_68 : decode cX9_works 68 = .ok (.istore_n 2, 1) := by decide +kernel
theorem dX9_works_69 : decode cX9_works 69 = .ok (.aload_n 0, 1) := by decide +kernel
theorem dX9_works_70 : decode cX9_works 70 = .ok (.getfield 104, 3) := by decide +kernel
theorem dX9_works_73 : decode cX9_works 73 = .ok (.aload_n 0, 1) := by decide +kernel
theorem dX9_works_74 : decode cX9_works 74 = .ok (.getfield 249, 3) := by decide +kernel
theorem dX9_works_77 : decode cX9_works 77 = .ok (.iconst 1, 1) := by decide +kernel
theorem dX9_works_78 : decode cX9_works 78 = .ok (.isub, 1) := by decide +kernel
theorem dX9_works_79 : decode cX9_works 79 = .ok (.iload_n 3, 1) := by decide +kernel
theorem dX9_works_80 : decode cX9_works 80 = .ok (.bipush 43, 2) := by decide +kernel
theorem dX9_works_82 : decode cX9_works 82 = .ok (.if_icmp .ne 9, 3) := by decide +kernel
theorem dX9_works_85 : decode cX9_works 85 = .ok (.iload_n 1, 1) := by decide +kernel
theorem dX9_works_86 : decode cX9_works 86 = .ok (.iload_n 2, 1) := by decide +kernel
theorem dX9_works_87 : decode cX9_works 87 = .ok (.iadd, 1) := by decide +kernel
theorem dX9_works_88 : decode cX9_works 88 = .ok (.goto 30, 3) := by decide +kernel
theorem dX9_works_91 : decode cX9_works 91 = .ok (.iload_n 3, 1) := by decide +kernel
theorem dX9_works_92 : decode cX9_works 92 = .ok (.bipush 45, 2) := by decide +kernel
theorem dX9_works_94 : decode cX9_works 94 = .ok (.if_icmp .ne 9, 3) := by decide +kernel
theorem dX9_works_97 : decode cX9_works 97 = .ok (.iload_n 1, 1) := by decide +kernel
theorem dX9_works_98 : decode cX9_works 98 = .ok (.iload_n 2, 1) := by decide +kernel
theorem dX9_works_99 : decode cX9_works 99 = .ok (.isub, 1) := by decide +kernel
theorem dX9_works_100 : decode cX9_works 100 = .ok (.goto 18, 3) := by decide +kernel
theorem dX9_works_103 : decode cX9_works 103 = .ok (.iload_n 3, 1) := by decide +kernel
theorem dX9_works_104 : decode cX9_works 104 = .ok (.bipush 42, 2) := by decide +kernel
theorem dX9_works_106 : decode cX9_works 106 = .ok (.if_icmp .ne 9, 3) := by decide +kernel
theorem dX9_works_109 : decode cX9_works 109 = .ok (.iload_n 1, 1) := by decide +kernel
theorem dX9_works_110 : decode cX9_works 110 = .ok (.iload_n 2, 1) := by decide +kernel
theorem dX9_works_111 : decode cX9_works 111 = .ok (.imul, 1) := by decide +kernel
theorem dX9_works_112 : decode cX9_works 112 = .ok (.goto 6, 3) := by decide +kernel
theorem dX9_works_115 : decode cX9_works 115 = .ok (.iload_n 1, 1) := by decide +kernel
theorem dX9_works_116 : decode cX9_works 116 = .ok (.iload_n 2, 1) := by decide +kernel
theorem dX9_works_117 : decode cX9_works 117 = .ok (.idiv, 1) := by decide +kernel
theorem dX9_works_118 : decode cX9_works 118 = .ok (.iastore, 1) := by decide +kernel
theorem dX9_works_119 : decode cX9_works 119 = .ok (.return_, 1) := by decide +kernel
theorem dX9_bond_0 : decode cX9_bond 0 = .ok (.iload_n 0, 1) := by decide +kernel
theorem dX9_bond_1 : decode cX9_bond 1 = .ok (.invokestatic 193, 3) := by decide +kernel
theorem dX9_bond_4 : decode cX9_bond 4 = .ok (.ifCond .eq 7, 3) := by decide +kernel
theorem dX9_bond_7 : decode cX9_bond 7 = .ok (.iconst 2, 1) := by decide +kernel
theorem dX9_bond_8 : decode cX9_bond 8 = .ok (.goto 14, 3) := by decide +kernel
theorem dX9_bond_11 : decode cX9_bond 11 = .ok (.iload_n 0, 1) := by decide +kernel
theorem dX9_bond_12 : decode cX9_bond 12 = .ok (.bipush 40, 2) := by decide +kernel
theorem dX9_bond_14 : decode cX9_bond 14 = .ok (.if_icmp .ne 7, 3) := by decide +kernel
theorem dX9_bond_17 : decode cX9_bond 17 = .ok (.iconst 0, 1) := by decide +kernel
theorem dX9_bond_18 : decode cX9_bond 18 = .ok (.goto 4, 3) := by decide +kernel
theorem dX9_bond_21 : decode cX9_bond 21 = .ok (.iconst 1, 1) := by decide +kernel
theorem dX9_bond_22 : decode cX9_bond 22 = .ok (.ireturn, 1) := by decide +kernel
theorem dX9_sum_0 : decode cX9_sum 0 = .ok (.aload_n 0, 1) := by decide +kernel
theorem dX9_sum_1 : decode cX9_sum 1 = .ok (.iconst 0, 1) := by decide +kernel
theorem dX9_sum_2 : decode cX9_sum 2 = .ok (.putfield 249, 3) := by decide +kernel
theorem dX9_sum_5 : decode cX9_sum 5 = .ok (.aload_n 0, 1) := by decide +kernel
theorem dX9_sum_6 : decode cX9_sum 6 = .ok (.iconst 0, 1) := by decide +kernel
theorem dX9_sum_7 : decode cX9_sum 7 = .ok (.putfield 246, 3) := by decide +kernel
theorem dX9_sum_10 : decode cX9_sum 10 = .ok (.iconst 1, 1) := by decide +kernel
theorem dX9_sum_11 : decode cX9_sum 11 = .ok (.istore_n 1, 1) := by decide +kernel
theorem dX9_sum_12 : decode cX9_sum 12 = .ok (.iconst 1, 1) := by decide +kernel
theorem dX9_sum_13 : decode cX9_sum 13 = .ok (.istore_n 2, 1) := by decide +kernel
theorem dX9_sum_14 : decode cX9_sum 14 = .ok (.iconst 0, 1) := by decide +kernel
theorem dX9_sum_15 : decode cX9_sum 15 = .ok (.istore_n 3, 1) := by decide +kernel
theorem dX9_sum_16 : decode cX9_sum 16 = .ok (.iload_n 2, 1) := by decide +kernel
theorem dX9_sum_17 : decode cX9_sum 17 = .ok (.ifCond .eq 299, 3) := by decide +kernel
theorem dX9_sum_20 : decode cX9_sum 20 = .ok (.aload_n 0, 1) := by decide +kernel
theorem dX9_sum_21 : decode cX9_sum 21 = .ok (.invokevirtual 196, 3) := by decide +kernel
theorem dX9_sum_24 : decode cX9_sum 24 = .ok (.istore 4, 2) := by decide +kernel
theorem dX9_sum_26 : decode cX9_sum 26 = .ok (.iload_n 1, 1) := by decide +kernel
theorem dX9_sum_27 : decode cX9_sum 27 = .ok (.ifCond .eq 47, 3) := by decide +kernel
theorem dX9_sum_30 : decode cX9_sum 30 = .ok (.iload 4, 2) := by decide +kernel
theorem dX9_sum_32 : decode cX9_sum 32 = .ok (.bipush 40, 2) := by decide +kernel
theorem dX9_sum_34 : decode cX9_sum 34 = .ok (.if_icmp .ne 40, 3) := by decide +kernel
theorem dX9_sum_37 : decode cX9_sum 37 = .ok (.aload_n 0, 1) := by decide +kernel
theorem dX9_sum_38 : decode cX9_sum 38 = .ok (.getfield 107, 3) := by decide +kernel
theorem dX9_sum_41 : decode cX9_sum 41 = .ok (.aload_n 0, 1) := by decide +kernel
theorem dX9_sum_42 : decode cX9_sum 42 = .ok (.getfield 246, 3) := by decide +kernel
theorem dX9_sum_45 : decode cX9_sum 45 = .ok (.iload 4, 2) := by decide +kernel
theorem dX9_sum_47 : decode cX9_sum 47 = .ok (.iastore, 1) := by decide +kernel
theorem dX9_sum_48 : decode cX9_sum 48 = .ok (.aload_n 0, 1) := by decide +kernel
theorem dX9_sum_49 : decode cX9_sum 49 = .ok (.dup, 1) := by decide +kernel
theorem dX9_sum_50 : decode cX9_sum 50 = .ok (.getfield 246, 3) := by decide +kernel
theorem dX9_sum_53 : decode cX9_sum 53 = .ok (.iconst 1, 1) := by decide +kernel
theorem dX9_sum_54 : decode cX9_sum 54 = .ok (.iadd, 1) := by decide +kernel
theorem dX9_sum_55 : decode cX9_sum 55 = .ok (.putfield 246, 3) := by decide +kernel
theorem dX9_sum_58 : decode cX9_sum 58 = .ok (.iinc 3 1, 3) := by decide +kernel
theorem dX9_sum_61 : decode cX9_sum 61 = .ok (.aload_n 0, 1) := by decide +kernel
theorem dX9_sum_62 : decode cX9_sum 62 = .ok (.dup, 1) := by decide +kernel
theorem dX9_sum_63 : decode cX9_sum 63 = .ok (.getfield 178, 3) := by decide +kernel
theorem dX9_sum_66 : decode cX9_sum 66 = .ok (.iconst 1, 1) := by decide +kernel
theorem dX9_sum_67 : decode cX9_sum 67 = .ok (.iadd, 1) := by decide +kernel
theorem dX9_sum_68 : decode cX9_sum 68 = .ok (.putfield 178, 3) := by decide +kernel
theorem dX9_sum_71 : decode cX9_sum 71 = .ok (.goto 242, 3) := by decide +kernel
theorem dX9_sum_74 : decode cX9_sum 74 = .ok (.iload_n 1, 1) := by decide +kernel
theorem dX9_sum_75 : decode cX9_sum 75 = .ok (.ifCond .eq 96, 3) := by decide +kernel
theorem dX9_sum_78 : decode cX9_sum 78 = .ok (.iconst 0, 1) := by decide +kernel
theorem dX9_sum_79 : decode cX9_sum 79 = .ok (.istore 5, 2) := by decide +kernel
theorem dX9_sum_81 : decode cX9_sum 81 = .ok (.iload 4, 2) := by decide +kernel
theorem dX9_sum_83 : decode cX9_sum 83 = .ok (.invokestatic 203, 3) := by decide +kernel
theorem dX9_sum_86 : decode cX9_sum 86 = .ok (.ifCond .eq 41, 3) := by decide +kernel
theorem dX9_sum_89 : decode cX9_sum 89 = .ok (.aload_n 0, 1) := by decide +kernel
theorem dX9_sum_90 : decode cX9_sum 90 = .ok (.invokevirtual 196, 3) := by decide +kernel
theorem dX9_sum_93 : decode cX9_sum 93 = .ok (.invokestatic 203, 3) := by decide +kernel
theorem dX9_sum_96 : decode cX9_sum 96 = .ok (.ifCond .eq 49, 3) := by decide +kernel
theorem dX9_sum_99 : decode cX9_sum 99 = .ok (.bipush 10, 2) := by decide +kernel
theorem dX9_sum_101 : decode cX9_sum 101 = .ok (.iload 5, 2) := by decide +kernel
theorem dX9_sum_103 : decode cX9_sum 103 = .ok (.imul, 1) := by decide +kernel
theorem dX9_sum_104 : decode cX9_sum 104 = .ok (.aload_n 0, 1) := by decide +kernel
theorem dX9_sum_105 : decode cX9_sum 105 = .ok (.invokevirtual 196, 3) := by decide +kernel
theorem dX9_sum_108 : decode cX9_sum 108 = .ok (.iadd, 1) := by decide +kernel
theorem dX9_sum_109 : decode cX9_sum 109 = .ok (.bipush 48, 2) := by decide +kernel
theorem dX9_sum_111 : decode cX9_sum 111 = .ok (.isub, 1) := by decide +kernel
theorem dX9_sum_112 : decode cX9_sum 112 = .ok (.istore 5, 2) := by decide +kernel
theorem dX9_sum_114 : decode cX9_sum 114 = .ok (.aload_n 0, 1) := by decide +kernel
theorem dX9_sum_115 : decode cX9_sum 115 = .ok (.dup, 1) := by decide +kernel
theorem dX9_sum_116 : decode cX9_sum 116 = .ok (.getfield 178, 3) := by decide +kernel
theorem dX9_sum_119 : decode cX9_sum 119 = .ok (.iconst 1, 1) := by decide +kernel
theorem dX9_sum_120 : decode cX9_sum 120 = .ok (.iadd, 1) := by decide +kernel
theorem dX9_sum_121 : decode cX9_sum 121 = .ok (.putfield 178, 3) := by decide +kernel
theorem dX9_sum_124 : decode cX9_sum 124 = .ok (.goto (-35), 3) := by decide +kernel
theorem dX9_sum_127 : decode cX9_sum 127 = .ok (.aload_n 0, 1) := by decide +kernel
theorem dX9_sum_128 : decode cX9_sum 128 = .ok (.iload 4, 2) := by decide +kernel
theorem dX9_sum_130 : decode cX9_sum 130 = .ok (.invokevirtual 256, 3) := by decide +kernel
theorem dX9_sum_133 : decode cX9_sum 133 = .ok (.istore 5, 2) := by decide +kernel
theorem dX9_sum_135 : decode cX9_sum 135 = .ok (.aload_n 0, 1) := by decide +kernel
theorem dX9_sum_136 : decode cX9_sum 136 = .ok (.dup, 1) := by decide +kernel
theorem dX9_sum_137 : decode cX9_sum 137 = .ok (.getfield 178, 3) := by decide +kernel
theorem dX9_sum_140 : decode cX9_sum 140 = .ok (.iconst 1, 1) := by decide +kernel
theorem dX9_sum_141 : decode cX9_sum 141 = .ok (.iadd, 1) := by decide +kernel
theorem dX9_sum_142 : decode cX9_sum 142 = .ok (.putfield 178, 3) := by decide +kernel
theorem dX9_sum_145 : decode cX9_sum 145 = .ok (.aload_n 0, 1) := by decide +kernel
theorem dX9_sum_146 : decode cX9_sum 146 = .ok (.getfield 104, 3) := by decide +kernel
theorem dX9_sum_149 : decode cX9_sum 149 = .ok (.aload_n 0, 1) := by decide +kernel
theorem dX9_sum_150 : decode cX9_sum 150 = .ok (.getfield 249, 3) := by decide +kernel
theorem dX9_sum_153 : decode cX9_sum 153 = .ok (.iload 5, 2) := by decide +kernel
theorem dX9_sum_155 : decode cX9_sum 155 = .ok (.iastore, 1) := by decide +kernel
theorem dX9_sum_156 : decode cX9_sum 156 = .ok (.aload_n 0, 1) := by decide +kernel
theorem dX9_sum_157 : decode cX9_sum 157 = .ok (.dup, 1) := by decide +kernel
theorem dX9_sum_158 : decode cX9_sum 158 = .ok (.getfield 249, 3) := by decide +kernel
theorem dX9_sum_161 : decode cX9_sum 161 = .ok (.iconst 1, 1) := by decide +kernel
theorem dX9_sum_162 : decode cX9_sum 162 = .ok (.iadd, 1) := by decide +kernel
theorem dX9_sum_163 : decode cX9_sum 163 = .ok (.putfield 249, 3) := by decide +kernel
theorem dX9_sum_166 : decode cX9_sum 166 = .ok (.iconst 0, 1) := by decide +kernel
theorem dX9_sum_167 : decode cX9_sum 167 = .ok (.istore_n 1, 1) := by decide +kernel
theorem dX9_sum_168 : decode cX9_sum 168 = .ok (.goto 145, 3) := by decide +kernel
theorem dX9_sum_171 : decode cX9_sum 171 = .ok (.iload 4, 2) := by decide +kernel
theorem dX9_sum_173 : decode cX9_sum 173 = .ok (.invokestatic 212, 3) := by decide +kernel
theorem dX9_sum_176 : decode cX9_sum 176 = .ok (.ifCond .eq 75, 3) := by decide +kernel
theorem dX9_sum_179 : decode cX9_sum 179 = .ok (.aload_n 0, 1) := by decide +kernel
theorem dX9_sum_180 : decode cX9_sum 180 = .ok (.getfield 246, 3) := by decide +kernel
theorem dX9_sum_183 : decode cX9_sum 183 = .ok (.ifCond .le 32, 3) := by decide +kernel
theorem dX9_sum_186 : decode cX9_sum 186 = .ok (.aload_n 0, 1) := by decide +kernel
theorem dX9_sum_187 : decode cX9_sum 187 = .ok (.getfield 107, 3) := by decide +kernel
theorem dX9_sum_190 : decode cX9_sum 190 = .ok (.aload_n 0, 1) := by decide +kernel
theorem dX9_sum_191 : decode cX9_sum 191 = .ok (.getfield 246, 3) := by decide +kernel
theorem dX9_sum_194 : decode cX9_sum 194 = .ok (.iconst 1, 1) := by decide +kernel
theorem dX9_sum_195 : decode cX9_sum 195 = .ok (.isub, 1) := by decide +kernel
theorem dX9_sum_196 : decode cX9_sum 196 = .ok (.iaload, 1) := by decide +kernel
theorem dX9_sum_197 : decode cX9_sum 197 = .ok (.invokestatic 260, 3) := by decide +kernel
theorem dX9_sum_200 : decode cX9_sum 200 = .ok (.iload 4, 2) := by decide +kernel
theorem dX9_sum_202 : decode cX9_sum 202 = .ok (.invokestatic 260, 3) := by decide +kernel
theorem dX9_sum_205 : decode cX9_sum 205 = .ok (.if_icmp .lt 10, 3) := by decide +kernel
theorem dX9_sum_208 : decode cX9_sum 208 = .ok (.aload_n 0, 1) := by decide +kernel
theorem dX9_sum_209 : decode cX9_sum 209 = .ok (.invokevirtual 263, 3) := by decide +kernel
theorem dX9_sum_212 : decode cX9_sum 212 = .ok (.goto (-33), 3) := by decide +kernel
theorem dX9_sum_215 : decode cX9_sum 215 = .ok (.aload_n 0, 1) := by decide +kernel
theorem dX9_sum_216 : decode cX9_sum 216 = .ok (.getfield 107, 3) := by decide +kernel
theorem dX9_sum_219 : decode cX9_sum 219 = .ok (.aload_n 0, 1) := by decide +kernel
theorem dX9_sum_220 : decode cX9_sum 220 = .ok (.getfield 246, 3) := by decide +kernel
theorem dX9_sum_223 : decode cX9_sum 223 = .ok (.iload 4, 2) := by decide +kernel
theorem dX9_sum_225 : decode cX9_sum 225 = .ok (.iastore, 1) := by decide +kernel
theorem dX9_sum_226 : decode cX9_sum 226 = .ok (.aload_n 0, 1) := by decide +kernel
theorem dX9_sum_227 : decode cX9_sum 227 = .ok (.dup, 1) := by decide +kernel
theorem dX9_sum_228 : decode cX9_sum 228 = .ok (.getfield 246, 3) := by decide +kernel
theorem dX9_sum_231 : decode cX9_sum 231 = .ok (.iconst 1, 1) := by decide +kernel
theorem dX9_sum_232 : decode cX9_sum 232 = .ok (.iadd, 1) := by decide +kernel
theorem dX9_sum_233 : decode cX9_sum 233 = .ok (.putfield 246, 3) := by decide +kernel
theorem dX9_sum_236 : decode cX9_sum 236 = .ok (.aload_n 0, 1) := by decide +kernel
theorem dX9_sum_237 : decode cX9_sum 237 = .ok (.dup, 1) := by decide +kernel
theorem dX9_sum_238 : decode cX9_sum 238 = .ok (.getfield 178, 3) := by decide +kernel
theorem dX9_sum_241 : decode cX9_sum 241 = .ok (.iconst 1, 1) := by decide +kernel
theorem dX9_sum_242 : decode cX9_sum 242 = .ok (.iadd, 1) := by decide +kernel
theorem dX9_sum_243 : decode cX9_sum 243 = .ok (.putfield 178, 3) := by decide +kernel
theorem dX9_sum_246 : decode cX9_sum 246 = .ok (.iconst 1, 1) := by decide +kernel
theorem dX9_sum_247 : decode cX9_sum 247 = .ok (.istore_n 1, 1) := by decide +kernel
theorem dX9_sum_248 : decode cX9_sum 248 = .ok (.goto 65, 3) := by decide +kernel
theorem dX9_sum_251 : decode cX9_sum 251 = .ok (.iload 4, 2) := by decide +kernel
theorem dX9_sum_253 : decode cX9_sum 253 = .ok (.bipush 41, 2) := by decide +kernel
theorem dX9_sum_255 : decode cX9_sum 255 = .ok (.if_icmp .ne 56, 3) := by decide +kernel
theorem dX9_sum_258 : decode cX9_sum 258 = .ok (.iload_n 3, 1) := by decide +kernel
theorem dX9_sum_259 : decode cX9_sum 259 = .ok (.ifCond .le 52, 3) := by decide +kernel
theorem dX9_sum_262 : decode cX9_sum 262 = .ok (.aload_n 0, 1) := by decide +kernel
theorem dX9_sum_263 : decode cX9_sum 263 = .ok (.getfield 107, 3) := by decide +kernel
theorem dX9_sum_266 : decode cX9_sum 266 = .ok (.aload_n 0, 1) := by decide +kernel
theorem dX9_sum_267 : decode cX9_sum 267 = .ok (.getfield 246, 3) := by decide +kernel
theorem dX9_sum_270 : decode cX9_sum 270 = .ok (.iconst 1, 1) := by decide +kernel
theorem dX9_sum_271 : decode cX9_sum 271 = .ok (.isub, 1) := by decide +kernel
theorem dX9_sum_272 : decode cX9_sum 272 = .ok (.iaload, 1) := by decide +kernel
theorem dX9_sum_273 : decode cX9_sum 273 = .ok (.bipush 40, 2) := by decide +kernel
theorem dX9_sum_275 : decode cX9_sum 275 = .ok (.if_icmp .eq 10, 3) := by decide +kernel
theorem dX9_sum_278 : decode cX9_sum 278 = .ok (.aload_n 0, 1) := by decide +kernel
theorem dX9_sum_279 : decode cX9_sum 279 = .ok (.invokevirtual 263, 3) := by decide +kernel
theorem dX9_sum_282 : decode cX9_sum 282 = .ok (.goto (-20), 3) := by decide +kernel
theorem dX9_sum_285 : decode cX9_sum 285 = .ok (.aload_n 0, 1) := by decide +kernel
theorem dX9_sum_286 : decode cX9_sum 286 = .ok (.dup, 1) := by decide +kernel
theorem dX9_sum_287 : decode cX9_sum 287 = .ok (.getfield 246, 3) := by decide +kernel
theorem dX9_sum_290 : decode cX9_sum 290 = .ok (.iconst 1, 1) := by decide +kernel
theorem dX9_sum_291 : decode cX9_sum 291 = .ok (.isub, 1) := by decide +kernel
theorem dX9_sum_292 : decode cX9_sum 292 = .ok (.putfield 246, 3) := by decide +kernel
theorem dX9_sum_295 : decode cX9_sum 295 = .ok (.iinc 3 (-1), 3) := by decide +kernel
theorem dX9_sum_298 : decode cX9_sum 298 = .ok (.aload_n 0, 1) := by decide +kernel
theorem dX9_sum_299 : decode cX9_sum 299 = .ok (.dup, 1) := by decide +kernel
theorem dX9_sum_300 : decode cX9_sum 300 = .ok (.getfield 178, 3) := by decide +kernel
theorem dX9_sum_303 : decode cX9_sum 303 = .ok (.iconst 1, 1) := by decide +kernel
theorem dX9_sum_304 : decode cX9_sum 304 = .ok (.iadd, 1) := by decide +kernel
theorem dX9_sum_305 : decode cX9_sum 305 = .ok (.putfield 178, 3) := by decide +kernel
theorem dX9_sum_308 : decode cX9_sum 308 = .ok (.goto 5, 3) := by decide +kernel
theorem dX9_sum_311 : decode cX9_sum 311 = .ok (.iconst 0, 1) := by decide +kernel
theorem dX9_sum_312 : decode cX9_sum 312 = .ok (.istore_n 2, 1) := by decide +kernel
theorem dX9_sum_313 : decode cX9_sum 313 = .ok (.goto (-297), 3) := by decide +kernel
theorem dX9_sum_316 : decode cX9_sum 316 = .ok (.aload_n 0, 1) := by decide +kernel
theorem dX9_sum_317 : decode cX9_sum 317 = .ok (.getfield 246, 3) := by decide +kernel
theorem dX9_sum_320 : decode cX9_sum 320 = .ok (.ifCond .le 10, 3) := by decide +kernel
theorem dX9_sum_323 : decode cX9_sum 323 = .ok (.aload_n 0, 1) := by decide +kernel
theorem dX9_sum_324 : decode cX9_sum 324 = .ok (.invokevirtual 263, 3) := by decide +kernel
theorem dX9_sum_327 : decode cX9_sum 327 = .ok (.goto (-11), 3) := by decide +kernel
theorem dX9_sum_330 : decode cX9_sum 330 = .ok (.aload_n 0, 1) := by decide +kernel
theorem dX9_sum_331 : decode cX9_sum 331 = .ok (.getfield 104, 3) := by decide +kernel
theorem dX9_sum_334 : decode cX9_sum 334 = .ok (.iconst 0, 1) := by decide +kernel
theorem dX9_sum_335 : decode cX9_sum 335 = .ok (.iaload, 1) := by decide +kernel
theorem dX9_sum_336 : decode cX9_sum 336 = .ok (.ireturn, 1) := by decide +kernel
theorem dX9_breaks_0 : decode cX9_breaks 0 = .ok (.aload_n 0, 1) := by decide +kernel
theorem dX9_breaks_1 : decode cX9_breaks 1 = .ok (.getfield 89, 3) := by decide +kernel
theorem dX9_breaks_4 : decode cX9_breaks 4 = .ok (.aload_n 0, 1) := by decide +kernel
theorem dX9_breaks_5 : decode cX9_breaks 5 = .ok (.getfield 233, 3) := by decide +kernel
theorem dX9_breaks_8 : decode cX9_breaks 8 = .ok (.iload_n 1, 1) := by decide +kernel
theorem dX9_breaks_9 : decode cX9_breaks 9 = .ok (.iastore, 1) := by decide +kernel
theorem dX9_breaks_10 : decode cX9_breaks 10 = .ok (.aload_n 0, 1) := by decide +kernel
theorem dX9_breaks_11 : decode cX9_breaks 11 = .ok (.getfield 92, 3) := by decide +kernel
theorem dX9_breaks_14 : decode cX9_breaks 14 = .ok (.aload_n 0, 1) := by decide +kernel
theorem dX9_breaks_15 : decode cX9_breaks 15 = .ok (.getfield 233, 3) := by decide +kernel
theorem dX9_breaks_18 : decode cX9_breaks 18 = .ok (.aload_n 0, 1) := by decide +kernel
theorem dX9_breaks_19 : decode cX9_breaks 19 = .ok (.getfield 266, 3) := by decide +kernel
theorem dX9_breaks_22 : decode cX9_breaks 22 = .ok (.iastore, 1) := by decide +kernel
theorem dX9_breaks_23 : decode cX9_breaks 23 = .ok (.return_, 1) := by decide +kernel
theorem dX9_isCount_0 : decode cX9_isCount 0 = .ok (.iload_n 0, 1) := by decide +kernel
theorem dX9_isCount_1 : decode cX9_isCount 1 = .ok (.iconst 0, 1) := by decide +kernel
theorem dX9_isCount_2 : decode cX9_isCount 2 = .ok (.sipush 200, 3) := by decide +kernel
theorem dX9_isCount_5 : decode cX9_isCount 5 = .ok (.invokestatic 157, 3) := by decide +kernel
theorem dX9_isCount_8 : decode cX9_isCount 8 = .ok (.ireturn, 1) := by decide +kernel
theorem dX9_left_0 : decode cX9_left 0 = .ok (.aload_n 0, 1) := by decide +kernel
theorem dX9_left_1 : decode cX9_left 1 = .ok (.getfield 230, 3) := by decide +kernel
theorem dX9_left_4 : decode cX9_left 4 = .ok (.aload_n 0, 1) := by decide +kernel
theorem dX9_left_5 : decode cX9_left 5 = .ok (.getfield 62, 3) := by decide +kernel
theorem dX9_left_8 : decode cX9_left 8 = .ok (.aload_n 0, 1) := by decide +kernel
theorem dX9_left_9 : decode cX9_left 9 = .ok (.getfield 233, 3) := by decide +kernel
theorem dX9_left_12 : decode cX9_left 12 = .ok (.iaload, 1) := by decide +kernel
theorem dX9_left_13 : decode cX9_left 13 = .ok (.isub, 1) := by decide +kernel
theorem dX9_left_14 : decode cX9_left 14 = .ok (.ireturn, 1) := by decide +kernel
theorem dX9_lays_0 : decode cX9_lays 0 = .ok (.sipush 400, 3) := by decide +kernel
theorem dX9_lays_3 : decode cX9_lays 3 = .ok (.aload_n 0, 1) := by decide +kernel
theorem dX9_lays_4 : decode cX9_lays 4 = .ok (.getfield 233, 3) := by decide +kernel
theorem dX9_lays_7 : decode cX9_lays 7 = .ok (.imul, 1) := by decide +kernel
theorem dX9_lays_8 : decode cX9_lays 8 = .ok (.aload_n 0, 1) := by decide +kernel
theorem dX9_lays_9 : decode cX9_lays 9 = .ok (.getfield 68, 3) := by decide +kernel
theorem dX9_lays_12 : decode cX9_lays 12 = .ok (.aload_n 0, 1) := by decide +kernel
theorem dX9_lays_13 : decode cX9_lays 13 = .ok (.getfield 233, 3) := by decide +kernel
theorem dX9_lays_16 : decode cX9_lays 16 = .ok (.iaload, 1) := by decide +kernel
theorem dX9_lays_17 : decode cX9_lays 17 = .ok (.iadd, 1) := by decide +kernel
theorem dX9_lays_18 : decode cX9_lays 18 = .ok (.istore 5, 2) := by decide +kernel
theorem dX9_lays_20 : decode cX9_lays 20 = .ok (.aload_n 0, 1) := by decide +kernel
theorem dX9_lays_21 : decode cX9_lays 21 = .ok (.getfield 38, 3) := by decide +kernel
theorem dX9_lays_24 : decode cX9_lays 24 = .ok (.iload 5, 2) := by decide +kernel
theorem dX9_lays_26 : decode cX9_lays 26 = .ok (.aload_n 0, 1) := by decide +kernel
theorem dX9_lays_27 : decode cX9_lays 27 = .ok (.getfield 65, 3) := by decide +kernel
theorem dX9_lays_30 : decode cX9_lays 30 = .ok (.aload_n 0, 1) := by decide +kernel
theorem dX9_lays_31 : decode cX9_lays 31 = .ok (.getfield 233, 3) := by decide +kernel
theorem dX9_lays_34 : decode cX9_lays 34 = .ok (.iaload, 1) := by decide +kernel
theorem dX9_lays_35 : decode cX9_lays 35 = .ok (.iastore, 1) := by decide +kernel
theorem dX9_lays_36 : decode cX9_lays 36 = .ok (.aload_n 0, 1) := by decide +kernel
theorem dX9_lays_37 : decode cX9_lays 37 = .ok (.getfield 41, 3) := by decide +kernel
theorem dX9_lays_40 : decode cX9_lays 40 = .ok (.iload 5, 2) := by decide +kernel
theorem dX9_lays_42 : decode cX9_lays 42 = .ok (.iload_n 1, 1) := by decide +kernel
theorem dX9_lays_43 : decode cX9_lays 43 = .ok (.iastore, 1) := by decide +kernel
theorem dX9_lays_44 : decode cX9_lays 44 = .ok (.aload_n 0, 1) := by decide +kernel
theorem dX9_lays_45 : decode cX9_lays 45 = .ok (.getfield 44, 3) := by decide +kernel
theorem dX9_lays_48 : decode cX9_lays 48 = .ok (.iload 5, 2) := by decide +kernel
theorem dX9_lays_50 : decode cX9_lays 50 = .ok (.aload_n 0, 1) := by decide +kernel
theorem dX9_lays_51 : decode cX9_lays 51 = .ok (.getfield 74, 3) := by decide +kernel
theorem dX9_lays_54 : decode cX9_lays 54 = .ok (.aload_n 0, 1) := by decide +kernel
theorem dX9_lays_55 : decode cX9_lays 55 = .ok (.getfield 233, 3) := by decide +kernel
theorem dX9_lays_58 : decode cX9_lays 58 = .ok (.iaload, 1) := by decide +kernel
theorem dX9_lays_59 : decode cX9_lays 59 = .ok (.iastore, 1) := by decide +kernel
theorem dX9_lays_60 : decode cX9_lays 60 = .ok (.aload_n 0, 1) := by decide +kernel
theorem dX9_lays_61 : decode cX9_lays 61 = .ok (.getfield 47, 3) := by decide +kernel
theorem dX9_lays_64 : decode cX9_lays 64 = .ok (.iload 5, 2) := by decide +kernel
theorem dX9_lays_66 : decode cX9_lays 66 = .ok (.aload_n 0, 1) := by decide +kernel
theorem dX9_lays_67 : decode cX9_lays 67 = .ok (.getfield 62, 3) := by decide +kernel
theorem dX9_lays_70 : decode cX9_lays 70 = .ok (.aload_n 0, 1) := by decide +kernel
theorem dX9_lays_71 : decode cX9_lays 71 = .ok (.getfield 233, 3) := by decide +kernel
theorem dX9_lays_74 : decode cX9_lays 74 = .ok (.iaload, 1) := by decide +kernel
theorem dX9_lays_75 : decode cX9_lays 75 = .ok (.iastore, 1) := by decide +kernel
theorem dX9_lays_76 : decode cX9_lays 76 = .ok (.aload_n 0, 1) := by decide +kernel
theorem dX9_lays_77 : decode cX9_lays 77 = .ok (.getfield 50, 3) := by decide +kernel
theorem dX9_lays_80 : decode cX9_lays 80 = .ok (.iload 5, 2) := by decide +kernel
theorem dX9_lays_82 : decode cX9_lays 82 = .ok (.iload_n 2, 1) := by decide +kernel
theorem dX9_lays_83 : decode cX9_lays 83 = .ok (.iastore, 1) := by decide +kernel
theorem dX9_lays_84 : decode cX9_lays 84 = .ok (.aload_n 0, 1) := by decide +kernel
theorem dX9_lays_85 : decode cX9_lays 85 = .ok (.getfield 53, 3) := by decide +kernel
theorem dX9_lays_88 : decode cX9_lays 88 = .ok (.iload 5, 2) := by decide +kernel
theorem dX9_lays_90 : decode cX9_lays 90 = .ok (.iload_n 3, 1) := by decide +kernel
theorem dX9_lays_91 : decode cX9_lays 91 = .ok (.iastore, 1) := by decide +kernel
theorem dX9_lays_92 : decode cX9_lays 92 = .ok (.aload_n 0, 1) := by decide +kernel
theorem dX9_lays_93 : decode cX9_lays 93 = .ok (.getfield 56, 3) := by decide +kernel
theorem dX9_lays_96 : decode cX9_lays 96 = .ok (.iload 5, 2) := by decide +kernel
theorem dX9_lays_98 : decode cX9_lays 98 = .ok (.iload 4, 2) := by decide +kernel
theorem dX9_lays_100 : decode cX9_lays 100 = .ok (.iastore, 1) := by decide +kernel
theorem dX9_lays_101 : decode cX9_lays 101 = .ok (.aload_n 0, 1) := by decide +kernel
theorem dX9_lays_102 : decode cX9_lays 102 = .ok (.getfield 68, 3) := by decide +kernel
theorem dX9_lays_105 : decode cX9_lays 105 = .ok (.aload_n 0, 1) := by decide +kernel
theorem dX9_lays_106 : decode cX9_lays 106 = .ok (.getfield 233, 3) := by decide +kernel
theorem dX9_lays_109 : decode cX9_lays 109 = .ok (.dup2, 1) := by decide +kernel
theorem dX9_lays_110 : decode cX9_lays 110 = .ok (.iaload, 1) := by decide +kernel
theorem dX9_lays_111 : decode cX9_lays 111 = .ok (.iconst 1, 1) := by decide +kernel
theorem dX9_lays_112 : decode cX9_lays 112 = .ok (.iadd, 1) := by decide +kernel
theorem dX9_lays_113 : decode cX9_lays 113 = .ok (.iastore, 1) := by decide +kernel
theorem dX9_lays_114 : decode cX9_lays 114 = .ok (.aload_n 0, 1) := by decide +kernel
theorem dX9_lays_115 : decode cX9_lays 115 = .ok (.getfield 62, 3) := by decide +kernel
theorem dX9_lays_118 : decode cX9_lays 118 = .ok (.aload_n 0, 1) := by decide +kernel
theorem dX9_lays_119 : decode cX9_lays 119 = .ok (.getfield 233, 3) := by decide +kernel
theorem dX9_lays_122 : decode cX9_lays 122 = .ok (.dup2, 1) := by decide +kernel
theorem dX9_lays_123 : decode cX9_lays 123 = .ok (.iaload, 1) := by decide +kernel
theorem dX9_lays_124 : decode cX9_lays 124 = .ok (.iload_n 2, 1) := by decide +kernel
theorem dX9_lays_125 : decode cX9_lays 125 = .ok (.iadd, 1) := by decide +kernel
theorem dX9_lays_126 : decode cX9_lays 126 = .ok (.iastore, 1) := by decide +kernel
theorem dX9_lays_127 : decode cX9_lays 127 = .ok (.return_, 1) := by decide +kernel
theorem dX9_acted_0 : decode cX9_acted 0 = .ok (.aload_n 0, 1) := by decide +kernel
theorem dX9_acted_1 : decode cX9_acted 1 = .ok (.getfield 59, 3) := by decide +kernel
theorem dX9_acted_4 : decode cX9_acted 4 = .ok (.sipush 2001, 3) := by decide +kernel
theorem dX9_acted_7 : decode cX9_acted 7 = .ok (.aload_n 0, 1) := by decide +kernel
theorem dX9_acted_8 : decode cX9_acted 8 = .ok (.getfield 233, 3) := by decide +kernel
theorem dX9_acted_11 : decode cX9_acted 11 = .ok (.imul, 1) := by decide +kernel
theorem dX9_acted_12 : decode cX9_acted 12 = .ok (.aload_n 0, 1) := by decide +kernel
theorem dX9_acted_13 : decode cX9_acted 13 = .ok (.getfield 65, 3) := by decide +kernel
theorem dX9_acted_16 : decode cX9_acted 16 = .ok (.aload_n 0, 1) := by decide +kernel
theorem dX9_acted_17 : decode cX9_acted 17 = .ok (.getfield 233, 3) := by decide +kernel
theorem dX9_acted_20 : decode cX9_acted 20 = .ok (.iaload, 1) := by decide +kernel
theorem dX9_acted_21 : decode cX9_acted 21 = .ok (.iadd, 1) := by decide +kernel
theorem dX9_acted_22 : decode cX9_acted 22 = .ok (.iconst 0, 1) := by decide +kernel
theorem dX9_acted_23 : decode cX9_acted 23 = .ok (.iastore, 1) := by decide +kernel
theorem dX9_acted_24 : decode cX9_acted 24 = .ok (.aload_n 0, 1) := by decide +kernel
theorem dX9_acted_25 : decode cX9_acted 25 = .ok (.getfield 65, 3) := by decide +kernel
theorem dX9_acted_28 : decode cX9_acted 28 = .ok (.aload_n 0, 1) := by decide +kernel
theorem dX9_acted_29 : decode cX9_acted 29 = .ok (.getfield 233, 3) := by decide +kernel
theorem dX9_acted_32 : decode cX9_acted 32 = .ok (.dup2, 1) := by decide +kernel
theorem dX9_acted_33 : decode cX9_acted 33 = .ok (.iaload, 1) := by decide +kernel
theorem dX9_acted_34 : decode cX9_acted 34 = .ok (.iconst 1, 1) := by decide +kernel
theorem dX9_acted_35 : decode cX9_acted 35 = .ok (.iadd, 1) := by decide +kernel
theorem dX9_acted_36 : decode cX9_acted 36 = .ok (.iastore, 1) := by decide +kernel
theorem dX9_acted_37 : decode cX9_acted 37 = .ok (.return_, 1) := by decide +kernel
theorem dX9_wastes_0 : decode cX9_wastes 0 = .ok (.aload_n 0, 1) := by decide +kernel
theorem dX9_wastes_1 : decode cX9_wastes 1 = .ok (.getfield 62, 3) := by decide +kernel
theorem dX9_wastes_4 : decode cX9_wastes 4 = .ok (.aload_n 0, 1) := by decide +kernel
theorem dX9_wastes_5 : decode cX9_wastes 5 = .ok (.getfield 233, 3) := by decide +kernel
theorem dX9_wastes_8 : decode cX9_wastes 8 = .ok (.dup2, 1) := by decide +kernel
theorem dX9_wastes_9 : decode cX9_wastes 9 = .ok (.iaload, 1) := by decide +kernel
theorem dX9_wastes_10 : decode cX9_wastes 10 = .ok (.iload_n 1, 1) := by decide +kernel
theorem dX9_wastes_11 : decode cX9_wastes 11 = .ok (.iadd, 1) := by decide +kernel
theorem dX9_wastes_12 : decode cX9_wastes 12 = .ok (.iastore, 1) := by decide +kernel
theorem dX9_wastes_13 : decode cX9_wastes 13 = .ok (.aload_n 0, 1) := by decide +kernel
theorem dX9_wastes_14 : decode cX9_wastes 14 = .ok (.getfield 86, 3) := by decide +kernel
theorem dX9_wastes_17 : decode cX9_wastes 17 = .ok (.aload_n 0, 1) := by decide +kernel
theorem dX9_wastes_18 : decode cX9_wastes 18 = .ok (.getfield 233, 3) := by decide +kernel
theorem dX9_wastes_21 : decode cX9_wastes 21 = .ok (.dup2, 1) := by decide +kernel
theorem dX9_wastes_22 : decode cX9_wastes 22 = .ok (.iaload, 1) := by decide +kernel
theorem dX9_wastes_23 : decode cX9_wastes 23 = .ok (.iload_n 1, 1) := by decide +kernel
theorem dX9_wastes_24 : decode cX9_wastes 24 = .ok (.iadd, 1) := by decide +kernel
theorem dX9_wastes_25 : decode cX9_wastes 25 = .ok (.iastore, 1) := by decide +kernel
theorem dX9_wastes_26 : decode cX9_wastes 26 = .ok (.return_, 1) := by decide +kernel
section
variable {d : Nat} {M : gM} {Z : Option Value → gM → Prop} {a0 a1 a2 a3 a4 a5 a6 a7 a8 a9 a10 a11 a12 : Option Value} {v s0 s1 s2 s3 s4 s5 s6 s7 s8 s9 s10 s11 : Value} {x y w : Int32} {o b u1 u2 : Nat}
/-! 145: X9_valueOf (I)I -/
theorem gd145 {pc : Nat} {r : Except _ _} (h : decode cX9_valueOf pc = r) : decode (gby 145) pc = r := h
theorem z145_0 : Run d 145 0 [a0, some (.int x)] [] M 0 0 Z ↔ Run d 145 1 [a0, some (.int x)] [.int x] M 0 0 Z := R_local (gd145 dX9_valueOf_0) rfl rfl rfl
theorem z145_1 : Run d 145 1 [a0, a1] [.int x] M 0 0 Z ↔ (x = 103 → Run d 145 132 [a0, a1] [] M 0 0 Z) ∧ (¬ x = 103 → ((x = 107 → Run d 145 154 [a0, a1] [] M 0 0 Z) ∧ (¬ x = 107 → ((x = 108 → Run d 145 117 [a0, a1] [] M 0 0 Z) ∧ (¬ x = 108 → ((x = 120 → Run d 145 96 [a0, a1] [] M 0 0 Z) ∧ (¬ x = 120 → ((x = 121 → Run d 145 103 [a0, a1] [] M 0 0 Z) ∧ (¬ x = 121 → ((x = 122 → Run d 145 110 [a0, a1] [] M 0 0 Z) ∧ (¬ x = 122 → (Run d 145 164 [a0, a1] [] M 0 0 Z)))))))))))) := R_table (tbl := [(103, 132), (107, 154), (108, 117), (120, 96), (121, 103), (122, 110)]) (dt := 164) (gd145 dX9_valueOf_1) (by decide) (by decide) (by decide)
theorem z145_96 : Run d 145 96 [some (.ref o), a1] [] M 0 0 Z ↔ Run d 145 97 [some (.ref o), a1] [.ref o] M 0 0 Z := R_local (gd145 dX9_valueOf_96) rfl rfl rfl
theorem z145_97 : Run d 145 97 [a0, a1] [.ref o] M 0 0 Z ↔ gObj M o 9 ∧ Run d 145 100 [a0, a1] [va_rf (M.2.1 o 41)] M 0 0 Z := R_getR (gd145 dX9_valueOf_97) rfl gf_9_95 rfl
theorem z145_100 : Run d 145 100 [a0, a1] [s0] M 0 0 Z ↔ Run d 145 101 [a0, a1] [.int 0, s0] M 0 0 Z := R_iconst (gd145 dX9_valueOf_100) (by decide)
theorem z145_101 : Run d 145 101 [a0, a1] [.int x, .ref o] M 0 0 Z ↔ gAr M o 0 ∧ gIn x (gLen M o) = true ∧ Run d 145 102 [a0, a1] [.int (M.1 o x.toNatClampNeg)] M 0 0 Z := R_iald (gd145 dX9_valueOf_101)
theorem z145_102 : Run d 145 102 [a0, a1] [.int x] M 0 0 Z ↔ Z (some (.int x)) M := R_iret (gd145 dX9_valueOf_102) rfl
theorem z145_103 : Run d 145 103 [some (.ref o), a1] [] M 0 0 Z ↔ Run d 145 104 [some (.ref o), a1] [.ref o] M 0 0 Z := R_local (gd145 dX9_valueOf_103) rfl rfl rfl
theorem z145_104 : Run d 145 104 [a0, a1] [.ref o] M 0 0 Z ↔ gObj M o 9 ∧ Run d 145 107 [a0, a1] [va_rf (M.2.1 o 41)] M 0 0 Z := R_getR (gd145 dX9_valueOf_104) rfl gf_9_95 rfl
theorem z145_107 : Run d 145 107 [a0, a1] [s0] M 0 0 Z ↔ Run d 145 108 [a0, a1] [.int 1, s0] M 0 0 Z := R_iconst (gd145 dX9_valueOf_107) (by decide)
theorem z145_108 : Run d 145 108 [a0, a1] [.int x, .ref o] M 0 0 Z ↔ gAr M o 0 ∧ gIn x (gLen M o) = true ∧ Run d 145 109 [a0, a1] [.int (M.1 o x.toNatClampNeg)] M 0 0 Z := R_iald (gd145 dX9_valueOf_108)
theorem z145_109 : Run d 145 109 [a0, a1] [.int x] M 0 0 Z ↔ Z (some (.int x)) M := R_iret (gd145 dX9_valueOf_109) rfl
theorem z145_110 : Run d 145 110 [some (.ref o), a1] [] M 0 0 Z ↔ Run d 145 111 [some (.ref o), a1] [.ref o] M 0 0 Z := R_local (gd145 dX9_valueOf_110) rfl rfl rfl
theorem z145_111 : Run d 145 111 [a0, a1] [.ref o] M 0 0 Z ↔ gObj M o 9 ∧ Run d 145 114 [a0, a1] [va_rf (M.2.1 o 41)] M 0 0 Z := R_getR (gd145 dX9_valueOf_111) rfl gf_9_95 rfl
theorem z145_114 : Run d 145 114 [a0, a1] [s0] M 0 0 Z ↔ Run d 145 115 [a0, a1] [.int 2, s0] M 0 0 Z := R_iconst (gd145 dX9_valueOf_114) (by decide)
theorem z145_115 : Run d 145 115 [a0, a1] [.int x, .ref o] M 0 0 Z ↔ gAr M o 0 ∧ gIn x (gLen M o) = true ∧ Run d 145 116 [a0, a1] [.int (M.1 o x.toNatClampNeg)] M 0 0 Z := R_iald (gd145 dX9_valueOf_115)
theorem z145_116 : Run d 145 116 [a0, a1] [.int x] M 0 0 Z ↔ Z (some (.int x)) M := R_iret (gd145 dX9_valueOf_116) rfl
theorem z145_117 : Run d 145 117 [some (.ref o), a1] [] M 0 0 Z ↔ Run d 145 118 [some (.ref o), a1] [.ref o] M 0 0 Z := R_local (gd145 dX9_valueOf_117) rfl rfl rfl
theorem z145_118 : Run d 145 118 [a0, a1] [.ref o] M 0 0 Z ↔ gObj M o 9 ∧ Run d 145 121 [a0, a1] [.int (M.1 o 38)] M 0 0 Z := R_getI (gd145 dX9_valueOf_118) rfl gf_9_230 rfl
theorem z145_121 : Run d 145 121 [some (.ref o), a1] [s0] M 0 0 Z ↔ Run d 145 122 [some (.ref o), a1] [.ref o, s0] M 0 0 Z := R_local (gd145 dX9_valueOf_121) rfl rfl rfl
theorem z145_122 : Run d 145 122 [a0, a1] [.ref o, s0] M 0 0 Z ↔ gObj M o 9 ∧ Run d 145 125 [a0, a1] [va_rf (M.2.1 o 25), s0] M 0 0 Z := R_getR (gd145 dX9_valueOf_122) rfl gf_9_62 rfl
theorem z145_125 : Run d 145 125 [some (.ref o), a1] [s1, s0] M 0 0 Z ↔ Run d 145 126 [some (.ref o), a1] [.ref o, s1, s0] M 0 0 Z := R_local (gd145 dX9_valueOf_125) rfl rfl rfl
theorem z145_126 : Run d 145 126 [a0, a1] [.ref o, s1, s0] M 0 0 Z ↔ gObj M o 9 ∧ Run d 145 129 [a0, a1] [.int (M.1 o 36), s1, s0] M 0 0 Z := R_getI (gd145 dX9_valueOf_126) rfl gf_9_233 rfl
theorem z145_129 : Run d 145 129 [a0, a1] [.int x, .ref o, s0] M 0 0 Z ↔ gAr M o 0 ∧ gIn x (gLen M o) = true ∧ Run d 145 130 [a0, a1] [.int (M.1 o x.toNatClampNeg), s0] M 0 0 Z := R_iald (gd145 dX9_valueOf_129)
theorem z145_130 : Run d 145 130 [a0, a1] [.int y, .int x] M 0 0 Z ↔ Run d 145 131 [a0, a1] [.int (x - y)] M 0 0 Z := R_arith (gd145 dX9_valueOf_130) rfl
theorem z145_131 : Run d 145 131 [a0, a1] [.int x] M 0 0 Z ↔ Z (some (.int x)) M := R_iret (gd145 dX9_valueOf_131) rfl
theorem z145_132 : Run d 145 132 [some (.ref o), a1] [] M 0 0 Z ↔ Run d 145 133 [some (.ref o), a1] [.ref o] M 0 0 Z := R_local (gd145 dX9_valueOf_132) rfl rfl rfl
theorem z145_133 : Run d 145 133 [some (.ref o), a1] [s0] M 0 0 Z ↔ Run d 145 134 [some (.ref o), a1] [.ref o, s0] M 0 0 Z := R_local (gd145 dX9_valueOf_133) rfl rfl rfl
theorem z145_134 : Run d 145 134 [a0, a1] [.ref o, s0] M 0 0 Z ↔ gObj M o 9 ∧ Run d 145 137 [a0, a1] [va_rf (M.2.1 o 28), s0] M 0 0 Z := R_getR (gd145 dX9_valueOf_134) rfl gf_9_71 rfl
theorem z145_137 : Run d 145 137 [some (.ref o), a1] [s1, s0] M 0 0 Z ↔ Run d 145 138 [some (.ref o), a1] [.ref o, s1, s0] M 0 0 Z := R_local (gd145 dX9_valueOf_137) rfl rfl rfl
theorem z145_138 : Run d 145 138 [a0, a1] [.ref o, s1, s0] M 0 0 Z ↔ gObj M o 9 ∧ Run d 145 141 [a0, a1] [.int (M.1 o 36), s1, s0] M 0 0 Z := R_getI (gd145 dX9_valueOf_138) rfl gf_9_233 rfl
theorem z145_141 : Run d 145 141 [a0, a1] [.int x, .ref o, s0] M 0 0 Z ↔ gAr M o 0 ∧ gIn x (gLen M o) = true ∧ Run d 145 142 [a0, a1] [.int (M.1 o x.toNatClampNeg), s0] M 0 0 Z := R_iald (gd145 dX9_valueOf_141)
theorem z145_142 : Run d 145 142 [some (.ref o), a1] [s1, s0] M 0 0 Z ↔ Run d 145 143 [some (.ref o), a1] [.ref o, s1, s0] M 0 0 Z := R_local (gd145 dX9_valueOf_142) rfl rfl rfl
theorem z145_143 : Run d 145 143 [a0, a1] [.ref o, s1, s0] M 0 0 Z ↔ gObj M o 9 ∧ Run d 145 146 [a0, a1] [.int (M.1 o 39), s1, s0] M 0 0 Z := R_getI (gd145 dX9_valueOf_143) rfl gf_9_236 rfl
theorem z145_146 : Run d 145 146 [some (.ref o), a1] [s2, s1, s0] M 0 0 Z ↔ Run d 145 147 [some (.ref o), a1] [.ref o, s2, s1, s0] M 0 0 Z := R_local (gd145 dX9_valueOf_146) rfl rfl rfl
theorem z145_147 : Run d 145 147 [a0, a1] [.ref o, s2, s1, s0] M 0 0 Z ↔ gObj M o 9 ∧ Run d 145 150 [a0, a1] [.int (M.1 o 37), s2, s1, s0] M 0 0 Z := R_getI (gd145 dX9_valueOf_147) rfl gf_9_239 rfl
theorem z145_150 : Run d 145 150 [a0, a1] [s3, s2, s1, .ref b] M 0 0 Z ↔ gObj M b 9 ∧ Call d 144 [.ref b, s1, s2, s3] M (fun r M1 => Run d 145 153 [a0, a1] (r.toList ++ []) M1 0 0 Z) := R_callV (gd145 dX9_valueOf_150) rfl rfl rfl rfl rfl rfl gc_9_242 rfl rfl (Nat.le_of_ble_eq_true rfl) (Nat.le_of_ble_eq_true rfl) rfl rfl (Nat.le_of_ble_eq_true rfl) (Nat.le_of_ble_eq_true rfl)
theorem z145_153 : Run d 145 153 [a0, a1] [.int x] M 0 0 Z ↔ Z (some (.int x)) M := R_iret (gd145 dX9_valueOf_153) rfl
theorem z145_154 : Run d 145 154 [some (.ref o), a1] [] M 0 0 Z ↔ Run d 145 155 [some (.ref o), a1] [.ref o] M 0 0 Z := R_local (gd145 dX9_valueOf_154) rfl rfl rfl
theorem z145_155 : Run d 145 155 [a0, a1] [.ref o] M 0 0 Z ↔ gObj M o 9 ∧ Run d 145 158 [a0, a1] [va_rf (M.2.1 o 29)] M 0 0 Z := R_getR (gd145 dX9_valueOf_155) rfl gf_9_74 rfl
theorem z145_158 : Run d 145 158 [some (.ref o), a1] [s0] M 0 0 Z ↔ Run d 145 159 [some (.ref o), a1] [.ref o, s0] M 0 0 Z := R_local (gd145 dX9_valueOf_158) rfl rfl rfl
theorem z145_159 : Run d 145 159 [a0, a1] [.ref o, s0] M 0 0 Z ↔ gObj M o 9 ∧ Run d 145 162 [a0, a1] [.int (M.1 o 36), s0] M 0 0 Z := R_getI (gd145 dX9_valueOf_159) rfl gf_9_233 rfl
theorem z145_162 : Run d 145 162 [a0, a1] [.int x, .ref o] M 0 0 Z ↔ gAr M o 0 ∧ gIn x (gLen M o) = true ∧ Run d 145 163 [a0, a1] [.int (M.1 o x.toNatClampNeg)] M 0 0 Z := R_iald (gd145 dX9_valueOf_162)
theorem z145_163 : Run d 145 163 [a0, a1] [.int x] M 0 0 Z ↔ Z (some (.int x)) M := R_iret (gd145 dX9_valueOf_163) rfl
theorem z145_164 : Run d 145 164 [some (.ref o), a1] [] M 0 0 Z ↔ Run d 145 165 [some (.ref o), a1] [.ref o] M 0 0 Z := R_local (gd145 dX9_valueOf_164) rfl rfl rfl
theorem z145_165 : Run d 145 165 [a0, a1] [.ref o] M 0 0 Z ↔ gObj M o 9 ∧ Run d 145 168 [a0, a1] [va_rf (M.2.1 o 28)] M 0 0 Z := R_getR (gd145 dX9_valueOf_165) rfl gf_9_71 rfl
theorem z145_168 : Run d 145 168 [some (.ref o), a1] [s0] M 0 0 Z ↔ Run d 145 169 [some (.ref o), a1] [.ref o, s0] M 0 0 Z := R_local (gd145 dX9_valueOf_168) rfl rfl rfl
theorem z145_169 : Run d 145 169 [a0, a1] [.ref o, s0] M 0 0 Z ↔ gObj M o 9 ∧ Run d 145 172 [a0, a1] [.int (M.1 o 36), s0] M 0 0 Z := R_getI (gd145 dX9_valueOf_169) rfl gf_9_233 rfl
theorem z145_172 : Run d 145 172 [a0, a1] [.int x, .ref o] M 0 0 Z ↔ gAr M o 0 ∧ gIn x (gLen M o) = true ∧ Run d 145 173 [a0, a1] [.int (M.1 o x.toNatClampNeg)] M 0 0 Z := R_iald (gd145 dX9_valueOf_172)
theorem z145_173 : Run d 145 173 [a0, a1] [.int x] M 0 0 Z ↔ Z (some (.int x)) M := R_iret (gd145 dX9_valueOf_173) rfl
theorem e145 : Call (d + 1) 145 [s0, s1] M Z ↔ Run d 145 0 [some s0, some s1] [] M 0 0 Z := Call_iff (Nat.lt_of_lt_of_le (Nat.lt_succ_self 145) (Nat.le_of_ble_eq_true rfl)) (Nat.le_of_ble_eq_true rfl)
/-! 146: X9_works ()V -/
theorem gd146 {pc : Nat} {r : Except _ _} (h : decode cX9_works pc = r) : decode (gby 146) pc = r := h
theorem z146_0 : Run d 146 0 [some (.ref o), a1, a2, a3] [] M 0 0 Z ↔ Run d 146 1 [some (.ref o), a1, a2, a3] [.ref o] M 0 0 Z := R_local (gd146 dX9_works_0) rfl rfl rfl
theorem z146_1 : Run d 146 1 [a0, a1, a2, a3] [.ref o] M 0 0 Z ↔ Run d 146 2 [a0, a1, a2, a3] [.ref o, .ref o] M 0 0 Z := R_arith (gd146 dX9_works_1) rfl
theorem z146_2 : Run d 146 2 [a0, a1, a2, a3] [.ref o, s0] M 0 0 Z ↔ gObj M o 9 ∧ Run d 146 5 [a0, a1, a2, a3] [.int (M.1 o 48), s0] M 0 0 Z := R_getI (gd146 dX9_works_2) rfl gf_9_246 rfl
theorem z146_5 : Run d 146 5 [a0, a1, a2, a3] [s1, s0] M 0 0 Z ↔ Run d 146 6 [a0, a1, a2, a3] [.int 1, s1, s0] M 0 0 Z := R_iconst (gd146 dX9_works_5) (by decide)
theorem z146_6 : Run d 146 6 [a0, a1, a2, a3] [.int y, .int x, s0] M 0 0 Z ↔ Run d 146 7 [a0, a1, a2, a3] [.int (x - y), s0] M 0 0 Z := R_arith (gd146 dX9_works_6) rfl
theorem z146_7 : Run d 146 7 [a0, a1, a2, a3] [.int x, .ref o] M 0 0 Z ↔ gObj M o 9 ∧ Run d 146 10 [a0, a1, a2, a3] [] (gsI M o 48 x) 0 0 Z := R_putI (gd146 dX9_works_7) rfl gf_9_246 (Or.inl rfl) rfl
theorem z146_10 : Run d 146 10 [some (.ref o), a1, a2, a3] [] M 0 0 Z ↔ Run d 146 11 [some (.ref o), a1, a2, a3] [.ref o] M 0 0 Z := R_local (gd146 dX9_works_10) rfl rfl rfl
theorem z146_11 : Run d 146 11 [a0, a1, a2, a3] [.ref o] M 0 0 Z ↔ Run d 146 12 [a0, a1, a2, a3] [.ref o, .ref o] M 0 0 Z := R_arith (gd146 dX9_works_11) rfl
theorem z146_12 : Run d 146 12 [a0, a1, a2, a3] [.ref o, s0] M 0 0 Z ↔ gObj M o 9 ∧ Run d 146 15 [a0, a1, a2, a3] [.int (M.1 o 47), s0] M 0 0 Z := R_getI (gd146 dX9_works_12) rfl gf_9_249 rfl
theorem z146_15 : Run d 146 15 [a0, a1, a2, a3] [s1, s0] M 0 0 Z ↔ Run d 146 16 [a0, a1, a2, a3] [.int 1, s1, s0] M 0 0 Z := R_iconst (gd146 dX9_works_15) (by decide)
theorem z146_16 : Run d 146 16 [a0, a1, a2, a3] [.int y, .int x, s0] M 0 0 Z ↔ Run d 146 17 [a0, a1, a2, a3] [.int (x - y), s0] M 0 0 Z := R_arith (gd146 dX9_works_16) rfl
theorem z146_17 : Run d 146 17 [a0, a1, a2, a3] [.int x, .ref o] M 0 0 Z ↔ gObj M o 9 ∧ Run d 146 20 [a0, a1, a2, a3] [] (gsI M o 47 x) 0 0 Z := R_putI (gd146 dX9_works_17) rfl gf_9_249 (Or.inl rfl) rfl
theorem z146_20 : Run d 146 20 [some (.ref o), a1, a2, a3] [] M 0 0 Z ↔ Run d 146 21 [some (.ref o), a1, a2, a3] [.ref o] M 0 0 Z := R_local (gd146 dX9_works_20) rfl rfl rfl
theorem z146_21 : Run d 146 21 [a0, a1, a2, a3] [.ref o] M 0 0 Z ↔ gObj M o 9 ∧ Run d 146 24 [a0, a1, a2, a3] [va_rf (M.2.1 o 45)] M 0 0 Z := R_getR (gd146 dX9_works_21) rfl gf_9_104 rfl
theorem z146_24 : Run d 146 24 [some (.ref o), a1, a2, a3] [s0] M 0 0 Z ↔ Run d 146 25 [some (.ref o), a1, a2, a3] [.ref o, s0] M 0 0 Z := R_local (gd146 dX9_works_24) rfl rfl rfl
theorem z146_25 : Run d 146 25 [a0, a1, a2, a3] [.ref o, s0] M 0 0 Z ↔ gObj M o 9 ∧ Run d 146 28 [a0, a1, a2, a3] [.int (M.1 o 47), s0] M 0 0 Z := R_getI (gd146 dX9_works_25) rfl gf_9_249 rfl
theorem z146_28 : Run d 146 28 [a0, a1, a2, a3] [s1, s0] M 0 0 Z ↔ Run d 146 29 [a0, a1, a2, a3] [.int 1, s1, s0] M 0 0 Z := R_iconst (gd146 dX9_works_28) (by decide)
theorem z146_29 : Run d 146 29 [a0, a1, a2, a3] [.int y, .int x, s0] M 0 0 Z ↔ Run d 146 30 [a0, a1, a2, a3] [.int (x - y), s0] M 0 0 Z := R_arith (gd146 dX9_works_29) rfl
theorem z146_30 : Run d 146 30 [a0, a1, a2, a3] [.int x, .ref o] M 0 0 Z ↔ gAr M o 0 ∧ gIn x (gLen M o) = true ∧ Run d 146 31 [a0, a1, a2, a3] [.int (M.1 o x.toNatClampNeg)] M 0 0 Z := R_iald (gd146 dX9_works_30)
theorem z146_31 : Run d 146 31 [a0, a1, a2, a3] [.int x] M 0 0 Z ↔ Run d 146 32 [a0, some (.int x), a2, a3] [] M 0 0 Z := R_local (gd146 dX9_works_31) rfl rfl rfl
theorem z146_32 : Run d 146 32 [some (.ref o), a1, a2, a3] [] M 0 0 Z ↔ Run d 146 33 [some (.ref o), a1, a2, a3] [.ref o] M 0 0 Z := R_local (gd146 dX9_works_32) rfl rfl rfl
theorem z146_33 : Run d 146 33 [a0, a1, a2, a3] [.ref o] M 0 0 Z ↔ gObj M o 9 ∧ Run d 146 36 [a0, a1, a2, a3] [va_rf (M.2.1 o 45)] M 0 0 Z := R_getR (gd146 dX9_works_33) rfl gf_9_104 rfl
theorem z146_36 : Run d 146 36 [some (.ref o), a1, a2, a3] [s0] M 0 0 Z ↔ Run d 146 37 [some (.ref o), a1, a2, a3] [.ref o, s0] M 0 0 Z := R_local (gd146 dX9_works_36) rfl rfl rfl
theorem z146_37 : Run d 146 37 [a0, a1, a2, a3] [.ref o, s0] M 0 0 Z ↔ gObj M o 9 ∧ Run d 146 40 [a0, a1, a2, a3] [.int (M.1 o 47), s0] M 0 0 Z := R_getI (gd146 dX9_works_37) rfl gf_9_249 rfl
theorem z146_40 : Run d 146 40 [a0, a1, a2, a3] [.int x, .ref o] M 0 0 Z ↔ gAr M o 0 ∧ gIn x (gLen M o) = true ∧ Run d 146 41 [a0, a1, a2, a3] [.int (M.1 o x.toNatClampNeg)] M 0 0 Z := R_iald (gd146 dX9_works_40)
theorem z146_41 : Run d 146 41 [a0, a1, a2, a3] [.int x] M 0 0 Z ↔ Run d 146 42 [a0, a1, some (.int x), a3] [] M 0 0 Z := R_local (gd146 dX9_works_41) rfl rfl rfl
theorem z146_42 : Run d 146 42 [some (.ref o), a1, a2, a3] [] M 0 0 Z ↔ Run d 146 43 [some (.ref o), a1, a2, a3] [.ref o] M 0 0 Z := R_local (gd146 dX9_works_42) rfl rfl rfl
theorem z146_43 : Run d 146 43 [a0, a1, a2, a3] [.ref o] M 0 0 Z ↔ gObj M o 9 ∧ Run d 146 46 [a0, a1, a2, a3] [va_rf (M.2.1 o 46)] M 0 0 Z := R_getR (gd146 dX9_works_43) rfl gf_9_107 rfl
theorem z146_46 : Run d 146 46 [some (.ref o), a1, a2, a3] [s0] M 0 0 Z ↔ Run d 146 47 [some (.ref o), a1, a2, a3] [.ref o, s0] M 0 0 Z := R_local (gd146 dX9_works_46) rfl rfl rfl
theorem z146_47 : Run d 146 47 [a0, a1, a2, a3] [.ref o, s0] M 0 0 Z ↔ gObj M o 9 ∧ Run d 146 50 [a0, a1, a2, a3] [.int (M.1 o 48), s0] M 0 0 Z := R_getI (gd146 dX9_works_47) rfl gf_9_246 rfl
theorem z146_50 : Run d 146 50 [a0, a1, a2, a3] [.int x, .ref o] M 0 0 Z ↔ gAr M o 0 ∧ gIn x (gLen M o) = true ∧ Run d 146 51 [a0, a1, a2, a3] [.int (M.1 o x.toNatClampNeg)] M 0 0 Z := R_iald (gd146 dX9_works_50)
theorem z146_51 : Run d 146 51 [a0, a1, a2, a3] [.int x] M 0 0 Z ↔ Run d 146 52 [a0, a1, a2, some (.int x)] [] M 0 0 Z := R_local (gd146 dX9_works_51) rfl rfl rfl
theorem z146_52 : Run d 146 52 [a0, a1, a2, some (.int x)] [] M 0 0 Z ↔ Run d 146 53 [a0, a1, a2, some (.int x)] [.int x] M 0 0 Z := R_local (gd146 dX9_works_52) rfl rfl rfl
theorem z146_53 : Run d 146 53 [a0, a1, a2, a3] [s0] M 0 0 Z ↔ Run d 146 55 [a0, a1, a2, a3] [.int 47, s0] M 0 0 Z := R_bipush (gd146 dX9_works_53) (by decide)
theorem z146_55 : Run d 146 55 [a0, a1, a2, a3] [.int y, .int x] M 0 0 Z ↔ (¬ x = y → Run d 146 69 [a0, a1, a2, a3] [] M 0 0 Z) ∧ (¬ (¬ x = y) → Run d 146 58 [a0, a1, a2, a3] [] M 0 0 Z) := R_icmp (gd146 dX9_works_55) (show gTgt 55 14 = some 69 by decide) gIf_ne
theorem z146_58 : Run d 146 58 [a0, a1, some (.int x), a3] [] M 0 0 Z ↔ Run d 146 59 [a0, a1, some (.int x), a3] [.int x] M 0 0 Z := R_local (gd146 dX9_works_58) rfl rfl rfl
theorem z146_59 : Run d 146 59 [a0, a1, a2, a3] [.int x] M 0 0 Z ↔ (¬ x = 0 → Run d 146 69 [a0, a1, a2, a3] [] M 0 0 Z) ∧ (¬ (¬ x = 0) → Run d 146 62 [a0, a1, a2, a3] [] M 0 0 Z) := R_if (gd146 dX9_works_59) (show gTgt 59 10 = some 69 by decide) gIf_ne
theorem z146_62 : Run d 146 62 [some (.ref o), a1, a2, a3] [] M 0 0 Z ↔ Run d 146 63 [some (.ref o), a1, a2, a3] [.ref o] M 0 0 Z := R_local (gd146 dX9_works_62) rfl rfl rfl
theorem z146_63 : Run d 146 63 [a0, a1, a2, a3] [s0] M 0 0 Z ↔ Run d 146 64 [a0, a1, a2, a3] [.int 1, s0] M 0 0 Z := R_iconst (gd146 dX9_works_63) (by decide)
theorem z146_64 : Run d 146 64 [a0, a1, a2, a3] [.int x, .ref o] M 0 0 Z ↔ gObj M o 9 ∧ (x = 0 ∨ x = 1) ∧ Run d 146 67 [a0, a1, a2, a3] [] (gsI M o 49 x) 0 0 Z := R_putZ (gd146 dX9_works_64) rfl gf_9_252 (Or.inl rfl) rfl
theorem z146_67 : Run d 146 67 [a0, a1, a2, a3] [] M 0 0 Z ↔ Run d 146 68 [a0, a1, a2, a3] [.int 1] M 0 0 Z := R_iconst (gd146 dX9_works_67) (by decide)
theorem z146_68 : Run d 146 68 [a0, a1, a2, a3] [.int x] M 0 0 Z ↔ Run d 146 69 [a0, a1, some (.int x), a3] [] M 0 0 Z := R_local (gd146 dX9_works_68) rfl rfl rfl
theorem z146_69 : Run d 146 69 [some (.ref o), a1, a2, a3] [] M 0 0 Z ↔ Run d 146 70 [some (.ref o), a1, a2, a3] [.ref o] M 0 0 Z := R_local (gd146 dX9_works_69) rfl rfl rfl
theorem z146_70 : Run d 146 70 [a0, a1, a2, a3] [.ref o] M 0 0 Z ↔ gObj M o 9 ∧ Run d 146 73 [a0, a1, a2, a3] [va_rf (M.2.1 o 45)] M 0 0 Z := R_getR (gd146 dX9_works_70) rfl gf_9_104 rfl
theorem z146_73 : Run d 146 73 [some (.ref o), a1, a2, a3] [s0] M 0 0 Z ↔ Run d 146 74 [some (.ref o), a1, a2, a3] [.ref o, s0] M 0 0 Z := R_local (gd146 dX9_works_73) rfl rfl rfl
theorem z146_74 : Run d 146 74 [a0, a1, a2, a3] [.ref o, s0] M 0 0 Z ↔ gObj M o 9 ∧ Run d 146 77 [a0, a1, a2, a3] [.int (M.1 o 47), s0] M 0 0 Z := R_getI (gd146 dX9_works_74) rfl gf_9_249 rfl
theorem z146_77 : Run d 146 77 [a0, a1, a2, a3] [s1, s0] M 0 0 Z ↔ Run d 146 78 [a0, a1, a2, a3] [.int 1, s1, s0] M 0 0 Z := R_iconst (gd146 dX9_works_77) (by decide)
theorem z146_78 : Run d 146 78 [a0, a1, a2, a3] [.int y, .int x, s0] M 0 0 Z ↔ Run d 146 79 [a0, a1, a2, a3] [.int (x - y), s0] M 0 0 Z := R_arith (gd146 dX9_works_78) rfl
theorem z146_79 : Run d 146 79 [a0, a1, a2, some (.int x)] [s1, s0] M 0 0 Z ↔ Run d 146 80 [a0, a1, a2, some (.int x)] [.int x, s1, s0] M 0 0 Z := R_local (gd146 dX9_works_79) rfl rfl rfl
theorem z146_80 : Run d 146 80 [a0, a1, a2, a3] [s2, s1, s0] M 0 0 Z ↔ Run d 146 82 [a0, a1, a2, a3] [.int 43, s2, s1, s0] M 0 0 Z := R_bipush (gd146 dX9_works_80) (by decide)
theorem z146_82 : Run d 146 82 [a0, a1, a2, a3] [.int y, .int x, s1, s0] M 0 0 Z ↔ (¬ x = y → Run d 146 91 [a0, a1, a2, a3] [s1, s0] M 0 0 Z) ∧ (¬ (¬ x = y) → Run d 146 85 [a0, a1, a2, a3] [s1, s0] M 0 0 Z) := R_icmp (gd146 dX9_works_82) (show gTgt 82 9 = some 91 by decide) gIf_ne
theorem z146_85 : Run d 146 85 [a0, some (.int x), a2, a3] [s1, s0] M 0 0 Z ↔ Run d 146 86 [a0, some (.int x), a2, a3] [.int x, s1, s0] M 0 0 Z := R_local (gd146 dX9_works_85) rfl rfl rfl
theorem z146_86 : Run d 146 86 [a0, a1, some (.int x), a3] [s2, s1, s0] M 0 0 Z ↔ Run d 146 87 [a0, a1, some (.int x), a3] [.int x, s2, s1, s0] M 0 0 Z := R_local (gd146 dX9_works_86) rfl rfl rfl
theorem z146_87 : Run d 146 87 [a0, a1, a2, a3] [.int y, .int x, s1, s0] M 0 0 Z ↔ Run d 146 88 [a0, a1, a2, a3] [.int (x + y), s1, s0] M 0 0 Z := R_arith (gd146 dX9_works_87) rfl
theorem z146_88 : Run d 146 88 [a0, a1, a2, a3] [s2, s1, s0] M 0 0 Z ↔ Run d 146 118 [a0, a1, a2, a3] [s2, s1, s0] M 0 0 Z := R_goto (gd146 dX9_works_88) (show gTgt 88 30 = some 118 by decide)
theorem z146_91 : Run d 146 91 [a0, a1, a2, some (.int x)] [s1, s0] M 0 0 Z ↔ Run d 146 92 [a0, a1, a2, some (.int x)] [.int x, s1, s0] M 0 0 Z := R_local (gd146 dX9_works_91) rfl rfl rfl
theorem z146_92 : Run d 146 92 [a0, a1, a2, a3] [s2, s1, s0] M 0 0 Z ↔ Run d 146 94 [a0, a1, a2, a3] [.int 45, s2, s1, s0] M 0 0 Z := R_bipush (gd146 dX9_works_92) (by decide)
theorem z146_94 : Run d 146 94 [a0, a1, a2, a3] [.int y, .int x, s1, s0] M 0 0 Z ↔ (¬ x = y → Run d 146 103 [a0, a1, a2, a3] [s1, s0] M 0 0 Z) ∧ (¬ (¬ x = y) → Run d 146 97 [a0, a1, a2, a3] [s1, s0] M 0 0 Z) := R_icmp (gd146 dX9_works_94) (show gTgt 94 9 = some 103 by decide) gIf_ne
theorem z146_97 : Run d 146 97 [a0, some (.int x), a2, a3] [s1, s0] M 0 0 Z ↔ Run d 146 98 [a0, some (.int x), a2, a3] [.int x, s1, s0] M 0 0 Z := R_local (gd146 dX9_works_97) rfl rfl rfl
theorem z146_98 : Run d 146 98 [a0, a1, some (.int x), a3] [s2, s1, s0] M 0 0 Z ↔ Run d 146 99 [a0, a1, some (.int x), a3] [.int x, s2, s1, s0] M 0 0 Z := R_local (gd146 dX9_works_98) rfl rfl rfl
theorem z146_99 : Run d 146 99 [a0, a1, a2, a3] [.int y, .int x, s1, s0] M 0 0 Z ↔ Run d 146 100 [a0, a1, a2, a3] [.int (x - y), s1, s0] M 0 0 Z := R_arith (gd146 dX9_works_99) rfl
theorem z146_100 : Run d 146 100 [a0, a1, a2, a3] [s2, s1, s0] M 0 0 Z ↔ Run d 146 118 [a0, a1, a2, a3] [s2, s1, s0] M 0 0 Z := R_goto (gd146 dX9_works_100) (show gTgt 100 18 = some 118 by decide)
theorem z146_103 : Run d 146 103 [a0, a1, a2, some (.int x)] [s1, s0] M 0 0 Z ↔ Run d 146 104 [a0, a1, a2, some (.int x)] [.int x, s1, s0] M 0 0 Z := R_local (gd146 dX9_works_103) rfl rfl rfl
theorem z146_104 : Run d 146 104 [a0, a1, a2, a3] [s2, s1, s0] M 0 0 Z ↔ Run d 146 106 [a0, a1, a2, a3] [.int 42, s2, s1, s0] M 0 0 Z := R_bipush (gd146 dX9_works_104) (by decide)
theorem z146_106 : Run d 146 106 [a0, a1, a2, a3] [.int y, .int x, s1, s0] M 0 0 Z ↔ (¬ x = y → Run d 146 115 [a0, a1, a2, a3] [s1, s0] M 0 0 Z) ∧ (¬ (¬ x = y) → Run d 146 109 [a0, a1, a2, a3] [s1, s0] M 0 0 Z) := R_icmp (gd146 dX9_works_106) (show gTgt 106 9 = some 115 by decide) gIf_ne
theorem z146_109 : Run d 146 109 [a0, some (.int x), a2, a3] [s1, s0] M 0 0 Z ↔ Run d 146 110 [a0, some (.int x), a2, a3] [.int x, s1, s0] M 0 0 Z := R_local (gd146 dX9_works_109) rfl rfl rfl
theorem z146_110 : Run d 146 110 [a0, a1, some (.int x), a3] [s2, s1, s0] M 0 0 Z ↔ Run d 146 111 [a0, a1, some (.int x), a3] [.int x, s2, s1, s0] M 0 0 Z := R_local (gd146 dX9_works_110) rfl rfl rfl
theorem z146_111 : Run d 146 111 [a0, a1, a2, a3] [.int y, .int x, s1, s0] M 0 0 Z ↔ Run d 146 112 [a0, a1, a2, a3] [.int (x * y), s1, s0] M 0 0 Z := R_arith (gd146 dX9_works_111) rfl
theorem z146_112 : Run d 146 112 [a0, a1, a2, a3] [s2, s1, s0] M 0 0 Z ↔ Run d 146 118 [a0, a1, a2, a3] [s2, s1, s0] M 0 0 Z := R_goto (gd146 dX9_works_112) (show gTgt 112 6 = some 118 by decide)
theorem z146_115 : Run d 146 115 [a0, some (.int x), a2, a3] [s1, s0] M 0 0 Z ↔ Run d 146 116 [a0, some (.int x), a2, a3] [.int x, s1, s0] M 0 0 Z := R_local (gd146 dX9_works_115) rfl rfl rfl
theorem z146_116 : Run d 146 116 [a0, a1, some (.int x), a3] [s2, s1, s0] M 0 0 Z ↔ Run d 146 117 [a0, a1, some (.int x), a3] [.int x, s2, s1, s0] M 0 0 Z := R_local (gd146 dX9_works_116) rfl rfl rfl
theorem z146_117 (hy : ¬ y = 0) : Run d 146 117 [a0, a1, a2, a3] [.int y, .int x, s1, s0] M 0 0 Z ↔ Run d 146 118 [a0, a1, a2, a3] [.int (x / y), s1, s0] M 0 0 Z := R_div (gd146 dX9_works_117) hy
theorem z146_118 : Run d 146 118 [a0, a1, a2, a3] [.int y, .int x, .ref o] M 0 0 Z ↔ gAr M o 0 ∧ gIn x (gLen M o) = true ∧ Run d 146 119 [a0, a1, a2, a3] [] (gsI M o x.toNatClampNeg y) 0 0 Z := R_iast (gd146 dX9_works_118)
theorem z146_119 : Run d 146 119 [a0, a1, a2, a3] [] M 0 0 Z ↔ Z none M := R_vret (gd146 dX9_works_119) rfl
theorem e146 : Call (d + 1) 146 [s0] M Z ↔ Run d 146 0 [some s0, none, none, none] [] M 0 0 Z := Call_iff (Nat.lt_of_lt_of_le (Nat.lt_succ_self 146) (Nat.le_of_ble_eq_true rfl)) (Nat.le_of_ble_eq_true rfl)
/-! 147: X9_bond (I)I -/
theorem gd147 {pc : Nat} {r : Except _ _} (h : decode cX9_bond pc = r) : decode (gby 147) pc = r := h
theorem z147_0 : Run d 147 0 [some (.int x)] [] M 0 0 Z ↔ Run d 147 1 [some (.int x)] [.int x] M 0 0 Z := R_local (gd147 dX9_bond_0) rfl rfl rfl
theorem z147_1 : Run d 147 1 [a0] [s0] M 0 0 Z ↔ Call d 135 [s0] M (fun r M1 => Run d 147 4 [a0] (r.toList ++ []) M1 0 0 Z) := R_call (gd147 dX9_bond_1) rfl rfl rfl rfl rfl rfl gc_9_193 rfl (by decide) (Nat.le_of_ble_eq_true rfl) (Nat.le_of_ble_eq_true rfl) rfl rfl rfl (Nat.le_of_ble_eq_true rfl) (Nat.le_of_ble_eq_true rfl)
theorem z147_4 : Run d 147 4 [a0] [.int x] M 0 0 Z ↔ (x = 0 → Run d 147 11 [a0] [] M 0 0 Z) ∧ (¬ (x = 0) → Run d 147 7 [a0] [] M 0 0 Z) := R_if (gd147 dX9_bond_4) (show gTgt 4 7 = some 11 by decide) gIf_eq
theorem z147_7 : Run d 147 7 [a0] [] M 0 0 Z ↔ Run d 147 8 [a0] [.int 2] M 0 0 Z := R_iconst (gd147 dX9_bond_7) (by decide)
theorem z147_8 : Run d 147 8 [a0] [s0] M 0 0 Z ↔ Run d 147 22 [a0] [s0] M 0 0 Z := R_goto (gd147 dX9_bond_8) (show gTgt 8 14 = some 22 by decide)
theorem z147_11 : Run d 147 11 [some (.int x)] [] M 0 0 Z ↔ Run d 147 12 [some (.int x)] [.int x] M 0 0 Z := R_local (gd147 dX9_bond_11) rfl rfl rfl
theorem z147_12 : Run d 147 12 [a0] [s0] M 0 0 Z ↔ Run d 147 14 [a0] [.int 40, s0] M 0 0 Z := R_bipush (gd147 dX9_bond_12) (by decide)
theorem z147_14 : Run d 147 14 [a0] [.int y, .int x] M 0 0 Z ↔ (¬ x = y → Run d 147 21 [a0] [] M 0 0 Z) ∧ (¬ (¬ x = y) → Run d 147 17 [a0] [] M 0 0 Z) := R_icmp (gd147 dX9_bond_14) (show gTgt 14 7 = some 21 by decide) gIf_ne
theorem z147_17 : Run d 147 17 [a0] [] M 0 0 Z ↔ Run d 147 18 [a0] [.int 0] M 0 0 Z := R_iconst (gd147 dX9_bond_17) (by decide)
theorem z147_18 : Run d 147 18 [a0] [s0] M 0 0 Z ↔ Run d 147 22 [a0] [s0] M 0 0 Z := R_goto (gd147 dX9_bond_18) (show gTgt 18 4 = some 22 by decide)
theorem z147_21 : Run d 147 21 [a0] [] M 0 0 Z ↔ Run d 147 22 [a0] [.int 1] M 0 0 Z := R_iconst (gd147 dX9_bond_21) (by decide)
theorem z147_22 : Run d 147 22 [a0] [.int x] M 0 0 Z ↔ Z (some (.int x)) M := R_iret (gd147 dX9_bond_22) rfl
theorem e147 : Call (d + 1) 147 [s0] M Z ↔ Run d 147 0 [some s0] [] M 0 0 Z := Call_iff (Nat.lt_of_lt_of_le (Nat.lt_succ_self 147) (Nat.le_of_ble_eq_true rfl)) (Nat.le_of_ble_eq_true rfl)
/-! 148: X9_sum ()I -/
theorem gd148 {pc : Nat} {r : Except _ _} (h : decode cX9_sum pc = r) : decode (gby 148) pc = r := h
theorem z148_0 : Run d 148 0 [some (.ref o), a1, a2, a3, a4, a5] [] M 0 0 Z ↔ Run d 148 1 [some (.ref o), a1, a2, a3, a4, a5] [.ref o] M 0 0 Z := R_local (gd148 dX9_sum_0) rfl rfl rfl
theorem z148_1 : Run d 148 1 [a0, a1, a2, a3, a4, a5] [s0] M 0 0 Z ↔ Run d 148 2 [a0, a1, a2, a3, a4, a5] [.int 0, s0] M 0 0 Z := R_iconst (gd148 dX9_sum_1) (by decide)
theorem z148_2 : Run d 148 2 [a0, a1, a2, a3, a4, a5] [.int x, .ref o] M 0 0 Z ↔ gObj M o 9 ∧ Run d 148 5 [a0, a1, a2, a3, a4, a5] [] (gsI M o 47 x) 0 0 Z := R_putI (gd148 dX9_sum_2) rfl gf_9_249 (Or.inl rfl) rfl
theorem z148_5 : Run d 148 5 [some (.ref o), a1, a2, a3, a4, a5] [] M 0 0 Z ↔ Run d 148 6 [some (.ref o), a1, a2, a3, a4, a5] [.ref o] M 0 0 Z := R_local (gd148 dX9_sum_5) rfl rfl rfl
theorem z148_6 : Run d 148 6 [a0, a1, a2, a3, a4, a5] [s0] M 0 0 Z ↔ Run d 148 7 [a0, a1, a2, a3, a4, a5] [.int 0, s0] M 0 0 Z := R_iconst (gd148 dX9_sum_6) (by decide)
theorem z148_7 : Run d 148 7 [a0, a1, a2, a3, a4, a5] [.int x, .ref o] M 0 0 Z ↔ gObj M o 9 ∧ Run d 148 10 [a0, a1, a2, a3, a4, a5] [] (gsI M o 48 x) 0 0 Z := R_putI (gd148 dX9_sum_7) rfl gf_9_246 (Or.inl rfl) rfl
theorem z148_10 : Run d 148 10 [a0, a1, a2, a3, a4, a5] [] M 0 0 Z ↔ Run d 148 11 [a0, a1, a2, a3, a4, a5] [.int 1] M 0 0 Z := R_iconst (gd148 dX9_sum_10) (by decide)
theorem z148_11 : Run d 148 11 [a0, a1, a2, a3, a4, a5] [.int x] M 0 0 Z ↔ Run d 148 12 [a0, some (.int x), a2, a3, a4, a5] [] M 0 0 Z := R_local (gd148 dX9_sum_11) rfl rfl rfl
theorem z148_12 : Run d 148 12 [a0, a1, a2, a3, a4, a5] [] M 0 0 Z ↔ Run d 148 13 [a0, a1, a2, a3, a4, a5] [.int 1] M 0 0 Z := R_iconst (gd148 dX9_sum_12) (by decide)
theorem z148_13 : Run d 148 13 [a0, a1, a2, a3, a4, a5] [.int x] M 0 0 Z ↔ Run d 148 14 [a0, a1, some (.int x), a3, a4, a5] [] M 0 0 Z := R_local (gd148 dX9_sum_13) rfl rfl rfl
theorem z148_14 : Run d 148 14 [a0, a1, a2, a3, a4, a5] [] M 0 0 Z ↔ Run d 148 15 [a0, a1, a2, a3, a4, a5] [.int 0] M 0 0 Z := R_iconst (gd148 dX9_sum_14) (by decide)
theorem z148_15 : Run d 148 15 [a0, a1, a2, a3, a4, a5] [.int x] M 0 0 Z ↔ Run d 148 16 [a0, a1, a2, some (.int x), a4, a5] [] M 0 0 Z := R_local (gd148 dX9_sum_15) rfl rfl rfl
theorem z148_16 : Run d 148 16 [a0, a1, some (.int x), a3, a4, a5] [] M 0 0 Z ↔ Run d 148 17 [a0, a1, some (.int x), a3, a4, a5] [.int x] M 0 0 Z := R_local (gd148 dX9_sum_16) rfl rfl rfl
theorem z148_17 : Run d 148 17 [a0, a1, a2, a3, a4, a5] [.int x] M 0 0 Z ↔ (x = 0 → Run d 148 316 [a0, a1, a2, a3, a4, a5] [] M 0 0 Z) ∧ (¬ (x = 0) → Run d 148 20 [a0, a1, a2, a3, a4, a5] [] M 0 0 Z) := R_if (gd148 dX9_sum_17) (show gTgt 17 299 = some 316 by decide) gIf_eq
theorem z148_20 : Run d 148 20 [some (.ref o), a1, a2, a3, a4, a5] [] M 0 0 Z ↔ Run d 148 21 [some (.ref o), a1, a2, a3, a4, a5] [.ref o] M 0 0 Z := R_local (gd148 dX9_sum_20) rfl rfl rfl
theorem z148_21 : Run d 148 21 [a0, a1, a2, a3, a4, a5] [.ref b] M 0 0 Z ↔ gObj M b 9 ∧ Call d 130 [.ref b] M (fun r M1 => Run d 148 24 [a0, a1, a2, a3, a4, a5] (r.toList ++ []) M1 0 0 Z) := R_callV (gd148 dX9_sum_21) rfl rfl rfl rfl rfl rfl gc_9_196 rfl rfl (Nat.le_of_ble_eq_true rfl) (Nat.le_of_ble_eq_true rfl) rfl rfl (Nat.le_of_ble_eq_true rfl) (Nat.le_of_ble_eq_true rfl)
theorem z148_24 : Run d 148 24 [a0, a1, a2, a3, a4, a5] [.int x] M 0 0 Z ↔ Run d 148 26 [a0, a1, a2, a3, some (.int x), a5] [] M 0 0 Z := R_local (gd148 dX9_sum_24) rfl rfl rfl
theorem z148_26 : Run d 148 26 [a0, some (.int x), a2, a3, a4, a5] [] M 0 0 Z ↔ Run d 148 27 [a0, some (.int x), a2, a3, a4, a5] [.int x] M 0 0 Z := R_local (gd148 dX9_sum_26) rfl rfl rfl
theorem z148_27 : Run d 148 27 [a0, a1, a2, a3, a4, a5] [.int x] M 0 0 Z ↔ (x = 0 → Run d 148 74 [a0, a1, a2, a3, a4, a5] [] M 0 0 Z) ∧ (¬ (x = 0) → Run d 148 30 [a0, a1, a2, a3, a4, a5] [] M 0 0 Z) := R_if (gd148 dX9_sum_27) (show gTgt 27 47 = some 74 by decide) gIf_eq
theorem z148_30 : Run d 148 30 [a0, a1, a2, a3, some (.int x), a5] [] M 0 0 Z ↔ Run d 148 32 [a0, a1, a2, a3, some (.int x), a5] [.int x] M 0 0 Z := R_local (gd148 dX9_sum_30) rfl rfl rfl
theorem z148_32 : Run d 148 32 [a0, a1, a2, a3, a4, a5] [s0] M 0 0 Z ↔ Run d 148 34 [a0, a1, a2, a3, a4, a5] [.int 40, s0] M 0 0 Z := R_bipush (gd148 dX9_sum_32) (by decide)
theorem z148_34 : Run d 148 34 [a0, a1, a2, a3, a4, a5] [.int y, .int x] M 0 0 Z ↔ (¬ x = y → Run d 148 74 [a0, a1, a2, a3, a4, a5] [] M 0 0 Z) ∧ (¬ (¬ x = y) → Run d 148 37 [a0, a1, a2, a3, a4, a5] [] M 0 0 Z) := R_icmp (gd148 dX9_sum_34) (show gTgt 34 40 = some 74 by decide) gIf_ne
theorem z148_37 : Run d 148 37 [some (.ref o), a1, a2, a3, a4, a5] [] M 0 0 Z ↔ Run d 148 38 [some (.ref o), a1, a2, a3, a4, a5] [.ref o] M 0 0 Z := R_local (gd148 dX9_sum_37) rfl rfl rfl
theorem z148_38 : Run d 148 38 [a0, a1, a2, a3, a4, a5] [.ref o] M 0 0 Z ↔ gObj M o 9 ∧ Run d 148 41 [a0, a1, a2, a3, a4, a5] [va_rf (M.2.1 o 46)] M 0 0 Z := R_getR (gd148 dX9_sum_38) rfl gf_9_107 rfl
theorem z148_41 : Run d 148 41 [some (.ref o), a1, a2, a3, a4, a5] [s0] M 0 0 Z ↔ Run d 148 42 [some (.ref o), a1, a2, a3, a4, a5] [.ref o, s0] M 0 0 Z := R_local (gd148 dX9_sum_41) rfl rfl rfl
theorem z148_42 : Run d 148 42 [a0, a1, a2, a3, a4, a5] [.ref o, s0] M 0 0 Z ↔ gObj M o 9 ∧ Run d 148 45 [a0, a1, a2, a3, a4, a5] [.int (M.1 o 48), s0] M 0 0 Z := R_getI (gd148 dX9_sum_42) rfl gf_9_246 rfl
theorem z148_45 : Run d 148 45 [a0, a1, a2, a3, some (.int x), a5] [s1, s0] M 0 0 Z ↔ Run d 148 47 [a0, a1, a2, a3, some (.int x), a5] [.int x, s1, s0] M 0 0 Z := R_local (gd148 dX9_sum_45) rfl rfl rfl
theorem z148_47 : Run d 148 47 [a0, a1, a2, a3, a4, a5] [.int y, .int x, .ref o] M 0 0 Z ↔ gAr M o 0 ∧ gIn x (gLen M o) = true ∧ Run d 148 48 [a0, a1, a2, a3, a4, a5] [] (gsI M o x.toNatClampNeg y) 0 0 Z := R_iast (gd148 dX9_sum_47)
theorem z148_48 : Run d 148 48 [some (.ref o), a1, a2, a3, a4, a5] [] M 0 0 Z ↔ Run d 148 49 [some (.ref o), a1, a2, a3, a4, a5] [.ref o] M 0 0 Z := R_local (gd148 dX9_sum_48) rfl rfl rfl
theorem z148_49 : Run d 148 49 [a0, a1, a2, a3, a4, a5] [.ref o] M 0 0 Z ↔ Run d 148 50 [a0, a1, a2, a3, a4, a5] [.ref o, .ref o] M 0 0 Z := R_arith (gd148 dX9_sum_49) rfl
theorem z148_50 : Run d 148 50 [a0, a1, a2, a3, a4, a5] [.ref o, s0] M 0 0 Z ↔ gObj M o 9 ∧ Run d 148 53 [a0, a1, a2, a3, a4, a5] [.int (M.1 o 48), s0] M 0 0 Z := R_getI (gd148 dX9_sum_50) rfl gf_9_246 rfl
theorem z148_53 : Run d 148 53 [a0, a1, a2, a3, a4, a5] [s1, s0] M 0 0 Z ↔ Run d 148 54 [a0, a1, a2, a3, a4, a5] [.int 1, s1, s0] M 0 0 Z := R_iconst (gd148 dX9_sum_53) (by decide)
theorem z148_54 : Run d 148 54 [a0, a1, a2, a3, a4, a5] [.int y, .int x, s0] M 0 0 Z ↔ Run d 148 55 [a0, a1, a2, a3, a4, a5] [.int (x + y), s0] M 0 0 Z := R_arith (gd148 dX9_sum_54) rfl
theorem z148_55 : Run d 148 55 [a0, a1, a2, a3, a4, a5] [.int x, .ref o] M 0 0 Z ↔ gObj M o 9 ∧ Run d 148 58 [a0, a1, a2, a3, a4, a5] [] (gsI M o 48 x) 0 0 Z := R_putI (gd148 dX9_sum_55) rfl gf_9_246 (Or.inl rfl) rfl
theorem z148_58 : Run d 148 58 [a0, a1, a2, some (.int x), a4, a5] [] M 0 0 Z ↔ Run d 148 61 [a0, a1, a2, some (.int (x + 1)), a4, a5] [] M 0 0 Z := R_iinc (gd148 dX9_sum_58) (by decide) rfl rfl
theorem z148_61 : Run d 148 61 [some (.ref o), a1, a2, a3, a4, a5] [] M 0 0 Z ↔ Run d 148 62 [some (.ref o), a1, a2, a3, a4, a5] [.ref o] M 0 0 Z := R_local (gd148 dX9_sum_61) rfl rfl rfl
theorem z148_62 : Run d 148 62 [a0, a1, a2, a3, a4, a5] [.ref o] M 0 0 Z ↔ Run d 148 63 [a0, a1, a2, a3, a4, a5] [.ref o, .ref o] M 0 0 Z := R_arith (gd148 dX9_sum_62) rfl
theorem z148_63 : Run d 148 63 [a0, a1, a2, a3, a4, a5] [.ref o, s0] M 0 0 Z ↔ gObj M o 9 ∧ Run d 148 66 [a0, a1, a2, a3, a4, a5] [.int (M.1 o 13), s0] M 0 0 Z := R_getI (gd148 dX9_sum_63) rfl gf_9_178 rfl
theorem z148_66 : Run d 148 66 [a0, a1, a2, a3, a4, a5] [s1, s0] M 0 0 Z ↔ Run d 148 67 [a0, a1, a2, a3, a4, a5] [.int 1, s1, s0] M 0 0 Z := R_iconst (gd148 dX9_sum_66) (by decide)
theorem z148_67 : Run d 148 67 [a0, a1, a2, a3, a4, a5] [.int y, .int x, s0] M 0 0 Z ↔ Run d 148 68 [a0, a1, a2, a3, a4, a5] [.int (x + y), s0] M 0 0 Z := R_arith (gd148 dX9_sum_67) rfl
theorem z148_68 : Run d 148 68 [a0, a1, a2, a3, a4, a5] [.int x, .ref o] M 0 0 Z ↔ gObj M o 9 ∧ Run d 148 71 [a0, a1, a2, a3, a4, a5] [] (gsI M o 13 x) 0 0 Z := R_putI (gd148 dX9_sum_68) rfl gf_9_178 (Or.inl rfl) rfl
theorem z148_71 : Run d 148 71 [a0, a1, a2, a3, a4, a5] [] M 0 0 Z ↔ Run d 148 313 [a0, a1, a2, a3, a4, a5] [] M 0 0 Z := R_goto (gd148 dX9_sum_71) (show gTgt 71 242 = some 313 by decide)
theorem z148_74 : Run d 148 74 [a0, some (.int x), a2, a3, a4, a5] [] M 0 0 Z ↔ Run d 148 75 [a0, some (.int x), a2, a3, a4, a5] [.int x] M 0 0 Z := R_local (gd148 dX9_sum_74) rfl rfl rfl
theorem z148_75 : Run d 148 75 [a0, a1, a2, a3, a4, a5] [.int x] M 0 0 Z ↔ (x = 0 → Run d 148 171 [a0, a1, a2, a3, a4, a5] [] M 0 0 Z) ∧ (¬ (x = 0) → Run d 148 78 [a0, a1, a2, a3, a4, a5] [] M 0 0 Z) := R_if (gd148 dX9_sum_75) (show gTgt 75 96 = some 171 by decide) gIf_eq
theorem z148_78 : Run d 148 78 [a0, a1, a2, a3, a4, a5] [] M 0 0 Z ↔ Run d 148 79 [a0, a1, a2, a3, a4, a5] [.int 0] M 0 0 Z := R_iconst (gd148 dX9_sum_78) (by decide)
theorem z148_79 : Run d 148 79 [a0, a1, a2, a3, a4, a5] [.int x] M 0 0 Z ↔ Run d 148 81 [a0, a1, a2, a3, a4, some (.int x)] [] M 0 0 Z := R_local (gd148 dX9_sum_79) rfl rfl rfl
theorem z148_81 : Run d 148 81 [a0, a1, a2, a3, some (.int x), a5] [] M 0 0 Z ↔ Run d 148 83 [a0, a1, a2, a3, some (.int x), a5] [.int x] M 0 0 Z := R_local (gd148 dX9_sum_81) rfl rfl rfl
theorem z148_83 : Run d 148 83 [a0, a1, a2, a3, a4, a5] [s0] M 0 0 Z ↔ Call d 132 [s0] M (fun r M1 => Run d 148 86 [a0, a1, a2, a3, a4, a5] (r.toList ++ []) M1 0 0 Z) := R_call (gd148 dX9_sum_83) rfl rfl rfl rfl rfl rfl gc_9_203 rfl (by decide) (Nat.le_of_ble_eq_true rfl) (Nat.le_of_ble_eq_true rfl) rfl rfl rfl (Nat.le_of_ble_eq_true rfl) (Nat.le_of_ble_eq_true rfl)
theorem z148_86 : Run d 148 86 [a0, a1, a2, a3, a4, a5] [.int x] M 0 0 Z ↔ (x = 0 → Run d 148 127 [a0, a1, a2, a3, a4, a5] [] M 0 0 Z) ∧ (¬ (x = 0) → Run d 148 89 [a0, a1, a2, a3, a4, a5] [] M 0 0 Z) := R_if (gd148 dX9_sum_86) (show gTgt 86 41 = some 127 by decide) gIf_eq
theorem z148_89 : Run d 148 89 [some (.ref o), a1, a2, a3, a4, a5] [] M 0 0 Z ↔ Run d 148 90 [some (.ref o), a1, a2, a3, a4, a5] [.ref o] M 0 0 Z := R_local (gd148 dX9_sum_89) rfl rfl rfl
theorem z148_90 : Run d 148 90 [a0, a1, a2, a3, a4, a5] [.ref b] M 0 0 Z ↔ gObj M b 9 ∧ Call d 130 [.ref b] M (fun r M1 => Run d 148 93 [a0, a1, a2, a3, a4, a5] (r.toList ++ []) M1 0 0 Z) := R_callV (gd148 dX9_sum_90) rfl rfl rfl rfl rfl rfl gc_9_196 rfl rfl (Nat.le_of_ble_eq_true rfl) (Nat.le_of_ble_eq_true rfl) rfl rfl (Nat.le_of_ble_eq_true rfl) (Nat.le_of_ble_eq_true rfl)
theorem z148_93 : Run d 148 93 [a0, a1, a2, a3, a4, a5] [s0] M 0 0 Z ↔ Call d 132 [s0] M (fun r M1 => Run d 148 96 [a0, a1, a2, a3, a4, a5] (r.toList ++ []) M1 0 0 Z) := R_call (gd148 dX9_sum_93) rfl rfl rfl rfl rfl rfl gc_9_203 rfl (by decide) (Nat.le_of_ble_eq_true rfl) (Nat.le_of_ble_eq_true rfl) rfl rfl rfl (Nat.le_of_ble_eq_true rfl) (Nat.le_of_ble_eq_true rfl)
theorem z148_96 : Run d 148 96 [a0, a1, a2, a3, a4, a5] [.int x] M 0 0 Z ↔ (x = 0 → Run d 148 145 [a0, a1, a2, a3, a4, a5] [] M 0 0 Z) ∧ (¬ (x = 0) → Run d 148 99 [a0, a1, a2, a3, a4, a5] [] M 0 0 Z) := R_if (gd148 dX9_sum_96) (show gTgt 96 49 = some 145 by decide) gIf_eq
theorem z148_99 : Run d 148 99 [a0, a1, a2, a3, a4, a5] [] M 0 0 Z ↔ Run d 148 101 [a0, a1, a2, a3, a4, a5] [.int 10] M 0 0 Z := R_bipush (gd148 dX9_sum_99) (by decide)
theorem z148_101 : Run d 148 101 [a0, a1, a2, a3, a4, some (.int x)] [s0] M 0 0 Z ↔ Run d 148 103 [a0, a1, a2, a3, a4, some (.int x)] [.int x, s0] M 0 0 Z := R_local (gd148 dX9_sum_101) rfl rfl rfl
theorem z148_103 : Run d 148 103 [a0, a1, a2, a3, a4, a5] [.int y, .int x] M 0 0 Z ↔ Run d 148 104 [a0, a1, a2, a3, a4, a5] [.int (x * y)] M 0 0 Z := R_arith (gd148 dX9_sum_103) rfl
theorem z148_104 : Run d 148 104 [some (.ref o), a1, a2, a3, a4, a5] [s0] M 0 0 Z ↔ Run d 148 105 [some (.ref o), a1, a2, a3, a4, a5] [.ref o, s0] M 0 0 Z := R_local (gd148 dX9_sum_104) rfl rfl rfl
theorem z148_105 : Run d 148 105 [a0, a1, a2, a3, a4, a5] [.ref b, s0] M 0 0 Z ↔ gObj M b 9 ∧ Call d 130 [.ref b] M (fun r M1 => Run d 148 108 [a0, a1, a2, a3, a4, a5] (r.toList ++ [s0]) M1 0 0 Z) := R_callV (gd148 dX9_sum_105) rfl rfl rfl rfl rfl rfl gc_9_196 rfl rfl (Nat.le_of_ble_eq_true rfl) (Nat.le_of_ble_eq_true rfl) rfl rfl (Nat.le_of_ble_eq_true rfl) (Nat.le_of_ble_eq_true rfl)
theorem z148_108 : Run d 148 108 [a0, a1, a2, a3, a4, a5] [.int y, .int x] M 0 0 Z ↔ Run d 148 109 [a0, a1, a2, a3, a4, a5] [.int (x + y)] M 0 0 Z := R_arith (gd148 dX9_sum_108) rfl
theorem z148_109 : Run d 148 109 [a0, a1, a2, a3, a4, a5] [s0] M 0 0 Z ↔ Run d 148 111 [a0, a1, a2, a3, a4, a5] [.int 48, s0] M 0 0 Z := R_bipush (gd148 dX9_sum_109) (by decide)
theorem z148_111 : Run d 148 111 [a0, a1, a2, a3, a4, a5] [.int y, .int x] M 0 0 Z ↔ Run d 148 112 [a0, a1, a2, a3, a4, a5] [.int (x - y)] M 0 0 Z := R_arith (gd148 dX9_sum_111) rfl
theorem z148_112 : Run d 148 112 [a0, a1, a2, a3, a4, a5] [.int x] M 0 0 Z ↔ Run d 148 114 [a0, a1, a2, a3, a4, some (.int x)] [] M 0 0 Z := R_local (gd148 dX9_sum_112) rfl rfl rfl
theorem z148_114 : Run d 148 114 [some (.ref o), a1, a2, a3, a4, a5] [] M 0 0 Z ↔ Run d 148 115 [some (.ref o), a1, a2, a3, a4, a5] [.ref o] M 0 0 Z := R_local (gd148 dX9_sum_114) rfl rfl rfl
theorem z148_115 : Run d 148 115 [a0, a1, a2, a3, a4, a5] [.ref o] M 0 0 Z ↔ Run d 148 116 [a0, a1, a2, a3, a4, a5] [.ref o, .ref o] M 0 0 Z := R_arith (gd148 dX9_sum_115) rfl
theorem z148_116 : Run d 148 116 [a0, a1, a2, a3, a4, a5] [.ref o, s0] M 0 0 Z ↔ gObj M o 9 ∧ Run d 148 119 [a0, a1, a2, a3, a4, a5] [.int (M.1 o 13), s0] M 0 0 Z := R_getI (gd148 dX9_sum_116) rfl gf_9_178 rfl
theorem z148_119 : Run d 148 119 [a0, a1, a2, a3, a4, a5] [s1, s0] M 0 0 Z ↔ Run d 148 120 [a0, a1, a2, a3, a4, a5] [.int 1, s1, s0] M 0 0 Z := R_iconst (gd148 dX9_sum_119) (by decide)
theorem z148_120 : Run d 148 120 [a0, a1, a2, a3, a4, a5] [.int y, .int x, s0] M 0 0 Z ↔ Run d 148 121 [a0, a1, a2, a3, a4, a5] [.int (x + y), s0] M 0 0 Z := R_arith (gd148 dX9_sum_120) rfl
theorem z148_121 : Run d 148 121 [a0, a1, a2, a3, a4, a5] [.int x, .ref o] M 0 0 Z ↔ gObj M o 9 ∧ Run d 148 124 [a0, a1, a2, a3, a4, a5] [] (gsI M o 13 x) 0 0 Z := R_putI (gd148 dX9_sum_121) rfl gf_9_178 (Or.inl rfl) rfl
theorem z148_124 : Run d 148 124 [a0, a1, a2, a3, a4, a5] [] M 0 0 Z ↔ Run d 148 89 [a0, a1, a2, a3, a4, a5] [] M 0 0 Z := R_goto (gd148 dX9_sum_124) (show gTgt 124 (-35) = some 89 by decide)
theorem z148_127 : Run d 148 127 [some (.ref o), a1, a2, a3, a4, a5] [] M 0 0 Z ↔ Run d 148 128 [some (.ref o), a1, a2, a3, a4, a5] [.ref o] M 0 0 Z := R_local (gd148 dX9_sum_127) rfl rfl rfl
theorem z148_128 : Run d 148 128 [a0, a1, a2, a3, some (.int x), a5] [s0] M 0 0 Z ↔ Run d 148 130 [a0, a1, a2, a3, some (.int x), a5] [.int x, s0] M 0 0 Z := R_local (gd148 dX9_sum_128) rfl rfl rfl
theorem z148_130 : Run d 148 130 [a0, a1, a2, a3, a4, a5] [s1, .ref b] M 0 0 Z ↔ gObj M b 9 ∧ Call d 145 [.ref b, s1] M (fun r M1 => Run d 148 133 [a0, a1, a2, a3, a4, a5] (r.toList ++ []) M1 0 0 Z) := R_callV (gd148 dX9_sum_130) rfl rfl rfl rfl rfl rfl gc_9_256 rfl rfl (Nat.le_of_ble_eq_true rfl) (Nat.le_of_ble_eq_true rfl) rfl rfl (Nat.le_of_ble_eq_true rfl) (Nat.le_of_ble_eq_true rfl)
theorem z148_133 : Run d 148 133 [a0, a1, a2, a3, a4, a5] [.int x] M 0 0 Z ↔ Run d 148 135 [a0, a1, a2, a3, a4, some (.int x)] [] M 0 0 Z := R_local (gd148 dX9_sum_133) rfl rfl rfl
theorem z148_135 : Run d 148 135 [some (.ref o), a1, a2, a3, a4, a5] [] M 0 0 Z ↔ Run d 148 136 [some (.ref o), a1, a2, a3, a4, a5] [.ref o] M 0 0 Z := R_local (gd148 dX9_sum_135) rfl rfl rfl
theorem z148_136 : Run d 148 136 [a0, a1, a2, a3, a4, a5] [.ref o] M 0 0 Z ↔ Run d 148 137 [a0, a1, a2, a3, a4, a5] [.ref o, .ref o] M 0 0 Z := R_arith (gd148 dX9_sum_136) rfl
theorem z148_137 : Run d 148 137 [a0, a1, a2, a3, a4, a5] [.ref o, s0] M 0 0 Z ↔ gObj M o 9 ∧ Run d 148 140 [a0, a1, a2, a3, a4, a5] [.int (M.1 o 13), s0] M 0 0 Z := R_getI (gd148 dX9_sum_137) rfl gf_9_178 rfl
theorem z148_140 : Run d 148 140 [a0, a1, a2, a3, a4, a5] [s1, s0] M 0 0 Z ↔ Run d 148 141 [a0, a1, a2, a3, a4, a5] [.int 1, s1, s0] M 0 0 Z := R_iconst (gd148 dX9_sum_140) (by decide)
theorem z148_141 : Run d 148 141 [a0, a1, a2, a3, a4, a5] [.int y, .int x, s0] M 0 0 Z ↔ Run d 148 142 [a0, a1, a2, a3, a4, a5] [.int (x + y), s0] M 0 0 Z := R_arith (gd148 dX9_sum_141) rfl
theorem z148_142 : Run d 148 142 [a0, a1, a2, a3, a4, a5] [.int x, .ref o] M 0 0 Z ↔ gObj M o 9 ∧ Run d 148 145 [a0, a1, a2, a3, a4, a5] [] (gsI M o 13 x) 0 0 Z := R_putI (gd148 dX9_sum_142) rfl gf_9_178 (Or.inl rfl) rfl
theorem z148_145 : Run d 148 145 [some (.ref o), a1, a2, a3, a4, a5] [] M 0 0 Z ↔ Run d 148 146 [some (.ref o), a1, a2, a3, a4, a5] [.ref o] M 0 0 Z := R_local (gd148 dX9_sum_145) rfl rfl rfl
theorem z148_146 : Run d 148 146 [a0, a1, a2, a3, a4, a5] [.ref o] M 0 0 Z ↔ gObj M o 9 ∧ Run d 148 149 [a0, a1, a2, a3, a4, a5] [va_rf (M.2.1 o 45)] M 0 0 Z := R_getR (gd148 dX9_sum_146) rfl gf_9_104 rfl
theorem z148_149 : Run d 148 149 [some (.ref o), a1, a2, a3, a4, a5] [s0] M 0 0 Z ↔ Run d 148 150 [some (.ref o), a1, a2, a3, a4, a5] [.ref o, s0] M 0 0 Z := R_local (gd148 dX9_sum_149) rfl rfl rfl
theorem z148_150 : Run d 148 150 [a0, a1, a2, a3, a4, a5] [.ref o, s0] M 0 0 Z ↔ gObj M o 9 ∧ Run d 148 153 [a0, a1, a2, a3, a4, a5] [.int (M.1 o 47), s0] M 0 0 Z := R_getI (gd148 dX9_sum_150) rfl gf_9_249 rfl
theorem z148_153 : Run d 148 153 [a0, a1, a2, a3, a4, some (.int x)] [s1, s0] M 0 0 Z ↔ Run d 148 155 [a0, a1, a2, a3, a4, some (.int x)] [.int x, s1, s0] M 0 0 Z := R_local (gd148 dX9_sum_153) rfl rfl rfl
theorem z148_155 : Run d 148 155 [a0, a1, a2, a3, a4, a5] [.int y, .int x, .ref o] M 0 0 Z ↔ gAr M o 0 ∧ gIn x (gLen M o) = true ∧ Run d 148 156 [a0, a1, a2, a3, a4, a5] [] (gsI M o x.toNatClampNeg y) 0 0 Z := R_iast (gd148 dX9_sum_155)
theorem z148_156 : Run d 148 156 [some (.ref o), a1, a2, a3, a4, a5] [] M 0 0 Z ↔ Run d 148 157 [some (.ref o), a1, a2, a3, a4, a5] [.ref o] M 0 0 Z := R_local (gd148 dX9_sum_156) rfl rfl rfl
theorem z148_157 : Run d 148 157 [a0, a1, a2, a3, a4, a5] [.ref o] M 0 0 Z ↔ Run d 148 158 [a0, a1, a2, a3, a4, a5] [.ref o, .ref o] M 0 0 Z := R_arith (gd148 dX9_sum_157) rfl
theorem z148_158 : Run d 148 158 [a0, a1, a2, a3, a4, a5] [.ref o, s0] M 0 0 Z ↔ gObj M o 9 ∧ Run d 148 161 [a0, a1, a2, a3, a4, a5] [.int (M.1 o 47), s0] M 0 0 Z := R_getI (gd148 dX9_sum_158) rfl gf_9_249 rfl
theorem z148_161 : Run d 148 161 [a0, a1, a2, a3, a4, a5] [s1, s0] M 0 0 Z ↔ Run d 148 162 [a0, a1, a2, a3, a4, a5] [.int 1, s1, s0] M 0 0 Z := R_iconst (gd148 dX9_sum_161) (by decide)
theorem z148_162 : Run d 148 162 [a0, a1, a2, a3, a4, a5] [.int y, .int x, s0] M 0 0 Z ↔ Run d 148 163 [a0, a1, a2, a3, a4, a5] [.int (x + y), s0] M 0 0 Z := R_arith (gd148 dX9_sum_162) rfl
theorem z148_163 : Run d 148 163 [a0, a1, a2, a3, a4, a5] [.int x, .ref o] M 0 0 Z ↔ gObj M o 9 ∧ Run d 148 166 [a0, a1, a2, a3, a4, a5] [] (gsI M o 47 x) 0 0 Z := R_putI (gd148 dX9_sum_163) rfl gf_9_249 (Or.inl rfl) rfl
theorem z148_166 : Run d 148 166 [a0, a1, a2, a3, a4, a5] [] M 0 0 Z ↔ Run d 148 167 [a0, a1, a2, a3, a4, a5] [.int 0] M 0 0 Z := R_iconst (gd148 dX9_sum_166) (by decide)
theorem z148_167 : Run d 148 167 [a0, a1, a2, a3, a4, a5] [.int x] M 0 0 Z ↔ Run d 148 168 [a0, some (.int x), a2, a3, a4, a5] [] M 0 0 Z := R_local (gd148 dX9_sum_167) rfl rfl rfl
theorem z148_168 : Run d 148 168 [a0, a1, a2, a3, a4, a5] [] M 0 0 Z ↔ Run d 148 313 [a0, a1, a2, a3, a4, a5] [] M 0 0 Z := R_goto (gd148 dX9_sum_168) (show gTgt 168 145 = some 313 by decide)
theorem z148_171 : Run d 148 171 [a0, a1, a2, a3, some (.int x), a5] [] M 0 0 Z ↔ Run d 148 173 [a0, a1, a2, a3, some (.int x), a5] [.int x] M 0 0 Z := R_local (gd148 dX9_sum_171) rfl rfl rfl
theorem z148_173 : Run d 148 173 [a0, a1, a2, a3, a4, a5] [s0] M 0 0 Z ↔ Call d 136 [s0] M (fun r M1 => Run d 148 176 [a0, a1, a2, a3, a4, a5] (r.toList ++ []) M1 0 0 Z) := R_call (gd148 dX9_sum_173) rfl rfl rfl rfl rfl rfl gc_9_212 rfl (by decide) (Nat.le_of_ble_eq_true rfl) (Nat.le_of_ble_eq_true rfl) rfl rfl rfl (Nat.le_of_ble_eq_true rfl) (Nat.le_of_ble_eq_true rfl)
theorem z148_176 : Run d 148 176 [a0, a1, a2, a3, a4, a5] [.int x] M 0 0 Z ↔ (x = 0 → Run d 148 251 [a0, a1, a2, a3, a4, a5] [] M 0 0 Z) ∧ (¬ (x = 0) → Run d 148 179 [a0, a1, a2, a3, a4, a5] [] M 0 0 Z) := R_if (gd148 dX9_sum_176) (show gTgt 176 75 = some 251 by decide) gIf_eq
theorem z148_179 : Run d 148 179 [some (.ref o), a1, a2, a3, a4, a5] [] M 0 0 Z ↔ Run d 148 180 [some (.ref o), a1, a2, a3, a4, a5] [.ref o] M 0 0 Z := R_local (gd148 dX9_sum_179) rfl rfl rfl
theorem z148_180 : Run d 148 180 [a0, a1, a2, a3, a4, a5] [.ref o] M 0 0 Z ↔ gObj M o 9 ∧ Run d 148 183 [a0, a1, a2, a3, a4, a5] [.int (M.1 o 48)] M 0 0 Z := R_getI (gd148 dX9_sum_180) rfl gf_9_246 rfl
theorem z148_183 : Run d 148 183 [a0, a1, a2, a3, a4, a5] [.int x] M 0 0 Z ↔ (x ≤ 0 → Run d 148 215 [a0, a1, a2, a3, a4, a5] [] M 0 0 Z) ∧ (¬ (x ≤ 0) → Run d 148 186 [a0, a1, a2, a3, a4, a5] [] M 0 0 Z) := R_if (gd148 dX9_sum_183) (show gTgt 183 32 = some 215 by decide) gIf_le
theorem z148_186 : Run d 148 186 [some (.ref o), a1, a2, a3, a4, a5] [] M 0 0 Z ↔ Run d 148 187 [some (.ref o), a1, a2, a3, a4, a5] [.ref o] M 0 0 Z := R_local (gd148 dX9_sum_186) rfl rfl rfl
theorem z148_187 : Run d 148 187 [a0, a1, a2, a3, a4, a5] [.ref o] M 0 0 Z ↔ gObj M o 9 ∧ Run d 148 190 [a0, a1, a2, a3, a4, a5] [va_rf (M.2.1 o 46)] M 0 0 Z := R_getR (gd148 dX9_sum_187) rfl gf_9_107 rfl
theorem z148_190 : Run d 148 190 [some (.ref o), a1, a2, a3, a4, a5] [s0] M 0 0 Z ↔ Run d 148 191 [some (.ref o), a1, a2, a3, a4, a5] [.ref o, s0] M 0 0 Z := R_local (gd148 dX9_sum_190) rfl rfl rfl
theorem z148_191 : Run d 148 191 [a0, a1, a2, a3, a4, a5] [.ref o, s0] M 0 0 Z ↔ gObj M o 9 ∧ Run d 148 194 [a0, a1, a2, a3, a4, a5] [.int (M.1 o 48), s0] M 0 0 Z := R_getI (gd148 dX9_sum_191) rfl gf_9_246 rfl
theorem z148_194 : Run d 148 194 [a0, a1, a2, a3, a4, a5] [s1, s0] M 0 0 Z ↔ Run d 148 195 [a0, a1, a2, a3, a4, a5] [.int 1, s1, s0] M 0 0 Z := R_iconst (gd148 dX9_sum_194) (by decide)
theorem z148_195 : Run d 148 195 [a0, a1, a2, a3, a4, a5] [.int y, .int x, s0] M 0 0 Z ↔ Run d 148 196 [a0, a1, a2, a3, a4, a5] [.int (x - y), s0] M 0 0 Z := R_arith (gd148 dX9_sum_195) rfl
theorem z148_196 : Run d 148 196 [a0, a1, a2, a3, a4, a5] [.int x, .ref o] M 0 0 Z ↔ gAr M o 0 ∧ gIn x (gLen M o) = true ∧ Run d 148 197 [a0, a1, a2, a3, a4, a5] [.int (M.1 o x.toNatClampNeg)] M 0 0 Z := R_iald (gd148 dX9_sum_196)
theorem z148_197 : Run d 148 197 [a0, a1, a2, a3, a4, a5] [s0] M 0 0 Z ↔ Call d 147 [s0] M (fun r M1 => Run d 148 200 [a0, a1, a2, a3, a4, a5] (r.toList ++ []) M1 0 0 Z) := R_call (gd148 dX9_sum_197) rfl rfl rfl rfl rfl rfl gc_9_260 rfl (by decide) (Nat.le_of_ble_eq_true rfl) (Nat.le_of_ble_eq_true rfl) rfl rfl rfl (Nat.le_of_ble_eq_true rfl) (Nat.le_of_ble_eq_true rfl)
theorem z148_200 : Run d 148 200 [a0, a1, a2, a3, some (.int x), a5] [s0] M 0 0 Z ↔ Run d 148 202 [a0, a1, a2, a3, some (.int x), a5] [.int x, s0] M 0 0 Z := R_local (gd148 dX9_sum_200) rfl rfl rfl
theorem z148_202 : Run d 148 202 [a0, a1, a2, a3, a4, a5] [s1, s0] M 0 0 Z ↔ Call d 147 [s1] M (fun r M1 => Run d 148 205 [a0, a1, a2, a3, a4, a5] (r.toList ++ [s0]) M1 0 0 Z) := R_call (gd148 dX9_sum_202) rfl rfl rfl rfl rfl rfl gc_9_260 rfl (by decide) (Nat.le_of_ble_eq_true rfl) (Nat.le_of_ble_eq_true rfl) rfl rfl rfl (Nat.le_of_ble_eq_true rfl) (Nat.le_of_ble_eq_true rfl)
theorem z148_205 : Run d 148 205 [a0, a1, a2, a3, a4, a5] [.int y, .int x] M 0 0 Z ↔ (x < y → Run d 148 215 [a0, a1, a2, a3, a4, a5] [] M 0 0 Z) ∧ (¬ (x < y) → Run d 148 208 [a0, a1, a2, a3, a4, a5] [] M 0 0 Z) := R_icmp (gd148 dX9_sum_205) (show gTgt 205 10 = some 215 by decide) gIf_lt
theorem z148_208 : Run d 148 208 [some (.ref o), a1, a2, a3, a4, a5] [] M 0 0 Z ↔ Run d 148 209 [some (.ref o), a1, a2, a3, a4, a5] [.ref o] M 0 0 Z := R_local (gd148 dX9_sum_208) rfl rfl rfl
theorem z148_209 : Run d 148 209 [a0, a1, a2, a3, a4, a5] [.ref b] M 0 0 Z ↔ gObj M b 9 ∧ Call d 146 [.ref b] M (fun r M1 => Run d 148 212 [a0, a1, a2, a3, a4, a5] (r.toList ++ []) M1 0 0 Z) := R_callV (gd148 dX9_sum_209) rfl rfl rfl rfl rfl rfl gc_9_263 rfl rfl (Nat.le_of_ble_eq_true rfl) (Nat.le_of_ble_eq_true rfl) rfl rfl (Nat.le_of_ble_eq_true rfl) (Nat.le_of_ble_eq_true rfl)
theorem z148_212 : Run d 148 212 [a0, a1, a2, a3, a4, a5] [] M 0 0 Z ↔ Run d 148 179 [a0, a1, a2, a3, a4, a5] [] M 0 0 Z := R_goto (gd148 dX9_sum_212) (show gTgt 212 (-33) = some 179 by decide)
theorem z148_215 : Run d 148 215 [some (.ref o), a1, a2, a3, a4, a5] [] M 0 0 Z ↔ Run d 148 216 [some (.ref o), a1, a2, a3, a4, a5] [.ref o] M 0 0 Z := R_local (gd148 dX9_sum_215) rfl rfl rfl
theorem z148_216 : Run d 148 216 [a0, a1, a2, a3, a4, a5] [.ref o] M 0 0 Z ↔ gObj M o 9 ∧ Run d 148 219 [a0, a1, a2, a3, a4, a5] [va_rf (M.2.1 o 46)] M 0 0 Z := R_getR (gd148 dX9_sum_216) rfl gf_9_107 rfl
theorem z148_219 : Run d 148 219 [some (.ref o), a1, a2, a3, a4, a5] [s0] M 0 0 Z ↔ Run d 148 220 [some (.ref o), a1, a2, a3, a4, a5] [.ref o, s0] M 0 0 Z := R_local (gd148 dX9_sum_219) rfl rfl rfl
theorem z148_220 : Run d 148 220 [a0, a1, a2, a3, a4, a5] [.ref o, s0] M 0 0 Z ↔ gObj M o 9 ∧ Run d 148 223 [a0, a1, a2, a3, a4, a5] [.int (M.1 o 48), s0] M 0 0 Z := R_getI (gd148 dX9_sum_220) rfl gf_9_246 rfl
theorem z148_223 : Run d 148 223 [a0, a1, a2, a3, some (.int x), a5] [s1, s0] M 0 0 Z ↔ Run d 148 225 [a0, a1, a2, a3, some (.int x), a5] [.int x, s1, s0] M 0 0 Z := R_local (gd148 dX9_sum_223) rfl rfl rfl
theorem z148_225 : Run d 148 225 [a0, a1, a2, a3, a4, a5] [.int y, .int x, .ref o] M 0 0 Z ↔ gAr M o 0 ∧ gIn x (gLen M o) = true ∧ Run d 148 226 [a0, a1, a2, a3, a4, a5] [] (gsI M o x.toNatClampNeg y) 0 0 Z := R_iast (gd148 dX9_sum_225)
theorem z148_226 : Run d 148 226 [some (.ref o), a1, a2, a3, a4, a5] [] M 0 0 Z ↔ Run d 148 227 [some (.ref o), a1, a2, a3, a4, a5] [.ref o] M 0 0 Z := R_local (gd148 dX9_sum_226) rfl rfl rfl
theorem z148_227 : Run d 148 227 [a0, a1, a2, a3, a4, a5] [.ref o] M 0 0 Z ↔ Run d 148 228 [a0, a1, a2, a3, a4, a5] [.ref o, .ref o] M 0 0 Z := R_arith (gd148 dX9_sum_227) rfl
theorem z148_228 : Run d 148 228 [a0, a1, a2, a3, a4, a5] [.ref o, s0] M 0 0 Z ↔ gObj M o 9 ∧ Run d 148 231 [a0, a1, a2, a3, a4, a5] [.int (M.1 o 48), s0] M 0 0 Z := R_getI (gd148 dX9_sum_228) rfl gf_9_246 rfl
theorem z148_231 : Run d 148 231 [a0, a1, a2, a3, a4, a5] [s1, s0] M 0 0 Z ↔ Run d 148 232 [a0, a1, a2, a3, a4, a5] [.int 1, s1, s0] M 0 0 Z := R_iconst (gd148 dX9_sum_231) (by decide)
theorem z148_232 : Run d 148 232 [a0, a1, a2, a3, a4, a5] [.int y, .int x, s0] M 0 0 Z ↔ Run d 148 233 [a0, a1, a2, a3, a4, a5] [.int (x + y), s0] M 0 0 Z := R_arith (gd148 dX9_sum_232) rfl
theorem z148_233 : Run d 148 233 [a0, a1, a2, a3, a4, a5] [.int x, .ref o] M 0 0 Z ↔ gObj M o 9 ∧ Run d 148 236 [a0, a1, a2, a3, a4, a5] [] (gsI M o 48 x) 0 0 Z := R_putI (gd148 dX9_sum_233) rfl gf_9_246 (Or.inl rfl) rfl
theorem z148_236 : Run d 148 236 [some (.ref o), a1, a2, a3, a4, a5] [] M 0 0 Z ↔ Run d 148 237 [some (.ref o), a1, a2, a3, a4, a5] [.ref o] M 0 0 Z := R_local (gd148 dX9_sum_236) rfl rfl rfl
theorem z148_237 : Run d 148 237 [a0, a1, a2, a3, a4, a5] [.ref o] M 0 0 Z ↔ Run d 148 238 [a0, a1, a2, a3, a4, a5] [.ref o, .ref o] M 0 0 Z := R_arith (gd148 dX9_sum_237) rfl
theorem z148_238 : Run d 148 238 [a0, a1, a2, a3, a4, a5] [.ref o, s0] M 0 0 Z ↔ gObj M o 9 ∧ Run d 148 241 [a0, a1, a2, a3, a4, a5] [.int (M.1 o 13), s0] M 0 0 Z := R_getI (gd148 dX9_sum_238) rfl gf_9_178 rfl
theorem z148_241 : Run d 148 241 [a0, a1, a2, a3, a4, a5] [s1, s0] M 0 0 Z ↔ Run d 148 242 [a0, a1, a2, a3, a4, a5] [.int 1, s1, s0] M 0 0 Z := R_iconst (gd148 dX9_sum_241) (by decide)
theorem z148_242 : Run d 148 242 [a0, a1, a2, a3, a4, a5] [.int y, .int x, s0] M 0 0 Z ↔ Run d 148 243 [a0, a1, a2, a3, a4, a5] [.int (x + y), s0] M 0 0 Z := R_arith (gd148 dX9_sum_242) rfl
theorem z148_243 : Run d 148 243 [a0, a1, a2, a3, a4, a5] [.int x, .ref o] M 0 0 Z ↔ gObj M o 9 ∧ Run d 148 246 [a0, a1, a2, a3, a4, a5] [] (gsI M o 13 x) 0 0 Z := R_putI (gd148 dX9_sum_243) rfl gf_9_178 (Or.inl rfl) rfl
theorem z148_246 : Run d 148 246 [a0, a1, a2, a3, a4, a5] [] M 0 0 Z ↔ Run d 148 247 [a0, a1, a2, a3, a4, a5] [.int 1] M 0 0 Z := R_iconst (gd148 dX9_sum_246) (by decide)
theorem z148_247 : Run d 148 247 [a0, a1, a2, a3, a4, a5] [.int x] M 0 0 Z ↔ Run d 148 248 [a0, some (.int x), a2, a3, a4, a5] [] M 0 0 Z := R_local (gd148 dX9_sum_247) rfl rfl rfl
theorem z148_248 : Run d 148 248 [a0, a1, a2, a3, a4, a5] [] M 0 0 Z ↔ Run d 148 313 [a0, a1, a2, a3, a4, a5] [] M 0 0 Z := R_goto (gd148 dX9_sum_248) (show gTgt 248 65 = some 313 by decide)
theorem z148_251 : Run d 148 251 [a0, a1, a2, a3, some (.int x), a5] [] M 0 0 Z ↔ Run d 148 253 [a0, a1, a2, a3, some (.int x), a5] [.int x] M 0 0 Z := R_local (gd148 dX9_sum_251) rfl rfl rfl
theorem z148_253 : Run d 148 253 [a0, a1, a2, a3, a4, a5] [s0] M 0 0 Z ↔ Run d 148 255 [a0, a1, a2, a3, a4, a5] [.int 41, s0] M 0 0 Z := R_bipush (gd148 dX9_sum_253) (by decide)
theorem z148_255 : Run d 148 255 [a0, a1, a2, a3, a4, a5] [.int y, .int x] M 0 0 Z ↔ (¬ x = y → Run d 148 311 [a0, a1, a2, a3, a4, a5] [] M 0 0 Z) ∧ (¬ (¬ x = y) → Run d 148 258 [a0, a1, a2, a3, a4, a5] [] M 0 0 Z) := R_icmp (gd148 dX9_sum_255) (show gTgt 255 56 = some 311 by decide) gIf_ne
theorem z148_258 : Run d 148 258 [a0, a1, a2, some (.int x), a4, a5] [] M 0 0 Z ↔ Run d 148 259 [a0, a1, a2, some (.int x), a4, a5] [.int x] M 0 0 Z := R_local (gd148 dX9_sum_258) rfl rfl rfl
theorem z148_259 : Run d 148 259 [a0, a1, a2, a3, a4, a5] [.int x] M 0 0 Z ↔ (x ≤ 0 → Run d 148 311 [a0, a1, a2, a3, a4, a5] [] M 0 0 Z) ∧ (¬ (x ≤ 0) → Run d 148 262 [a0, a1, a2, a3, a4, a5] [] M 0 0 Z) := R_if (gd148 dX9_sum_259) (show gTgt 259 52 = some 311 by decide) gIf_le
theorem z148_262 : Run d 148 262 [some (.ref o), a1, a2, a3, a4, a5] [] M 0 0 Z ↔ Run d 148 263 [some (.ref o), a1, a2, a3, a4, a5] [.ref o] M 0 0 Z := R_local (gd148 dX9_sum_262) rfl rfl rfl
theorem z148_263 : Run d 148 263 [a0, a1, a2, a3, a4, a5] [.ref o] M 0 0 Z ↔ gObj M o 9 ∧ Run d 148 266 [a0, a1, a2, a3, a4, a5] [va_rf (M.2.1 o 46)] M 0 0 Z := R_getR (gd148 dX9_sum_263) rfl gf_9_107 rfl
theorem z148_266 : Run d 148 266 [some (.ref o), a1, a2, a3, a4, a5] [s0] M 0 0 Z ↔ Run d 148 267 [some (.ref o), a1, a2, a3, a4, a5] [.ref o, s0] M 0 0 Z := R_local (gd148 dX9_sum_266) rfl rfl rfl
theorem z148_267 : Run d 148 267 [a0, a1, a2, a3, a4, a5] [.ref o, s0] M 0 0 Z ↔ gObj M o 9 ∧ Run d 148 270 [a0, a1, a2, a3, a4, a5] [.int (M.1 o 48), s0] M 0 0 Z := R_getI (gd148 dX9_sum_267) rfl gf_9_246 rfl
theorem z148_270 : Run d 148 270 [a0, a1, a2, a3, a4, a5] [s1, s0] M 0 0 Z ↔ Run d 148 271 [a0, a1, a2, a3, a4, a5] [.int 1, s1, s0] M 0 0 Z := R_iconst (gd148 dX9_sum_270) (by decide)
theorem z148_271 : Run d 148 271 [a0, a1, a2, a3, a4, a5] [.int y, .int x, s0] M 0 0 Z ↔ Run d 148 272 [a0, a1, a2, a3, a4, a5] [.int (x - y), s0] M 0 0 Z := R_arith (gd148 dX9_sum_271) rfl
theorem z148_272 : Run d 148 272 [a0, a1, a2, a3, a4, a5] [.int x, .ref o] M 0 0 Z ↔ gAr M o 0 ∧ gIn x (gLen M o) = true ∧ Run d 148 273 [a0, a1, a2, a3, a4, a5] [.int (M.1 o x.toNatClampNeg)] M 0 0 Z := R_iald (gd148 dX9_sum_272)
theorem z148_273 : Run d 148 273 [a0, a1, a2, a3, a4, a5] [s0] M 0 0 Z ↔ Run d 148 275 [a0, a1, a2, a3, a4, a5] [.int 40, s0] M 0 0 Z := R_bipush (gd148 dX9_sum_273) (by decide)
theorem z148_275 : Run d 148 275 [a0, a1, a2, a3, a4, a5] [.int y, .int x] M 0 0 Z ↔ (x = y → Run d 148 285 [a0, a1, a2, a3, a4, a5] [] M 0 0 Z) ∧ (¬ (x = y) → Run d 148 278 [a0, a1, a2, a3, a4, a5] [] M 0 0 Z) := R_icmp (gd148 dX9_sum_275) (show gTgt 275 10 = some 285 by decide) gIf_eq
theorem z148_278 : Run d 148 278 [some (.ref o), a1, a2, a3, a4, a5] [] M 0 0 Z ↔ Run d 148 279 [some (.ref o), a1, a2, a3, a4, a5] [.ref o] M 0 0 Z := R_local (gd148 dX9_sum_278) rfl rfl rfl
theorem z148_279 : Run d 148 279 [a0, a1, a2, a3, a4, a5] [.ref b] M 0 0 Z ↔ gObj M b 9 ∧ Call d 146 [.ref b] M (fun r M1 => Run d 148 282 [a0, a1, a2, a3, a4, a5] (r.toList ++ []) M1 0 0 Z) := R_callV (gd148 dX9_sum_279) rfl rfl rfl rfl rfl rfl gc_9_263 rfl rfl (Nat.le_of_ble_eq_true rfl) (Nat.le_of_ble_eq_true rfl) rfl rfl (Nat.le_of_ble_eq_true rfl) (Nat.le_of_ble_eq_true rfl)
theorem z148_282 : Run d 148 282 [a0, a1, a2, a3, a4, a5] [] M 0 0 Z ↔ Run d 148 262 [a0, a1, a2, a3, a4, a5] [] M 0 0 Z := R_goto (gd148 dX9_sum_282) (show gTgt 282 (-20) = some 262 by decide)
theorem z148_285 : Run d 148 285 [some (.ref o), a1, a2, a3, a4, a5] [] M 0 0 Z ↔ Run d 148 286 [some (.ref o), a1, a2, a3, a4, a5] [.ref o] M 0 0 Z := R_local (gd148 dX9_sum_285) rfl rfl rfl
theorem z148_286 : Run d 148 286 [a0, a1, a2, a3, a4, a5] [.ref o] M 0 0 Z ↔ Run d 148 287 [a0, a1, a2, a3, a4, a5] [.ref o, .ref o] M 0 0 Z := R_arith (gd148 dX9_sum_286) rfl
theorem z148_287 : Run d 148 287 [a0, a1, a2, a3, a4, a5] [.ref o, s0] M 0 0 Z ↔ gObj M o 9 ∧ Run d 148 290 [a0, a1, a2, a3, a4, a5] [.int (M.1 o 48), s0] M 0 0 Z := R_getI (gd148 dX9_sum_287) rfl gf_9_246 rfl
theorem z148_290 : Run d 148 290 [a0, a1, a2, a3, a4, a5] [s1, s0] M 0 0 Z ↔ Run d 148 291 [a0, a1, a2, a3, a4, a5] [.int 1, s1, s0] M 0 0 Z := R_iconst (gd148 dX9_sum_290) (by decide)
theorem z148_291 : Run d 148 291 [a0, a1, a2, a3, a4, a5] [.int y, .int x, s0] M 0 0 Z ↔ Run d 148 292 [a0, a1, a2, a3, a4, a5] [.int (x - y), s0] M 0 0 Z := R_arith (gd148 dX9_sum_291) rfl
theorem z148_292 : Run d 148 292 [a0, a1, a2, a3, a4, a5] [.int x, .ref o] M 0 0 Z ↔ gObj M o 9 ∧ Run d 148 295 [a0, a1, a2, a3, a4, a5] [] (gsI M o 48 x) 0 0 Z := R_putI (gd148 dX9_sum_292) rfl gf_9_246 (Or.inl rfl) rfl
theorem z148_295 : Run d 148 295 [a0, a1, a2, some (.int x), a4, a5] [] M 0 0 Z ↔ Run d 148 298 [a0, a1, a2, some (.int (x + (-1))), a4, a5] [] M 0 0 Z := R_iinc (gd148 dX9_sum_295) (by decide) rfl rfl
theorem z148_298 : Run d 148 298 [some (.ref o), a1, a2, a3, a4, a5] [] M 0 0 Z ↔ Run d 148 299 [some (.ref o), a1, a2, a3, a4, a5] [.ref o] M 0 0 Z := R_local (gd148 dX9_sum_298) rfl rfl rfl
theorem z148_299 : Run d 148 299 [a0, a1, a2, a3, a4, a5] [.ref o] M 0 0 Z ↔ Run d 148 300 [a0, a1, a2, a3, a4, a5] [.ref o, .ref o] M 0 0 Z := R_arith (gd148 dX9_sum_299) rfl
theorem z148_300 : Run d 148 300 [a0, a1, a2, a3, a4, a5] [.ref o, s0] M 0 0 Z ↔ gObj M o 9 ∧ Run d 148 303 [a0, a1, a2, a3, a4, a5] [.int (M.1 o 13), s0] M 0 0 Z := R_getI (gd148 dX9_sum_300) rfl gf_9_178 rfl
theorem z148_303 : Run d 148 303 [a0, a1, a2, a3, a4, a5] [s1, s0] M 0 0 Z ↔ Run d 148 304 [a0, a1, a2, a3, a4, a5] [.int 1, s1, s0] M 0 0 Z := R_iconst (gd148 dX9_sum_303) (by decide)
theorem z148_304 : Run d 148 304 [a0, a1, a2, a3, a4, a5] [.int y, .int x, s0] M 0 0 Z ↔ Run d 148 305 [a0, a1, a2, a3, a4, a5] [.int (x + y), s0] M 0 0 Z := R_arith (gd148 dX9_sum_304) rfl
theorem z148_305 : Run d 148 305 [a0, a1, a2, a3, a4, a5] [.int x, .ref o] M 0 0 Z ↔ gObj M o 9 ∧ Run d 148 308 [a0, a1, a2, a3, a4, a5] [] (gsI M o 13 x) 0 0 Z := R_putI (gd148 dX9_sum_305) rfl gf_9_178 (Or.inl rfl) rfl
theorem z148_308 : Run d 148 308 [a0, a1, a2, a3, a4, a5] [] M 0 0 Z ↔ Run d 148 313 [a0, a1, a2, a3, a4, a5] [] M 0 0 Z := R_goto (gd148 dX9_sum_308) (show gTgt 308 5 = some 313 by decide)
theorem z148_311 : Run d 148 311 [a0, a1, a2, a3, a4, a5] [] M 0 0 Z ↔ Run d 148 312 [a0, a1, a2, a3, a4, a5] [.int 0] M 0 0 Z := R_iconst (gd148 dX9_sum_311) (by decide)
theorem z148_312 : Run d 148 312 [a0, a1, a2, a3, a4, a5] [.int x] M 0 0 Z ↔ Run d 148 313 [a0, a1, some (.int x), a3, a4, a5] [] M 0 0 Z := R_local (gd148 dX9_sum_312) rfl rfl rfl
theorem z148_313 : Run d 148 313 [a0, a1, a2, a3, a4, a5] [] M 0 0 Z ↔ Run d 148 16 [a0, a1, a2, a3, a4, a5] [] M 0 0 Z := R_goto (gd148 dX9_sum_313) (show gTgt 313 (-297) = some 16 by decide)
theorem z148_316 : Run d 148 316 [some (.ref o), a1, a2, a3, a4, a5] [] M 0 0 Z ↔ Run d 148 317 [some (.ref o), a1, a2, a3, a4, a5] [.ref o] M 0 0 Z := R_local (gd148 dX9_sum_316) rfl rfl rfl
theorem z148_317 : Run d 148 317 [a0, a1, a2, a3, a4, a5] [.ref o] M 0 0 Z ↔ gObj M o 9 ∧ Run d 148 320 [a0, a1, a2, a3, a4, a5] [.int (M.1 o 48)] M 0 0 Z := R_getI (gd148 dX9_sum_317) rfl gf_9_246 rfl
theorem z148_320 : Run d 148 320 [a0, a1, a2, a3, a4, a5] [.int x] M 0 0 Z ↔ (x ≤ 0 → Run d 148 330 [a0, a1, a2, a3, a4, a5] [] M 0 0 Z) ∧ (¬ (x ≤ 0) → Run d 148 323 [a0, a1, a2, a3, a4, a5] [] M 0 0 Z) := R_if (gd148 dX9_sum_320) (show gTgt 320 10 = some 330 by decide) gIf_le
theorem z148_323 : Run d 148 323 [some (.ref o), a1, a2, a3, a4, a5] [] M 0 0 Z ↔ Run d 148 324 [some (.ref o), a1, a2, a3, a4, a5] [.ref o] M 0 0 Z := R_local (gd148 dX9_sum_323) rfl rfl rfl
theorem z148_324 : Run d 148 324 [a0, a1, a2, a3, a4, a5] [.ref b] M 0 0 Z ↔ gObj M b 9 ∧ Call d 146 [.ref b] M (fun r M1 => Run d 148 327 [a0, a1, a2, a3, a4, a5] (r.toList ++ []) M1 0 0 Z) := R_callV (gd148 dX9_sum_324) rfl rfl rfl rfl rfl rfl gc_9_263 rfl rfl (Nat.le_of_ble_eq_true rfl) (Nat.le_of_ble_eq_true rfl) rfl rfl (Nat.le_of_ble_eq_true rfl) (Nat.le_of_ble_eq_true rfl)
theorem z148_327 : Run d 148 327 [a0, a1, a2, a3, a4, a5] [] M 0 0 Z ↔ Run d 148 316 [a0, a1, a2, a3, a4, a5] [] M 0 0 Z := R_goto (gd148 dX9_sum_327) (show gTgt 327 (-11) = some 316 by decide)
theorem z148_330 : Run d 148 330 [some (.ref o), a1, a2, a3, a4, a5] [] M 0 0 Z ↔ Run d 148 331 [some (.ref o), a1, a2, a3, a4, a5] [.ref o] M 0 0 Z := R_local (gd148 dX9_sum_330) rfl rfl rfl
theorem z148_331 : Run d 148 331 [a0, a1, a2, a3, a4, a5] [.ref o] M 0 0 Z ↔ gObj M o 9 ∧ Run d 148 334 [a0, a1, a2, a3, a4, a5] [va_rf (M.2.1 o 45)] M 0 0 Z := R_getR (gd148 dX9_sum_331) rfl gf_9_104 rfl
theorem z148_334 : Run d 148 334 [a0, a1, a2, a3, a4, a5] [s0] M 0 0 Z ↔ Run d 148 335 [a0, a1, a2, a3, a4, a5] [.int 0, s0] M 0 0 Z := R_iconst (gd148 dX9_sum_334) (by decide)
theorem z148_335 : Run d 148 335 [a0, a1, a2, a3, a4, a5] [.int x, .ref o] M 0 0 Z ↔ gAr M o 0 ∧ gIn x (gLen M o) = true ∧ Run d 148 336 [a0, a1, a2, a3, a4, a5] [.int (M.1 o x.toNatClampNeg)] M 0 0 Z := R_iald (gd148 dX9_sum_335)
theorem z148_336 : Run d 148 336 [a0, a1, a2, a3, a4, a5] [.int x] M 0 0 Z ↔ Z (some (.int x)) M := R_iret (gd148 dX9_sum_336) rfl
theorem e148 : Call (d + 1) 148 [s0] M Z ↔ Run d 148 0 [some s0, none, none, none, none, none] [] M 0 0 Z := Call_iff (Nat.lt_of_lt_of_le (Nat.lt_succ_self 148) (Nat.le_of_ble_eq_true rfl)) (Nat.le_of_ble_eq_true rfl)
/-! 149: X9_breaks (I)V -/
theorem gd149 {pc : Nat} {r : Except _ _} (h : decode cX9_breaks pc = r) : decode (gby 149) pc = r := h
theorem z149_0 : Run d 149 0 [some (.ref o), a1] [] M 0 0 Z ↔ Run d 149 1 [some (.ref o), a1] [.ref o] M 0 0 Z := R_local (gd149 dX9_breaks_0) rfl rfl rfl
theorem z149_1 : Run d 149 1 [a0, a1] [.ref o] M 0 0 Z ↔ gObj M o 9 ∧ Run d 149 4 [a0, a1] [va_rf (M.2.1 o 34)] M 0 0 Z := R_getR (gd149 dX9_breaks_1) rfl gf_9_89 rfl
theorem z149_4 : Run d 149 4 [some (.ref o), a1] [s0] M 0 0 Z ↔ Run d 149 5 [some (.ref o), a1] [.ref o, s0] M 0 0 Z := R_local (gd149 dX9_breaks_4) rfl rfl rfl
theorem z149_5 : Run d 149 5 [a0, a1] [.ref o, s0] M 0 0 Z ↔ gObj M o 9 ∧ Run d 149 8 [a0, a1] [.int (M.1 o 36), s0] M 0 0 Z := R_getI (gd149 dX9_breaks_5) rfl gf_9_233 rfl
theorem z149_8 : Run d 149 8 [a0, some (.int x)] [s1, s0] M 0 0 Z ↔ Run d 149 9 [a0, some (.int x)] [.int x, s1, s0] M 0 0 Z := R_local (gd149 dX9_breaks_8) rfl rfl rfl
theorem z149_9 : Run d 149 9 [a0, a1] [.int y, .int x, .ref o] M 0 0 Z ↔ gAr M o 0 ∧ gIn x (gLen M o) = true ∧ Run d 149 10 [a0, a1] [] (gsI M o x.toNatClampNeg y) 0 0 Z := R_iast (gd149 dX9_breaks_9)
theorem z149_10 : Run d 149 10 [some (.ref o), a1] [] M 0 0 Z ↔ Run d 149 11 [some (.ref o), a1] [.ref o] M 0 0 Z := R_local (gd149 dX9_breaks_10) rfl rfl rfl
theorem z149_11 : Run d 149 11 [a0, a1] [.ref o] M 0 0 Z ↔ gObj M o 9 ∧ Run d 149 14 [a0, a1] [va_rf (M.2.1 o 35)] M 0 0 Z := R_getR (gd149 dX9_breaks_11) rfl gf_9_92 rfl
theorem z149_14 : Run d 149 14 [some (.ref o), a1] [s0] M 0 0 Z ↔ Run d 149 15 [some (.ref o), a1] [.ref o, s0] M 0 0 Z := R_local (gd149 dX9_breaks_14) rfl rfl rfl
theorem z149_15 : Run d 149 15 [a0, a1] [.ref o, s0] M 0 0 Z ↔ gObj M o 9 ∧ Run d 149 18 [a0, a1] [.int (M.1 o 36), s0] M 0 0 Z := R_getI (gd149 dX9_breaks_15) rfl gf_9_233 rfl
theorem z149_18 : Run d 149 18 [some (.ref o), a1] [s1, s0] M 0 0 Z ↔ Run d 149 19 [some (.ref o), a1] [.ref o, s1, s0] M 0 0 Z := R_local (gd149 dX9_breaks_18) rfl rfl rfl
theorem z149_19 : Run d 149 19 [a0, a1] [.ref o, s1, s0] M 0 0 Z ↔ gObj M o 9 ∧ Run d 149 22 [a0, a1] [.int (M.1 o 40), s1, s0] M 0 0 Z := R_getI (gd149 dX9_breaks_19) rfl gf_9_266 rfl
theorem z149_22 : Run d 149 22 [a0, a1] [.int y, .int x, .ref o] M 0 0 Z ↔ gAr M o 0 ∧ gIn x (gLen M o) = true ∧ Run d 149 23 [a0, a1] [] (gsI M o x.toNatClampNeg y) 0 0 Z := R_iast (gd149 dX9_breaks_22)
theorem z149_23 : Run d 149 23 [a0, a1] [] M 0 0 Z ↔ Z none M := R_vret (gd149 dX9_breaks_23) rfl
theorem e149 : Call (d + 1) 149 [s0, s1] M Z ↔ Run d 149 0 [some s0, some s1] [] M 0 0 Z := Call_iff (Nat.lt_of_lt_of_le (Nat.lt_succ_self 149) (Nat.le_of_ble_eq_true rfl)) (Nat.le_of_ble_eq_true rfl)
/-! 150: X9_isCount (I)Z -/
theorem gd150 {pc : Nat} {r : Except _ _} (h : decode cX9_isCount pc = r) : decode (gby 150) pc = r := h
theorem z150_0 : Run d 150 0 [some (.int x)] [] M 0 0 Z ↔ Run d 150 1 [some (.int x)] [.int x] M 0 0 Z := R_local (gd150 dX9_isCount_0) rfl rfl rfl
theorem z150_1 : Run d 150 1 [a0] [s0] M 0 0 Z ↔ Run d 150 2 [a0] [.int 0, s0] M 0 0 Z := R_iconst (gd150 dX9_isCount_1) (by decide)
theorem z150_2 : Run d 150 2 [a0] [s1, s0] M 0 0 Z ↔ Run d 150 5 [a0] [.int 200, s1, s0] M 0 0 Z := R_sipush (gd150 dX9_isCount_2) (by decide)
theorem z150_5 : Run d 150 5 [a0] [s2, s1, s0] M 0 0 Z ↔ Call d 120 [s0, s1, s2] M (fun r M1 => Run d 150 8 [a0] (r.toList ++ []) M1 0 0 Z) := R_call (gd150 dX9_isCount_5) rfl rfl rfl rfl rfl rfl gc_9_157 rfl (by decide) (Nat.le_of_ble_eq_true rfl) (Nat.le_of_ble_eq_true rfl) rfl rfl rfl (Nat.le_of_ble_eq_true rfl) (Nat.le_of_ble_eq_true rfl)
theorem z150_8 : Run d 150 8 [a0] [.int x] M 0 0 Z ↔ (x = 0 ∨ x = 1) ∧ Z (some (.int x)) M := R_iretZ (gd150 dX9_isCount_8) rfl
theorem e150 : Call (d + 1) 150 [s0] M Z ↔ Run d 150 0 [some s0] [] M 0 0 Z := Call_iff (Nat.lt_of_lt_of_le (Nat.lt_succ_self 150) (Nat.le_of_ble_eq_true rfl)) (Nat.le_of_ble_eq_true rfl)
/-! 151: X9_left ()I -/
theorem gd151 {pc : Nat} {r : Except _ _} (h : decode cX9_left pc = r) : decode (gby 151) pc = r := h
theorem z151_0 : Run d 151 0 [some (.ref o)] [] M 0 0 Z ↔ Run d 151 1 [some (.ref o)] [.ref o] M 0 0 Z := R_local (gd151 dX9_left_0) rfl rfl rfl
theorem z151_1 : Run d 151 1 [a0] [.ref o] M 0 0 Z ↔ gObj M o 9 ∧ Run d 151 4 [a0] [.int (M.1 o 38)] M 0 0 Z := R_getI (gd151 dX9_left_1) rfl gf_9_230 rfl
theorem z151_4 : Run d 151 4 [some (.ref o)] [s0] M 0 0 Z ↔ Run d 151 5 [some (.ref o)] [.ref o, s0] M 0 0 Z := R_local (gd151 dX9_left_4) rfl rfl rfl
theorem z151_5 : Run d 151 5 [a0] [.ref o, s0] M 0 0 Z ↔ gObj M o 9 ∧ Run d 151 8 [a0] [va_rf (M.2.1 o 25), s0] M 0 0 Z := R_getR (gd151 dX9_left_5) rfl gf_9_62 rfl
theorem z151_8 : Run d 151 8 [some (.ref o)] [s1, s0] M 0 0 Z ↔ Run d 151 9 [some (.ref o)] [.ref o, s1, s0] M 0 0 Z := R_local (gd151 dX9_left_8) rfl rfl rfl
theorem z151_9 : Run d 151 9 [a0] [.ref o, s1, s0] M 0 0 Z ↔ gObj M o 9 ∧ Run d 151 12 [a0] [.int (M.1 o 36), s1, s0] M 0 0 Z := R_getI (gd151 dX9_left_9) rfl gf_9_233 rfl
theorem z151_12 : Run d 151 12 [a0] [.int x, .ref o, s0] M 0 0 Z ↔ gAr M o 0 ∧ gIn x (gLen M o) = true ∧ Run d 151 13 [a0] [.int (M.1 o x.toNatClampNeg), s0] M 0 0 Z := R_iald (gd151 dX9_left_12)
theorem z151_13 : Run d 151 13 [a0] [.int y, .int x] M 0 0 Z ↔ Run d 151 14 [a0] [.int (x - y)] M 0 0 Z := R_arith (gd151 dX9_left_13) rfl
theorem z151_14 : Run d 151 14 [a0] [.int x] M 0 0 Z ↔ Z (some (.int x)) M := R_iret (gd151 dX9_left_14) rfl
theorem e151 : Call (d + 1) 151 [s0] M Z ↔ Run d 151 0 [some s0] [] M 0 0 Z := Call_iff (Nat.lt_of_lt_of_le (Nat.lt_succ_self 151) (Nat.le_of_ble_eq_true rfl)) (Nat.le_of_ble_eq_true rfl)
/-! 152: X9_lays (IIII)V -/
theorem gd152 {pc : Nat} {r : Except _ _} (h : decode cX9_lays pc = r) : decode (gby 152) pc = r := h
theorem z152_0 : Run d 152 0 [a0, a1, a2, a3, a4, a5] [] M 0 0 Z ↔ Run d 152 3 [a0, a1, a2, a3, a4, a5] [.int 400] M 0 0 Z := R_sipush (gd152 dX9_lays_0) (by decide)
theorem z152_3 : Run d 152 3 [some (.ref o), a1, a2, a3, a4, a5] [s0] M 0 0 Z ↔ Run d 152 4 [some (.ref o), a1, a2, a3, a4, a5] [.ref o, s0] M 0 0 Z := R_local (gd152 dX9_lays_3) rfl rfl rfl
theorem z152_4 : Run d 152 4 [a0, a1, a2, a3, a4, a5] [.ref o, s0] M 0 0 Z ↔ gObj M o 9 ∧ Run d 152 7 [a0, a1, a2, a3, a4, a5] [.int (M.1 o 36), s0] M 0 0 Z := R_getI (gd152 dX9_lays_4) rfl gf_9_233 rfl
theorem z152_7 : Run d 152 7 [a0, a1, a2, a3, a4, a5] [.int y, .int x] M 0 0 Z ↔ Run d 152 8 [a0, a1, a2, a3, a4, a5] [.int (x * y)] M 0 0 Z := R_arith (gd152 dX9_lays_7) rfl
theorem z152_8 : Run d 152 8 [some (.ref o), a1, a2, a3, a4, a5] [s0] M 0 0 Z ↔ Run d 152 9 [some (.ref o), a1, a2, a3, a4, a5] [.ref o, s0] M 0 0 Z := R_local (gd152 dX9_lays_8) rfl rfl rfl
theorem z152_9 : Run d 152 9 [a0, a1, a2, a3, a4, a5] [.ref o, s0] M 0 0 Z ↔ gObj M o 9 ∧ Run d 152 12 [a0, a1, a2, a3, a4, a5] [va_rf (M.2.1 o 27), s0] M 0 0 Z := R_getR (gd152 dX9_lays_9) rfl gf_9_68 rfl
theorem z152_12 : Run d 152 12 [some (.ref o), a1, a2, a3, a4, a5] [s1, s0] M 0 0 Z ↔ Run d 152 13 [some (.ref o), a1, a2, a3, a4, a5] [.ref o, s1, s0] M 0 0 Z := R_local (gd152 dX9_lays_12) rfl rfl rfl
theorem z152_13 : Run d 152 13 [a0, a1, a2, a3, a4, a5] [.ref o, s1, s0] M 0 0 Z ↔ gObj M o 9 ∧ Run d 152 16 [a0, a1, a2, a3, a4, a5] [.int (M.1 o 36), s1, s0] M 0 0 Z := R_getI (gd152 dX9_lays_13) rfl gf_9_233 rfl
theorem z152_16 : Run d 152 16 [a0, a1, a2, a3, a4, a5] [.int x, .ref o, s0] M 0 0 Z ↔ gAr M o 0 ∧ gIn x (gLen M o) = true ∧ Run d 152 17 [a0, a1, a2, a3, a4, a5] [.int (M.1 o x.toNatClampNeg), s0] M 0 0 Z := R_iald (gd152 dX9_lays_16)
theorem z152_17 : Run d 152 17 [a0, a1, a2, a3, a4, a5] [.int y, .int x] M 0 0 Z ↔ Run d 152 18 [a0, a1, a2, a3, a4, a5] [.int (x + y)] M 0 0 Z := R_arith (gd152 dX9_lays_17) rfl
theorem z152_18 : Run d 152 18 [a0, a1, a2, a3, a4, a5] [.int x] M 0 0 Z ↔ Run d 152 20 [a0, a1, a2, a3, a4, some (.int x)] [] M 0 0 Z := R_local (gd152 dX9_lays_18) rfl rfl rfl
theorem z152_20 : Run d 152 20 [some (.ref o), a1, a2, a3, a4, a5] [] M 0 0 Z ↔ Run d 152 21 [some (.ref o), a1, a2, a3, a4, a5] [.ref o] M 0 0 Z := R_local (gd152 dX9_lays_20) rfl rfl rfl
theorem z152_21 : Run d 152 21 [a0, a1, a2, a3, a4, a5] [.ref o] M 0 0 Z ↔ gObj M o 9 ∧ Run d 152 24 [a0, a1, a2, a3, a4, a5] [va_rf (M.2.1 o 17)] M 0 0 Z := R_getR (gd152 dX9_lays_21) rfl gf_9_38 rfl
theorem z152_24 : Run d 152 24 [a0, a1, a2, a3, a4, some (.int x)] [s0] M 0 0 Z ↔ Run d 152 26 [a0, a1, a2, a3, a4, some (.int x)] [.int x, s0] M 0 0 Z := R_local (gd152 dX9_lays_24) rfl rfl rfl
theorem z152_26 : Run d 152 26 [some (.ref o), a1, a2, a3, a4, a5] [s1, s0] M 0 0 Z ↔ Run d 152 27 [some (.ref o), a1, a2, a3, a4, a5] [.ref o, s1, s0] M 0 0 Z := R_local (gd152 dX9_lays_26) rfl rfl rfl
theorem z152_27 : Run d 152 27 [a0, a1, a2, a3, a4, a5] [.ref o, s1, s0] M 0 0 Z ↔ gObj M o 9 ∧ Run d 152 30 [a0, a1, a2, a3, a4, a5] [va_rf (M.2.1 o 26), s1, s0] M 0 0 Z := R_getR (gd152 dX9_lays_27) rfl gf_9_65 rfl
theorem z152_30 : Run d 152 30 [some (.ref o), a1, a2, a3, a4, a5] [s2, s1, s0] M 0 0 Z ↔ Run d 152 31 [some (.ref o), a1, a2, a3, a4, a5] [.ref o, s2, s1, s0] M 0 0 Z := R_local (gd152 dX9_lays_30) rfl rfl rfl
theorem z152_31 : Run d 152 31 [a0, a1, a2, a3, a4, a5] [.ref o, s2, s1, s0] M 0 0 Z ↔ gObj M o 9 ∧ Run d 152 34 [a0, a1, a2, a3, a4, a5] [.int (M.1 o 36), s2, s1, s0] M 0 0 Z := R_getI (gd152 dX9_lays_31) rfl gf_9_233 rfl
theorem z152_34 : Run d 152 34 [a0, a1, a2, a3, a4, a5] [.int x, .ref o, s1, s0] M 0 0 Z ↔ gAr M o 0 ∧ gIn x (gLen M o) = true ∧ Run d 152 35 [a0, a1, a2, a3, a4, a5] [.int (M.1 o x.toNatClampNeg), s1, s0] M 0 0 Z := R_iald (gd152 dX9_lays_34)
theorem z152_35 : Run d 152 35 [a0, a1, a2, a3, a4, a5] [.int y, .int x, .ref o] M 0 0 Z ↔ gAr M o 0 ∧ gIn x (gLen M o) = true ∧ Run d 152 36 [a0, a1, a2, a3, a4, a5] [] (gsI M o x.toNatClampNeg y) 0 0 Z := R_iast (gd152 dX9_lays_35)
theorem z152_36 : Run d 152 36 [some (.ref o), a1, a2, a3, a4, a5] [] M 0 0 Z ↔ Run d 152 37 [some (.ref o), a1, a2, a3, a4, a5] [.ref o] M 0 0 Z := R_local (gd152 dX9_lays_36) rfl rfl rfl
theorem z152_37 : Run d 152 37 [a0, a1, a2, a3, a4, a5] [.ref o] M 0 0 Z ↔ gObj M o 9 ∧ Run d 152 40 [a0, a1, a2, a3, a4, a5] [va_rf (M.2.1 o 18)] M 0 0 Z := R_getR (gd152 dX9_lays_37) rfl gf_9_41 rfl
theorem z152_40 : Run d 152 40 [a0, a1, a2, a3, a4, some (.int x)] [s0] M 0 0 Z ↔ Run d 152 42 [a0, a1, a2, a3, a4, some (.int x)] [.int x, s0] M 0 0 Z := R_local (gd152 dX9_lays_40) rfl rfl rfl
theorem z152_42 : Run d 152 42 [a0, some (.int x), a2, a3, a4, a5] [s1, s0] M 0 0 Z ↔ Run d 152 43 [a0, some (.int x), a2, a3, a4, a5] [.int x, s1, s0] M 0 0 Z := R_local (gd152 dX9_lays_42) rfl rfl rfl
theorem z152_43 : Run d 152 43 [a0, a1, a2, a3, a4, a5] [.int y, .int x, .ref o] M 0 0 Z ↔ gAr M o 0 ∧ gIn x (gLen M o) = true ∧ Run d 152 44 [a0, a1, a2, a3, a4, a5] [] (gsI M o x.toNatClampNeg y) 0 0 Z := R_iast (gd152 dX9_lays_43)
theorem z152_44 : Run d 152 44 [some (.ref o), a1, a2, a3, a4, a5] [] M 0 0 Z ↔ Run d 152 45 [some (.ref o), a1, a2, a3, a4, a5] [.ref o] M 0 0 Z := R_local (gd152 dX9_lays_44) rfl rfl rfl
theorem z152_45 : Run d 152 45 [a0, a1, a2, a3, a4, a5] [.ref o] M 0 0 Z ↔ gObj M o 9 ∧ Run d 152 48 [a0, a1, a2, a3, a4, a5] [va_rf (M.2.1 o 19)] M 0 0 Z := R_getR (gd152 dX9_lays_45) rfl gf_9_44 rfl
theorem z152_48 : Run d 152 48 [a0, a1, a2, a3, a4, some (.int x)] [s0] M 0 0 Z ↔ Run d 152 50 [a0, a1, a2, a3, a4, some (.int x)] [.int x, s0] M 0 0 Z := R_local (gd152 dX9_lays_48) rfl rfl rfl
theorem z152_50 : Run d 152 50 [some (.ref o), a1, a2, a3, a4, a5] [s1, s0] M 0 0 Z ↔ Run d 152 51 [some (.ref o), a1, a2, a3, a4, a5] [.ref o, s1, s0] M 0 0 Z := R_local (gd152 dX9_lays_50) rfl rfl rfl
theorem z152_51 : Run d 152 51 [a0, a1, a2, a3, a4, a5] [.ref o, s1, s0] M 0 0 Z ↔ gObj M o 9 ∧ Run d 152 54 [a0, a1, a2, a3, a4, a5] [va_rf (M.2.1 o 29), s1, s0] M 0 0 Z := R_getR (gd152 dX9_lays_51) rfl gf_9_74 rfl
theorem z152_54 : Run d 152 54 [some (.ref o), a1, a2, a3, a4, a5] [s2, s1, s0] M 0 0 Z ↔ Run d 152 55 [some (.ref o), a1, a2, a3, a4, a5] [.ref o, s2, s1, s0] M 0 0 Z := R_local (gd152 dX9_lays_54) rfl rfl rfl
theorem z152_55 : Run d 152 55 [a0, a1, a2, a3, a4, a5] [.ref o, s2, s1, s0] M 0 0 Z ↔ gObj M o 9 ∧ Run d 152 58 [a0, a1, a2, a3, a4, a5] [.int (M.1 o 36), s2, s1, s0] M 0 0 Z := R_getI (gd152 dX9_lays_55) rfl gf_9_233 rfl
theorem z152_58 : Run d 152 58 [a0, a1, a2, a3, a4, a5] [.int x, .ref o, s1, s0] M 0 0 Z ↔ gAr M o 0 ∧ gIn x (gLen M o) = true ∧ Run d 152 59 [a0, a1, a2, a3, a4, a5] [.int (M.1 o x.toNatClampNeg), s1, s0] M 0 0 Z := R_iald (gd152 dX9_lays_58)
theorem z152_59 : Run d 152 59 [a0, a1, a2, a3, a4, a5] [.int y, .int x, .ref o] M 0 0 Z ↔ gAr M o 0 ∧ gIn x (gLen M o) = true ∧ Run d 152 60 [a0, a1, a2, a3, a4, a5] [] (gsI M o x.toNatClampNeg y) 0 0 Z := R_iast (gd152 dX9_lays_59)
theorem z152_60 : Run d 152 60 [some (.ref o), a1, a2, a3, a4, a5] [] M 0 0 Z ↔ Run d 152 61 [some (.ref o), a1, a2, a3, a4, a5] [.ref o] M 0 0 Z := R_local (gd152 dX9_lays_60) rfl rfl rfl
theorem z152_61 : Run d 152 61 [a0, a1, a2, a3, a4, a5] [.ref o] M 0 0 Z ↔ gObj M o 9 ∧ Run d 152 64 [a0, a1, a2, a3, a4, a5] [va_rf (M.2.1 o 20)] M 0 0 Z := R_getR (gd152 dX9_lays_61) rfl gf_9_47 rfl
theorem z152_64 : Run d 152 64 [a0, a1, a2, a3, a4, some (.int x)] [s0] M 0 0 Z ↔ Run d 152 66 [a0, a1, a2, a3, a4, some (.int x)] [.int x, s0] M 0 0 Z := R_local (gd152 dX9_lays_64) rfl rfl rfl
theorem z152_66 : Run d 152 66 [some (.ref o), a1, a2, a3, a4, a5] [s1, s0] M 0 0 Z ↔ Run d 152 67 [some (.ref o), a1, a2, a3, a4, a5] [.ref o, s1, s0] M 0 0 Z := R_local (gd152 dX9_lays_66) rfl rfl rfl
theorem z152_67 : Run d 152 67 [a0, a1, a2, a3, a4, a5] [.ref o, s1, s0] M 0 0 Z ↔ gObj M o 9 ∧ Run d 152 70 [a0, a1, a2, a3, a4, a5] [va_rf (M.2.1 o 25), s1, s0] M 0 0 Z := R_getR (gd152 dX9_lays_67) rfl gf_9_62 rfl
theorem z152_70 : Run d 152 70 [some (.ref o), a1, a2, a3, a4, a5] [s2, s1, s0] M 0 0 Z ↔ Run d 152 71 [some (.ref o), a1, a2, a3, a4, a5] [.ref o, s2, s1, s0] M 0 0 Z := R_local (gd152 dX9_lays_70) rfl rfl rfl
theorem z152_71 : Run d 152 71 [a0, a1, a2, a3, a4, a5] [.ref o, s2, s1, s0] M 0 0 Z ↔ gObj M o 9 ∧ Run d 152 74 [a0, a1, a2, a3, a4, a5] [.int (M.1 o 36), s2, s1, s0] M 0 0 Z := R_getI (gd152 dX9_lays_71) rfl gf_9_233 rfl
theorem z152_74 : Run d 152 74 [a0, a1, a2, a3, a4, a5] [.int x, .ref o, s1, s0] M 0 0 Z ↔ gAr M o 0 ∧ gIn x (gLen M o) = true ∧ Run d 152 75 [a0, a1, a2, a3, a4, a5] [.int (M.1 o x.toNatClampNeg), s1, s0] M 0 0 Z := R_iald (gd152 dX9_lays_74)
theorem z152_75 : Run d 152 75 [a0, a1, a2, a3, a4, a5] [.int y, .int x, .ref o] M 0 0 Z ↔ gAr M o 0 ∧ gIn x (gLen M o) = true ∧ Run d 152 76 [a0, a1, a2, a3, a4, a5] [] (gsI M o x.toNatClampNeg y) 0 0 Z := R_iast (gd152 dX9_lays_75)
theorem z152_76 : Run d 152 76 [some (.ref o), a1, a2, a3, a4, a5] [] M 0 0 Z ↔ Run d 152 77 [some (.ref o), a1, a2, a3, a4, a5] [.ref o] M 0 0 Z := R_local (gd152 dX9_lays_76) rfl rfl rfl
theorem z152_77 : Run d 152 77 [a0, a1, a2, a3, a4, a5] [.ref o] M 0 0 Z ↔ gObj M o 9 ∧ Run d 152 80 [a0, a1, a2, a3, a4, a5] [va_rf (M.2.1 o 21)] M 0 0 Z := R_getR (gd152 dX9_lays_77) rfl gf_9_50 rfl
theorem z152_80 : Run d 152 80 [a0, a1, a2, a3, a4, some (.int x)] [s0] M 0 0 Z ↔ Run d 152 82 [a0, a1, a2, a3, a4, some (.int x)] [.int x, s0] M 0 0 Z := R_local (gd152 dX9_lays_80) rfl rfl rfl
theorem z152_82 : Run d 152 82 [a0, a1, some (.int x), a3, a4, a5] [s1, s0] M 0 0 Z ↔ Run d 152 83 [a0, a1, some (.int x), a3, a4, a5] [.int x, s1, s0] M 0 0 Z := R_local (gd152 dX9_lays_82) rfl rfl rfl
theorem z152_83 : Run d 152 83 [a0, a1, a2, a3, a4, a5] [.int y, .int x, .ref o] M 0 0 Z ↔ gAr M o 0 ∧ gIn x (gLen M o) = true ∧ Run d 152 84 [a0, a1, a2, a3, a4, a5] [] (gsI M o x.toNatClampNeg y) 0 0 Z := R_iast (gd152 dX9_lays_83)
theorem z152_84 : Run d 152 84 [some (.ref o), a1, a2, a3, a4, a5] [] M 0 0 Z ↔ Run d 152 85 [some (.ref o), a1, a2, a3, a4, a5] [.ref o] M 0 0 Z := R_local (gd152 dX9_lays_84) rfl rfl rfl
theorem z152_85 : Run d 152 85 [a0, a1, a2, a3, a4, a5] [.ref o] M 0 0 Z ↔ gObj M o 9 ∧ Run d 152 88 [a0, a1, a2, a3, a4, a5] [va_rf (M.2.1 o 22)] M 0 0 Z := R_getR (gd152 dX9_lays_85) rfl gf_9_53 rfl
theorem z152_88 : Run d 152 88 [a0, a1, a2, a3, a4, some (.int x)] [s0] M 0 0 Z ↔ Run d 152 90 [a0, a1, a2, a3, a4, some (.int x)] [.int x, s0] M 0 0 Z := R_local (gd152 dX9_lays_88) rfl rfl rfl
theorem z152_90 : Run d 152 90 [a0, a1, a2, some (.int x), a4, a5] [s1, s0] M 0 0 Z ↔ Run d 152 91 [a0, a1, a2, some (.int x), a4, a5] [.int x, s1, s0] M 0 0 Z := R_local (gd152 dX9_lays_90) rfl rfl rfl
theorem z152_91 : Run d 152 91 [a0, a1, a2, a3, a4, a5] [.int y, .int x, .ref o] M 0 0 Z ↔ gAr M o 0 ∧ gIn x (gLen M o) = true ∧ Run d 152 92 [a0, a1, a2, a3, a4, a5] [] (gsI M o x.toNatClampNeg y) 0 0 Z := R_iast (gd152 dX9_lays_91)
theorem z152_92 : Run d 152 92 [some (.ref o), a1, a2, a3, a4, a5] [] M 0 0 Z ↔ Run d 152 93 [some (.ref o), a1, a2, a3, a4, a5] [.ref o] M 0 0 Z := R_local (gd152 dX9_lays_92) rfl rfl rfl
theorem z152_93 : Run d 152 93 [a0, a1, a2, a3, a4, a5] [.ref o] M 0 0 Z ↔ gObj M o 9 ∧ Run d 152 96 [a0, a1, a2, a3, a4, a5] [va_rf (M.2.1 o 23)] M 0 0 Z := R_getR (gd152 dX9_lays_93) rfl gf_9_56 rfl
theorem z152_96 : Run d 152 96 [a0, a1, a2, a3, a4, some (.int x)] [s0] M 0 0 Z ↔ Run d 152 98 [a0, a1, a2, a3, a4, some (.int x)] [.int x, s0] M 0 0 Z := R_local (gd152 dX9_lays_96) rfl rfl rfl
theorem z152_98 : Run d 152 98 [a0, a1, a2, a3, some (.int x), a5] [s1, s0] M 0 0 Z ↔ Run d 152 100 [a0, a1, a2, a3, some (.int x), a5] [.int x, s1, s0] M 0 0 Z := R_local (gd152 dX9_lays_98) rfl rfl rfl
theorem z152_100 : Run d 152 100 [a0, a1, a2, a3, a4, a5] [.int y, .int x, .ref o] M 0 0 Z ↔ gAr M o 0 ∧ gIn x (gLen M o) = true ∧ Run d 152 101 [a0, a1, a2, a3, a4, a5] [] (gsI M o x.toNatClampNeg y) 0 0 Z := R_iast (gd152 dX9_lays_100)
theorem z152_101 : Run d 152 101 [some (.ref o), a1, a2, a3, a4, a5] [] M 0 0 Z ↔ Run d 152 102 [some (.ref o), a1, a2, a3, a4, a5] [.ref o] M 0 0 Z := R_local (gd152 dX9_lays_101) rfl rfl rfl
theorem z152_102 : Run d 152 102 [a0, a1, a2, a3, a4, a5] [.ref o] M 0 0 Z ↔ gObj M o 9 ∧ Run d 152 105 [a0, a1, a2, a3, a4, a5] [va_rf (M.2.1 o 27)] M 0 0 Z := R_getR (gd152 dX9_lays_102) rfl gf_9_68 rfl
theorem z152_105 : Run d 152 105 [some (.ref o), a1, a2, a3, a4, a5] [s0] M 0 0 Z ↔ Run d 152 106 [some (.ref o), a1, a2, a3, a4, a5] [.ref o, s0] M 0 0 Z := R_local (gd152 dX9_lays_105) rfl rfl rfl
theorem z152_106 : Run d 152 106 [a0, a1, a2, a3, a4, a5] [.ref o, s0] M 0 0 Z ↔ gObj M o 9 ∧ Run d 152 109 [a0, a1, a2, a3, a4, a5] [.int (M.1 o 36), s0] M 0 0 Z := R_getI (gd152 dX9_lays_106) rfl gf_9_233 rfl
theorem z152_109 : Run d 152 109 [a0, a1, a2, a3, a4, a5] [.int y, .ref o] M 0 0 Z ↔ Run d 152 110 [a0, a1, a2, a3, a4, a5] [.int y, .ref o, .int y, .ref o] M 0 0 Z := R_arith (gd152 dX9_lays_109) rfl
theorem z152_110 : Run d 152 110 [a0, a1, a2, a3, a4, a5] [.int x, .ref o, s1, s0] M 0 0 Z ↔ gAr M o 0 ∧ gIn x (gLen M o) = true ∧ Run d 152 111 [a0, a1, a2, a3, a4, a5] [.int (M.1 o x.toNatClampNeg), s1, s0] M 0 0 Z := R_iald (gd152 dX9_lays_110)
theorem z152_111 : Run d 152 111 [a0, a1, a2, a3, a4, a5] [s2, s1, s0] M 0 0 Z ↔ Run d 152 112 [a0, a1, a2, a3, a4, a5] [.int 1, s2, s1, s0] M 0 0 Z := R_iconst (gd152 dX9_lays_111) (by decide)
theorem z152_112 : Run d 152 112 [a0, a1, a2, a3, a4, a5] [.int y, .int x, s1, s0] M 0 0 Z ↔ Run d 152 113 [a0, a1, a2, a3, a4, a5] [.int (x + y), s1, s0] M 0 0 Z := R_arith (gd152 dX9_lays_112) rfl
theorem z152_113 : Run d 152 113 [a0, a1, a2, a3, a4, a5] [.int y, .int x, .ref o] M 0 0 Z ↔ gAr M o 0 ∧ gIn x (gLen M o) = true ∧ Run d 152 114 [a0, a1, a2, a3, a4, a5] [] (gsI M o x.toNatClampNeg y) 0 0 Z := R_iast (gd152 dX9_lays_113)
theorem z152_114 : Run d 152 114 [some (.ref o), a1, a2, a3, a4, a5] [] M 0 0 Z ↔ Run d 152 115 [some (.ref o), a1, a2, a3, a4, a5] [.ref o] M 0 0 Z := R_local (gd152 dX9_lays_114) rfl rfl rfl
theorem z152_115 : Run d 152 115 [a0, a1, a2, a3, a4, a5] [.ref o] M 0 0 Z ↔ gObj M o 9 ∧ Run d 152 118 [a0, a1, a2, a3, a4, a5] [va_rf (M.2.1 o 25)] M 0 0 Z := R_getR (gd152 dX9_lays_115) rfl gf_9_62 rfl
theorem z152_118 : Run d 152 118 [some (.ref o), a1, a2, a3, a4, a5] [s0] M 0 0 Z ↔ Run d 152 119 [some (.ref o), a1, a2, a3, a4, a5] [.ref o, s0] M 0 0 Z := R_local (gd152 dX9_lays_118) rfl rfl rfl
theorem z152_119 : Run d 152 119 [a0, a1, a2, a3, a4, a5] [.ref o, s0] M 0 0 Z ↔ gObj M o 9 ∧ Run d 152 122 [a0, a1, a2, a3, a4, a5] [.int (M.1 o 36), s0] M 0 0 Z := R_getI (gd152 dX9_lays_119) rfl gf_9_233 rfl
theorem z152_122 : Run d 152 122 [a0, a1, a2, a3, a4, a5] [.int y, .ref o] M 0 0 Z ↔ Run d 152 123 [a0, a1, a2, a3, a4, a5] [.int y, .ref o, .int y, .ref o] M 0 0 Z := R_arith (gd152 dX9_lays_122) rfl
theorem z152_123 : Run d 152 123 [a0, a1, a2, a3, a4, a5] [.int x, .ref o, s1, s0] M 0 0 Z ↔ gAr M o 0 ∧ gIn x (gLen M o) = true ∧ Run d 152 124 [a0, a1, a2, a3, a4, a5] [.int (M.1 o x.toNatClampNeg), s1, s0] M 0 0 Z := R_iald (gd152 dX9_lays_123)
theorem z152_124 : Run d 152 124 [a0, a1, some (.int x), a3, a4, a5] [s2, s1, s0] M 0 0 Z ↔ Run d 152 125 [a0, a1, some (.int x), a3, a4, a5] [.int x, s2, s1, s0] M 0 0 Z := R_local (gd152 dX9_lays_124) rfl rfl rfl
theorem z152_125 : Run d 152 125 [a0, a1, a2, a3, a4, a5] [.int y, .int x, s1, s0] M 0 0 Z ↔ Run d 152 126 [a0, a1, a2, a3, a4, a5] [.int (x + y), s1, s0] M 0 0 Z := R_arith (gd152 dX9_lays_125) rfl
theorem z152_126 : Run d 152 126 [a0, a1, a2, a3, a4, a5] [.int y, .int x, .ref o] M 0 0 Z ↔ gAr M o 0 ∧ gIn x (gLen M o) = true ∧ Run d 152 127 [a0, a1, a2, a3, a4, a5] [] (gsI M o x.toNatClampNeg y) 0 0 Z := R_iast (gd152 dX9_lays_126)
theorem z152_127 : Run d 152 127 [a0, a1, a2, a3, a4, a5] [] M 0 0 Z ↔ Z none M := R_vret (gd152 dX9_lays_127) rfl
theorem e152 : Call (d + 1) 152 [s0, s1, s2, s3, s4] M Z ↔ Run d 152 0 [some s0, some s1, some s2, some s3, some s4, none] [] M 0 0 Z := Call_iff (Nat.lt_of_lt_of_le (Nat.lt_succ_self 152) (Nat.le_of_ble_eq_true rfl)) (Nat.le_of_ble_eq_true rfl)
/-! 153: X9_acted ()V -/
theorem gd153 {pc : Nat} {r : Except _ _} (h : decode cX9_acted pc = r) : decode (gby 153) pc = r := h
theorem z153_0 : Run d 153 0 [some (.ref o)] [] M 0 0 Z ↔ Run d 153 1 [some (.ref o)] [.ref o] M 0 0 Z := R_local (gd153 dX9_acted_0) rfl rfl rfl
theorem z153_1 : Run d 153 1 [a0] [.ref o] M 0 0 Z ↔ gObj M o 9 ∧ Run d 153 4 [a0] [va_rf (M.2.1 o 24)] M 0 0 Z := R_getR (gd153 dX9_acted_1) rfl gf_9_59 rfl
theorem z153_4 : Run d 153 4 [a0] [s0] M 0 0 Z ↔ Run d 153 7 [a0] [.int 2001, s0] M 0 0 Z := R_sipush (gd153 dX9_acted_4) (by decide)
theorem z153_7 : Run d 153 7 [some (.ref o)] [s1, s0] M 0 0 Z ↔ Run d 153 8 [some (.ref o)] [.ref o, s1, s0] M 0 0 Z := R_local (gd153 dX9_acted_7) rfl rfl rfl
theorem z153_8 : Run d 153 8 [a0] [.ref o, s1, s0] M 0 0 Z ↔ gObj M o 9 ∧ Run d 153 11 [a0] [.int (M.1 o 36), s1, s0] M 0 0 Z := R_getI (gd153 dX9_acted_8) rfl gf_9_233 rfl
theorem z153_11 : Run d 153 11 [a0] [.int y, .int x, s0] M 0 0 Z ↔ Run d 153 12 [a0] [.int (x * y), s0] M 0 0 Z := R_arith (gd153 dX9_acted_11) rfl
theorem z153_12 : Run d 153 12 [some (.ref o)] [s1, s0] M 0 0 Z ↔ Run d 153 13 [some (.ref o)] [.ref o, s1, s0] M 0 0 Z := R_local (gd153 dX9_acted_12) rfl rfl rfl
theorem z153_13 : Run d 153 13 [a0] [.ref o, s1, s0] M 0 0 Z ↔ gObj M o 9 ∧ Run d 153 16 [a0] [va_rf (M.2.1 o 26), s1, s0] M 0 0 Z := R_getR (gd153 dX9_acted_13) rfl gf_9_65 rfl
theorem z153_16 : Run d 153 16 [some (.ref o)] [s2, s1, s0] M 0 0 Z ↔ Run d 153 17 [some (.ref o)] [.ref o, s2, s1, s0] M 0 0 Z := R_local (gd153 dX9_acted_16) rfl rfl rfl
theorem z153_17 : Run d 153 17 [a0] [.ref o, s2, s1, s0] M 0 0 Z ↔ gObj M o 9 ∧ Run d 153 20 [a0] [.int (M.1 o 36), s2, s1, s0] M 0 0 Z := R_getI (gd153 dX9_acted_17) rfl gf_9_233 rfl
theorem z153_20 : Run d 153 20 [a0] [.int x, .ref o, s1, s0] M 0 0 Z ↔ gAr M o 0 ∧ gIn x (gLen M o) = true ∧ Run d 153 21 [a0] [.int (M.1 o x.toNatClampNeg), s1, s0] M 0 0 Z := R_iald (gd153 dX9_acted_20)
theorem z153_21 : Run d 153 21 [a0] [.int y, .int x, s0] M 0 0 Z ↔ Run d 153 22 [a0] [.int (x + y), s0] M 0 0 Z := R_arith (gd153 dX9_acted_21) rfl
theorem z153_22 : Run d 153 22 [a0] [s1, s0] M 0 0 Z ↔ Run d 153 23 [a0] [.int 0, s1, s0] M 0 0 Z := R_iconst (gd153 dX9_acted_22) (by decide)
theorem z153_23 : Run d 153 23 [a0] [.int y, .int x, .ref o] M 0 0 Z ↔ gAr M o 0 ∧ gIn x (gLen M o) = true ∧ Run d 153 24 [a0] [] (gsI M o x.toNatClampNeg y) 0 0 Z := R_iast (gd153 dX9_acted_23)
theorem z153_24 : Run d 153 24 [some (.ref o)] [] M 0 0 Z ↔ Run d 153 25 [some (.ref o)] [.ref o] M 0 0 Z := R_local (gd153 dX9_acted_24) rfl rfl rfl
theorem z153_25 : Run d 153 25 [a0] [.ref o] M 0 0 Z ↔ gObj M o 9 ∧ Run d 153 28 [a0] [va_rf (M.2.1 o 26)] M 0 0 Z := R_getR (gd153 dX9_acted_25) rfl gf_9_65 rfl
theorem z153_28 : Run d 153 28 [some (.ref o)] [s0] M 0 0 Z ↔ Run d 153 29 [some (.ref o)] [.ref o, s0] M 0 0 Z := R_local (gd153 dX9_acted_28) rfl rfl rfl
theorem z153_29 : Run d 153 29 [a0] [.ref o, s0] M 0 0 Z ↔ gObj M o 9 ∧ Run d 153 32 [a0] [.int (M.1 o 36), s0] M 0 0 Z := R_getI (gd153 dX9_acted_29) rfl gf_9_233 rfl
theorem z153_32 : Run d 153 32 [a0] [.int y, .ref o] M 0 0 Z ↔ Run d 153 33 [a0] [.int y, .ref o, .int y, .ref o] M 0 0 Z := R_arith (gd153 dX9_acted_32) rfl
theorem z153_33 : Run d 153 33 [a0] [.int x, .ref o, s1, s0] M 0 0 Z ↔ gAr M o 0 ∧ gIn x (gLen M o) = true ∧ Run d 153 34 [a0] [.int (M.1 o x.toNatClampNeg), s1, s0] M 0 0 Z := R_iald (gd153 dX9_acted_33)
theorem z153_34 : Run d 153 34 [a0] [s2, s1, s0] M 0 0 Z ↔ Run d 153 35 [a0] [.int 1, s2, s1, s0] M 0 0 Z := R_iconst (gd153 dX9_acted_34) (by decide)
theorem z153_35 : Run d 153 35 [a0] [.int y, .int x, s1, s0] M 0 0 Z ↔ Run d 153 36 [a0] [.int (x + y), s1, s0] M 0 0 Z := R_arith (gd153 dX9_acted_35) rfl
theorem z153_36 : Run d 153 36 [a0] [.int y, .int x, .ref o] M 0 0 Z ↔ gAr M o 0 ∧ gIn x (gLen M o) = true ∧ Run d 153 37 [a0] [] (gsI M o x.toNatClampNeg y) 0 0 Z := R_iast (gd153 dX9_acted_36)
theorem z153_37 : Run d 153 37 [a0] [] M 0 0 Z ↔ Z none M := R_vret (gd153 dX9_acted_37) rfl
theorem e153 : Call (d + 1) 153 [s0] M Z ↔ Run d 153 0 [some s0] [] M 0 0 Z := Call_iff (Nat.lt_of_lt_of_le (Nat.lt_succ_self 153) (Nat.le_of_ble_eq_true rfl)) (Nat.le_of_ble_eq_true rfl)
/-! 154: X9_wastes (I)V -/
theorem gd154 {pc : Nat} {r : Except _ _} (h : decode cX9_wastes pc = r) : decode (gby 154) pc = r := h
theorem z154_0 : Run d 154 0 [some (.ref o), a1] [] M 0 0 Z ↔ Run d 154 1 [some (.ref o), a1] [.ref o] M 0 0 Z := R_local (gd154 dX9_wastes_0) rfl rfl rfl
theorem z154_1 : Run d 154 1 [a0, a1] [.ref o] M 0 0 Z ↔ gObj M o 9 ∧ Run d 154 4 [a0, a1] [va_rf (M.2.1 o 25)] M 0 0 Z := R_getR (gd154 dX9_wastes_1) rfl gf_9_62 rfl
theorem z154_4 : Run d 154 4 [some (.ref o), a1] [s0] M 0 0 Z ↔ Run d 154 5 [some (.ref o), a1] [.ref o, s0] M 0 0 Z := R_local (gd154 dX9_wastes_4) rfl rfl rfl
theorem z154_5 : Run d 154 5 [a0, a1] [.ref o, s0] M 0 0 Z ↔ gObj M o 9 ∧ Run d 154 8 [a0, a1] [.int (M.1 o 36), s0] M 0 0 Z := R_getI (gd154 dX9_wastes_5) rfl gf_9_233 rfl
theorem z154_8 : Run d 154 8 [a0, a1] [.int y, .ref o] M 0 0 Z ↔ Run d 154 9 [a0, a1] [.int y, .ref o, .int y, .ref o] M 0 0 Z := R_arith (gd154 dX9_wastes_8) rfl
theorem z154_9 : Run d 154 9 [a0, a1] [.int x, .ref o, s1, s0] M 0 0 Z ↔ gAr M o 0 ∧ gIn x (gLen M o) = true ∧ Run d 154 10 [a0, a1] [.int (M.1 o x.toNatClampNeg), s1, s0] M 0 0 Z := R_iald (gd154 dX9_wastes_9)
theorem z154_10 : Run d 154 10 [a0, some (.int x)] [s2, s1, s0] M 0 0 Z ↔ Run d 154 11 [a0, some (.int x)] [.int x, s2, s1, s0] M 0 0 Z := R_local (gd154 dX9_wastes_10) rfl rfl rfl
theorem z154_11 : Run d 154 11 [a0, a1] [.int y, .int x, s1, s0] M 0 0 Z ↔ Run d 154 12 [a0, a1] [.int (x + y), s1, s0] M 0 0 Z := R_arith (gd154 dX9_wastes_11) rfl
theorem z154_12 : Run d 154 12 [a0, a1] [.int y, .int x, .ref o] M 0 0 Z ↔ gAr M o 0 ∧ gIn x (gLen M o) = true ∧ Run d 154 13 [a0, a1] [] (gsI M o x.toNatClampNeg y) 0 0 Z := R_iast (gd154 dX9_wastes_12)
theorem z154_13 : Run d 154 13 [some (.ref o), a1] [] M 0 0 Z ↔ Run d 154 14 [some (.ref o), a1] [.ref o] M 0 0 Z := R_local (gd154 dX9_wastes_13) rfl rfl rfl
theorem z154_14 : Run d 154 14 [a0, a1] [.ref o] M 0 0 Z ↔ gObj M o 9 ∧ Run d 154 17 [a0, a1] [va_rf (M.2.1 o 33)] M 0 0 Z := R_getR (gd154 dX9_wastes_14) rfl gf_9_86 rfl
theorem z154_17 : Run d 154 17 [some (.ref o), a1] [s0] M 0 0 Z ↔ Run d 154 18 [some (.ref o), a1] [.ref o, s0] M 0 0 Z := R_local (gd154 dX9_wastes_17) rfl rfl rfl
theorem z154_18 : Run d 154 18 [a0, a1] [.ref o, s0] M 0 0 Z ↔ gObj M o 9 ∧ Run d 154 21 [a0, a1] [.int (M.1 o 36), s0] M 0 0 Z := R_getI (gd154 dX9_wastes_18) rfl gf_9_233 rfl
theorem z154_21 : Run d 154 21 [a0, a1] [.int y, .ref o] M 0 0 Z ↔ Run d 154 22 [a0, a1] [.int y, .ref o, .int y, .ref o] M 0 0 Z := R_arith (gd154 dX9_wastes_21) rfl
theorem z154_22 : Run d 154 22 [a0, a1] [.int x, .ref o, s1, s0] M 0 0 Z ↔ gAr M o 0 ∧ gIn x (gLen M o) = true ∧ Run d 154 23 [a0, a1] [.int (M.1 o x.toNatClampNeg), s1, s0] M 0 0 Z := R_iald (gd154 dX9_wastes_22)
theorem z154_23 : Run d 154 23 [a0, some (.int x)] [s2, s1, s0] M 0 0 Z ↔ Run d 154 24 [a0, some (.int x)] [.int x, s2, s1, s0] M 0 0 Z := R_local (gd154 dX9_wastes_23) rfl rfl rfl
theorem z154_24 : Run d 154 24 [a0, a1] [.int y, .int x, s1, s0] M 0 0 Z ↔ Run d 154 25 [a0, a1] [.int (x + y), s1, s0] M 0 0 Z := R_arith (gd154 dX9_wastes_24) rfl
theorem z154_25 : Run d 154 25 [a0, a1] [.int y, .int x, .ref o] M 0 0 Z ↔ gAr M o 0 ∧ gIn x (gLen M o) = true ∧ Run d 154 26 [a0, a1] [] (gsI M o x.toNatClampNeg y) 0 0 Z := R_iast (gd154 dX9_wastes_25)
theorem z154_26 : Run d 154 26 [a0, a1] [] M 0 0 Z ↔ Z none M := R_vret (gd154 dX9_wastes_26) rfl
theorem e154 : Call (d + 1) 154 [s0, s1] M Z ↔ Run d 154 0 [some s0, some s1] [] M 0 0 Z := Call_iff (Nat.lt_of_lt_of_le (Nat.lt_succ_self 154) (Nat.le_of_ble_eq_true rfl)) (Nat.le_of_ble_eq_true rfl)
end
