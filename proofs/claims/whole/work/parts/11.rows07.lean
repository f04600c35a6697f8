/-! Rules of the methods, an instruction each, by program (wip/whole/rows.py). -/
theorem dX8_slipped_0 : decode cX8_slipped 0 = .ok (.iload_n 1, 1) := by decide +kernel
theorem dX8_slipped_1 : decode cX8_slipped 1 = .ok (.aload_n 0, 1) := by decide +kernel
theorem dX8_slipped_2 : decode cX8_slipped 2 = .ok (.getfield 71, 3) := by decide +kernel
theorem dX8_slipped_5 : decode cX8_slipped 5 = .ok (.getfield 204, 3) := by decide +kernel
theorem dX8_slipped_8 : decode cX8_slipped 8 = .ok (.invokestatic 97, 3) := by decide +kernel
theorem dX8_slipped_11 : decode cX8_slipped 11 = .ok (.ifCond .eq 22, 3) := by decide +kernel
theorem dX8_slipped_14 : decode cX8_slipped 14 = .ok (.iload_n 1, 1) := by decide +kernel
theorem dX8_slipped_15 : decode cX8_slipped 15 = .ok (.sipush 400, 3) := by decide +kernel
theorem dX8_slipped_18 : decode cX8_slipped 18 = .ok (.if_icmp .ge 15, 3) := by decide +kernel
theorem dX8_slipped_21 : decode cX8_slipped 21 = .ok (.aload_n 0, 1) := by decide +kernel
theorem dX8_slipped_22 : decode cX8_slipped 22 = .ok (.getfield 71, 3) := by decide +kernel
theorem dX8_slipped_25 : decode cX8_slipped 25 = .ok (.getfield 207, 3) := by decide +kernel
theorem dX8_slipped_28 : decode cX8_slipped 28 = .ok (.iload_n 1, 1) := by decide +kernel
theorem dX8_slipped_29 : decode cX8_slipped 29 = .ok (.iaload, 1) := by decide +kernel
theorem dX8_slipped_30 : decode cX8_slipped 30 = .ok (.goto 4, 3) := by decide +kernel
theorem dX8_slipped_33 : decode cX8_slipped 33 = .ok (.iconst (-1), 1) := by decide +kernel
theorem dX8_slipped_34 : decode cX8_slipped 34 = .ok (.ireturn, 1) := by decide +kernel
theorem dX8_after_0 : decode cX8_after 0 = .ok (.aload_n 0, 1) := by decide +kernel
theorem dX8_after_1 : decode cX8_after 1 = .ok (.getfield 82, 3) := by decide +kernel
theorem dX8_after_4 : decode cX8_after 4 = .ok (.ifnull 21, 3) := by decide +kernel
theorem dX8_after_7 : decode cX8_after 7 = .ok (.iload_n 1, 1) := by decide +kernel
theorem dX8_after_8 : decode cX8_after 8 = .ok (.iload_n 2, 1) := by decide +kernel
theorem dX8_after_9 : decode cX8_after 9 = .ok (.invokestatic 154, 3) := by decide +kernel
theorem dX8_after_12 : decode cX8_after 12 = .ok (.ifCond .eq 13, 3) := by decide +kernel
theorem dX8_after_15 : decode cX8_after 15 = .ok (.aload_n 0, 1) := by decide +kernel
theorem dX8_after_16 : decode cX8_after 16 = .ok (.getfield 71, 3) := by decide +kernel
theorem dX8_after_19 : decode cX8_after 19 = .ok (.getfield 210, 3) := by decide +kernel
theorem dX8_after_22 : decode cX8_after 22 = .ok (.ifCond .ne 5, 3) := by decide +kernel
theorem dX8_after_25 : decode cX8_after 25 = .ok (.iconst (-1), 1) := by decide +kernel
theorem dX8_after_26 : decode cX8_after 26 = .ok (.ireturn, 1) := by decide +kernel
theorem dX8_after_27 : decode cX8_after 27 = .ok (.aload_n 0, 1) := by decide +kernel
theorem dX8_after_28 : decode cX8_after 28 = .ok (.getfield 61, 3) := by decide +kernel
theorem dX8_after_31 : decode cX8_after 31 = .ok (.getfield 157, 3) := by decide +kernel
theorem dX8_after_34 : decode cX8_after 34 = .ok (.aload_n 0, 1) := by decide +kernel
theorem dX8_after_35 : decode cX8_after 35 = .ok (.getfield 71, 3) := by decide +kernel
theorem dX8_after_38 : decode cX8_after 38 = .ok (.aload_n 0, 1) := by decide +kernel
theorem dX8_after_39 : decode cX8_after 39 = .ok (.getfield 61, 3) := by decide +kernel
theorem dX8_after_42 : decode cX8_after 42 = .ok (.getfield 157, 3) := by decide +kernel
theorem dX8_after_45 : decode cX8_after 45 = .ok (.iload_n 1, 1) := by decide +kernel
theorem dX8_after_46 : decode cX8_after 46 = .ok (.iload_n 2, 1) := by decide +kernel
theorem dX8_after_47 : decode cX8_after 47 = .ok (.invokevirtual 213, 3) := by decide +kernel
theorem dX8_after_50 : decode cX8_after 50 = .ok (.iload_n 1, 1) := by decide +kernel
theorem dX8_after_51 : decode cX8_after 51 = .ok (.aload_n 0, 1) := by decide +kernel
theorem dX8_after_52 : decode cX8_after 52 = .ok (.getfield 82, 3) := by decide +kernel
theorem dX8_after_55 : decode cX8_after 55 = .ok (.invokevirtual 167, 3) := by decide +kernel
theorem dX8_after_58 : decode cX8_after 58 = .ok (.ireturn, 1) := by decide +kernel
theorem dX8_fix_0 : decode cX8_fix 0 = .ok (.aload_n 0, 1) := by decide +kernel
theorem dX8_fix_1 : decode cX8_fix 1 = .ok (.getfield 82, 3) := by decide +kernel
theorem dX8_fix_4 : decode cX8_fix 4 = .ok (.ifnull 13, 3) := by decide +kernel
theorem dX8_fix_7 : decode cX8_fix 7 = .ok (.aload_n 0, 1) := by decide +kernel
theorem dX8_fix_8 : decode cX8_fix 8 = .ok (.getfield 71, 3) := by decide +kernel
theorem dX8_fix_11 : decode cX8_fix 11 = .ok (.getfield 210, 3) := by decide +kernel
theorem dX8_fix_14 : decode cX8_fix 14 = .ok (.ifCond .ne 5, 3) := by decide +kernel
theorem dX8_fix_17 : decode cX8_fix 17 = .ok (.iconst (-1), 1) := by decide +kernel
theorem dX8_fix_18 : decode cX8_fix 18 = .ok (.ireturn, 1) := by decide +kernel
theorem dX8_fix_19 : decode cX8_fix 19 = .ok (.aload_n 0, 1) := by decide +kernel
theorem dX8_fix_20 : decode cX8_fix 20 = .ok (.getfield 71, 3) := by decide +kernel
theorem dX8_fix_23 : decode cX8_fix 23 = .ok (.getfield 204, 3) := by decide +kernel
theorem dX8_fix_26 : decode cX8_fix 26 = .ok (.ifCond .ne 6, 3) := by decide +kernel
theorem dX8_fix_29 : decode cX8_fix 29 = .ok (.bipush (-2), 2) := by decide +kernel
theorem dX8_fix_31 : decode cX8_fix 31 = .ok (.ireturn, 1) := by decide +kernel
theorem dX8_fix_32 : decode cX8_fix 32 = .ok (.aload_n 0, 1) := by decide +kernel
theorem dX8_fix_33 : decode cX8_fix 33 = .ok (.getfield 71, 3) := by decide +kernel
theorem dX8_fix_36 : decode cX8_fix 36 = .ok (.aload_n 0, 1) := by decide +kernel
theorem dX8_fix_37 : decode cX8_fix 37 = .ok (.getfield 61, 3) := by decide +kernel
theorem dX8_fix_40 : decode cX8_fix 40 = .ok (.getfield 157, 3) := by decide +kernel
theorem dX8_fix_43 : decode cX8_fix 43 = .ok (.invokevirtual 217, 3) := by decide +kernel
theorem dX8_fix_46 : decode cX8_fix 46 = .ok (.ireturn, 1) := by decide +kernel
theorem dX8_breaths_0 : decode cX8_breaths 0 = .ok (.aload_n 0, 1) := by decide +kernel
theorem dX8_breaths_1 : decode cX8_breaths 1 = .ok (.getfield 82, 3) := by decide +kernel
theorem dX8_breaths_4 : decode cX8_breaths 4 = .ok (.ifnonnull 7, 3) := by decide +kernel
theorem dX8_breaths_7 : decode cX8_breaths 7 = .ok (.iconst (-1), 1) := by decide +kernel
theorem dX8_breaths_8 : decode cX8_breaths 8 = .ok (.goto 12, 3) := by decide +kernel
theorem dX8_breaths_11 : decode cX8_breaths 11 = .ok (.aload_n 0, 1) := by decide +kernel
theorem dX8_breaths_12 : decode cX8_breaths 12 = .ok (.getfield 61, 3) := by decide +kernel
theorem dX8_breaths_15 : decode cX8_breaths 15 = .ok (.getfield 221, 3) := by decide +kernel
theorem dX8_breaths_18 : decode cX8_breaths 18 = .ok (.iconst 1, 1) := by decide +kernel
theorem dX8_breaths_19 : decode cX8_breaths 19 = .ok (.iadd, 1) := by decide +kernel
theorem dX8_breaths_20 : decode cX8_breaths 20 = .ok (.ireturn, 1) := by decide +kernel
theorem dX8_shortest_0 : decode cX8_shortest 0 = .ok (.aload_n 0, 1) := by decide +kernel
theorem dX8_shortest_1 : decode cX8_shortest 1 = .ok (.iload_n 1, 1) := by decide +kernel
theorem dX8_shortest_2 : decode cX8_shortest 2 = .ok (.invokevirtual 130, 3) := by decide +kernel
theorem dX8_shortest_5 : decode cX8_shortest 5 = .ok (.astore 5, 2) := by decide +kernel
theorem dX8_shortest_7 : decode cX8_shortest 7 = .ok (.aload 5, 2) := by decide +kernel
theorem dX8_shortest_9 : decode cX8_shortest 9 = .ok (.ifnull 31, 3) := by decide +kernel
theorem dX8_shortest_12 : decode cX8_shortest 12 = .ok (.iload_n 2, 1) := by decide +kernel
theorem dX8_shortest_13 : decode cX8_shortest 13 = .ok (.aload_n 0, 1) := by decide +kernel
theorem dX8_shortest_14 : decode cX8_shortest 14 = .ok (.getfield 13, 3) := by decide +kernel
theorem dX8_shortest_17 : decode cX8_shortest 17 = .ok (.invokestatic 97, 3) := by decide +kernel
theorem dX8_shortest_20 : decode cX8_shortest 20 = .ok (.ifCond .eq 20, 3) := by decide +kernel
theorem dX8_shortest_23 : decode cX8_shortest 23 = .ok (.iload_n 3, 1) := by decide +kernel
theorem dX8_shortest_24 : decode cX8_shortest 24 = .ok (.invokestatic 94, 3) := by decide +kernel
theorem dX8_shortest_27 : decode cX8_shortest 27 = .ok (.ifCond .eq 13, 3) := by decide +kernel
theorem dX8_shortest_30 : decode cX8_shortest 30 = .ok (.iload 4, 2) := by decide +kernel
theorem dX8_shortest_32 : decode cX8_shortest 32 = .ok (.bipush 61, 2) := by decide +kernel
theorem dX8_shortest_34 : decode cX8_shortest 34 = .ok (.invokestatic 97, 3) := by decide +kernel
theorem dX8_shortest_37 : decode cX8_shortest 37 = .ok (.ifCond .ne 5, 3) := by decide +kernel
theorem dX8_shortest_40 : decode cX8_shortest 40 = .ok (.iconst (-1), 1) := by decide +kernel
theorem dX8_shortest_41 : decode cX8_shortest 41 = .ok (.ireturn, 1) := by decide +kernel
theorem dX8_shortest_42 : decode cX8_shortest 42 = .ok (.bipush 10, 2) := by decide +kernel
theorem dX8_shortest_44 : decode cX8_shortest 44 = .ok (.istore 6, 2) := by decide +kernel
theorem dX8_shortest_46 : decode cX8_shortest 46 = .ok (.iload 6, 2) := by decide +kernel
theorem dX8_shortest_48 : decode cX8_shortest 48 = .ok (.sipush 400, 3) := by decide +kernel
theorem dX8_shortest_51 : decode cX8_shortest 51 = .ok (.if_icmp .gt 75, 3) := by decide +kernel
theorem dX8_shortest_54 : decode cX8_shortest 54 = .ok (.aload_n 0, 1) := by decide +kernel
theorem dX8_shortest_55 : decode cX8_shortest 55 = .ok (.getfield 65, 3) := by decide +kernel
theorem dX8_shortest_58 : decode cX8_shortest 58 = .ok (.aload_n 0, 1) := by decide +kernel
theorem dX8_shortest_59 : decode cX8_shortest 59 = .ok (.getfield 9, 3) := by decide +kernel
theorem dX8_shortest_62 : decode cX8_shortest 62 = .ok (.iload_n 2, 1) := by decide +kernel
theorem dX8_shortest_63 : decode cX8_shortest 63 = .ok (.iload 6, 2) := by decide +kernel
theorem dX8_shortest_65 : decode cX8_shortest 65 = .ok (.iload_n 3, 1) := by decide +kernel
theorem dX8_shortest_66 : decode cX8_shortest 66 = .ok (.invokevirtual 137, 3) := by decide +kernel
theorem dX8_shortest_69 : decode cX8_shortest 69 = .ok (.aload_n 0, 1) := by decide +kernel
theorem dX8_shortest_70 : decode cX8_shortest 70 = .ok (.getfield 54, 3) := by decide +kernel
theorem dX8_shortest_73 : decode cX8_shortest 73 = .ok (.aload 5, 2) := by decide +kernel
theorem dX8_shortest_75 : decode cX8_shortest 75 = .ok (.aload_n 0, 1) := by decide +kernel
theorem dX8_shortest_76 : decode cX8_shortest 76 = .ok (.getfield 65, 3) := by decide +kernel
theorem dX8_shortest_79 : decode cX8_shortest 79 = .ok (.iload 4, 2) := by decide +kernel
theorem dX8_shortest_81 : decode cX8_shortest 81 = .ok (.invokevirtual 141, 3) := by decide +kernel
theorem dX8_shortest_84 : decode cX8_shortest 84 = .ok (.aload_n 0, 1) := by decide +kernel
theorem dX8_shortest_85 : decode cX8_shortest 85 = .ok (.getfield 65, 3) := by decide +kernel
theorem dX8_shortest_88 : decode cX8_shortest 88 = .ok (.getfield 148, 3) := by decide +kernel
theorem dX8_shortest_91 : decode cX8_shortest 91 = .ok (.ifCond .ne 6, 3) := by decide +kernel
theorem dX8_shortest_94 : decode cX8_shortest 94 = .ok (.iload 6, 2) := by decide +kernel
theorem dX8_shortest_96 : decode cX8_shortest 96 = .ok (.ireturn, 1) := by decide +kernel
theorem dX8_shortest_97 : decode cX8_shortest 97 = .ok (.aload_n 0, 1) := by decide +kernel
theorem dX8_shortest_98 : decode cX8_shortest 98 = .ok (.getfield 65, 3) := by decide +kernel
theorem dX8_shortest_101 : decode cX8_shortest 101 = .ok (.getfield 148, 3) := by decide +kernel
theorem dX8_shortest_104 : decode cX8_shortest 104 = .ok (.iconst 1, 1) := by decide +kernel
theorem dX8_shortest_105 : decode cX8_shortest 105 = .ok (.if_icmp .eq 15, 3) := by decide +kernel
theorem dX8_shortest_108 : decode cX8_shortest 108 = .ok (.aload_n 0, 1) := by decide +kernel
theorem dX8_shortest_109 : decode cX8_shortest 109 = .ok (.getfield 54, 3) := by decide +kernel
theorem dX8_shortest_112 : decode cX8_shortest 112 = .ok (.getfield 224, 3) := by decide +kernel
theorem dX8_shortest_115 : decode cX8_shortest 115 = .ok (.ifCond .ne 5, 3) := by decide +kernel
theorem dX8_shortest_118 : decode cX8_shortest 118 = .ok (.iconst (-1), 1) := by decide +kernel
theorem dX8_shortest_119 : decode cX8_shortest 119 = .ok (.ireturn, 1) := by decide +kernel
theorem dX8_shortest_120 : decode cX8_shortest 120 = .ok (.iinc 6 1, 3) := by decide +kernel
theorem dX8_shortest_123 : decode cX8_shortest 123 = .ok (.goto (-77), 3) := by decide +kernel
theorem dX8_shortest_126 : decode cX8_shortest 126 = .ok (.iconst (-1), 1) := by decide +kernel
theorem dX8_shortest_127 : decode cX8_shortest 127 = .ok (.ireturn, 1) := by decide +kernel
theorem dX8_solve_0 : decode cX8_solve 0 = .ok (.aload_n 0, 1) := by decide +kernel
theorem dX8_solve_1 : decode cX8_solve 1 = .ok (.iload_n 1, 1) := by decide +kernel
theorem dX8_solve_2 : decode cX8_solve 2 = .ok (.invokevirtual 130, 3) := by decide +kernel
theorem dX8_solve_5 : decode cX8_solve 5 = .ok (.astore 6, 2) := by decide +kernel
theorem dX8_solve_7 : decode cX8_solve 7 = .ok (.aload_n 0, 1) := by decide +kernel
theorem dX8_solve_8 : decode cX8_solve 8 = .ok (.iload_n 3, 1) := by decide +kernel
theorem dX8_solve_9 : decode cX8_solve 9 = .ok (.invokevirtual 103, 3) := by decide +kernel
theorem dX8_solve_12 : decode cX8_solve 12 = .ok (.astore 7, 2) := by decide +kernel
theorem dX8_solve_14 : decode cX8_solve 14 = .ok (.aload 6, 2) := by decide +kernel
theorem dX8_solve_16 : decode cX8_solve 16 = .ok (.ifnull 19, 3) := by decide +kernel
theorem dX8_solve_19 : decode cX8_solve 19 = .ok (.aload 7, 2) := by decide +kernel
theorem dX8_solve_21 : decode cX8_solve 21 = .ok (.ifnull 14, 3) := by decide +kernel
theorem dX8_solve_24 : decode cX8_solve 24 = .ok (.iload_n 2, 1) := by decide +kernel
theorem dX8_solve_25 : decode cX8_solve 25 = .ok (.aload_n 0, 1) := by decide +kernel
theorem dX8_solve_26 : decode cX8_solve 26 = .ok (.getfield 13, 3) := by decide +kernel
theorem dX8_solve_29 : decode cX8_solve 29 = .ok (.invokestatic 97, 3) := by decide +kernel
theorem dX8_solve_32 : decode cX8_solve 32 = .ok (.ifCond .ne 5, 3) := by decide +kernel
theorem dX8_solve_35 : decode cX8_solve 35 = .ok (.iconst (-1), 1) := by decide +kernel
theorem dX8_solve_36 : decode cX8_solve 36 = .ok (.ireturn, 1) := by decide +kernel
theorem dX8_solve_37 : decode cX8_solve 37 = .ok (.iload 4, 2) := by decide +kernel
theorem dX8_solve_39 : decode cX8_solve 39 = .ok (.ifCond .lt 24, 3) := by decide +kernel
theorem dX8_solve_42 : decode cX8_solve 42 = .ok (.iload 4, 2) := by decide +kernel
theorem dX8_solve_44 : decode cX8_solve 44 = .ok (.sipush 400, 3) := by decide +kernel
theorem dX8_solve_47 : decode cX8_solve 47 = .ok (.if_icmp .gt 16, 3) := by decide +kernel
theorem dX8_solve_50 : decode cX8_solve 50 = .ok (.iload 5, 2) := by decide +kernel
theorem dX8_solve_52 : decode cX8_solve 52 = .ok (.iconst (-1), 1) := by decide +kernel
theorem dX8_solve_53 : decode cX8_solve 53 = .ok (.if_icmp .lt 10, 3) := by decide +kernel
theorem dX8_solve_56 : decode cX8_solve 56 = .ok (.iload 5, 2) := by decide +kernel
theorem dX8_solve_58 : decode cX8_solve 58 = .ok (.bipush 8, 2) := by decide +kernel
theorem dX8_solve_60 : decode cX8_solve 60 = .ok (.if_icmp .lt 5, 3) := by decide +kernel
theorem dX8_solve_63 : decode cX8_solve 63 = .ok (.iconst (-1), 1) := by decide +kernel
theorem dX8_solve_64 : decode cX8_solve 64 = .ok (.ireturn, 1) := by decide +kernel
theorem dX8_solve_65 : decode cX8_solve 65 = .ok (.iconst 0, 1) := by decide +kernel
theorem dX8_solve_66 : decode cX8_solve 66 = .ok (.istore 8, 2) := by decide +kernel
theorem dX8_solve_68 : decode cX8_solve 68 = .ok (.iload 8, 2) := by decide +kernel
theorem dX8_solve_70 : decode cX8_solve 70 = .ok (.bipush 60, 2) := by decide +kernel
theorem dX8_solve_72 : decode cX8_solve 72 = .ok (.if_icmp .gt 93, 3) := by decide +kernel
theorem dX8_solve_75 : decode cX8_solve 75 = .ok (.aload_n 0, 1) := by decide +kernel
theorem dX8_solve_76 : decode cX8_solve 76 = .ok (.getfield 65, 3) := by decide +kernel
theorem dX8_solve_79 : decode cX8_solve 79 = .ok (.aload_n 0, 1) := by decide +kernel
theorem dX8_solve_80 : decode cX8_solve 80 = .ok (.getfield 9, 3) := by decide +kernel
theorem dX8_solve_83 : decode cX8_solve 83 = .ok (.iload_n 2, 1) := by decide +kernel
theorem dX8_solve_84 : decode cX8_solve 84 = .ok (.aload 7, 2) := by decide +kernel
theorem dX8_solve_86 : decode cX8_solve 86 = .ok (.getfield 110, 3) := by decide +kernel
theorem dX8_solve_89 : decode cX8_solve 89 = .ok (.aload 7, 2) := by decide +kernel
theorem dX8_solve_91 : decode cX8_solve 91 = .ok (.getfield 134, 3) := by decide +kernel
theorem dX8_solve_94 : decode cX8_solve 94 = .ok (.invokevirtual 137, 3) := by decide +kernel
theorem dX8_solve_97 : decode cX8_solve 97 = .ok (.aload_n 0, 1) := by decide +kernel
theorem dX8_solve_98 : decode cX8_solve 98 = .ok (.getfield 54, 3) := by decide +kernel
theorem dX8_solve_101 : decode cX8_solve 101 = .ok (.aload 6, 2) := by decide +kernel
theorem dX8_solve_103 : decode cX8_solve 103 = .ok (.aload_n 0, 1) := by decide +kernel
theorem dX8_solve_104 : decode cX8_solve 104 = .ok (.getfield 65, 3) := by decide +kernel
theorem dX8_solve_107 : decode cX8_solve 107 = .ok (.iload 8, 2) := by decide +kernel
theorem dX8_solve_109 : decode cX8_solve 109 = .ok (.invokevirtual 141, 3) := by decide +kernel
theorem dX8_solve_112 : decode cX8_solve 112 = .ok (.aload_n 0, 1) := by decide +kernel
theorem dX8_solve_113 : decode cX8_solve 113 = .ok (.getfield 65, 3) := by decide +kernel
theorem dX8_solve_116 : decode cX8_solve 116 = .ok (.getfield 148, 3) := by decide +kernel
theorem dX8_solve_119 : decode cX8_solve 119 = .ok (.ifCond .ne 40, 3) := by decide +kernel
theorem dX8_solve_122 : decode cX8_solve 122 = .ok (.aload_n 0, 1) := by decide +kernel
theorem dX8_solve_123 : decode cX8_solve 123 = .ok (.getfield 65, 3) := by decide +kernel
theorem dX8_solve_126 : decode cX8_solve 126 = .ok (.invokevirtual 228, 3) := by decide +kernel
theorem dX8_solve_129 : decode cX8_solve 129 = .ok (.iload 4, 2) := by decide +kernel
theorem dX8_solve_131 : decode cX8_solve 131 = .ok (.if_icmp .gt 28, 3) := by decide +kernel
theorem dX8_solve_134 : decode cX8_solve 134 = .ok (.aload_n 0, 1) := by decide +kernel
theorem dX8_solve_135 : decode cX8_solve 135 = .ok (.getfield 65, 3) := by decide +kernel
theorem dX8_solve_138 : decode cX8_solve 138 = .ok (.getfield 232, 3) := by decide +kernel
theorem dX8_solve_141 : decode cX8_solve 141 = .ok (.ifCond .eq 18, 3) := by decide +kernel
theorem dX8_solve_144 : decode cX8_solve 144 = .ok (.aload_n 0, 1) := by decide +kernel
theorem dX8_solve_145 : decode cX8_solve 145 = .ok (.getfield 65, 3) := by decide +kernel
theorem dX8_solve_148 : decode cX8_solve 148 = .ok (.getfield 235, 3) := by decide +kernel
theorem dX8_solve_151 : decode cX8_solve 151 = .ok (.iload 5, 2) := by decide +kernel
theorem dX8_solve_153 : decode cX8_solve 153 = .ok (.if_icmp .ne 6, 3) := by decide +kernel
theorem dX8_solve_156 : decode cX8_solve 156 = .ok (.iload 8, 2) := by decide +kernel
theorem dX8_solve_158 : decode cX8_solve 158 = .ok (.ireturn, 1) := by decide +kernel
theorem dX8_solve_159 : decode cX8_solve 159 = .ok (.iinc 8 1, 3) := by decide +kernel
theorem dX8_solve_162 : decode cX8_solve 162 = .ok (.goto (-94), 3) := by decide +kernel
theorem dX8_solve_165 : decode cX8_solve 165 = .ok (.iconst (-1), 1) := by decide +kernel
theorem dX8_solve_166 : decode cX8_solve 166 = .ok (.ireturn, 1) := by decide +kernel
theorem dX8_read_0 : decode cX8_read 0 = .ok (.aload_n 0, 1) := by decide +kernel
theorem dX8_read_1 : decode cX8_read 1 = .ok (.iload_n 2, 1) := by decide +kernel
theorem dX8_read_2 : decode cX8_read 2 = .ok (.invokevirtual 103, 3) := by decide +kernel
theorem dX8_read_5 : decode cX8_read 5 = .ok (.astore_n 3, 1) := by decide +kernel
theorem dX8_read_6 : decode cX8_read 6 = .ok (.aload_n 3, 1) := by decide +kernel
theorem dX8_read_7 : decode cX8_read 7 = .ok (.ifnull 23, 3) := by decide +kernel
theorem dX8_read_10 : decode cX8_read 10 = .ok (.iload_n 1, 1) := by decide +kernel
theorem dX8_read_11 : decode cX8_read 11 = .ok (.aload_n 0, 1) := by decide +kernel
theorem dX8_read_12 : decode cX8_read 12 = .ok (.getfield 13, 3) := by decide +kernel
theorem dX8_read_15 : decode cX8_read 15 = .ok (.invokestatic 97, 3) := by decide +kernel
theorem dX8_read_18 : decode cX8_read 18 = .ok (.ifCond .eq 12, 3) := by decide +kernel
theorem dX8_read_21 : decode cX8_read 21 = .ok (.aload_n 0, 1) := by decide +kernel
theorem dX8_read_22 : decode cX8_read 22 = .ok (.getfield 38, 3) := by decide +kernel
theorem dX8_read_25 : decode cX8_read 25 = .ok (.bipush 64, 2) := by decide +kernel
theorem dX8_read_27 : decode cX8_read 27 = .ok (.if_icmp .ge 5, 3) := by decide +kernel
theorem dX8_read_30 : decode cX8_read 30 = .ok (.iconst (-1), 1) := by decide +kernel
theorem dX8_read_31 : decode cX8_read 31 = .ok (.ireturn, 1) := by decide +kernel
theorem dX8_read_32 : decode cX8_read 32 = .ok (.aload_n 0, 1) := by decide +kernel
theorem dX8_read_33 : decode cX8_read 33 = .ok (.iconst 0, 1) := by decide +kernel
theorem dX8_read_34 : decode cX8_read 34 = .ok (.putfield 38, 3) := by decide +kernel
theorem dX8_read_37 : decode cX8_read 37 = .ok (.aload_n 0, 1) := by decide +kernel
theorem dX8_read_38 : decode cX8_read 38 = .ok (.getfield 78, 3) := by decide +kernel
theorem dX8_read_41 : decode cX8_read 41 = .ok (.aload_n 0, 1) := by decide +kernel
theorem dX8_read_42 : decode cX8_read 42 = .ok (.getfield 35, 3) := by decide +kernel
theorem dX8_read_45 : decode cX8_read 45 = .ok (.invokevirtual 238, 3) := by decide +kernel
theorem dX8_read_48 : decode cX8_read 48 = .ok (.ifCond .ne 5, 3) := by decide +kernel
theorem dX8_read_51 : decode cX8_read 51 = .ok (.iconst (-1), 1) := by decide +kernel
theorem dX8_read_52 : decode cX8_read 52 = .ok (.ireturn, 1) := by decide +kernel
theorem dX8_read_53 : decode cX8_read 53 = .ok (.aload_n 0, 1) := by decide +kernel
theorem dX8_read_54 : decode cX8_read 54 = .ok (.getfield 65, 3) := by decide +kernel
theorem dX8_read_57 : decode cX8_read 57 = .ok (.aload_n 0, 1) := by decide +kernel
theorem dX8_read_58 : decode cX8_read 58 = .ok (.getfield 9, 3) := by decide +kernel
theorem dX8_read_61 : decode cX8_read 61 = .ok (.iload_n 1, 1) := by decide +kernel
theorem dX8_read_62 : decode cX8_read 62 = .ok (.aload_n 3, 1) := by decide +kernel
theorem dX8_read_63 : decode cX8_read 63 = .ok (.getfield 110, 3) := by decide +kernel
theorem dX8_read_66 : decode cX8_read 66 = .ok (.aload_n 3, 1) := by decide +kernel
theorem dX8_read_67 : decode cX8_read 67 = .ok (.getfield 134, 3) := by decide +kernel
theorem dX8_read_70 : decode cX8_read 70 = .ok (.invokevirtual 137, 3) := by decide +kernel
theorem dX8_read_73 : decode cX8_read 73 = .ok (.aload_n 0, 1) := by decide +kernel
theorem dX8_read_74 : decode cX8_read 74 = .ok (.getfield 78, 3) := by decide +kernel
theorem dX8_read_77 : decode cX8_read 77 = .ok (.aload_n 0, 1) := by decide +kernel
theorem dX8_read_78 : decode cX8_read 78 = .ok (.getfield 65, 3) := by decide +kernel
theorem dX8_read_81 : decode cX8_read 81 = .ok (.aload_n 3, 1) := by decide +kernel
theorem dX8_read_82 : decode cX8_read 82 = .ok (.invokevirtual 242, 3) := by decide +kernel
theorem dX8_read_85 : decode cX8_read 85 = .ok (.ireturn, 1) := by decide +kernel
theorem dX8_wrote_0 : decode cX8_wrote 0 = .ok (.iload_n 1, 1) := by decide +kernel
theorem dX8_wrote_1 : decode cX8_wrote 1 = .ok (.aload_n 0, 1) := by decide +kernel
theorem dX8_wrote_2 : decode cX8_wrote 2 = .ok (.getfield 78, 3) := by decide +kernel
theorem dX8_wrote_5 : decode cX8_wrote 5 = .ok (.getfield 246, 3) := by decide +kernel
theorem dX8_wrote_8 : decode cX8_wrote 8 = .ok (.invokestatic 97, 3) := by decide +kernel
theorem dX8_wrote_11 : decode cX8_wrote 11 = .ok (.ifCond .eq 20, 3) := by decide +kernel
theorem dX8_wrote_14 : decode cX8_wrote 14 = .ok (.iload_n 1, 1) := by decide +kernel
theorem dX8_wrote_15 : decode cX8_wrote 15 = .ok (.iconst 4, 1) := by decide +kernel
theorem dX8_wrote_16 : decode cX8_wrote 16 = .ok (.if_icmp .ge 15, 3) := by decide +kernel
theorem dX8_wrote_19 : decode cX8_wrote 19 = .ok (.aload_n 0, 1) := by decide +kernel
theorem dX8_wrote_20 : decode cX8_wrote 20 = .ok (.getfield 78, 3) := by decide +kernel
theorem dX8_wrote_23 : decode cX8_wrote 23 = .ok (.getfield 249, 3) := by decide +kernel
theorem dX8_wrote_26 : decode cX8_wrote 26 = .ok (.iload_n 1, 1) := by decide +kernel
theorem dX8_wrote_27 : decode cX8_wrote 27 = .ok (.iaload, 1) := by decide +kernel
theorem dX8_wrote_28 : decode cX8_wrote 28 = .ok (.goto 4, 3) := by decide +kernel
theorem dX8_wrote_31 : decode cX8_wrote 31 = .ok (.iconst (-1), 1) := by decide +kernel
theorem dX8_wrote_32 : decode cX8_wrote 32 = .ok (.ireturn, 1) := by decide +kernel
theorem dX8_count_0 : decode cX8_count 0 = .ok (.iload_n 1, 1) := by decide +kernel
theorem dX8_count_1 : decode cX8_count 1 = .ok (.sipush 200, 3) := by decide +kernel
theorem dX8_count_4 : decode cX8_count 4 = .ok (.if_icmp .lt 26, 3) := by decide +kernel
theorem dX8_count_7 : decode cX8_count 7 = .ok (.aload_n 0, 1) := by decide +kernel
theorem dX8_count_8 : decode cX8_count 8 = .ok (.iload_n 1, 1) := by decide +kernel
theorem dX8_count_9 : decode cX8_count 9 = .ok (.sipush 200, 3) := by decide +kernel
theorem dX8_count_12 : decode cX8_count 12 = .ok (.isub, 1) := by decide +kernel
theorem dX8_count_13 : decode cX8_count 13 = .ok (.invokevirtual 130, 3) := by decide +kernel
theorem dX8_count_16 : decode cX8_count 16 = .ok (.astore_n 2, 1) := by decide +kernel
theorem dX8_count_17 : decode cX8_count 17 = .ok (.aload_n 2, 1) := by decide +kernel
theorem dX8_count_18 : decode cX8_count 18 = .ok (.ifnonnull 7, 3) := by decide +kernel
theorem dX8_count_21 : decode cX8_count 21 = .ok (.iconst (-1), 1) := by decide +kernel
theorem dX8_count_22 : decode cX8_count 22 = .ok (.goto 7, 3) := by decide +kernel
theorem dX8_count_25 : decode cX8_count 25 = .ok (.aload_n 2, 1) := by decide +kernel
theorem dX8_count_26 : decode cX8_count 26 = .ok (.getfield 252, 3) := by decide +kernel
theorem dX8_count_29 : decode cX8_count 29 = .ok (.ireturn, 1) := by decide +kernel
theorem dX8_count_30 : decode cX8_count 30 = .ok (.iload_n 1, 1) := by decide +kernel
theorem dX8_count_31 : decode cX8_count 31 = .ok (.bipush 100, 2) := by decide +kernel
theorem dX8_count_33 : decode cX8_count 33 = .ok (.if_icmp .lt 35, 3) := by decide +kernel
theorem dX8_count_36 : decode cX8_count 36 = .ok (.aload_n 0, 1) := by decide +kernel
theorem dX8_count_37 : decode cX8_count 37 = .ok (.iload_n 1, 1) := by decide +kernel
theorem dX8_count_38 : decode cX8_count 38 = .ok (.bipush 100, 2) := by decide +kernel
theorem dX8_count_40 : decode cX8_count 40 = .ok (.isub, 1) := by decide +kernel
theorem dX8_count_41 : decode cX8_count 41 = .ok (.bipush 10, 2) := by decide +kernel
theorem dX8_count_43 : decode cX8_count 43 = .ok (.idiv, 1) := by decide +kernel
theorem dX8_count_44 : decode cX8_count 44 = .ok (.invokevirtual 103, 3) := by decide +kernel
theorem dX8_count_47 : decode cX8_count 47 = .ok (.astore_n 2, 1) := by decide +kernel
theorem dX8_count_48 : decode cX8_count 48 = .ok (.aload_n 2, 1) := by decide +kernel
theorem dX8_count_49 : decode cX8_count 49 = .ok (.ifnonnull 7, 3) := by decide +kernel
theorem dX8_count_52 : decode cX8_count 52 = .ok (.iconst (-1), 1) := by decide +kernel
theorem dX8_count_53 : decode cX8_count 53 = .ok (.goto 14, 3) := by decide +kernel
theorem dX8_count_56 : decode cX8_count 56 = .ok (.aload_n 2, 1) := by decide +kernel
theorem dX8_count_57 : decode cX8_count 57 = .ok (.iload_n 1, 1) := by decide +kernel
theorem dX8_count_58 : decode cX8_count 58 = .ok (.bipush 100, 2) := by decide +kernel
theorem dX8_count_60 : decode cX8_count 60 = .ok (.isub, 1) := by decide +kernel
theorem dX8_count_61 : decode cX8_count 61 = .ok (.bipush 10, 2) := by decide +kernel
theorem dX8_count_63 : decode cX8_count 63 = .ok (.irem, 1) := by decide +kernel
theorem dX8_count_64 : decode cX8_count 64 = .ok (.invokevirtual 255, 3) := by decide +kernel
theorem dX8_count_67 : decode cX8_count 67 = .ok (.ireturn, 1) := by decide +kernel
theorem dX8_count_68 : decode cX8_count 68 = .ok (.iload_n 1, 1) := by decide +kernel
theorem dX8_count_69 : decode cX8_count 69 = .ok (.bipush 10, 2) := by decide +kernel
theorem dX8_count_71 : decode cX8_count 71 = .ok (.if_icmp .lt 34, 3) := by decide +kernel
theorem dX8_count_74 : decode cX8_count 74 = .ok (.iload_n 1, 1) := by decide +kernel
theorem dX8_count_75 : decode cX8_count 75 = .ok (.bipush 10, 2) := by decide +kernel
theorem dX8_count_77 : decode cX8_count 77 = .ok (.isub, 1) := by decide +kernel
theorem dX8_count_78 : decode cX8_count 78 = .ok (.aload_n 0, 1) := by decide +kernel
theorem dX8_count_79 : decode cX8_count 79 = .ok (.getfield 13, 3) := by decide +kernel
theorem dX8_count_82 : decode cX8_count 82 = .ok (.bipush 8, 2) := by decide +kernel
theorem dX8_count_84 : decode cX8_count 84 = .ok (.imul, 1) := by decide +kernel
theorem dX8_count_85 : decode cX8_count 85 = .ok (.invokestatic 97, 3) := by decide +kernel
theorem dX8_count_88 : decode cX8_count 88 = .ok (.ifCond .eq 15, 3) := by decide +kernel
theorem dX8_count_91 : decode cX8_count 91 = .ok (.aload_n 0, 1) := by decide +kernel
theorem dX8_count_92 : decode cX8_count 92 = .ok (.getfield 9, 3) := by decide +kernel
theorem dX8_count_95 : decode cX8_count 95 = .ok (.iload_n 1, 1) := by decide +kernel
theorem dX8_count_96 : decode cX8_count 96 = .ok (.bipush 10, 2) := by decide +kernel
theorem dX8_count_98 : decode cX8_count 98 = .ok (.isub, 1) := by decide +kernel
theorem dX8_count_99 : decode cX8_count 99 = .ok (.iaload, 1) := by decide +kernel
theorem dX8_count_100 : decode cX8_count 100 = .ok (.goto 4, 3) := by decide +kernel
theorem dX8_count_103 : decode cX8_count 103 = .ok (.iconst (-1), 1) := by decide +kernel
theorem dX8_count_104 : decode cX8_count 104 = .ok (.ireturn, 1) := by decide +kernel
theorem dX8_count_105 : decode cX8_count 105 = .ok (.iload_n 1, 1) := by decide +kernel
theorem dX8_count_106 : decode cX8_count 106 = .ok (.tableswitch 50 0 3 #[30, 35, 40, 45], 30) := by decide +kernel
theorem dX8_count_136 : decode cX8_count 136 = .ok (.aload_n 0, 1) := by decide +kernel
theorem dX8_count_137 : decode cX8_count 137 = .ok (.getfield 13, 3) := by decide +kernel
theorem dX8_count_140 : decode cX8_count 140 = .ok (.ireturn, 1) := by decide +kernel
theorem dX8_count_141 : decode cX8_count 141 = .ok (.aload_n 0, 1) := by decide +kernel
theorem dX8_count_142 : decode cX8_count 142 = .ok (.getfield 23, 3) := by decide +kernel
theorem dX8_count_145 : decode cX8_count 145 = .ok (.ireturn, 1) := by decide +kernel
theorem dX8_count_146 : decode cX8_count 146 = .ok (.aload_n 0, 1) := by decide +kernel
theorem dX8_count_147 : decode cX8_count 147 = .ok (.getfield 32, 3) := by decide +kernel
theorem dX8_count_150 : decode cX8_count 150 = .ok (.ireturn, 1) := by decide +kernel
theorem dX8_count_151 : decode cX8_count 151 = .ok (.aload_n 0, 1) := by decide +kernel
theorem dX8_count_152 : decode cX8_count 152 = .ok (.getfield 38, 3) := by decide +kernel
theorem dX8_count_155 : decode cX8_count 155 = .ok (.ireturn, 1) := by decide +kernel
theorem dX8_count_156 : decode cX8_count 156 = .ok (.iconst (-1), 1) := by decide +kernel
theorem dX8_count_157 : decode cX8_count 157 = .ok (.ireturn, 1) := by decide +kernel
theorem dX8_within_0 : decode cX8_within 0 = .ok (.iload_n 0, 1) := by decide +kernel
theorem dX8_within_1 : decode cX8_within 1 = .ok (.ifCond .lt 12, 3) := by decide +kernel
theorem dX8_within_4 : decode cX8_within 4 = .ok (.iload_n 0, 1) := by decide +kernel
theorem dX8_within_5 : decode cX8_within 5 = .ok (.iload_n 1, 1) := by decide +kernel
theorem dX8_within_6 : decode cX8_within 6 = .ok (.if_icmp .ge 7, 3) := by decide +kernel
theorem dX8_within_9 : decode cX8_within 9 = .ok (.iconst 1, 1) := by decide +kernel
theorem dX8_within_10 : decode cX8_within 10 = .ok (.goto 4, 3) := by decide +kernel
theorem dX8_within_13 : decode cX8_within 13 = .ok (.iconst 0, 1) := by decide +kernel
theorem dX8_within_14 : decode cX8_within 14 = .ok (.ireturn, 1) := by decide +kernel
theorem dX8_isWidth_0 : decode cX8_isWidth 0 = .ok (.iload_n 0, 1) := by decide +kernel
theorem dX8_isWidth_1 : decode cX8_isWidth 1 = .ok (.iconst 1, 1) := by decide +kernel
theorem dX8_isWidth_2 : decode cX8_isWidth 2 = .ok (.if_icmp .lt 13, 3) := by decide +kernel
theorem dX8_isWidth_5 : decode cX8_isWidth 5 = .ok (.iload_n 0, 1) := by decide +kernel
theorem dX8_isWidth_6 : decode cX8_isWidth 6 = .ok (.bipush 9, 2) := by decide +kernel
theorem dX8_isWidth_8 : decode cX8_isWidth 8 = .ok (.if_icmp .gt 7, 3) := by decide +kernel
theorem dX8_isWidth_11 : decode cX8_isWidth 11 = .ok (.iconst 1, 1) := by decide +kernel
theorem dX8_isWidth_12 : decode cX8_isWidth 12 = .ok (.goto 4, 3) := by decide +kernel
theorem dX8_isWidth_15 : decode cX8_isWidth 15 = .ok (.iconst 0, 1) := by decide +kernel
theorem dX8_isWidth_16 : decode cX8_isWidth 16 = .ok (.ireturn, 1) := by decide +kernel
theorem dX8_isHeight_0 : decode cX8_isHeight 0 = .ok (.iload_n 0, 1) := by decide +kernel
theorem dX8_isHeight_1 : decode cX8_isHeight 1 = .ok (.iconst 1, 1) := by decide +kernel
theorem dX8_isHeight_2 : decode cX8_isHeight 2 = .ok (.if_icmp .lt 12, 3) := by decide +kernel
theorem dX8_isHeight_5 : decode cX8_isHeight 5 = .ok (.iload_n 0, 1) := by decide +kernel
theorem dX8_isHeight_6 : decode cX8_isHeight 6 = .ok (.iconst 4, 1) := by decide +kernel
theorem dX8_isHeight_7 : decode cX8_isHeight 7 = .ok (.if_icmp .gt 7, 3) := by decide +kernel
theorem dX8_isHeight_10 : decode cX8_isHeight 10 = .ok (.iconst 1, 1) := by decide +kernel
theorem dX8_isHeight_11 : decode cX8_isHeight 11 = .ok (.goto 4, 3) := by decide +kernel
theorem dX8_isHeight_14 : decode cX8_isHeight 14 = .ok (.iconst 0, 1) := by decide +kernel
theorem dX8_isHeight_15 : decode cX8_isHeight 15 = .ok (.ireturn, 1) := by decide +kernel
theorem dX8_isPlace_0 : decode cX8_isPlace 0 = .ok (.iload_n 0, 1) := by decide +kernel
theorem dX8_isPlace_1 : decode cX8_isPlace 1 = .ok (.bipush 8, 2) := by decide +kernel
theorem dX8_isPlace_3 : decode cX8_isPlace 3 = .ok (.invokestatic 97, 3) := by decide +kernel
theorem dX8_isPlace_6 : decode cX8_isPlace 6 = .ok (.ifCond .eq 16, 3) := by decide +kernel
theorem dX8_isPlace_9 : decode cX8_isPlace 9 = .ok (.iload_n 1, 1) := by decide +kernel
theorem dX8_isPlace_10 : decode cX8_isPlace 10 = .ok (.bipush 8, 2) := by decide +kernel
theorem dX8_isPlace_12 : decode cX8_isPlace 12 = .ok (.invokestatic 97, 3) := by decide +kernel
theorem dX8_isPlace_15 : decode cX8_isPlace 15 = .ok (.ifCond .eq 7, 3) := by decide +kernel
theorem dX8_isPlace_18 : decode cX8_isPlace 18 = .ok (.iconst 1, 1) := by decide +kernel
theorem dX8_isPlace_19 : decode cX8_isPlace 19 = .ok (.goto 4, 3) := by decide +kernel
theorem dX8_isPlace_22 : decode cX8_isPlace 22 = .ok (.iconst 0, 1) := by decide +kernel
theorem dX8_isPlace_23 : decode cX8_isPlace 23 = .ok (.ireturn, 1) := by decide +kernel
theorem dX8_setWidth_0 : decode cX8_setWidth 0 = .ok (.aload_n 0, 1) := by decide +kernel
theorem dX8_setWidth_1 : decode cX8_setWidth 1 = .ok (.getfield 13, 3) := by decide +kernel
theorem dX8_setWidth_4 : decode cX8_setWidth 4 = .ok (.bipush 8, 2) := by decide +kernel
theorem dX8_setWidth_6 : decode cX8_setWidth 6 = .ok (.imul, 1) := by decide +kernel
theorem dX8_setWidth_7 : decode cX8_setWidth 7 = .ok (.iload_n 1, 1) := by decide +kernel
theorem dX8_setWidth_8 : decode cX8_setWidth 8 = .ok (.iadd, 1) := by decide +kernel
theorem dX8_setWidth_9 : decode cX8_setWidth 9 = .ok (.istore_n 3, 1) := by decide +kernel
theorem dX8_setWidth_10 : decode cX8_setWidth 10 = .ok (.iload_n 3, 1) := by decide +kernel
theorem dX8_setWidth_11 : decode cX8_setWidth 11 = .ok (.aload_n 0, 1) := by decide +kernel
theorem dX8_setWidth_12 : decode cX8_setWidth 12 = .ok (.getfield 9, 3) := by decide +kernel
theorem dX8_setWidth_15 : decode cX8_setWidth 15 = .ok (.arraylength, 1) := by decide +kernel
theorem dX8_setWidth_16 : decode cX8_setWidth 16 = .ok (.invokestatic 97, 3) := by decide +kernel
theorem dX8_setWidth_19 : decode cX8_setWidth 19 = .ok (.ifCond .eq 10, 3) := by decide +kernel
theorem dX8_setWidth_22 : decode cX8_setWidth 22 = .ok (.aload_n 0, 1) := by decide +kernel
theorem dX8_setWidth_23 : decode cX8_setWidth 23 = .ok (.getfield 9, 3) := by decide +kernel
theorem dX8_setWidth_26 : decode cX8_setWidth 26 = .ok (.iload_n 3, 1) := by decide +kernel
theorem dX8_setWidth_27 : decode cX8_setWidth 27 = .ok (.iload_n 2, 1) := by decide +kernel
theorem dX8_setWidth_28 : decode cX8_setWidth 28 = .ok (.iastore, 1) := by decide +kernel
theorem dX8_setWidth_29 : decode cX8_setWidth 29 = .ok (.return_, 1) := by decide +kernel
theorem dX8_clothAt_0 : decode cX8_clothAt 0 = .ok (.iload_n 1, 1) := by decide +kernel
theorem dX8_clothAt_1 : decode cX8_clothAt 1 = .ok (.aload_n 0, 1) := by decide +kernel
theorem dX8_clothAt_2 : decode cX8_clothAt 2 = .ok (.getfield 23, 3) := by decide +kernel
theorem dX8_clothAt_5 : decode cX8_clothAt 5 = .ok (.invokestatic 97, 3) := by decide +kernel
theorem dX8_clothAt_8 : decode cX8_clothAt 8 = .ok (.ifCond .eq 21, 3) := by decide +kernel
theorem dX8_clothAt_11 : decode cX8_clothAt 11 = .ok (.iload_n 1, 1) := by decide +kernel
theorem dX8_clothAt_12 : decode cX8_clothAt 12 = .ok (.aload_n 0, 1) := by decide +kernel
theorem dX8_clothAt_13 : decode cX8_clothAt 13 = .ok (.getfield 19, 3) := by decide +kernel
theorem dX8_clothAt_16 : decode cX8_clothAt 16 = .ok (.arraylength, 1) := by decide +kernel
theorem dX8_clothAt_17 : decode cX8_clothAt 17 = .ok (.if_icmp .ge 12, 3) := by decide +kernel
theorem dX8_clothAt_20 : decode cX8_clothAt 20 = .ok (.aload_n 0, 1) := by decide +kernel
theorem dX8_clothAt_21 : decode cX8_clothAt 21 = .ok (.getfield 19, 3) := by decide +kernel
theorem dX8_clothAt_24 : decode cX8_clothAt 24 = .ok (.iload_n 1, 1) := by decide +kernel
theorem dX8_clothAt_25 : decode cX8_clothAt 25 = .ok (.aaload, 1) := by decide +kernel
theorem dX8_clothAt_26 : decode cX8_clothAt 26 = .ok (.goto 4, 3) := by decide +kernel
theorem dX8_clothAt_29 : decode cX8_clothAt 29 = .ok (.aconst_null, 1) := by decide +kernel
theorem dX8_clothAt_30 : decode cX8_clothAt 30 = .ok (.areturn, 1) := by decide +kernel
theorem dX8_styleAt_0 : decode cX8_styleAt 0 = .ok (.iload_n 1, 1) := by decide +kernel
theorem dX8_styleAt_1 : decode cX8_styleAt 1 = .ok (.aload_n 0, 1) := by decide +kernel
theorem dX8_styleAt_2 : decode cX8_styleAt 2 = .ok (.getfield 32, 3) := by decide +kernel
theorem dX8_styleAt_5 : decode cX8_styleAt 5 = .ok (.invokestatic 97, 3) := by decide +kernel
theorem dX8_styleAt_8 : decode cX8_styleAt 8 = .ok (.ifCond .eq 21, 3) := by decide +kernel
theorem dX8_styleAt_11 : decode cX8_styleAt 11 = .ok (.iload_n 1, 1) := by decide +kernel
theorem dX8_styleAt_12 : decode cX8_styleAt 12 = .ok (.aload_n 0, 1) := by decide +kernel
theorem dX8_styleAt_13 : decode cX8_styleAt 13 = .ok (.getfield 28, 3) := by decide +kernel
theorem dX8_styleAt_16 : decode cX8_styleAt 16 = .ok (.arraylength, 1) := by decide +kernel
theorem dX8_styleAt_17 : decode cX8_styleAt 17 = .ok (.if_icmp .ge 12, 3) := by decide +kernel
theorem dX8_styleAt_20 : decode cX8_styleAt 20 = .ok (.aload_n 0, 1) := by decide +kernel
theorem dX8_styleAt_21 : decode cX8_styleAt 21 = .ok (.getfield 28, 3) := by decide +kernel
theorem dX8_styleAt_24 : decode cX8_styleAt 24 = .ok (.iload_n 1, 1) := by decide +kernel
theorem dX8_styleAt_25 : decode cX8_styleAt 25 = .ok (.aaload, 1) := by decide +kernel
theorem dX8_styleAt_26 : decode cX8_styleAt 26 = .ok (.goto 4, 3) := by decide +kernel
theorem dX8_styleAt_29 : decode cX8_styleAt 29 = .ok (.aconst_null, 1) := by decide +kernel
theorem dX8_styleAt_30 : decode cX8_styleAt 30 = .ok (.areturn, 1) := by decide +kernel
theorem dX8_putOnTape_0 : decode cX8_putOnTape 0 = .ok (.bipush 24, 2) := by decide +kernel
theorem dX8_putOnTape_2 : decode cX8_putOnTape 2 = .ok (.istore_n 2, 1) := by decide +kernel
theorem dX8_putOnTape_3 : decode cX8_putOnTape 3 = .ok (.iload_n 2, 1) := by decide +kernel
theorem dX8_putOnTape_4 : decode cX8_putOnTape 4 = .ok (.ifCond .lt 50, 3) := by decide +kernel
theorem dX8_putOnTape_7 : decode cX8_putOnTape 7 = .ok (.aload_n 0, 1) := by decide +kernel
theorem dX8_putOnTape_8 : decode cX8_putOnTape 8 = .ok (.getfield 38, 3) := by decide +kernel
theorem dX8_putOnTape_11 : decode cX8_putOnTape 11 = .ok (.aload_n 0, 1) := by decide +kernel
theorem dX8_putOnTape_12 : decode cX8_putOnTape 12 = .ok (.getfield 35, 3) := by decide +kernel
theorem dX8_putOnTape_15 : decode cX8_putOnTape 15 = .ok (.arraylength, 1) := by decide +kernel
theorem dX8_putOnTape_16 : decode cX8_putOnTape 16 = .ok (.invokestatic 97, 3) := by decide +kernel
theorem dX8_putOnTape_19 : decode cX8_putOnTape 19 = .ok (.ifCond .eq 29, 3) := by decide +kernel
theorem dX8_putOnTape_22 : decode cX8_putOnTape 22 = .ok (.aload_n 0, 1) := by decide +kernel
theorem dX8_putOnTape_23 : decode cX8_putOnTape 23 = .ok (.getfield 35, 3) := by decide +kernel
theorem dX8_putOnTape_26 : decode cX8_putOnTape 26 = .ok (.aload_n 0, 1) := by decide +kernel
theorem dX8_putOnTape_27 : decode cX8_putOnTape 27 = .ok (.getfield 38, 3) := by decide +kernel
theorem dX8_putOnTape_30 : decode cX8_putOnTape 30 = .ok (.iload_n 1, 1) := by decide +kernel
theorem dX8_putOnTape_31 : decode cX8_putOnTape 31 = .ok (.iload_n 2, 1) := by decide +kernel
theorem dX8_putOnTape_32 : decode cX8_putOnTape 32 = .ok (.iushr, 1) := by decide +kernel
theorem dX8_putOnTape_33 : decode cX8_putOnTape 33 = .ok (.sipush 255, 3) := by decide +kernel
theorem dX8_putOnTape_36 : decode cX8_putOnTape 36 = .ok (.iand, 1) := by decide +kernel
theorem dX8_putOnTape_37 : decode cX8_putOnTape 37 = .ok (.iastore, 1) := by decide +kernel
theorem dX8_putOnTape_38 : decode cX8_putOnTape 38 = .ok (.aload_n 0, 1) := by decide +kernel
theorem dX8_putOnTape_39 : decode cX8_putOnTape 39 = .ok (.dup, 1) := by decide +kernel
theorem dX8_putOnTape_40 : decode cX8_putOnTape 40 = .ok (.getfield 38, 3) := by decide +kernel
theorem dX8_putOnTape_43 : decode cX8_putOnTape 43 = .ok (.iconst 1, 1) := by decide +kernel
theorem dX8_putOnTape_44 : decode cX8_putOnTape 44 = .ok (.iadd, 1) := by decide +kernel
theorem dX8_putOnTape_45 : decode cX8_putOnTape 45 = .ok (.putfield 38, 3) := by decide +kernel
theorem dX8_putOnTape_48 : decode cX8_putOnTape 48 = .ok (.iinc 2 (-8), 3) := by decide +kernel
theorem dX8_putOnTape_51 : decode cX8_putOnTape 51 = .ok (.goto (-48), 3) := by decide +kernel
theorem dX8_putOnTape_54 : decode cX8_putOnTape 54 = .ok (.return_, 1) := by decide +kernel
theorem dX8_allWithin_0 : decode cX8_allWithin 0 = .ok (.iconst 0, 1) := by decide +kernel
theorem dX8_allWithin_1 : decode cX8_allWithin 1 = .ok (.istore_n 3, 1) := by decide +kernel
theorem dX8_allWithin_2 : decode cX8_allWithin 2 = .ok (.iload_n 3, 1) := by decide +kernel
theorem dX8_allWithin_3 : decode cX8_allWithin 3 = .ok (.iload_n 1, 1) := by decide +kernel
theorem dX8_allWithin_4 : decode cX8_allWithin 4 = .ok (.if_icmp .ge 33, 3) := by decide +kernel
theorem dX8_allWithin_7 : decode cX8_allWithin 7 = .ok (.iload_n 3, 1) := by decide +kernel
theorem dX8_allWithin_8 : decode cX8_allWithin 8 = .ok (.aload_n 0, 1) := by decide +kernel
theorem dX8_allWithin_9 : decode cX8_allWithin 9 = .ok (.getfield 35, 3) := by decide +kernel
theorem dX8_allWithin_12 : decode cX8_allWithin 12 = .ok (.arraylength, 1) := by decide +kernel
theorem dX8_allWithin_13 : decode cX8_allWithin 13 = .ok (.if_icmp .ge 24, 3) := by decide +kernel
theorem dX8_allWithin_16 : decode cX8_allWithin 16 = .ok (.aload_n 0, 1) := by decide +kernel
theorem dX8_allWithin_17 : decode cX8_allWithin 17 = .ok (.getfield 35, 3) := by decide +kernel
theorem dX8_allWithin_20 : decode cX8_allWithin 20 = .ok (.iload_n 3, 1) := by decide +kernel
theorem dX8_allWithin_21 : decode cX8_allWithin 21 = .ok (.iaload, 1) := by decide +kernel
theorem dX8_allWithin_22 : decode cX8_allWithin 22 = .ok (.iload_n 2, 1) := by decide +kernel
theorem dX8_allWithin_23 : decode cX8_allWithin 23 = .ok (.invokestatic 97, 3) := by decide +kernel
theorem dX8_allWithin_26 : decode cX8_allWithin 26 = .ok (.ifCond .ne 5, 3) := by decide +kernel
theorem dX8_allWithin_29 : decode cX8_allWithin 29 = .ok (.iconst 0, 1) := by decide +kernel
theorem dX8_allWithin_30 : decode cX8_allWithin 30 = .ok (.ireturn, 1) := by decide +kernel
theorem dX8_allWithin_31 : decode cX8_allWithin 31 = .ok (.iinc 3 1, 3) := by decide +kernel
theorem dX8_allWithin_34 : decode cX8_allWithin 34 = .ok (.goto (-32), 3) := by decide +kernel
theorem dX8_allWithin_37 : decode cX8_allWithin 37 = .ok (.iconst 1, 1) := by decide +kernel
theorem dX8_allWithin_38 : decode cX8_allWithin 38 = .ok (.ireturn, 1) := by decide +kernel
section
variable {d : Nat} {M : gM} {Z : Option Value → gM → Prop} {a0 a1 a2 a3 a4 a5 a6 a7 a8 a9 a10 a11 a12 : Option Value} {v s0 s1 s2 s3 s4 s5 s6 s7 s8 s9 s10 s11 : Value} {x y w : Int32} {o b u1 u2 : Nat}
/-! 101: X8_slipped (I)I -/
theorem gd101 {pc : Nat} {r : Except _ _} (h : decode cX8_slipped pc = r) : decode (gby 101) pc = r := h
theorem z101_0 : Run d 101 0 [a0, some (.int x)] [] M 0 0 Z ↔ Run d 101 1 [a0, some (.int x)] [.int x] M 0 0 Z := R_local (gd101 dX8_slipped_0) rfl rfl rfl
theorem z101_1 : Run d 101 1 [some (.ref o), a1] [s0] M 0 0 Z ↔ Run d 101 2 [some (.ref o), a1] [.ref o, s0] M 0 0 Z := R_local (gd101 dX8_slipped_1) rfl rfl rfl
theorem z101_2 : Run d 101 2 [a0, a1] [.ref o, s0] M 0 0 Z ↔ gObj M o 8 ∧ Run d 101 5 [a0, a1] [va_rf (M.2.1 o 13), s0] M 0 0 Z := R_getR (gd101 dX8_slipped_2) rfl gf_8_71 rfl
theorem z101_5 : Run d 101 5 [a0, a1] [.ref o, s0] M 0 0 Z ↔ gObj M o 3 ∧ Run d 101 8 [a0, a1] [.int (M.1 o 4), s0] M 0 0 Z := R_getI (gd101 dX8_slipped_5) rfl gf_8_204 rfl
theorem z101_8 : Run d 101 8 [a0, a1] [s1, s0] M 0 0 Z ↔ Call d 110 [s0, s1] M (fun r M1 => Run d 101 11 [a0, a1] (r.toList ++ []) M1 0 0 Z) := R_call (gd101 dX8_slipped_8) rfl rfl rfl rfl rfl rfl gc_8_97 rfl (by decide) (Nat.le_of_ble_eq_true rfl) (Nat.le_of_ble_eq_true rfl) rfl rfl rfl (Nat.le_of_ble_eq_true rfl) (Nat.le_of_ble_eq_true rfl)
theorem z101_11 : Run d 101 11 [a0, a1] [.int x] M 0 0 Z ↔ (x = 0 → Run d 101 33 [a0, a1] [] M 0 0 Z) ∧ (¬ (x = 0) → Run d 101 14 [a0, a1] [] M 0 0 Z) := R_if (gd101 dX8_slipped_11) (show gTgt 11 22 = some 33 by decide) gIf_eq
theorem z101_14 : Run d 101 14 [a0, some (.int x)] [] M 0 0 Z ↔ Run d 101 15 [a0, some (.int x)] [.int x] M 0 0 Z := R_local (gd101 dX8_slipped_14) rfl rfl rfl
theorem z101_15 : Run d 101 15 [a0, a1] [s0] M 0 0 Z ↔ Run d 101 18 [a0, a1] [.int 400, s0] M 0 0 Z := R_sipush (gd101 dX8_slipped_15) (by decide)
theorem z101_18 : Run d 101 18 [a0, a1] [.int y, .int x] M 0 0 Z ↔ (y ≤ x → Run d 101 33 [a0, a1] [] M 0 0 Z) ∧ (¬ (y ≤ x) → Run d 101 21 [a0, a1] [] M 0 0 Z) := R_icmp (gd101 dX8_slipped_18) (show gTgt 18 15 = some 33 by decide) gIf_ge
theorem z101_21 : Run d 101 21 [some (.ref o), a1] [] M 0 0 Z ↔ Run d 101 22 [some (.ref o), a1] [.ref o] M 0 0 Z := R_local (gd101 dX8_slipped_21) rfl rfl rfl
theorem z101_22 : Run d 101 22 [a0, a1] [.ref o] M 0 0 Z ↔ gObj M o 8 ∧ Run d 101 25 [a0, a1] [va_rf (M.2.1 o 13)] M 0 0 Z := R_getR (gd101 dX8_slipped_22) rfl gf_8_71 rfl
theorem z101_25 : Run d 101 25 [a0, a1] [.ref o] M 0 0 Z ↔ gObj M o 3 ∧ Run d 101 28 [a0, a1] [va_rf (M.2.1 o 3)] M 0 0 Z := R_getR (gd101 dX8_slipped_25) rfl gf_8_207 rfl
theorem z101_28 : Run d 101 28 [a0, some (.int x)] [s0] M 0 0 Z ↔ Run d 101 29 [a0, some (.int x)] [.int x, s0] M 0 0 Z := R_local (gd101 dX8_slipped_28) rfl rfl rfl
theorem z101_29 : Run d 101 29 [a0, a1] [.int x, .ref o] M 0 0 Z ↔ gAr M o 0 ∧ gIn x (gLen M o) = true ∧ Run d 101 30 [a0, a1] [.int (M.1 o x.toNatClampNeg)] M 0 0 Z := R_iald (gd101 dX8_slipped_29)
theorem z101_30 : Run d 101 30 [a0, a1] [s0] M 0 0 Z ↔ Run d 101 34 [a0, a1] [s0] M 0 0 Z := R_goto (gd101 dX8_slipped_30) (show gTgt 30 4 = some 34 by decide)
theorem z101_33 : Run d 101 33 [a0, a1] [] M 0 0 Z ↔ Run d 101 34 [a0, a1] [.int (-1)] M 0 0 Z := R_iconst (gd101 dX8_slipped_33) (by decide)
theorem z101_34 : Run d 101 34 [a0, a1] [.int x] M 0 0 Z ↔ Z (some (.int x)) M := R_iret (gd101 dX8_slipped_34) rfl
theorem e101 : Call (d + 1) 101 [s0, s1] M Z ↔ Run d 101 0 [some s0, some s1] [] M 0 0 Z := Call_iff (Nat.lt_of_lt_of_le (Nat.lt_succ_self 101) (Nat.le_of_ble_eq_true rfl)) (Nat.le_of_ble_eq_true rfl)
/-! 102: X8_after (II)I -/
theorem gd102 {pc : Nat} {r : Except _ _} (h : decode cX8_after pc = r) : decode (gby 102) pc = r := h
theorem z102_0 : Run d 102 0 [some (.ref o), a1, a2] [] M 0 0 Z ↔ Run d 102 1 [some (.ref o), a1, a2] [.ref o] M 0 0 Z := R_local (gd102 dX8_after_0) rfl rfl rfl
theorem z102_1 : Run d 102 1 [a0, a1, a2] [.ref o] M 0 0 Z ↔ gObj M o 8 ∧ Run d 102 4 [a0, a1, a2] [va_rf (M.2.1 o 15)] M 0 0 Z := R_getR (gd102 dX8_after_1) rfl gf_8_82 rfl
theorem z102_4n : Run d 102 4 [a0, a1, a2] [.null] M 0 0 Z ↔ Run d 102 25 [a0, a1, a2] [] M 0 0 Z := R_nullN (gd102 dX8_after_4) (show gTgt 4 21 = some 25 by decide)
theorem z102_4 : Run d 102 4 [a0, a1, a2] [.ref o] M 0 0 Z ↔ Run d 102 7 [a0, a1, a2] [] M 0 0 Z := R_nullR (gd102 dX8_after_4) (show gTgt 4 21 = some 25 by decide)
theorem z102_7 : Run d 102 7 [a0, some (.int x), a2] [] M 0 0 Z ↔ Run d 102 8 [a0, some (.int x), a2] [.int x] M 0 0 Z := R_local (gd102 dX8_after_7) rfl rfl rfl
theorem z102_8 : Run d 102 8 [a0, a1, some (.int x)] [s0] M 0 0 Z ↔ Run d 102 9 [a0, a1, some (.int x)] [.int x, s0] M 0 0 Z := R_local (gd102 dX8_after_8) rfl rfl rfl
theorem z102_9 : Run d 102 9 [a0, a1, a2] [s1, s0] M 0 0 Z ↔ Call d 113 [s0, s1] M (fun r M1 => Run d 102 12 [a0, a1, a2] (r.toList ++ []) M1 0 0 Z) := R_call (gd102 dX8_after_9) rfl rfl rfl rfl rfl rfl gc_8_154 rfl (by decide) (Nat.le_of_ble_eq_true rfl) (Nat.le_of_ble_eq_true rfl) rfl rfl rfl (Nat.le_of_ble_eq_true rfl) (Nat.le_of_ble_eq_true rfl)
theorem z102_12 : Run d 102 12 [a0, a1, a2] [.int x] M 0 0 Z ↔ (x = 0 → Run d 102 25 [a0, a1, a2] [] M 0 0 Z) ∧ (¬ (x = 0) → Run d 102 15 [a0, a1, a2] [] M 0 0 Z) := R_if (gd102 dX8_after_12) (show gTgt 12 13 = some 25 by decide) gIf_eq
theorem z102_15 : Run d 102 15 [some (.ref o), a1, a2] [] M 0 0 Z ↔ Run d 102 16 [some (.ref o), a1, a2] [.ref o] M 0 0 Z := R_local (gd102 dX8_after_15) rfl rfl rfl
theorem z102_16 : Run d 102 16 [a0, a1, a2] [.ref o] M 0 0 Z ↔ gObj M o 8 ∧ Run d 102 19 [a0, a1, a2] [va_rf (M.2.1 o 13)] M 0 0 Z := R_getR (gd102 dX8_after_16) rfl gf_8_71 rfl
theorem z102_19 : Run d 102 19 [a0, a1, a2] [.ref o] M 0 0 Z ↔ gObj M o 3 ∧ Run d 102 22 [a0, a1, a2] [.int (M.1 o 1)] M 0 0 Z := R_getI (gd102 dX8_after_19) rfl gf_8_210 rfl
theorem z102_22 : Run d 102 22 [a0, a1, a2] [.int x] M 0 0 Z ↔ (¬ x = 0 → Run d 102 27 [a0, a1, a2] [] M 0 0 Z) ∧ (¬ (¬ x = 0) → Run d 102 25 [a0, a1, a2] [] M 0 0 Z) := R_if (gd102 dX8_after_22) (show gTgt 22 5 = some 27 by decide) gIf_ne
theorem z102_25 : Run d 102 25 [a0, a1, a2] [] M 0 0 Z ↔ Run d 102 26 [a0, a1, a2] [.int (-1)] M 0 0 Z := R_iconst (gd102 dX8_after_25) (by decide)
theorem z102_26 : Run d 102 26 [a0, a1, a2] [.int x] M 0 0 Z ↔ Z (some (.int x)) M := R_iret (gd102 dX8_after_26) rfl
theorem z102_27 : Run d 102 27 [some (.ref o), a1, a2] [] M 0 0 Z ↔ Run d 102 28 [some (.ref o), a1, a2] [.ref o] M 0 0 Z := R_local (gd102 dX8_after_27) rfl rfl rfl
theorem z102_28 : Run d 102 28 [a0, a1, a2] [.ref o] M 0 0 Z ↔ gObj M o 8 ∧ Run d 102 31 [a0, a1, a2] [va_rf (M.2.1 o 11)] M 0 0 Z := R_getR (gd102 dX8_after_28) rfl gf_8_61 rfl
theorem z102_31 : Run d 102 31 [a0, a1, a2] [.ref o] M 0 0 Z ↔ gObj M o 1 ∧ Run d 102 34 [a0, a1, a2] [va_rf (M.2.1 o 0)] M 0 0 Z := R_getR (gd102 dX8_after_31) rfl gf_8_157 rfl
theorem z102_34 : Run d 102 34 [some (.ref o), a1, a2] [s0] M 0 0 Z ↔ Run d 102 35 [some (.ref o), a1, a2] [.ref o, s0] M 0 0 Z := R_local (gd102 dX8_after_34) rfl rfl rfl
theorem z102_35 : Run d 102 35 [a0, a1, a2] [.ref o, s0] M 0 0 Z ↔ gObj M o 8 ∧ Run d 102 38 [a0, a1, a2] [va_rf (M.2.1 o 13), s0] M 0 0 Z := R_getR (gd102 dX8_after_35) rfl gf_8_71 rfl
theorem z102_38 : Run d 102 38 [some (.ref o), a1, a2] [s1, s0] M 0 0 Z ↔ Run d 102 39 [some (.ref o), a1, a2] [.ref o, s1, s0] M 0 0 Z := R_local (gd102 dX8_after_38) rfl rfl rfl
theorem z102_39 : Run d 102 39 [a0, a1, a2] [.ref o, s1, s0] M 0 0 Z ↔ gObj M o 8 ∧ Run d 102 42 [a0, a1, a2] [va_rf (M.2.1 o 11), s1, s0] M 0 0 Z := R_getR (gd102 dX8_after_39) rfl gf_8_61 rfl
theorem z102_42 : Run d 102 42 [a0, a1, a2] [.ref o, s1, s0] M 0 0 Z ↔ gObj M o 1 ∧ Run d 102 45 [a0, a1, a2] [va_rf (M.2.1 o 0), s1, s0] M 0 0 Z := R_getR (gd102 dX8_after_42) rfl gf_8_157 rfl
theorem z102_45 : Run d 102 45 [a0, some (.int x), a2] [s2, s1, s0] M 0 0 Z ↔ Run d 102 46 [a0, some (.int x), a2] [.int x, s2, s1, s0] M 0 0 Z := R_local (gd102 dX8_after_45) rfl rfl rfl
theorem z102_46 : Run d 102 46 [a0, a1, some (.int x)] [s3, s2, s1, s0] M 0 0 Z ↔ Run d 102 47 [a0, a1, some (.int x)] [.int x, s3, s2, s1, s0] M 0 0 Z := R_local (gd102 dX8_after_46) rfl rfl rfl
theorem z102_47 : Run d 102 47 [a0, a1, a2] [s4, s3, s2, .ref b, s0] M 0 0 Z ↔ gObj M b 3 ∧ Call d 37 [.ref b, s2, s3, s4] M (fun r M1 => Run d 102 50 [a0, a1, a2] (r.toList ++ [s0]) M1 0 0 Z) := R_callV (gd102 dX8_after_47) rfl rfl rfl rfl rfl rfl gc_8_213 rfl rfl (Nat.le_of_ble_eq_true rfl) (Nat.le_of_ble_eq_true rfl) rfl rfl (Nat.le_of_ble_eq_true rfl) (Nat.le_of_ble_eq_true rfl)
theorem z102_50 : Run d 102 50 [a0, some (.int x), a2] [s1, s0] M 0 0 Z ↔ Run d 102 51 [a0, some (.int x), a2] [.int x, s1, s0] M 0 0 Z := R_local (gd102 dX8_after_50) rfl rfl rfl
theorem z102_51 : Run d 102 51 [some (.ref o), a1, a2] [s2, s1, s0] M 0 0 Z ↔ Run d 102 52 [some (.ref o), a1, a2] [.ref o, s2, s1, s0] M 0 0 Z := R_local (gd102 dX8_after_51) rfl rfl rfl
theorem z102_52 : Run d 102 52 [a0, a1, a2] [.ref o, s2, s1, s0] M 0 0 Z ↔ gObj M o 8 ∧ Run d 102 55 [a0, a1, a2] [va_rf (M.2.1 o 15), s2, s1, s0] M 0 0 Z := R_getR (gd102 dX8_after_52) rfl gf_8_82 rfl
theorem z102_55 : Run d 102 55 [a0, a1, a2] [s3, s2, s1, .ref b] M 0 0 Z ↔ gObj M b 4 ∧ Call d 47 [.ref b, s1, s2, s3] M (fun r M1 => Run d 102 58 [a0, a1, a2] (r.toList ++ []) M1 0 0 Z) := R_callV (gd102 dX8_after_55) rfl rfl rfl rfl rfl rfl gc_8_167 rfl rfl (Nat.le_of_ble_eq_true rfl) (Nat.le_of_ble_eq_true rfl) rfl rfl (Nat.le_of_ble_eq_true rfl) (Nat.le_of_ble_eq_true rfl)
theorem z102_58 : Run d 102 58 [a0, a1, a2] [.int x] M 0 0 Z ↔ Z (some (.int x)) M := R_iret (gd102 dX8_after_58) rfl
theorem e102 : Call (d + 1) 102 [s0, s1, s2] M Z ↔ Run d 102 0 [some s0, some s1, some s2] [] M 0 0 Z := Call_iff (Nat.lt_of_lt_of_le (Nat.lt_succ_self 102) (Nat.le_of_ble_eq_true rfl)) (Nat.le_of_ble_eq_true rfl)
/-! 103: X8_fix ()I -/
theorem gd103 {pc : Nat} {r : Except _ _} (h : decode cX8_fix pc = r) : decode (gby 103) pc = r := h
theorem z103_0 : Run d 103 0 [some (.ref o)] [] M 0 0 Z ↔ Run d 103 1 [some (.ref o)] [.ref o] M 0 0 Z := R_local (gd103 dX8_fix_0) rfl rfl rfl
theorem z103_1 : Run d 103 1 [a0] [.ref o] M 0 0 Z ↔ gObj M o 8 ∧ Run d 103 4 [a0] [va_rf (M.2.1 o 15)] M 0 0 Z := R_getR (gd103 dX8_fix_1) rfl gf_8_82 rfl
theorem z103_4n : Run d 103 4 [a0] [.null] M 0 0 Z ↔ Run d 103 17 [a0] [] M 0 0 Z := R_nullN (gd103 dX8_fix_4) (show gTgt 4 13 = some 17 by decide)
theorem z103_4 : Run d 103 4 [a0] [.ref o] M 0 0 Z ↔ Run d 103 7 [a0] [] M 0 0 Z := R_nullR (gd103 dX8_fix_4) (show gTgt 4 13 = some 17 by decide)
theorem z103_7 : Run d 103 7 [some (.ref o)] [] M 0 0 Z ↔ Run d 103 8 [some (.ref o)] [.ref o] M 0 0 Z := R_local (gd103 dX8_fix_7) rfl rfl rfl
theorem z103_8 : Run d 103 8 [a0] [.ref o] M 0 0 Z ↔ gObj M o 8 ∧ Run d 103 11 [a0] [va_rf (M.2.1 o 13)] M 0 0 Z := R_getR (gd103 dX8_fix_8) rfl gf_8_71 rfl
theorem z103_11 : Run d 103 11 [a0] [.ref o] M 0 0 Z ↔ gObj M o 3 ∧ Run d 103 14 [a0] [.int (M.1 o 1)] M 0 0 Z := R_getI (gd103 dX8_fix_11) rfl gf_8_210 rfl
theorem z103_14 : Run d 103 14 [a0] [.int x] M 0 0 Z ↔ (¬ x = 0 → Run d 103 19 [a0] [] M 0 0 Z) ∧ (¬ (¬ x = 0) → Run d 103 17 [a0] [] M 0 0 Z) := R_if (gd103 dX8_fix_14) (show gTgt 14 5 = some 19 by decide) gIf_ne
theorem z103_17 : Run d 103 17 [a0] [] M 0 0 Z ↔ Run d 103 18 [a0] [.int (-1)] M 0 0 Z := R_iconst (gd103 dX8_fix_17) (by decide)
theorem z103_18 : Run d 103 18 [a0] [.int x] M 0 0 Z ↔ Z (some (.int x)) M := R_iret (gd103 dX8_fix_18) rfl
theorem z103_19 : Run d 103 19 [some (.ref o)] [] M 0 0 Z ↔ Run d 103 20 [some (.ref o)] [.ref o] M 0 0 Z := R_local (gd103 dX8_fix_19) rfl rfl rfl
theorem z103_20 : Run d 103 20 [a0] [.ref o] M 0 0 Z ↔ gObj M o 8 ∧ Run d 103 23 [a0] [va_rf (M.2.1 o 13)] M 0 0 Z := R_getR (gd103 dX8_fix_20) rfl gf_8_71 rfl
theorem z103_23 : Run d 103 23 [a0] [.ref o] M 0 0 Z ↔ gObj M o 3 ∧ Run d 103 26 [a0] [.int (M.1 o 4)] M 0 0 Z := R_getI (gd103 dX8_fix_23) rfl gf_8_204 rfl
theorem z103_26 : Run d 103 26 [a0] [.int x] M 0 0 Z ↔ (¬ x = 0 → Run d 103 32 [a0] [] M 0 0 Z) ∧ (¬ (¬ x = 0) → Run d 103 29 [a0] [] M 0 0 Z) := R_if (gd103 dX8_fix_26) (show gTgt 26 6 = some 32 by decide) gIf_ne
theorem z103_29 : Run d 103 29 [a0] [] M 0 0 Z ↔ Run d 103 31 [a0] [.int (-2)] M 0 0 Z := R_bipush (gd103 dX8_fix_29) (by decide)
theorem z103_31 : Run d 103 31 [a0] [.int x] M 0 0 Z ↔ Z (some (.int x)) M := R_iret (gd103 dX8_fix_31) rfl
theorem z103_32 : Run d 103 32 [some (.ref o)] [] M 0 0 Z ↔ Run d 103 33 [some (.ref o)] [.ref o] M 0 0 Z := R_local (gd103 dX8_fix_32) rfl rfl rfl
theorem z103_33 : Run d 103 33 [a0] [.ref o] M 0 0 Z ↔ gObj M o 8 ∧ Run d 103 36 [a0] [va_rf (M.2.1 o 13)] M 0 0 Z := R_getR (gd103 dX8_fix_33) rfl gf_8_71 rfl
theorem z103_36 : Run d 103 36 [some (.ref o)] [s0] M 0 0 Z ↔ Run d 103 37 [some (.ref o)] [.ref o, s0] M 0 0 Z := R_local (gd103 dX8_fix_36) rfl rfl rfl
theorem z103_37 : Run d 103 37 [a0] [.ref o, s0] M 0 0 Z ↔ gObj M o 8 ∧ Run d 103 40 [a0] [va_rf (M.2.1 o 11), s0] M 0 0 Z := R_getR (gd103 dX8_fix_37) rfl gf_8_61 rfl
theorem z103_40 : Run d 103 40 [a0] [.ref o, s0] M 0 0 Z ↔ gObj M o 1 ∧ Run d 103 43 [a0] [va_rf (M.2.1 o 0), s0] M 0 0 Z := R_getR (gd103 dX8_fix_40) rfl gf_8_157 rfl
theorem z103_43 : Run d 103 43 [a0] [s1, .ref b] M 0 0 Z ↔ gObj M b 3 ∧ Call d 38 [.ref b, s1] M (fun r M1 => Run d 103 46 [a0] (r.toList ++ []) M1 0 0 Z) := R_callV (gd103 dX8_fix_43) rfl rfl rfl rfl rfl rfl gc_8_217 rfl rfl (Nat.le_of_ble_eq_true rfl) (Nat.le_of_ble_eq_true rfl) rfl rfl (Nat.le_of_ble_eq_true rfl) (Nat.le_of_ble_eq_true rfl)
theorem z103_46 : Run d 103 46 [a0] [.int x] M 0 0 Z ↔ Z (some (.int x)) M := R_iret (gd103 dX8_fix_46) rfl
theorem e103 : Call (d + 1) 103 [s0] M Z ↔ Run d 103 0 [some s0] [] M 0 0 Z := Call_iff (Nat.lt_of_lt_of_le (Nat.lt_succ_self 103) (Nat.le_of_ble_eq_true rfl)) (Nat.le_of_ble_eq_true rfl)
/-! 104: X8_breaths ()I -/
theorem gd104 {pc : Nat} {r : Except _ _} (h : decode cX8_breaths pc = r) : decode (gby 104) pc = r := h
theorem z104_0 : Run d 104 0 [some (.ref o)] [] M 0 0 Z ↔ Run d 104 1 [some (.ref o)] [.ref o] M 0 0 Z := R_local (gd104 dX8_breaths_0) rfl rfl rfl
theorem z104_1 : Run d 104 1 [a0] [.ref o] M 0 0 Z ↔ gObj M o 8 ∧ Run d 104 4 [a0] [va_rf (M.2.1 o 15)] M 0 0 Z := R_getR (gd104 dX8_breaths_1) rfl gf_8_82 rfl
theorem z104_4n : Run d 104 4 [a0] [.null] M 0 0 Z ↔ Run d 104 7 [a0] [] M 0 0 Z := R_nonnullN (gd104 dX8_breaths_4) (show gTgt 4 7 = some 11 by decide)
theorem z104_4 : Run d 104 4 [a0] [.ref o] M 0 0 Z ↔ Run d 104 11 [a0] [] M 0 0 Z := R_nonnullR (gd104 dX8_breaths_4) (show gTgt 4 7 = some 11 by decide)
theorem z104_7 : Run d 104 7 [a0] [] M 0 0 Z ↔ Run d 104 8 [a0] [.int (-1)] M 0 0 Z := R_iconst (gd104 dX8_breaths_7) (by decide)
theorem z104_8 : Run d 104 8 [a0] [s0] M 0 0 Z ↔ Run d 104 20 [a0] [s0] M 0 0 Z := R_goto (gd104 dX8_breaths_8) (show gTgt 8 12 = some 20 by decide)
theorem z104_11 : Run d 104 11 [some (.ref o)] [] M 0 0 Z ↔ Run d 104 12 [some (.ref o)] [.ref o] M 0 0 Z := R_local (gd104 dX8_breaths_11) rfl rfl rfl
theorem z104_12 : Run d 104 12 [a0] [.ref o] M 0 0 Z ↔ gObj M o 8 ∧ Run d 104 15 [a0] [va_rf (M.2.1 o 11)] M 0 0 Z := R_getR (gd104 dX8_breaths_12) rfl gf_8_61 rfl
theorem z104_15 : Run d 104 15 [a0] [.ref o] M 0 0 Z ↔ gObj M o 1 ∧ Run d 104 18 [a0] [.int (M.1 o 10)] M 0 0 Z := R_getI (gd104 dX8_breaths_15) rfl gf_8_221 rfl
theorem z104_18 : Run d 104 18 [a0] [s0] M 0 0 Z ↔ Run d 104 19 [a0] [.int 1, s0] M 0 0 Z := R_iconst (gd104 dX8_breaths_18) (by decide)
theorem z104_19 : Run d 104 19 [a0] [.int y, .int x] M 0 0 Z ↔ Run d 104 20 [a0] [.int (x + y)] M 0 0 Z := R_arith (gd104 dX8_breaths_19) rfl
theorem z104_20 : Run d 104 20 [a0] [.int x] M 0 0 Z ↔ Z (some (.int x)) M := R_iret (gd104 dX8_breaths_20) rfl
theorem e104 : Call (d + 1) 104 [s0] M Z ↔ Run d 104 0 [some s0] [] M 0 0 Z := Call_iff (Nat.lt_of_lt_of_le (Nat.lt_succ_self 104) (Nat.le_of_ble_eq_true rfl)) (Nat.le_of_ble_eq_true rfl)
/-! 105: X8_shortest (IIII)I -/
theorem gd105 {pc : Nat} {r : Except _ _} (h : decode cX8_shortest pc = r) : decode (gby 105) pc = r := h
theorem z105_0 : Run d 105 0 [some (.ref o), a1, a2, a3, a4, a5, a6] [] M 0 0 Z ↔ Run d 105 1 [some (.ref o), a1, a2, a3, a4, a5, a6] [.ref o] M 0 0 Z := R_local (gd105 dX8_shortest_0) rfl rfl rfl
theorem z105_1 : Run d 105 1 [a0, some (.int x), a2, a3, a4, a5, a6] [s0] M 0 0 Z ↔ Run d 105 2 [a0, some (.int x), a2, a3, a4, a5, a6] [.int x, s0] M 0 0 Z := R_local (gd105 dX8_shortest_1) rfl rfl rfl
theorem z105_2 : Run d 105 2 [a0, a1, a2, a3, a4, a5, a6] [s1, .ref b] M 0 0 Z ↔ gObj M b 8 ∧ Call d 116 [.ref b, s1] M (fun r M1 => Run d 105 5 [a0, a1, a2, a3, a4, a5, a6] (r.toList ++ []) M1 0 0 Z) := R_callV (gd105 dX8_shortest_2) rfl rfl rfl rfl rfl rfl gc_8_130 rfl rfl (Nat.le_of_ble_eq_true rfl) (Nat.le_of_ble_eq_true rfl) rfl rfl (Nat.le_of_ble_eq_true rfl) (Nat.le_of_ble_eq_true rfl)
theorem z105_5 : Run d 105 5 [a0, a1, a2, a3, a4, a5, a6] [.ref o] M 0 0 Z ↔ Run d 105 7 [a0, a1, a2, a3, a4, some (.ref o), a6] [] M 0 0 Z := R_local (gd105 dX8_shortest_5) rfl rfl rfl
theorem z105_5n : Run d 105 5 [a0, a1, a2, a3, a4, a5, a6] [.null] M 0 0 Z ↔ Run d 105 7 [a0, a1, a2, a3, a4, some .null, a6] [] M 0 0 Z := R_local (gd105 dX8_shortest_5) rfl rfl rfl
theorem z105_7 : Run d 105 7 [a0, a1, a2, a3, a4, some (.ref o), a6] [] M 0 0 Z ↔ Run d 105 9 [a0, a1, a2, a3, a4, some (.ref o), a6] [.ref o] M 0 0 Z := R_local (gd105 dX8_shortest_7) rfl rfl rfl
theorem z105_7n : Run d 105 7 [a0, a1, a2, a3, a4, some .null, a6] [] M 0 0 Z ↔ Run d 105 9 [a0, a1, a2, a3, a4, some .null, a6] [.null] M 0 0 Z := R_local (gd105 dX8_shortest_7) rfl rfl rfl
theorem z105_9n : Run d 105 9 [a0, a1, a2, a3, a4, a5, a6] [.null] M 0 0 Z ↔ Run d 105 40 [a0, a1, a2, a3, a4, a5, a6] [] M 0 0 Z := R_nullN (gd105 dX8_shortest_9) (show gTgt 9 31 = some 40 by decide)
theorem z105_9 : Run d 105 9 [a0, a1, a2, a3, a4, a5, a6] [.ref o] M 0 0 Z ↔ Run d 105 12 [a0, a1, a2, a3, a4, a5, a6] [] M 0 0 Z := R_nullR (gd105 dX8_shortest_9) (show gTgt 9 31 = some 40 by decide)
theorem z105_12 : Run d 105 12 [a0, a1, some (.int x), a3, a4, a5, a6] [] M 0 0 Z ↔ Run d 105 13 [a0, a1, some (.int x), a3, a4, a5, a6] [.int x] M 0 0 Z := R_local (gd105 dX8_shortest_12) rfl rfl rfl
theorem z105_13 : Run d 105 13 [some (.ref o), a1, a2, a3, a4, a5, a6] [s0] M 0 0 Z ↔ Run d 105 14 [some (.ref o), a1, a2, a3, a4, a5, a6] [.ref o, s0] M 0 0 Z := R_local (gd105 dX8_shortest_13) rfl rfl rfl
theorem z105_14 : Run d 105 14 [a0, a1, a2, a3, a4, a5, a6] [.ref o, s0] M 0 0 Z ↔ gObj M o 8 ∧ Run d 105 17 [a0, a1, a2, a3, a4, a5, a6] [.int (M.1 o 1), s0] M 0 0 Z := R_getI (gd105 dX8_shortest_14) rfl gf_8_13 rfl
theorem z105_17 : Run d 105 17 [a0, a1, a2, a3, a4, a5, a6] [s1, s0] M 0 0 Z ↔ Call d 110 [s0, s1] M (fun r M1 => Run d 105 20 [a0, a1, a2, a3, a4, a5, a6] (r.toList ++ []) M1 0 0 Z) := R_call (gd105 dX8_shortest_17) rfl rfl rfl rfl rfl rfl gc_8_97 rfl (by decide) (Nat.le_of_ble_eq_true rfl) (Nat.le_of_ble_eq_true rfl) rfl rfl rfl (Nat.le_of_ble_eq_true rfl) (Nat.le_of_ble_eq_true rfl)
theorem z105_20 : Run d 105 20 [a0, a1, a2, a3, a4, a5, a6] [.int x] M 0 0 Z ↔ (x = 0 → Run d 105 40 [a0, a1, a2, a3, a4, a5, a6] [] M 0 0 Z) ∧ (¬ (x = 0) → Run d 105 23 [a0, a1, a2, a3, a4, a5, a6] [] M 0 0 Z) := R_if (gd105 dX8_shortest_20) (show gTgt 20 20 = some 40 by decide) gIf_eq
theorem z105_23 : Run d 105 23 [a0, a1, a2, some (.int x), a4, a5, a6] [] M 0 0 Z ↔ Run d 105 24 [a0, a1, a2, some (.int x), a4, a5, a6] [.int x] M 0 0 Z := R_local (gd105 dX8_shortest_23) rfl rfl rfl
theorem z105_24 : Run d 105 24 [a0, a1, a2, a3, a4, a5, a6] [s0] M 0 0 Z ↔ Call d 112 [s0] M (fun r M1 => Run d 105 27 [a0, a1, a2, a3, a4, a5, a6] (r.toList ++ []) M1 0 0 Z) := R_call (gd105 dX8_shortest_24) rfl rfl rfl rfl rfl rfl gc_8_94 rfl (by decide) (Nat.le_of_ble_eq_true rfl) (Nat.le_of_ble_eq_true rfl) rfl rfl rfl (Nat.le_of_ble_eq_true rfl) (Nat.le_of_ble_eq_true rfl)
theorem z105_27 : Run d 105 27 [a0, a1, a2, a3, a4, a5, a6] [.int x] M 0 0 Z ↔ (x = 0 → Run d 105 40 [a0, a1, a2, a3, a4, a5, a6] [] M 0 0 Z) ∧ (¬ (x = 0) → Run d 105 30 [a0, a1, a2, a3, a4, a5, a6] [] M 0 0 Z) := R_if (gd105 dX8_shortest_27) (show gTgt 27 13 = some 40 by decide) gIf_eq
theorem z105_30 : Run d 105 30 [a0, a1, a2, a3, some (.int x), a5, a6] [] M 0 0 Z ↔ Run d 105 32 [a0, a1, a2, a3, some (.int x), a5, a6] [.int x] M 0 0 Z := R_local (gd105 dX8_shortest_30) rfl rfl rfl
theorem z105_32 : Run d 105 32 [a0, a1, a2, a3, a4, a5, a6] [s0] M 0 0 Z ↔ Run d 105 34 [a0, a1, a2, a3, a4, a5, a6] [.int 61, s0] M 0 0 Z := R_bipush (gd105 dX8_shortest_32) (by decide)
theorem z105_34 : Run d 105 34 [a0, a1, a2, a3, a4, a5, a6] [s1, s0] M 0 0 Z ↔ Call d 110 [s0, s1] M (fun r M1 => Run d 105 37 [a0, a1, a2, a3, a4, a5, a6] (r.toList ++ []) M1 0 0 Z) := R_call (gd105 dX8_shortest_34) rfl rfl rfl rfl rfl rfl gc_8_97 rfl (by decide) (Nat.le_of_ble_eq_true rfl) (Nat.le_of_ble_eq_true rfl) rfl rfl rfl (Nat.le_of_ble_eq_true rfl) (Nat.le_of_ble_eq_true rfl)
theorem z105_37 : Run d 105 37 [a0, a1, a2, a3, a4, a5, a6] [.int x] M 0 0 Z ↔ (¬ x = 0 → Run d 105 42 [a0, a1, a2, a3, a4, a5, a6] [] M 0 0 Z) ∧ (¬ (¬ x = 0) → Run d 105 40 [a0, a1, a2, a3, a4, a5, a6] [] M 0 0 Z) := R_if (gd105 dX8_shortest_37) (show gTgt 37 5 = some 42 by decide) gIf_ne
theorem z105_40 : Run d 105 40 [a0, a1, a2, a3, a4, a5, a6] [] M 0 0 Z ↔ Run d 105 41 [a0, a1, a2, a3, a4, a5, a6] [.int (-1)] M 0 0 Z := R_iconst (gd105 dX8_shortest_40) (by decide)
theorem z105_41 : Run d 105 41 [a0, a1, a2, a3, a4, a5, a6] [.int x] M 0 0 Z ↔ Z (some (.int x)) M := R_iret (gd105 dX8_shortest_41) rfl
theorem z105_42 : Run d 105 42 [a0, a1, a2, a3, a4, a5, a6] [] M 0 0 Z ↔ Run d 105 44 [a0, a1, a2, a3, a4, a5, a6] [.int 10] M 0 0 Z := R_bipush (gd105 dX8_shortest_42) (by decide)
theorem z105_44 : Run d 105 44 [a0, a1, a2, a3, a4, a5, a6] [.int x] M 0 0 Z ↔ Run d 105 46 [a0, a1, a2, a3, a4, a5, some (.int x)] [] M 0 0 Z := R_local (gd105 dX8_shortest_44) rfl rfl rfl
theorem z105_46 : Run d 105 46 [a0, a1, a2, a3, a4, a5, some (.int x)] [] M 0 0 Z ↔ Run d 105 48 [a0, a1, a2, a3, a4, a5, some (.int x)] [.int x] M 0 0 Z := R_local (gd105 dX8_shortest_46) rfl rfl rfl
theorem z105_48 : Run d 105 48 [a0, a1, a2, a3, a4, a5, a6] [s0] M 0 0 Z ↔ Run d 105 51 [a0, a1, a2, a3, a4, a5, a6] [.int 400, s0] M 0 0 Z := R_sipush (gd105 dX8_shortest_48) (by decide)
theorem z105_51 : Run d 105 51 [a0, a1, a2, a3, a4, a5, a6] [.int y, .int x] M 0 0 Z ↔ (y < x → Run d 105 126 [a0, a1, a2, a3, a4, a5, a6] [] M 0 0 Z) ∧ (¬ (y < x) → Run d 105 54 [a0, a1, a2, a3, a4, a5, a6] [] M 0 0 Z) := R_icmp (gd105 dX8_shortest_51) (show gTgt 51 75 = some 126 by decide) gIf_gt
theorem z105_54 : Run d 105 54 [some (.ref o), a1, a2, a3, a4, a5, a6] [] M 0 0 Z ↔ Run d 105 55 [some (.ref o), a1, a2, a3, a4, a5, a6] [.ref o] M 0 0 Z := R_local (gd105 dX8_shortest_54) rfl rfl rfl
theorem z105_55 : Run d 105 55 [a0, a1, a2, a3, a4, a5, a6] [.ref o] M 0 0 Z ↔ gObj M o 8 ∧ Run d 105 58 [a0, a1, a2, a3, a4, a5, a6] [va_rf (M.2.1 o 12)] M 0 0 Z := R_getR (gd105 dX8_shortest_55) rfl gf_8_65 rfl
theorem z105_58 : Run d 105 58 [some (.ref o), a1, a2, a3, a4, a5, a6] [s0] M 0 0 Z ↔ Run d 105 59 [some (.ref o), a1, a2, a3, a4, a5, a6] [.ref o, s0] M 0 0 Z := R_local (gd105 dX8_shortest_58) rfl rfl rfl
theorem z105_59 : Run d 105 59 [a0, a1, a2, a3, a4, a5, a6] [.ref o, s0] M 0 0 Z ↔ gObj M o 8 ∧ Run d 105 62 [a0, a1, a2, a3, a4, a5, a6] [va_rf (M.2.1 o 0), s0] M 0 0 Z := R_getR (gd105 dX8_shortest_59) rfl gf_8_9 rfl
theorem z105_62 : Run d 105 62 [a0, a1, some (.int x), a3, a4, a5, a6] [s1, s0] M 0 0 Z ↔ Run d 105 63 [a0, a1, some (.int x), a3, a4, a5, a6] [.int x, s1, s0] M 0 0 Z := R_local (gd105 dX8_shortest_62) rfl rfl rfl
theorem z105_63 : Run d 105 63 [a0, a1, a2, a3, a4, a5, some (.int x)] [s2, s1, s0] M 0 0 Z ↔ Run d 105 65 [a0, a1, a2, a3, a4, a5, some (.int x)] [.int x, s2, s1, s0] M 0 0 Z := R_local (gd105 dX8_shortest_63) rfl rfl rfl
theorem z105_65 : Run d 105 65 [a0, a1, a2, some (.int x), a4, a5, a6] [s3, s2, s1, s0] M 0 0 Z ↔ Run d 105 66 [a0, a1, a2, some (.int x), a4, a5, a6] [.int x, s3, s2, s1, s0] M 0 0 Z := R_local (gd105 dX8_shortest_65) rfl rfl rfl
theorem z105_66 : Run d 105 66 [a0, a1, a2, a3, a4, a5, a6] [s4, s3, s2, s1, .ref b] M 0 0 Z ↔ gObj M b 1 ∧ Call d 4 [.ref b, s1, s2, s3, s4] M (fun r M1 => Run d 105 69 [a0, a1, a2, a3, a4, a5, a6] (r.toList ++ []) M1 0 0 Z) := R_callV (gd105 dX8_shortest_66) rfl rfl rfl rfl rfl rfl gc_8_137 rfl rfl (Nat.le_of_ble_eq_true rfl) (Nat.le_of_ble_eq_true rfl) rfl rfl (Nat.le_of_ble_eq_true rfl) (Nat.le_of_ble_eq_true rfl)
theorem z105_69 : Run d 105 69 [some (.ref o), a1, a2, a3, a4, a5, a6] [] M 0 0 Z ↔ Run d 105 70 [some (.ref o), a1, a2, a3, a4, a5, a6] [.ref o] M 0 0 Z := R_local (gd105 dX8_shortest_69) rfl rfl rfl
theorem z105_70 : Run d 105 70 [a0, a1, a2, a3, a4, a5, a6] [.ref o] M 0 0 Z ↔ gObj M o 8 ∧ Run d 105 73 [a0, a1, a2, a3, a4, a5, a6] [va_rf (M.2.1 o 10)] M 0 0 Z := R_getR (gd105 dX8_shortest_70) rfl gf_8_54 rfl
theorem z105_73 : Run d 105 73 [a0, a1, a2, a3, a4, some (.ref o), a6] [s0] M 0 0 Z ↔ Run d 105 75 [a0, a1, a2, a3, a4, some (.ref o), a6] [.ref o, s0] M 0 0 Z := R_local (gd105 dX8_shortest_73) rfl rfl rfl
theorem z105_73n : Run d 105 73 [a0, a1, a2, a3, a4, some .null, a6] [s0] M 0 0 Z ↔ Run d 105 75 [a0, a1, a2, a3, a4, some .null, a6] [.null, s0] M 0 0 Z := R_local (gd105 dX8_shortest_73) rfl rfl rfl
theorem z105_75 : Run d 105 75 [some (.ref o), a1, a2, a3, a4, a5, a6] [s1, s0] M 0 0 Z ↔ Run d 105 76 [some (.ref o), a1, a2, a3, a4, a5, a6] [.ref o, s1, s0] M 0 0 Z := R_local (gd105 dX8_shortest_75) rfl rfl rfl
theorem z105_76 : Run d 105 76 [a0, a1, a2, a3, a4, a5, a6] [.ref o, s1, s0] M 0 0 Z ↔ gObj M o 8 ∧ Run d 105 79 [a0, a1, a2, a3, a4, a5, a6] [va_rf (M.2.1 o 12), s1, s0] M 0 0 Z := R_getR (gd105 dX8_shortest_76) rfl gf_8_65 rfl
theorem z105_79 : Run d 105 79 [a0, a1, a2, a3, some (.int x), a5, a6] [s2, s1, s0] M 0 0 Z ↔ Run d 105 81 [a0, a1, a2, a3, some (.int x), a5, a6] [.int x, s2, s1, s0] M 0 0 Z := R_local (gd105 dX8_shortest_79) rfl rfl rfl
theorem z105_81 : Run d 105 81 [a0, a1, a2, a3, a4, a5, a6] [s3, s2, s1, .ref b] M 0 0 Z ↔ gObj M b 2 ∧ Call d 19 [.ref b, s1, s2, s3] M (fun r M1 => Run d 105 84 [a0, a1, a2, a3, a4, a5, a6] (r.toList ++ []) M1 0 0 Z) := R_callV (gd105 dX8_shortest_81) rfl rfl rfl rfl rfl rfl gc_8_141 rfl rfl (Nat.le_of_ble_eq_true rfl) (Nat.le_of_ble_eq_true rfl) rfl rfl (Nat.le_of_ble_eq_true rfl) (Nat.le_of_ble_eq_true rfl)
theorem z105_84 : Run d 105 84 [some (.ref o), a1, a2, a3, a4, a5, a6] [] M 0 0 Z ↔ Run d 105 85 [some (.ref o), a1, a2, a3, a4, a5, a6] [.ref o] M 0 0 Z := R_local (gd105 dX8_shortest_84) rfl rfl rfl
theorem z105_85 : Run d 105 85 [a0, a1, a2, a3, a4, a5, a6] [.ref o] M 0 0 Z ↔ gObj M o 8 ∧ Run d 105 88 [a0, a1, a2, a3, a4, a5, a6] [va_rf (M.2.1 o 12)] M 0 0 Z := R_getR (gd105 dX8_shortest_85) rfl gf_8_65 rfl
theorem z105_88 : Run d 105 88 [a0, a1, a2, a3, a4, a5, a6] [.ref o] M 0 0 Z ↔ gObj M o 1 ∧ Run d 105 91 [a0, a1, a2, a3, a4, a5, a6] [.int (M.1 o 14)] M 0 0 Z := R_getI (gd105 dX8_shortest_88) rfl gf_8_148 rfl
theorem z105_91 : Run d 105 91 [a0, a1, a2, a3, a4, a5, a6] [.int x] M 0 0 Z ↔ (¬ x = 0 → Run d 105 97 [a0, a1, a2, a3, a4, a5, a6] [] M 0 0 Z) ∧ (¬ (¬ x = 0) → Run d 105 94 [a0, a1, a2, a3, a4, a5, a6] [] M 0 0 Z) := R_if (gd105 dX8_shortest_91) (show gTgt 91 6 = some 97 by decide) gIf_ne
theorem z105_94 : Run d 105 94 [a0, a1, a2, a3, a4, a5, some (.int x)] [] M 0 0 Z ↔ Run d 105 96 [a0, a1, a2, a3, a4, a5, some (.int x)] [.int x] M 0 0 Z := R_local (gd105 dX8_shortest_94) rfl rfl rfl
theorem z105_96 : Run d 105 96 [a0, a1, a2, a3, a4, a5, a6] [.int x] M 0 0 Z ↔ Z (some (.int x)) M := R_iret (gd105 dX8_shortest_96) rfl
theorem z105_97 : Run d 105 97 [some (.ref o), a1, a2, a3, a4, a5, a6] [] M 0 0 Z ↔ Run d 105 98 [some (.ref o), a1, a2, a3, a4, a5, a6] [.ref o] M 0 0 Z := R_local (gd105 dX8_shortest_97) rfl rfl rfl
theorem z105_98 : Run d 105 98 [a0, a1, a2, a3, a4, a5, a6] [.ref o] M 0 0 Z ↔ gObj M o 8 ∧ Run d 105 101 [a0, a1, a2, a3, a4, a5, a6] [va_rf (M.2.1 o 12)] M 0 0 Z := R_getR (gd105 dX8_shortest_98) rfl gf_8_65 rfl
theorem z105_101 : Run d 105 101 [a0, a1, a2, a3, a4, a5, a6] [.ref o] M 0 0 Z ↔ gObj M o 1 ∧ Run d 105 104 [a0, a1, a2, a3, a4, a5, a6] [.int (M.1 o 14)] M 0 0 Z := R_getI (gd105 dX8_shortest_101) rfl gf_8_148 rfl
theorem z105_104 : Run d 105 104 [a0, a1, a2, a3, a4, a5, a6] [s0] M 0 0 Z ↔ Run d 105 105 [a0, a1, a2, a3, a4, a5, a6] [.int 1, s0] M 0 0 Z := R_iconst (gd105 dX8_shortest_104) (by decide)
theorem z105_105 : Run d 105 105 [a0, a1, a2, a3, a4, a5, a6] [.int y, .int x] M 0 0 Z ↔ (x = y → Run d 105 120 [a0, a1, a2, a3, a4, a5, a6] [] M 0 0 Z) ∧ (¬ (x = y) → Run d 105 108 [a0, a1, a2, a3, a4, a5, a6] [] M 0 0 Z) := R_icmp (gd105 dX8_shortest_105) (show gTgt 105 15 = some 120 by decide) gIf_eq
theorem z105_108 : Run d 105 108 [some (.ref o), a1, a2, a3, a4, a5, a6] [] M 0 0 Z ↔ Run d 105 109 [some (.ref o), a1, a2, a3, a4, a5, a6] [.ref o] M 0 0 Z := R_local (gd105 dX8_shortest_108) rfl rfl rfl
theorem z105_109 : Run d 105 109 [a0, a1, a2, a3, a4, a5, a6] [.ref o] M 0 0 Z ↔ gObj M o 8 ∧ Run d 105 112 [a0, a1, a2, a3, a4, a5, a6] [va_rf (M.2.1 o 10)] M 0 0 Z := R_getR (gd105 dX8_shortest_109) rfl gf_8_54 rfl
theorem z105_112 : Run d 105 112 [a0, a1, a2, a3, a4, a5, a6] [.ref o] M 0 0 Z ↔ gObj M o 2 ∧ Run d 105 115 [a0, a1, a2, a3, a4, a5, a6] [.int (M.1 o 9)] M 0 0 Z := R_getI (gd105 dX8_shortest_112) rfl gf_8_224 rfl
theorem z105_115 : Run d 105 115 [a0, a1, a2, a3, a4, a5, a6] [.int x] M 0 0 Z ↔ (¬ x = 0 → Run d 105 120 [a0, a1, a2, a3, a4, a5, a6] [] M 0 0 Z) ∧ (¬ (¬ x = 0) → Run d 105 118 [a0, a1, a2, a3, a4, a5, a6] [] M 0 0 Z) := R_if (gd105 dX8_shortest_115) (show gTgt 115 5 = some 120 by decide) gIf_ne
theorem z105_118 : Run d 105 118 [a0, a1, a2, a3, a4, a5, a6] [] M 0 0 Z ↔ Run d 105 119 [a0, a1, a2, a3, a4, a5, a6] [.int (-1)] M 0 0 Z := R_iconst (gd105 dX8_shortest_118) (by decide)
theorem z105_119 : Run d 105 119 [a0, a1, a2, a3, a4, a5, a6] [.int x] M 0 0 Z ↔ Z (some (.int x)) M := R_iret (gd105 dX8_shortest_119) rfl
theorem z105_120 : Run d 105 120 [a0, a1, a2, a3, a4, a5, some (.int x)] [] M 0 0 Z ↔ Run d 105 123 [a0, a1, a2, a3, a4, a5, some (.int (x + 1))] [] M 0 0 Z := R_iinc (gd105 dX8_shortest_120) (by decide) rfl rfl
theorem z105_123 : Run d 105 123 [a0, a1, a2, a3, a4, a5, a6] [] M 0 0 Z ↔ Run d 105 46 [a0, a1, a2, a3, a4, a5, a6] [] M 0 0 Z := R_goto (gd105 dX8_shortest_123) (show gTgt 123 (-77) = some 46 by decide)
theorem z105_126 : Run d 105 126 [a0, a1, a2, a3, a4, a5, a6] [] M 0 0 Z ↔ Run d 105 127 [a0, a1, a2, a3, a4, a5, a6] [.int (-1)] M 0 0 Z := R_iconst (gd105 dX8_shortest_126) (by decide)
theorem z105_127 : Run d 105 127 [a0, a1, a2, a3, a4, a5, a6] [.int x] M 0 0 Z ↔ Z (some (.int x)) M := R_iret (gd105 dX8_shortest_127) rfl
theorem e105 : Call (d + 1) 105 [s0, s1, s2, s3, s4] M Z ↔ Run d 105 0 [some s0, some s1, some s2, some s3, some s4, none, none] [] M 0 0 Z := Call_iff (Nat.lt_of_lt_of_le (Nat.lt_succ_self 105) (Nat.le_of_ble_eq_true rfl)) (Nat.le_of_ble_eq_true rfl)
/-! 106: X8_solve (IIIII)I -/
theorem gd106 {pc : Nat} {r : Except _ _} (h : decode cX8_solve pc = r) : decode (gby 106) pc = r := h
theorem z106_0 : Run d 106 0 [some (.ref o), a1, a2, a3, a4, a5, a6, a7, a8] [] M 0 0 Z ↔ Run d 106 1 [some (.ref o), a1, a2, a3, a4, a5, a6, a7, a8] [.ref o] M 0 0 Z := R_local (gd106 dX8_solve_0) rfl rfl rfl
theorem z106_1 : Run d 106 1 [a0, some (.int x), a2, a3, a4, a5, a6, a7, a8] [s0] M 0 0 Z ↔ Run d 106 2 [a0, some (.int x), a2, a3, a4, a5, a6, a7, a8] [.int x, s0] M 0 0 Z := R_local (gd106 dX8_solve_1) rfl rfl rfl
theorem z106_2 : Run d 106 2 [a0, a1, a2, a3, a4, a5, a6, a7, a8] [s1, .ref b] M 0 0 Z ↔ gObj M b 8 ∧ Call d 116 [.ref b, s1] M (fun r M1 => Run d 106 5 [a0, a1, a2, a3, a4, a5, a6, a7, a8] (r.toList ++ []) M1 0 0 Z) := R_callV (gd106 dX8_solve_2) rfl rfl rfl rfl rfl rfl gc_8_130 rfl rfl (Nat.le_of_ble_eq_true rfl) (Nat.le_of_ble_eq_true rfl) rfl rfl (Nat.le_of_ble_eq_true rfl) (Nat.le_of_ble_eq_true rfl)
theorem z106_5 : Run d 106 5 [a0, a1, a2, a3, a4, a5, a6, a7, a8] [.ref o] M 0 0 Z ↔ Run d 106 7 [a0, a1, a2, a3, a4, a5, some (.ref o), a7, a8] [] M 0 0 Z := R_local (gd106 dX8_solve_5) rfl rfl rfl
theorem z106_5n : Run d 106 5 [a0, a1, a2, a3, a4, a5, a6, a7, a8] [.null] M 0 0 Z ↔ Run d 106 7 [a0, a1, a2, a3, a4, a5, some .null, a7, a8] [] M 0 0 Z := R_local (gd106 dX8_solve_5) rfl rfl rfl
theorem z106_7 : Run d 106 7 [some (.ref o), a1, a2, a3, a4, a5, a6, a7, a8] [] M 0 0 Z ↔ Run d 106 8 [some (.ref o), a1, a2, a3, a4, a5, a6, a7, a8] [.ref o] M 0 0 Z := R_local (gd106 dX8_solve_7) rfl rfl rfl
theorem z106_8 : Run d 106 8 [a0, a1, a2, some (.int x), a4, a5, a6, a7, a8] [s0] M 0 0 Z ↔ Run d 106 9 [a0, a1, a2, some (.int x), a4, a5, a6, a7, a8] [.int x, s0] M 0 0 Z := R_local (gd106 dX8_solve_8) rfl rfl rfl
theorem z106_9 : Run d 106 9 [a0, a1, a2, a3, a4, a5, a6, a7, a8] [s1, .ref b] M 0 0 Z ↔ gObj M b 8 ∧ Call d 115 [.ref b, s1] M (fun r M1 => Run d 106 12 [a0, a1, a2, a3, a4, a5, a6, a7, a8] (r.toList ++ []) M1 0 0 Z) := R_callV (gd106 dX8_solve_9) rfl rfl rfl rfl rfl rfl gc_8_103 rfl rfl (Nat.le_of_ble_eq_true rfl) (Nat.le_of_ble_eq_true rfl) rfl rfl (Nat.le_of_ble_eq_true rfl) (Nat.le_of_ble_eq_true rfl)
theorem z106_12 : Run d 106 12 [a0, a1, a2, a3, a4, a5, a6, a7, a8] [.ref o] M 0 0 Z ↔ Run d 106 14 [a0, a1, a2, a3, a4, a5, a6, some (.ref o), a8] [] M 0 0 Z := R_local (gd106 dX8_solve_12) rfl rfl rfl
theorem z106_12n : Run d 106 12 [a0, a1, a2, a3, a4, a5, a6, a7, a8] [.null] M 0 0 Z ↔ Run d 106 14 [a0, a1, a2, a3, a4, a5, a6, some .null, a8] [] M 0 0 Z := R_local (gd106 dX8_solve_12) rfl rfl rfl
theorem z106_14 : Run d 106 14 [a0, a1, a2, a3, a4, a5, some (.ref o), a7, a8] [] M 0 0 Z ↔ Run d 106 16 [a0, a1, a2, a3, a4, a5, some (.ref o), a7, a8] [.ref o] M 0 0 Z := R_local (gd106 dX8_solve_14) rfl rfl rfl
theorem z106_14n : Run d 106 14 [a0, a1, a2, a3, a4, a5, some .null, a7, a8] [] M 0 0 Z ↔ Run d 106 16 [a0, a1, a2, a3, a4, a5, some .null, a7, a8] [.null] M 0 0 Z := R_local (gd106 dX8_solve_14) rfl rfl rfl
theorem z106_16n : Run d 106 16 [a0, a1, a2, a3, a4, a5, a6, a7, a8] [.null] M 0 0 Z ↔ Run d 106 35 [a0, a1, a2, a3, a4, a5, a6, a7, a8] [] M 0 0 Z := R_nullN (gd106 dX8_solve_16) (show gTgt 16 19 = some 35 by decide)
theorem z106_16 : Run d 106 16 [a0, a1, a2, a3, a4, a5, a6, a7, a8] [.ref o] M 0 0 Z ↔ Run d 106 19 [a0, a1, a2, a3, a4, a5, a6, a7, a8] [] M 0 0 Z := R_nullR (gd106 dX8_solve_16) (show gTgt 16 19 = some 35 by decide)
theorem z106_19 : Run d 106 19 [a0, a1, a2, a3, a4, a5, a6, some (.ref o), a8] [] M 0 0 Z ↔ Run d 106 21 [a0, a1, a2, a3, a4, a5, a6, some (.ref o), a8] [.ref o] M 0 0 Z := R_local (gd106 dX8_solve_19) rfl rfl rfl
theorem z106_19n : Run d 106 19 [a0, a1, a2, a3, a4, a5, a6, some .null, a8] [] M 0 0 Z ↔ Run d 106 21 [a0, a1, a2, a3, a4, a5, a6, some .null, a8] [.null] M 0 0 Z := R_local (gd106 dX8_solve_19) rfl rfl rfl
theorem z106_21n : Run d 106 21 [a0, a1, a2, a3, a4, a5, a6, a7, a8] [.null] M 0 0 Z ↔ Run d 106 35 [a0, a1, a2, a3, a4, a5, a6, a7, a8] [] M 0 0 Z := R_nullN (gd106 dX8_solve_21) (show gTgt 21 14 = some 35 by decide)
theorem z106_21 : Run d 106 21 [a0, a1, a2, a3, a4, a5, a6, a7, a8] [.ref o] M 0 0 Z ↔ Run d 106 24 [a0, a1, a2, a3, a4, a5, a6, a7, a8] [] M 0 0 Z := R_nullR (gd106 dX8_solve_21) (show gTgt 21 14 = some 35 by decide)
theorem z106_24 : Run d 106 24 [a0, a1, some (.int x), a3, a4, a5, a6, a7, a8] [] M 0 0 Z ↔ Run d 106 25 [a0, a1, some (.int x), a3, a4, a5, a6, a7, a8] [.int x] M 0 0 Z := R_local (gd106 dX8_solve_24) rfl rfl rfl
theorem z106_25 : Run d 106 25 [some (.ref o), a1, a2, a3, a4, a5, a6, a7, a8] [s0] M 0 0 Z ↔ Run d 106 26 [some (.ref o), a1, a2, a3, a4, a5, a6, a7, a8] [.ref o, s0] M 0 0 Z := R_local (gd106 dX8_solve_25) rfl rfl rfl
theorem z106_26 : Run d 106 26 [a0, a1, a2, a3, a4, a5, a6, a7, a8] [.ref o, s0] M 0 0 Z ↔ gObj M o 8 ∧ Run d 106 29 [a0, a1, a2, a3, a4, a5, a6, a7, a8] [.int (M.1 o 1), s0] M 0 0 Z := R_getI (gd106 dX8_solve_26) rfl gf_8_13 rfl
theorem z106_29 : Run d 106 29 [a0, a1, a2, a3, a4, a5, a6, a7, a8] [s1, s0] M 0 0 Z ↔ Call d 110 [s0, s1] M (fun r M1 => Run d 106 32 [a0, a1, a2, a3, a4, a5, a6, a7, a8] (r.toList ++ []) M1 0 0 Z) := R_call (gd106 dX8_solve_29) rfl rfl rfl rfl rfl rfl gc_8_97 rfl (by decide) (Nat.le_of_ble_eq_true rfl) (Nat.le_of_ble_eq_true rfl) rfl rfl rfl (Nat.le_of_ble_eq_true rfl) (Nat.le_of_ble_eq_true rfl)
theorem z106_32 : Run d 106 32 [a0, a1, a2, a3, a4, a5, a6, a7, a8] [.int x] M 0 0 Z ↔ (¬ x = 0 → Run d 106 37 [a0, a1, a2, a3, a4, a5, a6, a7, a8] [] M 0 0 Z) ∧ (¬ (¬ x = 0) → Run d 106 35 [a0, a1, a2, a3, a4, a5, a6, a7, a8] [] M 0 0 Z) := R_if (gd106 dX8_solve_32) (show gTgt 32 5 = some 37 by decide) gIf_ne
theorem z106_35 : Run d 106 35 [a0, a1, a2, a3, a4, a5, a6, a7, a8] [] M 0 0 Z ↔ Run d 106 36 [a0, a1, a2, a3, a4, a5, a6, a7, a8] [.int (-1)] M 0 0 Z := R_iconst (gd106 dX8_solve_35) (by decide)
theorem z106_36 : Run d 106 36 [a0, a1, a2, a3, a4, a5, a6, a7, a8] [.int x] M 0 0 Z ↔ Z (some (.int x)) M := R_iret (gd106 dX8_solve_36) rfl
theorem z106_37 : Run d 106 37 [a0, a1, a2, a3, some (.int x), a5, a6, a7, a8] [] M 0 0 Z ↔ Run d 106 39 [a0, a1, a2, a3, some (.int x), a5, a6, a7, a8] [.int x] M 0 0 Z := R_local (gd106 dX8_solve_37) rfl rfl rfl
theorem z106_39 : Run d 106 39 [a0, a1, a2, a3, a4, a5, a6, a7, a8] [.int x] M 0 0 Z ↔ (x < 0 → Run d 106 63 [a0, a1, a2, a3, a4, a5, a6, a7, a8] [] M 0 0 Z) ∧ (¬ (x < 0) → Run d 106 42 [a0, a1, a2, a3, a4, a5, a6, a7, a8] [] M 0 0 Z) := R_if (gd106 dX8_solve_39) (show gTgt 39 24 = some 63 by decide) gIf_lt
theorem z106_42 : Run d 106 42 [a0, a1, a2, a3, some (.int x), a5, a6, a7, a8] [] M 0 0 Z ↔ Run d 106 44 [a0, a1, a2, a3, some (.int x), a5, a6, a7, a8] [.int x] M 0 0 Z := R_local (gd106 dX8_solve_42) rfl rfl rfl
theorem z106_44 : Run d 106 44 [a0, a1, a2, a3, a4, a5, a6, a7, a8] [s0] M 0 0 Z ↔ Run d 106 47 [a0, a1, a2, a3, a4, a5, a6, a7, a8] [.int 400, s0] M 0 0 Z := R_sipush (gd106 dX8_solve_44) (by decide)
theorem z106_47 : Run d 106 47 [a0, a1, a2, a3, a4, a5, a6, a7, a8] [.int y, .int x] M 0 0 Z ↔ (y < x → Run d 106 63 [a0, a1, a2, a3, a4, a5, a6, a7, a8] [] M 0 0 Z) ∧ (¬ (y < x) → Run d 106 50 [a0, a1, a2, a3, a4, a5, a6, a7, a8] [] M 0 0 Z) := R_icmp (gd106 dX8_solve_47) (show gTgt 47 16 = some 63 by decide) gIf_gt
theorem z106_50 : Run d 106 50 [a0, a1, a2, a3, a4, some (.int x), a6, a7, a8] [] M 0 0 Z ↔ Run d 106 52 [a0, a1, a2, a3, a4, some (.int x), a6, a7, a8] [.int x] M 0 0 Z := R_local (gd106 dX8_solve_50) rfl rfl rfl
theorem z106_52 : Run d 106 52 [a0, a1, a2, a3, a4, a5, a6, a7, a8] [s0] M 0 0 Z ↔ Run d 106 53 [a0, a1, a2, a3, a4, a5, a6, a7, a8] [.int (-1), s0] M 0 0 Z := R_iconst (gd106 dX8_solve_52) (by decide)
theorem z106_53 : Run d 106 53 [a0, a1, a2, a3, a4, a5, a6, a7, a8] [.int y, .int x] M 0 0 Z ↔ (x < y → Run d 106 63 [a0, a1, a2, a3, a4, a5, a6, a7, a8] [] M 0 0 Z) ∧ (¬ (x < y) → Run d 106 56 [a0, a1, a2, a3, a4, a5, a6, a7, a8] [] M 0 0 Z) := R_icmp (gd106 dX8_solve_53) (show gTgt 53 10 = some 63 by decide) gIf_lt
theorem z106_56 : Run d 106 56 [a0, a1, a2, a3, a4, some (.int x), a6, a7, a8] [] M 0 0 Z ↔ Run d 106 58 [a0, a1, a2, a3, a4, some (.int x), a6, a7, a8] [.int x] M 0 0 Z := R_local (gd106 dX8_solve_56) rfl rfl rfl
theorem z106_58 : Run d 106 58 [a0, a1, a2, a3, a4, a5, a6, a7, a8] [s0] M 0 0 Z ↔ Run d 106 60 [a0, a1, a2, a3, a4, a5, a6, a7, a8] [.int 8, s0] M 0 0 Z := R_bipush (gd106 dX8_solve_58) (by decide)
theorem z106_60 : Run d 106 60 [a0, a1, a2, a3, a4, a5, a6, a7, a8] [.int y, .int x] M 0 0 Z ↔ (x < y → Run d 106 65 [a0, a1, a2, a3, a4, a5, a6, a7, a8] [] M 0 0 Z) ∧ (¬ (x < y) → Run d 106 63 [a0, a1, a2, a3, a4, a5, a6, a7, a8] [] M 0 0 Z) := R_icmp (gd106 dX8_solve_60) (show gTgt 60 5 = some 65 by decide) gIf_lt
theorem z106_63 : Run d 106 63 [a0, a1, a2, a3, a4, a5, a6, a7, a8] [] M 0 0 Z ↔ Run d 106 64 [a0, a1, a2, a3, a4, a5, a6, a7, a8] [.int (-1)] M 0 0 Z := R_iconst (gd106 dX8_solve_63) (by decide)
theorem z106_64 : Run d 106 64 [a0, a1, a2, a3, a4, a5, a6, a7, a8] [.int x] M 0 0 Z ↔ Z (some (.int x)) M := R_iret (gd106 dX8_solve_64) rfl
theorem z106_65 : Run d 106 65 [a0, a1, a2, a3, a4, a5, a6, a7, a8] [] M 0 0 Z ↔ Run d 106 66 [a0, a1, a2, a3, a4, a5, a6, a7, a8] [.int 0] M 0 0 Z := R_iconst (gd106 dX8_solve_65) (by decide)
theorem z106_66 : Run d 106 66 [a0, a1, a2, a3, a4, a5, a6, a7, a8] [.int x] M 0 0 Z ↔ Run d 106 68 [a0, a1, a2, a3, a4, a5, a6, a7, some (.int x)] [] M 0 0 Z := R_local (gd106 dX8_solve_66) rfl rfl rfl
theorem z106_68 : Run d 106 68 [a0, a1, a2, a3, a4, a5, a6, a7, some (.int x)] [] M 0 0 Z ↔ Run d 106 70 [a0, a1, a2, a3, a4, a5, a6, a7, some (.int x)] [.int x] M 0 0 Z := R_local (gd106 dX8_solve_68) rfl rfl rfl
theorem z106_70 : Run d 106 70 [a0, a1, a2, a3, a4, a5, a6, a7, a8] [s0] M 0 0 Z ↔ Run d 106 72 [a0, a1, a2, a3, a4, a5, a6, a7, a8] [.int 60, s0] M 0 0 Z := R_bipush (gd106 dX8_solve_70) (by decide)
theorem z106_72 : Run d 106 72 [a0, a1, a2, a3, a4, a5, a6, a7, a8] [.int y, .int x] M 0 0 Z ↔ (y < x → Run d 106 165 [a0, a1, a2, a3, a4, a5, a6, a7, a8] [] M 0 0 Z) ∧ (¬ (y < x) → Run d 106 75 [a0, a1, a2, a3, a4, a5, a6, a7, a8] [] M 0 0 Z) := R_icmp (gd106 dX8_solve_72) (show gTgt 72 93 = some 165 by decide) gIf_gt
theorem z106_75 : Run d 106 75 [some (.ref o), a1, a2, a3, a4, a5, a6, a7, a8] [] M 0 0 Z ↔ Run d 106 76 [some (.ref o), a1, a2, a3, a4, a5, a6, a7, a8] [.ref o] M 0 0 Z := R_local (gd106 dX8_solve_75) rfl rfl rfl
theorem z106_76 : Run d 106 76 [a0, a1, a2, a3, a4, a5, a6, a7, a8] [.ref o] M 0 0 Z ↔ gObj M o 8 ∧ Run d 106 79 [a0, a1, a2, a3, a4, a5, a6, a7, a8] [va_rf (M.2.1 o 12)] M 0 0 Z := R_getR (gd106 dX8_solve_76) rfl gf_8_65 rfl
theorem z106_79 : Run d 106 79 [some (.ref o), a1, a2, a3, a4, a5, a6, a7, a8] [s0] M 0 0 Z ↔ Run d 106 80 [some (.ref o), a1, a2, a3, a4, a5, a6, a7, a8] [.ref o, s0] M 0 0 Z := R_local (gd106 dX8_solve_79) rfl rfl rfl
theorem z106_80 : Run d 106 80 [a0, a1, a2, a3, a4, a5, a6, a7, a8] [.ref o, s0] M 0 0 Z ↔ gObj M o 8 ∧ Run d 106 83 [a0, a1, a2, a3, a4, a5, a6, a7, a8] [va_rf (M.2.1 o 0), s0] M 0 0 Z := R_getR (gd106 dX8_solve_80) rfl gf_8_9 rfl
theorem z106_83 : Run d 106 83 [a0, a1, some (.int x), a3, a4, a5, a6, a7, a8] [s1, s0] M 0 0 Z ↔ Run d 106 84 [a0, a1, some (.int x), a3, a4, a5, a6, a7, a8] [.int x, s1, s0] M 0 0 Z := R_local (gd106 dX8_solve_83) rfl rfl rfl
theorem z106_84 : Run d 106 84 [a0, a1, a2, a3, a4, a5, a6, some (.ref o), a8] [s2, s1, s0] M 0 0 Z ↔ Run d 106 86 [a0, a1, a2, a3, a4, a5, a6, some (.ref o), a8] [.ref o, s2, s1, s0] M 0 0 Z := R_local (gd106 dX8_solve_84) rfl rfl rfl
theorem z106_84n : Run d 106 84 [a0, a1, a2, a3, a4, a5, a6, some .null, a8] [s2, s1, s0] M 0 0 Z ↔ Run d 106 86 [a0, a1, a2, a3, a4, a5, a6, some .null, a8] [.null, s2, s1, s0] M 0 0 Z := R_local (gd106 dX8_solve_84) rfl rfl rfl
theorem z106_86 : Run d 106 86 [a0, a1, a2, a3, a4, a5, a6, a7, a8] [.ref o, s2, s1, s0] M 0 0 Z ↔ gObj M o 0 ∧ Run d 106 89 [a0, a1, a2, a3, a4, a5, a6, a7, a8] [.int (M.1 o 0), s2, s1, s0] M 0 0 Z := R_getI (gd106 dX8_solve_86) rfl gf_8_110 rfl
theorem z106_89 : Run d 106 89 [a0, a1, a2, a3, a4, a5, a6, some (.ref o), a8] [s3, s2, s1, s0] M 0 0 Z ↔ Run d 106 91 [a0, a1, a2, a3, a4, a5, a6, some (.ref o), a8] [.ref o, s3, s2, s1, s0] M 0 0 Z := R_local (gd106 dX8_solve_89) rfl rfl rfl
theorem z106_89n : Run d 106 89 [a0, a1, a2, a3, a4, a5, a6, some .null, a8] [s3, s2, s1, s0] M 0 0 Z ↔ Run d 106 91 [a0, a1, a2, a3, a4, a5, a6, some .null, a8] [.null, s3, s2, s1, s0] M 0 0 Z := R_local (gd106 dX8_solve_89) rfl rfl rfl
theorem z106_91 : Run d 106 91 [a0, a1, a2, a3, a4, a5, a6, a7, a8] [.ref o, s3, s2, s1, s0] M 0 0 Z ↔ gObj M o 0 ∧ Run d 106 94 [a0, a1, a2, a3, a4, a5, a6, a7, a8] [.int (M.1 o 1), s3, s2, s1, s0] M 0 0 Z := R_getI (gd106 dX8_solve_91) rfl gf_8_134 rfl
theorem z106_94 : Run d 106 94 [a0, a1, a2, a3, a4, a5, a6, a7, a8] [s4, s3, s2, s1, .ref b] M 0 0 Z ↔ gObj M b 1 ∧ Call d 4 [.ref b, s1, s2, s3, s4] M (fun r M1 => Run d 106 97 [a0, a1, a2, a3, a4, a5, a6, a7, a8] (r.toList ++ []) M1 0 0 Z) := R_callV (gd106 dX8_solve_94) rfl rfl rfl rfl rfl rfl gc_8_137 rfl rfl (Nat.le_of_ble_eq_true rfl) (Nat.le_of_ble_eq_true rfl) rfl rfl (Nat.le_of_ble_eq_true rfl) (Nat.le_of_ble_eq_true rfl)
theorem z106_97 : Run d 106 97 [some (.ref o), a1, a2, a3, a4, a5, a6, a7, a8] [] M 0 0 Z ↔ Run d 106 98 [some (.ref o), a1, a2, a3, a4, a5, a6, a7, a8] [.ref o] M 0 0 Z := R_local (gd106 dX8_solve_97) rfl rfl rfl
theorem z106_98 : Run d 106 98 [a0, a1, a2, a3, a4, a5, a6, a7, a8] [.ref o] M 0 0 Z ↔ gObj M o 8 ∧ Run d 106 101 [a0, a1, a2, a3, a4, a5, a6, a7, a8] [va_rf (M.2.1 o 10)] M 0 0 Z := R_getR (gd106 dX8_solve_98) rfl gf_8_54 rfl
theorem z106_101 : Run d 106 101 [a0, a1, a2, a3, a4, a5, some (.ref o), a7, a8] [s0] M 0 0 Z ↔ Run d 106 103 [a0, a1, a2, a3, a4, a5, some (.ref o), a7, a8] [.ref o, s0] M 0 0 Z := R_local (gd106 dX8_solve_101) rfl rfl rfl
theorem z106_101n : Run d 106 101 [a0, a1, a2, a3, a4, a5, some .null, a7, a8] [s0] M 0 0 Z ↔ Run d 106 103 [a0, a1, a2, a3, a4, a5, some .null, a7, a8] [.null, s0] M 0 0 Z := R_local (gd106 dX8_solve_101) rfl rfl rfl
theorem z106_103 : Run d 106 103 [some (.ref o), a1, a2, a3, a4, a5, a6, a7, a8] [s1, s0] M 0 0 Z ↔ Run d 106 104 [some (.ref o), a1, a2, a3, a4, a5, a6, a7, a8] [.ref o, s1, s0] M 0 0 Z := R_local (gd106 dX8_solve_103) rfl rfl rfl
theorem z106_104 : Run d 106 104 [a0, a1, a2, a3, a4, a5, a6, a7, a8] [.ref o, s1, s0] M 0 0 Z ↔ gObj M o 8 ∧ Run d 106 107 [a0, a1, a2, a3, a4, a5, a6, a7, a8] [va_rf (M.2.1 o 12), s1, s0] M 0 0 Z := R_getR (gd106 dX8_solve_104) rfl gf_8_65 rfl
theorem z106_107 : Run d 106 107 [a0, a1, a2, a3, a4, a5, a6, a7, some (.int x)] [s2, s1, s0] M 0 0 Z ↔ Run d 106 109 [a0, a1, a2, a3, a4, a5, a6, a7, some (.int x)] [.int x, s2, s1, s0] M 0 0 Z := R_local (gd106 dX8_solve_107) rfl rfl rfl
theorem z106_109 : Run d 106 109 [a0, a1, a2, a3, a4, a5, a6, a7, a8] [s3, s2, s1, .ref b] M 0 0 Z ↔ gObj M b 2 ∧ Call d 19 [.ref b, s1, s2, s3] M (fun r M1 => Run d 106 112 [a0, a1, a2, a3, a4, a5, a6, a7, a8] (r.toList ++ []) M1 0 0 Z) := R_callV (gd106 dX8_solve_109) rfl rfl rfl rfl rfl rfl gc_8_141 rfl rfl (Nat.le_of_ble_eq_true rfl) (Nat.le_of_ble_eq_true rfl) rfl rfl (Nat.le_of_ble_eq_true rfl) (Nat.le_of_ble_eq_true rfl)
theorem z106_112 : Run d 106 112 [some (.ref o), a1, a2, a3, a4, a5, a6, a7, a8] [] M 0 0 Z ↔ Run d 106 113 [some (.ref o), a1, a2, a3, a4, a5, a6, a7, a8] [.ref o] M 0 0 Z := R_local (gd106 dX8_solve_112) rfl rfl rfl
theorem z106_113 : Run d 106 113 [a0, a1, a2, a3, a4, a5, a6, a7, a8] [.ref o] M 0 0 Z ↔ gObj M o 8 ∧ Run d 106 116 [a0, a1, a2, a3, a4, a5, a6, a7, a8] [va_rf (M.2.1 o 12)] M 0 0 Z := R_getR (gd106 dX8_solve_113) rfl gf_8_65 rfl
theorem z106_116 : Run d 106 116 [a0, a1, a2, a3, a4, a5, a6, a7, a8] [.ref o] M 0 0 Z ↔ gObj M o 1 ∧ Run d 106 119 [a0, a1, a2, a3, a4, a5, a6, a7, a8] [.int (M.1 o 14)] M 0 0 Z := R_getI (gd106 dX8_solve_116) rfl gf_8_148 rfl
theorem z106_119 : Run d 106 119 [a0, a1, a2, a3, a4, a5, a6, a7, a8] [.int x] M 0 0 Z ↔ (¬ x = 0 → Run d 106 159 [a0, a1, a2, a3, a4, a5, a6, a7, a8] [] M 0 0 Z) ∧ (¬ (¬ x = 0) → Run d 106 122 [a0, a1, a2, a3, a4, a5, a6, a7, a8] [] M 0 0 Z) := R_if (gd106 dX8_solve_119) (show gTgt 119 40 = some 159 by decide) gIf_ne
theorem z106_122 : Run d 106 122 [some (.ref o), a1, a2, a3, a4, a5, a6, a7, a8] [] M 0 0 Z ↔ Run d 106 123 [some (.ref o), a1, a2, a3, a4, a5, a6, a7, a8] [.ref o] M 0 0 Z := R_local (gd106 dX8_solve_122) rfl rfl rfl
theorem z106_123 : Run d 106 123 [a0, a1, a2, a3, a4, a5, a6, a7, a8] [.ref o] M 0 0 Z ↔ gObj M o 8 ∧ Run d 106 126 [a0, a1, a2, a3, a4, a5, a6, a7, a8] [va_rf (M.2.1 o 12)] M 0 0 Z := R_getR (gd106 dX8_solve_123) rfl gf_8_65 rfl
theorem z106_126 : Run d 106 126 [a0, a1, a2, a3, a4, a5, a6, a7, a8] [.ref b] M 0 0 Z ↔ gObj M b 1 ∧ Call d 6 [.ref b] M (fun r M1 => Run d 106 129 [a0, a1, a2, a3, a4, a5, a6, a7, a8] (r.toList ++ []) M1 0 0 Z) := R_callV (gd106 dX8_solve_126) rfl rfl rfl rfl rfl rfl gc_8_228 rfl rfl (Nat.le_of_ble_eq_true rfl) (Nat.le_of_ble_eq_true rfl) rfl rfl (Nat.le_of_ble_eq_true rfl) (Nat.le_of_ble_eq_true rfl)
theorem z106_129 : Run d 106 129 [a0, a1, a2, a3, some (.int x), a5, a6, a7, a8] [s0] M 0 0 Z ↔ Run d 106 131 [a0, a1, a2, a3, some (.int x), a5, a6, a7, a8] [.int x, s0] M 0 0 Z := R_local (gd106 dX8_solve_129) rfl rfl rfl
theorem z106_131 : Run d 106 131 [a0, a1, a2, a3, a4, a5, a6, a7, a8] [.int y, .int x] M 0 0 Z ↔ (y < x → Run d 106 159 [a0, a1, a2, a3, a4, a5, a6, a7, a8] [] M 0 0 Z) ∧ (¬ (y < x) → Run d 106 134 [a0, a1, a2, a3, a4, a5, a6, a7, a8] [] M 0 0 Z) := R_icmp (gd106 dX8_solve_131) (show gTgt 131 28 = some 159 by decide) gIf_gt
theorem z106_134 : Run d 106 134 [some (.ref o), a1, a2, a3, a4, a5, a6, a7, a8] [] M 0 0 Z ↔ Run d 106 135 [some (.ref o), a1, a2, a3, a4, a5, a6, a7, a8] [.ref o] M 0 0 Z := R_local (gd106 dX8_solve_134) rfl rfl rfl
theorem z106_135 : Run d 106 135 [a0, a1, a2, a3, a4, a5, a6, a7, a8] [.ref o] M 0 0 Z ↔ gObj M o 8 ∧ Run d 106 138 [a0, a1, a2, a3, a4, a5, a6, a7, a8] [va_rf (M.2.1 o 12)] M 0 0 Z := R_getR (gd106 dX8_solve_135) rfl gf_8_65 rfl
theorem z106_138 : Run d 106 138 [a0, a1, a2, a3, a4, a5, a6, a7, a8] [.ref o] M 0 0 Z ↔ gObj M o 1 ∧ Run d 106 141 [a0, a1, a2, a3, a4, a5, a6, a7, a8] [.int (M.1 o 11)] M 0 0 Z := R_getI (gd106 dX8_solve_138) rfl gf_8_232 rfl
theorem z106_141 : Run d 106 141 [a0, a1, a2, a3, a4, a5, a6, a7, a8] [.int x] M 0 0 Z ↔ (x = 0 → Run d 106 159 [a0, a1, a2, a3, a4, a5, a6, a7, a8] [] M 0 0 Z) ∧ (¬ (x = 0) → Run d 106 144 [a0, a1, a2, a3, a4, a5, a6, a7, a8] [] M 0 0 Z) := R_if (gd106 dX8_solve_141) (show gTgt 141 18 = some 159 by decide) gIf_eq
theorem z106_144 : Run d 106 144 [some (.ref o), a1, a2, a3, a4, a5, a6, a7, a8] [] M 0 0 Z ↔ Run d 106 145 [some (.ref o), a1, a2, a3, a4, a5, a6, a7, a8] [.ref o] M 0 0 Z := R_local (gd106 dX8_solve_144) rfl rfl rfl
theorem z106_145 : Run d 106 145 [a0, a1, a2, a3, a4, a5, a6, a7, a8] [.ref o] M 0 0 Z ↔ gObj M o 8 ∧ Run d 106 148 [a0, a1, a2, a3, a4, a5, a6, a7, a8] [va_rf (M.2.1 o 12)] M 0 0 Z := R_getR (gd106 dX8_solve_145) rfl gf_8_65 rfl
theorem z106_148 : Run d 106 148 [a0, a1, a2, a3, a4, a5, a6, a7, a8] [.ref o] M 0 0 Z ↔ gObj M o 1 ∧ Run d 106 151 [a0, a1, a2, a3, a4, a5, a6, a7, a8] [.int (M.1 o 12)] M 0 0 Z := R_getI (gd106 dX8_solve_148) rfl gf_8_235 rfl
theorem z106_151 : Run d 106 151 [a0, a1, a2, a3, a4, some (.int x), a6, a7, a8] [s0] M 0 0 Z ↔ Run d 106 153 [a0, a1, a2, a3, a4, some (.int x), a6, a7, a8] [.int x, s0] M 0 0 Z := R_local (gd106 dX8_solve_151) rfl rfl rfl
theorem z106_153 : Run d 106 153 [a0, a1, a2, a3, a4, a5, a6, a7, a8] [.int y, .int x] M 0 0 Z ↔ (¬ x = y → Run d 106 159 [a0, a1, a2, a3, a4, a5, a6, a7, a8] [] M 0 0 Z) ∧ (¬ (¬ x = y) → Run d 106 156 [a0, a1, a2, a3, a4, a5, a6, a7, a8] [] M 0 0 Z) := R_icmp (gd106 dX8_solve_153) (show gTgt 153 6 = some 159 by decide) gIf_ne
theorem z106_156 : Run d 106 156 [a0, a1, a2, a3, a4, a5, a6, a7, some (.int x)] [] M 0 0 Z ↔ Run d 106 158 [a0, a1, a2, a3, a4, a5, a6, a7, some (.int x)] [.int x] M 0 0 Z := R_local (gd106 dX8_solve_156) rfl rfl rfl
theorem z106_158 : Run d 106 158 [a0, a1, a2, a3, a4, a5, a6, a7, a8] [.int x] M 0 0 Z ↔ Z (some (.int x)) M := R_iret (gd106 dX8_solve_158) rfl
theorem z106_159 : Run d 106 159 [a0, a1, a2, a3, a4, a5, a6, a7, some (.int x)] [] M 0 0 Z ↔ Run d 106 162 [a0, a1, a2, a3, a4, a5, a6, a7, some (.int (x + 1))] [] M 0 0 Z := R_iinc (gd106 dX8_solve_159) (by decide) rfl rfl
theorem z106_162 : Run d 106 162 [a0, a1, a2, a3, a4, a5, a6, a7, a8] [] M 0 0 Z ↔ Run d 106 68 [a0, a1, a2, a3, a4, a5, a6, a7, a8] [] M 0 0 Z := R_goto (gd106 dX8_solve_162) (show gTgt 162 (-94) = some 68 by decide)
theorem z106_165 : Run d 106 165 [a0, a1, a2, a3, a4, a5, a6, a7, a8] [] M 0 0 Z ↔ Run d 106 166 [a0, a1, a2, a3, a4, a5, a6, a7, a8] [.int (-1)] M 0 0 Z := R_iconst (gd106 dX8_solve_165) (by decide)
theorem z106_166 : Run d 106 166 [a0, a1, a2, a3, a4, a5, a6, a7, a8] [.int x] M 0 0 Z ↔ Z (some (.int x)) M := R_iret (gd106 dX8_solve_166) rfl
theorem e106 : Call (d + 1) 106 [s0, s1, s2, s3, s4, s5] M Z ↔ Run d 106 0 [some s0, some s1, some s2, some s3, some s4, some s5, none, none, none] [] M 0 0 Z := Call_iff (Nat.lt_of_lt_of_le (Nat.lt_succ_self 106) (Nat.le_of_ble_eq_true rfl)) (Nat.le_of_ble_eq_true rfl)
/-! 107: X8_read (II)I -/
theorem gd107 {pc : Nat} {r : Except _ _} (h : decode cX8_read pc = r) : decode (gby 107) pc = r := h
theorem z107_0 : Run d 107 0 [some (.ref o), a1, a2, a3] [] M 0 0 Z ↔ Run d 107 1 [some (.ref o), a1, a2, a3] [.ref o] M 0 0 Z := R_local (gd107 dX8_read_0) rfl rfl rfl
theorem z107_1 : Run d 107 1 [a0, a1, some (.int x), a3] [s0] M 0 0 Z ↔ Run d 107 2 [a0, a1, some (.int x), a3] [.int x, s0] M 0 0 Z := R_local (gd107 dX8_read_1) rfl rfl rfl
theorem z107_2 : Run d 107 2 [a0, a1, a2, a3] [s1, .ref b] M 0 0 Z ↔ gObj M b 8 ∧ Call d 115 [.ref b, s1] M (fun r M1 => Run d 107 5 [a0, a1, a2, a3] (r.toList ++ []) M1 0 0 Z) := R_callV (gd107 dX8_read_2) rfl rfl rfl rfl rfl rfl gc_8_103 rfl rfl (Nat.le_of_ble_eq_true rfl) (Nat.le_of_ble_eq_true rfl) rfl rfl (Nat.le_of_ble_eq_true rfl) (Nat.le_of_ble_eq_true rfl)
theorem z107_5 : Run d 107 5 [a0, a1, a2, a3] [.ref o] M 0 0 Z ↔ Run d 107 6 [a0, a1, a2, some (.ref o)] [] M 0 0 Z := R_local (gd107 dX8_read_5) rfl rfl rfl
theorem z107_5n : Run d 107 5 [a0, a1, a2, a3] [.null] M 0 0 Z ↔ Run d 107 6 [a0, a1, a2, some .null] [] M 0 0 Z := R_local (gd107 dX8_read_5) rfl rfl rfl
theorem z107_6 : Run d 107 6 [a0, a1, a2, some (.ref o)] [] M 0 0 Z ↔ Run d 107 7 [a0, a1, a2, some (.ref o)] [.ref o] M 0 0 Z := R_local (gd107 dX8_read_6) rfl rfl rfl
theorem z107_6n : Run d 107 6 [a0, a1, a2, some .null] [] M 0 0 Z ↔ Run d 107 7 [a0, a1, a2, some .null] [.null] M 0 0 Z := R_local (gd107 dX8_read_6) rfl rfl rfl
theorem z107_7n : Run d 107 7 [a0, a1, a2, a3] [.null] M 0 0 Z ↔ Run d 107 30 [a0, a1, a2, a3] [] M 0 0 Z := R_nullN (gd107 dX8_read_7) (show gTgt 7 23 = some 30 by decide)
theorem z107_7 : Run d 107 7 [a0, a1, a2, a3] [.ref o] M 0 0 Z ↔ Run d 107 10 [a0, a1, a2, a3] [] M 0 0 Z := R_nullR (gd107 dX8_read_7) (show gTgt 7 23 = some 30 by decide)
theorem z107_10 : Run d 107 10 [a0, some (.int x), a2, a3] [] M 0 0 Z ↔ Run d 107 11 [a0, some (.int x), a2, a3] [.int x] M 0 0 Z := R_local (gd107 dX8_read_10) rfl rfl rfl
theorem z107_11 : Run d 107 11 [some (.ref o), a1, a2, a3] [s0] M 0 0 Z ↔ Run d 107 12 [some (.ref o), a1, a2, a3] [.ref o, s0] M 0 0 Z := R_local (gd107 dX8_read_11) rfl rfl rfl
theorem z107_12 : Run d 107 12 [a0, a1, a2, a3] [.ref o, s0] M 0 0 Z ↔ gObj M o 8 ∧ Run d 107 15 [a0, a1, a2, a3] [.int (M.1 o 1), s0] M 0 0 Z := R_getI (gd107 dX8_read_12) rfl gf_8_13 rfl
theorem z107_15 : Run d 107 15 [a0, a1, a2, a3] [s1, s0] M 0 0 Z ↔ Call d 110 [s0, s1] M (fun r M1 => Run d 107 18 [a0, a1, a2, a3] (r.toList ++ []) M1 0 0 Z) := R_call (gd107 dX8_read_15) rfl rfl rfl rfl rfl rfl gc_8_97 rfl (by decide) (Nat.le_of_ble_eq_true rfl) (Nat.le_of_ble_eq_true rfl) rfl rfl rfl (Nat.le_of_ble_eq_true rfl) (Nat.le_of_ble_eq_true rfl)
theorem z107_18 : Run d 107 18 [a0, a1, a2, a3] [.int x] M 0 0 Z ↔ (x = 0 → Run d 107 30 [a0, a1, a2, a3] [] M 0 0 Z) ∧ (¬ (x = 0) → Run d 107 21 [a0, a1, a2, a3] [] M 0 0 Z) := R_if (gd107 dX8_read_18) (show gTgt 18 12 = some 30 by decide) gIf_eq
theorem z107_21 : Run d 107 21 [some (.ref o), a1, a2, a3] [] M 0 0 Z ↔ Run d 107 22 [some (.ref o), a1, a2, a3] [.ref o] M 0 0 Z := R_local (gd107 dX8_read_21) rfl rfl rfl
theorem z107_22 : Run d 107 22 [a0, a1, a2, a3] [.ref o] M 0 0 Z ↔ gObj M o 8 ∧ Run d 107 25 [a0, a1, a2, a3] [.int (M.1 o 7)] M 0 0 Z := R_getI (gd107 dX8_read_22) rfl gf_8_38 rfl
theorem z107_25 : Run d 107 25 [a0, a1, a2, a3] [s0] M 0 0 Z ↔ Run d 107 27 [a0, a1, a2, a3] [.int 64, s0] M 0 0 Z := R_bipush (gd107 dX8_read_25) (by decide)
theorem z107_27 : Run d 107 27 [a0, a1, a2, a3] [.int y, .int x] M 0 0 Z ↔ (y ≤ x → Run d 107 32 [a0, a1, a2, a3] [] M 0 0 Z) ∧ (¬ (y ≤ x) → Run d 107 30 [a0, a1, a2, a3] [] M 0 0 Z) := R_icmp (gd107 dX8_read_27) (show gTgt 27 5 = some 32 by decide) gIf_ge
theorem z107_30 : Run d 107 30 [a0, a1, a2, a3] [] M 0 0 Z ↔ Run d 107 31 [a0, a1, a2, a3] [.int (-1)] M 0 0 Z := R_iconst (gd107 dX8_read_30) (by decide)
theorem z107_31 : Run d 107 31 [a0, a1, a2, a3] [.int x] M 0 0 Z ↔ Z (some (.int x)) M := R_iret (gd107 dX8_read_31) rfl
theorem z107_32 : Run d 107 32 [some (.ref o), a1, a2, a3] [] M 0 0 Z ↔ Run d 107 33 [some (.ref o), a1, a2, a3] [.ref o] M 0 0 Z := R_local (gd107 dX8_read_32) rfl rfl rfl
theorem z107_33 : Run d 107 33 [a0, a1, a2, a3] [s0] M 0 0 Z ↔ Run d 107 34 [a0, a1, a2, a3] [.int 0, s0] M 0 0 Z := R_iconst (gd107 dX8_read_33) (by decide)
theorem z107_34 : Run d 107 34 [a0, a1, a2, a3] [.int x, .ref o] M 0 0 Z ↔ gObj M o 8 ∧ Run d 107 37 [a0, a1, a2, a3] [] (gsI M o 7 x) 0 0 Z := R_putI (gd107 dX8_read_34) rfl gf_8_38 (Or.inl rfl) rfl
theorem z107_37 : Run d 107 37 [some (.ref o), a1, a2, a3] [] M 0 0 Z ↔ Run d 107 38 [some (.ref o), a1, a2, a3] [.ref o] M 0 0 Z := R_local (gd107 dX8_read_37) rfl rfl rfl
theorem z107_38 : Run d 107 38 [a0, a1, a2, a3] [.ref o] M 0 0 Z ↔ gObj M o 8 ∧ Run d 107 41 [a0, a1, a2, a3] [va_rf (M.2.1 o 14)] M 0 0 Z := R_getR (gd107 dX8_read_38) rfl gf_8_78 rfl
theorem z107_41 : Run d 107 41 [some (.ref o), a1, a2, a3] [s0] M 0 0 Z ↔ Run d 107 42 [some (.ref o), a1, a2, a3] [.ref o, s0] M 0 0 Z := R_local (gd107 dX8_read_41) rfl rfl rfl
theorem z107_42 : Run d 107 42 [a0, a1, a2, a3] [.ref o, s0] M 0 0 Z ↔ gObj M o 8 ∧ Run d 107 45 [a0, a1, a2, a3] [va_rf (M.2.1 o 6), s0] M 0 0 Z := R_getR (gd107 dX8_read_42) rfl gf_8_35 rfl
theorem z107_45 : Run d 107 45 [a0, a1, a2, a3] [s1, .ref b] M 0 0 Z ↔ gObj M b 5 ∧ Call d 58 [.ref b, s1] M (fun r M1 => Run d 107 48 [a0, a1, a2, a3] (r.toList ++ []) M1 0 0 Z) := R_callV (gd107 dX8_read_45) rfl rfl rfl rfl rfl rfl gc_8_238 rfl rfl (Nat.le_of_ble_eq_true rfl) (Nat.le_of_ble_eq_true rfl) rfl rfl (Nat.le_of_ble_eq_true rfl) (Nat.le_of_ble_eq_true rfl)
theorem z107_48 : Run d 107 48 [a0, a1, a2, a3] [.int x] M 0 0 Z ↔ (¬ x = 0 → Run d 107 53 [a0, a1, a2, a3] [] M 0 0 Z) ∧ (¬ (¬ x = 0) → Run d 107 51 [a0, a1, a2, a3] [] M 0 0 Z) := R_if (gd107 dX8_read_48) (show gTgt 48 5 = some 53 by decide) gIf_ne
theorem z107_51 : Run d 107 51 [a0, a1, a2, a3] [] M 0 0 Z ↔ Run d 107 52 [a0, a1, a2, a3] [.int (-1)] M 0 0 Z := R_iconst (gd107 dX8_read_51) (by decide)
theorem z107_52 : Run d 107 52 [a0, a1, a2, a3] [.int x] M 0 0 Z ↔ Z (some (.int x)) M := R_iret (gd107 dX8_read_52) rfl
theorem z107_53 : Run d 107 53 [some (.ref o), a1, a2, a3] [] M 0 0 Z ↔ Run d 107 54 [some (.ref o), a1, a2, a3] [.ref o] M 0 0 Z := R_local (gd107 dX8_read_53) rfl rfl rfl
theorem z107_54 : Run d 107 54 [a0, a1, a2, a3] [.ref o] M 0 0 Z ↔ gObj M o 8 ∧ Run d 107 57 [a0, a1, a2, a3] [va_rf (M.2.1 o 12)] M 0 0 Z := R_getR (gd107 dX8_read_54) rfl gf_8_65 rfl
theorem z107_57 : Run d 107 57 [some (.ref o), a1, a2, a3] [s0] M 0 0 Z ↔ Run d 107 58 [some (.ref o), a1, a2, a3] [.ref o, s0] M 0 0 Z := R_local (gd107 dX8_read_57) rfl rfl rfl
theorem z107_58 : Run d 107 58 [a0, a1, a2, a3] [.ref o, s0] M 0 0 Z ↔ gObj M o 8 ∧ Run d 107 61 [a0, a1, a2, a3] [va_rf (M.2.1 o 0), s0] M 0 0 Z := R_getR (gd107 dX8_read_58) rfl gf_8_9 rfl
theorem z107_61 : Run d 107 61 [a0, some (.int x), a2, a3] [s1, s0] M 0 0 Z ↔ Run d 107 62 [a0, some (.int x), a2, a3] [.int x, s1, s0] M 0 0 Z := R_local (gd107 dX8_read_61) rfl rfl rfl
theorem z107_62 : Run d 107 62 [a0, a1, a2, some (.ref o)] [s2, s1, s0] M 0 0 Z ↔ Run d 107 63 [a0, a1, a2, some (.ref o)] [.ref o, s2, s1, s0] M 0 0 Z := R_local (gd107 dX8_read_62) rfl rfl rfl
theorem z107_62n : Run d 107 62 [a0, a1, a2, some .null] [s2, s1, s0] M 0 0 Z ↔ Run d 107 63 [a0, a1, a2, some .null] [.null, s2, s1, s0] M 0 0 Z := R_local (gd107 dX8_read_62) rfl rfl rfl
theorem z107_63 : Run d 107 63 [a0, a1, a2, a3] [.ref o, s2, s1, s0] M 0 0 Z ↔ gObj M o 0 ∧ Run d 107 66 [a0, a1, a2, a3] [.int (M.1 o 0), s2, s1, s0] M 0 0 Z := R_getI (gd107 dX8_read_63) rfl gf_8_110 rfl
theorem z107_66 : Run d 107 66 [a0, a1, a2, some (.ref o)] [s3, s2, s1, s0] M 0 0 Z ↔ Run d 107 67 [a0, a1, a2, some (.ref o)] [.ref o, s3, s2, s1, s0] M 0 0 Z := R_local (gd107 dX8_read_66) rfl rfl rfl
theorem z107_66n : Run d 107 66 [a0, a1, a2, some .null] [s3, s2, s1, s0] M 0 0 Z ↔ Run d 107 67 [a0, a1, a2, some .null] [.null, s3, s2, s1, s0] M 0 0 Z := R_local (gd107 dX8_read_66) rfl rfl rfl
theorem z107_67 : Run d 107 67 [a0, a1, a2, a3] [.ref o, s3, s2, s1, s0] M 0 0 Z ↔ gObj M o 0 ∧ Run d 107 70 [a0, a1, a2, a3] [.int (M.1 o 1), s3, s2, s1, s0] M 0 0 Z := R_getI (gd107 dX8_read_67) rfl gf_8_134 rfl
theorem z107_70 : Run d 107 70 [a0, a1, a2, a3] [s4, s3, s2, s1, .ref b] M 0 0 Z ↔ gObj M b 1 ∧ Call d 4 [.ref b, s1, s2, s3, s4] M (fun r M1 => Run d 107 73 [a0, a1, a2, a3] (r.toList ++ []) M1 0 0 Z) := R_callV (gd107 dX8_read_70) rfl rfl rfl rfl rfl rfl gc_8_137 rfl rfl (Nat.le_of_ble_eq_true rfl) (Nat.le_of_ble_eq_true rfl) rfl rfl (Nat.le_of_ble_eq_true rfl) (Nat.le_of_ble_eq_true rfl)
theorem z107_73 : Run d 107 73 [some (.ref o), a1, a2, a3] [] M 0 0 Z ↔ Run d 107 74 [some (.ref o), a1, a2, a3] [.ref o] M 0 0 Z := R_local (gd107 dX8_read_73) rfl rfl rfl
theorem z107_74 : Run d 107 74 [a0, a1, a2, a3] [.ref o] M 0 0 Z ↔ gObj M o 8 ∧ Run d 107 77 [a0, a1, a2, a3] [va_rf (M.2.1 o 14)] M 0 0 Z := R_getR (gd107 dX8_read_74) rfl gf_8_78 rfl
theorem z107_77 : Run d 107 77 [some (.ref o), a1, a2, a3] [s0] M 0 0 Z ↔ Run d 107 78 [some (.ref o), a1, a2, a3] [.ref o, s0] M 0 0 Z := R_local (gd107 dX8_read_77) rfl rfl rfl
theorem z107_78 : Run d 107 78 [a0, a1, a2, a3] [.ref o, s0] M 0 0 Z ↔ gObj M o 8 ∧ Run d 107 81 [a0, a1, a2, a3] [va_rf (M.2.1 o 12), s0] M 0 0 Z := R_getR (gd107 dX8_read_78) rfl gf_8_65 rfl
theorem z107_81 : Run d 107 81 [a0, a1, a2, some (.ref o)] [s1, s0] M 0 0 Z ↔ Run d 107 82 [a0, a1, a2, some (.ref o)] [.ref o, s1, s0] M 0 0 Z := R_local (gd107 dX8_read_81) rfl rfl rfl
theorem z107_81n : Run d 107 81 [a0, a1, a2, some .null] [s1, s0] M 0 0 Z ↔ Run d 107 82 [a0, a1, a2, some .null] [.null, s1, s0] M 0 0 Z := R_local (gd107 dX8_read_81) rfl rfl rfl
theorem z107_82 : Run d 107 82 [a0, a1, a2, a3] [s2, s1, .ref b] M 0 0 Z ↔ gObj M b 5 ∧ Call d 59 [.ref b, s1, s2] M (fun r M1 => Run d 107 85 [a0, a1, a2, a3] (r.toList ++ []) M1 0 0 Z) := R_callV (gd107 dX8_read_82) rfl rfl rfl rfl rfl rfl gc_8_242 rfl rfl (Nat.le_of_ble_eq_true rfl) (Nat.le_of_ble_eq_true rfl) rfl rfl (Nat.le_of_ble_eq_true rfl) (Nat.le_of_ble_eq_true rfl)
theorem z107_85 : Run d 107 85 [a0, a1, a2, a3] [.int x] M 0 0 Z ↔ Z (some (.int x)) M := R_iret (gd107 dX8_read_85) rfl
theorem e107 : Call (d + 1) 107 [s0, s1, s2] M Z ↔ Run d 107 0 [some s0, some s1, some s2, none] [] M 0 0 Z := Call_iff (Nat.lt_of_lt_of_le (Nat.lt_succ_self 107) (Nat.le_of_ble_eq_true rfl)) (Nat.le_of_ble_eq_true rfl)
/-! 108: X8_wrote (I)I -/
theorem gd108 {pc : Nat} {r : Except _ _} (h : decode cX8_wrote pc = r) : decode (gby 108) pc = r := h
theorem z108_0 : Run d 108 0 [a0, some (.int x)] [] M 0 0 Z ↔ Run d 108 1 [a0, some (.int x)] [.int x] M 0 0 Z := R_local (gd108 dX8_wrote_0) rfl rfl rfl
theorem z108_1 : Run d 108 1 [some (.ref o), a1] [s0] M 0 0 Z ↔ Run d 108 2 [some (.ref o), a1] [.ref o, s0] M 0 0 Z := R_local (gd108 dX8_wrote_1) rfl rfl rfl
theorem z108_2 : Run d 108 2 [a0, a1] [.ref o, s0] M 0 0 Z ↔ gObj M o 8 ∧ Run d 108 5 [a0, a1] [va_rf (M.2.1 o 14), s0] M 0 0 Z := R_getR (gd108 dX8_wrote_2) rfl gf_8_78 rfl
theorem z108_5 : Run d 108 5 [a0, a1] [.ref o, s0] M 0 0 Z ↔ gObj M o 5 ∧ Run d 108 8 [a0, a1] [.int (M.1 o 9), s0] M 0 0 Z := R_getI (gd108 dX8_wrote_5) rfl gf_8_246 rfl
theorem z108_8 : Run d 108 8 [a0, a1] [s1, s0] M 0 0 Z ↔ Call d 110 [s0, s1] M (fun r M1 => Run d 108 11 [a0, a1] (r.toList ++ []) M1 0 0 Z) := R_call (gd108 dX8_wrote_8) rfl rfl rfl rfl rfl rfl gc_8_97 rfl (by decide) (Nat.le_of_ble_eq_true rfl) (Nat.le_of_ble_eq_true rfl) rfl rfl rfl (Nat.le_of_ble_eq_true rfl) (Nat.le_of_ble_eq_true rfl)
theorem z108_11 : Run d 108 11 [a0, a1] [.int x] M 0 0 Z ↔ (x = 0 → Run d 108 31 [a0, a1] [] M 0 0 Z) ∧ (¬ (x = 0) → Run d 108 14 [a0, a1] [] M 0 0 Z) := R_if (gd108 dX8_wrote_11) (show gTgt 11 20 = some 31 by decide) gIf_eq
theorem z108_14 : Run d 108 14 [a0, some (.int x)] [] M 0 0 Z ↔ Run d 108 15 [a0, some (.int x)] [.int x] M 0 0 Z := R_local (gd108 dX8_wrote_14) rfl rfl rfl
theorem z108_15 : Run d 108 15 [a0, a1] [s0] M 0 0 Z ↔ Run d 108 16 [a0, a1] [.int 4, s0] M 0 0 Z := R_iconst (gd108 dX8_wrote_15) (by decide)
theorem z108_16 : Run d 108 16 [a0, a1] [.int y, .int x] M 0 0 Z ↔ (y ≤ x → Run d 108 31 [a0, a1] [] M 0 0 Z) ∧ (¬ (y ≤ x) → Run d 108 19 [a0, a1] [] M 0 0 Z) := R_icmp (gd108 dX8_wrote_16) (show gTgt 16 15 = some 31 by decide) gIf_ge
theorem z108_19 : Run d 108 19 [some (.ref o), a1] [] M 0 0 Z ↔ Run d 108 20 [some (.ref o), a1] [.ref o] M 0 0 Z := R_local (gd108 dX8_wrote_19) rfl rfl rfl
theorem z108_20 : Run d 108 20 [a0, a1] [.ref o] M 0 0 Z ↔ gObj M o 8 ∧ Run d 108 23 [a0, a1] [va_rf (M.2.1 o 14)] M 0 0 Z := R_getR (gd108 dX8_wrote_20) rfl gf_8_78 rfl
theorem z108_23 : Run d 108 23 [a0, a1] [.ref o] M 0 0 Z ↔ gObj M o 5 ∧ Run d 108 26 [a0, a1] [va_rf (M.2.1 o 8)] M 0 0 Z := R_getR (gd108 dX8_wrote_23) rfl gf_8_249 rfl
theorem z108_26 : Run d 108 26 [a0, some (.int x)] [s0] M 0 0 Z ↔ Run d 108 27 [a0, some (.int x)] [.int x, s0] M 0 0 Z := R_local (gd108 dX8_wrote_26) rfl rfl rfl
theorem z108_27 : Run d 108 27 [a0, a1] [.int x, .ref o] M 0 0 Z ↔ gAr M o 0 ∧ gIn x (gLen M o) = true ∧ Run d 108 28 [a0, a1] [.int (M.1 o x.toNatClampNeg)] M 0 0 Z := R_iald (gd108 dX8_wrote_27)
theorem z108_28 : Run d 108 28 [a0, a1] [s0] M 0 0 Z ↔ Run d 108 32 [a0, a1] [s0] M 0 0 Z := R_goto (gd108 dX8_wrote_28) (show gTgt 28 4 = some 32 by decide)
theorem z108_31 : Run d 108 31 [a0, a1] [] M 0 0 Z ↔ Run d 108 32 [a0, a1] [.int (-1)] M 0 0 Z := R_iconst (gd108 dX8_wrote_31) (by decide)
theorem z108_32 : Run d 108 32 [a0, a1] [.int x] M 0 0 Z ↔ Z (some (.int x)) M := R_iret (gd108 dX8_wrote_32) rfl
theorem e108 : Call (d + 1) 108 [s0, s1] M Z ↔ Run d 108 0 [some s0, some s1] [] M 0 0 Z := Call_iff (Nat.lt_of_lt_of_le (Nat.lt_succ_self 108) (Nat.le_of_ble_eq_true rfl)) (Nat.le_of_ble_eq_true rfl)
/-! 109: X8_count (I)I -/
theorem gd109 {pc : Nat} {r : Except _ _} (h : decode cX8_count pc = r) : decode (gby 109) pc = r := h
theorem z109_0 : Run d 109 0 [a0, some (.int x), a2] [] M 0 0 Z ↔ Run d 109 1 [a0, some (.int x), a2] [.int x] M 0 0 Z := R_local (gd109 dX8_count_0) rfl rfl rfl
theorem z109_1 : Run d 109 1 [a0, a1, a2] [s0] M 0 0 Z ↔ Run d 109 4 [a0, a1, a2] [.int 200, s0] M 0 0 Z := R_sipush (gd109 dX8_count_1) (by decide)
theorem z109_4 : Run d 109 4 [a0, a1, a2] [.int y, .int x] M 0 0 Z ↔ (x < y → Run d 109 30 [a0, a1, a2] [] M 0 0 Z) ∧ (¬ (x < y) → Run d 109 7 [a0, a1, a2] [] M 0 0 Z) := R_icmp (gd109 dX8_count_4) (show gTgt 4 26 = some 30 by decide) gIf_lt
theorem z109_7 : Run d 109 7 [some (.ref o), a1, a2] [] M 0 0 Z ↔ Run d 109 8 [some (.ref o), a1, a2] [.ref o] M 0 0 Z := R_local (gd109 dX8_count_7) rfl rfl rfl
theorem z109_8 : Run d 109 8 [a0, some (.int x), a2] [s0] M 0 0 Z ↔ Run d 109 9 [a0, some (.int x), a2] [.int x, s0] M 0 0 Z := R_local (gd109 dX8_count_8) rfl rfl rfl
theorem z109_9 : Run d 109 9 [a0, a1, a2] [s1, s0] M 0 0 Z ↔ Run d 109 12 [a0, a1, a2] [.int 200, s1, s0] M 0 0 Z := R_sipush (gd109 dX8_count_9) (by decide)
theorem z109_12 : Run d 109 12 [a0, a1, a2] [.int y, .int x, s0] M 0 0 Z ↔ Run d 109 13 [a0, a1, a2] [.int (x - y), s0] M 0 0 Z := R_arith (gd109 dX8_count_12) rfl
theorem z109_13 : Run d 109 13 [a0, a1, a2] [s1, .ref b] M 0 0 Z ↔ gObj M b 8 ∧ Call d 116 [.ref b, s1] M (fun r M1 => Run d 109 16 [a0, a1, a2] (r.toList ++ []) M1 0 0 Z) := R_callV (gd109 dX8_count_13) rfl rfl rfl rfl rfl rfl gc_8_130 rfl rfl (Nat.le_of_ble_eq_true rfl) (Nat.le_of_ble_eq_true rfl) rfl rfl (Nat.le_of_ble_eq_true rfl) (Nat.le_of_ble_eq_true rfl)
theorem z109_16 : Run d 109 16 [a0, a1, a2] [.ref o] M 0 0 Z ↔ Run d 109 17 [a0, a1, some (.ref o)] [] M 0 0 Z := R_local (gd109 dX8_count_16) rfl rfl rfl
theorem z109_16n : Run d 109 16 [a0, a1, a2] [.null] M 0 0 Z ↔ Run d 109 17 [a0, a1, some .null] [] M 0 0 Z := R_local (gd109 dX8_count_16) rfl rfl rfl
theorem z109_17 : Run d 109 17 [a0, a1, some (.ref o)] [] M 0 0 Z ↔ Run d 109 18 [a0, a1, some (.ref o)] [.ref o] M 0 0 Z := R_local (gd109 dX8_count_17) rfl rfl rfl
theorem z109_17n : Run d 109 17 [a0, a1, some .null] [] M 0 0 Z ↔ Run d 109 18 [a0, a1, some .null] [.null] M 0 0 Z := R_local (gd109 dX8_count_17) rfl rfl rfl
theorem z109_18n : Run d 109 18 [a0, a1, a2] [.null] M 0 0 Z ↔ Run d 109 21 [a0, a1, a2] [] M 0 0 Z := R_nonnullN (gd109 dX8_count_18) (show gTgt 18 7 = some 25 by decide)
theorem z109_18 : Run d 109 18 [a0, a1, a2] [.ref o] M 0 0 Z ↔ Run d 109 25 [a0, a1, a2] [] M 0 0 Z := R_nonnullR (gd109 dX8_count_18) (show gTgt 18 7 = some 25 by decide)
theorem z109_21 : Run d 109 21 [a0, a1, a2] [] M 0 0 Z ↔ Run d 109 22 [a0, a1, a2] [.int (-1)] M 0 0 Z := R_iconst (gd109 dX8_count_21) (by decide)
theorem z109_22 : Run d 109 22 [a0, a1, a2] [s0] M 0 0 Z ↔ Run d 109 29 [a0, a1, a2] [s0] M 0 0 Z := R_goto (gd109 dX8_count_22) (show gTgt 22 7 = some 29 by decide)
theorem z109_25 : Run d 109 25 [a0, a1, some (.ref o)] [] M 0 0 Z ↔ Run d 109 26 [a0, a1, some (.ref o)] [.ref o] M 0 0 Z := R_local (gd109 dX8_count_25) rfl rfl rfl
theorem z109_25n : Run d 109 25 [a0, a1, some .null] [] M 0 0 Z ↔ Run d 109 26 [a0, a1, some .null] [.null] M 0 0 Z := R_local (gd109 dX8_count_25) rfl rfl rfl
theorem z109_26 : Run d 109 26 [a0, a1, a2] [.ref o] M 0 0 Z ↔ gObj M o 7 ∧ Run d 109 29 [a0, a1, a2] [.int (M.1 o 1)] M 0 0 Z := R_getI (gd109 dX8_count_26) rfl gf_8_252 rfl
theorem z109_29 : Run d 109 29 [a0, a1, a2] [.int x] M 0 0 Z ↔ Z (some (.int x)) M := R_iret (gd109 dX8_count_29) rfl
theorem z109_30 : Run d 109 30 [a0, some (.int x), a2] [] M 0 0 Z ↔ Run d 109 31 [a0, some (.int x), a2] [.int x] M 0 0 Z := R_local (gd109 dX8_count_30) rfl rfl rfl
theorem z109_31 : Run d 109 31 [a0, a1, a2] [s0] M 0 0 Z ↔ Run d 109 33 [a0, a1, a2] [.int 100, s0] M 0 0 Z := R_bipush (gd109 dX8_count_31) (by decide)
theorem z109_33 : Run d 109 33 [a0, a1, a2] [.int y, .int x] M 0 0 Z ↔ (x < y → Run d 109 68 [a0, a1, a2] [] M 0 0 Z) ∧ (¬ (x < y) → Run d 109 36 [a0, a1, a2] [] M 0 0 Z) := R_icmp (gd109 dX8_count_33) (show gTgt 33 35 = some 68 by decide) gIf_lt
theorem z109_36 : Run d 109 36 [some (.ref o), a1, a2] [] M 0 0 Z ↔ Run d 109 37 [some (.ref o), a1, a2] [.ref o] M 0 0 Z := R_local (gd109 dX8_count_36) rfl rfl rfl
theorem z109_37 : Run d 109 37 [a0, some (.int x), a2] [s0] M 0 0 Z ↔ Run d 109 38 [a0, some (.int x), a2] [.int x, s0] M 0 0 Z := R_local (gd109 dX8_count_37) rfl rfl rfl
theorem z109_38 : Run d 109 38 [a0, a1, a2] [s1, s0] M 0 0 Z ↔ Run d 109 40 [a0, a1, a2] [.int 100, s1, s0] M 0 0 Z := R_bipush (gd109 dX8_count_38) (by decide)
theorem z109_40 : Run d 109 40 [a0, a1, a2] [.int y, .int x, s0] M 0 0 Z ↔ Run d 109 41 [a0, a1, a2] [.int (x - y), s0] M 0 0 Z := R_arith (gd109 dX8_count_40) rfl
theorem z109_41 : Run d 109 41 [a0, a1, a2] [s1, s0] M 0 0 Z ↔ Run d 109 43 [a0, a1, a2] [.int 10, s1, s0] M 0 0 Z := R_bipush (gd109 dX8_count_41) (by decide)
theorem z109_43 (hy : ¬ y = 0) : Run d 109 43 [a0, a1, a2] [.int y, .int x, s0] M 0 0 Z ↔ Run d 109 44 [a0, a1, a2] [.int (x / y), s0] M 0 0 Z := R_div (gd109 dX8_count_43) hy
theorem z109_44 : Run d 109 44 [a0, a1, a2] [s1, .ref b] M 0 0 Z ↔ gObj M b 8 ∧ Call d 115 [.ref b, s1] M (fun r M1 => Run d 109 47 [a0, a1, a2] (r.toList ++ []) M1 0 0 Z) := R_callV (gd109 dX8_count_44) rfl rfl rfl rfl rfl rfl gc_8_103 rfl rfl (Nat.le_of_ble_eq_true rfl) (Nat.le_of_ble_eq_true rfl) rfl rfl (Nat.le_of_ble_eq_true rfl) (Nat.le_of_ble_eq_true rfl)
theorem z109_47 : Run d 109 47 [a0, a1, a2] [.ref o] M 0 0 Z ↔ Run d 109 48 [a0, a1, some (.ref o)] [] M 0 0 Z := R_local (gd109 dX8_count_47) rfl rfl rfl
theorem z109_47n : Run d 109 47 [a0, a1, a2] [.null] M 0 0 Z ↔ Run d 109 48 [a0, a1, some .null] [] M 0 0 Z := R_local (gd109 dX8_count_47) rfl rfl rfl
theorem z109_48 : Run d 109 48 [a0, a1, some (.ref o)] [] M 0 0 Z ↔ Run d 109 49 [a0, a1, some (.ref o)] [.ref o] M 0 0 Z := R_local (gd109 dX8_count_48) rfl rfl rfl
theorem z109_48n : Run d 109 48 [a0, a1, some .null] [] M 0 0 Z ↔ Run d 109 49 [a0, a1, some .null] [.null] M 0 0 Z := R_local (gd109 dX8_count_48) rfl rfl rfl
theorem z109_49n : Run d 109 49 [a0, a1, a2] [.null] M 0 0 Z ↔ Run d 109 52 [a0, a1, a2] [] M 0 0 Z := R_nonnullN (gd109 dX8_count_49) (show gTgt 49 7 = some 56 by decide)
theorem z109_49 : Run d 109 49 [a0, a1, a2] [.ref o] M 0 0 Z ↔ Run d 109 56 [a0, a1, a2] [] M 0 0 Z := R_nonnullR (gd109 dX8_count_49) (show gTgt 49 7 = some 56 by decide)
theorem z109_52 : Run d 109 52 [a0, a1, a2] [] M 0 0 Z ↔ Run d 109 53 [a0, a1, a2] [.int (-1)] M 0 0 Z := R_iconst (gd109 dX8_count_52) (by decide)
theorem z109_53 : Run d 109 53 [a0, a1, a2] [s0] M 0 0 Z ↔ Run d 109 67 [a0, a1, a2] [s0] M 0 0 Z := R_goto (gd109 dX8_count_53) (show gTgt 53 14 = some 67 by decide)
theorem z109_56 : Run d 109 56 [a0, a1, some (.ref o)] [] M 0 0 Z ↔ Run d 109 57 [a0, a1, some (.ref o)] [.ref o] M 0 0 Z := R_local (gd109 dX8_count_56) rfl rfl rfl
theorem z109_56n : Run d 109 56 [a0, a1, some .null] [] M 0 0 Z ↔ Run d 109 57 [a0, a1, some .null] [.null] M 0 0 Z := R_local (gd109 dX8_count_56) rfl rfl rfl
theorem z109_57 : Run d 109 57 [a0, some (.int x), a2] [s0] M 0 0 Z ↔ Run d 109 58 [a0, some (.int x), a2] [.int x, s0] M 0 0 Z := R_local (gd109 dX8_count_57) rfl rfl rfl
theorem z109_58 : Run d 109 58 [a0, a1, a2] [s1, s0] M 0 0 Z ↔ Run d 109 60 [a0, a1, a2] [.int 100, s1, s0] M 0 0 Z := R_bipush (gd109 dX8_count_58) (by decide)
theorem z109_60 : Run d 109 60 [a0, a1, a2] [.int y, .int x, s0] M 0 0 Z ↔ Run d 109 61 [a0, a1, a2] [.int (x - y), s0] M 0 0 Z := R_arith (gd109 dX8_count_60) rfl
theorem z109_61 : Run d 109 61 [a0, a1, a2] [s1, s0] M 0 0 Z ↔ Run d 109 63 [a0, a1, a2] [.int 10, s1, s0] M 0 0 Z := R_bipush (gd109 dX8_count_61) (by decide)
theorem z109_63 (hy : ¬ y = 0) : Run d 109 63 [a0, a1, a2] [.int y, .int x, s0] M 0 0 Z ↔ Run d 109 64 [a0, a1, a2] [.int (x - x / y * y), s0] M 0 0 Z := R_rem (gd109 dX8_count_63) hy
theorem z109_64 : Run d 109 64 [a0, a1, a2] [s1, .ref b] M 0 0 Z ↔ gObj M b 0 ∧ Call d 2 [.ref b, s1] M (fun r M1 => Run d 109 67 [a0, a1, a2] (r.toList ++ []) M1 0 0 Z) := R_callV (gd109 dX8_count_64) rfl rfl rfl rfl rfl rfl gc_8_255 rfl rfl (Nat.le_of_ble_eq_true rfl) (Nat.le_of_ble_eq_true rfl) rfl rfl (Nat.le_of_ble_eq_true rfl) (Nat.le_of_ble_eq_true rfl)
theorem z109_67 : Run d 109 67 [a0, a1, a2] [.int x] M 0 0 Z ↔ Z (some (.int x)) M := R_iret (gd109 dX8_count_67) rfl
theorem z109_68 : Run d 109 68 [a0, some (.int x), a2] [] M 0 0 Z ↔ Run d 109 69 [a0, some (.int x), a2] [.int x] M 0 0 Z := R_local (gd109 dX8_count_68) rfl rfl rfl
theorem z109_69 : Run d 109 69 [a0, a1, a2] [s0] M 0 0 Z ↔ Run d 109 71 [a0, a1, a2] [.int 10, s0] M 0 0 Z := R_bipush (gd109 dX8_count_69) (by decide)
theorem z109_71 : Run d 109 71 [a0, a1, a2] [.int y, .int x] M 0 0 Z ↔ (x < y → Run d 109 105 [a0, a1, a2] [] M 0 0 Z) ∧ (¬ (x < y) → Run d 109 74 [a0, a1, a2] [] M 0 0 Z) := R_icmp (gd109 dX8_count_71) (show gTgt 71 34 = some 105 by decide) gIf_lt
theorem z109_74 : Run d 109 74 [a0, some (.int x), a2] [] M 0 0 Z ↔ Run d 109 75 [a0, some (.int x), a2] [.int x] M 0 0 Z := R_local (gd109 dX8_count_74) rfl rfl rfl
theorem z109_75 : Run d 109 75 [a0, a1, a2] [s0] M 0 0 Z ↔ Run d 109 77 [a0, a1, a2] [.int 10, s0] M 0 0 Z := R_bipush (gd109 dX8_count_75) (by decide)
theorem z109_77 : Run d 109 77 [a0, a1, a2] [.int y, .int x] M 0 0 Z ↔ Run d 109 78 [a0, a1, a2] [.int (x - y)] M 0 0 Z := R_arith (gd109 dX8_count_77) rfl
theorem z109_78 : Run d 109 78 [some (.ref o), a1, a2] [s0] M 0 0 Z ↔ Run d 109 79 [some (.ref o), a1, a2] [.ref o, s0] M 0 0 Z := R_local (gd109 dX8_count_78) rfl rfl rfl
theorem z109_79 : Run d 109 79 [a0, a1, a2] [.ref o, s0] M 0 0 Z ↔ gObj M o 8 ∧ Run d 109 82 [a0, a1, a2] [.int (M.1 o 1), s0] M 0 0 Z := R_getI (gd109 dX8_count_79) rfl gf_8_13 rfl
theorem z109_82 : Run d 109 82 [a0, a1, a2] [s1, s0] M 0 0 Z ↔ Run d 109 84 [a0, a1, a2] [.int 8, s1, s0] M 0 0 Z := R_bipush (gd109 dX8_count_82) (by decide)
theorem z109_84 : Run d 109 84 [a0, a1, a2] [.int y, .int x, s0] M 0 0 Z ↔ Run d 109 85 [a0, a1, a2] [.int (x * y), s0] M 0 0 Z := R_arith (gd109 dX8_count_84) rfl
theorem z109_85 : Run d 109 85 [a0, a1, a2] [s1, s0] M 0 0 Z ↔ Call d 110 [s0, s1] M (fun r M1 => Run d 109 88 [a0, a1, a2] (r.toList ++ []) M1 0 0 Z) := R_call (gd109 dX8_count_85) rfl rfl rfl rfl rfl rfl gc_8_97 rfl (by decide) (Nat.le_of_ble_eq_true rfl) (Nat.le_of_ble_eq_true rfl) rfl rfl rfl (Nat.le_of_ble_eq_true rfl) (Nat.le_of_ble_eq_true rfl)
theorem z109_88 : Run d 109 88 [a0, a1, a2] [.int x] M 0 0 Z ↔ (x = 0 → Run d 109 103 [a0, a1, a2] [] M 0 0 Z) ∧ (¬ (x = 0) → Run d 109 91 [a0, a1, a2] [] M 0 0 Z) := R_if (gd109 dX8_count_88) (show gTgt 88 15 = some 103 by decide) gIf_eq
theorem z109_91 : Run d 109 91 [some (.ref o), a1, a2] [] M 0 0 Z ↔ Run d 109 92 [some (.ref o), a1, a2] [.ref o] M 0 0 Z := R_local (gd109 dX8_count_91) rfl rfl rfl
theorem z109_92 : Run d 109 92 [a0, a1, a2] [.ref o] M 0 0 Z ↔ gObj M o 8 ∧ Run d 109 95 [a0, a1, a2] [va_rf (M.2.1 o 0)] M 0 0 Z := R_getR (gd109 dX8_count_92) rfl gf_8_9 rfl
theorem z109_95 : Run d 109 95 [a0, some (.int x), a2] [s0] M 0 0 Z ↔ Run d 109 96 [a0, some (.int x), a2] [.int x, s0] M 0 0 Z := R_local (gd109 dX8_count_95) rfl rfl rfl
theorem z109_96 : Run d 109 96 [a0, a1, a2] [s1, s0] M 0 0 Z ↔ Run d 109 98 [a0, a1, a2] [.int 10, s1, s0] M 0 0 Z := R_bipush (gd109 dX8_count_96) (by decide)
theorem z109_98 : Run d 109 98 [a0, a1, a2] [.int y, .int x, s0] M 0 0 Z ↔ Run d 109 99 [a0, a1, a2] [.int (x - y), s0] M 0 0 Z := R_arith (gd109 dX8_count_98) rfl
theorem z109_99 : Run d 109 99 [a0, a1, a2] [.int x, .ref o] M 0 0 Z ↔ gAr M o 0 ∧ gIn x (gLen M o) = true ∧ Run d 109 100 [a0, a1, a2] [.int (M.1 o x.toNatClampNeg)] M 0 0 Z := R_iald (gd109 dX8_count_99)
theorem z109_100 : Run d 109 100 [a0, a1, a2] [s0] M 0 0 Z ↔ Run d 109 104 [a0, a1, a2] [s0] M 0 0 Z := R_goto (gd109 dX8_count_100) (show gTgt 100 4 = some 104 by decide)
theorem z109_103 : Run d 109 103 [a0, a1, a2] [] M 0 0 Z ↔ Run d 109 104 [a0, a1, a2] [.int (-1)] M 0 0 Z := R_iconst (gd109 dX8_count_103) (by decide)
theorem z109_104 : Run d 109 104 [a0, a1, a2] [.int x] M 0 0 Z ↔ Z (some (.int x)) M := R_iret (gd109 dX8_count_104) rfl
theorem z109_105 : Run d 109 105 [a0, some (.int x), a2] [] M 0 0 Z ↔ Run d 109 106 [a0, some (.int x), a2] [.int x] M 0 0 Z := R_local (gd109 dX8_count_105) rfl rfl rfl
theorem z109_106 : Run d 109 106 [a0, a1, a2] [.int x] M 0 0 Z ↔ (x = 0 → Run d 109 136 [a0, a1, a2] [] M 0 0 Z) ∧ (¬ x = 0 → ((x = 1 → Run d 109 141 [a0, a1, a2] [] M 0 0 Z) ∧ (¬ x = 1 → ((x = 2 → Run d 109 146 [a0, a1, a2] [] M 0 0 Z) ∧ (¬ x = 2 → ((x = 3 → Run d 109 151 [a0, a1, a2] [] M 0 0 Z) ∧ (¬ x = 3 → (Run d 109 156 [a0, a1, a2] [] M 0 0 Z)))))))) := R_table (tbl := [(0, 136), (1, 141), (2, 146), (3, 151)]) (dt := 156) (gd109 dX8_count_106) (by decide) (by decide) (by decide)
theorem z109_136 : Run d 109 136 [some (.ref o), a1, a2] [] M 0 0 Z ↔ Run d 109 137 [some (.ref o), a1, a2] [.ref o] M 0 0 Z := R_local (gd109 dX8_count_136) rfl rfl rfl
theorem z109_137 : Run d 109 137 [a0, a1, a2] [.ref o] M 0 0 Z ↔ gObj M o 8 ∧ Run d 109 140 [a0, a1, a2] [.int (M.1 o 1)] M 0 0 Z := R_getI (gd109 dX8_count_137) rfl gf_8_13 rfl
theorem z109_140 : Run d 109 140 [a0, a1, a2] [.int x] M 0 0 Z ↔ Z (some (.int x)) M := R_iret (gd109 dX8_count_140) rfl
theorem z109_141 : Run d 109 141 [some (.ref o), a1, a2] [] M 0 0 Z ↔ Run d 109 142 [some (.ref o), a1, a2] [.ref o] M 0 0 Z := R_local (gd109 dX8_count_141) rfl rfl rfl
theorem z109_142 : Run d 109 142 [a0, a1, a2] [.ref o] M 0 0 Z ↔ gObj M o 8 ∧ Run d 109 145 [a0, a1, a2] [.int (M.1 o 3)] M 0 0 Z := R_getI (gd109 dX8_count_142) rfl gf_8_23 rfl
theorem z109_145 : Run d 109 145 [a0, a1, a2] [.int x] M 0 0 Z ↔ Z (some (.int x)) M := R_iret (gd109 dX8_count_145) rfl
theorem z109_146 : Run d 109 146 [some (.ref o), a1, a2] [] M 0 0 Z ↔ Run d 109 147 [some (.ref o), a1, a2] [.ref o] M 0 0 Z := R_local (gd109 dX8_count_146) rfl rfl rfl
theorem z109_147 : Run d 109 147 [a0, a1, a2] [.ref o] M 0 0 Z ↔ gObj M o 8 ∧ Run d 109 150 [a0, a1, a2] [.int (M.1 o 5)] M 0 0 Z := R_getI (gd109 dX8_count_147) rfl gf_8_32 rfl
theorem z109_150 : Run d 109 150 [a0, a1, a2] [.int x] M 0 0 Z ↔ Z (some (.int x)) M := R_iret (gd109 dX8_count_150) rfl
theorem z109_151 : Run d 109 151 [some (.ref o), a1, a2] [] M 0 0 Z ↔ Run d 109 152 [some (.ref o), a1, a2] [.ref o] M 0 0 Z := R_local (gd109 dX8_count_151) rfl rfl rfl
theorem z109_152 : Run d 109 152 [a0, a1, a2] [.ref o] M 0 0 Z ↔ gObj M o 8 ∧ Run d 109 155 [a0, a1, a2] [.int (M.1 o 7)] M 0 0 Z := R_getI (gd109 dX8_count_152) rfl gf_8_38 rfl
theorem z109_155 : Run d 109 155 [a0, a1, a2] [.int x] M 0 0 Z ↔ Z (some (.int x)) M := R_iret (gd109 dX8_count_155) rfl
theorem z109_156 : Run d 109 156 [a0, a1, a2] [] M 0 0 Z ↔ Run d 109 157 [a0, a1, a2] [.int (-1)] M 0 0 Z := R_iconst (gd109 dX8_count_156) (by decide)
theorem z109_157 : Run d 109 157 [a0, a1, a2] [.int x] M 0 0 Z ↔ Z (some (.int x)) M := R_iret (gd109 dX8_count_157) rfl
theorem e109 : Call (d + 1) 109 [s0, s1] M Z ↔ Run d 109 0 [some s0, some s1, none] [] M 0 0 Z := Call_iff (Nat.lt_of_lt_of_le (Nat.lt_succ_self 109) (Nat.le_of_ble_eq_true rfl)) (Nat.le_of_ble_eq_true rfl)
/-! 110: X8_within (II)Z -/
theorem gd110 {pc : Nat} {r : Except _ _} (h : decode cX8_within pc = r) : decode (gby 110) pc = r := h
theorem z110_0 : Run d 110 0 [some (.int x), a1] [] M 0 0 Z ↔ Run d 110 1 [some (.int x), a1] [.int x] M 0 0 Z := R_local (gd110 dX8_within_0) rfl rfl rfl
theorem z110_1 : Run d 110 1 [a0, a1] [.int x] M 0 0 Z ↔ (x < 0 → Run d 110 13 [a0, a1] [] M 0 0 Z) ∧ (¬ (x < 0) → Run d 110 4 [a0, a1] [] M 0 0 Z) := R_if (gd110 dX8_within_1) (show gTgt 1 12 = some 13 by decide) gIf_lt
theorem z110_4 : Run d 110 4 [some (.int x), a1] [] M 0 0 Z ↔ Run d 110 5 [some (.int x), a1] [.int x] M 0 0 Z := R_local (gd110 dX8_within_4) rfl rfl rfl
theorem z110_5 : Run d 110 5 [a0, some (.int x)] [s0] M 0 0 Z ↔ Run d 110 6 [a0, some (.int x)] [.int x, s0] M 0 0 Z := R_local (gd110 dX8_within_5) rfl rfl rfl
theorem z110_6 : Run d 110 6 [a0, a1] [.int y, .int x] M 0 0 Z ↔ (y ≤ x → Run d 110 13 [a0, a1] [] M 0 0 Z) ∧ (¬ (y ≤ x) → Run d 110 9 [a0, a1] [] M 0 0 Z) := R_icmp (gd110 dX8_within_6) (show gTgt 6 7 = some 13 by decide) gIf_ge
theorem z110_9 : Run d 110 9 [a0, a1] [] M 0 0 Z ↔ Run d 110 10 [a0, a1] [.int 1] M 0 0 Z := R_iconst (gd110 dX8_within_9) (by decide)
theorem z110_10 : Run d 110 10 [a0, a1] [s0] M 0 0 Z ↔ Run d 110 14 [a0, a1] [s0] M 0 0 Z := R_goto (gd110 dX8_within_10) (show gTgt 10 4 = some 14 by decide)
theorem z110_13 : Run d 110 13 [a0, a1] [] M 0 0 Z ↔ Run d 110 14 [a0, a1] [.int 0] M 0 0 Z := R_iconst (gd110 dX8_within_13) (by decide)
theorem z110_14 : Run d 110 14 [a0, a1] [.int x] M 0 0 Z ↔ (x = 0 ∨ x = 1) ∧ Z (some (.int x)) M := R_iretZ (gd110 dX8_within_14) rfl
theorem e110 : Call (d + 1) 110 [s0, s1] M Z ↔ Run d 110 0 [some s0, some s1] [] M 0 0 Z := Call_iff (Nat.lt_of_lt_of_le (Nat.lt_succ_self 110) (Nat.le_of_ble_eq_true rfl)) (Nat.le_of_ble_eq_true rfl)
/-! 111: X8_isWidth (I)Z -/
theorem gd111 {pc : Nat} {r : Except _ _} (h : decode cX8_isWidth pc = r) : decode (gby 111) pc = r := h
theorem z111_0 : Run d 111 0 [some (.int x)] [] M 0 0 Z ↔ Run d 111 1 [some (.int x)] [.int x] M 0 0 Z := R_local (gd111 dX8_isWidth_0) rfl rfl rfl
theorem z111_1 : Run d 111 1 [a0] [s0] M 0 0 Z ↔ Run d 111 2 [a0] [.int 1, s0] M 0 0 Z := R_iconst (gd111 dX8_isWidth_1) (by decide)
theorem z111_2 : Run d 111 2 [a0] [.int y, .int x] M 0 0 Z ↔ (x < y → Run d 111 15 [a0] [] M 0 0 Z) ∧ (¬ (x < y) → Run d 111 5 [a0] [] M 0 0 Z) := R_icmp (gd111 dX8_isWidth_2) (show gTgt 2 13 = some 15 by decide) gIf_lt
theorem z111_5 : Run d 111 5 [some (.int x)] [] M 0 0 Z ↔ Run d 111 6 [some (.int x)] [.int x] M 0 0 Z := R_local (gd111 dX8_isWidth_5) rfl rfl rfl
theorem z111_6 : Run d 111 6 [a0] [s0] M 0 0 Z ↔ Run d 111 8 [a0] [.int 9, s0] M 0 0 Z := R_bipush (gd111 dX8_isWidth_6) (by decide)
theorem z111_8 : Run d 111 8 [a0] [.int y, .int x] M 0 0 Z ↔ (y < x → Run d 111 15 [a0] [] M 0 0 Z) ∧ (¬ (y < x) → Run d 111 11 [a0] [] M 0 0 Z) := R_icmp (gd111 dX8_isWidth_8) (show gTgt 8 7 = some 15 by decide) gIf_gt
theorem z111_11 : Run d 111 11 [a0] [] M 0 0 Z ↔ Run d 111 12 [a0] [.int 1] M 0 0 Z := R_iconst (gd111 dX8_isWidth_11) (by decide)
theorem z111_12 : Run d 111 12 [a0] [s0] M 0 0 Z ↔ Run d 111 16 [a0] [s0] M 0 0 Z := R_goto (gd111 dX8_isWidth_12) (show gTgt 12 4 = some 16 by decide)
theorem z111_15 : Run d 111 15 [a0] [] M 0 0 Z ↔ Run d 111 16 [a0] [.int 0] M 0 0 Z := R_iconst (gd111 dX8_isWidth_15) (by decide)
theorem z111_16 : Run d 111 16 [a0] [.int x] M 0 0 Z ↔ (x = 0 ∨ x = 1) ∧ Z (some (.int x)) M := R_iretZ (gd111 dX8_isWidth_16) rfl
theorem e111 : Call (d + 1) 111 [s0] M Z ↔ Run d 111 0 [some s0] [] M 0 0 Z := Call_iff (Nat.lt_of_lt_of_le (Nat.lt_succ_self 111) (Nat.le_of_ble_eq_true rfl)) (Nat.le_of_ble_eq_true rfl)
/-! 112: X8_isHeight (I)Z -/
theorem gd112 {pc : Nat} {r : Except _ _} (h : decode cX8_isHeight pc = r) : decode (gby 112) pc = r := h
theorem z112_0 : Run d 112 0 [some (.int x)] [] M 0 0 Z ↔ Run d 112 1 [some (.int x)] [.int x] M 0 0 Z := R_local (gd112 dX8_isHeight_0) rfl rfl rfl
theorem z112_1 : Run d 112 1 [a0] [s0] M 0 0 Z ↔ Run d 112 2 [a0] [.int 1, s0] M 0 0 Z := R_iconst (gd112 dX8_isHeight_1) (by decide)
theorem z112_2 : Run d 112 2 [a0] [.int y, .int x] M 0 0 Z ↔ (x < y → Run d 112 14 [a0] [] M 0 0 Z) ∧ (¬ (x < y) → Run d 112 5 [a0] [] M 0 0 Z) := R_icmp (gd112 dX8_isHeight_2) (show gTgt 2 12 = some 14 by decide) gIf_lt
theorem z112_5 : Run d 112 5 [some (.int x)] [] M 0 0 Z ↔ Run d 112 6 [some (.int x)] [.int x] M 0 0 Z := R_local (gd112 dX8_isHeight_5) rfl rfl rfl
theorem z112_6 : Run d 112 6 [a0] [s0] M 0 0 Z ↔ Run d 112 7 [a0] [.int 4, s0] M 0 0 Z := R_iconst (gd112 dX8_isHeight_6) (by decide)
theorem z112_7 : Run d 112 7 [a0] [.int y, .int x] M 0 0 Z ↔ (y < x → Run d 112 14 [a0] [] M 0 0 Z) ∧ (¬ (y < x) → Run d 112 10 [a0] [] M 0 0 Z) := R_icmp (gd112 dX8_isHeight_7) (show gTgt 7 7 = some 14 by decide) gIf_gt
theorem z112_10 : Run d 112 10 [a0] [] M 0 0 Z ↔ Run d 112 11 [a0] [.int 1] M 0 0 Z := R_iconst (gd112 dX8_isHeight_10) (by decide)
theorem z112_11 : Run d 112 11 [a0] [s0] M 0 0 Z ↔ Run d 112 15 [a0] [s0] M 0 0 Z := R_goto (gd112 dX8_isHeight_11) (show gTgt 11 4 = some 15 by decide)
theorem z112_14 : Run d 112 14 [a0] [] M 0 0 Z ↔ Run d 112 15 [a0] [.int 0] M 0 0 Z := R_iconst (gd112 dX8_isHeight_14) (by decide)
theorem z112_15 : Run d 112 15 [a0] [.int x] M 0 0 Z ↔ (x = 0 ∨ x = 1) ∧ Z (some (.int x)) M := R_iretZ (gd112 dX8_isHeight_15) rfl
theorem e112 : Call (d + 1) 112 [s0] M Z ↔ Run d 112 0 [some s0] [] M 0 0 Z := Call_iff (Nat.lt_of_lt_of_le (Nat.lt_succ_self 112) (Nat.le_of_ble_eq_true rfl)) (Nat.le_of_ble_eq_true rfl)
/-! 113: X8_isPlace (II)Z -/
theorem gd113 {pc : Nat} {r : Except _ _} (h : decode cX8_isPlace pc = r) : decode (gby 113) pc = r := h
theorem z113_0 : Run d 113 0 [some (.int x), a1] [] M 0 0 Z ↔ Run d 113 1 [some (.int x), a1] [.int x] M 0 0 Z := R_local (gd113 dX8_isPlace_0) rfl rfl rfl
theorem z113_1 : Run d 113 1 [a0, a1] [s0] M 0 0 Z ↔ Run d 113 3 [a0, a1] [.int 8, s0] M 0 0 Z := R_bipush (gd113 dX8_isPlace_1) (by decide)
theorem z113_3 : Run d 113 3 [a0, a1] [s1, s0] M 0 0 Z ↔ Call d 110 [s0, s1] M (fun r M1 => Run d 113 6 [a0, a1] (r.toList ++ []) M1 0 0 Z) := R_call (gd113 dX8_isPlace_3) rfl rfl rfl rfl rfl rfl gc_8_97 rfl (by decide) (Nat.le_of_ble_eq_true rfl) (Nat.le_of_ble_eq_true rfl) rfl rfl rfl (Nat.le_of_ble_eq_true rfl) (Nat.le_of_ble_eq_true rfl)
theorem z113_6 : Run d 113 6 [a0, a1] [.int x] M 0 0 Z ↔ (x = 0 → Run d 113 22 [a0, a1] [] M 0 0 Z) ∧ (¬ (x = 0) → Run d 113 9 [a0, a1] [] M 0 0 Z) := R_if (gd113 dX8_isPlace_6) (show gTgt 6 16 = some 22 by decide) gIf_eq
theorem z113_9 : Run d 113 9 [a0, some (.int x)] [] M 0 0 Z ↔ Run d 113 10 [a0, some (.int x)] [.int x] M 0 0 Z := R_local (gd113 dX8_isPlace_9) rfl rfl rfl
theorem z113_10 : Run d 113 10 [a0, a1] [s0] M 0 0 Z ↔ Run d 113 12 [a0, a1] [.int 8, s0] M 0 0 Z := R_bipush (gd113 dX8_isPlace_10) (by decide)
theorem z113_12 : Run d 113 12 [a0, a1] [s1, s0] M 0 0 Z ↔ Call d 110 [s0, s1] M (fun r M1 => Run d 113 15 [a0, a1] (r.toList ++ []) M1 0 0 Z) := R_call (gd113 dX8_isPlace_12) rfl rfl rfl rfl rfl rfl gc_8_97 rfl (by decide) (Nat.le_of_ble_eq_true rfl) (Nat.le_of_ble_eq_true rfl) rfl rfl rfl (Nat.le_of_ble_eq_true rfl) (Nat.le_of_ble_eq_true rfl)
theorem z113_15 : Run d 113 15 [a0, a1] [.int x] M 0 0 Z ↔ (x = 0 → Run d 113 22 [a0, a1] [] M 0 0 Z) ∧ (¬ (x = 0) → Run d 113 18 [a0, a1] [] M 0 0 Z) := R_if (gd113 dX8_isPlace_15) (show gTgt 15 7 = some 22 by decide) gIf_eq
theorem z113_18 : Run d 113 18 [a0, a1] [] M 0 0 Z ↔ Run d 113 19 [a0, a1] [.int 1] M 0 0 Z := R_iconst (gd113 dX8_isPlace_18) (by decide)
theorem z113_19 : Run d 113 19 [a0, a1] [s0] M 0 0 Z ↔ Run d 113 23 [a0, a1] [s0] M 0 0 Z := R_goto (gd113 dX8_isPlace_19) (show gTgt 19 4 = some 23 by decide)
theorem z113_22 : Run d 113 22 [a0, a1] [] M 0 0 Z ↔ Run d 113 23 [a0, a1] [.int 0] M 0 0 Z := R_iconst (gd113 dX8_isPlace_22) (by decide)
theorem z113_23 : Run d 113 23 [a0, a1] [.int x] M 0 0 Z ↔ (x = 0 ∨ x = 1) ∧ Z (some (.int x)) M := R_iretZ (gd113 dX8_isPlace_23) rfl
theorem e113 : Call (d + 1) 113 [s0, s1] M Z ↔ Run d 113 0 [some s0, some s1] [] M 0 0 Z := Call_iff (Nat.lt_of_lt_of_le (Nat.lt_succ_self 113) (Nat.le_of_ble_eq_true rfl)) (Nat.le_of_ble_eq_true rfl)
/-! 114: X8_setWidth (II)V -/
theorem gd114 {pc : Nat} {r : Except _ _} (h : decode cX8_setWidth pc = r) : decode (gby 114) pc = r := h
theorem z114_0 : Run d 114 0 [some (.ref o), a1, a2, a3] [] M 0 0 Z ↔ Run d 114 1 [some (.ref o), a1, a2, a3] [.ref o] M 0 0 Z := R_local (gd114 dX8_setWidth_0) rfl rfl rfl
theorem z114_1 : Run d 114 1 [a0, a1, a2, a3] [.ref o] M 0 0 Z ↔ gObj M o 8 ∧ Run d 114 4 [a0, a1, a2, a3] [.int (M.1 o 1)] M 0 0 Z := R_getI (gd114 dX8_setWidth_1) rfl gf_8_13 rfl
theorem z114_4 : Run d 114 4 [a0, a1, a2, a3] [s0] M 0 0 Z ↔ Run d 114 6 [a0, a1, a2, a3] [.int 8, s0] M 0 0 Z := R_bipush (gd114 dX8_setWidth_4) (by decide)
theorem z114_6 : Run d 114 6 [a0, a1, a2, a3] [.int y, .int x] M 0 0 Z ↔ Run d 114 7 [a0, a1, a2, a3] [.int (x * y)] M 0 0 Z := R_arith (gd114 dX8_setWidth_6) rfl
theorem z114_7 : Run d 114 7 [a0, some (.int x), a2, a3] [s0] M 0 0 Z ↔ Run d 114 8 [a0, some (.int x), a2, a3] [.int x, s0] M 0 0 Z := R_local (gd114 dX8_setWidth_7) rfl rfl rfl
theorem z114_8 : Run d 114 8 [a0, a1, a2, a3] [.int y, .int x] M 0 0 Z ↔ Run d 114 9 [a0, a1, a2, a3] [.int (x + y)] M 0 0 Z := R_arith (gd114 dX8_setWidth_8) rfl
theorem z114_9 : Run d 114 9 [a0, a1, a2, a3] [.int x] M 0 0 Z ↔ Run d 114 10 [a0, a1, a2, some (.int x)] [] M 0 0 Z := R_local (gd114 dX8_setWidth_9) rfl rfl rfl
theorem z114_10 : Run d 114 10 [a0, a1, a2, some (.int x)] [] M 0 0 Z ↔ Run d 114 11 [a0, a1, a2, some (.int x)] [.int x] M 0 0 Z := R_local (gd114 dX8_setWidth_10) rfl rfl rfl
theorem z114_11 : Run d 114 11 [some (.ref o), a1, a2, a3] [s0] M 0 0 Z ↔ Run d 114 12 [some (.ref o), a1, a2, a3] [.ref o, s0] M 0 0 Z := R_local (gd114 dX8_setWidth_11) rfl rfl rfl
theorem z114_12 : Run d 114 12 [a0, a1, a2, a3] [.ref o, s0] M 0 0 Z ↔ gObj M o 8 ∧ Run d 114 15 [a0, a1, a2, a3] [va_rf (M.2.1 o 0), s0] M 0 0 Z := R_getR (gd114 dX8_setWidth_12) rfl gf_8_9 rfl
theorem z114_15 : Run d 114 15 [a0, a1, a2, a3] [.ref o, s0] M 0 0 Z ↔ (gTy M o).isSome = true ∧ Run d 114 16 [a0, a1, a2, a3] [.int (nI (gLen M o)), s0] M 0 0 Z := R_alen (gd114 dX8_setWidth_15)
theorem z114_16 : Run d 114 16 [a0, a1, a2, a3] [s1, s0] M 0 0 Z ↔ Call d 110 [s0, s1] M (fun r M1 => Run d 114 19 [a0, a1, a2, a3] (r.toList ++ []) M1 0 0 Z) := R_call (gd114 dX8_setWidth_16) rfl rfl rfl rfl rfl rfl gc_8_97 rfl (by decide) (Nat.le_of_ble_eq_true rfl) (Nat.le_of_ble_eq_true rfl) rfl rfl rfl (Nat.le_of_ble_eq_true rfl) (Nat.le_of_ble_eq_true rfl)
theorem z114_19 : Run d 114 19 [a0, a1, a2, a3] [.int x] M 0 0 Z ↔ (x = 0 → Run d 114 29 [a0, a1, a2, a3] [] M 0 0 Z) ∧ (¬ (x = 0) → Run d 114 22 [a0, a1, a2, a3] [] M 0 0 Z) := R_if (gd114 dX8_setWidth_19) (show gTgt 19 10 = some 29 by decide) gIf_eq
theorem z114_22 : Run d 114 22 [some (.ref o), a1, a2, a3] [] M 0 0 Z ↔ Run d 114 23 [some (.ref o), a1, a2, a3] [.ref o] M 0 0 Z := R_local (gd114 dX8_setWidth_22) rfl rfl rfl
theorem z114_23 : Run d 114 23 [a0, a1, a2, a3] [.ref o] M 0 0 Z ↔ gObj M o 8 ∧ Run d 114 26 [a0, a1, a2, a3] [va_rf (M.2.1 o 0)] M 0 0 Z := R_getR (gd114 dX8_setWidth_23) rfl gf_8_9 rfl
theorem z114_26 : Run d 114 26 [a0, a1, a2, some (.int x)] [s0] M 0 0 Z ↔ Run d 114 27 [a0, a1, a2, some (.int x)] [.int x, s0] M 0 0 Z := R_local (gd114 dX8_setWidth_26) rfl rfl rfl
theorem z114_27 : Run d 114 27 [a0, a1, some (.int x), a3] [s1, s0] M 0 0 Z ↔ Run d 114 28 [a0, a1, some (.int x), a3] [.int x, s1, s0] M 0 0 Z := R_local (gd114 dX8_setWidth_27) rfl rfl rfl
theorem z114_28 : Run d 114 28 [a0, a1, a2, a3] [.int y, .int x, .ref o] M 0 0 Z ↔ gAr M o 0 ∧ gIn x (gLen M o) = true ∧ Run d 114 29 [a0, a1, a2, a3] [] (gsI M o x.toNatClampNeg y) 0 0 Z := R_iast (gd114 dX8_setWidth_28)
theorem z114_29 : Run d 114 29 [a0, a1, a2, a3] [] M 0 0 Z ↔ Z none M := R_vret (gd114 dX8_setWidth_29) rfl
theorem e114 : Call (d + 1) 114 [s0, s1, s2] M Z ↔ Run d 114 0 [some s0, some s1, some s2, none] [] M 0 0 Z := Call_iff (Nat.lt_of_lt_of_le (Nat.lt_succ_self 114) (Nat.le_of_ble_eq_true rfl)) (Nat.le_of_ble_eq_true rfl)
/-! 115: X8_clothAt (I)LClothSchool$Cloth; -/
theorem gd115 {pc : Nat} {r : Except _ _} (h : decode cX8_clothAt pc = r) : decode (gby 115) pc = r := h
theorem z115_0 : Run d 115 0 [a0, some (.int x)] [] M 0 0 Z ↔ Run d 115 1 [a0, some (.int x)] [.int x] M 0 0 Z := R_local (gd115 dX8_clothAt_0) rfl rfl rfl
theorem z115_1 : Run d 115 1 [some (.ref o), a1] [s0] M 0 0 Z ↔ Run d 115 2 [some (.ref o), a1] [.ref o, s0] M 0 0 Z := R_local (gd115 dX8_clothAt_1) rfl rfl rfl
theorem z115_2 : Run d 115 2 [a0, a1] [.ref o, s0] M 0 0 Z ↔ gObj M o 8 ∧ Run d 115 5 [a0, a1] [.int (M.1 o 3), s0] M 0 0 Z := R_getI (gd115 dX8_clothAt_2) rfl gf_8_23 rfl
theorem z115_5 : Run d 115 5 [a0, a1] [s1, s0] M 0 0 Z ↔ Call d 110 [s0, s1] M (fun r M1 => Run d 115 8 [a0, a1] (r.toList ++ []) M1 0 0 Z) := R_call (gd115 dX8_clothAt_5) rfl rfl rfl rfl rfl rfl gc_8_97 rfl (by decide) (Nat.le_of_ble_eq_true rfl) (Nat.le_of_ble_eq_true rfl) rfl rfl rfl (Nat.le_of_ble_eq_true rfl) (Nat.le_of_ble_eq_true rfl)
theorem z115_8 : Run d 115 8 [a0, a1] [.int x] M 0 0 Z ↔ (x = 0 → Run d 115 29 [a0, a1] [] M 0 0 Z) ∧ (¬ (x = 0) → Run d 115 11 [a0, a1] [] M 0 0 Z) := R_if (gd115 dX8_clothAt_8) (show gTgt 8 21 = some 29 by decide) gIf_eq
theorem z115_11 : Run d 115 11 [a0, some (.int x)] [] M 0 0 Z ↔ Run d 115 12 [a0, some (.int x)] [.int x] M 0 0 Z := R_local (gd115 dX8_clothAt_11) rfl rfl rfl
theorem z115_12 : Run d 115 12 [some (.ref o), a1] [s0] M 0 0 Z ↔ Run d 115 13 [some (.ref o), a1] [.ref o, s0] M 0 0 Z := R_local (gd115 dX8_clothAt_12) rfl rfl rfl
theorem z115_13 : Run d 115 13 [a0, a1] [.ref o, s0] M 0 0 Z ↔ gObj M o 8 ∧ Run d 115 16 [a0, a1] [va_rf (M.2.1 o 2), s0] M 0 0 Z := R_getR (gd115 dX8_clothAt_13) rfl gf_8_19 rfl
theorem z115_16 : Run d 115 16 [a0, a1] [.ref o, s0] M 0 0 Z ↔ (gTy M o).isSome = true ∧ Run d 115 17 [a0, a1] [.int (nI (gLen M o)), s0] M 0 0 Z := R_alen (gd115 dX8_clothAt_16)
theorem z115_17 : Run d 115 17 [a0, a1] [.int y, .int x] M 0 0 Z ↔ (y ≤ x → Run d 115 29 [a0, a1] [] M 0 0 Z) ∧ (¬ (y ≤ x) → Run d 115 20 [a0, a1] [] M 0 0 Z) := R_icmp (gd115 dX8_clothAt_17) (show gTgt 17 12 = some 29 by decide) gIf_ge
theorem z115_20 : Run d 115 20 [some (.ref o), a1] [] M 0 0 Z ↔ Run d 115 21 [some (.ref o), a1] [.ref o] M 0 0 Z := R_local (gd115 dX8_clothAt_20) rfl rfl rfl
theorem z115_21 : Run d 115 21 [a0, a1] [.ref o] M 0 0 Z ↔ gObj M o 8 ∧ Run d 115 24 [a0, a1] [va_rf (M.2.1 o 2)] M 0 0 Z := R_getR (gd115 dX8_clothAt_21) rfl gf_8_19 rfl
theorem z115_24 : Run d 115 24 [a0, some (.int x)] [s0] M 0 0 Z ↔ Run d 115 25 [a0, some (.int x)] [.int x, s0] M 0 0 Z := R_local (gd115 dX8_clothAt_24) rfl rfl rfl
theorem z115_25 : Run d 115 25 [a0, a1] [.int x, .ref o] M 0 0 Z ↔ (gAr M o 3 ∨ gAr M o 4) ∧ gIn x (gLen M o) = true ∧ Run d 115 26 [a0, a1] [va_rf (M.2.1 o x.toNatClampNeg)] M 0 0 Z := R_aald (gd115 dX8_clothAt_25)
theorem z115_26 : Run d 115 26 [a0, a1] [s0] M 0 0 Z ↔ Run d 115 30 [a0, a1] [s0] M 0 0 Z := R_goto (gd115 dX8_clothAt_26) (show gTgt 26 4 = some 30 by decide)
theorem z115_29 : Run d 115 29 [a0, a1] [] M 0 0 Z ↔ Run d 115 30 [a0, a1] [.null] M 0 0 Z := R_arith (gd115 dX8_clothAt_29) rfl
theorem z115_30 : Run d 115 30 [a0, a1] [v] M 0 0 Z ↔ gisRef v = true ∧ Z (some v) M := R_aret (gd115 dX8_clothAt_30) rfl
theorem e115 : Call (d + 1) 115 [s0, s1] M Z ↔ Run d 115 0 [some s0, some s1] [] M 0 0 Z := Call_iff (Nat.lt_of_lt_of_le (Nat.lt_succ_self 115) (Nat.le_of_ble_eq_true rfl)) (Nat.le_of_ble_eq_true rfl)
/-! 116: X8_styleAt (I)LClothSchool$Style; -/
theorem gd116 {pc : Nat} {r : Except _ _} (h : decode cX8_styleAt pc = r) : decode (gby 116) pc = r := h
theorem z116_0 : Run d 116 0 [a0, some (.int x)] [] M 0 0 Z ↔ Run d 116 1 [a0, some (.int x)] [.int x] M 0 0 Z := R_local (gd116 dX8_styleAt_0) rfl rfl rfl
theorem z116_1 : Run d 116 1 [some (.ref o), a1] [s0] M 0 0 Z ↔ Run d 116 2 [some (.ref o), a1] [.ref o, s0] M 0 0 Z := R_local (gd116 dX8_styleAt_1) rfl rfl rfl
theorem z116_2 : Run d 116 2 [a0, a1] [.ref o, s0] M 0 0 Z ↔ gObj M o 8 ∧ Run d 116 5 [a0, a1] [.int (M.1 o 5), s0] M 0 0 Z := R_getI (gd116 dX8_styleAt_2) rfl gf_8_32 rfl
theorem z116_5 : Run d 116 5 [a0, a1] [s1, s0] M 0 0 Z ↔ Call d 110 [s0, s1] M (fun r M1 => Run d 116 8 [a0, a1] (r.toList ++ []) M1 0 0 Z) := R_call (gd116 dX8_styleAt_5) rfl rfl rfl rfl rfl rfl gc_8_97 rfl (by decide) (Nat.le_of_ble_eq_true rfl) (Nat.le_of_ble_eq_true rfl) rfl rfl rfl (Nat.le_of_ble_eq_true rfl) (Nat.le_of_ble_eq_true rfl)
theorem z116_8 : Run d 116 8 [a0, a1] [.int x] M 0 0 Z ↔ (x = 0 → Run d 116 29 [a0, a1] [] M 0 0 Z) ∧ (¬ (x = 0) → Run d 116 11 [a0, a1] [] M 0 0 Z) := R_if (gd116 dX8_styleAt_8) (show gTgt 8 21 = some 29 by decide) gIf_eq
theorem z116_11 : Run d 116 11 [a0, some (.int x)] [] M 0 0 Z ↔ Run d 116 12 [a0, some (.int x)] [.int x] M 0 0 Z := R_local (gd116 dX8_styleAt_11) rfl rfl rfl
theorem z116_12 : Run d 116 12 [some (.ref o), a1] [s0] M 0 0 Z ↔ Run d 116 13 [some (.ref o), a1] [.ref o, s0] M 0 0 Z := R_local (gd116 dX8_styleAt_12) rfl rfl rfl
theorem z116_13 : Run d 116 13 [a0, a1] [.ref o, s0] M 0 0 Z ↔ gObj M o 8 ∧ Run d 116 16 [a0, a1] [va_rf (M.2.1 o 4), s0] M 0 0 Z := R_getR (gd116 dX8_styleAt_13) rfl gf_8_28 rfl
theorem z116_16 : Run d 116 16 [a0, a1] [.ref o, s0] M 0 0 Z ↔ (gTy M o).isSome = true ∧ Run d 116 17 [a0, a1] [.int (nI (gLen M o)), s0] M 0 0 Z := R_alen (gd116 dX8_styleAt_16)
theorem z116_17 : Run d 116 17 [a0, a1] [.int y, .int x] M 0 0 Z ↔ (y ≤ x → Run d 116 29 [a0, a1] [] M 0 0 Z) ∧ (¬ (y ≤ x) → Run d 116 20 [a0, a1] [] M 0 0 Z) := R_icmp (gd116 dX8_styleAt_17) (show gTgt 17 12 = some 29 by decide) gIf_ge
theorem z116_20 : Run d 116 20 [some (.ref o), a1] [] M 0 0 Z ↔ Run d 116 21 [some (.ref o), a1] [.ref o] M 0 0 Z := R_local (gd116 dX8_styleAt_20) rfl rfl rfl
theorem z116_21 : Run d 116 21 [a0, a1] [.ref o] M 0 0 Z ↔ gObj M o 8 ∧ Run d 116 24 [a0, a1] [va_rf (M.2.1 o 4)] M 0 0 Z := R_getR (gd116 dX8_styleAt_21) rfl gf_8_28 rfl
theorem z116_24 : Run d 116 24 [a0, some (.int x)] [s0] M 0 0 Z ↔ Run d 116 25 [a0, some (.int x)] [.int x, s0] M 0 0 Z := R_local (gd116 dX8_styleAt_24) rfl rfl rfl
theorem z116_25 : Run d 116 25 [a0, a1] [.int x, .ref o] M 0 0 Z ↔ (gAr M o 3 ∨ gAr M o 4) ∧ gIn x (gLen M o) = true ∧ Run d 116 26 [a0, a1] [va_rf (M.2.1 o x.toNatClampNeg)] M 0 0 Z := R_aald (gd116 dX8_styleAt_25)
theorem z116_26 : Run d 116 26 [a0, a1] [s0] M 0 0 Z ↔ Run d 116 30 [a0, a1] [s0] M 0 0 Z := R_goto (gd116 dX8_styleAt_26) (show gTgt 26 4 = some 30 by decide)
theorem z116_29 : Run d 116 29 [a0, a1] [] M 0 0 Z ↔ Run d 116 30 [a0, a1] [.null] M 0 0 Z := R_arith (gd116 dX8_styleAt_29) rfl
theorem z116_30 : Run d 116 30 [a0, a1] [v] M 0 0 Z ↔ gisRef v = true ∧ Z (some v) M := R_aret (gd116 dX8_styleAt_30) rfl
theorem e116 : Call (d + 1) 116 [s0, s1] M Z ↔ Run d 116 0 [some s0, some s1] [] M 0 0 Z := Call_iff (Nat.lt_of_lt_of_le (Nat.lt_succ_self 116) (Nat.le_of_ble_eq_true rfl)) (Nat.le_of_ble_eq_true rfl)
/-! 117: X8_putOnTape (I)V -/
theorem gd117 {pc : Nat} {r : Except _ _} (h : decode cX8_putOnTape pc = r) : decode (gby 117) pc = r := h
theorem z117_0 : Run d 117 0 [a0, a1, a2] [] M 0 0 Z ↔ Run d 117 2 [a0, a1, a2] [.int 24] M 0 0 Z := R_bipush (gd117 dX8_putOnTape_0) (by decide)
theorem z117_2 : Run d 117 2 [a0, a1, a2] [.int x] M 0 0 Z ↔ Run d 117 3 [a0, a1, some (.int x)] [] M 0 0 Z := R_local (gd117 dX8_putOnTape_2) rfl rfl rfl
theorem z117_3 : Run d 117 3 [a0, a1, some (.int x)] [] M 0 0 Z ↔ Run d 117 4 [a0, a1, some (.int x)] [.int x] M 0 0 Z := R_local (gd117 dX8_putOnTape_3) rfl rfl rfl
theorem z117_4 : Run d 117 4 [a0, a1, a2] [.int x] M 0 0 Z ↔ (x < 0 → Run d 117 54 [a0, a1, a2] [] M 0 0 Z) ∧ (¬ (x < 0) → Run d 117 7 [a0, a1, a2] [] M 0 0 Z) := R_if (gd117 dX8_putOnTape_4) (show gTgt 4 50 = some 54 by decide) gIf_lt
theorem z117_7 : Run d 117 7 [some (.ref o), a1, a2] [] M 0 0 Z ↔ Run d 117 8 [some (.ref o), a1, a2] [.ref o] M 0 0 Z := R_local (gd117 dX8_putOnTape_7) rfl rfl rfl
theorem z117_8 : Run d 117 8 [a0, a1, a2] [.ref o] M 0 0 Z ↔ gObj M o 8 ∧ Run d 117 11 [a0, a1, a2] [.int (M.1 o 7)] M 0 0 Z := R_getI (gd117 dX8_putOnTape_8) rfl gf_8_38 rfl
theorem z117_11 : Run d 117 11 [some (.ref o), a1, a2] [s0] M 0 0 Z ↔ Run d 117 12 [some (.ref o), a1, a2] [.ref o, s0] M 0 0 Z := R_local (gd117 dX8_putOnTape_11) rfl rfl rfl
theorem z117_12 : Run d 117 12 [a0, a1, a2] [.ref o, s0] M 0 0 Z ↔ gObj M o 8 ∧ Run d 117 15 [a0, a1, a2] [va_rf (M.2.1 o 6), s0] M 0 0 Z := R_getR (gd117 dX8_putOnTape_12) rfl gf_8_35 rfl
theorem z117_15 : Run d 117 15 [a0, a1, a2] [.ref o, s0] M 0 0 Z ↔ (gTy M o).isSome = true ∧ Run d 117 16 [a0, a1, a2] [.int (nI (gLen M o)), s0] M 0 0 Z := R_alen (gd117 dX8_putOnTape_15)
theorem z117_16 : Run d 117 16 [a0, a1, a2] [s1, s0] M 0 0 Z ↔ Call d 110 [s0, s1] M (fun r M1 => Run d 117 19 [a0, a1, a2] (r.toList ++ []) M1 0 0 Z) := R_call (gd117 dX8_putOnTape_16) rfl rfl rfl rfl rfl rfl gc_8_97 rfl (by decide) (Nat.le_of_ble_eq_true rfl) (Nat.le_of_ble_eq_true rfl) rfl rfl rfl (Nat.le_of_ble_eq_true rfl) (Nat.le_of_ble_eq_true rfl)
theorem z117_19 : Run d 117 19 [a0, a1, a2] [.int x] M 0 0 Z ↔ (x = 0 → Run d 117 48 [a0, a1, a2] [] M 0 0 Z) ∧ (¬ (x = 0) → Run d 117 22 [a0, a1, a2] [] M 0 0 Z) := R_if (gd117 dX8_putOnTape_19) (show gTgt 19 29 = some 48 by decide) gIf_eq
theorem z117_22 : Run d 117 22 [some (.ref o), a1, a2] [] M 0 0 Z ↔ Run d 117 23 [some (.ref o), a1, a2] [.ref o] M 0 0 Z := R_local (gd117 dX8_putOnTape_22) rfl rfl rfl
theorem z117_23 : Run d 117 23 [a0, a1, a2] [.ref o] M 0 0 Z ↔ gObj M o 8 ∧ Run d 117 26 [a0, a1, a2] [va_rf (M.2.1 o 6)] M 0 0 Z := R_getR (gd117 dX8_putOnTape_23) rfl gf_8_35 rfl
theorem z117_26 : Run d 117 26 [some (.ref o), a1, a2] [s0] M 0 0 Z ↔ Run d 117 27 [some (.ref o), a1, a2] [.ref o, s0] M 0 0 Z := R_local (gd117 dX8_putOnTape_26) rfl rfl rfl
theorem z117_27 : Run d 117 27 [a0, a1, a2] [.ref o, s0] M 0 0 Z ↔ gObj M o 8 ∧ Run d 117 30 [a0, a1, a2] [.int (M.1 o 7), s0] M 0 0 Z := R_getI (gd117 dX8_putOnTape_27) rfl gf_8_38 rfl
theorem z117_30 : Run d 117 30 [a0, some (.int x), a2] [s1, s0] M 0 0 Z ↔ Run d 117 31 [a0, some (.int x), a2] [.int x, s1, s0] M 0 0 Z := R_local (gd117 dX8_putOnTape_30) rfl rfl rfl
theorem z117_31 : Run d 117 31 [a0, a1, some (.int x)] [s2, s1, s0] M 0 0 Z ↔ Run d 117 32 [a0, a1, some (.int x)] [.int x, s2, s1, s0] M 0 0 Z := R_local (gd117 dX8_putOnTape_31) rfl rfl rfl
theorem z117_32 : Run d 117 32 [a0, a1, a2] [.int y, .int x, s1, s0] M 0 0 Z ↔ Run d 117 33 [a0, a1, a2] [.int ((x.toUInt32 >>> (y.toUInt32 &&& Int32.toUInt32 31)).toInt32), s1, s0] M 0 0 Z := R_arith (gd117 dX8_putOnTape_32) rfl
theorem z117_33 : Run d 117 33 [a0, a1, a2] [s2, s1, s0] M 0 0 Z ↔ Run d 117 36 [a0, a1, a2] [.int 255, s2, s1, s0] M 0 0 Z := R_sipush (gd117 dX8_putOnTape_33) (by decide)
theorem z117_36 : Run d 117 36 [a0, a1, a2] [.int y, .int x, s1, s0] M 0 0 Z ↔ Run d 117 37 [a0, a1, a2] [.int (x &&& y), s1, s0] M 0 0 Z := R_arith (gd117 dX8_putOnTape_36) rfl
theorem z117_37 : Run d 117 37 [a0, a1, a2] [.int y, .int x, .ref o] M 0 0 Z ↔ gAr M o 0 ∧ gIn x (gLen M o) = true ∧ Run d 117 38 [a0, a1, a2] [] (gsI M o x.toNatClampNeg y) 0 0 Z := R_iast (gd117 dX8_putOnTape_37)
theorem z117_38 : Run d 117 38 [some (.ref o), a1, a2] [] M 0 0 Z ↔ Run d 117 39 [some (.ref o), a1, a2] [.ref o] M 0 0 Z := R_local (gd117 dX8_putOnTape_38) rfl rfl rfl
theorem z117_39 : Run d 117 39 [a0, a1, a2] [.ref o] M 0 0 Z ↔ Run d 117 40 [a0, a1, a2] [.ref o, .ref o] M 0 0 Z := R_arith (gd117 dX8_putOnTape_39) rfl
theorem z117_40 : Run d 117 40 [a0, a1, a2] [.ref o, s0] M 0 0 Z ↔ gObj M o 8 ∧ Run d 117 43 [a0, a1, a2] [.int (M.1 o 7), s0] M 0 0 Z := R_getI (gd117 dX8_putOnTape_40) rfl gf_8_38 rfl
theorem z117_43 : Run d 117 43 [a0, a1, a2] [s1, s0] M 0 0 Z ↔ Run d 117 44 [a0, a1, a2] [.int 1, s1, s0] M 0 0 Z := R_iconst (gd117 dX8_putOnTape_43) (by decide)
theorem z117_44 : Run d 117 44 [a0, a1, a2] [.int y, .int x, s0] M 0 0 Z ↔ Run d 117 45 [a0, a1, a2] [.int (x + y), s0] M 0 0 Z := R_arith (gd117 dX8_putOnTape_44) rfl
theorem z117_45 : Run d 117 45 [a0, a1, a2] [.int x, .ref o] M 0 0 Z ↔ gObj M o 8 ∧ Run d 117 48 [a0, a1, a2] [] (gsI M o 7 x) 0 0 Z := R_putI (gd117 dX8_putOnTape_45) rfl gf_8_38 (Or.inl rfl) rfl
theorem z117_48 : Run d 117 48 [a0, a1, some (.int x)] [] M 0 0 Z ↔ Run d 117 51 [a0, a1, some (.int (x + (-8)))] [] M 0 0 Z := R_iinc (gd117 dX8_putOnTape_48) (by decide) rfl rfl
theorem z117_51 : Run d 117 51 [a0, a1, a2] [] M 0 0 Z ↔ Run d 117 3 [a0, a1, a2] [] M 0 0 Z := R_goto (gd117 dX8_putOnTape_51) (show gTgt 51 (-48) = some 3 by decide)
theorem z117_54 : Run d 117 54 [a0, a1, a2] [] M 0 0 Z ↔ Z none M := R_vret (gd117 dX8_putOnTape_54) rfl
theorem e117 : Call (d + 1) 117 [s0, s1] M Z ↔ Run d 117 0 [some s0, some s1, none] [] M 0 0 Z := Call_iff (Nat.lt_of_lt_of_le (Nat.lt_succ_self 117) (Nat.le_of_ble_eq_true rfl)) (Nat.le_of_ble_eq_true rfl)
/-! 118: X8_allWithin (II)Z -/
theorem gd118 {pc : Nat} {r : Except _ _} (h : decode cX8_allWithin pc = r) : decode (gby 118) pc = r := h
theorem z118_0 : Run d 118 0 [a0, a1, a2, a3] [] M 0 0 Z ↔ Run d 118 1 [a0, a1, a2, a3] [.int 0] M 0 0 Z := R_iconst (gd118 dX8_allWithin_0) (by decide)
theorem z118_1 : Run d 118 1 [a0, a1, a2, a3] [.int x] M 0 0 Z ↔ Run d 118 2 [a0, a1, a2, some (.int x)] [] M 0 0 Z := R_local (gd118 dX8_allWithin_1) rfl rfl rfl
theorem z118_2 : Run d 118 2 [a0, a1, a2, some (.int x)] [] M 0 0 Z ↔ Run d 118 3 [a0, a1, a2, some (.int x)] [.int x] M 0 0 Z := R_local (gd118 dX8_allWithin_2) rfl rfl rfl
theorem z118_3 : Run d 118 3 [a0, some (.int x), a2, a3] [s0] M 0 0 Z ↔ Run d 118 4 [a0, some (.int x), a2, a3] [.int x, s0] M 0 0 Z := R_local (gd118 dX8_allWithin_3) rfl rfl rfl
theorem z118_4 : Run d 118 4 [a0, a1, a2, a3] [.int y, .int x] M 0 0 Z ↔ (y ≤ x → Run d 118 37 [a0, a1, a2, a3] [] M 0 0 Z) ∧ (¬ (y ≤ x) → Run d 118 7 [a0, a1, a2, a3] [] M 0 0 Z) := R_icmp (gd118 dX8_allWithin_4) (show gTgt 4 33 = some 37 by decide) gIf_ge
theorem z118_7 : Run d 118 7 [a0, a1, a2, some (.int x)] [] M 0 0 Z ↔ Run d 118 8 [a0, a1, a2, some (.int x)] [.int x] M 0 0 Z := R_local (gd118 dX8_allWithin_7) rfl rfl rfl
theorem z118_8 : Run d 118 8 [some (.ref o), a1, a2, a3] [s0] M 0 0 Z ↔ Run d 118 9 [some (.ref o), a1, a2, a3] [.ref o, s0] M 0 0 Z := R_local (gd118 dX8_allWithin_8) rfl rfl rfl
theorem z118_9 : Run d 118 9 [a0, a1, a2, a3] [.ref o, s0] M 0 0 Z ↔ gObj M o 8 ∧ Run d 118 12 [a0, a1, a2, a3] [va_rf (M.2.1 o 6), s0] M 0 0 Z := R_getR (gd118 dX8_allWithin_9) rfl gf_8_35 rfl
theorem z118_12 : Run d 118 12 [a0, a1, a2, a3] [.ref o, s0] M 0 0 Z ↔ (gTy M o).isSome = true ∧ Run d 118 13 [a0, a1, a2, a3] [.int (nI (gLen M o)), s0] M 0 0 Z := R_alen (gd118 dX8_allWithin_12)
theorem z118_13 : Run d 118 13 [a0, a1, a2, a3] [.int y, .int x] M 0 0 Z ↔ (y ≤ x → Run d 118 37 [a0, a1, a2, a3] [] M 0 0 Z) ∧ (¬ (y ≤ x) → Run d 118 16 [a0, a1, a2, a3] [] M 0 0 Z) := R_icmp (gd118 dX8_allWithin_13) (show gTgt 13 24 = some 37 by decide) gIf_ge
theorem z118_16 : Run d 118 16 [some (.ref o), a1, a2, a3] [] M 0 0 Z ↔ Run d 118 17 [some (.ref o), a1, a2, a3] [.ref o] M 0 0 Z := R_local (gd118 dX8_allWithin_16) rfl rfl rfl
theorem z118_17 : Run d 118 17 [a0, a1, a2, a3] [.ref o] M 0 0 Z ↔ gObj M o 8 ∧ Run d 118 20 [a0, a1, a2, a3] [va_rf (M.2.1 o 6)] M 0 0 Z := R_getR (gd118 dX8_allWithin_17) rfl gf_8_35 rfl
theorem z118_20 : Run d 118 20 [a0, a1, a2, some (.int x)] [s0] M 0 0 Z ↔ Run d 118 21 [a0, a1, a2, some (.int x)] [.int x, s0] M 0 0 Z := R_local (gd118 dX8_allWithin_20) rfl rfl rfl
theorem z118_21 : Run d 118 21 [a0, a1, a2, a3] [.int x, .ref o] M 0 0 Z ↔ gAr M o 0 ∧ gIn x (gLen M o) = true ∧ Run d 118 22 [a0, a1, a2, a3] [.int (M.1 o x.toNatClampNeg)] M 0 0 Z := R_iald (gd118 dX8_allWithin_21)
theorem z118_22 : Run d 118 22 [a0, a1, some (.int x), a3] [s0] M 0 0 Z ↔ Run d 118 23 [a0, a1, some (.int x), a3] [.int x, s0] M 0 0 Z := R_local (gd118 dX8_allWithin_22) rfl rfl rfl
theorem z118_23 : Run d 118 23 [a0, a1, a2, a3] [s1, s0] M 0 0 Z ↔ Call d 110 [s0, s1] M (fun r M1 => Run d 118 26 [a0, a1, a2, a3] (r.toList ++ []) M1 0 0 Z) := R_call (gd118 dX8_allWithin_23) rfl rfl rfl rfl rfl rfl gc_8_97 rfl (by decide) (Nat.le_of_ble_eq_true rfl) (Nat.le_of_ble_eq_true rfl) rfl rfl rfl (Nat.le_of_ble_eq_true rfl) (Nat.le_of_ble_eq_true rfl)
theorem z118_26 : Run d 118 26 [a0, a1, a2, a3] [.int x] M 0 0 Z ↔ (¬ x = 0 → Run d 118 31 [a0, a1, a2, a3] [] M 0 0 Z) ∧ (¬ (¬ x = 0) → Run d 118 29 [a0, a1, a2, a3] [] M 0 0 Z) := R_if (gd118 dX8_allWithin_26) (show gTgt 26 5 = some 31 by decide) gIf_ne
theorem z118_29 : Run d 118 29 [a0, a1, a2, a3] [] M 0 0 Z ↔ Run d 118 30 [a0, a1, a2, a3] [.int 0] M 0 0 Z := R_iconst (gd118 dX8_allWithin_29) (by decide)
theorem z118_30 : Run d 118 30 [a0, a1, a2, a3] [.int x] M 0 0 Z ↔ (x = 0 ∨ x = 1) ∧ Z (some (.int x)) M := R_iretZ (gd118 dX8_allWithin_30) rfl
theorem z118_31 : Run d 118 31 [a0, a1, a2, some (.int x)] [] M 0 0 Z ↔ Run d 118 34 [a0, a1, a2, some (.int (x + 1))] [] M 0 0 Z := R_iinc (gd118 dX8_allWithin_31) (by decide) rfl rfl
theorem z118_34 : Run d 118 34 [a0, a1, a2, a3] [] M 0 0 Z ↔ Run d 118 2 [a0, a1, a2, a3] [] M 0 0 Z := R_goto (gd118 dX8_allWithin_34) (show gTgt 34 (-32) = some 2 by decide)
theorem z118_37 : Run d 118 37 [a0, a1, a2, a3] [] M 0 0 Z ↔ Run d 118 38 [a0, a1, a2, a3] [.int 1] M 0 0 Z := R_iconst (gd118 dX8_allWithin_37) (by decide)
theorem z118_38 : Run d 118 38 [a0, a1, a2, a3] [.int x] M 0 0 Z ↔ (x = 0 ∨ x = 1) ∧ Z (some (.int x)) M := R_iretZ (gd118 dX8_allWithin_38) rfl
theorem e118 : Call (d + 1) 118 [s0, s1, s2] M Z ↔ Run d 118 0 [some s0, some s1, some s2, none] [] M 0 0 Z := Call_iff (Nat.lt_of_lt_of_le (Nat.lt_succ_self 118) (Nat.le_of_ble_eq_true rfl)) (Nat.le_of_ble_eq_true rfl)
end
