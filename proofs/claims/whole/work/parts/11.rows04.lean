/-! Rules of the methods, an instruction each, by program (wip/whole/rows.py). -/
theorem dX5_take_0 : decode cX5_take 0 = .ok (.aload_n 1, 1) := by decide +kernel
theorem dX5_take_1 : decode cX5_take 1 = .ok (.arraylength, 1) := by decide +kernel
theorem dX5_take_2 : decode cX5_take 2 = .ok (.bipush 64, 2) := by decide +kernel
theorem dX5_take_4 : decode cX5_take 4 = .ok (.if_icmp .lt 7, 3) := by decide +kernel
theorem dX5_take_7 : decode cX5_take 7 = .ok (.iconst 1, 1) := by decide +kernel
theorem dX5_take_8 : decode cX5_take 8 = .ok (.goto 4, 3) := by decide +kernel
theorem dX5_take_11 : decode cX5_take 11 = .ok (.iconst 0, 1) := by decide +kernel
theorem dX5_take_12 : decode cX5_take 12 = .ok (.istore_n 2, 1) := by decide +kernel
theorem dX5_take_13 : decode cX5_take 13 = .ok (.iconst 0, 1) := by decide +kernel
theorem dX5_take_14 : decode cX5_take 14 = .ok (.istore_n 3, 1) := by decide +kernel
theorem dX5_take_15 : decode cX5_take 15 = .ok (.iload_n 3, 1) := by decide +kernel
theorem dX5_take_16 : decode cX5_take 16 = .ok (.bipush 64, 2) := by decide +kernel
theorem dX5_take_18 : decode cX5_take 18 = .ok (.if_icmp .ge 68, 3) := by decide +kernel
theorem dX5_take_21 : decode cX5_take 21 = .ok (.iload_n 2, 1) := by decide +kernel
theorem dX5_take_22 : decode cX5_take 22 = .ok (.ifCond .eq 64, 3) := by decide +kernel
theorem dX5_take_25 : decode cX5_take 25 = .ok (.aload_n 1, 1) := by decide +kernel
theorem dX5_take_26 : decode cX5_take 26 = .ok (.iload_n 3, 1) := by decide +kernel
theorem dX5_take_27 : decode cX5_take 27 = .ok (.iaload, 1) := by decide +kernel
theorem dX5_take_28 : decode cX5_take 28 = .ok (.istore 4, 2) := by decide +kernel
theorem dX5_take_30 : decode cX5_take 30 = .ok (.iload 4, 2) := by decide +kernel
theorem dX5_take_32 : decode cX5_take 32 = .ok (.bipush 63, 2) := by decide +kernel
theorem dX5_take_34 : decode cX5_take 34 = .ok (.if_icmp .eq 17, 3) := by decide +kernel
theorem dX5_take_37 : decode cX5_take 37 = .ok (.iload 4, 2) := by decide +kernel
theorem dX5_take_39 : decode cX5_take 39 = .ok (.bipush 48, 2) := by decide +kernel
theorem dX5_take_41 : decode cX5_take 41 = .ok (.if_icmp .lt 14, 3) := by decide +kernel
theorem dX5_take_44 : decode cX5_take 44 = .ok (.iload 4, 2) := by decide +kernel
theorem dX5_take_46 : decode cX5_take 46 = .ok (.bipush 56, 2) := by decide +kernel
theorem dX5_take_48 : decode cX5_take 48 = .ok (.if_icmp .gt 7, 3) := by decide +kernel
theorem dX5_take_51 : decode cX5_take 51 = .ok (.iconst 1, 1) := by decide +kernel
theorem dX5_take_52 : decode cX5_take 52 = .ok (.goto 4, 3) := by decide +kernel
theorem dX5_take_55 : decode cX5_take 55 = .ok (.iconst 0, 1) := by decide +kernel
theorem dX5_take_56 : decode cX5_take 56 = .ok (.istore_n 2, 1) := by decide +kernel
theorem dX5_take_57 : decode cX5_take 57 = .ok (.aload_n 0, 1) := by decide +kernel
theorem dX5_take_58 : decode cX5_take 58 = .ok (.getfield 9, 3) := by decide +kernel
theorem dX5_take_61 : decode cX5_take 61 = .ok (.iload_n 3, 1) := by decide +kernel
theorem dX5_take_62 : decode cX5_take 62 = .ok (.iload 4, 2) := by decide +kernel
theorem dX5_take_64 : decode cX5_take 64 = .ok (.bipush 63, 2) := by decide +kernel
theorem dX5_take_66 : decode cX5_take 66 = .ok (.if_icmp .ne 8, 3) := by decide +kernel
theorem dX5_take_69 : decode cX5_take 69 = .ok (.bipush 9, 2) := by decide +kernel
theorem dX5_take_71 : decode cX5_take 71 = .ok (.goto 8, 3) := by decide +kernel
theorem dX5_take_74 : decode cX5_take 74 = .ok (.iload 4, 2) := by decide +kernel
theorem dX5_take_76 : decode cX5_take 76 = .ok (.bipush 48, 2) := by decide +kernel
theorem dX5_take_78 : decode cX5_take 78 = .ok (.isub, 1) := by decide +kernel
theorem dX5_take_79 : decode cX5_take 79 = .ok (.iastore, 1) := by decide +kernel
theorem dX5_take_80 : decode cX5_take 80 = .ok (.iinc 3 1, 3) := by decide +kernel
theorem dX5_take_83 : decode cX5_take 83 = .ok (.goto (-68), 3) := by decide +kernel
theorem dX5_take_86 : decode cX5_take 86 = .ok (.iload_n 2, 1) := by decide +kernel
theorem dX5_take_87 : decode cX5_take 87 = .ok (.ireturn, 1) := by decide +kernel
theorem dX5_search_0 : decode cX5_search 0 = .ok (.aload_n 0, 1) := by decide +kernel
theorem dX5_search_1 : decode cX5_search 1 = .ok (.getfield 15, 3) := by decide +kernel
theorem dX5_search_4 : decode cX5_search 4 = .ok (.bipush 8, 2) := by decide +kernel
theorem dX5_search_6 : decode cX5_search 6 = .ok (.invokestatic 43, 3) := by decide +kernel
theorem dX5_search_9 : decode cX5_search 9 = .ok (.aload_n 0, 1) := by decide +kernel
theorem dX5_search_10 : decode cX5_search 10 = .ok (.iconst 0, 1) := by decide +kernel
theorem dX5_search_11 : decode cX5_search 11 = .ok (.putfield 18, 3) := by decide +kernel
theorem dX5_search_14 : decode cX5_search 14 = .ok (.iconst 0, 1) := by decide +kernel
theorem dX5_search_15 : decode cX5_search 15 = .ok (.istore_n 3, 1) := by decide +kernel
theorem dX5_search_16 : decode cX5_search 16 = .ok (.iload_n 3, 1) := by decide +kernel
theorem dX5_search_17 : decode cX5_search 17 = .ok (.bipush 64, 2) := by decide +kernel
theorem dX5_search_19 : decode cX5_search 19 = .ok (.if_icmp .ge 31, 3) := by decide +kernel
theorem dX5_search_22 : decode cX5_search 22 = .ok (.aload_n 0, 1) := by decide +kernel
theorem dX5_search_23 : decode cX5_search 23 = .ok (.dup, 1) := by decide +kernel
theorem dX5_search_24 : decode cX5_search 24 = .ok (.getfield 18, 3) := by decide +kernel
theorem dX5_search_27 : decode cX5_search 27 = .ok (.aload_n 0, 1) := by decide +kernel
theorem dX5_search_28 : decode cX5_search 28 = .ok (.iload_n 3, 1) := by decide +kernel
theorem dX5_search_29 : decode cX5_search 29 = .ok (.invokevirtual 49, 3) := by decide +kernel
theorem dX5_search_32 : decode cX5_search 32 = .ok (.ifCond .eq 7, 3) := by decide +kernel
theorem dX5_search_35 : decode cX5_search 35 = .ok (.iconst 1, 1) := by decide +kernel
theorem dX5_search_36 : decode cX5_search 36 = .ok (.goto 4, 3) := by decide +kernel
theorem dX5_search_39 : decode cX5_search 39 = .ok (.iconst 0, 1) := by decide +kernel
theorem dX5_search_40 : decode cX5_search 40 = .ok (.iadd, 1) := by decide +kernel
theorem dX5_search_41 : decode cX5_search 41 = .ok (.putfield 18, 3) := by decide +kernel
theorem dX5_search_44 : decode cX5_search 44 = .ok (.iinc 3 1, 3) := by decide +kernel
theorem dX5_search_47 : decode cX5_search 47 = .ok (.goto (-31), 3) := by decide +kernel
theorem dX5_search_50 : decode cX5_search 50 = .ok (.aload_n 0, 1) := by decide +kernel
theorem dX5_search_51 : decode cX5_search 51 = .ok (.iconst 0, 1) := by decide +kernel
theorem dX5_search_52 : decode cX5_search 52 = .ok (.putfield 28, 3) := by decide +kernel
theorem dX5_search_55 : decode cX5_search 55 = .ok (.aload_n 0, 1) := by decide +kernel
theorem dX5_search_56 : decode cX5_search 56 = .ok (.iconst 0, 1) := by decide +kernel
theorem dX5_search_57 : decode cX5_search 57 = .ok (.putfield 34, 3) := by decide +kernel
theorem dX5_search_60 : decode cX5_search 60 = .ok (.aload_n 0, 1) := by decide +kernel
theorem dX5_search_61 : decode cX5_search 61 = .ok (.iconst 0, 1) := by decide +kernel
theorem dX5_search_62 : decode cX5_search 62 = .ok (.putfield 40, 3) := by decide +kernel
theorem dX5_search_65 : decode cX5_search 65 = .ok (.aload_n 0, 1) := by decide +kernel
theorem dX5_search_66 : decode cX5_search 66 = .ok (.iconst 0, 1) := by decide +kernel
theorem dX5_search_67 : decode cX5_search 67 = .ok (.aload_n 1, 1) := by decide +kernel
theorem dX5_search_68 : decode cX5_search 68 = .ok (.aload_n 2, 1) := by decide +kernel
theorem dX5_search_69 : decode cX5_search 69 = .ok (.invokevirtual 53, 3) := by decide +kernel
theorem dX5_search_72 : decode cX5_search 72 = .ok (.aload_n 0, 1) := by decide +kernel
theorem dX5_search_73 : decode cX5_search 73 = .ok (.getfield 34, 3) := by decide +kernel
theorem dX5_search_76 : decode cX5_search 76 = .ok (.ireturn, 1) := by decide +kernel
theorem dX5_tryFrom_0 : decode cX5_tryFrom 0 = .ok (.iload_n 1, 1) := by decide +kernel
theorem dX5_tryFrom_1 : decode cX5_tryFrom 1 = .ok (.iconst 4, 1) := by decide +kernel
theorem dX5_tryFrom_2 : decode cX5_tryFrom 2 = .ok (.invokestatic 57, 3) := by decide +kernel
theorem dX5_tryFrom_5 : decode cX5_tryFrom 5 = .ok (.ifCond .ne 4, 3) := by decide +kernel
theorem dX5_tryFrom_8 : decode cX5_tryFrom 8 = .ok (.return_, 1) := by decide +kernel
theorem dX5_tryFrom_9 : decode cX5_tryFrom 9 = .ok (.aload_n 2, 1) := by decide +kernel
theorem dX5_tryFrom_10 : decode cX5_tryFrom 10 = .ok (.getfield 61, 3) := by decide +kernel
theorem dX5_tryFrom_13 : decode cX5_tryFrom 13 = .ok (.istore 4, 2) := by decide +kernel
theorem dX5_tryFrom_15 : decode cX5_tryFrom 15 = .ok (.aload_n 2, 1) := by decide +kernel
theorem dX5_tryFrom_16 : decode cX5_tryFrom 16 = .ok (.getfield 66, 3) := by decide +kernel
theorem dX5_tryFrom_19 : decode cX5_tryFrom 19 = .ok (.istore 5, 2) := by decide +kernel
theorem dX5_tryFrom_21 : decode cX5_tryFrom 21 = .ok (.aload_n 2, 1) := by decide +kernel
theorem dX5_tryFrom_22 : decode cX5_tryFrom 22 = .ok (.getfield 69, 3) := by decide +kernel
theorem dX5_tryFrom_25 : decode cX5_tryFrom 25 = .ok (.istore 6, 2) := by decide +kernel
theorem dX5_tryFrom_27 : decode cX5_tryFrom 27 = .ok (.aload_n 2, 1) := by decide +kernel
theorem dX5_tryFrom_28 : decode cX5_tryFrom 28 = .ok (.getfield 72, 3) := by decide +kernel
theorem dX5_tryFrom_31 : decode cX5_tryFrom 31 = .ok (.istore 7, 2) := by decide +kernel
theorem dX5_tryFrom_33 : decode cX5_tryFrom 33 = .ok (.aload_n 2, 1) := by decide +kernel
theorem dX5_tryFrom_34 : decode cX5_tryFrom 34 = .ok (.getfield 75, 3) := by decide +kernel
theorem dX5_tryFrom_37 : decode cX5_tryFrom 37 = .ok (.istore 8, 2) := by decide +kernel
theorem dX5_tryFrom_39 : decode cX5_tryFrom 39 = .ok (.aload_n 2, 1) := by decide +kernel
theorem dX5_tryFrom_40 : decode cX5_tryFrom 40 = .ok (.getfield 78, 3) := by decide +kernel
theorem dX5_tryFrom_43 : decode cX5_tryFrom 43 = .ok (.getfield 82, 3) := by decide +kernel
theorem dX5_tryFrom_46 : decode cX5_tryFrom 46 = .ok (.istore 9, 2) := by decide +kernel
theorem dX5_tryFrom_48 : decode cX5_tryFrom 48 = .ok (.aload_n 0, 1) := by decide +kernel
theorem dX5_tryFrom_49 : decode cX5_tryFrom 49 = .ok (.getfield 28, 3) := by decide +kernel
theorem dX5_tryFrom_52 : decode cX5_tryFrom 52 = .ok (.istore 10, 2) := by decide +kernel
theorem dX5_tryFrom_54 : decode cX5_tryFrom 54 = .ok (.iconst 0, 1) := by decide +kernel
theorem dX5_tryFrom_55 : decode cX5_tryFrom 55 = .ok (.istore 11, 2) := by decide +kernel
theorem dX5_tryFrom_57 : decode cX5_tryFrom 57 = .ok (.iload 11, 2) := by decide +kernel
theorem dX5_tryFrom_59 : decode cX5_tryFrom 59 = .ok (.bipush 11, 2) := by decide +kernel
theorem dX5_tryFrom_61 : decode cX5_tryFrom 61 = .ok (.if_icmp .ge 90, 3) := by decide +kernel
theorem dX5_tryFrom_64 : decode cX5_tryFrom 64 = .ok (.aload_n 0, 1) := by decide +kernel
theorem dX5_tryFrom_65 : decode cX5_tryFrom 65 = .ok (.getfield 31, 3) := by decide +kernel
theorem dX5_tryFrom_68 : decode cX5_tryFrom 68 = .ok (.iload_n 1, 1) := by decide +kernel
theorem dX5_tryFrom_69 : decode cX5_tryFrom 69 = .ok (.iload 11, 2) := by decide +kernel
theorem dX5_tryFrom_71 : decode cX5_tryFrom 71 = .ok (.iastore, 1) := by decide +kernel
theorem dX5_tryFrom_72 : decode cX5_tryFrom 72 = .ok (.iload 11, 2) := by decide +kernel
theorem dX5_tryFrom_74 : decode cX5_tryFrom 74 = .ok (.aload_n 2, 1) := by decide +kernel
theorem dX5_tryFrom_75 : decode cX5_tryFrom 75 = .ok (.invokestatic 87, 3) := by decide +kernel
theorem dX5_tryFrom_78 : decode cX5_tryFrom 78 = .ok (.ifCond .ne 36, 3) := by decide +kernel
theorem dX5_tryFrom_81 : decode cX5_tryFrom 81 = .ok (.aload_n 0, 1) := by decide +kernel
theorem dX5_tryFrom_82 : decode cX5_tryFrom 82 = .ok (.aload_n 2, 1) := by decide +kernel
theorem dX5_tryFrom_83 : decode cX5_tryFrom 83 = .ok (.getfield 78, 3) := by decide +kernel
theorem dX5_tryFrom_86 : decode cX5_tryFrom 86 = .ok (.iload 9, 2) := by decide +kernel
theorem dX5_tryFrom_88 : decode cX5_tryFrom 88 = .ok (.aload_n 3, 1) := by decide +kernel
theorem dX5_tryFrom_89 : decode cX5_tryFrom 89 = .ok (.invokevirtual 91, 3) := by decide +kernel
theorem dX5_tryFrom_92 : decode cX5_tryFrom 92 = .ok (.aload_n 0, 1) := by decide +kernel
theorem dX5_tryFrom_93 : decode cX5_tryFrom 93 = .ok (.iload_n 1, 1) := by decide +kernel
theorem dX5_tryFrom_94 : decode cX5_tryFrom 94 = .ok (.iconst 1, 1) := by decide +kernel
theorem dX5_tryFrom_95 : decode cX5_tryFrom 95 = .ok (.iadd, 1) := by decide +kernel
theorem dX5_tryFrom_96 : decode cX5_tryFrom 96 = .ok (.invokevirtual 95, 3) := by decide +kernel
theorem dX5_tryFrom_99 : decode cX5_tryFrom 99 = .ok (.aload_n 0, 1) := by decide +kernel
theorem dX5_tryFrom_100 : decode cX5_tryFrom 100 = .ok (.iload_n 1, 1) := by decide +kernel
theorem dX5_tryFrom_101 : decode cX5_tryFrom 101 = .ok (.iconst 1, 1) := by decide +kernel
theorem dX5_tryFrom_102 : decode cX5_tryFrom 102 = .ok (.iadd, 1) := by decide +kernel
theorem dX5_tryFrom_103 : decode cX5_tryFrom 103 = .ok (.aload_n 2, 1) := by decide +kernel
theorem dX5_tryFrom_104 : decode cX5_tryFrom 104 = .ok (.aload_n 3, 1) := by decide +kernel
theorem dX5_tryFrom_105 : decode cX5_tryFrom 105 = .ok (.invokevirtual 53, 3) := by decide +kernel
theorem dX5_tryFrom_108 : decode cX5_tryFrom 108 = .ok (.aload_n 0, 1) := by decide +kernel
theorem dX5_tryFrom_109 : decode cX5_tryFrom 109 = .ok (.iload 10, 2) := by decide +kernel
theorem dX5_tryFrom_111 : decode cX5_tryFrom 111 = .ok (.invokevirtual 99, 3) := by decide +kernel
theorem dX5_tryFrom_114 : decode cX5_tryFrom 114 = .ok (.aload_n 2, 1) := by decide +kernel
theorem dX5_tryFrom_115 : decode cX5_tryFrom 115 = .ok (.iload 4, 2) := by decide +kernel
theorem dX5_tryFrom_117 : decode cX5_tryFrom 117 = .ok (.iload 5, 2) := by decide +kernel
theorem dX5_tryFrom_119 : decode cX5_tryFrom 119 = .ok (.iload 6, 2) := by decide +kernel
theorem dX5_tryFrom_121 : decode cX5_tryFrom 121 = .ok (.invokevirtual 102, 3) := by decide +kernel
theorem dX5_tryFrom_124 : decode cX5_tryFrom 124 = .ok (.aload_n 2, 1) := by decide +kernel
theorem dX5_tryFrom_125 : decode cX5_tryFrom 125 = .ok (.iload 7, 2) := by decide +kernel
theorem dX5_tryFrom_127 : decode cX5_tryFrom 127 = .ok (.putfield 72, 3) := by decide +kernel
theorem dX5_tryFrom_130 : decode cX5_tryFrom 130 = .ok (.aload_n 2, 1) := by decide +kernel
theorem dX5_tryFrom_131 : decode cX5_tryFrom 131 = .ok (.iload 8, 2) := by decide +kernel
theorem dX5_tryFrom_133 : decode cX5_tryFrom 133 = .ok (.putfield 75, 3) := by decide +kernel
theorem dX5_tryFrom_136 : decode cX5_tryFrom 136 = .ok (.aload_n 2, 1) := by decide +kernel
theorem dX5_tryFrom_137 : decode cX5_tryFrom 137 = .ok (.getfield 78, 3) := by decide +kernel
theorem dX5_tryFrom_140 : decode cX5_tryFrom 140 = .ok (.iload 9, 2) := by decide +kernel
theorem dX5_tryFrom_142 : decode cX5_tryFrom 142 = .ok (.putfield 82, 3) := by decide +kernel
theorem dX5_tryFrom_145 : decode cX5_tryFrom 145 = .ok (.iinc 11 1, 3) := by decide +kernel
theorem dX5_tryFrom_148 : decode cX5_tryFrom 148 = .ok (.goto (-91), 3) := by decide +kernel
theorem dX5_tryFrom_151 : decode cX5_tryFrom 151 = .ok (.return_, 1) := by decide +kernel
theorem dX5_perform_0 : decode cX5_perform 0 = .ok (.iload_n 0, 1) := by decide +kernel
theorem dX5_perform_1 : decode cX5_perform 1 = .ok (.tableswitch 99 0 9 #[55, 55, 55, 55, 63, 70, 77, 84, 89, 94], 55) := by decide +kernel
theorem dX5_perform_56 : decode cX5_perform 56 = .ok (.aload_n 1, 1) := by decide +kernel
theorem dX5_perform_57 : decode cX5_perform 57 = .ok (.iconst 1, 1) := by decide +kernel
theorem dX5_perform_58 : decode cX5_perform 58 = .ok (.iload_n 0, 1) := by decide +kernel
theorem dX5_perform_59 : decode cX5_perform 59 = .ok (.ishl, 1) := by decide +kernel
theorem dX5_perform_60 : decode cX5_perform 60 = .ok (.invokevirtual 106, 3) := by decide +kernel
theorem dX5_perform_63 : decode cX5_perform 63 = .ok (.ireturn, 1) := by decide +kernel
theorem dX5_perform_64 : decode cX5_perform 64 = .ok (.aload_n 1, 1) := by decide +kernel
theorem dX5_perform_65 : decode cX5_perform 65 = .ok (.iconst 2, 1) := by decide +kernel
theorem dX5_perform_66 : decode cX5_perform 66 = .ok (.iconst 2, 1) := by decide +kernel
theorem dX5_perform_67 : decode cX5_perform 67 = .ok (.invokevirtual 110, 3) := by decide +kernel
theorem dX5_perform_70 : decode cX5_perform 70 = .ok (.ireturn, 1) := by decide +kernel
theorem dX5_perform_71 : decode cX5_perform 71 = .ok (.aload_n 1, 1) := by decide +kernel
theorem dX5_perform_72 : decode cX5_perform 72 = .ok (.iconst 1, 1) := by decide +kernel
theorem dX5_perform_73 : decode cX5_perform 73 = .ok (.iconst 1, 1) := by decide +kernel
theorem dX5_perform_74 : decode cX5_perform 74 = .ok (.invokevirtual 114, 3) := by decide +kernel
theorem dX5_perform_77 : decode cX5_perform 77 = .ok (.ireturn, 1) := by decide +kernel
theorem dX5_perform_78 : decode cX5_perform 78 = .ok (.aload_n 1, 1) := by decide +kernel
theorem dX5_perform_79 : decode cX5_perform 79 = .ok (.iconst 1, 1) := by decide +kernel
theorem dX5_perform_80 : decode cX5_perform 80 = .ok (.iconst (-1), 1) := by decide +kernel
theorem dX5_perform_81 : decode cX5_perform 81 = .ok (.invokevirtual 114, 3) := by decide +kernel
theorem dX5_perform_84 : decode cX5_perform 84 = .ok (.ireturn, 1) := by decide +kernel
theorem dX5_perform_85 : decode cX5_perform 85 = .ok (.aload_n 1, 1) := by decide +kernel
theorem dX5_perform_86 : decode cX5_perform 86 = .ok (.invokevirtual 117, 3) := by decide +kernel
theorem dX5_perform_89 : decode cX5_perform 89 = .ok (.ireturn, 1) := by decide +kernel
theorem dX5_perform_90 : decode cX5_perform 90 = .ok (.aload_n 1, 1) := by decide +kernel
theorem dX5_perform_91 : decode cX5_perform 91 = .ok (.invokevirtual 121, 3) := by decide +kernel
theorem dX5_perform_94 : decode cX5_perform 94 = .ok (.ireturn, 1) := by decide +kernel
theorem dX5_perform_95 : decode cX5_perform 95 = .ok (.aload_n 1, 1) := by decide +kernel
theorem dX5_perform_96 : decode cX5_perform 96 = .ok (.invokevirtual 124, 3) := by decide +kernel
theorem dX5_perform_99 : decode cX5_perform 99 = .ok (.ireturn, 1) := by decide +kernel
theorem dX5_perform_100 : decode cX5_perform 100 = .ok (.aload_n 1, 1) := by decide +kernel
theorem dX5_perform_101 : decode cX5_perform 101 = .ok (.bipush 9, 2) := by decide +kernel
theorem dX5_perform_103 : decode cX5_perform 103 = .ok (.invokevirtual 127, 3) := by decide +kernel
theorem dX5_perform_106 : decode cX5_perform 106 = .ok (.ireturn, 1) := by decide +kernel
theorem dX5_keepIfShown_0 : decode cX5_keepIfShown 0 = .ok (.aload_n 0, 1) := by decide +kernel
theorem dX5_keepIfShown_1 : decode cX5_keepIfShown 1 = .ok (.getfield 18, 3) := by decide +kernel
theorem dX5_keepIfShown_4 : decode cX5_keepIfShown 4 = .ok (.ifCond .eq 4, 3) := by decide +kernel
theorem dX5_keepIfShown_7 : decode cX5_keepIfShown 7 = .ok (.return_, 1) := by decide +kernel
theorem dX5_keepIfShown_8 : decode cX5_keepIfShown 8 = .ok (.aload_n 0, 1) := by decide +kernel
theorem dX5_keepIfShown_9 : decode cX5_keepIfShown 9 = .ok (.dup, 1) := by decide +kernel
theorem dX5_keepIfShown_10 : decode cX5_keepIfShown 10 = .ok (.getfield 34, 3) := by decide +kernel
theorem dX5_keepIfShown_13 : decode cX5_keepIfShown 13 = .ok (.iconst 1, 1) := by decide +kernel
theorem dX5_keepIfShown_14 : decode cX5_keepIfShown 14 = .ok (.iadd, 1) := by decide +kernel
theorem dX5_keepIfShown_15 : decode cX5_keepIfShown 15 = .ok (.putfield 34, 3) := by decide +kernel
theorem dX5_keepIfShown_18 : decode cX5_keepIfShown 18 = .ok (.aload_n 0, 1) := by decide +kernel
theorem dX5_keepIfShown_19 : decode cX5_keepIfShown 19 = .ok (.getfield 40, 3) := by decide +kernel
theorem dX5_keepIfShown_22 : decode cX5_keepIfShown 22 = .ok (.ifCond .eq 11, 3) := by decide +kernel
theorem dX5_keepIfShown_25 : decode cX5_keepIfShown 25 = .ok (.iload_n 1, 1) := by decide +kernel
theorem dX5_keepIfShown_26 : decode cX5_keepIfShown 26 = .ok (.aload_n 0, 1) := by decide +kernel
theorem dX5_keepIfShown_27 : decode cX5_keepIfShown 27 = .ok (.getfield 40, 3) := by decide +kernel
theorem dX5_keepIfShown_30 : decode cX5_keepIfShown 30 = .ok (.if_icmp .ge 26, 3) := by decide +kernel
theorem dX5_keepIfShown_33 : decode cX5_keepIfShown 33 = .ok (.aload_n 0, 1) := by decide +kernel
theorem dX5_keepIfShown_34 : decode cX5_keepIfShown 34 = .ok (.iload_n 1, 1) := by decide +kernel
theorem dX5_keepIfShown_35 : decode cX5_keepIfShown 35 = .ok (.putfield 40, 3) := by decide +kernel
theorem dX5_keepIfShown_38 : decode cX5_keepIfShown 38 = .ok (.aload_n 0, 1) := by decide +kernel
theorem dX5_keepIfShown_39 : decode cX5_keepIfShown 39 = .ok (.getfield 31, 3) := by decide +kernel
theorem dX5_keepIfShown_42 : decode cX5_keepIfShown 42 = .ok (.iconst 0, 1) := by decide +kernel
theorem dX5_keepIfShown_43 : decode cX5_keepIfShown 43 = .ok (.aload_n 0, 1) := by decide +kernel
theorem dX5_keepIfShown_44 : decode cX5_keepIfShown 44 = .ok (.getfield 37, 3) := by decide +kernel
theorem dX5_keepIfShown_47 : decode cX5_keepIfShown 47 = .ok (.iconst 0, 1) := by decide +kernel
theorem dX5_keepIfShown_48 : decode cX5_keepIfShown 48 = .ok (.iload_n 1, 1) := by decide +kernel
theorem dX5_keepIfShown_49 : decode cX5_keepIfShown 49 = .ok (.iconst 4, 1) := by decide +kernel
theorem dX5_keepIfShown_50 : decode cX5_keepIfShown 50 = .ok (.invokestatic 130, 3) := by decide +kernel
theorem dX5_keepIfShown_53 : decode cX5_keepIfShown 53 = .ok (.invokestatic 135, 3) := by decide +kernel
theorem dX5_keepIfShown_56 : decode cX5_keepIfShown 56 = .ok (.return_, 1) := by decide +kernel
theorem dX5_isOff_0 : decode cX5_isOff 0 = .ok (.iload_n 1, 1) := by decide +kernel
theorem dX5_isOff_1 : decode cX5_isOff 1 = .ok (.bipush 64, 2) := by decide +kernel
theorem dX5_isOff_3 : decode cX5_isOff 3 = .ok (.invokestatic 57, 3) := by decide +kernel
theorem dX5_isOff_6 : decode cX5_isOff 6 = .ok (.ifCond .eq 33, 3) := by decide +kernel
theorem dX5_isOff_9 : decode cX5_isOff 9 = .ok (.aload_n 0, 1) := by decide +kernel
theorem dX5_isOff_10 : decode cX5_isOff 10 = .ok (.getfield 9, 3) := by decide +kernel
theorem dX5_isOff_13 : decode cX5_isOff 13 = .ok (.iload_n 1, 1) := by decide +kernel
theorem dX5_isOff_14 : decode cX5_isOff 14 = .ok (.iaload, 1) := by decide +kernel
theorem dX5_isOff_15 : decode cX5_isOff 15 = .ok (.bipush 9, 2) := by decide +kernel
theorem dX5_isOff_17 : decode cX5_isOff 17 = .ok (.if_icmp .eq 22, 3) := by decide +kernel
theorem dX5_isOff_20 : decode cX5_isOff 20 = .ok (.aload_n 0, 1) := by decide +kernel
theorem dX5_isOff_21 : decode cX5_isOff 21 = .ok (.getfield 9, 3) := by decide +kernel
theorem dX5_isOff_24 : decode cX5_isOff 24 = .ok (.iload_n 1, 1) := by decide +kernel
theorem dX5_isOff_25 : decode cX5_isOff 25 = .ok (.iaload, 1) := by decide +kernel
theorem dX5_isOff_26 : decode cX5_isOff 26 = .ok (.aload_n 0, 1) := by decide +kernel
theorem dX5_isOff_27 : decode cX5_isOff 27 = .ok (.getfield 15, 3) := by decide +kernel
theorem dX5_isOff_30 : decode cX5_isOff 30 = .ok (.iload_n 1, 1) := by decide +kernel
theorem dX5_isOff_31 : decode cX5_isOff 31 = .ok (.iaload, 1) := by decide +kernel
theorem dX5_isOff_32 : decode cX5_isOff 32 = .ok (.if_icmp .eq 7, 3) := by decide +kernel
theorem dX5_isOff_35 : decode cX5_isOff 35 = .ok (.iconst 1, 1) := by decide +kernel
theorem dX5_isOff_36 : decode cX5_isOff 36 = .ok (.goto 4, 3) := by decide +kernel
theorem dX5_isOff_39 : decode cX5_isOff 39 = .ok (.iconst 0, 1) := by decide +kernel
theorem dX5_isOff_40 : decode cX5_isOff 40 = .ok (.ireturn, 1) := by decide +kernel
theorem dX5_see_0 : decode cX5_see 0 = .ok (.iload_n 1, 1) := by decide +kernel
theorem dX5_see_1 : decode cX5_see 1 = .ok (.bipush 64, 2) := by decide +kernel
theorem dX5_see_3 : decode cX5_see 3 = .ok (.invokestatic 57, 3) := by decide +kernel
theorem dX5_see_6 : decode cX5_see 6 = .ok (.ifCond .eq 54, 3) := by decide +kernel
theorem dX5_see_9 : decode cX5_see 9 = .ok (.aload_n 0, 1) := by decide +kernel
theorem dX5_see_10 : decode cX5_see 10 = .ok (.dup, 1) := by decide +kernel
theorem dX5_see_11 : decode cX5_see 11 = .ok (.getfield 18, 3) := by decide +kernel
theorem dX5_see_14 : decode cX5_see 14 = .ok (.aload_n 0, 1) := by decide +kernel
theorem dX5_see_15 : decode cX5_see 15 = .ok (.iload_n 1, 1) := by decide +kernel
theorem dX5_see_16 : decode cX5_see 16 = .ok (.invokevirtual 49, 3) := by decide +kernel
theorem dX5_see_19 : decode cX5_see 19 = .ok (.ifCond .eq 7, 3) := by decide +kernel
theorem dX5_see_22 : decode cX5_see 22 = .ok (.iconst 1, 1) := by decide +kernel
theorem dX5_see_23 : decode cX5_see 23 = .ok (.goto 4, 3) := by decide +kernel
theorem dX5_see_26 : decode cX5_see 26 = .ok (.iconst 0, 1) := by decide +kernel
theorem dX5_see_27 : decode cX5_see 27 = .ok (.isub, 1) := by decide +kernel
theorem dX5_see_28 : decode cX5_see 28 = .ok (.putfield 18, 3) := by decide +kernel
theorem dX5_see_31 : decode cX5_see 31 = .ok (.aload_n 0, 1) := by decide +kernel
theorem dX5_see_32 : decode cX5_see 32 = .ok (.getfield 15, 3) := by decide +kernel
theorem dX5_see_35 : decode cX5_see 35 = .ok (.iload_n 1, 1) := by decide +kernel
theorem dX5_see_36 : decode cX5_see 36 = .ok (.iload_n 2, 1) := by decide +kernel
theorem dX5_see_37 : decode cX5_see 37 = .ok (.iastore, 1) := by decide +kernel
theorem dX5_see_38 : decode cX5_see 38 = .ok (.aload_n 0, 1) := by decide +kernel
theorem dX5_see_39 : decode cX5_see 39 = .ok (.dup, 1) := by decide +kernel
theorem dX5_see_40 : decode cX5_see 40 = .ok (.getfield 18, 3) := by decide +kernel
theorem dX5_see_43 : decode cX5_see 43 = .ok (.aload_n 0, 1) := by decide +kernel
theorem dX5_see_44 : decode cX5_see 44 = .ok (.iload_n 1, 1) := by decide +kernel
theorem dX5_see_45 : decode cX5_see 45 = .ok (.invokevirtual 49, 3) := by decide +kernel
theorem dX5_see_48 : decode cX5_see 48 = .ok (.ifCond .eq 7, 3) := by decide +kernel
theorem dX5_see_51 : decode cX5_see 51 = .ok (.iconst 1, 1) := by decide +kernel
theorem dX5_see_52 : decode cX5_see 52 = .ok (.goto 4, 3) := by decide +kernel
theorem dX5_see_55 : decode cX5_see 55 = .ok (.iconst 0, 1) := by decide +kernel
theorem dX5_see_56 : decode cX5_see 56 = .ok (.iadd, 1) := by decide +kernel
theorem dX5_see_57 : decode cX5_see 57 = .ok (.putfield 18, 3) := by decide +kernel
theorem dX5_see_60 : decode cX5_see 60 = .ok (.return_, 1) := by decide +kernel
theorem dX5_paint_0 : decode cX5_paint 0 = .ok (.iload_n 2, 1) := by decide +kernel
theorem dX5_paint_1 : decode cX5_paint 1 = .ok (.istore 4, 2) := by decide +kernel
theorem dX5_paint_3 : decode cX5_paint 3 = .ok (.iload 4, 2) := by decide +kernel
theorem dX5_paint_5 : decode cX5_paint 5 = .ok (.aload_n 1, 1) := by decide +kernel
theorem dX5_paint_6 : decode cX5_paint 6 = .ok (.getfield 82, 3) := by decide +kernel
theorem dX5_paint_9 : decode cX5_paint 9 = .ok (.if_icmp .ge 119, 3) := by decide +kernel
theorem dX5_paint_12 : decode cX5_paint 12 = .ok (.aload_n 1, 1) := by decide +kernel
theorem dX5_paint_13 : decode cX5_paint 13 = .ok (.iload 4, 2) := by decide +kernel
theorem dX5_paint_15 : decode cX5_paint 15 = .ok (.invokevirtual 141, 3) := by decide +kernel
theorem dX5_paint_18 : decode cX5_paint 18 = .ok (.istore 5, 2) := by decide +kernel
theorem dX5_paint_20 : decode cX5_paint 20 = .ok (.iload 5, 2) := by decide +kernel
theorem dX5_paint_22 : decode cX5_paint 22 = .ok (.aload_n 1, 1) := by decide +kernel
theorem dX5_paint_23 : decode cX5_paint 23 = .ok (.iload 4, 2) := by decide +kernel
theorem dX5_paint_25 : decode cX5_paint 25 = .ok (.invokevirtual 144, 3) := by decide +kernel
theorem dX5_paint_28 : decode cX5_paint 28 = .ok (.if_icmp .ge 94, 3) := by decide +kernel
theorem dX5_paint_31 : decode cX5_paint 31 = .ok (.aload_n 1, 1) := by decide +kernel
theorem dX5_paint_32 : decode cX5_paint 32 = .ok (.iload 4, 2) := by decide +kernel
theorem dX5_paint_34 : decode cX5_paint 34 = .ok (.iload 5, 2) := by decide +kernel
theorem dX5_paint_36 : decode cX5_paint 36 = .ok (.invokevirtual 147, 3) := by decide +kernel
theorem dX5_paint_39 : decode cX5_paint 39 = .ok (.istore 6, 2) := by decide +kernel
theorem dX5_paint_41 : decode cX5_paint 41 = .ok (.iload 6, 2) := by decide +kernel
theorem dX5_paint_43 : decode cX5_paint 43 = .ok (.bipush 64, 2) := by decide +kernel
theorem dX5_paint_45 : decode cX5_paint 45 = .ok (.invokestatic 57, 3) := by decide +kernel
theorem dX5_paint_48 : decode cX5_paint 48 = .ok (.ifCond .eq 68, 3) := by decide +kernel
theorem dX5_paint_51 : decode cX5_paint 51 = .ok (.aload_n 0, 1) := by decide +kernel
theorem dX5_paint_52 : decode cX5_paint 52 = .ok (.getfield 28, 3) := by decide +kernel
theorem dX5_paint_55 : decode cX5_paint 55 = .ok (.sipush 128, 3) := by decide +kernel
theorem dX5_paint_58 : decode cX5_paint 58 = .ok (.invokestatic 57, 3) := by decide +kernel
theorem dX5_paint_61 : decode cX5_paint 61 = .ok (.ifCond .eq 55, 3) := by decide +kernel
theorem dX5_paint_64 : decode cX5_paint 64 = .ok (.aload_n 0, 1) := by decide +kernel
theorem dX5_paint_65 : decode cX5_paint 65 = .ok (.getfield 22, 3) := by decide +kernel
theorem dX5_paint_68 : decode cX5_paint 68 = .ok (.aload_n 0, 1) := by decide +kernel
theorem dX5_paint_69 : decode cX5_paint 69 = .ok (.getfield 28, 3) := by decide +kernel
theorem dX5_paint_72 : decode cX5_paint 72 = .ok (.iload 6, 2) := by decide +kernel
theorem dX5_paint_74 : decode cX5_paint 74 = .ok (.iastore, 1) := by decide +kernel
theorem dX5_paint_75 : decode cX5_paint 75 = .ok (.aload_n 0, 1) := by decide +kernel
theorem dX5_paint_76 : decode cX5_paint 76 = .ok (.getfield 25, 3) := by decide +kernel
theorem dX5_paint_79 : decode cX5_paint 79 = .ok (.aload_n 0, 1) := by decide +kernel
theorem dX5_paint_80 : decode cX5_paint 80 = .ok (.getfield 28, 3) := by decide +kernel
theorem dX5_paint_83 : decode cX5_paint 83 = .ok (.aload_n 0, 1) := by decide +kernel
theorem dX5_paint_84 : decode cX5_paint 84 = .ok (.getfield 15, 3) := by decide +kernel
theorem dX5_paint_87 : decode cX5_paint 87 = .ok (.iload 6, 2) := by decide +kernel
theorem dX5_paint_89 : decode cX5_paint 89 = .ok (.iaload, 1) := by decide +kernel
theorem dX5_paint_90 : decode cX5_paint 90 = .ok (.iastore, 1) := by decide +kernel
theorem dX5_paint_91 : decode cX5_paint 91 = .ok (.aload_n 0, 1) := by decide +kernel
theorem dX5_paint_92 : decode cX5_paint 92 = .ok (.dup, 1) := by decide +kernel
theorem dX5_paint_93 : decode cX5_paint 93 = .ok (.getfield 28, 3) := by decide +kernel
theorem dX5_paint_96 : decode cX5_paint 96 = .ok (.iconst 1, 1) := by decide +kernel
theorem dX5_paint_97 : decode cX5_paint 97 = .ok (.iadd, 1) := by decide +kernel
theorem dX5_paint_98 : decode cX5_paint 98 = .ok (.putfield 28, 3) := by decide +kernel
theorem dX5_paint_101 : decode cX5_paint 101 = .ok (.aload_n 0, 1) := by decide +kernel
theorem dX5_paint_102 : decode cX5_paint 102 = .ok (.iload 6, 2) := by decide +kernel
theorem dX5_paint_104 : decode cX5_paint 104 = .ok (.aload_n 1, 1) := by decide +kernel
theorem dX5_paint_105 : decode cX5_paint 105 = .ok (.iload 4, 2) := by decide +kernel
theorem dX5_paint_107 : decode cX5_paint 107 = .ok (.iload 5, 2) := by decide +kernel
theorem dX5_paint_109 : decode cX5_paint 109 = .ok (.aload_n 3, 1) := by decide +kernel
theorem dX5_paint_110 : decode cX5_paint 110 = .ok (.invokevirtual 150, 3) := by decide +kernel
theorem dX5_paint_113 : decode cX5_paint 113 = .ok (.invokevirtual 154, 3) := by decide +kernel
theorem dX5_paint_116 : decode cX5_paint 116 = .ok (.iinc 5 1, 3) := by decide +kernel
theorem dX5_paint_119 : decode cX5_paint 119 = .ok (.goto (-99), 3) := by decide +kernel
theorem dX5_paint_122 : decode cX5_paint 122 = .ok (.iinc 4 1, 3) := by decide +kernel
theorem dX5_paint_125 : decode cX5_paint 125 = .ok (.goto (-122), 3) := by decide +kernel
theorem dX5_paint_128 : decode cX5_paint 128 = .ok (.return_, 1) := by decide +kernel
theorem dX5_unpaint_0 : decode cX5_unpaint 0 = .ok (.aload_n 0, 1) := by decide +kernel
theorem dX5_unpaint_1 : decode cX5_unpaint 1 = .ok (.getfield 28, 3) := by decide +kernel
theorem dX5_unpaint_4 : decode cX5_unpaint 4 = .ok (.iconst 1, 1) := by decide +kernel
theorem dX5_unpaint_5 : decode cX5_unpaint 5 = .ok (.isub, 1) := by decide +kernel
theorem dX5_unpaint_6 : decode cX5_unpaint 6 = .ok (.istore_n 2, 1) := by decide +kernel
theorem dX5_unpaint_7 : decode cX5_unpaint 7 = .ok (.iload_n 2, 1) := by decide +kernel
theorem dX5_unpaint_8 : decode cX5_unpaint 8 = .ok (.iload_n 1, 1) := by decide +kernel
theorem dX5_unpaint_9 : decode cX5_unpaint 9 = .ok (.if_icmp .lt 36, 3) := by decide +kernel
theorem dX5_unpaint_12 : decode cX5_unpaint 12 = .ok (.iload_n 2, 1) := by decide +kernel
theorem dX5_unpaint_13 : decode cX5_unpaint 13 = .ok (.ifCond .lt 32, 3) := by decide +kernel
theorem dX5_unpaint_16 : decode cX5_unpaint 16 = .ok (.iload_n 2, 1) := by decide +kernel
theorem dX5_unpaint_17 : decode cX5_unpaint 17 = .ok (.sipush 128, 3) := by decide +kernel
theorem dX5_unpaint_20 : decode cX5_unpaint 20 = .ok (.if_icmp .ge 19, 3) := by decide +kernel
theorem dX5_unpaint_23 : decode cX5_unpaint 23 = .ok (.aload_n 0, 1) := by decide +kernel
theorem dX5_unpaint_24 : decode cX5_unpaint 24 = .ok (.aload_n 0, 1) := by decide +kernel
theorem dX5_unpaint_25 : decode cX5_unpaint 25 = .ok (.getfield 22, 3) := by decide +kernel
theorem dX5_unpaint_28 : decode cX5_unpaint 28 = .ok (.iload_n 2, 1) := by decide +kernel
theorem dX5_unpaint_29 : decode cX5_unpaint 29 = .ok (.iaload, 1) := by decide +kernel
theorem dX5_unpaint_30 : decode cX5_unpaint 30 = .ok (.aload_n 0, 1) := by decide +kernel
theorem dX5_unpaint_31 : decode cX5_unpaint 31 = .ok (.getfield 25, 3) := by decide +kernel
theorem dX5_unpaint_34 : decode cX5_unpaint 34 = .ok (.iload_n 2, 1) := by decide +kernel
theorem dX5_unpaint_35 : decode cX5_unpaint 35 = .ok (.iaload, 1) := by decide +kernel
theorem dX5_unpaint_36 : decode cX5_unpaint 36 = .ok (.invokevirtual 154, 3) := by decide +kernel
theorem dX5_unpaint_39 : decode cX5_unpaint 39 = .ok (.iinc 2 (-1), 3) := by decide +kernel
theorem dX5_unpaint_42 : decode cX5_unpaint 42 = .ok (.goto (-35), 3) := by decide +kernel
theorem dX5_unpaint_45 : decode cX5_unpaint 45 = .ok (.aload_n 0, 1) := by decide +kernel
theorem dX5_unpaint_46 : decode cX5_unpaint 46 = .ok (.iload_n 1, 1) := by decide +kernel
theorem dX5_unpaint_47 : decode cX5_unpaint 47 = .ok (.putfield 28, 3) := by decide +kernel
theorem dX5_unpaint_50 : decode cX5_unpaint 50 = .ok (.return_, 1) := by decide +kernel
theorem dX6_init_0 : decode cX6_init 0 = .ok (.aload_n 0, 1) := by decide +kernel
theorem dX6_init_1 : decode cX6_init 1 = .ok (.invokespecial 3, 3) := by decide +kernel
theorem dX6_init_4 : decode cX6_init 4 = .ok (.aload_n 0, 1) := by decide +kernel
theorem dX6_init_5 : decode cX6_init 5 = .ok (.bipush 120, 2) := by decide +kernel
theorem dX6_init_7 : decode cX6_init 7 = .ok (.newarray .int, 2) := by decide +kernel
theorem dX6_init_9 : decode cX6_init 9 = .ok (.putfield 9, 3) := by decide +kernel
theorem dX6_init_12 : decode cX6_init 12 = .ok (.aload_n 0, 1) := by decide +kernel
theorem dX6_init_13 : decode cX6_init 13 = .ok (.iconst 0, 1) := by decide +kernel
theorem dX6_init_14 : decode cX6_init 14 = .ok (.putfield 15, 3) := by decide +kernel
theorem dX6_init_17 : decode cX6_init 17 = .ok (.aload_n 0, 1) := by decide +kernel
theorem dX6_init_18 : decode cX6_init 18 = .ok (.iconst 0, 1) := by decide +kernel
theorem dX6_init_19 : decode cX6_init 19 = .ok (.putfield 19, 3) := by decide +kernel
theorem dX6_init_22 : decode cX6_init 22 = .ok (.aload_n 0, 1) := by decide +kernel
theorem dX6_init_23 : decode cX6_init 23 = .ok (.sipush 248, 3) := by decide +kernel
theorem dX6_init_26 : decode cX6_init 26 = .ok (.newarray .int, 2) := by decide +kernel
theorem dX6_init_28 : decode cX6_init 28 = .ok (.putfield 22, 3) := by decide +kernel
theorem dX6_init_31 : decode cX6_init 31 = .ok (.aload_n 0, 1) := by decide +kernel
theorem dX6_init_32 : decode cX6_init 32 = .ok (.iconst 0, 1) := by decide +kernel
theorem dX6_init_33 : decode cX6_init 33 = .ok (.putfield 25, 3) := by decide +kernel
theorem dX6_init_36 : decode cX6_init 36 = .ok (.aload_n 0, 1) := by decide +kernel
theorem dX6_init_37 : decode cX6_init 37 = .ok (.iconst 0, 1) := by decide +kernel
theorem dX6_init_38 : decode cX6_init 38 = .ok (.putfield 28, 3) := by decide +kernel
theorem dX6_init_41 : decode cX6_init 41 = .ok (.aload_n 0, 1) := by decide +kernel
theorem dX6_init_42 : decode cX6_init 42 = .ok (.iconst 0, 1) := by decide +kernel
theorem dX6_init_43 : decode cX6_init 43 = .ok (.putfield 31, 3) := by decide +kernel
theorem dX6_init_46 : decode cX6_init 46 = .ok (.aload_n 0, 1) := by decide +kernel
theorem dX6_init_47 : decode cX6_init 47 = .ok (.iconst 0, 1) := by decide +kernel
theorem dX6_init_48 : decode cX6_init 48 = .ok (.putfield 34, 3) := by decide +kernel
theorem dX6_init_51 : decode cX6_init 51 = .ok (.return_, 1) := by decide +kernel
theorem dX6_write_0 : decode cX6_write 0 = .ok (.aload_n 0, 1) := by decide +kernel
theorem dX6_write_1 : decode cX6_write 1 = .ok (.iconst 0, 1) := by decide +kernel
theorem dX6_write_2 : decode cX6_write 2 = .ok (.iload_n 2, 1) := by decide +kernel
theorem dX6_write_3 : decode cX6_write 3 = .ok (.aload_n 1, 1) := by decide +kernel
theorem dX6_write_4 : decode cX6_write 4 = .ok (.arraylength, 1) := by decide +kernel
theorem dX6_write_5 : decode cX6_write 5 = .ok (.aload_n 0, 1) := by decide +kernel
theorem dX6_write_6 : decode cX6_write 6 = .ok (.getfield 9, 3) := by decide +kernel
theorem dX6_write_9 : decode cX6_write 9 = .ok (.arraylength, 1) := by decide +kernel
theorem dX6_write_10 : decode cX6_write 10 = .ok (.invokestatic 37, 3) := by decide +kernel
theorem dX6_write_13 : decode cX6_write 13 = .ok (.invokestatic 37, 3) := by decide +kernel
theorem dX6_write_16 : decode cX6_write 16 = .ok (.invokestatic 43, 3) := by decide +kernel
theorem dX6_write_19 : decode cX6_write 19 = .ok (.putfield 15, 3) := by decide +kernel
theorem dX6_write_22 : decode cX6_write 22 = .ok (.aload_n 1, 1) := by decide +kernel
theorem dX6_write_23 : decode cX6_write 23 = .ok (.iconst 0, 1) := by decide +kernel
theorem dX6_write_24 : decode cX6_write 24 = .ok (.aload_n 0, 1) := by decide +kernel
theorem dX6_write_25 : decode cX6_write 25 = .ok (.getfield 9, 3) := by decide +kernel
theorem dX6_write_28 : decode cX6_write 28 = .ok (.iconst 0, 1) := by decide +kernel
theorem dX6_write_29 : decode cX6_write 29 = .ok (.aload_n 0, 1) := by decide +kernel
theorem dX6_write_30 : decode cX6_write 30 = .ok (.getfield 15, 3) := by decide +kernel
theorem dX6_write_33 : decode cX6_write 33 = .ok (.invokestatic 46, 3) := by decide +kernel
theorem dX6_write_36 : decode cX6_write 36 = .ok (.aload_n 0, 1) := by decide +kernel
theorem dX6_write_37 : decode cX6_write 37 = .ok (.iconst 0, 1) := by decide +kernel
theorem dX6_write_38 : decode cX6_write 38 = .ok (.putfield 19, 3) := by decide +kernel
theorem dX6_write_41 : decode cX6_write 41 = .ok (.aload_n 0, 1) := by decide +kernel
theorem dX6_write_42 : decode cX6_write 42 = .ok (.iconst 0, 1) := by decide +kernel
theorem dX6_write_43 : decode cX6_write 43 = .ok (.putfield 25, 3) := by decide +kernel
theorem dX6_write_46 : decode cX6_write 46 = .ok (.aload_n 0, 1) := by decide +kernel
theorem dX6_write_47 : decode cX6_write 47 = .ok (.iconst 0, 1) := by decide +kernel
theorem dX6_write_48 : decode cX6_write 48 = .ok (.putfield 28, 3) := by decide +kernel
theorem dX6_write_51 : decode cX6_write 51 = .ok (.aload_n 0, 1) := by decide +kernel
theorem dX6_write_52 : decode cX6_write 52 = .ok (.iconst 0, 1) := by decide +kernel
theorem dX6_write_53 : decode cX6_write 53 = .ok (.putfield 31, 3) := by decide +kernel
theorem dX6_write_56 : decode cX6_write 56 = .ok (.aload_n 0, 1) := by decide +kernel
theorem dX6_write_57 : decode cX6_write 57 = .ok (.iconst 0, 1) := by decide +kernel
theorem dX6_write_58 : decode cX6_write 58 = .ok (.putfield 34, 3) := by decide +kernel
theorem dX6_write_61 : decode cX6_write 61 = .ok (.aload_n 0, 1) := by decide +kernel
theorem dX6_write_62 : decode cX6_write 62 = .ok (.iconst 0, 1) := by decide +kernel
theorem dX6_write_63 : decode cX6_write 63 = .ok (.invokevirtual 52, 3) := by decide +kernel
theorem dX6_write_66 : decode cX6_write 66 = .ok (.aload_n 0, 1) := by decide +kernel
theorem dX6_write_67 : decode cX6_write 67 = .ok (.getfield 31, 3) := by decide +kernel
theorem dX6_write_70 : decode cX6_write 70 = .ok (.ifCond .ne 19, 3) := by decide +kernel
theorem dX6_write_73 : decode cX6_write 73 = .ok (.aload_n 0, 1) := by decide +kernel
theorem dX6_write_74 : decode cX6_write 74 = .ok (.getfield 19, 3) := by decide +kernel
theorem dX6_write_77 : decode cX6_write 77 = .ok (.aload_n 0, 1) := by decide +kernel
theorem dX6_write_78 : decode cX6_write 78 = .ok (.getfield 15, 3) := by decide +kernel
theorem dX6_write_81 : decode cX6_write 81 = .ok (.if_icmp .ge 8, 3) := by decide +kernel
theorem dX6_write_84 : decode cX6_write 84 = .ok (.aload_n 0, 1) := by decide +kernel
theorem dX6_write_85 : decode cX6_write 85 = .ok (.iconst 1, 1) := by decide +kernel
theorem dX6_write_86 : decode cX6_write 86 = .ok (.invokevirtual 56, 3) := by decide +kernel
theorem dX6_write_89 : decode cX6_write 89 = .ok (.aload_n 0, 1) := by decide +kernel
theorem dX6_write_90 : decode cX6_write 90 = .ok (.getfield 31, 3) := by decide +kernel
theorem dX6_write_93 : decode cX6_write 93 = .ok (.ifCond .ne 22, 3) := by decide +kernel
theorem dX6_write_96 : decode cX6_write 96 = .ok (.aload_n 0, 1) := by decide +kernel
theorem dX6_write_97 : decode cX6_write 97 = .ok (.getfield 25, 3) := by decide +kernel
theorem dX6_write_100 : decode cX6_write 100 = .ok (.ifCond .lt 15, 3) := by decide +kernel
theorem dX6_write_103 : decode cX6_write 103 = .ok (.aload_n 0, 1) := by decide +kernel
theorem dX6_write_104 : decode cX6_write 104 = .ok (.getfield 25, 3) := by decide +kernel
theorem dX6_write_107 : decode cX6_write 107 = .ok (.aload_n 0, 1) := by decide +kernel
theorem dX6_write_108 : decode cX6_write 108 = .ok (.getfield 22, 3) := by decide +kernel
theorem dX6_write_111 : decode cX6_write 111 = .ok (.arraylength, 1) := by decide +kernel
theorem dX6_write_112 : decode cX6_write 112 = .ok (.if_icmp .le 5, 3) := by decide +kernel
theorem dX6_write_115 : decode cX6_write 115 = .ok (.aconst_null, 1) := by decide +kernel
theorem dX6_write_116 : decode cX6_write 116 = .ok (.areturn, 1) := by decide +kernel
theorem dX6_write_117 : decode cX6_write 117 = .ok (.new 59, 3) := by decide +kernel
theorem dX6_write_120 : decode cX6_write 120 = .ok (.dup, 1) := by decide +kernel
theorem dX6_write_121 : decode cX6_write 121 = .ok (.aload_n 0, 1) := by decide +kernel
theorem dX6_write_122 : decode cX6_write 122 = .ok (.getfield 22, 3) := by decide +kernel
theorem dX6_write_125 : decode cX6_write 125 = .ok (.aload_n 0, 1) := by decide +kernel
theorem dX6_write_126 : decode cX6_write 126 = .ok (.getfield 25, 3) := by decide +kernel
theorem dX6_write_129 : decode cX6_write 129 = .ok (.invokestatic 61, 3) := by decide +kernel
theorem dX6_write_132 : decode cX6_write 132 = .ok (.aload_n 0, 1) := by decide +kernel
theorem dX6_write_133 : decode cX6_write 133 = .ok (.getfield 28, 3) := by decide +kernel
theorem dX6_write_136 : decode cX6_write 136 = .ok (.invokespecial 67, 3) := by decide +kernel
theorem dX6_write_139 : decode cX6_write 139 = .ok (.areturn, 1) := by decide +kernel
theorem dX6_sign_0 : decode cX6_sign 0 = .ok (.aload_n 0, 1) := by decide +kernel
theorem dX6_sign_1 : decode cX6_sign 1 = .ok (.getfield 19, 3) := by decide +kernel
theorem dX6_sign_4 : decode cX6_sign 4 = .ok (.aload_n 0, 1) := by decide +kernel
theorem dX6_sign_5 : decode cX6_sign 5 = .ok (.getfield 15, 3) := by decide +kernel
theorem dX6_sign_8 : decode cX6_sign 8 = .ok (.invokestatic 70, 3) := by decide +kernel
theorem dX6_sign_11 : decode cX6_sign 11 = .ok (.ifCond .eq 27, 3) := by decide +kernel
theorem dX6_sign_14 : decode cX6_sign 14 = .ok (.aload_n 0, 1) := by decide +kernel
theorem dX6_sign_15 : decode cX6_sign 15 = .ok (.getfield 19, 3) := by decide +kernel
theorem dX6_sign_18 : decode cX6_sign 18 = .ok (.aload_n 0, 1) := by decide +kernel
theorem dX6_sign_19 : decode cX6_sign 19 = .ok (.getfield 9, 3) := by decide +kernel
theorem dX6_sign_22 : decode cX6_sign 22 = .ok (.arraylength, 1) := by decide +kernel
theorem dX6_sign_23 : decode cX6_sign 23 = .ok (.if_icmp .ge 15, 3) := by decide +kernel
theorem dX6_sign_26 : decode cX6_sign 26 = .ok (.aload_n 0, 1) := by decide +kernel
theorem dX6_sign_27 : decode cX6_sign 27 = .ok (.getfield 9, 3) := by decide +kernel
theorem dX6_sign_30 : decode cX6_sign 30 = .ok (.aload_n 0, 1) := by decide +kernel
theorem dX6_sign_31 : decode cX6_sign 31 = .ok (.getfield 19, 3) := by decide +kernel
theorem dX6_sign_34 : decode cX6_sign 34 = .ok (.iaload, 1) := by decide +kernel
theorem dX6_sign_35 : decode cX6_sign 35 = .ok (.goto 4, 3) := by decide +kernel
theorem dX6_sign_38 : decode cX6_sign 38 = .ok (.iconst (-1), 1) := by decide +kernel
theorem dX6_sign_39 : decode cX6_sign 39 = .ok (.ireturn, 1) := by decide +kernel
section
variable {d : Nat} {M : gM} {Z : Option Value → gM → Prop} {a0 a1 a2 a3 a4 a5 a6 a7 a8 a9 a10 a11 a12 : Option Value} {v s0 s1 s2 s3 s4 s5 s6 s7 s8 s9 s10 s11 : Value} {x y w : Int32} {o b u1 u2 : Nat}
/-! 58: X5_take ([I)Z -/
theorem gd58 {pc : Nat} {r : Except _ _} (h : decode cX5_take pc = r) : decode (gby 58) pc = r := h
theorem z58_0 : Run d 58 0 [a0, some (.ref o), a2, a3, a4] [] M 0 0 Z ↔ Run d 58 1 [a0, some (.ref o), a2, a3, a4] [.ref o] M 0 0 Z := R_local (gd58 dX5_take_0) rfl rfl rfl
theorem z58_0n : Run d 58 0 [a0, some .null, a2, a3, a4] [] M 0 0 Z ↔ Run d 58 1 [a0, some .null, a2, a3, a4] [.null] M 0 0 Z := R_local (gd58 dX5_take_0) rfl rfl rfl
theorem z58_1 : Run d 58 1 [a0, a1, a2, a3, a4] [.ref o] M 0 0 Z ↔ (gTy M o).isSome = true ∧ Run d 58 2 [a0, a1, a2, a3, a4] [.int (nI (gLen M o))] M 0 0 Z := R_alen (gd58 dX5_take_1)
theorem z58_2 : Run d 58 2 [a0, a1, a2, a3, a4] [s0] M 0 0 Z ↔ Run d 58 4 [a0, a1, a2, a3, a4] [.int 64, s0] M 0 0 Z := R_bipush (gd58 dX5_take_2) (by decide)
theorem z58_4 : Run d 58 4 [a0, a1, a2, a3, a4] [.int y, .int x] M 0 0 Z ↔ (x < y → Run d 58 11 [a0, a1, a2, a3, a4] [] M 0 0 Z) ∧ (¬ (x < y) → Run d 58 7 [a0, a1, a2, a3, a4] [] M 0 0 Z) := R_icmp (gd58 dX5_take_4) (show gTgt 4 7 = some 11 by decide) gIf_lt
theorem z58_7 : Run d 58 7 [a0, a1, a2, a3, a4] [] M 0 0 Z ↔ Run d 58 8 [a0, a1, a2, a3, a4] [.int 1] M 0 0 Z := R_iconst (gd58 dX5_take_7) (by decide)
theorem z58_8 : Run d 58 8 [a0, a1, a2, a3, a4] [s0] M 0 0 Z ↔ Run d 58 12 [a0, a1, a2, a3, a4] [s0] M 0 0 Z := R_goto (gd58 dX5_take_8) (show gTgt 8 4 = some 12 by decide)
theorem z58_11 : Run d 58 11 [a0, a1, a2, a3, a4] [] M 0 0 Z ↔ Run d 58 12 [a0, a1, a2, a3, a4] [.int 0] M 0 0 Z := R_iconst (gd58 dX5_take_11) (by decide)
theorem z58_12 : Run d 58 12 [a0, a1, a2, a3, a4] [.int x] M 0 0 Z ↔ Run d 58 13 [a0, a1, some (.int x), a3, a4] [] M 0 0 Z := R_local (gd58 dX5_take_12) rfl rfl rfl
theorem z58_13 : Run d 58 13 [a0, a1, a2, a3, a4] [] M 0 0 Z ↔ Run d 58 14 [a0, a1, a2, a3, a4] [.int 0] M 0 0 Z := R_iconst (gd58 dX5_take_13) (by decide)
theorem z58_14 : Run d 58 14 [a0, a1, a2, a3, a4] [.int x] M 0 0 Z ↔ Run d 58 15 [a0, a1, a2, some (.int x), a4] [] M 0 0 Z := R_local (gd58 dX5_take_14) rfl rfl rfl
theorem z58_15 : Run d 58 15 [a0, a1, a2, some (.int x), a4] [] M 0 0 Z ↔ Run d 58 16 [a0, a1, a2, some (.int x), a4] [.int x] M 0 0 Z := R_local (gd58 dX5_take_15) rfl rfl rfl
theorem z58_16 : Run d 58 16 [a0, a1, a2, a3, a4] [s0] M 0 0 Z ↔ Run d 58 18 [a0, a1, a2, a3, a4] [.int 64, s0] M 0 0 Z := R_bipush (gd58 dX5_take_16) (by decide)
theorem z58_18 : Run d 58 18 [a0, a1, a2, a3, a4] [.int y, .int x] M 0 0 Z ↔ (y ≤ x → Run d 58 86 [a0, a1, a2, a3, a4] [] M 0 0 Z) ∧ (¬ (y ≤ x) → Run d 58 21 [a0, a1, a2, a3, a4] [] M 0 0 Z) := R_icmp (gd58 dX5_take_18) (show gTgt 18 68 = some 86 by decide) gIf_ge
theorem z58_21 : Run d 58 21 [a0, a1, some (.int x), a3, a4] [] M 0 0 Z ↔ Run d 58 22 [a0, a1, some (.int x), a3, a4] [.int x] M 0 0 Z := R_local (gd58 dX5_take_21) rfl rfl rfl
theorem z58_22 : Run d 58 22 [a0, a1, a2, a3, a4] [.int x] M 0 0 Z ↔ (x = 0 → Run d 58 86 [a0, a1, a2, a3, a4] [] M 0 0 Z) ∧ (¬ (x = 0) → Run d 58 25 [a0, a1, a2, a3, a4] [] M 0 0 Z) := R_if (gd58 dX5_take_22) (show gTgt 22 64 = some 86 by decide) gIf_eq
theorem z58_25 : Run d 58 25 [a0, some (.ref o), a2, a3, a4] [] M 0 0 Z ↔ Run d 58 26 [a0, some (.ref o), a2, a3, a4] [.ref o] M 0 0 Z := R_local (gd58 dX5_take_25) rfl rfl rfl
theorem z58_25n : Run d 58 25 [a0, some .null, a2, a3, a4] [] M 0 0 Z ↔ Run d 58 26 [a0, some .null, a2, a3, a4] [.null] M 0 0 Z := R_local (gd58 dX5_take_25) rfl rfl rfl
theorem z58_26 : Run d 58 26 [a0, a1, a2, some (.int x), a4] [s0] M 0 0 Z ↔ Run d 58 27 [a0, a1, a2, some (.int x), a4] [.int x, s0] M 0 0 Z := R_local (gd58 dX5_take_26) rfl rfl rfl
theorem z58_27 : Run d 58 27 [a0, a1, a2, a3, a4] [.int x, .ref o] M 0 0 Z ↔ gAr M o 0 ∧ gIn x (gLen M o) = true ∧ Run d 58 28 [a0, a1, a2, a3, a4] [.int (M.1 o x.toNatClampNeg)] M 0 0 Z := R_iald (gd58 dX5_take_27)
theorem z58_28 : Run d 58 28 [a0, a1, a2, a3, a4] [.int x] M 0 0 Z ↔ Run d 58 30 [a0, a1, a2, a3, some (.int x)] [] M 0 0 Z := R_local (gd58 dX5_take_28) rfl rfl rfl
theorem z58_30 : Run d 58 30 [a0, a1, a2, a3, some (.int x)] [] M 0 0 Z ↔ Run d 58 32 [a0, a1, a2, a3, some (.int x)] [.int x] M 0 0 Z := R_local (gd58 dX5_take_30) rfl rfl rfl
theorem z58_32 : Run d 58 32 [a0, a1, a2, a3, a4] [s0] M 0 0 Z ↔ Run d 58 34 [a0, a1, a2, a3, a4] [.int 63, s0] M 0 0 Z := R_bipush (gd58 dX5_take_32) (by decide)
theorem z58_34 : Run d 58 34 [a0, a1, a2, a3, a4] [.int y, .int x] M 0 0 Z ↔ (x = y → Run d 58 51 [a0, a1, a2, a3, a4] [] M 0 0 Z) ∧ (¬ (x = y) → Run d 58 37 [a0, a1, a2, a3, a4] [] M 0 0 Z) := R_icmp (gd58 dX5_take_34) (show gTgt 34 17 = some 51 by decide) gIf_eq
theorem z58_37 : Run d 58 37 [a0, a1, a2, a3, some (.int x)] [] M 0 0 Z ↔ Run d 58 39 [a0, a1, a2, a3, some (.int x)] [.int x] M 0 0 Z := R_local (gd58 dX5_take_37) rfl rfl rfl
theorem z58_39 : Run d 58 39 [a0, a1, a2, a3, a4] [s0] M 0 0 Z ↔ Run d 58 41 [a0, a1, a2, a3, a4] [.int 48, s0] M 0 0 Z := R_bipush (gd58 dX5_take_39) (by decide)
theorem z58_41 : Run d 58 41 [a0, a1, a2, a3, a4] [.int y, .int x] M 0 0 Z ↔ (x < y → Run d 58 55 [a0, a1, a2, a3, a4] [] M 0 0 Z) ∧ (¬ (x < y) → Run d 58 44 [a0, a1, a2, a3, a4] [] M 0 0 Z) := R_icmp (gd58 dX5_take_41) (show gTgt 41 14 = some 55 by decide) gIf_lt
theorem z58_44 : Run d 58 44 [a0, a1, a2, a3, some (.int x)] [] M 0 0 Z ↔ Run d 58 46 [a0, a1, a2, a3, some (.int x)] [.int x] M 0 0 Z := R_local (gd58 dX5_take_44) rfl rfl rfl
theorem z58_46 : Run d 58 46 [a0, a1, a2, a3, a4] [s0] M 0 0 Z ↔ Run d 58 48 [a0, a1, a2, a3, a4] [.int 56, s0] M 0 0 Z := R_bipush (gd58 dX5_take_46) (by decide)
theorem z58_48 : Run d 58 48 [a0, a1, a2, a3, a4] [.int y, .int x] M 0 0 Z ↔ (y < x → Run d 58 55 [a0, a1, a2, a3, a4] [] M 0 0 Z) ∧ (¬ (y < x) → Run d 58 51 [a0, a1, a2, a3, a4] [] M 0 0 Z) := R_icmp (gd58 dX5_take_48) (show gTgt 48 7 = some 55 by decide) gIf_gt
theorem z58_51 : Run d 58 51 [a0, a1, a2, a3, a4] [] M 0 0 Z ↔ Run d 58 52 [a0, a1, a2, a3, a4] [.int 1] M 0 0 Z := R_iconst (gd58 dX5_take_51) (by decide)
theorem z58_52 : Run d 58 52 [a0, a1, a2, a3, a4] [s0] M 0 0 Z ↔ Run d 58 56 [a0, a1, a2, a3, a4] [s0] M 0 0 Z := R_goto (gd58 dX5_take_52) (show gTgt 52 4 = some 56 by decide)
theorem z58_55 : Run d 58 55 [a0, a1, a2, a3, a4] [] M 0 0 Z ↔ Run d 58 56 [a0, a1, a2, a3, a4] [.int 0] M 0 0 Z := R_iconst (gd58 dX5_take_55) (by decide)
theorem z58_56 : Run d 58 56 [a0, a1, a2, a3, a4] [.int x] M 0 0 Z ↔ Run d 58 57 [a0, a1, some (.int x), a3, a4] [] M 0 0 Z := R_local (gd58 dX5_take_56) rfl rfl rfl
theorem z58_57 : Run d 58 57 [some (.ref o), a1, a2, a3, a4] [] M 0 0 Z ↔ Run d 58 58 [some (.ref o), a1, a2, a3, a4] [.ref o] M 0 0 Z := R_local (gd58 dX5_take_57) rfl rfl rfl
theorem z58_58 : Run d 58 58 [a0, a1, a2, a3, a4] [.ref o] M 0 0 Z ↔ gObj M o 5 ∧ Run d 58 61 [a0, a1, a2, a3, a4] [va_rf (M.2.1 o 0)] M 0 0 Z := R_getR (gd58 dX5_take_58) rfl gf_5_9 rfl
theorem z58_61 : Run d 58 61 [a0, a1, a2, some (.int x), a4] [s0] M 0 0 Z ↔ Run d 58 62 [a0, a1, a2, some (.int x), a4] [.int x, s0] M 0 0 Z := R_local (gd58 dX5_take_61) rfl rfl rfl
theorem z58_62 : Run d 58 62 [a0, a1, a2, a3, some (.int x)] [s1, s0] M 0 0 Z ↔ Run d 58 64 [a0, a1, a2, a3, some (.int x)] [.int x, s1, s0] M 0 0 Z := R_local (gd58 dX5_take_62) rfl rfl rfl
theorem z58_64 : Run d 58 64 [a0, a1, a2, a3, a4] [s2, s1, s0] M 0 0 Z ↔ Run d 58 66 [a0, a1, a2, a3, a4] [.int 63, s2, s1, s0] M 0 0 Z := R_bipush (gd58 dX5_take_64) (by decide)
theorem z58_66 : Run d 58 66 [a0, a1, a2, a3, a4] [.int y, .int x, s1, s0] M 0 0 Z ↔ (¬ x = y → Run d 58 74 [a0, a1, a2, a3, a4] [s1, s0] M 0 0 Z) ∧ (¬ (¬ x = y) → Run d 58 69 [a0, a1, a2, a3, a4] [s1, s0] M 0 0 Z) := R_icmp (gd58 dX5_take_66) (show gTgt 66 8 = some 74 by decide) gIf_ne
theorem z58_69 : Run d 58 69 [a0, a1, a2, a3, a4] [s1, s0] M 0 0 Z ↔ Run d 58 71 [a0, a1, a2, a3, a4] [.int 9, s1, s0] M 0 0 Z := R_bipush (gd58 dX5_take_69) (by decide)
theorem z58_71 : Run d 58 71 [a0, a1, a2, a3, a4] [s2, s1, s0] M 0 0 Z ↔ Run d 58 79 [a0, a1, a2, a3, a4] [s2, s1, s0] M 0 0 Z := R_goto (gd58 dX5_take_71) (show gTgt 71 8 = some 79 by decide)
theorem z58_74 : Run d 58 74 [a0, a1, a2, a3, some (.int x)] [s1, s0] M 0 0 Z ↔ Run d 58 76 [a0, a1, a2, a3, some (.int x)] [.int x, s1, s0] M 0 0 Z := R_local (gd58 dX5_take_74) rfl rfl rfl
theorem z58_76 : Run d 58 76 [a0, a1, a2, a3, a4] [s2, s1, s0] M 0 0 Z ↔ Run d 58 78 [a0, a1, a2, a3, a4] [.int 48, s2, s1, s0] M 0 0 Z := R_bipush (gd58 dX5_take_76) (by decide)
theorem z58_78 : Run d 58 78 [a0, a1, a2, a3, a4] [.int y, .int x, s1, s0] M 0 0 Z ↔ Run d 58 79 [a0, a1, a2, a3, a4] [.int (x - y), s1, s0] M 0 0 Z := R_arith (gd58 dX5_take_78) rfl
theorem z58_79 : Run d 58 79 [a0, a1, a2, a3, a4] [.int y, .int x, .ref o] M 0 0 Z ↔ gAr M o 0 ∧ gIn x (gLen M o) = true ∧ Run d 58 80 [a0, a1, a2, a3, a4] [] (gsI M o x.toNatClampNeg y) 0 0 Z := R_iast (gd58 dX5_take_79)
theorem z58_80 : Run d 58 80 [a0, a1, a2, some (.int x), a4] [] M 0 0 Z ↔ Run d 58 83 [a0, a1, a2, some (.int (x + 1)), a4] [] M 0 0 Z := R_iinc (gd58 dX5_take_80) (by decide) rfl rfl
theorem z58_83 : Run d 58 83 [a0, a1, a2, a3, a4] [] M 0 0 Z ↔ Run d 58 15 [a0, a1, a2, a3, a4] [] M 0 0 Z := R_goto (gd58 dX5_take_83) (show gTgt 83 (-68) = some 15 by decide)
theorem z58_86 : Run d 58 86 [a0, a1, some (.int x), a3, a4] [] M 0 0 Z ↔ Run d 58 87 [a0, a1, some (.int x), a3, a4] [.int x] M 0 0 Z := R_local (gd58 dX5_take_86) rfl rfl rfl
theorem z58_87 : Run d 58 87 [a0, a1, a2, a3, a4] [.int x] M 0 0 Z ↔ (x = 0 ∨ x = 1) ∧ Z (some (.int x)) M := R_iretZ (gd58 dX5_take_87) rfl
theorem e58 : Call (d + 1) 58 [s0, s1] M Z ↔ Run d 58 0 [some s0, some s1, none, none, none] [] M 0 0 Z := Call_iff (Nat.lt_of_lt_of_le (Nat.lt_succ_self 58) (Nat.le_of_ble_eq_true rfl)) (Nat.le_of_ble_eq_true rfl)
/-! 59: X5_search (LClothSchool$Drape;LClothSchool$Cloth;)I -/
theorem gd59 {pc : Nat} {r : Except _ _} (h : decode cX5_search pc = r) : decode (gby 59) pc = r := h
theorem z59_0 : Run d 59 0 [some (.ref o), a1, a2, a3] [] M 0 0 Z ↔ Run d 59 1 [some (.ref o), a1, a2, a3] [.ref o] M 0 0 Z := R_local (gd59 dX5_search_0) rfl rfl rfl
theorem z59_1 : Run d 59 1 [a0, a1, a2, a3] [.ref o] M 0 0 Z ↔ gObj M o 5 ∧ Run d 59 4 [a0, a1, a2, a3] [va_rf (M.2.1 o 1)] M 0 0 Z := R_getR (gd59 dX5_search_1) rfl gf_5_15 rfl
theorem z59_4 : Run d 59 4 [a0, a1, a2, a3] [s0] M 0 0 Z ↔ Run d 59 6 [a0, a1, a2, a3] [.int 8, s0] M 0 0 Z := R_bipush (gd59 dX5_search_4) (by decide)
theorem z59_6 : Run d 59 6 [a0, a1, a2, a3] [s1, s0] M 0 0 Z ↔ Call d 198 [s0, s1] M (fun r M1 => Run d 59 9 [a0, a1, a2, a3] (r.toList ++ []) M1 0 0 Z) := R_call (gd59 dX5_search_6) rfl rfl rfl rfl rfl rfl gc_5_43 rfl (by decide) (Nat.le_of_ble_eq_true rfl) (Nat.le_of_ble_eq_true rfl) rfl rfl rfl (Nat.le_of_ble_eq_true rfl) (Nat.le_of_ble_eq_true rfl)
theorem z59_9 : Run d 59 9 [some (.ref o), a1, a2, a3] [] M 0 0 Z ↔ Run d 59 10 [some (.ref o), a1, a2, a3] [.ref o] M 0 0 Z := R_local (gd59 dX5_search_9) rfl rfl rfl
theorem z59_10 : Run d 59 10 [a0, a1, a2, a3] [s0] M 0 0 Z ↔ Run d 59 11 [a0, a1, a2, a3] [.int 0, s0] M 0 0 Z := R_iconst (gd59 dX5_search_10) (by decide)
theorem z59_11 : Run d 59 11 [a0, a1, a2, a3] [.int x, .ref o] M 0 0 Z ↔ gObj M o 5 ∧ Run d 59 14 [a0, a1, a2, a3] [] (gsI M o 2 x) 0 0 Z := R_putI (gd59 dX5_search_11) rfl gf_5_18 (Or.inl rfl) rfl
theorem z59_14 : Run d 59 14 [a0, a1, a2, a3] [] M 0 0 Z ↔ Run d 59 15 [a0, a1, a2, a3] [.int 0] M 0 0 Z := R_iconst (gd59 dX5_search_14) (by decide)
theorem z59_15 : Run d 59 15 [a0, a1, a2, a3] [.int x] M 0 0 Z ↔ Run d 59 16 [a0, a1, a2, some (.int x)] [] M 0 0 Z := R_local (gd59 dX5_search_15) rfl rfl rfl
theorem z59_16 : Run d 59 16 [a0, a1, a2, some (.int x)] [] M 0 0 Z ↔ Run d 59 17 [a0, a1, a2, some (.int x)] [.int x] M 0 0 Z := R_local (gd59 dX5_search_16) rfl rfl rfl
theorem z59_17 : Run d 59 17 [a0, a1, a2, a3] [s0] M 0 0 Z ↔ Run d 59 19 [a0, a1, a2, a3] [.int 64, s0] M 0 0 Z := R_bipush (gd59 dX5_search_17) (by decide)
theorem z59_19 : Run d 59 19 [a0, a1, a2, a3] [.int y, .int x] M 0 0 Z ↔ (y ≤ x → Run d 59 50 [a0, a1, a2, a3] [] M 0 0 Z) ∧ (¬ (y ≤ x) → Run d 59 22 [a0, a1, a2, a3] [] M 0 0 Z) := R_icmp (gd59 dX5_search_19) (show gTgt 19 31 = some 50 by decide) gIf_ge
theorem z59_22 : Run d 59 22 [some (.ref o), a1, a2, a3] [] M 0 0 Z ↔ Run d 59 23 [some (.ref o), a1, a2, a3] [.ref o] M 0 0 Z := R_local (gd59 dX5_search_22) rfl rfl rfl
theorem z59_23 : Run d 59 23 [a0, a1, a2, a3] [.ref o] M 0 0 Z ↔ Run d 59 24 [a0, a1, a2, a3] [.ref o, .ref o] M 0 0 Z := R_arith (gd59 dX5_search_23) rfl
theorem z59_24 : Run d 59 24 [a0, a1, a2, a3] [.ref o, s0] M 0 0 Z ↔ gObj M o 5 ∧ Run d 59 27 [a0, a1, a2, a3] [.int (M.1 o 2), s0] M 0 0 Z := R_getI (gd59 dX5_search_24) rfl gf_5_18 rfl
theorem z59_27 : Run d 59 27 [some (.ref o), a1, a2, a3] [s1, s0] M 0 0 Z ↔ Run d 59 28 [some (.ref o), a1, a2, a3] [.ref o, s1, s0] M 0 0 Z := R_local (gd59 dX5_search_27) rfl rfl rfl
theorem z59_28 : Run d 59 28 [a0, a1, a2, some (.int x)] [s2, s1, s0] M 0 0 Z ↔ Run d 59 29 [a0, a1, a2, some (.int x)] [.int x, s2, s1, s0] M 0 0 Z := R_local (gd59 dX5_search_28) rfl rfl rfl
theorem z59_29 : Run d 59 29 [a0, a1, a2, a3] [s3, .ref b, s1, s0] M 0 0 Z ↔ gObj M b 5 ∧ Call d 63 [.ref b, s3] M (fun r M1 => Run d 59 32 [a0, a1, a2, a3] (r.toList ++ [s1, s0]) M1 0 0 Z) := R_callV (gd59 dX5_search_29) rfl rfl rfl rfl rfl rfl gc_5_49 rfl rfl (Nat.le_of_ble_eq_true rfl) (Nat.le_of_ble_eq_true rfl) rfl rfl (Nat.le_of_ble_eq_true rfl) (Nat.le_of_ble_eq_true rfl)
theorem z59_32 : Run d 59 32 [a0, a1, a2, a3] [.int x, s1, s0] M 0 0 Z ↔ (x = 0 → Run d 59 39 [a0, a1, a2, a3] [s1, s0] M 0 0 Z) ∧ (¬ (x = 0) → Run d 59 35 [a0, a1, a2, a3] [s1, s0] M 0 0 Z) := R_if (gd59 dX5_search_32) (show gTgt 32 7 = some 39 by decide) gIf_eq
theorem z59_35 : Run d 59 35 [a0, a1, a2, a3] [s1, s0] M 0 0 Z ↔ Run d 59 36 [a0, a1, a2, a3] [.int 1, s1, s0] M 0 0 Z := R_iconst (gd59 dX5_search_35) (by decide)
theorem z59_36 : Run d 59 36 [a0, a1, a2, a3] [s2, s1, s0] M 0 0 Z ↔ Run d 59 40 [a0, a1, a2, a3] [s2, s1, s0] M 0 0 Z := R_goto (gd59 dX5_search_36) (show gTgt 36 4 = some 40 by decide)
theorem z59_39 : Run d 59 39 [a0, a1, a2, a3] [s1, s0] M 0 0 Z ↔ Run d 59 40 [a0, a1, a2, a3] [.int 0, s1, s0] M 0 0 Z := R_iconst (gd59 dX5_search_39) (by decide)
theorem z59_40 : Run d 59 40 [a0, a1, a2, a3] [.int y, .int x, s0] M 0 0 Z ↔ Run d 59 41 [a0, a1, a2, a3] [.int (x + y), s0] M 0 0 Z := R_arith (gd59 dX5_search_40) rfl
theorem z59_41 : Run d 59 41 [a0, a1, a2, a3] [.int x, .ref o] M 0 0 Z ↔ gObj M o 5 ∧ Run d 59 44 [a0, a1, a2, a3] [] (gsI M o 2 x) 0 0 Z := R_putI (gd59 dX5_search_41) rfl gf_5_18 (Or.inl rfl) rfl
theorem z59_44 : Run d 59 44 [a0, a1, a2, some (.int x)] [] M 0 0 Z ↔ Run d 59 47 [a0, a1, a2, some (.int (x + 1))] [] M 0 0 Z := R_iinc (gd59 dX5_search_44) (by decide) rfl rfl
theorem z59_47 : Run d 59 47 [a0, a1, a2, a3] [] M 0 0 Z ↔ Run d 59 16 [a0, a1, a2, a3] [] M 0 0 Z := R_goto (gd59 dX5_search_47) (show gTgt 47 (-31) = some 16 by decide)
theorem z59_50 : Run d 59 50 [some (.ref o), a1, a2, a3] [] M 0 0 Z ↔ Run d 59 51 [some (.ref o), a1, a2, a3] [.ref o] M 0 0 Z := R_local (gd59 dX5_search_50) rfl rfl rfl
theorem z59_51 : Run d 59 51 [a0, a1, a2, a3] [s0] M 0 0 Z ↔ Run d 59 52 [a0, a1, a2, a3] [.int 0, s0] M 0 0 Z := R_iconst (gd59 dX5_search_51) (by decide)
theorem z59_52 : Run d 59 52 [a0, a1, a2, a3] [.int x, .ref o] M 0 0 Z ↔ gObj M o 5 ∧ Run d 59 55 [a0, a1, a2, a3] [] (gsI M o 5 x) 0 0 Z := R_putI (gd59 dX5_search_52) rfl gf_5_28 (Or.inl rfl) rfl
theorem z59_55 : Run d 59 55 [some (.ref o), a1, a2, a3] [] M 0 0 Z ↔ Run d 59 56 [some (.ref o), a1, a2, a3] [.ref o] M 0 0 Z := R_local (gd59 dX5_search_55) rfl rfl rfl
theorem z59_56 : Run d 59 56 [a0, a1, a2, a3] [s0] M 0 0 Z ↔ Run d 59 57 [a0, a1, a2, a3] [.int 0, s0] M 0 0 Z := R_iconst (gd59 dX5_search_56) (by decide)
theorem z59_57 : Run d 59 57 [a0, a1, a2, a3] [.int x, .ref o] M 0 0 Z ↔ gObj M o 5 ∧ Run d 59 60 [a0, a1, a2, a3] [] (gsI M o 7 x) 0 0 Z := R_putI (gd59 dX5_search_57) rfl gf_5_34 (Or.inl rfl) rfl
theorem z59_60 : Run d 59 60 [some (.ref o), a1, a2, a3] [] M 0 0 Z ↔ Run d 59 61 [some (.ref o), a1, a2, a3] [.ref o] M 0 0 Z := R_local (gd59 dX5_search_60) rfl rfl rfl
theorem z59_61 : Run d 59 61 [a0, a1, a2, a3] [s0] M 0 0 Z ↔ Run d 59 62 [a0, a1, a2, a3] [.int 0, s0] M 0 0 Z := R_iconst (gd59 dX5_search_61) (by decide)
theorem z59_62 : Run d 59 62 [a0, a1, a2, a3] [.int x, .ref o] M 0 0 Z ↔ gObj M o 5 ∧ Run d 59 65 [a0, a1, a2, a3] [] (gsI M o 9 x) 0 0 Z := R_putI (gd59 dX5_search_62) rfl gf_5_40 (Or.inl rfl) rfl
theorem z59_65 : Run d 59 65 [some (.ref o), a1, a2, a3] [] M 0 0 Z ↔ Run d 59 66 [some (.ref o), a1, a2, a3] [.ref o] M 0 0 Z := R_local (gd59 dX5_search_65) rfl rfl rfl
theorem z59_66 : Run d 59 66 [a0, a1, a2, a3] [s0] M 0 0 Z ↔ Run d 59 67 [a0, a1, a2, a3] [.int 0, s0] M 0 0 Z := R_iconst (gd59 dX5_search_66) (by decide)
theorem z59_67 : Run d 59 67 [a0, some (.ref o), a2, a3] [s1, s0] M 0 0 Z ↔ Run d 59 68 [a0, some (.ref o), a2, a3] [.ref o, s1, s0] M 0 0 Z := R_local (gd59 dX5_search_67) rfl rfl rfl
theorem z59_67n : Run d 59 67 [a0, some .null, a2, a3] [s1, s0] M 0 0 Z ↔ Run d 59 68 [a0, some .null, a2, a3] [.null, s1, s0] M 0 0 Z := R_local (gd59 dX5_search_67) rfl rfl rfl
theorem z59_68 : Run d 59 68 [a0, a1, some (.ref o), a3] [s2, s1, s0] M 0 0 Z ↔ Run d 59 69 [a0, a1, some (.ref o), a3] [.ref o, s2, s1, s0] M 0 0 Z := R_local (gd59 dX5_search_68) rfl rfl rfl
theorem z59_68n : Run d 59 68 [a0, a1, some .null, a3] [s2, s1, s0] M 0 0 Z ↔ Run d 59 69 [a0, a1, some .null, a3] [.null, s2, s1, s0] M 0 0 Z := R_local (gd59 dX5_search_68) rfl rfl rfl
theorem z59_69 : Run d 59 69 [a0, a1, a2, a3] [s3, s2, s1, .ref b] M 0 0 Z ↔ gObj M b 5 ∧ Call d 60 [.ref b, s1, s2, s3] M (fun r M1 => Run d 59 72 [a0, a1, a2, a3] (r.toList ++ []) M1 0 0 Z) := R_callV (gd59 dX5_search_69) rfl rfl rfl rfl rfl rfl gc_5_53 rfl rfl (Nat.le_of_ble_eq_true rfl) (Nat.le_of_ble_eq_true rfl) rfl rfl (Nat.le_of_ble_eq_true rfl) (Nat.le_of_ble_eq_true rfl)
theorem z59_72 : Run d 59 72 [some (.ref o), a1, a2, a3] [] M 0 0 Z ↔ Run d 59 73 [some (.ref o), a1, a2, a3] [.ref o] M 0 0 Z := R_local (gd59 dX5_search_72) rfl rfl rfl
theorem z59_73 : Run d 59 73 [a0, a1, a2, a3] [.ref o] M 0 0 Z ↔ gObj M o 5 ∧ Run d 59 76 [a0, a1, a2, a3] [.int (M.1 o 7)] M 0 0 Z := R_getI (gd59 dX5_search_73) rfl gf_5_34 rfl
theorem z59_76 : Run d 59 76 [a0, a1, a2, a3] [.int x] M 0 0 Z ↔ Z (some (.int x)) M := R_iret (gd59 dX5_search_76) rfl
theorem e59 : Call (d + 1) 59 [s0, s1, s2] M Z ↔ Run d 59 0 [some s0, some s1, some s2, none] [] M 0 0 Z := Call_iff (Nat.lt_of_lt_of_le (Nat.lt_succ_self 59) (Nat.le_of_ble_eq_true rfl)) (Nat.le_of_ble_eq_true rfl)
/-! 60: X5_tryFrom (ILClothSchool$Drape;LClothSchool$Cloth;)V -/
theorem gd60 {pc : Nat} {r : Except _ _} (h : decode cX5_tryFrom pc = r) : decode (gby 60) pc = r := h
theorem z60_0 : Run d 60 0 [a0, some (.int x), a2, a3, a4, a5, a6, a7, a8, a9, a10, a11] [] M 0 0 Z ↔ Run d 60 1 [a0, some (.int x), a2, a3, a4, a5, a6, a7, a8, a9, a10, a11] [.int x] M 0 0 Z := R_local (gd60 dX5_tryFrom_0) rfl rfl rfl
theorem z60_1 : Run d 60 1 [a0, a1, a2, a3, a4, a5, a6, a7, a8, a9, a10, a11] [s0] M 0 0 Z ↔ Run d 60 2 [a0, a1, a2, a3, a4, a5, a6, a7, a8, a9, a10, a11] [.int 4, s0] M 0 0 Z := R_iconst (gd60 dX5_tryFrom_1) (by decide)
theorem z60_2 : Run d 60 2 [a0, a1, a2, a3, a4, a5, a6, a7, a8, a9, a10, a11] [s1, s0] M 0 0 Z ↔ Call d 110 [s0, s1] M (fun r M1 => Run d 60 5 [a0, a1, a2, a3, a4, a5, a6, a7, a8, a9, a10, a11] (r.toList ++ []) M1 0 0 Z) := R_call (gd60 dX5_tryFrom_2) rfl rfl rfl rfl rfl rfl gc_5_57 rfl (by decide) (Nat.le_of_ble_eq_true rfl) (Nat.le_of_ble_eq_true rfl) rfl rfl rfl (Nat.le_of_ble_eq_true rfl) (Nat.le_of_ble_eq_true rfl)
theorem z60_5 : Run d 60 5 [a0, a1, a2, a3, a4, a5, a6, a7, a8, a9, a10, a11] [.int x] M 0 0 Z ↔ (¬ x = 0 → Run d 60 9 [a0, a1, a2, a3, a4, a5, a6, a7, a8, a9, a10, a11] [] M 0 0 Z) ∧ (¬ (¬ x = 0) → Run d 60 8 [a0, a1, a2, a3, a4, a5, a6, a7, a8, a9, a10, a11] [] M 0 0 Z) := R_if (gd60 dX5_tryFrom_5) (show gTgt 5 4 = some 9 by decide) gIf_ne
theorem z60_8 : Run d 60 8 [a0, a1, a2, a3, a4, a5, a6, a7, a8, a9, a10, a11] [] M 0 0 Z ↔ Z none M := R_vret (gd60 dX5_tryFrom_8) rfl
theorem z60_9 : Run d 60 9 [a0, a1, some (.ref o), a3, a4, a5, a6, a7, a8, a9, a10, a11] [] M 0 0 Z ↔ Run d 60 10 [a0, a1, some (.ref o), a3, a4, a5, a6, a7, a8, a9, a10, a11] [.ref o] M 0 0 Z := R_local (gd60 dX5_tryFrom_9) rfl rfl rfl
theorem z60_9n : Run d 60 9 [a0, a1, some .null, a3, a4, a5, a6, a7, a8, a9, a10, a11] [] M 0 0 Z ↔ Run d 60 10 [a0, a1, some .null, a3, a4, a5, a6, a7, a8, a9, a10, a11] [.null] M 0 0 Z := R_local (gd60 dX5_tryFrom_9) rfl rfl rfl
theorem z60_10 : Run d 60 10 [a0, a1, a2, a3, a4, a5, a6, a7, a8, a9, a10, a11] [.ref o] M 0 0 Z ↔ gObj M o 1 ∧ Run d 60 13 [a0, a1, a2, a3, a4, a5, a6, a7, a8, a9, a10, a11] [.int (M.1 o 5)] M 0 0 Z := R_getI (gd60 dX5_tryFrom_10) rfl gf_5_61 rfl
theorem z60_13 : Run d 60 13 [a0, a1, a2, a3, a4, a5, a6, a7, a8, a9, a10, a11] [.int x] M 0 0 Z ↔ Run d 60 15 [a0, a1, a2, a3, some (.int x), a5, a6, a7, a8, a9, a10, a11] [] M 0 0 Z := R_local (gd60 dX5_tryFrom_13) rfl rfl rfl
theorem z60_15 : Run d 60 15 [a0, a1, some (.ref o), a3, a4, a5, a6, a7, a8, a9, a10, a11] [] M 0 0 Z ↔ Run d 60 16 [a0, a1, some (.ref o), a3, a4, a5, a6, a7, a8, a9, a10, a11] [.ref o] M 0 0 Z := R_local (gd60 dX5_tryFrom_15) rfl rfl rfl
theorem z60_15n : Run d 60 15 [a0, a1, some .null, a3, a4, a5, a6, a7, a8, a9, a10, a11] [] M 0 0 Z ↔ Run d 60 16 [a0, a1, some .null, a3, a4, a5, a6, a7, a8, a9, a10, a11] [.null] M 0 0 Z := R_local (gd60 dX5_tryFrom_15) rfl rfl rfl
theorem z60_16 : Run d 60 16 [a0, a1, a2, a3, a4, a5, a6, a7, a8, a9, a10, a11] [.ref o] M 0 0 Z ↔ gObj M o 1 ∧ Run d 60 19 [a0, a1, a2, a3, a4, a5, a6, a7, a8, a9, a10, a11] [.int (M.1 o 6)] M 0 0 Z := R_getI (gd60 dX5_tryFrom_16) rfl gf_5_66 rfl
theorem z60_19 : Run d 60 19 [a0, a1, a2, a3, a4, a5, a6, a7, a8, a9, a10, a11] [.int x] M 0 0 Z ↔ Run d 60 21 [a0, a1, a2, a3, a4, some (.int x), a6, a7, a8, a9, a10, a11] [] M 0 0 Z := R_local (gd60 dX5_tryFrom_19) rfl rfl rfl
theorem z60_21 : Run d 60 21 [a0, a1, some (.ref o), a3, a4, a5, a6, a7, a8, a9, a10, a11] [] M 0 0 Z ↔ Run d 60 22 [a0, a1, some (.ref o), a3, a4, a5, a6, a7, a8, a9, a10, a11] [.ref o] M 0 0 Z := R_local (gd60 dX5_tryFrom_21) rfl rfl rfl
theorem z60_21n : Run d 60 21 [a0, a1, some .null, a3, a4, a5, a6, a7, a8, a9, a10, a11] [] M 0 0 Z ↔ Run d 60 22 [a0, a1, some .null, a3, a4, a5, a6, a7, a8, a9, a10, a11] [.null] M 0 0 Z := R_local (gd60 dX5_tryFrom_21) rfl rfl rfl
theorem z60_22 : Run d 60 22 [a0, a1, a2, a3, a4, a5, a6, a7, a8, a9, a10, a11] [.ref o] M 0 0 Z ↔ gObj M o 1 ∧ Run d 60 25 [a0, a1, a2, a3, a4, a5, a6, a7, a8, a9, a10, a11] [.int (M.1 o 4)] M 0 0 Z := R_getI (gd60 dX5_tryFrom_22) rfl gf_5_69 rfl
theorem z60_25 : Run d 60 25 [a0, a1, a2, a3, a4, a5, a6, a7, a8, a9, a10, a11] [.int x] M 0 0 Z ↔ Run d 60 27 [a0, a1, a2, a3, a4, a5, some (.int x), a7, a8, a9, a10, a11] [] M 0 0 Z := R_local (gd60 dX5_tryFrom_25) rfl rfl rfl
theorem z60_27 : Run d 60 27 [a0, a1, some (.ref o), a3, a4, a5, a6, a7, a8, a9, a10, a11] [] M 0 0 Z ↔ Run d 60 28 [a0, a1, some (.ref o), a3, a4, a5, a6, a7, a8, a9, a10, a11] [.ref o] M 0 0 Z := R_local (gd60 dX5_tryFrom_27) rfl rfl rfl
theorem z60_27n : Run d 60 27 [a0, a1, some .null, a3, a4, a5, a6, a7, a8, a9, a10, a11] [] M 0 0 Z ↔ Run d 60 28 [a0, a1, some .null, a3, a4, a5, a6, a7, a8, a9, a10, a11] [.null] M 0 0 Z := R_local (gd60 dX5_tryFrom_27) rfl rfl rfl
theorem z60_28 : Run d 60 28 [a0, a1, a2, a3, a4, a5, a6, a7, a8, a9, a10, a11] [.ref o] M 0 0 Z ↔ gObj M o 1 ∧ Run d 60 31 [a0, a1, a2, a3, a4, a5, a6, a7, a8, a9, a10, a11] [.int (M.1 o 7)] M 0 0 Z := R_getI (gd60 dX5_tryFrom_28) rfl gf_5_72 rfl
theorem z60_31 : Run d 60 31 [a0, a1, a2, a3, a4, a5, a6, a7, a8, a9, a10, a11] [.int x] M 0 0 Z ↔ Run d 60 33 [a0, a1, a2, a3, a4, a5, a6, some (.int x), a8, a9, a10, a11] [] M 0 0 Z := R_local (gd60 dX5_tryFrom_31) rfl rfl rfl
theorem z60_33 : Run d 60 33 [a0, a1, some (.ref o), a3, a4, a5, a6, a7, a8, a9, a10, a11] [] M 0 0 Z ↔ Run d 60 34 [a0, a1, some (.ref o), a3, a4, a5, a6, a7, a8, a9, a10, a11] [.ref o] M 0 0 Z := R_local (gd60 dX5_tryFrom_33) rfl rfl rfl
theorem z60_33n : Run d 60 33 [a0, a1, some .null, a3, a4, a5, a6, a7, a8, a9, a10, a11] [] M 0 0 Z ↔ Run d 60 34 [a0, a1, some .null, a3, a4, a5, a6, a7, a8, a9, a10, a11] [.null] M 0 0 Z := R_local (gd60 dX5_tryFrom_33) rfl rfl rfl
theorem z60_34 : Run d 60 34 [a0, a1, a2, a3, a4, a5, a6, a7, a8, a9, a10, a11] [.ref o] M 0 0 Z ↔ gObj M o 1 ∧ Run d 60 37 [a0, a1, a2, a3, a4, a5, a6, a7, a8, a9, a10, a11] [.int (M.1 o 8)] M 0 0 Z := R_getI (gd60 dX5_tryFrom_34) rfl gf_5_75 rfl
theorem z60_37 : Run d 60 37 [a0, a1, a2, a3, a4, a5, a6, a7, a8, a9, a10, a11] [.int x] M 0 0 Z ↔ Run d 60 39 [a0, a1, a2, a3, a4, a5, a6, a7, some (.int x), a9, a10, a11] [] M 0 0 Z := R_local (gd60 dX5_tryFrom_37) rfl rfl rfl
theorem z60_39 : Run d 60 39 [a0, a1, some (.ref o), a3, a4, a5, a6, a7, a8, a9, a10, a11] [] M 0 0 Z ↔ Run d 60 40 [a0, a1, some (.ref o), a3, a4, a5, a6, a7, a8, a9, a10, a11] [.ref o] M 0 0 Z := R_local (gd60 dX5_tryFrom_39) rfl rfl rfl
theorem z60_39n : Run d 60 39 [a0, a1, some .null, a3, a4, a5, a6, a7, a8, a9, a10, a11] [] M 0 0 Z ↔ Run d 60 40 [a0, a1, some .null, a3, a4, a5, a6, a7, a8, a9, a10, a11] [.null] M 0 0 Z := R_local (gd60 dX5_tryFrom_39) rfl rfl rfl
theorem z60_40 : Run d 60 40 [a0, a1, a2, a3, a4, a5, a6, a7, a8, a9, a10, a11] [.ref o] M 0 0 Z ↔ gObj M o 1 ∧ Run d 60 43 [a0, a1, a2, a3, a4, a5, a6, a7, a8, a9, a10, a11] [va_rf (M.2.1 o 0)] M 0 0 Z := R_getR (gd60 dX5_tryFrom_40) rfl gf_5_78 rfl
theorem z60_43 : Run d 60 43 [a0, a1, a2, a3, a4, a5, a6, a7, a8, a9, a10, a11] [.ref o] M 0 0 Z ↔ gObj M o 4 ∧ Run d 60 46 [a0, a1, a2, a3, a4, a5, a6, a7, a8, a9, a10, a11] [.int (M.1 o 8)] M 0 0 Z := R_getI (gd60 dX5_tryFrom_43) rfl gf_5_82 rfl
theorem z60_46 : Run d 60 46 [a0, a1, a2, a3, a4, a5, a6, a7, a8, a9, a10, a11] [.int x] M 0 0 Z ↔ Run d 60 48 [a0, a1, a2, a3, a4, a5, a6, a7, a8, some (.int x), a10, a11] [] M 0 0 Z := R_local (gd60 dX5_tryFrom_46) rfl rfl rfl
theorem z60_48 : Run d 60 48 [some (.ref o), a1, a2, a3, a4, a5, a6, a7, a8, a9, a10, a11] [] M 0 0 Z ↔ Run d 60 49 [some (.ref o), a1, a2, a3, a4, a5, a6, a7, a8, a9, a10, a11] [.ref o] M 0 0 Z := R_local (gd60 dX5_tryFrom_48) rfl rfl rfl
theorem z60_49 : Run d 60 49 [a0, a1, a2, a3, a4, a5, a6, a7, a8, a9, a10, a11] [.ref o] M 0 0 Z ↔ gObj M o 5 ∧ Run d 60 52 [a0, a1, a2, a3, a4, a5, a6, a7, a8, a9, a10, a11] [.int (M.1 o 5)] M 0 0 Z := R_getI (gd60 dX5_tryFrom_49) rfl gf_5_28 rfl
theorem z60_52 : Run d 60 52 [a0, a1, a2, a3, a4, a5, a6, a7, a8, a9, a10, a11] [.int x] M 0 0 Z ↔ Run d 60 54 [a0, a1, a2, a3, a4, a5, a6, a7, a8, a9, some (.int x), a11] [] M 0 0 Z := R_local (gd60 dX5_tryFrom_52) rfl rfl rfl
theorem z60_54 : Run d 60 54 [a0, a1, a2, a3, a4, a5, a6, a7, a8, a9, a10, a11] [] M 0 0 Z ↔ Run d 60 55 [a0, a1, a2, a3, a4, a5, a6, a7, a8, a9, a10, a11] [.int 0] M 0 0 Z := R_iconst (gd60 dX5_tryFrom_54) (by decide)
theorem z60_55 : Run d 60 55 [a0, a1, a2, a3, a4, a5, a6, a7, a8, a9, a10, a11] [.int x] M 0 0 Z ↔ Run d 60 57 [a0, a1, a2, a3, a4, a5, a6, a7, a8, a9, a10, some (.int x)] [] M 0 0 Z := R_local (gd60 dX5_tryFrom_55) rfl rfl rfl
theorem z60_57 : Run d 60 57 [a0, a1, a2, a3, a4, a5, a6, a7, a8, a9, a10, some (.int x)] [] M 0 0 Z ↔ Run d 60 59 [a0, a1, a2, a3, a4, a5, a6, a7, a8, a9, a10, some (.int x)] [.int x] M 0 0 Z := R_local (gd60 dX5_tryFrom_57) rfl rfl rfl
theorem z60_59 : Run d 60 59 [a0, a1, a2, a3, a4, a5, a6, a7, a8, a9, a10, a11] [s0] M 0 0 Z ↔ Run d 60 61 [a0, a1, a2, a3, a4, a5, a6, a7, a8, a9, a10, a11] [.int 11, s0] M 0 0 Z := R_bipush (gd60 dX5_tryFrom_59) (by decide)
theorem z60_61 : Run d 60 61 [a0, a1, a2, a3, a4, a5, a6, a7, a8, a9, a10, a11] [.int y, .int x] M 0 0 Z ↔ (y ≤ x → Run d 60 151 [a0, a1, a2, a3, a4, a5, a6, a7, a8, a9, a10, a11] [] M 0 0 Z) ∧ (¬ (y ≤ x) → Run d 60 64 [a0, a1, a2, a3, a4, a5, a6, a7, a8, a9, a10, a11] [] M 0 0 Z) := R_icmp (gd60 dX5_tryFrom_61) (show gTgt 61 90 = some 151 by decide) gIf_ge
theorem z60_64 : Run d 60 64 [some (.ref o), a1, a2, a3, a4, a5, a6, a7, a8, a9, a10, a11] [] M 0 0 Z ↔ Run d 60 65 [some (.ref o), a1, a2, a3, a4, a5, a6, a7, a8, a9, a10, a11] [.ref o] M 0 0 Z := R_local (gd60 dX5_tryFrom_64) rfl rfl rfl
theorem z60_65 : Run d 60 65 [a0, a1, a2, a3, a4, a5, a6, a7, a8, a9, a10, a11] [.ref o] M 0 0 Z ↔ gObj M o 5 ∧ Run d 60 68 [a0, a1, a2, a3, a4, a5, a6, a7, a8, a9, a10, a11] [va_rf (M.2.1 o 6)] M 0 0 Z := R_getR (gd60 dX5_tryFrom_65) rfl gf_5_31 rfl
theorem z60_68 : Run d 60 68 [a0, some (.int x), a2, a3, a4, a5, a6, a7, a8, a9, a10, a11] [s0] M 0 0 Z ↔ Run d 60 69 [a0, some (.int x), a2, a3, a4, a5, a6, a7, a8, a9, a10, a11] [.int x, s0] M 0 0 Z := R_local (gd60 dX5_tryFrom_68) rfl rfl rfl
theorem z60_69 : Run d 60 69 [a0, a1, a2, a3, a4, a5, a6, a7, a8, a9, a10, some (.int x)] [s1, s0] M 0 0 Z ↔ Run d 60 71 [a0, a1, a2, a3, a4, a5, a6, a7, a8, a9, a10, some (.int x)] [.int x, s1, s0] M 0 0 Z := R_local (gd60 dX5_tryFrom_69) rfl rfl rfl
theorem z60_71 : Run d 60 71 [a0, a1, a2, a3, a4, a5, a6, a7, a8, a9, a10, a11] [.int y, .int x, .ref o] M 0 0 Z ↔ gAr M o 0 ∧ gIn x (gLen M o) = true ∧ Run d 60 72 [a0, a1, a2, a3, a4, a5, a6, a7, a8, a9, a10, a11] [] (gsI M o x.toNatClampNeg y) 0 0 Z := R_iast (gd60 dX5_tryFrom_71)
theorem z60_72 : Run d 60 72 [a0, a1, a2, a3, a4, a5, a6, a7, a8, a9, a10, some (.int x)] [] M 0 0 Z ↔ Run d 60 74 [a0, a1, a2, a3, a4, a5, a6, a7, a8, a9, a10, some (.int x)] [.int x] M 0 0 Z := R_local (gd60 dX5_tryFrom_72) rfl rfl rfl
theorem z60_74 : Run d 60 74 [a0, a1, some (.ref o), a3, a4, a5, a6, a7, a8, a9, a10, a11] [s0] M 0 0 Z ↔ Run d 60 75 [a0, a1, some (.ref o), a3, a4, a5, a6, a7, a8, a9, a10, a11] [.ref o, s0] M 0 0 Z := R_local (gd60 dX5_tryFrom_74) rfl rfl rfl
theorem z60_74n : Run d 60 74 [a0, a1, some .null, a3, a4, a5, a6, a7, a8, a9, a10, a11] [s0] M 0 0 Z ↔ Run d 60 75 [a0, a1, some .null, a3, a4, a5, a6, a7, a8, a9, a10, a11] [.null, s0] M 0 0 Z := R_local (gd60 dX5_tryFrom_74) rfl rfl rfl
theorem z60_75 : Run d 60 75 [a0, a1, a2, a3, a4, a5, a6, a7, a8, a9, a10, a11] [s1, s0] M 0 0 Z ↔ Call d 61 [s0, s1] M (fun r M1 => Run d 60 78 [a0, a1, a2, a3, a4, a5, a6, a7, a8, a9, a10, a11] (r.toList ++ []) M1 0 0 Z) := R_call (gd60 dX5_tryFrom_75) rfl rfl rfl rfl rfl rfl gc_5_87 rfl (by decide) (Nat.le_of_ble_eq_true rfl) (Nat.le_of_ble_eq_true rfl) rfl rfl rfl (Nat.le_of_ble_eq_true rfl) (Nat.le_of_ble_eq_true rfl)
theorem z60_78 : Run d 60 78 [a0, a1, a2, a3, a4, a5, a6, a7, a8, a9, a10, a11] [.int x] M 0 0 Z ↔ (¬ x = 0 → Run d 60 114 [a0, a1, a2, a3, a4, a5, a6, a7, a8, a9, a10, a11] [] M 0 0 Z) ∧ (¬ (¬ x = 0) → Run d 60 81 [a0, a1, a2, a3, a4, a5, a6, a7, a8, a9, a10, a11] [] M 0 0 Z) := R_if (gd60 dX5_tryFrom_78) (show gTgt 78 36 = some 114 by decide) gIf_ne
theorem z60_81 : Run d 60 81 [some (.ref o), a1, a2, a3, a4, a5, a6, a7, a8, a9, a10, a11] [] M 0 0 Z ↔ Run d 60 82 [some (.ref o), a1, a2, a3, a4, a5, a6, a7, a8, a9, a10, a11] [.ref o] M 0 0 Z := R_local (gd60 dX5_tryFrom_81) rfl rfl rfl
theorem z60_82 : Run d 60 82 [a0, a1, some (.ref o), a3, a4, a5, a6, a7, a8, a9, a10, a11] [s0] M 0 0 Z ↔ Run d 60 83 [a0, a1, some (.ref o), a3, a4, a5, a6, a7, a8, a9, a10, a11] [.ref o, s0] M 0 0 Z := R_local (gd60 dX5_tryFrom_82) rfl rfl rfl
theorem z60_82n : Run d 60 82 [a0, a1, some .null, a3, a4, a5, a6, a7, a8, a9, a10, a11] [s0] M 0 0 Z ↔ Run d 60 83 [a0, a1, some .null, a3, a4, a5, a6, a7, a8, a9, a10, a11] [.null, s0] M 0 0 Z := R_local (gd60 dX5_tryFrom_82) rfl rfl rfl
theorem z60_83 : Run d 60 83 [a0, a1, a2, a3, a4, a5, a6, a7, a8, a9, a10, a11] [.ref o, s0] M 0 0 Z ↔ gObj M o 1 ∧ Run d 60 86 [a0, a1, a2, a3, a4, a5, a6, a7, a8, a9, a10, a11] [va_rf (M.2.1 o 0), s0] M 0 0 Z := R_getR (gd60 dX5_tryFrom_83) rfl gf_5_78 rfl
theorem z60_86 : Run d 60 86 [a0, a1, a2, a3, a4, a5, a6, a7, a8, some (.int x), a10, a11] [s1, s0] M 0 0 Z ↔ Run d 60 88 [a0, a1, a2, a3, a4, a5, a6, a7, a8, some (.int x), a10, a11] [.int x, s1, s0] M 0 0 Z := R_local (gd60 dX5_tryFrom_86) rfl rfl rfl
theorem z60_88 : Run d 60 88 [a0, a1, a2, some (.ref o), a4, a5, a6, a7, a8, a9, a10, a11] [s2, s1, s0] M 0 0 Z ↔ Run d 60 89 [a0, a1, a2, some (.ref o), a4, a5, a6, a7, a8, a9, a10, a11] [.ref o, s2, s1, s0] M 0 0 Z := R_local (gd60 dX5_tryFrom_88) rfl rfl rfl
theorem z60_88n : Run d 60 88 [a0, a1, a2, some .null, a4, a5, a6, a7, a8, a9, a10, a11] [s2, s1, s0] M 0 0 Z ↔ Run d 60 89 [a0, a1, a2, some .null, a4, a5, a6, a7, a8, a9, a10, a11] [.null, s2, s1, s0] M 0 0 Z := R_local (gd60 dX5_tryFrom_88) rfl rfl rfl
theorem z60_89 : Run d 60 89 [a0, a1, a2, a3, a4, a5, a6, a7, a8, a9, a10, a11] [s3, s2, s1, .ref b] M 0 0 Z ↔ gObj M b 5 ∧ Call d 65 [.ref b, s1, s2, s3] M (fun r M1 => Run d 60 92 [a0, a1, a2, a3, a4, a5, a6, a7, a8, a9, a10, a11] (r.toList ++ []) M1 0 0 Z) := R_callV (gd60 dX5_tryFrom_89) rfl rfl rfl rfl rfl rfl gc_5_91 rfl rfl (Nat.le_of_ble_eq_true rfl) (Nat.le_of_ble_eq_true rfl) rfl rfl (Nat.le_of_ble_eq_true rfl) (Nat.le_of_ble_eq_true rfl)
theorem z60_92 : Run d 60 92 [some (.ref o), a1, a2, a3, a4, a5, a6, a7, a8, a9, a10, a11] [] M 0 0 Z ↔ Run d 60 93 [some (.ref o), a1, a2, a3, a4, a5, a6, a7, a8, a9, a10, a11] [.ref o] M 0 0 Z := R_local (gd60 dX5_tryFrom_92) rfl rfl rfl
theorem z60_93 : Run d 60 93 [a0, some (.int x), a2, a3, a4, a5, a6, a7, a8, a9, a10, a11] [s0] M 0 0 Z ↔ Run d 60 94 [a0, some (.int x), a2, a3, a4, a5, a6, a7, a8, a9, a10, a11] [.int x, s0] M 0 0 Z := R_local (gd60 dX5_tryFrom_93) rfl rfl rfl
theorem z60_94 : Run d 60 94 [a0, a1, a2, a3, a4, a5, a6, a7, a8, a9, a10, a11] [s1, s0] M 0 0 Z ↔ Run d 60 95 [a0, a1, a2, a3, a4, a5, a6, a7, a8, a9, a10, a11] [.int 1, s1, s0] M 0 0 Z := R_iconst (gd60 dX5_tryFrom_94) (by decide)
theorem z60_95 : Run d 60 95 [a0, a1, a2, a3, a4, a5, a6, a7, a8, a9, a10, a11] [.int y, .int x, s0] M 0 0 Z ↔ Run d 60 96 [a0, a1, a2, a3, a4, a5, a6, a7, a8, a9, a10, a11] [.int (x + y), s0] M 0 0 Z := R_arith (gd60 dX5_tryFrom_95) rfl
theorem z60_96 : Run d 60 96 [a0, a1, a2, a3, a4, a5, a6, a7, a8, a9, a10, a11] [s1, .ref b] M 0 0 Z ↔ gObj M b 5 ∧ Call d 62 [.ref b, s1] M (fun r M1 => Run d 60 99 [a0, a1, a2, a3, a4, a5, a6, a7, a8, a9, a10, a11] (r.toList ++ []) M1 0 0 Z) := R_callV (gd60 dX5_tryFrom_96) rfl rfl rfl rfl rfl rfl gc_5_95 rfl rfl (Nat.le_of_ble_eq_true rfl) (Nat.le_of_ble_eq_true rfl) rfl rfl (Nat.le_of_ble_eq_true rfl) (Nat.le_of_ble_eq_true rfl)
theorem z60_99 : Run d 60 99 [some (.ref o), a1, a2, a3, a4, a5, a6, a7, a8, a9, a10, a11] [] M 0 0 Z ↔ Run d 60 100 [some (.ref o), a1, a2, a3, a4, a5, a6, a7, a8, a9, a10, a11] [.ref o] M 0 0 Z := R_local (gd60 dX5_tryFrom_99) rfl rfl rfl
theorem z60_100 : Run d 60 100 [a0, some (.int x), a2, a3, a4, a5, a6, a7, a8, a9, a10, a11] [s0] M 0 0 Z ↔ Run d 60 101 [a0, some (.int x), a2, a3, a4, a5, a6, a7, a8, a9, a10, a11] [.int x, s0] M 0 0 Z := R_local (gd60 dX5_tryFrom_100) rfl rfl rfl
theorem z60_101 : Run d 60 101 [a0, a1, a2, a3, a4, a5, a6, a7, a8, a9, a10, a11] [s1, s0] M 0 0 Z ↔ Run d 60 102 [a0, a1, a2, a3, a4, a5, a6, a7, a8, a9, a10, a11] [.int 1, s1, s0] M 0 0 Z := R_iconst (gd60 dX5_tryFrom_101) (by decide)
theorem z60_102 : Run d 60 102 [a0, a1, a2, a3, a4, a5, a6, a7, a8, a9, a10, a11] [.int y, .int x, s0] M 0 0 Z ↔ Run d 60 103 [a0, a1, a2, a3, a4, a5, a6, a7, a8, a9, a10, a11] [.int (x + y), s0] M 0 0 Z := R_arith (gd60 dX5_tryFrom_102) rfl
theorem z60_103 : Run d 60 103 [a0, a1, some (.ref o), a3, a4, a5, a6, a7, a8, a9, a10, a11] [s1, s0] M 0 0 Z ↔ Run d 60 104 [a0, a1, some (.ref o), a3, a4, a5, a6, a7, a8, a9, a10, a11] [.ref o, s1, s0] M 0 0 Z := R_local (gd60 dX5_tryFrom_103) rfl rfl rfl
theorem z60_103n : Run d 60 103 [a0, a1, some .null, a3, a4, a5, a6, a7, a8, a9, a10, a11] [s1, s0] M 0 0 Z ↔ Run d 60 104 [a0, a1, some .null, a3, a4, a5, a6, a7, a8, a9, a10, a11] [.null, s1, s0] M 0 0 Z := R_local (gd60 dX5_tryFrom_103) rfl rfl rfl
theorem z60_104 : Run d 60 104 [a0, a1, a2, some (.ref o), a4, a5, a6, a7, a8, a9, a10, a11] [s2, s1, s0] M 0 0 Z ↔ Run d 60 105 [a0, a1, a2, some (.ref o), a4, a5, a6, a7, a8, a9, a10, a11] [.ref o, s2, s1, s0] M 0 0 Z := R_local (gd60 dX5_tryFrom_104) rfl rfl rfl
theorem z60_104n : Run d 60 104 [a0, a1, a2, some .null, a4, a5, a6, a7, a8, a9, a10, a11] [s2, s1, s0] M 0 0 Z ↔ Run d 60 105 [a0, a1, a2, some .null, a4, a5, a6, a7, a8, a9, a10, a11] [.null, s2, s1, s0] M 0 0 Z := R_local (gd60 dX5_tryFrom_104) rfl rfl rfl
theorem z60_105 : Run d 60 105 [a0, a1, a2, a3, a4, a5, a6, a7, a8, a9, a10, a11] [s3, s2, s1, .ref b] M 0 0 Z ↔ gObj M b 5 ∧ Call d 60 [.ref b, s1, s2, s3] M (fun r M1 => Run d 60 108 [a0, a1, a2, a3, a4, a5, a6, a7, a8, a9, a10, a11] (r.toList ++ []) M1 0 0 Z) := R_callV (gd60 dX5_tryFrom_105) rfl rfl rfl rfl rfl rfl gc_5_53 rfl rfl (Nat.le_of_ble_eq_true rfl) (Nat.le_of_ble_eq_true rfl) rfl rfl (Nat.le_of_ble_eq_true rfl) (Nat.le_of_ble_eq_true rfl)
theorem z60_108 : Run d 60 108 [some (.ref o), a1, a2, a3, a4, a5, a6, a7, a8, a9, a10, a11] [] M 0 0 Z ↔ Run d 60 109 [some (.ref o), a1, a2, a3, a4, a5, a6, a7, a8, a9, a10, a11] [.ref o] M 0 0 Z := R_local (gd60 dX5_tryFrom_108) rfl rfl rfl
theorem z60_109 : Run d 60 109 [a0, a1, a2, a3, a4, a5, a6, a7, a8, a9, some (.int x), a11] [s0] M 0 0 Z ↔ Run d 60 111 [a0, a1, a2, a3, a4, a5, a6, a7, a8, a9, some (.int x), a11] [.int x, s0] M 0 0 Z := R_local (gd60 dX5_tryFrom_109) rfl rfl rfl
theorem z60_111 : Run d 60 111 [a0, a1, a2, a3, a4, a5, a6, a7, a8, a9, a10, a11] [s1, .ref b] M 0 0 Z ↔ gObj M b 5 ∧ Call d 66 [.ref b, s1] M (fun r M1 => Run d 60 114 [a0, a1, a2, a3, a4, a5, a6, a7, a8, a9, a10, a11] (r.toList ++ []) M1 0 0 Z) := R_callV (gd60 dX5_tryFrom_111) rfl rfl rfl rfl rfl rfl gc_5_99 rfl rfl (Nat.le_of_ble_eq_true rfl) (Nat.le_of_ble_eq_true rfl) rfl rfl (Nat.le_of_ble_eq_true rfl) (Nat.le_of_ble_eq_true rfl)
theorem z60_114 : Run d 60 114 [a0, a1, some (.ref o), a3, a4, a5, a6, a7, a8, a9, a10, a11] [] M 0 0 Z ↔ Run d 60 115 [a0, a1, some (.ref o), a3, a4, a5, a6, a7, a8, a9, a10, a11] [.ref o] M 0 0 Z := R_local (gd60 dX5_tryFrom_114) rfl rfl rfl
theorem z60_114n : Run d 60 114 [a0, a1, some .null, a3, a4, a5, a6, a7, a8, a9, a10, a11] [] M 0 0 Z ↔ Run d 60 115 [a0, a1, some .null, a3, a4, a5, a6, a7, a8, a9, a10, a11] [.null] M 0 0 Z := R_local (gd60 dX5_tryFrom_114) rfl rfl rfl
theorem z60_115 : Run d 60 115 [a0, a1, a2, a3, some (.int x), a5, a6, a7, a8, a9, a10, a11] [s0] M 0 0 Z ↔ Run d 60 117 [a0, a1, a2, a3, some (.int x), a5, a6, a7, a8, a9, a10, a11] [.int x, s0] M 0 0 Z := R_local (gd60 dX5_tryFrom_115) rfl rfl rfl
theorem z60_117 : Run d 60 117 [a0, a1, a2, a3, a4, some (.int x), a6, a7, a8, a9, a10, a11] [s1, s0] M 0 0 Z ↔ Run d 60 119 [a0, a1, a2, a3, a4, some (.int x), a6, a7, a8, a9, a10, a11] [.int x, s1, s0] M 0 0 Z := R_local (gd60 dX5_tryFrom_117) rfl rfl rfl
theorem z60_119 : Run d 60 119 [a0, a1, a2, a3, a4, a5, some (.int x), a7, a8, a9, a10, a11] [s2, s1, s0] M 0 0 Z ↔ Run d 60 121 [a0, a1, a2, a3, a4, a5, some (.int x), a7, a8, a9, a10, a11] [.int x, s2, s1, s0] M 0 0 Z := R_local (gd60 dX5_tryFrom_119) rfl rfl rfl
theorem z60_121 : Run d 60 121 [a0, a1, a2, a3, a4, a5, a6, a7, a8, a9, a10, a11] [s3, s2, s1, .ref b] M 0 0 Z ↔ gObj M b 1 ∧ Call d 5 [.ref b, s1, s2, s3] M (fun r M1 => Run d 60 124 [a0, a1, a2, a3, a4, a5, a6, a7, a8, a9, a10, a11] (r.toList ++ []) M1 0 0 Z) := R_callV (gd60 dX5_tryFrom_121) rfl rfl rfl rfl rfl rfl gc_5_102 rfl rfl (Nat.le_of_ble_eq_true rfl) (Nat.le_of_ble_eq_true rfl) rfl rfl (Nat.le_of_ble_eq_true rfl) (Nat.le_of_ble_eq_true rfl)
theorem z60_124 : Run d 60 124 [a0, a1, some (.ref o), a3, a4, a5, a6, a7, a8, a9, a10, a11] [] M 0 0 Z ↔ Run d 60 125 [a0, a1, some (.ref o), a3, a4, a5, a6, a7, a8, a9, a10, a11] [.ref o] M 0 0 Z := R_local (gd60 dX5_tryFrom_124) rfl rfl rfl
theorem z60_124n : Run d 60 124 [a0, a1, some .null, a3, a4, a5, a6, a7, a8, a9, a10, a11] [] M 0 0 Z ↔ Run d 60 125 [a0, a1, some .null, a3, a4, a5, a6, a7, a8, a9, a10, a11] [.null] M 0 0 Z := R_local (gd60 dX5_tryFrom_124) rfl rfl rfl
theorem z60_125 : Run d 60 125 [a0, a1, a2, a3, a4, a5, a6, some (.int x), a8, a9, a10, a11] [s0] M 0 0 Z ↔ Run d 60 127 [a0, a1, a2, a3, a4, a5, a6, some (.int x), a8, a9, a10, a11] [.int x, s0] M 0 0 Z := R_local (gd60 dX5_tryFrom_125) rfl rfl rfl
theorem z60_127 : Run d 60 127 [a0, a1, a2, a3, a4, a5, a6, a7, a8, a9, a10, a11] [.int x, .ref o] M 0 0 Z ↔ gObj M o 1 ∧ Run d 60 130 [a0, a1, a2, a3, a4, a5, a6, a7, a8, a9, a10, a11] [] (gsI M o 7 x) 0 0 Z := R_putI (gd60 dX5_tryFrom_127) rfl gf_5_72 (Or.inl rfl) rfl
theorem z60_130 : Run d 60 130 [a0, a1, some (.ref o), a3, a4, a5, a6, a7, a8, a9, a10, a11] [] M 0 0 Z ↔ Run d 60 131 [a0, a1, some (.ref o), a3, a4, a5, a6, a7, a8, a9, a10, a11] [.ref o] M 0 0 Z := R_local (gd60 dX5_tryFrom_130) rfl rfl rfl
theorem z60_130n : Run d 60 130 [a0, a1, some .null, a3, a4, a5, a6, a7, a8, a9, a10, a11] [] M 0 0 Z ↔ Run d 60 131 [a0, a1, some .null, a3, a4, a5, a6, a7, a8, a9, a10, a11] [.null] M 0 0 Z := R_local (gd60 dX5_tryFrom_130) rfl rfl rfl
theorem z60_131 : Run d 60 131 [a0, a1, a2, a3, a4, a5, a6, a7, some (.int x), a9, a10, a11] [s0] M 0 0 Z ↔ Run d 60 133 [a0, a1, a2, a3, a4, a5, a6, a7, some (.int x), a9, a10, a11] [.int x, s0] M 0 0 Z := R_local (gd60 dX5_tryFrom_131) rfl rfl rfl
theorem z60_133 : Run d 60 133 [a0, a1, a2, a3, a4, a5, a6, a7, a8, a9, a10, a11] [.int x, .ref o] M 0 0 Z ↔ gObj M o 1 ∧ Run d 60 136 [a0, a1, a2, a3, a4, a5, a6, a7, a8, a9, a10, a11] [] (gsI M o 8 x) 0 0 Z := R_putI (gd60 dX5_tryFrom_133) rfl gf_5_75 (Or.inl rfl) rfl
theorem z60_136 : Run d 60 136 [a0, a1, some (.ref o), a3, a4, a5, a6, a7, a8, a9, a10, a11] [] M 0 0 Z ↔ Run d 60 137 [a0, a1, some (.ref o), a3, a4, a5, a6, a7, a8, a9, a10, a11] [.ref o] M 0 0 Z := R_local (gd60 dX5_tryFrom_136) rfl rfl rfl
theorem z60_136n : Run d 60 136 [a0, a1, some .null, a3, a4, a5, a6, a7, a8, a9, a10, a11] [] M 0 0 Z ↔ Run d 60 137 [a0, a1, some .null, a3, a4, a5, a6, a7, a8, a9, a10, a11] [.null] M 0 0 Z := R_local (gd60 dX5_tryFrom_136) rfl rfl rfl
theorem z60_137 : Run d 60 137 [a0, a1, a2, a3, a4, a5, a6, a7, a8, a9, a10, a11] [.ref o] M 0 0 Z ↔ gObj M o 1 ∧ Run d 60 140 [a0, a1, a2, a3, a4, a5, a6, a7, a8, a9, a10, a11] [va_rf (M.2.1 o 0)] M 0 0 Z := R_getR (gd60 dX5_tryFrom_137) rfl gf_5_78 rfl
theorem z60_140 : Run d 60 140 [a0, a1, a2, a3, a4, a5, a6, a7, a8, some (.int x), a10, a11] [s0] M 0 0 Z ↔ Run d 60 142 [a0, a1, a2, a3, a4, a5, a6, a7, a8, some (.int x), a10, a11] [.int x, s0] M 0 0 Z := R_local (gd60 dX5_tryFrom_140) rfl rfl rfl
theorem z60_142 : Run d 60 142 [a0, a1, a2, a3, a4, a5, a6, a7, a8, a9, a10, a11] [.int x, .ref o] M 0 0 Z ↔ gObj M o 4 ∧ Run d 60 145 [a0, a1, a2, a3, a4, a5, a6, a7, a8, a9, a10, a11] [] (gsI M o 8 x) 0 0 Z := R_putI (gd60 dX5_tryFrom_142) rfl gf_5_82 (Or.inl rfl) rfl
theorem z60_145 : Run d 60 145 [a0, a1, a2, a3, a4, a5, a6, a7, a8, a9, a10, some (.int x)] [] M 0 0 Z ↔ Run d 60 148 [a0, a1, a2, a3, a4, a5, a6, a7, a8, a9, a10, some (.int (x + 1))] [] M 0 0 Z := R_iinc (gd60 dX5_tryFrom_145) (by decide) rfl rfl
theorem z60_148 : Run d 60 148 [a0, a1, a2, a3, a4, a5, a6, a7, a8, a9, a10, a11] [] M 0 0 Z ↔ Run d 60 57 [a0, a1, a2, a3, a4, a5, a6, a7, a8, a9, a10, a11] [] M 0 0 Z := R_goto (gd60 dX5_tryFrom_148) (show gTgt 148 (-91) = some 57 by decide)
theorem z60_151 : Run d 60 151 [a0, a1, a2, a3, a4, a5, a6, a7, a8, a9, a10, a11] [] M 0 0 Z ↔ Z none M := R_vret (gd60 dX5_tryFrom_151) rfl
theorem e60 : Call (d + 1) 60 [s0, s1, s2, s3] M Z ↔ Run d 60 0 [some s0, some s1, some s2, some s3, none, none, none, none, none, none, none, none] [] M 0 0 Z := Call_iff (Nat.lt_of_lt_of_le (Nat.lt_succ_self 60) (Nat.le_of_ble_eq_true rfl)) (Nat.le_of_ble_eq_true rfl)
/-! 61: X5_perform (ILClothSchool$Drape;)I -/
theorem gd61 {pc : Nat} {r : Except _ _} (h : decode cX5_perform pc = r) : decode (gby 61) pc = r := h
theorem z61_0 : Run d 61 0 [some (.int x), a1] [] M 0 0 Z ↔ Run d 61 1 [some (.int x), a1] [.int x] M 0 0 Z := R_local (gd61 dX5_perform_0) rfl rfl rfl
theorem z61_1 : Run d 61 1 [a0, a1] [.int x] M 0 0 Z ↔ (x = 0 → Run d 61 56 [a0, a1] [] M 0 0 Z) ∧ (¬ x = 0 → ((x = 1 → Run d 61 56 [a0, a1] [] M 0 0 Z) ∧ (¬ x = 1 → ((x = 2 → Run d 61 56 [a0, a1] [] M 0 0 Z) ∧ (¬ x = 2 → ((x = 3 → Run d 61 56 [a0, a1] [] M 0 0 Z) ∧ (¬ x = 3 → ((x = 4 → Run d 61 64 [a0, a1] [] M 0 0 Z) ∧ (¬ x = 4 → ((x = 5 → Run d 61 71 [a0, a1] [] M 0 0 Z) ∧ (¬ x = 5 → ((x = 6 → Run d 61 78 [a0, a1] [] M 0 0 Z) ∧ (¬ x = 6 → ((x = 7 → Run d 61 85 [a0, a1] [] M 0 0 Z) ∧ (¬ x = 7 → ((x = 8 → Run d 61 90 [a0, a1] [] M 0 0 Z) ∧ (¬ x = 8 → ((x = 9 → Run d 61 95 [a0, a1] [] M 0 0 Z) ∧ (¬ x = 9 → (Run d 61 100 [a0, a1] [] M 0 0 Z)))))))))))))))))))) := R_table (tbl := [(0, 56), (1, 56), (2, 56), (3, 56), (4, 64), (5, 71), (6, 78), (7, 85), (8, 90), (9, 95)]) (dt := 100) (gd61 dX5_perform_1) (by decide) (by decide) (by decide)
theorem z61_56 : Run d 61 56 [a0, some (.ref o)] [] M 0 0 Z ↔ Run d 61 57 [a0, some (.ref o)] [.ref o] M 0 0 Z := R_local (gd61 dX5_perform_56) rfl rfl rfl
theorem z61_56n : Run d 61 56 [a0, some .null] [] M 0 0 Z ↔ Run d 61 57 [a0, some .null] [.null] M 0 0 Z := R_local (gd61 dX5_perform_56) rfl rfl rfl
theorem z61_57 : Run d 61 57 [a0, a1] [s0] M 0 0 Z ↔ Run d 61 58 [a0, a1] [.int 1, s0] M 0 0 Z := R_iconst (gd61 dX5_perform_57) (by decide)
theorem z61_58 : Run d 61 58 [some (.int x), a1] [s1, s0] M 0 0 Z ↔ Run d 61 59 [some (.int x), a1] [.int x, s1, s0] M 0 0 Z := R_local (gd61 dX5_perform_58) rfl rfl rfl
theorem z61_59 : Run d 61 59 [a0, a1] [.int y, .int x, s0] M 0 0 Z ↔ Run d 61 60 [a0, a1] [.int (x <<< (y &&& 31)), s0] M 0 0 Z := R_arith (gd61 dX5_perform_59) rfl
theorem z61_60 : Run d 61 60 [a0, a1] [s1, .ref b] M 0 0 Z ↔ gObj M b 1 ∧ Call d 9 [.ref b, s1] M (fun r M1 => Run d 61 63 [a0, a1] (r.toList ++ []) M1 0 0 Z) := R_callV (gd61 dX5_perform_60) rfl rfl rfl rfl rfl rfl gc_5_106 rfl rfl (Nat.le_of_ble_eq_true rfl) (Nat.le_of_ble_eq_true rfl) rfl rfl (Nat.le_of_ble_eq_true rfl) (Nat.le_of_ble_eq_true rfl)
theorem z61_63 : Run d 61 63 [a0, a1] [.int x] M 0 0 Z ↔ Z (some (.int x)) M := R_iret (gd61 dX5_perform_63) rfl
theorem z61_64 : Run d 61 64 [a0, some (.ref o)] [] M 0 0 Z ↔ Run d 61 65 [a0, some (.ref o)] [.ref o] M 0 0 Z := R_local (gd61 dX5_perform_64) rfl rfl rfl
theorem z61_64n : Run d 61 64 [a0, some .null] [] M 0 0 Z ↔ Run d 61 65 [a0, some .null] [.null] M 0 0 Z := R_local (gd61 dX5_perform_64) rfl rfl rfl
theorem z61_65 : Run d 61 65 [a0, a1] [s0] M 0 0 Z ↔ Run d 61 66 [a0, a1] [.int 2, s0] M 0 0 Z := R_iconst (gd61 dX5_perform_65) (by decide)
theorem z61_66 : Run d 61 66 [a0, a1] [s1, s0] M 0 0 Z ↔ Run d 61 67 [a0, a1] [.int 2, s1, s0] M 0 0 Z := R_iconst (gd61 dX5_perform_66) (by decide)
theorem z61_67 : Run d 61 67 [a0, a1] [s2, s1, .ref b] M 0 0 Z ↔ gObj M b 1 ∧ Call d 10 [.ref b, s1, s2] M (fun r M1 => Run d 61 70 [a0, a1] (r.toList ++ []) M1 0 0 Z) := R_callV (gd61 dX5_perform_67) rfl rfl rfl rfl rfl rfl gc_5_110 rfl rfl (Nat.le_of_ble_eq_true rfl) (Nat.le_of_ble_eq_true rfl) rfl rfl (Nat.le_of_ble_eq_true rfl) (Nat.le_of_ble_eq_true rfl)
theorem z61_70 : Run d 61 70 [a0, a1] [.int x] M 0 0 Z ↔ Z (some (.int x)) M := R_iret (gd61 dX5_perform_70) rfl
theorem z61_71 : Run d 61 71 [a0, some (.ref o)] [] M 0 0 Z ↔ Run d 61 72 [a0, some (.ref o)] [.ref o] M 0 0 Z := R_local (gd61 dX5_perform_71) rfl rfl rfl
theorem z61_71n : Run d 61 71 [a0, some .null] [] M 0 0 Z ↔ Run d 61 72 [a0, some .null] [.null] M 0 0 Z := R_local (gd61 dX5_perform_71) rfl rfl rfl
theorem z61_72 : Run d 61 72 [a0, a1] [s0] M 0 0 Z ↔ Run d 61 73 [a0, a1] [.int 1, s0] M 0 0 Z := R_iconst (gd61 dX5_perform_72) (by decide)
theorem z61_73 : Run d 61 73 [a0, a1] [s1, s0] M 0 0 Z ↔ Run d 61 74 [a0, a1] [.int 1, s1, s0] M 0 0 Z := R_iconst (gd61 dX5_perform_73) (by decide)
theorem z61_74 : Run d 61 74 [a0, a1] [s2, s1, .ref b] M 0 0 Z ↔ gObj M b 1 ∧ Call d 12 [.ref b, s1, s2] M (fun r M1 => Run d 61 77 [a0, a1] (r.toList ++ []) M1 0 0 Z) := R_callV (gd61 dX5_perform_74) rfl rfl rfl rfl rfl rfl gc_5_114 rfl rfl (Nat.le_of_ble_eq_true rfl) (Nat.le_of_ble_eq_true rfl) rfl rfl (Nat.le_of_ble_eq_true rfl) (Nat.le_of_ble_eq_true rfl)
theorem z61_77 : Run d 61 77 [a0, a1] [.int x] M 0 0 Z ↔ Z (some (.int x)) M := R_iret (gd61 dX5_perform_77) rfl
theorem z61_78 : Run d 61 78 [a0, some (.ref o)] [] M 0 0 Z ↔ Run d 61 79 [a0, some (.ref o)] [.ref o] M 0 0 Z := R_local (gd61 dX5_perform_78) rfl rfl rfl
theorem z61_78n : Run d 61 78 [a0, some .null] [] M 0 0 Z ↔ Run d 61 79 [a0, some .null] [.null] M 0 0 Z := R_local (gd61 dX5_perform_78) rfl rfl rfl
theorem z61_79 : Run d 61 79 [a0, a1] [s0] M 0 0 Z ↔ Run d 61 80 [a0, a1] [.int 1, s0] M 0 0 Z := R_iconst (gd61 dX5_perform_79) (by decide)
theorem z61_80 : Run d 61 80 [a0, a1] [s1, s0] M 0 0 Z ↔ Run d 61 81 [a0, a1] [.int (-1), s1, s0] M 0 0 Z := R_iconst (gd61 dX5_perform_80) (by decide)
theorem z61_81 : Run d 61 81 [a0, a1] [s2, s1, .ref b] M 0 0 Z ↔ gObj M b 1 ∧ Call d 12 [.ref b, s1, s2] M (fun r M1 => Run d 61 84 [a0, a1] (r.toList ++ []) M1 0 0 Z) := R_callV (gd61 dX5_perform_81) rfl rfl rfl rfl rfl rfl gc_5_114 rfl rfl (Nat.le_of_ble_eq_true rfl) (Nat.le_of_ble_eq_true rfl) rfl rfl (Nat.le_of_ble_eq_true rfl) (Nat.le_of_ble_eq_true rfl)
theorem z61_84 : Run d 61 84 [a0, a1] [.int x] M 0 0 Z ↔ Z (some (.int x)) M := R_iret (gd61 dX5_perform_84) rfl
theorem z61_85 : Run d 61 85 [a0, some (.ref o)] [] M 0 0 Z ↔ Run d 61 86 [a0, some (.ref o)] [.ref o] M 0 0 Z := R_local (gd61 dX5_perform_85) rfl rfl rfl
theorem z61_85n : Run d 61 85 [a0, some .null] [] M 0 0 Z ↔ Run d 61 86 [a0, some .null] [.null] M 0 0 Z := R_local (gd61 dX5_perform_85) rfl rfl rfl
theorem z61_86 : Run d 61 86 [a0, a1] [.ref b] M 0 0 Z ↔ gObj M b 1 ∧ Call d 13 [.ref b] M (fun r M1 => Run d 61 89 [a0, a1] (r.toList ++ []) M1 0 0 Z) := R_callV (gd61 dX5_perform_86) rfl rfl rfl rfl rfl rfl gc_5_117 rfl rfl (Nat.le_of_ble_eq_true rfl) (Nat.le_of_ble_eq_true rfl) rfl rfl (Nat.le_of_ble_eq_true rfl) (Nat.le_of_ble_eq_true rfl)
theorem z61_89 : Run d 61 89 [a0, a1] [.int x] M 0 0 Z ↔ Z (some (.int x)) M := R_iret (gd61 dX5_perform_89) rfl
theorem z61_90 : Run d 61 90 [a0, some (.ref o)] [] M 0 0 Z ↔ Run d 61 91 [a0, some (.ref o)] [.ref o] M 0 0 Z := R_local (gd61 dX5_perform_90) rfl rfl rfl
theorem z61_90n : Run d 61 90 [a0, some .null] [] M 0 0 Z ↔ Run d 61 91 [a0, some .null] [.null] M 0 0 Z := R_local (gd61 dX5_perform_90) rfl rfl rfl
theorem z61_91 : Run d 61 91 [a0, a1] [.ref b] M 0 0 Z ↔ gObj M b 1 ∧ Call d 14 [.ref b] M (fun r M1 => Run d 61 94 [a0, a1] (r.toList ++ []) M1 0 0 Z) := R_callV (gd61 dX5_perform_91) rfl rfl rfl rfl rfl rfl gc_5_121 rfl rfl (Nat.le_of_ble_eq_true rfl) (Nat.le_of_ble_eq_true rfl) rfl rfl (Nat.le_of_ble_eq_true rfl) (Nat.le_of_ble_eq_true rfl)
theorem z61_94 : Run d 61 94 [a0, a1] [.int x] M 0 0 Z ↔ Z (some (.int x)) M := R_iret (gd61 dX5_perform_94) rfl
theorem z61_95 : Run d 61 95 [a0, some (.ref o)] [] M 0 0 Z ↔ Run d 61 96 [a0, some (.ref o)] [.ref o] M 0 0 Z := R_local (gd61 dX5_perform_95) rfl rfl rfl
theorem z61_95n : Run d 61 95 [a0, some .null] [] M 0 0 Z ↔ Run d 61 96 [a0, some .null] [.null] M 0 0 Z := R_local (gd61 dX5_perform_95) rfl rfl rfl
theorem z61_96 : Run d 61 96 [a0, a1] [.ref b] M 0 0 Z ↔ gObj M b 1 ∧ Call d 15 [.ref b] M (fun r M1 => Run d 61 99 [a0, a1] (r.toList ++ []) M1 0 0 Z) := R_callV (gd61 dX5_perform_96) rfl rfl rfl rfl rfl rfl gc_5_124 rfl rfl (Nat.le_of_ble_eq_true rfl) (Nat.le_of_ble_eq_true rfl) rfl rfl (Nat.le_of_ble_eq_true rfl) (Nat.le_of_ble_eq_true rfl)
theorem z61_99 : Run d 61 99 [a0, a1] [.int x] M 0 0 Z ↔ Z (some (.int x)) M := R_iret (gd61 dX5_perform_99) rfl
theorem z61_100 : Run d 61 100 [a0, some (.ref o)] [] M 0 0 Z ↔ Run d 61 101 [a0, some (.ref o)] [.ref o] M 0 0 Z := R_local (gd61 dX5_perform_100) rfl rfl rfl
theorem z61_100n : Run d 61 100 [a0, some .null] [] M 0 0 Z ↔ Run d 61 101 [a0, some .null] [.null] M 0 0 Z := R_local (gd61 dX5_perform_100) rfl rfl rfl
theorem z61_101 : Run d 61 101 [a0, a1] [s0] M 0 0 Z ↔ Run d 61 103 [a0, a1] [.int 9, s0] M 0 0 Z := R_bipush (gd61 dX5_perform_101) (by decide)
theorem z61_103 : Run d 61 103 [a0, a1] [s1, .ref b] M 0 0 Z ↔ gObj M b 1 ∧ Call d 16 [.ref b, s1] M (fun r M1 => Run d 61 106 [a0, a1] (r.toList ++ []) M1 0 0 Z) := R_callV (gd61 dX5_perform_103) rfl rfl rfl rfl rfl rfl gc_5_127 rfl rfl (Nat.le_of_ble_eq_true rfl) (Nat.le_of_ble_eq_true rfl) rfl rfl (Nat.le_of_ble_eq_true rfl) (Nat.le_of_ble_eq_true rfl)
theorem z61_106 : Run d 61 106 [a0, a1] [.int x] M 0 0 Z ↔ Z (some (.int x)) M := R_iret (gd61 dX5_perform_106) rfl
theorem e61 : Call (d + 1) 61 [s0, s1] M Z ↔ Run d 61 0 [some s0, some s1] [] M 0 0 Z := Call_iff (Nat.lt_of_lt_of_le (Nat.lt_succ_self 61) (Nat.le_of_ble_eq_true rfl)) (Nat.le_of_ble_eq_true rfl)
/-! 62: X5_keepIfShown (I)V -/
theorem gd62 {pc : Nat} {r : Except _ _} (h : decode cX5_keepIfShown pc = r) : decode (gby 62) pc = r := h
theorem z62_0 : Run d 62 0 [some (.ref o), a1] [] M 0 0 Z ↔ Run d 62 1 [some (.ref o), a1] [.ref o] M 0 0 Z := R_local (gd62 dX5_keepIfShown_0) rfl rfl rfl
theorem z62_1 : Run d 62 1 [a0, a1] [.ref o] M 0 0 Z ↔ gObj M o 5 ∧ Run d 62 4 [a0, a1] [.int (M.1 o 2)] M 0 0 Z := R_getI (gd62 dX5_keepIfShown_1) rfl gf_5_18 rfl
theorem z62_4 : Run d 62 4 [a0, a1] [.int x] M 0 0 Z ↔ (x = 0 → Run d 62 8 [a0, a1] [] M 0 0 Z) ∧ (¬ (x = 0) → Run d 62 7 [a0, a1] [] M 0 0 Z) := R_if (gd62 dX5_keepIfShown_4) (show gTgt 4 4 = some 8 by decide) gIf_eq
theorem z62_7 : Run d 62 7 [a0, a1] [] M 0 0 Z ↔ Z none M := R_vret (gd62 dX5_keepIfShown_7) rfl
theorem z62_8 : Run d 62 8 [some (.ref o), a1] [] M 0 0 Z ↔ Run d 62 9 [some (.ref o), a1] [.ref o] M 0 0 Z := R_local (gd62 dX5_keepIfShown_8) rfl rfl rfl
theorem z62_9 : Run d 62 9 [a0, a1] [.ref o] M 0 0 Z ↔ Run d 62 10 [a0, a1] [.ref o, .ref o] M 0 0 Z := R_arith (gd62 dX5_keepIfShown_9) rfl
theorem z62_10 : Run d 62 10 [a0, a1] [.ref o, s0] M 0 0 Z ↔ gObj M o 5 ∧ Run d 62 13 [a0, a1] [.int (M.1 o 7), s0] M 0 0 Z := R_getI (gd62 dX5_keepIfShown_10) rfl gf_5_34 rfl
theorem z62_13 : Run d 62 13 [a0, a1] [s1, s0] M 0 0 Z ↔ Run d 62 14 [a0, a1] [.int 1, s1, s0] M 0 0 Z := R_iconst (gd62 dX5_keepIfShown_13) (by decide)
theorem z62_14 : Run d 62 14 [a0, a1] [.int y, .int x, s0] M 0 0 Z ↔ Run d 62 15 [a0, a1] [.int (x + y), s0] M 0 0 Z := R_arith (gd62 dX5_keepIfShown_14) rfl
theorem z62_15 : Run d 62 15 [a0, a1] [.int x, .ref o] M 0 0 Z ↔ gObj M o 5 ∧ Run d 62 18 [a0, a1] [] (gsI M o 7 x) 0 0 Z := R_putI (gd62 dX5_keepIfShown_15) rfl gf_5_34 (Or.inl rfl) rfl
theorem z62_18 : Run d 62 18 [some (.ref o), a1] [] M 0 0 Z ↔ Run d 62 19 [some (.ref o), a1] [.ref o] M 0 0 Z := R_local (gd62 dX5_keepIfShown_18) rfl rfl rfl
theorem z62_19 : Run d 62 19 [a0, a1] [.ref o] M 0 0 Z ↔ gObj M o 5 ∧ Run d 62 22 [a0, a1] [.int (M.1 o 9)] M 0 0 Z := R_getI (gd62 dX5_keepIfShown_19) rfl gf_5_40 rfl
theorem z62_22 : Run d 62 22 [a0, a1] [.int x] M 0 0 Z ↔ (x = 0 → Run d 62 33 [a0, a1] [] M 0 0 Z) ∧ (¬ (x = 0) → Run d 62 25 [a0, a1] [] M 0 0 Z) := R_if (gd62 dX5_keepIfShown_22) (show gTgt 22 11 = some 33 by decide) gIf_eq
theorem z62_25 : Run d 62 25 [a0, some (.int x)] [] M 0 0 Z ↔ Run d 62 26 [a0, some (.int x)] [.int x] M 0 0 Z := R_local (gd62 dX5_keepIfShown_25) rfl rfl rfl
theorem z62_26 : Run d 62 26 [some (.ref o), a1] [s0] M 0 0 Z ↔ Run d 62 27 [some (.ref o), a1] [.ref o, s0] M 0 0 Z := R_local (gd62 dX5_keepIfShown_26) rfl rfl rfl
theorem z62_27 : Run d 62 27 [a0, a1] [.ref o, s0] M 0 0 Z ↔ gObj M o 5 ∧ Run d 62 30 [a0, a1] [.int (M.1 o 9), s0] M 0 0 Z := R_getI (gd62 dX5_keepIfShown_27) rfl gf_5_40 rfl
theorem z62_30 : Run d 62 30 [a0, a1] [.int y, .int x] M 0 0 Z ↔ (y ≤ x → Run d 62 56 [a0, a1] [] M 0 0 Z) ∧ (¬ (y ≤ x) → Run d 62 33 [a0, a1] [] M 0 0 Z) := R_icmp (gd62 dX5_keepIfShown_30) (show gTgt 30 26 = some 56 by decide) gIf_ge
theorem z62_33 : Run d 62 33 [some (.ref o), a1] [] M 0 0 Z ↔ Run d 62 34 [some (.ref o), a1] [.ref o] M 0 0 Z := R_local (gd62 dX5_keepIfShown_33) rfl rfl rfl
theorem z62_34 : Run d 62 34 [a0, some (.int x)] [s0] M 0 0 Z ↔ Run d 62 35 [a0, some (.int x)] [.int x, s0] M 0 0 Z := R_local (gd62 dX5_keepIfShown_34) rfl rfl rfl
theorem z62_35 : Run d 62 35 [a0, a1] [.int x, .ref o] M 0 0 Z ↔ gObj M o 5 ∧ Run d 62 38 [a0, a1] [] (gsI M o 9 x) 0 0 Z := R_putI (gd62 dX5_keepIfShown_35) rfl gf_5_40 (Or.inl rfl) rfl
theorem z62_38 : Run d 62 38 [some (.ref o), a1] [] M 0 0 Z ↔ Run d 62 39 [some (.ref o), a1] [.ref o] M 0 0 Z := R_local (gd62 dX5_keepIfShown_38) rfl rfl rfl
theorem z62_39 : Run d 62 39 [a0, a1] [.ref o] M 0 0 Z ↔ gObj M o 5 ∧ Run d 62 42 [a0, a1] [va_rf (M.2.1 o 6)] M 0 0 Z := R_getR (gd62 dX5_keepIfShown_39) rfl gf_5_31 rfl
theorem z62_42 : Run d 62 42 [a0, a1] [s0] M 0 0 Z ↔ Run d 62 43 [a0, a1] [.int 0, s0] M 0 0 Z := R_iconst (gd62 dX5_keepIfShown_42) (by decide)
theorem z62_43 : Run d 62 43 [some (.ref o), a1] [s1, s0] M 0 0 Z ↔ Run d 62 44 [some (.ref o), a1] [.ref o, s1, s0] M 0 0 Z := R_local (gd62 dX5_keepIfShown_43) rfl rfl rfl
theorem z62_44 : Run d 62 44 [a0, a1] [.ref o, s1, s0] M 0 0 Z ↔ gObj M o 5 ∧ Run d 62 47 [a0, a1] [va_rf (M.2.1 o 8), s1, s0] M 0 0 Z := R_getR (gd62 dX5_keepIfShown_44) rfl gf_5_37 rfl
theorem z62_47 : Run d 62 47 [a0, a1] [s2, s1, s0] M 0 0 Z ↔ Run d 62 48 [a0, a1] [.int 0, s2, s1, s0] M 0 0 Z := R_iconst (gd62 dX5_keepIfShown_47) (by decide)
theorem z62_48 : Run d 62 48 [a0, some (.int x)] [s3, s2, s1, s0] M 0 0 Z ↔ Run d 62 49 [a0, some (.int x)] [.int x, s3, s2, s1, s0] M 0 0 Z := R_local (gd62 dX5_keepIfShown_48) rfl rfl rfl
theorem z62_49 : Run d 62 49 [a0, a1] [s4, s3, s2, s1, s0] M 0 0 Z ↔ Run d 62 50 [a0, a1] [.int 4, s4, s3, s2, s1, s0] M 0 0 Z := R_iconst (gd62 dX5_keepIfShown_49) (by decide)
theorem z62_50 : Run d 62 50 [a0, a1] [.int y, .int x, s3, s2, s1, s0] M 0 0 Z ↔ Run d 62 53 [a0, a1] [.int (if y < x then y else x), s3, s2, s1, s0] M 0 0 Z := R_prim (gd62 dX5_keepIfShown_50) rfl rfl rfl rfl rfl rfl gc_5_130 rfl (by decide) rfl (Nat.le_of_ble_eq_true rfl)
theorem z62_53 (hc : gTy M o = some 0 ∧ gTy M b = some 0 ∧ o ≠ b ∧ ¬ x < 0 ∧ ¬ y < 0 ∧ ¬ w < 0 ∧ x.toNatClampNeg + w.toNatClampNeg ≤ gLen M o ∧ y.toNatClampNeg + w.toNatClampNeg ≤ gLen M b) : Run d 62 53 [a0, a1] [.int w, .int y, .ref b, .int x, .ref o] M 0 0 Z ↔ Run d 62 56 [a0, a1] [] (gCp M o x.toNatClampNeg b y.toNatClampNeg w.toNatClampNeg) 0 0 Z := R_prim (gd62 dX5_keepIfShown_53) rfl rfl rfl rfl rfl rfl gc_5_135 rfl (by decide) (by simp only [gPrim]; exact if_pos hc) (Nat.le_of_ble_eq_true rfl)
theorem z62_56 : Run d 62 56 [a0, a1] [] M 0 0 Z ↔ Z none M := R_vret (gd62 dX5_keepIfShown_56) rfl
theorem e62 : Call (d + 1) 62 [s0, s1] M Z ↔ Run d 62 0 [some s0, some s1] [] M 0 0 Z := Call_iff (Nat.lt_of_lt_of_le (Nat.lt_succ_self 62) (Nat.le_of_ble_eq_true rfl)) (Nat.le_of_ble_eq_true rfl)
/-! 63: X5_isOff (I)Z -/
theorem gd63 {pc : Nat} {r : Except _ _} (h : decode cX5_isOff pc = r) : decode (gby 63) pc = r := h
theorem z63_0 : Run d 63 0 [a0, some (.int x)] [] M 0 0 Z ↔ Run d 63 1 [a0, some (.int x)] [.int x] M 0 0 Z := R_local (gd63 dX5_isOff_0) rfl rfl rfl
theorem z63_1 : Run d 63 1 [a0, a1] [s0] M 0 0 Z ↔ Run d 63 3 [a0, a1] [.int 64, s0] M 0 0 Z := R_bipush (gd63 dX5_isOff_1) (by decide)
theorem z63_3 : Run d 63 3 [a0, a1] [s1, s0] M 0 0 Z ↔ Call d 110 [s0, s1] M (fun r M1 => Run d 63 6 [a0, a1] (r.toList ++ []) M1 0 0 Z) := R_call (gd63 dX5_isOff_3) rfl rfl rfl rfl rfl rfl gc_5_57 rfl (by decide) (Nat.le_of_ble_eq_true rfl) (Nat.le_of_ble_eq_true rfl) rfl rfl rfl (Nat.le_of_ble_eq_true rfl) (Nat.le_of_ble_eq_true rfl)
theorem z63_6 : Run d 63 6 [a0, a1] [.int x] M 0 0 Z ↔ (x = 0 → Run d 63 39 [a0, a1] [] M 0 0 Z) ∧ (¬ (x = 0) → Run d 63 9 [a0, a1] [] M 0 0 Z) := R_if (gd63 dX5_isOff_6) (show gTgt 6 33 = some 39 by decide) gIf_eq
theorem z63_9 : Run d 63 9 [some (.ref o), a1] [] M 0 0 Z ↔ Run d 63 10 [some (.ref o), a1] [.ref o] M 0 0 Z := R_local (gd63 dX5_isOff_9) rfl rfl rfl
theorem z63_10 : Run d 63 10 [a0, a1] [.ref o] M 0 0 Z ↔ gObj M o 5 ∧ Run d 63 13 [a0, a1] [va_rf (M.2.1 o 0)] M 0 0 Z := R_getR (gd63 dX5_isOff_10) rfl gf_5_9 rfl
theorem z63_13 : Run d 63 13 [a0, some (.int x)] [s0] M 0 0 Z ↔ Run d 63 14 [a0, some (.int x)] [.int x, s0] M 0 0 Z := R_local (gd63 dX5_isOff_13) rfl rfl rfl
theorem z63_14 : Run d 63 14 [a0, a1] [.int x, .ref o] M 0 0 Z ↔ gAr M o 0 ∧ gIn x (gLen M o) = true ∧ Run d 63 15 [a0, a1] [.int (M.1 o x.toNatClampNeg)] M 0 0 Z := R_iald (gd63 dX5_isOff_14)
theorem z63_15 : Run d 63 15 [a0, a1] [s0] M 0 0 Z ↔ Run d 63 17 [a0, a1] [.int 9, s0] M 0 0 Z := R_bipush (gd63 dX5_isOff_15) (by decide)
theorem z63_17 : Run d 63 17 [a0, a1] [.int y, .int x] M 0 0 Z ↔ (x = y → Run d 63 39 [a0, a1] [] M 0 0 Z) ∧ (¬ (x = y) → Run d 63 20 [a0, a1] [] M 0 0 Z) := R_icmp (gd63 dX5_isOff_17) (show gTgt 17 22 = some 39 by decide) gIf_eq
theorem z63_20 : Run d 63 20 [some (.ref o), a1] [] M 0 0 Z ↔ Run d 63 21 [some (.ref o), a1] [.ref o] M 0 0 Z := R_local (gd63 dX5_isOff_20) rfl rfl rfl
theorem z63_21 : Run d 63 21 [a0, a1] [.ref o] M 0 0 Z ↔ gObj M o 5 ∧ Run d 63 24 [a0, a1] [va_rf (M.2.1 o 0)] M 0 0 Z := R_getR (gd63 dX5_isOff_21) rfl gf_5_9 rfl
theorem z63_24 : Run d 63 24 [a0, some (.int x)] [s0] M 0 0 Z ↔ Run d 63 25 [a0, some (.int x)] [.int x, s0] M 0 0 Z := R_local (gd63 dX5_isOff_24) rfl rfl rfl
theorem z63_25 : Run d 63 25 [a0, a1] [.int x, .ref o] M 0 0 Z ↔ gAr M o 0 ∧ gIn x (gLen M o) = true ∧ Run d 63 26 [a0, a1] [.int (M.1 o x.toNatClampNeg)] M 0 0 Z := R_iald (gd63 dX5_isOff_25)
theorem z63_26 : Run d 63 26 [some (.ref o), a1] [s0] M 0 0 Z ↔ Run d 63 27 [some (.ref o), a1] [.ref o, s0] M 0 0 Z := R_local (gd63 dX5_isOff_26) rfl rfl rfl
theorem z63_27 : Run d 63 27 [a0, a1] [.ref o, s0] M 0 0 Z ↔ gObj M o 5 ∧ Run d 63 30 [a0, a1] [va_rf (M.2.1 o 1), s0] M 0 0 Z := R_getR (gd63 dX5_isOff_27) rfl gf_5_15 rfl
theorem z63_30 : Run d 63 30 [a0, some (.int x)] [s1, s0] M 0 0 Z ↔ Run d 63 31 [a0, some (.int x)] [.int x, s1, s0] M 0 0 Z := R_local (gd63 dX5_isOff_30) rfl rfl rfl
theorem z63_31 : Run d 63 31 [a0, a1] [.int x, .ref o, s0] M 0 0 Z ↔ gAr M o 0 ∧ gIn x (gLen M o) = true ∧ Run d 63 32 [a0, a1] [.int (M.1 o x.toNatClampNeg), s0] M 0 0 Z := R_iald (gd63 dX5_isOff_31)
theorem z63_32 : Run d 63 32 [a0, a1] [.int y, .int x] M 0 0 Z ↔ (x = y → Run d 63 39 [a0, a1] [] M 0 0 Z) ∧ (¬ (x = y) → Run d 63 35 [a0, a1] [] M 0 0 Z) := R_icmp (gd63 dX5_isOff_32) (show gTgt 32 7 = some 39 by decide) gIf_eq
theorem z63_35 : Run d 63 35 [a0, a1] [] M 0 0 Z ↔ Run d 63 36 [a0, a1] [.int 1] M 0 0 Z := R_iconst (gd63 dX5_isOff_35) (by decide)
theorem z63_36 : Run d 63 36 [a0, a1] [s0] M 0 0 Z ↔ Run d 63 40 [a0, a1] [s0] M 0 0 Z := R_goto (gd63 dX5_isOff_36) (show gTgt 36 4 = some 40 by decide)
theorem z63_39 : Run d 63 39 [a0, a1] [] M 0 0 Z ↔ Run d 63 40 [a0, a1] [.int 0] M 0 0 Z := R_iconst (gd63 dX5_isOff_39) (by decide)
theorem z63_40 : Run d 63 40 [a0, a1] [.int x] M 0 0 Z ↔ (x = 0 ∨ x = 1) ∧ Z (some (.int x)) M := R_iretZ (gd63 dX5_isOff_40) rfl
theorem e63 : Call (d + 1) 63 [s0, s1] M Z ↔ Run d 63 0 [some s0, some s1] [] M 0 0 Z := Call_iff (Nat.lt_of_lt_of_le (Nat.lt_succ_self 63) (Nat.le_of_ble_eq_true rfl)) (Nat.le_of_ble_eq_true rfl)
/-! 64: X5_see (II)V -/
theorem gd64 {pc : Nat} {r : Except _ _} (h : decode cX5_see pc = r) : decode (gby 64) pc = r := h
theorem z64_0 : Run d 64 0 [a0, some (.int x), a2] [] M 0 0 Z ↔ Run d 64 1 [a0, some (.int x), a2] [.int x] M 0 0 Z := R_local (gd64 dX5_see_0) rfl rfl rfl
theorem z64_1 : Run d 64 1 [a0, a1, a2] [s0] M 0 0 Z ↔ Run d 64 3 [a0, a1, a2] [.int 64, s0] M 0 0 Z := R_bipush (gd64 dX5_see_1) (by decide)
theorem z64_3 : Run d 64 3 [a0, a1, a2] [s1, s0] M 0 0 Z ↔ Call d 110 [s0, s1] M (fun r M1 => Run d 64 6 [a0, a1, a2] (r.toList ++ []) M1 0 0 Z) := R_call (gd64 dX5_see_3) rfl rfl rfl rfl rfl rfl gc_5_57 rfl (by decide) (Nat.le_of_ble_eq_true rfl) (Nat.le_of_ble_eq_true rfl) rfl rfl rfl (Nat.le_of_ble_eq_true rfl) (Nat.le_of_ble_eq_true rfl)
theorem z64_6 : Run d 64 6 [a0, a1, a2] [.int x] M 0 0 Z ↔ (x = 0 → Run d 64 60 [a0, a1, a2] [] M 0 0 Z) ∧ (¬ (x = 0) → Run d 64 9 [a0, a1, a2] [] M 0 0 Z) := R_if (gd64 dX5_see_6) (show gTgt 6 54 = some 60 by decide) gIf_eq
theorem z64_9 : Run d 64 9 [some (.ref o), a1, a2] [] M 0 0 Z ↔ Run d 64 10 [some (.ref o), a1, a2] [.ref o] M 0 0 Z := R_local (gd64 dX5_see_9) rfl rfl rfl
theorem z64_10 : Run d 64 10 [a0, a1, a2] [.ref o] M 0 0 Z ↔ Run d 64 11 [a0, a1, a2] [.ref o, .ref o] M 0 0 Z := R_arith (gd64 dX5_see_10) rfl
theorem z64_11 : Run d 64 11 [a0, a1, a2] [.ref o, s0] M 0 0 Z ↔ gObj M o 5 ∧ Run d 64 14 [a0, a1, a2] [.int (M.1 o 2), s0] M 0 0 Z := R_getI (gd64 dX5_see_11) rfl gf_5_18 rfl
theorem z64_14 : Run d 64 14 [some (.ref o), a1, a2] [s1, s0] M 0 0 Z ↔ Run d 64 15 [some (.ref o), a1, a2] [.ref o, s1, s0] M 0 0 Z := R_local (gd64 dX5_see_14) rfl rfl rfl
theorem z64_15 : Run d 64 15 [a0, some (.int x), a2] [s2, s1, s0] M 0 0 Z ↔ Run d 64 16 [a0, some (.int x), a2] [.int x, s2, s1, s0] M 0 0 Z := R_local (gd64 dX5_see_15) rfl rfl rfl
theorem z64_16 : Run d 64 16 [a0, a1, a2] [s3, .ref b, s1, s0] M 0 0 Z ↔ gObj M b 5 ∧ Call d 63 [.ref b, s3] M (fun r M1 => Run d 64 19 [a0, a1, a2] (r.toList ++ [s1, s0]) M1 0 0 Z) := R_callV (gd64 dX5_see_16) rfl rfl rfl rfl rfl rfl gc_5_49 rfl rfl (Nat.le_of_ble_eq_true rfl) (Nat.le_of_ble_eq_true rfl) rfl rfl (Nat.le_of_ble_eq_true rfl) (Nat.le_of_ble_eq_true rfl)
theorem z64_19 : Run d 64 19 [a0, a1, a2] [.int x, s1, s0] M 0 0 Z ↔ (x = 0 → Run d 64 26 [a0, a1, a2] [s1, s0] M 0 0 Z) ∧ (¬ (x = 0) → Run d 64 22 [a0, a1, a2] [s1, s0] M 0 0 Z) := R_if (gd64 dX5_see_19) (show gTgt 19 7 = some 26 by decide) gIf_eq
theorem z64_22 : Run d 64 22 [a0, a1, a2] [s1, s0] M 0 0 Z ↔ Run d 64 23 [a0, a1, a2] [.int 1, s1, s0] M 0 0 Z := R_iconst (gd64 dX5_see_22) (by decide)
theorem z64_23 : Run d 64 23 [a0, a1, a2] [s2, s1, s0] M 0 0 Z ↔ Run d 64 27 [a0, a1, a2] [s2, s1, s0] M 0 0 Z := R_goto (gd64 dX5_see_23) (show gTgt 23 4 = some 27 by decide)
theorem z64_26 : Run d 64 26 [a0, a1, a2] [s1, s0] M 0 0 Z ↔ Run d 64 27 [a0, a1, a2] [.int 0, s1, s0] M 0 0 Z := R_iconst (gd64 dX5_see_26) (by decide)
theorem z64_27 : Run d 64 27 [a0, a1, a2] [.int y, .int x, s0] M 0 0 Z ↔ Run d 64 28 [a0, a1, a2] [.int (x - y), s0] M 0 0 Z := R_arith (gd64 dX5_see_27) rfl
theorem z64_28 : Run d 64 28 [a0, a1, a2] [.int x, .ref o] M 0 0 Z ↔ gObj M o 5 ∧ Run d 64 31 [a0, a1, a2] [] (gsI M o 2 x) 0 0 Z := R_putI (gd64 dX5_see_28) rfl gf_5_18 (Or.inl rfl) rfl
theorem z64_31 : Run d 64 31 [some (.ref o), a1, a2] [] M 0 0 Z ↔ Run d 64 32 [some (.ref o), a1, a2] [.ref o] M 0 0 Z := R_local (gd64 dX5_see_31) rfl rfl rfl
theorem z64_32 : Run d 64 32 [a0, a1, a2] [.ref o] M 0 0 Z ↔ gObj M o 5 ∧ Run d 64 35 [a0, a1, a2] [va_rf (M.2.1 o 1)] M 0 0 Z := R_getR (gd64 dX5_see_32) rfl gf_5_15 rfl
theorem z64_35 : Run d 64 35 [a0, some (.int x), a2] [s0] M 0 0 Z ↔ Run d 64 36 [a0, some (.int x), a2] [.int x, s0] M 0 0 Z := R_local (gd64 dX5_see_35) rfl rfl rfl
theorem z64_36 : Run d 64 36 [a0, a1, some (.int x)] [s1, s0] M 0 0 Z ↔ Run d 64 37 [a0, a1, some (.int x)] [.int x, s1, s0] M 0 0 Z := R_local (gd64 dX5_see_36) rfl rfl rfl
theorem z64_37 : Run d 64 37 [a0, a1, a2] [.int y, .int x, .ref o] M 0 0 Z ↔ gAr M o 0 ∧ gIn x (gLen M o) = true ∧ Run d 64 38 [a0, a1, a2] [] (gsI M o x.toNatClampNeg y) 0 0 Z := R_iast (gd64 dX5_see_37)
theorem z64_38 : Run d 64 38 [some (.ref o), a1, a2] [] M 0 0 Z ↔ Run d 64 39 [some (.ref o), a1, a2] [.ref o] M 0 0 Z := R_local (gd64 dX5_see_38) rfl rfl rfl
theorem z64_39 : Run d 64 39 [a0, a1, a2] [.ref o] M 0 0 Z ↔ Run d 64 40 [a0, a1, a2] [.ref o, .ref o] M 0 0 Z := R_arith (gd64 dX5_see_39) rfl
theorem z64_40 : Run d 64 40 [a0, a1, a2] [.ref o, s0] M 0 0 Z ↔ gObj M o 5 ∧ Run d 64 43 [a0, a1, a2] [.int (M.1 o 2), s0] M 0 0 Z := R_getI (gd64 dX5_see_40) rfl gf_5_18 rfl
theorem z64_43 : Run d 64 43 [some (.ref o), a1, a2] [s1, s0] M 0 0 Z ↔ Run d 64 44 [some (.ref o), a1, a2] [.ref o, s1, s0] M 0 0 Z := R_local (gd64 dX5_see_43) rfl rfl rfl
theorem z64_44 : Run d 64 44 [a0, some (.int x), a2] [s2, s1, s0] M 0 0 Z ↔ Run d 64 45 [a0, some (.int x), a2] [.int x, s2, s1, s0] M 0 0 Z := R_local (gd64 dX5_see_44) rfl rfl rfl
theorem z64_45 : Run d 64 45 [a0, a1, a2] [s3, .ref b, s1, s0] M 0 0 Z ↔ gObj M b 5 ∧ Call d 63 [.ref b, s3] M (fun r M1 => Run d 64 48 [a0, a1, a2] (r.toList ++ [s1, s0]) M1 0 0 Z) := R_callV (gd64 dX5_see_45) rfl rfl rfl rfl rfl rfl gc_5_49 rfl rfl (Nat.le_of_ble_eq_true rfl) (Nat.le_of_ble_eq_true rfl) rfl rfl (Nat.le_of_ble_eq_true rfl) (Nat.le_of_ble_eq_true rfl)
theorem z64_48 : Run d 64 48 [a0, a1, a2] [.int x, s1, s0] M 0 0 Z ↔ (x = 0 → Run d 64 55 [a0, a1, a2] [s1, s0] M 0 0 Z) ∧ (¬ (x = 0) → Run d 64 51 [a0, a1, a2] [s1, s0] M 0 0 Z) := R_if (gd64 dX5_see_48) (show gTgt 48 7 = some 55 by decide) gIf_eq
theorem z64_51 : Run d 64 51 [a0, a1, a2] [s1, s0] M 0 0 Z ↔ Run d 64 52 [a0, a1, a2] [.int 1, s1, s0] M 0 0 Z := R_iconst (gd64 dX5_see_51) (by decide)
theorem z64_52 : Run d 64 52 [a0, a1, a2] [s2, s1, s0] M 0 0 Z ↔ Run d 64 56 [a0, a1, a2] [s2, s1, s0] M 0 0 Z := R_goto (gd64 dX5_see_52) (show gTgt 52 4 = some 56 by decide)
theorem z64_55 : Run d 64 55 [a0, a1, a2] [s1, s0] M 0 0 Z ↔ Run d 64 56 [a0, a1, a2] [.int 0, s1, s0] M 0 0 Z := R_iconst (gd64 dX5_see_55) (by decide)
theorem z64_56 : Run d 64 56 [a0, a1, a2] [.int y, .int x, s0] M 0 0 Z ↔ Run d 64 57 [a0, a1, a2] [.int (x + y), s0] M 0 0 Z := R_arith (gd64 dX5_see_56) rfl
theorem z64_57 : Run d 64 57 [a0, a1, a2] [.int x, .ref o] M 0 0 Z ↔ gObj M o 5 ∧ Run d 64 60 [a0, a1, a2] [] (gsI M o 2 x) 0 0 Z := R_putI (gd64 dX5_see_57) rfl gf_5_18 (Or.inl rfl) rfl
theorem z64_60 : Run d 64 60 [a0, a1, a2] [] M 0 0 Z ↔ Z none M := R_vret (gd64 dX5_see_60) rfl
theorem e64 : Call (d + 1) 64 [s0, s1, s2] M Z ↔ Run d 64 0 [some s0, some s1, some s2] [] M 0 0 Z := Call_iff (Nat.lt_of_lt_of_le (Nat.lt_succ_self 64) (Nat.le_of_ble_eq_true rfl)) (Nat.le_of_ble_eq_true rfl)
/-! 65: X5_paint (LClothSchool$Layers;ILClothSchool$Cloth;)V -/
theorem gd65 {pc : Nat} {r : Except _ _} (h : decode cX5_paint pc = r) : decode (gby 65) pc = r := h
theorem z65_0 : Run d 65 0 [a0, a1, some (.int x), a3, a4, a5, a6] [] M 0 0 Z ↔ Run d 65 1 [a0, a1, some (.int x), a3, a4, a5, a6] [.int x] M 0 0 Z := R_local (gd65 dX5_paint_0) rfl rfl rfl
theorem z65_1 : Run d 65 1 [a0, a1, a2, a3, a4, a5, a6] [.int x] M 0 0 Z ↔ Run d 65 3 [a0, a1, a2, a3, some (.int x), a5, a6] [] M 0 0 Z := R_local (gd65 dX5_paint_1) rfl rfl rfl
theorem z65_3 : Run d 65 3 [a0, a1, a2, a3, some (.int x), a5, a6] [] M 0 0 Z ↔ Run d 65 5 [a0, a1, a2, a3, some (.int x), a5, a6] [.int x] M 0 0 Z := R_local (gd65 dX5_paint_3) rfl rfl rfl
theorem z65_5 : Run d 65 5 [a0, some (.ref o), a2, a3, a4, a5, a6] [s0] M 0 0 Z ↔ Run d 65 6 [a0, some (.ref o), a2, a3, a4, a5, a6] [.ref o, s0] M 0 0 Z := R_local (gd65 dX5_paint_5) rfl rfl rfl
theorem z65_5n : Run d 65 5 [a0, some .null, a2, a3, a4, a5, a6] [s0] M 0 0 Z ↔ Run d 65 6 [a0, some .null, a2, a3, a4, a5, a6] [.null, s0] M 0 0 Z := R_local (gd65 dX5_paint_5) rfl rfl rfl
theorem z65_6 : Run d 65 6 [a0, a1, a2, a3, a4, a5, a6] [.ref o, s0] M 0 0 Z ↔ gObj M o 4 ∧ Run d 65 9 [a0, a1, a2, a3, a4, a5, a6] [.int (M.1 o 8), s0] M 0 0 Z := R_getI (gd65 dX5_paint_6) rfl gf_5_82 rfl
theorem z65_9 : Run d 65 9 [a0, a1, a2, a3, a4, a5, a6] [.int y, .int x] M 0 0 Z ↔ (y ≤ x → Run d 65 128 [a0, a1, a2, a3, a4, a5, a6] [] M 0 0 Z) ∧ (¬ (y ≤ x) → Run d 65 12 [a0, a1, a2, a3, a4, a5, a6] [] M 0 0 Z) := R_icmp (gd65 dX5_paint_9) (show gTgt 9 119 = some 128 by decide) gIf_ge
theorem z65_12 : Run d 65 12 [a0, some (.ref o), a2, a3, a4, a5, a6] [] M 0 0 Z ↔ Run d 65 13 [a0, some (.ref o), a2, a3, a4, a5, a6] [.ref o] M 0 0 Z := R_local (gd65 dX5_paint_12) rfl rfl rfl
theorem z65_12n : Run d 65 12 [a0, some .null, a2, a3, a4, a5, a6] [] M 0 0 Z ↔ Run d 65 13 [a0, some .null, a2, a3, a4, a5, a6] [.null] M 0 0 Z := R_local (gd65 dX5_paint_12) rfl rfl rfl
theorem z65_13 : Run d 65 13 [a0, a1, a2, a3, some (.int x), a5, a6] [s0] M 0 0 Z ↔ Run d 65 15 [a0, a1, a2, a3, some (.int x), a5, a6] [.int x, s0] M 0 0 Z := R_local (gd65 dX5_paint_13) rfl rfl rfl
theorem z65_15 : Run d 65 15 [a0, a1, a2, a3, a4, a5, a6] [s1, .ref b] M 0 0 Z ↔ gObj M b 4 ∧ Call d 49 [.ref b, s1] M (fun r M1 => Run d 65 18 [a0, a1, a2, a3, a4, a5, a6] (r.toList ++ []) M1 0 0 Z) := R_callV (gd65 dX5_paint_15) rfl rfl rfl rfl rfl rfl gc_5_141 rfl rfl (Nat.le_of_ble_eq_true rfl) (Nat.le_of_ble_eq_true rfl) rfl rfl (Nat.le_of_ble_eq_true rfl) (Nat.le_of_ble_eq_true rfl)
theorem z65_18 : Run d 65 18 [a0, a1, a2, a3, a4, a5, a6] [.int x] M 0 0 Z ↔ Run d 65 20 [a0, a1, a2, a3, a4, some (.int x), a6] [] M 0 0 Z := R_local (gd65 dX5_paint_18) rfl rfl rfl
theorem z65_20 : Run d 65 20 [a0, a1, a2, a3, a4, some (.int x), a6] [] M 0 0 Z ↔ Run d 65 22 [a0, a1, a2, a3, a4, some (.int x), a6] [.int x] M 0 0 Z := R_local (gd65 dX5_paint_20) rfl rfl rfl
theorem z65_22 : Run d 65 22 [a0, some (.ref o), a2, a3, a4, a5, a6] [s0] M 0 0 Z ↔ Run d 65 23 [a0, some (.ref o), a2, a3, a4, a5, a6] [.ref o, s0] M 0 0 Z := R_local (gd65 dX5_paint_22) rfl rfl rfl
theorem z65_22n : Run d 65 22 [a0, some .null, a2, a3, a4, a5, a6] [s0] M 0 0 Z ↔ Run d 65 23 [a0, some .null, a2, a3, a4, a5, a6] [.null, s0] M 0 0 Z := R_local (gd65 dX5_paint_22) rfl rfl rfl
theorem z65_23 : Run d 65 23 [a0, a1, a2, a3, some (.int x), a5, a6] [s1, s0] M 0 0 Z ↔ Run d 65 25 [a0, a1, a2, a3, some (.int x), a5, a6] [.int x, s1, s0] M 0 0 Z := R_local (gd65 dX5_paint_23) rfl rfl rfl
theorem z65_25 : Run d 65 25 [a0, a1, a2, a3, a4, a5, a6] [s2, .ref b, s0] M 0 0 Z ↔ gObj M b 4 ∧ Call d 50 [.ref b, s2] M (fun r M1 => Run d 65 28 [a0, a1, a2, a3, a4, a5, a6] (r.toList ++ [s0]) M1 0 0 Z) := R_callV (gd65 dX5_paint_25) rfl rfl rfl rfl rfl rfl gc_5_144 rfl rfl (Nat.le_of_ble_eq_true rfl) (Nat.le_of_ble_eq_true rfl) rfl rfl (Nat.le_of_ble_eq_true rfl) (Nat.le_of_ble_eq_true rfl)
theorem z65_28 : Run d 65 28 [a0, a1, a2, a3, a4, a5, a6] [.int y, .int x] M 0 0 Z ↔ (y ≤ x → Run d 65 122 [a0, a1, a2, a3, a4, a5, a6] [] M 0 0 Z) ∧ (¬ (y ≤ x) → Run d 65 31 [a0, a1, a2, a3, a4, a5, a6] [] M 0 0 Z) := R_icmp (gd65 dX5_paint_28) (show gTgt 28 94 = some 122 by decide) gIf_ge
theorem z65_31 : Run d 65 31 [a0, some (.ref o), a2, a3, a4, a5, a6] [] M 0 0 Z ↔ Run d 65 32 [a0, some (.ref o), a2, a3, a4, a5, a6] [.ref o] M 0 0 Z := R_local (gd65 dX5_paint_31) rfl rfl rfl
theorem z65_31n : Run d 65 31 [a0, some .null, a2, a3, a4, a5, a6] [] M 0 0 Z ↔ Run d 65 32 [a0, some .null, a2, a3, a4, a5, a6] [.null] M 0 0 Z := R_local (gd65 dX5_paint_31) rfl rfl rfl
theorem z65_32 : Run d 65 32 [a0, a1, a2, a3, some (.int x), a5, a6] [s0] M 0 0 Z ↔ Run d 65 34 [a0, a1, a2, a3, some (.int x), a5, a6] [.int x, s0] M 0 0 Z := R_local (gd65 dX5_paint_32) rfl rfl rfl
theorem z65_34 : Run d 65 34 [a0, a1, a2, a3, a4, some (.int x), a6] [s1, s0] M 0 0 Z ↔ Run d 65 36 [a0, a1, a2, a3, a4, some (.int x), a6] [.int x, s1, s0] M 0 0 Z := R_local (gd65 dX5_paint_34) rfl rfl rfl
theorem z65_36 : Run d 65 36 [a0, a1, a2, a3, a4, a5, a6] [s2, s1, .ref b] M 0 0 Z ↔ gObj M b 4 ∧ Call d 51 [.ref b, s1, s2] M (fun r M1 => Run d 65 39 [a0, a1, a2, a3, a4, a5, a6] (r.toList ++ []) M1 0 0 Z) := R_callV (gd65 dX5_paint_36) rfl rfl rfl rfl rfl rfl gc_5_147 rfl rfl (Nat.le_of_ble_eq_true rfl) (Nat.le_of_ble_eq_true rfl) rfl rfl (Nat.le_of_ble_eq_true rfl) (Nat.le_of_ble_eq_true rfl)
theorem z65_39 : Run d 65 39 [a0, a1, a2, a3, a4, a5, a6] [.int x] M 0 0 Z ↔ Run d 65 41 [a0, a1, a2, a3, a4, a5, some (.int x)] [] M 0 0 Z := R_local (gd65 dX5_paint_39) rfl rfl rfl
theorem z65_41 : Run d 65 41 [a0, a1, a2, a3, a4, a5, some (.int x)] [] M 0 0 Z ↔ Run d 65 43 [a0, a1, a2, a3, a4, a5, some (.int x)] [.int x] M 0 0 Z := R_local (gd65 dX5_paint_41) rfl rfl rfl
theorem z65_43 : Run d 65 43 [a0, a1, a2, a3, a4, a5, a6] [s0] M 0 0 Z ↔ Run d 65 45 [a0, a1, a2, a3, a4, a5, a6] [.int 64, s0] M 0 0 Z := R_bipush (gd65 dX5_paint_43) (by decide)
theorem z65_45 : Run d 65 45 [a0, a1, a2, a3, a4, a5, a6] [s1, s0] M 0 0 Z ↔ Call d 110 [s0, s1] M (fun r M1 => Run d 65 48 [a0, a1, a2, a3, a4, a5, a6] (r.toList ++ []) M1 0 0 Z) := R_call (gd65 dX5_paint_45) rfl rfl rfl rfl rfl rfl gc_5_57 rfl (by decide) (Nat.le_of_ble_eq_true rfl) (Nat.le_of_ble_eq_true rfl) rfl rfl rfl (Nat.le_of_ble_eq_true rfl) (Nat.le_of_ble_eq_true rfl)
theorem z65_48 : Run d 65 48 [a0, a1, a2, a3, a4, a5, a6] [.int x] M 0 0 Z ↔ (x = 0 → Run d 65 116 [a0, a1, a2, a3, a4, a5, a6] [] M 0 0 Z) ∧ (¬ (x = 0) → Run d 65 51 [a0, a1, a2, a3, a4, a5, a6] [] M 0 0 Z) := R_if (gd65 dX5_paint_48) (show gTgt 48 68 = some 116 by decide) gIf_eq
theorem z65_51 : Run d 65 51 [some (.ref o), a1, a2, a3, a4, a5, a6] [] M 0 0 Z ↔ Run d 65 52 [some (.ref o), a1, a2, a3, a4, a5, a6] [.ref o] M 0 0 Z := R_local (gd65 dX5_paint_51) rfl rfl rfl
theorem z65_52 : Run d 65 52 [a0, a1, a2, a3, a4, a5, a6] [.ref o] M 0 0 Z ↔ gObj M o 5 ∧ Run d 65 55 [a0, a1, a2, a3, a4, a5, a6] [.int (M.1 o 5)] M 0 0 Z := R_getI (gd65 dX5_paint_52) rfl gf_5_28 rfl
theorem z65_55 : Run d 65 55 [a0, a1, a2, a3, a4, a5, a6] [s0] M 0 0 Z ↔ Run d 65 58 [a0, a1, a2, a3, a4, a5, a6] [.int 128, s0] M 0 0 Z := R_sipush (gd65 dX5_paint_55) (by decide)
theorem z65_58 : Run d 65 58 [a0, a1, a2, a3, a4, a5, a6] [s1, s0] M 0 0 Z ↔ Call d 110 [s0, s1] M (fun r M1 => Run d 65 61 [a0, a1, a2, a3, a4, a5, a6] (r.toList ++ []) M1 0 0 Z) := R_call (gd65 dX5_paint_58) rfl rfl rfl rfl rfl rfl gc_5_57 rfl (by decide) (Nat.le_of_ble_eq_true rfl) (Nat.le_of_ble_eq_true rfl) rfl rfl rfl (Nat.le_of_ble_eq_true rfl) (Nat.le_of_ble_eq_true rfl)
theorem z65_61 : Run d 65 61 [a0, a1, a2, a3, a4, a5, a6] [.int x] M 0 0 Z ↔ (x = 0 → Run d 65 116 [a0, a1, a2, a3, a4, a5, a6] [] M 0 0 Z) ∧ (¬ (x = 0) → Run d 65 64 [a0, a1, a2, a3, a4, a5, a6] [] M 0 0 Z) := R_if (gd65 dX5_paint_61) (show gTgt 61 55 = some 116 by decide) gIf_eq
theorem z65_64 : Run d 65 64 [some (.ref o), a1, a2, a3, a4, a5, a6] [] M 0 0 Z ↔ Run d 65 65 [some (.ref o), a1, a2, a3, a4, a5, a6] [.ref o] M 0 0 Z := R_local (gd65 dX5_paint_64) rfl rfl rfl
theorem z65_65 : Run d 65 65 [a0, a1, a2, a3, a4, a5, a6] [.ref o] M 0 0 Z ↔ gObj M o 5 ∧ Run d 65 68 [a0, a1, a2, a3, a4, a5, a6] [va_rf (M.2.1 o 3)] M 0 0 Z := R_getR (gd65 dX5_paint_65) rfl gf_5_22 rfl
theorem z65_68 : Run d 65 68 [some (.ref o), a1, a2, a3, a4, a5, a6] [s0] M 0 0 Z ↔ Run d 65 69 [some (.ref o), a1, a2, a3, a4, a5, a6] [.ref o, s0] M 0 0 Z := R_local (gd65 dX5_paint_68) rfl rfl rfl
theorem z65_69 : Run d 65 69 [a0, a1, a2, a3, a4, a5, a6] [.ref o, s0] M 0 0 Z ↔ gObj M o 5 ∧ Run d 65 72 [a0, a1, a2, a3, a4, a5, a6] [.int (M.1 o 5), s0] M 0 0 Z := R_getI (gd65 dX5_paint_69) rfl gf_5_28 rfl
theorem z65_72 : Run d 65 72 [a0, a1, a2, a3, a4, a5, some (.int x)] [s1, s0] M 0 0 Z ↔ Run d 65 74 [a0, a1, a2, a3, a4, a5, some (.int x)] [.int x, s1, s0] M 0 0 Z := R_local (gd65 dX5_paint_72) rfl rfl rfl
theorem z65_74 : Run d 65 74 [a0, a1, a2, a3, a4, a5, a6] [.int y, .int x, .ref o] M 0 0 Z ↔ gAr M o 0 ∧ gIn x (gLen M o) = true ∧ Run d 65 75 [a0, a1, a2, a3, a4, a5, a6] [] (gsI M o x.toNatClampNeg y) 0 0 Z := R_iast (gd65 dX5_paint_74)
theorem z65_75 : Run d 65 75 [some (.ref o), a1, a2, a3, a4, a5, a6] [] M 0 0 Z ↔ Run d 65 76 [some (.ref o), a1, a2, a3, a4, a5, a6] [.ref o] M 0 0 Z := R_local (gd65 dX5_paint_75) rfl rfl rfl
theorem z65_76 : Run d 65 76 [a0, a1, a2, a3, a4, a5, a6] [.ref o] M 0 0 Z ↔ gObj M o 5 ∧ Run d 65 79 [a0, a1, a2, a3, a4, a5, a6] [va_rf (M.2.1 o 4)] M 0 0 Z := R_getR (gd65 dX5_paint_76) rfl gf_5_25 rfl
theorem z65_79 : Run d 65 79 [some (.ref o), a1, a2, a3, a4, a5, a6] [s0] M 0 0 Z ↔ Run d 65 80 [some (.ref o), a1, a2, a3, a4, a5, a6] [.ref o, s0] M 0 0 Z := R_local (gd65 dX5_paint_79) rfl rfl rfl
theorem z65_80 : Run d 65 80 [a0, a1, a2, a3, a4, a5, a6] [.ref o, s0] M 0 0 Z ↔ gObj M o 5 ∧ Run d 65 83 [a0, a1, a2, a3, a4, a5, a6] [.int (M.1 o 5), s0] M 0 0 Z := R_getI (gd65 dX5_paint_80) rfl gf_5_28 rfl
theorem z65_83 : Run d 65 83 [some (.ref o), a1, a2, a3, a4, a5, a6] [s1, s0] M 0 0 Z ↔ Run d 65 84 [some (.ref o), a1, a2, a3, a4, a5, a6] [.ref o, s1, s0] M 0 0 Z := R_local (gd65 dX5_paint_83) rfl rfl rfl
theorem z65_84 : Run d 65 84 [a0, a1, a2, a3, a4, a5, a6] [.ref o, s1, s0] M 0 0 Z ↔ gObj M o 5 ∧ Run d 65 87 [a0, a1, a2, a3, a4, a5, a6] [va_rf (M.2.1 o 1), s1, s0] M 0 0 Z := R_getR (gd65 dX5_paint_84) rfl gf_5_15 rfl
theorem z65_87 : Run d 65 87 [a0, a1, a2, a3, a4, a5, some (.int x)] [s2, s1, s0] M 0 0 Z ↔ Run d 65 89 [a0, a1, a2, a3, a4, a5, some (.int x)] [.int x, s2, s1, s0] M 0 0 Z := R_local (gd65 dX5_paint_87) rfl rfl rfl
theorem z65_89 : Run d 65 89 [a0, a1, a2, a3, a4, a5, a6] [.int x, .ref o, s1, s0] M 0 0 Z ↔ gAr M o 0 ∧ gIn x (gLen M o) = true ∧ Run d 65 90 [a0, a1, a2, a3, a4, a5, a6] [.int (M.1 o x.toNatClampNeg), s1, s0] M 0 0 Z := R_iald (gd65 dX5_paint_89)
theorem z65_90 : Run d 65 90 [a0, a1, a2, a3, a4, a5, a6] [.int y, .int x, .ref o] M 0 0 Z ↔ gAr M o 0 ∧ gIn x (gLen M o) = true ∧ Run d 65 91 [a0, a1, a2, a3, a4, a5, a6] [] (gsI M o x.toNatClampNeg y) 0 0 Z := R_iast (gd65 dX5_paint_90)
theorem z65_91 : Run d 65 91 [some (.ref o), a1, a2, a3, a4, a5, a6] [] M 0 0 Z ↔ Run d 65 92 [some (.ref o), a1, a2, a3, a4, a5, a6] [.ref o] M 0 0 Z := R_local (gd65 dX5_paint_91) rfl rfl rfl
theorem z65_92 : Run d 65 92 [a0, a1, a2, a3, a4, a5, a6] [.ref o] M 0 0 Z ↔ Run d 65 93 [a0, a1, a2, a3, a4, a5, a6] [.ref o, .ref o] M 0 0 Z := R_arith (gd65 dX5_paint_92) rfl
theorem z65_93 : Run d 65 93 [a0, a1, a2, a3, a4, a5, a6] [.ref o, s0] M 0 0 Z ↔ gObj M o 5 ∧ Run d 65 96 [a0, a1, a2, a3, a4, a5, a6] [.int (M.1 o 5), s0] M 0 0 Z := R_getI (gd65 dX5_paint_93) rfl gf_5_28 rfl
theorem z65_96 : Run d 65 96 [a0, a1, a2, a3, a4, a5, a6] [s1, s0] M 0 0 Z ↔ Run d 65 97 [a0, a1, a2, a3, a4, a5, a6] [.int 1, s1, s0] M 0 0 Z := R_iconst (gd65 dX5_paint_96) (by decide)
theorem z65_97 : Run d 65 97 [a0, a1, a2, a3, a4, a5, a6] [.int y, .int x, s0] M 0 0 Z ↔ Run d 65 98 [a0, a1, a2, a3, a4, a5, a6] [.int (x + y), s0] M 0 0 Z := R_arith (gd65 dX5_paint_97) rfl
theorem z65_98 : Run d 65 98 [a0, a1, a2, a3, a4, a5, a6] [.int x, .ref o] M 0 0 Z ↔ gObj M o 5 ∧ Run d 65 101 [a0, a1, a2, a3, a4, a5, a6] [] (gsI M o 5 x) 0 0 Z := R_putI (gd65 dX5_paint_98) rfl gf_5_28 (Or.inl rfl) rfl
theorem z65_101 : Run d 65 101 [some (.ref o), a1, a2, a3, a4, a5, a6] [] M 0 0 Z ↔ Run d 65 102 [some (.ref o), a1, a2, a3, a4, a5, a6] [.ref o] M 0 0 Z := R_local (gd65 dX5_paint_101) rfl rfl rfl
theorem z65_102 : Run d 65 102 [a0, a1, a2, a3, a4, a5, some (.int x)] [s0] M 0 0 Z ↔ Run d 65 104 [a0, a1, a2, a3, a4, a5, some (.int x)] [.int x, s0] M 0 0 Z := R_local (gd65 dX5_paint_102) rfl rfl rfl
theorem z65_104 : Run d 65 104 [a0, some (.ref o), a2, a3, a4, a5, a6] [s1, s0] M 0 0 Z ↔ Run d 65 105 [a0, some (.ref o), a2, a3, a4, a5, a6] [.ref o, s1, s0] M 0 0 Z := R_local (gd65 dX5_paint_104) rfl rfl rfl
theorem z65_104n : Run d 65 104 [a0, some .null, a2, a3, a4, a5, a6] [s1, s0] M 0 0 Z ↔ Run d 65 105 [a0, some .null, a2, a3, a4, a5, a6] [.null, s1, s0] M 0 0 Z := R_local (gd65 dX5_paint_104) rfl rfl rfl
theorem z65_105 : Run d 65 105 [a0, a1, a2, a3, some (.int x), a5, a6] [s2, s1, s0] M 0 0 Z ↔ Run d 65 107 [a0, a1, a2, a3, some (.int x), a5, a6] [.int x, s2, s1, s0] M 0 0 Z := R_local (gd65 dX5_paint_105) rfl rfl rfl
theorem z65_107 : Run d 65 107 [a0, a1, a2, a3, a4, some (.int x), a6] [s3, s2, s1, s0] M 0 0 Z ↔ Run d 65 109 [a0, a1, a2, a3, a4, some (.int x), a6] [.int x, s3, s2, s1, s0] M 0 0 Z := R_local (gd65 dX5_paint_107) rfl rfl rfl
theorem z65_109 : Run d 65 109 [a0, a1, a2, some (.ref o), a4, a5, a6] [s4, s3, s2, s1, s0] M 0 0 Z ↔ Run d 65 110 [a0, a1, a2, some (.ref o), a4, a5, a6] [.ref o, s4, s3, s2, s1, s0] M 0 0 Z := R_local (gd65 dX5_paint_109) rfl rfl rfl
theorem z65_109n : Run d 65 109 [a0, a1, a2, some .null, a4, a5, a6] [s4, s3, s2, s1, s0] M 0 0 Z ↔ Run d 65 110 [a0, a1, a2, some .null, a4, a5, a6] [.null, s4, s3, s2, s1, s0] M 0 0 Z := R_local (gd65 dX5_paint_109) rfl rfl rfl
theorem z65_110 : Run d 65 110 [a0, a1, a2, a3, a4, a5, a6] [s5, s4, s3, .ref b, s1, s0] M 0 0 Z ↔ gObj M b 4 ∧ Call d 47 [.ref b, s3, s4, s5] M (fun r M1 => Run d 65 113 [a0, a1, a2, a3, a4, a5, a6] (r.toList ++ [s1, s0]) M1 0 0 Z) := R_callV (gd65 dX5_paint_110) rfl rfl rfl rfl rfl rfl gc_5_150 rfl rfl (Nat.le_of_ble_eq_true rfl) (Nat.le_of_ble_eq_true rfl) rfl rfl (Nat.le_of_ble_eq_true rfl) (Nat.le_of_ble_eq_true rfl)
theorem z65_113 : Run d 65 113 [a0, a1, a2, a3, a4, a5, a6] [s2, s1, .ref b] M 0 0 Z ↔ gObj M b 5 ∧ Call d 64 [.ref b, s1, s2] M (fun r M1 => Run d 65 116 [a0, a1, a2, a3, a4, a5, a6] (r.toList ++ []) M1 0 0 Z) := R_callV (gd65 dX5_paint_113) rfl rfl rfl rfl rfl rfl gc_5_154 rfl rfl (Nat.le_of_ble_eq_true rfl) (Nat.le_of_ble_eq_true rfl) rfl rfl (Nat.le_of_ble_eq_true rfl) (Nat.le_of_ble_eq_true rfl)
theorem z65_116 : Run d 65 116 [a0, a1, a2, a3, a4, some (.int x), a6] [] M 0 0 Z ↔ Run d 65 119 [a0, a1, a2, a3, a4, some (.int (x + 1)), a6] [] M 0 0 Z := R_iinc (gd65 dX5_paint_116) (by decide) rfl rfl
theorem z65_119 : Run d 65 119 [a0, a1, a2, a3, a4, a5, a6] [] M 0 0 Z ↔ Run d 65 20 [a0, a1, a2, a3, a4, a5, a6] [] M 0 0 Z := R_goto (gd65 dX5_paint_119) (show gTgt 119 (-99) = some 20 by decide)
theorem z65_122 : Run d 65 122 [a0, a1, a2, a3, some (.int x), a5, a6] [] M 0 0 Z ↔ Run d 65 125 [a0, a1, a2, a3, some (.int (x + 1)), a5, a6] [] M 0 0 Z := R_iinc (gd65 dX5_paint_122) (by decide) rfl rfl
theorem z65_125 : Run d 65 125 [a0, a1, a2, a3, a4, a5, a6] [] M 0 0 Z ↔ Run d 65 3 [a0, a1, a2, a3, a4, a5, a6] [] M 0 0 Z := R_goto (gd65 dX5_paint_125) (show gTgt 125 (-122) = some 3 by decide)
theorem z65_128 : Run d 65 128 [a0, a1, a2, a3, a4, a5, a6] [] M 0 0 Z ↔ Z none M := R_vret (gd65 dX5_paint_128) rfl
theorem e65 : Call (d + 1) 65 [s0, s1, s2, s3] M Z ↔ Run d 65 0 [some s0, some s1, some s2, some s3, none, none, none] [] M 0 0 Z := Call_iff (Nat.lt_of_lt_of_le (Nat.lt_succ_self 65) (Nat.le_of_ble_eq_true rfl)) (Nat.le_of_ble_eq_true rfl)
/-! 66: X5_unpaint (I)V -/
theorem gd66 {pc : Nat} {r : Except _ _} (h : decode cX5_unpaint pc = r) : decode (gby 66) pc = r := h
theorem z66_0 : Run d 66 0 [some (.ref o), a1, a2] [] M 0 0 Z ↔ Run d 66 1 [some (.ref o), a1, a2] [.ref o] M 0 0 Z := R_local (gd66 dX5_unpaint_0) rfl rfl rfl
theorem z66_1 : Run d 66 1 [a0, a1, a2] [.ref o] M 0 0 Z ↔ gObj M o 5 ∧ Run d 66 4 [a0, a1, a2] [.int (M.1 o 5)] M 0 0 Z := R_getI (gd66 dX5_unpaint_1) rfl gf_5_28 rfl
theorem z66_4 : Run d 66 4 [a0, a1, a2] [s0] M 0 0 Z ↔ Run d 66 5 [a0, a1, a2] [.int 1, s0] M 0 0 Z := R_iconst (gd66 dX5_unpaint_4) (by decide)
theorem z66_5 : Run d 66 5 [a0, a1, a2] [.int y, .int x] M 0 0 Z ↔ Run d 66 6 [a0, a1, a2] [.int (x - y)] M 0 0 Z := R_arith (gd66 dX5_unpaint_5) rfl
theorem z66_6 : Run d 66 6 [a0, a1, a2] [.int x] M 0 0 Z ↔ Run d 66 7 [a0, a1, some (.int x)] [] M 0 0 Z := R_local (gd66 dX5_unpaint_6) rfl rfl rfl
theorem z66_7 : Run d 66 7 [a0, a1, some (.int x)] [] M 0 0 Z ↔ Run d 66 8 [a0, a1, some (.int x)] [.int x] M 0 0 Z := R_local (gd66 dX5_unpaint_7) rfl rfl rfl
theorem z66_8 : Run d 66 8 [a0, some (.int x), a2] [s0] M 0 0 Z ↔ Run d 66 9 [a0, some (.int x), a2] [.int x, s0] M 0 0 Z := R_local (gd66 dX5_unpaint_8) rfl rfl rfl
theorem z66_9 : Run d 66 9 [a0, a1, a2] [.int y, .int x] M 0 0 Z ↔ (x < y → Run d 66 45 [a0, a1, a2] [] M 0 0 Z) ∧ (¬ (x < y) → Run d 66 12 [a0, a1, a2] [] M 0 0 Z) := R_icmp (gd66 dX5_unpaint_9) (show gTgt 9 36 = some 45 by decide) gIf_lt
theorem z66_12 : Run d 66 12 [a0, a1, some (.int x)] [] M 0 0 Z ↔ Run d 66 13 [a0, a1, some (.int x)] [.int x] M 0 0 Z := R_local (gd66 dX5_unpaint_12) rfl rfl rfl
theorem z66_13 : Run d 66 13 [a0, a1, a2] [.int x] M 0 0 Z ↔ (x < 0 → Run d 66 45 [a0, a1, a2] [] M 0 0 Z) ∧ (¬ (x < 0) → Run d 66 16 [a0, a1, a2] [] M 0 0 Z) := R_if (gd66 dX5_unpaint_13) (show gTgt 13 32 = some 45 by decide) gIf_lt
theorem z66_16 : Run d 66 16 [a0, a1, some (.int x)] [] M 0 0 Z ↔ Run d 66 17 [a0, a1, some (.int x)] [.int x] M 0 0 Z := R_local (gd66 dX5_unpaint_16) rfl rfl rfl
theorem z66_17 : Run d 66 17 [a0, a1, a2] [s0] M 0 0 Z ↔ Run d 66 20 [a0, a1, a2] [.int 128, s0] M 0 0 Z := R_sipush (gd66 dX5_unpaint_17) (by decide)
theorem z66_20 : Run d 66 20 [a0, a1, a2] [.int y, .int x] M 0 0 Z ↔ (y ≤ x → Run d 66 39 [a0, a1, a2] [] M 0 0 Z) ∧ (¬ (y ≤ x) → Run d 66 23 [a0, a1, a2] [] M 0 0 Z) := R_icmp (gd66 dX5_unpaint_20) (show gTgt 20 19 = some 39 by decide) gIf_ge
theorem z66_23 : Run d 66 23 [some (.ref o), a1, a2] [] M 0 0 Z ↔ Run d 66 24 [some (.ref o), a1, a2] [.ref o] M 0 0 Z := R_local (gd66 dX5_unpaint_23) rfl rfl rfl
theorem z66_24 : Run d 66 24 [some (.ref o), a1, a2] [s0] M 0 0 Z ↔ Run d 66 25 [some (.ref o), a1, a2] [.ref o, s0] M 0 0 Z := R_local (gd66 dX5_unpaint_24) rfl rfl rfl
theorem z66_25 : Run d 66 25 [a0, a1, a2] [.ref o, s0] M 0 0 Z ↔ gObj M o 5 ∧ Run d 66 28 [a0, a1, a2] [va_rf (M.2.1 o 3), s0] M 0 0 Z := R_getR (gd66 dX5_unpaint_25) rfl gf_5_22 rfl
theorem z66_28 : Run d 66 28 [a0, a1, some (.int x)] [s1, s0] M 0 0 Z ↔ Run d 66 29 [a0, a1, some (.int x)] [.int x, s1, s0] M 0 0 Z := R_local (gd66 dX5_unpaint_28) rfl rfl rfl
theorem z66_29 : Run d 66 29 [a0, a1, a2] [.int x, .ref o, s0] M 0 0 Z ↔ gAr M o 0 ∧ gIn x (gLen M o) = true ∧ Run d 66 30 [a0, a1, a2] [.int (M.1 o x.toNatClampNeg), s0] M 0 0 Z := R_iald (gd66 dX5_unpaint_29)
theorem z66_30 : Run d 66 30 [some (.ref o), a1, a2] [s1, s0] M 0 0 Z ↔ Run d 66 31 [some (.ref o), a1, a2] [.ref o, s1, s0] M 0 0 Z := R_local (gd66 dX5_unpaint_30) rfl rfl rfl
theorem z66_31 : Run d 66 31 [a0, a1, a2] [.ref o, s1, s0] M 0 0 Z ↔ gObj M o 5 ∧ Run d 66 34 [a0, a1, a2] [va_rf (M.2.1 o 4), s1, s0] M 0 0 Z := R_getR (gd66 dX5_unpaint_31) rfl gf_5_25 rfl
theorem z66_34 : Run d 66 34 [a0, a1, some (.int x)] [s2, s1, s0] M 0 0 Z ↔ Run d 66 35 [a0, a1, some (.int x)] [.int x, s2, s1, s0] M 0 0 Z := R_local (gd66 dX5_unpaint_34) rfl rfl rfl
theorem z66_35 : Run d 66 35 [a0, a1, a2] [.int x, .ref o, s1, s0] M 0 0 Z ↔ gAr M o 0 ∧ gIn x (gLen M o) = true ∧ Run d 66 36 [a0, a1, a2] [.int (M.1 o x.toNatClampNeg), s1, s0] M 0 0 Z := R_iald (gd66 dX5_unpaint_35)
theorem z66_36 : Run d 66 36 [a0, a1, a2] [s2, s1, .ref b] M 0 0 Z ↔ gObj M b 5 ∧ Call d 64 [.ref b, s1, s2] M (fun r M1 => Run d 66 39 [a0, a1, a2] (r.toList ++ []) M1 0 0 Z) := R_callV (gd66 dX5_unpaint_36) rfl rfl rfl rfl rfl rfl gc_5_154 rfl rfl (Nat.le_of_ble_eq_true rfl) (Nat.le_of_ble_eq_true rfl) rfl rfl (Nat.le_of_ble_eq_true rfl) (Nat.le_of_ble_eq_true rfl)
theorem z66_39 : Run d 66 39 [a0, a1, some (.int x)] [] M 0 0 Z ↔ Run d 66 42 [a0, a1, some (.int (x + (-1)))] [] M 0 0 Z := R_iinc (gd66 dX5_unpaint_39) (by decide) rfl rfl
theorem z66_42 : Run d 66 42 [a0, a1, a2] [] M 0 0 Z ↔ Run d 66 7 [a0, a1, a2] [] M 0 0 Z := R_goto (gd66 dX5_unpaint_42) (show gTgt 42 (-35) = some 7 by decide)
theorem z66_45 : Run d 66 45 [some (.ref o), a1, a2] [] M 0 0 Z ↔ Run d 66 46 [some (.ref o), a1, a2] [.ref o] M 0 0 Z := R_local (gd66 dX5_unpaint_45) rfl rfl rfl
theorem z66_46 : Run d 66 46 [a0, some (.int x), a2] [s0] M 0 0 Z ↔ Run d 66 47 [a0, some (.int x), a2] [.int x, s0] M 0 0 Z := R_local (gd66 dX5_unpaint_46) rfl rfl rfl
theorem z66_47 : Run d 66 47 [a0, a1, a2] [.int x, .ref o] M 0 0 Z ↔ gObj M o 5 ∧ Run d 66 50 [a0, a1, a2] [] (gsI M o 5 x) 0 0 Z := R_putI (gd66 dX5_unpaint_47) rfl gf_5_28 (Or.inl rfl) rfl
theorem z66_50 : Run d 66 50 [a0, a1, a2] [] M 0 0 Z ↔ Z none M := R_vret (gd66 dX5_unpaint_50) rfl
theorem e66 : Call (d + 1) 66 [s0, s1] M Z ↔ Run d 66 0 [some s0, some s1, none] [] M 0 0 Z := Call_iff (Nat.lt_of_lt_of_le (Nat.lt_succ_self 66) (Nat.le_of_ble_eq_true rfl)) (Nat.le_of_ble_eq_true rfl)
/-! 67: X6_init ()V -/
theorem gd67 {pc : Nat} {r : Except _ _} (h : decode cX6_init pc = r) : decode (gby 67) pc = r := h
theorem z67_0 : Run d 67 0 [some (.ref o)] [] M 0 0 Z ↔ Run d 67 1 [some (.ref o)] [.ref o] M 0 0 Z := R_local (gd67 dX6_init_0) rfl rfl rfl
theorem z67_1 : Run d 67 1 [a0] [.ref o] M 0 0 Z ↔ Run d 67 4 [a0] [] M 0 0 Z := R_prim (gd67 dX6_init_1) rfl rfl rfl rfl rfl rfl gc_6_3 rfl (by decide) rfl (Nat.le_of_ble_eq_true rfl)
theorem z67_4 : Run d 67 4 [some (.ref o)] [] M 0 0 Z ↔ Run d 67 5 [some (.ref o)] [.ref o] M 0 0 Z := R_local (gd67 dX6_init_4) rfl rfl rfl
theorem z67_5 : Run d 67 5 [a0] [s0] M 0 0 Z ↔ Run d 67 7 [a0] [.int 120, s0] M 0 0 Z := R_bipush (gd67 dX6_init_5) (by decide)
theorem z67_7 : Run d 67 7 [a0] [.int 120, s0] M 0 0 Z ↔ Run d 67 9 [a0] [.ref M.2.2.length, s0] (gNew M (.inr (0, 120))) 1 120 Z := R_newa2 (gd67 dX6_init_7) (t := 0) (by decide) (n := 120) (by decide) (by decide)
theorem z67_9 : Run d 67 9 [a0] [v, .ref o] M 1 120 Z ↔ gObj M o 6 ∧ gisRef v = true ∧ Run d 67 12 [a0] [] (gsR M o 0 (gU v)) 1 120 Z := R_putR (gd67 dX6_init_9) rfl gf_6_9 (Or.inr ⟨rfl, rfl⟩) rfl
theorem z67_12 : Run d 67 12 [some (.ref o)] [] M 1 120 Z ↔ Run d 67 13 [some (.ref o)] [.ref o] M 1 120 Z := R_local (gd67 dX6_init_12) rfl rfl rfl
theorem z67_13 : Run d 67 13 [a0] [s0] M 1 120 Z ↔ Run d 67 14 [a0] [.int 0, s0] M 1 120 Z := R_iconst (gd67 dX6_init_13) (by decide)
theorem z67_14 : Run d 67 14 [a0] [.int x, .ref o] M 1 120 Z ↔ gObj M o 6 ∧ Run d 67 17 [a0] [] (gsI M o 1 x) 1 120 Z := R_putI (gd67 dX6_init_14) rfl gf_6_15 (Or.inl rfl) rfl
theorem z67_17 : Run d 67 17 [some (.ref o)] [] M 1 120 Z ↔ Run d 67 18 [some (.ref o)] [.ref o] M 1 120 Z := R_local (gd67 dX6_init_17) rfl rfl rfl
theorem z67_18 : Run d 67 18 [a0] [s0] M 1 120 Z ↔ Run d 67 19 [a0] [.int 0, s0] M 1 120 Z := R_iconst (gd67 dX6_init_18) (by decide)
theorem z67_19 : Run d 67 19 [a0] [.int x, .ref o] M 1 120 Z ↔ gObj M o 6 ∧ Run d 67 22 [a0] [] (gsI M o 2 x) 1 120 Z := R_putI (gd67 dX6_init_19) rfl gf_6_19 (Or.inl rfl) rfl
theorem z67_22 : Run d 67 22 [some (.ref o)] [] M 1 120 Z ↔ Run d 67 23 [some (.ref o)] [.ref o] M 1 120 Z := R_local (gd67 dX6_init_22) rfl rfl rfl
theorem z67_23 : Run d 67 23 [a0] [s0] M 1 120 Z ↔ Run d 67 26 [a0] [.int 248, s0] M 1 120 Z := R_sipush (gd67 dX6_init_23) (by decide)
theorem z67_26 : Run d 67 26 [a0] [.int 248, s0] M 1 120 Z ↔ Run d 67 28 [a0] [.ref M.2.2.length, s0] (gNew M (.inr (0, 248))) 2 368 Z := R_newa2 (gd67 dX6_init_26) (t := 0) (by decide) (n := 248) (by decide) (by decide)
theorem z67_28 : Run d 67 28 [a0] [v, .ref o] M 2 368 Z ↔ gObj M o 6 ∧ gisRef v = true ∧ Run d 67 31 [a0] [] (gsR M o 3 (gU v)) 2 368 Z := R_putR (gd67 dX6_init_28) rfl gf_6_22 (Or.inr ⟨rfl, rfl⟩) rfl
theorem z67_31 : Run d 67 31 [some (.ref o)] [] M 2 368 Z ↔ Run d 67 32 [some (.ref o)] [.ref o] M 2 368 Z := R_local (gd67 dX6_init_31) rfl rfl rfl
theorem z67_32 : Run d 67 32 [a0] [s0] M 2 368 Z ↔ Run d 67 33 [a0] [.int 0, s0] M 2 368 Z := R_iconst (gd67 dX6_init_32) (by decide)
theorem z67_33 : Run d 67 33 [a0] [.int x, .ref o] M 2 368 Z ↔ gObj M o 6 ∧ Run d 67 36 [a0] [] (gsI M o 4 x) 2 368 Z := R_putI (gd67 dX6_init_33) rfl gf_6_25 (Or.inl rfl) rfl
theorem z67_36 : Run d 67 36 [some (.ref o)] [] M 2 368 Z ↔ Run d 67 37 [some (.ref o)] [.ref o] M 2 368 Z := R_local (gd67 dX6_init_36) rfl rfl rfl
theorem z67_37 : Run d 67 37 [a0] [s0] M 2 368 Z ↔ Run d 67 38 [a0] [.int 0, s0] M 2 368 Z := R_iconst (gd67 dX6_init_37) (by decide)
theorem z67_38 : Run d 67 38 [a0] [.int x, .ref o] M 2 368 Z ↔ gObj M o 6 ∧ Run d 67 41 [a0] [] (gsI M o 5 x) 2 368 Z := R_putI (gd67 dX6_init_38) rfl gf_6_28 (Or.inl rfl) rfl
theorem z67_41 : Run d 67 41 [some (.ref o)] [] M 2 368 Z ↔ Run d 67 42 [some (.ref o)] [.ref o] M 2 368 Z := R_local (gd67 dX6_init_41) rfl rfl rfl
theorem z67_42 : Run d 67 42 [a0] [s0] M 2 368 Z ↔ Run d 67 43 [a0] [.int 0, s0] M 2 368 Z := R_iconst (gd67 dX6_init_42) (by decide)
theorem z67_43 : Run d 67 43 [a0] [.int x, .ref o] M 2 368 Z ↔ gObj M o 6 ∧ Run d 67 46 [a0] [] (gsI M o 6 x) 2 368 Z := R_putI (gd67 dX6_init_43) rfl gf_6_31 (Or.inl rfl) rfl
theorem z67_46 : Run d 67 46 [some (.ref o)] [] M 2 368 Z ↔ Run d 67 47 [some (.ref o)] [.ref o] M 2 368 Z := R_local (gd67 dX6_init_46) rfl rfl rfl
theorem z67_47 : Run d 67 47 [a0] [s0] M 2 368 Z ↔ Run d 67 48 [a0] [.int 0, s0] M 2 368 Z := R_iconst (gd67 dX6_init_47) (by decide)
theorem z67_48 : Run d 67 48 [a0] [.int x, .ref o] M 2 368 Z ↔ gObj M o 6 ∧ Run d 67 51 [a0] [] (gsI M o 7 x) 2 368 Z := R_putI (gd67 dX6_init_48) rfl gf_6_34 (Or.inl rfl) rfl
theorem z67_51 : Run d 67 51 [a0] [] M 2 368 Z ↔ Z none M := R_vret (gd67 dX6_init_51) rfl
theorem e67 : Call (d + 1) 67 [s0] M Z ↔ Run d 67 0 [some s0] [] M 0 0 Z := Call_iff (Nat.lt_of_lt_of_le (Nat.lt_succ_self 67) (Nat.le_of_ble_eq_true rfl)) (Nat.le_of_ble_eq_true rfl)
/-! 68: X6_write ([II)LClothSchool$Style; -/
theorem gd68 {pc : Nat} {r : Except _ _} (h : decode cX6_write pc = r) : decode (gby 68) pc = r := h
theorem z68_0 : Run d 68 0 [some (.ref o), a1, a2] [] M 0 0 Z ↔ Run d 68 1 [some (.ref o), a1, a2] [.ref o] M 0 0 Z := R_local (gd68 dX6_write_0) rfl rfl rfl
theorem z68_1 : Run d 68 1 [a0, a1, a2] [s0] M 0 0 Z ↔ Run d 68 2 [a0, a1, a2] [.int 0, s0] M 0 0 Z := R_iconst (gd68 dX6_write_1) (by decide)
theorem z68_2 : Run d 68 2 [a0, a1, some (.int x)] [s1, s0] M 0 0 Z ↔ Run d 68 3 [a0, a1, some (.int x)] [.int x, s1, s0] M 0 0 Z := R_local (gd68 dX6_write_2) rfl rfl rfl
theorem z68_3 : Run d 68 3 [a0, some (.ref o), a2] [s2, s1, s0] M 0 0 Z ↔ Run d 68 4 [a0, some (.ref o), a2] [.ref o, s2, s1, s0] M 0 0 Z := R_local (gd68 dX6_write_3) rfl rfl rfl
theorem z68_3n : Run d 68 3 [a0, some .null, a2] [s2, s1, s0] M 0 0 Z ↔ Run d 68 4 [a0, some .null, a2] [.null, s2, s1, s0] M 0 0 Z := R_local (gd68 dX6_write_3) rfl rfl rfl
theorem z68_4 : Run d 68 4 [a0, a1, a2] [.ref o, s2, s1, s0] M 0 0 Z ↔ (gTy M o).isSome = true ∧ Run d 68 5 [a0, a1, a2] [.int (nI (gLen M o)), s2, s1, s0] M 0 0 Z := R_alen (gd68 dX6_write_4)
theorem z68_5 : Run d 68 5 [some (.ref o), a1, a2] [s3, s2, s1, s0] M 0 0 Z ↔ Run d 68 6 [some (.ref o), a1, a2] [.ref o, s3, s2, s1, s0] M 0 0 Z := R_local (gd68 dX6_write_5) rfl rfl rfl
theorem z68_6 : Run d 68 6 [a0, a1, a2] [.ref o, s3, s2, s1, s0] M 0 0 Z ↔ gObj M o 6 ∧ Run d 68 9 [a0, a1, a2] [va_rf (M.2.1 o 0), s3, s2, s1, s0] M 0 0 Z := R_getR (gd68 dX6_write_6) rfl gf_6_9 rfl
theorem z68_9 : Run d 68 9 [a0, a1, a2] [.ref o, s3, s2, s1, s0] M 0 0 Z ↔ (gTy M o).isSome = true ∧ Run d 68 10 [a0, a1, a2] [.int (nI (gLen M o)), s3, s2, s1, s0] M 0 0 Z := R_alen (gd68 dX6_write_9)
theorem z68_10 : Run d 68 10 [a0, a1, a2] [.int y, .int x, s2, s1, s0] M 0 0 Z ↔ Run d 68 13 [a0, a1, a2] [.int (if y < x then y else x), s2, s1, s0] M 0 0 Z := R_prim (gd68 dX6_write_10) rfl rfl rfl rfl rfl rfl gc_6_37 rfl (by decide) rfl (Nat.le_of_ble_eq_true rfl)
theorem z68_13 : Run d 68 13 [a0, a1, a2] [.int y, .int x, s1, s0] M 0 0 Z ↔ Run d 68 16 [a0, a1, a2] [.int (if y < x then y else x), s1, s0] M 0 0 Z := R_prim (gd68 dX6_write_13) rfl rfl rfl rfl rfl rfl gc_6_37 rfl (by decide) rfl (Nat.le_of_ble_eq_true rfl)
theorem z68_16 : Run d 68 16 [a0, a1, a2] [.int y, .int x, s0] M 0 0 Z ↔ Run d 68 19 [a0, a1, a2] [.int (if x < y then y else x), s0] M 0 0 Z := R_prim (gd68 dX6_write_16) rfl rfl rfl rfl rfl rfl gc_6_43 rfl (by decide) rfl (Nat.le_of_ble_eq_true rfl)
theorem z68_19 : Run d 68 19 [a0, a1, a2] [.int x, .ref o] M 0 0 Z ↔ gObj M o 6 ∧ Run d 68 22 [a0, a1, a2] [] (gsI M o 1 x) 0 0 Z := R_putI (gd68 dX6_write_19) rfl gf_6_15 (Or.inl rfl) rfl
theorem z68_22 : Run d 68 22 [a0, some (.ref o), a2] [] M 0 0 Z ↔ Run d 68 23 [a0, some (.ref o), a2] [.ref o] M 0 0 Z := R_local (gd68 dX6_write_22) rfl rfl rfl
theorem z68_22n : Run d 68 22 [a0, some .null, a2] [] M 0 0 Z ↔ Run d 68 23 [a0, some .null, a2] [.null] M 0 0 Z := R_local (gd68 dX6_write_22) rfl rfl rfl
theorem z68_23 : Run d 68 23 [a0, a1, a2] [s0] M 0 0 Z ↔ Run d 68 24 [a0, a1, a2] [.int 0, s0] M 0 0 Z := R_iconst (gd68 dX6_write_23) (by decide)
theorem z68_24 : Run d 68 24 [some (.ref o), a1, a2] [s1, s0] M 0 0 Z ↔ Run d 68 25 [some (.ref o), a1, a2] [.ref o, s1, s0] M 0 0 Z := R_local (gd68 dX6_write_24) rfl rfl rfl
theorem z68_25 : Run d 68 25 [a0, a1, a2] [.ref o, s1, s0] M 0 0 Z ↔ gObj M o 6 ∧ Run d 68 28 [a0, a1, a2] [va_rf (M.2.1 o 0), s1, s0] M 0 0 Z := R_getR (gd68 dX6_write_25) rfl gf_6_9 rfl
theorem z68_28 : Run d 68 28 [a0, a1, a2] [s2, s1, s0] M 0 0 Z ↔ Run d 68 29 [a0, a1, a2] [.int 0, s2, s1, s0] M 0 0 Z := R_iconst (gd68 dX6_write_28) (by decide)
theorem z68_29 : Run d 68 29 [some (.ref o), a1, a2] [s3, s2, s1, s0] M 0 0 Z ↔ Run d 68 30 [some (.ref o), a1, a2] [.ref o, s3, s2, s1, s0] M 0 0 Z := R_local (gd68 dX6_write_29) rfl rfl rfl
theorem z68_30 : Run d 68 30 [a0, a1, a2] [.ref o, s3, s2, s1, s0] M 0 0 Z ↔ gObj M o 6 ∧ Run d 68 33 [a0, a1, a2] [.int (M.1 o 1), s3, s2, s1, s0] M 0 0 Z := R_getI (gd68 dX6_write_30) rfl gf_6_15 rfl
theorem z68_33 (hc : gTy M o = some 0 ∧ gTy M b = some 0 ∧ o ≠ b ∧ ¬ x < 0 ∧ ¬ y < 0 ∧ ¬ w < 0 ∧ x.toNatClampNeg + w.toNatClampNeg ≤ gLen M o ∧ y.toNatClampNeg + w.toNatClampNeg ≤ gLen M b) : Run d 68 33 [a0, a1, a2] [.int w, .int y, .ref b, .int x, .ref o] M 0 0 Z ↔ Run d 68 36 [a0, a1, a2] [] (gCp M o x.toNatClampNeg b y.toNatClampNeg w.toNatClampNeg) 0 0 Z := R_prim (gd68 dX6_write_33) rfl rfl rfl rfl rfl rfl gc_6_46 rfl (by decide) (by simp only [gPrim]; exact if_pos hc) (Nat.le_of_ble_eq_true rfl)
theorem z68_36 : Run d 68 36 [some (.ref o), a1, a2] [] M 0 0 Z ↔ Run d 68 37 [some (.ref o), a1, a2] [.ref o] M 0 0 Z := R_local (gd68 dX6_write_36) rfl rfl rfl
theorem z68_37 : Run d 68 37 [a0, a1, a2] [s0] M 0 0 Z ↔ Run d 68 38 [a0, a1, a2] [.int 0, s0] M 0 0 Z := R_iconst (gd68 dX6_write_37) (by decide)
theorem z68_38 : Run d 68 38 [a0, a1, a2] [.int x, .ref o] M 0 0 Z ↔ gObj M o 6 ∧ Run d 68 41 [a0, a1, a2] [] (gsI M o 2 x) 0 0 Z := R_putI (gd68 dX6_write_38) rfl gf_6_19 (Or.inl rfl) rfl
theorem z68_41 : Run d 68 41 [some (.ref o), a1, a2] [] M 0 0 Z ↔ Run d 68 42 [some (.ref o), a1, a2] [.ref o] M 0 0 Z := R_local (gd68 dX6_write_41) rfl rfl rfl
theorem z68_42 : Run d 68 42 [a0, a1, a2] [s0] M 0 0 Z ↔ Run d 68 43 [a0, a1, a2] [.int 0, s0] M 0 0 Z := R_iconst (gd68 dX6_write_42) (by decide)
theorem z68_43 : Run d 68 43 [a0, a1, a2] [.int x, .ref o] M 0 0 Z ↔ gObj M o 6 ∧ Run d 68 46 [a0, a1, a2] [] (gsI M o 4 x) 0 0 Z := R_putI (gd68 dX6_write_43) rfl gf_6_25 (Or.inl rfl) rfl
theorem z68_46 : Run d 68 46 [some (.ref o), a1, a2] [] M 0 0 Z ↔ Run d 68 47 [some (.ref o), a1, a2] [.ref o] M 0 0 Z := R_local (gd68 dX6_write_46) rfl rfl rfl
theorem z68_47 : Run d 68 47 [a0, a1, a2] [s0] M 0 0 Z ↔ Run d 68 48 [a0, a1, a2] [.int 0, s0] M 0 0 Z := R_iconst (gd68 dX6_write_47) (by decide)
theorem z68_48 : Run d 68 48 [a0, a1, a2] [.int x, .ref o] M 0 0 Z ↔ gObj M o 6 ∧ Run d 68 51 [a0, a1, a2] [] (gsI M o 5 x) 0 0 Z := R_putI (gd68 dX6_write_48) rfl gf_6_28 (Or.inl rfl) rfl
theorem z68_51 : Run d 68 51 [some (.ref o), a1, a2] [] M 0 0 Z ↔ Run d 68 52 [some (.ref o), a1, a2] [.ref o] M 0 0 Z := R_local (gd68 dX6_write_51) rfl rfl rfl
theorem z68_52 : Run d 68 52 [a0, a1, a2] [s0] M 0 0 Z ↔ Run d 68 53 [a0, a1, a2] [.int 0, s0] M 0 0 Z := R_iconst (gd68 dX6_write_52) (by decide)
theorem z68_53 : Run d 68 53 [a0, a1, a2] [.int x, .ref o] M 0 0 Z ↔ gObj M o 6 ∧ Run d 68 56 [a0, a1, a2] [] (gsI M o 6 x) 0 0 Z := R_putI (gd68 dX6_write_53) rfl gf_6_31 (Or.inl rfl) rfl
theorem z68_56 : Run d 68 56 [some (.ref o), a1, a2] [] M 0 0 Z ↔ Run d 68 57 [some (.ref o), a1, a2] [.ref o] M 0 0 Z := R_local (gd68 dX6_write_56) rfl rfl rfl
theorem z68_57 : Run d 68 57 [a0, a1, a2] [s0] M 0 0 Z ↔ Run d 68 58 [a0, a1, a2] [.int 0, s0] M 0 0 Z := R_iconst (gd68 dX6_write_57) (by decide)
theorem z68_58 : Run d 68 58 [a0, a1, a2] [.int x, .ref o] M 0 0 Z ↔ gObj M o 6 ∧ Run d 68 61 [a0, a1, a2] [] (gsI M o 7 x) 0 0 Z := R_putI (gd68 dX6_write_58) rfl gf_6_34 (Or.inl rfl) rfl
theorem z68_61 : Run d 68 61 [some (.ref o), a1, a2] [] M 0 0 Z ↔ Run d 68 62 [some (.ref o), a1, a2] [.ref o] M 0 0 Z := R_local (gd68 dX6_write_61) rfl rfl rfl
theorem z68_62 : Run d 68 62 [a0, a1, a2] [s0] M 0 0 Z ↔ Run d 68 63 [a0, a1, a2] [.int 0, s0] M 0 0 Z := R_iconst (gd68 dX6_write_62) (by decide)
theorem z68_63 : Run d 68 63 [a0, a1, a2] [s1, .ref b] M 0 0 Z ↔ gObj M b 6 ∧ Call d 73 [.ref b, s1] M (fun r M1 => Run d 68 66 [a0, a1, a2] (r.toList ++ []) M1 0 0 Z) := R_callV (gd68 dX6_write_63) rfl rfl rfl rfl rfl rfl gc_6_52 rfl rfl (Nat.le_of_ble_eq_true rfl) (Nat.le_of_ble_eq_true rfl) rfl rfl (Nat.le_of_ble_eq_true rfl) (Nat.le_of_ble_eq_true rfl)
theorem z68_66 : Run d 68 66 [some (.ref o), a1, a2] [] M 0 0 Z ↔ Run d 68 67 [some (.ref o), a1, a2] [.ref o] M 0 0 Z := R_local (gd68 dX6_write_66) rfl rfl rfl
theorem z68_67 : Run d 68 67 [a0, a1, a2] [.ref o] M 0 0 Z ↔ gObj M o 6 ∧ Run d 68 70 [a0, a1, a2] [.int (M.1 o 6)] M 0 0 Z := R_getI (gd68 dX6_write_67) rfl gf_6_31 rfl
theorem z68_70 : Run d 68 70 [a0, a1, a2] [.int x] M 0 0 Z ↔ (¬ x = 0 → Run d 68 89 [a0, a1, a2] [] M 0 0 Z) ∧ (¬ (¬ x = 0) → Run d 68 73 [a0, a1, a2] [] M 0 0 Z) := R_if (gd68 dX6_write_70) (show gTgt 70 19 = some 89 by decide) gIf_ne
theorem z68_73 : Run d 68 73 [some (.ref o), a1, a2] [] M 0 0 Z ↔ Run d 68 74 [some (.ref o), a1, a2] [.ref o] M 0 0 Z := R_local (gd68 dX6_write_73) rfl rfl rfl
theorem z68_74 : Run d 68 74 [a0, a1, a2] [.ref o] M 0 0 Z ↔ gObj M o 6 ∧ Run d 68 77 [a0, a1, a2] [.int (M.1 o 2)] M 0 0 Z := R_getI (gd68 dX6_write_74) rfl gf_6_19 rfl
theorem z68_77 : Run d 68 77 [some (.ref o), a1, a2] [s0] M 0 0 Z ↔ Run d 68 78 [some (.ref o), a1, a2] [.ref o, s0] M 0 0 Z := R_local (gd68 dX6_write_77) rfl rfl rfl
theorem z68_78 : Run d 68 78 [a0, a1, a2] [.ref o, s0] M 0 0 Z ↔ gObj M o 6 ∧ Run d 68 81 [a0, a1, a2] [.int (M.1 o 1), s0] M 0 0 Z := R_getI (gd68 dX6_write_78) rfl gf_6_15 rfl
theorem z68_81 : Run d 68 81 [a0, a1, a2] [.int y, .int x] M 0 0 Z ↔ (y ≤ x → Run d 68 89 [a0, a1, a2] [] M 0 0 Z) ∧ (¬ (y ≤ x) → Run d 68 84 [a0, a1, a2] [] M 0 0 Z) := R_icmp (gd68 dX6_write_81) (show gTgt 81 8 = some 89 by decide) gIf_ge
theorem z68_84 : Run d 68 84 [some (.ref o), a1, a2] [] M 0 0 Z ↔ Run d 68 85 [some (.ref o), a1, a2] [.ref o] M 0 0 Z := R_local (gd68 dX6_write_84) rfl rfl rfl
theorem z68_85 : Run d 68 85 [a0, a1, a2] [s0] M 0 0 Z ↔ Run d 68 86 [a0, a1, a2] [.int 1, s0] M 0 0 Z := R_iconst (gd68 dX6_write_85) (by decide)
theorem z68_86 : Run d 68 86 [a0, a1, a2] [s1, .ref b] M 0 0 Z ↔ gObj M b 6 ∧ Call d 70 [.ref b, s1] M (fun r M1 => Run d 68 89 [a0, a1, a2] (r.toList ++ []) M1 0 0 Z) := R_callV (gd68 dX6_write_86) rfl rfl rfl rfl rfl rfl gc_6_56 rfl rfl (Nat.le_of_ble_eq_true rfl) (Nat.le_of_ble_eq_true rfl) rfl rfl (Nat.le_of_ble_eq_true rfl) (Nat.le_of_ble_eq_true rfl)
theorem z68_89 : Run d 68 89 [some (.ref o), a1, a2] [] M 0 0 Z ↔ Run d 68 90 [some (.ref o), a1, a2] [.ref o] M 0 0 Z := R_local (gd68 dX6_write_89) rfl rfl rfl
theorem z68_90 : Run d 68 90 [a0, a1, a2] [.ref o] M 0 0 Z ↔ gObj M o 6 ∧ Run d 68 93 [a0, a1, a2] [.int (M.1 o 6)] M 0 0 Z := R_getI (gd68 dX6_write_90) rfl gf_6_31 rfl
theorem z68_93 : Run d 68 93 [a0, a1, a2] [.int x] M 0 0 Z ↔ (¬ x = 0 → Run d 68 115 [a0, a1, a2] [] M 0 0 Z) ∧ (¬ (¬ x = 0) → Run d 68 96 [a0, a1, a2] [] M 0 0 Z) := R_if (gd68 dX6_write_93) (show gTgt 93 22 = some 115 by decide) gIf_ne
theorem z68_96 : Run d 68 96 [some (.ref o), a1, a2] [] M 0 0 Z ↔ Run d 68 97 [some (.ref o), a1, a2] [.ref o] M 0 0 Z := R_local (gd68 dX6_write_96) rfl rfl rfl
theorem z68_97 : Run d 68 97 [a0, a1, a2] [.ref o] M 0 0 Z ↔ gObj M o 6 ∧ Run d 68 100 [a0, a1, a2] [.int (M.1 o 4)] M 0 0 Z := R_getI (gd68 dX6_write_97) rfl gf_6_25 rfl
theorem z68_100 : Run d 68 100 [a0, a1, a2] [.int x] M 0 0 Z ↔ (x < 0 → Run d 68 115 [a0, a1, a2] [] M 0 0 Z) ∧ (¬ (x < 0) → Run d 68 103 [a0, a1, a2] [] M 0 0 Z) := R_if (gd68 dX6_write_100) (show gTgt 100 15 = some 115 by decide) gIf_lt
theorem z68_103 : Run d 68 103 [some (.ref o), a1, a2] [] M 0 0 Z ↔ Run d 68 104 [some (.ref o), a1, a2] [.ref o] M 0 0 Z := R_local (gd68 dX6_write_103) rfl rfl rfl
theorem z68_104 : Run d 68 104 [a0, a1, a2] [.ref o] M 0 0 Z ↔ gObj M o 6 ∧ Run d 68 107 [a0, a1, a2] [.int (M.1 o 4)] M 0 0 Z := R_getI (gd68 dX6_write_104) rfl gf_6_25 rfl
theorem z68_107 : Run d 68 107 [some (.ref o), a1, a2] [s0] M 0 0 Z ↔ Run d 68 108 [some (.ref o), a1, a2] [.ref o, s0] M 0 0 Z := R_local (gd68 dX6_write_107) rfl rfl rfl
theorem z68_108 : Run d 68 108 [a0, a1, a2] [.ref o, s0] M 0 0 Z ↔ gObj M o 6 ∧ Run d 68 111 [a0, a1, a2] [va_rf (M.2.1 o 3), s0] M 0 0 Z := R_getR (gd68 dX6_write_108) rfl gf_6_22 rfl
theorem z68_111 : Run d 68 111 [a0, a1, a2] [.ref o, s0] M 0 0 Z ↔ (gTy M o).isSome = true ∧ Run d 68 112 [a0, a1, a2] [.int (nI (gLen M o)), s0] M 0 0 Z := R_alen (gd68 dX6_write_111)
theorem z68_112 : Run d 68 112 [a0, a1, a2] [.int y, .int x] M 0 0 Z ↔ (x ≤ y → Run d 68 117 [a0, a1, a2] [] M 0 0 Z) ∧ (¬ (x ≤ y) → Run d 68 115 [a0, a1, a2] [] M 0 0 Z) := R_icmp (gd68 dX6_write_112) (show gTgt 112 5 = some 117 by decide) gIf_le
theorem z68_115 : Run d 68 115 [a0, a1, a2] [] M 0 0 Z ↔ Run d 68 116 [a0, a1, a2] [.null] M 0 0 Z := R_arith (gd68 dX6_write_115) rfl
theorem z68_116 : Run d 68 116 [a0, a1, a2] [v] M 0 0 Z ↔ gisRef v = true ∧ Z (some v) M := R_aret (gd68 dX6_write_116) rfl
theorem z68_117 : Run d 68 117 [a0, a1, a2] [] M 0 0 Z ↔ Run d 68 120 [a0, a1, a2] [.ref M.2.2.length] (gNew M (.inl 7)) 1 2 Z := R_new2 (gd68 dX6_write_117) rfl (ci := 7) rfl rfl (by decide)
theorem z68_120 : Run d 68 120 [a0, a1, a2] [.ref o] M 1 2 Z ↔ Run d 68 121 [a0, a1, a2] [.ref o, .ref o] M 1 2 Z := R_arith (gd68 dX6_write_120) rfl
theorem z68_121 : Run d 68 121 [some (.ref o), a1, a2] [s1, s0] M 1 2 Z ↔ Run d 68 122 [some (.ref o), a1, a2] [.ref o, s1, s0] M 1 2 Z := R_local (gd68 dX6_write_121) rfl rfl rfl
theorem z68_122 : Run d 68 122 [a0, a1, a2] [.ref o, s1, s0] M 1 2 Z ↔ gObj M o 6 ∧ Run d 68 125 [a0, a1, a2] [va_rf (M.2.1 o 3), s1, s0] M 1 2 Z := R_getR (gd68 dX6_write_122) rfl gf_6_22 rfl
theorem z68_125 : Run d 68 125 [some (.ref o), a1, a2] [s2, s1, s0] M 1 2 Z ↔ Run d 68 126 [some (.ref o), a1, a2] [.ref o, s2, s1, s0] M 1 2 Z := R_local (gd68 dX6_write_125) rfl rfl rfl
theorem z68_126 : Run d 68 126 [a0, a1, a2] [.ref o, s2, s1, s0] M 1 2 Z ↔ gObj M o 6 ∧ Run d 68 129 [a0, a1, a2] [.int (M.1 o 4), s2, s1, s0] M 1 2 Z := R_getI (gd68 dX6_write_126) rfl gf_6_25 rfl
theorem z68_129 : Run d 68 129 [a0, a1, a2] [s3, s2, s1, s0] M 1 2 Z ↔ Call d 199 [s2, s3] M (fun r M1 => Run d 68 132 [a0, a1, a2] (r.toList ++ [s1, s0]) M1 2 250 Z) := R_call (gd68 dX6_write_129) rfl rfl rfl rfl rfl rfl gc_6_61 rfl (by decide) (Nat.le_of_ble_eq_true rfl) (Nat.le_of_ble_eq_true rfl) rfl rfl rfl (Nat.le_of_ble_eq_true rfl) (Nat.le_of_ble_eq_true rfl)
theorem z68_132 : Run d 68 132 [some (.ref o), a1, a2] [s2, s1, s0] M 2 250 Z ↔ Run d 68 133 [some (.ref o), a1, a2] [.ref o, s2, s1, s0] M 2 250 Z := R_local (gd68 dX6_write_132) rfl rfl rfl
theorem z68_133 : Run d 68 133 [a0, a1, a2] [.ref o, s2, s1, s0] M 2 250 Z ↔ gObj M o 6 ∧ Run d 68 136 [a0, a1, a2] [.int (M.1 o 5), s2, s1, s0] M 2 250 Z := R_getI (gd68 dX6_write_133) rfl gf_6_28 rfl
theorem z68_136 : Run d 68 136 [a0, a1, a2] [s3, s2, .ref b, s0] M 2 250 Z ↔ Call d 84 [.ref b, s2, s3] M (fun r M1 => Run d 68 139 [a0, a1, a2] (r.toList ++ [s0]) M1 2 250 Z) := R_call (gd68 dX6_write_136) rfl rfl rfl rfl rfl rfl gc_6_67 rfl (by decide) (Nat.le_of_ble_eq_true rfl) (Nat.le_of_ble_eq_true rfl) rfl rfl rfl (Nat.le_of_ble_eq_true rfl) (Nat.le_of_ble_eq_true rfl)
theorem z68_139 : Run d 68 139 [a0, a1, a2] [v] M 2 250 Z ↔ gisRef v = true ∧ Z (some v) M := R_aret (gd68 dX6_write_139) rfl
theorem e68 : Call (d + 1) 68 [s0, s1, s2] M Z ↔ Run d 68 0 [some s0, some s1, some s2] [] M 0 0 Z := Call_iff (Nat.lt_of_lt_of_le (Nat.lt_succ_self 68) (Nat.le_of_ble_eq_true rfl)) (Nat.le_of_ble_eq_true rfl)
/-! 69: X6_sign ()I -/
theorem gd69 {pc : Nat} {r : Except _ _} (h : decode cX6_sign pc = r) : decode (gby 69) pc = r := h
theorem z69_0 : Run d 69 0 [some (.ref o)] [] M 0 0 Z ↔ Run d 69 1 [some (.ref o)] [.ref o] M 0 0 Z := R_local (gd69 dX6_sign_0) rfl rfl rfl
theorem z69_1 : Run d 69 1 [a0] [.ref o] M 0 0 Z ↔ gObj M o 6 ∧ Run d 69 4 [a0] [.int (M.1 o 2)] M 0 0 Z := R_getI (gd69 dX6_sign_1) rfl gf_6_19 rfl
theorem z69_4 : Run d 69 4 [some (.ref o)] [s0] M 0 0 Z ↔ Run d 69 5 [some (.ref o)] [.ref o, s0] M 0 0 Z := R_local (gd69 dX6_sign_4) rfl rfl rfl
theorem z69_5 : Run d 69 5 [a0] [.ref o, s0] M 0 0 Z ↔ gObj M o 6 ∧ Run d 69 8 [a0] [.int (M.1 o 1), s0] M 0 0 Z := R_getI (gd69 dX6_sign_5) rfl gf_6_15 rfl
theorem z69_8 : Run d 69 8 [a0] [s1, s0] M 0 0 Z ↔ Call d 110 [s0, s1] M (fun r M1 => Run d 69 11 [a0] (r.toList ++ []) M1 0 0 Z) := R_call (gd69 dX6_sign_8) rfl rfl rfl rfl rfl rfl gc_6_70 rfl (by decide) (Nat.le_of_ble_eq_true rfl) (Nat.le_of_ble_eq_true rfl) rfl rfl rfl (Nat.le_of_ble_eq_true rfl) (Nat.le_of_ble_eq_true rfl)
theorem z69_11 : Run d 69 11 [a0] [.int x] M 0 0 Z ↔ (x = 0 → Run d 69 38 [a0] [] M 0 0 Z) ∧ (¬ (x = 0) → Run d 69 14 [a0] [] M 0 0 Z) := R_if (gd69 dX6_sign_11) (show gTgt 11 27 = some 38 by decide) gIf_eq
theorem z69_14 : Run d 69 14 [some (.ref o)] [] M 0 0 Z ↔ Run d 69 15 [some (.ref o)] [.ref o] M 0 0 Z := R_local (gd69 dX6_sign_14) rfl rfl rfl
theorem z69_15 : Run d 69 15 [a0] [.ref o] M 0 0 Z ↔ gObj M o 6 ∧ Run d 69 18 [a0] [.int (M.1 o 2)] M 0 0 Z := R_getI (gd69 dX6_sign_15) rfl gf_6_19 rfl
theorem z69_18 : Run d 69 18 [some (.ref o)] [s0] M 0 0 Z ↔ Run d 69 19 [some (.ref o)] [.ref o, s0] M 0 0 Z := R_local (gd69 dX6_sign_18) rfl rfl rfl
theorem z69_19 : Run d 69 19 [a0] [.ref o, s0] M 0 0 Z ↔ gObj M o 6 ∧ Run d 69 22 [a0] [va_rf (M.2.1 o 0), s0] M 0 0 Z := R_getR (gd69 dX6_sign_19) rfl gf_6_9 rfl
theorem z69_22 : Run d 69 22 [a0] [.ref o, s0] M 0 0 Z ↔ (gTy M o).isSome = true ∧ Run d 69 23 [a0] [.int (nI (gLen M o)), s0] M 0 0 Z := R_alen (gd69 dX6_sign_22)
theorem z69_23 : Run d 69 23 [a0] [.int y, .int x] M 0 0 Z ↔ (y ≤ x → Run d 69 38 [a0] [] M 0 0 Z) ∧ (¬ (y ≤ x) → Run d 69 26 [a0] [] M 0 0 Z) := R_icmp (gd69 dX6_sign_23) (show gTgt 23 15 = some 38 by decide) gIf_ge
theorem z69_26 : Run d 69 26 [some (.ref o)] [] M 0 0 Z ↔ Run d 69 27 [some (.ref o)] [.ref o] M 0 0 Z := R_local (gd69 dX6_sign_26) rfl rfl rfl
theorem z69_27 : Run d 69 27 [a0] [.ref o] M 0 0 Z ↔ gObj M o 6 ∧ Run d 69 30 [a0] [va_rf (M.2.1 o 0)] M 0 0 Z := R_getR (gd69 dX6_sign_27) rfl gf_6_9 rfl
theorem z69_30 : Run d 69 30 [some (.ref o)] [s0] M 0 0 Z ↔ Run d 69 31 [some (.ref o)] [.ref o, s0] M 0 0 Z := R_local (gd69 dX6_sign_30) rfl rfl rfl
theorem z69_31 : Run d 69 31 [a0] [.ref o, s0] M 0 0 Z ↔ gObj M o 6 ∧ Run d 69 34 [a0] [.int (M.1 o 2), s0] M 0 0 Z := R_getI (gd69 dX6_sign_31) rfl gf_6_19 rfl
theorem z69_34 : Run d 69 34 [a0] [.int x, .ref o] M 0 0 Z ↔ gAr M o 0 ∧ gIn x (gLen M o) = true ∧ Run d 69 35 [a0] [.int (M.1 o x.toNatClampNeg)] M 0 0 Z := R_iald (gd69 dX6_sign_34)
theorem z69_35 : Run d 69 35 [a0] [s0] M 0 0 Z ↔ Run d 69 39 [a0] [s0] M 0 0 Z := R_goto (gd69 dX6_sign_35) (show gTgt 35 4 = some 39 by decide)
theorem z69_38 : Run d 69 38 [a0] [] M 0 0 Z ↔ Run d 69 39 [a0] [.int (-1)] M 0 0 Z := R_iconst (gd69 dX6_sign_38) (by decide)
theorem z69_39 : Run d 69 39 [a0] [.int x] M 0 0 Z ↔ Z (some (.int x)) M := R_iret (gd69 dX6_sign_39) rfl
theorem e69 : Call (d + 1) 69 [s0] M Z ↔ Run d 69 0 [some s0] [] M 0 0 Z := Call_iff (Nat.lt_of_lt_of_le (Nat.lt_succ_self 69) (Nat.le_of_ble_eq_true rfl)) (Nat.le_of_ble_eq_true rfl)
end
