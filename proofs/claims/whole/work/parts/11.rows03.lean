/-! Rules of the methods, an instruction each, by program (wip/whole/rows.py). -/
theorem dX4_add_0 : decode cX4_add 0 = .ok (.aload_n 0, 1) := by decide +kernel
theorem dX4_add_1 : decode cX4_add 1 = .ok (.getfield 36, 3) := by decide +kernel
theorem dX4_add_4 : decode cX4_add 4 = .ok (.ifCond .lt 13, 3) := by decide +kernel
theorem dX4_add_7 : decode cX4_add 7 = .ok (.aload_n 0, 1) := by decide +kernel
theorem dX4_add_8 : decode cX4_add 8 = .ok (.getfield 36, 3) := by decide +kernel
theorem dX4_add_11 : decode cX4_add 11 = .ok (.sipush 400, 3) := by decide +kernel
theorem dX4_add_14 : decode cX4_add 14 = .ok (.if_icmp .lt 4, 3) := by decide +kernel
theorem dX4_add_17 : decode cX4_add 17 = .ok (.return_, 1) := by decide +kernel
theorem dX4_add_18 : decode cX4_add 18 = .ok (.aload_n 0, 1) := by decide +kernel
theorem dX4_add_19 : decode cX4_add 19 = .ok (.getfield 9, 3) := by decide +kernel
theorem dX4_add_22 : decode cX4_add 22 = .ok (.aload_n 0, 1) := by decide +kernel
theorem dX4_add_23 : decode cX4_add 23 = .ok (.getfield 36, 3) := by decide +kernel
theorem dX4_add_26 : decode cX4_add 26 = .ok (.iload_n 1, 1) := by decide +kernel
theorem dX4_add_27 : decode cX4_add 27 = .ok (.iastore, 1) := by decide +kernel
theorem dX4_add_28 : decode cX4_add 28 = .ok (.aload_n 0, 1) := by decide +kernel
theorem dX4_add_29 : decode cX4_add 29 = .ok (.getfield 15, 3) := by decide +kernel
theorem dX4_add_32 : decode cX4_add 32 = .ok (.aload_n 0, 1) := by decide +kernel
theorem dX4_add_33 : decode cX4_add 33 = .ok (.getfield 36, 3) := by decide +kernel
theorem dX4_add_36 : decode cX4_add 36 = .ok (.iload_n 2, 1) := by decide +kernel
theorem dX4_add_37 : decode cX4_add 37 = .ok (.iastore, 1) := by decide +kernel
theorem dX4_add_38 : decode cX4_add 38 = .ok (.aload_n 0, 1) := by decide +kernel
theorem dX4_add_39 : decode cX4_add 39 = .ok (.getfield 18, 3) := by decide +kernel
theorem dX4_add_42 : decode cX4_add 42 = .ok (.aload_n 0, 1) := by decide +kernel
theorem dX4_add_43 : decode cX4_add 43 = .ok (.getfield 36, 3) := by decide +kernel
theorem dX4_add_46 : decode cX4_add 46 = .ok (.iload_n 3, 1) := by decide +kernel
theorem dX4_add_47 : decode cX4_add 47 = .ok (.iastore, 1) := by decide +kernel
theorem dX4_add_48 : decode cX4_add 48 = .ok (.aload_n 0, 1) := by decide +kernel
theorem dX4_add_49 : decode cX4_add 49 = .ok (.getfield 21, 3) := by decide +kernel
theorem dX4_add_52 : decode cX4_add 52 = .ok (.aload_n 0, 1) := by decide +kernel
theorem dX4_add_53 : decode cX4_add 53 = .ok (.getfield 36, 3) := by decide +kernel
theorem dX4_add_56 : decode cX4_add 56 = .ok (.iload 4, 2) := by decide +kernel
theorem dX4_add_58 : decode cX4_add 58 = .ok (.iastore, 1) := by decide +kernel
theorem dX4_add_59 : decode cX4_add 59 = .ok (.aload_n 0, 1) := by decide +kernel
theorem dX4_add_60 : decode cX4_add 60 = .ok (.getfield 24, 3) := by decide +kernel
theorem dX4_add_63 : decode cX4_add 63 = .ok (.aload_n 0, 1) := by decide +kernel
theorem dX4_add_64 : decode cX4_add 64 = .ok (.getfield 36, 3) := by decide +kernel
theorem dX4_add_67 : decode cX4_add 67 = .ok (.iload 5, 2) := by decide +kernel
theorem dX4_add_69 : decode cX4_add 69 = .ok (.iastore, 1) := by decide +kernel
theorem dX4_add_70 : decode cX4_add 70 = .ok (.aload_n 0, 1) := by decide +kernel
theorem dX4_add_71 : decode cX4_add 71 = .ok (.getfield 27, 3) := by decide +kernel
theorem dX4_add_74 : decode cX4_add 74 = .ok (.aload_n 0, 1) := by decide +kernel
theorem dX4_add_75 : decode cX4_add 75 = .ok (.getfield 36, 3) := by decide +kernel
theorem dX4_add_78 : decode cX4_add 78 = .ok (.iload 6, 2) := by decide +kernel
theorem dX4_add_80 : decode cX4_add 80 = .ok (.iastore, 1) := by decide +kernel
theorem dX4_add_81 : decode cX4_add 81 = .ok (.aload_n 0, 1) := by decide +kernel
theorem dX4_add_82 : decode cX4_add 82 = .ok (.getfield 30, 3) := by decide +kernel
theorem dX4_add_85 : decode cX4_add 85 = .ok (.aload_n 0, 1) := by decide +kernel
theorem dX4_add_86 : decode cX4_add 86 = .ok (.getfield 36, 3) := by decide +kernel
theorem dX4_add_89 : decode cX4_add 89 = .ok (.iload 7, 2) := by decide +kernel
theorem dX4_add_91 : decode cX4_add 91 = .ok (.iastore, 1) := by decide +kernel
theorem dX4_add_92 : decode cX4_add 92 = .ok (.aload_n 0, 1) := by decide +kernel
theorem dX4_add_93 : decode cX4_add 93 = .ok (.getfield 33, 3) := by decide +kernel
theorem dX4_add_96 : decode cX4_add 96 = .ok (.aload_n 0, 1) := by decide +kernel
theorem dX4_add_97 : decode cX4_add 97 = .ok (.getfield 36, 3) := by decide +kernel
theorem dX4_add_100 : decode cX4_add 100 = .ok (.iconst 0, 1) := by decide +kernel
theorem dX4_add_101 : decode cX4_add 101 = .ok (.iastore, 1) := by decide +kernel
theorem dX4_add_102 : decode cX4_add 102 = .ok (.aload_n 0, 1) := by decide +kernel
theorem dX4_add_103 : decode cX4_add 103 = .ok (.dup, 1) := by decide +kernel
theorem dX4_add_104 : decode cX4_add 104 = .ok (.getfield 36, 3) := by decide +kernel
theorem dX4_add_107 : decode cX4_add 107 = .ok (.iconst 1, 1) := by decide +kernel
theorem dX4_add_108 : decode cX4_add 108 = .ok (.iadd, 1) := by decide +kernel
theorem dX4_add_109 : decode cX4_add 109 = .ok (.putfield 36, 3) := by decide +kernel
theorem dX4_add_112 : decode cX4_add 112 = .ok (.return_, 1) := by decide +kernel
theorem dX4_has_0 : decode cX4_has 0 = .ok (.iload_n 1, 1) := by decide +kernel
theorem dX4_has_1 : decode cX4_has 1 = .ok (.ifCond .lt 22, 3) := by decide +kernel
theorem dX4_has_4 : decode cX4_has 4 = .ok (.iload_n 1, 1) := by decide +kernel
theorem dX4_has_5 : decode cX4_has 5 = .ok (.aload_n 0, 1) := by decide +kernel
theorem dX4_has_6 : decode cX4_has 6 = .ok (.getfield 36, 3) := by decide +kernel
theorem dX4_has_9 : decode cX4_has 9 = .ok (.if_icmp .ge 14, 3) := by decide +kernel
theorem dX4_has_12 : decode cX4_has 12 = .ok (.iload_n 1, 1) := by decide +kernel
theorem dX4_has_13 : decode cX4_has 13 = .ok (.sipush 400, 3) := by decide +kernel
theorem dX4_has_16 : decode cX4_has 16 = .ok (.if_icmp .ge 7, 3) := by decide +kernel
theorem dX4_has_19 : decode cX4_has 19 = .ok (.iconst 1, 1) := by decide +kernel
theorem dX4_has_20 : decode cX4_has 20 = .ok (.goto 4, 3) := by decide +kernel
theorem dX4_has_23 : decode cX4_has 23 = .ok (.iconst 0, 1) := by decide +kernel
theorem dX4_has_24 : decode cX4_has 24 = .ok (.ireturn, 1) := by decide +kernel
theorem dX4_tuckLast_0 : decode cX4_tuckLast 0 = .ok (.aload_n 0, 1) := by decide +kernel
theorem dX4_tuckLast_1 : decode cX4_tuckLast 1 = .ok (.aload_n 0, 1) := by decide +kernel
theorem dX4_tuckLast_2 : decode cX4_tuckLast 2 = .ok (.getfield 36, 3) := by decide +kernel
theorem dX4_tuckLast_5 : decode cX4_tuckLast 5 = .ok (.iconst 1, 1) := by decide +kernel
theorem dX4_tuckLast_6 : decode cX4_tuckLast 6 = .ok (.isub, 1) := by decide +kernel
theorem dX4_tuckLast_7 : decode cX4_tuckLast 7 = .ok (.invokevirtual 40, 3) := by decide +kernel
theorem dX4_tuckLast_10 : decode cX4_tuckLast 10 = .ok (.ifCond .ne 5, 3) := by decide +kernel
theorem dX4_tuckLast_13 : decode cX4_tuckLast 13 = .ok (.iconst 0, 1) := by decide +kernel
theorem dX4_tuckLast_14 : decode cX4_tuckLast 14 = .ok (.ireturn, 1) := by decide +kernel
theorem dX4_tuckLast_15 : decode cX4_tuckLast 15 = .ok (.aload_n 0, 1) := by decide +kernel
theorem dX4_tuckLast_16 : decode cX4_tuckLast 16 = .ok (.getfield 33, 3) := by decide +kernel
theorem dX4_tuckLast_19 : decode cX4_tuckLast 19 = .ok (.aload_n 0, 1) := by decide +kernel
theorem dX4_tuckLast_20 : decode cX4_tuckLast 20 = .ok (.getfield 36, 3) := by decide +kernel
theorem dX4_tuckLast_23 : decode cX4_tuckLast 23 = .ok (.iconst 1, 1) := by decide +kernel
theorem dX4_tuckLast_24 : decode cX4_tuckLast 24 = .ok (.isub, 1) := by decide +kernel
theorem dX4_tuckLast_25 : decode cX4_tuckLast 25 = .ok (.dup2, 1) := by decide +kernel
theorem dX4_tuckLast_26 : decode cX4_tuckLast 26 = .ok (.iaload, 1) := by decide +kernel
theorem dX4_tuckLast_27 : decode cX4_tuckLast 27 = .ok (.iconst 1, 1) := by decide +kernel
theorem dX4_tuckLast_28 : decode cX4_tuckLast 28 = .ok (.iadd, 1) := by decide +kernel
theorem dX4_tuckLast_29 : decode cX4_tuckLast 29 = .ok (.iastore, 1) := by decide +kernel
theorem dX4_tuckLast_30 : decode cX4_tuckLast 30 = .ok (.iconst 1, 1) := by decide +kernel
theorem dX4_tuckLast_31 : decode cX4_tuckLast 31 = .ok (.ireturn, 1) := by decide +kernel
theorem dX4_told_0 : decode cX4_told 0 = .ok (.aload_n 0, 1) := by decide +kernel
theorem dX4_told_1 : decode cX4_told 1 = .ok (.iload_n 1, 1) := by decide +kernel
theorem dX4_told_2 : decode cX4_told 2 = .ok (.invokevirtual 40, 3) := by decide +kernel
theorem dX4_told_5 : decode cX4_told 5 = .ok (.ifCond .ne 5, 3) := by decide +kernel
theorem dX4_told_8 : decode cX4_told 8 = .ok (.iconst (-1), 1) := by decide +kernel
theorem dX4_told_9 : decode cX4_told 9 = .ok (.ireturn, 1) := by decide +kernel
theorem dX4_told_10 : decode cX4_told 10 = .ok (.iload_n 2, 1) := by decide +kernel
theorem dX4_told_11 : decode cX4_told 11 = .ok (.tableswitch 90 0 6 #[41, 48, 55, 62, 69, 76, 83], 41) := by decide +kernel
theorem dX4_told_52 : decode cX4_told 52 = .ok (.aload_n 0, 1) := by decide +kernel
theorem dX4_told_53 : decode cX4_told 53 = .ok (.getfield 9, 3) := by decide +kernel
theorem dX4_told_56 : decode cX4_told 56 = .ok (.iload_n 1, 1) := by decide +kernel
theorem dX4_told_57 : decode cX4_told 57 = .ok (.iaload, 1) := by decide +kernel
theorem dX4_told_58 : decode cX4_told 58 = .ok (.ireturn, 1) := by decide +kernel
theorem dX4_told_59 : decode cX4_told 59 = .ok (.aload_n 0, 1) := by decide +kernel
theorem dX4_told_60 : decode cX4_told 60 = .ok (.getfield 15, 3) := by decide +kernel
theorem dX4_told_63 : decode cX4_told 63 = .ok (.iload_n 1, 1) := by decide +kernel
theorem dX4_told_64 : decode cX4_told 64 = .ok (.iaload, 1) := by decide +kernel
theorem dX4_told_65 : decode cX4_told 65 = .ok (.ireturn, 1) := by decide +kernel
theorem dX4_told_66 : decode cX4_told 66 = .ok (.aload_n 0, 1) := by decide +kernel
theorem dX4_told_67 : decode cX4_told 67 = .ok (.getfield 18, 3) := by decide +kernel
theorem dX4_told_70 : decode cX4_told 70 = .ok (.iload_n 1, 1) := by decide +kernel
theorem dX4_told_71 : decode cX4_told 71 = .ok (.iaload, 1) := by decide +kernel
theorem dX4_told_72 : decode cX4_told 72 = .ok (.ireturn, 1) := by decide +kernel
theorem dX4_told_73 : decode cX4_told 73 = .ok (.aload_n 0, 1) := by decide +kernel
theorem dX4_told_74 : decode cX4_told 74 = .ok (.getfield 21, 3) := by decide +kernel
theorem dX4_told_77 : decode cX4_told 77 = .ok (.iload_n 1, 1) := by decide +kernel
theorem dX4_told_78 : decode cX4_told 78 = .ok (.iaload, 1) := by decide +kernel
theorem dX4_told_79 : decode cX4_told 79 = .ok (.ireturn, 1) := by decide +kernel
theorem dX4_told_80 : decode cX4_told 80 = .ok (.aload_n 0, 1) := by decide +kernel
theorem dX4_told_81 : decode cX4_told 81 = .ok (.getfield 24, 3) := by decide +kernel
theorem dX4_told_84 : decode cX4_told 84 = .ok (.iload_n 1, 1) := by decide +kernel
theorem dX4_told_85 : decode cX4_told 85 = .ok (.iaload, 1) := by decide +kernel
theorem dX4_told_86 : decode cX4_told 86 = .ok (.ireturn, 1) := by decide +kernel
theorem dX4_told_87 : decode cX4_told 87 = .ok (.aload_n 0, 1) := by decide +kernel
theorem dX4_told_88 : decode cX4_told 88 = .ok (.getfield 27, 3) := by decide +kernel
theorem dX4_told_91 : decode cX4_told 91 = .ok (.iload_n 1, 1) := by decide +kernel
theorem dX4_told_92 : decode cX4_told 92 = .ok (.iaload, 1) := by decide +kernel
theorem dX4_told_93 : decode cX4_told 93 = .ok (.ireturn, 1) := by decide +kernel
theorem dX4_told_94 : decode cX4_told 94 = .ok (.aload_n 0, 1) := by decide +kernel
theorem dX4_told_95 : decode cX4_told 95 = .ok (.getfield 30, 3) := by decide +kernel
theorem dX4_told_98 : decode cX4_told 98 = .ok (.iload_n 1, 1) := by decide +kernel
theorem dX4_told_99 : decode cX4_told 99 = .ok (.iaload, 1) := by decide +kernel
theorem dX4_told_100 : decode cX4_told 100 = .ok (.ireturn, 1) := by decide +kernel
theorem dX4_told_101 : decode cX4_told 101 = .ok (.iconst (-1), 1) := by decide +kernel
theorem dX4_told_102 : decode cX4_told 102 = .ok (.ireturn, 1) := by decide +kernel
theorem dX4_lies_0 : decode cX4_lies 0 = .ok (.aload_n 0, 1) := by decide +kernel
theorem dX4_lies_1 : decode cX4_lies 1 = .ok (.iload_n 1, 1) := by decide +kernel
theorem dX4_lies_2 : decode cX4_lies 2 = .ok (.invokevirtual 40, 3) := by decide +kernel
theorem dX4_lies_5 : decode cX4_lies 5 = .ok (.ifCond .eq 44, 3) := by decide +kernel
theorem dX4_lies_8 : decode cX4_lies 8 = .ok (.aload_n 0, 1) := by decide +kernel
theorem dX4_lies_9 : decode cX4_lies 9 = .ok (.getfield 18, 3) := by decide +kernel
theorem dX4_lies_12 : decode cX4_lies 12 = .ok (.iload_n 1, 1) := by decide +kernel
theorem dX4_lies_13 : decode cX4_lies 13 = .ok (.iaload, 1) := by decide +kernel
theorem dX4_lies_14 : decode cX4_lies 14 = .ok (.iload_n 3, 1) := by decide +kernel
theorem dX4_lies_15 : decode cX4_lies 15 = .ok (.if_icmp .ne 34, 3) := by decide +kernel
theorem dX4_lies_18 : decode cX4_lies 18 = .ok (.iload_n 2, 1) := by decide +kernel
theorem dX4_lies_19 : decode cX4_lies 19 = .ok (.aload_n 0, 1) := by decide +kernel
theorem dX4_lies_20 : decode cX4_lies 20 = .ok (.getfield 15, 3) := by decide +kernel
theorem dX4_lies_23 : decode cX4_lies 23 = .ok (.iload_n 1, 1) := by decide +kernel
theorem dX4_lies_24 : decode cX4_lies 24 = .ok (.iaload, 1) := by decide +kernel
theorem dX4_lies_25 : decode cX4_lies 25 = .ok (.if_icmp .lt 24, 3) := by decide +kernel
theorem dX4_lies_28 : decode cX4_lies 28 = .ok (.iload_n 2, 1) := by decide +kernel
theorem dX4_lies_29 : decode cX4_lies 29 = .ok (.aload_n 0, 1) := by decide +kernel
theorem dX4_lies_30 : decode cX4_lies 30 = .ok (.getfield 15, 3) := by decide +kernel
theorem dX4_lies_33 : decode cX4_lies 33 = .ok (.iload_n 1, 1) := by decide +kernel
theorem dX4_lies_34 : decode cX4_lies 34 = .ok (.iaload, 1) := by decide +kernel
theorem dX4_lies_35 : decode cX4_lies 35 = .ok (.aload_n 0, 1) := by decide +kernel
theorem dX4_lies_36 : decode cX4_lies 36 = .ok (.getfield 27, 3) := by decide +kernel
theorem dX4_lies_39 : decode cX4_lies 39 = .ok (.iload_n 1, 1) := by decide +kernel
theorem dX4_lies_40 : decode cX4_lies 40 = .ok (.iaload, 1) := by decide +kernel
theorem dX4_lies_41 : decode cX4_lies 41 = .ok (.iadd, 1) := by decide +kernel
theorem dX4_lies_42 : decode cX4_lies 42 = .ok (.if_icmp .ge 7, 3) := by decide +kernel
theorem dX4_lies_45 : decode cX4_lies 45 = .ok (.iconst 1, 1) := by decide +kernel
theorem dX4_lies_46 : decode cX4_lies 46 = .ok (.goto 4, 3) := by decide +kernel
theorem dX4_lies_49 : decode cX4_lies 49 = .ok (.iconst 0, 1) := by decide +kernel
theorem dX4_lies_50 : decode cX4_lies 50 = .ok (.ireturn, 1) := by decide +kernel
theorem dX4_last_0 : decode cX4_last 0 = .ok (.aload_n 0, 1) := by decide +kernel
theorem dX4_last_1 : decode cX4_last 1 = .ok (.getfield 36, 3) := by decide +kernel
theorem dX4_last_4 : decode cX4_last 4 = .ok (.iconst 1, 1) := by decide +kernel
theorem dX4_last_5 : decode cX4_last 5 = .ok (.isub, 1) := by decide +kernel
theorem dX4_last_6 : decode cX4_last 6 = .ok (.istore_n 3, 1) := by decide +kernel
theorem dX4_last_7 : decode cX4_last 7 = .ok (.iload_n 3, 1) := by decide +kernel
theorem dX4_last_8 : decode cX4_last 8 = .ok (.ifCond .lt 21, 3) := by decide +kernel
theorem dX4_last_11 : decode cX4_last 11 = .ok (.aload_n 0, 1) := by decide +kernel
theorem dX4_last_12 : decode cX4_last 12 = .ok (.iload_n 3, 1) := by decide +kernel
theorem dX4_last_13 : decode cX4_last 13 = .ok (.iload_n 1, 1) := by decide +kernel
theorem dX4_last_14 : decode cX4_last 14 = .ok (.iload_n 2, 1) := by decide +kernel
theorem dX4_last_15 : decode cX4_last 15 = .ok (.invokevirtual 44, 3) := by decide +kernel
theorem dX4_last_18 : decode cX4_last 18 = .ok (.ifCond .eq 5, 3) := by decide +kernel
theorem dX4_last_21 : decode cX4_last 21 = .ok (.iload_n 3, 1) := by decide +kernel
theorem dX4_last_22 : decode cX4_last 22 = .ok (.ireturn, 1) := by decide +kernel
theorem dX4_last_23 : decode cX4_last 23 = .ok (.iinc 3 (-1), 3) := by decide +kernel
theorem dX4_last_26 : decode cX4_last 26 = .ok (.goto (-19), 3) := by decide +kernel
theorem dX4_last_29 : decode cX4_last 29 = .ok (.iconst (-1), 1) := by decide +kernel
theorem dX4_last_30 : decode cX4_last 30 = .ok (.ireturn, 1) := by decide +kernel
theorem dX4_howMany_0 : decode cX4_howMany 0 = .ok (.iconst 0, 1) := by decide +kernel
theorem dX4_howMany_1 : decode cX4_howMany 1 = .ok (.istore_n 3, 1) := by decide +kernel
theorem dX4_howMany_2 : decode cX4_howMany 2 = .ok (.iconst 0, 1) := by decide +kernel
theorem dX4_howMany_3 : decode cX4_howMany 3 = .ok (.istore 4, 2) := by decide +kernel
theorem dX4_howMany_5 : decode cX4_howMany 5 = .ok (.iload 4, 2) := by decide +kernel
theorem dX4_howMany_7 : decode cX4_howMany 7 = .ok (.aload_n 0, 1) := by decide +kernel
theorem dX4_howMany_8 : decode cX4_howMany 8 = .ok (.getfield 36, 3) := by decide +kernel
theorem dX4_howMany_11 : decode cX4_howMany 11 = .ok (.if_icmp .ge 28, 3) := by decide +kernel
theorem dX4_howMany_14 : decode cX4_howMany 14 = .ok (.iload_n 3, 1) := by decide +kernel
theorem dX4_howMany_15 : decode cX4_howMany 15 = .ok (.aload_n 0, 1) := by decide +kernel
theorem dX4_howMany_16 : decode cX4_howMany 16 = .ok (.iload 4, 2) := by decide +kernel
theorem dX4_howMany_18 : decode cX4_howMany 18 = .ok (.iload_n 1, 1) := by decide +kernel
theorem dX4_howMany_19 : decode cX4_howMany 19 = .ok (.iload_n 2, 1) := by decide +kernel
theorem dX4_howMany_20 : decode cX4_howMany 20 = .ok (.invokevirtual 44, 3) := by decide +kernel
theorem dX4_howMany_23 : decode cX4_howMany 23 = .ok (.ifCond .eq 7, 3) := by decide +kernel
theorem dX4_howMany_26 : decode cX4_howMany 26 = .ok (.iconst 1, 1) := by decide +kernel
theorem dX4_howMany_27 : decode cX4_howMany 27 = .ok (.goto 4, 3) := by decide +kernel
theorem dX4_howMany_30 : decode cX4_howMany 30 = .ok (.iconst 0, 1) := by decide +kernel
theorem dX4_howMany_31 : decode cX4_howMany 31 = .ok (.iadd, 1) := by decide +kernel
theorem dX4_howMany_32 : decode cX4_howMany 32 = .ok (.istore_n 3, 1) := by decide +kernel
theorem dX4_howMany_33 : decode cX4_howMany 33 = .ok (.iinc 4 1, 3) := by decide +kernel
theorem dX4_howMany_36 : decode cX4_howMany 36 = .ok (.goto (-31), 3) := by decide +kernel
theorem dX4_howMany_39 : decode cX4_howMany 39 = .ok (.iload_n 3, 1) := by decide +kernel
theorem dX4_howMany_40 : decode cX4_howMany 40 = .ok (.ireturn, 1) := by decide +kernel
theorem dX4_shown_0 : decode cX4_shown 0 = .ok (.aload_n 0, 1) := by decide +kernel
theorem dX4_shown_1 : decode cX4_shown 1 = .ok (.iload_n 1, 1) := by decide +kernel
theorem dX4_shown_2 : decode cX4_shown 2 = .ok (.invokevirtual 40, 3) := by decide +kernel
theorem dX4_shown_5 : decode cX4_shown 5 = .ok (.ifCond .eq 30, 3) := by decide +kernel
theorem dX4_shown_8 : decode cX4_shown 8 = .ok (.aload_n 3, 1) := by decide +kernel
theorem dX4_shown_9 : decode cX4_shown 9 = .ok (.iload_n 2, 1) := by decide +kernel
theorem dX4_shown_10 : decode cX4_shown 10 = .ok (.aload_n 0, 1) := by decide +kernel
theorem dX4_shown_11 : decode cX4_shown 11 = .ok (.getfield 15, 3) := by decide +kernel
theorem dX4_shown_14 : decode cX4_shown 14 = .ok (.iload_n 1, 1) := by decide +kernel
theorem dX4_shown_15 : decode cX4_shown 15 = .ok (.iaload, 1) := by decide +kernel
theorem dX4_shown_16 : decode cX4_shown 16 = .ok (.isub, 1) := by decide +kernel
theorem dX4_shown_17 : decode cX4_shown 17 = .ok (.aload_n 0, 1) := by decide +kernel
theorem dX4_shown_18 : decode cX4_shown 18 = .ok (.getfield 21, 3) := by decide +kernel
theorem dX4_shown_21 : decode cX4_shown 21 = .ok (.iload_n 1, 1) := by decide +kernel
theorem dX4_shown_22 : decode cX4_shown 22 = .ok (.iaload, 1) := by decide +kernel
theorem dX4_shown_23 : decode cX4_shown 23 = .ok (.aload_n 0, 1) := by decide +kernel
theorem dX4_shown_24 : decode cX4_shown 24 = .ok (.getfield 30, 3) := by decide +kernel
theorem dX4_shown_27 : decode cX4_shown 27 = .ok (.iload_n 1, 1) := by decide +kernel
theorem dX4_shown_28 : decode cX4_shown 28 = .ok (.iaload, 1) := by decide +kernel
theorem dX4_shown_29 : decode cX4_shown 29 = .ok (.invokevirtual 48, 3) := by decide +kernel
theorem dX4_shown_32 : decode cX4_shown 32 = .ok (.goto 5, 3) := by decide +kernel
theorem dX4_shown_35 : decode cX4_shown 35 = .ok (.bipush 8, 2) := by decide +kernel
theorem dX4_shown_37 : decode cX4_shown 37 = .ok (.ireturn, 1) := by decide +kernel
theorem dX4_actOf_0 : decode cX4_actOf 0 = .ok (.aload_n 0, 1) := by decide +kernel
theorem dX4_actOf_1 : decode cX4_actOf 1 = .ok (.iload_n 1, 1) := by decide +kernel
theorem dX4_actOf_2 : decode cX4_actOf 2 = .ok (.invokevirtual 40, 3) := by decide +kernel
theorem dX4_actOf_5 : decode cX4_actOf 5 = .ok (.ifCond .eq 12, 3) := by decide +kernel
theorem dX4_actOf_8 : decode cX4_actOf 8 = .ok (.aload_n 0, 1) := by decide +kernel
theorem dX4_actOf_9 : decode cX4_actOf 9 = .ok (.getfield 9, 3) := by decide +kernel
theorem dX4_actOf_12 : decode cX4_actOf 12 = .ok (.iload_n 1, 1) := by decide +kernel
theorem dX4_actOf_13 : decode cX4_actOf 13 = .ok (.iaload, 1) := by decide +kernel
theorem dX4_actOf_14 : decode cX4_actOf 14 = .ok (.goto 4, 3) := by decide +kernel
theorem dX4_actOf_17 : decode cX4_actOf 17 = .ok (.iconst (-1), 1) := by decide +kernel
theorem dX4_actOf_18 : decode cX4_actOf 18 = .ok (.ireturn, 1) := by decide +kernel
theorem dX4_lowOf_0 : decode cX4_lowOf 0 = .ok (.aload_n 0, 1) := by decide +kernel
theorem dX4_lowOf_1 : decode cX4_lowOf 1 = .ok (.iload_n 1, 1) := by decide +kernel
theorem dX4_lowOf_2 : decode cX4_lowOf 2 = .ok (.invokevirtual 40, 3) := by decide +kernel
theorem dX4_lowOf_5 : decode cX4_lowOf 5 = .ok (.ifCond .eq 12, 3) := by decide +kernel
theorem dX4_lowOf_8 : decode cX4_lowOf 8 = .ok (.aload_n 0, 1) := by decide +kernel
theorem dX4_lowOf_9 : decode cX4_lowOf 9 = .ok (.getfield 15, 3) := by decide +kernel
theorem dX4_lowOf_12 : decode cX4_lowOf 12 = .ok (.iload_n 1, 1) := by decide +kernel
theorem dX4_lowOf_13 : decode cX4_lowOf 13 = .ok (.iaload, 1) := by decide +kernel
theorem dX4_lowOf_14 : decode cX4_lowOf 14 = .ok (.goto 4, 3) := by decide +kernel
theorem dX4_lowOf_17 : decode cX4_lowOf 17 = .ok (.iconst 0, 1) := by decide +kernel
theorem dX4_lowOf_18 : decode cX4_lowOf 18 = .ok (.ireturn, 1) := by decide +kernel
theorem dX4_topOf_0 : decode cX4_topOf 0 = .ok (.aload_n 0, 1) := by decide +kernel
theorem dX4_topOf_1 : decode cX4_topOf 1 = .ok (.iload_n 1, 1) := by decide +kernel
theorem dX4_topOf_2 : decode cX4_topOf 2 = .ok (.invokevirtual 40, 3) := by decide +kernel
theorem dX4_topOf_5 : decode cX4_topOf 5 = .ok (.ifCond .eq 19, 3) := by decide +kernel
theorem dX4_topOf_8 : decode cX4_topOf 8 = .ok (.aload_n 0, 1) := by decide +kernel
theorem dX4_topOf_9 : decode cX4_topOf 9 = .ok (.getfield 15, 3) := by decide +kernel
theorem dX4_topOf_12 : decode cX4_topOf 12 = .ok (.iload_n 1, 1) := by decide +kernel
theorem dX4_topOf_13 : decode cX4_topOf 13 = .ok (.iaload, 1) := by decide +kernel
theorem dX4_topOf_14 : decode cX4_topOf 14 = .ok (.aload_n 0, 1) := by decide +kernel
theorem dX4_topOf_15 : decode cX4_topOf 15 = .ok (.getfield 27, 3) := by decide +kernel
theorem dX4_topOf_18 : decode cX4_topOf 18 = .ok (.iload_n 1, 1) := by decide +kernel
theorem dX4_topOf_19 : decode cX4_topOf 19 = .ok (.iaload, 1) := by decide +kernel
theorem dX4_topOf_20 : decode cX4_topOf 20 = .ok (.iadd, 1) := by decide +kernel
theorem dX4_topOf_21 : decode cX4_topOf 21 = .ok (.goto 4, 3) := by decide +kernel
theorem dX4_topOf_24 : decode cX4_topOf 24 = .ok (.iconst 0, 1) := by decide +kernel
theorem dX4_topOf_25 : decode cX4_topOf 25 = .ok (.ireturn, 1) := by decide +kernel
theorem dX4_place_0 : decode cX4_place 0 = .ok (.aload_n 0, 1) := by decide +kernel
theorem dX4_place_1 : decode cX4_place 1 = .ok (.iload_n 1, 1) := by decide +kernel
theorem dX4_place_2 : decode cX4_place 2 = .ok (.invokevirtual 40, 3) := by decide +kernel
theorem dX4_place_5 : decode cX4_place 5 = .ok (.ifCond .eq 17, 3) := by decide +kernel
theorem dX4_place_8 : decode cX4_place 8 = .ok (.iload_n 2, 1) := by decide +kernel
theorem dX4_place_9 : decode cX4_place 9 = .ok (.bipush 8, 2) := by decide +kernel
theorem dX4_place_11 : decode cX4_place 11 = .ok (.imul, 1) := by decide +kernel
theorem dX4_place_12 : decode cX4_place 12 = .ok (.aload_n 0, 1) := by decide +kernel
theorem dX4_place_13 : decode cX4_place 13 = .ok (.getfield 18, 3) := by decide +kernel
theorem dX4_place_16 : decode cX4_place 16 = .ok (.iload_n 1, 1) := by decide +kernel
theorem dX4_place_17 : decode cX4_place 17 = .ok (.iaload, 1) := by decide +kernel
theorem dX4_place_18 : decode cX4_place 18 = .ok (.iadd, 1) := by decide +kernel
theorem dX4_place_19 : decode cX4_place 19 = .ok (.goto 4, 3) := by decide +kernel
theorem dX4_place_22 : decode cX4_place 22 = .ok (.iconst (-1), 1) := by decide +kernel
theorem dX4_place_23 : decode cX4_place 23 = .ok (.ireturn, 1) := by decide +kernel
theorem dX4_lastOf_0 : decode cX4_lastOf 0 = .ok (.aload_n 0, 1) := by decide +kernel
theorem dX4_lastOf_1 : decode cX4_lastOf 1 = .ok (.getfield 36, 3) := by decide +kernel
theorem dX4_lastOf_4 : decode cX4_lastOf 4 = .ok (.iconst 1, 1) := by decide +kernel
theorem dX4_lastOf_5 : decode cX4_lastOf 5 = .ok (.isub, 1) := by decide +kernel
theorem dX4_lastOf_6 : decode cX4_lastOf 6 = .ok (.istore_n 2, 1) := by decide +kernel
theorem dX4_lastOf_7 : decode cX4_lastOf 7 = .ok (.iload_n 2, 1) := by decide +kernel
theorem dX4_lastOf_8 : decode cX4_lastOf 8 = .ok (.ifCond .lt 20, 3) := by decide +kernel
theorem dX4_lastOf_11 : decode cX4_lastOf 11 = .ok (.aload_n 0, 1) := by decide +kernel
theorem dX4_lastOf_12 : decode cX4_lastOf 12 = .ok (.iload_n 2, 1) := by decide +kernel
theorem dX4_lastOf_13 : decode cX4_lastOf 13 = .ok (.invokevirtual 54, 3) := by decide +kernel
theorem dX4_lastOf_16 : decode cX4_lastOf 16 = .ok (.iload_n 1, 1) := by decide +kernel
theorem dX4_lastOf_17 : decode cX4_lastOf 17 = .ok (.if_icmp .ne 5, 3) := by decide +kernel
theorem dX4_lastOf_20 : decode cX4_lastOf 20 = .ok (.iload_n 2, 1) := by decide +kernel
theorem dX4_lastOf_21 : decode cX4_lastOf 21 = .ok (.ireturn, 1) := by decide +kernel
theorem dX4_lastOf_22 : decode cX4_lastOf 22 = .ok (.iinc 2 (-1), 3) := by decide +kernel
theorem dX4_lastOf_25 : decode cX4_lastOf 25 = .ok (.goto (-18), 3) := by decide +kernel
theorem dX4_lastOf_28 : decode cX4_lastOf 28 = .ok (.iconst (-1), 1) := by decide +kernel
theorem dX4_lastOf_29 : decode cX4_lastOf 29 = .ok (.ireturn, 1) := by decide +kernel
theorem dX4_firstWith_0 : decode cX4_firstWith 0 = .ok (.iconst 0, 1) := by decide +kernel
theorem dX4_firstWith_1 : decode cX4_firstWith 1 = .ok (.iload_n 1, 1) := by decide +kernel
theorem dX4_firstWith_2 : decode cX4_firstWith 2 = .ok (.invokestatic 58, 3) := by decide +kernel
theorem dX4_firstWith_5 : decode cX4_firstWith 5 = .ok (.istore_n 2, 1) := by decide +kernel
theorem dX4_firstWith_6 : decode cX4_firstWith 6 = .ok (.iload_n 1, 1) := by decide +kernel
theorem dX4_firstWith_7 : decode cX4_firstWith 7 = .ok (.istore_n 3, 1) := by decide +kernel
theorem dX4_firstWith_8 : decode cX4_firstWith 8 = .ok (.iload_n 3, 1) := by decide +kernel
theorem dX4_firstWith_9 : decode cX4_firstWith 9 = .ok (.ifCond .lt 24, 3) := by decide +kernel
theorem dX4_firstWith_12 : decode cX4_firstWith 12 = .ok (.aload_n 0, 1) := by decide +kernel
theorem dX4_firstWith_13 : decode cX4_firstWith 13 = .ok (.iload_n 3, 1) := by decide +kernel
theorem dX4_firstWith_14 : decode cX4_firstWith 14 = .ok (.invokevirtual 54, 3) := by decide +kernel
theorem dX4_firstWith_17 : decode cX4_firstWith 17 = .ok (.aload_n 0, 1) := by decide +kernel
theorem dX4_firstWith_18 : decode cX4_firstWith 18 = .ok (.iload_n 1, 1) := by decide +kernel
theorem dX4_firstWith_19 : decode cX4_firstWith 19 = .ok (.invokevirtual 54, 3) := by decide +kernel
theorem dX4_firstWith_22 : decode cX4_firstWith 22 = .ok (.if_icmp .ne 11, 3) := by decide +kernel
theorem dX4_firstWith_25 : decode cX4_firstWith 25 = .ok (.iload_n 3, 1) := by decide +kernel
theorem dX4_firstWith_26 : decode cX4_firstWith 26 = .ok (.istore_n 2, 1) := by decide +kernel
theorem dX4_firstWith_27 : decode cX4_firstWith 27 = .ok (.iinc 3 (-1), 3) := by decide +kernel
theorem dX4_firstWith_30 : decode cX4_firstWith 30 = .ok (.goto (-22), 3) := by decide +kernel
theorem dX4_firstWith_33 : decode cX4_firstWith 33 = .ok (.iload_n 2, 1) := by decide +kernel
theorem dX4_firstWith_34 : decode cX4_firstWith 34 = .ok (.ireturn, 1) := by decide +kernel
theorem dX4_pulled_0 : decode cX4_pulled 0 = .ok (.iconst 0, 1) := by decide +kernel
theorem dX4_pulled_1 : decode cX4_pulled 1 = .ok (.istore 5, 2) := by decide +kernel
theorem dX4_pulled_3 : decode cX4_pulled 3 = .ok (.iload_n 1, 1) := by decide +kernel
theorem dX4_pulled_4 : decode cX4_pulled 4 = .ok (.istore 6, 2) := by decide +kernel
theorem dX4_pulled_6 : decode cX4_pulled 6 = .ok (.iload 6, 2) := by decide +kernel
theorem dX4_pulled_8 : decode cX4_pulled 8 = .ok (.iload_n 2, 1) := by decide +kernel
theorem dX4_pulled_9 : decode cX4_pulled 9 = .ok (.if_icmp .gt 77, 3) := by decide +kernel
theorem dX4_pulled_12 : decode cX4_pulled 12 = .ok (.iconst 0, 1) := by decide +kernel
theorem dX4_pulled_13 : decode cX4_pulled 13 = .ok (.istore 7, 2) := by decide +kernel
theorem dX4_pulled_15 : decode cX4_pulled 15 = .ok (.aload_n 0, 1) := by decide +kernel
theorem dX4_pulled_16 : decode cX4_pulled 16 = .ok (.iload 6, 2) := by decide +kernel
theorem dX4_pulled_18 : decode cX4_pulled 18 = .ok (.invokevirtual 64, 3) := by decide +kernel
theorem dX4_pulled_21 : decode cX4_pulled 21 = .ok (.istore 8, 2) := by decide +kernel
theorem dX4_pulled_23 : decode cX4_pulled 23 = .ok (.iload 8, 2) := by decide +kernel
theorem dX4_pulled_25 : decode cX4_pulled 25 = .ok (.aload_n 0, 1) := by decide +kernel
theorem dX4_pulled_26 : decode cX4_pulled 26 = .ok (.iload 6, 2) := by decide +kernel
theorem dX4_pulled_28 : decode cX4_pulled 28 = .ok (.invokevirtual 67, 3) := by decide +kernel
theorem dX4_pulled_31 : decode cX4_pulled 31 = .ok (.if_icmp .ge 42, 3) := by decide +kernel
theorem dX4_pulled_34 : decode cX4_pulled 34 = .ok (.iload 4, 2) := by decide +kernel
theorem dX4_pulled_36 : decode cX4_pulled 36 = .ok (.iload 8, 2) := by decide +kernel
theorem dX4_pulled_38 : decode cX4_pulled 38 = .ok (.iadd, 1) := by decide +kernel
theorem dX4_pulled_39 : decode cX4_pulled 39 = .ok (.istore 9, 2) := by decide +kernel
theorem dX4_pulled_41 : decode cX4_pulled 41 = .ok (.iload 9, 2) := by decide +kernel
theorem dX4_pulled_43 : decode cX4_pulled 43 = .ok (.aload_n 3, 1) := by decide +kernel
theorem dX4_pulled_44 : decode cX4_pulled 44 = .ok (.arraylength, 1) := by decide +kernel
theorem dX4_pulled_45 : decode cX4_pulled 45 = .ok (.invokestatic 70, 3) := by decide +kernel
theorem dX4_pulled_48 : decode cX4_pulled 48 = .ok (.ifCond .eq 15, 3) := by decide +kernel
theorem dX4_pulled_51 : decode cX4_pulled 51 = .ok (.iload 7, 2) := by decide +kernel
theorem dX4_pulled_53 : decode cX4_pulled 53 = .ok (.aload_n 3, 1) := by decide +kernel
theorem dX4_pulled_54 : decode cX4_pulled 54 = .ok (.iload 9, 2) := by decide +kernel
theorem dX4_pulled_56 : decode cX4_pulled 56 = .ok (.iaload, 1) := by decide +kernel
theorem dX4_pulled_57 : decode cX4_pulled 57 = .ok (.invokestatic 58, 3) := by decide +kernel
theorem dX4_pulled_60 : decode cX4_pulled 60 = .ok (.goto 5, 3) := by decide +kernel
theorem dX4_pulled_63 : decode cX4_pulled 63 = .ok (.iload 7, 2) := by decide +kernel
theorem dX4_pulled_65 : decode cX4_pulled 65 = .ok (.istore 7, 2) := by decide +kernel
theorem dX4_pulled_67 : decode cX4_pulled 67 = .ok (.iinc 8 1, 3) := by decide +kernel
theorem dX4_pulled_70 : decode cX4_pulled 70 = .ok (.goto (-47), 3) := by decide +kernel
theorem dX4_pulled_73 : decode cX4_pulled 73 = .ok (.iload 5, 2) := by decide +kernel
theorem dX4_pulled_75 : decode cX4_pulled 75 = .ok (.iload 7, 2) := by decide +kernel
theorem dX4_pulled_77 : decode cX4_pulled 77 = .ok (.iadd, 1) := by decide +kernel
theorem dX4_pulled_78 : decode cX4_pulled 78 = .ok (.istore 5, 2) := by decide +kernel
theorem dX4_pulled_80 : decode cX4_pulled 80 = .ok (.iinc 6 1, 3) := by decide +kernel
theorem dX4_pulled_83 : decode cX4_pulled 83 = .ok (.goto (-77), 3) := by decide +kernel
theorem dX4_pulled_86 : decode cX4_pulled 86 = .ok (.iload 5, 2) := by decide +kernel
theorem dX4_pulled_88 : decode cX4_pulled 88 = .ok (.ireturn, 1) := by decide +kernel
theorem dX4_held_0 : decode cX4_held 0 = .ok (.iconst 0, 1) := by decide +kernel
theorem dX4_held_1 : decode cX4_held 1 = .ok (.istore 4, 2) := by decide +kernel
theorem dX4_held_3 : decode cX4_held 3 = .ok (.iconst 0, 1) := by decide +kernel
theorem dX4_held_4 : decode cX4_held 4 = .ok (.istore 5, 2) := by decide +kernel
theorem dX4_held_6 : decode cX4_held 6 = .ok (.iload_n 1, 1) := by decide +kernel
theorem dX4_held_7 : decode cX4_held 7 = .ok (.istore 6, 2) := by decide +kernel
theorem dX4_held_9 : decode cX4_held 9 = .ok (.iload 6, 2) := by decide +kernel
theorem dX4_held_11 : decode cX4_held 11 = .ok (.iload_n 2, 1) := by decide +kernel
theorem dX4_held_12 : decode cX4_held 12 = .ok (.if_icmp .gt 97, 3) := by decide +kernel
theorem dX4_held_15 : decode cX4_held 15 = .ok (.iload 4, 2) := by decide +kernel
theorem dX4_held_17 : decode cX4_held 17 = .ok (.aload_n 0, 1) := by decide +kernel
theorem dX4_held_18 : decode cX4_held 18 = .ok (.iload 6, 2) := by decide +kernel
theorem dX4_held_20 : decode cX4_held 20 = .ok (.invokevirtual 40, 3) := by decide +kernel
theorem dX4_held_23 : decode cX4_held 23 = .ok (.ifCond .eq 15, 3) := by decide +kernel
theorem dX4_held_26 : decode cX4_held 26 = .ok (.iconst 4, 1) := by decide +kernel
theorem dX4_held_27 : decode cX4_held 27 = .ok (.aload_n 0, 1) := by decide +kernel
theorem dX4_held_28 : decode cX4_held 28 = .ok (.getfield 33, 3) := by decide +kernel
theorem dX4_held_31 : decode cX4_held 31 = .ok (.iload 6, 2) := by decide +kernel
theorem dX4_held_33 : decode cX4_held 33 = .ok (.iaload, 1) := by decide +kernel
theorem dX4_held_34 : decode cX4_held 34 = .ok (.imul, 1) := by decide +kernel
theorem dX4_held_35 : decode cX4_held 35 = .ok (.goto 4, 3) := by decide +kernel
theorem dX4_held_38 : decode cX4_held 38 = .ok (.iconst 0, 1) := by decide +kernel
theorem dX4_held_39 : decode cX4_held 39 = .ok (.iadd, 1) := by decide +kernel
theorem dX4_held_40 : decode cX4_held 40 = .ok (.istore 4, 2) := by decide +kernel
theorem dX4_held_42 : decode cX4_held 42 = .ok (.aload_n 0, 1) := by decide +kernel
theorem dX4_held_43 : decode cX4_held 43 = .ok (.iload 6, 2) := by decide +kernel
theorem dX4_held_45 : decode cX4_held 45 = .ok (.invokevirtual 64, 3) := by decide +kernel
theorem dX4_held_48 : decode cX4_held 48 = .ok (.istore 7, 2) := by decide +kernel
theorem dX4_held_50 : decode cX4_held 50 = .ok (.iload 7, 2) := by decide +kernel
theorem dX4_held_52 : decode cX4_held 52 = .ok (.aload_n 0, 1) := by decide +kernel
theorem dX4_held_53 : decode cX4_held 53 = .ok (.iload 6, 2) := by decide +kernel
theorem dX4_held_55 : decode cX4_held 55 = .ok (.invokevirtual 67, 3) := by decide +kernel
theorem dX4_held_58 : decode cX4_held 58 = .ok (.if_icmp .ge 45, 3) := by decide +kernel
theorem dX4_held_61 : decode cX4_held 61 = .ok (.aload_n 0, 1) := by decide +kernel
theorem dX4_held_62 : decode cX4_held 62 = .ok (.iload 6, 2) := by decide +kernel
theorem dX4_held_64 : decode cX4_held 64 = .ok (.iload 7, 2) := by decide +kernel
theorem dX4_held_66 : decode cX4_held 66 = .ok (.invokevirtual 74, 3) := by decide +kernel
theorem dX4_held_69 : decode cX4_held 69 = .ok (.istore 8, 2) := by decide +kernel
theorem dX4_held_71 : decode cX4_held 71 = .ok (.iload 8, 2) := by decide +kernel
theorem dX4_held_73 : decode cX4_held 73 = .ok (.aload_n 3, 1) := by decide +kernel
theorem dX4_held_74 : decode cX4_held 74 = .ok (.arraylength, 1) := by decide +kernel
theorem dX4_held_75 : decode cX4_held 75 = .ok (.invokestatic 70, 3) := by decide +kernel
theorem dX4_held_78 : decode cX4_held 78 = .ok (.ifCond .eq 15, 3) := by decide +kernel
theorem dX4_held_81 : decode cX4_held 81 = .ok (.iload 5, 2) := by decide +kernel
theorem dX4_held_83 : decode cX4_held 83 = .ok (.aload_n 3, 1) := by decide +kernel
theorem dX4_held_84 : decode cX4_held 84 = .ok (.iload 8, 2) := by decide +kernel
theorem dX4_held_86 : decode cX4_held 86 = .ok (.iaload, 1) := by decide +kernel
theorem dX4_held_87 : decode cX4_held 87 = .ok (.invokestatic 58, 3) := by decide +kernel
theorem dX4_held_90 : decode cX4_held 90 = .ok (.goto 5, 3) := by decide +kernel
theorem dX4_held_93 : decode cX4_held 93 = .ok (.iload 5, 2) := by decide +kernel
theorem dX4_held_95 : decode cX4_held 95 = .ok (.istore 5, 2) := by decide +kernel
theorem dX4_held_97 : decode cX4_held 97 = .ok (.iinc 7 1, 3) := by decide +kernel
theorem dX4_held_100 : decode cX4_held 100 = .ok (.goto (-50), 3) := by decide +kernel
theorem dX4_held_103 : decode cX4_held 103 = .ok (.iinc 6 1, 3) := by decide +kernel
theorem dX4_held_106 : decode cX4_held 106 = .ok (.goto (-97), 3) := by decide +kernel
theorem dX4_held_109 : decode cX4_held 109 = .ok (.iload 4, 2) := by decide +kernel
theorem dX4_held_111 : decode cX4_held 111 = .ok (.iload 5, 2) := by decide +kernel
theorem dX4_held_113 : decode cX4_held 113 = .ok (.iadd, 1) := by decide +kernel
theorem dX4_held_114 : decode cX4_held 114 = .ok (.ireturn, 1) := by decide +kernel
theorem dX4_heap_0 : decode cX4_heap 0 = .ok (.iload_n 1, 1) := by decide +kernel
theorem dX4_heap_1 : decode cX4_heap 1 = .ok (.istore 4, 2) := by decide +kernel
theorem dX4_heap_3 : decode cX4_heap 3 = .ok (.iload 4, 2) := by decide +kernel
theorem dX4_heap_5 : decode cX4_heap 5 = .ok (.iload_n 2, 1) := by decide +kernel
theorem dX4_heap_6 : decode cX4_heap 6 = .ok (.if_icmp .gt 62, 3) := by decide +kernel
theorem dX4_heap_9 : decode cX4_heap 9 = .ok (.aload_n 0, 1) := by decide +kernel
theorem dX4_heap_10 : decode cX4_heap 10 = .ok (.iload 4, 2) := by decide +kernel
theorem dX4_heap_12 : decode cX4_heap 12 = .ok (.invokevirtual 64, 3) := by decide +kernel
theorem dX4_heap_15 : decode cX4_heap 15 = .ok (.istore 5, 2) := by decide +kernel
theorem dX4_heap_17 : decode cX4_heap 17 = .ok (.iload 5, 2) := by decide +kernel
theorem dX4_heap_19 : decode cX4_heap 19 = .ok (.aload_n 0, 1) := by decide +kernel
theorem dX4_heap_20 : decode cX4_heap 20 = .ok (.iload 4, 2) := by decide +kernel
theorem dX4_heap_22 : decode cX4_heap 22 = .ok (.invokevirtual 67, 3) := by decide +kernel
theorem dX4_heap_25 : decode cX4_heap 25 = .ok (.if_icmp .ge 37, 3) := by decide +kernel
theorem dX4_heap_28 : decode cX4_heap 28 = .ok (.aload_n 0, 1) := by decide +kernel
theorem dX4_heap_29 : decode cX4_heap 29 = .ok (.iload 4, 2) := by decide +kernel
theorem dX4_heap_31 : decode cX4_heap 31 = .ok (.iload 5, 2) := by decide +kernel
theorem dX4_heap_33 : decode cX4_heap 33 = .ok (.invokevirtual 74, 3) := by decide +kernel
theorem dX4_heap_36 : decode cX4_heap 36 = .ok (.istore 6, 2) := by decide +kernel
theorem dX4_heap_38 : decode cX4_heap 38 = .ok (.iload 6, 2) := by decide +kernel
theorem dX4_heap_40 : decode cX4_heap 40 = .ok (.aload_n 3, 1) := by decide +kernel
theorem dX4_heap_41 : decode cX4_heap 41 = .ok (.arraylength, 1) := by decide +kernel
theorem dX4_heap_42 : decode cX4_heap 42 = .ok (.invokestatic 70, 3) := by decide +kernel
theorem dX4_heap_45 : decode cX4_heap 45 = .ok (.ifCond .eq 11, 3) := by decide +kernel
theorem dX4_heap_48 : decode cX4_heap 48 = .ok (.aload_n 3, 1) := by decide +kernel
theorem dX4_heap_49 : decode cX4_heap 49 = .ok (.iload 6, 2) := by decide +kernel
theorem dX4_heap_51 : decode cX4_heap 51 = .ok (.dup2, 1) := by decide +kernel
theorem dX4_heap_52 : decode cX4_heap 52 = .ok (.iaload, 1) := by decide +kernel
theorem dX4_heap_53 : decode cX4_heap 53 = .ok (.iconst 1, 1) := by decide +kernel
theorem dX4_heap_54 : decode cX4_heap 54 = .ok (.iadd, 1) := by decide +kernel
theorem dX4_heap_55 : decode cX4_heap 55 = .ok (.iastore, 1) := by decide +kernel
theorem dX4_heap_56 : decode cX4_heap 56 = .ok (.iinc 5 1, 3) := by decide +kernel
theorem dX4_heap_59 : decode cX4_heap 59 = .ok (.goto (-42), 3) := by decide +kernel
theorem dX4_heap_62 : decode cX4_heap 62 = .ok (.iinc 4 1, 3) := by decide +kernel
theorem dX4_heap_65 : decode cX4_heap 65 = .ok (.goto (-62), 3) := by decide +kernel
theorem dX4_heap_68 : decode cX4_heap 68 = .ok (.return_, 1) := by decide +kernel
theorem dX5_init_0 : decode cX5_init 0 = .ok (.aload_n 0, 1) := by decide +kernel
theorem dX5_init_1 : decode cX5_init 1 = .ok (.invokespecial 3, 3) := by decide +kernel
theorem dX5_init_4 : decode cX5_init 4 = .ok (.aload_n 0, 1) := by decide +kernel
theorem dX5_init_5 : decode cX5_init 5 = .ok (.bipush 64, 2) := by decide +kernel
theorem dX5_init_7 : decode cX5_init 7 = .ok (.newarray .int, 2) := by decide +kernel
theorem dX5_init_9 : decode cX5_init 9 = .ok (.putfield 9, 3) := by decide +kernel
theorem dX5_init_12 : decode cX5_init 12 = .ok (.aload_n 0, 1) := by decide +kernel
theorem dX5_init_13 : decode cX5_init 13 = .ok (.bipush 64, 2) := by decide +kernel
theorem dX5_init_15 : decode cX5_init 15 = .ok (.newarray .int, 2) := by decide +kernel
theorem dX5_init_17 : decode cX5_init 17 = .ok (.putfield 15, 3) := by decide +kernel
theorem dX5_init_20 : decode cX5_init 20 = .ok (.aload_n 0, 1) := by decide +kernel
theorem dX5_init_21 : decode cX5_init 21 = .ok (.iconst 0, 1) := by decide +kernel
theorem dX5_init_22 : decode cX5_init 22 = .ok (.putfield 18, 3) := by decide +kernel
theorem dX5_init_25 : decode cX5_init 25 = .ok (.aload_n 0, 1) := by decide +kernel
theorem dX5_init_26 : decode cX5_init 26 = .ok (.sipush 128, 3) := by decide +kernel
theorem dX5_init_29 : decode cX5_init 29 = .ok (.newarray .int, 2) := by decide +kernel
theorem dX5_init_31 : decode cX5_init 31 = .ok (.putfield 22, 3) := by decide +kernel
theorem dX5_init_34 : decode cX5_init 34 = .ok (.aload_n 0, 1) := by decide +kernel
theorem dX5_init_35 : decode cX5_init 35 = .ok (.sipush 128, 3) := by decide +kernel
theorem dX5_init_38 : decode cX5_init 38 = .ok (.newarray .int, 2) := by decide +kernel
theorem dX5_init_40 : decode cX5_init 40 = .ok (.putfield 25, 3) := by decide +kernel
theorem dX5_init_43 : decode cX5_init 43 = .ok (.aload_n 0, 1) := by decide +kernel
theorem dX5_init_44 : decode cX5_init 44 = .ok (.iconst 0, 1) := by decide +kernel
theorem dX5_init_45 : decode cX5_init 45 = .ok (.putfield 28, 3) := by decide +kernel
theorem dX5_init_48 : decode cX5_init 48 = .ok (.aload_n 0, 1) := by decide +kernel
theorem dX5_init_49 : decode cX5_init 49 = .ok (.iconst 4, 1) := by decide +kernel
theorem dX5_init_50 : decode cX5_init 50 = .ok (.newarray .int, 2) := by decide +kernel
theorem dX5_init_52 : decode cX5_init 52 = .ok (.putfield 31, 3) := by decide +kernel
theorem dX5_init_55 : decode cX5_init 55 = .ok (.aload_n 0, 1) := by decide +kernel
theorem dX5_init_56 : decode cX5_init 56 = .ok (.iconst 0, 1) := by decide +kernel
theorem dX5_init_57 : decode cX5_init 57 = .ok (.putfield 34, 3) := by decide +kernel
theorem dX5_init_60 : decode cX5_init 60 = .ok (.aload_n 0, 1) := by decide +kernel
theorem dX5_init_61 : decode cX5_init 61 = .ok (.iconst 4, 1) := by decide +kernel
theorem dX5_init_62 : decode cX5_init 62 = .ok (.newarray .int, 2) := by decide +kernel
theorem dX5_init_64 : decode cX5_init 64 = .ok (.putfield 37, 3) := by decide +kernel
theorem dX5_init_67 : decode cX5_init 67 = .ok (.aload_n 0, 1) := by decide +kernel
theorem dX5_init_68 : decode cX5_init 68 = .ok (.iconst 0, 1) := by decide +kernel
theorem dX5_init_69 : decode cX5_init 69 = .ok (.putfield 40, 3) := by decide +kernel
theorem dX5_init_72 : decode cX5_init 72 = .ok (.return_, 1) := by decide +kernel
section
variable {d : Nat} {M : gM} {Z : Option Value → gM → Prop} {a0 a1 a2 a3 a4 a5 a6 a7 a8 a9 a10 a11 a12 : Option Value} {v s0 s1 s2 s3 s4 s5 s6 s7 s8 s9 s10 s11 : Value} {x y w : Int32} {o b u1 u2 : Nat}
/-! 40: X4_add (IIIIIII)V -/
theorem gd40 {pc : Nat} {r : Except _ _} (h : decode cX4_add pc = r) : decode (gby 40) pc = r := h
theorem z40_0 : Run d 40 0 [some (.ref o), a1, a2, a3, a4, a5, a6, a7] [] M 0 0 Z ↔ Run d 40 1 [some (.ref o), a1, a2, a3, a4, a5, a6, a7] [.ref o] M 0 0 Z := R_local (gd40 dX4_add_0) rfl rfl rfl
theorem z40_1 : Run d 40 1 [a0, a1, a2, a3, a4, a5, a6, a7] [.ref o] M 0 0 Z ↔ gObj M o 4 ∧ Run d 40 4 [a0, a1, a2, a3, a4, a5, a6, a7] [.int (M.1 o 8)] M 0 0 Z := R_getI (gd40 dX4_add_1) rfl gf_4_36 rfl
theorem z40_4 : Run d 40 4 [a0, a1, a2, a3, a4, a5, a6, a7] [.int x] M 0 0 Z ↔ (x < 0 → Run d 40 17 [a0, a1, a2, a3, a4, a5, a6, a7] [] M 0 0 Z) ∧ (¬ (x < 0) → Run d 40 7 [a0, a1, a2, a3, a4, a5, a6, a7] [] M 0 0 Z) := R_if (gd40 dX4_add_4) (show gTgt 4 13 = some 17 by decide) gIf_lt
theorem z40_7 : Run d 40 7 [some (.ref o), a1, a2, a3, a4, a5, a6, a7] [] M 0 0 Z ↔ Run d 40 8 [some (.ref o), a1, a2, a3, a4, a5, a6, a7] [.ref o] M 0 0 Z := R_local (gd40 dX4_add_7) rfl rfl rfl
theorem z40_8 : Run d 40 8 [a0, a1, a2, a3, a4, a5, a6, a7] [.ref o] M 0 0 Z ↔ gObj M o 4 ∧ Run d 40 11 [a0, a1, a2, a3, a4, a5, a6, a7] [.int (M.1 o 8)] M 0 0 Z := R_getI (gd40 dX4_add_8) rfl gf_4_36 rfl
theorem z40_11 : Run d 40 11 [a0, a1, a2, a3, a4, a5, a6, a7] [s0] M 0 0 Z ↔ Run d 40 14 [a0, a1, a2, a3, a4, a5, a6, a7] [.int 400, s0] M 0 0 Z := R_sipush (gd40 dX4_add_11) (by decide)
theorem z40_14 : Run d 40 14 [a0, a1, a2, a3, a4, a5, a6, a7] [.int y, .int x] M 0 0 Z ↔ (x < y → Run d 40 18 [a0, a1, a2, a3, a4, a5, a6, a7] [] M 0 0 Z) ∧ (¬ (x < y) → Run d 40 17 [a0, a1, a2, a3, a4, a5, a6, a7] [] M 0 0 Z) := R_icmp (gd40 dX4_add_14) (show gTgt 14 4 = some 18 by decide) gIf_lt
theorem z40_17 : Run d 40 17 [a0, a1, a2, a3, a4, a5, a6, a7] [] M 0 0 Z ↔ Z none M := R_vret (gd40 dX4_add_17) rfl
theorem z40_18 : Run d 40 18 [some (.ref o), a1, a2, a3, a4, a5, a6, a7] [] M 0 0 Z ↔ Run d 40 19 [some (.ref o), a1, a2, a3, a4, a5, a6, a7] [.ref o] M 0 0 Z := R_local (gd40 dX4_add_18) rfl rfl rfl
theorem z40_19 : Run d 40 19 [a0, a1, a2, a3, a4, a5, a6, a7] [.ref o] M 0 0 Z ↔ gObj M o 4 ∧ Run d 40 22 [a0, a1, a2, a3, a4, a5, a6, a7] [va_rf (M.2.1 o 0)] M 0 0 Z := R_getR (gd40 dX4_add_19) rfl gf_4_9 rfl
theorem z40_22 : Run d 40 22 [some (.ref o), a1, a2, a3, a4, a5, a6, a7] [s0] M 0 0 Z ↔ Run d 40 23 [some (.ref o), a1, a2, a3, a4, a5, a6, a7] [.ref o, s0] M 0 0 Z := R_local (gd40 dX4_add_22) rfl rfl rfl
theorem z40_23 : Run d 40 23 [a0, a1, a2, a3, a4, a5, a6, a7] [.ref o, s0] M 0 0 Z ↔ gObj M o 4 ∧ Run d 40 26 [a0, a1, a2, a3, a4, a5, a6, a7] [.int (M.1 o 8), s0] M 0 0 Z := R_getI (gd40 dX4_add_23) rfl gf_4_36 rfl
theorem z40_26 : Run d 40 26 [a0, some (.int x), a2, a3, a4, a5, a6, a7] [s1, s0] M 0 0 Z ↔ Run d 40 27 [a0, some (.int x), a2, a3, a4, a5, a6, a7] [.int x, s1, s0] M 0 0 Z := R_local (gd40 dX4_add_26) rfl rfl rfl
theorem z40_27 : Run d 40 27 [a0, a1, a2, a3, a4, a5, a6, a7] [.int y, .int x, .ref o] M 0 0 Z ↔ gAr M o 0 ∧ gIn x (gLen M o) = true ∧ Run d 40 28 [a0, a1, a2, a3, a4, a5, a6, a7] [] (gsI M o x.toNatClampNeg y) 0 0 Z := R_iast (gd40 dX4_add_27)
theorem z40_28 : Run d 40 28 [some (.ref o), a1, a2, a3, a4, a5, a6, a7] [] M 0 0 Z ↔ Run d 40 29 [some (.ref o), a1, a2, a3, a4, a5, a6, a7] [.ref o] M 0 0 Z := R_local (gd40 dX4_add_28) rfl rfl rfl
theorem z40_29 : Run d 40 29 [a0, a1, a2, a3, a4, a5, a6, a7] [.ref o] M 0 0 Z ↔ gObj M o 4 ∧ Run d 40 32 [a0, a1, a2, a3, a4, a5, a6, a7] [va_rf (M.2.1 o 1)] M 0 0 Z := R_getR (gd40 dX4_add_29) rfl gf_4_15 rfl
theorem z40_32 : Run d 40 32 [some (.ref o), a1, a2, a3, a4, a5, a6, a7] [s0] M 0 0 Z ↔ Run d 40 33 [some (.ref o), a1, a2, a3, a4, a5, a6, a7] [.ref o, s0] M 0 0 Z := R_local (gd40 dX4_add_32) rfl rfl rfl
theorem z40_33 : Run d 40 33 [a0, a1, a2, a3, a4, a5, a6, a7] [.ref o, s0] M 0 0 Z ↔ gObj M o 4 ∧ Run d 40 36 [a0, a1, a2, a3, a4, a5, a6, a7] [.int (M.1 o 8), s0] M 0 0 Z := R_getI (gd40 dX4_add_33) rfl gf_4_36 rfl
theorem z40_36 : Run d 40 36 [a0, a1, some (.int x), a3, a4, a5, a6, a7] [s1, s0] M 0 0 Z ↔ Run d 40 37 [a0, a1, some (.int x), a3, a4, a5, a6, a7] [.int x, s1, s0] M 0 0 Z := R_local (gd40 dX4_add_36) rfl rfl rfl
theorem z40_37 : Run d 40 37 [a0, a1, a2, a3, a4, a5, a6, a7] [.int y, .int x, .ref o] M 0 0 Z ↔ gAr M o 0 ∧ gIn x (gLen M o) = true ∧ Run d 40 38 [a0, a1, a2, a3, a4, a5, a6, a7] [] (gsI M o x.toNatClampNeg y) 0 0 Z := R_iast (gd40 dX4_add_37)
theorem z40_38 : Run d 40 38 [some (.ref o), a1, a2, a3, a4, a5, a6, a7] [] M 0 0 Z ↔ Run d 40 39 [some (.ref o), a1, a2, a3, a4, a5, a6, a7] [.ref o] M 0 0 Z := R_local (gd40 dX4_add_38) rfl rfl rfl
theorem z40_39 : Run d 40 39 [a0, a1, a2, a3, a4, a5, a6, a7] [.ref o] M 0 0 Z ↔ gObj M o 4 ∧ Run d 40 42 [a0, a1, a2, a3, a4, a5, a6, a7] [va_rf (M.2.1 o 2)] M 0 0 Z := R_getR (gd40 dX4_add_39) rfl gf_4_18 rfl
theorem z40_42 : Run d 40 42 [some (.ref o), a1, a2, a3, a4, a5, a6, a7] [s0] M 0 0 Z ↔ Run d 40 43 [some (.ref o), a1, a2, a3, a4, a5, a6, a7] [.ref o, s0] M 0 0 Z := R_local (gd40 dX4_add_42) rfl rfl rfl
theorem z40_43 : Run d 40 43 [a0, a1, a2, a3, a4, a5, a6, a7] [.ref o, s0] M 0 0 Z ↔ gObj M o 4 ∧ Run d 40 46 [a0, a1, a2, a3, a4, a5, a6, a7] [.int (M.1 o 8), s0] M 0 0 Z := R_getI (gd40 dX4_add_43) rfl gf_4_36 rfl
theorem z40_46 : Run d 40 46 [a0, a1, a2, some (.int x), a4, a5, a6, a7] [s1, s0] M 0 0 Z ↔ Run d 40 47 [a0, a1, a2, some (.int x), a4, a5, a6, a7] [.int x, s1, s0] M 0 0 Z := R_local (gd40 dX4_add_46) rfl rfl rfl
theorem z40_47 : Run d 40 47 [a0, a1, a2, a3, a4, a5, a6, a7] [.int y, .int x, .ref o] M 0 0 Z ↔ gAr M o 0 ∧ gIn x (gLen M o) = true ∧ Run d 40 48 [a0, a1, a2, a3, a4, a5, a6, a7] [] (gsI M o x.toNatClampNeg y) 0 0 Z := R_iast (gd40 dX4_add_47)
theorem z40_48 : Run d 40 48 [some (.ref o), a1, a2, a3, a4, a5, a6, a7] [] M 0 0 Z ↔ Run d 40 49 [some (.ref o), a1, a2, a3, a4, a5, a6, a7] [.ref o] M 0 0 Z := R_local (gd40 dX4_add_48) rfl rfl rfl
theorem z40_49 : Run d 40 49 [a0, a1, a2, a3, a4, a5, a6, a7] [.ref o] M 0 0 Z ↔ gObj M o 4 ∧ Run d 40 52 [a0, a1, a2, a3, a4, a5, a6, a7] [va_rf (M.2.1 o 3)] M 0 0 Z := R_getR (gd40 dX4_add_49) rfl gf_4_21 rfl
theorem z40_52 : Run d 40 52 [some (.ref o), a1, a2, a3, a4, a5, a6, a7] [s0] M 0 0 Z ↔ Run d 40 53 [some (.ref o), a1, a2, a3, a4, a5, a6, a7] [.ref o, s0] M 0 0 Z := R_local (gd40 dX4_add_52) rfl rfl rfl
theorem z40_53 : Run d 40 53 [a0, a1, a2, a3, a4, a5, a6, a7] [.ref o, s0] M 0 0 Z ↔ gObj M o 4 ∧ Run d 40 56 [a0, a1, a2, a3, a4, a5, a6, a7] [.int (M.1 o 8), s0] M 0 0 Z := R_getI (gd40 dX4_add_53) rfl gf_4_36 rfl
theorem z40_56 : Run d 40 56 [a0, a1, a2, a3, some (.int x), a5, a6, a7] [s1, s0] M 0 0 Z ↔ Run d 40 58 [a0, a1, a2, a3, some (.int x), a5, a6, a7] [.int x, s1, s0] M 0 0 Z := R_local (gd40 dX4_add_56) rfl rfl rfl
theorem z40_58 : Run d 40 58 [a0, a1, a2, a3, a4, a5, a6, a7] [.int y, .int x, .ref o] M 0 0 Z ↔ gAr M o 0 ∧ gIn x (gLen M o) = true ∧ Run d 40 59 [a0, a1, a2, a3, a4, a5, a6, a7] [] (gsI M o x.toNatClampNeg y) 0 0 Z := R_iast (gd40 dX4_add_58)
theorem z40_59 : Run d 40 59 [some (.ref o), a1, a2, a3, a4, a5, a6, a7] [] M 0 0 Z ↔ Run d 40 60 [some (.ref o), a1, a2, a3, a4, a5, a6, a7] [.ref o] M 0 0 Z := R_local (gd40 dX4_add_59) rfl rfl rfl
theorem z40_60 : Run d 40 60 [a0, a1, a2, a3, a4, a5, a6, a7] [.ref o] M 0 0 Z ↔ gObj M o 4 ∧ Run d 40 63 [a0, a1, a2, a3, a4, a5, a6, a7] [va_rf (M.2.1 o 4)] M 0 0 Z := R_getR (gd40 dX4_add_60) rfl gf_4_24 rfl
theorem z40_63 : Run d 40 63 [some (.ref o), a1, a2, a3, a4, a5, a6, a7] [s0] M 0 0 Z ↔ Run d 40 64 [some (.ref o), a1, a2, a3, a4, a5, a6, a7] [.ref o, s0] M 0 0 Z := R_local (gd40 dX4_add_63) rfl rfl rfl
theorem z40_64 : Run d 40 64 [a0, a1, a2, a3, a4, a5, a6, a7] [.ref o, s0] M 0 0 Z ↔ gObj M o 4 ∧ Run d 40 67 [a0, a1, a2, a3, a4, a5, a6, a7] [.int (M.1 o 8), s0] M 0 0 Z := R_getI (gd40 dX4_add_64) rfl gf_4_36 rfl
theorem z40_67 : Run d 40 67 [a0, a1, a2, a3, a4, some (.int x), a6, a7] [s1, s0] M 0 0 Z ↔ Run d 40 69 [a0, a1, a2, a3, a4, some (.int x), a6, a7] [.int x, s1, s0] M 0 0 Z := R_local (gd40 dX4_add_67) rfl rfl rfl
theorem z40_69 : Run d 40 69 [a0, a1, a2, a3, a4, a5, a6, a7] [.int y, .int x, .ref o] M 0 0 Z ↔ gAr M o 0 ∧ gIn x (gLen M o) = true ∧ Run d 40 70 [a0, a1, a2, a3, a4, a5, a6, a7] [] (gsI M o x.toNatClampNeg y) 0 0 Z := R_iast (gd40 dX4_add_69)
theorem z40_70 : Run d 40 70 [some (.ref o), a1, a2, a3, a4, a5, a6, a7] [] M 0 0 Z ↔ Run d 40 71 [some (.ref o), a1, a2, a3, a4, a5, a6, a7] [.ref o] M 0 0 Z := R_local (gd40 dX4_add_70) rfl rfl rfl
theorem z40_71 : Run d 40 71 [a0, a1, a2, a3, a4, a5, a6, a7] [.ref o] M 0 0 Z ↔ gObj M o 4 ∧ Run d 40 74 [a0, a1, a2, a3, a4, a5, a6, a7] [va_rf (M.2.1 o 5)] M 0 0 Z := R_getR (gd40 dX4_add_71) rfl gf_4_27 rfl
theorem z40_74 : Run d 40 74 [some (.ref o), a1, a2, a3, a4, a5, a6, a7] [s0] M 0 0 Z ↔ Run d 40 75 [some (.ref o), a1, a2, a3, a4, a5, a6, a7] [.ref o, s0] M 0 0 Z := R_local (gd40 dX4_add_74) rfl rfl rfl
theorem z40_75 : Run d 40 75 [a0, a1, a2, a3, a4, a5, a6, a7] [.ref o, s0] M 0 0 Z ↔ gObj M o 4 ∧ Run d 40 78 [a0, a1, a2, a3, a4, a5, a6, a7] [.int (M.1 o 8), s0] M 0 0 Z := R_getI (gd40 dX4_add_75) rfl gf_4_36 rfl
theorem z40_78 : Run d 40 78 [a0, a1, a2, a3, a4, a5, some (.int x), a7] [s1, s0] M 0 0 Z ↔ Run d 40 80 [a0, a1, a2, a3, a4, a5, some (.int x), a7] [.int x, s1, s0] M 0 0 Z := R_local (gd40 dX4_add_78) rfl rfl rfl
theorem z40_80 : Run d 40 80 [a0, a1, a2, a3, a4, a5, a6, a7] [.int y, .int x, .ref o] M 0 0 Z ↔ gAr M o 0 ∧ gIn x (gLen M o) = true ∧ Run d 40 81 [a0, a1, a2, a3, a4, a5, a6, a7] [] (gsI M o x.toNatClampNeg y) 0 0 Z := R_iast (gd40 dX4_add_80)
theorem z40_81 : Run d 40 81 [some (.ref o), a1, a2, a3, a4, a5, a6, a7] [] M 0 0 Z ↔ Run d 40 82 [some (.ref o), a1, a2, a3, a4, a5, a6, a7] [.ref o] M 0 0 Z := R_local (gd40 dX4_add_81) rfl rfl rfl
theorem z40_82 : Run d 40 82 [a0, a1, a2, a3, a4, a5, a6, a7] [.ref o] M 0 0 Z ↔ gObj M o 4 ∧ Run d 40 85 [a0, a1, a2, a3, a4, a5, a6, a7] [va_rf (M.2.1 o 6)] M 0 0 Z := R_getR (gd40 dX4_add_82) rfl gf_4_30 rfl
theorem z40_85 : Run d 40 85 [some (.ref o), a1, a2, a3, a4, a5, a6, a7] [s0] M 0 0 Z ↔ Run d 40 86 [some (.ref o), a1, a2, a3, a4, a5, a6, a7] [.ref o, s0] M 0 0 Z := R_local (gd40 dX4_add_85) rfl rfl rfl
theorem z40_86 : Run d 40 86 [a0, a1, a2, a3, a4, a5, a6, a7] [.ref o, s0] M 0 0 Z ↔ gObj M o 4 ∧ Run d 40 89 [a0, a1, a2, a3, a4, a5, a6, a7] [.int (M.1 o 8), s0] M 0 0 Z := R_getI (gd40 dX4_add_86) rfl gf_4_36 rfl
theorem z40_89 : Run d 40 89 [a0, a1, a2, a3, a4, a5, a6, some (.int x)] [s1, s0] M 0 0 Z ↔ Run d 40 91 [a0, a1, a2, a3, a4, a5, a6, some (.int x)] [.int x, s1, s0] M 0 0 Z := R_local (gd40 dX4_add_89) rfl rfl rfl
theorem z40_91 : Run d 40 91 [a0, a1, a2, a3, a4, a5, a6, a7] [.int y, .int x, .ref o] M 0 0 Z ↔ gAr M o 0 ∧ gIn x (gLen M o) = true ∧ Run d 40 92 [a0, a1, a2, a3, a4, a5, a6, a7] [] (gsI M o x.toNatClampNeg y) 0 0 Z := R_iast (gd40 dX4_add_91)
theorem z40_92 : Run d 40 92 [some (.ref o), a1, a2, a3, a4, a5, a6, a7] [] M 0 0 Z ↔ Run d 40 93 [some (.ref o), a1, a2, a3, a4, a5, a6, a7] [.ref o] M 0 0 Z := R_local (gd40 dX4_add_92) rfl rfl rfl
theorem z40_93 : Run d 40 93 [a0, a1, a2, a3, a4, a5, a6, a7] [.ref o] M 0 0 Z ↔ gObj M o 4 ∧ Run d 40 96 [a0, a1, a2, a3, a4, a5, a6, a7] [va_rf (M.2.1 o 7)] M 0 0 Z := R_getR (gd40 dX4_add_93) rfl gf_4_33 rfl
theorem z40_96 : Run d 40 96 [some (.ref o), a1, a2, a3, a4, a5, a6, a7] [s0] M 0 0 Z ↔ Run d 40 97 [some (.ref o), a1, a2, a3, a4, a5, a6, a7] [.ref o, s0] M 0 0 Z := R_local (gd40 dX4_add_96) rfl rfl rfl
theorem z40_97 : Run d 40 97 [a0, a1, a2, a3, a4, a5, a6, a7] [.ref o, s0] M 0 0 Z ↔ gObj M o 4 ∧ Run d 40 100 [a0, a1, a2, a3, a4, a5, a6, a7] [.int (M.1 o 8), s0] M 0 0 Z := R_getI (gd40 dX4_add_97) rfl gf_4_36 rfl
theorem z40_100 : Run d 40 100 [a0, a1, a2, a3, a4, a5, a6, a7] [s1, s0] M 0 0 Z ↔ Run d 40 101 [a0, a1, a2, a3, a4, a5, a6, a7] [.int 0, s1, s0] M 0 0 Z := R_iconst (gd40 dX4_add_100) (by decide)
theorem z40_101 : Run d 40 101 [a0, a1, a2, a3, a4, a5, a6, a7] [.int y, .int x, .ref o] M 0 0 Z ↔ gAr M o 0 ∧ gIn x (gLen M o) = true ∧ Run d 40 102 [a0, a1, a2, a3, a4, a5, a6, a7] [] (gsI M o x.toNatClampNeg y) 0 0 Z := R_iast (gd40 dX4_add_101)
theorem z40_102 : Run d 40 102 [some (.ref o), a1, a2, a3, a4, a5, a6, a7] [] M 0 0 Z ↔ Run d 40 103 [some (.ref o), a1, a2, a3, a4, a5, a6, a7] [.ref o] M 0 0 Z := R_local (gd40 dX4_add_102) rfl rfl rfl
theorem z40_103 : Run d 40 103 [a0, a1, a2, a3, a4, a5, a6, a7] [.ref o] M 0 0 Z ↔ Run d 40 104 [a0, a1, a2, a3, a4, a5, a6, a7] [.ref o, .ref o] M 0 0 Z := R_arith (gd40 dX4_add_103) rfl
theorem z40_104 : Run d 40 104 [a0, a1, a2, a3, a4, a5, a6, a7] [.ref o, s0] M 0 0 Z ↔ gObj M o 4 ∧ Run d 40 107 [a0, a1, a2, a3, a4, a5, a6, a7] [.int (M.1 o 8), s0] M 0 0 Z := R_getI (gd40 dX4_add_104) rfl gf_4_36 rfl
theorem z40_107 : Run d 40 107 [a0, a1, a2, a3, a4, a5, a6, a7] [s1, s0] M 0 0 Z ↔ Run d 40 108 [a0, a1, a2, a3, a4, a5, a6, a7] [.int 1, s1, s0] M 0 0 Z := R_iconst (gd40 dX4_add_107) (by decide)
theorem z40_108 : Run d 40 108 [a0, a1, a2, a3, a4, a5, a6, a7] [.int y, .int x, s0] M 0 0 Z ↔ Run d 40 109 [a0, a1, a2, a3, a4, a5, a6, a7] [.int (x + y), s0] M 0 0 Z := R_arith (gd40 dX4_add_108) rfl
theorem z40_109 : Run d 40 109 [a0, a1, a2, a3, a4, a5, a6, a7] [.int x, .ref o] M 0 0 Z ↔ gObj M o 4 ∧ Run d 40 112 [a0, a1, a2, a3, a4, a5, a6, a7] [] (gsI M o 8 x) 0 0 Z := R_putI (gd40 dX4_add_109) rfl gf_4_36 (Or.inl rfl) rfl
theorem z40_112 : Run d 40 112 [a0, a1, a2, a3, a4, a5, a6, a7] [] M 0 0 Z ↔ Z none M := R_vret (gd40 dX4_add_112) rfl
theorem e40 : Call (d + 1) 40 [s0, s1, s2, s3, s4, s5, s6, s7] M Z ↔ Run d 40 0 [some s0, some s1, some s2, some s3, some s4, some s5, some s6, some s7] [] M 0 0 Z := Call_iff (Nat.lt_of_lt_of_le (Nat.lt_succ_self 40) (Nat.le_of_ble_eq_true rfl)) (Nat.le_of_ble_eq_true rfl)
/-! 41: X4_has (I)Z -/
theorem gd41 {pc : Nat} {r : Except _ _} (h : decode cX4_has pc = r) : decode (gby 41) pc = r := h
theorem z41_0 : Run d 41 0 [a0, some (.int x)] [] M 0 0 Z ↔ Run d 41 1 [a0, some (.int x)] [.int x] M 0 0 Z := R_local (gd41 dX4_has_0) rfl rfl rfl
theorem z41_1 : Run d 41 1 [a0, a1] [.int x] M 0 0 Z ↔ (x < 0 → Run d 41 23 [a0, a1] [] M 0 0 Z) ∧ (¬ (x < 0) → Run d 41 4 [a0, a1] [] M 0 0 Z) := R_if (gd41 dX4_has_1) (show gTgt 1 22 = some 23 by decide) gIf_lt
theorem z41_4 : Run d 41 4 [a0, some (.int x)] [] M 0 0 Z ↔ Run d 41 5 [a0, some (.int x)] [.int x] M 0 0 Z := R_local (gd41 dX4_has_4) rfl rfl rfl
theorem z41_5 : Run d 41 5 [some (.ref o), a1] [s0] M 0 0 Z ↔ Run d 41 6 [some (.ref o), a1] [.ref o, s0] M 0 0 Z := R_local (gd41 dX4_has_5) rfl rfl rfl
theorem z41_6 : Run d 41 6 [a0, a1] [.ref o, s0] M 0 0 Z ↔ gObj M o 4 ∧ Run d 41 9 [a0, a1] [.int (M.1 o 8), s0] M 0 0 Z := R_getI (gd41 dX4_has_6) rfl gf_4_36 rfl
theorem z41_9 : Run d 41 9 [a0, a1] [.int y, .int x] M 0 0 Z ↔ (y ≤ x → Run d 41 23 [a0, a1] [] M 0 0 Z) ∧ (¬ (y ≤ x) → Run d 41 12 [a0, a1] [] M 0 0 Z) := R_icmp (gd41 dX4_has_9) (show gTgt 9 14 = some 23 by decide) gIf_ge
theorem z41_12 : Run d 41 12 [a0, some (.int x)] [] M 0 0 Z ↔ Run d 41 13 [a0, some (.int x)] [.int x] M 0 0 Z := R_local (gd41 dX4_has_12) rfl rfl rfl
theorem z41_13 : Run d 41 13 [a0, a1] [s0] M 0 0 Z ↔ Run d 41 16 [a0, a1] [.int 400, s0] M 0 0 Z := R_sipush (gd41 dX4_has_13) (by decide)
theorem z41_16 : Run d 41 16 [a0, a1] [.int y, .int x] M 0 0 Z ↔ (y ≤ x → Run d 41 23 [a0, a1] [] M 0 0 Z) ∧ (¬ (y ≤ x) → Run d 41 19 [a0, a1] [] M 0 0 Z) := R_icmp (gd41 dX4_has_16) (show gTgt 16 7 = some 23 by decide) gIf_ge
theorem z41_19 : Run d 41 19 [a0, a1] [] M 0 0 Z ↔ Run d 41 20 [a0, a1] [.int 1] M 0 0 Z := R_iconst (gd41 dX4_has_19) (by decide)
theorem z41_20 : Run d 41 20 [a0, a1] [s0] M 0 0 Z ↔ Run d 41 24 [a0, a1] [s0] M 0 0 Z := R_goto (gd41 dX4_has_20) (show gTgt 20 4 = some 24 by decide)
theorem z41_23 : Run d 41 23 [a0, a1] [] M 0 0 Z ↔ Run d 41 24 [a0, a1] [.int 0] M 0 0 Z := R_iconst (gd41 dX4_has_23) (by decide)
theorem z41_24 : Run d 41 24 [a0, a1] [.int x] M 0 0 Z ↔ (x = 0 ∨ x = 1) ∧ Z (some (.int x)) M := R_iretZ (gd41 dX4_has_24) rfl
theorem e41 : Call (d + 1) 41 [s0, s1] M Z ↔ Run d 41 0 [some s0, some s1] [] M 0 0 Z := Call_iff (Nat.lt_of_lt_of_le (Nat.lt_succ_self 41) (Nat.le_of_ble_eq_true rfl)) (Nat.le_of_ble_eq_true rfl)
/-! 42: X4_tuckLast ()Z -/
theorem gd42 {pc : Nat} {r : Except _ _} (h : decode cX4_tuckLast pc = r) : decode (gby 42) pc = r := h
theorem z42_0 : Run d 42 0 [some (.ref o)] [] M 0 0 Z ↔ Run d 42 1 [some (.ref o)] [.ref o] M 0 0 Z := R_local (gd42 dX4_tuckLast_0) rfl rfl rfl
theorem z42_1 : Run d 42 1 [some (.ref o)] [s0] M 0 0 Z ↔ Run d 42 2 [some (.ref o)] [.ref o, s0] M 0 0 Z := R_local (gd42 dX4_tuckLast_1) rfl rfl rfl
theorem z42_2 : Run d 42 2 [a0] [.ref o, s0] M 0 0 Z ↔ gObj M o 4 ∧ Run d 42 5 [a0] [.int (M.1 o 8), s0] M 0 0 Z := R_getI (gd42 dX4_tuckLast_2) rfl gf_4_36 rfl
theorem z42_5 : Run d 42 5 [a0] [s1, s0] M 0 0 Z ↔ Run d 42 6 [a0] [.int 1, s1, s0] M 0 0 Z := R_iconst (gd42 dX4_tuckLast_5) (by decide)
theorem z42_6 : Run d 42 6 [a0] [.int y, .int x, s0] M 0 0 Z ↔ Run d 42 7 [a0] [.int (x - y), s0] M 0 0 Z := R_arith (gd42 dX4_tuckLast_6) rfl
theorem z42_7 : Run d 42 7 [a0] [s1, .ref b] M 0 0 Z ↔ gObj M b 4 ∧ Call d 41 [.ref b, s1] M (fun r M1 => Run d 42 10 [a0] (r.toList ++ []) M1 0 0 Z) := R_callV (gd42 dX4_tuckLast_7) rfl rfl rfl rfl rfl rfl gc_4_40 rfl rfl (Nat.le_of_ble_eq_true rfl) (Nat.le_of_ble_eq_true rfl) rfl rfl (Nat.le_of_ble_eq_true rfl) (Nat.le_of_ble_eq_true rfl)
theorem z42_10 : Run d 42 10 [a0] [.int x] M 0 0 Z ↔ (¬ x = 0 → Run d 42 15 [a0] [] M 0 0 Z) ∧ (¬ (¬ x = 0) → Run d 42 13 [a0] [] M 0 0 Z) := R_if (gd42 dX4_tuckLast_10) (show gTgt 10 5 = some 15 by decide) gIf_ne
theorem z42_13 : Run d 42 13 [a0] [] M 0 0 Z ↔ Run d 42 14 [a0] [.int 0] M 0 0 Z := R_iconst (gd42 dX4_tuckLast_13) (by decide)
theorem z42_14 : Run d 42 14 [a0] [.int x] M 0 0 Z ↔ (x = 0 ∨ x = 1) ∧ Z (some (.int x)) M := R_iretZ (gd42 dX4_tuckLast_14) rfl
theorem z42_15 : Run d 42 15 [some (.ref o)] [] M 0 0 Z ↔ Run d 42 16 [some (.ref o)] [.ref o] M 0 0 Z := R_local (gd42 dX4_tuckLast_15) rfl rfl rfl
theorem z42_16 : Run d 42 16 [a0] [.ref o] M 0 0 Z ↔ gObj M o 4 ∧ Run d 42 19 [a0] [va_rf (M.2.1 o 7)] M 0 0 Z := R_getR (gd42 dX4_tuckLast_16) rfl gf_4_33 rfl
theorem z42_19 : Run d 42 19 [some (.ref o)] [s0] M 0 0 Z ↔ Run d 42 20 [some (.ref o)] [.ref o, s0] M 0 0 Z := R_local (gd42 dX4_tuckLast_19) rfl rfl rfl
theorem z42_20 : Run d 42 20 [a0] [.ref o, s0] M 0 0 Z ↔ gObj M o 4 ∧ Run d 42 23 [a0] [.int (M.1 o 8), s0] M 0 0 Z := R_getI (gd42 dX4_tuckLast_20) rfl gf_4_36 rfl
theorem z42_23 : Run d 42 23 [a0] [s1, s0] M 0 0 Z ↔ Run d 42 24 [a0] [.int 1, s1, s0] M 0 0 Z := R_iconst (gd42 dX4_tuckLast_23) (by decide)
theorem z42_24 : Run d 42 24 [a0] [.int y, .int x, s0] M 0 0 Z ↔ Run d 42 25 [a0] [.int (x - y), s0] M 0 0 Z := R_arith (gd42 dX4_tuckLast_24) rfl
theorem z42_25 : Run d 42 25 [a0] [.int y, .ref o] M 0 0 Z ↔ Run d 42 26 [a0] [.int y, .ref o, .int y, .ref o] M 0 0 Z := R_arith (gd42 dX4_tuckLast_25) rfl
theorem z42_26 : Run d 42 26 [a0] [.int x, .ref o, s1, s0] M 0 0 Z ↔ gAr M o 0 ∧ gIn x (gLen M o) = true ∧ Run d 42 27 [a0] [.int (M.1 o x.toNatClampNeg), s1, s0] M 0 0 Z := R_iald (gd42 dX4_tuckLast_26)
theorem z42_27 : Run d 42 27 [a0] [s2, s1, s0] M 0 0 Z ↔ Run d 42 28 [a0] [.int 1, s2, s1, s0] M 0 0 Z := R_iconst (gd42 dX4_tuckLast_27) (by decide)
theorem z42_28 : Run d 42 28 [a0] [.int y, .int x, s1, s0] M 0 0 Z ↔ Run d 42 29 [a0] [.int (x + y), s1, s0] M 0 0 Z := R_arith (gd42 dX4_tuckLast_28) rfl
theorem z42_29 : Run d 42 29 [a0] [.int y, .int x, .ref o] M 0 0 Z ↔ gAr M o 0 ∧ gIn x (gLen M o) = true ∧ Run d 42 30 [a0] [] (gsI M o x.toNatClampNeg y) 0 0 Z := R_iast (gd42 dX4_tuckLast_29)
theorem z42_30 : Run d 42 30 [a0] [] M 0 0 Z ↔ Run d 42 31 [a0] [.int 1] M 0 0 Z := R_iconst (gd42 dX4_tuckLast_30) (by decide)
theorem z42_31 : Run d 42 31 [a0] [.int x] M 0 0 Z ↔ (x = 0 ∨ x = 1) ∧ Z (some (.int x)) M := R_iretZ (gd42 dX4_tuckLast_31) rfl
theorem e42 : Call (d + 1) 42 [s0] M Z ↔ Run d 42 0 [some s0] [] M 0 0 Z := Call_iff (Nat.lt_of_lt_of_le (Nat.lt_succ_self 42) (Nat.le_of_ble_eq_true rfl)) (Nat.le_of_ble_eq_true rfl)
/-! 43: X4_told (II)I -/
theorem gd43 {pc : Nat} {r : Except _ _} (h : decode cX4_told pc = r) : decode (gby 43) pc = r := h
theorem z43_0 : Run d 43 0 [some (.ref o), a1, a2] [] M 0 0 Z ↔ Run d 43 1 [some (.ref o), a1, a2] [.ref o] M 0 0 Z := R_local (gd43 dX4_told_0) rfl rfl rfl
theorem z43_1 : Run d 43 1 [a0, some (.int x), a2] [s0] M 0 0 Z ↔ Run d 43 2 [a0, some (.int x), a2] [.int x, s0] M 0 0 Z := R_local (gd43 dX4_told_1) rfl rfl rfl
theorem z43_2 : Run d 43 2 [a0, a1, a2] [s1, .ref b] M 0 0 Z ↔ gObj M b 4 ∧ Call d 41 [.ref b, s1] M (fun r M1 => Run d 43 5 [a0, a1, a2] (r.toList ++ []) M1 0 0 Z) := R_callV (gd43 dX4_told_2) rfl rfl rfl rfl rfl rfl gc_4_40 rfl rfl (Nat.le_of_ble_eq_true rfl) (Nat.le_of_ble_eq_true rfl) rfl rfl (Nat.le_of_ble_eq_true rfl) (Nat.le_of_ble_eq_true rfl)
theorem z43_5 : Run d 43 5 [a0, a1, a2] [.int x] M 0 0 Z ↔ (¬ x = 0 → Run d 43 10 [a0, a1, a2] [] M 0 0 Z) ∧ (¬ (¬ x = 0) → Run d 43 8 [a0, a1, a2] [] M 0 0 Z) := R_if (gd43 dX4_told_5) (show gTgt 5 5 = some 10 by decide) gIf_ne
theorem z43_8 : Run d 43 8 [a0, a1, a2] [] M 0 0 Z ↔ Run d 43 9 [a0, a1, a2] [.int (-1)] M 0 0 Z := R_iconst (gd43 dX4_told_8) (by decide)
theorem z43_9 : Run d 43 9 [a0, a1, a2] [.int x] M 0 0 Z ↔ Z (some (.int x)) M := R_iret (gd43 dX4_told_9) rfl
theorem z43_10 : Run d 43 10 [a0, a1, some (.int x)] [] M 0 0 Z ↔ Run d 43 11 [a0, a1, some (.int x)] [.int x] M 0 0 Z := R_local (gd43 dX4_told_10) rfl rfl rfl
theorem z43_11 : Run d 43 11 [a0, a1, a2] [.int x] M 0 0 Z ↔ (x = 0 → Run d 43 52 [a0, a1, a2] [] M 0 0 Z) ∧ (¬ x = 0 → ((x = 1 → Run d 43 59 [a0, a1, a2] [] M 0 0 Z) ∧ (¬ x = 1 → ((x = 2 → Run d 43 66 [a0, a1, a2] [] M 0 0 Z) ∧ (¬ x = 2 → ((x = 3 → Run d 43 73 [a0, a1, a2] [] M 0 0 Z) ∧ (¬ x = 3 → ((x = 4 → Run d 43 80 [a0, a1, a2] [] M 0 0 Z) ∧ (¬ x = 4 → ((x = 5 → Run d 43 87 [a0, a1, a2] [] M 0 0 Z) ∧ (¬ x = 5 → ((x = 6 → Run d 43 94 [a0, a1, a2] [] M 0 0 Z) ∧ (¬ x = 6 → (Run d 43 101 [a0, a1, a2] [] M 0 0 Z)))))))))))))) := R_table (tbl := [(0, 52), (1, 59), (2, 66), (3, 73), (4, 80), (5, 87), (6, 94)]) (dt := 101) (gd43 dX4_told_11) (by decide) (by decide) (by decide)
theorem z43_52 : Run d 43 52 [some (.ref o), a1, a2] [] M 0 0 Z ↔ Run d 43 53 [some (.ref o), a1, a2] [.ref o] M 0 0 Z := R_local (gd43 dX4_told_52) rfl rfl rfl
theorem z43_53 : Run d 43 53 [a0, a1, a2] [.ref o] M 0 0 Z ↔ gObj M o 4 ∧ Run d 43 56 [a0, a1, a2] [va_rf (M.2.1 o 0)] M 0 0 Z := R_getR (gd43 dX4_told_53) rfl gf_4_9 rfl
theorem z43_56 : Run d 43 56 [a0, some (.int x), a2] [s0] M 0 0 Z ↔ Run d 43 57 [a0, some (.int x), a2] [.int x, s0] M 0 0 Z := R_local (gd43 dX4_told_56) rfl rfl rfl
theorem z43_57 : Run d 43 57 [a0, a1, a2] [.int x, .ref o] M 0 0 Z ↔ gAr M o 0 ∧ gIn x (gLen M o) = true ∧ Run d 43 58 [a0, a1, a2] [.int (M.1 o x.toNatClampNeg)] M 0 0 Z := R_iald (gd43 dX4_told_57)
theorem z43_58 : Run d 43 58 [a0, a1, a2] [.int x] M 0 0 Z ↔ Z (some (.int x)) M := R_iret (gd43 dX4_told_58) rfl
theorem z43_59 : Run d 43 59 [some (.ref o), a1, a2] [] M 0 0 Z ↔ Run d 43 60 [some (.ref o), a1, a2] [.ref o] M 0 0 Z := R_local (gd43 dX4_told_59) rfl rfl rfl
theorem z43_60 : Run d 43 60 [a0, a1, a2] [.ref o] M 0 0 Z ↔ gObj M o 4 ∧ Run d 43 63 [a0, a1, a2] [va_rf (M.2.1 o 1)] M 0 0 Z := R_getR (gd43 dX4_told_60) rfl gf_4_15 rfl
theorem z43_63 : Run d 43 63 [a0, some (.int x), a2] [s0] M 0 0 Z ↔ Run d 43 64 [a0, some (.int x), a2] [.int x, s0] M 0 0 Z := R_local (gd43 dX4_told_63) rfl rfl rfl
theorem z43_64 : Run d 43 64 [a0, a1, a2] [.int x, .ref o] M 0 0 Z ↔ gAr M o 0 ∧ gIn x (gLen M o) = true ∧ Run d 43 65 [a0, a1, a2] [.int (M.1 o x.toNatClampNeg)] M 0 0 Z := R_iald (gd43 dX4_told_64)
theorem z43_65 : Run d 43 65 [a0, a1, a2] [.int x] M 0 0 Z ↔ Z (some (.int x)) M := R_iret (gd43 dX4_told_65) rfl
theorem z43_66 : Run d 43 66 [some (.ref o), a1, a2] [] M 0 0 Z ↔ Run d 43 67 [some (.ref o), a1, a2] [.ref o] M 0 0 Z := R_local (gd43 dX4_told_66) rfl rfl rfl
theorem z43_67 : Run d 43 67 [a0, a1, a2] [.ref o] M 0 0 Z ↔ gObj M o 4 ∧ Run d 43 70 [a0, a1, a2] [va_rf (M.2.1 o 2)] M 0 0 Z := R_getR (gd43 dX4_told_67) rfl gf_4_18 rfl
theorem z43_70 : Run d 43 70 [a0, some (.int x), a2] [s0] M 0 0 Z ↔ Run d 43 71 [a0, some (.int x), a2] [.int x, s0] M 0 0 Z := R_local (gd43 dX4_told_70) rfl rfl rfl
theorem z43_71 : Run d 43 71 [a0, a1, a2] [.int x, .ref o] M 0 0 Z ↔ gAr M o 0 ∧ gIn x (gLen M o) = true ∧ Run d 43 72 [a0, a1, a2] [.int (M.1 o x.toNatClampNeg)] M 0 0 Z := R_iald (gd43 dX4_told_71)
theorem z43_72 : Run d 43 72 [a0, a1, a2] [.int x] M 0 0 Z ↔ Z (some (.int x)) M := R_iret (gd43 dX4_told_72) rfl
theorem z43_73 : Run d 43 73 [some (.ref o), a1, a2] [] M 0 0 Z ↔ Run d 43 74 [some (.ref o), a1, a2] [.ref o] M 0 0 Z := R_local (gd43 dX4_told_73) rfl rfl rfl
theorem z43_74 : Run d 43 74 [a0, a1, a2] [.ref o] M 0 0 Z ↔ gObj M o 4 ∧ Run d 43 77 [a0, a1, a2] [va_rf (M.2.1 o 3)] M 0 0 Z := R_getR (gd43 dX4_told_74) rfl gf_4_21 rfl
theorem z43_77 : Run d 43 77 [a0, some (.int x), a2] [s0] M 0 0 Z ↔ Run d 43 78 [a0, some (.int x), a2] [.int x, s0] M 0 0 Z := R_local (gd43 dX4_told_77) rfl rfl rfl
theorem z43_78 : Run d 43 78 [a0, a1, a2] [.int x, .ref o] M 0 0 Z ↔ gAr M o 0 ∧ gIn x (gLen M o) = true ∧ Run d 43 79 [a0, a1, a2] [.int (M.1 o x.toNatClampNeg)] M 0 0 Z := R_iald (gd43 dX4_told_78)
theorem z43_79 : Run d 43 79 [a0, a1, a2] [.int x] M 0 0 Z ↔ Z (some (.int x)) M := R_iret (gd43 dX4_told_79) rfl
theorem z43_80 : Run d 43 80 [some (.ref o), a1, a2] [] M 0 0 Z ↔ Run d 43 81 [some (.ref o), a1, a2] [.ref o] M 0 0 Z := R_local (gd43 dX4_told_80) rfl rfl rfl
theorem z43_81 : Run d 43 81 [a0, a1, a2] [.ref o] M 0 0 Z ↔ gObj M o 4 ∧ Run d 43 84 [a0, a1, a2] [va_rf (M.2.1 o 4)] M 0 0 Z := R_getR (gd43 dX4_told_81) rfl gf_4_24 rfl
theorem z43_84 : Run d 43 84 [a0, some (.int x), a2] [s0] M 0 0 Z ↔ Run d 43 85 [a0, some (.int x), a2] [.int x, s0] M 0 0 Z := R_local (gd43 dX4_told_84) rfl rfl rfl
theorem z43_85 : Run d 43 85 [a0, a1, a2] [.int x, .ref o] M 0 0 Z ↔ gAr M o 0 ∧ gIn x (gLen M o) = true ∧ Run d 43 86 [a0, a1, a2] [.int (M.1 o x.toNatClampNeg)] M 0 0 Z := R_iald (gd43 dX4_told_85)
theorem z43_86 : Run d 43 86 [a0, a1, a2] [.int x] M 0 0 Z ↔ Z (some (.int x)) M := R_iret (gd43 dX4_told_86) rfl
theorem z43_87 : Run d 43 87 [some (.ref o), a1, a2] [] M 0 0 Z ↔ Run d 43 88 [some (.ref o), a1, a2] [.ref o] M 0 0 Z := R_local (gd43 dX4_told_87) rfl rfl rfl
theorem z43_88 : Run d 43 88 [a0, a1, a2] [.ref o] M 0 0 Z ↔ gObj M o 4 ∧ Run d 43 91 [a0, a1, a2] [va_rf (M.2.1 o 5)] M 0 0 Z := R_getR (gd43 dX4_told_88) rfl gf_4_27 rfl
theorem z43_91 : Run d 43 91 [a0, some (.int x), a2] [s0] M 0 0 Z ↔ Run d 43 92 [a0, some (.int x), a2] [.int x, s0] M 0 0 Z := R_local (gd43 dX4_told_91) rfl rfl rfl
theorem z43_92 : Run d 43 92 [a0, a1, a2] [.int x, .ref o] M 0 0 Z ↔ gAr M o 0 ∧ gIn x (gLen M o) = true ∧ Run d 43 93 [a0, a1, a2] [.int (M.1 o x.toNatClampNeg)] M 0 0 Z := R_iald (gd43 dX4_told_92)
theorem z43_93 : Run d 43 93 [a0, a1, a2] [.int x] M 0 0 Z ↔ Z (some (.int x)) M := R_iret (gd43 dX4_told_93) rfl
theorem z43_94 : Run d 43 94 [some (.ref o), a1, a2] [] M 0 0 Z ↔ Run d 43 95 [some (.ref o), a1, a2] [.ref o] M 0 0 Z := R_local (gd43 dX4_told_94) rfl rfl rfl
theorem z43_95 : Run d 43 95 [a0, a1, a2] [.ref o] M 0 0 Z ↔ gObj M o 4 ∧ Run d 43 98 [a0, a1, a2] [va_rf (M.2.1 o 6)] M 0 0 Z := R_getR (gd43 dX4_told_95) rfl gf_4_30 rfl
theorem z43_98 : Run d 43 98 [a0, some (.int x), a2] [s0] M 0 0 Z ↔ Run d 43 99 [a0, some (.int x), a2] [.int x, s0] M 0 0 Z := R_local (gd43 dX4_told_98) rfl rfl rfl
theorem z43_99 : Run d 43 99 [a0, a1, a2] [.int x, .ref o] M 0 0 Z ↔ gAr M o 0 ∧ gIn x (gLen M o) = true ∧ Run d 43 100 [a0, a1, a2] [.int (M.1 o x.toNatClampNeg)] M 0 0 Z := R_iald (gd43 dX4_told_99)
theorem z43_100 : Run d 43 100 [a0, a1, a2] [.int x] M 0 0 Z ↔ Z (some (.int x)) M := R_iret (gd43 dX4_told_100) rfl
theorem z43_101 : Run d 43 101 [a0, a1, a2] [] M 0 0 Z ↔ Run d 43 102 [a0, a1, a2] [.int (-1)] M 0 0 Z := R_iconst (gd43 dX4_told_101) (by decide)
theorem z43_102 : Run d 43 102 [a0, a1, a2] [.int x] M 0 0 Z ↔ Z (some (.int x)) M := R_iret (gd43 dX4_told_102) rfl
theorem e43 : Call (d + 1) 43 [s0, s1, s2] M Z ↔ Run d 43 0 [some s0, some s1, some s2] [] M 0 0 Z := Call_iff (Nat.lt_of_lt_of_le (Nat.lt_succ_self 43) (Nat.le_of_ble_eq_true rfl)) (Nat.le_of_ble_eq_true rfl)
/-! 44: X4_lies (III)Z -/
theorem gd44 {pc : Nat} {r : Except _ _} (h : decode cX4_lies pc = r) : decode (gby 44) pc = r := h
theorem z44_0 : Run d 44 0 [some (.ref o), a1, a2, a3] [] M 0 0 Z ↔ Run d 44 1 [some (.ref o), a1, a2, a3] [.ref o] M 0 0 Z := R_local (gd44 dX4_lies_0) rfl rfl rfl
theorem z44_1 : Run d 44 1 [a0, some (.int x), a2, a3] [s0] M 0 0 Z ↔ Run d 44 2 [a0, some (.int x), a2, a3] [.int x, s0] M 0 0 Z := R_local (gd44 dX4_lies_1) rfl rfl rfl
theorem z44_2 : Run d 44 2 [a0, a1, a2, a3] [s1, .ref b] M 0 0 Z ↔ gObj M b 4 ∧ Call d 41 [.ref b, s1] M (fun r M1 => Run d 44 5 [a0, a1, a2, a3] (r.toList ++ []) M1 0 0 Z) := R_callV (gd44 dX4_lies_2) rfl rfl rfl rfl rfl rfl gc_4_40 rfl rfl (Nat.le_of_ble_eq_true rfl) (Nat.le_of_ble_eq_true rfl) rfl rfl (Nat.le_of_ble_eq_true rfl) (Nat.le_of_ble_eq_true rfl)
theorem z44_5 : Run d 44 5 [a0, a1, a2, a3] [.int x] M 0 0 Z ↔ (x = 0 → Run d 44 49 [a0, a1, a2, a3] [] M 0 0 Z) ∧ (¬ (x = 0) → Run d 44 8 [a0, a1, a2, a3] [] M 0 0 Z) := R_if (gd44 dX4_lies_5) (show gTgt 5 44 = some 49 by decide) gIf_eq
theorem z44_8 : Run d 44 8 [some (.ref o), a1, a2, a3] [] M 0 0 Z ↔ Run d 44 9 [some (.ref o), a1, a2, a3] [.ref o] M 0 0 Z := R_local (gd44 dX4_lies_8) rfl rfl rfl
theorem z44_9 : Run d 44 9 [a0, a1, a2, a3] [.ref o] M 0 0 Z ↔ gObj M o 4 ∧ Run d 44 12 [a0, a1, a2, a3] [va_rf (M.2.1 o 2)] M 0 0 Z := R_getR (gd44 dX4_lies_9) rfl gf_4_18 rfl
theorem z44_12 : Run d 44 12 [a0, some (.int x), a2, a3] [s0] M 0 0 Z ↔ Run d 44 13 [a0, some (.int x), a2, a3] [.int x, s0] M 0 0 Z := R_local (gd44 dX4_lies_12) rfl rfl rfl
theorem z44_13 : Run d 44 13 [a0, a1, a2, a3] [.int x, .ref o] M 0 0 Z ↔ gAr M o 0 ∧ gIn x (gLen M o) = true ∧ Run d 44 14 [a0, a1, a2, a3] [.int (M.1 o x.toNatClampNeg)] M 0 0 Z := R_iald (gd44 dX4_lies_13)
theorem z44_14 : Run d 44 14 [a0, a1, a2, some (.int x)] [s0] M 0 0 Z ↔ Run d 44 15 [a0, a1, a2, some (.int x)] [.int x, s0] M 0 0 Z := R_local (gd44 dX4_lies_14) rfl rfl rfl
theorem z44_15 : Run d 44 15 [a0, a1, a2, a3] [.int y, .int x] M 0 0 Z ↔ (¬ x = y → Run d 44 49 [a0, a1, a2, a3] [] M 0 0 Z) ∧ (¬ (¬ x = y) → Run d 44 18 [a0, a1, a2, a3] [] M 0 0 Z) := R_icmp (gd44 dX4_lies_15) (show gTgt 15 34 = some 49 by decide) gIf_ne
theorem z44_18 : Run d 44 18 [a0, a1, some (.int x), a3] [] M 0 0 Z ↔ Run d 44 19 [a0, a1, some (.int x), a3] [.int x] M 0 0 Z := R_local (gd44 dX4_lies_18) rfl rfl rfl
theorem z44_19 : Run d 44 19 [some (.ref o), a1, a2, a3] [s0] M 0 0 Z ↔ Run d 44 20 [some (.ref o), a1, a2, a3] [.ref o, s0] M 0 0 Z := R_local (gd44 dX4_lies_19) rfl rfl rfl
theorem z44_20 : Run d 44 20 [a0, a1, a2, a3] [.ref o, s0] M 0 0 Z ↔ gObj M o 4 ∧ Run d 44 23 [a0, a1, a2, a3] [va_rf (M.2.1 o 1), s0] M 0 0 Z := R_getR (gd44 dX4_lies_20) rfl gf_4_15 rfl
theorem z44_23 : Run d 44 23 [a0, some (.int x), a2, a3] [s1, s0] M 0 0 Z ↔ Run d 44 24 [a0, some (.int x), a2, a3] [.int x, s1, s0] M 0 0 Z := R_local (gd44 dX4_lies_23) rfl rfl rfl
theorem z44_24 : Run d 44 24 [a0, a1, a2, a3] [.int x, .ref o, s0] M 0 0 Z ↔ gAr M o 0 ∧ gIn x (gLen M o) = true ∧ Run d 44 25 [a0, a1, a2, a3] [.int (M.1 o x.toNatClampNeg), s0] M 0 0 Z := R_iald (gd44 dX4_lies_24)
theorem z44_25 : Run d 44 25 [a0, a1, a2, a3] [.int y, .int x] M 0 0 Z ↔ (x < y → Run d 44 49 [a0, a1, a2, a3] [] M 0 0 Z) ∧ (¬ (x < y) → Run d 44 28 [a0, a1, a2, a3] [] M 0 0 Z) := R_icmp (gd44 dX4_lies_25) (show gTgt 25 24 = some 49 by decide) gIf_lt
theorem z44_28 : Run d 44 28 [a0, a1, some (.int x), a3] [] M 0 0 Z ↔ Run d 44 29 [a0, a1, some (.int x), a3] [.int x] M 0 0 Z := R_local (gd44 dX4_lies_28) rfl rfl rfl
theorem z44_29 : Run d 44 29 [some (.ref o), a1, a2, a3] [s0] M 0 0 Z ↔ Run d 44 30 [some (.ref o), a1, a2, a3] [.ref o, s0] M 0 0 Z := R_local (gd44 dX4_lies_29) rfl rfl rfl
theorem z44_30 : Run d 44 30 [a0, a1, a2, a3] [.ref o, s0] M 0 0 Z ↔ gObj M o 4 ∧ Run d 44 33 [a0, a1, a2, a3] [va_rf (M.2.1 o 1), s0] M 0 0 Z := R_getR (gd44 dX4_lies_30) rfl gf_4_15 rfl
theorem z44_33 : Run d 44 33 [a0, some (.int x), a2, a3] [s1, s0] M 0 0 Z ↔ Run d 44 34 [a0, some (.int x), a2, a3] [.int x, s1, s0] M 0 0 Z := R_local (gd44 dX4_lies_33) rfl rfl rfl
theorem z44_34 : Run d 44 34 [a0, a1, a2, a3] [.int x, .ref o, s0] M 0 0 Z ↔ gAr M o 0 ∧ gIn x (gLen M o) = true ∧ Run d 44 35 [a0, a1, a2, a3] [.int (M.1 o x.toNatClampNeg), s0] M 0 0 Z := R_iald (gd44 dX4_lies_34)
theorem z44_35 : Run d 44 35 [some (.ref o), a1, a2, a3] [s1, s0] M 0 0 Z ↔ Run d 44 36 [some (.ref o), a1, a2, a3] [.ref o, s1, s0] M 0 0 Z := R_local (gd44 dX4_lies_35) rfl rfl rfl
theorem z44_36 : Run d 44 36 [a0, a1, a2, a3] [.ref o, s1, s0] M 0 0 Z ↔ gObj M o 4 ∧ Run d 44 39 [a0, a1, a2, a3] [va_rf (M.2.1 o 5), s1, s0] M 0 0 Z := R_getR (gd44 dX4_lies_36) rfl gf_4_27 rfl
theorem z44_39 : Run d 44 39 [a0, some (.int x), a2, a3] [s2, s1, s0] M 0 0 Z ↔ Run d 44 40 [a0, some (.int x), a2, a3] [.int x, s2, s1, s0] M 0 0 Z := R_local (gd44 dX4_lies_39) rfl rfl rfl
theorem z44_40 : Run d 44 40 [a0, a1, a2, a3] [.int x, .ref o, s1, s0] M 0 0 Z ↔ gAr M o 0 ∧ gIn x (gLen M o) = true ∧ Run d 44 41 [a0, a1, a2, a3] [.int (M.1 o x.toNatClampNeg), s1, s0] M 0 0 Z := R_iald (gd44 dX4_lies_40)
theorem z44_41 : Run d 44 41 [a0, a1, a2, a3] [.int y, .int x, s0] M 0 0 Z ↔ Run d 44 42 [a0, a1, a2, a3] [.int (x + y), s0] M 0 0 Z := R_arith (gd44 dX4_lies_41) rfl
theorem z44_42 : Run d 44 42 [a0, a1, a2, a3] [.int y, .int x] M 0 0 Z ↔ (y ≤ x → Run d 44 49 [a0, a1, a2, a3] [] M 0 0 Z) ∧ (¬ (y ≤ x) → Run d 44 45 [a0, a1, a2, a3] [] M 0 0 Z) := R_icmp (gd44 dX4_lies_42) (show gTgt 42 7 = some 49 by decide) gIf_ge
theorem z44_45 : Run d 44 45 [a0, a1, a2, a3] [] M 0 0 Z ↔ Run d 44 46 [a0, a1, a2, a3] [.int 1] M 0 0 Z := R_iconst (gd44 dX4_lies_45) (by decide)
theorem z44_46 : Run d 44 46 [a0, a1, a2, a3] [s0] M 0 0 Z ↔ Run d 44 50 [a0, a1, a2, a3] [s0] M 0 0 Z := R_goto (gd44 dX4_lies_46) (show gTgt 46 4 = some 50 by decide)
theorem z44_49 : Run d 44 49 [a0, a1, a2, a3] [] M 0 0 Z ↔ Run d 44 50 [a0, a1, a2, a3] [.int 0] M 0 0 Z := R_iconst (gd44 dX4_lies_49) (by decide)
theorem z44_50 : Run d 44 50 [a0, a1, a2, a3] [.int x] M 0 0 Z ↔ (x = 0 ∨ x = 1) ∧ Z (some (.int x)) M := R_iretZ (gd44 dX4_lies_50) rfl
theorem e44 : Call (d + 1) 44 [s0, s1, s2, s3] M Z ↔ Run d 44 0 [some s0, some s1, some s2, some s3] [] M 0 0 Z := Call_iff (Nat.lt_of_lt_of_le (Nat.lt_succ_self 44) (Nat.le_of_ble_eq_true rfl)) (Nat.le_of_ble_eq_true rfl)
/-! 45: X4_last (II)I -/
theorem gd45 {pc : Nat} {r : Except _ _} (h : decode cX4_last pc = r) : decode (gby 45) pc = r := h
theorem z45_0 : Run d 45 0 [some (.ref o), a1, a2, a3] [] M 0 0 Z ↔ Run d 45 1 [some (.ref o), a1, a2, a3] [.ref o] M 0 0 Z := R_local (gd45 dX4_last_0) rfl rfl rfl
theorem z45_1 : Run d 45 1 [a0, a1, a2, a3] [.ref o] M 0 0 Z ↔ gObj M o 4 ∧ Run d 45 4 [a0, a1, a2, a3] [.int (M.1 o 8)] M 0 0 Z := R_getI (gd45 dX4_last_1) rfl gf_4_36 rfl
theorem z45_4 : Run d 45 4 [a0, a1, a2, a3] [s0] M 0 0 Z ↔ Run d 45 5 [a0, a1, a2, a3] [.int 1, s0] M 0 0 Z := R_iconst (gd45 dX4_last_4) (by decide)
theorem z45_5 : Run d 45 5 [a0, a1, a2, a3] [.int y, .int x] M 0 0 Z ↔ Run d 45 6 [a0, a1, a2, a3] [.int (x - y)] M 0 0 Z := R_arith (gd45 dX4_last_5) rfl
theorem z45_6 : Run d 45 6 [a0, a1, a2, a3] [.int x] M 0 0 Z ↔ Run d 45 7 [a0, a1, a2, some (.int x)] [] M 0 0 Z := R_local (gd45 dX4_last_6) rfl rfl rfl
theorem z45_7 : Run d 45 7 [a0, a1, a2, some (.int x)] [] M 0 0 Z ↔ Run d 45 8 [a0, a1, a2, some (.int x)] [.int x] M 0 0 Z := R_local (gd45 dX4_last_7) rfl rfl rfl
theorem z45_8 : Run d 45 8 [a0, a1, a2, a3] [.int x] M 0 0 Z ↔ (x < 0 → Run d 45 29 [a0, a1, a2, a3] [] M 0 0 Z) ∧ (¬ (x < 0) → Run d 45 11 [a0, a1, a2, a3] [] M 0 0 Z) := R_if (gd45 dX4_last_8) (show gTgt 8 21 = some 29 by decide) gIf_lt
theorem z45_11 : Run d 45 11 [some (.ref o), a1, a2, a3] [] M 0 0 Z ↔ Run d 45 12 [some (.ref o), a1, a2, a3] [.ref o] M 0 0 Z := R_local (gd45 dX4_last_11) rfl rfl rfl
theorem z45_12 : Run d 45 12 [a0, a1, a2, some (.int x)] [s0] M 0 0 Z ↔ Run d 45 13 [a0, a1, a2, some (.int x)] [.int x, s0] M 0 0 Z := R_local (gd45 dX4_last_12) rfl rfl rfl
theorem z45_13 : Run d 45 13 [a0, some (.int x), a2, a3] [s1, s0] M 0 0 Z ↔ Run d 45 14 [a0, some (.int x), a2, a3] [.int x, s1, s0] M 0 0 Z := R_local (gd45 dX4_last_13) rfl rfl rfl
theorem z45_14 : Run d 45 14 [a0, a1, some (.int x), a3] [s2, s1, s0] M 0 0 Z ↔ Run d 45 15 [a0, a1, some (.int x), a3] [.int x, s2, s1, s0] M 0 0 Z := R_local (gd45 dX4_last_14) rfl rfl rfl
theorem z45_15 : Run d 45 15 [a0, a1, a2, a3] [s3, s2, s1, .ref b] M 0 0 Z ↔ gObj M b 4 ∧ Call d 44 [.ref b, s1, s2, s3] M (fun r M1 => Run d 45 18 [a0, a1, a2, a3] (r.toList ++ []) M1 0 0 Z) := R_callV (gd45 dX4_last_15) rfl rfl rfl rfl rfl rfl gc_4_44 rfl rfl (Nat.le_of_ble_eq_true rfl) (Nat.le_of_ble_eq_true rfl) rfl rfl (Nat.le_of_ble_eq_true rfl) (Nat.le_of_ble_eq_true rfl)
theorem z45_18 : Run d 45 18 [a0, a1, a2, a3] [.int x] M 0 0 Z ↔ (x = 0 → Run d 45 23 [a0, a1, a2, a3] [] M 0 0 Z) ∧ (¬ (x = 0) → Run d 45 21 [a0, a1, a2, a3] [] M 0 0 Z) := R_if (gd45 dX4_last_18) (show gTgt 18 5 = some 23 by decide) gIf_eq
theorem z45_21 : Run d 45 21 [a0, a1, a2, some (.int x)] [] M 0 0 Z ↔ Run d 45 22 [a0, a1, a2, some (.int x)] [.int x] M 0 0 Z := R_local (gd45 dX4_last_21) rfl rfl rfl
theorem z45_22 : Run d 45 22 [a0, a1, a2, a3] [.int x] M 0 0 Z ↔ Z (some (.int x)) M := R_iret (gd45 dX4_last_22) rfl
theorem z45_23 : Run d 45 23 [a0, a1, a2, some (.int x)] [] M 0 0 Z ↔ Run d 45 26 [a0, a1, a2, some (.int (x + (-1)))] [] M 0 0 Z := R_iinc (gd45 dX4_last_23) (by decide) rfl rfl
theorem z45_26 : Run d 45 26 [a0, a1, a2, a3] [] M 0 0 Z ↔ Run d 45 7 [a0, a1, a2, a3] [] M 0 0 Z := R_goto (gd45 dX4_last_26) (show gTgt 26 (-19) = some 7 by decide)
theorem z45_29 : Run d 45 29 [a0, a1, a2, a3] [] M 0 0 Z ↔ Run d 45 30 [a0, a1, a2, a3] [.int (-1)] M 0 0 Z := R_iconst (gd45 dX4_last_29) (by decide)
theorem z45_30 : Run d 45 30 [a0, a1, a2, a3] [.int x] M 0 0 Z ↔ Z (some (.int x)) M := R_iret (gd45 dX4_last_30) rfl
theorem e45 : Call (d + 1) 45 [s0, s1, s2] M Z ↔ Run d 45 0 [some s0, some s1, some s2, none] [] M 0 0 Z := Call_iff (Nat.lt_of_lt_of_le (Nat.lt_succ_self 45) (Nat.le_of_ble_eq_true rfl)) (Nat.le_of_ble_eq_true rfl)
/-! 46: X4_howMany (II)I -/
theorem gd46 {pc : Nat} {r : Except _ _} (h : decode cX4_howMany pc = r) : decode (gby 46) pc = r := h
theorem z46_0 : Run d 46 0 [a0, a1, a2, a3, a4] [] M 0 0 Z ↔ Run d 46 1 [a0, a1, a2, a3, a4] [.int 0] M 0 0 Z := R_iconst (gd46 dX4_howMany_0) (by decide)
theorem z46_1 : Run d 46 1 [a0, a1, a2, a3, a4] [.int x] M 0 0 Z ↔ Run d 46 2 [a0, a1, a2, some (.int x), a4] [] M 0 0 Z := R_local (gd46 dX4_howMany_1) rfl rfl rfl
theorem z46_2 : Run d 46 2 [a0, a1, a2, a3, a4] [] M 0 0 Z ↔ Run d 46 3 [a0, a1, a2, a3, a4] [.int 0] M 0 0 Z := R_iconst (gd46 dX4_howMany_2) (by decide)
theorem z46_3 : Run d 46 3 [a0, a1, a2, a3, a4] [.int x] M 0 0 Z ↔ Run d 46 5 [a0, a1, a2, a3, some (.int x)] [] M 0 0 Z := R_local (gd46 dX4_howMany_3) rfl rfl rfl
theorem z46_5 : Run d 46 5 [a0, a1, a2, a3, some (.int x)] [] M 0 0 Z ↔ Run d 46 7 [a0, a1, a2, a3, some (.int x)] [.int x] M 0 0 Z := R_local (gd46 dX4_howMany_5) rfl rfl rfl
theorem z46_7 : Run d 46 7 [some (.ref o), a1, a2, a3, a4] [s0] M 0 0 Z ↔ Run d 46 8 [some (.ref o), a1, a2, a3, a4] [.ref o, s0] M 0 0 Z := R_local (gd46 dX4_howMany_7) rfl rfl rfl
theorem z46_8 : Run d 46 8 [a0, a1, a2, a3, a4] [.ref o, s0] M 0 0 Z ↔ gObj M o 4 ∧ Run d 46 11 [a0, a1, a2, a3, a4] [.int (M.1 o 8), s0] M 0 0 Z := R_getI (gd46 dX4_howMany_8) rfl gf_4_36 rfl
theorem z46_11 : Run d 46 11 [a0, a1, a2, a3, a4] [.int y, .int x] M 0 0 Z ↔ (y ≤ x → Run d 46 39 [a0, a1, a2, a3, a4] [] M 0 0 Z) ∧ (¬ (y ≤ x) → Run d 46 14 [a0, a1, a2, a3, a4] [] M 0 0 Z) := R_icmp (gd46 dX4_howMany_11) (show gTgt 11 28 = some 39 by decide) gIf_ge
theorem z46_14 : Run d 46 14 [a0, a1, a2, some (.int x), a4] [] M 0 0 Z ↔ Run d 46 15 [a0, a1, a2, some (.int x), a4] [.int x] M 0 0 Z := R_local (gd46 dX4_howMany_14) rfl rfl rfl
theorem z46_15 : Run d 46 15 [some (.ref o), a1, a2, a3, a4] [s0] M 0 0 Z ↔ Run d 46 16 [some (.ref o), a1, a2, a3, a4] [.ref o, s0] M 0 0 Z := R_local (gd46 dX4_howMany_15) rfl rfl rfl
theorem z46_16 : Run d 46 16 [a0, a1, a2, a3, some (.int x)] [s1, s0] M 0 0 Z ↔ Run d 46 18 [a0, a1, a2, a3, some (.int x)] [.int x, s1, s0] M 0 0 Z := R_local (gd46 dX4_howMany_16) rfl rfl rfl
theorem z46_18 : Run d 46 18 [a0, some (.int x), a2, a3, a4] [s2, s1, s0] M 0 0 Z ↔ Run d 46 19 [a0, some (.int x), a2, a3, a4] [.int x, s2, s1, s0] M 0 0 Z := R_local (gd46 dX4_howMany_18) rfl rfl rfl
theorem z46_19 : Run d 46 19 [a0, a1, some (.int x), a3, a4] [s3, s2, s1, s0] M 0 0 Z ↔ Run d 46 20 [a0, a1, some (.int x), a3, a4] [.int x, s3, s2, s1, s0] M 0 0 Z := R_local (gd46 dX4_howMany_19) rfl rfl rfl
theorem z46_20 : Run d 46 20 [a0, a1, a2, a3, a4] [s4, s3, s2, .ref b, s0] M 0 0 Z ↔ gObj M b 4 ∧ Call d 44 [.ref b, s2, s3, s4] M (fun r M1 => Run d 46 23 [a0, a1, a2, a3, a4] (r.toList ++ [s0]) M1 0 0 Z) := R_callV (gd46 dX4_howMany_20) rfl rfl rfl rfl rfl rfl gc_4_44 rfl rfl (Nat.le_of_ble_eq_true rfl) (Nat.le_of_ble_eq_true rfl) rfl rfl (Nat.le_of_ble_eq_true rfl) (Nat.le_of_ble_eq_true rfl)
theorem z46_23 : Run d 46 23 [a0, a1, a2, a3, a4] [.int x, s0] M 0 0 Z ↔ (x = 0 → Run d 46 30 [a0, a1, a2, a3, a4] [s0] M 0 0 Z) ∧ (¬ (x = 0) → Run d 46 26 [a0, a1, a2, a3, a4] [s0] M 0 0 Z) := R_if (gd46 dX4_howMany_23) (show gTgt 23 7 = some 30 by decide) gIf_eq
theorem z46_26 : Run d 46 26 [a0, a1, a2, a3, a4] [s0] M 0 0 Z ↔ Run d 46 27 [a0, a1, a2, a3, a4] [.int 1, s0] M 0 0 Z := R_iconst (gd46 dX4_howMany_26) (by decide)
theorem z46_27 : Run d 46 27 [a0, a1, a2, a3, a4] [s1, s0] M 0 0 Z ↔ Run d 46 31 [a0, a1, a2, a3, a4] [s1, s0] M 0 0 Z := R_goto (gd46 dX4_howMany_27) (show gTgt 27 4 = some 31 by decide)
theorem z46_30 : Run d 46 30 [a0, a1, a2, a3, a4] [s0] M 0 0 Z ↔ Run d 46 31 [a0, a1, a2, a3, a4] [.int 0, s0] M 0 0 Z := R_iconst (gd46 dX4_howMany_30) (by decide)
theorem z46_31 : Run d 46 31 [a0, a1, a2, a3, a4] [.int y, .int x] M 0 0 Z ↔ Run d 46 32 [a0, a1, a2, a3, a4] [.int (x + y)] M 0 0 Z := R_arith (gd46 dX4_howMany_31) rfl
theorem z46_32 : Run d 46 32 [a0, a1, a2, a3, a4] [.int x] M 0 0 Z ↔ Run d 46 33 [a0, a1, a2, some (.int x), a4] [] M 0 0 Z := R_local (gd46 dX4_howMany_32) rfl rfl rfl
theorem z46_33 : Run d 46 33 [a0, a1, a2, a3, some (.int x)] [] M 0 0 Z ↔ Run d 46 36 [a0, a1, a2, a3, some (.int (x + 1))] [] M 0 0 Z := R_iinc (gd46 dX4_howMany_33) (by decide) rfl rfl
theorem z46_36 : Run d 46 36 [a0, a1, a2, a3, a4] [] M 0 0 Z ↔ Run d 46 5 [a0, a1, a2, a3, a4] [] M 0 0 Z := R_goto (gd46 dX4_howMany_36) (show gTgt 36 (-31) = some 5 by decide)
theorem z46_39 : Run d 46 39 [a0, a1, a2, some (.int x), a4] [] M 0 0 Z ↔ Run d 46 40 [a0, a1, a2, some (.int x), a4] [.int x] M 0 0 Z := R_local (gd46 dX4_howMany_39) rfl rfl rfl
theorem z46_40 : Run d 46 40 [a0, a1, a2, a3, a4] [.int x] M 0 0 Z ↔ Z (some (.int x)) M := R_iret (gd46 dX4_howMany_40) rfl
theorem e46 : Call (d + 1) 46 [s0, s1, s2] M Z ↔ Run d 46 0 [some s0, some s1, some s2, none, none] [] M 0 0 Z := Call_iff (Nat.lt_of_lt_of_le (Nat.lt_succ_self 46) (Nat.le_of_ble_eq_true rfl)) (Nat.le_of_ble_eq_true rfl)
/-! 47: X4_shown (IILClothSchool$Cloth;)I -/
theorem gd47 {pc : Nat} {r : Except _ _} (h : decode cX4_shown pc = r) : decode (gby 47) pc = r := h
theorem z47_0 : Run d 47 0 [some (.ref o), a1, a2, a3] [] M 0 0 Z ↔ Run d 47 1 [some (.ref o), a1, a2, a3] [.ref o] M 0 0 Z := R_local (gd47 dX4_shown_0) rfl rfl rfl
theorem z47_1 : Run d 47 1 [a0, some (.int x), a2, a3] [s0] M 0 0 Z ↔ Run d 47 2 [a0, some (.int x), a2, a3] [.int x, s0] M 0 0 Z := R_local (gd47 dX4_shown_1) rfl rfl rfl
theorem z47_2 : Run d 47 2 [a0, a1, a2, a3] [s1, .ref b] M 0 0 Z ↔ gObj M b 4 ∧ Call d 41 [.ref b, s1] M (fun r M1 => Run d 47 5 [a0, a1, a2, a3] (r.toList ++ []) M1 0 0 Z) := R_callV (gd47 dX4_shown_2) rfl rfl rfl rfl rfl rfl gc_4_40 rfl rfl (Nat.le_of_ble_eq_true rfl) (Nat.le_of_ble_eq_true rfl) rfl rfl (Nat.le_of_ble_eq_true rfl) (Nat.le_of_ble_eq_true rfl)
theorem z47_5 : Run d 47 5 [a0, a1, a2, a3] [.int x] M 0 0 Z ↔ (x = 0 → Run d 47 35 [a0, a1, a2, a3] [] M 0 0 Z) ∧ (¬ (x = 0) → Run d 47 8 [a0, a1, a2, a3] [] M 0 0 Z) := R_if (gd47 dX4_shown_5) (show gTgt 5 30 = some 35 by decide) gIf_eq
theorem z47_8 : Run d 47 8 [a0, a1, a2, some (.ref o)] [] M 0 0 Z ↔ Run d 47 9 [a0, a1, a2, some (.ref o)] [.ref o] M 0 0 Z := R_local (gd47 dX4_shown_8) rfl rfl rfl
theorem z47_8n : Run d 47 8 [a0, a1, a2, some .null] [] M 0 0 Z ↔ Run d 47 9 [a0, a1, a2, some .null] [.null] M 0 0 Z := R_local (gd47 dX4_shown_8) rfl rfl rfl
theorem z47_9 : Run d 47 9 [a0, a1, some (.int x), a3] [s0] M 0 0 Z ↔ Run d 47 10 [a0, a1, some (.int x), a3] [.int x, s0] M 0 0 Z := R_local (gd47 dX4_shown_9) rfl rfl rfl
theorem z47_10 : Run d 47 10 [some (.ref o), a1, a2, a3] [s1, s0] M 0 0 Z ↔ Run d 47 11 [some (.ref o), a1, a2, a3] [.ref o, s1, s0] M 0 0 Z := R_local (gd47 dX4_shown_10) rfl rfl rfl
theorem z47_11 : Run d 47 11 [a0, a1, a2, a3] [.ref o, s1, s0] M 0 0 Z ↔ gObj M o 4 ∧ Run d 47 14 [a0, a1, a2, a3] [va_rf (M.2.1 o 1), s1, s0] M 0 0 Z := R_getR (gd47 dX4_shown_11) rfl gf_4_15 rfl
theorem z47_14 : Run d 47 14 [a0, some (.int x), a2, a3] [s2, s1, s0] M 0 0 Z ↔ Run d 47 15 [a0, some (.int x), a2, a3] [.int x, s2, s1, s0] M 0 0 Z := R_local (gd47 dX4_shown_14) rfl rfl rfl
theorem z47_15 : Run d 47 15 [a0, a1, a2, a3] [.int x, .ref o, s1, s0] M 0 0 Z ↔ gAr M o 0 ∧ gIn x (gLen M o) = true ∧ Run d 47 16 [a0, a1, a2, a3] [.int (M.1 o x.toNatClampNeg), s1, s0] M 0 0 Z := R_iald (gd47 dX4_shown_15)
theorem z47_16 : Run d 47 16 [a0, a1, a2, a3] [.int y, .int x, s0] M 0 0 Z ↔ Run d 47 17 [a0, a1, a2, a3] [.int (x - y), s0] M 0 0 Z := R_arith (gd47 dX4_shown_16) rfl
theorem z47_17 : Run d 47 17 [some (.ref o), a1, a2, a3] [s1, s0] M 0 0 Z ↔ Run d 47 18 [some (.ref o), a1, a2, a3] [.ref o, s1, s0] M 0 0 Z := R_local (gd47 dX4_shown_17) rfl rfl rfl
theorem z47_18 : Run d 47 18 [a0, a1, a2, a3] [.ref o, s1, s0] M 0 0 Z ↔ gObj M o 4 ∧ Run d 47 21 [a0, a1, a2, a3] [va_rf (M.2.1 o 3), s1, s0] M 0 0 Z := R_getR (gd47 dX4_shown_18) rfl gf_4_21 rfl
theorem z47_21 : Run d 47 21 [a0, some (.int x), a2, a3] [s2, s1, s0] M 0 0 Z ↔ Run d 47 22 [a0, some (.int x), a2, a3] [.int x, s2, s1, s0] M 0 0 Z := R_local (gd47 dX4_shown_21) rfl rfl rfl
theorem z47_22 : Run d 47 22 [a0, a1, a2, a3] [.int x, .ref o, s1, s0] M 0 0 Z ↔ gAr M o 0 ∧ gIn x (gLen M o) = true ∧ Run d 47 23 [a0, a1, a2, a3] [.int (M.1 o x.toNatClampNeg), s1, s0] M 0 0 Z := R_iald (gd47 dX4_shown_22)
theorem z47_23 : Run d 47 23 [some (.ref o), a1, a2, a3] [s2, s1, s0] M 0 0 Z ↔ Run d 47 24 [some (.ref o), a1, a2, a3] [.ref o, s2, s1, s0] M 0 0 Z := R_local (gd47 dX4_shown_23) rfl rfl rfl
theorem z47_24 : Run d 47 24 [a0, a1, a2, a3] [.ref o, s2, s1, s0] M 0 0 Z ↔ gObj M o 4 ∧ Run d 47 27 [a0, a1, a2, a3] [va_rf (M.2.1 o 6), s2, s1, s0] M 0 0 Z := R_getR (gd47 dX4_shown_24) rfl gf_4_30 rfl
theorem z47_27 : Run d 47 27 [a0, some (.int x), a2, a3] [s3, s2, s1, s0] M 0 0 Z ↔ Run d 47 28 [a0, some (.int x), a2, a3] [.int x, s3, s2, s1, s0] M 0 0 Z := R_local (gd47 dX4_shown_27) rfl rfl rfl
theorem z47_28 : Run d 47 28 [a0, a1, a2, a3] [.int x, .ref o, s2, s1, s0] M 0 0 Z ↔ gAr M o 0 ∧ gIn x (gLen M o) = true ∧ Run d 47 29 [a0, a1, a2, a3] [.int (M.1 o x.toNatClampNeg), s2, s1, s0] M 0 0 Z := R_iald (gd47 dX4_shown_28)
theorem z47_29 : Run d 47 29 [a0, a1, a2, a3] [s3, s2, s1, .ref b] M 0 0 Z ↔ gObj M b 0 ∧ Call d 1 [.ref b, s1, s2, s3] M (fun r M1 => Run d 47 32 [a0, a1, a2, a3] (r.toList ++ []) M1 0 0 Z) := R_callV (gd47 dX4_shown_29) rfl rfl rfl rfl rfl rfl gc_4_48 rfl rfl (Nat.le_of_ble_eq_true rfl) (Nat.le_of_ble_eq_true rfl) rfl rfl (Nat.le_of_ble_eq_true rfl) (Nat.le_of_ble_eq_true rfl)
theorem z47_32 : Run d 47 32 [a0, a1, a2, a3] [s0] M 0 0 Z ↔ Run d 47 37 [a0, a1, a2, a3] [s0] M 0 0 Z := R_goto (gd47 dX4_shown_32) (show gTgt 32 5 = some 37 by decide)
theorem z47_35 : Run d 47 35 [a0, a1, a2, a3] [] M 0 0 Z ↔ Run d 47 37 [a0, a1, a2, a3] [.int 8] M 0 0 Z := R_bipush (gd47 dX4_shown_35) (by decide)
theorem z47_37 : Run d 47 37 [a0, a1, a2, a3] [.int x] M 0 0 Z ↔ Z (some (.int x)) M := R_iret (gd47 dX4_shown_37) rfl
theorem e47 : Call (d + 1) 47 [s0, s1, s2, s3] M Z ↔ Run d 47 0 [some s0, some s1, some s2, some s3] [] M 0 0 Z := Call_iff (Nat.lt_of_lt_of_le (Nat.lt_succ_self 47) (Nat.le_of_ble_eq_true rfl)) (Nat.le_of_ble_eq_true rfl)
/-! 48: X4_actOf (I)I -/
theorem gd48 {pc : Nat} {r : Except _ _} (h : decode cX4_actOf pc = r) : decode (gby 48) pc = r := h
theorem z48_0 : Run d 48 0 [some (.ref o), a1] [] M 0 0 Z ↔ Run d 48 1 [some (.ref o), a1] [.ref o] M 0 0 Z := R_local (gd48 dX4_actOf_0) rfl rfl rfl
theorem z48_1 : Run d 48 1 [a0, some (.int x)] [s0] M 0 0 Z ↔ Run d 48 2 [a0, some (.int x)] [.int x, s0] M 0 0 Z := R_local (gd48 dX4_actOf_1) rfl rfl rfl
theorem z48_2 : Run d 48 2 [a0, a1] [s1, .ref b] M 0 0 Z ↔ gObj M b 4 ∧ Call d 41 [.ref b, s1] M (fun r M1 => Run d 48 5 [a0, a1] (r.toList ++ []) M1 0 0 Z) := R_callV (gd48 dX4_actOf_2) rfl rfl rfl rfl rfl rfl gc_4_40 rfl rfl (Nat.le_of_ble_eq_true rfl) (Nat.le_of_ble_eq_true rfl) rfl rfl (Nat.le_of_ble_eq_true rfl) (Nat.le_of_ble_eq_true rfl)
theorem z48_5 : Run d 48 5 [a0, a1] [.int x] M 0 0 Z ↔ (x = 0 → Run d 48 17 [a0, a1] [] M 0 0 Z) ∧ (¬ (x = 0) → Run d 48 8 [a0, a1] [] M 0 0 Z) := R_if (gd48 dX4_actOf_5) (show gTgt 5 12 = some 17 by decide) gIf_eq
theorem z48_8 : Run d 48 8 [some (.ref o), a1] [] M 0 0 Z ↔ Run d 48 9 [some (.ref o), a1] [.ref o] M 0 0 Z := R_local (gd48 dX4_actOf_8) rfl rfl rfl
theorem z48_9 : Run d 48 9 [a0, a1] [.ref o] M 0 0 Z ↔ gObj M o 4 ∧ Run d 48 12 [a0, a1] [va_rf (M.2.1 o 0)] M 0 0 Z := R_getR (gd48 dX4_actOf_9) rfl gf_4_9 rfl
theorem z48_12 : Run d 48 12 [a0, some (.int x)] [s0] M 0 0 Z ↔ Run d 48 13 [a0, some (.int x)] [.int x, s0] M 0 0 Z := R_local (gd48 dX4_actOf_12) rfl rfl rfl
theorem z48_13 : Run d 48 13 [a0, a1] [.int x, .ref o] M 0 0 Z ↔ gAr M o 0 ∧ gIn x (gLen M o) = true ∧ Run d 48 14 [a0, a1] [.int (M.1 o x.toNatClampNeg)] M 0 0 Z := R_iald (gd48 dX4_actOf_13)
theorem z48_14 : Run d 48 14 [a0, a1] [s0] M 0 0 Z ↔ Run d 48 18 [a0, a1] [s0] M 0 0 Z := R_goto (gd48 dX4_actOf_14) (show gTgt 14 4 = some 18 by decide)
theorem z48_17 : Run d 48 17 [a0, a1] [] M 0 0 Z ↔ Run d 48 18 [a0, a1] [.int (-1)] M 0 0 Z := R_iconst (gd48 dX4_actOf_17) (by decide)
theorem z48_18 : Run d 48 18 [a0, a1] [.int x] M 0 0 Z ↔ Z (some (.int x)) M := R_iret (gd48 dX4_actOf_18) rfl
theorem e48 : Call (d + 1) 48 [s0, s1] M Z ↔ Run d 48 0 [some s0, some s1] [] M 0 0 Z := Call_iff (Nat.lt_of_lt_of_le (Nat.lt_succ_self 48) (Nat.le_of_ble_eq_true rfl)) (Nat.le_of_ble_eq_true rfl)
/-! 49: X4_lowOf (I)I -/
theorem gd49 {pc : Nat} {r : Except _ _} (h : decode cX4_lowOf pc = r) : decode (gby 49) pc = r := h
theorem z49_0 : Run d 49 0 [some (.ref o), a1] [] M 0 0 Z ↔ Run d 49 1 [some (.ref o), a1] [.ref o] M 0 0 Z := R_local (gd49 dX4_lowOf_0) rfl rfl rfl
theorem z49_1 : Run d 49 1 [a0, some (.int x)] [s0] M 0 0 Z ↔ Run d 49 2 [a0, some (.int x)] [.int x, s0] M 0 0 Z := R_local (gd49 dX4_lowOf_1) rfl rfl rfl
theorem z49_2 : Run d 49 2 [a0, a1] [s1, .ref b] M 0 0 Z ↔ gObj M b 4 ∧ Call d 41 [.ref b, s1] M (fun r M1 => Run d 49 5 [a0, a1] (r.toList ++ []) M1 0 0 Z) := R_callV (gd49 dX4_lowOf_2) rfl rfl rfl rfl rfl rfl gc_4_40 rfl rfl (Nat.le_of_ble_eq_true rfl) (Nat.le_of_ble_eq_true rfl) rfl rfl (Nat.le_of_ble_eq_true rfl) (Nat.le_of_ble_eq_true rfl)
theorem z49_5 : Run d 49 5 [a0, a1] [.int x] M 0 0 Z ↔ (x = 0 → Run d 49 17 [a0, a1] [] M 0 0 Z) ∧ (¬ (x = 0) → Run d 49 8 [a0, a1] [] M 0 0 Z) := R_if (gd49 dX4_lowOf_5) (show gTgt 5 12 = some 17 by decide) gIf_eq
theorem z49_8 : Run d 49 8 [some (.ref o), a1] [] M 0 0 Z ↔ Run d 49 9 [some (.ref o), a1] [.ref o] M 0 0 Z := R_local (gd49 dX4_lowOf_8) rfl rfl rfl
theorem z49_9 : Run d 49 9 [a0, a1] [.ref o] M 0 0 Z ↔ gObj M o 4 ∧ Run d 49 12 [a0, a1] [va_rf (M.2.1 o 1)] M 0 0 Z := R_getR (gd49 dX4_lowOf_9) rfl gf_4_15 rfl
theorem z49_12 : Run d 49 12 [a0, some (.int x)] [s0] M 0 0 Z ↔ Run d 49 13 [a0, some (.int x)] [.int x, s0] M 0 0 Z := R_local (gd49 dX4_lowOf_12) rfl rfl rfl
theorem z49_13 : Run d 49 13 [a0, a1] [.int x, .ref o] M 0 0 Z ↔ gAr M o 0 ∧ gIn x (gLen M o) = true ∧ Run d 49 14 [a0, a1] [.int (M.1 o x.toNatClampNeg)] M 0 0 Z := R_iald (gd49 dX4_lowOf_13)
theorem z49_14 : Run d 49 14 [a0, a1] [s0] M 0 0 Z ↔ Run d 49 18 [a0, a1] [s0] M 0 0 Z := R_goto (gd49 dX4_lowOf_14) (show gTgt 14 4 = some 18 by decide)
theorem z49_17 : Run d 49 17 [a0, a1] [] M 0 0 Z ↔ Run d 49 18 [a0, a1] [.int 0] M 0 0 Z := R_iconst (gd49 dX4_lowOf_17) (by decide)
theorem z49_18 : Run d 49 18 [a0, a1] [.int x] M 0 0 Z ↔ Z (some (.int x)) M := R_iret (gd49 dX4_lowOf_18) rfl
theorem e49 : Call (d + 1) 49 [s0, s1] M Z ↔ Run d 49 0 [some s0, some s1] [] M 0 0 Z := Call_iff (Nat.lt_of_lt_of_le (Nat.lt_succ_self 49) (Nat.le_of_ble_eq_true rfl)) (Nat.le_of_ble_eq_true rfl)
/-! 50: X4_topOf (I)I -/
theorem gd50 {pc : Nat} {r : Except _ _} (h : decode cX4_topOf pc = r) : decode (gby 50) pc = r := h
theorem z50_0 : Run d 50 0 [some (.ref o), a1] [] M 0 0 Z ↔ Run d 50 1 [some (.ref o), a1] [.ref o] M 0 0 Z := R_local (gd50 dX4_topOf_0) rfl rfl rfl
theorem z50_1 : Run d 50 1 [a0, some (.int x)] [s0] M 0 0 Z ↔ Run d 50 2 [a0, some (.int x)] [.int x, s0] M 0 0 Z := R_local (gd50 dX4_topOf_1) rfl rfl rfl
theorem z50_2 : Run d 50 2 [a0, a1] [s1, .ref b] M 0 0 Z ↔ gObj M b 4 ∧ Call d 41 [.ref b, s1] M (fun r M1 => Run d 50 5 [a0, a1] (r.toList ++ []) M1 0 0 Z) := R_callV (gd50 dX4_topOf_2) rfl rfl rfl rfl rfl rfl gc_4_40 rfl rfl (Nat.le_of_ble_eq_true rfl) (Nat.le_of_ble_eq_true rfl) rfl rfl (Nat.le_of_ble_eq_true rfl) (Nat.le_of_ble_eq_true rfl)
theorem z50_5 : Run d 50 5 [a0, a1] [.int x] M 0 0 Z ↔ (x = 0 → Run d 50 24 [a0, a1] [] M 0 0 Z) ∧ (¬ (x = 0) → Run d 50 8 [a0, a1] [] M 0 0 Z) := R_if (gd50 dX4_topOf_5) (show gTgt 5 19 = some 24 by decide) gIf_eq
theorem z50_8 : Run d 50 8 [some (.ref o), a1] [] M 0 0 Z ↔ Run d 50 9 [some (.ref o), a1] [.ref o] M 0 0 Z := R_local (gd50 dX4_topOf_8) rfl rfl rfl
theorem z50_9 : Run d 50 9 [a0, a1] [.ref o] M 0 0 Z ↔ gObj M o 4 ∧ Run d 50 12 [a0, a1] [va_rf (M.2.1 o 1)] M 0 0 Z := R_getR (gd50 dX4_topOf_9) rfl gf_4_15 rfl
theorem z50_12 : Run d 50 12 [a0, some (.int x)] [s0] M 0 0 Z ↔ Run d 50 13 [a0, some (.int x)] [.int x, s0] M 0 0 Z := R_local (gd50 dX4_topOf_12) rfl rfl rfl
theorem z50_13 : Run d 50 13 [a0, a1] [.int x, .ref o] M 0 0 Z ↔ gAr M o 0 ∧ gIn x (gLen M o) = true ∧ Run d 50 14 [a0, a1] [.int (M.1 o x.toNatClampNeg)] M 0 0 Z := R_iald (gd50 dX4_topOf_13)
theorem z50_14 : Run d 50 14 [some (.ref o), a1] [s0] M 0 0 Z ↔ Run d 50 15 [some (.ref o), a1] [.ref o, s0] M 0 0 Z := R_local (gd50 dX4_topOf_14) rfl rfl rfl
theorem z50_15 : Run d 50 15 [a0, a1] [.ref o, s0] M 0 0 Z ↔ gObj M o 4 ∧ Run d 50 18 [a0, a1] [va_rf (M.2.1 o 5), s0] M 0 0 Z := R_getR (gd50 dX4_topOf_15) rfl gf_4_27 rfl
theorem z50_18 : Run d 50 18 [a0, some (.int x)] [s1, s0] M 0 0 Z ↔ Run d 50 19 [a0, some (.int x)] [.int x, s1, s0] M 0 0 Z := R_local (gd50 dX4_topOf_18) rfl rfl rfl
theorem z50_19 : Run d 50 19 [a0, a1] [.int x, .ref o, s0] M 0 0 Z ↔ gAr M o 0 ∧ gIn x (gLen M o) = true ∧ Run d 50 20 [a0, a1] [.int (M.1 o x.toNatClampNeg), s0] M 0 0 Z := R_iald (gd50 dX4_topOf_19)
theorem z50_20 : Run d 50 20 [a0, a1] [.int y, .int x] M 0 0 Z ↔ Run d 50 21 [a0, a1] [.int (x + y)] M 0 0 Z := R_arith (gd50 dX4_topOf_20) rfl
theorem z50_21 : Run d 50 21 [a0, a1] [s0] M 0 0 Z ↔ Run d 50 25 [a0, a1] [s0] M 0 0 Z := R_goto (gd50 dX4_topOf_21) (show gTgt 21 4 = some 25 by decide)
theorem z50_24 : Run d 50 24 [a0, a1] [] M 0 0 Z ↔ Run d 50 25 [a0, a1] [.int 0] M 0 0 Z := R_iconst (gd50 dX4_topOf_24) (by decide)
theorem z50_25 : Run d 50 25 [a0, a1] [.int x] M 0 0 Z ↔ Z (some (.int x)) M := R_iret (gd50 dX4_topOf_25) rfl
theorem e50 : Call (d + 1) 50 [s0, s1] M Z ↔ Run d 50 0 [some s0, some s1] [] M 0 0 Z := Call_iff (Nat.lt_of_lt_of_le (Nat.lt_succ_self 50) (Nat.le_of_ble_eq_true rfl)) (Nat.le_of_ble_eq_true rfl)
/-! 51: X4_place (II)I -/
theorem gd51 {pc : Nat} {r : Except _ _} (h : decode cX4_place pc = r) : decode (gby 51) pc = r := h
theorem z51_0 : Run d 51 0 [some (.ref o), a1, a2] [] M 0 0 Z ↔ Run d 51 1 [some (.ref o), a1, a2] [.ref o] M 0 0 Z := R_local (gd51 dX4_place_0) rfl rfl rfl
theorem z51_1 : Run d 51 1 [a0, some (.int x), a2] [s0] M 0 0 Z ↔ Run d 51 2 [a0, some (.int x), a2] [.int x, s0] M 0 0 Z := R_local (gd51 dX4_place_1) rfl rfl rfl
theorem z51_2 : Run d 51 2 [a0, a1, a2] [s1, .ref b] M 0 0 Z ↔ gObj M b 4 ∧ Call d 41 [.ref b, s1] M (fun r M1 => Run d 51 5 [a0, a1, a2] (r.toList ++ []) M1 0 0 Z) := R_callV (gd51 dX4_place_2) rfl rfl rfl rfl rfl rfl gc_4_40 rfl rfl (Nat.le_of_ble_eq_true rfl) (Nat.le_of_ble_eq_true rfl) rfl rfl (Nat.le_of_ble_eq_true rfl) (Nat.le_of_ble_eq_true rfl)
theorem z51_5 : Run d 51 5 [a0, a1, a2] [.int x] M 0 0 Z ↔ (x = 0 → Run d 51 22 [a0, a1, a2] [] M 0 0 Z) ∧ (¬ (x = 0) → Run d 51 8 [a0, a1, a2] [] M 0 0 Z) := R_if (gd51 dX4_place_5) (show gTgt 5 17 = some 22 by decide) gIf_eq
theorem z51_8 : Run d 51 8 [a0, a1, some (.int x)] [] M 0 0 Z ↔ Run d 51 9 [a0, a1, some (.int x)] [.int x] M 0 0 Z := R_local (gd51 dX4_place_8) rfl rfl rfl
theorem z51_9 : Run d 51 9 [a0, a1, a2] [s0] M 0 0 Z ↔ Run d 51 11 [a0, a1, a2] [.int 8, s0] M 0 0 Z := R_bipush (gd51 dX4_place_9) (by decide)
theorem z51_11 : Run d 51 11 [a0, a1, a2] [.int y, .int x] M 0 0 Z ↔ Run d 51 12 [a0, a1, a2] [.int (x * y)] M 0 0 Z := R_arith (gd51 dX4_place_11) rfl
theorem z51_12 : Run d 51 12 [some (.ref o), a1, a2] [s0] M 0 0 Z ↔ Run d 51 13 [some (.ref o), a1, a2] [.ref o, s0] M 0 0 Z := R_local (gd51 dX4_place_12) rfl rfl rfl
theorem z51_13 : Run d 51 13 [a0, a1, a2] [.ref o, s0] M 0 0 Z ↔ gObj M o 4 ∧ Run d 51 16 [a0, a1, a2] [va_rf (M.2.1 o 2), s0] M 0 0 Z := R_getR (gd51 dX4_place_13) rfl gf_4_18 rfl
theorem z51_16 : Run d 51 16 [a0, some (.int x), a2] [s1, s0] M 0 0 Z ↔ Run d 51 17 [a0, some (.int x), a2] [.int x, s1, s0] M 0 0 Z := R_local (gd51 dX4_place_16) rfl rfl rfl
theorem z51_17 : Run d 51 17 [a0, a1, a2] [.int x, .ref o, s0] M 0 0 Z ↔ gAr M o 0 ∧ gIn x (gLen M o) = true ∧ Run d 51 18 [a0, a1, a2] [.int (M.1 o x.toNatClampNeg), s0] M 0 0 Z := R_iald (gd51 dX4_place_17)
theorem z51_18 : Run d 51 18 [a0, a1, a2] [.int y, .int x] M 0 0 Z ↔ Run d 51 19 [a0, a1, a2] [.int (x + y)] M 0 0 Z := R_arith (gd51 dX4_place_18) rfl
theorem z51_19 : Run d 51 19 [a0, a1, a2] [s0] M 0 0 Z ↔ Run d 51 23 [a0, a1, a2] [s0] M 0 0 Z := R_goto (gd51 dX4_place_19) (show gTgt 19 4 = some 23 by decide)
theorem z51_22 : Run d 51 22 [a0, a1, a2] [] M 0 0 Z ↔ Run d 51 23 [a0, a1, a2] [.int (-1)] M 0 0 Z := R_iconst (gd51 dX4_place_22) (by decide)
theorem z51_23 : Run d 51 23 [a0, a1, a2] [.int x] M 0 0 Z ↔ Z (some (.int x)) M := R_iret (gd51 dX4_place_23) rfl
theorem e51 : Call (d + 1) 51 [s0, s1, s2] M Z ↔ Run d 51 0 [some s0, some s1, some s2] [] M 0 0 Z := Call_iff (Nat.lt_of_lt_of_le (Nat.lt_succ_self 51) (Nat.le_of_ble_eq_true rfl)) (Nat.le_of_ble_eq_true rfl)
/-! 52: X4_lastOf (I)I -/
theorem gd52 {pc : Nat} {r : Except _ _} (h : decode cX4_lastOf pc = r) : decode (gby 52) pc = r := h
theorem z52_0 : Run d 52 0 [some (.ref o), a1, a2] [] M 0 0 Z ↔ Run d 52 1 [some (.ref o), a1, a2] [.ref o] M 0 0 Z := R_local (gd52 dX4_lastOf_0) rfl rfl rfl
theorem z52_1 : Run d 52 1 [a0, a1, a2] [.ref o] M 0 0 Z ↔ gObj M o 4 ∧ Run d 52 4 [a0, a1, a2] [.int (M.1 o 8)] M 0 0 Z := R_getI (gd52 dX4_lastOf_1) rfl gf_4_36 rfl
theorem z52_4 : Run d 52 4 [a0, a1, a2] [s0] M 0 0 Z ↔ Run d 52 5 [a0, a1, a2] [.int 1, s0] M 0 0 Z := R_iconst (gd52 dX4_lastOf_4) (by decide)
theorem z52_5 : Run d 52 5 [a0, a1, a2] [.int y, .int x] M 0 0 Z ↔ Run d 52 6 [a0, a1, a2] [.int (x - y)] M 0 0 Z := R_arith (gd52 dX4_lastOf_5) rfl
theorem z52_6 : Run d 52 6 [a0, a1, a2] [.int x] M 0 0 Z ↔ Run d 52 7 [a0, a1, some (.int x)] [] M 0 0 Z := R_local (gd52 dX4_lastOf_6) rfl rfl rfl
theorem z52_7 : Run d 52 7 [a0, a1, some (.int x)] [] M 0 0 Z ↔ Run d 52 8 [a0, a1, some (.int x)] [.int x] M 0 0 Z := R_local (gd52 dX4_lastOf_7) rfl rfl rfl
theorem z52_8 : Run d 52 8 [a0, a1, a2] [.int x] M 0 0 Z ↔ (x < 0 → Run d 52 28 [a0, a1, a2] [] M 0 0 Z) ∧ (¬ (x < 0) → Run d 52 11 [a0, a1, a2] [] M 0 0 Z) := R_if (gd52 dX4_lastOf_8) (show gTgt 8 20 = some 28 by decide) gIf_lt
theorem z52_11 : Run d 52 11 [some (.ref o), a1, a2] [] M 0 0 Z ↔ Run d 52 12 [some (.ref o), a1, a2] [.ref o] M 0 0 Z := R_local (gd52 dX4_lastOf_11) rfl rfl rfl
theorem z52_12 : Run d 52 12 [a0, a1, some (.int x)] [s0] M 0 0 Z ↔ Run d 52 13 [a0, a1, some (.int x)] [.int x, s0] M 0 0 Z := R_local (gd52 dX4_lastOf_12) rfl rfl rfl
theorem z52_13 : Run d 52 13 [a0, a1, a2] [s1, .ref b] M 0 0 Z ↔ gObj M b 4 ∧ Call d 48 [.ref b, s1] M (fun r M1 => Run d 52 16 [a0, a1, a2] (r.toList ++ []) M1 0 0 Z) := R_callV (gd52 dX4_lastOf_13) rfl rfl rfl rfl rfl rfl gc_4_54 rfl rfl (Nat.le_of_ble_eq_true rfl) (Nat.le_of_ble_eq_true rfl) rfl rfl (Nat.le_of_ble_eq_true rfl) (Nat.le_of_ble_eq_true rfl)
theorem z52_16 : Run d 52 16 [a0, some (.int x), a2] [s0] M 0 0 Z ↔ Run d 52 17 [a0, some (.int x), a2] [.int x, s0] M 0 0 Z := R_local (gd52 dX4_lastOf_16) rfl rfl rfl
theorem z52_17 : Run d 52 17 [a0, a1, a2] [.int y, .int x] M 0 0 Z ↔ (¬ x = y → Run d 52 22 [a0, a1, a2] [] M 0 0 Z) ∧ (¬ (¬ x = y) → Run d 52 20 [a0, a1, a2] [] M 0 0 Z) := R_icmp (gd52 dX4_lastOf_17) (show gTgt 17 5 = some 22 by decide) gIf_ne
theorem z52_20 : Run d 52 20 [a0, a1, some (.int x)] [] M 0 0 Z ↔ Run d 52 21 [a0, a1, some (.int x)] [.int x] M 0 0 Z := R_local (gd52 dX4_lastOf_20) rfl rfl rfl
theorem z52_21 : Run d 52 21 [a0, a1, a2] [.int x] M 0 0 Z ↔ Z (some (.int x)) M := R_iret (gd52 dX4_lastOf_21) rfl
theorem z52_22 : Run d 52 22 [a0, a1, some (.int x)] [] M 0 0 Z ↔ Run d 52 25 [a0, a1, some (.int (x + (-1)))] [] M 0 0 Z := R_iinc (gd52 dX4_lastOf_22) (by decide) rfl rfl
theorem z52_25 : Run d 52 25 [a0, a1, a2] [] M 0 0 Z ↔ Run d 52 7 [a0, a1, a2] [] M 0 0 Z := R_goto (gd52 dX4_lastOf_25) (show gTgt 25 (-18) = some 7 by decide)
theorem z52_28 : Run d 52 28 [a0, a1, a2] [] M 0 0 Z ↔ Run d 52 29 [a0, a1, a2] [.int (-1)] M 0 0 Z := R_iconst (gd52 dX4_lastOf_28) (by decide)
theorem z52_29 : Run d 52 29 [a0, a1, a2] [.int x] M 0 0 Z ↔ Z (some (.int x)) M := R_iret (gd52 dX4_lastOf_29) rfl
theorem e52 : Call (d + 1) 52 [s0, s1] M Z ↔ Run d 52 0 [some s0, some s1, none] [] M 0 0 Z := Call_iff (Nat.lt_of_lt_of_le (Nat.lt_succ_self 52) (Nat.le_of_ble_eq_true rfl)) (Nat.le_of_ble_eq_true rfl)
/-! 53: X4_firstWith (I)I -/
theorem gd53 {pc : Nat} {r : Except _ _} (h : decode cX4_firstWith pc = r) : decode (gby 53) pc = r := h
theorem z53_0 : Run d 53 0 [a0, a1, a2, a3] [] M 0 0 Z ↔ Run d 53 1 [a0, a1, a2, a3] [.int 0] M 0 0 Z := R_iconst (gd53 dX4_firstWith_0) (by decide)
theorem z53_1 : Run d 53 1 [a0, some (.int x), a2, a3] [s0] M 0 0 Z ↔ Run d 53 2 [a0, some (.int x), a2, a3] [.int x, s0] M 0 0 Z := R_local (gd53 dX4_firstWith_1) rfl rfl rfl
theorem z53_2 : Run d 53 2 [a0, a1, a2, a3] [.int y, .int x] M 0 0 Z ↔ Run d 53 5 [a0, a1, a2, a3] [.int (if x < y then y else x)] M 0 0 Z := R_prim (gd53 dX4_firstWith_2) rfl rfl rfl rfl rfl rfl gc_4_58 rfl (by decide) rfl (Nat.le_of_ble_eq_true rfl)
theorem z53_5 : Run d 53 5 [a0, a1, a2, a3] [.int x] M 0 0 Z ↔ Run d 53 6 [a0, a1, some (.int x), a3] [] M 0 0 Z := R_local (gd53 dX4_firstWith_5) rfl rfl rfl
theorem z53_6 : Run d 53 6 [a0, some (.int x), a2, a3] [] M 0 0 Z ↔ Run d 53 7 [a0, some (.int x), a2, a3] [.int x] M 0 0 Z := R_local (gd53 dX4_firstWith_6) rfl rfl rfl
theorem z53_7 : Run d 53 7 [a0, a1, a2, a3] [.int x] M 0 0 Z ↔ Run d 53 8 [a0, a1, a2, some (.int x)] [] M 0 0 Z := R_local (gd53 dX4_firstWith_7) rfl rfl rfl
theorem z53_8 : Run d 53 8 [a0, a1, a2, some (.int x)] [] M 0 0 Z ↔ Run d 53 9 [a0, a1, a2, some (.int x)] [.int x] M 0 0 Z := R_local (gd53 dX4_firstWith_8) rfl rfl rfl
theorem z53_9 : Run d 53 9 [a0, a1, a2, a3] [.int x] M 0 0 Z ↔ (x < 0 → Run d 53 33 [a0, a1, a2, a3] [] M 0 0 Z) ∧ (¬ (x < 0) → Run d 53 12 [a0, a1, a2, a3] [] M 0 0 Z) := R_if (gd53 dX4_firstWith_9) (show gTgt 9 24 = some 33 by decide) gIf_lt
theorem z53_12 : Run d 53 12 [some (.ref o), a1, a2, a3] [] M 0 0 Z ↔ Run d 53 13 [some (.ref o), a1, a2, a3] [.ref o] M 0 0 Z := R_local (gd53 dX4_firstWith_12) rfl rfl rfl
theorem z53_13 : Run d 53 13 [a0, a1, a2, some (.int x)] [s0] M 0 0 Z ↔ Run d 53 14 [a0, a1, a2, some (.int x)] [.int x, s0] M 0 0 Z := R_local (gd53 dX4_firstWith_13) rfl rfl rfl
theorem z53_14 : Run d 53 14 [a0, a1, a2, a3] [s1, .ref b] M 0 0 Z ↔ gObj M b 4 ∧ Call d 48 [.ref b, s1] M (fun r M1 => Run d 53 17 [a0, a1, a2, a3] (r.toList ++ []) M1 0 0 Z) := R_callV (gd53 dX4_firstWith_14) rfl rfl rfl rfl rfl rfl gc_4_54 rfl rfl (Nat.le_of_ble_eq_true rfl) (Nat.le_of_ble_eq_true rfl) rfl rfl (Nat.le_of_ble_eq_true rfl) (Nat.le_of_ble_eq_true rfl)
theorem z53_17 : Run d 53 17 [some (.ref o), a1, a2, a3] [s0] M 0 0 Z ↔ Run d 53 18 [some (.ref o), a1, a2, a3] [.ref o, s0] M 0 0 Z := R_local (gd53 dX4_firstWith_17) rfl rfl rfl
theorem z53_18 : Run d 53 18 [a0, some (.int x), a2, a3] [s1, s0] M 0 0 Z ↔ Run d 53 19 [a0, some (.int x), a2, a3] [.int x, s1, s0] M 0 0 Z := R_local (gd53 dX4_firstWith_18) rfl rfl rfl
theorem z53_19 : Run d 53 19 [a0, a1, a2, a3] [s2, .ref b, s0] M 0 0 Z ↔ gObj M b 4 ∧ Call d 48 [.ref b, s2] M (fun r M1 => Run d 53 22 [a0, a1, a2, a3] (r.toList ++ [s0]) M1 0 0 Z) := R_callV (gd53 dX4_firstWith_19) rfl rfl rfl rfl rfl rfl gc_4_54 rfl rfl (Nat.le_of_ble_eq_true rfl) (Nat.le_of_ble_eq_true rfl) rfl rfl (Nat.le_of_ble_eq_true rfl) (Nat.le_of_ble_eq_true rfl)
theorem z53_22 : Run d 53 22 [a0, a1, a2, a3] [.int y, .int x] M 0 0 Z ↔ (¬ x = y → Run d 53 33 [a0, a1, a2, a3] [] M 0 0 Z) ∧ (¬ (¬ x = y) → Run d 53 25 [a0, a1, a2, a3] [] M 0 0 Z) := R_icmp (gd53 dX4_firstWith_22) (show gTgt 22 11 = some 33 by decide) gIf_ne
theorem z53_25 : Run d 53 25 [a0, a1, a2, some (.int x)] [] M 0 0 Z ↔ Run d 53 26 [a0, a1, a2, some (.int x)] [.int x] M 0 0 Z := R_local (gd53 dX4_firstWith_25) rfl rfl rfl
theorem z53_26 : Run d 53 26 [a0, a1, a2, a3] [.int x] M 0 0 Z ↔ Run d 53 27 [a0, a1, some (.int x), a3] [] M 0 0 Z := R_local (gd53 dX4_firstWith_26) rfl rfl rfl
theorem z53_27 : Run d 53 27 [a0, a1, a2, some (.int x)] [] M 0 0 Z ↔ Run d 53 30 [a0, a1, a2, some (.int (x + (-1)))] [] M 0 0 Z := R_iinc (gd53 dX4_firstWith_27) (by decide) rfl rfl
theorem z53_30 : Run d 53 30 [a0, a1, a2, a3] [] M 0 0 Z ↔ Run d 53 8 [a0, a1, a2, a3] [] M 0 0 Z := R_goto (gd53 dX4_firstWith_30) (show gTgt 30 (-22) = some 8 by decide)
theorem z53_33 : Run d 53 33 [a0, a1, some (.int x), a3] [] M 0 0 Z ↔ Run d 53 34 [a0, a1, some (.int x), a3] [.int x] M 0 0 Z := R_local (gd53 dX4_firstWith_33) rfl rfl rfl
theorem z53_34 : Run d 53 34 [a0, a1, a2, a3] [.int x] M 0 0 Z ↔ Z (some (.int x)) M := R_iret (gd53 dX4_firstWith_34) rfl
theorem e53 : Call (d + 1) 53 [s0, s1] M Z ↔ Run d 53 0 [some s0, some s1, none, none] [] M 0 0 Z := Call_iff (Nat.lt_of_lt_of_le (Nat.lt_succ_self 53) (Nat.le_of_ble_eq_true rfl)) (Nat.le_of_ble_eq_true rfl)
/-! 54: X4_pulled (II[II)I -/
theorem gd54 {pc : Nat} {r : Except _ _} (h : decode cX4_pulled pc = r) : decode (gby 54) pc = r := h
theorem z54_0 : Run d 54 0 [a0, a1, a2, a3, a4, a5, a6, a7, a8, a9] [] M 0 0 Z ↔ Run d 54 1 [a0, a1, a2, a3, a4, a5, a6, a7, a8, a9] [.int 0] M 0 0 Z := R_iconst (gd54 dX4_pulled_0) (by decide)
theorem z54_1 : Run d 54 1 [a0, a1, a2, a3, a4, a5, a6, a7, a8, a9] [.int x] M 0 0 Z ↔ Run d 54 3 [a0, a1, a2, a3, a4, some (.int x), a6, a7, a8, a9] [] M 0 0 Z := R_local (gd54 dX4_pulled_1) rfl rfl rfl
theorem z54_3 : Run d 54 3 [a0, some (.int x), a2, a3, a4, a5, a6, a7, a8, a9] [] M 0 0 Z ↔ Run d 54 4 [a0, some (.int x), a2, a3, a4, a5, a6, a7, a8, a9] [.int x] M 0 0 Z := R_local (gd54 dX4_pulled_3) rfl rfl rfl
theorem z54_4 : Run d 54 4 [a0, a1, a2, a3, a4, a5, a6, a7, a8, a9] [.int x] M 0 0 Z ↔ Run d 54 6 [a0, a1, a2, a3, a4, a5, some (.int x), a7, a8, a9] [] M 0 0 Z := R_local (gd54 dX4_pulled_4) rfl rfl rfl
theorem z54_6 : Run d 54 6 [a0, a1, a2, a3, a4, a5, some (.int x), a7, a8, a9] [] M 0 0 Z ↔ Run d 54 8 [a0, a1, a2, a3, a4, a5, some (.int x), a7, a8, a9] [.int x] M 0 0 Z := R_local (gd54 dX4_pulled_6) rfl rfl rfl
theorem z54_8 : Run d 54 8 [a0, a1, some (.int x), a3, a4, a5, a6, a7, a8, a9] [s0] M 0 0 Z ↔ Run d 54 9 [a0, a1, some (.int x), a3, a4, a5, a6, a7, a8, a9] [.int x, s0] M 0 0 Z := R_local (gd54 dX4_pulled_8) rfl rfl rfl
theorem z54_9 : Run d 54 9 [a0, a1, a2, a3, a4, a5, a6, a7, a8, a9] [.int y, .int x] M 0 0 Z ↔ (y < x → Run d 54 86 [a0, a1, a2, a3, a4, a5, a6, a7, a8, a9] [] M 0 0 Z) ∧ (¬ (y < x) → Run d 54 12 [a0, a1, a2, a3, a4, a5, a6, a7, a8, a9] [] M 0 0 Z) := R_icmp (gd54 dX4_pulled_9) (show gTgt 9 77 = some 86 by decide) gIf_gt
theorem z54_12 : Run d 54 12 [a0, a1, a2, a3, a4, a5, a6, a7, a8, a9] [] M 0 0 Z ↔ Run d 54 13 [a0, a1, a2, a3, a4, a5, a6, a7, a8, a9] [.int 0] M 0 0 Z := R_iconst (gd54 dX4_pulled_12) (by decide)
theorem z54_13 : Run d 54 13 [a0, a1, a2, a3, a4, a5, a6, a7, a8, a9] [.int x] M 0 0 Z ↔ Run d 54 15 [a0, a1, a2, a3, a4, a5, a6, some (.int x), a8, a9] [] M 0 0 Z := R_local (gd54 dX4_pulled_13) rfl rfl rfl
theorem z54_15 : Run d 54 15 [some (.ref o), a1, a2, a3, a4, a5, a6, a7, a8, a9] [] M 0 0 Z ↔ Run d 54 16 [some (.ref o), a1, a2, a3, a4, a5, a6, a7, a8, a9] [.ref o] M 0 0 Z := R_local (gd54 dX4_pulled_15) rfl rfl rfl
theorem z54_16 : Run d 54 16 [a0, a1, a2, a3, a4, a5, some (.int x), a7, a8, a9] [s0] M 0 0 Z ↔ Run d 54 18 [a0, a1, a2, a3, a4, a5, some (.int x), a7, a8, a9] [.int x, s0] M 0 0 Z := R_local (gd54 dX4_pulled_16) rfl rfl rfl
theorem z54_18 : Run d 54 18 [a0, a1, a2, a3, a4, a5, a6, a7, a8, a9] [s1, .ref b] M 0 0 Z ↔ gObj M b 4 ∧ Call d 49 [.ref b, s1] M (fun r M1 => Run d 54 21 [a0, a1, a2, a3, a4, a5, a6, a7, a8, a9] (r.toList ++ []) M1 0 0 Z) := R_callV (gd54 dX4_pulled_18) rfl rfl rfl rfl rfl rfl gc_4_64 rfl rfl (Nat.le_of_ble_eq_true rfl) (Nat.le_of_ble_eq_true rfl) rfl rfl (Nat.le_of_ble_eq_true rfl) (Nat.le_of_ble_eq_true rfl)
theorem z54_21 : Run d 54 21 [a0, a1, a2, a3, a4, a5, a6, a7, a8, a9] [.int x] M 0 0 Z ↔ Run d 54 23 [a0, a1, a2, a3, a4, a5, a6, a7, some (.int x), a9] [] M 0 0 Z := R_local (gd54 dX4_pulled_21) rfl rfl rfl
theorem z54_23 : Run d 54 23 [a0, a1, a2, a3, a4, a5, a6, a7, some (.int x), a9] [] M 0 0 Z ↔ Run d 54 25 [a0, a1, a2, a3, a4, a5, a6, a7, some (.int x), a9] [.int x] M 0 0 Z := R_local (gd54 dX4_pulled_23) rfl rfl rfl
theorem z54_25 : Run d 54 25 [some (.ref o), a1, a2, a3, a4, a5, a6, a7, a8, a9] [s0] M 0 0 Z ↔ Run d 54 26 [some (.ref o), a1, a2, a3, a4, a5, a6, a7, a8, a9] [.ref o, s0] M 0 0 Z := R_local (gd54 dX4_pulled_25) rfl rfl rfl
theorem z54_26 : Run d 54 26 [a0, a1, a2, a3, a4, a5, some (.int x), a7, a8, a9] [s1, s0] M 0 0 Z ↔ Run d 54 28 [a0, a1, a2, a3, a4, a5, some (.int x), a7, a8, a9] [.int x, s1, s0] M 0 0 Z := R_local (gd54 dX4_pulled_26) rfl rfl rfl
theorem z54_28 : Run d 54 28 [a0, a1, a2, a3, a4, a5, a6, a7, a8, a9] [s2, .ref b, s0] M 0 0 Z ↔ gObj M b 4 ∧ Call d 50 [.ref b, s2] M (fun r M1 => Run d 54 31 [a0, a1, a2, a3, a4, a5, a6, a7, a8, a9] (r.toList ++ [s0]) M1 0 0 Z) := R_callV (gd54 dX4_pulled_28) rfl rfl rfl rfl rfl rfl gc_4_67 rfl rfl (Nat.le_of_ble_eq_true rfl) (Nat.le_of_ble_eq_true rfl) rfl rfl (Nat.le_of_ble_eq_true rfl) (Nat.le_of_ble_eq_true rfl)
theorem z54_31 : Run d 54 31 [a0, a1, a2, a3, a4, a5, a6, a7, a8, a9] [.int y, .int x] M 0 0 Z ↔ (y ≤ x → Run d 54 73 [a0, a1, a2, a3, a4, a5, a6, a7, a8, a9] [] M 0 0 Z) ∧ (¬ (y ≤ x) → Run d 54 34 [a0, a1, a2, a3, a4, a5, a6, a7, a8, a9] [] M 0 0 Z) := R_icmp (gd54 dX4_pulled_31) (show gTgt 31 42 = some 73 by decide) gIf_ge
theorem z54_34 : Run d 54 34 [a0, a1, a2, a3, some (.int x), a5, a6, a7, a8, a9] [] M 0 0 Z ↔ Run d 54 36 [a0, a1, a2, a3, some (.int x), a5, a6, a7, a8, a9] [.int x] M 0 0 Z := R_local (gd54 dX4_pulled_34) rfl rfl rfl
theorem z54_36 : Run d 54 36 [a0, a1, a2, a3, a4, a5, a6, a7, some (.int x), a9] [s0] M 0 0 Z ↔ Run d 54 38 [a0, a1, a2, a3, a4, a5, a6, a7, some (.int x), a9] [.int x, s0] M 0 0 Z := R_local (gd54 dX4_pulled_36) rfl rfl rfl
theorem z54_38 : Run d 54 38 [a0, a1, a2, a3, a4, a5, a6, a7, a8, a9] [.int y, .int x] M 0 0 Z ↔ Run d 54 39 [a0, a1, a2, a3, a4, a5, a6, a7, a8, a9] [.int (x + y)] M 0 0 Z := R_arith (gd54 dX4_pulled_38) rfl
theorem z54_39 : Run d 54 39 [a0, a1, a2, a3, a4, a5, a6, a7, a8, a9] [.int x] M 0 0 Z ↔ Run d 54 41 [a0, a1, a2, a3, a4, a5, a6, a7, a8, some (.int x)] [] M 0 0 Z := R_local (gd54 dX4_pulled_39) rfl rfl rfl
theorem z54_41 : Run d 54 41 [a0, a1, a2, a3, a4, a5, a6, a7, a8, some (.int x)] [] M 0 0 Z ↔ Run d 54 43 [a0, a1, a2, a3, a4, a5, a6, a7, a8, some (.int x)] [.int x] M 0 0 Z := R_local (gd54 dX4_pulled_41) rfl rfl rfl
theorem z54_43 : Run d 54 43 [a0, a1, a2, some (.ref o), a4, a5, a6, a7, a8, a9] [s0] M 0 0 Z ↔ Run d 54 44 [a0, a1, a2, some (.ref o), a4, a5, a6, a7, a8, a9] [.ref o, s0] M 0 0 Z := R_local (gd54 dX4_pulled_43) rfl rfl rfl
theorem z54_43n : Run d 54 43 [a0, a1, a2, some .null, a4, a5, a6, a7, a8, a9] [s0] M 0 0 Z ↔ Run d 54 44 [a0, a1, a2, some .null, a4, a5, a6, a7, a8, a9] [.null, s0] M 0 0 Z := R_local (gd54 dX4_pulled_43) rfl rfl rfl
theorem z54_44 : Run d 54 44 [a0, a1, a2, a3, a4, a5, a6, a7, a8, a9] [.ref o, s0] M 0 0 Z ↔ (gTy M o).isSome = true ∧ Run d 54 45 [a0, a1, a2, a3, a4, a5, a6, a7, a8, a9] [.int (nI (gLen M o)), s0] M 0 0 Z := R_alen (gd54 dX4_pulled_44)
theorem z54_45 : Run d 54 45 [a0, a1, a2, a3, a4, a5, a6, a7, a8, a9] [s1, s0] M 0 0 Z ↔ Call d 110 [s0, s1] M (fun r M1 => Run d 54 48 [a0, a1, a2, a3, a4, a5, a6, a7, a8, a9] (r.toList ++ []) M1 0 0 Z) := R_call (gd54 dX4_pulled_45) rfl rfl rfl rfl rfl rfl gc_4_70 rfl (by decide) (Nat.le_of_ble_eq_true rfl) (Nat.le_of_ble_eq_true rfl) rfl rfl rfl (Nat.le_of_ble_eq_true rfl) (Nat.le_of_ble_eq_true rfl)
theorem z54_48 : Run d 54 48 [a0, a1, a2, a3, a4, a5, a6, a7, a8, a9] [.int x] M 0 0 Z ↔ (x = 0 → Run d 54 63 [a0, a1, a2, a3, a4, a5, a6, a7, a8, a9] [] M 0 0 Z) ∧ (¬ (x = 0) → Run d 54 51 [a0, a1, a2, a3, a4, a5, a6, a7, a8, a9] [] M 0 0 Z) := R_if (gd54 dX4_pulled_48) (show gTgt 48 15 = some 63 by decide) gIf_eq
theorem z54_51 : Run d 54 51 [a0, a1, a2, a3, a4, a5, a6, some (.int x), a8, a9] [] M 0 0 Z ↔ Run d 54 53 [a0, a1, a2, a3, a4, a5, a6, some (.int x), a8, a9] [.int x] M 0 0 Z := R_local (gd54 dX4_pulled_51) rfl rfl rfl
theorem z54_53 : Run d 54 53 [a0, a1, a2, some (.ref o), a4, a5, a6, a7, a8, a9] [s0] M 0 0 Z ↔ Run d 54 54 [a0, a1, a2, some (.ref o), a4, a5, a6, a7, a8, a9] [.ref o, s0] M 0 0 Z := R_local (gd54 dX4_pulled_53) rfl rfl rfl
theorem z54_53n : Run d 54 53 [a0, a1, a2, some .null, a4, a5, a6, a7, a8, a9] [s0] M 0 0 Z ↔ Run d 54 54 [a0, a1, a2, some .null, a4, a5, a6, a7, a8, a9] [.null, s0] M 0 0 Z := R_local (gd54 dX4_pulled_53) rfl rfl rfl
theorem z54_54 : Run d 54 54 [a0, a1, a2, a3, a4, a5, a6, a7, a8, some (.int x)] [s1, s0] M 0 0 Z ↔ Run d 54 56 [a0, a1, a2, a3, a4, a5, a6, a7, a8, some (.int x)] [.int x, s1, s0] M 0 0 Z := R_local (gd54 dX4_pulled_54) rfl rfl rfl
theorem z54_56 : Run d 54 56 [a0, a1, a2, a3, a4, a5, a6, a7, a8, a9] [.int x, .ref o, s0] M 0 0 Z ↔ gAr M o 0 ∧ gIn x (gLen M o) = true ∧ Run d 54 57 [a0, a1, a2, a3, a4, a5, a6, a7, a8, a9] [.int (M.1 o x.toNatClampNeg), s0] M 0 0 Z := R_iald (gd54 dX4_pulled_56)
theorem z54_57 : Run d 54 57 [a0, a1, a2, a3, a4, a5, a6, a7, a8, a9] [.int y, .int x] M 0 0 Z ↔ Run d 54 60 [a0, a1, a2, a3, a4, a5, a6, a7, a8, a9] [.int (if x < y then y else x)] M 0 0 Z := R_prim (gd54 dX4_pulled_57) rfl rfl rfl rfl rfl rfl gc_4_58 rfl (by decide) rfl (Nat.le_of_ble_eq_true rfl)
theorem z54_60 : Run d 54 60 [a0, a1, a2, a3, a4, a5, a6, a7, a8, a9] [s0] M 0 0 Z ↔ Run d 54 65 [a0, a1, a2, a3, a4, a5, a6, a7, a8, a9] [s0] M 0 0 Z := R_goto (gd54 dX4_pulled_60) (show gTgt 60 5 = some 65 by decide)
theorem z54_63 : Run d 54 63 [a0, a1, a2, a3, a4, a5, a6, some (.int x), a8, a9] [] M 0 0 Z ↔ Run d 54 65 [a0, a1, a2, a3, a4, a5, a6, some (.int x), a8, a9] [.int x] M 0 0 Z := R_local (gd54 dX4_pulled_63) rfl rfl rfl
theorem z54_65 : Run d 54 65 [a0, a1, a2, a3, a4, a5, a6, a7, a8, a9] [.int x] M 0 0 Z ↔ Run d 54 67 [a0, a1, a2, a3, a4, a5, a6, some (.int x), a8, a9] [] M 0 0 Z := R_local (gd54 dX4_pulled_65) rfl rfl rfl
theorem z54_67 : Run d 54 67 [a0, a1, a2, a3, a4, a5, a6, a7, some (.int x), a9] [] M 0 0 Z ↔ Run d 54 70 [a0, a1, a2, a3, a4, a5, a6, a7, some (.int (x + 1)), a9] [] M 0 0 Z := R_iinc (gd54 dX4_pulled_67) (by decide) rfl rfl
theorem z54_70 : Run d 54 70 [a0, a1, a2, a3, a4, a5, a6, a7, a8, a9] [] M 0 0 Z ↔ Run d 54 23 [a0, a1, a2, a3, a4, a5, a6, a7, a8, a9] [] M 0 0 Z := R_goto (gd54 dX4_pulled_70) (show gTgt 70 (-47) = some 23 by decide)
theorem z54_73 : Run d 54 73 [a0, a1, a2, a3, a4, some (.int x), a6, a7, a8, a9] [] M 0 0 Z ↔ Run d 54 75 [a0, a1, a2, a3, a4, some (.int x), a6, a7, a8, a9] [.int x] M 0 0 Z := R_local (gd54 dX4_pulled_73) rfl rfl rfl
theorem z54_75 : Run d 54 75 [a0, a1, a2, a3, a4, a5, a6, some (.int x), a8, a9] [s0] M 0 0 Z ↔ Run d 54 77 [a0, a1, a2, a3, a4, a5, a6, some (.int x), a8, a9] [.int x, s0] M 0 0 Z := R_local (gd54 dX4_pulled_75) rfl rfl rfl
theorem z54_77 : Run d 54 77 [a0, a1, a2, a3, a4, a5, a6, a7, a8, a9] [.int y, .int x] M 0 0 Z ↔ Run d 54 78 [a0, a1, a2, a3, a4, a5, a6, a7, a8, a9] [.int (x + y)] M 0 0 Z := R_arith (gd54 dX4_pulled_77) rfl
theorem z54_78 : Run d 54 78 [a0, a1, a2, a3, a4, a5, a6, a7, a8, a9] [.int x] M 0 0 Z ↔ Run d 54 80 [a0, a1, a2, a3, a4, some (.int x), a6, a7, a8, a9] [] M 0 0 Z := R_local (gd54 dX4_pulled_78) rfl rfl rfl
theorem z54_80 : Run d 54 80 [a0, a1, a2, a3, a4, a5, some (.int x), a7, a8, a9] [] M 0 0 Z ↔ Run d 54 83 [a0, a1, a2, a3, a4, a5, some (.int (x + 1)), a7, a8, a9] [] M 0 0 Z := R_iinc (gd54 dX4_pulled_80) (by decide) rfl rfl
theorem z54_83 : Run d 54 83 [a0, a1, a2, a3, a4, a5, a6, a7, a8, a9] [] M 0 0 Z ↔ Run d 54 6 [a0, a1, a2, a3, a4, a5, a6, a7, a8, a9] [] M 0 0 Z := R_goto (gd54 dX4_pulled_83) (show gTgt 83 (-77) = some 6 by decide)
theorem z54_86 : Run d 54 86 [a0, a1, a2, a3, a4, some (.int x), a6, a7, a8, a9] [] M 0 0 Z ↔ Run d 54 88 [a0, a1, a2, a3, a4, some (.int x), a6, a7, a8, a9] [.int x] M 0 0 Z := R_local (gd54 dX4_pulled_86) rfl rfl rfl
theorem z54_88 : Run d 54 88 [a0, a1, a2, a3, a4, a5, a6, a7, a8, a9] [.int x] M 0 0 Z ↔ Z (some (.int x)) M := R_iret (gd54 dX4_pulled_88) rfl
theorem e54 : Call (d + 1) 54 [s0, s1, s2, s3, s4] M Z ↔ Run d 54 0 [some s0, some s1, some s2, some s3, some s4, none, none, none, none, none] [] M 0 0 Z := Call_iff (Nat.lt_of_lt_of_le (Nat.lt_succ_self 54) (Nat.le_of_ble_eq_true rfl)) (Nat.le_of_ble_eq_true rfl)
/-! 55: X4_held (II[I)I -/
theorem gd55 {pc : Nat} {r : Except _ _} (h : decode cX4_held pc = r) : decode (gby 55) pc = r := h
theorem z55_0 : Run d 55 0 [a0, a1, a2, a3, a4, a5, a6, a7, a8] [] M 0 0 Z ↔ Run d 55 1 [a0, a1, a2, a3, a4, a5, a6, a7, a8] [.int 0] M 0 0 Z := R_iconst (gd55 dX4_held_0) (by decide)
theorem z55_1 : Run d 55 1 [a0, a1, a2, a3, a4, a5, a6, a7, a8] [.int x] M 0 0 Z ↔ Run d 55 3 [a0, a1, a2, a3, some (.int x), a5, a6, a7, a8] [] M 0 0 Z := R_local (gd55 dX4_held_1) rfl rfl rfl
theorem z55_3 : Run d 55 3 [a0, a1, a2, a3, a4, a5, a6, a7, a8] [] M 0 0 Z ↔ Run d 55 4 [a0, a1, a2, a3, a4, a5, a6, a7, a8] [.int 0] M 0 0 Z := R_iconst (gd55 dX4_held_3) (by decide)
theorem z55_4 : Run d 55 4 [a0, a1, a2, a3, a4, a5, a6, a7, a8] [.int x] M 0 0 Z ↔ Run d 55 6 [a0, a1, a2, a3, a4, some (.int x), a6, a7, a8] [] M 0 0 Z := R_local (gd55 dX4_held_4) rfl rfl rfl
theorem z55_6 : Run d 55 6 [a0, some (.int x), a2, a3, a4, a5, a6, a7, a8] [] M 0 0 Z ↔ Run d 55 7 [a0, some (.int x), a2, a3, a4, a5, a6, a7, a8] [.int x] M 0 0 Z := R_local (gd55 dX4_held_6) rfl rfl rfl
theorem z55_7 : Run d 55 7 [a0, a1, a2, a3, a4, a5, a6, a7, a8] [.int x] M 0 0 Z ↔ Run d 55 9 [a0, a1, a2, a3, a4, a5, some (.int x), a7, a8] [] M 0 0 Z := R_local (gd55 dX4_held_7) rfl rfl rfl
theorem z55_9 : Run d 55 9 [a0, a1, a2, a3, a4, a5, some (.int x), a7, a8] [] M 0 0 Z ↔ Run d 55 11 [a0, a1, a2, a3, a4, a5, some (.int x), a7, a8] [.int x] M 0 0 Z := R_local (gd55 dX4_held_9) rfl rfl rfl
theorem z55_11 : Run d 55 11 [a0, a1, some (.int x), a3, a4, a5, a6, a7, a8] [s0] M 0 0 Z ↔ Run d 55 12 [a0, a1, some (.int x), a3, a4, a5, a6, a7, a8] [.int x, s0] M 0 0 Z := R_local (gd55 dX4_held_11) rfl rfl rfl
theorem z55_12 : Run d 55 12 [a0, a1, a2, a3, a4, a5, a6, a7, a8] [.int y, .int x] M 0 0 Z ↔ (y < x → Run d 55 109 [a0, a1, a2, a3, a4, a5, a6, a7, a8] [] M 0 0 Z) ∧ (¬ (y < x) → Run d 55 15 [a0, a1, a2, a3, a4, a5, a6, a7, a8] [] M 0 0 Z) := R_icmp (gd55 dX4_held_12) (show gTgt 12 97 = some 109 by decide) gIf_gt
theorem z55_15 : Run d 55 15 [a0, a1, a2, a3, some (.int x), a5, a6, a7, a8] [] M 0 0 Z ↔ Run d 55 17 [a0, a1, a2, a3, some (.int x), a5, a6, a7, a8] [.int x] M 0 0 Z := R_local (gd55 dX4_held_15) rfl rfl rfl
theorem z55_17 : Run d 55 17 [some (.ref o), a1, a2, a3, a4, a5, a6, a7, a8] [s0] M 0 0 Z ↔ Run d 55 18 [some (.ref o), a1, a2, a3, a4, a5, a6, a7, a8] [.ref o, s0] M 0 0 Z := R_local (gd55 dX4_held_17) rfl rfl rfl
theorem z55_18 : Run d 55 18 [a0, a1, a2, a3, a4, a5, some (.int x), a7, a8] [s1, s0] M 0 0 Z ↔ Run d 55 20 [a0, a1, a2, a3, a4, a5, some (.int x), a7, a8] [.int x, s1, s0] M 0 0 Z := R_local (gd55 dX4_held_18) rfl rfl rfl
theorem z55_20 : Run d 55 20 [a0, a1, a2, a3, a4, a5, a6, a7, a8] [s2, .ref b, s0] M 0 0 Z ↔ gObj M b 4 ∧ Call d 41 [.ref b, s2] M (fun r M1 => Run d 55 23 [a0, a1, a2, a3, a4, a5, a6, a7, a8] (r.toList ++ [s0]) M1 0 0 Z) := R_callV (gd55 dX4_held_20) rfl rfl rfl rfl rfl rfl gc_4_40 rfl rfl (Nat.le_of_ble_eq_true rfl) (Nat.le_of_ble_eq_true rfl) rfl rfl (Nat.le_of_ble_eq_true rfl) (Nat.le_of_ble_eq_true rfl)
theorem z55_23 : Run d 55 23 [a0, a1, a2, a3, a4, a5, a6, a7, a8] [.int x, s0] M 0 0 Z ↔ (x = 0 → Run d 55 38 [a0, a1, a2, a3, a4, a5, a6, a7, a8] [s0] M 0 0 Z) ∧ (¬ (x = 0) → Run d 55 26 [a0, a1, a2, a3, a4, a5, a6, a7, a8] [s0] M 0 0 Z) := R_if (gd55 dX4_held_23) (show gTgt 23 15 = some 38 by decide) gIf_eq
theorem z55_26 : Run d 55 26 [a0, a1, a2, a3, a4, a5, a6, a7, a8] [s0] M 0 0 Z ↔ Run d 55 27 [a0, a1, a2, a3, a4, a5, a6, a7, a8] [.int 4, s0] M 0 0 Z := R_iconst (gd55 dX4_held_26) (by decide)
theorem z55_27 : Run d 55 27 [some (.ref o), a1, a2, a3, a4, a5, a6, a7, a8] [s1, s0] M 0 0 Z ↔ Run d 55 28 [some (.ref o), a1, a2, a3, a4, a5, a6, a7, a8] [.ref o, s1, s0] M 0 0 Z := R_local (gd55 dX4_held_27) rfl rfl rfl
theorem z55_28 : Run d 55 28 [a0, a1, a2, a3, a4, a5, a6, a7, a8] [.ref o, s1, s0] M 0 0 Z ↔ gObj M o 4 ∧ Run d 55 31 [a0, a1, a2, a3, a4, a5, a6, a7, a8] [va_rf (M.2.1 o 7), s1, s0] M 0 0 Z := R_getR (gd55 dX4_held_28) rfl gf_4_33 rfl
theorem z55_31 : Run d 55 31 [a0, a1, a2, a3, a4, a5, some (.int x), a7, a8] [s2, s1, s0] M 0 0 Z ↔ Run d 55 33 [a0, a1, a2, a3, a4, a5, some (.int x), a7, a8] [.int x, s2, s1, s0] M 0 0 Z := R_local (gd55 dX4_held_31) rfl rfl rfl
theorem z55_33 : Run d 55 33 [a0, a1, a2, a3, a4, a5, a6, a7, a8] [.int x, .ref o, s1, s0] M 0 0 Z ↔ gAr M o 0 ∧ gIn x (gLen M o) = true ∧ Run d 55 34 [a0, a1, a2, a3, a4, a5, a6, a7, a8] [.int (M.1 o x.toNatClampNeg), s1, s0] M 0 0 Z := R_iald (gd55 dX4_held_33)
theorem z55_34 : Run d 55 34 [a0, a1, a2, a3, a4, a5, a6, a7, a8] [.int y, .int x, s0] M 0 0 Z ↔ Run d 55 35 [a0, a1, a2, a3, a4, a5, a6, a7, a8] [.int (x * y), s0] M 0 0 Z := R_arith (gd55 dX4_held_34) rfl
theorem z55_35 : Run d 55 35 [a0, a1, a2, a3, a4, a5, a6, a7, a8] [s1, s0] M 0 0 Z ↔ Run d 55 39 [a0, a1, a2, a3, a4, a5, a6, a7, a8] [s1, s0] M 0 0 Z := R_goto (gd55 dX4_held_35) (show gTgt 35 4 = some 39 by decide)
theorem z55_38 : Run d 55 38 [a0, a1, a2, a3, a4, a5, a6, a7, a8] [s0] M 0 0 Z ↔ Run d 55 39 [a0, a1, a2, a3, a4, a5, a6, a7, a8] [.int 0, s0] M 0 0 Z := R_iconst (gd55 dX4_held_38) (by decide)
theorem z55_39 : Run d 55 39 [a0, a1, a2, a3, a4, a5, a6, a7, a8] [.int y, .int x] M 0 0 Z ↔ Run d 55 40 [a0, a1, a2, a3, a4, a5, a6, a7, a8] [.int (x + y)] M 0 0 Z := R_arith (gd55 dX4_held_39) rfl
theorem z55_40 : Run d 55 40 [a0, a1, a2, a3, a4, a5, a6, a7, a8] [.int x] M 0 0 Z ↔ Run d 55 42 [a0, a1, a2, a3, some (.int x), a5, a6, a7, a8] [] M 0 0 Z := R_local (gd55 dX4_held_40) rfl rfl rfl
theorem z55_42 : Run d 55 42 [some (.ref o), a1, a2, a3, a4, a5, a6, a7, a8] [] M 0 0 Z ↔ Run d 55 43 [some (.ref o), a1, a2, a3, a4, a5, a6, a7, a8] [.ref o] M 0 0 Z := R_local (gd55 dX4_held_42) rfl rfl rfl
theorem z55_43 : Run d 55 43 [a0, a1, a2, a3, a4, a5, some (.int x), a7, a8] [s0] M 0 0 Z ↔ Run d 55 45 [a0, a1, a2, a3, a4, a5, some (.int x), a7, a8] [.int x, s0] M 0 0 Z := R_local (gd55 dX4_held_43) rfl rfl rfl
theorem z55_45 : Run d 55 45 [a0, a1, a2, a3, a4, a5, a6, a7, a8] [s1, .ref b] M 0 0 Z ↔ gObj M b 4 ∧ Call d 49 [.ref b, s1] M (fun r M1 => Run d 55 48 [a0, a1, a2, a3, a4, a5, a6, a7, a8] (r.toList ++ []) M1 0 0 Z) := R_callV (gd55 dX4_held_45) rfl rfl rfl rfl rfl rfl gc_4_64 rfl rfl (Nat.le_of_ble_eq_true rfl) (Nat.le_of_ble_eq_true rfl) rfl rfl (Nat.le_of_ble_eq_true rfl) (Nat.le_of_ble_eq_true rfl)
theorem z55_48 : Run d 55 48 [a0, a1, a2, a3, a4, a5, a6, a7, a8] [.int x] M 0 0 Z ↔ Run d 55 50 [a0, a1, a2, a3, a4, a5, a6, some (.int x), a8] [] M 0 0 Z := R_local (gd55 dX4_held_48) rfl rfl rfl
theorem z55_50 : Run d 55 50 [a0, a1, a2, a3, a4, a5, a6, some (.int x), a8] [] M 0 0 Z ↔ Run d 55 52 [a0, a1, a2, a3, a4, a5, a6, some (.int x), a8] [.int x] M 0 0 Z := R_local (gd55 dX4_held_50) rfl rfl rfl
theorem z55_52 : Run d 55 52 [some (.ref o), a1, a2, a3, a4, a5, a6, a7, a8] [s0] M 0 0 Z ↔ Run d 55 53 [some (.ref o), a1, a2, a3, a4, a5, a6, a7, a8] [.ref o, s0] M 0 0 Z := R_local (gd55 dX4_held_52) rfl rfl rfl
theorem z55_53 : Run d 55 53 [a0, a1, a2, a3, a4, a5, some (.int x), a7, a8] [s1, s0] M 0 0 Z ↔ Run d 55 55 [a0, a1, a2, a3, a4, a5, some (.int x), a7, a8] [.int x, s1, s0] M 0 0 Z := R_local (gd55 dX4_held_53) rfl rfl rfl
theorem z55_55 : Run d 55 55 [a0, a1, a2, a3, a4, a5, a6, a7, a8] [s2, .ref b, s0] M 0 0 Z ↔ gObj M b 4 ∧ Call d 50 [.ref b, s2] M (fun r M1 => Run d 55 58 [a0, a1, a2, a3, a4, a5, a6, a7, a8] (r.toList ++ [s0]) M1 0 0 Z) := R_callV (gd55 dX4_held_55) rfl rfl rfl rfl rfl rfl gc_4_67 rfl rfl (Nat.le_of_ble_eq_true rfl) (Nat.le_of_ble_eq_true rfl) rfl rfl (Nat.le_of_ble_eq_true rfl) (Nat.le_of_ble_eq_true rfl)
theorem z55_58 : Run d 55 58 [a0, a1, a2, a3, a4, a5, a6, a7, a8] [.int y, .int x] M 0 0 Z ↔ (y ≤ x → Run d 55 103 [a0, a1, a2, a3, a4, a5, a6, a7, a8] [] M 0 0 Z) ∧ (¬ (y ≤ x) → Run d 55 61 [a0, a1, a2, a3, a4, a5, a6, a7, a8] [] M 0 0 Z) := R_icmp (gd55 dX4_held_58) (show gTgt 58 45 = some 103 by decide) gIf_ge
theorem z55_61 : Run d 55 61 [some (.ref o), a1, a2, a3, a4, a5, a6, a7, a8] [] M 0 0 Z ↔ Run d 55 62 [some (.ref o), a1, a2, a3, a4, a5, a6, a7, a8] [.ref o] M 0 0 Z := R_local (gd55 dX4_held_61) rfl rfl rfl
theorem z55_62 : Run d 55 62 [a0, a1, a2, a3, a4, a5, some (.int x), a7, a8] [s0] M 0 0 Z ↔ Run d 55 64 [a0, a1, a2, a3, a4, a5, some (.int x), a7, a8] [.int x, s0] M 0 0 Z := R_local (gd55 dX4_held_62) rfl rfl rfl
theorem z55_64 : Run d 55 64 [a0, a1, a2, a3, a4, a5, a6, some (.int x), a8] [s1, s0] M 0 0 Z ↔ Run d 55 66 [a0, a1, a2, a3, a4, a5, a6, some (.int x), a8] [.int x, s1, s0] M 0 0 Z := R_local (gd55 dX4_held_64) rfl rfl rfl
theorem z55_66 : Run d 55 66 [a0, a1, a2, a3, a4, a5, a6, a7, a8] [s2, s1, .ref b] M 0 0 Z ↔ gObj M b 4 ∧ Call d 51 [.ref b, s1, s2] M (fun r M1 => Run d 55 69 [a0, a1, a2, a3, a4, a5, a6, a7, a8] (r.toList ++ []) M1 0 0 Z) := R_callV (gd55 dX4_held_66) rfl rfl rfl rfl rfl rfl gc_4_74 rfl rfl (Nat.le_of_ble_eq_true rfl) (Nat.le_of_ble_eq_true rfl) rfl rfl (Nat.le_of_ble_eq_true rfl) (Nat.le_of_ble_eq_true rfl)
theorem z55_69 : Run d 55 69 [a0, a1, a2, a3, a4, a5, a6, a7, a8] [.int x] M 0 0 Z ↔ Run d 55 71 [a0, a1, a2, a3, a4, a5, a6, a7, some (.int x)] [] M 0 0 Z := R_local (gd55 dX4_held_69) rfl rfl rfl
theorem z55_71 : Run d 55 71 [a0, a1, a2, a3, a4, a5, a6, a7, some (.int x)] [] M 0 0 Z ↔ Run d 55 73 [a0, a1, a2, a3, a4, a5, a6, a7, some (.int x)] [.int x] M 0 0 Z := R_local (gd55 dX4_held_71) rfl rfl rfl
theorem z55_73 : Run d 55 73 [a0, a1, a2, some (.ref o), a4, a5, a6, a7, a8] [s0] M 0 0 Z ↔ Run d 55 74 [a0, a1, a2, some (.ref o), a4, a5, a6, a7, a8] [.ref o, s0] M 0 0 Z := R_local (gd55 dX4_held_73) rfl rfl rfl
theorem z55_73n : Run d 55 73 [a0, a1, a2, some .null, a4, a5, a6, a7, a8] [s0] M 0 0 Z ↔ Run d 55 74 [a0, a1, a2, some .null, a4, a5, a6, a7, a8] [.null, s0] M 0 0 Z := R_local (gd55 dX4_held_73) rfl rfl rfl
theorem z55_74 : Run d 55 74 [a0, a1, a2, a3, a4, a5, a6, a7, a8] [.ref o, s0] M 0 0 Z ↔ (gTy M o).isSome = true ∧ Run d 55 75 [a0, a1, a2, a3, a4, a5, a6, a7, a8] [.int (nI (gLen M o)), s0] M 0 0 Z := R_alen (gd55 dX4_held_74)
theorem z55_75 : Run d 55 75 [a0, a1, a2, a3, a4, a5, a6, a7, a8] [s1, s0] M 0 0 Z ↔ Call d 110 [s0, s1] M (fun r M1 => Run d 55 78 [a0, a1, a2, a3, a4, a5, a6, a7, a8] (r.toList ++ []) M1 0 0 Z) := R_call (gd55 dX4_held_75) rfl rfl rfl rfl rfl rfl gc_4_70 rfl (by decide) (Nat.le_of_ble_eq_true rfl) (Nat.le_of_ble_eq_true rfl) rfl rfl rfl (Nat.le_of_ble_eq_true rfl) (Nat.le_of_ble_eq_true rfl)
theorem z55_78 : Run d 55 78 [a0, a1, a2, a3, a4, a5, a6, a7, a8] [.int x] M 0 0 Z ↔ (x = 0 → Run d 55 93 [a0, a1, a2, a3, a4, a5, a6, a7, a8] [] M 0 0 Z) ∧ (¬ (x = 0) → Run d 55 81 [a0, a1, a2, a3, a4, a5, a6, a7, a8] [] M 0 0 Z) := R_if (gd55 dX4_held_78) (show gTgt 78 15 = some 93 by decide) gIf_eq
theorem z55_81 : Run d 55 81 [a0, a1, a2, a3, a4, some (.int x), a6, a7, a8] [] M 0 0 Z ↔ Run d 55 83 [a0, a1, a2, a3, a4, some (.int x), a6, a7, a8] [.int x] M 0 0 Z := R_local (gd55 dX4_held_81) rfl rfl rfl
theorem z55_83 : Run d 55 83 [a0, a1, a2, some (.ref o), a4, a5, a6, a7, a8] [s0] M 0 0 Z ↔ Run d 55 84 [a0, a1, a2, some (.ref o), a4, a5, a6, a7, a8] [.ref o, s0] M 0 0 Z := R_local (gd55 dX4_held_83) rfl rfl rfl
theorem z55_83n : Run d 55 83 [a0, a1, a2, some .null, a4, a5, a6, a7, a8] [s0] M 0 0 Z ↔ Run d 55 84 [a0, a1, a2, some .null, a4, a5, a6, a7, a8] [.null, s0] M 0 0 Z := R_local (gd55 dX4_held_83) rfl rfl rfl
theorem z55_84 : Run d 55 84 [a0, a1, a2, a3, a4, a5, a6, a7, some (.int x)] [s1, s0] M 0 0 Z ↔ Run d 55 86 [a0, a1, a2, a3, a4, a5, a6, a7, some (.int x)] [.int x, s1, s0] M 0 0 Z := R_local (gd55 dX4_held_84) rfl rfl rfl
theorem z55_86 : Run d 55 86 [a0, a1, a2, a3, a4, a5, a6, a7, a8] [.int x, .ref o, s0] M 0 0 Z ↔ gAr M o 0 ∧ gIn x (gLen M o) = true ∧ Run d 55 87 [a0, a1, a2, a3, a4, a5, a6, a7, a8] [.int (M.1 o x.toNatClampNeg), s0] M 0 0 Z := R_iald (gd55 dX4_held_86)
theorem z55_87 : Run d 55 87 [a0, a1, a2, a3, a4, a5, a6, a7, a8] [.int y, .int x] M 0 0 Z ↔ Run d 55 90 [a0, a1, a2, a3, a4, a5, a6, a7, a8] [.int (if x < y then y else x)] M 0 0 Z := R_prim (gd55 dX4_held_87) rfl rfl rfl rfl rfl rfl gc_4_58 rfl (by decide) rfl (Nat.le_of_ble_eq_true rfl)
theorem z55_90 : Run d 55 90 [a0, a1, a2, a3, a4, a5, a6, a7, a8] [s0] M 0 0 Z ↔ Run d 55 95 [a0, a1, a2, a3, a4, a5, a6, a7, a8] [s0] M 0 0 Z := R_goto (gd55 dX4_held_90) (show gTgt 90 5 = some 95 by decide)
theorem z55_93 : Run d 55 93 [a0, a1, a2, a3, a4, some (.int x), a6, a7, a8] [] M 0 0 Z ↔ Run d 55 95 [a0, a1, a2, a3, a4, some (.int x), a6, a7, a8] [.int x] M 0 0 Z := R_local (gd55 dX4_held_93) rfl rfl rfl
theorem z55_95 : Run d 55 95 [a0, a1, a2, a3, a4, a5, a6, a7, a8] [.int x] M 0 0 Z ↔ Run d 55 97 [a0, a1, a2, a3, a4, some (.int x), a6, a7, a8] [] M 0 0 Z := R_local (gd55 dX4_held_95) rfl rfl rfl
theorem z55_97 : Run d 55 97 [a0, a1, a2, a3, a4, a5, a6, some (.int x), a8] [] M 0 0 Z ↔ Run d 55 100 [a0, a1, a2, a3, a4, a5, a6, some (.int (x + 1)), a8] [] M 0 0 Z := R_iinc (gd55 dX4_held_97) (by decide) rfl rfl
theorem z55_100 : Run d 55 100 [a0, a1, a2, a3, a4, a5, a6, a7, a8] [] M 0 0 Z ↔ Run d 55 50 [a0, a1, a2, a3, a4, a5, a6, a7, a8] [] M 0 0 Z := R_goto (gd55 dX4_held_100) (show gTgt 100 (-50) = some 50 by decide)
theorem z55_103 : Run d 55 103 [a0, a1, a2, a3, a4, a5, some (.int x), a7, a8] [] M 0 0 Z ↔ Run d 55 106 [a0, a1, a2, a3, a4, a5, some (.int (x + 1)), a7, a8] [] M 0 0 Z := R_iinc (gd55 dX4_held_103) (by decide) rfl rfl
theorem z55_106 : Run d 55 106 [a0, a1, a2, a3, a4, a5, a6, a7, a8] [] M 0 0 Z ↔ Run d 55 9 [a0, a1, a2, a3, a4, a5, a6, a7, a8] [] M 0 0 Z := R_goto (gd55 dX4_held_106) (show gTgt 106 (-97) = some 9 by decide)
theorem z55_109 : Run d 55 109 [a0, a1, a2, a3, some (.int x), a5, a6, a7, a8] [] M 0 0 Z ↔ Run d 55 111 [a0, a1, a2, a3, some (.int x), a5, a6, a7, a8] [.int x] M 0 0 Z := R_local (gd55 dX4_held_109) rfl rfl rfl
theorem z55_111 : Run d 55 111 [a0, a1, a2, a3, a4, some (.int x), a6, a7, a8] [s0] M 0 0 Z ↔ Run d 55 113 [a0, a1, a2, a3, a4, some (.int x), a6, a7, a8] [.int x, s0] M 0 0 Z := R_local (gd55 dX4_held_111) rfl rfl rfl
theorem z55_113 : Run d 55 113 [a0, a1, a2, a3, a4, a5, a6, a7, a8] [.int y, .int x] M 0 0 Z ↔ Run d 55 114 [a0, a1, a2, a3, a4, a5, a6, a7, a8] [.int (x + y)] M 0 0 Z := R_arith (gd55 dX4_held_113) rfl
theorem z55_114 : Run d 55 114 [a0, a1, a2, a3, a4, a5, a6, a7, a8] [.int x] M 0 0 Z ↔ Z (some (.int x)) M := R_iret (gd55 dX4_held_114) rfl
theorem e55 : Call (d + 1) 55 [s0, s1, s2, s3] M Z ↔ Run d 55 0 [some s0, some s1, some s2, some s3, none, none, none, none, none] [] M 0 0 Z := Call_iff (Nat.lt_of_lt_of_le (Nat.lt_succ_self 55) (Nat.le_of_ble_eq_true rfl)) (Nat.le_of_ble_eq_true rfl)
/-! 56: X4_heap (II[I)V -/
theorem gd56 {pc : Nat} {r : Except _ _} (h : decode cX4_heap pc = r) : decode (gby 56) pc = r := h
theorem z56_0 : Run d 56 0 [a0, some (.int x), a2, a3, a4, a5, a6] [] M 0 0 Z ↔ Run d 56 1 [a0, some (.int x), a2, a3, a4, a5, a6] [.int x] M 0 0 Z := R_local (gd56 dX4_heap_0) rfl rfl rfl
theorem z56_1 : Run d 56 1 [a0, a1, a2, a3, a4, a5, a6] [.int x] M 0 0 Z ↔ Run d 56 3 [a0, a1, a2, a3, some (.int x), a5, a6] [] M 0 0 Z := R_local (gd56 dX4_heap_1) rfl rfl rfl
theorem z56_3 : Run d 56 3 [a0, a1, a2, a3, some (.int x), a5, a6] [] M 0 0 Z ↔ Run d 56 5 [a0, a1, a2, a3, some (.int x), a5, a6] [.int x] M 0 0 Z := R_local (gd56 dX4_heap_3) rfl rfl rfl
theorem z56_5 : Run d 56 5 [a0, a1, some (.int x), a3, a4, a5, a6] [s0] M 0 0 Z ↔ Run d 56 6 [a0, a1, some (.int x), a3, a4, a5, a6] [.int x, s0] M 0 0 Z := R_local (gd56 dX4_heap_5) rfl rfl rfl
theorem z56_6 : Run d 56 6 [a0, a1, a2, a3, a4, a5, a6] [.int y, .int x] M 0 0 Z ↔ (y < x → Run d 56 68 [a0, a1, a2, a3, a4, a5, a6] [] M 0 0 Z) ∧ (¬ (y < x) → Run d 56 9 [a0, a1, a2, a3, a4, a5, a6] [] M 0 0 Z) := R_icmp (gd56 dX4_heap_6) (show gTgt 6 62 = some 68 by decide) gIf_gt
theorem z56_9 : Run d 56 9 [some (.ref o), a1, a2, a3, a4, a5, a6] [] M 0 0 Z ↔ Run d 56 10 [some (.ref o), a1, a2, a3, a4, a5, a6] [.ref o] M 0 0 Z := R_local (gd56 dX4_heap_9) rfl rfl rfl
theorem z56_10 : Run d 56 10 [a0, a1, a2, a3, some (.int x), a5, a6] [s0] M 0 0 Z ↔ Run d 56 12 [a0, a1, a2, a3, some (.int x), a5, a6] [.int x, s0] M 0 0 Z := R_local (gd56 dX4_heap_10) rfl rfl rfl
theorem z56_12 : Run d 56 12 [a0, a1, a2, a3, a4, a5, a6] [s1, .ref b] M 0 0 Z ↔ gObj M b 4 ∧ Call d 49 [.ref b, s1] M (fun r M1 => Run d 56 15 [a0, a1, a2, a3, a4, a5, a6] (r.toList ++ []) M1 0 0 Z) := R_callV (gd56 dX4_heap_12) rfl rfl rfl rfl rfl rfl gc_4_64 rfl rfl (Nat.le_of_ble_eq_true rfl) (Nat.le_of_ble_eq_true rfl) rfl rfl (Nat.le_of_ble_eq_true rfl) (Nat.le_of_ble_eq_true rfl)
theorem z56_15 : Run d 56 15 [a0, a1, a2, a3, a4, a5, a6] [.int x] M 0 0 Z ↔ Run d 56 17 [a0, a1, a2, a3, a4, some (.int x), a6] [] M 0 0 Z := R_local (gd56 dX4_heap_15) rfl rfl rfl
theorem z56_17 : Run d 56 17 [a0, a1, a2, a3, a4, some (.int x), a6] [] M 0 0 Z ↔ Run d 56 19 [a0, a1, a2, a3, a4, some (.int x), a6] [.int x] M 0 0 Z := R_local (gd56 dX4_heap_17) rfl rfl rfl
theorem z56_19 : Run d 56 19 [some (.ref o), a1, a2, a3, a4, a5, a6] [s0] M 0 0 Z ↔ Run d 56 20 [some (.ref o), a1, a2, a3, a4, a5, a6] [.ref o, s0] M 0 0 Z := R_local (gd56 dX4_heap_19) rfl rfl rfl
theorem z56_20 : Run d 56 20 [a0, a1, a2, a3, some (.int x), a5, a6] [s1, s0] M 0 0 Z ↔ Run d 56 22 [a0, a1, a2, a3, some (.int x), a5, a6] [.int x, s1, s0] M 0 0 Z := R_local (gd56 dX4_heap_20) rfl rfl rfl
theorem z56_22 : Run d 56 22 [a0, a1, a2, a3, a4, a5, a6] [s2, .ref b, s0] M 0 0 Z ↔ gObj M b 4 ∧ Call d 50 [.ref b, s2] M (fun r M1 => Run d 56 25 [a0, a1, a2, a3, a4, a5, a6] (r.toList ++ [s0]) M1 0 0 Z) := R_callV (gd56 dX4_heap_22) rfl rfl rfl rfl rfl rfl gc_4_67 rfl rfl (Nat.le_of_ble_eq_true rfl) (Nat.le_of_ble_eq_true rfl) rfl rfl (Nat.le_of_ble_eq_true rfl) (Nat.le_of_ble_eq_true rfl)
theorem z56_25 : Run d 56 25 [a0, a1, a2, a3, a4, a5, a6] [.int y, .int x] M 0 0 Z ↔ (y ≤ x → Run d 56 62 [a0, a1, a2, a3, a4, a5, a6] [] M 0 0 Z) ∧ (¬ (y ≤ x) → Run d 56 28 [a0, a1, a2, a3, a4, a5, a6] [] M 0 0 Z) := R_icmp (gd56 dX4_heap_25) (show gTgt 25 37 = some 62 by decide) gIf_ge
theorem z56_28 : Run d 56 28 [some (.ref o), a1, a2, a3, a4, a5, a6] [] M 0 0 Z ↔ Run d 56 29 [some (.ref o), a1, a2, a3, a4, a5, a6] [.ref o] M 0 0 Z := R_local (gd56 dX4_heap_28) rfl rfl rfl
theorem z56_29 : Run d 56 29 [a0, a1, a2, a3, some (.int x), a5, a6] [s0] M 0 0 Z ↔ Run d 56 31 [a0, a1, a2, a3, some (.int x), a5, a6] [.int x, s0] M 0 0 Z := R_local (gd56 dX4_heap_29) rfl rfl rfl
theorem z56_31 : Run d 56 31 [a0, a1, a2, a3, a4, some (.int x), a6] [s1, s0] M 0 0 Z ↔ Run d 56 33 [a0, a1, a2, a3, a4, some (.int x), a6] [.int x, s1, s0] M 0 0 Z := R_local (gd56 dX4_heap_31) rfl rfl rfl
theorem z56_33 : Run d 56 33 [a0, a1, a2, a3, a4, a5, a6] [s2, s1, .ref b] M 0 0 Z ↔ gObj M b 4 ∧ Call d 51 [.ref b, s1, s2] M (fun r M1 => Run d 56 36 [a0, a1, a2, a3, a4, a5, a6] (r.toList ++ []) M1 0 0 Z) := R_callV (gd56 dX4_heap_33) rfl rfl rfl rfl rfl rfl gc_4_74 rfl rfl (Nat.le_of_ble_eq_true rfl) (Nat.le_of_ble_eq_true rfl) rfl rfl (Nat.le_of_ble_eq_true rfl) (Nat.le_of_ble_eq_true rfl)
theorem z56_36 : Run d 56 36 [a0, a1, a2, a3, a4, a5, a6] [.int x] M 0 0 Z ↔ Run d 56 38 [a0, a1, a2, a3, a4, a5, some (.int x)] [] M 0 0 Z := R_local (gd56 dX4_heap_36) rfl rfl rfl
theorem z56_38 : Run d 56 38 [a0, a1, a2, a3, a4, a5, some (.int x)] [] M 0 0 Z ↔ Run d 56 40 [a0, a1, a2, a3, a4, a5, some (.int x)] [.int x] M 0 0 Z := R_local (gd56 dX4_heap_38) rfl rfl rfl
theorem z56_40 : Run d 56 40 [a0, a1, a2, some (.ref o), a4, a5, a6] [s0] M 0 0 Z ↔ Run d 56 41 [a0, a1, a2, some (.ref o), a4, a5, a6] [.ref o, s0] M 0 0 Z := R_local (gd56 dX4_heap_40) rfl rfl rfl
theorem z56_40n : Run d 56 40 [a0, a1, a2, some .null, a4, a5, a6] [s0] M 0 0 Z ↔ Run d 56 41 [a0, a1, a2, some .null, a4, a5, a6] [.null, s0] M 0 0 Z := R_local (gd56 dX4_heap_40) rfl rfl rfl
theorem z56_41 : Run d 56 41 [a0, a1, a2, a3, a4, a5, a6] [.ref o, s0] M 0 0 Z ↔ (gTy M o).isSome = true ∧ Run d 56 42 [a0, a1, a2, a3, a4, a5, a6] [.int (nI (gLen M o)), s0] M 0 0 Z := R_alen (gd56 dX4_heap_41)
theorem z56_42 : Run d 56 42 [a0, a1, a2, a3, a4, a5, a6] [s1, s0] M 0 0 Z ↔ Call d 110 [s0, s1] M (fun r M1 => Run d 56 45 [a0, a1, a2, a3, a4, a5, a6] (r.toList ++ []) M1 0 0 Z) := R_call (gd56 dX4_heap_42) rfl rfl rfl rfl rfl rfl gc_4_70 rfl (by decide) (Nat.le_of_ble_eq_true rfl) (Nat.le_of_ble_eq_true rfl) rfl rfl rfl (Nat.le_of_ble_eq_true rfl) (Nat.le_of_ble_eq_true rfl)
theorem z56_45 : Run d 56 45 [a0, a1, a2, a3, a4, a5, a6] [.int x] M 0 0 Z ↔ (x = 0 → Run d 56 56 [a0, a1, a2, a3, a4, a5, a6] [] M 0 0 Z) ∧ (¬ (x = 0) → Run d 56 48 [a0, a1, a2, a3, a4, a5, a6] [] M 0 0 Z) := R_if (gd56 dX4_heap_45) (show gTgt 45 11 = some 56 by decide) gIf_eq
theorem z56_48 : Run d 56 48 [a0, a1, a2, some (.ref o), a4, a5, a6] [] M 0 0 Z ↔ Run d 56 49 [a0, a1, a2, some (.ref o), a4, a5, a6] [.ref o] M 0 0 Z := R_local (gd56 dX4_heap_48) rfl rfl rfl
theorem z56_48n : Run d 56 48 [a0, a1, a2, some .null, a4, a5, a6] [] M 0 0 Z ↔ Run d 56 49 [a0, a1, a2, some .null, a4, a5, a6] [.null] M 0 0 Z := R_local (gd56 dX4_heap_48) rfl rfl rfl
theorem z56_49 : Run d 56 49 [a0, a1, a2, a3, a4, a5, some (.int x)] [s0] M 0 0 Z ↔ Run d 56 51 [a0, a1, a2, a3, a4, a5, some (.int x)] [.int x, s0] M 0 0 Z := R_local (gd56 dX4_heap_49) rfl rfl rfl
theorem z56_51 : Run d 56 51 [a0, a1, a2, a3, a4, a5, a6] [.int y, .ref o] M 0 0 Z ↔ Run d 56 52 [a0, a1, a2, a3, a4, a5, a6] [.int y, .ref o, .int y, .ref o] M 0 0 Z := R_arith (gd56 dX4_heap_51) rfl
theorem z56_52 : Run d 56 52 [a0, a1, a2, a3, a4, a5, a6] [.int x, .ref o, s1, s0] M 0 0 Z ↔ gAr M o 0 ∧ gIn x (gLen M o) = true ∧ Run d 56 53 [a0, a1, a2, a3, a4, a5, a6] [.int (M.1 o x.toNatClampNeg), s1, s0] M 0 0 Z := R_iald (gd56 dX4_heap_52)
theorem z56_53 : Run d 56 53 [a0, a1, a2, a3, a4, a5, a6] [s2, s1, s0] M 0 0 Z ↔ Run d 56 54 [a0, a1, a2, a3, a4, a5, a6] [.int 1, s2, s1, s0] M 0 0 Z := R_iconst (gd56 dX4_heap_53) (by decide)
theorem z56_54 : Run d 56 54 [a0, a1, a2, a3, a4, a5, a6] [.int y, .int x, s1, s0] M 0 0 Z ↔ Run d 56 55 [a0, a1, a2, a3, a4, a5, a6] [.int (x + y), s1, s0] M 0 0 Z := R_arith (gd56 dX4_heap_54) rfl
theorem z56_55 : Run d 56 55 [a0, a1, a2, a3, a4, a5, a6] [.int y, .int x, .ref o] M 0 0 Z ↔ gAr M o 0 ∧ gIn x (gLen M o) = true ∧ Run d 56 56 [a0, a1, a2, a3, a4, a5, a6] [] (gsI M o x.toNatClampNeg y) 0 0 Z := R_iast (gd56 dX4_heap_55)
theorem z56_56 : Run d 56 56 [a0, a1, a2, a3, a4, some (.int x), a6] [] M 0 0 Z ↔ Run d 56 59 [a0, a1, a2, a3, a4, some (.int (x + 1)), a6] [] M 0 0 Z := R_iinc (gd56 dX4_heap_56) (by decide) rfl rfl
theorem z56_59 : Run d 56 59 [a0, a1, a2, a3, a4, a5, a6] [] M 0 0 Z ↔ Run d 56 17 [a0, a1, a2, a3, a4, a5, a6] [] M 0 0 Z := R_goto (gd56 dX4_heap_59) (show gTgt 59 (-42) = some 17 by decide)
theorem z56_62 : Run d 56 62 [a0, a1, a2, a3, some (.int x), a5, a6] [] M 0 0 Z ↔ Run d 56 65 [a0, a1, a2, a3, some (.int (x + 1)), a5, a6] [] M 0 0 Z := R_iinc (gd56 dX4_heap_62) (by decide) rfl rfl
theorem z56_65 : Run d 56 65 [a0, a1, a2, a3, a4, a5, a6] [] M 0 0 Z ↔ Run d 56 3 [a0, a1, a2, a3, a4, a5, a6] [] M 0 0 Z := R_goto (gd56 dX4_heap_65) (show gTgt 65 (-62) = some 3 by decide)
theorem z56_68 : Run d 56 68 [a0, a1, a2, a3, a4, a5, a6] [] M 0 0 Z ↔ Z none M := R_vret (gd56 dX4_heap_68) rfl
theorem e56 : Call (d + 1) 56 [s0, s1, s2, s3] M Z ↔ Run d 56 0 [some s0, some s1, some s2, some s3, none, none, none] [] M 0 0 Z := Call_iff (Nat.lt_of_lt_of_le (Nat.lt_succ_self 56) (Nat.le_of_ble_eq_true rfl)) (Nat.le_of_ble_eq_true rfl)
/-! 57: X5_init ()V -/
theorem gd57 {pc : Nat} {r : Except _ _} (h : decode cX5_init pc = r) : decode (gby 57) pc = r := h
theorem z57_0 : Run d 57 0 [some (.ref o)] [] M 0 0 Z ↔ Run d 57 1 [some (.ref o)] [.ref o] M 0 0 Z := R_local (gd57 dX5_init_0) rfl rfl rfl
theorem z57_1 : Run d 57 1 [a0] [.ref o] M 0 0 Z ↔ Run d 57 4 [a0] [] M 0 0 Z := R_prim (gd57 dX5_init_1) rfl rfl rfl rfl rfl rfl gc_5_3 rfl (by decide) rfl (Nat.le_of_ble_eq_true rfl)
theorem z57_4 : Run d 57 4 [some (.ref o)] [] M 0 0 Z ↔ Run d 57 5 [some (.ref o)] [.ref o] M 0 0 Z := R_local (gd57 dX5_init_4) rfl rfl rfl
theorem z57_5 : Run d 57 5 [a0] [s0] M 0 0 Z ↔ Run d 57 7 [a0] [.int 64, s0] M 0 0 Z := R_bipush (gd57 dX5_init_5) (by decide)
theorem z57_7 : Run d 57 7 [a0] [.int 64, s0] M 0 0 Z ↔ Run d 57 9 [a0] [.ref M.2.2.length, s0] (gNew M (.inr (0, 64))) 1 64 Z := R_newa2 (gd57 dX5_init_7) (t := 0) (by decide) (n := 64) (by decide) (by decide)
theorem z57_9 : Run d 57 9 [a0] [v, .ref o] M 1 64 Z ↔ gObj M o 5 ∧ gisRef v = true ∧ Run d 57 12 [a0] [] (gsR M o 0 (gU v)) 1 64 Z := R_putR (gd57 dX5_init_9) rfl gf_5_9 (Or.inr ⟨rfl, rfl⟩) rfl
theorem z57_12 : Run d 57 12 [some (.ref o)] [] M 1 64 Z ↔ Run d 57 13 [some (.ref o)] [.ref o] M 1 64 Z := R_local (gd57 dX5_init_12) rfl rfl rfl
theorem z57_13 : Run d 57 13 [a0] [s0] M 1 64 Z ↔ Run d 57 15 [a0] [.int 64, s0] M 1 64 Z := R_bipush (gd57 dX5_init_13) (by decide)
theorem z57_15 : Run d 57 15 [a0] [.int 64, s0] M 1 64 Z ↔ Run d 57 17 [a0] [.ref M.2.2.length, s0] (gNew M (.inr (0, 64))) 2 128 Z := R_newa2 (gd57 dX5_init_15) (t := 0) (by decide) (n := 64) (by decide) (by decide)
theorem z57_17 : Run d 57 17 [a0] [v, .ref o] M 2 128 Z ↔ gObj M o 5 ∧ gisRef v = true ∧ Run d 57 20 [a0] [] (gsR M o 1 (gU v)) 2 128 Z := R_putR (gd57 dX5_init_17) rfl gf_5_15 (Or.inr ⟨rfl, rfl⟩) rfl
theorem z57_20 : Run d 57 20 [some (.ref o)] [] M 2 128 Z ↔ Run d 57 21 [some (.ref o)] [.ref o] M 2 128 Z := R_local (gd57 dX5_init_20) rfl rfl rfl
theorem z57_21 : Run d 57 21 [a0] [s0] M 2 128 Z ↔ Run d 57 22 [a0] [.int 0, s0] M 2 128 Z := R_iconst (gd57 dX5_init_21) (by decide)
theorem z57_22 : Run d 57 22 [a0] [.int x, .ref o] M 2 128 Z ↔ gObj M o 5 ∧ Run d 57 25 [a0] [] (gsI M o 2 x) 2 128 Z := R_putI (gd57 dX5_init_22) rfl gf_5_18 (Or.inl rfl) rfl
theorem z57_25 : Run d 57 25 [some (.ref o)] [] M 2 128 Z ↔ Run d 57 26 [some (.ref o)] [.ref o] M 2 128 Z := R_local (gd57 dX5_init_25) rfl rfl rfl
theorem z57_26 : Run d 57 26 [a0] [s0] M 2 128 Z ↔ Run d 57 29 [a0] [.int 128, s0] M 2 128 Z := R_sipush (gd57 dX5_init_26) (by decide)
theorem z57_29 : Run d 57 29 [a0] [.int 128, s0] M 2 128 Z ↔ Run d 57 31 [a0] [.ref M.2.2.length, s0] (gNew M (.inr (0, 128))) 3 256 Z := R_newa2 (gd57 dX5_init_29) (t := 0) (by decide) (n := 128) (by decide) (by decide)
theorem z57_31 : Run d 57 31 [a0] [v, .ref o] M 3 256 Z ↔ gObj M o 5 ∧ gisRef v = true ∧ Run d 57 34 [a0] [] (gsR M o 3 (gU v)) 3 256 Z := R_putR (gd57 dX5_init_31) rfl gf_5_22 (Or.inr ⟨rfl, rfl⟩) rfl
theorem z57_34 : Run d 57 34 [some (.ref o)] [] M 3 256 Z ↔ Run d 57 35 [some (.ref o)] [.ref o] M 3 256 Z := R_local (gd57 dX5_init_34) rfl rfl rfl
theorem z57_35 : Run d 57 35 [a0] [s0] M 3 256 Z ↔ Run d 57 38 [a0] [.int 128, s0] M 3 256 Z := R_sipush (gd57 dX5_init_35) (by decide)
theorem z57_38 : Run d 57 38 [a0] [.int 128, s0] M 3 256 Z ↔ Run d 57 40 [a0] [.ref M.2.2.length, s0] (gNew M (.inr (0, 128))) 4 384 Z := R_newa2 (gd57 dX5_init_38) (t := 0) (by decide) (n := 128) (by decide) (by decide)
theorem z57_40 : Run d 57 40 [a0] [v, .ref o] M 4 384 Z ↔ gObj M o 5 ∧ gisRef v = true ∧ Run d 57 43 [a0] [] (gsR M o 4 (gU v)) 4 384 Z := R_putR (gd57 dX5_init_40) rfl gf_5_25 (Or.inr ⟨rfl, rfl⟩) rfl
theorem z57_43 : Run d 57 43 [some (.ref o)] [] M 4 384 Z ↔ Run d 57 44 [some (.ref o)] [.ref o] M 4 384 Z := R_local (gd57 dX5_init_43) rfl rfl rfl
theorem z57_44 : Run d 57 44 [a0] [s0] M 4 384 Z ↔ Run d 57 45 [a0] [.int 0, s0] M 4 384 Z := R_iconst (gd57 dX5_init_44) (by decide)
theorem z57_45 : Run d 57 45 [a0] [.int x, .ref o] M 4 384 Z ↔ gObj M o 5 ∧ Run d 57 48 [a0] [] (gsI M o 5 x) 4 384 Z := R_putI (gd57 dX5_init_45) rfl gf_5_28 (Or.inl rfl) rfl
theorem z57_48 : Run d 57 48 [some (.ref o)] [] M 4 384 Z ↔ Run d 57 49 [some (.ref o)] [.ref o] M 4 384 Z := R_local (gd57 dX5_init_48) rfl rfl rfl
theorem z57_49 : Run d 57 49 [a0] [s0] M 4 384 Z ↔ Run d 57 50 [a0] [.int 4, s0] M 4 384 Z := R_iconst (gd57 dX5_init_49) (by decide)
theorem z57_50 : Run d 57 50 [a0] [.int 4, s0] M 4 384 Z ↔ Run d 57 52 [a0] [.ref M.2.2.length, s0] (gNew M (.inr (0, 4))) 5 388 Z := R_newa2 (gd57 dX5_init_50) (t := 0) (by decide) (n := 4) (by decide) (by decide)
theorem z57_52 : Run d 57 52 [a0] [v, .ref o] M 5 388 Z ↔ gObj M o 5 ∧ gisRef v = true ∧ Run d 57 55 [a0] [] (gsR M o 6 (gU v)) 5 388 Z := R_putR (gd57 dX5_init_52) rfl gf_5_31 (Or.inr ⟨rfl, rfl⟩) rfl
theorem z57_55 : Run d 57 55 [some (.ref o)] [] M 5 388 Z ↔ Run d 57 56 [some (.ref o)] [.ref o] M 5 388 Z := R_local (gd57 dX5_init_55) rfl rfl rfl
theorem z57_56 : Run d 57 56 [a0] [s0] M 5 388 Z ↔ Run d 57 57 [a0] [.int 0, s0] M 5 388 Z := R_iconst (gd57 dX5_init_56) (by decide)
theorem z57_57 : Run d 57 57 [a0] [.int x, .ref o] M 5 388 Z ↔ gObj M o 5 ∧ Run d 57 60 [a0] [] (gsI M o 7 x) 5 388 Z := R_putI (gd57 dX5_init_57) rfl gf_5_34 (Or.inl rfl) rfl
theorem z57_60 : Run d 57 60 [some (.ref o)] [] M 5 388 Z ↔ Run d 57 61 [some (.ref o)] [.ref o] M 5 388 Z := R_local (gd57 dX5_init_60) rfl rfl rfl
theorem z57_61 : Run d 57 61 [a0] [s0] M 5 388 Z ↔ Run d 57 62 [a0] [.int 4, s0] M 5 388 Z := R_iconst (gd57 dX5_init_61) (by decide)
theorem z57_62 : Run d 57 62 [a0] [.int 4, s0] M 5 388 Z ↔ Run d 57 64 [a0] [.ref M.2.2.length, s0] (gNew M (.inr (0, 4))) 6 392 Z := R_newa2 (gd57 dX5_init_62) (t := 0) (by decide) (n := 4) (by decide) (by decide)
theorem z57_64 : Run d 57 64 [a0] [v, .ref o] M 6 392 Z ↔ gObj M o 5 ∧ gisRef v = true ∧ Run d 57 67 [a0] [] (gsR M o 8 (gU v)) 6 392 Z := R_putR (gd57 dX5_init_64) rfl gf_5_37 (Or.inr ⟨rfl, rfl⟩) rfl
theorem z57_67 : Run d 57 67 [some (.ref o)] [] M 6 392 Z ↔ Run d 57 68 [some (.ref o)] [.ref o] M 6 392 Z := R_local (gd57 dX5_init_67) rfl rfl rfl
theorem z57_68 : Run d 57 68 [a0] [s0] M 6 392 Z ↔ Run d 57 69 [a0] [.int 0, s0] M 6 392 Z := R_iconst (gd57 dX5_init_68) (by decide)
theorem z57_69 : Run d 57 69 [a0] [.int x, .ref o] M 6 392 Z ↔ gObj M o 5 ∧ Run d 57 72 [a0] [] (gsI M o 9 x) 6 392 Z := R_putI (gd57 dX5_init_69) rfl gf_5_40 (Or.inl rfl) rfl
theorem z57_72 : Run d 57 72 [a0] [] M 6 392 Z ↔ Z none M := R_vret (gd57 dX5_init_72) rfl
theorem e57 : Call (d + 1) 57 [s0] M Z ↔ Run d 57 0 [some s0] [] M 0 0 Z := Call_iff (Nat.lt_of_lt_of_le (Nat.lt_succ_self 57) (Nat.le_of_ble_eq_true rfl)) (Nat.le_of_ble_eq_true rfl)
end
