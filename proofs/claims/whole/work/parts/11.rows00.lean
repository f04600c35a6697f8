/-! Rules of the methods, an instruction each, by program (wip/whole/rows.py). -/
theorem dX0_init_0 : decode cX0_init 0 = .ok (.aload_n 0, 1) := by decide +kernel
theorem dX0_init_1 : decode cX0_init 1 = .ok (.invokespecial 3, 3) := by decide +kernel
theorem dX0_init_4 : decode cX0_init 4 = .ok (.aload_n 0, 1) := by decide +kernel
theorem dX0_init_5 : decode cX0_init 5 = .ok (.bipush 6, 2) := by decide +kernel
theorem dX0_init_7 : decode cX0_init 7 = .ok (.newarray .int, 2) := by decide +kernel
theorem dX0_init_9 : decode cX0_init 9 = .ok (.putfield 9, 3) := by decide +kernel
theorem dX0_init_12 : decode cX0_init 12 = .ok (.aload_n 0, 1) := by decide +kernel
theorem dX0_init_13 : decode cX0_init 13 = .ok (.iconst 0, 1) := by decide +kernel
theorem dX0_init_14 : decode cX0_init 14 = .ok (.putfield 15, 3) := by decide +kernel
theorem dX0_init_17 : decode cX0_init 17 = .ok (.aload_n 0, 1) := by decide +kernel
theorem dX0_init_18 : decode cX0_init 18 = .ok (.iload_n 1, 1) := by decide +kernel
theorem dX0_init_19 : decode cX0_init 19 = .ok (.putfield 19, 3) := by decide +kernel
theorem dX0_init_22 : decode cX0_init 22 = .ok (.aload_n 0, 1) := by decide +kernel
theorem dX0_init_23 : decode cX0_init 23 = .ok (.iload_n 2, 1) := by decide +kernel
theorem dX0_init_24 : decode cX0_init 24 = .ok (.putfield 22, 3) := by decide +kernel
theorem dX0_init_27 : decode cX0_init 27 = .ok (.return_, 1) := by decide +kernel
theorem dX0_shown_0 : decode cX0_shown 0 = .ok (.iload_n 3, 1) := by decide +kernel
theorem dX0_shown_1 : decode cX0_shown 1 = .ok (.ifCond .eq 10, 3) := by decide +kernel
theorem dX0_shown_4 : decode cX0_shown 4 = .ok (.aload_n 0, 1) := by decide +kernel
theorem dX0_shown_5 : decode cX0_shown 5 = .ok (.getfield 9, 3) := by decide +kernel
theorem dX0_shown_8 : decode cX0_shown 8 = .ok (.iconst 5, 1) := by decide +kernel
theorem dX0_shown_9 : decode cX0_shown 9 = .ok (.iaload, 1) := by decide +kernel
theorem dX0_shown_10 : decode cX0_shown 10 = .ok (.ireturn, 1) := by decide +kernel
theorem dX0_shown_11 : decode cX0_shown 11 = .ok (.iload_n 2, 1) := by decide +kernel
theorem dX0_shown_12 : decode cX0_shown 12 = .ok (.aload_n 0, 1) := by decide +kernel
theorem dX0_shown_13 : decode cX0_shown 13 = .ok (.getfield 19, 3) := by decide +kernel
theorem dX0_shown_16 : decode cX0_shown 16 = .ok (.aload_n 0, 1) := by decide +kernel
theorem dX0_shown_17 : decode cX0_shown 17 = .ok (.getfield 15, 3) := by decide +kernel
theorem dX0_shown_20 : decode cX0_shown 20 = .ok (.isub, 1) := by decide +kernel
theorem dX0_shown_21 : decode cX0_shown 21 = .ok (.if_icmp .lt 10, 3) := by decide +kernel
theorem dX0_shown_24 : decode cX0_shown 24 = .ok (.aload_n 0, 1) := by decide +kernel
theorem dX0_shown_25 : decode cX0_shown 25 = .ok (.getfield 9, 3) := by decide +kernel
theorem dX0_shown_28 : decode cX0_shown 28 = .ok (.iconst 4, 1) := by decide +kernel
theorem dX0_shown_29 : decode cX0_shown 29 = .ok (.iaload, 1) := by decide +kernel
theorem dX0_shown_30 : decode cX0_shown 30 = .ok (.ireturn, 1) := by decide +kernel
theorem dX0_shown_31 : decode cX0_shown 31 = .ok (.iload_n 1, 1) := by decide +kernel
theorem dX0_shown_32 : decode cX0_shown 32 = .ok (.iconst 4, 1) := by decide +kernel
theorem dX0_shown_33 : decode cX0_shown 33 = .ok (.invokestatic 25, 3) := by decide +kernel
theorem dX0_shown_36 : decode cX0_shown 36 = .ok (.ifCond .eq 12, 3) := by decide +kernel
theorem dX0_shown_39 : decode cX0_shown 39 = .ok (.aload_n 0, 1) := by decide +kernel
theorem dX0_shown_40 : decode cX0_shown 40 = .ok (.getfield 9, 3) := by decide +kernel
theorem dX0_shown_43 : decode cX0_shown 43 = .ok (.iload_n 1, 1) := by decide +kernel
theorem dX0_shown_44 : decode cX0_shown 44 = .ok (.iaload, 1) := by decide +kernel
theorem dX0_shown_45 : decode cX0_shown 45 = .ok (.goto 4, 3) := by decide +kernel
theorem dX0_shown_48 : decode cX0_shown 48 = .ok (.iconst 0, 1) := by decide +kernel
theorem dX0_shown_49 : decode cX0_shown 49 = .ok (.ireturn, 1) := by decide +kernel
theorem dX0_told_0 : decode cX0_told 0 = .ok (.iload_n 1, 1) := by decide +kernel
theorem dX0_told_1 : decode cX0_told 1 = .ok (.tableswitch 80 0 8 #[51, 56, 80, 80, 80, 80, 61, 66, 73], 51) := by decide +kernel
theorem dX0_told_52 : decode cX0_told 52 = .ok (.aload_n 0, 1) := by decide +kernel
theorem dX0_told_53 : decode cX0_told 53 = .ok (.getfield 19, 3) := by decide +kernel
theorem dX0_told_56 : decode cX0_told 56 = .ok (.ireturn, 1) := by decide +kernel
theorem dX0_told_57 : decode cX0_told 57 = .ok (.aload_n 0, 1) := by decide +kernel
theorem dX0_told_58 : decode cX0_told 58 = .ok (.getfield 22, 3) := by decide +kernel
theorem dX0_told_61 : decode cX0_told 61 = .ok (.ireturn, 1) := by decide +kernel
theorem dX0_told_62 : decode cX0_told 62 = .ok (.aload_n 0, 1) := by decide +kernel
theorem dX0_told_63 : decode cX0_told 63 = .ok (.getfield 15, 3) := by decide +kernel
theorem dX0_told_66 : decode cX0_told 66 = .ok (.ireturn, 1) := by decide +kernel
theorem dX0_told_67 : decode cX0_told 67 = .ok (.aload_n 0, 1) := by decide +kernel
theorem dX0_told_68 : decode cX0_told 68 = .ok (.getfield 9, 3) := by decide +kernel
theorem dX0_told_71 : decode cX0_told 71 = .ok (.iconst 4, 1) := by decide +kernel
theorem dX0_told_72 : decode cX0_told 72 = .ok (.iaload, 1) := by decide +kernel
theorem dX0_told_73 : decode cX0_told 73 = .ok (.ireturn, 1) := by decide +kernel
theorem dX0_told_74 : decode cX0_told 74 = .ok (.aload_n 0, 1) := by decide +kernel
theorem dX0_told_75 : decode cX0_told 75 = .ok (.getfield 9, 3) := by decide +kernel
theorem dX0_told_78 : decode cX0_told 78 = .ok (.iconst 5, 1) := by decide +kernel
theorem dX0_told_79 : decode cX0_told 79 = .ok (.iaload, 1) := by decide +kernel
theorem dX0_told_80 : decode cX0_told 80 = .ok (.ireturn, 1) := by decide +kernel
theorem dX0_told_81 : decode cX0_told 81 = .ok (.iload_n 1, 1) := by decide +kernel
theorem dX0_told_82 : decode cX0_told 82 = .ok (.iconst 2, 1) := by decide +kernel
theorem dX0_told_83 : decode cX0_told 83 = .ok (.isub, 1) := by decide +kernel
theorem dX0_told_84 : decode cX0_told 84 = .ok (.iconst 4, 1) := by decide +kernel
theorem dX0_told_85 : decode cX0_told 85 = .ok (.invokestatic 25, 3) := by decide +kernel
theorem dX0_told_88 : decode cX0_told 88 = .ok (.ifCond .eq 14, 3) := by decide +kernel
theorem dX0_told_91 : decode cX0_told 91 = .ok (.aload_n 0, 1) := by decide +kernel
theorem dX0_told_92 : decode cX0_told 92 = .ok (.getfield 9, 3) := by decide +kernel
theorem dX0_told_95 : decode cX0_told 95 = .ok (.iload_n 1, 1) := by decide +kernel
theorem dX0_told_96 : decode cX0_told 96 = .ok (.iconst 2, 1) := by decide +kernel
theorem dX0_told_97 : decode cX0_told 97 = .ok (.isub, 1) := by decide +kernel
theorem dX0_told_98 : decode cX0_told 98 = .ok (.iaload, 1) := by decide +kernel
theorem dX0_told_99 : decode cX0_told 99 = .ok (.goto 4, 3) := by decide +kernel
theorem dX0_told_102 : decode cX0_told 102 = .ok (.iconst (-1), 1) := by decide +kernel
theorem dX0_told_103 : decode cX0_told 103 = .ok (.ireturn, 1) := by decide +kernel
theorem dX1_init_0 : decode cX1_init 0 = .ok (.aload_n 0, 1) := by decide +kernel
theorem dX1_init_1 : decode cX1_init 1 = .ok (.invokespecial 3, 3) := by decide +kernel
theorem dX1_init_4 : decode cX1_init 4 = .ok (.aload_n 0, 1) := by decide +kernel
theorem dX1_init_5 : decode cX1_init 5 = .ok (.new 9, 3) := by decide +kernel
theorem dX1_init_8 : decode cX1_init 8 = .ok (.dup, 1) := by decide +kernel
theorem dX1_init_9 : decode cX1_init 9 = .ok (.invokespecial 11, 3) := by decide +kernel
theorem dX1_init_12 : decode cX1_init 12 = .ok (.putfield 12, 3) := by decide +kernel
theorem dX1_init_15 : decode cX1_init 15 = .ok (.aload_n 0, 1) := by decide +kernel
theorem dX1_init_16 : decode cX1_init 16 = .ok (.bipush 8, 2) := by decide +kernel
theorem dX1_init_18 : decode cX1_init 18 = .ok (.newarray .int, 2) := by decide +kernel
theorem dX1_init_20 : decode cX1_init 20 = .ok (.putfield 18, 3) := by decide +kernel
theorem dX1_init_23 : decode cX1_init 23 = .ok (.aload_n 0, 1) := by decide +kernel
theorem dX1_init_24 : decode cX1_init 24 = .ok (.iconst 0, 1) := by decide +kernel
theorem dX1_init_25 : decode cX1_init 25 = .ok (.putfield 22, 3) := by decide +kernel
theorem dX1_init_28 : decode cX1_init 28 = .ok (.aload_n 0, 1) := by decide +kernel
theorem dX1_init_29 : decode cX1_init 29 = .ok (.iconst 1, 1) := by decide +kernel
theorem dX1_init_30 : decode cX1_init 30 = .ok (.putfield 26, 3) := by decide +kernel
theorem dX1_init_33 : decode cX1_init 33 = .ok (.aload_n 0, 1) := by decide +kernel
theorem dX1_init_34 : decode cX1_init 34 = .ok (.iconst 0, 1) := by decide +kernel
theorem dX1_init_35 : decode cX1_init 35 = .ok (.putfield 29, 3) := by decide +kernel
theorem dX1_init_38 : decode cX1_init 38 = .ok (.aload_n 0, 1) := by decide +kernel
theorem dX1_init_39 : decode cX1_init 39 = .ok (.iconst 0, 1) := by decide +kernel
theorem dX1_init_40 : decode cX1_init 40 = .ok (.putfield 32, 3) := by decide +kernel
theorem dX1_init_43 : decode cX1_init 43 = .ok (.aload_n 0, 1) := by decide +kernel
theorem dX1_init_44 : decode cX1_init 44 = .ok (.iconst 0, 1) := by decide +kernel
theorem dX1_init_45 : decode cX1_init 45 = .ok (.putfield 35, 3) := by decide +kernel
theorem dX1_init_48 : decode cX1_init 48 = .ok (.aload_n 0, 1) := by decide +kernel
theorem dX1_init_49 : decode cX1_init 49 = .ok (.iconst 1, 1) := by decide +kernel
theorem dX1_init_50 : decode cX1_init 50 = .ok (.putfield 38, 3) := by decide +kernel
theorem dX1_init_53 : decode cX1_init 53 = .ok (.aload_n 0, 1) := by decide +kernel
theorem dX1_init_54 : decode cX1_init 54 = .ok (.iconst 0, 1) := by decide +kernel
theorem dX1_init_55 : decode cX1_init 55 = .ok (.putfield 41, 3) := by decide +kernel
theorem dX1_init_58 : decode cX1_init 58 = .ok (.aload_n 0, 1) := by decide +kernel
theorem dX1_init_59 : decode cX1_init 59 = .ok (.iconst 0, 1) := by decide +kernel
theorem dX1_init_60 : decode cX1_init 60 = .ok (.putfield 44, 3) := by decide +kernel
theorem dX1_init_63 : decode cX1_init 63 = .ok (.aload_n 0, 1) := by decide +kernel
theorem dX1_init_64 : decode cX1_init 64 = .ok (.iconst 0, 1) := by decide +kernel
theorem dX1_init_65 : decode cX1_init 65 = .ok (.putfield 47, 3) := by decide +kernel
theorem dX1_init_68 : decode cX1_init 68 = .ok (.aload_n 0, 1) := by decide +kernel
theorem dX1_init_69 : decode cX1_init 69 = .ok (.iconst 0, 1) := by decide +kernel
theorem dX1_init_70 : decode cX1_init 70 = .ok (.putfield 50, 3) := by decide +kernel
theorem dX1_init_73 : decode cX1_init 73 = .ok (.aload_n 0, 1) := by decide +kernel
theorem dX1_init_74 : decode cX1_init 74 = .ok (.iconst (-1), 1) := by decide +kernel
theorem dX1_init_75 : decode cX1_init 75 = .ok (.putfield 54, 3) := by decide +kernel
theorem dX1_init_78 : decode cX1_init 78 = .ok (.aload_n 0, 1) := by decide +kernel
theorem dX1_init_79 : decode cX1_init 79 = .ok (.iconst 0, 1) := by decide +kernel
theorem dX1_init_80 : decode cX1_init 80 = .ok (.putfield 57, 3) := by decide +kernel
theorem dX1_init_83 : decode cX1_init 83 = .ok (.aload_n 0, 1) := by decide +kernel
theorem dX1_init_84 : decode cX1_init 84 = .ok (.iconst 0, 1) := by decide +kernel
theorem dX1_init_85 : decode cX1_init 85 = .ok (.putfield 60, 3) := by decide +kernel
theorem dX1_init_88 : decode cX1_init 88 = .ok (.aload_n 0, 1) := by decide +kernel
theorem dX1_init_89 : decode cX1_init 89 = .ok (.iconst (-1), 1) := by decide +kernel
theorem dX1_init_90 : decode cX1_init 90 = .ok (.putfield 63, 3) := by decide +kernel
theorem dX1_init_93 : decode cX1_init 93 = .ok (.return_, 1) := by decide +kernel
theorem dX1_begin_0 : decode cX1_begin 0 = .ok (.iconst 0, 1) := by decide +kernel
theorem dX1_begin_1 : decode cX1_begin 1 = .ok (.istore 5, 2) := by decide +kernel
theorem dX1_begin_3 : decode cX1_begin 3 = .ok (.iload 5, 2) := by decide +kernel
theorem dX1_begin_5 : decode cX1_begin 5 = .ok (.bipush 8, 2) := by decide +kernel
theorem dX1_begin_7 : decode cX1_begin 7 = .ok (.if_icmp .ge 43, 3) := by decide +kernel
theorem dX1_begin_10 : decode cX1_begin 10 = .ok (.iload_n 2, 1) := by decide +kernel
theorem dX1_begin_11 : decode cX1_begin 11 = .ok (.bipush 8, 2) := by decide +kernel
theorem dX1_begin_13 : decode cX1_begin 13 = .ok (.imul, 1) := by decide +kernel
theorem dX1_begin_14 : decode cX1_begin 14 = .ok (.iload 5, 2) := by decide +kernel
theorem dX1_begin_16 : decode cX1_begin 16 = .ok (.iadd, 1) := by decide +kernel
theorem dX1_begin_17 : decode cX1_begin 17 = .ok (.istore 6, 2) := by decide +kernel
theorem dX1_begin_19 : decode cX1_begin 19 = .ok (.aload_n 0, 1) := by decide +kernel
theorem dX1_begin_20 : decode cX1_begin 20 = .ok (.getfield 18, 3) := by decide +kernel
theorem dX1_begin_23 : decode cX1_begin 23 = .ok (.iload 5, 2) := by decide +kernel
theorem dX1_begin_25 : decode cX1_begin 25 = .ok (.iload 6, 2) := by decide +kernel
theorem dX1_begin_27 : decode cX1_begin 27 = .ok (.aload_n 1, 1) := by decide +kernel
theorem dX1_begin_28 : decode cX1_begin 28 = .ok (.arraylength, 1) := by decide +kernel
theorem dX1_begin_29 : decode cX1_begin 29 = .ok (.invokestatic 66, 3) := by decide +kernel
theorem dX1_begin_32 : decode cX1_begin 32 = .ok (.ifCond .eq 10, 3) := by decide +kernel
theorem dX1_begin_35 : decode cX1_begin 35 = .ok (.aload_n 1, 1) := by decide +kernel
theorem dX1_begin_36 : decode cX1_begin 36 = .ok (.iload 6, 2) := by decide +kernel
theorem dX1_begin_38 : decode cX1_begin 38 = .ok (.iaload, 1) := by decide +kernel
theorem dX1_begin_39 : decode cX1_begin 39 = .ok (.goto 4, 3) := by decide +kernel
theorem dX1_begin_42 : decode cX1_begin 42 = .ok (.iconst 0, 1) := by decide +kernel
theorem dX1_begin_43 : decode cX1_begin 43 = .ok (.iastore, 1) := by decide +kernel
theorem dX1_begin_44 : decode cX1_begin 44 = .ok (.iinc 5 1, 3) := by decide +kernel
theorem dX1_begin_47 : decode cX1_begin 47 = .ok (.goto (-44), 3) := by decide +kernel
theorem dX1_begin_50 : decode cX1_begin 50 = .ok (.aload_n 0, 1) := by decide +kernel
theorem dX1_begin_51 : decode cX1_begin 51 = .ok (.iload_n 3, 1) := by decide +kernel
theorem dX1_begin_52 : decode cX1_begin 52 = .ok (.putfield 22, 3) := by decide +kernel
theorem dX1_begin_55 : decode cX1_begin 55 = .ok (.aload_n 0, 1) := by decide +kernel
theorem dX1_begin_56 : decode cX1_begin 56 = .ok (.iload 4, 2) := by decide +kernel
theorem dX1_begin_58 : decode cX1_begin 58 = .ok (.putfield 26, 3) := by decide +kernel
theorem dX1_begin_61 : decode cX1_begin 61 = .ok (.aload_n 0, 1) := by decide +kernel
theorem dX1_begin_62 : decode cX1_begin 62 = .ok (.iconst 0, 1) := by decide +kernel
theorem dX1_begin_63 : decode cX1_begin 63 = .ok (.putfield 57, 3) := by decide +kernel
theorem dX1_begin_66 : decode cX1_begin 66 = .ok (.aload_n 0, 1) := by decide +kernel
theorem dX1_begin_67 : decode cX1_begin 67 = .ok (.iconst 0, 1) := by decide +kernel
theorem dX1_begin_68 : decode cX1_begin 68 = .ok (.putfield 44, 3) := by decide +kernel
theorem dX1_begin_71 : decode cX1_begin 71 = .ok (.aload_n 0, 1) := by decide +kernel
theorem dX1_begin_72 : decode cX1_begin 72 = .ok (.iconst 0, 1) := by decide +kernel
theorem dX1_begin_73 : decode cX1_begin 73 = .ok (.putfield 47, 3) := by decide +kernel
theorem dX1_begin_76 : decode cX1_begin 76 = .ok (.aload_n 0, 1) := by decide +kernel
theorem dX1_begin_77 : decode cX1_begin 77 = .ok (.iconst 0, 1) := by decide +kernel
theorem dX1_begin_78 : decode cX1_begin 78 = .ok (.putfield 50, 3) := by decide +kernel
theorem dX1_begin_81 : decode cX1_begin 81 = .ok (.aload_n 0, 1) := by decide +kernel
theorem dX1_begin_82 : decode cX1_begin 82 = .ok (.iconst (-1), 1) := by decide +kernel
theorem dX1_begin_83 : decode cX1_begin 83 = .ok (.putfield 54, 3) := by decide +kernel
theorem dX1_begin_86 : decode cX1_begin 86 = .ok (.aload_n 0, 1) := by decide +kernel
theorem dX1_begin_87 : decode cX1_begin 87 = .ok (.iconst 0, 1) := by decide +kernel
theorem dX1_begin_88 : decode cX1_begin 88 = .ok (.putfield 60, 3) := by decide +kernel
theorem dX1_begin_91 : decode cX1_begin 91 = .ok (.aload_n 0, 1) := by decide +kernel
theorem dX1_begin_92 : decode cX1_begin 92 = .ok (.iconst (-1), 1) := by decide +kernel
theorem dX1_begin_93 : decode cX1_begin 93 = .ok (.putfield 63, 3) := by decide +kernel
theorem dX1_begin_96 : decode cX1_begin 96 = .ok (.aload_n 0, 1) := by decide +kernel
theorem dX1_begin_97 : decode cX1_begin 97 = .ok (.iconst 0, 1) := by decide +kernel
theorem dX1_begin_98 : decode cX1_begin 98 = .ok (.iconst 0, 1) := by decide +kernel
theorem dX1_begin_99 : decode cX1_begin 99 = .ok (.iconst 0, 1) := by decide +kernel
theorem dX1_begin_100 : decode cX1_begin 100 = .ok (.invokevirtual 70, 3) := by decide +kernel
theorem dX1_begin_103 : decode cX1_begin 103 = .ok (.aload_n 0, 1) := by decide +kernel
theorem dX1_begin_104 : decode cX1_begin 104 = .ok (.iconst 1, 1) := by decide +kernel
theorem dX1_begin_105 : decode cX1_begin 105 = .ok (.putfield 38, 3) := by decide +kernel
theorem dX1_begin_108 : decode cX1_begin 108 = .ok (.aload_n 0, 1) := by decide +kernel
theorem dX1_begin_109 : decode cX1_begin 109 = .ok (.iconst 0, 1) := by decide +kernel
theorem dX1_begin_110 : decode cX1_begin 110 = .ok (.putfield 41, 3) := by decide +kernel
theorem dX1_begin_113 : decode cX1_begin 113 = .ok (.aload_n 0, 1) := by decide +kernel
theorem dX1_begin_114 : decode cX1_begin 114 = .ok (.getfield 12, 3) := by decide +kernel
theorem dX1_begin_117 : decode cX1_begin 117 = .ok (.iconst 0, 1) := by decide +kernel
theorem dX1_begin_118 : decode cX1_begin 118 = .ok (.putfield 74, 3) := by decide +kernel
theorem dX1_begin_121 : decode cX1_begin 121 = .ok (.return_, 1) := by decide +kernel
theorem dX1_goTo_0 : decode cX1_goTo 0 = .ok (.aload_n 0, 1) := by decide +kernel
theorem dX1_goTo_1 : decode cX1_goTo 1 = .ok (.iload_n 1, 1) := by decide +kernel
theorem dX1_goTo_2 : decode cX1_goTo 2 = .ok (.putfield 32, 3) := by decide +kernel
theorem dX1_goTo_5 : decode cX1_goTo 5 = .ok (.aload_n 0, 1) := by decide +kernel
theorem dX1_goTo_6 : decode cX1_goTo 6 = .ok (.iload_n 2, 1) := by decide +kernel
theorem dX1_goTo_7 : decode cX1_goTo 7 = .ok (.putfield 35, 3) := by decide +kernel
theorem dX1_goTo_10 : decode cX1_goTo 10 = .ok (.aload_n 0, 1) := by decide +kernel
theorem dX1_goTo_11 : decode cX1_goTo 11 = .ok (.iload_n 3, 1) := by decide +kernel
theorem dX1_goTo_12 : decode cX1_goTo 12 = .ok (.putfield 29, 3) := by decide +kernel
theorem dX1_goTo_15 : decode cX1_goTo 15 = .ok (.return_, 1) := by decide +kernel
theorem dX1_left_0 : decode cX1_left 0 = .ok (.aload_n 0, 1) := by decide +kernel
theorem dX1_left_1 : decode cX1_left 1 = .ok (.getfield 22, 3) := by decide +kernel
theorem dX1_left_4 : decode cX1_left 4 = .ok (.aload_n 0, 1) := by decide +kernel
theorem dX1_left_5 : decode cX1_left 5 = .ok (.getfield 29, 3) := by decide +kernel
theorem dX1_left_8 : decode cX1_left 8 = .ok (.isub, 1) := by decide +kernel
theorem dX1_left_9 : decode cX1_left 9 = .ok (.ireturn, 1) := by decide +kernel
theorem dX1_width_0 : decode cX1_width 0 = .ok (.iconst 0, 1) := by decide +kernel
theorem dX1_width_1 : decode cX1_width 1 = .ok (.istore_n 1, 1) := by decide +kernel
theorem dX1_width_2 : decode cX1_width 2 = .ok (.iconst 0, 1) := by decide +kernel
theorem dX1_width_3 : decode cX1_width 3 = .ok (.aload_n 0, 1) := by decide +kernel
theorem dX1_width_4 : decode cX1_width 4 = .ok (.getfield 32, 3) := by decide +kernel
theorem dX1_width_7 : decode cX1_width 7 = .ok (.invokestatic 77, 3) := by decide +kernel
theorem dX1_width_10 : decode cX1_width 10 = .ok (.istore_n 2, 1) := by decide +kernel
theorem dX1_width_11 : decode cX1_width 11 = .ok (.iload_n 2, 1) := by decide +kernel
theorem dX1_width_12 : decode cX1_width 12 = .ok (.aload_n 0, 1) := by decide +kernel
theorem dX1_width_13 : decode cX1_width 13 = .ok (.getfield 32, 3) := by decide +kernel
theorem dX1_width_16 : decode cX1_width 16 = .ok (.aload_n 0, 1) := by decide +kernel
theorem dX1_width_17 : decode cX1_width 17 = .ok (.getfield 26, 3) := by decide +kernel
theorem dX1_width_20 : decode cX1_width 20 = .ok (.iadd, 1) := by decide +kernel
theorem dX1_width_21 : decode cX1_width 21 = .ok (.if_icmp .ge 26, 3) := by decide +kernel
theorem dX1_width_24 : decode cX1_width 24 = .ok (.iload_n 2, 1) := by decide +kernel
theorem dX1_width_25 : decode cX1_width 25 = .ok (.bipush 8, 2) := by decide +kernel
theorem dX1_width_27 : decode cX1_width 27 = .ok (.if_icmp .ge 20, 3) := by decide +kernel
theorem dX1_width_30 : decode cX1_width 30 = .ok (.iload_n 1, 1) := by decide +kernel
theorem dX1_width_31 : decode cX1_width 31 = .ok (.aload_n 0, 1) := by decide +kernel
theorem dX1_width_32 : decode cX1_width 32 = .ok (.getfield 18, 3) := by decide +kernel
theorem dX1_width_35 : decode cX1_width 35 = .ok (.iload_n 2, 1) := by decide +kernel
theorem dX1_width_36 : decode cX1_width 36 = .ok (.iaload, 1) := by decide +kernel
theorem dX1_width_37 : decode cX1_width 37 = .ok (.invokestatic 77, 3) := by decide +kernel
theorem dX1_width_40 : decode cX1_width 40 = .ok (.istore_n 1, 1) := by decide +kernel
theorem dX1_width_41 : decode cX1_width 41 = .ok (.iinc 2 1, 3) := by decide +kernel
theorem dX1_width_44 : decode cX1_width 44 = .ok (.goto (-33), 3) := by decide +kernel
theorem dX1_width_47 : decode cX1_width 47 = .ok (.iload_n 1, 1) := by decide +kernel
theorem dX1_width_48 : decode cX1_width 48 = .ok (.ireturn, 1) := by decide +kernel
theorem dX1_isNumber_0 : decode cX1_isNumber 0 = .ok (.iload_n 0, 1) := by decide +kernel
theorem dX1_isNumber_1 : decode cX1_isNumber 1 = .ok (.ifCond .lt 14, 3) := by decide +kernel
theorem dX1_isNumber_4 : decode cX1_isNumber 4 = .ok (.iload_n 0, 1) := by decide +kernel
theorem dX1_isNumber_5 : decode cX1_isNumber 5 = .ok (.sipush 200, 3) := by decide +kernel
theorem dX1_isNumber_8 : decode cX1_isNumber 8 = .ok (.if_icmp .gt 7, 3) := by decide +kernel
theorem dX1_isNumber_11 : decode cX1_isNumber 11 = .ok (.iconst 1, 1) := by decide +kernel
theorem dX1_isNumber_12 : decode cX1_isNumber 12 = .ok (.goto 4, 3) := by decide +kernel
theorem dX1_isNumber_15 : decode cX1_isNumber 15 = .ok (.iconst 0, 1) := by decide +kernel
theorem dX1_isNumber_16 : decode cX1_isNumber 16 = .ok (.ireturn, 1) := by decide +kernel
theorem dX1_wind_0 : decode cX1_wind 0 = .ok (.iload_n 1, 1) := by decide +kernel
theorem dX1_wind_1 : decode cX1_wind 1 = .ok (.invokestatic 83, 3) := by decide +kernel
theorem dX1_wind_4 : decode cX1_wind 4 = .ok (.ifCond .ne 5, 3) := by decide +kernel
theorem dX1_wind_7 : decode cX1_wind 7 = .ok (.iconst 4, 1) := by decide +kernel
theorem dX1_wind_8 : decode cX1_wind 8 = .ok (.ireturn, 1) := by decide +kernel
theorem dX1_wind_9 : decode cX1_wind 9 = .ok (.aload_n 0, 1) := by decide +kernel
theorem dX1_wind_10 : decode cX1_wind 10 = .ok (.invokevirtual 87, 3) := by decide +kernel
theorem dX1_wind_13 : decode cX1_wind 13 = .ok (.istore_n 2, 1) := by decide +kernel
theorem dX1_wind_14 : decode cX1_wind 14 = .ok (.iload_n 1, 1) := by decide +kernel
theorem dX1_wind_15 : decode cX1_wind 15 = .ok (.iload_n 2, 1) := by decide +kernel
theorem dX1_wind_16 : decode cX1_wind 16 = .ok (.imul, 1) := by decide +kernel
theorem dX1_wind_17 : decode cX1_wind 17 = .ok (.aload_n 0, 1) := by decide +kernel
theorem dX1_wind_18 : decode cX1_wind 18 = .ok (.invokevirtual 91, 3) := by decide +kernel
theorem dX1_wind_21 : decode cX1_wind 21 = .ok (.if_icmp .le 5, 3) := by decide +kernel
theorem dX1_wind_24 : decode cX1_wind 24 = .ok (.iconst 1, 1) := by decide +kernel
theorem dX1_wind_25 : decode cX1_wind 25 = .ok (.ireturn, 1) := by decide +kernel
theorem dX1_wind_26 : decode cX1_wind 26 = .ok (.aload_n 0, 1) := by decide +kernel
theorem dX1_wind_27 : decode cX1_wind 27 = .ok (.getfield 12, 3) := by decide +kernel
theorem dX1_wind_30 : decode cX1_wind 30 = .ok (.getfield 74, 3) := by decide +kernel
theorem dX1_wind_33 : decode cX1_wind 33 = .ok (.iload_n 1, 1) := by decide +kernel
theorem dX1_wind_34 : decode cX1_wind 34 = .ok (.iadd, 1) := by decide +kernel
theorem dX1_wind_35 : decode cX1_wind 35 = .ok (.sipush 400, 3) := by decide +kernel
theorem dX1_wind_38 : decode cX1_wind 38 = .ok (.if_icmp .le 6, 3) := by decide +kernel
theorem dX1_wind_41 : decode cX1_wind 41 = .ok (.bipush 6, 2) := by decide +kernel
theorem dX1_wind_43 : decode cX1_wind 43 = .ok (.ireturn, 1) := by decide +kernel
theorem dX1_wind_44 : decode cX1_wind 44 = .ok (.iconst 0, 1) := by decide +kernel
theorem dX1_wind_45 : decode cX1_wind 45 = .ok (.istore_n 3, 1) := by decide +kernel
theorem dX1_wind_46 : decode cX1_wind 46 = .ok (.iload_n 3, 1) := by decide +kernel
theorem dX1_wind_47 : decode cX1_wind 47 = .ok (.iload_n 1, 1) := by decide +kernel
theorem dX1_wind_48 : decode cX1_wind 48 = .ok (.if_icmp .ge 67, 3) := by decide +kernel
theorem dX1_wind_51 : decode cX1_wind 51 = .ok (.aload_n 0, 1) := by decide +kernel
theorem dX1_wind_52 : decode cX1_wind 52 = .ok (.getfield 12, 3) := by decide +kernel
theorem dX1_wind_55 : decode cX1_wind 55 = .ok (.aload_n 0, 1) := by decide +kernel
theorem dX1_wind_56 : decode cX1_wind 56 = .ok (.getfield 44, 3) := by decide +kernel
theorem dX1_wind_59 : decode cX1_wind 59 = .ok (.aload_n 0, 1) := by decide +kernel
theorem dX1_wind_60 : decode cX1_wind 60 = .ok (.getfield 32, 3) := by decide +kernel
theorem dX1_wind_63 : decode cX1_wind 63 = .ok (.aload_n 0, 1) := by decide +kernel
theorem dX1_wind_64 : decode cX1_wind 64 = .ok (.getfield 35, 3) := by decide +kernel
theorem dX1_wind_67 : decode cX1_wind 67 = .ok (.aload_n 0, 1) := by decide +kernel
theorem dX1_wind_68 : decode cX1_wind 68 = .ok (.getfield 29, 3) := by decide +kernel
theorem dX1_wind_71 : decode cX1_wind 71 = .ok (.iload_n 2, 1) := by decide +kernel
theorem dX1_wind_72 : decode cX1_wind 72 = .ok (.aload_n 0, 1) := by decide +kernel
theorem dX1_wind_73 : decode cX1_wind 73 = .ok (.getfield 26, 3) := by decide +kernel
theorem dX1_wind_76 : decode cX1_wind 76 = .ok (.aload_n 0, 1) := by decide +kernel
theorem dX1_wind_77 : decode cX1_wind 77 = .ok (.getfield 41, 3) := by decide +kernel
theorem dX1_wind_80 : decode cX1_wind 80 = .ok (.invokevirtual 94, 3) := by decide +kernel
theorem dX1_wind_83 : decode cX1_wind 83 = .ok (.aload_n 0, 1) := by decide +kernel
theorem dX1_wind_84 : decode cX1_wind 84 = .ok (.dup, 1) := by decide +kernel
theorem dX1_wind_85 : decode cX1_wind 85 = .ok (.getfield 29, 3) := by decide +kernel
theorem dX1_wind_88 : decode cX1_wind 88 = .ok (.iload_n 2, 1) := by decide +kernel
theorem dX1_wind_89 : decode cX1_wind 89 = .ok (.iadd, 1) := by decide +kernel
theorem dX1_wind_90 : decode cX1_wind 90 = .ok (.putfield 29, 3) := by decide +kernel
theorem dX1_wind_93 : decode cX1_wind 93 = .ok (.aload_n 0, 1) := by decide +kernel
theorem dX1_wind_94 : decode cX1_wind 94 = .ok (.aload_n 0, 1) := by decide +kernel
theorem dX1_wind_95 : decode cX1_wind 95 = .ok (.getfield 35, 3) := by decide +kernel
theorem dX1_wind_98 : decode cX1_wind 98 = .ok (.aload_n 0, 1) := by decide +kernel
theorem dX1_wind_99 : decode cX1_wind 99 = .ok (.getfield 38, 3) := by decide +kernel
theorem dX1_wind_102 : decode cX1_wind 102 = .ok (.iadd, 1) := by decide +kernel
theorem dX1_wind_103 : decode cX1_wind 103 = .ok (.bipush 7, 2) := by decide +kernel
theorem dX1_wind_105 : decode cX1_wind 105 = .ok (.iand, 1) := by decide +kernel
theorem dX1_wind_106 : decode cX1_wind 106 = .ok (.putfield 35, 3) := by decide +kernel
theorem dX1_wind_109 : decode cX1_wind 109 = .ok (.iinc 3 1, 3) := by decide +kernel
theorem dX1_wind_112 : decode cX1_wind 112 = .ok (.goto (-66), 3) := by decide +kernel
theorem dX1_wind_115 : decode cX1_wind 115 = .ok (.aload_n 0, 1) := by decide +kernel
theorem dX1_wind_116 : decode cX1_wind 116 = .ok (.dup, 1) := by decide +kernel
theorem dX1_wind_117 : decode cX1_wind 117 = .ok (.getfield 44, 3) := by decide +kernel
theorem dX1_wind_120 : decode cX1_wind 120 = .ok (.iconst 1, 1) := by decide +kernel
theorem dX1_wind_121 : decode cX1_wind 121 = .ok (.iadd, 1) := by decide +kernel
theorem dX1_wind_122 : decode cX1_wind 122 = .ok (.putfield 44, 3) := by decide +kernel
theorem dX1_wind_125 : decode cX1_wind 125 = .ok (.iconst 0, 1) := by decide +kernel
theorem dX1_wind_126 : decode cX1_wind 126 = .ok (.ireturn, 1) := by decide +kernel
theorem dX1_pleat_0 : decode cX1_pleat 0 = .ok (.iload_n 1, 1) := by decide +kernel
theorem dX1_pleat_1 : decode cX1_pleat 1 = .ok (.invokestatic 83, 3) := by decide +kernel
theorem dX1_pleat_4 : decode cX1_pleat 4 = .ok (.ifCond .eq 14, 3) := by decide +kernel
theorem dX1_pleat_7 : decode cX1_pleat 7 = .ok (.iload_n 2, 1) := by decide +kernel
theorem dX1_pleat_8 : decode cX1_pleat 8 = .ok (.invokestatic 83, 3) := by decide +kernel
theorem dX1_pleat_11 : decode cX1_pleat 11 = .ok (.ifCond .eq 7, 3) := by decide +kernel
theorem dX1_pleat_14 : decode cX1_pleat 14 = .ok (.iload_n 2, 1) := by decide +kernel
theorem dX1_pleat_15 : decode cX1_pleat 15 = .ok (.ifCond .ne 5, 3) := by decide +kernel
theorem dX1_pleat_18 : decode cX1_pleat 18 = .ok (.iconst 4, 1) := by decide +kernel
theorem dX1_pleat_19 : decode cX1_pleat 19 = .ok (.ireturn, 1) := by decide +kernel
theorem dX1_pleat_20 : decode cX1_pleat 20 = .ok (.iconst 2, 1) := by decide +kernel
theorem dX1_pleat_21 : decode cX1_pleat 21 = .ok (.iload_n 1, 1) := by decide +kernel
theorem dX1_pleat_22 : decode cX1_pleat 22 = .ok (.imul, 1) := by decide +kernel
theorem dX1_pleat_23 : decode cX1_pleat 23 = .ok (.iload_n 2, 1) := by decide +kernel
theorem dX1_pleat_24 : decode cX1_pleat 24 = .ok (.imul, 1) := by decide +kernel
theorem dX1_pleat_25 : decode cX1_pleat 25 = .ok (.aload_n 0, 1) := by decide +kernel
theorem dX1_pleat_26 : decode cX1_pleat 26 = .ok (.invokevirtual 91, 3) := by decide +kernel
theorem dX1_pleat_29 : decode cX1_pleat 29 = .ok (.if_icmp .le 5, 3) := by decide +kernel
theorem dX1_pleat_32 : decode cX1_pleat 32 = .ok (.iconst 1, 1) := by decide +kernel
theorem dX1_pleat_33 : decode cX1_pleat 33 = .ok (.ireturn, 1) := by decide +kernel
theorem dX1_pleat_34 : decode cX1_pleat 34 = .ok (.aload_n 0, 1) := by decide +kernel
theorem dX1_pleat_35 : decode cX1_pleat 35 = .ok (.getfield 12, 3) := by decide +kernel
theorem dX1_pleat_38 : decode cX1_pleat 38 = .ok (.getfield 74, 3) := by decide +kernel
theorem dX1_pleat_41 : decode cX1_pleat 41 = .ok (.iconst 2, 1) := by decide +kernel
theorem dX1_pleat_42 : decode cX1_pleat 42 = .ok (.iload_n 1, 1) := by decide +kernel
theorem dX1_pleat_43 : decode cX1_pleat 43 = .ok (.imul, 1) := by decide +kernel
theorem dX1_pleat_44 : decode cX1_pleat 44 = .ok (.iadd, 1) := by decide +kernel
theorem dX1_pleat_45 : decode cX1_pleat 45 = .ok (.sipush 400, 3) := by decide +kernel
theorem dX1_pleat_48 : decode cX1_pleat 48 = .ok (.if_icmp .le 6, 3) := by decide +kernel
theorem dX1_pleat_51 : decode cX1_pleat 51 = .ok (.bipush 6, 2) := by decide +kernel
theorem dX1_pleat_53 : decode cX1_pleat 53 = .ok (.ireturn, 1) := by decide +kernel
theorem dX1_pleat_54 : decode cX1_pleat 54 = .ok (.iconst 0, 1) := by decide +kernel
theorem dX1_pleat_55 : decode cX1_pleat 55 = .ok (.istore_n 3, 1) := by decide +kernel
theorem dX1_pleat_56 : decode cX1_pleat 56 = .ok (.iload_n 3, 1) := by decide +kernel
theorem dX1_pleat_57 : decode cX1_pleat 57 = .ok (.iload_n 1, 1) := by decide +kernel
theorem dX1_pleat_58 : decode cX1_pleat 58 = .ok (.if_icmp .ge 89, 3) := by decide +kernel
theorem dX1_pleat_61 : decode cX1_pleat 61 = .ok (.aload_n 0, 1) := by decide +kernel
theorem dX1_pleat_62 : decode cX1_pleat 62 = .ok (.getfield 12, 3) := by decide +kernel
theorem dX1_pleat_65 : decode cX1_pleat 65 = .ok (.aload_n 0, 1) := by decide +kernel
theorem dX1_pleat_66 : decode cX1_pleat 66 = .ok (.getfield 44, 3) := by decide +kernel
theorem dX1_pleat_69 : decode cX1_pleat 69 = .ok (.aload_n 0, 1) := by decide +kernel
theorem dX1_pleat_70 : decode cX1_pleat 70 = .ok (.getfield 32, 3) := by decide +kernel
theorem dX1_pleat_73 : decode cX1_pleat 73 = .ok (.aload_n 0, 1) := by decide +kernel
theorem dX1_pleat_74 : decode cX1_pleat 74 = .ok (.getfield 35, 3) := by decide +kernel
theorem dX1_pleat_77 : decode cX1_pleat 77 = .ok (.aload_n 0, 1) := by decide +kernel
theorem dX1_pleat_78 : decode cX1_pleat 78 = .ok (.getfield 29, 3) := by decide +kernel
theorem dX1_pleat_81 : decode cX1_pleat 81 = .ok (.iload_n 2, 1) := by decide +kernel
theorem dX1_pleat_82 : decode cX1_pleat 82 = .ok (.aload_n 0, 1) := by decide +kernel
theorem dX1_pleat_83 : decode cX1_pleat 83 = .ok (.getfield 26, 3) := by decide +kernel
theorem dX1_pleat_86 : decode cX1_pleat 86 = .ok (.iconst 1, 1) := by decide +kernel
theorem dX1_pleat_87 : decode cX1_pleat 87 = .ok (.aload_n 0, 1) := by decide +kernel
theorem dX1_pleat_88 : decode cX1_pleat 88 = .ok (.getfield 41, 3) := by decide +kernel
theorem dX1_pleat_91 : decode cX1_pleat 91 = .ok (.isub, 1) := by decide +kernel
theorem dX1_pleat_92 : decode cX1_pleat 92 = .ok (.invokevirtual 94, 3) := by decide +kernel
theorem dX1_pleat_95 : decode cX1_pleat 95 = .ok (.aload_n 0, 1) := by decide +kernel
theorem dX1_pleat_96 : decode cX1_pleat 96 = .ok (.getfield 12, 3) := by decide +kernel
theorem dX1_pleat_99 : decode cX1_pleat 99 = .ok (.aload_n 0, 1) := by decide +kernel
theorem dX1_pleat_100 : decode cX1_pleat 100 = .ok (.getfield 44, 3) := by decide +kernel
theorem dX1_pleat_103 : decode cX1_pleat 103 = .ok (.aload_n 0, 1) := by decide +kernel
theorem dX1_pleat_104 : decode cX1_pleat 104 = .ok (.getfield 32, 3) := by decide +kernel
theorem dX1_pleat_107 : decode cX1_pleat 107 = .ok (.aload_n 0, 1) := by decide +kernel
theorem dX1_pleat_108 : decode cX1_pleat 108 = .ok (.getfield 35, 3) := by decide +kernel
theorem dX1_pleat_111 : decode cX1_pleat 111 = .ok (.aload_n 0, 1) := by decide +kernel
theorem dX1_pleat_112 : decode cX1_pleat 112 = .ok (.getfield 29, 3) := by decide +kernel
theorem dX1_pleat_115 : decode cX1_pleat 115 = .ok (.iload_n 2, 1) := by decide +kernel
theorem dX1_pleat_116 : decode cX1_pleat 116 = .ok (.iadd, 1) := by decide +kernel
theorem dX1_pleat_117 : decode cX1_pleat 117 = .ok (.iload_n 2, 1) := by decide +kernel
theorem dX1_pleat_118 : decode cX1_pleat 118 = .ok (.aload_n 0, 1) := by decide +kernel
theorem dX1_pleat_119 : decode cX1_pleat 119 = .ok (.getfield 26, 3) := by decide +kernel
theorem dX1_pleat_122 : decode cX1_pleat 122 = .ok (.aload_n 0, 1) := by decide +kernel
theorem dX1_pleat_123 : decode cX1_pleat 123 = .ok (.getfield 41, 3) := by decide +kernel
theorem dX1_pleat_126 : decode cX1_pleat 126 = .ok (.invokevirtual 94, 3) := by decide +kernel
theorem dX1_pleat_129 : decode cX1_pleat 129 = .ok (.aload_n 0, 1) := by decide +kernel
theorem dX1_pleat_130 : decode cX1_pleat 130 = .ok (.dup, 1) := by decide +kernel
theorem dX1_pleat_131 : decode cX1_pleat 131 = .ok (.getfield 29, 3) := by decide +kernel
theorem dX1_pleat_134 : decode cX1_pleat 134 = .ok (.iconst 2, 1) := by decide +kernel
theorem dX1_pleat_135 : decode cX1_pleat 135 = .ok (.iload_n 2, 1) := by decide +kernel
theorem dX1_pleat_136 : decode cX1_pleat 136 = .ok (.imul, 1) := by decide +kernel
theorem dX1_pleat_137 : decode cX1_pleat 137 = .ok (.iadd, 1) := by decide +kernel
theorem dX1_pleat_138 : decode cX1_pleat 138 = .ok (.putfield 29, 3) := by decide +kernel
theorem dX1_pleat_141 : decode cX1_pleat 141 = .ok (.iinc 3 1, 3) := by decide +kernel
theorem dX1_pleat_144 : decode cX1_pleat 144 = .ok (.goto (-88), 3) := by decide +kernel
theorem dX1_pleat_147 : decode cX1_pleat 147 = .ok (.aload_n 0, 1) := by decide +kernel
theorem dX1_pleat_148 : decode cX1_pleat 148 = .ok (.dup, 1) := by decide +kernel
theorem dX1_pleat_149 : decode cX1_pleat 149 = .ok (.getfield 44, 3) := by decide +kernel
theorem dX1_pleat_152 : decode cX1_pleat 152 = .ok (.iconst 1, 1) := by decide +kernel
theorem dX1_pleat_153 : decode cX1_pleat 153 = .ok (.iadd, 1) := by decide +kernel
theorem dX1_pleat_154 : decode cX1_pleat 154 = .ok (.putfield 44, 3) := by decide +kernel
theorem dX1_pleat_157 : decode cX1_pleat 157 = .ok (.iconst 0, 1) := by decide +kernel
theorem dX1_pleat_158 : decode cX1_pleat 158 = .ok (.ireturn, 1) := by decide +kernel
theorem dX1_tuck_0 : decode cX1_tuck 0 = .ok (.aload_n 0, 1) := by decide +kernel
theorem dX1_tuck_1 : decode cX1_tuck 1 = .ok (.getfield 12, 3) := by decide +kernel
theorem dX1_tuck_4 : decode cX1_tuck 4 = .ok (.invokevirtual 98, 3) := by decide +kernel
theorem dX1_tuck_7 : decode cX1_tuck 7 = .ok (.ifCond .ne 6, 3) := by decide +kernel
theorem dX1_tuck_10 : decode cX1_tuck 10 = .ok (.bipush 6, 2) := by decide +kernel
theorem dX1_tuck_12 : decode cX1_tuck 12 = .ok (.ireturn, 1) := by decide +kernel
theorem dX1_tuck_13 : decode cX1_tuck 13 = .ok (.aload_n 0, 1) := by decide +kernel
theorem dX1_tuck_14 : decode cX1_tuck 14 = .ok (.dup, 1) := by decide +kernel
theorem dX1_tuck_15 : decode cX1_tuck 15 = .ok (.getfield 47, 3) := by decide +kernel
theorem dX1_tuck_18 : decode cX1_tuck 18 = .ok (.iconst 1, 1) := by decide +kernel
theorem dX1_tuck_19 : decode cX1_tuck 19 = .ok (.iadd, 1) := by decide +kernel
theorem dX1_tuck_20 : decode cX1_tuck 20 = .ok (.putfield 47, 3) := by decide +kernel
theorem dX1_tuck_23 : decode cX1_tuck 23 = .ok (.iconst 0, 1) := by decide +kernel
theorem dX1_tuck_24 : decode cX1_tuck 24 = .ok (.ireturn, 1) := by decide +kernel
theorem dX1_climb_0 : decode cX1_climb 0 = .ok (.iload_n 1, 1) := by decide +kernel
theorem dX1_climb_1 : decode cX1_climb 1 = .ok (.invokestatic 83, 3) := by decide +kernel
theorem dX1_climb_4 : decode cX1_climb 4 = .ok (.ifCond .ne 5, 3) := by decide +kernel
theorem dX1_climb_7 : decode cX1_climb 7 = .ok (.iconst 4, 1) := by decide +kernel
theorem dX1_climb_8 : decode cX1_climb 8 = .ok (.ireturn, 1) := by decide +kernel
theorem dX1_climb_9 : decode cX1_climb 9 = .ok (.aload_n 0, 1) := by decide +kernel
theorem dX1_climb_10 : decode cX1_climb 10 = .ok (.getfield 32, 3) := by decide +kernel
theorem dX1_climb_13 : decode cX1_climb 13 = .ok (.iload_n 2, 1) := by decide +kernel
theorem dX1_climb_14 : decode cX1_climb 14 = .ok (.iload_n 1, 1) := by decide +kernel
theorem dX1_climb_15 : decode cX1_climb 15 = .ok (.imul, 1) := by decide +kernel
theorem dX1_climb_16 : decode cX1_climb 16 = .ok (.iadd, 1) := by decide +kernel
theorem dX1_climb_17 : decode cX1_climb 17 = .ok (.istore_n 3, 1) := by decide +kernel
theorem dX1_climb_18 : decode cX1_climb 18 = .ok (.iload_n 3, 1) := by decide +kernel
theorem dX1_climb_19 : decode cX1_climb 19 = .ok (.ifCond .lt 14, 3) := by decide +kernel
theorem dX1_climb_22 : decode cX1_climb 22 = .ok (.iload_n 3, 1) := by decide +kernel
theorem dX1_climb_23 : decode cX1_climb 23 = .ok (.aload_n 0, 1) := by decide +kernel
theorem dX1_climb_24 : decode cX1_climb 24 = .ok (.getfield 26, 3) := by decide +kernel
theorem dX1_climb_27 : decode cX1_climb 27 = .ok (.iadd, 1) := by decide +kernel
theorem dX1_climb_28 : decode cX1_climb 28 = .ok (.bipush 8, 2) := by decide +kernel
theorem dX1_climb_30 : decode cX1_climb 30 = .ok (.if_icmp .le 5, 3) := by decide +kernel
theorem dX1_climb_33 : decode cX1_climb 33 = .ok (.iconst 2, 1) := by decide +kernel
theorem dX1_climb_34 : decode cX1_climb 34 = .ok (.ireturn, 1) := by decide +kernel
theorem dX1_climb_35 : decode cX1_climb 35 = .ok (.iload_n 1, 1) := by decide +kernel
theorem dX1_climb_36 : decode cX1_climb 36 = .ok (.aload_n 0, 1) := by decide +kernel
theorem dX1_climb_37 : decode cX1_climb 37 = .ok (.invokevirtual 91, 3) := by decide +kernel
theorem dX1_climb_40 : decode cX1_climb 40 = .ok (.if_icmp .le 5, 3) := by decide +kernel
theorem dX1_climb_43 : decode cX1_climb 43 = .ok (.iconst 1, 1) := by decide +kernel
theorem dX1_climb_44 : decode cX1_climb 44 = .ok (.ireturn, 1) := by decide +kernel
theorem dX1_climb_45 : decode cX1_climb 45 = .ok (.aload_n 0, 1) := by decide +kernel
theorem dX1_climb_46 : decode cX1_climb 46 = .ok (.iload_n 3, 1) := by decide +kernel
theorem dX1_climb_47 : decode cX1_climb 47 = .ok (.aload_n 0, 1) := by decide +kernel
theorem dX1_climb_48 : decode cX1_climb 48 = .ok (.getfield 35, 3) := by decide +kernel
theorem dX1_climb_51 : decode cX1_climb 51 = .ok (.aload_n 0, 1) := by decide +kernel
theorem dX1_climb_52 : decode cX1_climb 52 = .ok (.getfield 29, 3) := by decide +kernel
theorem dX1_climb_55 : decode cX1_climb 55 = .ok (.iload_n 1, 1) := by decide +kernel
theorem dX1_climb_56 : decode cX1_climb 56 = .ok (.iadd, 1) := by decide +kernel
theorem dX1_climb_57 : decode cX1_climb 57 = .ok (.invokevirtual 70, 3) := by decide +kernel
theorem dX1_climb_60 : decode cX1_climb 60 = .ok (.aload_n 0, 1) := by decide +kernel
theorem dX1_climb_61 : decode cX1_climb 61 = .ok (.dup, 1) := by decide +kernel
theorem dX1_climb_62 : decode cX1_climb 62 = .ok (.getfield 57, 3) := by decide +kernel
theorem dX1_climb_65 : decode cX1_climb 65 = .ok (.iload_n 1, 1) := by decide +kernel
theorem dX1_climb_66 : decode cX1_climb 66 = .ok (.iadd, 1) := by decide +kernel
theorem dX1_climb_67 : decode cX1_climb 67 = .ok (.putfield 57, 3) := by decide +kernel
theorem dX1_climb_70 : decode cX1_climb 70 = .ok (.aload_n 0, 1) := by decide +kernel
theorem dX1_climb_71 : decode cX1_climb 71 = .ok (.dup, 1) := by decide +kernel
theorem dX1_climb_72 : decode cX1_climb 72 = .ok (.getfield 44, 3) := by decide +kernel
theorem dX1_climb_75 : decode cX1_climb 75 = .ok (.iconst 1, 1) := by decide +kernel
theorem dX1_climb_76 : decode cX1_climb 76 = .ok (.iadd, 1) := by decide +kernel
theorem dX1_climb_77 : decode cX1_climb 77 = .ok (.putfield 44, 3) := by decide +kernel
theorem dX1_climb_80 : decode cX1_climb 80 = .ok (.iconst 0, 1) := by decide +kernel
theorem dX1_climb_81 : decode cX1_climb 81 = .ok (.ireturn, 1) := by decide +kernel
theorem dX1_turn_0 : decode cX1_turn 0 = .ok (.aload_n 0, 1) := by decide +kernel
theorem dX1_turn_1 : decode cX1_turn 1 = .ok (.aload_n 0, 1) := by decide +kernel
theorem dX1_turn_2 : decode cX1_turn 2 = .ok (.getfield 38, 3) := by decide +kernel
theorem dX1_turn_5 : decode cX1_turn 5 = .ok (.ineg, 1) := by decide +kernel
theorem dX1_turn_6 : decode cX1_turn 6 = .ok (.putfield 38, 3) := by decide +kernel
theorem dX1_turn_9 : decode cX1_turn 9 = .ok (.iconst 0, 1) := by decide +kernel
theorem dX1_turn_10 : decode cX1_turn 10 = .ok (.ireturn, 1) := by decide +kernel
theorem dX1_flip_0 : decode cX1_flip 0 = .ok (.aload_n 0, 1) := by decide +kernel
theorem dX1_flip_1 : decode cX1_flip 1 = .ok (.iconst 1, 1) := by decide +kernel
theorem dX1_flip_2 : decode cX1_flip 2 = .ok (.aload_n 0, 1) := by decide +kernel
theorem dX1_flip_3 : decode cX1_flip 3 = .ok (.getfield 41, 3) := by decide +kernel
theorem dX1_flip_6 : decode cX1_flip 6 = .ok (.isub, 1) := by decide +kernel
theorem dX1_flip_7 : decode cX1_flip 7 = .ok (.putfield 41, 3) := by decide +kernel
theorem dX1_flip_10 : decode cX1_flip 10 = .ok (.iconst 0, 1) := by decide +kernel
theorem dX1_flip_11 : decode cX1_flip 11 = .ok (.ireturn, 1) := by decide +kernel
section
variable {d : Nat} {M : gM} {Z : Option Value → gM → Prop} {a0 a1 a2 a3 a4 a5 a6 a7 a8 a9 a10 a11 a12 : Option Value} {v s0 s1 s2 s3 s4 s5 s6 s7 s8 s9 s10 s11 : Value} {x y w : Int32} {o b u1 u2 : Nat}
/-! 0: X0_init (II)V -/
theorem gd0 {pc : Nat} {r : Except _ _} (h : decode cX0_init pc = r) : decode (gby 0) pc = r := h
theorem z0_0 : Run d 0 0 [some (.ref o), a1, a2] [] M 0 0 Z ↔ Run d 0 1 [some (.ref o), a1, a2] [.ref o] M 0 0 Z := R_local (gd0 dX0_init_0) rfl rfl rfl
theorem z0_1 : Run d 0 1 [a0, a1, a2] [.ref o] M 0 0 Z ↔ Run d 0 4 [a0, a1, a2] [] M 0 0 Z := R_prim (gd0 dX0_init_1) rfl rfl rfl rfl rfl rfl gc_0_3 rfl (by decide) rfl (Nat.le_of_ble_eq_true rfl)
theorem z0_4 : Run d 0 4 [some (.ref o), a1, a2] [] M 0 0 Z ↔ Run d 0 5 [some (.ref o), a1, a2] [.ref o] M 0 0 Z := R_local (gd0 dX0_init_4) rfl rfl rfl
theorem z0_5 : Run d 0 5 [a0, a1, a2] [s0] M 0 0 Z ↔ Run d 0 7 [a0, a1, a2] [.int 6, s0] M 0 0 Z := R_bipush (gd0 dX0_init_5) (by decide)
theorem z0_7 : Run d 0 7 [a0, a1, a2] [.int 6, s0] M 0 0 Z ↔ Run d 0 9 [a0, a1, a2] [.ref M.2.2.length, s0] (gNew M (.inr (0, 6))) 1 6 Z := R_newa2 (gd0 dX0_init_7) (t := 0) (by decide) (n := 6) (by decide) (by decide)
theorem z0_9 : Run d 0 9 [a0, a1, a2] [v, .ref o] M 1 6 Z ↔ gObj M o 0 ∧ gisRef v = true ∧ Run d 0 12 [a0, a1, a2] [] (gsR M o 2 (gU v)) 1 6 Z := R_putR (gd0 dX0_init_9) rfl gf_0_9 (Or.inr ⟨rfl, rfl⟩) rfl
theorem z0_12 : Run d 0 12 [some (.ref o), a1, a2] [] M 1 6 Z ↔ Run d 0 13 [some (.ref o), a1, a2] [.ref o] M 1 6 Z := R_local (gd0 dX0_init_12) rfl rfl rfl
theorem z0_13 : Run d 0 13 [a0, a1, a2] [s0] M 1 6 Z ↔ Run d 0 14 [a0, a1, a2] [.int 0, s0] M 1 6 Z := R_iconst (gd0 dX0_init_13) (by decide)
theorem z0_14 : Run d 0 14 [a0, a1, a2] [.int x, .ref o] M 1 6 Z ↔ gObj M o 0 ∧ Run d 0 17 [a0, a1, a2] [] (gsI M o 3 x) 1 6 Z := R_putI (gd0 dX0_init_14) rfl gf_0_15 (Or.inl rfl) rfl
theorem z0_17 : Run d 0 17 [some (.ref o), a1, a2] [] M 1 6 Z ↔ Run d 0 18 [some (.ref o), a1, a2] [.ref o] M 1 6 Z := R_local (gd0 dX0_init_17) rfl rfl rfl
theorem z0_18 : Run d 0 18 [a0, some (.int x), a2] [s0] M 1 6 Z ↔ Run d 0 19 [a0, some (.int x), a2] [.int x, s0] M 1 6 Z := R_local (gd0 dX0_init_18) rfl rfl rfl
theorem z0_19 : Run d 0 19 [a0, a1, a2] [.int x, .ref o] M 1 6 Z ↔ gObj M o 0 ∧ Run d 0 22 [a0, a1, a2] [] (gsI M o 0 x) 1 6 Z := R_putI (gd0 dX0_init_19) rfl gf_0_19 (Or.inr ⟨rfl, rfl⟩) rfl
theorem z0_22 : Run d 0 22 [some (.ref o), a1, a2] [] M 1 6 Z ↔ Run d 0 23 [some (.ref o), a1, a2] [.ref o] M 1 6 Z := R_local (gd0 dX0_init_22) rfl rfl rfl
theorem z0_23 : Run d 0 23 [a0, a1, some (.int x)] [s0] M 1 6 Z ↔ Run d 0 24 [a0, a1, some (.int x)] [.int x, s0] M 1 6 Z := R_local (gd0 dX0_init_23) rfl rfl rfl
theorem z0_24 : Run d 0 24 [a0, a1, a2] [.int x, .ref o] M 1 6 Z ↔ gObj M o 0 ∧ Run d 0 27 [a0, a1, a2] [] (gsI M o 1 x) 1 6 Z := R_putI (gd0 dX0_init_24) rfl gf_0_22 (Or.inr ⟨rfl, rfl⟩) rfl
theorem z0_27 : Run d 0 27 [a0, a1, a2] [] M 1 6 Z ↔ Z none M := R_vret (gd0 dX0_init_27) rfl
theorem e0 : Call (d + 1) 0 [s0, s1, s2] M Z ↔ Run d 0 0 [some s0, some s1, some s2] [] M 0 0 Z := Call_iff (Nat.lt_of_lt_of_le (Nat.lt_succ_self 0) (Nat.le_of_ble_eq_true rfl)) (Nat.le_of_ble_eq_true rfl)
/-! 1: X0_shown (III)I -/
theorem gd1 {pc : Nat} {r : Except _ _} (h : decode cX0_shown pc = r) : decode (gby 1) pc = r := h
theorem z1_0 : Run d 1 0 [a0, a1, a2, some (.int x)] [] M 0 0 Z ↔ Run d 1 1 [a0, a1, a2, some (.int x)] [.int x] M 0 0 Z := R_local (gd1 dX0_shown_0) rfl rfl rfl
theorem z1_1 : Run d 1 1 [a0, a1, a2, a3] [.int x] M 0 0 Z ↔ (x = 0 → Run d 1 11 [a0, a1, a2, a3] [] M 0 0 Z) ∧ (¬ (x = 0) → Run d 1 4 [a0, a1, a2, a3] [] M 0 0 Z) := R_if (gd1 dX0_shown_1) (show gTgt 1 10 = some 11 by decide) gIf_eq
theorem z1_4 : Run d 1 4 [some (.ref o), a1, a2, a3] [] M 0 0 Z ↔ Run d 1 5 [some (.ref o), a1, a2, a3] [.ref o] M 0 0 Z := R_local (gd1 dX0_shown_4) rfl rfl rfl
theorem z1_5 : Run d 1 5 [a0, a1, a2, a3] [.ref o] M 0 0 Z ↔ gObj M o 0 ∧ Run d 1 8 [a0, a1, a2, a3] [va_rf (M.2.1 o 2)] M 0 0 Z := R_getR (gd1 dX0_shown_5) rfl gf_0_9 rfl
theorem z1_8 : Run d 1 8 [a0, a1, a2, a3] [s0] M 0 0 Z ↔ Run d 1 9 [a0, a1, a2, a3] [.int 5, s0] M 0 0 Z := R_iconst (gd1 dX0_shown_8) (by decide)
theorem z1_9 : Run d 1 9 [a0, a1, a2, a3] [.int x, .ref o] M 0 0 Z ↔ gAr M o 0 ∧ gIn x (gLen M o) = true ∧ Run d 1 10 [a0, a1, a2, a3] [.int (M.1 o x.toNatClampNeg)] M 0 0 Z := R_iald (gd1 dX0_shown_9)
theorem z1_10 : Run d 1 10 [a0, a1, a2, a3] [.int x] M 0 0 Z ↔ Z (some (.int x)) M := R_iret (gd1 dX0_shown_10) rfl
theorem z1_11 : Run d 1 11 [a0, a1, some (.int x), a3] [] M 0 0 Z ↔ Run d 1 12 [a0, a1, some (.int x), a3] [.int x] M 0 0 Z := R_local (gd1 dX0_shown_11) rfl rfl rfl
theorem z1_12 : Run d 1 12 [some (.ref o), a1, a2, a3] [s0] M 0 0 Z ↔ Run d 1 13 [some (.ref o), a1, a2, a3] [.ref o, s0] M 0 0 Z := R_local (gd1 dX0_shown_12) rfl rfl rfl
theorem z1_13 : Run d 1 13 [a0, a1, a2, a3] [.ref o, s0] M 0 0 Z ↔ gObj M o 0 ∧ Run d 1 16 [a0, a1, a2, a3] [.int (M.1 o 0), s0] M 0 0 Z := R_getI (gd1 dX0_shown_13) rfl gf_0_19 rfl
theorem z1_16 : Run d 1 16 [some (.ref o), a1, a2, a3] [s1, s0] M 0 0 Z ↔ Run d 1 17 [some (.ref o), a1, a2, a3] [.ref o, s1, s0] M 0 0 Z := R_local (gd1 dX0_shown_16) rfl rfl rfl
theorem z1_17 : Run d 1 17 [a0, a1, a2, a3] [.ref o, s1, s0] M 0 0 Z ↔ gObj M o 0 ∧ Run d 1 20 [a0, a1, a2, a3] [.int (M.1 o 3), s1, s0] M 0 0 Z := R_getI (gd1 dX0_shown_17) rfl gf_0_15 rfl
theorem z1_20 : Run d 1 20 [a0, a1, a2, a3] [.int y, .int x, s0] M 0 0 Z ↔ Run d 1 21 [a0, a1, a2, a3] [.int (x - y), s0] M 0 0 Z := R_arith (gd1 dX0_shown_20) rfl
theorem z1_21 : Run d 1 21 [a0, a1, a2, a3] [.int y, .int x] M 0 0 Z ↔ (x < y → Run d 1 31 [a0, a1, a2, a3] [] M 0 0 Z) ∧ (¬ (x < y) → Run d 1 24 [a0, a1, a2, a3] [] M 0 0 Z) := R_icmp (gd1 dX0_shown_21) (show gTgt 21 10 = some 31 by decide) gIf_lt
theorem z1_24 : Run d 1 24 [some (.ref o), a1, a2, a3] [] M 0 0 Z ↔ Run d 1 25 [some (.ref o), a1, a2, a3] [.ref o] M 0 0 Z := R_local (gd1 dX0_shown_24) rfl rfl rfl
theorem z1_25 : Run d 1 25 [a0, a1, a2, a3] [.ref o] M 0 0 Z ↔ gObj M o 0 ∧ Run d 1 28 [a0, a1, a2, a3] [va_rf (M.2.1 o 2)] M 0 0 Z := R_getR (gd1 dX0_shown_25) rfl gf_0_9 rfl
theorem z1_28 : Run d 1 28 [a0, a1, a2, a3] [s0] M 0 0 Z ↔ Run d 1 29 [a0, a1, a2, a3] [.int 4, s0] M 0 0 Z := R_iconst (gd1 dX0_shown_28) (by decide)
theorem z1_29 : Run d 1 29 [a0, a1, a2, a3] [.int x, .ref o] M 0 0 Z ↔ gAr M o 0 ∧ gIn x (gLen M o) = true ∧ Run d 1 30 [a0, a1, a2, a3] [.int (M.1 o x.toNatClampNeg)] M 0 0 Z := R_iald (gd1 dX0_shown_29)
theorem z1_30 : Run d 1 30 [a0, a1, a2, a3] [.int x] M 0 0 Z ↔ Z (some (.int x)) M := R_iret (gd1 dX0_shown_30) rfl
theorem z1_31 : Run d 1 31 [a0, some (.int x), a2, a3] [] M 0 0 Z ↔ Run d 1 32 [a0, some (.int x), a2, a3] [.int x] M 0 0 Z := R_local (gd1 dX0_shown_31) rfl rfl rfl
theorem z1_32 : Run d 1 32 [a0, a1, a2, a3] [s0] M 0 0 Z ↔ Run d 1 33 [a0, a1, a2, a3] [.int 4, s0] M 0 0 Z := R_iconst (gd1 dX0_shown_32) (by decide)
theorem z1_33 : Run d 1 33 [a0, a1, a2, a3] [s1, s0] M 0 0 Z ↔ Call d 110 [s0, s1] M (fun r M1 => Run d 1 36 [a0, a1, a2, a3] (r.toList ++ []) M1 0 0 Z) := R_call (gd1 dX0_shown_33) rfl rfl rfl rfl rfl rfl gc_0_25 rfl (by decide) (Nat.le_of_ble_eq_true rfl) (Nat.le_of_ble_eq_true rfl) rfl rfl rfl (Nat.le_of_ble_eq_true rfl) (Nat.le_of_ble_eq_true rfl)
theorem z1_36 : Run d 1 36 [a0, a1, a2, a3] [.int x] M 0 0 Z ↔ (x = 0 → Run d 1 48 [a0, a1, a2, a3] [] M 0 0 Z) ∧ (¬ (x = 0) → Run d 1 39 [a0, a1, a2, a3] [] M 0 0 Z) := R_if (gd1 dX0_shown_36) (show gTgt 36 12 = some 48 by decide) gIf_eq
theorem z1_39 : Run d 1 39 [some (.ref o), a1, a2, a3] [] M 0 0 Z ↔ Run d 1 40 [some (.ref o), a1, a2, a3] [.ref o] M 0 0 Z := R_local (gd1 dX0_shown_39) rfl rfl rfl
theorem z1_40 : Run d 1 40 [a0, a1, a2, a3] [.ref o] M 0 0 Z ↔ gObj M o 0 ∧ Run d 1 43 [a0, a1, a2, a3] [va_rf (M.2.1 o 2)] M 0 0 Z := R_getR (gd1 dX0_shown_40) rfl gf_0_9 rfl
theorem z1_43 : Run d 1 43 [a0, some (.int x), a2, a3] [s0] M 0 0 Z ↔ Run d 1 44 [a0, some (.int x), a2, a3] [.int x, s0] M 0 0 Z := R_local (gd1 dX0_shown_43) rfl rfl rfl
theorem z1_44 : Run d 1 44 [a0, a1, a2, a3] [.int x, .ref o] M 0 0 Z ↔ gAr M o 0 ∧ gIn x (gLen M o) = true ∧ Run d 1 45 [a0, a1, a2, a3] [.int (M.1 o x.toNatClampNeg)] M 0 0 Z := R_iald (gd1 dX0_shown_44)
theorem z1_45 : Run d 1 45 [a0, a1, a2, a3] [s0] M 0 0 Z ↔ Run d 1 49 [a0, a1, a2, a3] [s0] M 0 0 Z := R_goto (gd1 dX0_shown_45) (show gTgt 45 4 = some 49 by decide)
theorem z1_48 : Run d 1 48 [a0, a1, a2, a3] [] M 0 0 Z ↔ Run d 1 49 [a0, a1, a2, a3] [.int 0] M 0 0 Z := R_iconst (gd1 dX0_shown_48) (by decide)
theorem z1_49 : Run d 1 49 [a0, a1, a2, a3] [.int x] M 0 0 Z ↔ Z (some (.int x)) M := R_iret (gd1 dX0_shown_49) rfl
theorem e1 : Call (d + 1) 1 [s0, s1, s2, s3] M Z ↔ Run d 1 0 [some s0, some s1, some s2, some s3] [] M 0 0 Z := Call_iff (Nat.lt_of_lt_of_le (Nat.lt_succ_self 1) (Nat.le_of_ble_eq_true rfl)) (Nat.le_of_ble_eq_true rfl)
/-! 2: X0_told (I)I -/
theorem gd2 {pc : Nat} {r : Except _ _} (h : decode cX0_told pc = r) : decode (gby 2) pc = r := h
theorem z2_0 : Run d 2 0 [a0, some (.int x)] [] M 0 0 Z ↔ Run d 2 1 [a0, some (.int x)] [.int x] M 0 0 Z := R_local (gd2 dX0_told_0) rfl rfl rfl
theorem z2_1 : Run d 2 1 [a0, a1] [.int x] M 0 0 Z ↔ (x = 0 → Run d 2 52 [a0, a1] [] M 0 0 Z) ∧ (¬ x = 0 → ((x = 1 → Run d 2 57 [a0, a1] [] M 0 0 Z) ∧ (¬ x = 1 → ((x = 6 → Run d 2 62 [a0, a1] [] M 0 0 Z) ∧ (¬ x = 6 → ((x = 7 → Run d 2 67 [a0, a1] [] M 0 0 Z) ∧ (¬ x = 7 → ((x = 8 → Run d 2 74 [a0, a1] [] M 0 0 Z) ∧ (¬ x = 8 → (Run d 2 81 [a0, a1] [] M 0 0 Z)))))))))) := R_table (tbl := [(0, 52), (1, 57), (6, 62), (7, 67), (8, 74)]) (dt := 81) (gd2 dX0_told_1) (by decide) (by decide) (by decide)
theorem z2_52 : Run d 2 52 [some (.ref o), a1] [] M 0 0 Z ↔ Run d 2 53 [some (.ref o), a1] [.ref o] M 0 0 Z := R_local (gd2 dX0_told_52) rfl rfl rfl
theorem z2_53 : Run d 2 53 [a0, a1] [.ref o] M 0 0 Z ↔ gObj M o 0 ∧ Run d 2 56 [a0, a1] [.int (M.1 o 0)] M 0 0 Z := R_getI (gd2 dX0_told_53) rfl gf_0_19 rfl
theorem z2_56 : Run d 2 56 [a0, a1] [.int x] M 0 0 Z ↔ Z (some (.int x)) M := R_iret (gd2 dX0_told_56) rfl
theorem z2_57 : Run d 2 57 [some (.ref o), a1] [] M 0 0 Z ↔ Run d 2 58 [some (.ref o), a1] [.ref o] M 0 0 Z := R_local (gd2 dX0_told_57) rfl rfl rfl
theorem z2_58 : Run d 2 58 [a0, a1] [.ref o] M 0 0 Z ↔ gObj M o 0 ∧ Run d 2 61 [a0, a1] [.int (M.1 o 1)] M 0 0 Z := R_getI (gd2 dX0_told_58) rfl gf_0_22 rfl
theorem z2_61 : Run d 2 61 [a0, a1] [.int x] M 0 0 Z ↔ Z (some (.int x)) M := R_iret (gd2 dX0_told_61) rfl
theorem z2_62 : Run d 2 62 [some (.ref o), a1] [] M 0 0 Z ↔ Run d 2 63 [some (.ref o), a1] [.ref o] M 0 0 Z := R_local (gd2 dX0_told_62) rfl rfl rfl
theorem z2_63 : Run d 2 63 [a0, a1] [.ref o] M 0 0 Z ↔ gObj M o 0 ∧ Run d 2 66 [a0, a1] [.int (M.1 o 3)] M 0 0 Z := R_getI (gd2 dX0_told_63) rfl gf_0_15 rfl
theorem z2_66 : Run d 2 66 [a0, a1] [.int x] M 0 0 Z ↔ Z (some (.int x)) M := R_iret (gd2 dX0_told_66) rfl
theorem z2_67 : Run d 2 67 [some (.ref o), a1] [] M 0 0 Z ↔ Run d 2 68 [some (.ref o), a1] [.ref o] M 0 0 Z := R_local (gd2 dX0_told_67) rfl rfl rfl
theorem z2_68 : Run d 2 68 [a0, a1] [.ref o] M 0 0 Z ↔ gObj M o 0 ∧ Run d 2 71 [a0, a1] [va_rf (M.2.1 o 2)] M 0 0 Z := R_getR (gd2 dX0_told_68) rfl gf_0_9 rfl
theorem z2_71 : Run d 2 71 [a0, a1] [s0] M 0 0 Z ↔ Run d 2 72 [a0, a1] [.int 4, s0] M 0 0 Z := R_iconst (gd2 dX0_told_71) (by decide)
theorem z2_72 : Run d 2 72 [a0, a1] [.int x, .ref o] M 0 0 Z ↔ gAr M o 0 ∧ gIn x (gLen M o) = true ∧ Run d 2 73 [a0, a1] [.int (M.1 o x.toNatClampNeg)] M 0 0 Z := R_iald (gd2 dX0_told_72)
theorem z2_73 : Run d 2 73 [a0, a1] [.int x] M 0 0 Z ↔ Z (some (.int x)) M := R_iret (gd2 dX0_told_73) rfl
theorem z2_74 : Run d 2 74 [some (.ref o), a1] [] M 0 0 Z ↔ Run d 2 75 [some (.ref o), a1] [.ref o] M 0 0 Z := R_local (gd2 dX0_told_74) rfl rfl rfl
theorem z2_75 : Run d 2 75 [a0, a1] [.ref o] M 0 0 Z ↔ gObj M o 0 ∧ Run d 2 78 [a0, a1] [va_rf (M.2.1 o 2)] M 0 0 Z := R_getR (gd2 dX0_told_75) rfl gf_0_9 rfl
theorem z2_78 : Run d 2 78 [a0, a1] [s0] M 0 0 Z ↔ Run d 2 79 [a0, a1] [.int 5, s0] M 0 0 Z := R_iconst (gd2 dX0_told_78) (by decide)
theorem z2_79 : Run d 2 79 [a0, a1] [.int x, .ref o] M 0 0 Z ↔ gAr M o 0 ∧ gIn x (gLen M o) = true ∧ Run d 2 80 [a0, a1] [.int (M.1 o x.toNatClampNeg)] M 0 0 Z := R_iald (gd2 dX0_told_79)
theorem z2_80 : Run d 2 80 [a0, a1] [.int x] M 0 0 Z ↔ Z (some (.int x)) M := R_iret (gd2 dX0_told_80) rfl
theorem z2_81 : Run d 2 81 [a0, some (.int x)] [] M 0 0 Z ↔ Run d 2 82 [a0, some (.int x)] [.int x] M 0 0 Z := R_local (gd2 dX0_told_81) rfl rfl rfl
theorem z2_82 : Run d 2 82 [a0, a1] [s0] M 0 0 Z ↔ Run d 2 83 [a0, a1] [.int 2, s0] M 0 0 Z := R_iconst (gd2 dX0_told_82) (by decide)
theorem z2_83 : Run d 2 83 [a0, a1] [.int y, .int x] M 0 0 Z ↔ Run d 2 84 [a0, a1] [.int (x - y)] M 0 0 Z := R_arith (gd2 dX0_told_83) rfl
theorem z2_84 : Run d 2 84 [a0, a1] [s0] M 0 0 Z ↔ Run d 2 85 [a0, a1] [.int 4, s0] M 0 0 Z := R_iconst (gd2 dX0_told_84) (by decide)
theorem z2_85 : Run d 2 85 [a0, a1] [s1, s0] M 0 0 Z ↔ Call d 110 [s0, s1] M (fun r M1 => Run d 2 88 [a0, a1] (r.toList ++ []) M1 0 0 Z) := R_call (gd2 dX0_told_85) rfl rfl rfl rfl rfl rfl gc_0_25 rfl (by decide) (Nat.le_of_ble_eq_true rfl) (Nat.le_of_ble_eq_true rfl) rfl rfl rfl (Nat.le_of_ble_eq_true rfl) (Nat.le_of_ble_eq_true rfl)
theorem z2_88 : Run d 2 88 [a0, a1] [.int x] M 0 0 Z ↔ (x = 0 → Run d 2 102 [a0, a1] [] M 0 0 Z) ∧ (¬ (x = 0) → Run d 2 91 [a0, a1] [] M 0 0 Z) := R_if (gd2 dX0_told_88) (show gTgt 88 14 = some 102 by decide) gIf_eq
theorem z2_91 : Run d 2 91 [some (.ref o), a1] [] M 0 0 Z ↔ Run d 2 92 [some (.ref o), a1] [.ref o] M 0 0 Z := R_local (gd2 dX0_told_91) rfl rfl rfl
theorem z2_92 : Run d 2 92 [a0, a1] [.ref o] M 0 0 Z ↔ gObj M o 0 ∧ Run d 2 95 [a0, a1] [va_rf (M.2.1 o 2)] M 0 0 Z := R_getR (gd2 dX0_told_92) rfl gf_0_9 rfl
theorem z2_95 : Run d 2 95 [a0, some (.int x)] [s0] M 0 0 Z ↔ Run d 2 96 [a0, some (.int x)] [.int x, s0] M 0 0 Z := R_local (gd2 dX0_told_95) rfl rfl rfl
theorem z2_96 : Run d 2 96 [a0, a1] [s1, s0] M 0 0 Z ↔ Run d 2 97 [a0, a1] [.int 2, s1, s0] M 0 0 Z := R_iconst (gd2 dX0_told_96) (by decide)
theorem z2_97 : Run d 2 97 [a0, a1] [.int y, .int x, s0] M 0 0 Z ↔ Run d 2 98 [a0, a1] [.int (x - y), s0] M 0 0 Z := R_arith (gd2 dX0_told_97) rfl
theorem z2_98 : Run d 2 98 [a0, a1] [.int x, .ref o] M 0 0 Z ↔ gAr M o 0 ∧ gIn x (gLen M o) = true ∧ Run d 2 99 [a0, a1] [.int (M.1 o x.toNatClampNeg)] M 0 0 Z := R_iald (gd2 dX0_told_98)
theorem z2_99 : Run d 2 99 [a0, a1] [s0] M 0 0 Z ↔ Run d 2 103 [a0, a1] [s0] M 0 0 Z := R_goto (gd2 dX0_told_99) (show gTgt 99 4 = some 103 by decide)
theorem z2_102 : Run d 2 102 [a0, a1] [] M 0 0 Z ↔ Run d 2 103 [a0, a1] [.int (-1)] M 0 0 Z := R_iconst (gd2 dX0_told_102) (by decide)
theorem z2_103 : Run d 2 103 [a0, a1] [.int x] M 0 0 Z ↔ Z (some (.int x)) M := R_iret (gd2 dX0_told_103) rfl
theorem e2 : Call (d + 1) 2 [s0, s1] M Z ↔ Run d 2 0 [some s0, some s1] [] M 0 0 Z := Call_iff (Nat.lt_of_lt_of_le (Nat.lt_succ_self 2) (Nat.le_of_ble_eq_true rfl)) (Nat.le_of_ble_eq_true rfl)
/-! 3: X1_init ()V -/
theorem gd3 {pc : Nat} {r : Except _ _} (h : decode cX1_init pc = r) : decode (gby 3) pc = r := h
theorem z3_0 : Run d 3 0 [some (.ref o)] [] M 0 0 Z ↔ Run d 3 1 [some (.ref o)] [.ref o] M 0 0 Z := R_local (gd3 dX1_init_0) rfl rfl rfl
theorem z3_1 : Run d 3 1 [a0] [.ref o] M 0 0 Z ↔ Run d 3 4 [a0] [] M 0 0 Z := R_prim (gd3 dX1_init_1) rfl rfl rfl rfl rfl rfl gc_1_3 rfl (by decide) rfl (Nat.le_of_ble_eq_true rfl)
theorem z3_4 : Run d 3 4 [some (.ref o)] [] M 0 0 Z ↔ Run d 3 5 [some (.ref o)] [.ref o] M 0 0 Z := R_local (gd3 dX1_init_4) rfl rfl rfl
theorem z3_5 : Run d 3 5 [a0] [s0] M 0 0 Z ↔ Run d 3 8 [a0] [.ref M.2.2.length, s0] (gNew M (.inl 4)) 1 9 Z := R_new2 (gd3 dX1_init_5) rfl (ci := 4) rfl rfl (by decide)
theorem z3_8 : Run d 3 8 [a0] [.ref o, s0] M 1 9 Z ↔ Run d 3 9 [a0] [.ref o, .ref o, s0] M 1 9 Z := R_arith (gd3 dX1_init_8) rfl
theorem z3_9 : Run d 3 9 [a0] [.ref b, s1, s0] M 1 9 Z ↔ Call d 39 [.ref b] M (fun r M1 => Run d 3 12 [a0] (r.toList ++ [s1, s0]) M1 9 3209 Z) := R_call (gd3 dX1_init_9) rfl rfl rfl rfl rfl rfl gc_1_11 rfl (by decide) (Nat.le_of_ble_eq_true rfl) (Nat.le_of_ble_eq_true rfl) rfl rfl rfl (Nat.le_of_ble_eq_true rfl) (Nat.le_of_ble_eq_true rfl)
theorem z3_12 : Run d 3 12 [a0] [v, .ref o] M 9 3209 Z ↔ gObj M o 1 ∧ gisRef v = true ∧ Run d 3 15 [a0] [] (gsR M o 0 (gU v)) 9 3209 Z := R_putR (gd3 dX1_init_12) rfl gf_1_12 (Or.inr ⟨rfl, rfl⟩) rfl
theorem z3_15 : Run d 3 15 [some (.ref o)] [] M 9 3209 Z ↔ Run d 3 16 [some (.ref o)] [.ref o] M 9 3209 Z := R_local (gd3 dX1_init_15) rfl rfl rfl
theorem z3_16 : Run d 3 16 [a0] [s0] M 9 3209 Z ↔ Run d 3 18 [a0] [.int 8, s0] M 9 3209 Z := R_bipush (gd3 dX1_init_16) (by decide)
theorem z3_18 : Run d 3 18 [a0] [.int 8, s0] M 9 3209 Z ↔ Run d 3 20 [a0] [.ref M.2.2.length, s0] (gNew M (.inr (0, 8))) 10 3217 Z := R_newa2 (gd3 dX1_init_18) (t := 0) (by decide) (n := 8) (by decide) (by decide)
theorem z3_20 : Run d 3 20 [a0] [v, .ref o] M 10 3217 Z ↔ gObj M o 1 ∧ gisRef v = true ∧ Run d 3 23 [a0] [] (gsR M o 1 (gU v)) 10 3217 Z := R_putR (gd3 dX1_init_20) rfl gf_1_18 (Or.inr ⟨rfl, rfl⟩) rfl
theorem z3_23 : Run d 3 23 [some (.ref o)] [] M 10 3217 Z ↔ Run d 3 24 [some (.ref o)] [.ref o] M 10 3217 Z := R_local (gd3 dX1_init_23) rfl rfl rfl
theorem z3_24 : Run d 3 24 [a0] [s0] M 10 3217 Z ↔ Run d 3 25 [a0] [.int 0, s0] M 10 3217 Z := R_iconst (gd3 dX1_init_24) (by decide)
theorem z3_25 : Run d 3 25 [a0] [.int x, .ref o] M 10 3217 Z ↔ gObj M o 1 ∧ Run d 3 28 [a0] [] (gsI M o 2 x) 10 3217 Z := R_putI (gd3 dX1_init_25) rfl gf_1_22 (Or.inl rfl) rfl
theorem z3_28 : Run d 3 28 [some (.ref o)] [] M 10 3217 Z ↔ Run d 3 29 [some (.ref o)] [.ref o] M 10 3217 Z := R_local (gd3 dX1_init_28) rfl rfl rfl
theorem z3_29 : Run d 3 29 [a0] [s0] M 10 3217 Z ↔ Run d 3 30 [a0] [.int 1, s0] M 10 3217 Z := R_iconst (gd3 dX1_init_29) (by decide)
theorem z3_30 : Run d 3 30 [a0] [.int x, .ref o] M 10 3217 Z ↔ gObj M o 1 ∧ Run d 3 33 [a0] [] (gsI M o 3 x) 10 3217 Z := R_putI (gd3 dX1_init_30) rfl gf_1_26 (Or.inl rfl) rfl
theorem z3_33 : Run d 3 33 [some (.ref o)] [] M 10 3217 Z ↔ Run d 3 34 [some (.ref o)] [.ref o] M 10 3217 Z := R_local (gd3 dX1_init_33) rfl rfl rfl
theorem z3_34 : Run d 3 34 [a0] [s0] M 10 3217 Z ↔ Run d 3 35 [a0] [.int 0, s0] M 10 3217 Z := R_iconst (gd3 dX1_init_34) (by decide)
theorem z3_35 : Run d 3 35 [a0] [.int x, .ref o] M 10 3217 Z ↔ gObj M o 1 ∧ Run d 3 38 [a0] [] (gsI M o 4 x) 10 3217 Z := R_putI (gd3 dX1_init_35) rfl gf_1_29 (Or.inl rfl) rfl
theorem z3_38 : Run d 3 38 [some (.ref o)] [] M 10 3217 Z ↔ Run d 3 39 [some (.ref o)] [.ref o] M 10 3217 Z := R_local (gd3 dX1_init_38) rfl rfl rfl
theorem z3_39 : Run d 3 39 [a0] [s0] M 10 3217 Z ↔ Run d 3 40 [a0] [.int 0, s0] M 10 3217 Z := R_iconst (gd3 dX1_init_39) (by decide)
theorem z3_40 : Run d 3 40 [a0] [.int x, .ref o] M 10 3217 Z ↔ gObj M o 1 ∧ Run d 3 43 [a0] [] (gsI M o 5 x) 10 3217 Z := R_putI (gd3 dX1_init_40) rfl gf_1_32 (Or.inl rfl) rfl
theorem z3_43 : Run d 3 43 [some (.ref o)] [] M 10 3217 Z ↔ Run d 3 44 [some (.ref o)] [.ref o] M 10 3217 Z := R_local (gd3 dX1_init_43) rfl rfl rfl
theorem z3_44 : Run d 3 44 [a0] [s0] M 10 3217 Z ↔ Run d 3 45 [a0] [.int 0, s0] M 10 3217 Z := R_iconst (gd3 dX1_init_44) (by decide)
theorem z3_45 : Run d 3 45 [a0] [.int x, .ref o] M 10 3217 Z ↔ gObj M o 1 ∧ Run d 3 48 [a0] [] (gsI M o 6 x) 10 3217 Z := R_putI (gd3 dX1_init_45) rfl gf_1_35 (Or.inl rfl) rfl
theorem z3_48 : Run d 3 48 [some (.ref o)] [] M 10 3217 Z ↔ Run d 3 49 [some (.ref o)] [.ref o] M 10 3217 Z := R_local (gd3 dX1_init_48) rfl rfl rfl
theorem z3_49 : Run d 3 49 [a0] [s0] M 10 3217 Z ↔ Run d 3 50 [a0] [.int 1, s0] M 10 3217 Z := R_iconst (gd3 dX1_init_49) (by decide)
theorem z3_50 : Run d 3 50 [a0] [.int x, .ref o] M 10 3217 Z ↔ gObj M o 1 ∧ Run d 3 53 [a0] [] (gsI M o 7 x) 10 3217 Z := R_putI (gd3 dX1_init_50) rfl gf_1_38 (Or.inl rfl) rfl
theorem z3_53 : Run d 3 53 [some (.ref o)] [] M 10 3217 Z ↔ Run d 3 54 [some (.ref o)] [.ref o] M 10 3217 Z := R_local (gd3 dX1_init_53) rfl rfl rfl
theorem z3_54 : Run d 3 54 [a0] [s0] M 10 3217 Z ↔ Run d 3 55 [a0] [.int 0, s0] M 10 3217 Z := R_iconst (gd3 dX1_init_54) (by decide)
theorem z3_55 : Run d 3 55 [a0] [.int x, .ref o] M 10 3217 Z ↔ gObj M o 1 ∧ Run d 3 58 [a0] [] (gsI M o 8 x) 10 3217 Z := R_putI (gd3 dX1_init_55) rfl gf_1_41 (Or.inl rfl) rfl
theorem z3_58 : Run d 3 58 [some (.ref o)] [] M 10 3217 Z ↔ Run d 3 59 [some (.ref o)] [.ref o] M 10 3217 Z := R_local (gd3 dX1_init_58) rfl rfl rfl
theorem z3_59 : Run d 3 59 [a0] [s0] M 10 3217 Z ↔ Run d 3 60 [a0] [.int 0, s0] M 10 3217 Z := R_iconst (gd3 dX1_init_59) (by decide)
theorem z3_60 : Run d 3 60 [a0] [.int x, .ref o] M 10 3217 Z ↔ gObj M o 1 ∧ Run d 3 63 [a0] [] (gsI M o 9 x) 10 3217 Z := R_putI (gd3 dX1_init_60) rfl gf_1_44 (Or.inl rfl) rfl
theorem z3_63 : Run d 3 63 [some (.ref o)] [] M 10 3217 Z ↔ Run d 3 64 [some (.ref o)] [.ref o] M 10 3217 Z := R_local (gd3 dX1_init_63) rfl rfl rfl
theorem z3_64 : Run d 3 64 [a0] [s0] M 10 3217 Z ↔ Run d 3 65 [a0] [.int 0, s0] M 10 3217 Z := R_iconst (gd3 dX1_init_64) (by decide)
theorem z3_65 : Run d 3 65 [a0] [.int x, .ref o] M 10 3217 Z ↔ gObj M o 1 ∧ Run d 3 68 [a0] [] (gsI M o 10 x) 10 3217 Z := R_putI (gd3 dX1_init_65) rfl gf_1_47 (Or.inl rfl) rfl
theorem z3_68 : Run d 3 68 [some (.ref o)] [] M 10 3217 Z ↔ Run d 3 69 [some (.ref o)] [.ref o] M 10 3217 Z := R_local (gd3 dX1_init_68) rfl rfl rfl
theorem z3_69 : Run d 3 69 [a0] [s0] M 10 3217 Z ↔ Run d 3 70 [a0] [.int 0, s0] M 10 3217 Z := R_iconst (gd3 dX1_init_69) (by decide)
theorem z3_70 : Run d 3 70 [a0] [.int x, .ref o] M 10 3217 Z ↔ gObj M o 1 ∧ (x = 0 ∨ x = 1) ∧ Run d 3 73 [a0] [] (gsI M o 11 x) 10 3217 Z := R_putZ (gd3 dX1_init_70) rfl gf_1_50 (Or.inl rfl) rfl
theorem z3_73 : Run d 3 73 [some (.ref o)] [] M 10 3217 Z ↔ Run d 3 74 [some (.ref o)] [.ref o] M 10 3217 Z := R_local (gd3 dX1_init_73) rfl rfl rfl
theorem z3_74 : Run d 3 74 [a0] [s0] M 10 3217 Z ↔ Run d 3 75 [a0] [.int (-1), s0] M 10 3217 Z := R_iconst (gd3 dX1_init_74) (by decide)
theorem z3_75 : Run d 3 75 [a0] [.int x, .ref o] M 10 3217 Z ↔ gObj M o 1 ∧ Run d 3 78 [a0] [] (gsI M o 12 x) 10 3217 Z := R_putI (gd3 dX1_init_75) rfl gf_1_54 (Or.inl rfl) rfl
theorem z3_78 : Run d 3 78 [some (.ref o)] [] M 10 3217 Z ↔ Run d 3 79 [some (.ref o)] [.ref o] M 10 3217 Z := R_local (gd3 dX1_init_78) rfl rfl rfl
theorem z3_79 : Run d 3 79 [a0] [s0] M 10 3217 Z ↔ Run d 3 80 [a0] [.int 0, s0] M 10 3217 Z := R_iconst (gd3 dX1_init_79) (by decide)
theorem z3_80 : Run d 3 80 [a0] [.int x, .ref o] M 10 3217 Z ↔ gObj M o 1 ∧ Run d 3 83 [a0] [] (gsI M o 13 x) 10 3217 Z := R_putI (gd3 dX1_init_80) rfl gf_1_57 (Or.inl rfl) rfl
theorem z3_83 : Run d 3 83 [some (.ref o)] [] M 10 3217 Z ↔ Run d 3 84 [some (.ref o)] [.ref o] M 10 3217 Z := R_local (gd3 dX1_init_83) rfl rfl rfl
theorem z3_84 : Run d 3 84 [a0] [s0] M 10 3217 Z ↔ Run d 3 85 [a0] [.int 0, s0] M 10 3217 Z := R_iconst (gd3 dX1_init_84) (by decide)
theorem z3_85 : Run d 3 85 [a0] [.int x, .ref o] M 10 3217 Z ↔ gObj M o 1 ∧ Run d 3 88 [a0] [] (gsI M o 14 x) 10 3217 Z := R_putI (gd3 dX1_init_85) rfl gf_1_60 (Or.inl rfl) rfl
theorem z3_88 : Run d 3 88 [some (.ref o)] [] M 10 3217 Z ↔ Run d 3 89 [some (.ref o)] [.ref o] M 10 3217 Z := R_local (gd3 dX1_init_88) rfl rfl rfl
theorem z3_89 : Run d 3 89 [a0] [s0] M 10 3217 Z ↔ Run d 3 90 [a0] [.int (-1), s0] M 10 3217 Z := R_iconst (gd3 dX1_init_89) (by decide)
theorem z3_90 : Run d 3 90 [a0] [.int x, .ref o] M 10 3217 Z ↔ gObj M o 1 ∧ Run d 3 93 [a0] [] (gsI M o 15 x) 10 3217 Z := R_putI (gd3 dX1_init_90) rfl gf_1_63 (Or.inl rfl) rfl
theorem z3_93 : Run d 3 93 [a0] [] M 10 3217 Z ↔ Z none M := R_vret (gd3 dX1_init_93) rfl
theorem e3 : Call (d + 1) 3 [s0] M Z ↔ Run d 3 0 [some s0] [] M 0 0 Z := Call_iff (Nat.lt_of_lt_of_le (Nat.lt_succ_self 3) (Nat.le_of_ble_eq_true rfl)) (Nat.le_of_ble_eq_true rfl)
/-! 4: X1_begin ([IIII)V -/
theorem gd4 {pc : Nat} {r : Except _ _} (h : decode cX1_begin pc = r) : decode (gby 4) pc = r := h
theorem z4_0 : Run d 4 0 [a0, a1, a2, a3, a4, a5, a6] [] M 0 0 Z ↔ Run d 4 1 [a0, a1, a2, a3, a4, a5, a6] [.int 0] M 0 0 Z := R_iconst (gd4 dX1_begin_0) (by decide)
theorem z4_1 : Run d 4 1 [a0, a1, a2, a3, a4, a5, a6] [.int x] M 0 0 Z ↔ Run d 4 3 [a0, a1, a2, a3, a4, some (.int x), a6] [] M 0 0 Z := R_local (gd4 dX1_begin_1) rfl rfl rfl
theorem z4_3 : Run d 4 3 [a0, a1, a2, a3, a4, some (.int x), a6] [] M 0 0 Z ↔ Run d 4 5 [a0, a1, a2, a3, a4, some (.int x), a6] [.int x] M 0 0 Z := R_local (gd4 dX1_begin_3) rfl rfl rfl
theorem z4_5 : Run d 4 5 [a0, a1, a2, a3, a4, a5, a6] [s0] M 0 0 Z ↔ Run d 4 7 [a0, a1, a2, a3, a4, a5, a6] [.int 8, s0] M 0 0 Z := R_bipush (gd4 dX1_begin_5) (by decide)
theorem z4_7 : Run d 4 7 [a0, a1, a2, a3, a4, a5, a6] [.int y, .int x] M 0 0 Z ↔ (y ≤ x → Run d 4 50 [a0, a1, a2, a3, a4, a5, a6] [] M 0 0 Z) ∧ (¬ (y ≤ x) → Run d 4 10 [a0, a1, a2, a3, a4, a5, a6] [] M 0 0 Z) := R_icmp (gd4 dX1_begin_7) (show gTgt 7 43 = some 50 by decide) gIf_ge
theorem z4_10 : Run d 4 10 [a0, a1, some (.int x), a3, a4, a5, a6] [] M 0 0 Z ↔ Run d 4 11 [a0, a1, some (.int x), a3, a4, a5, a6] [.int x] M 0 0 Z := R_local (gd4 dX1_begin_10) rfl rfl rfl
theorem z4_11 : Run d 4 11 [a0, a1, a2, a3, a4, a5, a6] [s0] M 0 0 Z ↔ Run d 4 13 [a0, a1, a2, a3, a4, a5, a6] [.int 8, s0] M 0 0 Z := R_bipush (gd4 dX1_begin_11) (by decide)
theorem z4_13 : Run d 4 13 [a0, a1, a2, a3, a4, a5, a6] [.int y, .int x] M 0 0 Z ↔ Run d 4 14 [a0, a1, a2, a3, a4, a5, a6] [.int (x * y)] M 0 0 Z := R_arith (gd4 dX1_begin_13) rfl
theorem z4_14 : Run d 4 14 [a0, a1, a2, a3, a4, some (.int x), a6] [s0] M 0 0 Z ↔ Run d 4 16 [a0, a1, a2, a3, a4, some (.int x), a6] [.int x, s0] M 0 0 Z := R_local (gd4 dX1_begin_14) rfl rfl rfl
theorem z4_16 : Run d 4 16 [a0, a1, a2, a3, a4, a5, a6] [.int y, .int x] M 0 0 Z ↔ Run d 4 17 [a0, a1, a2, a3, a4, a5, a6] [.int (x + y)] M 0 0 Z := R_arith (gd4 dX1_begin_16) rfl
theorem z4_17 : Run d 4 17 [a0, a1, a2, a3, a4, a5, a6] [.int x] M 0 0 Z ↔ Run d 4 19 [a0, a1, a2, a3, a4, a5, some (.int x)] [] M 0 0 Z := R_local (gd4 dX1_begin_17) rfl rfl rfl
theorem z4_19 : Run d 4 19 [some (.ref o), a1, a2, a3, a4, a5, a6] [] M 0 0 Z ↔ Run d 4 20 [some (.ref o), a1, a2, a3, a4, a5, a6] [.ref o] M 0 0 Z := R_local (gd4 dX1_begin_19) rfl rfl rfl
theorem z4_20 : Run d 4 20 [a0, a1, a2, a3, a4, a5, a6] [.ref o] M 0 0 Z ↔ gObj M o 1 ∧ Run d 4 23 [a0, a1, a2, a3, a4, a5, a6] [va_rf (M.2.1 o 1)] M 0 0 Z := R_getR (gd4 dX1_begin_20) rfl gf_1_18 rfl
theorem z4_23 : Run d 4 23 [a0, a1, a2, a3, a4, some (.int x), a6] [s0] M 0 0 Z ↔ Run d 4 25 [a0, a1, a2, a3, a4, some (.int x), a6] [.int x, s0] M 0 0 Z := R_local (gd4 dX1_begin_23) rfl rfl rfl
theorem z4_25 : Run d 4 25 [a0, a1, a2, a3, a4, a5, some (.int x)] [s1, s0] M 0 0 Z ↔ Run d 4 27 [a0, a1, a2, a3, a4, a5, some (.int x)] [.int x, s1, s0] M 0 0 Z := R_local (gd4 dX1_begin_25) rfl rfl rfl
theorem z4_27 : Run d 4 27 [a0, some (.ref o), a2, a3, a4, a5, a6] [s2, s1, s0] M 0 0 Z ↔ Run d 4 28 [a0, some (.ref o), a2, a3, a4, a5, a6] [.ref o, s2, s1, s0] M 0 0 Z := R_local (gd4 dX1_begin_27) rfl rfl rfl
theorem z4_27n : Run d 4 27 [a0, some .null, a2, a3, a4, a5, a6] [s2, s1, s0] M 0 0 Z ↔ Run d 4 28 [a0, some .null, a2, a3, a4, a5, a6] [.null, s2, s1, s0] M 0 0 Z := R_local (gd4 dX1_begin_27) rfl rfl rfl
theorem z4_28 : Run d 4 28 [a0, a1, a2, a3, a4, a5, a6] [.ref o, s2, s1, s0] M 0 0 Z ↔ (gTy M o).isSome = true ∧ Run d 4 29 [a0, a1, a2, a3, a4, a5, a6] [.int (nI (gLen M o)), s2, s1, s0] M 0 0 Z := R_alen (gd4 dX1_begin_28)
theorem z4_29 : Run d 4 29 [a0, a1, a2, a3, a4, a5, a6] [s3, s2, s1, s0] M 0 0 Z ↔ Call d 110 [s2, s3] M (fun r M1 => Run d 4 32 [a0, a1, a2, a3, a4, a5, a6] (r.toList ++ [s1, s0]) M1 0 0 Z) := R_call (gd4 dX1_begin_29) rfl rfl rfl rfl rfl rfl gc_1_66 rfl (by decide) (Nat.le_of_ble_eq_true rfl) (Nat.le_of_ble_eq_true rfl) rfl rfl rfl (Nat.le_of_ble_eq_true rfl) (Nat.le_of_ble_eq_true rfl)
theorem z4_32 : Run d 4 32 [a0, a1, a2, a3, a4, a5, a6] [.int x, s1, s0] M 0 0 Z ↔ (x = 0 → Run d 4 42 [a0, a1, a2, a3, a4, a5, a6] [s1, s0] M 0 0 Z) ∧ (¬ (x = 0) → Run d 4 35 [a0, a1, a2, a3, a4, a5, a6] [s1, s0] M 0 0 Z) := R_if (gd4 dX1_begin_32) (show gTgt 32 10 = some 42 by decide) gIf_eq
theorem z4_35 : Run d 4 35 [a0, some (.ref o), a2, a3, a4, a5, a6] [s1, s0] M 0 0 Z ↔ Run d 4 36 [a0, some (.ref o), a2, a3, a4, a5, a6] [.ref o, s1, s0] M 0 0 Z := R_local (gd4 dX1_begin_35) rfl rfl rfl
theorem z4_35n : Run d 4 35 [a0, some .null, a2, a3, a4, a5, a6] [s1, s0] M 0 0 Z ↔ Run d 4 36 [a0, some .null, a2, a3, a4, a5, a6] [.null, s1, s0] M 0 0 Z := R_local (gd4 dX1_begin_35) rfl rfl rfl
theorem z4_36 : Run d 4 36 [a0, a1, a2, a3, a4, a5, some (.int x)] [s2, s1, s0] M 0 0 Z ↔ Run d 4 38 [a0, a1, a2, a3, a4, a5, some (.int x)] [.int x, s2, s1, s0] M 0 0 Z := R_local (gd4 dX1_begin_36) rfl rfl rfl
theorem z4_38 : Run d 4 38 [a0, a1, a2, a3, a4, a5, a6] [.int x, .ref o, s1, s0] M 0 0 Z ↔ gAr M o 0 ∧ gIn x (gLen M o) = true ∧ Run d 4 39 [a0, a1, a2, a3, a4, a5, a6] [.int (M.1 o x.toNatClampNeg), s1, s0] M 0 0 Z := R_iald (gd4 dX1_begin_38)
theorem z4_39 : Run d 4 39 [a0, a1, a2, a3, a4, a5, a6] [s2, s1, s0] M 0 0 Z ↔ Run d 4 43 [a0, a1, a2, a3, a4, a5, a6] [s2, s1, s0] M 0 0 Z := R_goto (gd4 dX1_begin_39) (show gTgt 39 4 = some 43 by decide)
theorem z4_42 : Run d 4 42 [a0, a1, a2, a3, a4, a5, a6] [s1, s0] M 0 0 Z ↔ Run d 4 43 [a0, a1, a2, a3, a4, a5, a6] [.int 0, s1, s0] M 0 0 Z := R_iconst (gd4 dX1_begin_42) (by decide)
theorem z4_43 : Run d 4 43 [a0, a1, a2, a3, a4, a5, a6] [.int y, .int x, .ref o] M 0 0 Z ↔ gAr M o 0 ∧ gIn x (gLen M o) = true ∧ Run d 4 44 [a0, a1, a2, a3, a4, a5, a6] [] (gsI M o x.toNatClampNeg y) 0 0 Z := R_iast (gd4 dX1_begin_43)
theorem z4_44 : Run d 4 44 [a0, a1, a2, a3, a4, some (.int x), a6] [] M 0 0 Z ↔ Run d 4 47 [a0, a1, a2, a3, a4, some (.int (x + 1)), a6] [] M 0 0 Z := R_iinc (gd4 dX1_begin_44) (by decide) rfl rfl
theorem z4_47 : Run d 4 47 [a0, a1, a2, a3, a4, a5, a6] [] M 0 0 Z ↔ Run d 4 3 [a0, a1, a2, a3, a4, a5, a6] [] M 0 0 Z := R_goto (gd4 dX1_begin_47) (show gTgt 47 (-44) = some 3 by decide)
theorem z4_50 : Run d 4 50 [some (.ref o), a1, a2, a3, a4, a5, a6] [] M 0 0 Z ↔ Run d 4 51 [some (.ref o), a1, a2, a3, a4, a5, a6] [.ref o] M 0 0 Z := R_local (gd4 dX1_begin_50) rfl rfl rfl
theorem z4_51 : Run d 4 51 [a0, a1, a2, some (.int x), a4, a5, a6] [s0] M 0 0 Z ↔ Run d 4 52 [a0, a1, a2, some (.int x), a4, a5, a6] [.int x, s0] M 0 0 Z := R_local (gd4 dX1_begin_51) rfl rfl rfl
theorem z4_52 : Run d 4 52 [a0, a1, a2, a3, a4, a5, a6] [.int x, .ref o] M 0 0 Z ↔ gObj M o 1 ∧ Run d 4 55 [a0, a1, a2, a3, a4, a5, a6] [] (gsI M o 2 x) 0 0 Z := R_putI (gd4 dX1_begin_52) rfl gf_1_22 (Or.inl rfl) rfl
theorem z4_55 : Run d 4 55 [some (.ref o), a1, a2, a3, a4, a5, a6] [] M 0 0 Z ↔ Run d 4 56 [some (.ref o), a1, a2, a3, a4, a5, a6] [.ref o] M 0 0 Z := R_local (gd4 dX1_begin_55) rfl rfl rfl
theorem z4_56 : Run d 4 56 [a0, a1, a2, a3, some (.int x), a5, a6] [s0] M 0 0 Z ↔ Run d 4 58 [a0, a1, a2, a3, some (.int x), a5, a6] [.int x, s0] M 0 0 Z := R_local (gd4 dX1_begin_56) rfl rfl rfl
theorem z4_58 : Run d 4 58 [a0, a1, a2, a3, a4, a5, a6] [.int x, .ref o] M 0 0 Z ↔ gObj M o 1 ∧ Run d 4 61 [a0, a1, a2, a3, a4, a5, a6] [] (gsI M o 3 x) 0 0 Z := R_putI (gd4 dX1_begin_58) rfl gf_1_26 (Or.inl rfl) rfl
theorem z4_61 : Run d 4 61 [some (.ref o), a1, a2, a3, a4, a5, a6] [] M 0 0 Z ↔ Run d 4 62 [some (.ref o), a1, a2, a3, a4, a5, a6] [.ref o] M 0 0 Z := R_local (gd4 dX1_begin_61) rfl rfl rfl
theorem z4_62 : Run d 4 62 [a0, a1, a2, a3, a4, a5, a6] [s0] M 0 0 Z ↔ Run d 4 63 [a0, a1, a2, a3, a4, a5, a6] [.int 0, s0] M 0 0 Z := R_iconst (gd4 dX1_begin_62) (by decide)
theorem z4_63 : Run d 4 63 [a0, a1, a2, a3, a4, a5, a6] [.int x, .ref o] M 0 0 Z ↔ gObj M o 1 ∧ Run d 4 66 [a0, a1, a2, a3, a4, a5, a6] [] (gsI M o 13 x) 0 0 Z := R_putI (gd4 dX1_begin_63) rfl gf_1_57 (Or.inl rfl) rfl
theorem z4_66 : Run d 4 66 [some (.ref o), a1, a2, a3, a4, a5, a6] [] M 0 0 Z ↔ Run d 4 67 [some (.ref o), a1, a2, a3, a4, a5, a6] [.ref o] M 0 0 Z := R_local (gd4 dX1_begin_66) rfl rfl rfl
theorem z4_67 : Run d 4 67 [a0, a1, a2, a3, a4, a5, a6] [s0] M 0 0 Z ↔ Run d 4 68 [a0, a1, a2, a3, a4, a5, a6] [.int 0, s0] M 0 0 Z := R_iconst (gd4 dX1_begin_67) (by decide)
theorem z4_68 : Run d 4 68 [a0, a1, a2, a3, a4, a5, a6] [.int x, .ref o] M 0 0 Z ↔ gObj M o 1 ∧ Run d 4 71 [a0, a1, a2, a3, a4, a5, a6] [] (gsI M o 9 x) 0 0 Z := R_putI (gd4 dX1_begin_68) rfl gf_1_44 (Or.inl rfl) rfl
theorem z4_71 : Run d 4 71 [some (.ref o), a1, a2, a3, a4, a5, a6] [] M 0 0 Z ↔ Run d 4 72 [some (.ref o), a1, a2, a3, a4, a5, a6] [.ref o] M 0 0 Z := R_local (gd4 dX1_begin_71) rfl rfl rfl
theorem z4_72 : Run d 4 72 [a0, a1, a2, a3, a4, a5, a6] [s0] M 0 0 Z ↔ Run d 4 73 [a0, a1, a2, a3, a4, a5, a6] [.int 0, s0] M 0 0 Z := R_iconst (gd4 dX1_begin_72) (by decide)
theorem z4_73 : Run d 4 73 [a0, a1, a2, a3, a4, a5, a6] [.int x, .ref o] M 0 0 Z ↔ gObj M o 1 ∧ Run d 4 76 [a0, a1, a2, a3, a4, a5, a6] [] (gsI M o 10 x) 0 0 Z := R_putI (gd4 dX1_begin_73) rfl gf_1_47 (Or.inl rfl) rfl
theorem z4_76 : Run d 4 76 [some (.ref o), a1, a2, a3, a4, a5, a6] [] M 0 0 Z ↔ Run d 4 77 [some (.ref o), a1, a2, a3, a4, a5, a6] [.ref o] M 0 0 Z := R_local (gd4 dX1_begin_76) rfl rfl rfl
theorem z4_77 : Run d 4 77 [a0, a1, a2, a3, a4, a5, a6] [s0] M 0 0 Z ↔ Run d 4 78 [a0, a1, a2, a3, a4, a5, a6] [.int 0, s0] M 0 0 Z := R_iconst (gd4 dX1_begin_77) (by decide)
theorem z4_78 : Run d 4 78 [a0, a1, a2, a3, a4, a5, a6] [.int x, .ref o] M 0 0 Z ↔ gObj M o 1 ∧ (x = 0 ∨ x = 1) ∧ Run d 4 81 [a0, a1, a2, a3, a4, a5, a6] [] (gsI M o 11 x) 0 0 Z := R_putZ (gd4 dX1_begin_78) rfl gf_1_50 (Or.inl rfl) rfl
theorem z4_81 : Run d 4 81 [some (.ref o), a1, a2, a3, a4, a5, a6] [] M 0 0 Z ↔ Run d 4 82 [some (.ref o), a1, a2, a3, a4, a5, a6] [.ref o] M 0 0 Z := R_local (gd4 dX1_begin_81) rfl rfl rfl
theorem z4_82 : Run d 4 82 [a0, a1, a2, a3, a4, a5, a6] [s0] M 0 0 Z ↔ Run d 4 83 [a0, a1, a2, a3, a4, a5, a6] [.int (-1), s0] M 0 0 Z := R_iconst (gd4 dX1_begin_82) (by decide)
theorem z4_83 : Run d 4 83 [a0, a1, a2, a3, a4, a5, a6] [.int x, .ref o] M 0 0 Z ↔ gObj M o 1 ∧ Run d 4 86 [a0, a1, a2, a3, a4, a5, a6] [] (gsI M o 12 x) 0 0 Z := R_putI (gd4 dX1_begin_83) rfl gf_1_54 (Or.inl rfl) rfl
theorem z4_86 : Run d 4 86 [some (.ref o), a1, a2, a3, a4, a5, a6] [] M 0 0 Z ↔ Run d 4 87 [some (.ref o), a1, a2, a3, a4, a5, a6] [.ref o] M 0 0 Z := R_local (gd4 dX1_begin_86) rfl rfl rfl
theorem z4_87 : Run d 4 87 [a0, a1, a2, a3, a4, a5, a6] [s0] M 0 0 Z ↔ Run d 4 88 [a0, a1, a2, a3, a4, a5, a6] [.int 0, s0] M 0 0 Z := R_iconst (gd4 dX1_begin_87) (by decide)
theorem z4_88 : Run d 4 88 [a0, a1, a2, a3, a4, a5, a6] [.int x, .ref o] M 0 0 Z ↔ gObj M o 1 ∧ Run d 4 91 [a0, a1, a2, a3, a4, a5, a6] [] (gsI M o 14 x) 0 0 Z := R_putI (gd4 dX1_begin_88) rfl gf_1_60 (Or.inl rfl) rfl
theorem z4_91 : Run d 4 91 [some (.ref o), a1, a2, a3, a4, a5, a6] [] M 0 0 Z ↔ Run d 4 92 [some (.ref o), a1, a2, a3, a4, a5, a6] [.ref o] M 0 0 Z := R_local (gd4 dX1_begin_91) rfl rfl rfl
theorem z4_92 : Run d 4 92 [a0, a1, a2, a3, a4, a5, a6] [s0] M 0 0 Z ↔ Run d 4 93 [a0, a1, a2, a3, a4, a5, a6] [.int (-1), s0] M 0 0 Z := R_iconst (gd4 dX1_begin_92) (by decide)
theorem z4_93 : Run d 4 93 [a0, a1, a2, a3, a4, a5, a6] [.int x, .ref o] M 0 0 Z ↔ gObj M o 1 ∧ Run d 4 96 [a0, a1, a2, a3, a4, a5, a6] [] (gsI M o 15 x) 0 0 Z := R_putI (gd4 dX1_begin_93) rfl gf_1_63 (Or.inl rfl) rfl
theorem z4_96 : Run d 4 96 [some (.ref o), a1, a2, a3, a4, a5, a6] [] M 0 0 Z ↔ Run d 4 97 [some (.ref o), a1, a2, a3, a4, a5, a6] [.ref o] M 0 0 Z := R_local (gd4 dX1_begin_96) rfl rfl rfl
theorem z4_97 : Run d 4 97 [a0, a1, a2, a3, a4, a5, a6] [s0] M 0 0 Z ↔ Run d 4 98 [a0, a1, a2, a3, a4, a5, a6] [.int 0, s0] M 0 0 Z := R_iconst (gd4 dX1_begin_97) (by decide)
theorem z4_98 : Run d 4 98 [a0, a1, a2, a3, a4, a5, a6] [s1, s0] M 0 0 Z ↔ Run d 4 99 [a0, a1, a2, a3, a4, a5, a6] [.int 0, s1, s0] M 0 0 Z := R_iconst (gd4 dX1_begin_98) (by decide)
theorem z4_99 : Run d 4 99 [a0, a1, a2, a3, a4, a5, a6] [s2, s1, s0] M 0 0 Z ↔ Run d 4 100 [a0, a1, a2, a3, a4, a5, a6] [.int 0, s2, s1, s0] M 0 0 Z := R_iconst (gd4 dX1_begin_99) (by decide)
theorem z4_100 : Run d 4 100 [a0, a1, a2, a3, a4, a5, a6] [s3, s2, s1, .ref b] M 0 0 Z ↔ gObj M b 1 ∧ Call d 5 [.ref b, s1, s2, s3] M (fun r M1 => Run d 4 103 [a0, a1, a2, a3, a4, a5, a6] (r.toList ++ []) M1 0 0 Z) := R_callV (gd4 dX1_begin_100) rfl rfl rfl rfl rfl rfl gc_1_70 rfl rfl (Nat.le_of_ble_eq_true rfl) (Nat.le_of_ble_eq_true rfl) rfl rfl (Nat.le_of_ble_eq_true rfl) (Nat.le_of_ble_eq_true rfl)
theorem z4_103 : Run d 4 103 [some (.ref o), a1, a2, a3, a4, a5, a6] [] M 0 0 Z ↔ Run d 4 104 [some (.ref o), a1, a2, a3, a4, a5, a6] [.ref o] M 0 0 Z := R_local (gd4 dX1_begin_103) rfl rfl rfl
theorem z4_104 : Run d 4 104 [a0, a1, a2, a3, a4, a5, a6] [s0] M 0 0 Z ↔ Run d 4 105 [a0, a1, a2, a3, a4, a5, a6] [.int 1, s0] M 0 0 Z := R_iconst (gd4 dX1_begin_104) (by decide)
theorem z4_105 : Run d 4 105 [a0, a1, a2, a3, a4, a5, a6] [.int x, .ref o] M 0 0 Z ↔ gObj M o 1 ∧ Run d 4 108 [a0, a1, a2, a3, a4, a5, a6] [] (gsI M o 7 x) 0 0 Z := R_putI (gd4 dX1_begin_105) rfl gf_1_38 (Or.inl rfl) rfl
theorem z4_108 : Run d 4 108 [some (.ref o), a1, a2, a3, a4, a5, a6] [] M 0 0 Z ↔ Run d 4 109 [some (.ref o), a1, a2, a3, a4, a5, a6] [.ref o] M 0 0 Z := R_local (gd4 dX1_begin_108) rfl rfl rfl
theorem z4_109 : Run d 4 109 [a0, a1, a2, a3, a4, a5, a6] [s0] M 0 0 Z ↔ Run d 4 110 [a0, a1, a2, a3, a4, a5, a6] [.int 0, s0] M 0 0 Z := R_iconst (gd4 dX1_begin_109) (by decide)
theorem z4_110 : Run d 4 110 [a0, a1, a2, a3, a4, a5, a6] [.int x, .ref o] M 0 0 Z ↔ gObj M o 1 ∧ Run d 4 113 [a0, a1, a2, a3, a4, a5, a6] [] (gsI M o 8 x) 0 0 Z := R_putI (gd4 dX1_begin_110) rfl gf_1_41 (Or.inl rfl) rfl
theorem z4_113 : Run d 4 113 [some (.ref o), a1, a2, a3, a4, a5, a6] [] M 0 0 Z ↔ Run d 4 114 [some (.ref o), a1, a2, a3, a4, a5, a6] [.ref o] M 0 0 Z := R_local (gd4 dX1_begin_113) rfl rfl rfl
theorem z4_114 : Run d 4 114 [a0, a1, a2, a3, a4, a5, a6] [.ref o] M 0 0 Z ↔ gObj M o 1 ∧ Run d 4 117 [a0, a1, a2, a3, a4, a5, a6] [va_rf (M.2.1 o 0)] M 0 0 Z := R_getR (gd4 dX1_begin_114) rfl gf_1_12 rfl
theorem z4_117 : Run d 4 117 [a0, a1, a2, a3, a4, a5, a6] [s0] M 0 0 Z ↔ Run d 4 118 [a0, a1, a2, a3, a4, a5, a6] [.int 0, s0] M 0 0 Z := R_iconst (gd4 dX1_begin_117) (by decide)
theorem z4_118 : Run d 4 118 [a0, a1, a2, a3, a4, a5, a6] [.int x, .ref o] M 0 0 Z ↔ gObj M o 4 ∧ Run d 4 121 [a0, a1, a2, a3, a4, a5, a6] [] (gsI M o 8 x) 0 0 Z := R_putI (gd4 dX1_begin_118) rfl gf_1_74 (Or.inl rfl) rfl
theorem z4_121 : Run d 4 121 [a0, a1, a2, a3, a4, a5, a6] [] M 0 0 Z ↔ Z none M := R_vret (gd4 dX1_begin_121) rfl
theorem e4 : Call (d + 1) 4 [s0, s1, s2, s3, s4] M Z ↔ Run d 4 0 [some s0, some s1, some s2, some s3, some s4, none, none] [] M 0 0 Z := Call_iff (Nat.lt_of_lt_of_le (Nat.lt_succ_self 4) (Nat.le_of_ble_eq_true rfl)) (Nat.le_of_ble_eq_true rfl)
/-! 5: X1_goTo (III)V -/
theorem gd5 {pc : Nat} {r : Except _ _} (h : decode cX1_goTo pc = r) : decode (gby 5) pc = r := h
theorem z5_0 : Run d 5 0 [some (.ref o), a1, a2, a3] [] M 0 0 Z ↔ Run d 5 1 [some (.ref o), a1, a2, a3] [.ref o] M 0 0 Z := R_local (gd5 dX1_goTo_0) rfl rfl rfl
theorem z5_1 : Run d 5 1 [a0, some (.int x), a2, a3] [s0] M 0 0 Z ↔ Run d 5 2 [a0, some (.int x), a2, a3] [.int x, s0] M 0 0 Z := R_local (gd5 dX1_goTo_1) rfl rfl rfl
theorem z5_2 : Run d 5 2 [a0, a1, a2, a3] [.int x, .ref o] M 0 0 Z ↔ gObj M o 1 ∧ Run d 5 5 [a0, a1, a2, a3] [] (gsI M o 5 x) 0 0 Z := R_putI (gd5 dX1_goTo_2) rfl gf_1_32 (Or.inl rfl) rfl
theorem z5_5 : Run d 5 5 [some (.ref o), a1, a2, a3] [] M 0 0 Z ↔ Run d 5 6 [some (.ref o), a1, a2, a3] [.ref o] M 0 0 Z := R_local (gd5 dX1_goTo_5) rfl rfl rfl
theorem z5_6 : Run d 5 6 [a0, a1, some (.int x), a3] [s0] M 0 0 Z ↔ Run d 5 7 [a0, a1, some (.int x), a3] [.int x, s0] M 0 0 Z := R_local (gd5 dX1_goTo_6) rfl rfl rfl
theorem z5_7 : Run d 5 7 [a0, a1, a2, a3] [.int x, .ref o] M 0 0 Z ↔ gObj M o 1 ∧ Run d 5 10 [a0, a1, a2, a3] [] (gsI M o 6 x) 0 0 Z := R_putI (gd5 dX1_goTo_7) rfl gf_1_35 (Or.inl rfl) rfl
theorem z5_10 : Run d 5 10 [some (.ref o), a1, a2, a3] [] M 0 0 Z ↔ Run d 5 11 [some (.ref o), a1, a2, a3] [.ref o] M 0 0 Z := R_local (gd5 dX1_goTo_10) rfl rfl rfl
theorem z5_11 : Run d 5 11 [a0, a1, a2, some (.int x)] [s0] M 0 0 Z ↔ Run d 5 12 [a0, a1, a2, some (.int x)] [.int x, s0] M 0 0 Z := R_local (gd5 dX1_goTo_11) rfl rfl rfl
theorem z5_12 : Run d 5 12 [a0, a1, a2, a3] [.int x, .ref o] M 0 0 Z ↔ gObj M o 1 ∧ Run d 5 15 [a0, a1, a2, a3] [] (gsI M o 4 x) 0 0 Z := R_putI (gd5 dX1_goTo_12) rfl gf_1_29 (Or.inl rfl) rfl
theorem z5_15 : Run d 5 15 [a0, a1, a2, a3] [] M 0 0 Z ↔ Z none M := R_vret (gd5 dX1_goTo_15) rfl
theorem e5 : Call (d + 1) 5 [s0, s1, s2, s3] M Z ↔ Run d 5 0 [some s0, some s1, some s2, some s3] [] M 0 0 Z := Call_iff (Nat.lt_of_lt_of_le (Nat.lt_succ_self 5) (Nat.le_of_ble_eq_true rfl)) (Nat.le_of_ble_eq_true rfl)
/-! 6: X1_left ()I -/
theorem gd6 {pc : Nat} {r : Except _ _} (h : decode cX1_left pc = r) : decode (gby 6) pc = r := h
theorem z6_0 : Run d 6 0 [some (.ref o)] [] M 0 0 Z ↔ Run d 6 1 [some (.ref o)] [.ref o] M 0 0 Z := R_local (gd6 dX1_left_0) rfl rfl rfl
theorem z6_1 : Run d 6 1 [a0] [.ref o] M 0 0 Z ↔ gObj M o 1 ∧ Run d 6 4 [a0] [.int (M.1 o 2)] M 0 0 Z := R_getI (gd6 dX1_left_1) rfl gf_1_22 rfl
theorem z6_4 : Run d 6 4 [some (.ref o)] [s0] M 0 0 Z ↔ Run d 6 5 [some (.ref o)] [.ref o, s0] M 0 0 Z := R_local (gd6 dX1_left_4) rfl rfl rfl
theorem z6_5 : Run d 6 5 [a0] [.ref o, s0] M 0 0 Z ↔ gObj M o 1 ∧ Run d 6 8 [a0] [.int (M.1 o 4), s0] M 0 0 Z := R_getI (gd6 dX1_left_5) rfl gf_1_29 rfl
theorem z6_8 : Run d 6 8 [a0] [.int y, .int x] M 0 0 Z ↔ Run d 6 9 [a0] [.int (x - y)] M 0 0 Z := R_arith (gd6 dX1_left_8) rfl
theorem z6_9 : Run d 6 9 [a0] [.int x] M 0 0 Z ↔ Z (some (.int x)) M := R_iret (gd6 dX1_left_9) rfl
theorem e6 : Call (d + 1) 6 [s0] M Z ↔ Run d 6 0 [some s0] [] M 0 0 Z := Call_iff (Nat.lt_of_lt_of_le (Nat.lt_succ_self 6) (Nat.le_of_ble_eq_true rfl)) (Nat.le_of_ble_eq_true rfl)
/-! 7: X1_width ()I -/
theorem gd7 {pc : Nat} {r : Except _ _} (h : decode cX1_width pc = r) : decode (gby 7) pc = r := h
theorem z7_0 : Run d 7 0 [a0, a1, a2] [] M 0 0 Z ↔ Run d 7 1 [a0, a1, a2] [.int 0] M 0 0 Z := R_iconst (gd7 dX1_width_0) (by decide)
theorem z7_1 : Run d 7 1 [a0, a1, a2] [.int x] M 0 0 Z ↔ Run d 7 2 [a0, some (.int x), a2] [] M 0 0 Z := R_local (gd7 dX1_width_1) rfl rfl rfl
theorem z7_2 : Run d 7 2 [a0, a1, a2] [] M 0 0 Z ↔ Run d 7 3 [a0, a1, a2] [.int 0] M 0 0 Z := R_iconst (gd7 dX1_width_2) (by decide)
theorem z7_3 : Run d 7 3 [some (.ref o), a1, a2] [s0] M 0 0 Z ↔ Run d 7 4 [some (.ref o), a1, a2] [.ref o, s0] M 0 0 Z := R_local (gd7 dX1_width_3) rfl rfl rfl
theorem z7_4 : Run d 7 4 [a0, a1, a2] [.ref o, s0] M 0 0 Z ↔ gObj M o 1 ∧ Run d 7 7 [a0, a1, a2] [.int (M.1 o 5), s0] M 0 0 Z := R_getI (gd7 dX1_width_4) rfl gf_1_32 rfl
theorem z7_7 : Run d 7 7 [a0, a1, a2] [.int y, .int x] M 0 0 Z ↔ Run d 7 10 [a0, a1, a2] [.int (if x < y then y else x)] M 0 0 Z := R_prim (gd7 dX1_width_7) rfl rfl rfl rfl rfl rfl gc_1_77 rfl (by decide) rfl (Nat.le_of_ble_eq_true rfl)
theorem z7_10 : Run d 7 10 [a0, a1, a2] [.int x] M 0 0 Z ↔ Run d 7 11 [a0, a1, some (.int x)] [] M 0 0 Z := R_local (gd7 dX1_width_10) rfl rfl rfl
theorem z7_11 : Run d 7 11 [a0, a1, some (.int x)] [] M 0 0 Z ↔ Run d 7 12 [a0, a1, some (.int x)] [.int x] M 0 0 Z := R_local (gd7 dX1_width_11) rfl rfl rfl
theorem z7_12 : Run d 7 12 [some (.ref o), a1, a2] [s0] M 0 0 Z ↔ Run d 7 13 [some (.ref o), a1, a2] [.ref o, s0] M 0 0 Z := R_local (gd7 dX1_width_12) rfl rfl rfl
theorem z7_13 : Run d 7 13 [a0, a1, a2] [.ref o, s0] M 0 0 Z ↔ gObj M o 1 ∧ Run d 7 16 [a0, a1, a2] [.int (M.1 o 5), s0] M 0 0 Z := R_getI (gd7 dX1_width_13) rfl gf_1_32 rfl
theorem z7_16 : Run d 7 16 [some (.ref o), a1, a2] [s1, s0] M 0 0 Z ↔ Run d 7 17 [some (.ref o), a1, a2] [.ref o, s1, s0] M 0 0 Z := R_local (gd7 dX1_width_16) rfl rfl rfl
theorem z7_17 : Run d 7 17 [a0, a1, a2] [.ref o, s1, s0] M 0 0 Z ↔ gObj M o 1 ∧ Run d 7 20 [a0, a1, a2] [.int (M.1 o 3), s1, s0] M 0 0 Z := R_getI (gd7 dX1_width_17) rfl gf_1_26 rfl
theorem z7_20 : Run d 7 20 [a0, a1, a2] [.int y, .int x, s0] M 0 0 Z ↔ Run d 7 21 [a0, a1, a2] [.int (x + y), s0] M 0 0 Z := R_arith (gd7 dX1_width_20) rfl
theorem z7_21 : Run d 7 21 [a0, a1, a2] [.int y, .int x] M 0 0 Z ↔ (y ≤ x → Run d 7 47 [a0, a1, a2] [] M 0 0 Z) ∧ (¬ (y ≤ x) → Run d 7 24 [a0, a1, a2] [] M 0 0 Z) := R_icmp (gd7 dX1_width_21) (show gTgt 21 26 = some 47 by decide) gIf_ge
theorem z7_24 : Run d 7 24 [a0, a1, some (.int x)] [] M 0 0 Z ↔ Run d 7 25 [a0, a1, some (.int x)] [.int x] M 0 0 Z := R_local (gd7 dX1_width_24) rfl rfl rfl
theorem z7_25 : Run d 7 25 [a0, a1, a2] [s0] M 0 0 Z ↔ Run d 7 27 [a0, a1, a2] [.int 8, s0] M 0 0 Z := R_bipush (gd7 dX1_width_25) (by decide)
theorem z7_27 : Run d 7 27 [a0, a1, a2] [.int y, .int x] M 0 0 Z ↔ (y ≤ x → Run d 7 47 [a0, a1, a2] [] M 0 0 Z) ∧ (¬ (y ≤ x) → Run d 7 30 [a0, a1, a2] [] M 0 0 Z) := R_icmp (gd7 dX1_width_27) (show gTgt 27 20 = some 47 by decide) gIf_ge
theorem z7_30 : Run d 7 30 [a0, some (.int x), a2] [] M 0 0 Z ↔ Run d 7 31 [a0, some (.int x), a2] [.int x] M 0 0 Z := R_local (gd7 dX1_width_30) rfl rfl rfl
theorem z7_31 : Run d 7 31 [some (.ref o), a1, a2] [s0] M 0 0 Z ↔ Run d 7 32 [some (.ref o), a1, a2] [.ref o, s0] M 0 0 Z := R_local (gd7 dX1_width_31) rfl rfl rfl
theorem z7_32 : Run d 7 32 [a0, a1, a2] [.ref o, s0] M 0 0 Z ↔ gObj M o 1 ∧ Run d 7 35 [a0, a1, a2] [va_rf (M.2.1 o 1), s0] M 0 0 Z := R_getR (gd7 dX1_width_32) rfl gf_1_18 rfl
theorem z7_35 : Run d 7 35 [a0, a1, some (.int x)] [s1, s0] M 0 0 Z ↔ Run d 7 36 [a0, a1, some (.int x)] [.int x, s1, s0] M 0 0 Z := R_local (gd7 dX1_width_35) rfl rfl rfl
theorem z7_36 : Run d 7 36 [a0, a1, a2] [.int x, .ref o, s0] M 0 0 Z ↔ gAr M o 0 ∧ gIn x (gLen M o) = true ∧ Run d 7 37 [a0, a1, a2] [.int (M.1 o x.toNatClampNeg), s0] M 0 0 Z := R_iald (gd7 dX1_width_36)
theorem z7_37 : Run d 7 37 [a0, a1, a2] [.int y, .int x] M 0 0 Z ↔ Run d 7 40 [a0, a1, a2] [.int (if x < y then y else x)] M 0 0 Z := R_prim (gd7 dX1_width_37) rfl rfl rfl rfl rfl rfl gc_1_77 rfl (by decide) rfl (Nat.le_of_ble_eq_true rfl)
theorem z7_40 : Run d 7 40 [a0, a1, a2] [.int x] M 0 0 Z ↔ Run d 7 41 [a0, some (.int x), a2] [] M 0 0 Z := R_local (gd7 dX1_width_40) rfl rfl rfl
theorem z7_41 : Run d 7 41 [a0, a1, some (.int x)] [] M 0 0 Z ↔ Run d 7 44 [a0, a1, some (.int (x + 1))] [] M 0 0 Z := R_iinc (gd7 dX1_width_41) (by decide) rfl rfl
theorem z7_44 : Run d 7 44 [a0, a1, a2] [] M 0 0 Z ↔ Run d 7 11 [a0, a1, a2] [] M 0 0 Z := R_goto (gd7 dX1_width_44) (show gTgt 44 (-33) = some 11 by decide)
theorem z7_47 : Run d 7 47 [a0, some (.int x), a2] [] M 0 0 Z ↔ Run d 7 48 [a0, some (.int x), a2] [.int x] M 0 0 Z := R_local (gd7 dX1_width_47) rfl rfl rfl
theorem z7_48 : Run d 7 48 [a0, a1, a2] [.int x] M 0 0 Z ↔ Z (some (.int x)) M := R_iret (gd7 dX1_width_48) rfl
theorem e7 : Call (d + 1) 7 [s0] M Z ↔ Run d 7 0 [some s0, none, none] [] M 0 0 Z := Call_iff (Nat.lt_of_lt_of_le (Nat.lt_succ_self 7) (Nat.le_of_ble_eq_true rfl)) (Nat.le_of_ble_eq_true rfl)
/-! 8: X1_isNumber (I)Z -/
theorem gd8 {pc : Nat} {r : Except _ _} (h : decode cX1_isNumber pc = r) : decode (gby 8) pc = r := h
theorem z8_0 : Run d 8 0 [some (.int x)] [] M 0 0 Z ↔ Run d 8 1 [some (.int x)] [.int x] M 0 0 Z := R_local (gd8 dX1_isNumber_0) rfl rfl rfl
theorem z8_1 : Run d 8 1 [a0] [.int x] M 0 0 Z ↔ (x < 0 → Run d 8 15 [a0] [] M 0 0 Z) ∧ (¬ (x < 0) → Run d 8 4 [a0] [] M 0 0 Z) := R_if (gd8 dX1_isNumber_1) (show gTgt 1 14 = some 15 by decide) gIf_lt
theorem z8_4 : Run d 8 4 [some (.int x)] [] M 0 0 Z ↔ Run d 8 5 [some (.int x)] [.int x] M 0 0 Z := R_local (gd8 dX1_isNumber_4) rfl rfl rfl
theorem z8_5 : Run d 8 5 [a0] [s0] M 0 0 Z ↔ Run d 8 8 [a0] [.int 200, s0] M 0 0 Z := R_sipush (gd8 dX1_isNumber_5) (by decide)
theorem z8_8 : Run d 8 8 [a0] [.int y, .int x] M 0 0 Z ↔ (y < x → Run d 8 15 [a0] [] M 0 0 Z) ∧ (¬ (y < x) → Run d 8 11 [a0] [] M 0 0 Z) := R_icmp (gd8 dX1_isNumber_8) (show gTgt 8 7 = some 15 by decide) gIf_gt
theorem z8_11 : Run d 8 11 [a0] [] M 0 0 Z ↔ Run d 8 12 [a0] [.int 1] M 0 0 Z := R_iconst (gd8 dX1_isNumber_11) (by decide)
theorem z8_12 : Run d 8 12 [a0] [s0] M 0 0 Z ↔ Run d 8 16 [a0] [s0] M 0 0 Z := R_goto (gd8 dX1_isNumber_12) (show gTgt 12 4 = some 16 by decide)
theorem z8_15 : Run d 8 15 [a0] [] M 0 0 Z ↔ Run d 8 16 [a0] [.int 0] M 0 0 Z := R_iconst (gd8 dX1_isNumber_15) (by decide)
theorem z8_16 : Run d 8 16 [a0] [.int x] M 0 0 Z ↔ (x = 0 ∨ x = 1) ∧ Z (some (.int x)) M := R_iretZ (gd8 dX1_isNumber_16) rfl
theorem e8 : Call (d + 1) 8 [s0] M Z ↔ Run d 8 0 [some s0] [] M 0 0 Z := Call_iff (Nat.lt_of_lt_of_le (Nat.lt_succ_self 8) (Nat.le_of_ble_eq_true rfl)) (Nat.le_of_ble_eq_true rfl)
/-! 9: X1_wind (I)I -/
theorem gd9 {pc : Nat} {r : Except _ _} (h : decode cX1_wind pc = r) : decode (gby 9) pc = r := h
theorem z9_0 : Run d 9 0 [a0, some (.int x), a2, a3] [] M 0 0 Z ↔ Run d 9 1 [a0, some (.int x), a2, a3] [.int x] M 0 0 Z := R_local (gd9 dX1_wind_0) rfl rfl rfl
theorem z9_1 : Run d 9 1 [a0, a1, a2, a3] [s0] M 0 0 Z ↔ Call d 8 [s0] M (fun r M1 => Run d 9 4 [a0, a1, a2, a3] (r.toList ++ []) M1 0 0 Z) := R_call (gd9 dX1_wind_1) rfl rfl rfl rfl rfl rfl gc_1_83 rfl (by decide) (Nat.le_of_ble_eq_true rfl) (Nat.le_of_ble_eq_true rfl) rfl rfl rfl (Nat.le_of_ble_eq_true rfl) (Nat.le_of_ble_eq_true rfl)
theorem z9_4 : Run d 9 4 [a0, a1, a2, a3] [.int x] M 0 0 Z ↔ (¬ x = 0 → Run d 9 9 [a0, a1, a2, a3] [] M 0 0 Z) ∧ (¬ (¬ x = 0) → Run d 9 7 [a0, a1, a2, a3] [] M 0 0 Z) := R_if (gd9 dX1_wind_4) (show gTgt 4 5 = some 9 by decide) gIf_ne
theorem z9_7 : Run d 9 7 [a0, a1, a2, a3] [] M 0 0 Z ↔ Run d 9 8 [a0, a1, a2, a3] [.int 4] M 0 0 Z := R_iconst (gd9 dX1_wind_7) (by decide)
theorem z9_8 : Run d 9 8 [a0, a1, a2, a3] [.int x] M 0 0 Z ↔ Z (some (.int x)) M := R_iret (gd9 dX1_wind_8) rfl
theorem z9_9 : Run d 9 9 [some (.ref o), a1, a2, a3] [] M 0 0 Z ↔ Run d 9 10 [some (.ref o), a1, a2, a3] [.ref o] M 0 0 Z := R_local (gd9 dX1_wind_9) rfl rfl rfl
theorem z9_10 : Run d 9 10 [a0, a1, a2, a3] [.ref b] M 0 0 Z ↔ gObj M b 1 ∧ Call d 7 [.ref b] M (fun r M1 => Run d 9 13 [a0, a1, a2, a3] (r.toList ++ []) M1 0 0 Z) := R_callV (gd9 dX1_wind_10) rfl rfl rfl rfl rfl rfl gc_1_87 rfl rfl (Nat.le_of_ble_eq_true rfl) (Nat.le_of_ble_eq_true rfl) rfl rfl (Nat.le_of_ble_eq_true rfl) (Nat.le_of_ble_eq_true rfl)
theorem z9_13 : Run d 9 13 [a0, a1, a2, a3] [.int x] M 0 0 Z ↔ Run d 9 14 [a0, a1, some (.int x), a3] [] M 0 0 Z := R_local (gd9 dX1_wind_13) rfl rfl rfl
theorem z9_14 : Run d 9 14 [a0, some (.int x), a2, a3] [] M 0 0 Z ↔ Run d 9 15 [a0, some (.int x), a2, a3] [.int x] M 0 0 Z := R_local (gd9 dX1_wind_14) rfl rfl rfl
theorem z9_15 : Run d 9 15 [a0, a1, some (.int x), a3] [s0] M 0 0 Z ↔ Run d 9 16 [a0, a1, some (.int x), a3] [.int x, s0] M 0 0 Z := R_local (gd9 dX1_wind_15) rfl rfl rfl
theorem z9_16 : Run d 9 16 [a0, a1, a2, a3] [.int y, .int x] M 0 0 Z ↔ Run d 9 17 [a0, a1, a2, a3] [.int (x * y)] M 0 0 Z := R_arith (gd9 dX1_wind_16) rfl
theorem z9_17 : Run d 9 17 [some (.ref o), a1, a2, a3] [s0] M 0 0 Z ↔ Run d 9 18 [some (.ref o), a1, a2, a3] [.ref o, s0] M 0 0 Z := R_local (gd9 dX1_wind_17) rfl rfl rfl
theorem z9_18 : Run d 9 18 [a0, a1, a2, a3] [.ref b, s0] M 0 0 Z ↔ gObj M b 1 ∧ Call d 6 [.ref b] M (fun r M1 => Run d 9 21 [a0, a1, a2, a3] (r.toList ++ [s0]) M1 0 0 Z) := R_callV (gd9 dX1_wind_18) rfl rfl rfl rfl rfl rfl gc_1_91 rfl rfl (Nat.le_of_ble_eq_true rfl) (Nat.le_of_ble_eq_true rfl) rfl rfl (Nat.le_of_ble_eq_true rfl) (Nat.le_of_ble_eq_true rfl)
theorem z9_21 : Run d 9 21 [a0, a1, a2, a3] [.int y, .int x] M 0 0 Z ↔ (x ≤ y → Run d 9 26 [a0, a1, a2, a3] [] M 0 0 Z) ∧ (¬ (x ≤ y) → Run d 9 24 [a0, a1, a2, a3] [] M 0 0 Z) := R_icmp (gd9 dX1_wind_21) (show gTgt 21 5 = some 26 by decide) gIf_le
theorem z9_24 : Run d 9 24 [a0, a1, a2, a3] [] M 0 0 Z ↔ Run d 9 25 [a0, a1, a2, a3] [.int 1] M 0 0 Z := R_iconst (gd9 dX1_wind_24) (by decide)
theorem z9_25 : Run d 9 25 [a0, a1, a2, a3] [.int x] M 0 0 Z ↔ Z (some (.int x)) M := R_iret (gd9 dX1_wind_25) rfl
theorem z9_26 : Run d 9 26 [some (.ref o), a1, a2, a3] [] M 0 0 Z ↔ Run d 9 27 [some (.ref o), a1, a2, a3] [.ref o] M 0 0 Z := R_local (gd9 dX1_wind_26) rfl rfl rfl
theorem z9_27 : Run d 9 27 [a0, a1, a2, a3] [.ref o] M 0 0 Z ↔ gObj M o 1 ∧ Run d 9 30 [a0, a1, a2, a3] [va_rf (M.2.1 o 0)] M 0 0 Z := R_getR (gd9 dX1_wind_27) rfl gf_1_12 rfl
theorem z9_30 : Run d 9 30 [a0, a1, a2, a3] [.ref o] M 0 0 Z ↔ gObj M o 4 ∧ Run d 9 33 [a0, a1, a2, a3] [.int (M.1 o 8)] M 0 0 Z := R_getI (gd9 dX1_wind_30) rfl gf_1_74 rfl
theorem z9_33 : Run d 9 33 [a0, some (.int x), a2, a3] [s0] M 0 0 Z ↔ Run d 9 34 [a0, some (.int x), a2, a3] [.int x, s0] M 0 0 Z := R_local (gd9 dX1_wind_33) rfl rfl rfl
theorem z9_34 : Run d 9 34 [a0, a1, a2, a3] [.int y, .int x] M 0 0 Z ↔ Run d 9 35 [a0, a1, a2, a3] [.int (x + y)] M 0 0 Z := R_arith (gd9 dX1_wind_34) rfl
theorem z9_35 : Run d 9 35 [a0, a1, a2, a3] [s0] M 0 0 Z ↔ Run d 9 38 [a0, a1, a2, a3] [.int 400, s0] M 0 0 Z := R_sipush (gd9 dX1_wind_35) (by decide)
theorem z9_38 : Run d 9 38 [a0, a1, a2, a3] [.int y, .int x] M 0 0 Z ↔ (x ≤ y → Run d 9 44 [a0, a1, a2, a3] [] M 0 0 Z) ∧ (¬ (x ≤ y) → Run d 9 41 [a0, a1, a2, a3] [] M 0 0 Z) := R_icmp (gd9 dX1_wind_38) (show gTgt 38 6 = some 44 by decide) gIf_le
theorem z9_41 : Run d 9 41 [a0, a1, a2, a3] [] M 0 0 Z ↔ Run d 9 43 [a0, a1, a2, a3] [.int 6] M 0 0 Z := R_bipush (gd9 dX1_wind_41) (by decide)
theorem z9_43 : Run d 9 43 [a0, a1, a2, a3] [.int x] M 0 0 Z ↔ Z (some (.int x)) M := R_iret (gd9 dX1_wind_43) rfl
theorem z9_44 : Run d 9 44 [a0, a1, a2, a3] [] M 0 0 Z ↔ Run d 9 45 [a0, a1, a2, a3] [.int 0] M 0 0 Z := R_iconst (gd9 dX1_wind_44) (by decide)
theorem z9_45 : Run d 9 45 [a0, a1, a2, a3] [.int x] M 0 0 Z ↔ Run d 9 46 [a0, a1, a2, some (.int x)] [] M 0 0 Z := R_local (gd9 dX1_wind_45) rfl rfl rfl
theorem z9_46 : Run d 9 46 [a0, a1, a2, some (.int x)] [] M 0 0 Z ↔ Run d 9 47 [a0, a1, a2, some (.int x)] [.int x] M 0 0 Z := R_local (gd9 dX1_wind_46) rfl rfl rfl
theorem z9_47 : Run d 9 47 [a0, some (.int x), a2, a3] [s0] M 0 0 Z ↔ Run d 9 48 [a0, some (.int x), a2, a3] [.int x, s0] M 0 0 Z := R_local (gd9 dX1_wind_47) rfl rfl rfl
theorem z9_48 : Run d 9 48 [a0, a1, a2, a3] [.int y, .int x] M 0 0 Z ↔ (y ≤ x → Run d 9 115 [a0, a1, a2, a3] [] M 0 0 Z) ∧ (¬ (y ≤ x) → Run d 9 51 [a0, a1, a2, a3] [] M 0 0 Z) := R_icmp (gd9 dX1_wind_48) (show gTgt 48 67 = some 115 by decide) gIf_ge
theorem z9_51 : Run d 9 51 [some (.ref o), a1, a2, a3] [] M 0 0 Z ↔ Run d 9 52 [some (.ref o), a1, a2, a3] [.ref o] M 0 0 Z := R_local (gd9 dX1_wind_51) rfl rfl rfl
theorem z9_52 : Run d 9 52 [a0, a1, a2, a3] [.ref o] M 0 0 Z ↔ gObj M o 1 ∧ Run d 9 55 [a0, a1, a2, a3] [va_rf (M.2.1 o 0)] M 0 0 Z := R_getR (gd9 dX1_wind_52) rfl gf_1_12 rfl
theorem z9_55 : Run d 9 55 [some (.ref o), a1, a2, a3] [s0] M 0 0 Z ↔ Run d 9 56 [some (.ref o), a1, a2, a3] [.ref o, s0] M 0 0 Z := R_local (gd9 dX1_wind_55) rfl rfl rfl
theorem z9_56 : Run d 9 56 [a0, a1, a2, a3] [.ref o, s0] M 0 0 Z ↔ gObj M o 1 ∧ Run d 9 59 [a0, a1, a2, a3] [.int (M.1 o 9), s0] M 0 0 Z := R_getI (gd9 dX1_wind_56) rfl gf_1_44 rfl
theorem z9_59 : Run d 9 59 [some (.ref o), a1, a2, a3] [s1, s0] M 0 0 Z ↔ Run d 9 60 [some (.ref o), a1, a2, a3] [.ref o, s1, s0] M 0 0 Z := R_local (gd9 dX1_wind_59) rfl rfl rfl
theorem z9_60 : Run d 9 60 [a0, a1, a2, a3] [.ref o, s1, s0] M 0 0 Z ↔ gObj M o 1 ∧ Run d 9 63 [a0, a1, a2, a3] [.int (M.1 o 5), s1, s0] M 0 0 Z := R_getI (gd9 dX1_wind_60) rfl gf_1_32 rfl
theorem z9_63 : Run d 9 63 [some (.ref o), a1, a2, a3] [s2, s1, s0] M 0 0 Z ↔ Run d 9 64 [some (.ref o), a1, a2, a3] [.ref o, s2, s1, s0] M 0 0 Z := R_local (gd9 dX1_wind_63) rfl rfl rfl
theorem z9_64 : Run d 9 64 [a0, a1, a2, a3] [.ref o, s2, s1, s0] M 0 0 Z ↔ gObj M o 1 ∧ Run d 9 67 [a0, a1, a2, a3] [.int (M.1 o 6), s2, s1, s0] M 0 0 Z := R_getI (gd9 dX1_wind_64) rfl gf_1_35 rfl
theorem z9_67 : Run d 9 67 [some (.ref o), a1, a2, a3] [s3, s2, s1, s0] M 0 0 Z ↔ Run d 9 68 [some (.ref o), a1, a2, a3] [.ref o, s3, s2, s1, s0] M 0 0 Z := R_local (gd9 dX1_wind_67) rfl rfl rfl
theorem z9_68 : Run d 9 68 [a0, a1, a2, a3] [.ref o, s3, s2, s1, s0] M 0 0 Z ↔ gObj M o 1 ∧ Run d 9 71 [a0, a1, a2, a3] [.int (M.1 o 4), s3, s2, s1, s0] M 0 0 Z := R_getI (gd9 dX1_wind_68) rfl gf_1_29 rfl
theorem z9_71 : Run d 9 71 [a0, a1, some (.int x), a3] [s4, s3, s2, s1, s0] M 0 0 Z ↔ Run d 9 72 [a0, a1, some (.int x), a3] [.int x, s4, s3, s2, s1, s0] M 0 0 Z := R_local (gd9 dX1_wind_71) rfl rfl rfl
theorem z9_72 : Run d 9 72 [some (.ref o), a1, a2, a3] [s5, s4, s3, s2, s1, s0] M 0 0 Z ↔ Run d 9 73 [some (.ref o), a1, a2, a3] [.ref o, s5, s4, s3, s2, s1, s0] M 0 0 Z := R_local (gd9 dX1_wind_72) rfl rfl rfl
theorem z9_73 : Run d 9 73 [a0, a1, a2, a3] [.ref o, s5, s4, s3, s2, s1, s0] M 0 0 Z ↔ gObj M o 1 ∧ Run d 9 76 [a0, a1, a2, a3] [.int (M.1 o 3), s5, s4, s3, s2, s1, s0] M 0 0 Z := R_getI (gd9 dX1_wind_73) rfl gf_1_26 rfl
theorem z9_76 : Run d 9 76 [some (.ref o), a1, a2, a3] [s6, s5, s4, s3, s2, s1, s0] M 0 0 Z ↔ Run d 9 77 [some (.ref o), a1, a2, a3] [.ref o, s6, s5, s4, s3, s2, s1, s0] M 0 0 Z := R_local (gd9 dX1_wind_76) rfl rfl rfl
theorem z9_77 : Run d 9 77 [a0, a1, a2, a3] [.ref o, s6, s5, s4, s3, s2, s1, s0] M 0 0 Z ↔ gObj M o 1 ∧ Run d 9 80 [a0, a1, a2, a3] [.int (M.1 o 8), s6, s5, s4, s3, s2, s1, s0] M 0 0 Z := R_getI (gd9 dX1_wind_77) rfl gf_1_41 rfl
theorem z9_80 : Run d 9 80 [a0, a1, a2, a3] [s7, s6, s5, s4, s3, s2, s1, .ref b] M 0 0 Z ↔ gObj M b 4 ∧ Call d 40 [.ref b, s1, s2, s3, s4, s5, s6, s7] M (fun r M1 => Run d 9 83 [a0, a1, a2, a3] (r.toList ++ []) M1 0 0 Z) := R_callV (gd9 dX1_wind_80) rfl rfl rfl rfl rfl rfl gc_1_94 rfl rfl (Nat.le_of_ble_eq_true rfl) (Nat.le_of_ble_eq_true rfl) rfl rfl (Nat.le_of_ble_eq_true rfl) (Nat.le_of_ble_eq_true rfl)
theorem z9_83 : Run d 9 83 [some (.ref o), a1, a2, a3] [] M 0 0 Z ↔ Run d 9 84 [some (.ref o), a1, a2, a3] [.ref o] M 0 0 Z := R_local (gd9 dX1_wind_83) rfl rfl rfl
theorem z9_84 : Run d 9 84 [a0, a1, a2, a3] [.ref o] M 0 0 Z ↔ Run d 9 85 [a0, a1, a2, a3] [.ref o, .ref o] M 0 0 Z := R_arith (gd9 dX1_wind_84) rfl
theorem z9_85 : Run d 9 85 [a0, a1, a2, a3] [.ref o, s0] M 0 0 Z ↔ gObj M o 1 ∧ Run d 9 88 [a0, a1, a2, a3] [.int (M.1 o 4), s0] M 0 0 Z := R_getI (gd9 dX1_wind_85) rfl gf_1_29 rfl
theorem z9_88 : Run d 9 88 [a0, a1, some (.int x), a3] [s1, s0] M 0 0 Z ↔ Run d 9 89 [a0, a1, some (.int x), a3] [.int x, s1, s0] M 0 0 Z := R_local (gd9 dX1_wind_88) rfl rfl rfl
theorem z9_89 : Run d 9 89 [a0, a1, a2, a3] [.int y, .int x, s0] M 0 0 Z ↔ Run d 9 90 [a0, a1, a2, a3] [.int (x + y), s0] M 0 0 Z := R_arith (gd9 dX1_wind_89) rfl
theorem z9_90 : Run d 9 90 [a0, a1, a2, a3] [.int x, .ref o] M 0 0 Z ↔ gObj M o 1 ∧ Run d 9 93 [a0, a1, a2, a3] [] (gsI M o 4 x) 0 0 Z := R_putI (gd9 dX1_wind_90) rfl gf_1_29 (Or.inl rfl) rfl
theorem z9_93 : Run d 9 93 [some (.ref o), a1, a2, a3] [] M 0 0 Z ↔ Run d 9 94 [some (.ref o), a1, a2, a3] [.ref o] M 0 0 Z := R_local (gd9 dX1_wind_93) rfl rfl rfl
theorem z9_94 : Run d 9 94 [some (.ref o), a1, a2, a3] [s0] M 0 0 Z ↔ Run d 9 95 [some (.ref o), a1, a2, a3] [.ref o, s0] M 0 0 Z := R_local (gd9 dX1_wind_94) rfl rfl rfl
theorem z9_95 : Run d 9 95 [a0, a1, a2, a3] [.ref o, s0] M 0 0 Z ↔ gObj M o 1 ∧ Run d 9 98 [a0, a1, a2, a3] [.int (M.1 o 6), s0] M 0 0 Z := R_getI (gd9 dX1_wind_95) rfl gf_1_35 rfl
theorem z9_98 : Run d 9 98 [some (.ref o), a1, a2, a3] [s1, s0] M 0 0 Z ↔ Run d 9 99 [some (.ref o), a1, a2, a3] [.ref o, s1, s0] M 0 0 Z := R_local (gd9 dX1_wind_98) rfl rfl rfl
theorem z9_99 : Run d 9 99 [a0, a1, a2, a3] [.ref o, s1, s0] M 0 0 Z ↔ gObj M o 1 ∧ Run d 9 102 [a0, a1, a2, a3] [.int (M.1 o 7), s1, s0] M 0 0 Z := R_getI (gd9 dX1_wind_99) rfl gf_1_38 rfl
theorem z9_102 : Run d 9 102 [a0, a1, a2, a3] [.int y, .int x, s0] M 0 0 Z ↔ Run d 9 103 [a0, a1, a2, a3] [.int (x + y), s0] M 0 0 Z := R_arith (gd9 dX1_wind_102) rfl
theorem z9_103 : Run d 9 103 [a0, a1, a2, a3] [s1, s0] M 0 0 Z ↔ Run d 9 105 [a0, a1, a2, a3] [.int 7, s1, s0] M 0 0 Z := R_bipush (gd9 dX1_wind_103) (by decide)
theorem z9_105 : Run d 9 105 [a0, a1, a2, a3] [.int y, .int x, s0] M 0 0 Z ↔ Run d 9 106 [a0, a1, a2, a3] [.int (x &&& y), s0] M 0 0 Z := R_arith (gd9 dX1_wind_105) rfl
theorem z9_106 : Run d 9 106 [a0, a1, a2, a3] [.int x, .ref o] M 0 0 Z ↔ gObj M o 1 ∧ Run d 9 109 [a0, a1, a2, a3] [] (gsI M o 6 x) 0 0 Z := R_putI (gd9 dX1_wind_106) rfl gf_1_35 (Or.inl rfl) rfl
theorem z9_109 : Run d 9 109 [a0, a1, a2, some (.int x)] [] M 0 0 Z ↔ Run d 9 112 [a0, a1, a2, some (.int (x + 1))] [] M 0 0 Z := R_iinc (gd9 dX1_wind_109) (by decide) rfl rfl
theorem z9_112 : Run d 9 112 [a0, a1, a2, a3] [] M 0 0 Z ↔ Run d 9 46 [a0, a1, a2, a3] [] M 0 0 Z := R_goto (gd9 dX1_wind_112) (show gTgt 112 (-66) = some 46 by decide)
theorem z9_115 : Run d 9 115 [some (.ref o), a1, a2, a3] [] M 0 0 Z ↔ Run d 9 116 [some (.ref o), a1, a2, a3] [.ref o] M 0 0 Z := R_local (gd9 dX1_wind_115) rfl rfl rfl
theorem z9_116 : Run d 9 116 [a0, a1, a2, a3] [.ref o] M 0 0 Z ↔ Run d 9 117 [a0, a1, a2, a3] [.ref o, .ref o] M 0 0 Z := R_arith (gd9 dX1_wind_116) rfl
theorem z9_117 : Run d 9 117 [a0, a1, a2, a3] [.ref o, s0] M 0 0 Z ↔ gObj M o 1 ∧ Run d 9 120 [a0, a1, a2, a3] [.int (M.1 o 9), s0] M 0 0 Z := R_getI (gd9 dX1_wind_117) rfl gf_1_44 rfl
theorem z9_120 : Run d 9 120 [a0, a1, a2, a3] [s1, s0] M 0 0 Z ↔ Run d 9 121 [a0, a1, a2, a3] [.int 1, s1, s0] M 0 0 Z := R_iconst (gd9 dX1_wind_120) (by decide)
theorem z9_121 : Run d 9 121 [a0, a1, a2, a3] [.int y, .int x, s0] M 0 0 Z ↔ Run d 9 122 [a0, a1, a2, a3] [.int (x + y), s0] M 0 0 Z := R_arith (gd9 dX1_wind_121) rfl
theorem z9_122 : Run d 9 122 [a0, a1, a2, a3] [.int x, .ref o] M 0 0 Z ↔ gObj M o 1 ∧ Run d 9 125 [a0, a1, a2, a3] [] (gsI M o 9 x) 0 0 Z := R_putI (gd9 dX1_wind_122) rfl gf_1_44 (Or.inl rfl) rfl
theorem z9_125 : Run d 9 125 [a0, a1, a2, a3] [] M 0 0 Z ↔ Run d 9 126 [a0, a1, a2, a3] [.int 0] M 0 0 Z := R_iconst (gd9 dX1_wind_125) (by decide)
theorem z9_126 : Run d 9 126 [a0, a1, a2, a3] [.int x] M 0 0 Z ↔ Z (some (.int x)) M := R_iret (gd9 dX1_wind_126) rfl
theorem e9 : Call (d + 1) 9 [s0, s1] M Z ↔ Run d 9 0 [some s0, some s1, none, none] [] M 0 0 Z := Call_iff (Nat.lt_of_lt_of_le (Nat.lt_succ_self 9) (Nat.le_of_ble_eq_true rfl)) (Nat.le_of_ble_eq_true rfl)
/-! 10: X1_pleat (II)I -/
theorem gd10 {pc : Nat} {r : Except _ _} (h : decode cX1_pleat pc = r) : decode (gby 10) pc = r := h
theorem z10_0 : Run d 10 0 [a0, some (.int x), a2, a3] [] M 0 0 Z ↔ Run d 10 1 [a0, some (.int x), a2, a3] [.int x] M 0 0 Z := R_local (gd10 dX1_pleat_0) rfl rfl rfl
theorem z10_1 : Run d 10 1 [a0, a1, a2, a3] [s0] M 0 0 Z ↔ Call d 8 [s0] M (fun r M1 => Run d 10 4 [a0, a1, a2, a3] (r.toList ++ []) M1 0 0 Z) := R_call (gd10 dX1_pleat_1) rfl rfl rfl rfl rfl rfl gc_1_83 rfl (by decide) (Nat.le_of_ble_eq_true rfl) (Nat.le_of_ble_eq_true rfl) rfl rfl rfl (Nat.le_of_ble_eq_true rfl) (Nat.le_of_ble_eq_true rfl)
theorem z10_4 : Run d 10 4 [a0, a1, a2, a3] [.int x] M 0 0 Z ↔ (x = 0 → Run d 10 18 [a0, a1, a2, a3] [] M 0 0 Z) ∧ (¬ (x = 0) → Run d 10 7 [a0, a1, a2, a3] [] M 0 0 Z) := R_if (gd10 dX1_pleat_4) (show gTgt 4 14 = some 18 by decide) gIf_eq
theorem z10_7 : Run d 10 7 [a0, a1, some (.int x), a3] [] M 0 0 Z ↔ Run d 10 8 [a0, a1, some (.int x), a3] [.int x] M 0 0 Z := R_local (gd10 dX1_pleat_7) rfl rfl rfl
theorem z10_8 : Run d 10 8 [a0, a1, a2, a3] [s0] M 0 0 Z ↔ Call d 8 [s0] M (fun r M1 => Run d 10 11 [a0, a1, a2, a3] (r.toList ++ []) M1 0 0 Z) := R_call (gd10 dX1_pleat_8) rfl rfl rfl rfl rfl rfl gc_1_83 rfl (by decide) (Nat.le_of_ble_eq_true rfl) (Nat.le_of_ble_eq_true rfl) rfl rfl rfl (Nat.le_of_ble_eq_true rfl) (Nat.le_of_ble_eq_true rfl)
theorem z10_11 : Run d 10 11 [a0, a1, a2, a3] [.int x] M 0 0 Z ↔ (x = 0 → Run d 10 18 [a0, a1, a2, a3] [] M 0 0 Z) ∧ (¬ (x = 0) → Run d 10 14 [a0, a1, a2, a3] [] M 0 0 Z) := R_if (gd10 dX1_pleat_11) (show gTgt 11 7 = some 18 by decide) gIf_eq
theorem z10_14 : Run d 10 14 [a0, a1, some (.int x), a3] [] M 0 0 Z ↔ Run d 10 15 [a0, a1, some (.int x), a3] [.int x] M 0 0 Z := R_local (gd10 dX1_pleat_14) rfl rfl rfl
theorem z10_15 : Run d 10 15 [a0, a1, a2, a3] [.int x] M 0 0 Z ↔ (¬ x = 0 → Run d 10 20 [a0, a1, a2, a3] [] M 0 0 Z) ∧ (¬ (¬ x = 0) → Run d 10 18 [a0, a1, a2, a3] [] M 0 0 Z) := R_if (gd10 dX1_pleat_15) (show gTgt 15 5 = some 20 by decide) gIf_ne
theorem z10_18 : Run d 10 18 [a0, a1, a2, a3] [] M 0 0 Z ↔ Run d 10 19 [a0, a1, a2, a3] [.int 4] M 0 0 Z := R_iconst (gd10 dX1_pleat_18) (by decide)
theorem z10_19 : Run d 10 19 [a0, a1, a2, a3] [.int x] M 0 0 Z ↔ Z (some (.int x)) M := R_iret (gd10 dX1_pleat_19) rfl
theorem z10_20 : Run d 10 20 [a0, a1, a2, a3] [] M 0 0 Z ↔ Run d 10 21 [a0, a1, a2, a3] [.int 2] M 0 0 Z := R_iconst (gd10 dX1_pleat_20) (by decide)
theorem z10_21 : Run d 10 21 [a0, some (.int x), a2, a3] [s0] M 0 0 Z ↔ Run d 10 22 [a0, some (.int x), a2, a3] [.int x, s0] M 0 0 Z := R_local (gd10 dX1_pleat_21) rfl rfl rfl
theorem z10_22 : Run d 10 22 [a0, a1, a2, a3] [.int y, .int x] M 0 0 Z ↔ Run d 10 23 [a0, a1, a2, a3] [.int (x * y)] M 0 0 Z := R_arith (gd10 dX1_pleat_22) rfl
theorem z10_23 : Run d 10 23 [a0, a1, some (.int x), a3] [s0] M 0 0 Z ↔ Run d 10 24 [a0, a1, some (.int x), a3] [.int x, s0] M 0 0 Z := R_local (gd10 dX1_pleat_23) rfl rfl rfl
theorem z10_24 : Run d 10 24 [a0, a1, a2, a3] [.int y, .int x] M 0 0 Z ↔ Run d 10 25 [a0, a1, a2, a3] [.int (x * y)] M 0 0 Z := R_arith (gd10 dX1_pleat_24) rfl
theorem z10_25 : Run d 10 25 [some (.ref o), a1, a2, a3] [s0] M 0 0 Z ↔ Run d 10 26 [some (.ref o), a1, a2, a3] [.ref o, s0] M 0 0 Z := R_local (gd10 dX1_pleat_25) rfl rfl rfl
theorem z10_26 : Run d 10 26 [a0, a1, a2, a3] [.ref b, s0] M 0 0 Z ↔ gObj M b 1 ∧ Call d 6 [.ref b] M (fun r M1 => Run d 10 29 [a0, a1, a2, a3] (r.toList ++ [s0]) M1 0 0 Z) := R_callV (gd10 dX1_pleat_26) rfl rfl rfl rfl rfl rfl gc_1_91 rfl rfl (Nat.le_of_ble_eq_true rfl) (Nat.le_of_ble_eq_true rfl) rfl rfl (Nat.le_of_ble_eq_true rfl) (Nat.le_of_ble_eq_true rfl)
theorem z10_29 : Run d 10 29 [a0, a1, a2, a3] [.int y, .int x] M 0 0 Z ↔ (x ≤ y → Run d 10 34 [a0, a1, a2, a3] [] M 0 0 Z) ∧ (¬ (x ≤ y) → Run d 10 32 [a0, a1, a2, a3] [] M 0 0 Z) := R_icmp (gd10 dX1_pleat_29) (show gTgt 29 5 = some 34 by decide) gIf_le
theorem z10_32 : Run d 10 32 [a0, a1, a2, a3] [] M 0 0 Z ↔ Run d 10 33 [a0, a1, a2, a3] [.int 1] M 0 0 Z := R_iconst (gd10 dX1_pleat_32) (by decide)
theorem z10_33 : Run d 10 33 [a0, a1, a2, a3] [.int x] M 0 0 Z ↔ Z (some (.int x)) M := R_iret (gd10 dX1_pleat_33) rfl
theorem z10_34 : Run d 10 34 [some (.ref o), a1, a2, a3] [] M 0 0 Z ↔ Run d 10 35 [some (.ref o), a1, a2, a3] [.ref o] M 0 0 Z := R_local (gd10 dX1_pleat_34) rfl rfl rfl
theorem z10_35 : Run d 10 35 [a0, a1, a2, a3] [.ref o] M 0 0 Z ↔ gObj M o 1 ∧ Run d 10 38 [a0, a1, a2, a3] [va_rf (M.2.1 o 0)] M 0 0 Z := R_getR (gd10 dX1_pleat_35) rfl gf_1_12 rfl
theorem z10_38 : Run d 10 38 [a0, a1, a2, a3] [.ref o] M 0 0 Z ↔ gObj M o 4 ∧ Run d 10 41 [a0, a1, a2, a3] [.int (M.1 o 8)] M 0 0 Z := R_getI (gd10 dX1_pleat_38) rfl gf_1_74 rfl
theorem z10_41 : Run d 10 41 [a0, a1, a2, a3] [s0] M 0 0 Z ↔ Run d 10 42 [a0, a1, a2, a3] [.int 2, s0] M 0 0 Z := R_iconst (gd10 dX1_pleat_41) (by decide)
theorem z10_42 : Run d 10 42 [a0, some (.int x), a2, a3] [s1, s0] M 0 0 Z ↔ Run d 10 43 [a0, some (.int x), a2, a3] [.int x, s1, s0] M 0 0 Z := R_local (gd10 dX1_pleat_42) rfl rfl rfl
theorem z10_43 : Run d 10 43 [a0, a1, a2, a3] [.int y, .int x, s0] M 0 0 Z ↔ Run d 10 44 [a0, a1, a2, a3] [.int (x * y), s0] M 0 0 Z := R_arith (gd10 dX1_pleat_43) rfl
theorem z10_44 : Run d 10 44 [a0, a1, a2, a3] [.int y, .int x] M 0 0 Z ↔ Run d 10 45 [a0, a1, a2, a3] [.int (x + y)] M 0 0 Z := R_arith (gd10 dX1_pleat_44) rfl
theorem z10_45 : Run d 10 45 [a0, a1, a2, a3] [s0] M 0 0 Z ↔ Run d 10 48 [a0, a1, a2, a3] [.int 400, s0] M 0 0 Z := R_sipush (gd10 dX1_pleat_45) (by decide)
theorem z10_48 : Run d 10 48 [a0, a1, a2, a3] [.int y, .int x] M 0 0 Z ↔ (x ≤ y → Run d 10 54 [a0, a1, a2, a3] [] M 0 0 Z) ∧ (¬ (x ≤ y) → Run d 10 51 [a0, a1, a2, a3] [] M 0 0 Z) := R_icmp (gd10 dX1_pleat_48) (show gTgt 48 6 = some 54 by decide) gIf_le
theorem z10_51 : Run d 10 51 [a0, a1, a2, a3] [] M 0 0 Z ↔ Run d 10 53 [a0, a1, a2, a3] [.int 6] M 0 0 Z := R_bipush (gd10 dX1_pleat_51) (by decide)
theorem z10_53 : Run d 10 53 [a0, a1, a2, a3] [.int x] M 0 0 Z ↔ Z (some (.int x)) M := R_iret (gd10 dX1_pleat_53) rfl
theorem z10_54 : Run d 10 54 [a0, a1, a2, a3] [] M 0 0 Z ↔ Run d 10 55 [a0, a1, a2, a3] [.int 0] M 0 0 Z := R_iconst (gd10 dX1_pleat_54) (by decide)
theorem z10_55 : Run d 10 55 [a0, a1, a2, a3] [.int x] M 0 0 Z ↔ Run d 10 56 [a0, a1, a2, some (.int x)] [] M 0 0 Z := R_local (gd10 dX1_pleat_55) rfl rfl rfl
theorem z10_56 : Run d 10 56 [a0, a1, a2, some (.int x)] [] M 0 0 Z ↔ Run d 10 57 [a0, a1, a2, some (.int x)] [.int x] M 0 0 Z := R_local (gd10 dX1_pleat_56) rfl rfl rfl
theorem z10_57 : Run d 10 57 [a0, some (.int x), a2, a3] [s0] M 0 0 Z ↔ Run d 10 58 [a0, some (.int x), a2, a3] [.int x, s0] M 0 0 Z := R_local (gd10 dX1_pleat_57) rfl rfl rfl
theorem z10_58 : Run d 10 58 [a0, a1, a2, a3] [.int y, .int x] M 0 0 Z ↔ (y ≤ x → Run d 10 147 [a0, a1, a2, a3] [] M 0 0 Z) ∧ (¬ (y ≤ x) → Run d 10 61 [a0, a1, a2, a3] [] M 0 0 Z) := R_icmp (gd10 dX1_pleat_58) (show gTgt 58 89 = some 147 by decide) gIf_ge
theorem z10_61 : Run d 10 61 [some (.ref o), a1, a2, a3] [] M 0 0 Z ↔ Run d 10 62 [some (.ref o), a1, a2, a3] [.ref o] M 0 0 Z := R_local (gd10 dX1_pleat_61) rfl rfl rfl
theorem z10_62 : Run d 10 62 [a0, a1, a2, a3] [.ref o] M 0 0 Z ↔ gObj M o 1 ∧ Run d 10 65 [a0, a1, a2, a3] [va_rf (M.2.1 o 0)] M 0 0 Z := R_getR (gd10 dX1_pleat_62) rfl gf_1_12 rfl
theorem z10_65 : Run d 10 65 [some (.ref o), a1, a2, a3] [s0] M 0 0 Z ↔ Run d 10 66 [some (.ref o), a1, a2, a3] [.ref o, s0] M 0 0 Z := R_local (gd10 dX1_pleat_65) rfl rfl rfl
theorem z10_66 : Run d 10 66 [a0, a1, a2, a3] [.ref o, s0] M 0 0 Z ↔ gObj M o 1 ∧ Run d 10 69 [a0, a1, a2, a3] [.int (M.1 o 9), s0] M 0 0 Z := R_getI (gd10 dX1_pleat_66) rfl gf_1_44 rfl
theorem z10_69 : Run d 10 69 [some (.ref o), a1, a2, a3] [s1, s0] M 0 0 Z ↔ Run d 10 70 [some (.ref o), a1, a2, a3] [.ref o, s1, s0] M 0 0 Z := R_local (gd10 dX1_pleat_69) rfl rfl rfl
theorem z10_70 : Run d 10 70 [a0, a1, a2, a3] [.ref o, s1, s0] M 0 0 Z ↔ gObj M o 1 ∧ Run d 10 73 [a0, a1, a2, a3] [.int (M.1 o 5), s1, s0] M 0 0 Z := R_getI (gd10 dX1_pleat_70) rfl gf_1_32 rfl
theorem z10_73 : Run d 10 73 [some (.ref o), a1, a2, a3] [s2, s1, s0] M 0 0 Z ↔ Run d 10 74 [some (.ref o), a1, a2, a3] [.ref o, s2, s1, s0] M 0 0 Z := R_local (gd10 dX1_pleat_73) rfl rfl rfl
theorem z10_74 : Run d 10 74 [a0, a1, a2, a3] [.ref o, s2, s1, s0] M 0 0 Z ↔ gObj M o 1 ∧ Run d 10 77 [a0, a1, a2, a3] [.int (M.1 o 6), s2, s1, s0] M 0 0 Z := R_getI (gd10 dX1_pleat_74) rfl gf_1_35 rfl
theorem z10_77 : Run d 10 77 [some (.ref o), a1, a2, a3] [s3, s2, s1, s0] M 0 0 Z ↔ Run d 10 78 [some (.ref o), a1, a2, a3] [.ref o, s3, s2, s1, s0] M 0 0 Z := R_local (gd10 dX1_pleat_77) rfl rfl rfl
theorem z10_78 : Run d 10 78 [a0, a1, a2, a3] [.ref o, s3, s2, s1, s0] M 0 0 Z ↔ gObj M o 1 ∧ Run d 10 81 [a0, a1, a2, a3] [.int (M.1 o 4), s3, s2, s1, s0] M 0 0 Z := R_getI (gd10 dX1_pleat_78) rfl gf_1_29 rfl
theorem z10_81 : Run d 10 81 [a0, a1, some (.int x), a3] [s4, s3, s2, s1, s0] M 0 0 Z ↔ Run d 10 82 [a0, a1, some (.int x), a3] [.int x, s4, s3, s2, s1, s0] M 0 0 Z := R_local (gd10 dX1_pleat_81) rfl rfl rfl
theorem z10_82 : Run d 10 82 [some (.ref o), a1, a2, a3] [s5, s4, s3, s2, s1, s0] M 0 0 Z ↔ Run d 10 83 [some (.ref o), a1, a2, a3] [.ref o, s5, s4, s3, s2, s1, s0] M 0 0 Z := R_local (gd10 dX1_pleat_82) rfl rfl rfl
theorem z10_83 : Run d 10 83 [a0, a1, a2, a3] [.ref o, s5, s4, s3, s2, s1, s0] M 0 0 Z ↔ gObj M o 1 ∧ Run d 10 86 [a0, a1, a2, a3] [.int (M.1 o 3), s5, s4, s3, s2, s1, s0] M 0 0 Z := R_getI (gd10 dX1_pleat_83) rfl gf_1_26 rfl
theorem z10_86 : Run d 10 86 [a0, a1, a2, a3] [s6, s5, s4, s3, s2, s1, s0] M 0 0 Z ↔ Run d 10 87 [a0, a1, a2, a3] [.int 1, s6, s5, s4, s3, s2, s1, s0] M 0 0 Z := R_iconst (gd10 dX1_pleat_86) (by decide)
theorem z10_87 : Run d 10 87 [some (.ref o), a1, a2, a3] [s7, s6, s5, s4, s3, s2, s1, s0] M 0 0 Z ↔ Run d 10 88 [some (.ref o), a1, a2, a3] [.ref o, s7, s6, s5, s4, s3, s2, s1, s0] M 0 0 Z := R_local (gd10 dX1_pleat_87) rfl rfl rfl
theorem z10_88 : Run d 10 88 [a0, a1, a2, a3] [.ref o, s7, s6, s5, s4, s3, s2, s1, s0] M 0 0 Z ↔ gObj M o 1 ∧ Run d 10 91 [a0, a1, a2, a3] [.int (M.1 o 8), s7, s6, s5, s4, s3, s2, s1, s0] M 0 0 Z := R_getI (gd10 dX1_pleat_88) rfl gf_1_41 rfl
theorem z10_91 : Run d 10 91 [a0, a1, a2, a3] [.int y, .int x, s6, s5, s4, s3, s2, s1, s0] M 0 0 Z ↔ Run d 10 92 [a0, a1, a2, a3] [.int (x - y), s6, s5, s4, s3, s2, s1, s0] M 0 0 Z := R_arith (gd10 dX1_pleat_91) rfl
theorem z10_92 : Run d 10 92 [a0, a1, a2, a3] [s7, s6, s5, s4, s3, s2, s1, .ref b] M 0 0 Z ↔ gObj M b 4 ∧ Call d 40 [.ref b, s1, s2, s3, s4, s5, s6, s7] M (fun r M1 => Run d 10 95 [a0, a1, a2, a3] (r.toList ++ []) M1 0 0 Z) := R_callV (gd10 dX1_pleat_92) rfl rfl rfl rfl rfl rfl gc_1_94 rfl rfl (Nat.le_of_ble_eq_true rfl) (Nat.le_of_ble_eq_true rfl) rfl rfl (Nat.le_of_ble_eq_true rfl) (Nat.le_of_ble_eq_true rfl)
theorem z10_95 : Run d 10 95 [some (.ref o), a1, a2, a3] [] M 0 0 Z ↔ Run d 10 96 [some (.ref o), a1, a2, a3] [.ref o] M 0 0 Z := R_local (gd10 dX1_pleat_95) rfl rfl rfl
theorem z10_96 : Run d 10 96 [a0, a1, a2, a3] [.ref o] M 0 0 Z ↔ gObj M o 1 ∧ Run d 10 99 [a0, a1, a2, a3] [va_rf (M.2.1 o 0)] M 0 0 Z := R_getR (gd10 dX1_pleat_96) rfl gf_1_12 rfl
theorem z10_99 : Run d 10 99 [some (.ref o), a1, a2, a3] [s0] M 0 0 Z ↔ Run d 10 100 [some (.ref o), a1, a2, a3] [.ref o, s0] M 0 0 Z := R_local (gd10 dX1_pleat_99) rfl rfl rfl
theorem z10_100 : Run d 10 100 [a0, a1, a2, a3] [.ref o, s0] M 0 0 Z ↔ gObj M o 1 ∧ Run d 10 103 [a0, a1, a2, a3] [.int (M.1 o 9), s0] M 0 0 Z := R_getI (gd10 dX1_pleat_100) rfl gf_1_44 rfl
theorem z10_103 : Run d 10 103 [some (.ref o), a1, a2, a3] [s1, s0] M 0 0 Z ↔ Run d 10 104 [some (.ref o), a1, a2, a3] [.ref o, s1, s0] M 0 0 Z := R_local (gd10 dX1_pleat_103) rfl rfl rfl
theorem z10_104 : Run d 10 104 [a0, a1, a2, a3] [.ref o, s1, s0] M 0 0 Z ↔ gObj M o 1 ∧ Run d 10 107 [a0, a1, a2, a3] [.int (M.1 o 5), s1, s0] M 0 0 Z := R_getI (gd10 dX1_pleat_104) rfl gf_1_32 rfl
theorem z10_107 : Run d 10 107 [some (.ref o), a1, a2, a3] [s2, s1, s0] M 0 0 Z ↔ Run d 10 108 [some (.ref o), a1, a2, a3] [.ref o, s2, s1, s0] M 0 0 Z := R_local (gd10 dX1_pleat_107) rfl rfl rfl
theorem z10_108 : Run d 10 108 [a0, a1, a2, a3] [.ref o, s2, s1, s0] M 0 0 Z ↔ gObj M o 1 ∧ Run d 10 111 [a0, a1, a2, a3] [.int (M.1 o 6), s2, s1, s0] M 0 0 Z := R_getI (gd10 dX1_pleat_108) rfl gf_1_35 rfl
theorem z10_111 : Run d 10 111 [some (.ref o), a1, a2, a3] [s3, s2, s1, s0] M 0 0 Z ↔ Run d 10 112 [some (.ref o), a1, a2, a3] [.ref o, s3, s2, s1, s0] M 0 0 Z := R_local (gd10 dX1_pleat_111) rfl rfl rfl
theorem z10_112 : Run d 10 112 [a0, a1, a2, a3] [.ref o, s3, s2, s1, s0] M 0 0 Z ↔ gObj M o 1 ∧ Run d 10 115 [a0, a1, a2, a3] [.int (M.1 o 4), s3, s2, s1, s0] M 0 0 Z := R_getI (gd10 dX1_pleat_112) rfl gf_1_29 rfl
theorem z10_115 : Run d 10 115 [a0, a1, some (.int x), a3] [s4, s3, s2, s1, s0] M 0 0 Z ↔ Run d 10 116 [a0, a1, some (.int x), a3] [.int x, s4, s3, s2, s1, s0] M 0 0 Z := R_local (gd10 dX1_pleat_115) rfl rfl rfl
theorem z10_116 : Run d 10 116 [a0, a1, a2, a3] [.int y, .int x, s3, s2, s1, s0] M 0 0 Z ↔ Run d 10 117 [a0, a1, a2, a3] [.int (x + y), s3, s2, s1, s0] M 0 0 Z := R_arith (gd10 dX1_pleat_116) rfl
theorem z10_117 : Run d 10 117 [a0, a1, some (.int x), a3] [s4, s3, s2, s1, s0] M 0 0 Z ↔ Run d 10 118 [a0, a1, some (.int x), a3] [.int x, s4, s3, s2, s1, s0] M 0 0 Z := R_local (gd10 dX1_pleat_117) rfl rfl rfl
theorem z10_118 : Run d 10 118 [some (.ref o), a1, a2, a3] [s5, s4, s3, s2, s1, s0] M 0 0 Z ↔ Run d 10 119 [some (.ref o), a1, a2, a3] [.ref o, s5, s4, s3, s2, s1, s0] M 0 0 Z := R_local (gd10 dX1_pleat_118) rfl rfl rfl
theorem z10_119 : Run d 10 119 [a0, a1, a2, a3] [.ref o, s5, s4, s3, s2, s1, s0] M 0 0 Z ↔ gObj M o 1 ∧ Run d 10 122 [a0, a1, a2, a3] [.int (M.1 o 3), s5, s4, s3, s2, s1, s0] M 0 0 Z := R_getI (gd10 dX1_pleat_119) rfl gf_1_26 rfl
theorem z10_122 : Run d 10 122 [some (.ref o), a1, a2, a3] [s6, s5, s4, s3, s2, s1, s0] M 0 0 Z ↔ Run d 10 123 [some (.ref o), a1, a2, a3] [.ref o, s6, s5, s4, s3, s2, s1, s0] M 0 0 Z := R_local (gd10 dX1_pleat_122) rfl rfl rfl
theorem z10_123 : Run d 10 123 [a0, a1, a2, a3] [.ref o, s6, s5, s4, s3, s2, s1, s0] M 0 0 Z ↔ gObj M o 1 ∧ Run d 10 126 [a0, a1, a2, a3] [.int (M.1 o 8), s6, s5, s4, s3, s2, s1, s0] M 0 0 Z := R_getI (gd10 dX1_pleat_123) rfl gf_1_41 rfl
theorem z10_126 : Run d 10 126 [a0, a1, a2, a3] [s7, s6, s5, s4, s3, s2, s1, .ref b] M 0 0 Z ↔ gObj M b 4 ∧ Call d 40 [.ref b, s1, s2, s3, s4, s5, s6, s7] M (fun r M1 => Run d 10 129 [a0, a1, a2, a3] (r.toList ++ []) M1 0 0 Z) := R_callV (gd10 dX1_pleat_126) rfl rfl rfl rfl rfl rfl gc_1_94 rfl rfl (Nat.le_of_ble_eq_true rfl) (Nat.le_of_ble_eq_true rfl) rfl rfl (Nat.le_of_ble_eq_true rfl) (Nat.le_of_ble_eq_true rfl)
theorem z10_129 : Run d 10 129 [some (.ref o), a1, a2, a3] [] M 0 0 Z ↔ Run d 10 130 [some (.ref o), a1, a2, a3] [.ref o] M 0 0 Z := R_local (gd10 dX1_pleat_129) rfl rfl rfl
theorem z10_130 : Run d 10 130 [a0, a1, a2, a3] [.ref o] M 0 0 Z ↔ Run d 10 131 [a0, a1, a2, a3] [.ref o, .ref o] M 0 0 Z := R_arith (gd10 dX1_pleat_130) rfl
theorem z10_131 : Run d 10 131 [a0, a1, a2, a3] [.ref o, s0] M 0 0 Z ↔ gObj M o 1 ∧ Run d 10 134 [a0, a1, a2, a3] [.int (M.1 o 4), s0] M 0 0 Z := R_getI (gd10 dX1_pleat_131) rfl gf_1_29 rfl
theorem z10_134 : Run d 10 134 [a0, a1, a2, a3] [s1, s0] M 0 0 Z ↔ Run d 10 135 [a0, a1, a2, a3] [.int 2, s1, s0] M 0 0 Z := R_iconst (gd10 dX1_pleat_134) (by decide)
theorem z10_135 : Run d 10 135 [a0, a1, some (.int x), a3] [s2, s1, s0] M 0 0 Z ↔ Run d 10 136 [a0, a1, some (.int x), a3] [.int x, s2, s1, s0] M 0 0 Z := R_local (gd10 dX1_pleat_135) rfl rfl rfl
theorem z10_136 : Run d 10 136 [a0, a1, a2, a3] [.int y, .int x, s1, s0] M 0 0 Z ↔ Run d 10 137 [a0, a1, a2, a3] [.int (x * y), s1, s0] M 0 0 Z := R_arith (gd10 dX1_pleat_136) rfl
theorem z10_137 : Run d 10 137 [a0, a1, a2, a3] [.int y, .int x, s0] M 0 0 Z ↔ Run d 10 138 [a0, a1, a2, a3] [.int (x + y), s0] M 0 0 Z := R_arith (gd10 dX1_pleat_137) rfl
theorem z10_138 : Run d 10 138 [a0, a1, a2, a3] [.int x, .ref o] M 0 0 Z ↔ gObj M o 1 ∧ Run d 10 141 [a0, a1, a2, a3] [] (gsI M o 4 x) 0 0 Z := R_putI (gd10 dX1_pleat_138) rfl gf_1_29 (Or.inl rfl) rfl
theorem z10_141 : Run d 10 141 [a0, a1, a2, some (.int x)] [] M 0 0 Z ↔ Run d 10 144 [a0, a1, a2, some (.int (x + 1))] [] M 0 0 Z := R_iinc (gd10 dX1_pleat_141) (by decide) rfl rfl
theorem z10_144 : Run d 10 144 [a0, a1, a2, a3] [] M 0 0 Z ↔ Run d 10 56 [a0, a1, a2, a3] [] M 0 0 Z := R_goto (gd10 dX1_pleat_144) (show gTgt 144 (-88) = some 56 by decide)
theorem z10_147 : Run d 10 147 [some (.ref o), a1, a2, a3] [] M 0 0 Z ↔ Run d 10 148 [some (.ref o), a1, a2, a3] [.ref o] M 0 0 Z := R_local (gd10 dX1_pleat_147) rfl rfl rfl
theorem z10_148 : Run d 10 148 [a0, a1, a2, a3] [.ref o] M 0 0 Z ↔ Run d 10 149 [a0, a1, a2, a3] [.ref o, .ref o] M 0 0 Z := R_arith (gd10 dX1_pleat_148) rfl
theorem z10_149 : Run d 10 149 [a0, a1, a2, a3] [.ref o, s0] M 0 0 Z ↔ gObj M o 1 ∧ Run d 10 152 [a0, a1, a2, a3] [.int (M.1 o 9), s0] M 0 0 Z := R_getI (gd10 dX1_pleat_149) rfl gf_1_44 rfl
theorem z10_152 : Run d 10 152 [a0, a1, a2, a3] [s1, s0] M 0 0 Z ↔ Run d 10 153 [a0, a1, a2, a3] [.int 1, s1, s0] M 0 0 Z := R_iconst (gd10 dX1_pleat_152) (by decide)
theorem z10_153 : Run d 10 153 [a0, a1, a2, a3] [.int y, .int x, s0] M 0 0 Z ↔ Run d 10 154 [a0, a1, a2, a3] [.int (x + y), s0] M 0 0 Z := R_arith (gd10 dX1_pleat_153) rfl
theorem z10_154 : Run d 10 154 [a0, a1, a2, a3] [.int x, .ref o] M 0 0 Z ↔ gObj M o 1 ∧ Run d 10 157 [a0, a1, a2, a3] [] (gsI M o 9 x) 0 0 Z := R_putI (gd10 dX1_pleat_154) rfl gf_1_44 (Or.inl rfl) rfl
theorem z10_157 : Run d 10 157 [a0, a1, a2, a3] [] M 0 0 Z ↔ Run d 10 158 [a0, a1, a2, a3] [.int 0] M 0 0 Z := R_iconst (gd10 dX1_pleat_157) (by decide)
theorem z10_158 : Run d 10 158 [a0, a1, a2, a3] [.int x] M 0 0 Z ↔ Z (some (.int x)) M := R_iret (gd10 dX1_pleat_158) rfl
theorem e10 : Call (d + 1) 10 [s0, s1, s2] M Z ↔ Run d 10 0 [some s0, some s1, some s2, none] [] M 0 0 Z := Call_iff (Nat.lt_of_lt_of_le (Nat.lt_succ_self 10) (Nat.le_of_ble_eq_true rfl)) (Nat.le_of_ble_eq_true rfl)
/-! 11: X1_tuck ()I -/
theorem gd11 {pc : Nat} {r : Except _ _} (h : decode cX1_tuck pc = r) : decode (gby 11) pc = r := h
theorem z11_0 : Run d 11 0 [some (.ref o)] [] M 0 0 Z ↔ Run d 11 1 [some (.ref o)] [.ref o] M 0 0 Z := R_local (gd11 dX1_tuck_0) rfl rfl rfl
theorem z11_1 : Run d 11 1 [a0] [.ref o] M 0 0 Z ↔ gObj M o 1 ∧ Run d 11 4 [a0] [va_rf (M.2.1 o 0)] M 0 0 Z := R_getR (gd11 dX1_tuck_1) rfl gf_1_12 rfl
theorem z11_4 : Run d 11 4 [a0] [.ref b] M 0 0 Z ↔ gObj M b 4 ∧ Call d 42 [.ref b] M (fun r M1 => Run d 11 7 [a0] (r.toList ++ []) M1 0 0 Z) := R_callV (gd11 dX1_tuck_4) rfl rfl rfl rfl rfl rfl gc_1_98 rfl rfl (Nat.le_of_ble_eq_true rfl) (Nat.le_of_ble_eq_true rfl) rfl rfl (Nat.le_of_ble_eq_true rfl) (Nat.le_of_ble_eq_true rfl)
theorem z11_7 : Run d 11 7 [a0] [.int x] M 0 0 Z ↔ (¬ x = 0 → Run d 11 13 [a0] [] M 0 0 Z) ∧ (¬ (¬ x = 0) → Run d 11 10 [a0] [] M 0 0 Z) := R_if (gd11 dX1_tuck_7) (show gTgt 7 6 = some 13 by decide) gIf_ne
theorem z11_10 : Run d 11 10 [a0] [] M 0 0 Z ↔ Run d 11 12 [a0] [.int 6] M 0 0 Z := R_bipush (gd11 dX1_tuck_10) (by decide)
theorem z11_12 : Run d 11 12 [a0] [.int x] M 0 0 Z ↔ Z (some (.int x)) M := R_iret (gd11 dX1_tuck_12) rfl
theorem z11_13 : Run d 11 13 [some (.ref o)] [] M 0 0 Z ↔ Run d 11 14 [some (.ref o)] [.ref o] M 0 0 Z := R_local (gd11 dX1_tuck_13) rfl rfl rfl
theorem z11_14 : Run d 11 14 [a0] [.ref o] M 0 0 Z ↔ Run d 11 15 [a0] [.ref o, .ref o] M 0 0 Z := R_arith (gd11 dX1_tuck_14) rfl
theorem z11_15 : Run d 11 15 [a0] [.ref o, s0] M 0 0 Z ↔ gObj M o 1 ∧ Run d 11 18 [a0] [.int (M.1 o 10), s0] M 0 0 Z := R_getI (gd11 dX1_tuck_15) rfl gf_1_47 rfl
theorem z11_18 : Run d 11 18 [a0] [s1, s0] M 0 0 Z ↔ Run d 11 19 [a0] [.int 1, s1, s0] M 0 0 Z := R_iconst (gd11 dX1_tuck_18) (by decide)
theorem z11_19 : Run d 11 19 [a0] [.int y, .int x, s0] M 0 0 Z ↔ Run d 11 20 [a0] [.int (x + y), s0] M 0 0 Z := R_arith (gd11 dX1_tuck_19) rfl
theorem z11_20 : Run d 11 20 [a0] [.int x, .ref o] M 0 0 Z ↔ gObj M o 1 ∧ Run d 11 23 [a0] [] (gsI M o 10 x) 0 0 Z := R_putI (gd11 dX1_tuck_20) rfl gf_1_47 (Or.inl rfl) rfl
theorem z11_23 : Run d 11 23 [a0] [] M 0 0 Z ↔ Run d 11 24 [a0] [.int 0] M 0 0 Z := R_iconst (gd11 dX1_tuck_23) (by decide)
theorem z11_24 : Run d 11 24 [a0] [.int x] M 0 0 Z ↔ Z (some (.int x)) M := R_iret (gd11 dX1_tuck_24) rfl
theorem e11 : Call (d + 1) 11 [s0] M Z ↔ Run d 11 0 [some s0] [] M 0 0 Z := Call_iff (Nat.lt_of_lt_of_le (Nat.lt_succ_self 11) (Nat.le_of_ble_eq_true rfl)) (Nat.le_of_ble_eq_true rfl)
/-! 12: X1_climb (II)I -/
theorem gd12 {pc : Nat} {r : Except _ _} (h : decode cX1_climb pc = r) : decode (gby 12) pc = r := h
theorem z12_0 : Run d 12 0 [a0, some (.int x), a2, a3] [] M 0 0 Z ↔ Run d 12 1 [a0, some (.int x), a2, a3] [.int x] M 0 0 Z := R_local (gd12 dX1_climb_0) rfl rfl rfl
theorem z12_1 : Run d 12 1 [a0, a1, a2, a3] [s0] M 0 0 Z ↔ Call d 8 [s0] M (fun r M1 => Run d 12 4 [a0, a1, a2, a3] (r.toList ++ []) M1 0 0 Z) := R_call (gd12 dX1_climb_1) rfl rfl rfl rfl rfl rfl gc_1_83 rfl (by decide) (Nat.le_of_ble_eq_true rfl) (Nat.le_of_ble_eq_true rfl) rfl rfl rfl (Nat.le_of_ble_eq_true rfl) (Nat.le_of_ble_eq_true rfl)
theorem z12_4 : Run d 12 4 [a0, a1, a2, a3] [.int x] M 0 0 Z ↔ (¬ x = 0 → Run d 12 9 [a0, a1, a2, a3] [] M 0 0 Z) ∧ (¬ (¬ x = 0) → Run d 12 7 [a0, a1, a2, a3] [] M 0 0 Z) := R_if (gd12 dX1_climb_4) (show gTgt 4 5 = some 9 by decide) gIf_ne
theorem z12_7 : Run d 12 7 [a0, a1, a2, a3] [] M 0 0 Z ↔ Run d 12 8 [a0, a1, a2, a3] [.int 4] M 0 0 Z := R_iconst (gd12 dX1_climb_7) (by decide)
theorem z12_8 : Run d 12 8 [a0, a1, a2, a3] [.int x] M 0 0 Z ↔ Z (some (.int x)) M := R_iret (gd12 dX1_climb_8) rfl
theorem z12_9 : Run d 12 9 [some (.ref o), a1, a2, a3] [] M 0 0 Z ↔ Run d 12 10 [some (.ref o), a1, a2, a3] [.ref o] M 0 0 Z := R_local (gd12 dX1_climb_9) rfl rfl rfl
theorem z12_10 : Run d 12 10 [a0, a1, a2, a3] [.ref o] M 0 0 Z ↔ gObj M o 1 ∧ Run d 12 13 [a0, a1, a2, a3] [.int (M.1 o 5)] M 0 0 Z := R_getI (gd12 dX1_climb_10) rfl gf_1_32 rfl
theorem z12_13 : Run d 12 13 [a0, a1, some (.int x), a3] [s0] M 0 0 Z ↔ Run d 12 14 [a0, a1, some (.int x), a3] [.int x, s0] M 0 0 Z := R_local (gd12 dX1_climb_13) rfl rfl rfl
theorem z12_14 : Run d 12 14 [a0, some (.int x), a2, a3] [s1, s0] M 0 0 Z ↔ Run d 12 15 [a0, some (.int x), a2, a3] [.int x, s1, s0] M 0 0 Z := R_local (gd12 dX1_climb_14) rfl rfl rfl
theorem z12_15 : Run d 12 15 [a0, a1, a2, a3] [.int y, .int x, s0] M 0 0 Z ↔ Run d 12 16 [a0, a1, a2, a3] [.int (x * y), s0] M 0 0 Z := R_arith (gd12 dX1_climb_15) rfl
theorem z12_16 : Run d 12 16 [a0, a1, a2, a3] [.int y, .int x] M 0 0 Z ↔ Run d 12 17 [a0, a1, a2, a3] [.int (x + y)] M 0 0 Z := R_arith (gd12 dX1_climb_16) rfl
theorem z12_17 : Run d 12 17 [a0, a1, a2, a3] [.int x] M 0 0 Z ↔ Run d 12 18 [a0, a1, a2, some (.int x)] [] M 0 0 Z := R_local (gd12 dX1_climb_17) rfl rfl rfl
theorem z12_18 : Run d 12 18 [a0, a1, a2, some (.int x)] [] M 0 0 Z ↔ Run d 12 19 [a0, a1, a2, some (.int x)] [.int x] M 0 0 Z := R_local (gd12 dX1_climb_18) rfl rfl rfl
theorem z12_19 : Run d 12 19 [a0, a1, a2, a3] [.int x] M 0 0 Z ↔ (x < 0 → Run d 12 33 [a0, a1, a2, a3] [] M 0 0 Z) ∧ (¬ (x < 0) → Run d 12 22 [a0, a1, a2, a3] [] M 0 0 Z) := R_if (gd12 dX1_climb_19) (show gTgt 19 14 = some 33 by decide) gIf_lt
theorem z12_22 : Run d 12 22 [a0, a1, a2, some (.int x)] [] M 0 0 Z ↔ Run d 12 23 [a0, a1, a2, some (.int x)] [.int x] M 0 0 Z := R_local (gd12 dX1_climb_22) rfl rfl rfl
theorem z12_23 : Run d 12 23 [some (.ref o), a1, a2, a3] [s0] M 0 0 Z ↔ Run d 12 24 [some (.ref o), a1, a2, a3] [.ref o, s0] M 0 0 Z := R_local (gd12 dX1_climb_23) rfl rfl rfl
theorem z12_24 : Run d 12 24 [a0, a1, a2, a3] [.ref o, s0] M 0 0 Z ↔ gObj M o 1 ∧ Run d 12 27 [a0, a1, a2, a3] [.int (M.1 o 3), s0] M 0 0 Z := R_getI (gd12 dX1_climb_24) rfl gf_1_26 rfl
theorem z12_27 : Run d 12 27 [a0, a1, a2, a3] [.int y, .int x] M 0 0 Z ↔ Run d 12 28 [a0, a1, a2, a3] [.int (x + y)] M 0 0 Z := R_arith (gd12 dX1_climb_27) rfl
theorem z12_28 : Run d 12 28 [a0, a1, a2, a3] [s0] M 0 0 Z ↔ Run d 12 30 [a0, a1, a2, a3] [.int 8, s0] M 0 0 Z := R_bipush (gd12 dX1_climb_28) (by decide)
theorem z12_30 : Run d 12 30 [a0, a1, a2, a3] [.int y, .int x] M 0 0 Z ↔ (x ≤ y → Run d 12 35 [a0, a1, a2, a3] [] M 0 0 Z) ∧ (¬ (x ≤ y) → Run d 12 33 [a0, a1, a2, a3] [] M 0 0 Z) := R_icmp (gd12 dX1_climb_30) (show gTgt 30 5 = some 35 by decide) gIf_le
theorem z12_33 : Run d 12 33 [a0, a1, a2, a3] [] M 0 0 Z ↔ Run d 12 34 [a0, a1, a2, a3] [.int 2] M 0 0 Z := R_iconst (gd12 dX1_climb_33) (by decide)
theorem z12_34 : Run d 12 34 [a0, a1, a2, a3] [.int x] M 0 0 Z ↔ Z (some (.int x)) M := R_iret (gd12 dX1_climb_34) rfl
theorem z12_35 : Run d 12 35 [a0, some (.int x), a2, a3] [] M 0 0 Z ↔ Run d 12 36 [a0, some (.int x), a2, a3] [.int x] M 0 0 Z := R_local (gd12 dX1_climb_35) rfl rfl rfl
theorem z12_36 : Run d 12 36 [some (.ref o), a1, a2, a3] [s0] M 0 0 Z ↔ Run d 12 37 [some (.ref o), a1, a2, a3] [.ref o, s0] M 0 0 Z := R_local (gd12 dX1_climb_36) rfl rfl rfl
theorem z12_37 : Run d 12 37 [a0, a1, a2, a3] [.ref b, s0] M 0 0 Z ↔ gObj M b 1 ∧ Call d 6 [.ref b] M (fun r M1 => Run d 12 40 [a0, a1, a2, a3] (r.toList ++ [s0]) M1 0 0 Z) := R_callV (gd12 dX1_climb_37) rfl rfl rfl rfl rfl rfl gc_1_91 rfl rfl (Nat.le_of_ble_eq_true rfl) (Nat.le_of_ble_eq_true rfl) rfl rfl (Nat.le_of_ble_eq_true rfl) (Nat.le_of_ble_eq_true rfl)
theorem z12_40 : Run d 12 40 [a0, a1, a2, a3] [.int y, .int x] M 0 0 Z ↔ (x ≤ y → Run d 12 45 [a0, a1, a2, a3] [] M 0 0 Z) ∧ (¬ (x ≤ y) → Run d 12 43 [a0, a1, a2, a3] [] M 0 0 Z) := R_icmp (gd12 dX1_climb_40) (show gTgt 40 5 = some 45 by decide) gIf_le
theorem z12_43 : Run d 12 43 [a0, a1, a2, a3] [] M 0 0 Z ↔ Run d 12 44 [a0, a1, a2, a3] [.int 1] M 0 0 Z := R_iconst (gd12 dX1_climb_43) (by decide)
theorem z12_44 : Run d 12 44 [a0, a1, a2, a3] [.int x] M 0 0 Z ↔ Z (some (.int x)) M := R_iret (gd12 dX1_climb_44) rfl
theorem z12_45 : Run d 12 45 [some (.ref o), a1, a2, a3] [] M 0 0 Z ↔ Run d 12 46 [some (.ref o), a1, a2, a3] [.ref o] M 0 0 Z := R_local (gd12 dX1_climb_45) rfl rfl rfl
theorem z12_46 : Run d 12 46 [a0, a1, a2, some (.int x)] [s0] M 0 0 Z ↔ Run d 12 47 [a0, a1, a2, some (.int x)] [.int x, s0] M 0 0 Z := R_local (gd12 dX1_climb_46) rfl rfl rfl
theorem z12_47 : Run d 12 47 [some (.ref o), a1, a2, a3] [s1, s0] M 0 0 Z ↔ Run d 12 48 [some (.ref o), a1, a2, a3] [.ref o, s1, s0] M 0 0 Z := R_local (gd12 dX1_climb_47) rfl rfl rfl
theorem z12_48 : Run d 12 48 [a0, a1, a2, a3] [.ref o, s1, s0] M 0 0 Z ↔ gObj M o 1 ∧ Run d 12 51 [a0, a1, a2, a3] [.int (M.1 o 6), s1, s0] M 0 0 Z := R_getI (gd12 dX1_climb_48) rfl gf_1_35 rfl
theorem z12_51 : Run d 12 51 [some (.ref o), a1, a2, a3] [s2, s1, s0] M 0 0 Z ↔ Run d 12 52 [some (.ref o), a1, a2, a3] [.ref o, s2, s1, s0] M 0 0 Z := R_local (gd12 dX1_climb_51) rfl rfl rfl
theorem z12_52 : Run d 12 52 [a0, a1, a2, a3] [.ref o, s2, s1, s0] M 0 0 Z ↔ gObj M o 1 ∧ Run d 12 55 [a0, a1, a2, a3] [.int (M.1 o 4), s2, s1, s0] M 0 0 Z := R_getI (gd12 dX1_climb_52) rfl gf_1_29 rfl
theorem z12_55 : Run d 12 55 [a0, some (.int x), a2, a3] [s3, s2, s1, s0] M 0 0 Z ↔ Run d 12 56 [a0, some (.int x), a2, a3] [.int x, s3, s2, s1, s0] M 0 0 Z := R_local (gd12 dX1_climb_55) rfl rfl rfl
theorem z12_56 : Run d 12 56 [a0, a1, a2, a3] [.int y, .int x, s2, s1, s0] M 0 0 Z ↔ Run d 12 57 [a0, a1, a2, a3] [.int (x + y), s2, s1, s0] M 0 0 Z := R_arith (gd12 dX1_climb_56) rfl
theorem z12_57 : Run d 12 57 [a0, a1, a2, a3] [s3, s2, s1, .ref b] M 0 0 Z ↔ gObj M b 1 ∧ Call d 5 [.ref b, s1, s2, s3] M (fun r M1 => Run d 12 60 [a0, a1, a2, a3] (r.toList ++ []) M1 0 0 Z) := R_callV (gd12 dX1_climb_57) rfl rfl rfl rfl rfl rfl gc_1_70 rfl rfl (Nat.le_of_ble_eq_true rfl) (Nat.le_of_ble_eq_true rfl) rfl rfl (Nat.le_of_ble_eq_true rfl) (Nat.le_of_ble_eq_true rfl)
theorem z12_60 : Run d 12 60 [some (.ref o), a1, a2, a3] [] M 0 0 Z ↔ Run d 12 61 [some (.ref o), a1, a2, a3] [.ref o] M 0 0 Z := R_local (gd12 dX1_climb_60) rfl rfl rfl
theorem z12_61 : Run d 12 61 [a0, a1, a2, a3] [.ref o] M 0 0 Z ↔ Run d 12 62 [a0, a1, a2, a3] [.ref o, .ref o] M 0 0 Z := R_arith (gd12 dX1_climb_61) rfl
theorem z12_62 : Run d 12 62 [a0, a1, a2, a3] [.ref o, s0] M 0 0 Z ↔ gObj M o 1 ∧ Run d 12 65 [a0, a1, a2, a3] [.int (M.1 o 13), s0] M 0 0 Z := R_getI (gd12 dX1_climb_62) rfl gf_1_57 rfl
theorem z12_65 : Run d 12 65 [a0, some (.int x), a2, a3] [s1, s0] M 0 0 Z ↔ Run d 12 66 [a0, some (.int x), a2, a3] [.int x, s1, s0] M 0 0 Z := R_local (gd12 dX1_climb_65) rfl rfl rfl
theorem z12_66 : Run d 12 66 [a0, a1, a2, a3] [.int y, .int x, s0] M 0 0 Z ↔ Run d 12 67 [a0, a1, a2, a3] [.int (x + y), s0] M 0 0 Z := R_arith (gd12 dX1_climb_66) rfl
theorem z12_67 : Run d 12 67 [a0, a1, a2, a3] [.int x, .ref o] M 0 0 Z ↔ gObj M o 1 ∧ Run d 12 70 [a0, a1, a2, a3] [] (gsI M o 13 x) 0 0 Z := R_putI (gd12 dX1_climb_67) rfl gf_1_57 (Or.inl rfl) rfl
theorem z12_70 : Run d 12 70 [some (.ref o), a1, a2, a3] [] M 0 0 Z ↔ Run d 12 71 [some (.ref o), a1, a2, a3] [.ref o] M 0 0 Z := R_local (gd12 dX1_climb_70) rfl rfl rfl
theorem z12_71 : Run d 12 71 [a0, a1, a2, a3] [.ref o] M 0 0 Z ↔ Run d 12 72 [a0, a1, a2, a3] [.ref o, .ref o] M 0 0 Z := R_arith (gd12 dX1_climb_71) rfl
theorem z12_72 : Run d 12 72 [a0, a1, a2, a3] [.ref o, s0] M 0 0 Z ↔ gObj M o 1 ∧ Run d 12 75 [a0, a1, a2, a3] [.int (M.1 o 9), s0] M 0 0 Z := R_getI (gd12 dX1_climb_72) rfl gf_1_44 rfl
theorem z12_75 : Run d 12 75 [a0, a1, a2, a3] [s1, s0] M 0 0 Z ↔ Run d 12 76 [a0, a1, a2, a3] [.int 1, s1, s0] M 0 0 Z := R_iconst (gd12 dX1_climb_75) (by decide)
theorem z12_76 : Run d 12 76 [a0, a1, a2, a3] [.int y, .int x, s0] M 0 0 Z ↔ Run d 12 77 [a0, a1, a2, a3] [.int (x + y), s0] M 0 0 Z := R_arith (gd12 dX1_climb_76) rfl
theorem z12_77 : Run d 12 77 [a0, a1, a2, a3] [.int x, .ref o] M 0 0 Z ↔ gObj M o 1 ∧ Run d 12 80 [a0, a1, a2, a3] [] (gsI M o 9 x) 0 0 Z := R_putI (gd12 dX1_climb_77) rfl gf_1_44 (Or.inl rfl) rfl
theorem z12_80 : Run d 12 80 [a0, a1, a2, a3] [] M 0 0 Z ↔ Run d 12 81 [a0, a1, a2, a3] [.int 0] M 0 0 Z := R_iconst (gd12 dX1_climb_80) (by decide)
theorem z12_81 : Run d 12 81 [a0, a1, a2, a3] [.int x] M 0 0 Z ↔ Z (some (.int x)) M := R_iret (gd12 dX1_climb_81) rfl
theorem e12 : Call (d + 1) 12 [s0, s1, s2] M Z ↔ Run d 12 0 [some s0, some s1, some s2, none] [] M 0 0 Z := Call_iff (Nat.lt_of_lt_of_le (Nat.lt_succ_self 12) (Nat.le_of_ble_eq_true rfl)) (Nat.le_of_ble_eq_true rfl)
/-! 13: X1_turn ()I -/
theorem gd13 {pc : Nat} {r : Except _ _} (h : decode cX1_turn pc = r) : decode (gby 13) pc = r := h
theorem z13_0 : Run d 13 0 [some (.ref o)] [] M 0 0 Z ↔ Run d 13 1 [some (.ref o)] [.ref o] M 0 0 Z := R_local (gd13 dX1_turn_0) rfl rfl rfl
theorem z13_1 : Run d 13 1 [some (.ref o)] [s0] M 0 0 Z ↔ Run d 13 2 [some (.ref o)] [.ref o, s0] M 0 0 Z := R_local (gd13 dX1_turn_1) rfl rfl rfl
theorem z13_2 : Run d 13 2 [a0] [.ref o, s0] M 0 0 Z ↔ gObj M o 1 ∧ Run d 13 5 [a0] [.int (M.1 o 7), s0] M 0 0 Z := R_getI (gd13 dX1_turn_2) rfl gf_1_38 rfl
theorem z13_5 : Run d 13 5 [a0] [.int x, s0] M 0 0 Z ↔ Run d 13 6 [a0] [.int (-x), s0] M 0 0 Z := R_arith (gd13 dX1_turn_5) rfl
theorem z13_6 : Run d 13 6 [a0] [.int x, .ref o] M 0 0 Z ↔ gObj M o 1 ∧ Run d 13 9 [a0] [] (gsI M o 7 x) 0 0 Z := R_putI (gd13 dX1_turn_6) rfl gf_1_38 (Or.inl rfl) rfl
theorem z13_9 : Run d 13 9 [a0] [] M 0 0 Z ↔ Run d 13 10 [a0] [.int 0] M 0 0 Z := R_iconst (gd13 dX1_turn_9) (by decide)
theorem z13_10 : Run d 13 10 [a0] [.int x] M 0 0 Z ↔ Z (some (.int x)) M := R_iret (gd13 dX1_turn_10) rfl
theorem e13 : Call (d + 1) 13 [s0] M Z ↔ Run d 13 0 [some s0] [] M 0 0 Z := Call_iff (Nat.lt_of_lt_of_le (Nat.lt_succ_self 13) (Nat.le_of_ble_eq_true rfl)) (Nat.le_of_ble_eq_true rfl)
/-! 14: X1_flip ()I -/
theorem gd14 {pc : Nat} {r : Except _ _} (h : decode cX1_flip pc = r) : decode (gby 14) pc = r := h
theorem z14_0 : Run d 14 0 [some (.ref o)] [] M 0 0 Z ↔ Run d 14 1 [some (.ref o)] [.ref o] M 0 0 Z := R_local (gd14 dX1_flip_0) rfl rfl rfl
theorem z14_1 : Run d 14 1 [a0] [s0] M 0 0 Z ↔ Run d 14 2 [a0] [.int 1, s0] M 0 0 Z := R_iconst (gd14 dX1_flip_1) (by decide)
theorem z14_2 : Run d 14 2 [some (.ref o)] [s1, s0] M 0 0 Z ↔ Run d 14 3 [some (.ref o)] [.ref o, s1, s0] M 0 0 Z := R_local (gd14 dX1_flip_2) rfl rfl rfl
theorem z14_3 : Run d 14 3 [a0] [.ref o, s1, s0] M 0 0 Z ↔ gObj M o 1 ∧ Run d 14 6 [a0] [.int (M.1 o 8), s1, s0] M 0 0 Z := R_getI (gd14 dX1_flip_3) rfl gf_1_41 rfl
theorem z14_6 : Run d 14 6 [a0] [.int y, .int x, s0] M 0 0 Z ↔ Run d 14 7 [a0] [.int (x - y), s0] M 0 0 Z := R_arith (gd14 dX1_flip_6) rfl
theorem z14_7 : Run d 14 7 [a0] [.int x, .ref o] M 0 0 Z ↔ gObj M o 1 ∧ Run d 14 10 [a0] [] (gsI M o 8 x) 0 0 Z := R_putI (gd14 dX1_flip_7) rfl gf_1_41 (Or.inl rfl) rfl
theorem z14_10 : Run d 14 10 [a0] [] M 0 0 Z ↔ Run d 14 11 [a0] [.int 0] M 0 0 Z := R_iconst (gd14 dX1_flip_10) (by decide)
theorem z14_11 : Run d 14 11 [a0] [.int x] M 0 0 Z ↔ Z (some (.int x)) M := R_iret (gd14 dX1_flip_11) rfl
theorem e14 : Call (d + 1) 14 [s0] M Z ↔ Run d 14 0 [some s0] [] M 0 0 Z := Call_iff (Nat.lt_of_lt_of_le (Nat.lt_succ_self 14) (Nat.le_of_ble_eq_true rfl)) (Nat.le_of_ble_eq_true rfl)
end
