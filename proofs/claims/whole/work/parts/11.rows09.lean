/-! Rules of the methods, an instruction each, by program (wip/whole/rows.py). -/
theorem dX9_isName_0 : decode cX9_isName 0 = .ok (.iload_n 0, 1) := by decide +kernel
theorem dX9_isName_1 : decode cX9_isName 1 = .ok (.bipush 120, 2) := by decide +kernel
theorem dX9_isName_3 : decode cX9_isName 3 = .ok (.if_icmp .eq 15, 3) := by decide +kernel
theorem dX9_isName_6 : decode cX9_isName 6 = .ok (.iload_n 0, 1) := by decide +kernel
theorem dX9_isName_7 : decode cX9_isName 7 = .ok (.bipush 121, 2) := by decide +kernel
theorem dX9_isName_9 : decode cX9_isName 9 = .ok (.if_icmp .eq 9, 3) := by decide +kernel
theorem dX9_isName_12 : decode cX9_isName 12 = .ok (.iload_n 0, 1) := by decide +kernel
theorem dX9_isName_13 : decode cX9_isName 13 = .ok (.bipush 122, 2) := by decide +kernel
theorem dX9_isName_15 : decode cX9_isName 15 = .ok (.if_icmp .ne 7, 3) := by decide +kernel
theorem dX9_isName_18 : decode cX9_isName 18 = .ok (.iconst 1, 1) := by decide +kernel
theorem dX9_isName_19 : decode cX9_isName 19 = .ok (.goto 4, 3) := by decide +kernel
theorem dX9_isName_22 : decode cX9_isName 22 = .ok (.iconst 0, 1) := by decide +kernel
theorem dX9_isName_23 : decode cX9_isName 23 = .ok (.ireturn, 1) := by decide +kernel
theorem dX9_isValue_0 : decode cX9_isValue 0 = .ok (.iload_n 0, 1) := by decide +kernel
theorem dX9_isValue_1 : decode cX9_isValue 1 = .ok (.invokestatic 190, 3) := by decide +kernel
theorem dX9_isValue_4 : decode cX9_isValue 4 = .ok (.ifCond .ne 27, 3) := by decide +kernel
theorem dX9_isValue_7 : decode cX9_isValue 7 = .ok (.iload_n 0, 1) := by decide +kernel
theorem dX9_isValue_8 : decode cX9_isValue 8 = .ok (.bipush 108, 2) := by decide +kernel
theorem dX9_isValue_10 : decode cX9_isValue 10 = .ok (.if_icmp .eq 21, 3) := by decide +kernel
theorem dX9_isValue_13 : decode cX9_isValue 13 = .ok (.iload_n 0, 1) := by decide +kernel
theorem dX9_isValue_14 : decode cX9_isValue 14 = .ok (.bipush 103, 2) := by decide +kernel
theorem dX9_isValue_16 : decode cX9_isValue 16 = .ok (.if_icmp .eq 15, 3) := by decide +kernel
theorem dX9_isValue_19 : decode cX9_isValue 19 = .ok (.iload_n 0, 1) := by decide +kernel
theorem dX9_isValue_20 : decode cX9_isValue 20 = .ok (.bipush 107, 2) := by decide +kernel
theorem dX9_isValue_22 : decode cX9_isValue 22 = .ok (.if_icmp .eq 9, 3) := by decide +kernel
theorem dX9_isValue_25 : decode cX9_isValue 25 = .ok (.iload_n 0, 1) := by decide +kernel
theorem dX9_isValue_26 : decode cX9_isValue 26 = .ok (.bipush 105, 2) := by decide +kernel
theorem dX9_isValue_28 : decode cX9_isValue 28 = .ok (.if_icmp .ne 7, 3) := by decide +kernel
theorem dX9_isValue_31 : decode cX9_isValue 31 = .ok (.iconst 1, 1) := by decide +kernel
theorem dX9_isValue_32 : decode cX9_isValue 32 = .ok (.goto 4, 3) := by decide +kernel
theorem dX9_isValue_35 : decode cX9_isValue 35 = .ok (.iconst 0, 1) := by decide +kernel
theorem dX9_isValue_36 : decode cX9_isValue 36 = .ok (.ireturn, 1) := by decide +kernel
theorem dX9_isTimes_0 : decode cX9_isTimes 0 = .ok (.iload_n 0, 1) := by decide +kernel
theorem dX9_isTimes_1 : decode cX9_isTimes 1 = .ok (.bipush 42, 2) := by decide +kernel
theorem dX9_isTimes_3 : decode cX9_isTimes 3 = .ok (.if_icmp .eq 9, 3) := by decide +kernel
theorem dX9_isTimes_6 : decode cX9_isTimes 6 = .ok (.iload_n 0, 1) := by decide +kernel
theorem dX9_isTimes_7 : decode cX9_isTimes 7 = .ok (.bipush 47, 2) := by decide +kernel
theorem dX9_isTimes_9 : decode cX9_isTimes 9 = .ok (.if_icmp .ne 7, 3) := by decide +kernel
theorem dX9_isTimes_12 : decode cX9_isTimes 12 = .ok (.iconst 1, 1) := by decide +kernel
theorem dX9_isTimes_13 : decode cX9_isTimes 13 = .ok (.goto 4, 3) := by decide +kernel
theorem dX9_isTimes_16 : decode cX9_isTimes 16 = .ok (.iconst 0, 1) := by decide +kernel
theorem dX9_isTimes_17 : decode cX9_isTimes 17 = .ok (.ireturn, 1) := by decide +kernel
theorem dX9_isSign_0 : decode cX9_isSign 0 = .ok (.iload_n 0, 1) := by decide +kernel
theorem dX9_isSign_1 : decode cX9_isSign 1 = .ok (.invokestatic 193, 3) := by decide +kernel
theorem dX9_isSign_4 : decode cX9_isSign 4 = .ok (.ifCond .ne 15, 3) := by decide +kernel
theorem dX9_isSign_7 : decode cX9_isSign 7 = .ok (.iload_n 0, 1) := by decide +kernel
theorem dX9_isSign_8 : decode cX9_isSign 8 = .ok (.bipush 43, 2) := by decide +kernel
theorem dX9_isSign_10 : decode cX9_isSign 10 = .ok (.if_icmp .eq 9, 3) := by decide +kernel
theorem dX9_isSign_13 : decode cX9_isSign 13 = .ok (.iload_n 0, 1) := by decide +kernel
theorem dX9_isSign_14 : decode cX9_isSign 14 = .ok (.bipush 45, 2) := by decide +kernel
theorem dX9_isSign_16 : decode cX9_isSign 16 = .ok (.if_icmp .ne 7, 3) := by decide +kernel
theorem dX9_isSign_19 : decode cX9_isSign 19 = .ok (.iconst 1, 1) := by decide +kernel
theorem dX9_isSign_20 : decode cX9_isSign 20 = .ok (.goto 4, 3) := by decide +kernel
theorem dX9_isSign_23 : decode cX9_isSign 23 = .ok (.iconst 0, 1) := by decide +kernel
theorem dX9_isSign_24 : decode cX9_isSign 24 = .ok (.ireturn, 1) := by decide +kernel
theorem dX9_isPlain_0 : decode cX9_isPlain 0 = .ok (.iload_n 0, 1) := by decide +kernel
theorem dX9_isPlain_1 : decode cX9_isPlain 1 = .ok (.bipush 116, 2) := by decide +kernel
theorem dX9_isPlain_3 : decode cX9_isPlain 3 = .ok (.if_icmp .eq 21, 3) := by decide +kernel
theorem dX9_isPlain_6 : decode cX9_isPlain 6 = .ok (.iload_n 0, 1) := by decide +kernel
theorem dX9_isPlain_7 : decode cX9_isPlain 7 = .ok (.bipush 114, 2) := by decide +kernel
theorem dX9_isPlain_9 : decode cX9_isPlain 9 = .ok (.if_icmp .eq 15, 3) := by decide +kernel
theorem dX9_isPlain_12 : decode cX9_isPlain 12 = .ok (.iload_n 0, 1) := by decide +kernel
theorem dX9_isPlain_13 : decode cX9_isPlain 13 = .ok (.bipush 102, 2) := by decide +kernel
theorem dX9_isPlain_15 : decode cX9_isPlain 15 = .ok (.if_icmp .eq 9, 3) := by decide +kernel
theorem dX9_isPlain_18 : decode cX9_isPlain 18 = .ok (.iload_n 0, 1) := by decide +kernel
theorem dX9_isPlain_19 : decode cX9_isPlain 19 = .ok (.bipush 115, 2) := by decide +kernel
theorem dX9_isPlain_21 : decode cX9_isPlain 21 = .ok (.if_icmp .ne 7, 3) := by decide +kernel
theorem dX9_isPlain_24 : decode cX9_isPlain 24 = .ok (.iconst 1, 1) := by decide +kernel
theorem dX9_isPlain_25 : decode cX9_isPlain 25 = .ok (.goto 4, 3) := by decide +kernel
theorem dX9_isPlain_28 : decode cX9_isPlain 28 = .ok (.iconst 0, 1) := by decide +kernel
theorem dX9_isPlain_29 : decode cX9_isPlain 29 = .ok (.ireturn, 1) := by decide +kernel
theorem dX9_isAct_0 : decode cX9_isAct 0 = .ok (.iload_n 0, 1) := by decide +kernel
theorem dX9_isAct_1 : decode cX9_isAct 1 = .ok (.bipush 119, 2) := by decide +kernel
theorem dX9_isAct_3 : decode cX9_isAct 3 = .ok (.if_icmp .eq 21, 3) := by decide +kernel
theorem dX9_isAct_6 : decode cX9_isAct 6 = .ok (.iload_n 0, 1) := by decide +kernel
theorem dX9_isAct_7 : decode cX9_isAct 7 = .ok (.bipush 117, 2) := by decide +kernel
theorem dX9_isAct_9 : decode cX9_isAct 9 = .ok (.if_icmp .eq 15, 3) := by decide +kernel
theorem dX9_isAct_12 : decode cX9_isAct 12 = .ok (.iload_n 0, 1) := by decide +kernel
theorem dX9_isAct_13 : decode cX9_isAct 13 = .ok (.bipush 100, 2) := by decide +kernel
theorem dX9_isAct_15 : decode cX9_isAct 15 = .ok (.if_icmp .eq 9, 3) := by decide +kernel
theorem dX9_isAct_18 : decode cX9_isAct 18 = .ok (.iload_n 0, 1) := by decide +kernel
theorem dX9_isAct_19 : decode cX9_isAct 19 = .ok (.bipush 104, 2) := by decide +kernel
theorem dX9_isAct_21 : decode cX9_isAct 21 = .ok (.if_icmp .ne 7, 3) := by decide +kernel
theorem dX9_isAct_24 : decode cX9_isAct 24 = .ok (.iconst 1, 1) := by decide +kernel
theorem dX9_isAct_25 : decode cX9_isAct 25 = .ok (.goto 4, 3) := by decide +kernel
theorem dX9_isAct_28 : decode cX9_isAct 28 = .ok (.iconst 0, 1) := by decide +kernel
theorem dX9_isAct_29 : decode cX9_isAct 29 = .ok (.ireturn, 1) := by decide +kernel
theorem dX9_must_0 : decode cX9_must 0 = .ok (.aload_n 0, 1) := by decide +kernel
theorem dX9_must_1 : decode cX9_must 1 = .ok (.invokevirtual 196, 3) := by decide +kernel
theorem dX9_must_4 : decode cX9_must 4 = .ok (.iload_n 1, 1) := by decide +kernel
theorem dX9_must_5 : decode cX9_must 5 = .ok (.if_icmp .eq 8, 3) := by decide +kernel
theorem dX9_must_8 : decode cX9_must 8 = .ok (.aload_n 0, 1) := by decide +kernel
theorem dX9_must_9 : decode cX9_must 9 = .ok (.iconst 1, 1) := by decide +kernel
theorem dX9_must_10 : decode cX9_must 10 = .ok (.invokevirtual 200, 3) := by decide +kernel
theorem dX9_must_13 : decode cX9_must 13 = .ok (.aload_n 0, 1) := by decide +kernel
theorem dX9_must_14 : decode cX9_must 14 = .ok (.dup, 1) := by decide +kernel
theorem dX9_must_15 : decode cX9_must 15 = .ok (.getfield 178, 3) := by decide +kernel
theorem dX9_must_18 : decode cX9_must 18 = .ok (.iconst 1, 1) := by decide +kernel
theorem dX9_must_19 : decode cX9_must 19 = .ok (.iadd, 1) := by decide +kernel
theorem dX9_must_20 : decode cX9_must 20 = .ok (.putfield 178, 3) := by decide +kernel
theorem dX9_must_23 : decode cX9_must 23 = .ok (.return_, 1) := by decide +kernel
theorem dX9_looksAtNumber_0 : decode cX9_looksAtNumber 0 = .ok (.aload_n 0, 1) := by decide +kernel
theorem dX9_looksAtNumber_1 : decode cX9_looksAtNumber 1 = .ok (.getfield 178, 3) := by decide +kernel
theorem dX9_looksAtNumber_4 : decode cX9_looksAtNumber 4 = .ok (.istore_n 1, 1) := by decide +kernel
theorem dX9_looksAtNumber_5 : decode cX9_looksAtNumber 5 = .ok (.aload_n 0, 1) := by decide +kernel
theorem dX9_looksAtNumber_6 : decode cX9_looksAtNumber 6 = .ok (.getfield 187, 3) := by decide +kernel
theorem dX9_looksAtNumber_9 : decode cX9_looksAtNumber 9 = .ok (.ifCond .ne 41, 3) := by decide +kernel
theorem dX9_looksAtNumber_12 : decode cX9_looksAtNumber 12 = .ok (.aload_n 0, 1) := by decide +kernel
theorem dX9_looksAtNumber_13 : decode cX9_looksAtNumber 13 = .ok (.invokevirtual 196, 3) := by decide +kernel
theorem dX9_looksAtNumber_16 : decode cX9_looksAtNumber 16 = .ok (.invokestatic 203, 3) := by decide +kernel
theorem dX9_looksAtNumber_19 : decode cX9_looksAtNumber 19 = .ok (.ifCond .eq 31, 3) := by decide +kernel
theorem dX9_looksAtNumber_22 : decode cX9_looksAtNumber 22 = .ok (.aload_n 0, 1) := by decide +kernel
theorem dX9_looksAtNumber_23 : decode cX9_looksAtNumber 23 = .ok (.getfield 178, 3) := by decide +kernel
theorem dX9_looksAtNumber_26 : decode cX9_looksAtNumber 26 = .ok (.iload_n 1, 1) := by decide +kernel
theorem dX9_looksAtNumber_27 : decode cX9_looksAtNumber 27 = .ok (.iconst 3, 1) := by decide +kernel
theorem dX9_looksAtNumber_28 : decode cX9_looksAtNumber 28 = .ok (.iadd, 1) := by decide +kernel
theorem dX9_looksAtNumber_29 : decode cX9_looksAtNumber 29 = .ok (.if_icmp .ne 8, 3) := by decide +kernel
theorem dX9_looksAtNumber_32 : decode cX9_looksAtNumber 32 = .ok (.aload_n 0, 1) := by decide +kernel
theorem dX9_looksAtNumber_33 : decode cX9_looksAtNumber 33 = .ok (.iconst 2, 1) := by decide +kernel
theorem dX9_looksAtNumber_34 : decode cX9_looksAtNumber 34 = .ok (.invokevirtual 200, 3) := by decide +kernel
theorem dX9_looksAtNumber_37 : decode cX9_looksAtNumber 37 = .ok (.aload_n 0, 1) := by decide +kernel
theorem dX9_looksAtNumber_38 : decode cX9_looksAtNumber 38 = .ok (.dup, 1) := by decide +kernel
theorem dX9_looksAtNumber_39 : decode cX9_looksAtNumber 39 = .ok (.getfield 178, 3) := by decide +kernel
theorem dX9_looksAtNumber_42 : decode cX9_looksAtNumber 42 = .ok (.iconst 1, 1) := by decide +kernel
theorem dX9_looksAtNumber_43 : decode cX9_looksAtNumber 43 = .ok (.iadd, 1) := by decide +kernel
theorem dX9_looksAtNumber_44 : decode cX9_looksAtNumber 44 = .ok (.putfield 178, 3) := by decide +kernel
theorem dX9_looksAtNumber_47 : decode cX9_looksAtNumber 47 = .ok (.goto (-42), 3) := by decide +kernel
theorem dX9_looksAtNumber_50 : decode cX9_looksAtNumber 50 = .ok (.return_, 1) := by decide +kernel
theorem dX9_looksAtSum_0 : decode cX9_looksAtSum 0 = .ok (.iconst 0, 1) := by decide +kernel
theorem dX9_looksAtSum_1 : decode cX9_looksAtSum 1 = .ok (.istore_n 1, 1) := by decide +kernel
theorem dX9_looksAtSum_2 : decode cX9_looksAtSum 2 = .ok (.iconst 1, 1) := by decide +kernel
theorem dX9_looksAtSum_3 : decode cX9_looksAtSum 3 = .ok (.istore_n 2, 1) := by decide +kernel
theorem dX9_looksAtSum_4 : decode cX9_looksAtSum 4 = .ok (.iconst 1, 1) := by decide +kernel
theorem dX9_looksAtSum_5 : decode cX9_looksAtSum 5 = .ok (.istore_n 3, 1) := by decide +kernel
theorem dX9_looksAtSum_6 : decode cX9_looksAtSum 6 = .ok (.iload_n 3, 1) := by decide +kernel
theorem dX9_looksAtSum_7 : decode cX9_looksAtSum 7 = .ok (.ifCond .eq 163, 3) := by decide +kernel
theorem dX9_looksAtSum_10 : decode cX9_looksAtSum 10 = .ok (.aload_n 0, 1) := by decide +kernel
theorem dX9_looksAtSum_11 : decode cX9_looksAtSum 11 = .ok (.getfield 187, 3) := by decide +kernel
theorem dX9_looksAtSum_14 : decode cX9_looksAtSum 14 = .ok (.ifCond .ne 156, 3) := by decide +kernel
theorem dX9_looksAtSum_17 : decode cX9_looksAtSum 17 = .ok (.aload_n 0, 1) := by decide +kernel
theorem dX9_looksAtSum_18 : decode cX9_looksAtSum 18 = .ok (.invokevirtual 196, 3) := by decide +kernel
theorem dX9_looksAtSum_21 : decode cX9_looksAtSum 21 = .ok (.istore 4, 2) := by decide +kernel
theorem dX9_looksAtSum_23 : decode cX9_looksAtSum 23 = .ok (.iload_n 2, 1) := by decide +kernel
theorem dX9_looksAtSum_24 : decode cX9_looksAtSum 24 = .ok (.ifCond .eq 82, 3) := by decide +kernel
theorem dX9_looksAtSum_27 : decode cX9_looksAtSum 27 = .ok (.iload 4, 2) := by decide +kernel
theorem dX9_looksAtSum_29 : decode cX9_looksAtSum 29 = .ok (.bipush 40, 2) := by decide +kernel
theorem dX9_looksAtSum_31 : decode cX9_looksAtSum 31 = .ok (.if_icmp .ne 30, 3) := by decide +kernel
theorem dX9_looksAtSum_34 : decode cX9_looksAtSum 34 = .ok (.iload_n 1, 1) := by decide +kernel
theorem dX9_looksAtSum_35 : decode cX9_looksAtSum 35 = .ok (.bipush 8, 2) := by decide +kernel
theorem dX9_looksAtSum_37 : decode cX9_looksAtSum 37 = .ok (.if_icmp .ne 8, 3) := by decide +kernel
theorem dX9_looksAtSum_40 : decode cX9_looksAtSum 40 = .ok (.aload_n 0, 1) := by decide +kernel
theorem dX9_looksAtSum_41 : decode cX9_looksAtSum 41 = .ok (.iconst 4, 1) := by decide +kernel
theorem dX9_looksAtSum_42 : decode cX9_looksAtSum 42 = .ok (.invokevirtual 200, 3) := by decide +kernel
theorem dX9_looksAtSum_45 : decode cX9_looksAtSum 45 = .ok (.iinc 1 1, 3) := by decide +kernel
theorem dX9_looksAtSum_48 : decode cX9_looksAtSum 48 = .ok (.aload_n 0, 1) := by decide +kernel
theorem dX9_looksAtSum_49 : decode cX9_looksAtSum 49 = .ok (.dup, 1) := by decide +kernel
theorem dX9_looksAtSum_50 : decode cX9_looksAtSum 50 = .ok (.getfield 178, 3) := by decide +kernel
theorem dX9_looksAtSum_53 : decode cX9_looksAtSum 53 = .ok (.iconst 1, 1) := by decide +kernel
theorem dX9_looksAtSum_54 : decode cX9_looksAtSum 54 = .ok (.iadd, 1) := by decide +kernel
theorem dX9_looksAtSum_55 : decode cX9_looksAtSum 55 = .ok (.putfield 178, 3) := by decide +kernel
theorem dX9_looksAtSum_58 : decode cX9_looksAtSum 58 = .ok (.goto 109, 3) := by decide +kernel
theorem dX9_looksAtSum_61 : decode cX9_looksAtSum 61 = .ok (.iload 4, 2) := by decide +kernel
theorem dX9_looksAtSum_63 : decode cX9_looksAtSum 63 = .ok (.invokestatic 203, 3) := by decide +kernel
theorem dX9_looksAtSum_66 : decode cX9_looksAtSum 66 = .ok (.ifCond .eq 12, 3) := by decide +kernel
theorem dX9_looksAtSum_69 : decode cX9_looksAtSum 69 = .ok (.aload_n 0, 1) := by decide +kernel
theorem dX9_looksAtSum_70 : decode cX9_looksAtSum 70 = .ok (.invokevirtual 206, 3) := by decide +kernel
theorem dX9_looksAtSum_73 : decode cX9_looksAtSum 73 = .ok (.iconst 0, 1) := by decide +kernel
theorem dX9_looksAtSum_74 : decode cX9_looksAtSum 74 = .ok (.istore_n 2, 1) := by decide +kernel
theorem dX9_looksAtSum_75 : decode cX9_looksAtSum 75 = .ok (.goto 92, 3) := by decide +kernel
theorem dX9_looksAtSum_78 : decode cX9_looksAtSum 78 = .ok (.iload 4, 2) := by decide +kernel
theorem dX9_looksAtSum_80 : decode cX9_looksAtSum 80 = .ok (.invokestatic 209, 3) := by decide +kernel
theorem dX9_looksAtSum_83 : decode cX9_looksAtSum 83 = .ok (.ifCond .ne 8, 3) := by decide +kernel
theorem dX9_looksAtSum_86 : decode cX9_looksAtSum 86 = .ok (.aload_n 0, 1) := by decide +kernel
theorem dX9_looksAtSum_87 : decode cX9_looksAtSum 87 = .ok (.iconst 1, 1) := by decide +kernel
theorem dX9_looksAtSum_88 : decode cX9_looksAtSum 88 = .ok (.invokevirtual 200, 3) := by decide +kernel
theorem dX9_looksAtSum_91 : decode cX9_looksAtSum 91 = .ok (.aload_n 0, 1) := by decide +kernel
theorem dX9_looksAtSum_92 : decode cX9_looksAtSum 92 = .ok (.dup, 1) := by decide +kernel
theorem dX9_looksAtSum_93 : decode cX9_looksAtSum 93 = .ok (.getfield 178, 3) := by decide +kernel
theorem dX9_looksAtSum_96 : decode cX9_looksAtSum 96 = .ok (.iconst 1, 1) := by decide +kernel
theorem dX9_looksAtSum_97 : decode cX9_looksAtSum 97 = .ok (.iadd, 1) := by decide +kernel
theorem dX9_looksAtSum_98 : decode cX9_looksAtSum 98 = .ok (.putfield 178, 3) := by decide +kernel
theorem dX9_looksAtSum_101 : decode cX9_looksAtSum 101 = .ok (.iconst 0, 1) := by decide +kernel
theorem dX9_looksAtSum_102 : decode cX9_looksAtSum 102 = .ok (.istore_n 2, 1) := by decide +kernel
theorem dX9_looksAtSum_103 : decode cX9_looksAtSum 103 = .ok (.goto 64, 3) := by decide +kernel
theorem dX9_looksAtSum_106 : decode cX9_looksAtSum 106 = .ok (.iload 4, 2) := by decide +kernel
theorem dX9_looksAtSum_108 : decode cX9_looksAtSum 108 = .ok (.invokestatic 212, 3) := by decide +kernel
theorem dX9_looksAtSum_111 : decode cX9_looksAtSum 111 = .ok (.ifCond .eq 18, 3) := by decide +kernel
theorem dX9_looksAtSum_114 : decode cX9_looksAtSum 114 = .ok (.aload_n 0, 1) := by decide +kernel
theorem dX9_looksAtSum_115 : decode cX9_looksAtSum 115 = .ok (.dup, 1) := by decide +kernel
theorem dX9_looksAtSum_116 : decode cX9_looksAtSum 116 = .ok (.getfield 178, 3) := by decide +kernel
theorem dX9_looksAtSum_119 : decode cX9_looksAtSum 119 = .ok (.iconst 1, 1) := by decide +kernel
theorem dX9_looksAtSum_120 : decode cX9_looksAtSum 120 = .ok (.iadd, 1) := by decide +kernel
theorem dX9_looksAtSum_121 : decode cX9_looksAtSum 121 = .ok (.putfield 178, 3) := by decide +kernel
theorem dX9_looksAtSum_124 : decode cX9_looksAtSum 124 = .ok (.iconst 1, 1) := by decide +kernel
theorem dX9_looksAtSum_125 : decode cX9_looksAtSum 125 = .ok (.istore_n 2, 1) := by decide +kernel
theorem dX9_looksAtSum_126 : decode cX9_looksAtSum 126 = .ok (.goto 41, 3) := by decide +kernel
theorem dX9_looksAtSum_129 : decode cX9_looksAtSum 129 = .ok (.iload 4, 2) := by decide +kernel
theorem dX9_looksAtSum_131 : decode cX9_looksAtSum 131 = .ok (.bipush 41, 2) := by decide +kernel
theorem dX9_looksAtSum_133 : decode cX9_looksAtSum 133 = .ok (.if_icmp .ne 23, 3) := by decide +kernel
theorem dX9_looksAtSum_136 : decode cX9_looksAtSum 136 = .ok (.iload_n 1, 1) := by decide +kernel
theorem dX9_looksAtSum_137 : decode cX9_looksAtSum 137 = .ok (.ifCond .le 19, 3) := by decide +kernel
theorem dX9_looksAtSum_140 : decode cX9_looksAtSum 140 = .ok (.iinc 1 (-1), 3) := by decide +kernel
theorem dX9_looksAtSum_143 : decode cX9_looksAtSum 143 = .ok (.aload_n 0, 1) := by decide +kernel
theorem dX9_looksAtSum_144 : decode cX9_looksAtSum 144 = .ok (.dup, 1) := by decide +kernel
theorem dX9_looksAtSum_145 : decode cX9_looksAtSum 145 = .ok (.getfield 178, 3) := by decide +kernel
theorem dX9_looksAtSum_148 : decode cX9_looksAtSum 148 = .ok (.iconst 1, 1) := by decide +kernel
theorem dX9_looksAtSum_149 : decode cX9_looksAtSum 149 = .ok (.iadd, 1) := by decide +kernel
theorem dX9_looksAtSum_150 : decode cX9_looksAtSum 150 = .ok (.putfield 178, 3) := by decide +kernel
theorem dX9_looksAtSum_153 : decode cX9_looksAtSum 153 = .ok (.goto 14, 3) := by decide +kernel
theorem dX9_looksAtSum_156 : decode cX9_looksAtSum 156 = .ok (.iload_n 1, 1) := by decide +kernel
theorem dX9_looksAtSum_157 : decode cX9_looksAtSum 157 = .ok (.ifCond .le 8, 3) := by decide +kernel
theorem dX9_looksAtSum_160 : decode cX9_looksAtSum 160 = .ok (.aload_n 0, 1) := by decide +kernel
theorem dX9_looksAtSum_161 : decode cX9_looksAtSum 161 = .ok (.iconst 1, 1) := by decide +kernel
theorem dX9_looksAtSum_162 : decode cX9_looksAtSum 162 = .ok (.invokevirtual 200, 3) := by decide +kernel
theorem dX9_looksAtSum_165 : decode cX9_looksAtSum 165 = .ok (.iconst 0, 1) := by decide +kernel
theorem dX9_looksAtSum_166 : decode cX9_looksAtSum 166 = .ok (.istore_n 3, 1) := by decide +kernel
theorem dX9_looksAtSum_167 : decode cX9_looksAtSum 167 = .ok (.goto (-161), 3) := by decide +kernel
theorem dX9_looksAtSum_170 : decode cX9_looksAtSum 170 = .ok (.return_, 1) := by decide +kernel
theorem dX9_looksAt_0 : decode cX9_looksAt 0 = .ok (.iconst 0, 1) := by decide +kernel
theorem dX9_looksAt_1 : decode cX9_looksAt 1 = .ok (.istore_n 1, 1) := by decide +kernel
theorem dX9_looksAt_2 : decode cX9_looksAt 2 = .ok (.iconst 0, 1) := by decide +kernel
theorem dX9_looksAt_3 : decode cX9_looksAt 3 = .ok (.istore_n 2, 1) := by decide +kernel
theorem dX9_looksAt_4 : decode cX9_looksAt 4 = .ok (.iconst 1, 1) := by decide +kernel
theorem dX9_looksAt_5 : decode cX9_looksAt 5 = .ok (.istore_n 3, 1) := by decide +kernel
theorem dX9_looksAt_6 : decode cX9_looksAt 6 = .ok (.aload_n 0, 1) := by decide +kernel
theorem dX9_looksAt_7 : decode cX9_looksAt 7 = .ok (.iconst 0, 1) := by decide +kernel
theorem dX9_looksAt_8 : decode cX9_looksAt 8 = .ok (.putfield 187, 3) := by decide +kernel
theorem dX9_looksAt_11 : decode cX9_looksAt 11 = .ok (.aload_n 0, 1) := by decide +kernel
theorem dX9_looksAt_12 : decode cX9_looksAt 12 = .ok (.iconst 0, 1) := by decide +kernel
theorem dX9_looksAt_13 : decode cX9_looksAt 13 = .ok (.putfield 178, 3) := by decide +kernel
theorem dX9_looksAt_16 : decode cX9_looksAt 16 = .ok (.iload_n 3, 1) := by decide +kernel
theorem dX9_looksAt_17 : decode cX9_looksAt 17 = .ok (.ifCond .eq 276, 3) := by decide +kernel
theorem dX9_looksAt_20 : decode cX9_looksAt 20 = .ok (.aload_n 0, 1) := by decide +kernel
theorem dX9_looksAt_21 : decode cX9_looksAt 21 = .ok (.getfield 187, 3) := by decide +kernel
theorem dX9_looksAt_24 : decode cX9_looksAt 24 = .ok (.ifCond .ne 269, 3) := by decide +kernel
theorem dX9_looksAt_27 : decode cX9_looksAt 27 = .ok (.aload_n 0, 1) := by decide +kernel
theorem dX9_looksAt_28 : decode cX9_looksAt 28 = .ok (.invokevirtual 196, 3) := by decide +kernel
theorem dX9_looksAt_31 : decode cX9_looksAt 31 = .ok (.istore 4, 2) := by decide +kernel
theorem dX9_looksAt_33 : decode cX9_looksAt 33 = .ok (.iload 4, 2) := by decide +kernel
theorem dX9_looksAt_35 : decode cX9_looksAt 35 = .ok (.invokestatic 215, 3) := by decide +kernel
theorem dX9_looksAt_38 : decode cX9_looksAt 38 = .ok (.ifCond .ne 41, 3) := by decide +kernel
theorem dX9_looksAt_41 : decode cX9_looksAt 41 = .ok (.iload 4, 2) := by decide +kernel
theorem dX9_looksAt_43 : decode cX9_looksAt 43 = .ok (.invokestatic 218, 3) := by decide +kernel
theorem dX9_looksAt_46 : decode cX9_looksAt 46 = .ok (.ifCond .ne 33, 3) := by decide +kernel
theorem dX9_looksAt_49 : decode cX9_looksAt 49 = .ok (.iload 4, 2) := by decide +kernel
theorem dX9_looksAt_51 : decode cX9_looksAt 51 = .ok (.invokestatic 190, 3) := by decide +kernel
theorem dX9_looksAt_54 : decode cX9_looksAt 54 = .ok (.ifCond .ne 25, 3) := by decide +kernel
theorem dX9_looksAt_57 : decode cX9_looksAt 57 = .ok (.iload 4, 2) := by decide +kernel
theorem dX9_looksAt_59 : decode cX9_looksAt 59 = .ok (.bipush 112, 2) := by decide +kernel
theorem dX9_looksAt_61 : decode cX9_looksAt 61 = .ok (.if_icmp .eq 18, 3) := by decide +kernel
theorem dX9_looksAt_64 : decode cX9_looksAt 64 = .ok (.iload 4, 2) := by decide +kernel
theorem dX9_looksAt_66 : decode cX9_looksAt 66 = .ok (.bipush 91, 2) := by decide +kernel
theorem dX9_looksAt_68 : decode cX9_looksAt 68 = .ok (.if_icmp .eq 11, 3) := by decide +kernel
theorem dX9_looksAt_71 : decode cX9_looksAt 71 = .ok (.aload_n 0, 1) := by decide +kernel
theorem dX9_looksAt_72 : decode cX9_looksAt 72 = .ok (.iconst 1, 1) := by decide +kernel
theorem dX9_looksAt_73 : decode cX9_looksAt 73 = .ok (.invokevirtual 200, 3) := by decide +kernel
theorem dX9_looksAt_76 : decode cX9_looksAt 76 = .ok (.goto 34, 3) := by decide +kernel
theorem dX9_looksAt_79 : decode cX9_looksAt 79 = .ok (.iload 4, 2) := by decide +kernel
theorem dX9_looksAt_81 : decode cX9_looksAt 81 = .ok (.bipush 91, 2) := by decide +kernel
theorem dX9_looksAt_83 : decode cX9_looksAt 83 = .ok (.if_icmp .ne 16, 3) := by decide +kernel
theorem dX9_looksAt_86 : decode cX9_looksAt 86 = .ok (.iload_n 1, 1) := by decide +kernel
theorem dX9_looksAt_87 : decode cX9_looksAt 87 = .ok (.iconst 3, 1) := by decide +kernel
theorem dX9_looksAt_88 : decode cX9_looksAt 88 = .ok (.if_icmp .ne 11, 3) := by decide +kernel
theorem dX9_looksAt_91 : decode cX9_looksAt 91 = .ok (.aload_n 0, 1) := by decide +kernel
theorem dX9_looksAt_92 : decode cX9_looksAt 92 = .ok (.iconst 3, 1) := by decide +kernel
theorem dX9_looksAt_93 : decode cX9_looksAt 93 = .ok (.invokevirtual 200, 3) := by decide +kernel
theorem dX9_looksAt_96 : decode cX9_looksAt 96 = .ok (.goto 14, 3) := by decide +kernel
theorem dX9_looksAt_99 : decode cX9_looksAt 99 = .ok (.iload_n 2, 1) := by decide +kernel
theorem dX9_looksAt_100 : decode cX9_looksAt 100 = .ok (.bipush 40, 2) := by decide +kernel
theorem dX9_looksAt_102 : decode cX9_looksAt 102 = .ok (.if_icmp .ne 8, 3) := by decide +kernel
theorem dX9_looksAt_105 : decode cX9_looksAt 105 = .ok (.aload_n 0, 1) := by decide +kernel
theorem dX9_looksAt_106 : decode cX9_looksAt 106 = .ok (.iconst 5, 1) := by decide +kernel
theorem dX9_looksAt_107 : decode cX9_looksAt 107 = .ok (.invokevirtual 200, 3) := by decide +kernel
theorem dX9_looksAt_110 : decode cX9_looksAt 110 = .ok (.aload_n 0, 1) := by decide +kernel
theorem dX9_looksAt_111 : decode cX9_looksAt 111 = .ok (.getfield 187, 3) := by decide +kernel
theorem dX9_looksAt_114 : decode cX9_looksAt 114 = .ok (.ifCond .ge 8, 3) := by decide +kernel
theorem dX9_looksAt_117 : decode cX9_looksAt 117 = .ok (.aload_n 0, 1) := by decide +kernel
theorem dX9_looksAt_118 : decode cX9_looksAt 118 = .ok (.getfield 187, 3) := by decide +kernel
theorem dX9_looksAt_121 : decode cX9_looksAt 121 = .ok (.ireturn, 1) := by decide +kernel
theorem dX9_looksAt_122 : decode cX9_looksAt 122 = .ok (.iinc 2 1, 3) := by decide +kernel
theorem dX9_looksAt_125 : decode cX9_looksAt 125 = .ok (.aload_n 0, 1) := by decide +kernel
theorem dX9_looksAt_126 : decode cX9_looksAt 126 = .ok (.dup, 1) := by decide +kernel
theorem dX9_looksAt_127 : decode cX9_looksAt 127 = .ok (.getfield 178, 3) := by decide +kernel
theorem dX9_looksAt_130 : decode cX9_looksAt 130 = .ok (.iconst 1, 1) := by decide +kernel
theorem dX9_looksAt_131 : decode cX9_looksAt 131 = .ok (.iadd, 1) := by decide +kernel
theorem dX9_looksAt_132 : decode cX9_looksAt 132 = .ok (.putfield 178, 3) := by decide +kernel
theorem dX9_looksAt_135 : decode cX9_looksAt 135 = .ok (.iload 4, 2) := by decide +kernel
theorem dX9_looksAt_137 : decode cX9_looksAt 137 = .ok (.invokestatic 190, 3) := by decide +kernel
theorem dX9_looksAt_140 : decode cX9_looksAt 140 = .ok (.ifCond .eq 9, 3) := by decide +kernel
theorem dX9_looksAt_143 : decode cX9_looksAt 143 = .ok (.aload_n 0, 1) := by decide +kernel
theorem dX9_looksAt_144 : decode cX9_looksAt 144 = .ok (.bipush 61, 2) := by decide +kernel
theorem dX9_looksAt_146 : decode cX9_looksAt 146 = .ok (.invokevirtual 221, 3) := by decide +kernel
theorem dX9_looksAt_149 : decode cX9_looksAt 149 = .ok (.aload_n 0, 1) := by decide +kernel
theorem dX9_looksAt_150 : decode cX9_looksAt 150 = .ok (.getfield 187, 3) := by decide +kernel
theorem dX9_looksAt_153 : decode cX9_looksAt 153 = .ok (.ifCond .ne 15, 3) := by decide +kernel
theorem dX9_looksAt_156 : decode cX9_looksAt 156 = .ok (.iload 4, 2) := by decide +kernel
theorem dX9_looksAt_158 : decode cX9_looksAt 158 = .ok (.invokestatic 215, 3) := by decide +kernel
theorem dX9_looksAt_161 : decode cX9_looksAt 161 = .ok (.ifCond .ne 7, 3) := by decide +kernel
theorem dX9_looksAt_164 : decode cX9_looksAt 164 = .ok (.aload_n 0, 1) := by decide +kernel
theorem dX9_looksAt_165 : decode cX9_looksAt 165 = .ok (.invokevirtual 224, 3) := by decide +kernel
theorem dX9_looksAt_168 : decode cX9_looksAt 168 = .ok (.aload_n 0, 1) := by decide +kernel
theorem dX9_looksAt_169 : decode cX9_looksAt 169 = .ok (.getfield 187, 3) := by decide +kernel
theorem dX9_looksAt_172 : decode cX9_looksAt 172 = .ok (.ifCond .ne 27, 3) := by decide +kernel
theorem dX9_looksAt_175 : decode cX9_looksAt 175 = .ok (.iload 4, 2) := by decide +kernel
theorem dX9_looksAt_177 : decode cX9_looksAt 177 = .ok (.bipush 112, 2) := by decide +kernel
theorem dX9_looksAt_179 : decode cX9_looksAt 179 = .ok (.if_icmp .ne 20, 3) := by decide +kernel
theorem dX9_looksAt_182 : decode cX9_looksAt 182 = .ok (.aload_n 0, 1) := by decide +kernel
theorem dX9_looksAt_183 : decode cX9_looksAt 183 = .ok (.bipush 46, 2) := by decide +kernel
theorem dX9_looksAt_185 : decode cX9_looksAt 185 = .ok (.invokevirtual 221, 3) := by decide +kernel
theorem dX9_looksAt_188 : decode cX9_looksAt 188 = .ok (.aload_n 0, 1) := by decide +kernel
theorem dX9_looksAt_189 : decode cX9_looksAt 189 = .ok (.getfield 187, 3) := by decide +kernel
theorem dX9_looksAt_192 : decode cX9_looksAt 192 = .ok (.ifCond .ne 7, 3) := by decide +kernel
theorem dX9_looksAt_195 : decode cX9_looksAt 195 = .ok (.aload_n 0, 1) := by decide +kernel
theorem dX9_looksAt_196 : decode cX9_looksAt 196 = .ok (.invokevirtual 224, 3) := by decide +kernel
theorem dX9_looksAt_199 : decode cX9_looksAt 199 = .ok (.aload_n 0, 1) := by decide +kernel
theorem dX9_looksAt_200 : decode cX9_looksAt 200 = .ok (.getfield 187, 3) := by decide +kernel
theorem dX9_looksAt_203 : decode cX9_looksAt 203 = .ok (.ifCond .ge 8, 3) := by decide +kernel
theorem dX9_looksAt_206 : decode cX9_looksAt 206 = .ok (.aload_n 0, 1) := by decide +kernel
theorem dX9_looksAt_207 : decode cX9_looksAt 207 = .ok (.getfield 187, 3) := by decide +kernel
theorem dX9_looksAt_210 : decode cX9_looksAt 210 = .ok (.ireturn, 1) := by decide +kernel
theorem dX9_looksAt_211 : decode cX9_looksAt 211 = .ok (.iload 4, 2) := by decide +kernel
theorem dX9_looksAt_213 : decode cX9_looksAt 213 = .ok (.bipush 91, 2) := by decide +kernel
theorem dX9_looksAt_215 : decode cX9_looksAt 215 = .ok (.if_icmp .ne 15, 3) := by decide +kernel
theorem dX9_looksAt_218 : decode cX9_looksAt 218 = .ok (.aload_n 0, 1) := by decide +kernel
theorem dX9_looksAt_219 : decode cX9_looksAt 219 = .ok (.bipush 58, 2) := by decide +kernel
theorem dX9_looksAt_221 : decode cX9_looksAt 221 = .ok (.invokevirtual 221, 3) := by decide +kernel
theorem dX9_looksAt_224 : decode cX9_looksAt 224 = .ok (.iinc 1 1, 3) := by decide +kernel
theorem dX9_looksAt_227 : decode cX9_looksAt 227 = .ok (.goto (-211), 3) := by decide +kernel
theorem dX9_looksAt_230 : decode cX9_looksAt 230 = .ok (.aload_n 0, 1) := by decide +kernel
theorem dX9_looksAt_231 : decode cX9_looksAt 231 = .ok (.invokevirtual 196, 3) := by decide +kernel
theorem dX9_looksAt_234 : decode cX9_looksAt 234 = .ok (.bipush 93, 2) := by decide +kernel
theorem dX9_looksAt_236 : decode cX9_looksAt 236 = .ok (.if_icmp .ne 23, 3) := by decide +kernel
theorem dX9_looksAt_239 : decode cX9_looksAt 239 = .ok (.iload_n 1, 1) := by decide +kernel
theorem dX9_looksAt_240 : decode cX9_looksAt 240 = .ok (.ifCond .le 19, 3) := by decide +kernel
theorem dX9_looksAt_243 : decode cX9_looksAt 243 = .ok (.iinc 1 (-1), 3) := by decide +kernel
theorem dX9_looksAt_246 : decode cX9_looksAt 246 = .ok (.aload_n 0, 1) := by decide +kernel
theorem dX9_looksAt_247 : decode cX9_looksAt 247 = .ok (.dup, 1) := by decide +kernel
theorem dX9_looksAt_248 : decode cX9_looksAt 248 = .ok (.getfield 178, 3) := by decide +kernel
theorem dX9_looksAt_251 : decode cX9_looksAt 251 = .ok (.iconst 1, 1) := by decide +kernel
theorem dX9_looksAt_252 : decode cX9_looksAt 252 = .ok (.iadd, 1) := by decide +kernel
theorem dX9_looksAt_253 : decode cX9_looksAt 253 = .ok (.putfield 178, 3) := by decide +kernel
theorem dX9_looksAt_256 : decode cX9_looksAt 256 = .ok (.goto (-26), 3) := by decide +kernel
theorem dX9_looksAt_259 : decode cX9_looksAt 259 = .ok (.aload_n 0, 1) := by decide +kernel
theorem dX9_looksAt_260 : decode cX9_looksAt 260 = .ok (.getfield 178, 3) := by decide +kernel
theorem dX9_looksAt_263 : decode cX9_looksAt 263 = .ok (.aload_n 0, 1) := by decide +kernel
theorem dX9_looksAt_264 : decode cX9_looksAt 264 = .ok (.getfield 181, 3) := by decide +kernel
theorem dX9_looksAt_267 : decode cX9_looksAt 267 = .ok (.if_icmp .lt 7, 3) := by decide +kernel
theorem dX9_looksAt_270 : decode cX9_looksAt 270 = .ok (.iload_n 1, 1) := by decide +kernel
theorem dX9_looksAt_271 : decode cX9_looksAt 271 = .ok (.ifCond .le 7, 3) := by decide +kernel
theorem dX9_looksAt_274 : decode cX9_looksAt 274 = .ok (.iconst 1, 1) := by decide +kernel
theorem dX9_looksAt_275 : decode cX9_looksAt 275 = .ok (.goto 4, 3) := by decide +kernel
theorem dX9_looksAt_278 : decode cX9_looksAt 278 = .ok (.iconst 0, 1) := by decide +kernel
theorem dX9_looksAt_279 : decode cX9_looksAt 279 = .ok (.istore_n 3, 1) := by decide +kernel
theorem dX9_looksAt_280 : decode cX9_looksAt 280 = .ok (.iload_n 3, 1) := by decide +kernel
theorem dX9_looksAt_281 : decode cX9_looksAt 281 = .ok (.ifCond .eq 9, 3) := by decide +kernel
theorem dX9_looksAt_284 : decode cX9_looksAt 284 = .ok (.aload_n 0, 1) := by decide +kernel
theorem dX9_looksAt_285 : decode cX9_looksAt 285 = .ok (.bipush 59, 2) := by decide +kernel
theorem dX9_looksAt_287 : decode cX9_looksAt 287 = .ok (.invokevirtual 221, 3) := by decide +kernel
theorem dX9_looksAt_290 : decode cX9_looksAt 290 = .ok (.goto (-274), 3) := by decide +kernel
theorem dX9_looksAt_293 : decode cX9_looksAt 293 = .ok (.aload_n 0, 1) := by decide +kernel
theorem dX9_looksAt_294 : decode cX9_looksAt 294 = .ok (.getfield 35, 3) := by decide +kernel
theorem dX9_looksAt_297 : decode cX9_looksAt 297 = .ok (.aload_n 0, 1) := by decide +kernel
theorem dX9_looksAt_298 : decode cX9_looksAt 298 = .ok (.getfield 164, 3) := by decide +kernel
theorem dX9_looksAt_301 : decode cX9_looksAt 301 = .ok (.iload_n 2, 1) := by decide +kernel
theorem dX9_looksAt_302 : decode cX9_looksAt 302 = .ok (.iastore, 1) := by decide +kernel
theorem dX9_looksAt_303 : decode cX9_looksAt 303 = .ok (.aload_n 0, 1) := by decide +kernel
theorem dX9_looksAt_304 : decode cX9_looksAt 304 = .ok (.getfield 187, 3) := by decide +kernel
theorem dX9_looksAt_307 : decode cX9_looksAt 307 = .ok (.ireturn, 1) := by decide +kernel
theorem dX9_style_0 : decode cX9_style 0 = .ok (.aload_n 0, 1) := by decide +kernel
theorem dX9_style_1 : decode cX9_style 1 = .ok (.getfield 164, 3) := by decide +kernel
theorem dX9_style_4 : decode cX9_style 4 = .ok (.bipush 10, 2) := by decide +kernel
theorem dX9_style_6 : decode cX9_style 6 = .ok (.if_icmp .eq 21, 3) := by decide +kernel
theorem dX9_style_9 : decode cX9_style 9 = .ok (.iload_n 1, 1) := by decide +kernel
theorem dX9_style_10 : decode cX9_style 10 = .ok (.iconst 1, 1) := by decide +kernel
theorem dX9_style_11 : decode cX9_style 11 = .ok (.bipush 120, 2) := by decide +kernel
theorem dX9_style_13 : decode cX9_style 13 = .ok (.invokestatic 157, 3) := by decide +kernel
theorem dX9_style_16 : decode cX9_style 16 = .ok (.ifCond .eq 11, 3) := by decide +kernel
theorem dX9_style_19 : decode cX9_style 19 = .ok (.iload_n 1, 1) := by decide +kernel
theorem dX9_style_20 : decode cX9_style 20 = .ok (.aload_n 0, 1) := by decide +kernel
theorem dX9_style_21 : decode cX9_style 21 = .ok (.getfield 171, 3) := by decide +kernel
theorem dX9_style_24 : decode cX9_style 24 = .ok (.if_icmp .le 5, 3) := by decide +kernel
theorem dX9_style_27 : decode cX9_style 27 = .ok (.iconst (-1), 1) := by decide +kernel
theorem dX9_style_28 : decode cX9_style 28 = .ok (.ireturn, 1) := by decide +kernel
theorem dX9_style_29 : decode cX9_style 29 = .ok (.aload_n 0, 1) := by decide +kernel
theorem dX9_style_30 : decode cX9_style 30 = .ok (.iconst 0, 1) := by decide +kernel
theorem dX9_style_31 : decode cX9_style 31 = .ok (.putfield 171, 3) := by decide +kernel
theorem dX9_style_34 : decode cX9_style 34 = .ok (.aload_n 0, 1) := by decide +kernel
theorem dX9_style_35 : decode cX9_style 35 = .ok (.bipush 120, 2) := by decide +kernel
theorem dX9_style_37 : decode cX9_style 37 = .ok (.aload_n 0, 1) := by decide +kernel
theorem dX9_style_38 : decode cX9_style 38 = .ok (.getfield 164, 3) := by decide +kernel
theorem dX9_style_41 : decode cX9_style 41 = .ok (.imul, 1) := by decide +kernel
theorem dX9_style_42 : decode cX9_style 42 = .ok (.putfield 184, 3) := by decide +kernel
theorem dX9_style_45 : decode cX9_style 45 = .ok (.aload_n 0, 1) := by decide +kernel
theorem dX9_style_46 : decode cX9_style 46 = .ok (.iload_n 1, 1) := by decide +kernel
theorem dX9_style_47 : decode cX9_style 47 = .ok (.putfield 181, 3) := by decide +kernel
theorem dX9_style_50 : decode cX9_style 50 = .ok (.iconst 0, 1) := by decide +kernel
theorem dX9_style_51 : decode cX9_style 51 = .ok (.istore_n 2, 1) := by decide +kernel
theorem dX9_style_52 : decode cX9_style 52 = .ok (.iload_n 2, 1) := by decide +kernel
theorem dX9_style_53 : decode cX9_style 53 = .ok (.iload_n 1, 1) := by decide +kernel
theorem dX9_style_54 : decode cX9_style 54 = .ok (.if_icmp .ge 26, 3) := by decide +kernel
theorem dX9_style_57 : decode cX9_style 57 = .ok (.aload_n 0, 1) := by decide +kernel
theorem dX9_style_58 : decode cX9_style 58 = .ok (.getfield 29, 3) := by decide +kernel
theorem dX9_style_61 : decode cX9_style 61 = .ok (.aload_n 0, 1) := by decide +kernel
theorem dX9_style_62 : decode cX9_style 62 = .ok (.getfield 184, 3) := by decide +kernel
theorem dX9_style_65 : decode cX9_style 65 = .ok (.iload_n 2, 1) := by decide +kernel
theorem dX9_style_66 : decode cX9_style 66 = .ok (.iadd, 1) := by decide +kernel
theorem dX9_style_67 : decode cX9_style 67 = .ok (.aload_n 0, 1) := by decide +kernel
theorem dX9_style_68 : decode cX9_style 68 = .ok (.getfield 7, 3) := by decide +kernel
theorem dX9_style_71 : decode cX9_style 71 = .ok (.iload_n 2, 1) := by decide +kernel
theorem dX9_style_72 : decode cX9_style 72 = .ok (.baload, 1) := by decide +kernel
theorem dX9_style_73 : decode cX9_style 73 = .ok (.bastore, 1) := by decide +kernel
theorem dX9_style_74 : decode cX9_style 74 = .ok (.iinc 2 1, 3) := by decide +kernel
theorem dX9_style_77 : decode cX9_style 77 = .ok (.goto (-25), 3) := by decide +kernel
theorem dX9_style_80 : decode cX9_style 80 = .ok (.aload_n 0, 1) := by decide +kernel
theorem dX9_style_81 : decode cX9_style 81 = .ok (.invokevirtual 227, 3) := by decide +kernel
theorem dX9_style_84 : decode cX9_style 84 = .ok (.istore_n 2, 1) := by decide +kernel
theorem dX9_style_85 : decode cX9_style 85 = .ok (.iload_n 2, 1) := by decide +kernel
theorem dX9_style_86 : decode cX9_style 86 = .ok (.ifCond .ge 5, 3) := by decide +kernel
theorem dX9_style_89 : decode cX9_style 89 = .ok (.iload_n 2, 1) := by decide +kernel
theorem dX9_style_90 : decode cX9_style 90 = .ok (.ireturn, 1) := by decide +kernel
theorem dX9_style_91 : decode cX9_style 91 = .ok (.aload_n 0, 1) := by decide +kernel
theorem dX9_style_92 : decode cX9_style 92 = .ok (.getfield 32, 3) := by decide +kernel
theorem dX9_style_95 : decode cX9_style 95 = .ok (.aload_n 0, 1) := by decide +kernel
theorem dX9_style_96 : decode cX9_style 96 = .ok (.getfield 164, 3) := by decide +kernel
theorem dX9_style_99 : decode cX9_style 99 = .ok (.iload_n 1, 1) := by decide +kernel
theorem dX9_style_100 : decode cX9_style 100 = .ok (.iastore, 1) := by decide +kernel
theorem dX9_style_101 : decode cX9_style 101 = .ok (.aload_n 0, 1) := by decide +kernel
theorem dX9_style_102 : decode cX9_style 102 = .ok (.dup, 1) := by decide +kernel
theorem dX9_style_103 : decode cX9_style 103 = .ok (.getfield 164, 3) := by decide +kernel
theorem dX9_style_106 : decode cX9_style 106 = .ok (.iconst 1, 1) := by decide +kernel
theorem dX9_style_107 : decode cX9_style 107 = .ok (.iadd, 1) := by decide +kernel
theorem dX9_style_108 : decode cX9_style 108 = .ok (.putfield 164, 3) := by decide +kernel
theorem dX9_style_111 : decode cX9_style 111 = .ok (.aload_n 0, 1) := by decide +kernel
theorem dX9_style_112 : decode cX9_style 112 = .ok (.getfield 164, 3) := by decide +kernel
theorem dX9_style_115 : decode cX9_style 115 = .ok (.iconst 1, 1) := by decide +kernel
theorem dX9_style_116 : decode cX9_style 116 = .ok (.isub, 1) := by decide +kernel
theorem dX9_style_117 : decode cX9_style 117 = .ok (.ireturn, 1) := by decide +kernel
theorem dX9_widthAt_0 : decode cX9_widthAt 0 = .ok (.iconst 0, 1) := by decide +kernel
theorem dX9_widthAt_1 : decode cX9_widthAt 1 = .ok (.istore 4, 2) := by decide +kernel
theorem dX9_widthAt_3 : decode cX9_widthAt 3 = .ok (.iload_n 1, 1) := by decide +kernel
theorem dX9_widthAt_4 : decode cX9_widthAt 4 = .ok (.istore 5, 2) := by decide +kernel
theorem dX9_widthAt_6 : decode cX9_widthAt 6 = .ok (.iload 5, 2) := by decide +kernel
theorem dX9_widthAt_8 : decode cX9_widthAt 8 = .ok (.iload_n 1, 1) := by decide +kernel
theorem dX9_widthAt_9 : decode cX9_widthAt 9 = .ok (.iload_n 2, 1) := by decide +kernel
theorem dX9_widthAt_10 : decode cX9_widthAt 10 = .ok (.iadd, 1) := by decide +kernel
theorem dX9_widthAt_11 : decode cX9_widthAt 11 = .ok (.if_icmp .ge 45, 3) := by decide +kernel
theorem dX9_widthAt_14 : decode cX9_widthAt 14 = .ok (.aload_n 0, 1) := by decide +kernel
theorem dX9_widthAt_15 : decode cX9_widthAt 15 = .ok (.getfield 13, 3) := by decide +kernel
theorem dX9_widthAt_18 : decode cX9_widthAt 18 = .ok (.bipush 8, 2) := by decide +kernel
theorem dX9_widthAt_20 : decode cX9_widthAt 20 = .ok (.iload_n 3, 1) := by decide +kernel
theorem dX9_widthAt_21 : decode cX9_widthAt 21 = .ok (.imul, 1) := by decide +kernel
theorem dX9_widthAt_22 : decode cX9_widthAt 22 = .ok (.iload 5, 2) := by decide +kernel
theorem dX9_widthAt_24 : decode cX9_widthAt 24 = .ok (.iadd, 1) := by decide +kernel
theorem dX9_widthAt_25 : decode cX9_widthAt 25 = .ok (.iaload, 1) := by decide +kernel
theorem dX9_widthAt_26 : decode cX9_widthAt 26 = .ok (.iload 4, 2) := by decide +kernel
theorem dX9_widthAt_28 : decode cX9_widthAt 28 = .ok (.if_icmp .le 18, 3) := by decide +kernel
theorem dX9_widthAt_31 : decode cX9_widthAt 31 = .ok (.aload_n 0, 1) := by decide +kernel
theorem dX9_widthAt_32 : decode cX9_widthAt 32 = .ok (.getfield 13, 3) := by decide +kernel
theorem dX9_widthAt_35 : decode cX9_widthAt 35 = .ok (.bipush 8, 2) := by decide +kernel
theorem dX9_widthAt_37 : decode cX9_widthAt 37 = .ok (.iload_n 3, 1) := by decide +kernel
theorem dX9_widthAt_38 : decode cX9_widthAt 38 = .ok (.imul, 1) := by decide +kernel
theorem dX9_widthAt_39 : decode cX9_widthAt 39 = .ok (.iload 5, 2) := by decide +kernel
theorem dX9_widthAt_41 : decode cX9_widthAt 41 = .ok (.iadd, 1) := by decide +kernel
theorem dX9_widthAt_42 : decode cX9_widthAt 42 = .ok (.iaload, 1) := by decide +kernel
theorem dX9_widthAt_43 : decode cX9_widthAt 43 = .ok (.goto 5, 3) := by decide +kernel
theorem dX9_widthAt_46 : decode cX9_widthAt 46 = .ok (.iload 4, 2) := by decide +kernel
theorem dX9_widthAt_48 : decode cX9_widthAt 48 = .ok (.istore 4, 2) := by decide +kernel
theorem dX9_widthAt_50 : decode cX9_widthAt 50 = .ok (.iinc 5 1, 3) := by decide +kernel
theorem dX9_widthAt_53 : decode cX9_widthAt 53 = .ok (.goto (-47), 3) := by decide +kernel
theorem dX9_widthAt_56 : decode cX9_widthAt 56 = .ok (.iload 4, 2) := by decide +kernel
theorem dX9_widthAt_58 : decode cX9_widthAt 58 = .ok (.ireturn, 1) := by decide +kernel
section
variable {d : Nat} {M : gM} {Z : Option Value → gM → Prop} {a0 a1 a2 a3 a4 a5 a6 a7 a8 a9 a10 a11 a12 : Option Value} {v s0 s1 s2 s3 s4 s5 s6 s7 s8 s9 s10 s11 : Value} {x y w : Int32} {o b u1 u2 : Nat}
/-! 133: X9_isName (I)Z -/
theorem gd133 {pc : Nat} {r : Except _ _} (h : decode cX9_isName pc = r) : decode (gby 133) pc = r := h
theorem z133_0 : Run d 133 0 [some (.int x)] [] M 0 0 Z ↔ Run d 133 1 [some (.int x)] [.int x] M 0 0 Z := R_local (gd133 dX9_isName_0) rfl rfl rfl
theorem z133_1 : Run d 133 1 [a0] [s0] M 0 0 Z ↔ Run d 133 3 [a0] [.int 120, s0] M 0 0 Z := R_bipush (gd133 dX9_isName_1) (by decide)
theorem z133_3 : Run d 133 3 [a0] [.int y, .int x] M 0 0 Z ↔ (x = y → Run d 133 18 [a0] [] M 0 0 Z) ∧ (¬ (x = y) → Run d 133 6 [a0] [] M 0 0 Z) := R_icmp (gd133 dX9_isName_3) (show gTgt 3 15 = some 18 by decide) gIf_eq
theorem z133_6 : Run d 133 6 [some (.int x)] [] M 0 0 Z ↔ Run d 133 7 [some (.int x)] [.int x] M 0 0 Z := R_local (gd133 dX9_isName_6) rfl rfl rfl
theorem z133_7 : Run d 133 7 [a0] [s0] M 0 0 Z ↔ Run d 133 9 [a0] [.int 121, s0] M 0 0 Z := R_bipush (gd133 dX9_isName_7) (by decide)
theorem z133_9 : Run d 133 9 [a0] [.int y, .int x] M 0 0 Z ↔ (x = y → Run d 133 18 [a0] [] M 0 0 Z) ∧ (¬ (x = y) → Run d 133 12 [a0] [] M 0 0 Z) := R_icmp (gd133 dX9_isName_9) (show gTgt 9 9 = some 18 by decide) gIf_eq
theorem z133_12 : Run d 133 12 [some (.int x)] [] M 0 0 Z ↔ Run d 133 13 [some (.int x)] [.int x] M 0 0 Z := R_local (gd133 dX9_isName_12) rfl rfl rfl
theorem z133_13 : Run d 133 13 [a0] [s0] M 0 0 Z ↔ Run d 133 15 [a0] [.int 122, s0] M 0 0 Z := R_bipush (gd133 dX9_isName_13) (by decide)
theorem z133_15 : Run d 133 15 [a0] [.int y, .int x] M 0 0 Z ↔ (¬ x = y → Run d 133 22 [a0] [] M 0 0 Z) ∧ (¬ (¬ x = y) → Run d 133 18 [a0] [] M 0 0 Z) := R_icmp (gd133 dX9_isName_15) (show gTgt 15 7 = some 22 by decide) gIf_ne
theorem z133_18 : Run d 133 18 [a0] [] M 0 0 Z ↔ Run d 133 19 [a0] [.int 1] M 0 0 Z := R_iconst (gd133 dX9_isName_18) (by decide)
theorem z133_19 : Run d 133 19 [a0] [s0] M 0 0 Z ↔ Run d 133 23 [a0] [s0] M 0 0 Z := R_goto (gd133 dX9_isName_19) (show gTgt 19 4 = some 23 by decide)
theorem z133_22 : Run d 133 22 [a0] [] M 0 0 Z ↔ Run d 133 23 [a0] [.int 0] M 0 0 Z := R_iconst (gd133 dX9_isName_22) (by decide)
theorem z133_23 : Run d 133 23 [a0] [.int x] M 0 0 Z ↔ (x = 0 ∨ x = 1) ∧ Z (some (.int x)) M := R_iretZ (gd133 dX9_isName_23) rfl
theorem e133 : Call (d + 1) 133 [s0] M Z ↔ Run d 133 0 [some s0] [] M 0 0 Z := Call_iff (Nat.lt_of_lt_of_le (Nat.lt_succ_self 133) (Nat.le_of_ble_eq_true rfl)) (Nat.le_of_ble_eq_true rfl)
/-! 134: X9_isValue (I)Z -/
theorem gd134 {pc : Nat} {r : Except _ _} (h : decode cX9_isValue pc = r) : decode (gby 134) pc = r := h
theorem z134_0 : Run d 134 0 [some (.int x)] [] M 0 0 Z ↔ Run d 134 1 [some (.int x)] [.int x] M 0 0 Z := R_local (gd134 dX9_isValue_0) rfl rfl rfl
theorem z134_1 : Run d 134 1 [a0] [s0] M 0 0 Z ↔ Call d 133 [s0] M (fun r M1 => Run d 134 4 [a0] (r.toList ++ []) M1 0 0 Z) := R_call (gd134 dX9_isValue_1) rfl rfl rfl rfl rfl rfl gc_9_190 rfl (by decide) (Nat.le_of_ble_eq_true rfl) (Nat.le_of_ble_eq_true rfl) rfl rfl rfl (Nat.le_of_ble_eq_true rfl) (Nat.le_of_ble_eq_true rfl)
theorem z134_4 : Run d 134 4 [a0] [.int x] M 0 0 Z ↔ (¬ x = 0 → Run d 134 31 [a0] [] M 0 0 Z) ∧ (¬ (¬ x = 0) → Run d 134 7 [a0] [] M 0 0 Z) := R_if (gd134 dX9_isValue_4) (show gTgt 4 27 = some 31 by decide) gIf_ne
theorem z134_7 : Run d 134 7 [some (.int x)] [] M 0 0 Z ↔ Run d 134 8 [some (.int x)] [.int x] M 0 0 Z := R_local (gd134 dX9_isValue_7) rfl rfl rfl
theorem z134_8 : Run d 134 8 [a0] [s0] M 0 0 Z ↔ Run d 134 10 [a0] [.int 108, s0] M 0 0 Z := R_bipush (gd134 dX9_isValue_8) (by decide)
theorem z134_10 : Run d 134 10 [a0] [.int y, .int x] M 0 0 Z ↔ (x = y → Run d 134 31 [a0] [] M 0 0 Z) ∧ (¬ (x = y) → Run d 134 13 [a0] [] M 0 0 Z) := R_icmp (gd134 dX9_isValue_10) (show gTgt 10 21 = some 31 by decide) gIf_eq
theorem z134_13 : Run d 134 13 [some (.int x)] [] M 0 0 Z ↔ Run d 134 14 [some (.int x)] [.int x] M 0 0 Z := R_local (gd134 dX9_isValue_13) rfl rfl rfl
theorem z134_14 : Run d 134 14 [a0] [s0] M 0 0 Z ↔ Run d 134 16 [a0] [.int 103, s0] M 0 0 Z := R_bipush (gd134 dX9_isValue_14) (by decide)
theorem z134_16 : Run d 134 16 [a0] [.int y, .int x] M 0 0 Z ↔ (x = y → Run d 134 31 [a0] [] M 0 0 Z) ∧ (¬ (x = y) → Run d 134 19 [a0] [] M 0 0 Z) := R_icmp (gd134 dX9_isValue_16) (show gTgt 16 15 = some 31 by decide) gIf_eq
theorem z134_19 : Run d 134 19 [some (.int x)] [] M 0 0 Z ↔ Run d 134 20 [some (.int x)] [.int x] M 0 0 Z := R_local (gd134 dX9_isValue_19) rfl rfl rfl
theorem z134_20 : Run d 134 20 [a0] [s0] M 0 0 Z ↔ Run d 134 22 [a0] [.int 107, s0] M 0 0 Z := R_bipush (gd134 dX9_isValue_20) (by decide)
theorem z134_22 : Run d 134 22 [a0] [.int y, .int x] M 0 0 Z ↔ (x = y → Run d 134 31 [a0] [] M 0 0 Z) ∧ (¬ (x = y) → Run d 134 25 [a0] [] M 0 0 Z) := R_icmp (gd134 dX9_isValue_22) (show gTgt 22 9 = some 31 by decide) gIf_eq
theorem z134_25 : Run d 134 25 [some (.int x)] [] M 0 0 Z ↔ Run d 134 26 [some (.int x)] [.int x] M 0 0 Z := R_local (gd134 dX9_isValue_25) rfl rfl rfl
theorem z134_26 : Run d 134 26 [a0] [s0] M 0 0 Z ↔ Run d 134 28 [a0] [.int 105, s0] M 0 0 Z := R_bipush (gd134 dX9_isValue_26) (by decide)
theorem z134_28 : Run d 134 28 [a0] [.int y, .int x] M 0 0 Z ↔ (¬ x = y → Run d 134 35 [a0] [] M 0 0 Z) ∧ (¬ (¬ x = y) → Run d 134 31 [a0] [] M 0 0 Z) := R_icmp (gd134 dX9_isValue_28) (show gTgt 28 7 = some 35 by decide) gIf_ne
theorem z134_31 : Run d 134 31 [a0] [] M 0 0 Z ↔ Run d 134 32 [a0] [.int 1] M 0 0 Z := R_iconst (gd134 dX9_isValue_31) (by decide)
theorem z134_32 : Run d 134 32 [a0] [s0] M 0 0 Z ↔ Run d 134 36 [a0] [s0] M 0 0 Z := R_goto (gd134 dX9_isValue_32) (show gTgt 32 4 = some 36 by decide)
theorem z134_35 : Run d 134 35 [a0] [] M 0 0 Z ↔ Run d 134 36 [a0] [.int 0] M 0 0 Z := R_iconst (gd134 dX9_isValue_35) (by decide)
theorem z134_36 : Run d 134 36 [a0] [.int x] M 0 0 Z ↔ (x = 0 ∨ x = 1) ∧ Z (some (.int x)) M := R_iretZ (gd134 dX9_isValue_36) rfl
theorem e134 : Call (d + 1) 134 [s0] M Z ↔ Run d 134 0 [some s0] [] M 0 0 Z := Call_iff (Nat.lt_of_lt_of_le (Nat.lt_succ_self 134) (Nat.le_of_ble_eq_true rfl)) (Nat.le_of_ble_eq_true rfl)
/-! 135: X9_isTimes (I)Z -/
theorem gd135 {pc : Nat} {r : Except _ _} (h : decode cX9_isTimes pc = r) : decode (gby 135) pc = r := h
theorem z135_0 : Run d 135 0 [some (.int x)] [] M 0 0 Z ↔ Run d 135 1 [some (.int x)] [.int x] M 0 0 Z := R_local (gd135 dX9_isTimes_0) rfl rfl rfl
theorem z135_1 : Run d 135 1 [a0] [s0] M 0 0 Z ↔ Run d 135 3 [a0] [.int 42, s0] M 0 0 Z := R_bipush (gd135 dX9_isTimes_1) (by decide)
theorem z135_3 : Run d 135 3 [a0] [.int y, .int x] M 0 0 Z ↔ (x = y → Run d 135 12 [a0] [] M 0 0 Z) ∧ (¬ (x = y) → Run d 135 6 [a0] [] M 0 0 Z) := R_icmp (gd135 dX9_isTimes_3) (show gTgt 3 9 = some 12 by decide) gIf_eq
theorem z135_6 : Run d 135 6 [some (.int x)] [] M 0 0 Z ↔ Run d 135 7 [some (.int x)] [.int x] M 0 0 Z := R_local (gd135 dX9_isTimes_6) rfl rfl rfl
theorem z135_7 : Run d 135 7 [a0] [s0] M 0 0 Z ↔ Run d 135 9 [a0] [.int 47, s0] M 0 0 Z := R_bipush (gd135 dX9_isTimes_7) (by decide)
theorem z135_9 : Run d 135 9 [a0] [.int y, .int x] M 0 0 Z ↔ (¬ x = y → Run d 135 16 [a0] [] M 0 0 Z) ∧ (¬ (¬ x = y) → Run d 135 12 [a0] [] M 0 0 Z) := R_icmp (gd135 dX9_isTimes_9) (show gTgt 9 7 = some 16 by decide) gIf_ne
theorem z135_12 : Run d 135 12 [a0] [] M 0 0 Z ↔ Run d 135 13 [a0] [.int 1] M 0 0 Z := R_iconst (gd135 dX9_isTimes_12) (by decide)
theorem z135_13 : Run d 135 13 [a0] [s0] M 0 0 Z ↔ Run d 135 17 [a0] [s0] M 0 0 Z := R_goto (gd135 dX9_isTimes_13) (show gTgt 13 4 = some 17 by decide)
theorem z135_16 : Run d 135 16 [a0] [] M 0 0 Z ↔ Run d 135 17 [a0] [.int 0] M 0 0 Z := R_iconst (gd135 dX9_isTimes_16) (by decide)
theorem z135_17 : Run d 135 17 [a0] [.int x] M 0 0 Z ↔ (x = 0 ∨ x = 1) ∧ Z (some (.int x)) M := R_iretZ (gd135 dX9_isTimes_17) rfl
theorem e135 : Call (d + 1) 135 [s0] M Z ↔ Run d 135 0 [some s0] [] M 0 0 Z := Call_iff (Nat.lt_of_lt_of_le (Nat.lt_succ_self 135) (Nat.le_of_ble_eq_true rfl)) (Nat.le_of_ble_eq_true rfl)
/-! 136: X9_isSign (I)Z -/
theorem gd136 {pc : Nat} {r : Except _ _} (h : decode cX9_isSign pc = r) : decode (gby 136) pc = r := h
theorem z136_0 : Run d 136 0 [some (.int x)] [] M 0 0 Z ↔ Run d 136 1 [some (.int x)] [.int x] M 0 0 Z := R_local (gd136 dX9_isSign_0) rfl rfl rfl
theorem z136_1 : Run d 136 1 [a0] [s0] M 0 0 Z ↔ Call d 135 [s0] M (fun r M1 => Run d 136 4 [a0] (r.toList ++ []) M1 0 0 Z) := R_call (gd136 dX9_isSign_1) rfl rfl rfl rfl rfl rfl gc_9_193 rfl (by decide) (Nat.le_of_ble_eq_true rfl) (Nat.le_of_ble_eq_true rfl) rfl rfl rfl (Nat.le_of_ble_eq_true rfl) (Nat.le_of_ble_eq_true rfl)
theorem z136_4 : Run d 136 4 [a0] [.int x] M 0 0 Z ↔ (¬ x = 0 → Run d 136 19 [a0] [] M 0 0 Z) ∧ (¬ (¬ x = 0) → Run d 136 7 [a0] [] M 0 0 Z) := R_if (gd136 dX9_isSign_4) (show gTgt 4 15 = some 19 by decide) gIf_ne
theorem z136_7 : Run d 136 7 [some (.int x)] [] M 0 0 Z ↔ Run d 136 8 [some (.int x)] [.int x] M 0 0 Z := R_local (gd136 dX9_isSign_7) rfl rfl rfl
theorem z136_8 : Run d 136 8 [a0] [s0] M 0 0 Z ↔ Run d 136 10 [a0] [.int 43, s0] M 0 0 Z := R_bipush (gd136 dX9_isSign_8) (by decide)
theorem z136_10 : Run d 136 10 [a0] [.int y, .int x] M 0 0 Z ↔ (x = y → Run d 136 19 [a0] [] M 0 0 Z) ∧ (¬ (x = y) → Run d 136 13 [a0] [] M 0 0 Z) := R_icmp (gd136 dX9_isSign_10) (show gTgt 10 9 = some 19 by decide) gIf_eq
theorem z136_13 : Run d 136 13 [some (.int x)] [] M 0 0 Z ↔ Run d 136 14 [some (.int x)] [.int x] M 0 0 Z := R_local (gd136 dX9_isSign_13) rfl rfl rfl
theorem z136_14 : Run d 136 14 [a0] [s0] M 0 0 Z ↔ Run d 136 16 [a0] [.int 45, s0] M 0 0 Z := R_bipush (gd136 dX9_isSign_14) (by decide)
theorem z136_16 : Run d 136 16 [a0] [.int y, .int x] M 0 0 Z ↔ (¬ x = y → Run d 136 23 [a0] [] M 0 0 Z) ∧ (¬ (¬ x = y) → Run d 136 19 [a0] [] M 0 0 Z) := R_icmp (gd136 dX9_isSign_16) (show gTgt 16 7 = some 23 by decide) gIf_ne
theorem z136_19 : Run d 136 19 [a0] [] M 0 0 Z ↔ Run d 136 20 [a0] [.int 1] M 0 0 Z := R_iconst (gd136 dX9_isSign_19) (by decide)
theorem z136_20 : Run d 136 20 [a0] [s0] M 0 0 Z ↔ Run d 136 24 [a0] [s0] M 0 0 Z := R_goto (gd136 dX9_isSign_20) (show gTgt 20 4 = some 24 by decide)
theorem z136_23 : Run d 136 23 [a0] [] M 0 0 Z ↔ Run d 136 24 [a0] [.int 0] M 0 0 Z := R_iconst (gd136 dX9_isSign_23) (by decide)
theorem z136_24 : Run d 136 24 [a0] [.int x] M 0 0 Z ↔ (x = 0 ∨ x = 1) ∧ Z (some (.int x)) M := R_iretZ (gd136 dX9_isSign_24) rfl
theorem e136 : Call (d + 1) 136 [s0] M Z ↔ Run d 136 0 [some s0] [] M 0 0 Z := Call_iff (Nat.lt_of_lt_of_le (Nat.lt_succ_self 136) (Nat.le_of_ble_eq_true rfl)) (Nat.le_of_ble_eq_true rfl)
/-! 137: X9_isPlain (I)Z -/
theorem gd137 {pc : Nat} {r : Except _ _} (h : decode cX9_isPlain pc = r) : decode (gby 137) pc = r := h
theorem z137_0 : Run d 137 0 [some (.int x)] [] M 0 0 Z ↔ Run d 137 1 [some (.int x)] [.int x] M 0 0 Z := R_local (gd137 dX9_isPlain_0) rfl rfl rfl
theorem z137_1 : Run d 137 1 [a0] [s0] M 0 0 Z ↔ Run d 137 3 [a0] [.int 116, s0] M 0 0 Z := R_bipush (gd137 dX9_isPlain_1) (by decide)
theorem z137_3 : Run d 137 3 [a0] [.int y, .int x] M 0 0 Z ↔ (x = y → Run d 137 24 [a0] [] M 0 0 Z) ∧ (¬ (x = y) → Run d 137 6 [a0] [] M 0 0 Z) := R_icmp (gd137 dX9_isPlain_3) (show gTgt 3 21 = some 24 by decide) gIf_eq
theorem z137_6 : Run d 137 6 [some (.int x)] [] M 0 0 Z ↔ Run d 137 7 [some (.int x)] [.int x] M 0 0 Z := R_local (gd137 dX9_isPlain_6) rfl rfl rfl
theorem z137_7 : Run d 137 7 [a0] [s0] M 0 0 Z ↔ Run d 137 9 [a0] [.int 114, s0] M 0 0 Z := R_bipush (gd137 dX9_isPlain_7) (by decide)
theorem z137_9 : Run d 137 9 [a0] [.int y, .int x] M 0 0 Z ↔ (x = y → Run d 137 24 [a0] [] M 0 0 Z) ∧ (¬ (x = y) → Run d 137 12 [a0] [] M 0 0 Z) := R_icmp (gd137 dX9_isPlain_9) (show gTgt 9 15 = some 24 by decide) gIf_eq
theorem z137_12 : Run d 137 12 [some (.int x)] [] M 0 0 Z ↔ Run d 137 13 [some (.int x)] [.int x] M 0 0 Z := R_local (gd137 dX9_isPlain_12) rfl rfl rfl
theorem z137_13 : Run d 137 13 [a0] [s0] M 0 0 Z ↔ Run d 137 15 [a0] [.int 102, s0] M 0 0 Z := R_bipush (gd137 dX9_isPlain_13) (by decide)
theorem z137_15 : Run d 137 15 [a0] [.int y, .int x] M 0 0 Z ↔ (x = y → Run d 137 24 [a0] [] M 0 0 Z) ∧ (¬ (x = y) → Run d 137 18 [a0] [] M 0 0 Z) := R_icmp (gd137 dX9_isPlain_15) (show gTgt 15 9 = some 24 by decide) gIf_eq
theorem z137_18 : Run d 137 18 [some (.int x)] [] M 0 0 Z ↔ Run d 137 19 [some (.int x)] [.int x] M 0 0 Z := R_local (gd137 dX9_isPlain_18) rfl rfl rfl
theorem z137_19 : Run d 137 19 [a0] [s0] M 0 0 Z ↔ Run d 137 21 [a0] [.int 115, s0] M 0 0 Z := R_bipush (gd137 dX9_isPlain_19) (by decide)
theorem z137_21 : Run d 137 21 [a0] [.int y, .int x] M 0 0 Z ↔ (¬ x = y → Run d 137 28 [a0] [] M 0 0 Z) ∧ (¬ (¬ x = y) → Run d 137 24 [a0] [] M 0 0 Z) := R_icmp (gd137 dX9_isPlain_21) (show gTgt 21 7 = some 28 by decide) gIf_ne
theorem z137_24 : Run d 137 24 [a0] [] M 0 0 Z ↔ Run d 137 25 [a0] [.int 1] M 0 0 Z := R_iconst (gd137 dX9_isPlain_24) (by decide)
theorem z137_25 : Run d 137 25 [a0] [s0] M 0 0 Z ↔ Run d 137 29 [a0] [s0] M 0 0 Z := R_goto (gd137 dX9_isPlain_25) (show gTgt 25 4 = some 29 by decide)
theorem z137_28 : Run d 137 28 [a0] [] M 0 0 Z ↔ Run d 137 29 [a0] [.int 0] M 0 0 Z := R_iconst (gd137 dX9_isPlain_28) (by decide)
theorem z137_29 : Run d 137 29 [a0] [.int x] M 0 0 Z ↔ (x = 0 ∨ x = 1) ∧ Z (some (.int x)) M := R_iretZ (gd137 dX9_isPlain_29) rfl
theorem e137 : Call (d + 1) 137 [s0] M Z ↔ Run d 137 0 [some s0] [] M 0 0 Z := Call_iff (Nat.lt_of_lt_of_le (Nat.lt_succ_self 137) (Nat.le_of_ble_eq_true rfl)) (Nat.le_of_ble_eq_true rfl)
/-! 138: X9_isAct (I)Z -/
theorem gd138 {pc : Nat} {r : Except _ _} (h : decode cX9_isAct pc = r) : decode (gby 138) pc = r := h
theorem z138_0 : Run d 138 0 [some (.int x)] [] M 0 0 Z ↔ Run d 138 1 [some (.int x)] [.int x] M 0 0 Z := R_local (gd138 dX9_isAct_0) rfl rfl rfl
theorem z138_1 : Run d 138 1 [a0] [s0] M 0 0 Z ↔ Run d 138 3 [a0] [.int 119, s0] M 0 0 Z := R_bipush (gd138 dX9_isAct_1) (by decide)
theorem z138_3 : Run d 138 3 [a0] [.int y, .int x] M 0 0 Z ↔ (x = y → Run d 138 24 [a0] [] M 0 0 Z) ∧ (¬ (x = y) → Run d 138 6 [a0] [] M 0 0 Z) := R_icmp (gd138 dX9_isAct_3) (show gTgt 3 21 = some 24 by decide) gIf_eq
theorem z138_6 : Run d 138 6 [some (.int x)] [] M 0 0 Z ↔ Run d 138 7 [some (.int x)] [.int x] M 0 0 Z := R_local (gd138 dX9_isAct_6) rfl rfl rfl
theorem z138_7 : Run d 138 7 [a0] [s0] M 0 0 Z ↔ Run d 138 9 [a0] [.int 117, s0] M 0 0 Z := R_bipush (gd138 dX9_isAct_7) (by decide)
theorem z138_9 : Run d 138 9 [a0] [.int y, .int x] M 0 0 Z ↔ (x = y → Run d 138 24 [a0] [] M 0 0 Z) ∧ (¬ (x = y) → Run d 138 12 [a0] [] M 0 0 Z) := R_icmp (gd138 dX9_isAct_9) (show gTgt 9 15 = some 24 by decide) gIf_eq
theorem z138_12 : Run d 138 12 [some (.int x)] [] M 0 0 Z ↔ Run d 138 13 [some (.int x)] [.int x] M 0 0 Z := R_local (gd138 dX9_isAct_12) rfl rfl rfl
theorem z138_13 : Run d 138 13 [a0] [s0] M 0 0 Z ↔ Run d 138 15 [a0] [.int 100, s0] M 0 0 Z := R_bipush (gd138 dX9_isAct_13) (by decide)
theorem z138_15 : Run d 138 15 [a0] [.int y, .int x] M 0 0 Z ↔ (x = y → Run d 138 24 [a0] [] M 0 0 Z) ∧ (¬ (x = y) → Run d 138 18 [a0] [] M 0 0 Z) := R_icmp (gd138 dX9_isAct_15) (show gTgt 15 9 = some 24 by decide) gIf_eq
theorem z138_18 : Run d 138 18 [some (.int x)] [] M 0 0 Z ↔ Run d 138 19 [some (.int x)] [.int x] M 0 0 Z := R_local (gd138 dX9_isAct_18) rfl rfl rfl
theorem z138_19 : Run d 138 19 [a0] [s0] M 0 0 Z ↔ Run d 138 21 [a0] [.int 104, s0] M 0 0 Z := R_bipush (gd138 dX9_isAct_19) (by decide)
theorem z138_21 : Run d 138 21 [a0] [.int y, .int x] M 0 0 Z ↔ (¬ x = y → Run d 138 28 [a0] [] M 0 0 Z) ∧ (¬ (¬ x = y) → Run d 138 24 [a0] [] M 0 0 Z) := R_icmp (gd138 dX9_isAct_21) (show gTgt 21 7 = some 28 by decide) gIf_ne
theorem z138_24 : Run d 138 24 [a0] [] M 0 0 Z ↔ Run d 138 25 [a0] [.int 1] M 0 0 Z := R_iconst (gd138 dX9_isAct_24) (by decide)
theorem z138_25 : Run d 138 25 [a0] [s0] M 0 0 Z ↔ Run d 138 29 [a0] [s0] M 0 0 Z := R_goto (gd138 dX9_isAct_25) (show gTgt 25 4 = some 29 by decide)
theorem z138_28 : Run d 138 28 [a0] [] M 0 0 Z ↔ Run d 138 29 [a0] [.int 0] M 0 0 Z := R_iconst (gd138 dX9_isAct_28) (by decide)
theorem z138_29 : Run d 138 29 [a0] [.int x] M 0 0 Z ↔ (x = 0 ∨ x = 1) ∧ Z (some (.int x)) M := R_iretZ (gd138 dX9_isAct_29) rfl
theorem e138 : Call (d + 1) 138 [s0] M Z ↔ Run d 138 0 [some s0] [] M 0 0 Z := Call_iff (Nat.lt_of_lt_of_le (Nat.lt_succ_self 138) (Nat.le_of_ble_eq_true rfl)) (Nat.le_of_ble_eq_true rfl)
/-! 139: X9_must (I)V -/
theorem gd139 {pc : Nat} {r : Except _ _} (h : decode cX9_must pc = r) : decode (gby 139) pc = r := h
theorem z139_0 : Run d 139 0 [some (.ref o), a1] [] M 0 0 Z ↔ Run d 139 1 [some (.ref o), a1] [.ref o] M 0 0 Z := R_local (gd139 dX9_must_0) rfl rfl rfl
theorem z139_1 : Run d 139 1 [a0, a1] [.ref b] M 0 0 Z ↔ gObj M b 9 ∧ Call d 130 [.ref b] M (fun r M1 => Run d 139 4 [a0, a1] (r.toList ++ []) M1 0 0 Z) := R_callV (gd139 dX9_must_1) rfl rfl rfl rfl rfl rfl gc_9_196 rfl rfl (Nat.le_of_ble_eq_true rfl) (Nat.le_of_ble_eq_true rfl) rfl rfl (Nat.le_of_ble_eq_true rfl) (Nat.le_of_ble_eq_true rfl)
theorem z139_4 : Run d 139 4 [a0, some (.int x)] [s0] M 0 0 Z ↔ Run d 139 5 [a0, some (.int x)] [.int x, s0] M 0 0 Z := R_local (gd139 dX9_must_4) rfl rfl rfl
theorem z139_5 : Run d 139 5 [a0, a1] [.int y, .int x] M 0 0 Z ↔ (x = y → Run d 139 13 [a0, a1] [] M 0 0 Z) ∧ (¬ (x = y) → Run d 139 8 [a0, a1] [] M 0 0 Z) := R_icmp (gd139 dX9_must_5) (show gTgt 5 8 = some 13 by decide) gIf_eq
theorem z139_8 : Run d 139 8 [some (.ref o), a1] [] M 0 0 Z ↔ Run d 139 9 [some (.ref o), a1] [.ref o] M 0 0 Z := R_local (gd139 dX9_must_8) rfl rfl rfl
theorem z139_9 : Run d 139 9 [a0, a1] [s0] M 0 0 Z ↔ Run d 139 10 [a0, a1] [.int 1, s0] M 0 0 Z := R_iconst (gd139 dX9_must_9) (by decide)
theorem z139_10 : Run d 139 10 [a0, a1] [s1, .ref b] M 0 0 Z ↔ gObj M b 9 ∧ Call d 131 [.ref b, s1] M (fun r M1 => Run d 139 13 [a0, a1] (r.toList ++ []) M1 0 0 Z) := R_callV (gd139 dX9_must_10) rfl rfl rfl rfl rfl rfl gc_9_200 rfl rfl (Nat.le_of_ble_eq_true rfl) (Nat.le_of_ble_eq_true rfl) rfl rfl (Nat.le_of_ble_eq_true rfl) (Nat.le_of_ble_eq_true rfl)
theorem z139_13 : Run d 139 13 [some (.ref o), a1] [] M 0 0 Z ↔ Run d 139 14 [some (.ref o), a1] [.ref o] M 0 0 Z := R_local (gd139 dX9_must_13) rfl rfl rfl
theorem z139_14 : Run d 139 14 [a0, a1] [.ref o] M 0 0 Z ↔ Run d 139 15 [a0, a1] [.ref o, .ref o] M 0 0 Z := R_arith (gd139 dX9_must_14) rfl
theorem z139_15 : Run d 139 15 [a0, a1] [.ref o, s0] M 0 0 Z ↔ gObj M o 9 ∧ Run d 139 18 [a0, a1] [.int (M.1 o 13), s0] M 0 0 Z := R_getI (gd139 dX9_must_15) rfl gf_9_178 rfl
theorem z139_18 : Run d 139 18 [a0, a1] [s1, s0] M 0 0 Z ↔ Run d 139 19 [a0, a1] [.int 1, s1, s0] M 0 0 Z := R_iconst (gd139 dX9_must_18) (by decide)
theorem z139_19 : Run d 139 19 [a0, a1] [.int y, .int x, s0] M 0 0 Z ↔ Run d 139 20 [a0, a1] [.int (x + y), s0] M 0 0 Z := R_arith (gd139 dX9_must_19) rfl
theorem z139_20 : Run d 139 20 [a0, a1] [.int x, .ref o] M 0 0 Z ↔ gObj M o 9 ∧ Run d 139 23 [a0, a1] [] (gsI M o 13 x) 0 0 Z := R_putI (gd139 dX9_must_20) rfl gf_9_178 (Or.inl rfl) rfl
theorem z139_23 : Run d 139 23 [a0, a1] [] M 0 0 Z ↔ Z none M := R_vret (gd139 dX9_must_23) rfl
theorem e139 : Call (d + 1) 139 [s0, s1] M Z ↔ Run d 139 0 [some s0, some s1] [] M 0 0 Z := Call_iff (Nat.lt_of_lt_of_le (Nat.lt_succ_self 139) (Nat.le_of_ble_eq_true rfl)) (Nat.le_of_ble_eq_true rfl)
/-! 140: X9_looksAtNumber ()V -/
theorem gd140 {pc : Nat} {r : Except _ _} (h : decode cX9_looksAtNumber pc = r) : decode (gby 140) pc = r := h
theorem z140_0 : Run d 140 0 [some (.ref o), a1] [] M 0 0 Z ↔ Run d 140 1 [some (.ref o), a1] [.ref o] M 0 0 Z := R_local (gd140 dX9_looksAtNumber_0) rfl rfl rfl
theorem z140_1 : Run d 140 1 [a0, a1] [.ref o] M 0 0 Z ↔ gObj M o 9 ∧ Run d 140 4 [a0, a1] [.int (M.1 o 13)] M 0 0 Z := R_getI (gd140 dX9_looksAtNumber_1) rfl gf_9_178 rfl
theorem z140_4 : Run d 140 4 [a0, a1] [.int x] M 0 0 Z ↔ Run d 140 5 [a0, some (.int x)] [] M 0 0 Z := R_local (gd140 dX9_looksAtNumber_4) rfl rfl rfl
theorem z140_5 : Run d 140 5 [some (.ref o), a1] [] M 0 0 Z ↔ Run d 140 6 [some (.ref o), a1] [.ref o] M 0 0 Z := R_local (gd140 dX9_looksAtNumber_5) rfl rfl rfl
theorem z140_6 : Run d 140 6 [a0, a1] [.ref o] M 0 0 Z ↔ gObj M o 9 ∧ Run d 140 9 [a0, a1] [.int (M.1 o 15)] M 0 0 Z := R_getI (gd140 dX9_looksAtNumber_6) rfl gf_9_187 rfl
theorem z140_9 : Run d 140 9 [a0, a1] [.int x] M 0 0 Z ↔ (¬ x = 0 → Run d 140 50 [a0, a1] [] M 0 0 Z) ∧ (¬ (¬ x = 0) → Run d 140 12 [a0, a1] [] M 0 0 Z) := R_if (gd140 dX9_looksAtNumber_9) (show gTgt 9 41 = some 50 by decide) gIf_ne
theorem z140_12 : Run d 140 12 [some (.ref o), a1] [] M 0 0 Z ↔ Run d 140 13 [some (.ref o), a1] [.ref o] M 0 0 Z := R_local (gd140 dX9_looksAtNumber_12) rfl rfl rfl
theorem z140_13 : Run d 140 13 [a0, a1] [.ref b] M 0 0 Z ↔ gObj M b 9 ∧ Call d 130 [.ref b] M (fun r M1 => Run d 140 16 [a0, a1] (r.toList ++ []) M1 0 0 Z) := R_callV (gd140 dX9_looksAtNumber_13) rfl rfl rfl rfl rfl rfl gc_9_196 rfl rfl (Nat.le_of_ble_eq_true rfl) (Nat.le_of_ble_eq_true rfl) rfl rfl (Nat.le_of_ble_eq_true rfl) (Nat.le_of_ble_eq_true rfl)
theorem z140_16 : Run d 140 16 [a0, a1] [s0] M 0 0 Z ↔ Call d 132 [s0] M (fun r M1 => Run d 140 19 [a0, a1] (r.toList ++ []) M1 0 0 Z) := R_call (gd140 dX9_looksAtNumber_16) rfl rfl rfl rfl rfl rfl gc_9_203 rfl (by decide) (Nat.le_of_ble_eq_true rfl) (Nat.le_of_ble_eq_true rfl) rfl rfl rfl (Nat.le_of_ble_eq_true rfl) (Nat.le_of_ble_eq_true rfl)
theorem z140_19 : Run d 140 19 [a0, a1] [.int x] M 0 0 Z ↔ (x = 0 → Run d 140 50 [a0, a1] [] M 0 0 Z) ∧ (¬ (x = 0) → Run d 140 22 [a0, a1] [] M 0 0 Z) := R_if (gd140 dX9_looksAtNumber_19) (show gTgt 19 31 = some 50 by decide) gIf_eq
theorem z140_22 : Run d 140 22 [some (.ref o), a1] [] M 0 0 Z ↔ Run d 140 23 [some (.ref o), a1] [.ref o] M 0 0 Z := R_local (gd140 dX9_looksAtNumber_22) rfl rfl rfl
theorem z140_23 : Run d 140 23 [a0, a1] [.ref o] M 0 0 Z ↔ gObj M o 9 ∧ Run d 140 26 [a0, a1] [.int (M.1 o 13)] M 0 0 Z := R_getI (gd140 dX9_looksAtNumber_23) rfl gf_9_178 rfl
theorem z140_26 : Run d 140 26 [a0, some (.int x)] [s0] M 0 0 Z ↔ Run d 140 27 [a0, some (.int x)] [.int x, s0] M 0 0 Z := R_local (gd140 dX9_looksAtNumber_26) rfl rfl rfl
theorem z140_27 : Run d 140 27 [a0, a1] [s1, s0] M 0 0 Z ↔ Run d 140 28 [a0, a1] [.int 3, s1, s0] M 0 0 Z := R_iconst (gd140 dX9_looksAtNumber_27) (by decide)
theorem z140_28 : Run d 140 28 [a0, a1] [.int y, .int x, s0] M 0 0 Z ↔ Run d 140 29 [a0, a1] [.int (x + y), s0] M 0 0 Z := R_arith (gd140 dX9_looksAtNumber_28) rfl
theorem z140_29 : Run d 140 29 [a0, a1] [.int y, .int x] M 0 0 Z ↔ (¬ x = y → Run d 140 37 [a0, a1] [] M 0 0 Z) ∧ (¬ (¬ x = y) → Run d 140 32 [a0, a1] [] M 0 0 Z) := R_icmp (gd140 dX9_looksAtNumber_29) (show gTgt 29 8 = some 37 by decide) gIf_ne
theorem z140_32 : Run d 140 32 [some (.ref o), a1] [] M 0 0 Z ↔ Run d 140 33 [some (.ref o), a1] [.ref o] M 0 0 Z := R_local (gd140 dX9_looksAtNumber_32) rfl rfl rfl
theorem z140_33 : Run d 140 33 [a0, a1] [s0] M 0 0 Z ↔ Run d 140 34 [a0, a1] [.int 2, s0] M 0 0 Z := R_iconst (gd140 dX9_looksAtNumber_33) (by decide)
theorem z140_34 : Run d 140 34 [a0, a1] [s1, .ref b] M 0 0 Z ↔ gObj M b 9 ∧ Call d 131 [.ref b, s1] M (fun r M1 => Run d 140 37 [a0, a1] (r.toList ++ []) M1 0 0 Z) := R_callV (gd140 dX9_looksAtNumber_34) rfl rfl rfl rfl rfl rfl gc_9_200 rfl rfl (Nat.le_of_ble_eq_true rfl) (Nat.le_of_ble_eq_true rfl) rfl rfl (Nat.le_of_ble_eq_true rfl) (Nat.le_of_ble_eq_true rfl)
theorem z140_37 : Run d 140 37 [some (.ref o), a1] [] M 0 0 Z ↔ Run d 140 38 [some (.ref o), a1] [.ref o] M 0 0 Z := R_local (gd140 dX9_looksAtNumber_37) rfl rfl rfl
theorem z140_38 : Run d 140 38 [a0, a1] [.ref o] M 0 0 Z ↔ Run d 140 39 [a0, a1] [.ref o, .ref o] M 0 0 Z := R_arith (gd140 dX9_looksAtNumber_38) rfl
theorem z140_39 : Run d 140 39 [a0, a1] [.ref o, s0] M 0 0 Z ↔ gObj M o 9 ∧ Run d 140 42 [a0, a1] [.int (M.1 o 13), s0] M 0 0 Z := R_getI (gd140 dX9_looksAtNumber_39) rfl gf_9_178 rfl
theorem z140_42 : Run d 140 42 [a0, a1] [s1, s0] M 0 0 Z ↔ Run d 140 43 [a0, a1] [.int 1, s1, s0] M 0 0 Z := R_iconst (gd140 dX9_looksAtNumber_42) (by decide)
theorem z140_43 : Run d 140 43 [a0, a1] [.int y, .int x, s0] M 0 0 Z ↔ Run d 140 44 [a0, a1] [.int (x + y), s0] M 0 0 Z := R_arith (gd140 dX9_looksAtNumber_43) rfl
theorem z140_44 : Run d 140 44 [a0, a1] [.int x, .ref o] M 0 0 Z ↔ gObj M o 9 ∧ Run d 140 47 [a0, a1] [] (gsI M o 13 x) 0 0 Z := R_putI (gd140 dX9_looksAtNumber_44) rfl gf_9_178 (Or.inl rfl) rfl
theorem z140_47 : Run d 140 47 [a0, a1] [] M 0 0 Z ↔ Run d 140 5 [a0, a1] [] M 0 0 Z := R_goto (gd140 dX9_looksAtNumber_47) (show gTgt 47 (-42) = some 5 by decide)
theorem z140_50 : Run d 140 50 [a0, a1] [] M 0 0 Z ↔ Z none M := R_vret (gd140 dX9_looksAtNumber_50) rfl
theorem e140 : Call (d + 1) 140 [s0] M Z ↔ Run d 140 0 [some s0, none] [] M 0 0 Z := Call_iff (Nat.lt_of_lt_of_le (Nat.lt_succ_self 140) (Nat.le_of_ble_eq_true rfl)) (Nat.le_of_ble_eq_true rfl)
/-! 141: X9_looksAtSum ()V -/
theorem gd141 {pc : Nat} {r : Except _ _} (h : decode cX9_looksAtSum pc = r) : decode (gby 141) pc = r := h
theorem z141_0 : Run d 141 0 [a0, a1, a2, a3, a4] [] M 0 0 Z ↔ Run d 141 1 [a0, a1, a2, a3, a4] [.int 0] M 0 0 Z := R_iconst (gd141 dX9_looksAtSum_0) (by decide)
theorem z141_1 : Run d 141 1 [a0, a1, a2, a3, a4] [.int x] M 0 0 Z ↔ Run d 141 2 [a0, some (.int x), a2, a3, a4] [] M 0 0 Z := R_local (gd141 dX9_looksAtSum_1) rfl rfl rfl
theorem z141_2 : Run d 141 2 [a0, a1, a2, a3, a4] [] M 0 0 Z ↔ Run d 141 3 [a0, a1, a2, a3, a4] [.int 1] M 0 0 Z := R_iconst (gd141 dX9_looksAtSum_2) (by decide)
theorem z141_3 : Run d 141 3 [a0, a1, a2, a3, a4] [.int x] M 0 0 Z ↔ Run d 141 4 [a0, a1, some (.int x), a3, a4] [] M 0 0 Z := R_local (gd141 dX9_looksAtSum_3) rfl rfl rfl
theorem z141_4 : Run d 141 4 [a0, a1, a2, a3, a4] [] M 0 0 Z ↔ Run d 141 5 [a0, a1, a2, a3, a4] [.int 1] M 0 0 Z := R_iconst (gd141 dX9_looksAtSum_4) (by decide)
theorem z141_5 : Run d 141 5 [a0, a1, a2, a3, a4] [.int x] M 0 0 Z ↔ Run d 141 6 [a0, a1, a2, some (.int x), a4] [] M 0 0 Z := R_local (gd141 dX9_looksAtSum_5) rfl rfl rfl
theorem z141_6 : Run d 141 6 [a0, a1, a2, some (.int x), a4] [] M 0 0 Z ↔ Run d 141 7 [a0, a1, a2, some (.int x), a4] [.int x] M 0 0 Z := R_local (gd141 dX9_looksAtSum_6) rfl rfl rfl
theorem z141_7 : Run d 141 7 [a0, a1, a2, a3, a4] [.int x] M 0 0 Z ↔ (x = 0 → Run d 141 170 [a0, a1, a2, a3, a4] [] M 0 0 Z) ∧ (¬ (x = 0) → Run d 141 10 [a0, a1, a2, a3, a4] [] M 0 0 Z) := R_if (gd141 dX9_looksAtSum_7) (show gTgt 7 163 = some 170 by decide) gIf_eq
theorem z141_10 : Run d 141 10 [some (.ref o), a1, a2, a3, a4] [] M 0 0 Z ↔ Run d 141 11 [some (.ref o), a1, a2, a3, a4] [.ref o] M 0 0 Z := R_local (gd141 dX9_looksAtSum_10) rfl rfl rfl
theorem z141_11 : Run d 141 11 [a0, a1, a2, a3, a4] [.ref o] M 0 0 Z ↔ gObj M o 9 ∧ Run d 141 14 [a0, a1, a2, a3, a4] [.int (M.1 o 15)] M 0 0 Z := R_getI (gd141 dX9_looksAtSum_11) rfl gf_9_187 rfl
theorem z141_14 : Run d 141 14 [a0, a1, a2, a3, a4] [.int x] M 0 0 Z ↔ (¬ x = 0 → Run d 141 170 [a0, a1, a2, a3, a4] [] M 0 0 Z) ∧ (¬ (¬ x = 0) → Run d 141 17 [a0, a1, a2, a3, a4] [] M 0 0 Z) := R_if (gd141 dX9_looksAtSum_14) (show gTgt 14 156 = some 170 by decide) gIf_ne
theorem z141_17 : Run d 141 17 [some (.ref o), a1, a2, a3, a4] [] M 0 0 Z ↔ Run d 141 18 [some (.ref o), a1, a2, a3, a4] [.ref o] M 0 0 Z := R_local (gd141 dX9_looksAtSum_17) rfl rfl rfl
theorem z141_18 : Run d 141 18 [a0, a1, a2, a3, a4] [.ref b] M 0 0 Z ↔ gObj M b 9 ∧ Call d 130 [.ref b] M (fun r M1 => Run d 141 21 [a0, a1, a2, a3, a4] (r.toList ++ []) M1 0 0 Z) := R_callV (gd141 dX9_looksAtSum_18) rfl rfl rfl rfl rfl rfl gc_9_196 rfl rfl (Nat.le_of_ble_eq_true rfl) (Nat.le_of_ble_eq_true rfl) rfl rfl (Nat.le_of_ble_eq_true rfl) (Nat.le_of_ble_eq_true rfl)
theorem z141_21 : Run d 141 21 [a0, a1, a2, a3, a4] [.int x] M 0 0 Z ↔ Run d 141 23 [a0, a1, a2, a3, some (.int x)] [] M 0 0 Z := R_local (gd141 dX9_looksAtSum_21) rfl rfl rfl
theorem z141_23 : Run d 141 23 [a0, a1, some (.int x), a3, a4] [] M 0 0 Z ↔ Run d 141 24 [a0, a1, some (.int x), a3, a4] [.int x] M 0 0 Z := R_local (gd141 dX9_looksAtSum_23) rfl rfl rfl
theorem z141_24 : Run d 141 24 [a0, a1, a2, a3, a4] [.int x] M 0 0 Z ↔ (x = 0 → Run d 141 106 [a0, a1, a2, a3, a4] [] M 0 0 Z) ∧ (¬ (x = 0) → Run d 141 27 [a0, a1, a2, a3, a4] [] M 0 0 Z) := R_if (gd141 dX9_looksAtSum_24) (show gTgt 24 82 = some 106 by decide) gIf_eq
theorem z141_27 : Run d 141 27 [a0, a1, a2, a3, some (.int x)] [] M 0 0 Z ↔ Run d 141 29 [a0, a1, a2, a3, some (.int x)] [.int x] M 0 0 Z := R_local (gd141 dX9_looksAtSum_27) rfl rfl rfl
theorem z141_29 : Run d 141 29 [a0, a1, a2, a3, a4] [s0] M 0 0 Z ↔ Run d 141 31 [a0, a1, a2, a3, a4] [.int 40, s0] M 0 0 Z := R_bipush (gd141 dX9_looksAtSum_29) (by decide)
theorem z141_31 : Run d 141 31 [a0, a1, a2, a3, a4] [.int y, .int x] M 0 0 Z ↔ (¬ x = y → Run d 141 61 [a0, a1, a2, a3, a4] [] M 0 0 Z) ∧ (¬ (¬ x = y) → Run d 141 34 [a0, a1, a2, a3, a4] [] M 0 0 Z) := R_icmp (gd141 dX9_looksAtSum_31) (show gTgt 31 30 = some 61 by decide) gIf_ne
theorem z141_34 : Run d 141 34 [a0, some (.int x), a2, a3, a4] [] M 0 0 Z ↔ Run d 141 35 [a0, some (.int x), a2, a3, a4] [.int x] M 0 0 Z := R_local (gd141 dX9_looksAtSum_34) rfl rfl rfl
theorem z141_35 : Run d 141 35 [a0, a1, a2, a3, a4] [s0] M 0 0 Z ↔ Run d 141 37 [a0, a1, a2, a3, a4] [.int 8, s0] M 0 0 Z := R_bipush (gd141 dX9_looksAtSum_35) (by decide)
theorem z141_37 : Run d 141 37 [a0, a1, a2, a3, a4] [.int y, .int x] M 0 0 Z ↔ (¬ x = y → Run d 141 45 [a0, a1, a2, a3, a4] [] M 0 0 Z) ∧ (¬ (¬ x = y) → Run d 141 40 [a0, a1, a2, a3, a4] [] M 0 0 Z) := R_icmp (gd141 dX9_looksAtSum_37) (show gTgt 37 8 = some 45 by decide) gIf_ne
theorem z141_40 : Run d 141 40 [some (.ref o), a1, a2, a3, a4] [] M 0 0 Z ↔ Run d 141 41 [some (.ref o), a1, a2, a3, a4] [.ref o] M 0 0 Z := R_local (gd141 dX9_looksAtSum_40) rfl rfl rfl
theorem z141_41 : Run d 141 41 [a0, a1, a2, a3, a4] [s0] M 0 0 Z ↔ Run d 141 42 [a0, a1, a2, a3, a4] [.int 4, s0] M 0 0 Z := R_iconst (gd141 dX9_looksAtSum_41) (by decide)
theorem z141_42 : Run d 141 42 [a0, a1, a2, a3, a4] [s1, .ref b] M 0 0 Z ↔ gObj M b 9 ∧ Call d 131 [.ref b, s1] M (fun r M1 => Run d 141 45 [a0, a1, a2, a3, a4] (r.toList ++ []) M1 0 0 Z) := R_callV (gd141 dX9_looksAtSum_42) rfl rfl rfl rfl rfl rfl gc_9_200 rfl rfl (Nat.le_of_ble_eq_true rfl) (Nat.le_of_ble_eq_true rfl) rfl rfl (Nat.le_of_ble_eq_true rfl) (Nat.le_of_ble_eq_true rfl)
theorem z141_45 : Run d 141 45 [a0, some (.int x), a2, a3, a4] [] M 0 0 Z ↔ Run d 141 48 [a0, some (.int (x + 1)), a2, a3, a4] [] M 0 0 Z := R_iinc (gd141 dX9_looksAtSum_45) (by decide) rfl rfl
theorem z141_48 : Run d 141 48 [some (.ref o), a1, a2, a3, a4] [] M 0 0 Z ↔ Run d 141 49 [some (.ref o), a1, a2, a3, a4] [.ref o] M 0 0 Z := R_local (gd141 dX9_looksAtSum_48) rfl rfl rfl
theorem z141_49 : Run d 141 49 [a0, a1, a2, a3, a4] [.ref o] M 0 0 Z ↔ Run d 141 50 [a0, a1, a2, a3, a4] [.ref o, .ref o] M 0 0 Z := R_arith (gd141 dX9_looksAtSum_49) rfl
theorem z141_50 : Run d 141 50 [a0, a1, a2, a3, a4] [.ref o, s0] M 0 0 Z ↔ gObj M o 9 ∧ Run d 141 53 [a0, a1, a2, a3, a4] [.int (M.1 o 13), s0] M 0 0 Z := R_getI (gd141 dX9_looksAtSum_50) rfl gf_9_178 rfl
theorem z141_53 : Run d 141 53 [a0, a1, a2, a3, a4] [s1, s0] M 0 0 Z ↔ Run d 141 54 [a0, a1, a2, a3, a4] [.int 1, s1, s0] M 0 0 Z := R_iconst (gd141 dX9_looksAtSum_53) (by decide)
theorem z141_54 : Run d 141 54 [a0, a1, a2, a3, a4] [.int y, .int x, s0] M 0 0 Z ↔ Run d 141 55 [a0, a1, a2, a3, a4] [.int (x + y), s0] M 0 0 Z := R_arith (gd141 dX9_looksAtSum_54) rfl
theorem z141_55 : Run d 141 55 [a0, a1, a2, a3, a4] [.int x, .ref o] M 0 0 Z ↔ gObj M o 9 ∧ Run d 141 58 [a0, a1, a2, a3, a4] [] (gsI M o 13 x) 0 0 Z := R_putI (gd141 dX9_looksAtSum_55) rfl gf_9_178 (Or.inl rfl) rfl
theorem z141_58 : Run d 141 58 [a0, a1, a2, a3, a4] [] M 0 0 Z ↔ Run d 141 167 [a0, a1, a2, a3, a4] [] M 0 0 Z := R_goto (gd141 dX9_looksAtSum_58) (show gTgt 58 109 = some 167 by decide)
theorem z141_61 : Run d 141 61 [a0, a1, a2, a3, some (.int x)] [] M 0 0 Z ↔ Run d 141 63 [a0, a1, a2, a3, some (.int x)] [.int x] M 0 0 Z := R_local (gd141 dX9_looksAtSum_61) rfl rfl rfl
theorem z141_63 : Run d 141 63 [a0, a1, a2, a3, a4] [s0] M 0 0 Z ↔ Call d 132 [s0] M (fun r M1 => Run d 141 66 [a0, a1, a2, a3, a4] (r.toList ++ []) M1 0 0 Z) := R_call (gd141 dX9_looksAtSum_63) rfl rfl rfl rfl rfl rfl gc_9_203 rfl (by decide) (Nat.le_of_ble_eq_true rfl) (Nat.le_of_ble_eq_true rfl) rfl rfl rfl (Nat.le_of_ble_eq_true rfl) (Nat.le_of_ble_eq_true rfl)
theorem z141_66 : Run d 141 66 [a0, a1, a2, a3, a4] [.int x] M 0 0 Z ↔ (x = 0 → Run d 141 78 [a0, a1, a2, a3, a4] [] M 0 0 Z) ∧ (¬ (x = 0) → Run d 141 69 [a0, a1, a2, a3, a4] [] M 0 0 Z) := R_if (gd141 dX9_looksAtSum_66) (show gTgt 66 12 = some 78 by decide) gIf_eq
theorem z141_69 : Run d 141 69 [some (.ref o), a1, a2, a3, a4] [] M 0 0 Z ↔ Run d 141 70 [some (.ref o), a1, a2, a3, a4] [.ref o] M 0 0 Z := R_local (gd141 dX9_looksAtSum_69) rfl rfl rfl
theorem z141_70 : Run d 141 70 [a0, a1, a2, a3, a4] [.ref b] M 0 0 Z ↔ gObj M b 9 ∧ Call d 140 [.ref b] M (fun r M1 => Run d 141 73 [a0, a1, a2, a3, a4] (r.toList ++ []) M1 0 0 Z) := R_callV (gd141 dX9_looksAtSum_70) rfl rfl rfl rfl rfl rfl gc_9_206 rfl rfl (Nat.le_of_ble_eq_true rfl) (Nat.le_of_ble_eq_true rfl) rfl rfl (Nat.le_of_ble_eq_true rfl) (Nat.le_of_ble_eq_true rfl)
theorem z141_73 : Run d 141 73 [a0, a1, a2, a3, a4] [] M 0 0 Z ↔ Run d 141 74 [a0, a1, a2, a3, a4] [.int 0] M 0 0 Z := R_iconst (gd141 dX9_looksAtSum_73) (by decide)
theorem z141_74 : Run d 141 74 [a0, a1, a2, a3, a4] [.int x] M 0 0 Z ↔ Run d 141 75 [a0, a1, some (.int x), a3, a4] [] M 0 0 Z := R_local (gd141 dX9_looksAtSum_74) rfl rfl rfl
theorem z141_75 : Run d 141 75 [a0, a1, a2, a3, a4] [] M 0 0 Z ↔ Run d 141 167 [a0, a1, a2, a3, a4] [] M 0 0 Z := R_goto (gd141 dX9_looksAtSum_75) (show gTgt 75 92 = some 167 by decide)
theorem z141_78 : Run d 141 78 [a0, a1, a2, a3, some (.int x)] [] M 0 0 Z ↔ Run d 141 80 [a0, a1, a2, a3, some (.int x)] [.int x] M 0 0 Z := R_local (gd141 dX9_looksAtSum_78) rfl rfl rfl
theorem z141_80 : Run d 141 80 [a0, a1, a2, a3, a4] [s0] M 0 0 Z ↔ Call d 134 [s0] M (fun r M1 => Run d 141 83 [a0, a1, a2, a3, a4] (r.toList ++ []) M1 0 0 Z) := R_call (gd141 dX9_looksAtSum_80) rfl rfl rfl rfl rfl rfl gc_9_209 rfl (by decide) (Nat.le_of_ble_eq_true rfl) (Nat.le_of_ble_eq_true rfl) rfl rfl rfl (Nat.le_of_ble_eq_true rfl) (Nat.le_of_ble_eq_true rfl)
theorem z141_83 : Run d 141 83 [a0, a1, a2, a3, a4] [.int x] M 0 0 Z ↔ (¬ x = 0 → Run d 141 91 [a0, a1, a2, a3, a4] [] M 0 0 Z) ∧ (¬ (¬ x = 0) → Run d 141 86 [a0, a1, a2, a3, a4] [] M 0 0 Z) := R_if (gd141 dX9_looksAtSum_83) (show gTgt 83 8 = some 91 by decide) gIf_ne
theorem z141_86 : Run d 141 86 [some (.ref o), a1, a2, a3, a4] [] M 0 0 Z ↔ Run d 141 87 [some (.ref o), a1, a2, a3, a4] [.ref o] M 0 0 Z := R_local (gd141 dX9_looksAtSum_86) rfl rfl rfl
theorem z141_87 : Run d 141 87 [a0, a1, a2, a3, a4] [s0] M 0 0 Z ↔ Run d 141 88 [a0, a1, a2, a3, a4] [.int 1, s0] M 0 0 Z := R_iconst (gd141 dX9_looksAtSum_87) (by decide)
theorem z141_88 : Run d 141 88 [a0, a1, a2, a3, a4] [s1, .ref b] M 0 0 Z ↔ gObj M b 9 ∧ Call d 131 [.ref b, s1] M (fun r M1 => Run d 141 91 [a0, a1, a2, a3, a4] (r.toList ++ []) M1 0 0 Z) := R_callV (gd141 dX9_looksAtSum_88) rfl rfl rfl rfl rfl rfl gc_9_200 rfl rfl (Nat.le_of_ble_eq_true rfl) (Nat.le_of_ble_eq_true rfl) rfl rfl (Nat.le_of_ble_eq_true rfl) (Nat.le_of_ble_eq_true rfl)
theorem z141_91 : Run d 141 91 [some (.ref o), a1, a2, a3, a4] [] M 0 0 Z ↔ Run d 141 92 [some (.ref o), a1, a2, a3, a4] [.ref o] M 0 0 Z := R_local (gd141 dX9_looksAtSum_91) rfl rfl rfl
theorem z141_92 : Run d 141 92 [a0, a1, a2, a3, a4] [.ref o] M 0 0 Z ↔ Run d 141 93 [a0, a1, a2, a3, a4] [.ref o, .ref o] M 0 0 Z := R_arith (gd141 dX9_looksAtSum_92) rfl
theorem z141_93 : Run d 141 93 [a0, a1, a2, a3, a4] [.ref o, s0] M 0 0 Z ↔ gObj M o 9 ∧ Run d 141 96 [a0, a1, a2, a3, a4] [.int (M.1 o 13), s0] M 0 0 Z := R_getI (gd141 dX9_looksAtSum_93) rfl gf_9_178 rfl
theorem z141_96 : Run d 141 96 [a0, a1, a2, a3, a4] [s1, s0] M 0 0 Z ↔ Run d 141 97 [a0, a1, a2, a3, a4] [.int 1, s1, s0] M 0 0 Z := R_iconst (gd141 dX9_looksAtSum_96) (by decide)
theorem z141_97 : Run d 141 97 [a0, a1, a2, a3, a4] [.int y, .int x, s0] M 0 0 Z ↔ Run d 141 98 [a0, a1, a2, a3, a4] [.int (x + y), s0] M 0 0 Z := R_arith (gd141 dX9_looksAtSum_97) rfl
theorem z141_98 : Run d 141 98 [a0, a1, a2, a3, a4] [.int x, .ref o] M 0 0 Z ↔ gObj M o 9 ∧ Run d 141 101 [a0, a1, a2, a3, a4] [] (gsI M o 13 x) 0 0 Z := R_putI (gd141 dX9_looksAtSum_98) rfl gf_9_178 (Or.inl rfl) rfl
theorem z141_101 : Run d 141 101 [a0, a1, a2, a3, a4] [] M 0 0 Z ↔ Run d 141 102 [a0, a1, a2, a3, a4] [.int 0] M 0 0 Z := R_iconst (gd141 dX9_looksAtSum_101) (by decide)
theorem z141_102 : Run d 141 102 [a0, a1, a2, a3, a4] [.int x] M 0 0 Z ↔ Run d 141 103 [a0, a1, some (.int x), a3, a4] [] M 0 0 Z := R_local (gd141 dX9_looksAtSum_102) rfl rfl rfl
theorem z141_103 : Run d 141 103 [a0, a1, a2, a3, a4] [] M 0 0 Z ↔ Run d 141 167 [a0, a1, a2, a3, a4] [] M 0 0 Z := R_goto (gd141 dX9_looksAtSum_103) (show gTgt 103 64 = some 167 by decide)
theorem z141_106 : Run d 141 106 [a0, a1, a2, a3, some (.int x)] [] M 0 0 Z ↔ Run d 141 108 [a0, a1, a2, a3, some (.int x)] [.int x] M 0 0 Z := R_local (gd141 dX9_looksAtSum_106) rfl rfl rfl
theorem z141_108 : Run d 141 108 [a0, a1, a2, a3, a4] [s0] M 0 0 Z ↔ Call d 136 [s0] M (fun r M1 => Run d 141 111 [a0, a1, a2, a3, a4] (r.toList ++ []) M1 0 0 Z) := R_call (gd141 dX9_looksAtSum_108) rfl rfl rfl rfl rfl rfl gc_9_212 rfl (by decide) (Nat.le_of_ble_eq_true rfl) (Nat.le_of_ble_eq_true rfl) rfl rfl rfl (Nat.le_of_ble_eq_true rfl) (Nat.le_of_ble_eq_true rfl)
theorem z141_111 : Run d 141 111 [a0, a1, a2, a3, a4] [.int x] M 0 0 Z ↔ (x = 0 → Run d 141 129 [a0, a1, a2, a3, a4] [] M 0 0 Z) ∧ (¬ (x = 0) → Run d 141 114 [a0, a1, a2, a3, a4] [] M 0 0 Z) := R_if (gd141 dX9_looksAtSum_111) (show gTgt 111 18 = some 129 by decide) gIf_eq
theorem z141_114 : Run d 141 114 [some (.ref o), a1, a2, a3, a4] [] M 0 0 Z ↔ Run d 141 115 [some (.ref o), a1, a2, a3, a4] [.ref o] M 0 0 Z := R_local (gd141 dX9_looksAtSum_114) rfl rfl rfl
theorem z141_115 : Run d 141 115 [a0, a1, a2, a3, a4] [.ref o] M 0 0 Z ↔ Run d 141 116 [a0, a1, a2, a3, a4] [.ref o, .ref o] M 0 0 Z := R_arith (gd141 dX9_looksAtSum_115) rfl
theorem z141_116 : Run d 141 116 [a0, a1, a2, a3, a4] [.ref o, s0] M 0 0 Z ↔ gObj M o 9 ∧ Run d 141 119 [a0, a1, a2, a3, a4] [.int (M.1 o 13), s0] M 0 0 Z := R_getI (gd141 dX9_looksAtSum_116) rfl gf_9_178 rfl
theorem z141_119 : Run d 141 119 [a0, a1, a2, a3, a4] [s1, s0] M 0 0 Z ↔ Run d 141 120 [a0, a1, a2, a3, a4] [.int 1, s1, s0] M 0 0 Z := R_iconst (gd141 dX9_looksAtSum_119) (by decide)
theorem z141_120 : Run d 141 120 [a0, a1, a2, a3, a4] [.int y, .int x, s0] M 0 0 Z ↔ Run d 141 121 [a0, a1, a2, a3, a4] [.int (x + y), s0] M 0 0 Z := R_arith (gd141 dX9_looksAtSum_120) rfl
theorem z141_121 : Run d 141 121 [a0, a1, a2, a3, a4] [.int x, .ref o] M 0 0 Z ↔ gObj M o 9 ∧ Run d 141 124 [a0, a1, a2, a3, a4] [] (gsI M o 13 x) 0 0 Z := R_putI (gd141 dX9_looksAtSum_121) rfl gf_9_178 (Or.inl rfl) rfl
theorem z141_124 : Run d 141 124 [a0, a1, a2, a3, a4] [] M 0 0 Z ↔ Run d 141 125 [a0, a1, a2, a3, a4] [.int 1] M 0 0 Z := R_iconst (gd141 dX9_looksAtSum_124) (by decide)
theorem z141_125 : Run d 141 125 [a0, a1, a2, a3, a4] [.int x] M 0 0 Z ↔ Run d 141 126 [a0, a1, some (.int x), a3, a4] [] M 0 0 Z := R_local (gd141 dX9_looksAtSum_125) rfl rfl rfl
theorem z141_126 : Run d 141 126 [a0, a1, a2, a3, a4] [] M 0 0 Z ↔ Run d 141 167 [a0, a1, a2, a3, a4] [] M 0 0 Z := R_goto (gd141 dX9_looksAtSum_126) (show gTgt 126 41 = some 167 by decide)
theorem z141_129 : Run d 141 129 [a0, a1, a2, a3, some (.int x)] [] M 0 0 Z ↔ Run d 141 131 [a0, a1, a2, a3, some (.int x)] [.int x] M 0 0 Z := R_local (gd141 dX9_looksAtSum_129) rfl rfl rfl
theorem z141_131 : Run d 141 131 [a0, a1, a2, a3, a4] [s0] M 0 0 Z ↔ Run d 141 133 [a0, a1, a2, a3, a4] [.int 41, s0] M 0 0 Z := R_bipush (gd141 dX9_looksAtSum_131) (by decide)
theorem z141_133 : Run d 141 133 [a0, a1, a2, a3, a4] [.int y, .int x] M 0 0 Z ↔ (¬ x = y → Run d 141 156 [a0, a1, a2, a3, a4] [] M 0 0 Z) ∧ (¬ (¬ x = y) → Run d 141 136 [a0, a1, a2, a3, a4] [] M 0 0 Z) := R_icmp (gd141 dX9_looksAtSum_133) (show gTgt 133 23 = some 156 by decide) gIf_ne
theorem z141_136 : Run d 141 136 [a0, some (.int x), a2, a3, a4] [] M 0 0 Z ↔ Run d 141 137 [a0, some (.int x), a2, a3, a4] [.int x] M 0 0 Z := R_local (gd141 dX9_looksAtSum_136) rfl rfl rfl
theorem z141_137 : Run d 141 137 [a0, a1, a2, a3, a4] [.int x] M 0 0 Z ↔ (x ≤ 0 → Run d 141 156 [a0, a1, a2, a3, a4] [] M 0 0 Z) ∧ (¬ (x ≤ 0) → Run d 141 140 [a0, a1, a2, a3, a4] [] M 0 0 Z) := R_if (gd141 dX9_looksAtSum_137) (show gTgt 137 19 = some 156 by decide) gIf_le
theorem z141_140 : Run d 141 140 [a0, some (.int x), a2, a3, a4] [] M 0 0 Z ↔ Run d 141 143 [a0, some (.int (x + (-1))), a2, a3, a4] [] M 0 0 Z := R_iinc (gd141 dX9_looksAtSum_140) (by decide) rfl rfl
theorem z141_143 : Run d 141 143 [some (.ref o), a1, a2, a3, a4] [] M 0 0 Z ↔ Run d 141 144 [some (.ref o), a1, a2, a3, a4] [.ref o] M 0 0 Z := R_local (gd141 dX9_looksAtSum_143) rfl rfl rfl
theorem z141_144 : Run d 141 144 [a0, a1, a2, a3, a4] [.ref o] M 0 0 Z ↔ Run d 141 145 [a0, a1, a2, a3, a4] [.ref o, .ref o] M 0 0 Z := R_arith (gd141 dX9_looksAtSum_144) rfl
theorem z141_145 : Run d 141 145 [a0, a1, a2, a3, a4] [.ref o, s0] M 0 0 Z ↔ gObj M o 9 ∧ Run d 141 148 [a0, a1, a2, a3, a4] [.int (M.1 o 13), s0] M 0 0 Z := R_getI (gd141 dX9_looksAtSum_145) rfl gf_9_178 rfl
theorem z141_148 : Run d 141 148 [a0, a1, a2, a3, a4] [s1, s0] M 0 0 Z ↔ Run d 141 149 [a0, a1, a2, a3, a4] [.int 1, s1, s0] M 0 0 Z := R_iconst (gd141 dX9_looksAtSum_148) (by decide)
theorem z141_149 : Run d 141 149 [a0, a1, a2, a3, a4] [.int y, .int x, s0] M 0 0 Z ↔ Run d 141 150 [a0, a1, a2, a3, a4] [.int (x + y), s0] M 0 0 Z := R_arith (gd141 dX9_looksAtSum_149) rfl
theorem z141_150 : Run d 141 150 [a0, a1, a2, a3, a4] [.int x, .ref o] M 0 0 Z ↔ gObj M o 9 ∧ Run d 141 153 [a0, a1, a2, a3, a4] [] (gsI M o 13 x) 0 0 Z := R_putI (gd141 dX9_looksAtSum_150) rfl gf_9_178 (Or.inl rfl) rfl
theorem z141_153 : Run d 141 153 [a0, a1, a2, a3, a4] [] M 0 0 Z ↔ Run d 141 167 [a0, a1, a2, a3, a4] [] M 0 0 Z := R_goto (gd141 dX9_looksAtSum_153) (show gTgt 153 14 = some 167 by decide)
theorem z141_156 : Run d 141 156 [a0, some (.int x), a2, a3, a4] [] M 0 0 Z ↔ Run d 141 157 [a0, some (.int x), a2, a3, a4] [.int x] M 0 0 Z := R_local (gd141 dX9_looksAtSum_156) rfl rfl rfl
theorem z141_157 : Run d 141 157 [a0, a1, a2, a3, a4] [.int x] M 0 0 Z ↔ (x ≤ 0 → Run d 141 165 [a0, a1, a2, a3, a4] [] M 0 0 Z) ∧ (¬ (x ≤ 0) → Run d 141 160 [a0, a1, a2, a3, a4] [] M 0 0 Z) := R_if (gd141 dX9_looksAtSum_157) (show gTgt 157 8 = some 165 by decide) gIf_le
theorem z141_160 : Run d 141 160 [some (.ref o), a1, a2, a3, a4] [] M 0 0 Z ↔ Run d 141 161 [some (.ref o), a1, a2, a3, a4] [.ref o] M 0 0 Z := R_local (gd141 dX9_looksAtSum_160) rfl rfl rfl
theorem z141_161 : Run d 141 161 [a0, a1, a2, a3, a4] [s0] M 0 0 Z ↔ Run d 141 162 [a0, a1, a2, a3, a4] [.int 1, s0] M 0 0 Z := R_iconst (gd141 dX9_looksAtSum_161) (by decide)
theorem z141_162 : Run d 141 162 [a0, a1, a2, a3, a4] [s1, .ref b] M 0 0 Z ↔ gObj M b 9 ∧ Call d 131 [.ref b, s1] M (fun r M1 => Run d 141 165 [a0, a1, a2, a3, a4] (r.toList ++ []) M1 0 0 Z) := R_callV (gd141 dX9_looksAtSum_162) rfl rfl rfl rfl rfl rfl gc_9_200 rfl rfl (Nat.le_of_ble_eq_true rfl) (Nat.le_of_ble_eq_true rfl) rfl rfl (Nat.le_of_ble_eq_true rfl) (Nat.le_of_ble_eq_true rfl)
theorem z141_165 : Run d 141 165 [a0, a1, a2, a3, a4] [] M 0 0 Z ↔ Run d 141 166 [a0, a1, a2, a3, a4] [.int 0] M 0 0 Z := R_iconst (gd141 dX9_looksAtSum_165) (by decide)
theorem z141_166 : Run d 141 166 [a0, a1, a2, a3, a4] [.int x] M 0 0 Z ↔ Run d 141 167 [a0, a1, a2, some (.int x), a4] [] M 0 0 Z := R_local (gd141 dX9_looksAtSum_166) rfl rfl rfl
theorem z141_167 : Run d 141 167 [a0, a1, a2, a3, a4] [] M 0 0 Z ↔ Run d 141 6 [a0, a1, a2, a3, a4] [] M 0 0 Z := R_goto (gd141 dX9_looksAtSum_167) (show gTgt 167 (-161) = some 6 by decide)
theorem z141_170 : Run d 141 170 [a0, a1, a2, a3, a4] [] M 0 0 Z ↔ Z none M := R_vret (gd141 dX9_looksAtSum_170) rfl
theorem e141 : Call (d + 1) 141 [s0] M Z ↔ Run d 141 0 [some s0, none, none, none, none] [] M 0 0 Z := Call_iff (Nat.lt_of_lt_of_le (Nat.lt_succ_self 141) (Nat.le_of_ble_eq_true rfl)) (Nat.le_of_ble_eq_true rfl)
/-! 142: X9_looksAt ()I -/
theorem gd142 {pc : Nat} {r : Except _ _} (h : decode cX9_looksAt pc = r) : decode (gby 142) pc = r := h
theorem z142_0 : Run d 142 0 [a0, a1, a2, a3, a4] [] M 0 0 Z ↔ Run d 142 1 [a0, a1, a2, a3, a4] [.int 0] M 0 0 Z := R_iconst (gd142 dX9_looksAt_0) (by decide)
theorem z142_1 : Run d 142 1 [a0, a1, a2, a3, a4] [.int x] M 0 0 Z ↔ Run d 142 2 [a0, some (.int x), a2, a3, a4] [] M 0 0 Z := R_local (gd142 dX9_looksAt_1) rfl rfl rfl
theorem z142_2 : Run d 142 2 [a0, a1, a2, a3, a4] [] M 0 0 Z ↔ Run d 142 3 [a0, a1, a2, a3, a4] [.int 0] M 0 0 Z := R_iconst (gd142 dX9_looksAt_2) (by decide)
theorem z142_3 : Run d 142 3 [a0, a1, a2, a3, a4] [.int x] M 0 0 Z ↔ Run d 142 4 [a0, a1, some (.int x), a3, a4] [] M 0 0 Z := R_local (gd142 dX9_looksAt_3) rfl rfl rfl
theorem z142_4 : Run d 142 4 [a0, a1, a2, a3, a4] [] M 0 0 Z ↔ Run d 142 5 [a0, a1, a2, a3, a4] [.int 1] M 0 0 Z := R_iconst (gd142 dX9_looksAt_4) (by decide)
theorem z142_5 : Run d 142 5 [a0, a1, a2, a3, a4] [.int x] M 0 0 Z ↔ Run d 142 6 [a0, a1, a2, some (.int x), a4] [] M 0 0 Z := R_local (gd142 dX9_looksAt_5) rfl rfl rfl
theorem z142_6 : Run d 142 6 [some (.ref o), a1, a2, a3, a4] [] M 0 0 Z ↔ Run d 142 7 [some (.ref o), a1, a2, a3, a4] [.ref o] M 0 0 Z := R_local (gd142 dX9_looksAt_6) rfl rfl rfl
theorem z142_7 : Run d 142 7 [a0, a1, a2, a3, a4] [s0] M 0 0 Z ↔ Run d 142 8 [a0, a1, a2, a3, a4] [.int 0, s0] M 0 0 Z := R_iconst (gd142 dX9_looksAt_7) (by decide)
theorem z142_8 : Run d 142 8 [a0, a1, a2, a3, a4] [.int x, .ref o] M 0 0 Z ↔ gObj M o 9 ∧ Run d 142 11 [a0, a1, a2, a3, a4] [] (gsI M o 15 x) 0 0 Z := R_putI (gd142 dX9_looksAt_8) rfl gf_9_187 (Or.inl rfl) rfl
theorem z142_11 : Run d 142 11 [some (.ref o), a1, a2, a3, a4] [] M 0 0 Z ↔ Run d 142 12 [some (.ref o), a1, a2, a3, a4] [.ref o] M 0 0 Z := R_local (gd142 dX9_looksAt_11) rfl rfl rfl
theorem z142_12 : Run d 142 12 [a0, a1, a2, a3, a4] [s0] M 0 0 Z ↔ Run d 142 13 [a0, a1, a2, a3, a4] [.int 0, s0] M 0 0 Z := R_iconst (gd142 dX9_looksAt_12) (by decide)
theorem z142_13 : Run d 142 13 [a0, a1, a2, a3, a4] [.int x, .ref o] M 0 0 Z ↔ gObj M o 9 ∧ Run d 142 16 [a0, a1, a2, a3, a4] [] (gsI M o 13 x) 0 0 Z := R_putI (gd142 dX9_looksAt_13) rfl gf_9_178 (Or.inl rfl) rfl
theorem z142_16 : Run d 142 16 [a0, a1, a2, some (.int x), a4] [] M 0 0 Z ↔ Run d 142 17 [a0, a1, a2, some (.int x), a4] [.int x] M 0 0 Z := R_local (gd142 dX9_looksAt_16) rfl rfl rfl
theorem z142_17 : Run d 142 17 [a0, a1, a2, a3, a4] [.int x] M 0 0 Z ↔ (x = 0 → Run d 142 293 [a0, a1, a2, a3, a4] [] M 0 0 Z) ∧ (¬ (x = 0) → Run d 142 20 [a0, a1, a2, a3, a4] [] M 0 0 Z) := R_if (gd142 dX9_looksAt_17) (show gTgt 17 276 = some 293 by decide) gIf_eq
theorem z142_20 : Run d 142 20 [some (.ref o), a1, a2, a3, a4] [] M 0 0 Z ↔ Run d 142 21 [some (.ref o), a1, a2, a3, a4] [.ref o] M 0 0 Z := R_local (gd142 dX9_looksAt_20) rfl rfl rfl
theorem z142_21 : Run d 142 21 [a0, a1, a2, a3, a4] [.ref o] M 0 0 Z ↔ gObj M o 9 ∧ Run d 142 24 [a0, a1, a2, a3, a4] [.int (M.1 o 15)] M 0 0 Z := R_getI (gd142 dX9_looksAt_21) rfl gf_9_187 rfl
theorem z142_24 : Run d 142 24 [a0, a1, a2, a3, a4] [.int x] M 0 0 Z ↔ (¬ x = 0 → Run d 142 293 [a0, a1, a2, a3, a4] [] M 0 0 Z) ∧ (¬ (¬ x = 0) → Run d 142 27 [a0, a1, a2, a3, a4] [] M 0 0 Z) := R_if (gd142 dX9_looksAt_24) (show gTgt 24 269 = some 293 by decide) gIf_ne
theorem z142_27 : Run d 142 27 [some (.ref o), a1, a2, a3, a4] [] M 0 0 Z ↔ Run d 142 28 [some (.ref o), a1, a2, a3, a4] [.ref o] M 0 0 Z := R_local (gd142 dX9_looksAt_27) rfl rfl rfl
theorem z142_28 : Run d 142 28 [a0, a1, a2, a3, a4] [.ref b] M 0 0 Z ↔ gObj M b 9 ∧ Call d 130 [.ref b] M (fun r M1 => Run d 142 31 [a0, a1, a2, a3, a4] (r.toList ++ []) M1 0 0 Z) := R_callV (gd142 dX9_looksAt_28) rfl rfl rfl rfl rfl rfl gc_9_196 rfl rfl (Nat.le_of_ble_eq_true rfl) (Nat.le_of_ble_eq_true rfl) rfl rfl (Nat.le_of_ble_eq_true rfl) (Nat.le_of_ble_eq_true rfl)
theorem z142_31 : Run d 142 31 [a0, a1, a2, a3, a4] [.int x] M 0 0 Z ↔ Run d 142 33 [a0, a1, a2, a3, some (.int x)] [] M 0 0 Z := R_local (gd142 dX9_looksAt_31) rfl rfl rfl
theorem z142_33 : Run d 142 33 [a0, a1, a2, a3, some (.int x)] [] M 0 0 Z ↔ Run d 142 35 [a0, a1, a2, a3, some (.int x)] [.int x] M 0 0 Z := R_local (gd142 dX9_looksAt_33) rfl rfl rfl
theorem z142_35 : Run d 142 35 [a0, a1, a2, a3, a4] [s0] M 0 0 Z ↔ Call d 137 [s0] M (fun r M1 => Run d 142 38 [a0, a1, a2, a3, a4] (r.toList ++ []) M1 0 0 Z) := R_call (gd142 dX9_looksAt_35) rfl rfl rfl rfl rfl rfl gc_9_215 rfl (by decide) (Nat.le_of_ble_eq_true rfl) (Nat.le_of_ble_eq_true rfl) rfl rfl rfl (Nat.le_of_ble_eq_true rfl) (Nat.le_of_ble_eq_true rfl)
theorem z142_38 : Run d 142 38 [a0, a1, a2, a3, a4] [.int x] M 0 0 Z ↔ (¬ x = 0 → Run d 142 79 [a0, a1, a2, a3, a4] [] M 0 0 Z) ∧ (¬ (¬ x = 0) → Run d 142 41 [a0, a1, a2, a3, a4] [] M 0 0 Z) := R_if (gd142 dX9_looksAt_38) (show gTgt 38 41 = some 79 by decide) gIf_ne
theorem z142_41 : Run d 142 41 [a0, a1, a2, a3, some (.int x)] [] M 0 0 Z ↔ Run d 142 43 [a0, a1, a2, a3, some (.int x)] [.int x] M 0 0 Z := R_local (gd142 dX9_looksAt_41) rfl rfl rfl
theorem z142_43 : Run d 142 43 [a0, a1, a2, a3, a4] [s0] M 0 0 Z ↔ Call d 138 [s0] M (fun r M1 => Run d 142 46 [a0, a1, a2, a3, a4] (r.toList ++ []) M1 0 0 Z) := R_call (gd142 dX9_looksAt_43) rfl rfl rfl rfl rfl rfl gc_9_218 rfl (by decide) (Nat.le_of_ble_eq_true rfl) (Nat.le_of_ble_eq_true rfl) rfl rfl rfl (Nat.le_of_ble_eq_true rfl) (Nat.le_of_ble_eq_true rfl)
theorem z142_46 : Run d 142 46 [a0, a1, a2, a3, a4] [.int x] M 0 0 Z ↔ (¬ x = 0 → Run d 142 79 [a0, a1, a2, a3, a4] [] M 0 0 Z) ∧ (¬ (¬ x = 0) → Run d 142 49 [a0, a1, a2, a3, a4] [] M 0 0 Z) := R_if (gd142 dX9_looksAt_46) (show gTgt 46 33 = some 79 by decide) gIf_ne
theorem z142_49 : Run d 142 49 [a0, a1, a2, a3, some (.int x)] [] M 0 0 Z ↔ Run d 142 51 [a0, a1, a2, a3, some (.int x)] [.int x] M 0 0 Z := R_local (gd142 dX9_looksAt_49) rfl rfl rfl
theorem z142_51 : Run d 142 51 [a0, a1, a2, a3, a4] [s0] M 0 0 Z ↔ Call d 133 [s0] M (fun r M1 => Run d 142 54 [a0, a1, a2, a3, a4] (r.toList ++ []) M1 0 0 Z) := R_call (gd142 dX9_looksAt_51) rfl rfl rfl rfl rfl rfl gc_9_190 rfl (by decide) (Nat.le_of_ble_eq_true rfl) (Nat.le_of_ble_eq_true rfl) rfl rfl rfl (Nat.le_of_ble_eq_true rfl) (Nat.le_of_ble_eq_true rfl)
theorem z142_54 : Run d 142 54 [a0, a1, a2, a3, a4] [.int x] M 0 0 Z ↔ (¬ x = 0 → Run d 142 79 [a0, a1, a2, a3, a4] [] M 0 0 Z) ∧ (¬ (¬ x = 0) → Run d 142 57 [a0, a1, a2, a3, a4] [] M 0 0 Z) := R_if (gd142 dX9_looksAt_54) (show gTgt 54 25 = some 79 by decide) gIf_ne
theorem z142_57 : Run d 142 57 [a0, a1, a2, a3, some (.int x)] [] M 0 0 Z ↔ Run d 142 59 [a0, a1, a2, a3, some (.int x)] [.int x] M 0 0 Z := R_local (gd142 dX9_looksAt_57) rfl rfl rfl
theorem z142_59 : Run d 142 59 [a0, a1, a2, a3, a4] [s0] M 0 0 Z ↔ Run d 142 61 [a0, a1, a2, a3, a4] [.int 112, s0] M 0 0 Z := R_bipush (gd142 dX9_looksAt_59) (by decide)
theorem z142_61 : Run d 142 61 [a0, a1, a2, a3, a4] [.int y, .int x] M 0 0 Z ↔ (x = y → Run d 142 79 [a0, a1, a2, a3, a4] [] M 0 0 Z) ∧ (¬ (x = y) → Run d 142 64 [a0, a1, a2, a3, a4] [] M 0 0 Z) := R_icmp (gd142 dX9_looksAt_61) (show gTgt 61 18 = some 79 by decide) gIf_eq
theorem z142_64 : Run d 142 64 [a0, a1, a2, a3, some (.int x)] [] M 0 0 Z ↔ Run d 142 66 [a0, a1, a2, a3, some (.int x)] [.int x] M 0 0 Z := R_local (gd142 dX9_looksAt_64) rfl rfl rfl
theorem z142_66 : Run d 142 66 [a0, a1, a2, a3, a4] [s0] M 0 0 Z ↔ Run d 142 68 [a0, a1, a2, a3, a4] [.int 91, s0] M 0 0 Z := R_bipush (gd142 dX9_looksAt_66) (by decide)
theorem z142_68 : Run d 142 68 [a0, a1, a2, a3, a4] [.int y, .int x] M 0 0 Z ↔ (x = y → Run d 142 79 [a0, a1, a2, a3, a4] [] M 0 0 Z) ∧ (¬ (x = y) → Run d 142 71 [a0, a1, a2, a3, a4] [] M 0 0 Z) := R_icmp (gd142 dX9_looksAt_68) (show gTgt 68 11 = some 79 by decide) gIf_eq
theorem z142_71 : Run d 142 71 [some (.ref o), a1, a2, a3, a4] [] M 0 0 Z ↔ Run d 142 72 [some (.ref o), a1, a2, a3, a4] [.ref o] M 0 0 Z := R_local (gd142 dX9_looksAt_71) rfl rfl rfl
theorem z142_72 : Run d 142 72 [a0, a1, a2, a3, a4] [s0] M 0 0 Z ↔ Run d 142 73 [a0, a1, a2, a3, a4] [.int 1, s0] M 0 0 Z := R_iconst (gd142 dX9_looksAt_72) (by decide)
theorem z142_73 : Run d 142 73 [a0, a1, a2, a3, a4] [s1, .ref b] M 0 0 Z ↔ gObj M b 9 ∧ Call d 131 [.ref b, s1] M (fun r M1 => Run d 142 76 [a0, a1, a2, a3, a4] (r.toList ++ []) M1 0 0 Z) := R_callV (gd142 dX9_looksAt_73) rfl rfl rfl rfl rfl rfl gc_9_200 rfl rfl (Nat.le_of_ble_eq_true rfl) (Nat.le_of_ble_eq_true rfl) rfl rfl (Nat.le_of_ble_eq_true rfl) (Nat.le_of_ble_eq_true rfl)
theorem z142_76 : Run d 142 76 [a0, a1, a2, a3, a4] [] M 0 0 Z ↔ Run d 142 110 [a0, a1, a2, a3, a4] [] M 0 0 Z := R_goto (gd142 dX9_looksAt_76) (show gTgt 76 34 = some 110 by decide)
theorem z142_79 : Run d 142 79 [a0, a1, a2, a3, some (.int x)] [] M 0 0 Z ↔ Run d 142 81 [a0, a1, a2, a3, some (.int x)] [.int x] M 0 0 Z := R_local (gd142 dX9_looksAt_79) rfl rfl rfl
theorem z142_81 : Run d 142 81 [a0, a1, a2, a3, a4] [s0] M 0 0 Z ↔ Run d 142 83 [a0, a1, a2, a3, a4] [.int 91, s0] M 0 0 Z := R_bipush (gd142 dX9_looksAt_81) (by decide)
theorem z142_83 : Run d 142 83 [a0, a1, a2, a3, a4] [.int y, .int x] M 0 0 Z ↔ (¬ x = y → Run d 142 99 [a0, a1, a2, a3, a4] [] M 0 0 Z) ∧ (¬ (¬ x = y) → Run d 142 86 [a0, a1, a2, a3, a4] [] M 0 0 Z) := R_icmp (gd142 dX9_looksAt_83) (show gTgt 83 16 = some 99 by decide) gIf_ne
theorem z142_86 : Run d 142 86 [a0, some (.int x), a2, a3, a4] [] M 0 0 Z ↔ Run d 142 87 [a0, some (.int x), a2, a3, a4] [.int x] M 0 0 Z := R_local (gd142 dX9_looksAt_86) rfl rfl rfl
theorem z142_87 : Run d 142 87 [a0, a1, a2, a3, a4] [s0] M 0 0 Z ↔ Run d 142 88 [a0, a1, a2, a3, a4] [.int 3, s0] M 0 0 Z := R_iconst (gd142 dX9_looksAt_87) (by decide)
theorem z142_88 : Run d 142 88 [a0, a1, a2, a3, a4] [.int y, .int x] M 0 0 Z ↔ (¬ x = y → Run d 142 99 [a0, a1, a2, a3, a4] [] M 0 0 Z) ∧ (¬ (¬ x = y) → Run d 142 91 [a0, a1, a2, a3, a4] [] M 0 0 Z) := R_icmp (gd142 dX9_looksAt_88) (show gTgt 88 11 = some 99 by decide) gIf_ne
theorem z142_91 : Run d 142 91 [some (.ref o), a1, a2, a3, a4] [] M 0 0 Z ↔ Run d 142 92 [some (.ref o), a1, a2, a3, a4] [.ref o] M 0 0 Z := R_local (gd142 dX9_looksAt_91) rfl rfl rfl
theorem z142_92 : Run d 142 92 [a0, a1, a2, a3, a4] [s0] M 0 0 Z ↔ Run d 142 93 [a0, a1, a2, a3, a4] [.int 3, s0] M 0 0 Z := R_iconst (gd142 dX9_looksAt_92) (by decide)
theorem z142_93 : Run d 142 93 [a0, a1, a2, a3, a4] [s1, .ref b] M 0 0 Z ↔ gObj M b 9 ∧ Call d 131 [.ref b, s1] M (fun r M1 => Run d 142 96 [a0, a1, a2, a3, a4] (r.toList ++ []) M1 0 0 Z) := R_callV (gd142 dX9_looksAt_93) rfl rfl rfl rfl rfl rfl gc_9_200 rfl rfl (Nat.le_of_ble_eq_true rfl) (Nat.le_of_ble_eq_true rfl) rfl rfl (Nat.le_of_ble_eq_true rfl) (Nat.le_of_ble_eq_true rfl)
theorem z142_96 : Run d 142 96 [a0, a1, a2, a3, a4] [] M 0 0 Z ↔ Run d 142 110 [a0, a1, a2, a3, a4] [] M 0 0 Z := R_goto (gd142 dX9_looksAt_96) (show gTgt 96 14 = some 110 by decide)
theorem z142_99 : Run d 142 99 [a0, a1, some (.int x), a3, a4] [] M 0 0 Z ↔ Run d 142 100 [a0, a1, some (.int x), a3, a4] [.int x] M 0 0 Z := R_local (gd142 dX9_looksAt_99) rfl rfl rfl
theorem z142_100 : Run d 142 100 [a0, a1, a2, a3, a4] [s0] M 0 0 Z ↔ Run d 142 102 [a0, a1, a2, a3, a4] [.int 40, s0] M 0 0 Z := R_bipush (gd142 dX9_looksAt_100) (by decide)
theorem z142_102 : Run d 142 102 [a0, a1, a2, a3, a4] [.int y, .int x] M 0 0 Z ↔ (¬ x = y → Run d 142 110 [a0, a1, a2, a3, a4] [] M 0 0 Z) ∧ (¬ (¬ x = y) → Run d 142 105 [a0, a1, a2, a3, a4] [] M 0 0 Z) := R_icmp (gd142 dX9_looksAt_102) (show gTgt 102 8 = some 110 by decide) gIf_ne
theorem z142_105 : Run d 142 105 [some (.ref o), a1, a2, a3, a4] [] M 0 0 Z ↔ Run d 142 106 [some (.ref o), a1, a2, a3, a4] [.ref o] M 0 0 Z := R_local (gd142 dX9_looksAt_105) rfl rfl rfl
theorem z142_106 : Run d 142 106 [a0, a1, a2, a3, a4] [s0] M 0 0 Z ↔ Run d 142 107 [a0, a1, a2, a3, a4] [.int 5, s0] M 0 0 Z := R_iconst (gd142 dX9_looksAt_106) (by decide)
theorem z142_107 : Run d 142 107 [a0, a1, a2, a3, a4] [s1, .ref b] M 0 0 Z ↔ gObj M b 9 ∧ Call d 131 [.ref b, s1] M (fun r M1 => Run d 142 110 [a0, a1, a2, a3, a4] (r.toList ++ []) M1 0 0 Z) := R_callV (gd142 dX9_looksAt_107) rfl rfl rfl rfl rfl rfl gc_9_200 rfl rfl (Nat.le_of_ble_eq_true rfl) (Nat.le_of_ble_eq_true rfl) rfl rfl (Nat.le_of_ble_eq_true rfl) (Nat.le_of_ble_eq_true rfl)
theorem z142_110 : Run d 142 110 [some (.ref o), a1, a2, a3, a4] [] M 0 0 Z ↔ Run d 142 111 [some (.ref o), a1, a2, a3, a4] [.ref o] M 0 0 Z := R_local (gd142 dX9_looksAt_110) rfl rfl rfl
theorem z142_111 : Run d 142 111 [a0, a1, a2, a3, a4] [.ref o] M 0 0 Z ↔ gObj M o 9 ∧ Run d 142 114 [a0, a1, a2, a3, a4] [.int (M.1 o 15)] M 0 0 Z := R_getI (gd142 dX9_looksAt_111) rfl gf_9_187 rfl
theorem z142_114 : Run d 142 114 [a0, a1, a2, a3, a4] [.int x] M 0 0 Z ↔ (0 ≤ x → Run d 142 122 [a0, a1, a2, a3, a4] [] M 0 0 Z) ∧ (¬ (0 ≤ x) → Run d 142 117 [a0, a1, a2, a3, a4] [] M 0 0 Z) := R_if (gd142 dX9_looksAt_114) (show gTgt 114 8 = some 122 by decide) gIf_ge
theorem z142_117 : Run d 142 117 [some (.ref o), a1, a2, a3, a4] [] M 0 0 Z ↔ Run d 142 118 [some (.ref o), a1, a2, a3, a4] [.ref o] M 0 0 Z := R_local (gd142 dX9_looksAt_117) rfl rfl rfl
theorem z142_118 : Run d 142 118 [a0, a1, a2, a3, a4] [.ref o] M 0 0 Z ↔ gObj M o 9 ∧ Run d 142 121 [a0, a1, a2, a3, a4] [.int (M.1 o 15)] M 0 0 Z := R_getI (gd142 dX9_looksAt_118) rfl gf_9_187 rfl
theorem z142_121 : Run d 142 121 [a0, a1, a2, a3, a4] [.int x] M 0 0 Z ↔ Z (some (.int x)) M := R_iret (gd142 dX9_looksAt_121) rfl
theorem z142_122 : Run d 142 122 [a0, a1, some (.int x), a3, a4] [] M 0 0 Z ↔ Run d 142 125 [a0, a1, some (.int (x + 1)), a3, a4] [] M 0 0 Z := R_iinc (gd142 dX9_looksAt_122) (by decide) rfl rfl
theorem z142_125 : Run d 142 125 [some (.ref o), a1, a2, a3, a4] [] M 0 0 Z ↔ Run d 142 126 [some (.ref o), a1, a2, a3, a4] [.ref o] M 0 0 Z := R_local (gd142 dX9_looksAt_125) rfl rfl rfl
theorem z142_126 : Run d 142 126 [a0, a1, a2, a3, a4] [.ref o] M 0 0 Z ↔ Run d 142 127 [a0, a1, a2, a3, a4] [.ref o, .ref o] M 0 0 Z := R_arith (gd142 dX9_looksAt_126) rfl
theorem z142_127 : Run d 142 127 [a0, a1, a2, a3, a4] [.ref o, s0] M 0 0 Z ↔ gObj M o 9 ∧ Run d 142 130 [a0, a1, a2, a3, a4] [.int (M.1 o 13), s0] M 0 0 Z := R_getI (gd142 dX9_looksAt_127) rfl gf_9_178 rfl
theorem z142_130 : Run d 142 130 [a0, a1, a2, a3, a4] [s1, s0] M 0 0 Z ↔ Run d 142 131 [a0, a1, a2, a3, a4] [.int 1, s1, s0] M 0 0 Z := R_iconst (gd142 dX9_looksAt_130) (by decide)
theorem z142_131 : Run d 142 131 [a0, a1, a2, a3, a4] [.int y, .int x, s0] M 0 0 Z ↔ Run d 142 132 [a0, a1, a2, a3, a4] [.int (x + y), s0] M 0 0 Z := R_arith (gd142 dX9_looksAt_131) rfl
theorem z142_132 : Run d 142 132 [a0, a1, a2, a3, a4] [.int x, .ref o] M 0 0 Z ↔ gObj M o 9 ∧ Run d 142 135 [a0, a1, a2, a3, a4] [] (gsI M o 13 x) 0 0 Z := R_putI (gd142 dX9_looksAt_132) rfl gf_9_178 (Or.inl rfl) rfl
theorem z142_135 : Run d 142 135 [a0, a1, a2, a3, some (.int x)] [] M 0 0 Z ↔ Run d 142 137 [a0, a1, a2, a3, some (.int x)] [.int x] M 0 0 Z := R_local (gd142 dX9_looksAt_135) rfl rfl rfl
theorem z142_137 : Run d 142 137 [a0, a1, a2, a3, a4] [s0] M 0 0 Z ↔ Call d 133 [s0] M (fun r M1 => Run d 142 140 [a0, a1, a2, a3, a4] (r.toList ++ []) M1 0 0 Z) := R_call (gd142 dX9_looksAt_137) rfl rfl rfl rfl rfl rfl gc_9_190 rfl (by decide) (Nat.le_of_ble_eq_true rfl) (Nat.le_of_ble_eq_true rfl) rfl rfl rfl (Nat.le_of_ble_eq_true rfl) (Nat.le_of_ble_eq_true rfl)
theorem z142_140 : Run d 142 140 [a0, a1, a2, a3, a4] [.int x] M 0 0 Z ↔ (x = 0 → Run d 142 149 [a0, a1, a2, a3, a4] [] M 0 0 Z) ∧ (¬ (x = 0) → Run d 142 143 [a0, a1, a2, a3, a4] [] M 0 0 Z) := R_if (gd142 dX9_looksAt_140) (show gTgt 140 9 = some 149 by decide) gIf_eq
theorem z142_143 : Run d 142 143 [some (.ref o), a1, a2, a3, a4] [] M 0 0 Z ↔ Run d 142 144 [some (.ref o), a1, a2, a3, a4] [.ref o] M 0 0 Z := R_local (gd142 dX9_looksAt_143) rfl rfl rfl
theorem z142_144 : Run d 142 144 [a0, a1, a2, a3, a4] [s0] M 0 0 Z ↔ Run d 142 146 [a0, a1, a2, a3, a4] [.int 61, s0] M 0 0 Z := R_bipush (gd142 dX9_looksAt_144) (by decide)
theorem z142_146 : Run d 142 146 [a0, a1, a2, a3, a4] [s1, .ref b] M 0 0 Z ↔ gObj M b 9 ∧ Call d 139 [.ref b, s1] M (fun r M1 => Run d 142 149 [a0, a1, a2, a3, a4] (r.toList ++ []) M1 0 0 Z) := R_callV (gd142 dX9_looksAt_146) rfl rfl rfl rfl rfl rfl gc_9_221 rfl rfl (Nat.le_of_ble_eq_true rfl) (Nat.le_of_ble_eq_true rfl) rfl rfl (Nat.le_of_ble_eq_true rfl) (Nat.le_of_ble_eq_true rfl)
theorem z142_149 : Run d 142 149 [some (.ref o), a1, a2, a3, a4] [] M 0 0 Z ↔ Run d 142 150 [some (.ref o), a1, a2, a3, a4] [.ref o] M 0 0 Z := R_local (gd142 dX9_looksAt_149) rfl rfl rfl
theorem z142_150 : Run d 142 150 [a0, a1, a2, a3, a4] [.ref o] M 0 0 Z ↔ gObj M o 9 ∧ Run d 142 153 [a0, a1, a2, a3, a4] [.int (M.1 o 15)] M 0 0 Z := R_getI (gd142 dX9_looksAt_150) rfl gf_9_187 rfl
theorem z142_153 : Run d 142 153 [a0, a1, a2, a3, a4] [.int x] M 0 0 Z ↔ (¬ x = 0 → Run d 142 168 [a0, a1, a2, a3, a4] [] M 0 0 Z) ∧ (¬ (¬ x = 0) → Run d 142 156 [a0, a1, a2, a3, a4] [] M 0 0 Z) := R_if (gd142 dX9_looksAt_153) (show gTgt 153 15 = some 168 by decide) gIf_ne
theorem z142_156 : Run d 142 156 [a0, a1, a2, a3, some (.int x)] [] M 0 0 Z ↔ Run d 142 158 [a0, a1, a2, a3, some (.int x)] [.int x] M 0 0 Z := R_local (gd142 dX9_looksAt_156) rfl rfl rfl
theorem z142_158 : Run d 142 158 [a0, a1, a2, a3, a4] [s0] M 0 0 Z ↔ Call d 137 [s0] M (fun r M1 => Run d 142 161 [a0, a1, a2, a3, a4] (r.toList ++ []) M1 0 0 Z) := R_call (gd142 dX9_looksAt_158) rfl rfl rfl rfl rfl rfl gc_9_215 rfl (by decide) (Nat.le_of_ble_eq_true rfl) (Nat.le_of_ble_eq_true rfl) rfl rfl rfl (Nat.le_of_ble_eq_true rfl) (Nat.le_of_ble_eq_true rfl)
theorem z142_161 : Run d 142 161 [a0, a1, a2, a3, a4] [.int x] M 0 0 Z ↔ (¬ x = 0 → Run d 142 168 [a0, a1, a2, a3, a4] [] M 0 0 Z) ∧ (¬ (¬ x = 0) → Run d 142 164 [a0, a1, a2, a3, a4] [] M 0 0 Z) := R_if (gd142 dX9_looksAt_161) (show gTgt 161 7 = some 168 by decide) gIf_ne
theorem z142_164 : Run d 142 164 [some (.ref o), a1, a2, a3, a4] [] M 0 0 Z ↔ Run d 142 165 [some (.ref o), a1, a2, a3, a4] [.ref o] M 0 0 Z := R_local (gd142 dX9_looksAt_164) rfl rfl rfl
theorem z142_165 : Run d 142 165 [a0, a1, a2, a3, a4] [.ref b] M 0 0 Z ↔ gObj M b 9 ∧ Call d 141 [.ref b] M (fun r M1 => Run d 142 168 [a0, a1, a2, a3, a4] (r.toList ++ []) M1 0 0 Z) := R_callV (gd142 dX9_looksAt_165) rfl rfl rfl rfl rfl rfl gc_9_224 rfl rfl (Nat.le_of_ble_eq_true rfl) (Nat.le_of_ble_eq_true rfl) rfl rfl (Nat.le_of_ble_eq_true rfl) (Nat.le_of_ble_eq_true rfl)
theorem z142_168 : Run d 142 168 [some (.ref o), a1, a2, a3, a4] [] M 0 0 Z ↔ Run d 142 169 [some (.ref o), a1, a2, a3, a4] [.ref o] M 0 0 Z := R_local (gd142 dX9_looksAt_168) rfl rfl rfl
theorem z142_169 : Run d 142 169 [a0, a1, a2, a3, a4] [.ref o] M 0 0 Z ↔ gObj M o 9 ∧ Run d 142 172 [a0, a1, a2, a3, a4] [.int (M.1 o 15)] M 0 0 Z := R_getI (gd142 dX9_looksAt_169) rfl gf_9_187 rfl
theorem z142_172 : Run d 142 172 [a0, a1, a2, a3, a4] [.int x] M 0 0 Z ↔ (¬ x = 0 → Run d 142 199 [a0, a1, a2, a3, a4] [] M 0 0 Z) ∧ (¬ (¬ x = 0) → Run d 142 175 [a0, a1, a2, a3, a4] [] M 0 0 Z) := R_if (gd142 dX9_looksAt_172) (show gTgt 172 27 = some 199 by decide) gIf_ne
theorem z142_175 : Run d 142 175 [a0, a1, a2, a3, some (.int x)] [] M 0 0 Z ↔ Run d 142 177 [a0, a1, a2, a3, some (.int x)] [.int x] M 0 0 Z := R_local (gd142 dX9_looksAt_175) rfl rfl rfl
theorem z142_177 : Run d 142 177 [a0, a1, a2, a3, a4] [s0] M 0 0 Z ↔ Run d 142 179 [a0, a1, a2, a3, a4] [.int 112, s0] M 0 0 Z := R_bipush (gd142 dX9_looksAt_177) (by decide)
theorem z142_179 : Run d 142 179 [a0, a1, a2, a3, a4] [.int y, .int x] M 0 0 Z ↔ (¬ x = y → Run d 142 199 [a0, a1, a2, a3, a4] [] M 0 0 Z) ∧ (¬ (¬ x = y) → Run d 142 182 [a0, a1, a2, a3, a4] [] M 0 0 Z) := R_icmp (gd142 dX9_looksAt_179) (show gTgt 179 20 = some 199 by decide) gIf_ne
theorem z142_182 : Run d 142 182 [some (.ref o), a1, a2, a3, a4] [] M 0 0 Z ↔ Run d 142 183 [some (.ref o), a1, a2, a3, a4] [.ref o] M 0 0 Z := R_local (gd142 dX9_looksAt_182) rfl rfl rfl
theorem z142_183 : Run d 142 183 [a0, a1, a2, a3, a4] [s0] M 0 0 Z ↔ Run d 142 185 [a0, a1, a2, a3, a4] [.int 46, s0] M 0 0 Z := R_bipush (gd142 dX9_looksAt_183) (by decide)
theorem z142_185 : Run d 142 185 [a0, a1, a2, a3, a4] [s1, .ref b] M 0 0 Z ↔ gObj M b 9 ∧ Call d 139 [.ref b, s1] M (fun r M1 => Run d 142 188 [a0, a1, a2, a3, a4] (r.toList ++ []) M1 0 0 Z) := R_callV (gd142 dX9_looksAt_185) rfl rfl rfl rfl rfl rfl gc_9_221 rfl rfl (Nat.le_of_ble_eq_true rfl) (Nat.le_of_ble_eq_true rfl) rfl rfl (Nat.le_of_ble_eq_true rfl) (Nat.le_of_ble_eq_true rfl)
theorem z142_188 : Run d 142 188 [some (.ref o), a1, a2, a3, a4] [] M 0 0 Z ↔ Run d 142 189 [some (.ref o), a1, a2, a3, a4] [.ref o] M 0 0 Z := R_local (gd142 dX9_looksAt_188) rfl rfl rfl
theorem z142_189 : Run d 142 189 [a0, a1, a2, a3, a4] [.ref o] M 0 0 Z ↔ gObj M o 9 ∧ Run d 142 192 [a0, a1, a2, a3, a4] [.int (M.1 o 15)] M 0 0 Z := R_getI (gd142 dX9_looksAt_189) rfl gf_9_187 rfl
theorem z142_192 : Run d 142 192 [a0, a1, a2, a3, a4] [.int x] M 0 0 Z ↔ (¬ x = 0 → Run d 142 199 [a0, a1, a2, a3, a4] [] M 0 0 Z) ∧ (¬ (¬ x = 0) → Run d 142 195 [a0, a1, a2, a3, a4] [] M 0 0 Z) := R_if (gd142 dX9_looksAt_192) (show gTgt 192 7 = some 199 by decide) gIf_ne
theorem z142_195 : Run d 142 195 [some (.ref o), a1, a2, a3, a4] [] M 0 0 Z ↔ Run d 142 196 [some (.ref o), a1, a2, a3, a4] [.ref o] M 0 0 Z := R_local (gd142 dX9_looksAt_195) rfl rfl rfl
theorem z142_196 : Run d 142 196 [a0, a1, a2, a3, a4] [.ref b] M 0 0 Z ↔ gObj M b 9 ∧ Call d 141 [.ref b] M (fun r M1 => Run d 142 199 [a0, a1, a2, a3, a4] (r.toList ++ []) M1 0 0 Z) := R_callV (gd142 dX9_looksAt_196) rfl rfl rfl rfl rfl rfl gc_9_224 rfl rfl (Nat.le_of_ble_eq_true rfl) (Nat.le_of_ble_eq_true rfl) rfl rfl (Nat.le_of_ble_eq_true rfl) (Nat.le_of_ble_eq_true rfl)
theorem z142_199 : Run d 142 199 [some (.ref o), a1, a2, a3, a4] [] M 0 0 Z ↔ Run d 142 200 [some (.ref o), a1, a2, a3, a4] [.ref o] M 0 0 Z := R_local (gd142 dX9_looksAt_199) rfl rfl rfl
theorem z142_200 : Run d 142 200 [a0, a1, a2, a3, a4] [.ref o] M 0 0 Z ↔ gObj M o 9 ∧ Run d 142 203 [a0, a1, a2, a3, a4] [.int (M.1 o 15)] M 0 0 Z := R_getI (gd142 dX9_looksAt_200) rfl gf_9_187 rfl
theorem z142_203 : Run d 142 203 [a0, a1, a2, a3, a4] [.int x] M 0 0 Z ↔ (0 ≤ x → Run d 142 211 [a0, a1, a2, a3, a4] [] M 0 0 Z) ∧ (¬ (0 ≤ x) → Run d 142 206 [a0, a1, a2, a3, a4] [] M 0 0 Z) := R_if (gd142 dX9_looksAt_203) (show gTgt 203 8 = some 211 by decide) gIf_ge
theorem z142_206 : Run d 142 206 [some (.ref o), a1, a2, a3, a4] [] M 0 0 Z ↔ Run d 142 207 [some (.ref o), a1, a2, a3, a4] [.ref o] M 0 0 Z := R_local (gd142 dX9_looksAt_206) rfl rfl rfl
theorem z142_207 : Run d 142 207 [a0, a1, a2, a3, a4] [.ref o] M 0 0 Z ↔ gObj M o 9 ∧ Run d 142 210 [a0, a1, a2, a3, a4] [.int (M.1 o 15)] M 0 0 Z := R_getI (gd142 dX9_looksAt_207) rfl gf_9_187 rfl
theorem z142_210 : Run d 142 210 [a0, a1, a2, a3, a4] [.int x] M 0 0 Z ↔ Z (some (.int x)) M := R_iret (gd142 dX9_looksAt_210) rfl
theorem z142_211 : Run d 142 211 [a0, a1, a2, a3, some (.int x)] [] M 0 0 Z ↔ Run d 142 213 [a0, a1, a2, a3, some (.int x)] [.int x] M 0 0 Z := R_local (gd142 dX9_looksAt_211) rfl rfl rfl
theorem z142_213 : Run d 142 213 [a0, a1, a2, a3, a4] [s0] M 0 0 Z ↔ Run d 142 215 [a0, a1, a2, a3, a4] [.int 91, s0] M 0 0 Z := R_bipush (gd142 dX9_looksAt_213) (by decide)
theorem z142_215 : Run d 142 215 [a0, a1, a2, a3, a4] [.int y, .int x] M 0 0 Z ↔ (¬ x = y → Run d 142 230 [a0, a1, a2, a3, a4] [] M 0 0 Z) ∧ (¬ (¬ x = y) → Run d 142 218 [a0, a1, a2, a3, a4] [] M 0 0 Z) := R_icmp (gd142 dX9_looksAt_215) (show gTgt 215 15 = some 230 by decide) gIf_ne
theorem z142_218 : Run d 142 218 [some (.ref o), a1, a2, a3, a4] [] M 0 0 Z ↔ Run d 142 219 [some (.ref o), a1, a2, a3, a4] [.ref o] M 0 0 Z := R_local (gd142 dX9_looksAt_218) rfl rfl rfl
theorem z142_219 : Run d 142 219 [a0, a1, a2, a3, a4] [s0] M 0 0 Z ↔ Run d 142 221 [a0, a1, a2, a3, a4] [.int 58, s0] M 0 0 Z := R_bipush (gd142 dX9_looksAt_219) (by decide)
theorem z142_221 : Run d 142 221 [a0, a1, a2, a3, a4] [s1, .ref b] M 0 0 Z ↔ gObj M b 9 ∧ Call d 139 [.ref b, s1] M (fun r M1 => Run d 142 224 [a0, a1, a2, a3, a4] (r.toList ++ []) M1 0 0 Z) := R_callV (gd142 dX9_looksAt_221) rfl rfl rfl rfl rfl rfl gc_9_221 rfl rfl (Nat.le_of_ble_eq_true rfl) (Nat.le_of_ble_eq_true rfl) rfl rfl (Nat.le_of_ble_eq_true rfl) (Nat.le_of_ble_eq_true rfl)
theorem z142_224 : Run d 142 224 [a0, some (.int x), a2, a3, a4] [] M 0 0 Z ↔ Run d 142 227 [a0, some (.int (x + 1)), a2, a3, a4] [] M 0 0 Z := R_iinc (gd142 dX9_looksAt_224) (by decide) rfl rfl
theorem z142_227 : Run d 142 227 [a0, a1, a2, a3, a4] [] M 0 0 Z ↔ Run d 142 16 [a0, a1, a2, a3, a4] [] M 0 0 Z := R_goto (gd142 dX9_looksAt_227) (show gTgt 227 (-211) = some 16 by decide)
theorem z142_230 : Run d 142 230 [some (.ref o), a1, a2, a3, a4] [] M 0 0 Z ↔ Run d 142 231 [some (.ref o), a1, a2, a3, a4] [.ref o] M 0 0 Z := R_local (gd142 dX9_looksAt_230) rfl rfl rfl
theorem z142_231 : Run d 142 231 [a0, a1, a2, a3, a4] [.ref b] M 0 0 Z ↔ gObj M b 9 ∧ Call d 130 [.ref b] M (fun r M1 => Run d 142 234 [a0, a1, a2, a3, a4] (r.toList ++ []) M1 0 0 Z) := R_callV (gd142 dX9_looksAt_231) rfl rfl rfl rfl rfl rfl gc_9_196 rfl rfl (Nat.le_of_ble_eq_true rfl) (Nat.le_of_ble_eq_true rfl) rfl rfl (Nat.le_of_ble_eq_true rfl) (Nat.le_of_ble_eq_true rfl)
theorem z142_234 : Run d 142 234 [a0, a1, a2, a3, a4] [s0] M 0 0 Z ↔ Run d 142 236 [a0, a1, a2, a3, a4] [.int 93, s0] M 0 0 Z := R_bipush (gd142 dX9_looksAt_234) (by decide)
theorem z142_236 : Run d 142 236 [a0, a1, a2, a3, a4] [.int y, .int x] M 0 0 Z ↔ (¬ x = y → Run d 142 259 [a0, a1, a2, a3, a4] [] M 0 0 Z) ∧ (¬ (¬ x = y) → Run d 142 239 [a0, a1, a2, a3, a4] [] M 0 0 Z) := R_icmp (gd142 dX9_looksAt_236) (show gTgt 236 23 = some 259 by decide) gIf_ne
theorem z142_239 : Run d 142 239 [a0, some (.int x), a2, a3, a4] [] M 0 0 Z ↔ Run d 142 240 [a0, some (.int x), a2, a3, a4] [.int x] M 0 0 Z := R_local (gd142 dX9_looksAt_239) rfl rfl rfl
theorem z142_240 : Run d 142 240 [a0, a1, a2, a3, a4] [.int x] M 0 0 Z ↔ (x ≤ 0 → Run d 142 259 [a0, a1, a2, a3, a4] [] M 0 0 Z) ∧ (¬ (x ≤ 0) → Run d 142 243 [a0, a1, a2, a3, a4] [] M 0 0 Z) := R_if (gd142 dX9_looksAt_240) (show gTgt 240 19 = some 259 by decide) gIf_le
theorem z142_243 : Run d 142 243 [a0, some (.int x), a2, a3, a4] [] M 0 0 Z ↔ Run d 142 246 [a0, some (.int (x + (-1))), a2, a3, a4] [] M 0 0 Z := R_iinc (gd142 dX9_looksAt_243) (by decide) rfl rfl
theorem z142_246 : Run d 142 246 [some (.ref o), a1, a2, a3, a4] [] M 0 0 Z ↔ Run d 142 247 [some (.ref o), a1, a2, a3, a4] [.ref o] M 0 0 Z := R_local (gd142 dX9_looksAt_246) rfl rfl rfl
theorem z142_247 : Run d 142 247 [a0, a1, a2, a3, a4] [.ref o] M 0 0 Z ↔ Run d 142 248 [a0, a1, a2, a3, a4] [.ref o, .ref o] M 0 0 Z := R_arith (gd142 dX9_looksAt_247) rfl
theorem z142_248 : Run d 142 248 [a0, a1, a2, a3, a4] [.ref o, s0] M 0 0 Z ↔ gObj M o 9 ∧ Run d 142 251 [a0, a1, a2, a3, a4] [.int (M.1 o 13), s0] M 0 0 Z := R_getI (gd142 dX9_looksAt_248) rfl gf_9_178 rfl
theorem z142_251 : Run d 142 251 [a0, a1, a2, a3, a4] [s1, s0] M 0 0 Z ↔ Run d 142 252 [a0, a1, a2, a3, a4] [.int 1, s1, s0] M 0 0 Z := R_iconst (gd142 dX9_looksAt_251) (by decide)
theorem z142_252 : Run d 142 252 [a0, a1, a2, a3, a4] [.int y, .int x, s0] M 0 0 Z ↔ Run d 142 253 [a0, a1, a2, a3, a4] [.int (x + y), s0] M 0 0 Z := R_arith (gd142 dX9_looksAt_252) rfl
theorem z142_253 : Run d 142 253 [a0, a1, a2, a3, a4] [.int x, .ref o] M 0 0 Z ↔ gObj M o 9 ∧ Run d 142 256 [a0, a1, a2, a3, a4] [] (gsI M o 13 x) 0 0 Z := R_putI (gd142 dX9_looksAt_253) rfl gf_9_178 (Or.inl rfl) rfl
theorem z142_256 : Run d 142 256 [a0, a1, a2, a3, a4] [] M 0 0 Z ↔ Run d 142 230 [a0, a1, a2, a3, a4] [] M 0 0 Z := R_goto (gd142 dX9_looksAt_256) (show gTgt 256 (-26) = some 230 by decide)
theorem z142_259 : Run d 142 259 [some (.ref o), a1, a2, a3, a4] [] M 0 0 Z ↔ Run d 142 260 [some (.ref o), a1, a2, a3, a4] [.ref o] M 0 0 Z := R_local (gd142 dX9_looksAt_259) rfl rfl rfl
theorem z142_260 : Run d 142 260 [a0, a1, a2, a3, a4] [.ref o] M 0 0 Z ↔ gObj M o 9 ∧ Run d 142 263 [a0, a1, a2, a3, a4] [.int (M.1 o 13)] M 0 0 Z := R_getI (gd142 dX9_looksAt_260) rfl gf_9_178 rfl
theorem z142_263 : Run d 142 263 [some (.ref o), a1, a2, a3, a4] [s0] M 0 0 Z ↔ Run d 142 264 [some (.ref o), a1, a2, a3, a4] [.ref o, s0] M 0 0 Z := R_local (gd142 dX9_looksAt_263) rfl rfl rfl
theorem z142_264 : Run d 142 264 [a0, a1, a2, a3, a4] [.ref o, s0] M 0 0 Z ↔ gObj M o 9 ∧ Run d 142 267 [a0, a1, a2, a3, a4] [.int (M.1 o 14), s0] M 0 0 Z := R_getI (gd142 dX9_looksAt_264) rfl gf_9_181 rfl
theorem z142_267 : Run d 142 267 [a0, a1, a2, a3, a4] [.int y, .int x] M 0 0 Z ↔ (x < y → Run d 142 274 [a0, a1, a2, a3, a4] [] M 0 0 Z) ∧ (¬ (x < y) → Run d 142 270 [a0, a1, a2, a3, a4] [] M 0 0 Z) := R_icmp (gd142 dX9_looksAt_267) (show gTgt 267 7 = some 274 by decide) gIf_lt
theorem z142_270 : Run d 142 270 [a0, some (.int x), a2, a3, a4] [] M 0 0 Z ↔ Run d 142 271 [a0, some (.int x), a2, a3, a4] [.int x] M 0 0 Z := R_local (gd142 dX9_looksAt_270) rfl rfl rfl
theorem z142_271 : Run d 142 271 [a0, a1, a2, a3, a4] [.int x] M 0 0 Z ↔ (x ≤ 0 → Run d 142 278 [a0, a1, a2, a3, a4] [] M 0 0 Z) ∧ (¬ (x ≤ 0) → Run d 142 274 [a0, a1, a2, a3, a4] [] M 0 0 Z) := R_if (gd142 dX9_looksAt_271) (show gTgt 271 7 = some 278 by decide) gIf_le
theorem z142_274 : Run d 142 274 [a0, a1, a2, a3, a4] [] M 0 0 Z ↔ Run d 142 275 [a0, a1, a2, a3, a4] [.int 1] M 0 0 Z := R_iconst (gd142 dX9_looksAt_274) (by decide)
theorem z142_275 : Run d 142 275 [a0, a1, a2, a3, a4] [s0] M 0 0 Z ↔ Run d 142 279 [a0, a1, a2, a3, a4] [s0] M 0 0 Z := R_goto (gd142 dX9_looksAt_275) (show gTgt 275 4 = some 279 by decide)
theorem z142_278 : Run d 142 278 [a0, a1, a2, a3, a4] [] M 0 0 Z ↔ Run d 142 279 [a0, a1, a2, a3, a4] [.int 0] M 0 0 Z := R_iconst (gd142 dX9_looksAt_278) (by decide)
theorem z142_279 : Run d 142 279 [a0, a1, a2, a3, a4] [.int x] M 0 0 Z ↔ Run d 142 280 [a0, a1, a2, some (.int x), a4] [] M 0 0 Z := R_local (gd142 dX9_looksAt_279) rfl rfl rfl
theorem z142_280 : Run d 142 280 [a0, a1, a2, some (.int x), a4] [] M 0 0 Z ↔ Run d 142 281 [a0, a1, a2, some (.int x), a4] [.int x] M 0 0 Z := R_local (gd142 dX9_looksAt_280) rfl rfl rfl
theorem z142_281 : Run d 142 281 [a0, a1, a2, a3, a4] [.int x] M 0 0 Z ↔ (x = 0 → Run d 142 290 [a0, a1, a2, a3, a4] [] M 0 0 Z) ∧ (¬ (x = 0) → Run d 142 284 [a0, a1, a2, a3, a4] [] M 0 0 Z) := R_if (gd142 dX9_looksAt_281) (show gTgt 281 9 = some 290 by decide) gIf_eq
theorem z142_284 : Run d 142 284 [some (.ref o), a1, a2, a3, a4] [] M 0 0 Z ↔ Run d 142 285 [some (.ref o), a1, a2, a3, a4] [.ref o] M 0 0 Z := R_local (gd142 dX9_looksAt_284) rfl rfl rfl
theorem z142_285 : Run d 142 285 [a0, a1, a2, a3, a4] [s0] M 0 0 Z ↔ Run d 142 287 [a0, a1, a2, a3, a4] [.int 59, s0] M 0 0 Z := R_bipush (gd142 dX9_looksAt_285) (by decide)
theorem z142_287 : Run d 142 287 [a0, a1, a2, a3, a4] [s1, .ref b] M 0 0 Z ↔ gObj M b 9 ∧ Call d 139 [.ref b, s1] M (fun r M1 => Run d 142 290 [a0, a1, a2, a3, a4] (r.toList ++ []) M1 0 0 Z) := R_callV (gd142 dX9_looksAt_287) rfl rfl rfl rfl rfl rfl gc_9_221 rfl rfl (Nat.le_of_ble_eq_true rfl) (Nat.le_of_ble_eq_true rfl) rfl rfl (Nat.le_of_ble_eq_true rfl) (Nat.le_of_ble_eq_true rfl)
theorem z142_290 : Run d 142 290 [a0, a1, a2, a3, a4] [] M 0 0 Z ↔ Run d 142 16 [a0, a1, a2, a3, a4] [] M 0 0 Z := R_goto (gd142 dX9_looksAt_290) (show gTgt 290 (-274) = some 16 by decide)
theorem z142_293 : Run d 142 293 [some (.ref o), a1, a2, a3, a4] [] M 0 0 Z ↔ Run d 142 294 [some (.ref o), a1, a2, a3, a4] [.ref o] M 0 0 Z := R_local (gd142 dX9_looksAt_293) rfl rfl rfl
theorem z142_294 : Run d 142 294 [a0, a1, a2, a3, a4] [.ref o] M 0 0 Z ↔ gObj M o 9 ∧ Run d 142 297 [a0, a1, a2, a3, a4] [va_rf (M.2.1 o 12)] M 0 0 Z := R_getR (gd142 dX9_looksAt_294) rfl gf_9_35 rfl
theorem z142_297 : Run d 142 297 [some (.ref o), a1, a2, a3, a4] [s0] M 0 0 Z ↔ Run d 142 298 [some (.ref o), a1, a2, a3, a4] [.ref o, s0] M 0 0 Z := R_local (gd142 dX9_looksAt_297) rfl rfl rfl
theorem z142_298 : Run d 142 298 [a0, a1, a2, a3, a4] [.ref o, s0] M 0 0 Z ↔ gObj M o 9 ∧ Run d 142 301 [a0, a1, a2, a3, a4] [.int (M.1 o 4), s0] M 0 0 Z := R_getI (gd142 dX9_looksAt_298) rfl gf_9_164 rfl
theorem z142_301 : Run d 142 301 [a0, a1, some (.int x), a3, a4] [s1, s0] M 0 0 Z ↔ Run d 142 302 [a0, a1, some (.int x), a3, a4] [.int x, s1, s0] M 0 0 Z := R_local (gd142 dX9_looksAt_301) rfl rfl rfl
theorem z142_302 : Run d 142 302 [a0, a1, a2, a3, a4] [.int y, .int x, .ref o] M 0 0 Z ↔ gAr M o 0 ∧ gIn x (gLen M o) = true ∧ Run d 142 303 [a0, a1, a2, a3, a4] [] (gsI M o x.toNatClampNeg y) 0 0 Z := R_iast (gd142 dX9_looksAt_302)
theorem z142_303 : Run d 142 303 [some (.ref o), a1, a2, a3, a4] [] M 0 0 Z ↔ Run d 142 304 [some (.ref o), a1, a2, a3, a4] [.ref o] M 0 0 Z := R_local (gd142 dX9_looksAt_303) rfl rfl rfl
theorem z142_304 : Run d 142 304 [a0, a1, a2, a3, a4] [.ref o] M 0 0 Z ↔ gObj M o 9 ∧ Run d 142 307 [a0, a1, a2, a3, a4] [.int (M.1 o 15)] M 0 0 Z := R_getI (gd142 dX9_looksAt_304) rfl gf_9_187 rfl
theorem z142_307 : Run d 142 307 [a0, a1, a2, a3, a4] [.int x] M 0 0 Z ↔ Z (some (.int x)) M := R_iret (gd142 dX9_looksAt_307) rfl
theorem e142 : Call (d + 1) 142 [s0] M Z ↔ Run d 142 0 [some s0, none, none, none, none] [] M 0 0 Z := Call_iff (Nat.lt_of_lt_of_le (Nat.lt_succ_self 142) (Nat.le_of_ble_eq_true rfl)) (Nat.le_of_ble_eq_true rfl)
/-! 143: X9_style (I)I -/
theorem gd143 {pc : Nat} {r : Except _ _} (h : decode cX9_style pc = r) : decode (gby 143) pc = r := h
theorem z143_0 : Run d 143 0 [some (.ref o), a1, a2] [] M 0 0 Z ↔ Run d 143 1 [some (.ref o), a1, a2] [.ref o] M 0 0 Z := R_local (gd143 dX9_style_0) rfl rfl rfl
theorem z143_1 : Run d 143 1 [a0, a1, a2] [.ref o] M 0 0 Z ↔ gObj M o 9 ∧ Run d 143 4 [a0, a1, a2] [.int (M.1 o 4)] M 0 0 Z := R_getI (gd143 dX9_style_1) rfl gf_9_164 rfl
theorem z143_4 : Run d 143 4 [a0, a1, a2] [s0] M 0 0 Z ↔ Run d 143 6 [a0, a1, a2] [.int 10, s0] M 0 0 Z := R_bipush (gd143 dX9_style_4) (by decide)
theorem z143_6 : Run d 143 6 [a0, a1, a2] [.int y, .int x] M 0 0 Z ↔ (x = y → Run d 143 27 [a0, a1, a2] [] M 0 0 Z) ∧ (¬ (x = y) → Run d 143 9 [a0, a1, a2] [] M 0 0 Z) := R_icmp (gd143 dX9_style_6) (show gTgt 6 21 = some 27 by decide) gIf_eq
theorem z143_9 : Run d 143 9 [a0, some (.int x), a2] [] M 0 0 Z ↔ Run d 143 10 [a0, some (.int x), a2] [.int x] M 0 0 Z := R_local (gd143 dX9_style_9) rfl rfl rfl
theorem z143_10 : Run d 143 10 [a0, a1, a2] [s0] M 0 0 Z ↔ Run d 143 11 [a0, a1, a2] [.int 1, s0] M 0 0 Z := R_iconst (gd143 dX9_style_10) (by decide)
theorem z143_11 : Run d 143 11 [a0, a1, a2] [s1, s0] M 0 0 Z ↔ Run d 143 13 [a0, a1, a2] [.int 120, s1, s0] M 0 0 Z := R_bipush (gd143 dX9_style_11) (by decide)
theorem z143_13 : Run d 143 13 [a0, a1, a2] [s2, s1, s0] M 0 0 Z ↔ Call d 120 [s0, s1, s2] M (fun r M1 => Run d 143 16 [a0, a1, a2] (r.toList ++ []) M1 0 0 Z) := R_call (gd143 dX9_style_13) rfl rfl rfl rfl rfl rfl gc_9_157 rfl (by decide) (Nat.le_of_ble_eq_true rfl) (Nat.le_of_ble_eq_true rfl) rfl rfl rfl (Nat.le_of_ble_eq_true rfl) (Nat.le_of_ble_eq_true rfl)
theorem z143_16 : Run d 143 16 [a0, a1, a2] [.int x] M 0 0 Z ↔ (x = 0 → Run d 143 27 [a0, a1, a2] [] M 0 0 Z) ∧ (¬ (x = 0) → Run d 143 19 [a0, a1, a2] [] M 0 0 Z) := R_if (gd143 dX9_style_16) (show gTgt 16 11 = some 27 by decide) gIf_eq
theorem z143_19 : Run d 143 19 [a0, some (.int x), a2] [] M 0 0 Z ↔ Run d 143 20 [a0, some (.int x), a2] [.int x] M 0 0 Z := R_local (gd143 dX9_style_19) rfl rfl rfl
theorem z143_20 : Run d 143 20 [some (.ref o), a1, a2] [s0] M 0 0 Z ↔ Run d 143 21 [some (.ref o), a1, a2] [.ref o, s0] M 0 0 Z := R_local (gd143 dX9_style_20) rfl rfl rfl
theorem z143_21 : Run d 143 21 [a0, a1, a2] [.ref o, s0] M 0 0 Z ↔ gObj M o 9 ∧ Run d 143 24 [a0, a1, a2] [.int (M.1 o 1), s0] M 0 0 Z := R_getI (gd143 dX9_style_21) rfl gf_9_171 rfl
theorem z143_24 : Run d 143 24 [a0, a1, a2] [.int y, .int x] M 0 0 Z ↔ (x ≤ y → Run d 143 29 [a0, a1, a2] [] M 0 0 Z) ∧ (¬ (x ≤ y) → Run d 143 27 [a0, a1, a2] [] M 0 0 Z) := R_icmp (gd143 dX9_style_24) (show gTgt 24 5 = some 29 by decide) gIf_le
theorem z143_27 : Run d 143 27 [a0, a1, a2] [] M 0 0 Z ↔ Run d 143 28 [a0, a1, a2] [.int (-1)] M 0 0 Z := R_iconst (gd143 dX9_style_27) (by decide)
theorem z143_28 : Run d 143 28 [a0, a1, a2] [.int x] M 0 0 Z ↔ Z (some (.int x)) M := R_iret (gd143 dX9_style_28) rfl
theorem z143_29 : Run d 143 29 [some (.ref o), a1, a2] [] M 0 0 Z ↔ Run d 143 30 [some (.ref o), a1, a2] [.ref o] M 0 0 Z := R_local (gd143 dX9_style_29) rfl rfl rfl
theorem z143_30 : Run d 143 30 [a0, a1, a2] [s0] M 0 0 Z ↔ Run d 143 31 [a0, a1, a2] [.int 0, s0] M 0 0 Z := R_iconst (gd143 dX9_style_30) (by decide)
theorem z143_31 : Run d 143 31 [a0, a1, a2] [.int x, .ref o] M 0 0 Z ↔ gObj M o 9 ∧ Run d 143 34 [a0, a1, a2] [] (gsI M o 1 x) 0 0 Z := R_putI (gd143 dX9_style_31) rfl gf_9_171 (Or.inl rfl) rfl
theorem z143_34 : Run d 143 34 [some (.ref o), a1, a2] [] M 0 0 Z ↔ Run d 143 35 [some (.ref o), a1, a2] [.ref o] M 0 0 Z := R_local (gd143 dX9_style_34) rfl rfl rfl
theorem z143_35 : Run d 143 35 [a0, a1, a2] [s0] M 0 0 Z ↔ Run d 143 37 [a0, a1, a2] [.int 120, s0] M 0 0 Z := R_bipush (gd143 dX9_style_35) (by decide)
theorem z143_37 : Run d 143 37 [some (.ref o), a1, a2] [s1, s0] M 0 0 Z ↔ Run d 143 38 [some (.ref o), a1, a2] [.ref o, s1, s0] M 0 0 Z := R_local (gd143 dX9_style_37) rfl rfl rfl
theorem z143_38 : Run d 143 38 [a0, a1, a2] [.ref o, s1, s0] M 0 0 Z ↔ gObj M o 9 ∧ Run d 143 41 [a0, a1, a2] [.int (M.1 o 4), s1, s0] M 0 0 Z := R_getI (gd143 dX9_style_38) rfl gf_9_164 rfl
theorem z143_41 : Run d 143 41 [a0, a1, a2] [.int y, .int x, s0] M 0 0 Z ↔ Run d 143 42 [a0, a1, a2] [.int (x * y), s0] M 0 0 Z := R_arith (gd143 dX9_style_41) rfl
theorem z143_42 : Run d 143 42 [a0, a1, a2] [.int x, .ref o] M 0 0 Z ↔ gObj M o 9 ∧ Run d 143 45 [a0, a1, a2] [] (gsI M o 16 x) 0 0 Z := R_putI (gd143 dX9_style_42) rfl gf_9_184 (Or.inl rfl) rfl
theorem z143_45 : Run d 143 45 [some (.ref o), a1, a2] [] M 0 0 Z ↔ Run d 143 46 [some (.ref o), a1, a2] [.ref o] M 0 0 Z := R_local (gd143 dX9_style_45) rfl rfl rfl
theorem z143_46 : Run d 143 46 [a0, some (.int x), a2] [s0] M 0 0 Z ↔ Run d 143 47 [a0, some (.int x), a2] [.int x, s0] M 0 0 Z := R_local (gd143 dX9_style_46) rfl rfl rfl
theorem z143_47 : Run d 143 47 [a0, a1, a2] [.int x, .ref o] M 0 0 Z ↔ gObj M o 9 ∧ Run d 143 50 [a0, a1, a2] [] (gsI M o 14 x) 0 0 Z := R_putI (gd143 dX9_style_47) rfl gf_9_181 (Or.inl rfl) rfl
theorem z143_50 : Run d 143 50 [a0, a1, a2] [] M 0 0 Z ↔ Run d 143 51 [a0, a1, a2] [.int 0] M 0 0 Z := R_iconst (gd143 dX9_style_50) (by decide)
theorem z143_51 : Run d 143 51 [a0, a1, a2] [.int x] M 0 0 Z ↔ Run d 143 52 [a0, a1, some (.int x)] [] M 0 0 Z := R_local (gd143 dX9_style_51) rfl rfl rfl
theorem z143_52 : Run d 143 52 [a0, a1, some (.int x)] [] M 0 0 Z ↔ Run d 143 53 [a0, a1, some (.int x)] [.int x] M 0 0 Z := R_local (gd143 dX9_style_52) rfl rfl rfl
theorem z143_53 : Run d 143 53 [a0, some (.int x), a2] [s0] M 0 0 Z ↔ Run d 143 54 [a0, some (.int x), a2] [.int x, s0] M 0 0 Z := R_local (gd143 dX9_style_53) rfl rfl rfl
theorem z143_54 : Run d 143 54 [a0, a1, a2] [.int y, .int x] M 0 0 Z ↔ (y ≤ x → Run d 143 80 [a0, a1, a2] [] M 0 0 Z) ∧ (¬ (y ≤ x) → Run d 143 57 [a0, a1, a2] [] M 0 0 Z) := R_icmp (gd143 dX9_style_54) (show gTgt 54 26 = some 80 by decide) gIf_ge
theorem z143_57 : Run d 143 57 [some (.ref o), a1, a2] [] M 0 0 Z ↔ Run d 143 58 [some (.ref o), a1, a2] [.ref o] M 0 0 Z := R_local (gd143 dX9_style_57) rfl rfl rfl
theorem z143_58 : Run d 143 58 [a0, a1, a2] [.ref o] M 0 0 Z ↔ gObj M o 9 ∧ Run d 143 61 [a0, a1, a2] [va_rf (M.2.1 o 10)] M 0 0 Z := R_getR (gd143 dX9_style_58) rfl gf_9_29 rfl
theorem z143_61 : Run d 143 61 [some (.ref o), a1, a2] [s0] M 0 0 Z ↔ Run d 143 62 [some (.ref o), a1, a2] [.ref o, s0] M 0 0 Z := R_local (gd143 dX9_style_61) rfl rfl rfl
theorem z143_62 : Run d 143 62 [a0, a1, a2] [.ref o, s0] M 0 0 Z ↔ gObj M o 9 ∧ Run d 143 65 [a0, a1, a2] [.int (M.1 o 16), s0] M 0 0 Z := R_getI (gd143 dX9_style_62) rfl gf_9_184 rfl
theorem z143_65 : Run d 143 65 [a0, a1, some (.int x)] [s1, s0] M 0 0 Z ↔ Run d 143 66 [a0, a1, some (.int x)] [.int x, s1, s0] M 0 0 Z := R_local (gd143 dX9_style_65) rfl rfl rfl
theorem z143_66 : Run d 143 66 [a0, a1, a2] [.int y, .int x, s0] M 0 0 Z ↔ Run d 143 67 [a0, a1, a2] [.int (x + y), s0] M 0 0 Z := R_arith (gd143 dX9_style_66) rfl
theorem z143_67 : Run d 143 67 [some (.ref o), a1, a2] [s1, s0] M 0 0 Z ↔ Run d 143 68 [some (.ref o), a1, a2] [.ref o, s1, s0] M 0 0 Z := R_local (gd143 dX9_style_67) rfl rfl rfl
theorem z143_68 : Run d 143 68 [a0, a1, a2] [.ref o, s1, s0] M 0 0 Z ↔ gObj M o 9 ∧ Run d 143 71 [a0, a1, a2] [va_rf (M.2.1 o 0), s1, s0] M 0 0 Z := R_getR (gd143 dX9_style_68) rfl gf_9_7 rfl
theorem z143_71 : Run d 143 71 [a0, a1, some (.int x)] [s2, s1, s0] M 0 0 Z ↔ Run d 143 72 [a0, a1, some (.int x)] [.int x, s2, s1, s0] M 0 0 Z := R_local (gd143 dX9_style_71) rfl rfl rfl
theorem z143_72 (hg : gAr M o 1) : Run d 143 72 [a0, a1, a2] [.int x, .ref o, s1, s0] M 0 0 Z ↔ gIn x (gLen M o) = true ∧ Run d 143 73 [a0, a1, a2] [.int (M.1 o x.toNatClampNeg), s1, s0] M 0 0 Z := R_bald (gd143 dX9_style_72) (by decide) hg
theorem z143_73 (hg : gAr M o 1) : Run d 143 73 [a0, a1, a2] [.int y, .int x, .ref o] M 0 0 Z ↔ gIn x (gLen M o) = true ∧ Run d 143 74 [a0, a1, a2] [] (gsI M o x.toNatClampNeg y.toInt8.toInt32) 0 0 Z := R_bast (gd143 dX9_style_73) hg
theorem z143_74 : Run d 143 74 [a0, a1, some (.int x)] [] M 0 0 Z ↔ Run d 143 77 [a0, a1, some (.int (x + 1))] [] M 0 0 Z := R_iinc (gd143 dX9_style_74) (by decide) rfl rfl
theorem z143_77 : Run d 143 77 [a0, a1, a2] [] M 0 0 Z ↔ Run d 143 52 [a0, a1, a2] [] M 0 0 Z := R_goto (gd143 dX9_style_77) (show gTgt 77 (-25) = some 52 by decide)
theorem z143_80 : Run d 143 80 [some (.ref o), a1, a2] [] M 0 0 Z ↔ Run d 143 81 [some (.ref o), a1, a2] [.ref o] M 0 0 Z := R_local (gd143 dX9_style_80) rfl rfl rfl
theorem z143_81 : Run d 143 81 [a0, a1, a2] [.ref b] M 0 0 Z ↔ gObj M b 9 ∧ Call d 142 [.ref b] M (fun r M1 => Run d 143 84 [a0, a1, a2] (r.toList ++ []) M1 0 0 Z) := R_callV (gd143 dX9_style_81) rfl rfl rfl rfl rfl rfl gc_9_227 rfl rfl (Nat.le_of_ble_eq_true rfl) (Nat.le_of_ble_eq_true rfl) rfl rfl (Nat.le_of_ble_eq_true rfl) (Nat.le_of_ble_eq_true rfl)
theorem z143_84 : Run d 143 84 [a0, a1, a2] [.int x] M 0 0 Z ↔ Run d 143 85 [a0, a1, some (.int x)] [] M 0 0 Z := R_local (gd143 dX9_style_84) rfl rfl rfl
theorem z143_85 : Run d 143 85 [a0, a1, some (.int x)] [] M 0 0 Z ↔ Run d 143 86 [a0, a1, some (.int x)] [.int x] M 0 0 Z := R_local (gd143 dX9_style_85) rfl rfl rfl
theorem z143_86 : Run d 143 86 [a0, a1, a2] [.int x] M 0 0 Z ↔ (0 ≤ x → Run d 143 91 [a0, a1, a2] [] M 0 0 Z) ∧ (¬ (0 ≤ x) → Run d 143 89 [a0, a1, a2] [] M 0 0 Z) := R_if (gd143 dX9_style_86) (show gTgt 86 5 = some 91 by decide) gIf_ge
theorem z143_89 : Run d 143 89 [a0, a1, some (.int x)] [] M 0 0 Z ↔ Run d 143 90 [a0, a1, some (.int x)] [.int x] M 0 0 Z := R_local (gd143 dX9_style_89) rfl rfl rfl
theorem z143_90 : Run d 143 90 [a0, a1, a2] [.int x] M 0 0 Z ↔ Z (some (.int x)) M := R_iret (gd143 dX9_style_90) rfl
theorem z143_91 : Run d 143 91 [some (.ref o), a1, a2] [] M 0 0 Z ↔ Run d 143 92 [some (.ref o), a1, a2] [.ref o] M 0 0 Z := R_local (gd143 dX9_style_91) rfl rfl rfl
theorem z143_92 : Run d 143 92 [a0, a1, a2] [.ref o] M 0 0 Z ↔ gObj M o 9 ∧ Run d 143 95 [a0, a1, a2] [va_rf (M.2.1 o 11)] M 0 0 Z := R_getR (gd143 dX9_style_92) rfl gf_9_32 rfl
theorem z143_95 : Run d 143 95 [some (.ref o), a1, a2] [s0] M 0 0 Z ↔ Run d 143 96 [some (.ref o), a1, a2] [.ref o, s0] M 0 0 Z := R_local (gd143 dX9_style_95) rfl rfl rfl
theorem z143_96 : Run d 143 96 [a0, a1, a2] [.ref o, s0] M 0 0 Z ↔ gObj M o 9 ∧ Run d 143 99 [a0, a1, a2] [.int (M.1 o 4), s0] M 0 0 Z := R_getI (gd143 dX9_style_96) rfl gf_9_164 rfl
theorem z143_99 : Run d 143 99 [a0, some (.int x), a2] [s1, s0] M 0 0 Z ↔ Run d 143 100 [a0, some (.int x), a2] [.int x, s1, s0] M 0 0 Z := R_local (gd143 dX9_style_99) rfl rfl rfl
theorem z143_100 : Run d 143 100 [a0, a1, a2] [.int y, .int x, .ref o] M 0 0 Z ↔ gAr M o 0 ∧ gIn x (gLen M o) = true ∧ Run d 143 101 [a0, a1, a2] [] (gsI M o x.toNatClampNeg y) 0 0 Z := R_iast (gd143 dX9_style_100)
theorem z143_101 : Run d 143 101 [some (.ref o), a1, a2] [] M 0 0 Z ↔ Run d 143 102 [some (.ref o), a1, a2] [.ref o] M 0 0 Z := R_local (gd143 dX9_style_101) rfl rfl rfl
theorem z143_102 : Run d 143 102 [a0, a1, a2] [.ref o] M 0 0 Z ↔ Run d 143 103 [a0, a1, a2] [.ref o, .ref o] M 0 0 Z := R_arith (gd143 dX9_style_102) rfl
theorem z143_103 : Run d 143 103 [a0, a1, a2] [.ref o, s0] M 0 0 Z ↔ gObj M o 9 ∧ Run d 143 106 [a0, a1, a2] [.int (M.1 o 4), s0] M 0 0 Z := R_getI (gd143 dX9_style_103) rfl gf_9_164 rfl
theorem z143_106 : Run d 143 106 [a0, a1, a2] [s1, s0] M 0 0 Z ↔ Run d 143 107 [a0, a1, a2] [.int 1, s1, s0] M 0 0 Z := R_iconst (gd143 dX9_style_106) (by decide)
theorem z143_107 : Run d 143 107 [a0, a1, a2] [.int y, .int x, s0] M 0 0 Z ↔ Run d 143 108 [a0, a1, a2] [.int (x + y), s0] M 0 0 Z := R_arith (gd143 dX9_style_107) rfl
theorem z143_108 : Run d 143 108 [a0, a1, a2] [.int x, .ref o] M 0 0 Z ↔ gObj M o 9 ∧ Run d 143 111 [a0, a1, a2] [] (gsI M o 4 x) 0 0 Z := R_putI (gd143 dX9_style_108) rfl gf_9_164 (Or.inl rfl) rfl
theorem z143_111 : Run d 143 111 [some (.ref o), a1, a2] [] M 0 0 Z ↔ Run d 143 112 [some (.ref o), a1, a2] [.ref o] M 0 0 Z := R_local (gd143 dX9_style_111) rfl rfl rfl
theorem z143_112 : Run d 143 112 [a0, a1, a2] [.ref o] M 0 0 Z ↔ gObj M o 9 ∧ Run d 143 115 [a0, a1, a2] [.int (M.1 o 4)] M 0 0 Z := R_getI (gd143 dX9_style_112) rfl gf_9_164 rfl
theorem z143_115 : Run d 143 115 [a0, a1, a2] [s0] M 0 0 Z ↔ Run d 143 116 [a0, a1, a2] [.int 1, s0] M 0 0 Z := R_iconst (gd143 dX9_style_115) (by decide)
theorem z143_116 : Run d 143 116 [a0, a1, a2] [.int y, .int x] M 0 0 Z ↔ Run d 143 117 [a0, a1, a2] [.int (x - y)] M 0 0 Z := R_arith (gd143 dX9_style_116) rfl
theorem z143_117 : Run d 143 117 [a0, a1, a2] [.int x] M 0 0 Z ↔ Z (some (.int x)) M := R_iret (gd143 dX9_style_117) rfl
theorem e143 : Call (d + 1) 143 [s0, s1] M Z ↔ Run d 143 0 [some s0, some s1, none] [] M 0 0 Z := Call_iff (Nat.lt_of_lt_of_le (Nat.lt_succ_self 143) (Nat.le_of_ble_eq_true rfl)) (Nat.le_of_ble_eq_true rfl)
/-! 144: X9_widthAt (III)I -/
theorem gd144 {pc : Nat} {r : Except _ _} (h : decode cX9_widthAt pc = r) : decode (gby 144) pc = r := h
theorem z144_0 : Run d 144 0 [a0, a1, a2, a3, a4, a5] [] M 0 0 Z ↔ Run d 144 1 [a0, a1, a2, a3, a4, a5] [.int 0] M 0 0 Z := R_iconst (gd144 dX9_widthAt_0) (by decide)
theorem z144_1 : Run d 144 1 [a0, a1, a2, a3, a4, a5] [.int x] M 0 0 Z ↔ Run d 144 3 [a0, a1, a2, a3, some (.int x), a5] [] M 0 0 Z := R_local (gd144 dX9_widthAt_1) rfl rfl rfl
theorem z144_3 : Run d 144 3 [a0, some (.int x), a2, a3, a4, a5] [] M 0 0 Z ↔ Run d 144 4 [a0, some (.int x), a2, a3, a4, a5] [.int x] M 0 0 Z := R_local (gd144 dX9_widthAt_3) rfl rfl rfl
theorem z144_4 : Run d 144 4 [a0, a1, a2, a3, a4, a5] [.int x] M 0 0 Z ↔ Run d 144 6 [a0, a1, a2, a3, a4, some (.int x)] [] M 0 0 Z := R_local (gd144 dX9_widthAt_4) rfl rfl rfl
theorem z144_6 : Run d 144 6 [a0, a1, a2, a3, a4, some (.int x)] [] M 0 0 Z ↔ Run d 144 8 [a0, a1, a2, a3, a4, some (.int x)] [.int x] M 0 0 Z := R_local (gd144 dX9_widthAt_6) rfl rfl rfl
theorem z144_8 : Run d 144 8 [a0, some (.int x), a2, a3, a4, a5] [s0] M 0 0 Z ↔ Run d 144 9 [a0, some (.int x), a2, a3, a4, a5] [.int x, s0] M 0 0 Z := R_local (gd144 dX9_widthAt_8) rfl rfl rfl
theorem z144_9 : Run d 144 9 [a0, a1, some (.int x), a3, a4, a5] [s1, s0] M 0 0 Z ↔ Run d 144 10 [a0, a1, some (.int x), a3, a4, a5] [.int x, s1, s0] M 0 0 Z := R_local (gd144 dX9_widthAt_9) rfl rfl rfl
theorem z144_10 : Run d 144 10 [a0, a1, a2, a3, a4, a5] [.int y, .int x, s0] M 0 0 Z ↔ Run d 144 11 [a0, a1, a2, a3, a4, a5] [.int (x + y), s0] M 0 0 Z := R_arith (gd144 dX9_widthAt_10) rfl
theorem z144_11 : Run d 144 11 [a0, a1, a2, a3, a4, a5] [.int y, .int x] M 0 0 Z ↔ (y ≤ x → Run d 144 56 [a0, a1, a2, a3, a4, a5] [] M 0 0 Z) ∧ (¬ (y ≤ x) → Run d 144 14 [a0, a1, a2, a3, a4, a5] [] M 0 0 Z) := R_icmp (gd144 dX9_widthAt_11) (show gTgt 11 45 = some 56 by decide) gIf_ge
theorem z144_14 : Run d 144 14 [some (.ref o), a1, a2, a3, a4, a5] [] M 0 0 Z ↔ Run d 144 15 [some (.ref o), a1, a2, a3, a4, a5] [.ref o] M 0 0 Z := R_local (gd144 dX9_widthAt_14) rfl rfl rfl
theorem z144_15 : Run d 144 15 [a0, a1, a2, a3, a4, a5] [.ref o] M 0 0 Z ↔ gObj M o 9 ∧ Run d 144 18 [a0, a1, a2, a3, a4, a5] [va_rf (M.2.1 o 5)] M 0 0 Z := R_getR (gd144 dX9_widthAt_15) rfl gf_9_13 rfl
theorem z144_18 : Run d 144 18 [a0, a1, a2, a3, a4, a5] [s0] M 0 0 Z ↔ Run d 144 20 [a0, a1, a2, a3, a4, a5] [.int 8, s0] M 0 0 Z := R_bipush (gd144 dX9_widthAt_18) (by decide)
theorem z144_20 : Run d 144 20 [a0, a1, a2, some (.int x), a4, a5] [s1, s0] M 0 0 Z ↔ Run d 144 21 [a0, a1, a2, some (.int x), a4, a5] [.int x, s1, s0] M 0 0 Z := R_local (gd144 dX9_widthAt_20) rfl rfl rfl
theorem z144_21 : Run d 144 21 [a0, a1, a2, a3, a4, a5] [.int y, .int x, s0] M 0 0 Z ↔ Run d 144 22 [a0, a1, a2, a3, a4, a5] [.int (x * y), s0] M 0 0 Z := R_arith (gd144 dX9_widthAt_21) rfl
theorem z144_22 : Run d 144 22 [a0, a1, a2, a3, a4, some (.int x)] [s1, s0] M 0 0 Z ↔ Run d 144 24 [a0, a1, a2, a3, a4, some (.int x)] [.int x, s1, s0] M 0 0 Z := R_local (gd144 dX9_widthAt_22) rfl rfl rfl
theorem z144_24 : Run d 144 24 [a0, a1, a2, a3, a4, a5] [.int y, .int x, s0] M 0 0 Z ↔ Run d 144 25 [a0, a1, a2, a3, a4, a5] [.int (x + y), s0] M 0 0 Z := R_arith (gd144 dX9_widthAt_24) rfl
theorem z144_25 : Run d 144 25 [a0, a1, a2, a3, a4, a5] [.int x, .ref o] M 0 0 Z ↔ gAr M o 0 ∧ gIn x (gLen M o) = true ∧ Run d 144 26 [a0, a1, a2, a3, a4, a5] [.int (M.1 o x.toNatClampNeg)] M 0 0 Z := R_iald (gd144 dX9_widthAt_25)
theorem z144_26 : Run d 144 26 [a0, a1, a2, a3, some (.int x), a5] [s0] M 0 0 Z ↔ Run d 144 28 [a0, a1, a2, a3, some (.int x), a5] [.int x, s0] M 0 0 Z := R_local (gd144 dX9_widthAt_26) rfl rfl rfl
theorem z144_28 : Run d 144 28 [a0, a1, a2, a3, a4, a5] [.int y, .int x] M 0 0 Z ↔ (x ≤ y → Run d 144 46 [a0, a1, a2, a3, a4, a5] [] M 0 0 Z) ∧ (¬ (x ≤ y) → Run d 144 31 [a0, a1, a2, a3, a4, a5] [] M 0 0 Z) := R_icmp (gd144 dX9_widthAt_28) (show gTgt 28 18 = some 46 by decide) gIf_le
theorem z144_31 : Run d 144 31 [some (.ref o), a1, a2, a3, a4, a5] [] M 0 0 Z ↔ Run d 144 32 [some (.ref o), a1, a2, a3, a4, a5] [.ref o] M 0 0 Z := R_local (gd144 dX9_widthAt_31) rfl rfl rfl
theorem z144_32 : Run d 144 32 [a0, a1, a2, a3, a4, a5] [.ref o] M 0 0 Z ↔ gObj M o 9 ∧ Run d 144 35 [a0, a1, a2, a3, a4, a5] [va_rf (M.2.1 o 5)] M 0 0 Z := R_getR (gd144 dX9_widthAt_32) rfl gf_9_13 rfl
theorem z144_35 : Run d 144 35 [a0, a1, a2, a3, a4, a5] [s0] M 0 0 Z ↔ Run d 144 37 [a0, a1, a2, a3, a4, a5] [.int 8, s0] M 0 0 Z := R_bipush (gd144 dX9_widthAt_35) (by decide)
theorem z144_37 : Run d 144 37 [a0, a1, a2, some (.int x), a4, a5] [s1, s0] M 0 0 Z ↔ Run d 144 38 [a0, a1, a2, some (.int x), a4, a5] [.int x, s1, s0] M 0 0 Z := R_local (gd144 dX9_widthAt_37) rfl rfl rfl
theorem z144_38 : Run d 144 38 [a0, a1, a2, a3, a4, a5] [.int y, .int x, s0] M 0 0 Z ↔ Run d 144 39 [a0, a1, a2, a3, a4, a5] [.int (x * y), s0] M 0 0 Z := R_arith (gd144 dX9_widthAt_38) rfl
theorem z144_39 : Run d 144 39 [a0, a1, a2, a3, a4, some (.int x)] [s1, s0] M 0 0 Z ↔ Run d 144 41 [a0, a1, a2, a3, a4, some (.int x)] [.int x, s1, s0] M 0 0 Z := R_local (gd144 dX9_widthAt_39) rfl rfl rfl
theorem z144_41 : Run d 144 41 [a0, a1, a2, a3, a4, a5] [.int y, .int x, s0] M 0 0 Z ↔ Run d 144 42 [a0, a1, a2, a3, a4, a5] [.int (x + y), s0] M 0 0 Z := R_arith (gd144 dX9_widthAt_41) rfl
theorem z144_42 : Run d 144 42 [a0, a1, a2, a3, a4, a5] [.int x, .ref o] M 0 0 Z ↔ gAr M o 0 ∧ gIn x (gLen M o) = true ∧ Run d 144 43 [a0, a1, a2, a3, a4, a5] [.int (M.1 o x.toNatClampNeg)] M 0 0 Z := R_iald (gd144 dX9_widthAt_42)
theorem z144_43 : Run d 144 43 [a0, a1, a2, a3, a4, a5] [s0] M 0 0 Z ↔ Run d 144 48 [a0, a1, a2, a3, a4, a5] [s0] M 0 0 Z := R_goto (gd144 dX9_widthAt_43) (show gTgt 43 5 = some 48 by decide)
theorem z144_46 : Run d 144 46 [a0, a1, a2, a3, some (.int x), a5] [] M 0 0 Z ↔ Run d 144 48 [a0, a1, a2, a3, some (.int x), a5] [.int x] M 0 0 Z := R_local (gd144 dX9_widthAt_46) rfl rfl rfl
theorem z144_48 : Run d 144 48 [a0, a1, a2, a3, a4, a5] [.int x] M 0 0 Z ↔ Run d 144 50 [a0, a1, a2, a3, some (.int x), a5] [] M 0 0 Z := R_local (gd144 dX9_widthAt_48) rfl rfl rfl
theorem z144_50 : Run d 144 50 [a0, a1, a2, a3, a4, some (.int x)] [] M 0 0 Z ↔ Run d 144 53 [a0, a1, a2, a3, a4, some (.int (x + 1))] [] M 0 0 Z := R_iinc (gd144 dX9_widthAt_50) (by decide) rfl rfl
theorem z144_53 : Run d 144 53 [a0, a1, a2, a3, a4, a5] [] M 0 0 Z ↔ Run d 144 6 [a0, a1, a2, a3, a4, a5] [] M 0 0 Z := R_goto (gd144 dX9_widthAt_53) (show gTgt 53 (-47) = some 6 by decide)
theorem z144_56 : Run d 144 56 [a0, a1, a2, a3, some (.int x), a5] [] M 0 0 Z ↔ Run d 144 58 [a0, a1, a2, a3, some (.int x), a5] [.int x] M 0 0 Z := R_local (gd144 dX9_widthAt_56) rfl rfl rfl
theorem z144_58 : Run d 144 58 [a0, a1, a2, a3, a4, a5] [.int x] M 0 0 Z ↔ Z (some (.int x)) M := R_iret (gd144 dX9_widthAt_58) rfl
theorem e144 : Call (d + 1) 144 [s0, s1, s2, s3] M Z ↔ Run d 144 0 [some s0, some s1, some s2, some s3, none, none] [] M 0 0 Z := Call_iff (Nat.lt_of_lt_of_le (Nat.lt_succ_self 144) (Nat.le_of_ble_eq_true rfl)) (Nat.le_of_ble_eq_true rfl)
end
