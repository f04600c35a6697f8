/-! Rules of the methods, an instruction each, by program (wip/whole/rows.py). -/
theorem dX2_beginRow_0 : decode cX2_beginRow 0 = .ok (.aload_n 0, 1) := by decide +kernel
theorem dX2_beginRow_1 : decode cX2_beginRow 1 = .ok (.invokevirtual 89, 3) := by decide +kernel
theorem dX2_beginRow_4 : decode cX2_beginRow 4 = .ok (.istore_n 1, 1) := by decide +kernel
theorem dX2_beginRow_5 : decode cX2_beginRow 5 = .ok (.iload_n 1, 1) := by decide +kernel
theorem dX2_beginRow_6 : decode cX2_beginRow 6 = .ok (.invokestatic 132, 3) := by decide +kernel
theorem dX2_beginRow_9 : decode cX2_beginRow 9 = .ok (.ifCond .ne 5, 3) := by decide +kernel
theorem dX2_beginRow_12 : decode cX2_beginRow 12 = .ok (.iconst 4, 1) := by decide +kernel
theorem dX2_beginRow_13 : decode cX2_beginRow 13 = .ok (.ireturn, 1) := by decide +kernel
theorem dX2_beginRow_14 : decode cX2_beginRow 14 = .ok (.aload_n 0, 1) := by decide +kernel
theorem dX2_beginRow_15 : decode cX2_beginRow 15 = .ok (.getfield 36, 3) := by decide +kernel
theorem dX2_beginRow_18 : decode cX2_beginRow 18 = .ok (.aload_n 0, 1) := by decide +kernel
theorem dX2_beginRow_19 : decode cX2_beginRow 19 = .ok (.getfield 33, 3) := by decide +kernel
theorem dX2_beginRow_22 : decode cX2_beginRow 22 = .ok (.arraylength, 1) := by decide +kernel
theorem dX2_beginRow_23 : decode cX2_beginRow 23 = .ok (.invokestatic 55, 3) := by decide +kernel
theorem dX2_beginRow_26 : decode cX2_beginRow 26 = .ok (.ifCond .ne 5, 3) := by decide +kernel
theorem dX2_beginRow_29 : decode cX2_beginRow 29 = .ok (.iconst 0, 1) := by decide +kernel
theorem dX2_beginRow_30 : decode cX2_beginRow 30 = .ok (.ireturn, 1) := by decide +kernel
theorem dX2_beginRow_31 : decode cX2_beginRow 31 = .ok (.iload_n 1, 1) := by decide +kernel
theorem dX2_beginRow_32 : decode cX2_beginRow 32 = .ok (.ifCond .ne 18, 3) := by decide +kernel
theorem dX2_beginRow_35 : decode cX2_beginRow 35 = .ok (.aload_n 0, 1) := by decide +kernel
theorem dX2_beginRow_36 : decode cX2_beginRow 36 = .ok (.aload_n 0, 1) := by decide +kernel
theorem dX2_beginRow_37 : decode cX2_beginRow 37 = .ok (.getfield 33, 3) := by decide +kernel
theorem dX2_beginRow_40 : decode cX2_beginRow 40 = .ok (.aload_n 0, 1) := by decide +kernel
theorem dX2_beginRow_41 : decode cX2_beginRow 41 = .ok (.getfield 36, 3) := by decide +kernel
theorem dX2_beginRow_44 : decode cX2_beginRow 44 = .ok (.iaload, 1) := by decide +kernel
theorem dX2_beginRow_45 : decode cX2_beginRow 45 = .ok (.putfield 36, 3) := by decide +kernel
theorem dX2_beginRow_48 : decode cX2_beginRow 48 = .ok (.iconst 0, 1) := by decide +kernel
theorem dX2_beginRow_49 : decode cX2_beginRow 49 = .ok (.ireturn, 1) := by decide +kernel
theorem dX2_beginRow_50 : decode cX2_beginRow 50 = .ok (.aload_n 0, 1) := by decide +kernel
theorem dX2_beginRow_51 : decode cX2_beginRow 51 = .ok (.dup, 1) := by decide +kernel
theorem dX2_beginRow_52 : decode cX2_beginRow 52 = .ok (.getfield 36, 3) := by decide +kernel
theorem dX2_beginRow_55 : decode cX2_beginRow 55 = .ok (.iconst 1, 1) := by decide +kernel
theorem dX2_beginRow_56 : decode cX2_beginRow 56 = .ok (.iadd, 1) := by decide +kernel
theorem dX2_beginRow_57 : decode cX2_beginRow 57 = .ok (.putfield 36, 3) := by decide +kernel
theorem dX2_beginRow_60 : decode cX2_beginRow 60 = .ok (.aload_n 0, 1) := by decide +kernel
theorem dX2_beginRow_61 : decode cX2_beginRow 61 = .ok (.getfield 27, 3) := by decide +kernel
theorem dX2_beginRow_64 : decode cX2_beginRow 64 = .ok (.aload_n 0, 1) := by decide +kernel
theorem dX2_beginRow_65 : decode cX2_beginRow 65 = .ok (.getfield 21, 3) := by decide +kernel
theorem dX2_beginRow_68 : decode cX2_beginRow 68 = .ok (.arraylength, 1) := by decide +kernel
theorem dX2_beginRow_69 : decode cX2_beginRow 69 = .ok (.invokestatic 55, 3) := by decide +kernel
theorem dX2_beginRow_72 : decode cX2_beginRow 72 = .ok (.ifCond .eq 50, 3) := by decide +kernel
theorem dX2_beginRow_75 : decode cX2_beginRow 75 = .ok (.aload_n 0, 1) := by decide +kernel
theorem dX2_beginRow_76 : decode cX2_beginRow 76 = .ok (.getfield 27, 3) := by decide +kernel
theorem dX2_beginRow_79 : decode cX2_beginRow 79 = .ok (.aload_n 0, 1) := by decide +kernel
theorem dX2_beginRow_80 : decode cX2_beginRow 80 = .ok (.getfield 24, 3) := by decide +kernel
theorem dX2_beginRow_83 : decode cX2_beginRow 83 = .ok (.arraylength, 1) := by decide +kernel
theorem dX2_beginRow_84 : decode cX2_beginRow 84 = .ok (.if_icmp .ge 38, 3) := by decide +kernel
theorem dX2_beginRow_87 : decode cX2_beginRow 87 = .ok (.aload_n 0, 1) := by decide +kernel
theorem dX2_beginRow_88 : decode cX2_beginRow 88 = .ok (.getfield 21, 3) := by decide +kernel
theorem dX2_beginRow_91 : decode cX2_beginRow 91 = .ok (.aload_n 0, 1) := by decide +kernel
theorem dX2_beginRow_92 : decode cX2_beginRow 92 = .ok (.getfield 27, 3) := by decide +kernel
theorem dX2_beginRow_95 : decode cX2_beginRow 95 = .ok (.iload_n 1, 1) := by decide +kernel
theorem dX2_beginRow_96 : decode cX2_beginRow 96 = .ok (.iconst 1, 1) := by decide +kernel
theorem dX2_beginRow_97 : decode cX2_beginRow 97 = .ok (.isub, 1) := by decide +kernel
theorem dX2_beginRow_98 : decode cX2_beginRow 98 = .ok (.iastore, 1) := by decide +kernel
theorem dX2_beginRow_99 : decode cX2_beginRow 99 = .ok (.aload_n 0, 1) := by decide +kernel
theorem dX2_beginRow_100 : decode cX2_beginRow 100 = .ok (.getfield 24, 3) := by decide +kernel
theorem dX2_beginRow_103 : decode cX2_beginRow 103 = .ok (.aload_n 0, 1) := by decide +kernel
theorem dX2_beginRow_104 : decode cX2_beginRow 104 = .ok (.getfield 27, 3) := by decide +kernel
theorem dX2_beginRow_107 : decode cX2_beginRow 107 = .ok (.aload_n 0, 1) := by decide +kernel
theorem dX2_beginRow_108 : decode cX2_beginRow 108 = .ok (.getfield 36, 3) := by decide +kernel
theorem dX2_beginRow_111 : decode cX2_beginRow 111 = .ok (.iastore, 1) := by decide +kernel
theorem dX2_beginRow_112 : decode cX2_beginRow 112 = .ok (.aload_n 0, 1) := by decide +kernel
theorem dX2_beginRow_113 : decode cX2_beginRow 113 = .ok (.dup, 1) := by decide +kernel
theorem dX2_beginRow_114 : decode cX2_beginRow 114 = .ok (.getfield 27, 3) := by decide +kernel
theorem dX2_beginRow_117 : decode cX2_beginRow 117 = .ok (.iconst 1, 1) := by decide +kernel
theorem dX2_beginRow_118 : decode cX2_beginRow 118 = .ok (.iadd, 1) := by decide +kernel
theorem dX2_beginRow_119 : decode cX2_beginRow 119 = .ok (.putfield 27, 3) := by decide +kernel
theorem dX2_beginRow_122 : decode cX2_beginRow 122 = .ok (.iconst 0, 1) := by decide +kernel
theorem dX2_beginRow_123 : decode cX2_beginRow 123 = .ok (.ireturn, 1) := by decide +kernel
theorem dX2_endOfRow_0 : decode cX2_endOfRow 0 = .ok (.aload_n 0, 1) := by decide +kernel
theorem dX2_endOfRow_1 : decode cX2_endOfRow 1 = .ok (.getfield 27, 3) := by decide +kernel
theorem dX2_endOfRow_4 : decode cX2_endOfRow 4 = .ok (.iconst 1, 1) := by decide +kernel
theorem dX2_endOfRow_5 : decode cX2_endOfRow 5 = .ok (.isub, 1) := by decide +kernel
theorem dX2_endOfRow_6 : decode cX2_endOfRow 6 = .ok (.istore_n 1, 1) := by decide +kernel
theorem dX2_endOfRow_7 : decode cX2_endOfRow 7 = .ok (.iload_n 1, 1) := by decide +kernel
theorem dX2_endOfRow_8 : decode cX2_endOfRow 8 = .ok (.aload_n 0, 1) := by decide +kernel
theorem dX2_endOfRow_9 : decode cX2_endOfRow 9 = .ok (.getfield 21, 3) := by decide +kernel
theorem dX2_endOfRow_12 : decode cX2_endOfRow 12 = .ok (.arraylength, 1) := by decide +kernel
theorem dX2_endOfRow_13 : decode cX2_endOfRow 13 = .ok (.invokestatic 55, 3) := by decide +kernel
theorem dX2_endOfRow_16 : decode cX2_endOfRow 16 = .ok (.ifCond .eq 12, 3) := by decide +kernel
theorem dX2_endOfRow_19 : decode cX2_endOfRow 19 = .ok (.iload_n 1, 1) := by decide +kernel
theorem dX2_endOfRow_20 : decode cX2_endOfRow 20 = .ok (.aload_n 0, 1) := by decide +kernel
theorem dX2_endOfRow_21 : decode cX2_endOfRow 21 = .ok (.getfield 24, 3) := by decide +kernel
theorem dX2_endOfRow_24 : decode cX2_endOfRow 24 = .ok (.arraylength, 1) := by decide +kernel
theorem dX2_endOfRow_25 : decode cX2_endOfRow 25 = .ok (.if_icmp .lt 5, 3) := by decide +kernel
theorem dX2_endOfRow_28 : decode cX2_endOfRow 28 = .ok (.iconst 0, 1) := by decide +kernel
theorem dX2_endOfRow_29 : decode cX2_endOfRow 29 = .ok (.ireturn, 1) := by decide +kernel
theorem dX2_endOfRow_30 : decode cX2_endOfRow 30 = .ok (.aload_n 0, 1) := by decide +kernel
theorem dX2_endOfRow_31 : decode cX2_endOfRow 31 = .ok (.getfield 21, 3) := by decide +kernel
theorem dX2_endOfRow_34 : decode cX2_endOfRow 34 = .ok (.iload_n 1, 1) := by decide +kernel
theorem dX2_endOfRow_35 : decode cX2_endOfRow 35 = .ok (.iaload, 1) := by decide +kernel
theorem dX2_endOfRow_36 : decode cX2_endOfRow 36 = .ok (.ifCond .ne 16, 3) := by decide +kernel
theorem dX2_endOfRow_39 : decode cX2_endOfRow 39 = .ok (.aload_n 0, 1) := by decide +kernel
theorem dX2_endOfRow_40 : decode cX2_endOfRow 40 = .ok (.dup, 1) := by decide +kernel
theorem dX2_endOfRow_41 : decode cX2_endOfRow 41 = .ok (.getfield 27, 3) := by decide +kernel
theorem dX2_endOfRow_44 : decode cX2_endOfRow 44 = .ok (.iconst 1, 1) := by decide +kernel
theorem dX2_endOfRow_45 : decode cX2_endOfRow 45 = .ok (.isub, 1) := by decide +kernel
theorem dX2_endOfRow_46 : decode cX2_endOfRow 46 = .ok (.putfield 27, 3) := by decide +kernel
theorem dX2_endOfRow_49 : decode cX2_endOfRow 49 = .ok (.goto 23, 3) := by decide +kernel
theorem dX2_endOfRow_52 : decode cX2_endOfRow 52 = .ok (.aload_n 0, 1) := by decide +kernel
theorem dX2_endOfRow_53 : decode cX2_endOfRow 53 = .ok (.getfield 21, 3) := by decide +kernel
theorem dX2_endOfRow_56 : decode cX2_endOfRow 56 = .ok (.iload_n 1, 1) := by decide +kernel
theorem dX2_endOfRow_57 : decode cX2_endOfRow 57 = .ok (.dup2, 1) := by decide +kernel
theorem dX2_endOfRow_58 : decode cX2_endOfRow 58 = .ok (.iaload, 1) := by decide +kernel
theorem dX2_endOfRow_59 : decode cX2_endOfRow 59 = .ok (.iconst 1, 1) := by decide +kernel
theorem dX2_endOfRow_60 : decode cX2_endOfRow 60 = .ok (.isub, 1) := by decide +kernel
theorem dX2_endOfRow_61 : decode cX2_endOfRow 61 = .ok (.iastore, 1) := by decide +kernel
theorem dX2_endOfRow_62 : decode cX2_endOfRow 62 = .ok (.aload_n 0, 1) := by decide +kernel
theorem dX2_endOfRow_63 : decode cX2_endOfRow 63 = .ok (.aload_n 0, 1) := by decide +kernel
theorem dX2_endOfRow_64 : decode cX2_endOfRow 64 = .ok (.getfield 24, 3) := by decide +kernel
theorem dX2_endOfRow_67 : decode cX2_endOfRow 67 = .ok (.iload_n 1, 1) := by decide +kernel
theorem dX2_endOfRow_68 : decode cX2_endOfRow 68 = .ok (.iaload, 1) := by decide +kernel
theorem dX2_endOfRow_69 : decode cX2_endOfRow 69 = .ok (.putfield 36, 3) := by decide +kernel
theorem dX2_endOfRow_72 : decode cX2_endOfRow 72 = .ok (.iconst 0, 1) := by decide +kernel
theorem dX2_endOfRow_73 : decode cX2_endOfRow 73 = .ok (.ireturn, 1) := by decide +kernel
theorem dX2_push_0 : decode cX2_push 0 = .ok (.aload_n 0, 1) := by decide +kernel
theorem dX2_push_1 : decode cX2_push 1 = .ok (.getfield 15, 3) := by decide +kernel
theorem dX2_push_4 : decode cX2_push 4 = .ok (.aload_n 0, 1) := by decide +kernel
theorem dX2_push_5 : decode cX2_push 5 = .ok (.getfield 9, 3) := by decide +kernel
theorem dX2_push_8 : decode cX2_push 8 = .ok (.arraylength, 1) := by decide +kernel
theorem dX2_push_9 : decode cX2_push 9 = .ok (.invokestatic 55, 3) := by decide +kernel
theorem dX2_push_12 : decode cX2_push 12 = .ok (.ifCond .eq 23, 3) := by decide +kernel
theorem dX2_push_15 : decode cX2_push 15 = .ok (.aload_n 0, 1) := by decide +kernel
theorem dX2_push_16 : decode cX2_push 16 = .ok (.getfield 9, 3) := by decide +kernel
theorem dX2_push_19 : decode cX2_push 19 = .ok (.aload_n 0, 1) := by decide +kernel
theorem dX2_push_20 : decode cX2_push 20 = .ok (.getfield 15, 3) := by decide +kernel
theorem dX2_push_23 : decode cX2_push 23 = .ok (.iload_n 1, 1) := by decide +kernel
theorem dX2_push_24 : decode cX2_push 24 = .ok (.iastore, 1) := by decide +kernel
theorem dX2_push_25 : decode cX2_push 25 = .ok (.aload_n 0, 1) := by decide +kernel
theorem dX2_push_26 : decode cX2_push 26 = .ok (.dup, 1) := by decide +kernel
theorem dX2_push_27 : decode cX2_push 27 = .ok (.getfield 15, 3) := by decide +kernel
theorem dX2_push_30 : decode cX2_push 30 = .ok (.iconst 1, 1) := by decide +kernel
theorem dX2_push_31 : decode cX2_push 31 = .ok (.iadd, 1) := by decide +kernel
theorem dX2_push_32 : decode cX2_push 32 = .ok (.putfield 15, 3) := by decide +kernel
theorem dX2_push_35 : decode cX2_push 35 = .ok (.iconst 0, 1) := by decide +kernel
theorem dX2_push_36 : decode cX2_push 36 = .ok (.ireturn, 1) := by decide +kernel
theorem dX2_pop_0 : decode cX2_pop 0 = .ok (.aload_n 0, 1) := by decide +kernel
theorem dX2_pop_1 : decode cX2_pop 1 = .ok (.getfield 15, 3) := by decide +kernel
theorem dX2_pop_4 : decode cX2_pop 4 = .ok (.iconst 1, 1) := by decide +kernel
theorem dX2_pop_5 : decode cX2_pop 5 = .ok (.isub, 1) := by decide +kernel
theorem dX2_pop_6 : decode cX2_pop 6 = .ok (.aload_n 0, 1) := by decide +kernel
theorem dX2_pop_7 : decode cX2_pop 7 = .ok (.getfield 9, 3) := by decide +kernel
theorem dX2_pop_10 : decode cX2_pop 10 = .ok (.arraylength, 1) := by decide +kernel
theorem dX2_pop_11 : decode cX2_pop 11 = .ok (.invokestatic 55, 3) := by decide +kernel
theorem dX2_pop_14 : decode cX2_pop 14 = .ok (.ifCond .ne 5, 3) := by decide +kernel
theorem dX2_pop_17 : decode cX2_pop 17 = .ok (.iconst 0, 1) := by decide +kernel
theorem dX2_pop_18 : decode cX2_pop 18 = .ok (.ireturn, 1) := by decide +kernel
theorem dX2_pop_19 : decode cX2_pop 19 = .ok (.aload_n 0, 1) := by decide +kernel
theorem dX2_pop_20 : decode cX2_pop 20 = .ok (.dup, 1) := by decide +kernel
theorem dX2_pop_21 : decode cX2_pop 21 = .ok (.getfield 15, 3) := by decide +kernel
theorem dX2_pop_24 : decode cX2_pop 24 = .ok (.iconst 1, 1) := by decide +kernel
theorem dX2_pop_25 : decode cX2_pop 25 = .ok (.isub, 1) := by decide +kernel
theorem dX2_pop_26 : decode cX2_pop 26 = .ok (.putfield 15, 3) := by decide +kernel
theorem dX2_pop_29 : decode cX2_pop 29 = .ok (.aload_n 0, 1) := by decide +kernel
theorem dX2_pop_30 : decode cX2_pop 30 = .ok (.getfield 9, 3) := by decide +kernel
theorem dX2_pop_33 : decode cX2_pop 33 = .ok (.aload_n 0, 1) := by decide +kernel
theorem dX2_pop_34 : decode cX2_pop 34 = .ok (.getfield 15, 3) := by decide +kernel
theorem dX2_pop_37 : decode cX2_pop 37 = .ok (.iaload, 1) := by decide +kernel
theorem dX2_pop_38 : decode cX2_pop 38 = .ok (.ireturn, 1) := by decide +kernel
theorem dX3_init_0 : decode cX3_init 0 = .ok (.aload_n 0, 1) := by decide +kernel
theorem dX3_init_1 : decode cX3_init 1 = .ok (.invokespecial 3, 3) := by decide +kernel
theorem dX3_init_4 : decode cX3_init 4 = .ok (.aload_n 0, 1) := by decide +kernel
theorem dX3_init_5 : decode cX3_init 5 = .ok (.bipush 48, 2) := by decide +kernel
theorem dX3_init_7 : decode cX3_init 7 = .ok (.newarray .int, 2) := by decide +kernel
theorem dX3_init_9 : decode cX3_init 9 = .ok (.putfield 9, 3) := by decide +kernel
theorem dX3_init_12 : decode cX3_init 12 = .ok (.aload_n 0, 1) := by decide +kernel
theorem dX3_init_13 : decode cX3_init 13 = .ok (.iconst 0, 1) := by decide +kernel
theorem dX3_init_14 : decode cX3_init 14 = .ok (.putfield 15, 3) := by decide +kernel
theorem dX3_init_17 : decode cX3_init 17 = .ok (.aload_n 0, 1) := by decide +kernel
theorem dX3_init_18 : decode cX3_init 18 = .ok (.sipush 400, 3) := by decide +kernel
theorem dX3_init_21 : decode cX3_init 21 = .ok (.newarray .boolean, 2) := by decide +kernel
theorem dX3_init_23 : decode cX3_init 23 = .ok (.putfield 19, 3) := by decide +kernel
theorem dX3_init_26 : decode cX3_init 26 = .ok (.aload_n 0, 1) := by decide +kernel
theorem dX3_init_27 : decode cX3_init 27 = .ok (.sipush 400, 3) := by decide +kernel
theorem dX3_init_30 : decode cX3_init 30 = .ok (.newarray .int, 2) := by decide +kernel
theorem dX3_init_32 : decode cX3_init 32 = .ok (.putfield 23, 3) := by decide +kernel
theorem dX3_init_35 : decode cX3_init 35 = .ok (.aload_n 0, 1) := by decide +kernel
theorem dX3_init_36 : decode cX3_init 36 = .ok (.iconst 0, 1) := by decide +kernel
theorem dX3_init_37 : decode cX3_init 37 = .ok (.putfield 26, 3) := by decide +kernel
theorem dX3_init_40 : decode cX3_init 40 = .ok (.aload_n 0, 1) := by decide +kernel
theorem dX3_init_41 : decode cX3_init 41 = .ok (.bipush 64, 2) := by decide +kernel
theorem dX3_init_43 : decode cX3_init 43 = .ok (.newarray .int, 2) := by decide +kernel
theorem dX3_init_45 : decode cX3_init 45 = .ok (.putfield 29, 3) := by decide +kernel
theorem dX3_init_48 : decode cX3_init 48 = .ok (.return_, 1) := by decide +kernel
theorem dX3_forget_0 : decode cX3_forget 0 = .ok (.aload_n 0, 1) := by decide +kernel
theorem dX3_forget_1 : decode cX3_forget 1 = .ok (.iconst 0, 1) := by decide +kernel
theorem dX3_forget_2 : decode cX3_forget 2 = .ok (.putfield 15, 3) := by decide +kernel
theorem dX3_forget_5 : decode cX3_forget 5 = .ok (.aload_n 0, 1) := by decide +kernel
theorem dX3_forget_6 : decode cX3_forget 6 = .ok (.iconst 0, 1) := by decide +kernel
theorem dX3_forget_7 : decode cX3_forget 7 = .ok (.putfield 26, 3) := by decide +kernel
theorem dX3_forget_10 : decode cX3_forget 10 = .ok (.return_, 1) := by decide +kernel
theorem dX3_add_0 : decode cX3_add 0 = .ok (.iconst 0, 1) := by decide +kernel
theorem dX3_add_1 : decode cX3_add 1 = .ok (.istore_n 3, 1) := by decide +kernel
theorem dX3_add_2 : decode cX3_add 2 = .ok (.iload_n 3, 1) := by decide +kernel
theorem dX3_add_3 : decode cX3_add 3 = .ok (.bipush 8, 2) := by decide +kernel
theorem dX3_add_5 : decode cX3_add 5 = .ok (.if_icmp .ge 62, 3) := by decide +kernel
theorem dX3_add_8 : decode cX3_add 8 = .ok (.iload_n 2, 1) := by decide +kernel
theorem dX3_add_9 : decode cX3_add 9 = .ok (.bipush 8, 2) := by decide +kernel
theorem dX3_add_11 : decode cX3_add 11 = .ok (.imul, 1) := by decide +kernel
theorem dX3_add_12 : decode cX3_add 12 = .ok (.iload_n 3, 1) := by decide +kernel
theorem dX3_add_13 : decode cX3_add 13 = .ok (.iadd, 1) := by decide +kernel
theorem dX3_add_14 : decode cX3_add 14 = .ok (.istore 4, 2) := by decide +kernel
theorem dX3_add_16 : decode cX3_add 16 = .ok (.aload_n 0, 1) := by decide +kernel
theorem dX3_add_17 : decode cX3_add 17 = .ok (.getfield 15, 3) := by decide +kernel
theorem dX3_add_20 : decode cX3_add 20 = .ok (.bipush 8, 2) := by decide +kernel
theorem dX3_add_22 : decode cX3_add 22 = .ok (.imul, 1) := by decide +kernel
theorem dX3_add_23 : decode cX3_add 23 = .ok (.iload_n 3, 1) := by decide +kernel
theorem dX3_add_24 : decode cX3_add 24 = .ok (.iadd, 1) := by decide +kernel
theorem dX3_add_25 : decode cX3_add 25 = .ok (.istore 5, 2) := by decide +kernel
theorem dX3_add_27 : decode cX3_add 27 = .ok (.iload 4, 2) := by decide +kernel
theorem dX3_add_29 : decode cX3_add 29 = .ok (.aload_n 1, 1) := by decide +kernel
theorem dX3_add_30 : decode cX3_add 30 = .ok (.arraylength, 1) := by decide +kernel
theorem dX3_add_31 : decode cX3_add 31 = .ok (.invokestatic 32, 3) := by decide +kernel
theorem dX3_add_34 : decode cX3_add 34 = .ok (.ifCond .eq 27, 3) := by decide +kernel
theorem dX3_add_37 : decode cX3_add 37 = .ok (.iload 5, 2) := by decide +kernel
theorem dX3_add_39 : decode cX3_add 39 = .ok (.aload_n 0, 1) := by decide +kernel
theorem dX3_add_40 : decode cX3_add 40 = .ok (.getfield 9, 3) := by decide +kernel
theorem dX3_add_43 : decode cX3_add 43 = .ok (.arraylength, 1) := by decide +kernel
theorem dX3_add_44 : decode cX3_add 44 = .ok (.invokestatic 32, 3) := by decide +kernel
theorem dX3_add_47 : decode cX3_add 47 = .ok (.ifCond .eq 14, 3) := by decide +kernel
theorem dX3_add_50 : decode cX3_add 50 = .ok (.aload_n 0, 1) := by decide +kernel
theorem dX3_add_51 : decode cX3_add 51 = .ok (.getfield 9, 3) := by decide +kernel
theorem dX3_add_54 : decode cX3_add 54 = .ok (.iload 5, 2) := by decide +kernel
theorem dX3_add_56 : decode cX3_add 56 = .ok (.aload_n 1, 1) := by decide +kernel
theorem dX3_add_57 : decode cX3_add 57 = .ok (.iload 4, 2) := by decide +kernel
theorem dX3_add_59 : decode cX3_add 59 = .ok (.iaload, 1) := by decide +kernel
theorem dX3_add_60 : decode cX3_add 60 = .ok (.iastore, 1) := by decide +kernel
theorem dX3_add_61 : decode cX3_add 61 = .ok (.iinc 3 1, 3) := by decide +kernel
theorem dX3_add_64 : decode cX3_add 64 = .ok (.goto (-62), 3) := by decide +kernel
theorem dX3_add_67 : decode cX3_add 67 = .ok (.aload_n 0, 1) := by decide +kernel
theorem dX3_add_68 : decode cX3_add 68 = .ok (.dup, 1) := by decide +kernel
theorem dX3_add_69 : decode cX3_add 69 = .ok (.getfield 15, 3) := by decide +kernel
theorem dX3_add_72 : decode cX3_add 72 = .ok (.iconst 1, 1) := by decide +kernel
theorem dX3_add_73 : decode cX3_add 73 = .ok (.iadd, 1) := by decide +kernel
theorem dX3_add_74 : decode cX3_add 74 = .ok (.putfield 15, 3) := by decide +kernel
theorem dX3_add_77 : decode cX3_add 77 = .ok (.return_, 1) := by decide +kernel
theorem dX3_strengthOf_0 : decode cX3_strengthOf 0 = .ok (.aload_n 1, 1) := by decide +kernel
theorem dX3_strengthOf_1 : decode cX3_strengthOf 1 = .ok (.iload_n 2, 1) := by decide +kernel
theorem dX3_strengthOf_2 : decode cX3_strengthOf 2 = .ok (.invokevirtual 36, 3) := by decide +kernel
theorem dX3_strengthOf_5 : decode cX3_strengthOf 5 = .ok (.istore_n 3, 1) := by decide +kernel
theorem dX3_strengthOf_6 : decode cX3_strengthOf 6 = .ok (.iload_n 3, 1) := by decide +kernel
theorem dX3_strengthOf_7 : decode cX3_strengthOf 7 = .ok (.iconst (-1), 1) := by decide +kernel
theorem dX3_strengthOf_8 : decode cX3_strengthOf 8 = .ok (.if_icmp .ne 5, 3) := by decide +kernel
theorem dX3_strengthOf_11 : decode cX3_strengthOf 11 = .ok (.iconst 0, 1) := by decide +kernel
theorem dX3_strengthOf_12 : decode cX3_strengthOf 12 = .ok (.ireturn, 1) := by decide +kernel
theorem dX3_strengthOf_13 : decode cX3_strengthOf 13 = .ok (.aload_n 0, 1) := by decide +kernel
theorem dX3_strengthOf_14 : decode cX3_strengthOf 14 = .ok (.getfield 29, 3) := by decide +kernel
theorem dX3_strengthOf_17 : decode cX3_strengthOf 17 = .ok (.iconst 0, 1) := by decide +kernel
theorem dX3_strengthOf_18 : decode cX3_strengthOf 18 = .ok (.invokestatic 42, 3) := by decide +kernel
theorem dX3_strengthOf_21 : decode cX3_strengthOf 21 = .ok (.aload_n 1, 1) := by decide +kernel
theorem dX3_strengthOf_22 : decode cX3_strengthOf 22 = .ok (.iload_n 3, 1) := by decide +kernel
theorem dX3_strengthOf_23 : decode cX3_strengthOf 23 = .ok (.iconst 1, 1) := by decide +kernel
theorem dX3_strengthOf_24 : decode cX3_strengthOf 24 = .ok (.iadd, 1) := by decide +kernel
theorem dX3_strengthOf_25 : decode cX3_strengthOf 25 = .ok (.aload_n 1, 1) := by decide +kernel
theorem dX3_strengthOf_26 : decode cX3_strengthOf 26 = .ok (.getfield 48, 3) := by decide +kernel
theorem dX3_strengthOf_29 : decode cX3_strengthOf 29 = .ok (.iconst 1, 1) := by decide +kernel
theorem dX3_strengthOf_30 : decode cX3_strengthOf 30 = .ok (.isub, 1) := by decide +kernel
theorem dX3_strengthOf_31 : decode cX3_strengthOf 31 = .ok (.aload_n 0, 1) := by decide +kernel
theorem dX3_strengthOf_32 : decode cX3_strengthOf 32 = .ok (.getfield 29, 3) := by decide +kernel
theorem dX3_strengthOf_35 : decode cX3_strengthOf 35 = .ok (.invokevirtual 51, 3) := by decide +kernel
theorem dX3_strengthOf_38 : decode cX3_strengthOf 38 = .ok (.aload_n 1, 1) := by decide +kernel
theorem dX3_strengthOf_39 : decode cX3_strengthOf 39 = .ok (.aload_n 1, 1) := by decide +kernel
theorem dX3_strengthOf_40 : decode cX3_strengthOf 40 = .ok (.iload_n 3, 1) := by decide +kernel
theorem dX3_strengthOf_41 : decode cX3_strengthOf 41 = .ok (.invokevirtual 55, 3) := by decide +kernel
theorem dX3_strengthOf_44 : decode cX3_strengthOf 44 = .ok (.iload_n 3, 1) := by decide +kernel
theorem dX3_strengthOf_45 : decode cX3_strengthOf 45 = .ok (.aload_n 0, 1) := by decide +kernel
theorem dX3_strengthOf_46 : decode cX3_strengthOf 46 = .ok (.getfield 29, 3) := by decide +kernel
theorem dX3_strengthOf_49 : decode cX3_strengthOf 49 = .ok (.invokevirtual 58, 3) := by decide +kernel
theorem dX3_strengthOf_52 : decode cX3_strengthOf 52 = .ok (.ireturn, 1) := by decide +kernel
theorem dX3_play_0 : decode cX3_play 0 = .ok (.iconst 0, 1) := by decide +kernel
theorem dX3_play_1 : decode cX3_play 1 = .ok (.istore_n 3, 1) := by decide +kernel
theorem dX3_play_2 : decode cX3_play 2 = .ok (.iload_n 3, 1) := by decide +kernel
theorem dX3_play_3 : decode cX3_play 3 = .ok (.aload_n 0, 1) := by decide +kernel
theorem dX3_play_4 : decode cX3_play 4 = .ok (.getfield 19, 3) := by decide +kernel
theorem dX3_play_7 : decode cX3_play 7 = .ok (.arraylength, 1) := by decide +kernel
theorem dX3_play_8 : decode cX3_play 8 = .ok (.if_icmp .ge 16, 3) := by decide +kernel
theorem dX3_play_11 : decode cX3_play 11 = .ok (.aload_n 0, 1) := by decide +kernel
theorem dX3_play_12 : decode cX3_play 12 = .ok (.getfield 19, 3) := by decide +kernel
theorem dX3_play_15 : decode cX3_play 15 = .ok (.iload_n 3, 1) := by decide +kernel
theorem dX3_play_16 : decode cX3_play 16 = .ok (.iconst 0, 1) := by decide +kernel
theorem dX3_play_17 : decode cX3_play 17 = .ok (.bastore, 1) := by decide +kernel
theorem dX3_play_18 : decode cX3_play 18 = .ok (.iinc 3 1, 3) := by decide +kernel
theorem dX3_play_21 : decode cX3_play 21 = .ok (.goto (-19), 3) := by decide +kernel
theorem dX3_play_24 : decode cX3_play 24 = .ok (.aload_n 0, 1) := by decide +kernel
theorem dX3_play_25 : decode cX3_play 25 = .ok (.iconst 0, 1) := by decide +kernel
theorem dX3_play_26 : decode cX3_play 26 = .ok (.putfield 26, 3) := by decide +kernel
theorem dX3_play_29 : decode cX3_play 29 = .ok (.iconst 0, 1) := by decide +kernel
theorem dX3_play_30 : decode cX3_play 30 = .ok (.istore_n 3, 1) := by decide +kernel
theorem dX3_play_31 : decode cX3_play 31 = .ok (.iload_n 3, 1) := by decide +kernel
theorem dX3_play_32 : decode cX3_play 32 = .ok (.aload_n 0, 1) := by decide +kernel
theorem dX3_play_33 : decode cX3_play 33 = .ok (.getfield 15, 3) := by decide +kernel
theorem dX3_play_36 : decode cX3_play 36 = .ok (.if_icmp .ge 22, 3) := by decide +kernel
theorem dX3_play_39 : decode cX3_play 39 = .ok (.iload_n 3, 1) := by decide +kernel
theorem dX3_play_40 : decode cX3_play 40 = .ok (.bipush 6, 2) := by decide +kernel
theorem dX3_play_42 : decode cX3_play 42 = .ok (.if_icmp .ge 16, 3) := by decide +kernel
theorem dX3_play_45 : decode cX3_play 45 = .ok (.aload_n 0, 1) := by decide +kernel
theorem dX3_play_46 : decode cX3_play 46 = .ok (.aload_n 1, 1) := by decide +kernel
theorem dX3_play_47 : decode cX3_play 47 = .ok (.iload_n 3, 1) := by decide +kernel
theorem dX3_play_48 : decode cX3_play 48 = .ok (.iload_n 2, 1) := by decide +kernel
theorem dX3_play_49 : decode cX3_play 49 = .ok (.invokevirtual 62, 3) := by decide +kernel
theorem dX3_play_52 : decode cX3_play 52 = .ok (.iinc 3 1, 3) := by decide +kernel
theorem dX3_play_55 : decode cX3_play 55 = .ok (.goto (-24), 3) := by decide +kernel
theorem dX3_play_58 : decode cX3_play 58 = .ok (.aload_n 0, 1) := by decide +kernel
theorem dX3_play_59 : decode cX3_play 59 = .ok (.getfield 26, 3) := by decide +kernel
theorem dX3_play_62 : decode cX3_play 62 = .ok (.ireturn, 1) := by decide +kernel
theorem dX3_doMove_0 : decode cX3_doMove 0 = .ok (.aload_n 0, 1) := by decide +kernel
theorem dX3_doMove_1 : decode cX3_doMove 1 = .ok (.getfield 29, 3) := by decide +kernel
theorem dX3_doMove_4 : decode cX3_doMove 4 = .ok (.iconst 0, 1) := by decide +kernel
theorem dX3_doMove_5 : decode cX3_doMove 5 = .ok (.invokestatic 42, 3) := by decide +kernel
theorem dX3_doMove_8 : decode cX3_doMove 8 = .ok (.aload_n 1, 1) := by decide +kernel
theorem dX3_doMove_9 : decode cX3_doMove 9 = .ok (.getfield 48, 3) := by decide +kernel
theorem dX3_doMove_12 : decode cX3_doMove 12 = .ok (.iconst 1, 1) := by decide +kernel
theorem dX3_doMove_13 : decode cX3_doMove 13 = .ok (.isub, 1) := by decide +kernel
theorem dX3_doMove_14 : decode cX3_doMove 14 = .ok (.istore 4, 2) := by decide +kernel
theorem dX3_doMove_16 : decode cX3_doMove 16 = .ok (.iconst 0, 1) := by decide +kernel
theorem dX3_doMove_17 : decode cX3_doMove 17 = .ok (.istore 5, 2) := by decide +kernel
theorem dX3_doMove_19 : decode cX3_doMove 19 = .ok (.iload 5, 2) := by decide +kernel
theorem dX3_doMove_21 : decode cX3_doMove 21 = .ok (.sipush 400, 3) := by decide +kernel
theorem dX3_doMove_24 : decode cX3_doMove 24 = .ok (.if_icmp .ge 131, 3) := by decide +kernel
theorem dX3_doMove_27 : decode cX3_doMove 27 = .ok (.iload 4, 2) := by decide +kernel
theorem dX3_doMove_29 : decode cX3_doMove 29 = .ok (.ifCond .lt 126, 3) := by decide +kernel
theorem dX3_doMove_32 : decode cX3_doMove 32 = .ok (.aload_n 1, 1) := by decide +kernel
theorem dX3_doMove_33 : decode cX3_doMove 33 = .ok (.iload 4, 2) := by decide +kernel
theorem dX3_doMove_35 : decode cX3_doMove 35 = .ok (.invokevirtual 55, 3) := by decide +kernel
theorem dX3_doMove_38 : decode cX3_doMove 38 = .ok (.istore 6, 2) := by decide +kernel
theorem dX3_doMove_40 : decode cX3_doMove 40 = .ok (.iload 4, 2) := by decide +kernel
theorem dX3_doMove_42 : decode cX3_doMove 42 = .ok (.aload_n 0, 1) := by decide +kernel
theorem dX3_doMove_43 : decode cX3_doMove 43 = .ok (.getfield 19, 3) := by decide +kernel
theorem dX3_doMove_46 : decode cX3_doMove 46 = .ok (.arraylength, 1) := by decide +kernel
theorem dX3_doMove_47 : decode cX3_doMove 47 = .ok (.invokestatic 32, 3) := by decide +kernel
theorem dX3_doMove_50 : decode cX3_doMove 50 = .ok (.ifCond .eq 93, 3) := by decide +kernel
theorem dX3_doMove_53 : decode cX3_doMove 53 = .ok (.aload_n 0, 1) := by decide +kernel
theorem dX3_doMove_54 : decode cX3_doMove 54 = .ok (.getfield 19, 3) := by decide +kernel
theorem dX3_doMove_57 : decode cX3_doMove 57 = .ok (.iload 4, 2) := by decide +kernel
theorem dX3_doMove_59 : decode cX3_doMove 59 = .ok (.baload, 1) := by decide +kernel
theorem dX3_doMove_60 : decode cX3_doMove 60 = .ok (.ifCond .ne 83, 3) := by decide +kernel
theorem dX3_doMove_63 : decode cX3_doMove 63 = .ok (.aload_n 1, 1) := by decide +kernel
theorem dX3_doMove_64 : decode cX3_doMove 64 = .ok (.iload 6, 2) := by decide +kernel
theorem dX3_doMove_66 : decode cX3_doMove 66 = .ok (.iload 4, 2) := by decide +kernel
theorem dX3_doMove_68 : decode cX3_doMove 68 = .ok (.aload_n 0, 1) := by decide +kernel
theorem dX3_doMove_69 : decode cX3_doMove 69 = .ok (.getfield 29, 3) := by decide +kernel
theorem dX3_doMove_72 : decode cX3_doMove 72 = .ok (.invokevirtual 58, 3) := by decide +kernel
theorem dX3_doMove_75 : decode cX3_doMove 75 = .ok (.aload_n 1, 1) := by decide +kernel
theorem dX3_doMove_76 : decode cX3_doMove 76 = .ok (.iload 4, 2) := by decide +kernel
theorem dX3_doMove_78 : decode cX3_doMove 78 = .ok (.invokevirtual 66, 3) := by decide +kernel
theorem dX3_doMove_81 : decode cX3_doMove 81 = .ok (.iload_n 3, 1) := by decide +kernel
theorem dX3_doMove_82 : decode cX3_doMove 82 = .ok (.if_icmp .ne 7, 3) := by decide +kernel
theorem dX3_doMove_85 : decode cX3_doMove 85 = .ok (.iconst 4, 1) := by decide +kernel
theorem dX3_doMove_86 : decode cX3_doMove 86 = .ok (.goto 4, 3) := by decide +kernel
theorem dX3_doMove_89 : decode cX3_doMove 89 = .ok (.iconst 0, 1) := by decide +kernel
theorem dX3_doMove_90 : decode cX3_doMove 90 = .ok (.iadd, 1) := by decide +kernel
theorem dX3_doMove_91 : decode cX3_doMove 91 = .ok (.istore 7, 2) := by decide +kernel
theorem dX3_doMove_93 : decode cX3_doMove 93 = .ok (.aload_n 1, 1) := by decide +kernel
theorem dX3_doMove_94 : decode cX3_doMove 94 = .ok (.iload 6, 2) := by decide +kernel
theorem dX3_doMove_96 : decode cX3_doMove 96 = .ok (.iload 4, 2) := by decide +kernel
theorem dX3_doMove_98 : decode cX3_doMove 98 = .ok (.aload_n 0, 1) := by decide +kernel
theorem dX3_doMove_99 : decode cX3_doMove 99 = .ok (.getfield 9, 3) := by decide +kernel
theorem dX3_doMove_102 : decode cX3_doMove 102 = .ok (.iload_n 2, 1) := by decide +kernel
theorem dX3_doMove_103 : decode cX3_doMove 103 = .ok (.bipush 8, 2) := by decide +kernel
theorem dX3_doMove_105 : decode cX3_doMove 105 = .ok (.imul, 1) := by decide +kernel
theorem dX3_doMove_106 : decode cX3_doMove 106 = .ok (.invokevirtual 69, 3) := by decide +kernel
theorem dX3_doMove_109 : decode cX3_doMove 109 = .ok (.iload 7, 2) := by decide +kernel
theorem dX3_doMove_111 : decode cX3_doMove 111 = .ok (.if_icmp .le 20, 3) := by decide +kernel
theorem dX3_doMove_114 : decode cX3_doMove 114 = .ok (.aload_n 0, 1) := by decide +kernel
theorem dX3_doMove_115 : decode cX3_doMove 115 = .ok (.iload 6, 2) := by decide +kernel
theorem dX3_doMove_117 : decode cX3_doMove 117 = .ok (.iload 4, 2) := by decide +kernel
theorem dX3_doMove_119 : decode cX3_doMove 119 = .ok (.aload_n 1, 1) := by decide +kernel
theorem dX3_doMove_120 : decode cX3_doMove 120 = .ok (.iload 4, 2) := by decide +kernel
theorem dX3_doMove_122 : decode cX3_doMove 122 = .ok (.invokevirtual 66, 3) := by decide +kernel
theorem dX3_doMove_125 : decode cX3_doMove 125 = .ok (.invokevirtual 73, 3) := by decide +kernel
theorem dX3_doMove_128 : decode cX3_doMove 128 = .ok (.goto 15, 3) := by decide +kernel
theorem dX3_doMove_131 : decode cX3_doMove 131 = .ok (.aload_n 1, 1) := by decide +kernel
theorem dX3_doMove_132 : decode cX3_doMove 132 = .ok (.iload 6, 2) := by decide +kernel
theorem dX3_doMove_134 : decode cX3_doMove 134 = .ok (.iload 4, 2) := by decide +kernel
theorem dX3_doMove_136 : decode cX3_doMove 136 = .ok (.aload_n 0, 1) := by decide +kernel
theorem dX3_doMove_137 : decode cX3_doMove 137 = .ok (.getfield 29, 3) := by decide +kernel
theorem dX3_doMove_140 : decode cX3_doMove 140 = .ok (.invokevirtual 51, 3) := by decide +kernel
theorem dX3_doMove_143 : decode cX3_doMove 143 = .ok (.iload 6, 2) := by decide +kernel
theorem dX3_doMove_145 : decode cX3_doMove 145 = .ok (.iconst 1, 1) := by decide +kernel
theorem dX3_doMove_146 : decode cX3_doMove 146 = .ok (.isub, 1) := by decide +kernel
theorem dX3_doMove_147 : decode cX3_doMove 147 = .ok (.istore 4, 2) := by decide +kernel
theorem dX3_doMove_149 : decode cX3_doMove 149 = .ok (.iinc 5 1, 3) := by decide +kernel
theorem dX3_doMove_152 : decode cX3_doMove 152 = .ok (.goto (-133), 3) := by decide +kernel
theorem dX3_doMove_155 : decode cX3_doMove 155 = .ok (.return_, 1) := by decide +kernel
theorem dX3_slip_0 : decode cX3_slip 0 = .ok (.iload_n 1, 1) := by decide +kernel
theorem dX3_slip_1 : decode cX3_slip 1 = .ok (.istore 4, 2) := by decide +kernel
theorem dX3_slip_3 : decode cX3_slip 3 = .ok (.iload 4, 2) := by decide +kernel
theorem dX3_slip_5 : decode cX3_slip 5 = .ok (.iload_n 2, 1) := by decide +kernel
theorem dX3_slip_6 : decode cX3_slip 6 = .ok (.if_icmp .gt 30, 3) := by decide +kernel
theorem dX3_slip_9 : decode cX3_slip 9 = .ok (.iload 4, 2) := by decide +kernel
theorem dX3_slip_11 : decode cX3_slip 11 = .ok (.aload_n 0, 1) := by decide +kernel
theorem dX3_slip_12 : decode cX3_slip 12 = .ok (.getfield 19, 3) := by decide +kernel
theorem dX3_slip_15 : decode cX3_slip 15 = .ok (.arraylength, 1) := by decide +kernel
theorem dX3_slip_16 : decode cX3_slip 16 = .ok (.invokestatic 32, 3) := by decide +kernel
theorem dX3_slip_19 : decode cX3_slip 19 = .ok (.ifCond .eq 11, 3) := by decide +kernel
theorem dX3_slip_22 : decode cX3_slip 22 = .ok (.aload_n 0, 1) := by decide +kernel
theorem dX3_slip_23 : decode cX3_slip 23 = .ok (.getfield 19, 3) := by decide +kernel
theorem dX3_slip_26 : decode cX3_slip 26 = .ok (.iload 4, 2) := by decide +kernel
theorem dX3_slip_28 : decode cX3_slip 28 = .ok (.iconst 1, 1) := by decide +kernel
theorem dX3_slip_29 : decode cX3_slip 29 = .ok (.bastore, 1) := by decide +kernel
theorem dX3_slip_30 : decode cX3_slip 30 = .ok (.iinc 4 1, 3) := by decide +kernel
theorem dX3_slip_33 : decode cX3_slip 33 = .ok (.goto (-30), 3) := by decide +kernel
theorem dX3_slip_36 : decode cX3_slip 36 = .ok (.aload_n 0, 1) := by decide +kernel
theorem dX3_slip_37 : decode cX3_slip 37 = .ok (.getfield 26, 3) := by decide +kernel
theorem dX3_slip_40 : decode cX3_slip 40 = .ok (.aload_n 0, 1) := by decide +kernel
theorem dX3_slip_41 : decode cX3_slip 41 = .ok (.getfield 23, 3) := by decide +kernel
theorem dX3_slip_44 : decode cX3_slip 44 = .ok (.arraylength, 1) := by decide +kernel
theorem dX3_slip_45 : decode cX3_slip 45 = .ok (.invokestatic 32, 3) := by decide +kernel
theorem dX3_slip_48 : decode cX3_slip 48 = .ok (.ifCond .eq 23, 3) := by decide +kernel
theorem dX3_slip_51 : decode cX3_slip 51 = .ok (.aload_n 0, 1) := by decide +kernel
theorem dX3_slip_52 : decode cX3_slip 52 = .ok (.getfield 23, 3) := by decide +kernel
theorem dX3_slip_55 : decode cX3_slip 55 = .ok (.aload_n 0, 1) := by decide +kernel
theorem dX3_slip_56 : decode cX3_slip 56 = .ok (.getfield 26, 3) := by decide +kernel
theorem dX3_slip_59 : decode cX3_slip 59 = .ok (.iload_n 3, 1) := by decide +kernel
theorem dX3_slip_60 : decode cX3_slip 60 = .ok (.iastore, 1) := by decide +kernel
theorem dX3_slip_61 : decode cX3_slip 61 = .ok (.aload_n 0, 1) := by decide +kernel
theorem dX3_slip_62 : decode cX3_slip 62 = .ok (.dup, 1) := by decide +kernel
theorem dX3_slip_63 : decode cX3_slip 63 = .ok (.getfield 26, 3) := by decide +kernel
theorem dX3_slip_66 : decode cX3_slip 66 = .ok (.iconst 1, 1) := by decide +kernel
theorem dX3_slip_67 : decode cX3_slip 67 = .ok (.iadd, 1) := by decide +kernel
theorem dX3_slip_68 : decode cX3_slip 68 = .ok (.putfield 26, 3) := by decide +kernel
theorem dX3_slip_71 : decode cX3_slip 71 = .ok (.return_, 1) := by decide +kernel
theorem dX3_lastLeft_0 : decode cX3_lastLeft 0 = .ok (.aload_n 1, 1) := by decide +kernel
theorem dX3_lastLeft_1 : decode cX3_lastLeft 1 = .ok (.getfield 48, 3) := by decide +kernel
theorem dX3_lastLeft_4 : decode cX3_lastLeft 4 = .ok (.iconst 1, 1) := by decide +kernel
theorem dX3_lastLeft_5 : decode cX3_lastLeft 5 = .ok (.isub, 1) := by decide +kernel
theorem dX3_lastLeft_6 : decode cX3_lastLeft 6 = .ok (.istore 4, 2) := by decide +kernel
theorem dX3_lastLeft_8 : decode cX3_lastLeft 8 = .ok (.iload 4, 2) := by decide +kernel
theorem dX3_lastLeft_10 : decode cX3_lastLeft 10 = .ok (.ifCond .lt 46, 3) := by decide +kernel
theorem dX3_lastLeft_13 : decode cX3_lastLeft 13 = .ok (.iload 4, 2) := by decide +kernel
theorem dX3_lastLeft_15 : decode cX3_lastLeft 15 = .ok (.aload_n 0, 1) := by decide +kernel
theorem dX3_lastLeft_16 : decode cX3_lastLeft 16 = .ok (.getfield 19, 3) := by decide +kernel
theorem dX3_lastLeft_19 : decode cX3_lastLeft 19 = .ok (.arraylength, 1) := by decide +kernel
theorem dX3_lastLeft_20 : decode cX3_lastLeft 20 = .ok (.invokestatic 32, 3) := by decide +kernel
theorem dX3_lastLeft_23 : decode cX3_lastLeft 23 = .ok (.ifCond .eq 27, 3) := by decide +kernel
theorem dX3_lastLeft_26 : decode cX3_lastLeft 26 = .ok (.aload_n 0, 1) := by decide +kernel
theorem dX3_lastLeft_27 : decode cX3_lastLeft 27 = .ok (.getfield 19, 3) := by decide +kernel
theorem dX3_lastLeft_30 : decode cX3_lastLeft 30 = .ok (.iload 4, 2) := by decide +kernel
theorem dX3_lastLeft_32 : decode cX3_lastLeft 32 = .ok (.baload, 1) := by decide +kernel
theorem dX3_lastLeft_33 : decode cX3_lastLeft 33 = .ok (.ifCond .ne 17, 3) := by decide +kernel
theorem dX3_lastLeft_36 : decode cX3_lastLeft 36 = .ok (.aload_n 1, 1) := by decide +kernel
theorem dX3_lastLeft_37 : decode cX3_lastLeft 37 = .ok (.iload 4, 2) := by decide +kernel
theorem dX3_lastLeft_39 : decode cX3_lastLeft 39 = .ok (.iload_n 2, 1) := by decide +kernel
theorem dX3_lastLeft_40 : decode cX3_lastLeft 40 = .ok (.iload_n 3, 1) := by decide +kernel
theorem dX3_lastLeft_41 : decode cX3_lastLeft 41 = .ok (.invokevirtual 77, 3) := by decide +kernel
theorem dX3_lastLeft_44 : decode cX3_lastLeft 44 = .ok (.ifCond .eq 6, 3) := by decide +kernel
theorem dX3_lastLeft_47 : decode cX3_lastLeft 47 = .ok (.iload 4, 2) := by decide +kernel
theorem dX3_lastLeft_49 : decode cX3_lastLeft 49 = .ok (.ireturn, 1) := by decide +kernel
theorem dX3_lastLeft_50 : decode cX3_lastLeft 50 = .ok (.iinc 4 (-1), 3) := by decide +kernel
theorem dX3_lastLeft_53 : decode cX3_lastLeft 53 = .ok (.goto (-45), 3) := by decide +kernel
theorem dX3_lastLeft_56 : decode cX3_lastLeft 56 = .ok (.iconst (-1), 1) := by decide +kernel
theorem dX3_lastLeft_57 : decode cX3_lastLeft 57 = .ok (.ireturn, 1) := by decide +kernel
theorem dX3_fixedBy_0 : decode cX3_fixedBy 0 = .ok (.aload_n 0, 1) := by decide +kernel
theorem dX3_fixedBy_1 : decode cX3_fixedBy 1 = .ok (.getfield 23, 3) := by decide +kernel
theorem dX3_fixedBy_4 : decode cX3_fixedBy 4 = .ok (.iconst 0, 1) := by decide +kernel
theorem dX3_fixedBy_5 : decode cX3_fixedBy 5 = .ok (.iaload, 1) := by decide +kernel
theorem dX3_fixedBy_6 : decode cX3_fixedBy 6 = .ok (.istore_n 2, 1) := by decide +kernel
theorem dX3_fixedBy_7 : decode cX3_fixedBy 7 = .ok (.aload_n 0, 1) := by decide +kernel
theorem dX3_fixedBy_8 : decode cX3_fixedBy 8 = .ok (.aload_n 1, 1) := by decide +kernel
theorem dX3_fixedBy_9 : decode cX3_fixedBy 9 = .ok (.iload_n 2, 1) := by decide +kernel
theorem dX3_fixedBy_10 : decode cX3_fixedBy 10 = .ok (.invokevirtual 81, 3) := by decide +kernel
theorem dX3_fixedBy_13 : decode cX3_fixedBy 13 = .ok (.istore_n 3, 1) := by decide +kernel
theorem dX3_fixedBy_14 : decode cX3_fixedBy 14 = .ok (.aload_n 0, 1) := by decide +kernel
theorem dX3_fixedBy_15 : decode cX3_fixedBy 15 = .ok (.aload_n 1, 1) := by decide +kernel
theorem dX3_fixedBy_16 : decode cX3_fixedBy 16 = .ok (.iconst (-1), 1) := by decide +kernel
theorem dX3_fixedBy_17 : decode cX3_fixedBy 17 = .ok (.invokevirtual 81, 3) := by decide +kernel
theorem dX3_fixedBy_20 : decode cX3_fixedBy 20 = .ok (.pop, 1) := by decide +kernel
theorem dX3_fixedBy_21 : decode cX3_fixedBy 21 = .ok (.iload_n 3, 1) := by decide +kernel
theorem dX3_fixedBy_22 : decode cX3_fixedBy 22 = .ok (.ifCond .ne 7, 3) := by decide +kernel
theorem dX3_fixedBy_25 : decode cX3_fixedBy 25 = .ok (.iload_n 2, 1) := by decide +kernel
theorem dX3_fixedBy_26 : decode cX3_fixedBy 26 = .ok (.goto 4, 3) := by decide +kernel
theorem dX3_fixedBy_29 : decode cX3_fixedBy 29 = .ok (.iconst (-1), 1) := by decide +kernel
theorem dX3_fixedBy_30 : decode cX3_fixedBy 30 = .ok (.ireturn, 1) := by decide +kernel
theorem dX4_init_0 : decode cX4_init 0 = .ok (.aload_n 0, 1) := by decide +kernel
theorem dX4_init_1 : decode cX4_init 1 = .ok (.invokespecial 3, 3) := by decide +kernel
theorem dX4_init_4 : decode cX4_init 4 = .ok (.aload_n 0, 1) := by decide +kernel
theorem dX4_init_5 : decode cX4_init 5 = .ok (.sipush 400, 3) := by decide +kernel
theorem dX4_init_8 : decode cX4_init 8 = .ok (.newarray .int, 2) := by decide +kernel
theorem dX4_init_10 : decode cX4_init 10 = .ok (.putfield 9, 3) := by decide +kernel
theorem dX4_init_13 : decode cX4_init 13 = .ok (.aload_n 0, 1) := by decide +kernel
theorem dX4_init_14 : decode cX4_init 14 = .ok (.sipush 400, 3) := by decide +kernel
theorem dX4_init_17 : decode cX4_init 17 = .ok (.newarray .int, 2) := by decide +kernel
theorem dX4_init_19 : decode cX4_init 19 = .ok (.putfield 15, 3) := by decide +kernel
theorem dX4_init_22 : decode cX4_init 22 = .ok (.aload_n 0, 1) := by decide +kernel
theorem dX4_init_23 : decode cX4_init 23 = .ok (.sipush 400, 3) := by decide +kernel
theorem dX4_init_26 : decode cX4_init 26 = .ok (.newarray .int, 2) := by decide +kernel
theorem dX4_init_28 : decode cX4_init 28 = .ok (.putfield 18, 3) := by decide +kernel
theorem dX4_init_31 : decode cX4_init 31 = .ok (.aload_n 0, 1) := by decide +kernel
theorem dX4_init_32 : decode cX4_init 32 = .ok (.sipush 400, 3) := by decide +kernel
theorem dX4_init_35 : decode cX4_init 35 = .ok (.newarray .int, 2) := by decide +kernel
theorem dX4_init_37 : decode cX4_init 37 = .ok (.putfield 21, 3) := by decide +kernel
theorem dX4_init_40 : decode cX4_init 40 = .ok (.aload_n 0, 1) := by decide +kernel
theorem dX4_init_41 : decode cX4_init 41 = .ok (.sipush 400, 3) := by decide +kernel
theorem dX4_init_44 : decode cX4_init 44 = .ok (.newarray .int, 2) := by decide +kernel
theorem dX4_init_46 : decode cX4_init 46 = .ok (.putfield 24, 3) := by decide +kernel
theorem dX4_init_49 : decode cX4_init 49 = .ok (.aload_n 0, 1) := by decide +kernel
theorem dX4_init_50 : decode cX4_init 50 = .ok (.sipush 400, 3) := by decide +kernel
theorem dX4_init_53 : decode cX4_init 53 = .ok (.newarray .int, 2) := by decide +kernel
theorem dX4_init_55 : decode cX4_init 55 = .ok (.putfield 27, 3) := by decide +kernel
theorem dX4_init_58 : decode cX4_init 58 = .ok (.aload_n 0, 1) := by decide +kernel
theorem dX4_init_59 : decode cX4_init 59 = .ok (.sipush 400, 3) := by decide +kernel
theorem dX4_init_62 : decode cX4_init 62 = .ok (.newarray .int, 2) := by decide +kernel
theorem dX4_init_64 : decode cX4_init 64 = .ok (.putfield 30, 3) := by decide +kernel
theorem dX4_init_67 : decode cX4_init 67 = .ok (.aload_n 0, 1) := by decide +kernel
theorem dX4_init_68 : decode cX4_init 68 = .ok (.sipush 400, 3) := by decide +kernel
theorem dX4_init_71 : decode cX4_init 71 = .ok (.newarray .int, 2) := by decide +kernel
theorem dX4_init_73 : decode cX4_init 73 = .ok (.putfield 33, 3) := by decide +kernel
theorem dX4_init_76 : decode cX4_init 76 = .ok (.aload_n 0, 1) := by decide +kernel
theorem dX4_init_77 : decode cX4_init 77 = .ok (.iconst 0, 1) := by decide +kernel
theorem dX4_init_78 : decode cX4_init 78 = .ok (.putfield 36, 3) := by decide +kernel
theorem dX4_init_81 : decode cX4_init 81 = .ok (.return_, 1) := by decide +kernel
section
variable {d : Nat} {M : gM} {Z : Option Value → gM → Prop} {a0 a1 a2 a3 a4 a5 a6 a7 a8 a9 a10 a11 a12 : Option Value} {v s0 s1 s2 s3 s4 s5 s6 s7 s8 s9 s10 s11 : Value} {x y w : Int32} {o b u1 u2 : Nat}
/-! 26: X2_beginRow ()I -/
theorem gd26 {pc : Nat} {r : Except _ _} (h : decode cX2_beginRow pc = r) : decode (gby 26) pc = r := h
theorem z26_0 : Run d 26 0 [some (.ref o), a1] [] M 0 0 Z ↔ Run d 26 1 [some (.ref o), a1] [.ref o] M 0 0 Z := R_local (gd26 dX2_beginRow_0) rfl rfl rfl
theorem z26_1 : Run d 26 1 [a0, a1] [.ref b] M 0 0 Z ↔ gObj M b 2 ∧ Call d 29 [.ref b] M (fun r M1 => Run d 26 4 [a0, a1] (r.toList ++ []) M1 0 0 Z) := R_callV (gd26 dX2_beginRow_1) rfl rfl rfl rfl rfl rfl gc_2_89 rfl rfl (Nat.le_of_ble_eq_true rfl) (Nat.le_of_ble_eq_true rfl) rfl rfl (Nat.le_of_ble_eq_true rfl) (Nat.le_of_ble_eq_true rfl)
theorem z26_4 : Run d 26 4 [a0, a1] [.int x] M 0 0 Z ↔ Run d 26 5 [a0, some (.int x)] [] M 0 0 Z := R_local (gd26 dX2_beginRow_4) rfl rfl rfl
theorem z26_5 : Run d 26 5 [a0, some (.int x)] [] M 0 0 Z ↔ Run d 26 6 [a0, some (.int x)] [.int x] M 0 0 Z := R_local (gd26 dX2_beginRow_5) rfl rfl rfl
theorem z26_6 : Run d 26 6 [a0, a1] [s0] M 0 0 Z ↔ Call d 8 [s0] M (fun r M1 => Run d 26 9 [a0, a1] (r.toList ++ []) M1 0 0 Z) := R_call (gd26 dX2_beginRow_6) rfl rfl rfl rfl rfl rfl gc_2_132 rfl (by decide) (Nat.le_of_ble_eq_true rfl) (Nat.le_of_ble_eq_true rfl) rfl rfl rfl (Nat.le_of_ble_eq_true rfl) (Nat.le_of_ble_eq_true rfl)
theorem z26_9 : Run d 26 9 [a0, a1] [.int x] M 0 0 Z ↔ (¬ x = 0 → Run d 26 14 [a0, a1] [] M 0 0 Z) ∧ (¬ (¬ x = 0) → Run d 26 12 [a0, a1] [] M 0 0 Z) := R_if (gd26 dX2_beginRow_9) (show gTgt 9 5 = some 14 by decide) gIf_ne
theorem z26_12 : Run d 26 12 [a0, a1] [] M 0 0 Z ↔ Run d 26 13 [a0, a1] [.int 4] M 0 0 Z := R_iconst (gd26 dX2_beginRow_12) (by decide)
theorem z26_13 : Run d 26 13 [a0, a1] [.int x] M 0 0 Z ↔ Z (some (.int x)) M := R_iret (gd26 dX2_beginRow_13) rfl
theorem z26_14 : Run d 26 14 [some (.ref o), a1] [] M 0 0 Z ↔ Run d 26 15 [some (.ref o), a1] [.ref o] M 0 0 Z := R_local (gd26 dX2_beginRow_14) rfl rfl rfl
theorem z26_15 : Run d 26 15 [a0, a1] [.ref o] M 0 0 Z ↔ gObj M o 2 ∧ Run d 26 18 [a0, a1] [.int (M.1 o 7)] M 0 0 Z := R_getI (gd26 dX2_beginRow_15) rfl gf_2_36 rfl
theorem z26_18 : Run d 26 18 [some (.ref o), a1] [s0] M 0 0 Z ↔ Run d 26 19 [some (.ref o), a1] [.ref o, s0] M 0 0 Z := R_local (gd26 dX2_beginRow_18) rfl rfl rfl
theorem z26_19 : Run d 26 19 [a0, a1] [.ref o, s0] M 0 0 Z ↔ gObj M o 2 ∧ Run d 26 22 [a0, a1] [va_rf (M.2.1 o 6), s0] M 0 0 Z := R_getR (gd26 dX2_beginRow_19) rfl gf_2_33 rfl
theorem z26_22 : Run d 26 22 [a0, a1] [.ref o, s0] M 0 0 Z ↔ (gTy M o).isSome = true ∧ Run d 26 23 [a0, a1] [.int (nI (gLen M o)), s0] M 0 0 Z := R_alen (gd26 dX2_beginRow_22)
theorem z26_23 : Run d 26 23 [a0, a1] [s1, s0] M 0 0 Z ↔ Call d 110 [s0, s1] M (fun r M1 => Run d 26 26 [a0, a1] (r.toList ++ []) M1 0 0 Z) := R_call (gd26 dX2_beginRow_23) rfl rfl rfl rfl rfl rfl gc_2_55 rfl (by decide) (Nat.le_of_ble_eq_true rfl) (Nat.le_of_ble_eq_true rfl) rfl rfl rfl (Nat.le_of_ble_eq_true rfl) (Nat.le_of_ble_eq_true rfl)
theorem z26_26 : Run d 26 26 [a0, a1] [.int x] M 0 0 Z ↔ (¬ x = 0 → Run d 26 31 [a0, a1] [] M 0 0 Z) ∧ (¬ (¬ x = 0) → Run d 26 29 [a0, a1] [] M 0 0 Z) := R_if (gd26 dX2_beginRow_26) (show gTgt 26 5 = some 31 by decide) gIf_ne
theorem z26_29 : Run d 26 29 [a0, a1] [] M 0 0 Z ↔ Run d 26 30 [a0, a1] [.int 0] M 0 0 Z := R_iconst (gd26 dX2_beginRow_29) (by decide)
theorem z26_30 : Run d 26 30 [a0, a1] [.int x] M 0 0 Z ↔ Z (some (.int x)) M := R_iret (gd26 dX2_beginRow_30) rfl
theorem z26_31 : Run d 26 31 [a0, some (.int x)] [] M 0 0 Z ↔ Run d 26 32 [a0, some (.int x)] [.int x] M 0 0 Z := R_local (gd26 dX2_beginRow_31) rfl rfl rfl
theorem z26_32 : Run d 26 32 [a0, a1] [.int x] M 0 0 Z ↔ (¬ x = 0 → Run d 26 50 [a0, a1] [] M 0 0 Z) ∧ (¬ (¬ x = 0) → Run d 26 35 [a0, a1] [] M 0 0 Z) := R_if (gd26 dX2_beginRow_32) (show gTgt 32 18 = some 50 by decide) gIf_ne
theorem z26_35 : Run d 26 35 [some (.ref o), a1] [] M 0 0 Z ↔ Run d 26 36 [some (.ref o), a1] [.ref o] M 0 0 Z := R_local (gd26 dX2_beginRow_35) rfl rfl rfl
theorem z26_36 : Run d 26 36 [some (.ref o), a1] [s0] M 0 0 Z ↔ Run d 26 37 [some (.ref o), a1] [.ref o, s0] M 0 0 Z := R_local (gd26 dX2_beginRow_36) rfl rfl rfl
theorem z26_37 : Run d 26 37 [a0, a1] [.ref o, s0] M 0 0 Z ↔ gObj M o 2 ∧ Run d 26 40 [a0, a1] [va_rf (M.2.1 o 6), s0] M 0 0 Z := R_getR (gd26 dX2_beginRow_37) rfl gf_2_33 rfl
theorem z26_40 : Run d 26 40 [some (.ref o), a1] [s1, s0] M 0 0 Z ↔ Run d 26 41 [some (.ref o), a1] [.ref o, s1, s0] M 0 0 Z := R_local (gd26 dX2_beginRow_40) rfl rfl rfl
theorem z26_41 : Run d 26 41 [a0, a1] [.ref o, s1, s0] M 0 0 Z ↔ gObj M o 2 ∧ Run d 26 44 [a0, a1] [.int (M.1 o 7), s1, s0] M 0 0 Z := R_getI (gd26 dX2_beginRow_41) rfl gf_2_36 rfl
theorem z26_44 : Run d 26 44 [a0, a1] [.int x, .ref o, s0] M 0 0 Z ↔ gAr M o 0 ∧ gIn x (gLen M o) = true ∧ Run d 26 45 [a0, a1] [.int (M.1 o x.toNatClampNeg), s0] M 0 0 Z := R_iald (gd26 dX2_beginRow_44)
theorem z26_45 : Run d 26 45 [a0, a1] [.int x, .ref o] M 0 0 Z ↔ gObj M o 2 ∧ Run d 26 48 [a0, a1] [] (gsI M o 7 x) 0 0 Z := R_putI (gd26 dX2_beginRow_45) rfl gf_2_36 (Or.inl rfl) rfl
theorem z26_48 : Run d 26 48 [a0, a1] [] M 0 0 Z ↔ Run d 26 49 [a0, a1] [.int 0] M 0 0 Z := R_iconst (gd26 dX2_beginRow_48) (by decide)
theorem z26_49 : Run d 26 49 [a0, a1] [.int x] M 0 0 Z ↔ Z (some (.int x)) M := R_iret (gd26 dX2_beginRow_49) rfl
theorem z26_50 : Run d 26 50 [some (.ref o), a1] [] M 0 0 Z ↔ Run d 26 51 [some (.ref o), a1] [.ref o] M 0 0 Z := R_local (gd26 dX2_beginRow_50) rfl rfl rfl
theorem z26_51 : Run d 26 51 [a0, a1] [.ref o] M 0 0 Z ↔ Run d 26 52 [a0, a1] [.ref o, .ref o] M 0 0 Z := R_arith (gd26 dX2_beginRow_51) rfl
theorem z26_52 : Run d 26 52 [a0, a1] [.ref o, s0] M 0 0 Z ↔ gObj M o 2 ∧ Run d 26 55 [a0, a1] [.int (M.1 o 7), s0] M 0 0 Z := R_getI (gd26 dX2_beginRow_52) rfl gf_2_36 rfl
theorem z26_55 : Run d 26 55 [a0, a1] [s1, s0] M 0 0 Z ↔ Run d 26 56 [a0, a1] [.int 1, s1, s0] M 0 0 Z := R_iconst (gd26 dX2_beginRow_55) (by decide)
theorem z26_56 : Run d 26 56 [a0, a1] [.int y, .int x, s0] M 0 0 Z ↔ Run d 26 57 [a0, a1] [.int (x + y), s0] M 0 0 Z := R_arith (gd26 dX2_beginRow_56) rfl
theorem z26_57 : Run d 26 57 [a0, a1] [.int x, .ref o] M 0 0 Z ↔ gObj M o 2 ∧ Run d 26 60 [a0, a1] [] (gsI M o 7 x) 0 0 Z := R_putI (gd26 dX2_beginRow_57) rfl gf_2_36 (Or.inl rfl) rfl
theorem z26_60 : Run d 26 60 [some (.ref o), a1] [] M 0 0 Z ↔ Run d 26 61 [some (.ref o), a1] [.ref o] M 0 0 Z := R_local (gd26 dX2_beginRow_60) rfl rfl rfl
theorem z26_61 : Run d 26 61 [a0, a1] [.ref o] M 0 0 Z ↔ gObj M o 2 ∧ Run d 26 64 [a0, a1] [.int (M.1 o 4)] M 0 0 Z := R_getI (gd26 dX2_beginRow_61) rfl gf_2_27 rfl
theorem z26_64 : Run d 26 64 [some (.ref o), a1] [s0] M 0 0 Z ↔ Run d 26 65 [some (.ref o), a1] [.ref o, s0] M 0 0 Z := R_local (gd26 dX2_beginRow_64) rfl rfl rfl
theorem z26_65 : Run d 26 65 [a0, a1] [.ref o, s0] M 0 0 Z ↔ gObj M o 2 ∧ Run d 26 68 [a0, a1] [va_rf (M.2.1 o 2), s0] M 0 0 Z := R_getR (gd26 dX2_beginRow_65) rfl gf_2_21 rfl
theorem z26_68 : Run d 26 68 [a0, a1] [.ref o, s0] M 0 0 Z ↔ (gTy M o).isSome = true ∧ Run d 26 69 [a0, a1] [.int (nI (gLen M o)), s0] M 0 0 Z := R_alen (gd26 dX2_beginRow_68)
theorem z26_69 : Run d 26 69 [a0, a1] [s1, s0] M 0 0 Z ↔ Call d 110 [s0, s1] M (fun r M1 => Run d 26 72 [a0, a1] (r.toList ++ []) M1 0 0 Z) := R_call (gd26 dX2_beginRow_69) rfl rfl rfl rfl rfl rfl gc_2_55 rfl (by decide) (Nat.le_of_ble_eq_true rfl) (Nat.le_of_ble_eq_true rfl) rfl rfl rfl (Nat.le_of_ble_eq_true rfl) (Nat.le_of_ble_eq_true rfl)
theorem z26_72 : Run d 26 72 [a0, a1] [.int x] M 0 0 Z ↔ (x = 0 → Run d 26 122 [a0, a1] [] M 0 0 Z) ∧ (¬ (x = 0) → Run d 26 75 [a0, a1] [] M 0 0 Z) := R_if (gd26 dX2_beginRow_72) (show gTgt 72 50 = some 122 by decide) gIf_eq
theorem z26_75 : Run d 26 75 [some (.ref o), a1] [] M 0 0 Z ↔ Run d 26 76 [some (.ref o), a1] [.ref o] M 0 0 Z := R_local (gd26 dX2_beginRow_75) rfl rfl rfl
theorem z26_76 : Run d 26 76 [a0, a1] [.ref o] M 0 0 Z ↔ gObj M o 2 ∧ Run d 26 79 [a0, a1] [.int (M.1 o 4)] M 0 0 Z := R_getI (gd26 dX2_beginRow_76) rfl gf_2_27 rfl
theorem z26_79 : Run d 26 79 [some (.ref o), a1] [s0] M 0 0 Z ↔ Run d 26 80 [some (.ref o), a1] [.ref o, s0] M 0 0 Z := R_local (gd26 dX2_beginRow_79) rfl rfl rfl
theorem z26_80 : Run d 26 80 [a0, a1] [.ref o, s0] M 0 0 Z ↔ gObj M o 2 ∧ Run d 26 83 [a0, a1] [va_rf (M.2.1 o 3), s0] M 0 0 Z := R_getR (gd26 dX2_beginRow_80) rfl gf_2_24 rfl
theorem z26_83 : Run d 26 83 [a0, a1] [.ref o, s0] M 0 0 Z ↔ (gTy M o).isSome = true ∧ Run d 26 84 [a0, a1] [.int (nI (gLen M o)), s0] M 0 0 Z := R_alen (gd26 dX2_beginRow_83)
theorem z26_84 : Run d 26 84 [a0, a1] [.int y, .int x] M 0 0 Z ↔ (y ≤ x → Run d 26 122 [a0, a1] [] M 0 0 Z) ∧ (¬ (y ≤ x) → Run d 26 87 [a0, a1] [] M 0 0 Z) := R_icmp (gd26 dX2_beginRow_84) (show gTgt 84 38 = some 122 by decide) gIf_ge
theorem z26_87 : Run d 26 87 [some (.ref o), a1] [] M 0 0 Z ↔ Run d 26 88 [some (.ref o), a1] [.ref o] M 0 0 Z := R_local (gd26 dX2_beginRow_87) rfl rfl rfl
theorem z26_88 : Run d 26 88 [a0, a1] [.ref o] M 0 0 Z ↔ gObj M o 2 ∧ Run d 26 91 [a0, a1] [va_rf (M.2.1 o 2)] M 0 0 Z := R_getR (gd26 dX2_beginRow_88) rfl gf_2_21 rfl
theorem z26_91 : Run d 26 91 [some (.ref o), a1] [s0] M 0 0 Z ↔ Run d 26 92 [some (.ref o), a1] [.ref o, s0] M 0 0 Z := R_local (gd26 dX2_beginRow_91) rfl rfl rfl
theorem z26_92 : Run d 26 92 [a0, a1] [.ref o, s0] M 0 0 Z ↔ gObj M o 2 ∧ Run d 26 95 [a0, a1] [.int (M.1 o 4), s0] M 0 0 Z := R_getI (gd26 dX2_beginRow_92) rfl gf_2_27 rfl
theorem z26_95 : Run d 26 95 [a0, some (.int x)] [s1, s0] M 0 0 Z ↔ Run d 26 96 [a0, some (.int x)] [.int x, s1, s0] M 0 0 Z := R_local (gd26 dX2_beginRow_95) rfl rfl rfl
theorem z26_96 : Run d 26 96 [a0, a1] [s2, s1, s0] M 0 0 Z ↔ Run d 26 97 [a0, a1] [.int 1, s2, s1, s0] M 0 0 Z := R_iconst (gd26 dX2_beginRow_96) (by decide)
theorem z26_97 : Run d 26 97 [a0, a1] [.int y, .int x, s1, s0] M 0 0 Z ↔ Run d 26 98 [a0, a1] [.int (x - y), s1, s0] M 0 0 Z := R_arith (gd26 dX2_beginRow_97) rfl
theorem z26_98 : Run d 26 98 [a0, a1] [.int y, .int x, .ref o] M 0 0 Z ↔ gAr M o 0 ∧ gIn x (gLen M o) = true ∧ Run d 26 99 [a0, a1] [] (gsI M o x.toNatClampNeg y) 0 0 Z := R_iast (gd26 dX2_beginRow_98)
theorem z26_99 : Run d 26 99 [some (.ref o), a1] [] M 0 0 Z ↔ Run d 26 100 [some (.ref o), a1] [.ref o] M 0 0 Z := R_local (gd26 dX2_beginRow_99) rfl rfl rfl
theorem z26_100 : Run d 26 100 [a0, a1] [.ref o] M 0 0 Z ↔ gObj M o 2 ∧ Run d 26 103 [a0, a1] [va_rf (M.2.1 o 3)] M 0 0 Z := R_getR (gd26 dX2_beginRow_100) rfl gf_2_24 rfl
theorem z26_103 : Run d 26 103 [some (.ref o), a1] [s0] M 0 0 Z ↔ Run d 26 104 [some (.ref o), a1] [.ref o, s0] M 0 0 Z := R_local (gd26 dX2_beginRow_103) rfl rfl rfl
theorem z26_104 : Run d 26 104 [a0, a1] [.ref o, s0] M 0 0 Z ↔ gObj M o 2 ∧ Run d 26 107 [a0, a1] [.int (M.1 o 4), s0] M 0 0 Z := R_getI (gd26 dX2_beginRow_104) rfl gf_2_27 rfl
theorem z26_107 : Run d 26 107 [some (.ref o), a1] [s1, s0] M 0 0 Z ↔ Run d 26 108 [some (.ref o), a1] [.ref o, s1, s0] M 0 0 Z := R_local (gd26 dX2_beginRow_107) rfl rfl rfl
theorem z26_108 : Run d 26 108 [a0, a1] [.ref o, s1, s0] M 0 0 Z ↔ gObj M o 2 ∧ Run d 26 111 [a0, a1] [.int (M.1 o 7), s1, s0] M 0 0 Z := R_getI (gd26 dX2_beginRow_108) rfl gf_2_36 rfl
theorem z26_111 : Run d 26 111 [a0, a1] [.int y, .int x, .ref o] M 0 0 Z ↔ gAr M o 0 ∧ gIn x (gLen M o) = true ∧ Run d 26 112 [a0, a1] [] (gsI M o x.toNatClampNeg y) 0 0 Z := R_iast (gd26 dX2_beginRow_111)
theorem z26_112 : Run d 26 112 [some (.ref o), a1] [] M 0 0 Z ↔ Run d 26 113 [some (.ref o), a1] [.ref o] M 0 0 Z := R_local (gd26 dX2_beginRow_112) rfl rfl rfl
theorem z26_113 : Run d 26 113 [a0, a1] [.ref o] M 0 0 Z ↔ Run d 26 114 [a0, a1] [.ref o, .ref o] M 0 0 Z := R_arith (gd26 dX2_beginRow_113) rfl
theorem z26_114 : Run d 26 114 [a0, a1] [.ref o, s0] M 0 0 Z ↔ gObj M o 2 ∧ Run d 26 117 [a0, a1] [.int (M.1 o 4), s0] M 0 0 Z := R_getI (gd26 dX2_beginRow_114) rfl gf_2_27 rfl
theorem z26_117 : Run d 26 117 [a0, a1] [s1, s0] M 0 0 Z ↔ Run d 26 118 [a0, a1] [.int 1, s1, s0] M 0 0 Z := R_iconst (gd26 dX2_beginRow_117) (by decide)
theorem z26_118 : Run d 26 118 [a0, a1] [.int y, .int x, s0] M 0 0 Z ↔ Run d 26 119 [a0, a1] [.int (x + y), s0] M 0 0 Z := R_arith (gd26 dX2_beginRow_118) rfl
theorem z26_119 : Run d 26 119 [a0, a1] [.int x, .ref o] M 0 0 Z ↔ gObj M o 2 ∧ Run d 26 122 [a0, a1] [] (gsI M o 4 x) 0 0 Z := R_putI (gd26 dX2_beginRow_119) rfl gf_2_27 (Or.inl rfl) rfl
theorem z26_122 : Run d 26 122 [a0, a1] [] M 0 0 Z ↔ Run d 26 123 [a0, a1] [.int 0] M 0 0 Z := R_iconst (gd26 dX2_beginRow_122) (by decide)
theorem z26_123 : Run d 26 123 [a0, a1] [.int x] M 0 0 Z ↔ Z (some (.int x)) M := R_iret (gd26 dX2_beginRow_123) rfl
theorem e26 : Call (d + 1) 26 [s0] M Z ↔ Run d 26 0 [some s0, none] [] M 0 0 Z := Call_iff (Nat.lt_of_lt_of_le (Nat.lt_succ_self 26) (Nat.le_of_ble_eq_true rfl)) (Nat.le_of_ble_eq_true rfl)
/-! 27: X2_endOfRow ()I -/
theorem gd27 {pc : Nat} {r : Except _ _} (h : decode cX2_endOfRow pc = r) : decode (gby 27) pc = r := h
theorem z27_0 : Run d 27 0 [some (.ref o), a1] [] M 0 0 Z ↔ Run d 27 1 [some (.ref o), a1] [.ref o] M 0 0 Z := R_local (gd27 dX2_endOfRow_0) rfl rfl rfl
theorem z27_1 : Run d 27 1 [a0, a1] [.ref o] M 0 0 Z ↔ gObj M o 2 ∧ Run d 27 4 [a0, a1] [.int (M.1 o 4)] M 0 0 Z := R_getI (gd27 dX2_endOfRow_1) rfl gf_2_27 rfl
theorem z27_4 : Run d 27 4 [a0, a1] [s0] M 0 0 Z ↔ Run d 27 5 [a0, a1] [.int 1, s0] M 0 0 Z := R_iconst (gd27 dX2_endOfRow_4) (by decide)
theorem z27_5 : Run d 27 5 [a0, a1] [.int y, .int x] M 0 0 Z ↔ Run d 27 6 [a0, a1] [.int (x - y)] M 0 0 Z := R_arith (gd27 dX2_endOfRow_5) rfl
theorem z27_6 : Run d 27 6 [a0, a1] [.int x] M 0 0 Z ↔ Run d 27 7 [a0, some (.int x)] [] M 0 0 Z := R_local (gd27 dX2_endOfRow_6) rfl rfl rfl
theorem z27_7 : Run d 27 7 [a0, some (.int x)] [] M 0 0 Z ↔ Run d 27 8 [a0, some (.int x)] [.int x] M 0 0 Z := R_local (gd27 dX2_endOfRow_7) rfl rfl rfl
theorem z27_8 : Run d 27 8 [some (.ref o), a1] [s0] M 0 0 Z ↔ Run d 27 9 [some (.ref o), a1] [.ref o, s0] M 0 0 Z := R_local (gd27 dX2_endOfRow_8) rfl rfl rfl
theorem z27_9 : Run d 27 9 [a0, a1] [.ref o, s0] M 0 0 Z ↔ gObj M o 2 ∧ Run d 27 12 [a0, a1] [va_rf (M.2.1 o 2), s0] M 0 0 Z := R_getR (gd27 dX2_endOfRow_9) rfl gf_2_21 rfl
theorem z27_12 : Run d 27 12 [a0, a1] [.ref o, s0] M 0 0 Z ↔ (gTy M o).isSome = true ∧ Run d 27 13 [a0, a1] [.int (nI (gLen M o)), s0] M 0 0 Z := R_alen (gd27 dX2_endOfRow_12)
theorem z27_13 : Run d 27 13 [a0, a1] [s1, s0] M 0 0 Z ↔ Call d 110 [s0, s1] M (fun r M1 => Run d 27 16 [a0, a1] (r.toList ++ []) M1 0 0 Z) := R_call (gd27 dX2_endOfRow_13) rfl rfl rfl rfl rfl rfl gc_2_55 rfl (by decide) (Nat.le_of_ble_eq_true rfl) (Nat.le_of_ble_eq_true rfl) rfl rfl rfl (Nat.le_of_ble_eq_true rfl) (Nat.le_of_ble_eq_true rfl)
theorem z27_16 : Run d 27 16 [a0, a1] [.int x] M 0 0 Z ↔ (x = 0 → Run d 27 28 [a0, a1] [] M 0 0 Z) ∧ (¬ (x = 0) → Run d 27 19 [a0, a1] [] M 0 0 Z) := R_if (gd27 dX2_endOfRow_16) (show gTgt 16 12 = some 28 by decide) gIf_eq
theorem z27_19 : Run d 27 19 [a0, some (.int x)] [] M 0 0 Z ↔ Run d 27 20 [a0, some (.int x)] [.int x] M 0 0 Z := R_local (gd27 dX2_endOfRow_19) rfl rfl rfl
theorem z27_20 : Run d 27 20 [some (.ref o), a1] [s0] M 0 0 Z ↔ Run d 27 21 [some (.ref o), a1] [.ref o, s0] M 0 0 Z := R_local (gd27 dX2_endOfRow_20) rfl rfl rfl
theorem z27_21 : Run d 27 21 [a0, a1] [.ref o, s0] M 0 0 Z ↔ gObj M o 2 ∧ Run d 27 24 [a0, a1] [va_rf (M.2.1 o 3), s0] M 0 0 Z := R_getR (gd27 dX2_endOfRow_21) rfl gf_2_24 rfl
theorem z27_24 : Run d 27 24 [a0, a1] [.ref o, s0] M 0 0 Z ↔ (gTy M o).isSome = true ∧ Run d 27 25 [a0, a1] [.int (nI (gLen M o)), s0] M 0 0 Z := R_alen (gd27 dX2_endOfRow_24)
theorem z27_25 : Run d 27 25 [a0, a1] [.int y, .int x] M 0 0 Z ↔ (x < y → Run d 27 30 [a0, a1] [] M 0 0 Z) ∧ (¬ (x < y) → Run d 27 28 [a0, a1] [] M 0 0 Z) := R_icmp (gd27 dX2_endOfRow_25) (show gTgt 25 5 = some 30 by decide) gIf_lt
theorem z27_28 : Run d 27 28 [a0, a1] [] M 0 0 Z ↔ Run d 27 29 [a0, a1] [.int 0] M 0 0 Z := R_iconst (gd27 dX2_endOfRow_28) (by decide)
theorem z27_29 : Run d 27 29 [a0, a1] [.int x] M 0 0 Z ↔ Z (some (.int x)) M := R_iret (gd27 dX2_endOfRow_29) rfl
theorem z27_30 : Run d 27 30 [some (.ref o), a1] [] M 0 0 Z ↔ Run d 27 31 [some (.ref o), a1] [.ref o] M 0 0 Z := R_local (gd27 dX2_endOfRow_30) rfl rfl rfl
theorem z27_31 : Run d 27 31 [a0, a1] [.ref o] M 0 0 Z ↔ gObj M o 2 ∧ Run d 27 34 [a0, a1] [va_rf (M.2.1 o 2)] M 0 0 Z := R_getR (gd27 dX2_endOfRow_31) rfl gf_2_21 rfl
theorem z27_34 : Run d 27 34 [a0, some (.int x)] [s0] M 0 0 Z ↔ Run d 27 35 [a0, some (.int x)] [.int x, s0] M 0 0 Z := R_local (gd27 dX2_endOfRow_34) rfl rfl rfl
theorem z27_35 : Run d 27 35 [a0, a1] [.int x, .ref o] M 0 0 Z ↔ gAr M o 0 ∧ gIn x (gLen M o) = true ∧ Run d 27 36 [a0, a1] [.int (M.1 o x.toNatClampNeg)] M 0 0 Z := R_iald (gd27 dX2_endOfRow_35)
theorem z27_36 : Run d 27 36 [a0, a1] [.int x] M 0 0 Z ↔ (¬ x = 0 → Run d 27 52 [a0, a1] [] M 0 0 Z) ∧ (¬ (¬ x = 0) → Run d 27 39 [a0, a1] [] M 0 0 Z) := R_if (gd27 dX2_endOfRow_36) (show gTgt 36 16 = some 52 by decide) gIf_ne
theorem z27_39 : Run d 27 39 [some (.ref o), a1] [] M 0 0 Z ↔ Run d 27 40 [some (.ref o), a1] [.ref o] M 0 0 Z := R_local (gd27 dX2_endOfRow_39) rfl rfl rfl
theorem z27_40 : Run d 27 40 [a0, a1] [.ref o] M 0 0 Z ↔ Run d 27 41 [a0, a1] [.ref o, .ref o] M 0 0 Z := R_arith (gd27 dX2_endOfRow_40) rfl
theorem z27_41 : Run d 27 41 [a0, a1] [.ref o, s0] M 0 0 Z ↔ gObj M o 2 ∧ Run d 27 44 [a0, a1] [.int (M.1 o 4), s0] M 0 0 Z := R_getI (gd27 dX2_endOfRow_41) rfl gf_2_27 rfl
theorem z27_44 : Run d 27 44 [a0, a1] [s1, s0] M 0 0 Z ↔ Run d 27 45 [a0, a1] [.int 1, s1, s0] M 0 0 Z := R_iconst (gd27 dX2_endOfRow_44) (by decide)
theorem z27_45 : Run d 27 45 [a0, a1] [.int y, .int x, s0] M 0 0 Z ↔ Run d 27 46 [a0, a1] [.int (x - y), s0] M 0 0 Z := R_arith (gd27 dX2_endOfRow_45) rfl
theorem z27_46 : Run d 27 46 [a0, a1] [.int x, .ref o] M 0 0 Z ↔ gObj M o 2 ∧ Run d 27 49 [a0, a1] [] (gsI M o 4 x) 0 0 Z := R_putI (gd27 dX2_endOfRow_46) rfl gf_2_27 (Or.inl rfl) rfl
theorem z27_49 : Run d 27 49 [a0, a1] [] M 0 0 Z ↔ Run d 27 72 [a0, a1] [] M 0 0 Z := R_goto (gd27 dX2_endOfRow_49) (show gTgt 49 23 = some 72 by decide)
theorem z27_52 : Run d 27 52 [some (.ref o), a1] [] M 0 0 Z ↔ Run d 27 53 [some (.ref o), a1] [.ref o] M 0 0 Z := R_local (gd27 dX2_endOfRow_52) rfl rfl rfl
theorem z27_53 : Run d 27 53 [a0, a1] [.ref o] M 0 0 Z ↔ gObj M o 2 ∧ Run d 27 56 [a0, a1] [va_rf (M.2.1 o 2)] M 0 0 Z := R_getR (gd27 dX2_endOfRow_53) rfl gf_2_21 rfl
theorem z27_56 : Run d 27 56 [a0, some (.int x)] [s0] M 0 0 Z ↔ Run d 27 57 [a0, some (.int x)] [.int x, s0] M 0 0 Z := R_local (gd27 dX2_endOfRow_56) rfl rfl rfl
theorem z27_57 : Run d 27 57 [a0, a1] [.int y, .ref o] M 0 0 Z ↔ Run d 27 58 [a0, a1] [.int y, .ref o, .int y, .ref o] M 0 0 Z := R_arith (gd27 dX2_endOfRow_57) rfl
theorem z27_58 : Run d 27 58 [a0, a1] [.int x, .ref o, s1, s0] M 0 0 Z ↔ gAr M o 0 ∧ gIn x (gLen M o) = true ∧ Run d 27 59 [a0, a1] [.int (M.1 o x.toNatClampNeg), s1, s0] M 0 0 Z := R_iald (gd27 dX2_endOfRow_58)
theorem z27_59 : Run d 27 59 [a0, a1] [s2, s1, s0] M 0 0 Z ↔ Run d 27 60 [a0, a1] [.int 1, s2, s1, s0] M 0 0 Z := R_iconst (gd27 dX2_endOfRow_59) (by decide)
theorem z27_60 : Run d 27 60 [a0, a1] [.int y, .int x, s1, s0] M 0 0 Z ↔ Run d 27 61 [a0, a1] [.int (x - y), s1, s0] M 0 0 Z := R_arith (gd27 dX2_endOfRow_60) rfl
theorem z27_61 : Run d 27 61 [a0, a1] [.int y, .int x, .ref o] M 0 0 Z ↔ gAr M o 0 ∧ gIn x (gLen M o) = true ∧ Run d 27 62 [a0, a1] [] (gsI M o x.toNatClampNeg y) 0 0 Z := R_iast (gd27 dX2_endOfRow_61)
theorem z27_62 : Run d 27 62 [some (.ref o), a1] [] M 0 0 Z ↔ Run d 27 63 [some (.ref o), a1] [.ref o] M 0 0 Z := R_local (gd27 dX2_endOfRow_62) rfl rfl rfl
theorem z27_63 : Run d 27 63 [some (.ref o), a1] [s0] M 0 0 Z ↔ Run d 27 64 [some (.ref o), a1] [.ref o, s0] M 0 0 Z := R_local (gd27 dX2_endOfRow_63) rfl rfl rfl
theorem z27_64 : Run d 27 64 [a0, a1] [.ref o, s0] M 0 0 Z ↔ gObj M o 2 ∧ Run d 27 67 [a0, a1] [va_rf (M.2.1 o 3), s0] M 0 0 Z := R_getR (gd27 dX2_endOfRow_64) rfl gf_2_24 rfl
theorem z27_67 : Run d 27 67 [a0, some (.int x)] [s1, s0] M 0 0 Z ↔ Run d 27 68 [a0, some (.int x)] [.int x, s1, s0] M 0 0 Z := R_local (gd27 dX2_endOfRow_67) rfl rfl rfl
theorem z27_68 : Run d 27 68 [a0, a1] [.int x, .ref o, s0] M 0 0 Z ↔ gAr M o 0 ∧ gIn x (gLen M o) = true ∧ Run d 27 69 [a0, a1] [.int (M.1 o x.toNatClampNeg), s0] M 0 0 Z := R_iald (gd27 dX2_endOfRow_68)
theorem z27_69 : Run d 27 69 [a0, a1] [.int x, .ref o] M 0 0 Z ↔ gObj M o 2 ∧ Run d 27 72 [a0, a1] [] (gsI M o 7 x) 0 0 Z := R_putI (gd27 dX2_endOfRow_69) rfl gf_2_36 (Or.inl rfl) rfl
theorem z27_72 : Run d 27 72 [a0, a1] [] M 0 0 Z ↔ Run d 27 73 [a0, a1] [.int 0] M 0 0 Z := R_iconst (gd27 dX2_endOfRow_72) (by decide)
theorem z27_73 : Run d 27 73 [a0, a1] [.int x] M 0 0 Z ↔ Z (some (.int x)) M := R_iret (gd27 dX2_endOfRow_73) rfl
theorem e27 : Call (d + 1) 27 [s0] M Z ↔ Run d 27 0 [some s0, none] [] M 0 0 Z := Call_iff (Nat.lt_of_lt_of_le (Nat.lt_succ_self 27) (Nat.le_of_ble_eq_true rfl)) (Nat.le_of_ble_eq_true rfl)
/-! 28: X2_push (I)I -/
theorem gd28 {pc : Nat} {r : Except _ _} (h : decode cX2_push pc = r) : decode (gby 28) pc = r := h
theorem z28_0 : Run d 28 0 [some (.ref o), a1] [] M 0 0 Z ↔ Run d 28 1 [some (.ref o), a1] [.ref o] M 0 0 Z := R_local (gd28 dX2_push_0) rfl rfl rfl
theorem z28_1 : Run d 28 1 [a0, a1] [.ref o] M 0 0 Z ↔ gObj M o 2 ∧ Run d 28 4 [a0, a1] [.int (M.1 o 1)] M 0 0 Z := R_getI (gd28 dX2_push_1) rfl gf_2_15 rfl
theorem z28_4 : Run d 28 4 [some (.ref o), a1] [s0] M 0 0 Z ↔ Run d 28 5 [some (.ref o), a1] [.ref o, s0] M 0 0 Z := R_local (gd28 dX2_push_4) rfl rfl rfl
theorem z28_5 : Run d 28 5 [a0, a1] [.ref o, s0] M 0 0 Z ↔ gObj M o 2 ∧ Run d 28 8 [a0, a1] [va_rf (M.2.1 o 0), s0] M 0 0 Z := R_getR (gd28 dX2_push_5) rfl gf_2_9 rfl
theorem z28_8 : Run d 28 8 [a0, a1] [.ref o, s0] M 0 0 Z ↔ (gTy M o).isSome = true ∧ Run d 28 9 [a0, a1] [.int (nI (gLen M o)), s0] M 0 0 Z := R_alen (gd28 dX2_push_8)
theorem z28_9 : Run d 28 9 [a0, a1] [s1, s0] M 0 0 Z ↔ Call d 110 [s0, s1] M (fun r M1 => Run d 28 12 [a0, a1] (r.toList ++ []) M1 0 0 Z) := R_call (gd28 dX2_push_9) rfl rfl rfl rfl rfl rfl gc_2_55 rfl (by decide) (Nat.le_of_ble_eq_true rfl) (Nat.le_of_ble_eq_true rfl) rfl rfl rfl (Nat.le_of_ble_eq_true rfl) (Nat.le_of_ble_eq_true rfl)
theorem z28_12 : Run d 28 12 [a0, a1] [.int x] M 0 0 Z ↔ (x = 0 → Run d 28 35 [a0, a1] [] M 0 0 Z) ∧ (¬ (x = 0) → Run d 28 15 [a0, a1] [] M 0 0 Z) := R_if (gd28 dX2_push_12) (show gTgt 12 23 = some 35 by decide) gIf_eq
theorem z28_15 : Run d 28 15 [some (.ref o), a1] [] M 0 0 Z ↔ Run d 28 16 [some (.ref o), a1] [.ref o] M 0 0 Z := R_local (gd28 dX2_push_15) rfl rfl rfl
theorem z28_16 : Run d 28 16 [a0, a1] [.ref o] M 0 0 Z ↔ gObj M o 2 ∧ Run d 28 19 [a0, a1] [va_rf (M.2.1 o 0)] M 0 0 Z := R_getR (gd28 dX2_push_16) rfl gf_2_9 rfl
theorem z28_19 : Run d 28 19 [some (.ref o), a1] [s0] M 0 0 Z ↔ Run d 28 20 [some (.ref o), a1] [.ref o, s0] M 0 0 Z := R_local (gd28 dX2_push_19) rfl rfl rfl
theorem z28_20 : Run d 28 20 [a0, a1] [.ref o, s0] M 0 0 Z ↔ gObj M o 2 ∧ Run d 28 23 [a0, a1] [.int (M.1 o 1), s0] M 0 0 Z := R_getI (gd28 dX2_push_20) rfl gf_2_15 rfl
theorem z28_23 : Run d 28 23 [a0, some (.int x)] [s1, s0] M 0 0 Z ↔ Run d 28 24 [a0, some (.int x)] [.int x, s1, s0] M 0 0 Z := R_local (gd28 dX2_push_23) rfl rfl rfl
theorem z28_24 : Run d 28 24 [a0, a1] [.int y, .int x, .ref o] M 0 0 Z ↔ gAr M o 0 ∧ gIn x (gLen M o) = true ∧ Run d 28 25 [a0, a1] [] (gsI M o x.toNatClampNeg y) 0 0 Z := R_iast (gd28 dX2_push_24)
theorem z28_25 : Run d 28 25 [some (.ref o), a1] [] M 0 0 Z ↔ Run d 28 26 [some (.ref o), a1] [.ref o] M 0 0 Z := R_local (gd28 dX2_push_25) rfl rfl rfl
theorem z28_26 : Run d 28 26 [a0, a1] [.ref o] M 0 0 Z ↔ Run d 28 27 [a0, a1] [.ref o, .ref o] M 0 0 Z := R_arith (gd28 dX2_push_26) rfl
theorem z28_27 : Run d 28 27 [a0, a1] [.ref o, s0] M 0 0 Z ↔ gObj M o 2 ∧ Run d 28 30 [a0, a1] [.int (M.1 o 1), s0] M 0 0 Z := R_getI (gd28 dX2_push_27) rfl gf_2_15 rfl
theorem z28_30 : Run d 28 30 [a0, a1] [s1, s0] M 0 0 Z ↔ Run d 28 31 [a0, a1] [.int 1, s1, s0] M 0 0 Z := R_iconst (gd28 dX2_push_30) (by decide)
theorem z28_31 : Run d 28 31 [a0, a1] [.int y, .int x, s0] M 0 0 Z ↔ Run d 28 32 [a0, a1] [.int (x + y), s0] M 0 0 Z := R_arith (gd28 dX2_push_31) rfl
theorem z28_32 : Run d 28 32 [a0, a1] [.int x, .ref o] M 0 0 Z ↔ gObj M o 2 ∧ Run d 28 35 [a0, a1] [] (gsI M o 1 x) 0 0 Z := R_putI (gd28 dX2_push_32) rfl gf_2_15 (Or.inl rfl) rfl
theorem z28_35 : Run d 28 35 [a0, a1] [] M 0 0 Z ↔ Run d 28 36 [a0, a1] [.int 0] M 0 0 Z := R_iconst (gd28 dX2_push_35) (by decide)
theorem z28_36 : Run d 28 36 [a0, a1] [.int x] M 0 0 Z ↔ Z (some (.int x)) M := R_iret (gd28 dX2_push_36) rfl
theorem e28 : Call (d + 1) 28 [s0, s1] M Z ↔ Run d 28 0 [some s0, some s1] [] M 0 0 Z := Call_iff (Nat.lt_of_lt_of_le (Nat.lt_succ_self 28) (Nat.le_of_ble_eq_true rfl)) (Nat.le_of_ble_eq_true rfl)
/-! 29: X2_pop ()I -/
theorem gd29 {pc : Nat} {r : Except _ _} (h : decode cX2_pop pc = r) : decode (gby 29) pc = r := h
theorem z29_0 : Run d 29 0 [some (.ref o)] [] M 0 0 Z ↔ Run d 29 1 [some (.ref o)] [.ref o] M 0 0 Z := R_local (gd29 dX2_pop_0) rfl rfl rfl
theorem z29_1 : Run d 29 1 [a0] [.ref o] M 0 0 Z ↔ gObj M o 2 ∧ Run d 29 4 [a0] [.int (M.1 o 1)] M 0 0 Z := R_getI (gd29 dX2_pop_1) rfl gf_2_15 rfl
theorem z29_4 : Run d 29 4 [a0] [s0] M 0 0 Z ↔ Run d 29 5 [a0] [.int 1, s0] M 0 0 Z := R_iconst (gd29 dX2_pop_4) (by decide)
theorem z29_5 : Run d 29 5 [a0] [.int y, .int x] M 0 0 Z ↔ Run d 29 6 [a0] [.int (x - y)] M 0 0 Z := R_arith (gd29 dX2_pop_5) rfl
theorem z29_6 : Run d 29 6 [some (.ref o)] [s0] M 0 0 Z ↔ Run d 29 7 [some (.ref o)] [.ref o, s0] M 0 0 Z := R_local (gd29 dX2_pop_6) rfl rfl rfl
theorem z29_7 : Run d 29 7 [a0] [.ref o, s0] M 0 0 Z ↔ gObj M o 2 ∧ Run d 29 10 [a0] [va_rf (M.2.1 o 0), s0] M 0 0 Z := R_getR (gd29 dX2_pop_7) rfl gf_2_9 rfl
theorem z29_10 : Run d 29 10 [a0] [.ref o, s0] M 0 0 Z ↔ (gTy M o).isSome = true ∧ Run d 29 11 [a0] [.int (nI (gLen M o)), s0] M 0 0 Z := R_alen (gd29 dX2_pop_10)
theorem z29_11 : Run d 29 11 [a0] [s1, s0] M 0 0 Z ↔ Call d 110 [s0, s1] M (fun r M1 => Run d 29 14 [a0] (r.toList ++ []) M1 0 0 Z) := R_call (gd29 dX2_pop_11) rfl rfl rfl rfl rfl rfl gc_2_55 rfl (by decide) (Nat.le_of_ble_eq_true rfl) (Nat.le_of_ble_eq_true rfl) rfl rfl rfl (Nat.le_of_ble_eq_true rfl) (Nat.le_of_ble_eq_true rfl)
theorem z29_14 : Run d 29 14 [a0] [.int x] M 0 0 Z ↔ (¬ x = 0 → Run d 29 19 [a0] [] M 0 0 Z) ∧ (¬ (¬ x = 0) → Run d 29 17 [a0] [] M 0 0 Z) := R_if (gd29 dX2_pop_14) (show gTgt 14 5 = some 19 by decide) gIf_ne
theorem z29_17 : Run d 29 17 [a0] [] M 0 0 Z ↔ Run d 29 18 [a0] [.int 0] M 0 0 Z := R_iconst (gd29 dX2_pop_17) (by decide)
theorem z29_18 : Run d 29 18 [a0] [.int x] M 0 0 Z ↔ Z (some (.int x)) M := R_iret (gd29 dX2_pop_18) rfl
theorem z29_19 : Run d 29 19 [some (.ref o)] [] M 0 0 Z ↔ Run d 29 20 [some (.ref o)] [.ref o] M 0 0 Z := R_local (gd29 dX2_pop_19) rfl rfl rfl
theorem z29_20 : Run d 29 20 [a0] [.ref o] M 0 0 Z ↔ Run d 29 21 [a0] [.ref o, .ref o] M 0 0 Z := R_arith (gd29 dX2_pop_20) rfl
theorem z29_21 : Run d 29 21 [a0] [.ref o, s0] M 0 0 Z ↔ gObj M o 2 ∧ Run d 29 24 [a0] [.int (M.1 o 1), s0] M 0 0 Z := R_getI (gd29 dX2_pop_21) rfl gf_2_15 rfl
theorem z29_24 : Run d 29 24 [a0] [s1, s0] M 0 0 Z ↔ Run d 29 25 [a0] [.int 1, s1, s0] M 0 0 Z := R_iconst (gd29 dX2_pop_24) (by decide)
theorem z29_25 : Run d 29 25 [a0] [.int y, .int x, s0] M 0 0 Z ↔ Run d 29 26 [a0] [.int (x - y), s0] M 0 0 Z := R_arith (gd29 dX2_pop_25) rfl
theorem z29_26 : Run d 29 26 [a0] [.int x, .ref o] M 0 0 Z ↔ gObj M o 2 ∧ Run d 29 29 [a0] [] (gsI M o 1 x) 0 0 Z := R_putI (gd29 dX2_pop_26) rfl gf_2_15 (Or.inl rfl) rfl
theorem z29_29 : Run d 29 29 [some (.ref o)] [] M 0 0 Z ↔ Run d 29 30 [some (.ref o)] [.ref o] M 0 0 Z := R_local (gd29 dX2_pop_29) rfl rfl rfl
theorem z29_30 : Run d 29 30 [a0] [.ref o] M 0 0 Z ↔ gObj M o 2 ∧ Run d 29 33 [a0] [va_rf (M.2.1 o 0)] M 0 0 Z := R_getR (gd29 dX2_pop_30) rfl gf_2_9 rfl
theorem z29_33 : Run d 29 33 [some (.ref o)] [s0] M 0 0 Z ↔ Run d 29 34 [some (.ref o)] [.ref o, s0] M 0 0 Z := R_local (gd29 dX2_pop_33) rfl rfl rfl
theorem z29_34 : Run d 29 34 [a0] [.ref o, s0] M 0 0 Z ↔ gObj M o 2 ∧ Run d 29 37 [a0] [.int (M.1 o 1), s0] M 0 0 Z := R_getI (gd29 dX2_pop_34) rfl gf_2_15 rfl
theorem z29_37 : Run d 29 37 [a0] [.int x, .ref o] M 0 0 Z ↔ gAr M o 0 ∧ gIn x (gLen M o) = true ∧ Run d 29 38 [a0] [.int (M.1 o x.toNatClampNeg)] M 0 0 Z := R_iald (gd29 dX2_pop_37)
theorem z29_38 : Run d 29 38 [a0] [.int x] M 0 0 Z ↔ Z (some (.int x)) M := R_iret (gd29 dX2_pop_38) rfl
theorem e29 : Call (d + 1) 29 [s0] M Z ↔ Run d 29 0 [some s0] [] M 0 0 Z := Call_iff (Nat.lt_of_lt_of_le (Nat.lt_succ_self 29) (Nat.le_of_ble_eq_true rfl)) (Nat.le_of_ble_eq_true rfl)
/-! 30: X3_init ()V -/
theorem gd30 {pc : Nat} {r : Except _ _} (h : decode cX3_init pc = r) : decode (gby 30) pc = r := h
theorem z30_0 : Run d 30 0 [some (.ref o)] [] M 0 0 Z ↔ Run d 30 1 [some (.ref o)] [.ref o] M 0 0 Z := R_local (gd30 dX3_init_0) rfl rfl rfl
theorem z30_1 : Run d 30 1 [a0] [.ref o] M 0 0 Z ↔ Run d 30 4 [a0] [] M 0 0 Z := R_prim (gd30 dX3_init_1) rfl rfl rfl rfl rfl rfl gc_3_3 rfl (by decide) rfl (Nat.le_of_ble_eq_true rfl)
theorem z30_4 : Run d 30 4 [some (.ref o)] [] M 0 0 Z ↔ Run d 30 5 [some (.ref o)] [.ref o] M 0 0 Z := R_local (gd30 dX3_init_4) rfl rfl rfl
theorem z30_5 : Run d 30 5 [a0] [s0] M 0 0 Z ↔ Run d 30 7 [a0] [.int 48, s0] M 0 0 Z := R_bipush (gd30 dX3_init_5) (by decide)
theorem z30_7 : Run d 30 7 [a0] [.int 48, s0] M 0 0 Z ↔ Run d 30 9 [a0] [.ref M.2.2.length, s0] (gNew M (.inr (0, 48))) 1 48 Z := R_newa2 (gd30 dX3_init_7) (t := 0) (by decide) (n := 48) (by decide) (by decide)
theorem z30_9 : Run d 30 9 [a0] [v, .ref o] M 1 48 Z ↔ gObj M o 3 ∧ gisRef v = true ∧ Run d 30 12 [a0] [] (gsR M o 0 (gU v)) 1 48 Z := R_putR (gd30 dX3_init_9) rfl gf_3_9 (Or.inr ⟨rfl, rfl⟩) rfl
theorem z30_12 : Run d 30 12 [some (.ref o)] [] M 1 48 Z ↔ Run d 30 13 [some (.ref o)] [.ref o] M 1 48 Z := R_local (gd30 dX3_init_12) rfl rfl rfl
theorem z30_13 : Run d 30 13 [a0] [s0] M 1 48 Z ↔ Run d 30 14 [a0] [.int 0, s0] M 1 48 Z := R_iconst (gd30 dX3_init_13) (by decide)
theorem z30_14 : Run d 30 14 [a0] [.int x, .ref o] M 1 48 Z ↔ gObj M o 3 ∧ Run d 30 17 [a0] [] (gsI M o 1 x) 1 48 Z := R_putI (gd30 dX3_init_14) rfl gf_3_15 (Or.inl rfl) rfl
theorem z30_17 : Run d 30 17 [some (.ref o)] [] M 1 48 Z ↔ Run d 30 18 [some (.ref o)] [.ref o] M 1 48 Z := R_local (gd30 dX3_init_17) rfl rfl rfl
theorem z30_18 : Run d 30 18 [a0] [s0] M 1 48 Z ↔ Run d 30 21 [a0] [.int 400, s0] M 1 48 Z := R_sipush (gd30 dX3_init_18) (by decide)
theorem z30_21 : Run d 30 21 [a0] [.int 400, s0] M 1 48 Z ↔ Run d 30 23 [a0] [.ref M.2.2.length, s0] (gNew M (.inr (2, 400))) 2 448 Z := R_newa2 (gd30 dX3_init_21) (t := 2) (by decide) (n := 400) (by decide) (by decide)
theorem z30_23 : Run d 30 23 [a0] [v, .ref o] M 2 448 Z ↔ gObj M o 3 ∧ gisRef v = true ∧ Run d 30 26 [a0] [] (gsR M o 2 (gU v)) 2 448 Z := R_putR (gd30 dX3_init_23) rfl gf_3_19 (Or.inr ⟨rfl, rfl⟩) rfl
theorem z30_26 : Run d 30 26 [some (.ref o)] [] M 2 448 Z ↔ Run d 30 27 [some (.ref o)] [.ref o] M 2 448 Z := R_local (gd30 dX3_init_26) rfl rfl rfl
theorem z30_27 : Run d 30 27 [a0] [s0] M 2 448 Z ↔ Run d 30 30 [a0] [.int 400, s0] M 2 448 Z := R_sipush (gd30 dX3_init_27) (by decide)
theorem z30_30 : Run d 30 30 [a0] [.int 400, s0] M 2 448 Z ↔ Run d 30 32 [a0] [.ref M.2.2.length, s0] (gNew M (.inr (0, 400))) 3 848 Z := R_newa2 (gd30 dX3_init_30) (t := 0) (by decide) (n := 400) (by decide) (by decide)
theorem z30_32 : Run d 30 32 [a0] [v, .ref o] M 3 848 Z ↔ gObj M o 3 ∧ gisRef v = true ∧ Run d 30 35 [a0] [] (gsR M o 3 (gU v)) 3 848 Z := R_putR (gd30 dX3_init_32) rfl gf_3_23 (Or.inr ⟨rfl, rfl⟩) rfl
theorem z30_35 : Run d 30 35 [some (.ref o)] [] M 3 848 Z ↔ Run d 30 36 [some (.ref o)] [.ref o] M 3 848 Z := R_local (gd30 dX3_init_35) rfl rfl rfl
theorem z30_36 : Run d 30 36 [a0] [s0] M 3 848 Z ↔ Run d 30 37 [a0] [.int 0, s0] M 3 848 Z := R_iconst (gd30 dX3_init_36) (by decide)
theorem z30_37 : Run d 30 37 [a0] [.int x, .ref o] M 3 848 Z ↔ gObj M o 3 ∧ Run d 30 40 [a0] [] (gsI M o 4 x) 3 848 Z := R_putI (gd30 dX3_init_37) rfl gf_3_26 (Or.inl rfl) rfl
theorem z30_40 : Run d 30 40 [some (.ref o)] [] M 3 848 Z ↔ Run d 30 41 [some (.ref o)] [.ref o] M 3 848 Z := R_local (gd30 dX3_init_40) rfl rfl rfl
theorem z30_41 : Run d 30 41 [a0] [s0] M 3 848 Z ↔ Run d 30 43 [a0] [.int 64, s0] M 3 848 Z := R_bipush (gd30 dX3_init_41) (by decide)
theorem z30_43 : Run d 30 43 [a0] [.int 64, s0] M 3 848 Z ↔ Run d 30 45 [a0] [.ref M.2.2.length, s0] (gNew M (.inr (0, 64))) 4 912 Z := R_newa2 (gd30 dX3_init_43) (t := 0) (by decide) (n := 64) (by decide) (by decide)
theorem z30_45 : Run d 30 45 [a0] [v, .ref o] M 4 912 Z ↔ gObj M o 3 ∧ gisRef v = true ∧ Run d 30 48 [a0] [] (gsR M o 5 (gU v)) 4 912 Z := R_putR (gd30 dX3_init_45) rfl gf_3_29 (Or.inr ⟨rfl, rfl⟩) rfl
theorem z30_48 : Run d 30 48 [a0] [] M 4 912 Z ↔ Z none M := R_vret (gd30 dX3_init_48) rfl
theorem e30 : Call (d + 1) 30 [s0] M Z ↔ Run d 30 0 [some s0] [] M 0 0 Z := Call_iff (Nat.lt_of_lt_of_le (Nat.lt_succ_self 30) (Nat.le_of_ble_eq_true rfl)) (Nat.le_of_ble_eq_true rfl)
/-! 31: X3_forget ()V -/
theorem gd31 {pc : Nat} {r : Except _ _} (h : decode cX3_forget pc = r) : decode (gby 31) pc = r := h
theorem z31_0 : Run d 31 0 [some (.ref o)] [] M 0 0 Z ↔ Run d 31 1 [some (.ref o)] [.ref o] M 0 0 Z := R_local (gd31 dX3_forget_0) rfl rfl rfl
theorem z31_1 : Run d 31 1 [a0] [s0] M 0 0 Z ↔ Run d 31 2 [a0] [.int 0, s0] M 0 0 Z := R_iconst (gd31 dX3_forget_1) (by decide)
theorem z31_2 : Run d 31 2 [a0] [.int x, .ref o] M 0 0 Z ↔ gObj M o 3 ∧ Run d 31 5 [a0] [] (gsI M o 1 x) 0 0 Z := R_putI (gd31 dX3_forget_2) rfl gf_3_15 (Or.inl rfl) rfl
theorem z31_5 : Run d 31 5 [some (.ref o)] [] M 0 0 Z ↔ Run d 31 6 [some (.ref o)] [.ref o] M 0 0 Z := R_local (gd31 dX3_forget_5) rfl rfl rfl
theorem z31_6 : Run d 31 6 [a0] [s0] M 0 0 Z ↔ Run d 31 7 [a0] [.int 0, s0] M 0 0 Z := R_iconst (gd31 dX3_forget_6) (by decide)
theorem z31_7 : Run d 31 7 [a0] [.int x, .ref o] M 0 0 Z ↔ gObj M o 3 ∧ Run d 31 10 [a0] [] (gsI M o 4 x) 0 0 Z := R_putI (gd31 dX3_forget_7) rfl gf_3_26 (Or.inl rfl) rfl
theorem z31_10 : Run d 31 10 [a0] [] M 0 0 Z ↔ Z none M := R_vret (gd31 dX3_forget_10) rfl
theorem e31 : Call (d + 1) 31 [s0] M Z ↔ Run d 31 0 [some s0] [] M 0 0 Z := Call_iff (Nat.lt_of_lt_of_le (Nat.lt_succ_self 31) (Nat.le_of_ble_eq_true rfl)) (Nat.le_of_ble_eq_true rfl)
/-! 32: X3_add ([II)V -/
theorem gd32 {pc : Nat} {r : Except _ _} (h : decode cX3_add pc = r) : decode (gby 32) pc = r := h
theorem z32_0 : Run d 32 0 [a0, a1, a2, a3, a4, a5] [] M 0 0 Z ↔ Run d 32 1 [a0, a1, a2, a3, a4, a5] [.int 0] M 0 0 Z := R_iconst (gd32 dX3_add_0) (by decide)
theorem z32_1 : Run d 32 1 [a0, a1, a2, a3, a4, a5] [.int x] M 0 0 Z ↔ Run d 32 2 [a0, a1, a2, some (.int x), a4, a5] [] M 0 0 Z := R_local (gd32 dX3_add_1) rfl rfl rfl
theorem z32_2 : Run d 32 2 [a0, a1, a2, some (.int x), a4, a5] [] M 0 0 Z ↔ Run d 32 3 [a0, a1, a2, some (.int x), a4, a5] [.int x] M 0 0 Z := R_local (gd32 dX3_add_2) rfl rfl rfl
theorem z32_3 : Run d 32 3 [a0, a1, a2, a3, a4, a5] [s0] M 0 0 Z ↔ Run d 32 5 [a0, a1, a2, a3, a4, a5] [.int 8, s0] M 0 0 Z := R_bipush (gd32 dX3_add_3) (by decide)
theorem z32_5 : Run d 32 5 [a0, a1, a2, a3, a4, a5] [.int y, .int x] M 0 0 Z ↔ (y ≤ x → Run d 32 67 [a0, a1, a2, a3, a4, a5] [] M 0 0 Z) ∧ (¬ (y ≤ x) → Run d 32 8 [a0, a1, a2, a3, a4, a5] [] M 0 0 Z) := R_icmp (gd32 dX3_add_5) (show gTgt 5 62 = some 67 by decide) gIf_ge
theorem z32_8 : Run d 32 8 [a0, a1, some (.int x), a3, a4, a5] [] M 0 0 Z ↔ Run d 32 9 [a0, a1, some (.int x), a3, a4, a5] [.int x] M 0 0 Z := R_local (gd32 dX3_add_8) rfl rfl rfl
theorem z32_9 : Run d 32 9 [a0, a1, a2, a3, a4, a5] [s0] M 0 0 Z ↔ Run d 32 11 [a0, a1, a2, a3, a4, a5] [.int 8, s0] M 0 0 Z := R_bipush (gd32 dX3_add_9) (by decide)
theorem z32_11 : Run d 32 11 [a0, a1, a2, a3, a4, a5] [.int y, .int x] M 0 0 Z ↔ Run d 32 12 [a0, a1, a2, a3, a4, a5] [.int (x * y)] M 0 0 Z := R_arith (gd32 dX3_add_11) rfl
theorem z32_12 : Run d 32 12 [a0, a1, a2, some (.int x), a4, a5] [s0] M 0 0 Z ↔ Run d 32 13 [a0, a1, a2, some (.int x), a4, a5] [.int x, s0] M 0 0 Z := R_local (gd32 dX3_add_12) rfl rfl rfl
theorem z32_13 : Run d 32 13 [a0, a1, a2, a3, a4, a5] [.int y, .int x] M 0 0 Z ↔ Run d 32 14 [a0, a1, a2, a3, a4, a5] [.int (x + y)] M 0 0 Z := R_arith (gd32 dX3_add_13) rfl
theorem z32_14 : Run d 32 14 [a0, a1, a2, a3, a4, a5] [.int x] M 0 0 Z ↔ Run d 32 16 [a0, a1, a2, a3, some (.int x), a5] [] M 0 0 Z := R_local (gd32 dX3_add_14) rfl rfl rfl
theorem z32_16 : Run d 32 16 [some (.ref o), a1, a2, a3, a4, a5] [] M 0 0 Z ↔ Run d 32 17 [some (.ref o), a1, a2, a3, a4, a5] [.ref o] M 0 0 Z := R_local (gd32 dX3_add_16) rfl rfl rfl
theorem z32_17 : Run d 32 17 [a0, a1, a2, a3, a4, a5] [.ref o] M 0 0 Z ↔ gObj M o 3 ∧ Run d 32 20 [a0, a1, a2, a3, a4, a5] [.int (M.1 o 1)] M 0 0 Z := R_getI (gd32 dX3_add_17) rfl gf_3_15 rfl
theorem z32_20 : Run d 32 20 [a0, a1, a2, a3, a4, a5] [s0] M 0 0 Z ↔ Run d 32 22 [a0, a1, a2, a3, a4, a5] [.int 8, s0] M 0 0 Z := R_bipush (gd32 dX3_add_20) (by decide)
theorem z32_22 : Run d 32 22 [a0, a1, a2, a3, a4, a5] [.int y, .int x] M 0 0 Z ↔ Run d 32 23 [a0, a1, a2, a3, a4, a5] [.int (x * y)] M 0 0 Z := R_arith (gd32 dX3_add_22) rfl
theorem z32_23 : Run d 32 23 [a0, a1, a2, some (.int x), a4, a5] [s0] M 0 0 Z ↔ Run d 32 24 [a0, a1, a2, some (.int x), a4, a5] [.int x, s0] M 0 0 Z := R_local (gd32 dX3_add_23) rfl rfl rfl
theorem z32_24 : Run d 32 24 [a0, a1, a2, a3, a4, a5] [.int y, .int x] M 0 0 Z ↔ Run d 32 25 [a0, a1, a2, a3, a4, a5] [.int (x + y)] M 0 0 Z := R_arith (gd32 dX3_add_24) rfl
theorem z32_25 : Run d 32 25 [a0, a1, a2, a3, a4, a5] [.int x] M 0 0 Z ↔ Run d 32 27 [a0, a1, a2, a3, a4, some (.int x)] [] M 0 0 Z := R_local (gd32 dX3_add_25) rfl rfl rfl
theorem z32_27 : Run d 32 27 [a0, a1, a2, a3, some (.int x), a5] [] M 0 0 Z ↔ Run d 32 29 [a0, a1, a2, a3, some (.int x), a5] [.int x] M 0 0 Z := R_local (gd32 dX3_add_27) rfl rfl rfl
theorem z32_29 : Run d 32 29 [a0, some (.ref o), a2, a3, a4, a5] [s0] M 0 0 Z ↔ Run d 32 30 [a0, some (.ref o), a2, a3, a4, a5] [.ref o, s0] M 0 0 Z := R_local (gd32 dX3_add_29) rfl rfl rfl
theorem z32_29n : Run d 32 29 [a0, some .null, a2, a3, a4, a5] [s0] M 0 0 Z ↔ Run d 32 30 [a0, some .null, a2, a3, a4, a5] [.null, s0] M 0 0 Z := R_local (gd32 dX3_add_29) rfl rfl rfl
theorem z32_30 : Run d 32 30 [a0, a1, a2, a3, a4, a5] [.ref o, s0] M 0 0 Z ↔ (gTy M o).isSome = true ∧ Run d 32 31 [a0, a1, a2, a3, a4, a5] [.int (nI (gLen M o)), s0] M 0 0 Z := R_alen (gd32 dX3_add_30)
theorem z32_31 : Run d 32 31 [a0, a1, a2, a3, a4, a5] [s1, s0] M 0 0 Z ↔ Call d 110 [s0, s1] M (fun r M1 => Run d 32 34 [a0, a1, a2, a3, a4, a5] (r.toList ++ []) M1 0 0 Z) := R_call (gd32 dX3_add_31) rfl rfl rfl rfl rfl rfl gc_3_32 rfl (by decide) (Nat.le_of_ble_eq_true rfl) (Nat.le_of_ble_eq_true rfl) rfl rfl rfl (Nat.le_of_ble_eq_true rfl) (Nat.le_of_ble_eq_true rfl)
theorem z32_34 : Run d 32 34 [a0, a1, a2, a3, a4, a5] [.int x] M 0 0 Z ↔ (x = 0 → Run d 32 61 [a0, a1, a2, a3, a4, a5] [] M 0 0 Z) ∧ (¬ (x = 0) → Run d 32 37 [a0, a1, a2, a3, a4, a5] [] M 0 0 Z) := R_if (gd32 dX3_add_34) (show gTgt 34 27 = some 61 by decide) gIf_eq
theorem z32_37 : Run d 32 37 [a0, a1, a2, a3, a4, some (.int x)] [] M 0 0 Z ↔ Run d 32 39 [a0, a1, a2, a3, a4, some (.int x)] [.int x] M 0 0 Z := R_local (gd32 dX3_add_37) rfl rfl rfl
theorem z32_39 : Run d 32 39 [some (.ref o), a1, a2, a3, a4, a5] [s0] M 0 0 Z ↔ Run d 32 40 [some (.ref o), a1, a2, a3, a4, a5] [.ref o, s0] M 0 0 Z := R_local (gd32 dX3_add_39) rfl rfl rfl
theorem z32_40 : Run d 32 40 [a0, a1, a2, a3, a4, a5] [.ref o, s0] M 0 0 Z ↔ gObj M o 3 ∧ Run d 32 43 [a0, a1, a2, a3, a4, a5] [va_rf (M.2.1 o 0), s0] M 0 0 Z := R_getR (gd32 dX3_add_40) rfl gf_3_9 rfl
theorem z32_43 : Run d 32 43 [a0, a1, a2, a3, a4, a5] [.ref o, s0] M 0 0 Z ↔ (gTy M o).isSome = true ∧ Run d 32 44 [a0, a1, a2, a3, a4, a5] [.int (nI (gLen M o)), s0] M 0 0 Z := R_alen (gd32 dX3_add_43)
theorem z32_44 : Run d 32 44 [a0, a1, a2, a3, a4, a5] [s1, s0] M 0 0 Z ↔ Call d 110 [s0, s1] M (fun r M1 => Run d 32 47 [a0, a1, a2, a3, a4, a5] (r.toList ++ []) M1 0 0 Z) := R_call (gd32 dX3_add_44) rfl rfl rfl rfl rfl rfl gc_3_32 rfl (by decide) (Nat.le_of_ble_eq_true rfl) (Nat.le_of_ble_eq_true rfl) rfl rfl rfl (Nat.le_of_ble_eq_true rfl) (Nat.le_of_ble_eq_true rfl)
theorem z32_47 : Run d 32 47 [a0, a1, a2, a3, a4, a5] [.int x] M 0 0 Z ↔ (x = 0 → Run d 32 61 [a0, a1, a2, a3, a4, a5] [] M 0 0 Z) ∧ (¬ (x = 0) → Run d 32 50 [a0, a1, a2, a3, a4, a5] [] M 0 0 Z) := R_if (gd32 dX3_add_47) (show gTgt 47 14 = some 61 by decide) gIf_eq
theorem z32_50 : Run d 32 50 [some (.ref o), a1, a2, a3, a4, a5] [] M 0 0 Z ↔ Run d 32 51 [some (.ref o), a1, a2, a3, a4, a5] [.ref o] M 0 0 Z := R_local (gd32 dX3_add_50) rfl rfl rfl
theorem z32_51 : Run d 32 51 [a0, a1, a2, a3, a4, a5] [.ref o] M 0 0 Z ↔ gObj M o 3 ∧ Run d 32 54 [a0, a1, a2, a3, a4, a5] [va_rf (M.2.1 o 0)] M 0 0 Z := R_getR (gd32 dX3_add_51) rfl gf_3_9 rfl
theorem z32_54 : Run d 32 54 [a0, a1, a2, a3, a4, some (.int x)] [s0] M 0 0 Z ↔ Run d 32 56 [a0, a1, a2, a3, a4, some (.int x)] [.int x, s0] M 0 0 Z := R_local (gd32 dX3_add_54) rfl rfl rfl
theorem z32_56 : Run d 32 56 [a0, some (.ref o), a2, a3, a4, a5] [s1, s0] M 0 0 Z ↔ Run d 32 57 [a0, some (.ref o), a2, a3, a4, a5] [.ref o, s1, s0] M 0 0 Z := R_local (gd32 dX3_add_56) rfl rfl rfl
theorem z32_56n : Run d 32 56 [a0, some .null, a2, a3, a4, a5] [s1, s0] M 0 0 Z ↔ Run d 32 57 [a0, some .null, a2, a3, a4, a5] [.null, s1, s0] M 0 0 Z := R_local (gd32 dX3_add_56) rfl rfl rfl
theorem z32_57 : Run d 32 57 [a0, a1, a2, a3, some (.int x), a5] [s2, s1, s0] M 0 0 Z ↔ Run d 32 59 [a0, a1, a2, a3, some (.int x), a5] [.int x, s2, s1, s0] M 0 0 Z := R_local (gd32 dX3_add_57) rfl rfl rfl
theorem z32_59 : Run d 32 59 [a0, a1, a2, a3, a4, a5] [.int x, .ref o, s1, s0] M 0 0 Z ↔ gAr M o 0 ∧ gIn x (gLen M o) = true ∧ Run d 32 60 [a0, a1, a2, a3, a4, a5] [.int (M.1 o x.toNatClampNeg), s1, s0] M 0 0 Z := R_iald (gd32 dX3_add_59)
theorem z32_60 : Run d 32 60 [a0, a1, a2, a3, a4, a5] [.int y, .int x, .ref o] M 0 0 Z ↔ gAr M o 0 ∧ gIn x (gLen M o) = true ∧ Run d 32 61 [a0, a1, a2, a3, a4, a5] [] (gsI M o x.toNatClampNeg y) 0 0 Z := R_iast (gd32 dX3_add_60)
theorem z32_61 : Run d 32 61 [a0, a1, a2, some (.int x), a4, a5] [] M 0 0 Z ↔ Run d 32 64 [a0, a1, a2, some (.int (x + 1)), a4, a5] [] M 0 0 Z := R_iinc (gd32 dX3_add_61) (by decide) rfl rfl
theorem z32_64 : Run d 32 64 [a0, a1, a2, a3, a4, a5] [] M 0 0 Z ↔ Run d 32 2 [a0, a1, a2, a3, a4, a5] [] M 0 0 Z := R_goto (gd32 dX3_add_64) (show gTgt 64 (-62) = some 2 by decide)
theorem z32_67 : Run d 32 67 [some (.ref o), a1, a2, a3, a4, a5] [] M 0 0 Z ↔ Run d 32 68 [some (.ref o), a1, a2, a3, a4, a5] [.ref o] M 0 0 Z := R_local (gd32 dX3_add_67) rfl rfl rfl
theorem z32_68 : Run d 32 68 [a0, a1, a2, a3, a4, a5] [.ref o] M 0 0 Z ↔ Run d 32 69 [a0, a1, a2, a3, a4, a5] [.ref o, .ref o] M 0 0 Z := R_arith (gd32 dX3_add_68) rfl
theorem z32_69 : Run d 32 69 [a0, a1, a2, a3, a4, a5] [.ref o, s0] M 0 0 Z ↔ gObj M o 3 ∧ Run d 32 72 [a0, a1, a2, a3, a4, a5] [.int (M.1 o 1), s0] M 0 0 Z := R_getI (gd32 dX3_add_69) rfl gf_3_15 rfl
theorem z32_72 : Run d 32 72 [a0, a1, a2, a3, a4, a5] [s1, s0] M 0 0 Z ↔ Run d 32 73 [a0, a1, a2, a3, a4, a5] [.int 1, s1, s0] M 0 0 Z := R_iconst (gd32 dX3_add_72) (by decide)
theorem z32_73 : Run d 32 73 [a0, a1, a2, a3, a4, a5] [.int y, .int x, s0] M 0 0 Z ↔ Run d 32 74 [a0, a1, a2, a3, a4, a5] [.int (x + y), s0] M 0 0 Z := R_arith (gd32 dX3_add_73) rfl
theorem z32_74 : Run d 32 74 [a0, a1, a2, a3, a4, a5] [.int x, .ref o] M 0 0 Z ↔ gObj M o 3 ∧ Run d 32 77 [a0, a1, a2, a3, a4, a5] [] (gsI M o 1 x) 0 0 Z := R_putI (gd32 dX3_add_74) rfl gf_3_15 (Or.inl rfl) rfl
theorem z32_77 : Run d 32 77 [a0, a1, a2, a3, a4, a5] [] M 0 0 Z ↔ Z none M := R_vret (gd32 dX3_add_77) rfl
theorem e32 : Call (d + 1) 32 [s0, s1, s2] M Z ↔ Run d 32 0 [some s0, some s1, some s2, none, none, none] [] M 0 0 Z := Call_iff (Nat.lt_of_lt_of_le (Nat.lt_succ_self 32) (Nat.le_of_ble_eq_true rfl)) (Nat.le_of_ble_eq_true rfl)
/-! 33: X3_strengthOf (LClothSchool$Layers;I)I -/
theorem gd33 {pc : Nat} {r : Except _ _} (h : decode cX3_strengthOf pc = r) : decode (gby 33) pc = r := h
theorem z33_0 : Run d 33 0 [a0, some (.ref o), a2, a3] [] M 0 0 Z ↔ Run d 33 1 [a0, some (.ref o), a2, a3] [.ref o] M 0 0 Z := R_local (gd33 dX3_strengthOf_0) rfl rfl rfl
theorem z33_0n : Run d 33 0 [a0, some .null, a2, a3] [] M 0 0 Z ↔ Run d 33 1 [a0, some .null, a2, a3] [.null] M 0 0 Z := R_local (gd33 dX3_strengthOf_0) rfl rfl rfl
theorem z33_1 : Run d 33 1 [a0, a1, some (.int x), a3] [s0] M 0 0 Z ↔ Run d 33 2 [a0, a1, some (.int x), a3] [.int x, s0] M 0 0 Z := R_local (gd33 dX3_strengthOf_1) rfl rfl rfl
theorem z33_2 : Run d 33 2 [a0, a1, a2, a3] [s1, .ref b] M 0 0 Z ↔ gObj M b 4 ∧ Call d 52 [.ref b, s1] M (fun r M1 => Run d 33 5 [a0, a1, a2, a3] (r.toList ++ []) M1 0 0 Z) := R_callV (gd33 dX3_strengthOf_2) rfl rfl rfl rfl rfl rfl gc_3_36 rfl rfl (Nat.le_of_ble_eq_true rfl) (Nat.le_of_ble_eq_true rfl) rfl rfl (Nat.le_of_ble_eq_true rfl) (Nat.le_of_ble_eq_true rfl)
theorem z33_5 : Run d 33 5 [a0, a1, a2, a3] [.int x] M 0 0 Z ↔ Run d 33 6 [a0, a1, a2, some (.int x)] [] M 0 0 Z := R_local (gd33 dX3_strengthOf_5) rfl rfl rfl
theorem z33_6 : Run d 33 6 [a0, a1, a2, some (.int x)] [] M 0 0 Z ↔ Run d 33 7 [a0, a1, a2, some (.int x)] [.int x] M 0 0 Z := R_local (gd33 dX3_strengthOf_6) rfl rfl rfl
theorem z33_7 : Run d 33 7 [a0, a1, a2, a3] [s0] M 0 0 Z ↔ Run d 33 8 [a0, a1, a2, a3] [.int (-1), s0] M 0 0 Z := R_iconst (gd33 dX3_strengthOf_7) (by decide)
theorem z33_8 : Run d 33 8 [a0, a1, a2, a3] [.int y, .int x] M 0 0 Z ↔ (¬ x = y → Run d 33 13 [a0, a1, a2, a3] [] M 0 0 Z) ∧ (¬ (¬ x = y) → Run d 33 11 [a0, a1, a2, a3] [] M 0 0 Z) := R_icmp (gd33 dX3_strengthOf_8) (show gTgt 8 5 = some 13 by decide) gIf_ne
theorem z33_11 : Run d 33 11 [a0, a1, a2, a3] [] M 0 0 Z ↔ Run d 33 12 [a0, a1, a2, a3] [.int 0] M 0 0 Z := R_iconst (gd33 dX3_strengthOf_11) (by decide)
theorem z33_12 : Run d 33 12 [a0, a1, a2, a3] [.int x] M 0 0 Z ↔ Z (some (.int x)) M := R_iret (gd33 dX3_strengthOf_12) rfl
theorem z33_13 : Run d 33 13 [some (.ref o), a1, a2, a3] [] M 0 0 Z ↔ Run d 33 14 [some (.ref o), a1, a2, a3] [.ref o] M 0 0 Z := R_local (gd33 dX3_strengthOf_13) rfl rfl rfl
theorem z33_14 : Run d 33 14 [a0, a1, a2, a3] [.ref o] M 0 0 Z ↔ gObj M o 3 ∧ Run d 33 17 [a0, a1, a2, a3] [va_rf (M.2.1 o 5)] M 0 0 Z := R_getR (gd33 dX3_strengthOf_14) rfl gf_3_29 rfl
theorem z33_17 : Run d 33 17 [a0, a1, a2, a3] [s0] M 0 0 Z ↔ Run d 33 18 [a0, a1, a2, a3] [.int 0, s0] M 0 0 Z := R_iconst (gd33 dX3_strengthOf_17) (by decide)
theorem z33_18 : Run d 33 18 [a0, a1, a2, a3] [s1, s0] M 0 0 Z ↔ Call d 198 [s0, s1] M (fun r M1 => Run d 33 21 [a0, a1, a2, a3] (r.toList ++ []) M1 0 0 Z) := R_call (gd33 dX3_strengthOf_18) rfl rfl rfl rfl rfl rfl gc_3_42 rfl (by decide) (Nat.le_of_ble_eq_true rfl) (Nat.le_of_ble_eq_true rfl) rfl rfl rfl (Nat.le_of_ble_eq_true rfl) (Nat.le_of_ble_eq_true rfl)
theorem z33_21 : Run d 33 21 [a0, some (.ref o), a2, a3] [] M 0 0 Z ↔ Run d 33 22 [a0, some (.ref o), a2, a3] [.ref o] M 0 0 Z := R_local (gd33 dX3_strengthOf_21) rfl rfl rfl
theorem z33_21n : Run d 33 21 [a0, some .null, a2, a3] [] M 0 0 Z ↔ Run d 33 22 [a0, some .null, a2, a3] [.null] M 0 0 Z := R_local (gd33 dX3_strengthOf_21) rfl rfl rfl
theorem z33_22 : Run d 33 22 [a0, a1, a2, some (.int x)] [s0] M 0 0 Z ↔ Run d 33 23 [a0, a1, a2, some (.int x)] [.int x, s0] M 0 0 Z := R_local (gd33 dX3_strengthOf_22) rfl rfl rfl
theorem z33_23 : Run d 33 23 [a0, a1, a2, a3] [s1, s0] M 0 0 Z ↔ Run d 33 24 [a0, a1, a2, a3] [.int 1, s1, s0] M 0 0 Z := R_iconst (gd33 dX3_strengthOf_23) (by decide)
theorem z33_24 : Run d 33 24 [a0, a1, a2, a3] [.int y, .int x, s0] M 0 0 Z ↔ Run d 33 25 [a0, a1, a2, a3] [.int (x + y), s0] M 0 0 Z := R_arith (gd33 dX3_strengthOf_24) rfl
theorem z33_25 : Run d 33 25 [a0, some (.ref o), a2, a3] [s1, s0] M 0 0 Z ↔ Run d 33 26 [a0, some (.ref o), a2, a3] [.ref o, s1, s0] M 0 0 Z := R_local (gd33 dX3_strengthOf_25) rfl rfl rfl
theorem z33_25n : Run d 33 25 [a0, some .null, a2, a3] [s1, s0] M 0 0 Z ↔ Run d 33 26 [a0, some .null, a2, a3] [.null, s1, s0] M 0 0 Z := R_local (gd33 dX3_strengthOf_25) rfl rfl rfl
theorem z33_26 : Run d 33 26 [a0, a1, a2, a3] [.ref o, s1, s0] M 0 0 Z ↔ gObj M o 4 ∧ Run d 33 29 [a0, a1, a2, a3] [.int (M.1 o 8), s1, s0] M 0 0 Z := R_getI (gd33 dX3_strengthOf_26) rfl gf_3_48 rfl
theorem z33_29 : Run d 33 29 [a0, a1, a2, a3] [s2, s1, s0] M 0 0 Z ↔ Run d 33 30 [a0, a1, a2, a3] [.int 1, s2, s1, s0] M 0 0 Z := R_iconst (gd33 dX3_strengthOf_29) (by decide)
theorem z33_30 : Run d 33 30 [a0, a1, a2, a3] [.int y, .int x, s1, s0] M 0 0 Z ↔ Run d 33 31 [a0, a1, a2, a3] [.int (x - y), s1, s0] M 0 0 Z := R_arith (gd33 dX3_strengthOf_30) rfl
theorem z33_31 : Run d 33 31 [some (.ref o), a1, a2, a3] [s2, s1, s0] M 0 0 Z ↔ Run d 33 32 [some (.ref o), a1, a2, a3] [.ref o, s2, s1, s0] M 0 0 Z := R_local (gd33 dX3_strengthOf_31) rfl rfl rfl
theorem z33_32 : Run d 33 32 [a0, a1, a2, a3] [.ref o, s2, s1, s0] M 0 0 Z ↔ gObj M o 3 ∧ Run d 33 35 [a0, a1, a2, a3] [va_rf (M.2.1 o 5), s2, s1, s0] M 0 0 Z := R_getR (gd33 dX3_strengthOf_32) rfl gf_3_29 rfl
theorem z33_35 : Run d 33 35 [a0, a1, a2, a3] [s3, s2, s1, .ref b] M 0 0 Z ↔ gObj M b 4 ∧ Call d 56 [.ref b, s1, s2, s3] M (fun r M1 => Run d 33 38 [a0, a1, a2, a3] (r.toList ++ []) M1 0 0 Z) := R_callV (gd33 dX3_strengthOf_35) rfl rfl rfl rfl rfl rfl gc_3_51 rfl rfl (Nat.le_of_ble_eq_true rfl) (Nat.le_of_ble_eq_true rfl) rfl rfl (Nat.le_of_ble_eq_true rfl) (Nat.le_of_ble_eq_true rfl)
theorem z33_38 : Run d 33 38 [a0, some (.ref o), a2, a3] [] M 0 0 Z ↔ Run d 33 39 [a0, some (.ref o), a2, a3] [.ref o] M 0 0 Z := R_local (gd33 dX3_strengthOf_38) rfl rfl rfl
theorem z33_38n : Run d 33 38 [a0, some .null, a2, a3] [] M 0 0 Z ↔ Run d 33 39 [a0, some .null, a2, a3] [.null] M 0 0 Z := R_local (gd33 dX3_strengthOf_38) rfl rfl rfl
theorem z33_39 : Run d 33 39 [a0, some (.ref o), a2, a3] [s0] M 0 0 Z ↔ Run d 33 40 [a0, some (.ref o), a2, a3] [.ref o, s0] M 0 0 Z := R_local (gd33 dX3_strengthOf_39) rfl rfl rfl
theorem z33_39n : Run d 33 39 [a0, some .null, a2, a3] [s0] M 0 0 Z ↔ Run d 33 40 [a0, some .null, a2, a3] [.null, s0] M 0 0 Z := R_local (gd33 dX3_strengthOf_39) rfl rfl rfl
theorem z33_40 : Run d 33 40 [a0, a1, a2, some (.int x)] [s1, s0] M 0 0 Z ↔ Run d 33 41 [a0, a1, a2, some (.int x)] [.int x, s1, s0] M 0 0 Z := R_local (gd33 dX3_strengthOf_40) rfl rfl rfl
theorem z33_41 : Run d 33 41 [a0, a1, a2, a3] [s2, .ref b, s0] M 0 0 Z ↔ gObj M b 4 ∧ Call d 53 [.ref b, s2] M (fun r M1 => Run d 33 44 [a0, a1, a2, a3] (r.toList ++ [s0]) M1 0 0 Z) := R_callV (gd33 dX3_strengthOf_41) rfl rfl rfl rfl rfl rfl gc_3_55 rfl rfl (Nat.le_of_ble_eq_true rfl) (Nat.le_of_ble_eq_true rfl) rfl rfl (Nat.le_of_ble_eq_true rfl) (Nat.le_of_ble_eq_true rfl)
theorem z33_44 : Run d 33 44 [a0, a1, a2, some (.int x)] [s1, s0] M 0 0 Z ↔ Run d 33 45 [a0, a1, a2, some (.int x)] [.int x, s1, s0] M 0 0 Z := R_local (gd33 dX3_strengthOf_44) rfl rfl rfl
theorem z33_45 : Run d 33 45 [some (.ref o), a1, a2, a3] [s2, s1, s0] M 0 0 Z ↔ Run d 33 46 [some (.ref o), a1, a2, a3] [.ref o, s2, s1, s0] M 0 0 Z := R_local (gd33 dX3_strengthOf_45) rfl rfl rfl
theorem z33_46 : Run d 33 46 [a0, a1, a2, a3] [.ref o, s2, s1, s0] M 0 0 Z ↔ gObj M o 3 ∧ Run d 33 49 [a0, a1, a2, a3] [va_rf (M.2.1 o 5), s2, s1, s0] M 0 0 Z := R_getR (gd33 dX3_strengthOf_46) rfl gf_3_29 rfl
theorem z33_49 : Run d 33 49 [a0, a1, a2, a3] [s3, s2, s1, .ref b] M 0 0 Z ↔ gObj M b 4 ∧ Call d 55 [.ref b, s1, s2, s3] M (fun r M1 => Run d 33 52 [a0, a1, a2, a3] (r.toList ++ []) M1 0 0 Z) := R_callV (gd33 dX3_strengthOf_49) rfl rfl rfl rfl rfl rfl gc_3_58 rfl rfl (Nat.le_of_ble_eq_true rfl) (Nat.le_of_ble_eq_true rfl) rfl rfl (Nat.le_of_ble_eq_true rfl) (Nat.le_of_ble_eq_true rfl)
theorem z33_52 : Run d 33 52 [a0, a1, a2, a3] [.int x] M 0 0 Z ↔ Z (some (.int x)) M := R_iret (gd33 dX3_strengthOf_52) rfl
theorem e33 : Call (d + 1) 33 [s0, s1, s2] M Z ↔ Run d 33 0 [some s0, some s1, some s2, none] [] M 0 0 Z := Call_iff (Nat.lt_of_lt_of_le (Nat.lt_succ_self 33) (Nat.le_of_ble_eq_true rfl)) (Nat.le_of_ble_eq_true rfl)
/-! 34: X3_play (LClothSchool$Layers;I)I -/
theorem gd34 {pc : Nat} {r : Except _ _} (h : decode cX3_play pc = r) : decode (gby 34) pc = r := h
theorem z34_0 : Run d 34 0 [a0, a1, a2, a3] [] M 0 0 Z ↔ Run d 34 1 [a0, a1, a2, a3] [.int 0] M 0 0 Z := R_iconst (gd34 dX3_play_0) (by decide)
theorem z34_1 : Run d 34 1 [a0, a1, a2, a3] [.int x] M 0 0 Z ↔ Run d 34 2 [a0, a1, a2, some (.int x)] [] M 0 0 Z := R_local (gd34 dX3_play_1) rfl rfl rfl
theorem z34_2 : Run d 34 2 [a0, a1, a2, some (.int x)] [] M 0 0 Z ↔ Run d 34 3 [a0, a1, a2, some (.int x)] [.int x] M 0 0 Z := R_local (gd34 dX3_play_2) rfl rfl rfl
theorem z34_3 : Run d 34 3 [some (.ref o), a1, a2, a3] [s0] M 0 0 Z ↔ Run d 34 4 [some (.ref o), a1, a2, a3] [.ref o, s0] M 0 0 Z := R_local (gd34 dX3_play_3) rfl rfl rfl
theorem z34_4 : Run d 34 4 [a0, a1, a2, a3] [.ref o, s0] M 0 0 Z ↔ gObj M o 3 ∧ Run d 34 7 [a0, a1, a2, a3] [va_rf (M.2.1 o 2), s0] M 0 0 Z := R_getR (gd34 dX3_play_4) rfl gf_3_19 rfl
theorem z34_7 : Run d 34 7 [a0, a1, a2, a3] [.ref o, s0] M 0 0 Z ↔ (gTy M o).isSome = true ∧ Run d 34 8 [a0, a1, a2, a3] [.int (nI (gLen M o)), s0] M 0 0 Z := R_alen (gd34 dX3_play_7)
theorem z34_8 : Run d 34 8 [a0, a1, a2, a3] [.int y, .int x] M 0 0 Z ↔ (y ≤ x → Run d 34 24 [a0, a1, a2, a3] [] M 0 0 Z) ∧ (¬ (y ≤ x) → Run d 34 11 [a0, a1, a2, a3] [] M 0 0 Z) := R_icmp (gd34 dX3_play_8) (show gTgt 8 16 = some 24 by decide) gIf_ge
theorem z34_11 : Run d 34 11 [some (.ref o), a1, a2, a3] [] M 0 0 Z ↔ Run d 34 12 [some (.ref o), a1, a2, a3] [.ref o] M 0 0 Z := R_local (gd34 dX3_play_11) rfl rfl rfl
theorem z34_12 : Run d 34 12 [a0, a1, a2, a3] [.ref o] M 0 0 Z ↔ gObj M o 3 ∧ Run d 34 15 [a0, a1, a2, a3] [va_rf (M.2.1 o 2)] M 0 0 Z := R_getR (gd34 dX3_play_12) rfl gf_3_19 rfl
theorem z34_15 : Run d 34 15 [a0, a1, a2, some (.int x)] [s0] M 0 0 Z ↔ Run d 34 16 [a0, a1, a2, some (.int x)] [.int x, s0] M 0 0 Z := R_local (gd34 dX3_play_15) rfl rfl rfl
theorem z34_16 : Run d 34 16 [a0, a1, a2, a3] [s1, s0] M 0 0 Z ↔ Run d 34 17 [a0, a1, a2, a3] [.int 0, s1, s0] M 0 0 Z := R_iconst (gd34 dX3_play_16) (by decide)
theorem z34_17 (hg : gAr M o 2) : Run d 34 17 [a0, a1, a2, a3] [.int y, .int x, .ref o] M 0 0 Z ↔ gIn x (gLen M o) = true ∧ Run d 34 18 [a0, a1, a2, a3] [] (gsI M o x.toNatClampNeg (y &&& 1)) 0 0 Z := R_zast (gd34 dX3_play_17) hg
theorem z34_18 : Run d 34 18 [a0, a1, a2, some (.int x)] [] M 0 0 Z ↔ Run d 34 21 [a0, a1, a2, some (.int (x + 1))] [] M 0 0 Z := R_iinc (gd34 dX3_play_18) (by decide) rfl rfl
theorem z34_21 : Run d 34 21 [a0, a1, a2, a3] [] M 0 0 Z ↔ Run d 34 2 [a0, a1, a2, a3] [] M 0 0 Z := R_goto (gd34 dX3_play_21) (show gTgt 21 (-19) = some 2 by decide)
theorem z34_24 : Run d 34 24 [some (.ref o), a1, a2, a3] [] M 0 0 Z ↔ Run d 34 25 [some (.ref o), a1, a2, a3] [.ref o] M 0 0 Z := R_local (gd34 dX3_play_24) rfl rfl rfl
theorem z34_25 : Run d 34 25 [a0, a1, a2, a3] [s0] M 0 0 Z ↔ Run d 34 26 [a0, a1, a2, a3] [.int 0, s0] M 0 0 Z := R_iconst (gd34 dX3_play_25) (by decide)
theorem z34_26 : Run d 34 26 [a0, a1, a2, a3] [.int x, .ref o] M 0 0 Z ↔ gObj M o 3 ∧ Run d 34 29 [a0, a1, a2, a3] [] (gsI M o 4 x) 0 0 Z := R_putI (gd34 dX3_play_26) rfl gf_3_26 (Or.inl rfl) rfl
theorem z34_29 : Run d 34 29 [a0, a1, a2, a3] [] M 0 0 Z ↔ Run d 34 30 [a0, a1, a2, a3] [.int 0] M 0 0 Z := R_iconst (gd34 dX3_play_29) (by decide)
theorem z34_30 : Run d 34 30 [a0, a1, a2, a3] [.int x] M 0 0 Z ↔ Run d 34 31 [a0, a1, a2, some (.int x)] [] M 0 0 Z := R_local (gd34 dX3_play_30) rfl rfl rfl
theorem z34_31 : Run d 34 31 [a0, a1, a2, some (.int x)] [] M 0 0 Z ↔ Run d 34 32 [a0, a1, a2, some (.int x)] [.int x] M 0 0 Z := R_local (gd34 dX3_play_31) rfl rfl rfl
theorem z34_32 : Run d 34 32 [some (.ref o), a1, a2, a3] [s0] M 0 0 Z ↔ Run d 34 33 [some (.ref o), a1, a2, a3] [.ref o, s0] M 0 0 Z := R_local (gd34 dX3_play_32) rfl rfl rfl
theorem z34_33 : Run d 34 33 [a0, a1, a2, a3] [.ref o, s0] M 0 0 Z ↔ gObj M o 3 ∧ Run d 34 36 [a0, a1, a2, a3] [.int (M.1 o 1), s0] M 0 0 Z := R_getI (gd34 dX3_play_33) rfl gf_3_15 rfl
theorem z34_36 : Run d 34 36 [a0, a1, a2, a3] [.int y, .int x] M 0 0 Z ↔ (y ≤ x → Run d 34 58 [a0, a1, a2, a3] [] M 0 0 Z) ∧ (¬ (y ≤ x) → Run d 34 39 [a0, a1, a2, a3] [] M 0 0 Z) := R_icmp (gd34 dX3_play_36) (show gTgt 36 22 = some 58 by decide) gIf_ge
theorem z34_39 : Run d 34 39 [a0, a1, a2, some (.int x)] [] M 0 0 Z ↔ Run d 34 40 [a0, a1, a2, some (.int x)] [.int x] M 0 0 Z := R_local (gd34 dX3_play_39) rfl rfl rfl
theorem z34_40 : Run d 34 40 [a0, a1, a2, a3] [s0] M 0 0 Z ↔ Run d 34 42 [a0, a1, a2, a3] [.int 6, s0] M 0 0 Z := R_bipush (gd34 dX3_play_40) (by decide)
theorem z34_42 : Run d 34 42 [a0, a1, a2, a3] [.int y, .int x] M 0 0 Z ↔ (y ≤ x → Run d 34 58 [a0, a1, a2, a3] [] M 0 0 Z) ∧ (¬ (y ≤ x) → Run d 34 45 [a0, a1, a2, a3] [] M 0 0 Z) := R_icmp (gd34 dX3_play_42) (show gTgt 42 16 = some 58 by decide) gIf_ge
theorem z34_45 : Run d 34 45 [some (.ref o), a1, a2, a3] [] M 0 0 Z ↔ Run d 34 46 [some (.ref o), a1, a2, a3] [.ref o] M 0 0 Z := R_local (gd34 dX3_play_45) rfl rfl rfl
theorem z34_46 : Run d 34 46 [a0, some (.ref o), a2, a3] [s0] M 0 0 Z ↔ Run d 34 47 [a0, some (.ref o), a2, a3] [.ref o, s0] M 0 0 Z := R_local (gd34 dX3_play_46) rfl rfl rfl
theorem z34_46n : Run d 34 46 [a0, some .null, a2, a3] [s0] M 0 0 Z ↔ Run d 34 47 [a0, some .null, a2, a3] [.null, s0] M 0 0 Z := R_local (gd34 dX3_play_46) rfl rfl rfl
theorem z34_47 : Run d 34 47 [a0, a1, a2, some (.int x)] [s1, s0] M 0 0 Z ↔ Run d 34 48 [a0, a1, a2, some (.int x)] [.int x, s1, s0] M 0 0 Z := R_local (gd34 dX3_play_47) rfl rfl rfl
theorem z34_48 : Run d 34 48 [a0, a1, some (.int x), a3] [s2, s1, s0] M 0 0 Z ↔ Run d 34 49 [a0, a1, some (.int x), a3] [.int x, s2, s1, s0] M 0 0 Z := R_local (gd34 dX3_play_48) rfl rfl rfl
theorem z34_49 : Run d 34 49 [a0, a1, a2, a3] [s3, s2, s1, .ref b] M 0 0 Z ↔ gObj M b 3 ∧ Call d 35 [.ref b, s1, s2, s3] M (fun r M1 => Run d 34 52 [a0, a1, a2, a3] (r.toList ++ []) M1 0 0 Z) := R_callV (gd34 dX3_play_49) rfl rfl rfl rfl rfl rfl gc_3_62 rfl rfl (Nat.le_of_ble_eq_true rfl) (Nat.le_of_ble_eq_true rfl) rfl rfl (Nat.le_of_ble_eq_true rfl) (Nat.le_of_ble_eq_true rfl)
theorem z34_52 : Run d 34 52 [a0, a1, a2, some (.int x)] [] M 0 0 Z ↔ Run d 34 55 [a0, a1, a2, some (.int (x + 1))] [] M 0 0 Z := R_iinc (gd34 dX3_play_52) (by decide) rfl rfl
theorem z34_55 : Run d 34 55 [a0, a1, a2, a3] [] M 0 0 Z ↔ Run d 34 31 [a0, a1, a2, a3] [] M 0 0 Z := R_goto (gd34 dX3_play_55) (show gTgt 55 (-24) = some 31 by decide)
theorem z34_58 : Run d 34 58 [some (.ref o), a1, a2, a3] [] M 0 0 Z ↔ Run d 34 59 [some (.ref o), a1, a2, a3] [.ref o] M 0 0 Z := R_local (gd34 dX3_play_58) rfl rfl rfl
theorem z34_59 : Run d 34 59 [a0, a1, a2, a3] [.ref o] M 0 0 Z ↔ gObj M o 3 ∧ Run d 34 62 [a0, a1, a2, a3] [.int (M.1 o 4)] M 0 0 Z := R_getI (gd34 dX3_play_59) rfl gf_3_26 rfl
theorem z34_62 : Run d 34 62 [a0, a1, a2, a3] [.int x] M 0 0 Z ↔ Z (some (.int x)) M := R_iret (gd34 dX3_play_62) rfl
theorem e34 : Call (d + 1) 34 [s0, s1, s2] M Z ↔ Run d 34 0 [some s0, some s1, some s2, none] [] M 0 0 Z := Call_iff (Nat.lt_of_lt_of_le (Nat.lt_succ_self 34) (Nat.le_of_ble_eq_true rfl)) (Nat.le_of_ble_eq_true rfl)
/-! 35: X3_doMove (LClothSchool$Layers;II)V -/
theorem gd35 {pc : Nat} {r : Except _ _} (h : decode cX3_doMove pc = r) : decode (gby 35) pc = r := h
theorem z35_0 : Run d 35 0 [some (.ref o), a1, a2, a3, a4, a5, a6, a7] [] M 0 0 Z ↔ Run d 35 1 [some (.ref o), a1, a2, a3, a4, a5, a6, a7] [.ref o] M 0 0 Z := R_local (gd35 dX3_doMove_0) rfl rfl rfl
theorem z35_1 : Run d 35 1 [a0, a1, a2, a3, a4, a5, a6, a7] [.ref o] M 0 0 Z ↔ gObj M o 3 ∧ Run d 35 4 [a0, a1, a2, a3, a4, a5, a6, a7] [va_rf (M.2.1 o 5)] M 0 0 Z := R_getR (gd35 dX3_doMove_1) rfl gf_3_29 rfl
theorem z35_4 : Run d 35 4 [a0, a1, a2, a3, a4, a5, a6, a7] [s0] M 0 0 Z ↔ Run d 35 5 [a0, a1, a2, a3, a4, a5, a6, a7] [.int 0, s0] M 0 0 Z := R_iconst (gd35 dX3_doMove_4) (by decide)
theorem z35_5 : Run d 35 5 [a0, a1, a2, a3, a4, a5, a6, a7] [s1, s0] M 0 0 Z ↔ Call d 198 [s0, s1] M (fun r M1 => Run d 35 8 [a0, a1, a2, a3, a4, a5, a6, a7] (r.toList ++ []) M1 0 0 Z) := R_call (gd35 dX3_doMove_5) rfl rfl rfl rfl rfl rfl gc_3_42 rfl (by decide) (Nat.le_of_ble_eq_true rfl) (Nat.le_of_ble_eq_true rfl) rfl rfl rfl (Nat.le_of_ble_eq_true rfl) (Nat.le_of_ble_eq_true rfl)
theorem z35_8 : Run d 35 8 [a0, some (.ref o), a2, a3, a4, a5, a6, a7] [] M 0 0 Z ↔ Run d 35 9 [a0, some (.ref o), a2, a3, a4, a5, a6, a7] [.ref o] M 0 0 Z := R_local (gd35 dX3_doMove_8) rfl rfl rfl
theorem z35_8n : Run d 35 8 [a0, some .null, a2, a3, a4, a5, a6, a7] [] M 0 0 Z ↔ Run d 35 9 [a0, some .null, a2, a3, a4, a5, a6, a7] [.null] M 0 0 Z := R_local (gd35 dX3_doMove_8) rfl rfl rfl
theorem z35_9 : Run d 35 9 [a0, a1, a2, a3, a4, a5, a6, a7] [.ref o] M 0 0 Z ↔ gObj M o 4 ∧ Run d 35 12 [a0, a1, a2, a3, a4, a5, a6, a7] [.int (M.1 o 8)] M 0 0 Z := R_getI (gd35 dX3_doMove_9) rfl gf_3_48 rfl
theorem z35_12 : Run d 35 12 [a0, a1, a2, a3, a4, a5, a6, a7] [s0] M 0 0 Z ↔ Run d 35 13 [a0, a1, a2, a3, a4, a5, a6, a7] [.int 1, s0] M 0 0 Z := R_iconst (gd35 dX3_doMove_12) (by decide)
theorem z35_13 : Run d 35 13 [a0, a1, a2, a3, a4, a5, a6, a7] [.int y, .int x] M 0 0 Z ↔ Run d 35 14 [a0, a1, a2, a3, a4, a5, a6, a7] [.int (x - y)] M 0 0 Z := R_arith (gd35 dX3_doMove_13) rfl
theorem z35_14 : Run d 35 14 [a0, a1, a2, a3, a4, a5, a6, a7] [.int x] M 0 0 Z ↔ Run d 35 16 [a0, a1, a2, a3, some (.int x), a5, a6, a7] [] M 0 0 Z := R_local (gd35 dX3_doMove_14) rfl rfl rfl
theorem z35_16 : Run d 35 16 [a0, a1, a2, a3, a4, a5, a6, a7] [] M 0 0 Z ↔ Run d 35 17 [a0, a1, a2, a3, a4, a5, a6, a7] [.int 0] M 0 0 Z := R_iconst (gd35 dX3_doMove_16) (by decide)
theorem z35_17 : Run d 35 17 [a0, a1, a2, a3, a4, a5, a6, a7] [.int x] M 0 0 Z ↔ Run d 35 19 [a0, a1, a2, a3, a4, some (.int x), a6, a7] [] M 0 0 Z := R_local (gd35 dX3_doMove_17) rfl rfl rfl
theorem z35_19 : Run d 35 19 [a0, a1, a2, a3, a4, some (.int x), a6, a7] [] M 0 0 Z ↔ Run d 35 21 [a0, a1, a2, a3, a4, some (.int x), a6, a7] [.int x] M 0 0 Z := R_local (gd35 dX3_doMove_19) rfl rfl rfl
theorem z35_21 : Run d 35 21 [a0, a1, a2, a3, a4, a5, a6, a7] [s0] M 0 0 Z ↔ Run d 35 24 [a0, a1, a2, a3, a4, a5, a6, a7] [.int 400, s0] M 0 0 Z := R_sipush (gd35 dX3_doMove_21) (by decide)
theorem z35_24 : Run d 35 24 [a0, a1, a2, a3, a4, a5, a6, a7] [.int y, .int x] M 0 0 Z ↔ (y ≤ x → Run d 35 155 [a0, a1, a2, a3, a4, a5, a6, a7] [] M 0 0 Z) ∧ (¬ (y ≤ x) → Run d 35 27 [a0, a1, a2, a3, a4, a5, a6, a7] [] M 0 0 Z) := R_icmp (gd35 dX3_doMove_24) (show gTgt 24 131 = some 155 by decide) gIf_ge
theorem z35_27 : Run d 35 27 [a0, a1, a2, a3, some (.int x), a5, a6, a7] [] M 0 0 Z ↔ Run d 35 29 [a0, a1, a2, a3, some (.int x), a5, a6, a7] [.int x] M 0 0 Z := R_local (gd35 dX3_doMove_27) rfl rfl rfl
theorem z35_29 : Run d 35 29 [a0, a1, a2, a3, a4, a5, a6, a7] [.int x] M 0 0 Z ↔ (x < 0 → Run d 35 155 [a0, a1, a2, a3, a4, a5, a6, a7] [] M 0 0 Z) ∧ (¬ (x < 0) → Run d 35 32 [a0, a1, a2, a3, a4, a5, a6, a7] [] M 0 0 Z) := R_if (gd35 dX3_doMove_29) (show gTgt 29 126 = some 155 by decide) gIf_lt
theorem z35_32 : Run d 35 32 [a0, some (.ref o), a2, a3, a4, a5, a6, a7] [] M 0 0 Z ↔ Run d 35 33 [a0, some (.ref o), a2, a3, a4, a5, a6, a7] [.ref o] M 0 0 Z := R_local (gd35 dX3_doMove_32) rfl rfl rfl
theorem z35_32n : Run d 35 32 [a0, some .null, a2, a3, a4, a5, a6, a7] [] M 0 0 Z ↔ Run d 35 33 [a0, some .null, a2, a3, a4, a5, a6, a7] [.null] M 0 0 Z := R_local (gd35 dX3_doMove_32) rfl rfl rfl
theorem z35_33 : Run d 35 33 [a0, a1, a2, a3, some (.int x), a5, a6, a7] [s0] M 0 0 Z ↔ Run d 35 35 [a0, a1, a2, a3, some (.int x), a5, a6, a7] [.int x, s0] M 0 0 Z := R_local (gd35 dX3_doMove_33) rfl rfl rfl
theorem z35_35 : Run d 35 35 [a0, a1, a2, a3, a4, a5, a6, a7] [s1, .ref b] M 0 0 Z ↔ gObj M b 4 ∧ Call d 53 [.ref b, s1] M (fun r M1 => Run d 35 38 [a0, a1, a2, a3, a4, a5, a6, a7] (r.toList ++ []) M1 0 0 Z) := R_callV (gd35 dX3_doMove_35) rfl rfl rfl rfl rfl rfl gc_3_55 rfl rfl (Nat.le_of_ble_eq_true rfl) (Nat.le_of_ble_eq_true rfl) rfl rfl (Nat.le_of_ble_eq_true rfl) (Nat.le_of_ble_eq_true rfl)
theorem z35_38 : Run d 35 38 [a0, a1, a2, a3, a4, a5, a6, a7] [.int x] M 0 0 Z ↔ Run d 35 40 [a0, a1, a2, a3, a4, a5, some (.int x), a7] [] M 0 0 Z := R_local (gd35 dX3_doMove_38) rfl rfl rfl
theorem z35_40 : Run d 35 40 [a0, a1, a2, a3, some (.int x), a5, a6, a7] [] M 0 0 Z ↔ Run d 35 42 [a0, a1, a2, a3, some (.int x), a5, a6, a7] [.int x] M 0 0 Z := R_local (gd35 dX3_doMove_40) rfl rfl rfl
theorem z35_42 : Run d 35 42 [some (.ref o), a1, a2, a3, a4, a5, a6, a7] [s0] M 0 0 Z ↔ Run d 35 43 [some (.ref o), a1, a2, a3, a4, a5, a6, a7] [.ref o, s0] M 0 0 Z := R_local (gd35 dX3_doMove_42) rfl rfl rfl
theorem z35_43 : Run d 35 43 [a0, a1, a2, a3, a4, a5, a6, a7] [.ref o, s0] M 0 0 Z ↔ gObj M o 3 ∧ Run d 35 46 [a0, a1, a2, a3, a4, a5, a6, a7] [va_rf (M.2.1 o 2), s0] M 0 0 Z := R_getR (gd35 dX3_doMove_43) rfl gf_3_19 rfl
theorem z35_46 : Run d 35 46 [a0, a1, a2, a3, a4, a5, a6, a7] [.ref o, s0] M 0 0 Z ↔ (gTy M o).isSome = true ∧ Run d 35 47 [a0, a1, a2, a3, a4, a5, a6, a7] [.int (nI (gLen M o)), s0] M 0 0 Z := R_alen (gd35 dX3_doMove_46)
theorem z35_47 : Run d 35 47 [a0, a1, a2, a3, a4, a5, a6, a7] [s1, s0] M 0 0 Z ↔ Call d 110 [s0, s1] M (fun r M1 => Run d 35 50 [a0, a1, a2, a3, a4, a5, a6, a7] (r.toList ++ []) M1 0 0 Z) := R_call (gd35 dX3_doMove_47) rfl rfl rfl rfl rfl rfl gc_3_32 rfl (by decide) (Nat.le_of_ble_eq_true rfl) (Nat.le_of_ble_eq_true rfl) rfl rfl rfl (Nat.le_of_ble_eq_true rfl) (Nat.le_of_ble_eq_true rfl)
theorem z35_50 : Run d 35 50 [a0, a1, a2, a3, a4, a5, a6, a7] [.int x] M 0 0 Z ↔ (x = 0 → Run d 35 143 [a0, a1, a2, a3, a4, a5, a6, a7] [] M 0 0 Z) ∧ (¬ (x = 0) → Run d 35 53 [a0, a1, a2, a3, a4, a5, a6, a7] [] M 0 0 Z) := R_if (gd35 dX3_doMove_50) (show gTgt 50 93 = some 143 by decide) gIf_eq
theorem z35_53 : Run d 35 53 [some (.ref o), a1, a2, a3, a4, a5, a6, a7] [] M 0 0 Z ↔ Run d 35 54 [some (.ref o), a1, a2, a3, a4, a5, a6, a7] [.ref o] M 0 0 Z := R_local (gd35 dX3_doMove_53) rfl rfl rfl
theorem z35_54 : Run d 35 54 [a0, a1, a2, a3, a4, a5, a6, a7] [.ref o] M 0 0 Z ↔ gObj M o 3 ∧ Run d 35 57 [a0, a1, a2, a3, a4, a5, a6, a7] [va_rf (M.2.1 o 2)] M 0 0 Z := R_getR (gd35 dX3_doMove_54) rfl gf_3_19 rfl
theorem z35_57 : Run d 35 57 [a0, a1, a2, a3, some (.int x), a5, a6, a7] [s0] M 0 0 Z ↔ Run d 35 59 [a0, a1, a2, a3, some (.int x), a5, a6, a7] [.int x, s0] M 0 0 Z := R_local (gd35 dX3_doMove_57) rfl rfl rfl
theorem z35_59 (hg : gAr M o 2) : Run d 35 59 [a0, a1, a2, a3, a4, a5, a6, a7] [.int x, .ref o] M 0 0 Z ↔ gIn x (gLen M o) = true ∧ Run d 35 60 [a0, a1, a2, a3, a4, a5, a6, a7] [.int (M.1 o x.toNatClampNeg)] M 0 0 Z := R_bald (gd35 dX3_doMove_59) (by decide) hg
theorem z35_60 : Run d 35 60 [a0, a1, a2, a3, a4, a5, a6, a7] [.int x] M 0 0 Z ↔ (¬ x = 0 → Run d 35 143 [a0, a1, a2, a3, a4, a5, a6, a7] [] M 0 0 Z) ∧ (¬ (¬ x = 0) → Run d 35 63 [a0, a1, a2, a3, a4, a5, a6, a7] [] M 0 0 Z) := R_if (gd35 dX3_doMove_60) (show gTgt 60 83 = some 143 by decide) gIf_ne
theorem z35_63 : Run d 35 63 [a0, some (.ref o), a2, a3, a4, a5, a6, a7] [] M 0 0 Z ↔ Run d 35 64 [a0, some (.ref o), a2, a3, a4, a5, a6, a7] [.ref o] M 0 0 Z := R_local (gd35 dX3_doMove_63) rfl rfl rfl
theorem z35_63n : Run d 35 63 [a0, some .null, a2, a3, a4, a5, a6, a7] [] M 0 0 Z ↔ Run d 35 64 [a0, some .null, a2, a3, a4, a5, a6, a7] [.null] M 0 0 Z := R_local (gd35 dX3_doMove_63) rfl rfl rfl
theorem z35_64 : Run d 35 64 [a0, a1, a2, a3, a4, a5, some (.int x), a7] [s0] M 0 0 Z ↔ Run d 35 66 [a0, a1, a2, a3, a4, a5, some (.int x), a7] [.int x, s0] M 0 0 Z := R_local (gd35 dX3_doMove_64) rfl rfl rfl
theorem z35_66 : Run d 35 66 [a0, a1, a2, a3, some (.int x), a5, a6, a7] [s1, s0] M 0 0 Z ↔ Run d 35 68 [a0, a1, a2, a3, some (.int x), a5, a6, a7] [.int x, s1, s0] M 0 0 Z := R_local (gd35 dX3_doMove_66) rfl rfl rfl
theorem z35_68 : Run d 35 68 [some (.ref o), a1, a2, a3, a4, a5, a6, a7] [s2, s1, s0] M 0 0 Z ↔ Run d 35 69 [some (.ref o), a1, a2, a3, a4, a5, a6, a7] [.ref o, s2, s1, s0] M 0 0 Z := R_local (gd35 dX3_doMove_68) rfl rfl rfl
theorem z35_69 : Run d 35 69 [a0, a1, a2, a3, a4, a5, a6, a7] [.ref o, s2, s1, s0] M 0 0 Z ↔ gObj M o 3 ∧ Run d 35 72 [a0, a1, a2, a3, a4, a5, a6, a7] [va_rf (M.2.1 o 5), s2, s1, s0] M 0 0 Z := R_getR (gd35 dX3_doMove_69) rfl gf_3_29 rfl
theorem z35_72 : Run d 35 72 [a0, a1, a2, a3, a4, a5, a6, a7] [s3, s2, s1, .ref b] M 0 0 Z ↔ gObj M b 4 ∧ Call d 55 [.ref b, s1, s2, s3] M (fun r M1 => Run d 35 75 [a0, a1, a2, a3, a4, a5, a6, a7] (r.toList ++ []) M1 0 0 Z) := R_callV (gd35 dX3_doMove_72) rfl rfl rfl rfl rfl rfl gc_3_58 rfl rfl (Nat.le_of_ble_eq_true rfl) (Nat.le_of_ble_eq_true rfl) rfl rfl (Nat.le_of_ble_eq_true rfl) (Nat.le_of_ble_eq_true rfl)
theorem z35_75 : Run d 35 75 [a0, some (.ref o), a2, a3, a4, a5, a6, a7] [s0] M 0 0 Z ↔ Run d 35 76 [a0, some (.ref o), a2, a3, a4, a5, a6, a7] [.ref o, s0] M 0 0 Z := R_local (gd35 dX3_doMove_75) rfl rfl rfl
theorem z35_75n : Run d 35 75 [a0, some .null, a2, a3, a4, a5, a6, a7] [s0] M 0 0 Z ↔ Run d 35 76 [a0, some .null, a2, a3, a4, a5, a6, a7] [.null, s0] M 0 0 Z := R_local (gd35 dX3_doMove_75) rfl rfl rfl
theorem z35_76 : Run d 35 76 [a0, a1, a2, a3, some (.int x), a5, a6, a7] [s1, s0] M 0 0 Z ↔ Run d 35 78 [a0, a1, a2, a3, some (.int x), a5, a6, a7] [.int x, s1, s0] M 0 0 Z := R_local (gd35 dX3_doMove_76) rfl rfl rfl
theorem z35_78 : Run d 35 78 [a0, a1, a2, a3, a4, a5, a6, a7] [s2, .ref b, s0] M 0 0 Z ↔ gObj M b 4 ∧ Call d 48 [.ref b, s2] M (fun r M1 => Run d 35 81 [a0, a1, a2, a3, a4, a5, a6, a7] (r.toList ++ [s0]) M1 0 0 Z) := R_callV (gd35 dX3_doMove_78) rfl rfl rfl rfl rfl rfl gc_3_66 rfl rfl (Nat.le_of_ble_eq_true rfl) (Nat.le_of_ble_eq_true rfl) rfl rfl (Nat.le_of_ble_eq_true rfl) (Nat.le_of_ble_eq_true rfl)
theorem z35_81 : Run d 35 81 [a0, a1, a2, some (.int x), a4, a5, a6, a7] [s1, s0] M 0 0 Z ↔ Run d 35 82 [a0, a1, a2, some (.int x), a4, a5, a6, a7] [.int x, s1, s0] M 0 0 Z := R_local (gd35 dX3_doMove_81) rfl rfl rfl
theorem z35_82 : Run d 35 82 [a0, a1, a2, a3, a4, a5, a6, a7] [.int y, .int x, s0] M 0 0 Z ↔ (¬ x = y → Run d 35 89 [a0, a1, a2, a3, a4, a5, a6, a7] [s0] M 0 0 Z) ∧ (¬ (¬ x = y) → Run d 35 85 [a0, a1, a2, a3, a4, a5, a6, a7] [s0] M 0 0 Z) := R_icmp (gd35 dX3_doMove_82) (show gTgt 82 7 = some 89 by decide) gIf_ne
theorem z35_85 : Run d 35 85 [a0, a1, a2, a3, a4, a5, a6, a7] [s0] M 0 0 Z ↔ Run d 35 86 [a0, a1, a2, a3, a4, a5, a6, a7] [.int 4, s0] M 0 0 Z := R_iconst (gd35 dX3_doMove_85) (by decide)
theorem z35_86 : Run d 35 86 [a0, a1, a2, a3, a4, a5, a6, a7] [s1, s0] M 0 0 Z ↔ Run d 35 90 [a0, a1, a2, a3, a4, a5, a6, a7] [s1, s0] M 0 0 Z := R_goto (gd35 dX3_doMove_86) (show gTgt 86 4 = some 90 by decide)
theorem z35_89 : Run d 35 89 [a0, a1, a2, a3, a4, a5, a6, a7] [s0] M 0 0 Z ↔ Run d 35 90 [a0, a1, a2, a3, a4, a5, a6, a7] [.int 0, s0] M 0 0 Z := R_iconst (gd35 dX3_doMove_89) (by decide)
theorem z35_90 : Run d 35 90 [a0, a1, a2, a3, a4, a5, a6, a7] [.int y, .int x] M 0 0 Z ↔ Run d 35 91 [a0, a1, a2, a3, a4, a5, a6, a7] [.int (x + y)] M 0 0 Z := R_arith (gd35 dX3_doMove_90) rfl
theorem z35_91 : Run d 35 91 [a0, a1, a2, a3, a4, a5, a6, a7] [.int x] M 0 0 Z ↔ Run d 35 93 [a0, a1, a2, a3, a4, a5, a6, some (.int x)] [] M 0 0 Z := R_local (gd35 dX3_doMove_91) rfl rfl rfl
theorem z35_93 : Run d 35 93 [a0, some (.ref o), a2, a3, a4, a5, a6, a7] [] M 0 0 Z ↔ Run d 35 94 [a0, some (.ref o), a2, a3, a4, a5, a6, a7] [.ref o] M 0 0 Z := R_local (gd35 dX3_doMove_93) rfl rfl rfl
theorem z35_93n : Run d 35 93 [a0, some .null, a2, a3, a4, a5, a6, a7] [] M 0 0 Z ↔ Run d 35 94 [a0, some .null, a2, a3, a4, a5, a6, a7] [.null] M 0 0 Z := R_local (gd35 dX3_doMove_93) rfl rfl rfl
theorem z35_94 : Run d 35 94 [a0, a1, a2, a3, a4, a5, some (.int x), a7] [s0] M 0 0 Z ↔ Run d 35 96 [a0, a1, a2, a3, a4, a5, some (.int x), a7] [.int x, s0] M 0 0 Z := R_local (gd35 dX3_doMove_94) rfl rfl rfl
theorem z35_96 : Run d 35 96 [a0, a1, a2, a3, some (.int x), a5, a6, a7] [s1, s0] M 0 0 Z ↔ Run d 35 98 [a0, a1, a2, a3, some (.int x), a5, a6, a7] [.int x, s1, s0] M 0 0 Z := R_local (gd35 dX3_doMove_96) rfl rfl rfl
theorem z35_98 : Run d 35 98 [some (.ref o), a1, a2, a3, a4, a5, a6, a7] [s2, s1, s0] M 0 0 Z ↔ Run d 35 99 [some (.ref o), a1, a2, a3, a4, a5, a6, a7] [.ref o, s2, s1, s0] M 0 0 Z := R_local (gd35 dX3_doMove_98) rfl rfl rfl
theorem z35_99 : Run d 35 99 [a0, a1, a2, a3, a4, a5, a6, a7] [.ref o, s2, s1, s0] M 0 0 Z ↔ gObj M o 3 ∧ Run d 35 102 [a0, a1, a2, a3, a4, a5, a6, a7] [va_rf (M.2.1 o 0), s2, s1, s0] M 0 0 Z := R_getR (gd35 dX3_doMove_99) rfl gf_3_9 rfl
theorem z35_102 : Run d 35 102 [a0, a1, some (.int x), a3, a4, a5, a6, a7] [s3, s2, s1, s0] M 0 0 Z ↔ Run d 35 103 [a0, a1, some (.int x), a3, a4, a5, a6, a7] [.int x, s3, s2, s1, s0] M 0 0 Z := R_local (gd35 dX3_doMove_102) rfl rfl rfl
theorem z35_103 : Run d 35 103 [a0, a1, a2, a3, a4, a5, a6, a7] [s4, s3, s2, s1, s0] M 0 0 Z ↔ Run d 35 105 [a0, a1, a2, a3, a4, a5, a6, a7] [.int 8, s4, s3, s2, s1, s0] M 0 0 Z := R_bipush (gd35 dX3_doMove_103) (by decide)
theorem z35_105 : Run d 35 105 [a0, a1, a2, a3, a4, a5, a6, a7] [.int y, .int x, s3, s2, s1, s0] M 0 0 Z ↔ Run d 35 106 [a0, a1, a2, a3, a4, a5, a6, a7] [.int (x * y), s3, s2, s1, s0] M 0 0 Z := R_arith (gd35 dX3_doMove_105) rfl
theorem z35_106 : Run d 35 106 [a0, a1, a2, a3, a4, a5, a6, a7] [s4, s3, s2, s1, .ref b] M 0 0 Z ↔ gObj M b 4 ∧ Call d 54 [.ref b, s1, s2, s3, s4] M (fun r M1 => Run d 35 109 [a0, a1, a2, a3, a4, a5, a6, a7] (r.toList ++ []) M1 0 0 Z) := R_callV (gd35 dX3_doMove_106) rfl rfl rfl rfl rfl rfl gc_3_69 rfl rfl (Nat.le_of_ble_eq_true rfl) (Nat.le_of_ble_eq_true rfl) rfl rfl (Nat.le_of_ble_eq_true rfl) (Nat.le_of_ble_eq_true rfl)
theorem z35_109 : Run d 35 109 [a0, a1, a2, a3, a4, a5, a6, some (.int x)] [s0] M 0 0 Z ↔ Run d 35 111 [a0, a1, a2, a3, a4, a5, a6, some (.int x)] [.int x, s0] M 0 0 Z := R_local (gd35 dX3_doMove_109) rfl rfl rfl
theorem z35_111 : Run d 35 111 [a0, a1, a2, a3, a4, a5, a6, a7] [.int y, .int x] M 0 0 Z ↔ (x ≤ y → Run d 35 131 [a0, a1, a2, a3, a4, a5, a6, a7] [] M 0 0 Z) ∧ (¬ (x ≤ y) → Run d 35 114 [a0, a1, a2, a3, a4, a5, a6, a7] [] M 0 0 Z) := R_icmp (gd35 dX3_doMove_111) (show gTgt 111 20 = some 131 by decide) gIf_le
theorem z35_114 : Run d 35 114 [some (.ref o), a1, a2, a3, a4, a5, a6, a7] [] M 0 0 Z ↔ Run d 35 115 [some (.ref o), a1, a2, a3, a4, a5, a6, a7] [.ref o] M 0 0 Z := R_local (gd35 dX3_doMove_114) rfl rfl rfl
theorem z35_115 : Run d 35 115 [a0, a1, a2, a3, a4, a5, some (.int x), a7] [s0] M 0 0 Z ↔ Run d 35 117 [a0, a1, a2, a3, a4, a5, some (.int x), a7] [.int x, s0] M 0 0 Z := R_local (gd35 dX3_doMove_115) rfl rfl rfl
theorem z35_117 : Run d 35 117 [a0, a1, a2, a3, some (.int x), a5, a6, a7] [s1, s0] M 0 0 Z ↔ Run d 35 119 [a0, a1, a2, a3, some (.int x), a5, a6, a7] [.int x, s1, s0] M 0 0 Z := R_local (gd35 dX3_doMove_117) rfl rfl rfl
theorem z35_119 : Run d 35 119 [a0, some (.ref o), a2, a3, a4, a5, a6, a7] [s2, s1, s0] M 0 0 Z ↔ Run d 35 120 [a0, some (.ref o), a2, a3, a4, a5, a6, a7] [.ref o, s2, s1, s0] M 0 0 Z := R_local (gd35 dX3_doMove_119) rfl rfl rfl
theorem z35_119n : Run d 35 119 [a0, some .null, a2, a3, a4, a5, a6, a7] [s2, s1, s0] M 0 0 Z ↔ Run d 35 120 [a0, some .null, a2, a3, a4, a5, a6, a7] [.null, s2, s1, s0] M 0 0 Z := R_local (gd35 dX3_doMove_119) rfl rfl rfl
theorem z35_120 : Run d 35 120 [a0, a1, a2, a3, some (.int x), a5, a6, a7] [s3, s2, s1, s0] M 0 0 Z ↔ Run d 35 122 [a0, a1, a2, a3, some (.int x), a5, a6, a7] [.int x, s3, s2, s1, s0] M 0 0 Z := R_local (gd35 dX3_doMove_120) rfl rfl rfl
theorem z35_122 : Run d 35 122 [a0, a1, a2, a3, a4, a5, a6, a7] [s4, .ref b, s2, s1, s0] M 0 0 Z ↔ gObj M b 4 ∧ Call d 48 [.ref b, s4] M (fun r M1 => Run d 35 125 [a0, a1, a2, a3, a4, a5, a6, a7] (r.toList ++ [s2, s1, s0]) M1 0 0 Z) := R_callV (gd35 dX3_doMove_122) rfl rfl rfl rfl rfl rfl gc_3_66 rfl rfl (Nat.le_of_ble_eq_true rfl) (Nat.le_of_ble_eq_true rfl) rfl rfl (Nat.le_of_ble_eq_true rfl) (Nat.le_of_ble_eq_true rfl)
theorem z35_125 : Run d 35 125 [a0, a1, a2, a3, a4, a5, a6, a7] [s3, s2, s1, .ref b] M 0 0 Z ↔ gObj M b 3 ∧ Call d 36 [.ref b, s1, s2, s3] M (fun r M1 => Run d 35 128 [a0, a1, a2, a3, a4, a5, a6, a7] (r.toList ++ []) M1 0 0 Z) := R_callV (gd35 dX3_doMove_125) rfl rfl rfl rfl rfl rfl gc_3_73 rfl rfl (Nat.le_of_ble_eq_true rfl) (Nat.le_of_ble_eq_true rfl) rfl rfl (Nat.le_of_ble_eq_true rfl) (Nat.le_of_ble_eq_true rfl)
theorem z35_128 : Run d 35 128 [a0, a1, a2, a3, a4, a5, a6, a7] [] M 0 0 Z ↔ Run d 35 143 [a0, a1, a2, a3, a4, a5, a6, a7] [] M 0 0 Z := R_goto (gd35 dX3_doMove_128) (show gTgt 128 15 = some 143 by decide)
theorem z35_131 : Run d 35 131 [a0, some (.ref o), a2, a3, a4, a5, a6, a7] [] M 0 0 Z ↔ Run d 35 132 [a0, some (.ref o), a2, a3, a4, a5, a6, a7] [.ref o] M 0 0 Z := R_local (gd35 dX3_doMove_131) rfl rfl rfl
theorem z35_131n : Run d 35 131 [a0, some .null, a2, a3, a4, a5, a6, a7] [] M 0 0 Z ↔ Run d 35 132 [a0, some .null, a2, a3, a4, a5, a6, a7] [.null] M 0 0 Z := R_local (gd35 dX3_doMove_131) rfl rfl rfl
theorem z35_132 : Run d 35 132 [a0, a1, a2, a3, a4, a5, some (.int x), a7] [s0] M 0 0 Z ↔ Run d 35 134 [a0, a1, a2, a3, a4, a5, some (.int x), a7] [.int x, s0] M 0 0 Z := R_local (gd35 dX3_doMove_132) rfl rfl rfl
theorem z35_134 : Run d 35 134 [a0, a1, a2, a3, some (.int x), a5, a6, a7] [s1, s0] M 0 0 Z ↔ Run d 35 136 [a0, a1, a2, a3, some (.int x), a5, a6, a7] [.int x, s1, s0] M 0 0 Z := R_local (gd35 dX3_doMove_134) rfl rfl rfl
theorem z35_136 : Run d 35 136 [some (.ref o), a1, a2, a3, a4, a5, a6, a7] [s2, s1, s0] M 0 0 Z ↔ Run d 35 137 [some (.ref o), a1, a2, a3, a4, a5, a6, a7] [.ref o, s2, s1, s0] M 0 0 Z := R_local (gd35 dX3_doMove_136) rfl rfl rfl
theorem z35_137 : Run d 35 137 [a0, a1, a2, a3, a4, a5, a6, a7] [.ref o, s2, s1, s0] M 0 0 Z ↔ gObj M o 3 ∧ Run d 35 140 [a0, a1, a2, a3, a4, a5, a6, a7] [va_rf (M.2.1 o 5), s2, s1, s0] M 0 0 Z := R_getR (gd35 dX3_doMove_137) rfl gf_3_29 rfl
theorem z35_140 : Run d 35 140 [a0, a1, a2, a3, a4, a5, a6, a7] [s3, s2, s1, .ref b] M 0 0 Z ↔ gObj M b 4 ∧ Call d 56 [.ref b, s1, s2, s3] M (fun r M1 => Run d 35 143 [a0, a1, a2, a3, a4, a5, a6, a7] (r.toList ++ []) M1 0 0 Z) := R_callV (gd35 dX3_doMove_140) rfl rfl rfl rfl rfl rfl gc_3_51 rfl rfl (Nat.le_of_ble_eq_true rfl) (Nat.le_of_ble_eq_true rfl) rfl rfl (Nat.le_of_ble_eq_true rfl) (Nat.le_of_ble_eq_true rfl)
theorem z35_143 : Run d 35 143 [a0, a1, a2, a3, a4, a5, some (.int x), a7] [] M 0 0 Z ↔ Run d 35 145 [a0, a1, a2, a3, a4, a5, some (.int x), a7] [.int x] M 0 0 Z := R_local (gd35 dX3_doMove_143) rfl rfl rfl
theorem z35_145 : Run d 35 145 [a0, a1, a2, a3, a4, a5, a6, a7] [s0] M 0 0 Z ↔ Run d 35 146 [a0, a1, a2, a3, a4, a5, a6, a7] [.int 1, s0] M 0 0 Z := R_iconst (gd35 dX3_doMove_145) (by decide)
theorem z35_146 : Run d 35 146 [a0, a1, a2, a3, a4, a5, a6, a7] [.int y, .int x] M 0 0 Z ↔ Run d 35 147 [a0, a1, a2, a3, a4, a5, a6, a7] [.int (x - y)] M 0 0 Z := R_arith (gd35 dX3_doMove_146) rfl
theorem z35_147 : Run d 35 147 [a0, a1, a2, a3, a4, a5, a6, a7] [.int x] M 0 0 Z ↔ Run d 35 149 [a0, a1, a2, a3, some (.int x), a5, a6, a7] [] M 0 0 Z := R_local (gd35 dX3_doMove_147) rfl rfl rfl
theorem z35_149 : Run d 35 149 [a0, a1, a2, a3, a4, some (.int x), a6, a7] [] M 0 0 Z ↔ Run d 35 152 [a0, a1, a2, a3, a4, some (.int (x + 1)), a6, a7] [] M 0 0 Z := R_iinc (gd35 dX3_doMove_149) (by decide) rfl rfl
theorem z35_152 : Run d 35 152 [a0, a1, a2, a3, a4, a5, a6, a7] [] M 0 0 Z ↔ Run d 35 19 [a0, a1, a2, a3, a4, a5, a6, a7] [] M 0 0 Z := R_goto (gd35 dX3_doMove_152) (show gTgt 152 (-133) = some 19 by decide)
theorem z35_155 : Run d 35 155 [a0, a1, a2, a3, a4, a5, a6, a7] [] M 0 0 Z ↔ Z none M := R_vret (gd35 dX3_doMove_155) rfl
theorem e35 : Call (d + 1) 35 [s0, s1, s2, s3] M Z ↔ Run d 35 0 [some s0, some s1, some s2, some s3, none, none, none, none] [] M 0 0 Z := Call_iff (Nat.lt_of_lt_of_le (Nat.lt_succ_self 35) (Nat.le_of_ble_eq_true rfl)) (Nat.le_of_ble_eq_true rfl)
/-! 36: X3_slip (III)V -/
theorem gd36 {pc : Nat} {r : Except _ _} (h : decode cX3_slip pc = r) : decode (gby 36) pc = r := h
theorem z36_0 : Run d 36 0 [a0, some (.int x), a2, a3, a4] [] M 0 0 Z ↔ Run d 36 1 [a0, some (.int x), a2, a3, a4] [.int x] M 0 0 Z := R_local (gd36 dX3_slip_0) rfl rfl rfl
theorem z36_1 : Run d 36 1 [a0, a1, a2, a3, a4] [.int x] M 0 0 Z ↔ Run d 36 3 [a0, a1, a2, a3, some (.int x)] [] M 0 0 Z := R_local (gd36 dX3_slip_1) rfl rfl rfl
theorem z36_3 : Run d 36 3 [a0, a1, a2, a3, some (.int x)] [] M 0 0 Z ↔ Run d 36 5 [a0, a1, a2, a3, some (.int x)] [.int x] M 0 0 Z := R_local (gd36 dX3_slip_3) rfl rfl rfl
theorem z36_5 : Run d 36 5 [a0, a1, some (.int x), a3, a4] [s0] M 0 0 Z ↔ Run d 36 6 [a0, a1, some (.int x), a3, a4] [.int x, s0] M 0 0 Z := R_local (gd36 dX3_slip_5) rfl rfl rfl
theorem z36_6 : Run d 36 6 [a0, a1, a2, a3, a4] [.int y, .int x] M 0 0 Z ↔ (y < x → Run d 36 36 [a0, a1, a2, a3, a4] [] M 0 0 Z) ∧ (¬ (y < x) → Run d 36 9 [a0, a1, a2, a3, a4] [] M 0 0 Z) := R_icmp (gd36 dX3_slip_6) (show gTgt 6 30 = some 36 by decide) gIf_gt
theorem z36_9 : Run d 36 9 [a0, a1, a2, a3, some (.int x)] [] M 0 0 Z ↔ Run d 36 11 [a0, a1, a2, a3, some (.int x)] [.int x] M 0 0 Z := R_local (gd36 dX3_slip_9) rfl rfl rfl
theorem z36_11 : Run d 36 11 [some (.ref o), a1, a2, a3, a4] [s0] M 0 0 Z ↔ Run d 36 12 [some (.ref o), a1, a2, a3, a4] [.ref o, s0] M 0 0 Z := R_local (gd36 dX3_slip_11) rfl rfl rfl
theorem z36_12 : Run d 36 12 [a0, a1, a2, a3, a4] [.ref o, s0] M 0 0 Z ↔ gObj M o 3 ∧ Run d 36 15 [a0, a1, a2, a3, a4] [va_rf (M.2.1 o 2), s0] M 0 0 Z := R_getR (gd36 dX3_slip_12) rfl gf_3_19 rfl
theorem z36_15 : Run d 36 15 [a0, a1, a2, a3, a4] [.ref o, s0] M 0 0 Z ↔ (gTy M o).isSome = true ∧ Run d 36 16 [a0, a1, a2, a3, a4] [.int (nI (gLen M o)), s0] M 0 0 Z := R_alen (gd36 dX3_slip_15)
theorem z36_16 : Run d 36 16 [a0, a1, a2, a3, a4] [s1, s0] M 0 0 Z ↔ Call d 110 [s0, s1] M (fun r M1 => Run d 36 19 [a0, a1, a2, a3, a4] (r.toList ++ []) M1 0 0 Z) := R_call (gd36 dX3_slip_16) rfl rfl rfl rfl rfl rfl gc_3_32 rfl (by decide) (Nat.le_of_ble_eq_true rfl) (Nat.le_of_ble_eq_true rfl) rfl rfl rfl (Nat.le_of_ble_eq_true rfl) (Nat.le_of_ble_eq_true rfl)
theorem z36_19 : Run d 36 19 [a0, a1, a2, a3, a4] [.int x] M 0 0 Z ↔ (x = 0 → Run d 36 30 [a0, a1, a2, a3, a4] [] M 0 0 Z) ∧ (¬ (x = 0) → Run d 36 22 [a0, a1, a2, a3, a4] [] M 0 0 Z) := R_if (gd36 dX3_slip_19) (show gTgt 19 11 = some 30 by decide) gIf_eq
theorem z36_22 : Run d 36 22 [some (.ref o), a1, a2, a3, a4] [] M 0 0 Z ↔ Run d 36 23 [some (.ref o), a1, a2, a3, a4] [.ref o] M 0 0 Z := R_local (gd36 dX3_slip_22) rfl rfl rfl
theorem z36_23 : Run d 36 23 [a0, a1, a2, a3, a4] [.ref o] M 0 0 Z ↔ gObj M o 3 ∧ Run d 36 26 [a0, a1, a2, a3, a4] [va_rf (M.2.1 o 2)] M 0 0 Z := R_getR (gd36 dX3_slip_23) rfl gf_3_19 rfl
theorem z36_26 : Run d 36 26 [a0, a1, a2, a3, some (.int x)] [s0] M 0 0 Z ↔ Run d 36 28 [a0, a1, a2, a3, some (.int x)] [.int x, s0] M 0 0 Z := R_local (gd36 dX3_slip_26) rfl rfl rfl
theorem z36_28 : Run d 36 28 [a0, a1, a2, a3, a4] [s1, s0] M 0 0 Z ↔ Run d 36 29 [a0, a1, a2, a3, a4] [.int 1, s1, s0] M 0 0 Z := R_iconst (gd36 dX3_slip_28) (by decide)
theorem z36_29 (hg : gAr M o 2) : Run d 36 29 [a0, a1, a2, a3, a4] [.int y, .int x, .ref o] M 0 0 Z ↔ gIn x (gLen M o) = true ∧ Run d 36 30 [a0, a1, a2, a3, a4] [] (gsI M o x.toNatClampNeg (y &&& 1)) 0 0 Z := R_zast (gd36 dX3_slip_29) hg
theorem z36_30 : Run d 36 30 [a0, a1, a2, a3, some (.int x)] [] M 0 0 Z ↔ Run d 36 33 [a0, a1, a2, a3, some (.int (x + 1))] [] M 0 0 Z := R_iinc (gd36 dX3_slip_30) (by decide) rfl rfl
theorem z36_33 : Run d 36 33 [a0, a1, a2, a3, a4] [] M 0 0 Z ↔ Run d 36 3 [a0, a1, a2, a3, a4] [] M 0 0 Z := R_goto (gd36 dX3_slip_33) (show gTgt 33 (-30) = some 3 by decide)
theorem z36_36 : Run d 36 36 [some (.ref o), a1, a2, a3, a4] [] M 0 0 Z ↔ Run d 36 37 [some (.ref o), a1, a2, a3, a4] [.ref o] M 0 0 Z := R_local (gd36 dX3_slip_36) rfl rfl rfl
theorem z36_37 : Run d 36 37 [a0, a1, a2, a3, a4] [.ref o] M 0 0 Z ↔ gObj M o 3 ∧ Run d 36 40 [a0, a1, a2, a3, a4] [.int (M.1 o 4)] M 0 0 Z := R_getI (gd36 dX3_slip_37) rfl gf_3_26 rfl
theorem z36_40 : Run d 36 40 [some (.ref o), a1, a2, a3, a4] [s0] M 0 0 Z ↔ Run d 36 41 [some (.ref o), a1, a2, a3, a4] [.ref o, s0] M 0 0 Z := R_local (gd36 dX3_slip_40) rfl rfl rfl
theorem z36_41 : Run d 36 41 [a0, a1, a2, a3, a4] [.ref o, s0] M 0 0 Z ↔ gObj M o 3 ∧ Run d 36 44 [a0, a1, a2, a3, a4] [va_rf (M.2.1 o 3), s0] M 0 0 Z := R_getR (gd36 dX3_slip_41) rfl gf_3_23 rfl
theorem z36_44 : Run d 36 44 [a0, a1, a2, a3, a4] [.ref o, s0] M 0 0 Z ↔ (gTy M o).isSome = true ∧ Run d 36 45 [a0, a1, a2, a3, a4] [.int (nI (gLen M o)), s0] M 0 0 Z := R_alen (gd36 dX3_slip_44)
theorem z36_45 : Run d 36 45 [a0, a1, a2, a3, a4] [s1, s0] M 0 0 Z ↔ Call d 110 [s0, s1] M (fun r M1 => Run d 36 48 [a0, a1, a2, a3, a4] (r.toList ++ []) M1 0 0 Z) := R_call (gd36 dX3_slip_45) rfl rfl rfl rfl rfl rfl gc_3_32 rfl (by decide) (Nat.le_of_ble_eq_true rfl) (Nat.le_of_ble_eq_true rfl) rfl rfl rfl (Nat.le_of_ble_eq_true rfl) (Nat.le_of_ble_eq_true rfl)
theorem z36_48 : Run d 36 48 [a0, a1, a2, a3, a4] [.int x] M 0 0 Z ↔ (x = 0 → Run d 36 71 [a0, a1, a2, a3, a4] [] M 0 0 Z) ∧ (¬ (x = 0) → Run d 36 51 [a0, a1, a2, a3, a4] [] M 0 0 Z) := R_if (gd36 dX3_slip_48) (show gTgt 48 23 = some 71 by decide) gIf_eq
theorem z36_51 : Run d 36 51 [some (.ref o), a1, a2, a3, a4] [] M 0 0 Z ↔ Run d 36 52 [some (.ref o), a1, a2, a3, a4] [.ref o] M 0 0 Z := R_local (gd36 dX3_slip_51) rfl rfl rfl
theorem z36_52 : Run d 36 52 [a0, a1, a2, a3, a4] [.ref o] M 0 0 Z ↔ gObj M o 3 ∧ Run d 36 55 [a0, a1, a2, a3, a4] [va_rf (M.2.1 o 3)] M 0 0 Z := R_getR (gd36 dX3_slip_52) rfl gf_3_23 rfl
theorem z36_55 : Run d 36 55 [some (.ref o), a1, a2, a3, a4] [s0] M 0 0 Z ↔ Run d 36 56 [some (.ref o), a1, a2, a3, a4] [.ref o, s0] M 0 0 Z := R_local (gd36 dX3_slip_55) rfl rfl rfl
theorem z36_56 : Run d 36 56 [a0, a1, a2, a3, a4] [.ref o, s0] M 0 0 Z ↔ gObj M o 3 ∧ Run d 36 59 [a0, a1, a2, a3, a4] [.int (M.1 o 4), s0] M 0 0 Z := R_getI (gd36 dX3_slip_56) rfl gf_3_26 rfl
theorem z36_59 : Run d 36 59 [a0, a1, a2, some (.int x), a4] [s1, s0] M 0 0 Z ↔ Run d 36 60 [a0, a1, a2, some (.int x), a4] [.int x, s1, s0] M 0 0 Z := R_local (gd36 dX3_slip_59) rfl rfl rfl
theorem z36_60 : Run d 36 60 [a0, a1, a2, a3, a4] [.int y, .int x, .ref o] M 0 0 Z ↔ gAr M o 0 ∧ gIn x (gLen M o) = true ∧ Run d 36 61 [a0, a1, a2, a3, a4] [] (gsI M o x.toNatClampNeg y) 0 0 Z := R_iast (gd36 dX3_slip_60)
theorem z36_61 : Run d 36 61 [some (.ref o), a1, a2, a3, a4] [] M 0 0 Z ↔ Run d 36 62 [some (.ref o), a1, a2, a3, a4] [.ref o] M 0 0 Z := R_local (gd36 dX3_slip_61) rfl rfl rfl
theorem z36_62 : Run d 36 62 [a0, a1, a2, a3, a4] [.ref o] M 0 0 Z ↔ Run d 36 63 [a0, a1, a2, a3, a4] [.ref o, .ref o] M 0 0 Z := R_arith (gd36 dX3_slip_62) rfl
theorem z36_63 : Run d 36 63 [a0, a1, a2, a3, a4] [.ref o, s0] M 0 0 Z ↔ gObj M o 3 ∧ Run d 36 66 [a0, a1, a2, a3, a4] [.int (M.1 o 4), s0] M 0 0 Z := R_getI (gd36 dX3_slip_63) rfl gf_3_26 rfl
theorem z36_66 : Run d 36 66 [a0, a1, a2, a3, a4] [s1, s0] M 0 0 Z ↔ Run d 36 67 [a0, a1, a2, a3, a4] [.int 1, s1, s0] M 0 0 Z := R_iconst (gd36 dX3_slip_66) (by decide)
theorem z36_67 : Run d 36 67 [a0, a1, a2, a3, a4] [.int y, .int x, s0] M 0 0 Z ↔ Run d 36 68 [a0, a1, a2, a3, a4] [.int (x + y), s0] M 0 0 Z := R_arith (gd36 dX3_slip_67) rfl
theorem z36_68 : Run d 36 68 [a0, a1, a2, a3, a4] [.int x, .ref o] M 0 0 Z ↔ gObj M o 3 ∧ Run d 36 71 [a0, a1, a2, a3, a4] [] (gsI M o 4 x) 0 0 Z := R_putI (gd36 dX3_slip_68) rfl gf_3_26 (Or.inl rfl) rfl
theorem z36_71 : Run d 36 71 [a0, a1, a2, a3, a4] [] M 0 0 Z ↔ Z none M := R_vret (gd36 dX3_slip_71) rfl
theorem e36 : Call (d + 1) 36 [s0, s1, s2, s3] M Z ↔ Run d 36 0 [some s0, some s1, some s2, some s3, none] [] M 0 0 Z := Call_iff (Nat.lt_of_lt_of_le (Nat.lt_succ_self 36) (Nat.le_of_ble_eq_true rfl)) (Nat.le_of_ble_eq_true rfl)
/-! 37: X3_lastLeft (LClothSchool$Layers;II)I -/
theorem gd37 {pc : Nat} {r : Except _ _} (h : decode cX3_lastLeft pc = r) : decode (gby 37) pc = r := h
theorem z37_0 : Run d 37 0 [a0, some (.ref o), a2, a3, a4] [] M 0 0 Z ↔ Run d 37 1 [a0, some (.ref o), a2, a3, a4] [.ref o] M 0 0 Z := R_local (gd37 dX3_lastLeft_0) rfl rfl rfl
theorem z37_0n : Run d 37 0 [a0, some .null, a2, a3, a4] [] M 0 0 Z ↔ Run d 37 1 [a0, some .null, a2, a3, a4] [.null] M 0 0 Z := R_local (gd37 dX3_lastLeft_0) rfl rfl rfl
theorem z37_1 : Run d 37 1 [a0, a1, a2, a3, a4] [.ref o] M 0 0 Z ↔ gObj M o 4 ∧ Run d 37 4 [a0, a1, a2, a3, a4] [.int (M.1 o 8)] M 0 0 Z := R_getI (gd37 dX3_lastLeft_1) rfl gf_3_48 rfl
theorem z37_4 : Run d 37 4 [a0, a1, a2, a3, a4] [s0] M 0 0 Z ↔ Run d 37 5 [a0, a1, a2, a3, a4] [.int 1, s0] M 0 0 Z := R_iconst (gd37 dX3_lastLeft_4) (by decide)
theorem z37_5 : Run d 37 5 [a0, a1, a2, a3, a4] [.int y, .int x] M 0 0 Z ↔ Run d 37 6 [a0, a1, a2, a3, a4] [.int (x - y)] M 0 0 Z := R_arith (gd37 dX3_lastLeft_5) rfl
theorem z37_6 : Run d 37 6 [a0, a1, a2, a3, a4] [.int x] M 0 0 Z ↔ Run d 37 8 [a0, a1, a2, a3, some (.int x)] [] M 0 0 Z := R_local (gd37 dX3_lastLeft_6) rfl rfl rfl
theorem z37_8 : Run d 37 8 [a0, a1, a2, a3, some (.int x)] [] M 0 0 Z ↔ Run d 37 10 [a0, a1, a2, a3, some (.int x)] [.int x] M 0 0 Z := R_local (gd37 dX3_lastLeft_8) rfl rfl rfl
theorem z37_10 : Run d 37 10 [a0, a1, a2, a3, a4] [.int x] M 0 0 Z ↔ (x < 0 → Run d 37 56 [a0, a1, a2, a3, a4] [] M 0 0 Z) ∧ (¬ (x < 0) → Run d 37 13 [a0, a1, a2, a3, a4] [] M 0 0 Z) := R_if (gd37 dX3_lastLeft_10) (show gTgt 10 46 = some 56 by decide) gIf_lt
theorem z37_13 : Run d 37 13 [a0, a1, a2, a3, some (.int x)] [] M 0 0 Z ↔ Run d 37 15 [a0, a1, a2, a3, some (.int x)] [.int x] M 0 0 Z := R_local (gd37 dX3_lastLeft_13) rfl rfl rfl
theorem z37_15 : Run d 37 15 [some (.ref o), a1, a2, a3, a4] [s0] M 0 0 Z ↔ Run d 37 16 [some (.ref o), a1, a2, a3, a4] [.ref o, s0] M 0 0 Z := R_local (gd37 dX3_lastLeft_15) rfl rfl rfl
theorem z37_16 : Run d 37 16 [a0, a1, a2, a3, a4] [.ref o, s0] M 0 0 Z ↔ gObj M o 3 ∧ Run d 37 19 [a0, a1, a2, a3, a4] [va_rf (M.2.1 o 2), s0] M 0 0 Z := R_getR (gd37 dX3_lastLeft_16) rfl gf_3_19 rfl
theorem z37_19 : Run d 37 19 [a0, a1, a2, a3, a4] [.ref o, s0] M 0 0 Z ↔ (gTy M o).isSome = true ∧ Run d 37 20 [a0, a1, a2, a3, a4] [.int (nI (gLen M o)), s0] M 0 0 Z := R_alen (gd37 dX3_lastLeft_19)
theorem z37_20 : Run d 37 20 [a0, a1, a2, a3, a4] [s1, s0] M 0 0 Z ↔ Call d 110 [s0, s1] M (fun r M1 => Run d 37 23 [a0, a1, a2, a3, a4] (r.toList ++ []) M1 0 0 Z) := R_call (gd37 dX3_lastLeft_20) rfl rfl rfl rfl rfl rfl gc_3_32 rfl (by decide) (Nat.le_of_ble_eq_true rfl) (Nat.le_of_ble_eq_true rfl) rfl rfl rfl (Nat.le_of_ble_eq_true rfl) (Nat.le_of_ble_eq_true rfl)
theorem z37_23 : Run d 37 23 [a0, a1, a2, a3, a4] [.int x] M 0 0 Z ↔ (x = 0 → Run d 37 50 [a0, a1, a2, a3, a4] [] M 0 0 Z) ∧ (¬ (x = 0) → Run d 37 26 [a0, a1, a2, a3, a4] [] M 0 0 Z) := R_if (gd37 dX3_lastLeft_23) (show gTgt 23 27 = some 50 by decide) gIf_eq
theorem z37_26 : Run d 37 26 [some (.ref o), a1, a2, a3, a4] [] M 0 0 Z ↔ Run d 37 27 [some (.ref o), a1, a2, a3, a4] [.ref o] M 0 0 Z := R_local (gd37 dX3_lastLeft_26) rfl rfl rfl
theorem z37_27 : Run d 37 27 [a0, a1, a2, a3, a4] [.ref o] M 0 0 Z ↔ gObj M o 3 ∧ Run d 37 30 [a0, a1, a2, a3, a4] [va_rf (M.2.1 o 2)] M 0 0 Z := R_getR (gd37 dX3_lastLeft_27) rfl gf_3_19 rfl
theorem z37_30 : Run d 37 30 [a0, a1, a2, a3, some (.int x)] [s0] M 0 0 Z ↔ Run d 37 32 [a0, a1, a2, a3, some (.int x)] [.int x, s0] M 0 0 Z := R_local (gd37 dX3_lastLeft_30) rfl rfl rfl
theorem z37_32 (hg : gAr M o 2) : Run d 37 32 [a0, a1, a2, a3, a4] [.int x, .ref o] M 0 0 Z ↔ gIn x (gLen M o) = true ∧ Run d 37 33 [a0, a1, a2, a3, a4] [.int (M.1 o x.toNatClampNeg)] M 0 0 Z := R_bald (gd37 dX3_lastLeft_32) (by decide) hg
theorem z37_33 : Run d 37 33 [a0, a1, a2, a3, a4] [.int x] M 0 0 Z ↔ (¬ x = 0 → Run d 37 50 [a0, a1, a2, a3, a4] [] M 0 0 Z) ∧ (¬ (¬ x = 0) → Run d 37 36 [a0, a1, a2, a3, a4] [] M 0 0 Z) := R_if (gd37 dX3_lastLeft_33) (show gTgt 33 17 = some 50 by decide) gIf_ne
theorem z37_36 : Run d 37 36 [a0, some (.ref o), a2, a3, a4] [] M 0 0 Z ↔ Run d 37 37 [a0, some (.ref o), a2, a3, a4] [.ref o] M 0 0 Z := R_local (gd37 dX3_lastLeft_36) rfl rfl rfl
theorem z37_36n : Run d 37 36 [a0, some .null, a2, a3, a4] [] M 0 0 Z ↔ Run d 37 37 [a0, some .null, a2, a3, a4] [.null] M 0 0 Z := R_local (gd37 dX3_lastLeft_36) rfl rfl rfl
theorem z37_37 : Run d 37 37 [a0, a1, a2, a3, some (.int x)] [s0] M 0 0 Z ↔ Run d 37 39 [a0, a1, a2, a3, some (.int x)] [.int x, s0] M 0 0 Z := R_local (gd37 dX3_lastLeft_37) rfl rfl rfl
theorem z37_39 : Run d 37 39 [a0, a1, some (.int x), a3, a4] [s1, s0] M 0 0 Z ↔ Run d 37 40 [a0, a1, some (.int x), a3, a4] [.int x, s1, s0] M 0 0 Z := R_local (gd37 dX3_lastLeft_39) rfl rfl rfl
theorem z37_40 : Run d 37 40 [a0, a1, a2, some (.int x), a4] [s2, s1, s0] M 0 0 Z ↔ Run d 37 41 [a0, a1, a2, some (.int x), a4] [.int x, s2, s1, s0] M 0 0 Z := R_local (gd37 dX3_lastLeft_40) rfl rfl rfl
theorem z37_41 : Run d 37 41 [a0, a1, a2, a3, a4] [s3, s2, s1, .ref b] M 0 0 Z ↔ gObj M b 4 ∧ Call d 44 [.ref b, s1, s2, s3] M (fun r M1 => Run d 37 44 [a0, a1, a2, a3, a4] (r.toList ++ []) M1 0 0 Z) := R_callV (gd37 dX3_lastLeft_41) rfl rfl rfl rfl rfl rfl gc_3_77 rfl rfl (Nat.le_of_ble_eq_true rfl) (Nat.le_of_ble_eq_true rfl) rfl rfl (Nat.le_of_ble_eq_true rfl) (Nat.le_of_ble_eq_true rfl)
theorem z37_44 : Run d 37 44 [a0, a1, a2, a3, a4] [.int x] M 0 0 Z ↔ (x = 0 → Run d 37 50 [a0, a1, a2, a3, a4] [] M 0 0 Z) ∧ (¬ (x = 0) → Run d 37 47 [a0, a1, a2, a3, a4] [] M 0 0 Z) := R_if (gd37 dX3_lastLeft_44) (show gTgt 44 6 = some 50 by decide) gIf_eq
theorem z37_47 : Run d 37 47 [a0, a1, a2, a3, some (.int x)] [] M 0 0 Z ↔ Run d 37 49 [a0, a1, a2, a3, some (.int x)] [.int x] M 0 0 Z := R_local (gd37 dX3_lastLeft_47) rfl rfl rfl
theorem z37_49 : Run d 37 49 [a0, a1, a2, a3, a4] [.int x] M 0 0 Z ↔ Z (some (.int x)) M := R_iret (gd37 dX3_lastLeft_49) rfl
theorem z37_50 : Run d 37 50 [a0, a1, a2, a3, some (.int x)] [] M 0 0 Z ↔ Run d 37 53 [a0, a1, a2, a3, some (.int (x + (-1)))] [] M 0 0 Z := R_iinc (gd37 dX3_lastLeft_50) (by decide) rfl rfl
theorem z37_53 : Run d 37 53 [a0, a1, a2, a3, a4] [] M 0 0 Z ↔ Run d 37 8 [a0, a1, a2, a3, a4] [] M 0 0 Z := R_goto (gd37 dX3_lastLeft_53) (show gTgt 53 (-45) = some 8 by decide)
theorem z37_56 : Run d 37 56 [a0, a1, a2, a3, a4] [] M 0 0 Z ↔ Run d 37 57 [a0, a1, a2, a3, a4] [.int (-1)] M 0 0 Z := R_iconst (gd37 dX3_lastLeft_56) (by decide)
theorem z37_57 : Run d 37 57 [a0, a1, a2, a3, a4] [.int x] M 0 0 Z ↔ Z (some (.int x)) M := R_iret (gd37 dX3_lastLeft_57) rfl
theorem e37 : Call (d + 1) 37 [s0, s1, s2, s3] M Z ↔ Run d 37 0 [some s0, some s1, some s2, some s3, none] [] M 0 0 Z := Call_iff (Nat.lt_of_lt_of_le (Nat.lt_succ_self 37) (Nat.le_of_ble_eq_true rfl)) (Nat.le_of_ble_eq_true rfl)
/-! 38: X3_fixedBy (LClothSchool$Layers;)I -/
theorem gd38 {pc : Nat} {r : Except _ _} (h : decode cX3_fixedBy pc = r) : decode (gby 38) pc = r := h
theorem z38_0 : Run d 38 0 [some (.ref o), a1, a2, a3] [] M 0 0 Z ↔ Run d 38 1 [some (.ref o), a1, a2, a3] [.ref o] M 0 0 Z := R_local (gd38 dX3_fixedBy_0) rfl rfl rfl
theorem z38_1 : Run d 38 1 [a0, a1, a2, a3] [.ref o] M 0 0 Z ↔ gObj M o 3 ∧ Run d 38 4 [a0, a1, a2, a3] [va_rf (M.2.1 o 3)] M 0 0 Z := R_getR (gd38 dX3_fixedBy_1) rfl gf_3_23 rfl
theorem z38_4 : Run d 38 4 [a0, a1, a2, a3] [s0] M 0 0 Z ↔ Run d 38 5 [a0, a1, a2, a3] [.int 0, s0] M 0 0 Z := R_iconst (gd38 dX3_fixedBy_4) (by decide)
theorem z38_5 : Run d 38 5 [a0, a1, a2, a3] [.int x, .ref o] M 0 0 Z ↔ gAr M o 0 ∧ gIn x (gLen M o) = true ∧ Run d 38 6 [a0, a1, a2, a3] [.int (M.1 o x.toNatClampNeg)] M 0 0 Z := R_iald (gd38 dX3_fixedBy_5)
theorem z38_6 : Run d 38 6 [a0, a1, a2, a3] [.int x] M 0 0 Z ↔ Run d 38 7 [a0, a1, some (.int x), a3] [] M 0 0 Z := R_local (gd38 dX3_fixedBy_6) rfl rfl rfl
theorem z38_7 : Run d 38 7 [some (.ref o), a1, a2, a3] [] M 0 0 Z ↔ Run d 38 8 [some (.ref o), a1, a2, a3] [.ref o] M 0 0 Z := R_local (gd38 dX3_fixedBy_7) rfl rfl rfl
theorem z38_8 : Run d 38 8 [a0, some (.ref o), a2, a3] [s0] M 0 0 Z ↔ Run d 38 9 [a0, some (.ref o), a2, a3] [.ref o, s0] M 0 0 Z := R_local (gd38 dX3_fixedBy_8) rfl rfl rfl
theorem z38_8n : Run d 38 8 [a0, some .null, a2, a3] [s0] M 0 0 Z ↔ Run d 38 9 [a0, some .null, a2, a3] [.null, s0] M 0 0 Z := R_local (gd38 dX3_fixedBy_8) rfl rfl rfl
theorem z38_9 : Run d 38 9 [a0, a1, some (.int x), a3] [s1, s0] M 0 0 Z ↔ Run d 38 10 [a0, a1, some (.int x), a3] [.int x, s1, s0] M 0 0 Z := R_local (gd38 dX3_fixedBy_9) rfl rfl rfl
theorem z38_10 : Run d 38 10 [a0, a1, a2, a3] [s2, s1, .ref b] M 0 0 Z ↔ gObj M b 3 ∧ Call d 34 [.ref b, s1, s2] M (fun r M1 => Run d 38 13 [a0, a1, a2, a3] (r.toList ++ []) M1 0 0 Z) := R_callV (gd38 dX3_fixedBy_10) rfl rfl rfl rfl rfl rfl gc_3_81 rfl rfl (Nat.le_of_ble_eq_true rfl) (Nat.le_of_ble_eq_true rfl) rfl rfl (Nat.le_of_ble_eq_true rfl) (Nat.le_of_ble_eq_true rfl)
theorem z38_13 : Run d 38 13 [a0, a1, a2, a3] [.int x] M 0 0 Z ↔ Run d 38 14 [a0, a1, a2, some (.int x)] [] M 0 0 Z := R_local (gd38 dX3_fixedBy_13) rfl rfl rfl
theorem z38_14 : Run d 38 14 [some (.ref o), a1, a2, a3] [] M 0 0 Z ↔ Run d 38 15 [some (.ref o), a1, a2, a3] [.ref o] M 0 0 Z := R_local (gd38 dX3_fixedBy_14) rfl rfl rfl
theorem z38_15 : Run d 38 15 [a0, some (.ref o), a2, a3] [s0] M 0 0 Z ↔ Run d 38 16 [a0, some (.ref o), a2, a3] [.ref o, s0] M 0 0 Z := R_local (gd38 dX3_fixedBy_15) rfl rfl rfl
theorem z38_15n : Run d 38 15 [a0, some .null, a2, a3] [s0] M 0 0 Z ↔ Run d 38 16 [a0, some .null, a2, a3] [.null, s0] M 0 0 Z := R_local (gd38 dX3_fixedBy_15) rfl rfl rfl
theorem z38_16 : Run d 38 16 [a0, a1, a2, a3] [s1, s0] M 0 0 Z ↔ Run d 38 17 [a0, a1, a2, a3] [.int (-1), s1, s0] M 0 0 Z := R_iconst (gd38 dX3_fixedBy_16) (by decide)
theorem z38_17 : Run d 38 17 [a0, a1, a2, a3] [s2, s1, .ref b] M 0 0 Z ↔ gObj M b 3 ∧ Call d 34 [.ref b, s1, s2] M (fun r M1 => Run d 38 20 [a0, a1, a2, a3] (r.toList ++ []) M1 0 0 Z) := R_callV (gd38 dX3_fixedBy_17) rfl rfl rfl rfl rfl rfl gc_3_81 rfl rfl (Nat.le_of_ble_eq_true rfl) (Nat.le_of_ble_eq_true rfl) rfl rfl (Nat.le_of_ble_eq_true rfl) (Nat.le_of_ble_eq_true rfl)
theorem z38_20 : Run d 38 20 [a0, a1, a2, a3] [.int x] M 0 0 Z ↔ Run d 38 21 [a0, a1, a2, a3] [] M 0 0 Z := R_arith (gd38 dX3_fixedBy_20) rfl
theorem z38_21 : Run d 38 21 [a0, a1, a2, some (.int x)] [] M 0 0 Z ↔ Run d 38 22 [a0, a1, a2, some (.int x)] [.int x] M 0 0 Z := R_local (gd38 dX3_fixedBy_21) rfl rfl rfl
theorem z38_22 : Run d 38 22 [a0, a1, a2, a3] [.int x] M 0 0 Z ↔ (¬ x = 0 → Run d 38 29 [a0, a1, a2, a3] [] M 0 0 Z) ∧ (¬ (¬ x = 0) → Run d 38 25 [a0, a1, a2, a3] [] M 0 0 Z) := R_if (gd38 dX3_fixedBy_22) (show gTgt 22 7 = some 29 by decide) gIf_ne
theorem z38_25 : Run d 38 25 [a0, a1, some (.int x), a3] [] M 0 0 Z ↔ Run d 38 26 [a0, a1, some (.int x), a3] [.int x] M 0 0 Z := R_local (gd38 dX3_fixedBy_25) rfl rfl rfl
theorem z38_26 : Run d 38 26 [a0, a1, a2, a3] [s0] M 0 0 Z ↔ Run d 38 30 [a0, a1, a2, a3] [s0] M 0 0 Z := R_goto (gd38 dX3_fixedBy_26) (show gTgt 26 4 = some 30 by decide)
theorem z38_29 : Run d 38 29 [a0, a1, a2, a3] [] M 0 0 Z ↔ Run d 38 30 [a0, a1, a2, a3] [.int (-1)] M 0 0 Z := R_iconst (gd38 dX3_fixedBy_29) (by decide)
theorem z38_30 : Run d 38 30 [a0, a1, a2, a3] [.int x] M 0 0 Z ↔ Z (some (.int x)) M := R_iret (gd38 dX3_fixedBy_30) rfl
theorem e38 : Call (d + 1) 38 [s0, s1] M Z ↔ Run d 38 0 [some s0, some s1, none, none] [] M 0 0 Z := Call_iff (Nat.lt_of_lt_of_le (Nat.lt_succ_self 38) (Nat.le_of_ble_eq_true rfl)) (Nat.le_of_ble_eq_true rfl)
/-! 39: X4_init ()V -/
theorem gd39 {pc : Nat} {r : Except _ _} (h : decode cX4_init pc = r) : decode (gby 39) pc = r := h
theorem z39_0 : Run d 39 0 [some (.ref o)] [] M 0 0 Z ↔ Run d 39 1 [some (.ref o)] [.ref o] M 0 0 Z := R_local (gd39 dX4_init_0) rfl rfl rfl
theorem z39_1 : Run d 39 1 [a0] [.ref o] M 0 0 Z ↔ Run d 39 4 [a0] [] M 0 0 Z := R_prim (gd39 dX4_init_1) rfl rfl rfl rfl rfl rfl gc_4_3 rfl (by decide) rfl (Nat.le_of_ble_eq_true rfl)
theorem z39_4 : Run d 39 4 [some (.ref o)] [] M 0 0 Z ↔ Run d 39 5 [some (.ref o)] [.ref o] M 0 0 Z := R_local (gd39 dX4_init_4) rfl rfl rfl
theorem z39_5 : Run d 39 5 [a0] [s0] M 0 0 Z ↔ Run d 39 8 [a0] [.int 400, s0] M 0 0 Z := R_sipush (gd39 dX4_init_5) (by decide)
theorem z39_8 : Run d 39 8 [a0] [.int 400, s0] M 0 0 Z ↔ Run d 39 10 [a0] [.ref M.2.2.length, s0] (gNew M (.inr (0, 400))) 1 400 Z := R_newa2 (gd39 dX4_init_8) (t := 0) (by decide) (n := 400) (by decide) (by decide)
theorem z39_10 : Run d 39 10 [a0] [v, .ref o] M 1 400 Z ↔ gObj M o 4 ∧ gisRef v = true ∧ Run d 39 13 [a0] [] (gsR M o 0 (gU v)) 1 400 Z := R_putR (gd39 dX4_init_10) rfl gf_4_9 (Or.inr ⟨rfl, rfl⟩) rfl
theorem z39_13 : Run d 39 13 [some (.ref o)] [] M 1 400 Z ↔ Run d 39 14 [some (.ref o)] [.ref o] M 1 400 Z := R_local (gd39 dX4_init_13) rfl rfl rfl
theorem z39_14 : Run d 39 14 [a0] [s0] M 1 400 Z ↔ Run d 39 17 [a0] [.int 400, s0] M 1 400 Z := R_sipush (gd39 dX4_init_14) (by decide)
theorem z39_17 : Run d 39 17 [a0] [.int 400, s0] M 1 400 Z ↔ Run d 39 19 [a0] [.ref M.2.2.length, s0] (gNew M (.inr (0, 400))) 2 800 Z := R_newa2 (gd39 dX4_init_17) (t := 0) (by decide) (n := 400) (by decide) (by decide)
theorem z39_19 : Run d 39 19 [a0] [v, .ref o] M 2 800 Z ↔ gObj M o 4 ∧ gisRef v = true ∧ Run d 39 22 [a0] [] (gsR M o 1 (gU v)) 2 800 Z := R_putR (gd39 dX4_init_19) rfl gf_4_15 (Or.inr ⟨rfl, rfl⟩) rfl
theorem z39_22 : Run d 39 22 [some (.ref o)] [] M 2 800 Z ↔ Run d 39 23 [some (.ref o)] [.ref o] M 2 800 Z := R_local (gd39 dX4_init_22) rfl rfl rfl
theorem z39_23 : Run d 39 23 [a0] [s0] M 2 800 Z ↔ Run d 39 26 [a0] [.int 400, s0] M 2 800 Z := R_sipush (gd39 dX4_init_23) (by decide)
theorem z39_26 : Run d 39 26 [a0] [.int 400, s0] M 2 800 Z ↔ Run d 39 28 [a0] [.ref M.2.2.length, s0] (gNew M (.inr (0, 400))) 3 1200 Z := R_newa2 (gd39 dX4_init_26) (t := 0) (by decide) (n := 400) (by decide) (by decide)
theorem z39_28 : Run d 39 28 [a0] [v, .ref o] M 3 1200 Z ↔ gObj M o 4 ∧ gisRef v = true ∧ Run d 39 31 [a0] [] (gsR M o 2 (gU v)) 3 1200 Z := R_putR (gd39 dX4_init_28) rfl gf_4_18 (Or.inr ⟨rfl, rfl⟩) rfl
theorem z39_31 : Run d 39 31 [some (.ref o)] [] M 3 1200 Z ↔ Run d 39 32 [some (.ref o)] [.ref o] M 3 1200 Z := R_local (gd39 dX4_init_31) rfl rfl rfl
theorem z39_32 : Run d 39 32 [a0] [s0] M 3 1200 Z ↔ Run d 39 35 [a0] [.int 400, s0] M 3 1200 Z := R_sipush (gd39 dX4_init_32) (by decide)
theorem z39_35 : Run d 39 35 [a0] [.int 400, s0] M 3 1200 Z ↔ Run d 39 37 [a0] [.ref M.2.2.length, s0] (gNew M (.inr (0, 400))) 4 1600 Z := R_newa2 (gd39 dX4_init_35) (t := 0) (by decide) (n := 400) (by decide) (by decide)
theorem z39_37 : Run d 39 37 [a0] [v, .ref o] M 4 1600 Z ↔ gObj M o 4 ∧ gisRef v = true ∧ Run d 39 40 [a0] [] (gsR M o 3 (gU v)) 4 1600 Z := R_putR (gd39 dX4_init_37) rfl gf_4_21 (Or.inr ⟨rfl, rfl⟩) rfl
theorem z39_40 : Run d 39 40 [some (.ref o)] [] M 4 1600 Z ↔ Run d 39 41 [some (.ref o)] [.ref o] M 4 1600 Z := R_local (gd39 dX4_init_40) rfl rfl rfl
theorem z39_41 : Run d 39 41 [a0] [s0] M 4 1600 Z ↔ Run d 39 44 [a0] [.int 400, s0] M 4 1600 Z := R_sipush (gd39 dX4_init_41) (by decide)
theorem z39_44 : Run d 39 44 [a0] [.int 400, s0] M 4 1600 Z ↔ Run d 39 46 [a0] [.ref M.2.2.length, s0] (gNew M (.inr (0, 400))) 5 2000 Z := R_newa2 (gd39 dX4_init_44) (t := 0) (by decide) (n := 400) (by decide) (by decide)
theorem z39_46 : Run d 39 46 [a0] [v, .ref o] M 5 2000 Z ↔ gObj M o 4 ∧ gisRef v = true ∧ Run d 39 49 [a0] [] (gsR M o 4 (gU v)) 5 2000 Z := R_putR (gd39 dX4_init_46) rfl gf_4_24 (Or.inr ⟨rfl, rfl⟩) rfl
theorem z39_49 : Run d 39 49 [some (.ref o)] [] M 5 2000 Z ↔ Run d 39 50 [some (.ref o)] [.ref o] M 5 2000 Z := R_local (gd39 dX4_init_49) rfl rfl rfl
theorem z39_50 : Run d 39 50 [a0] [s0] M 5 2000 Z ↔ Run d 39 53 [a0] [.int 400, s0] M 5 2000 Z := R_sipush (gd39 dX4_init_50) (by decide)
theorem z39_53 : Run d 39 53 [a0] [.int 400, s0] M 5 2000 Z ↔ Run d 39 55 [a0] [.ref M.2.2.length, s0] (gNew M (.inr (0, 400))) 6 2400 Z := R_newa2 (gd39 dX4_init_53) (t := 0) (by decide) (n := 400) (by decide) (by decide)
theorem z39_55 : Run d 39 55 [a0] [v, .ref o] M 6 2400 Z ↔ gObj M o 4 ∧ gisRef v = true ∧ Run d 39 58 [a0] [] (gsR M o 5 (gU v)) 6 2400 Z := R_putR (gd39 dX4_init_55) rfl gf_4_27 (Or.inr ⟨rfl, rfl⟩) rfl
theorem z39_58 : Run d 39 58 [some (.ref o)] [] M 6 2400 Z ↔ Run d 39 59 [some (.ref o)] [.ref o] M 6 2400 Z := R_local (gd39 dX4_init_58) rfl rfl rfl
theorem z39_59 : Run d 39 59 [a0] [s0] M 6 2400 Z ↔ Run d 39 62 [a0] [.int 400, s0] M 6 2400 Z := R_sipush (gd39 dX4_init_59) (by decide)
theorem z39_62 : Run d 39 62 [a0] [.int 400, s0] M 6 2400 Z ↔ Run d 39 64 [a0] [.ref M.2.2.length, s0] (gNew M (.inr (0, 400))) 7 2800 Z := R_newa2 (gd39 dX4_init_62) (t := 0) (by decide) (n := 400) (by decide) (by decide)
theorem z39_64 : Run d 39 64 [a0] [v, .ref o] M 7 2800 Z ↔ gObj M o 4 ∧ gisRef v = true ∧ Run d 39 67 [a0] [] (gsR M o 6 (gU v)) 7 2800 Z := R_putR (gd39 dX4_init_64) rfl gf_4_30 (Or.inr ⟨rfl, rfl⟩) rfl
theorem z39_67 : Run d 39 67 [some (.ref o)] [] M 7 2800 Z ↔ Run d 39 68 [some (.ref o)] [.ref o] M 7 2800 Z := R_local (gd39 dX4_init_67) rfl rfl rfl
theorem z39_68 : Run d 39 68 [a0] [s0] M 7 2800 Z ↔ Run d 39 71 [a0] [.int 400, s0] M 7 2800 Z := R_sipush (gd39 dX4_init_68) (by decide)
theorem z39_71 : Run d 39 71 [a0] [.int 400, s0] M 7 2800 Z ↔ Run d 39 73 [a0] [.ref M.2.2.length, s0] (gNew M (.inr (0, 400))) 8 3200 Z := R_newa2 (gd39 dX4_init_71) (t := 0) (by decide) (n := 400) (by decide) (by decide)
theorem z39_73 : Run d 39 73 [a0] [v, .ref o] M 8 3200 Z ↔ gObj M o 4 ∧ gisRef v = true ∧ Run d 39 76 [a0] [] (gsR M o 7 (gU v)) 8 3200 Z := R_putR (gd39 dX4_init_73) rfl gf_4_33 (Or.inr ⟨rfl, rfl⟩) rfl
theorem z39_76 : Run d 39 76 [some (.ref o)] [] M 8 3200 Z ↔ Run d 39 77 [some (.ref o)] [.ref o] M 8 3200 Z := R_local (gd39 dX4_init_76) rfl rfl rfl
theorem z39_77 : Run d 39 77 [a0] [s0] M 8 3200 Z ↔ Run d 39 78 [a0] [.int 0, s0] M 8 3200 Z := R_iconst (gd39 dX4_init_77) (by decide)
theorem z39_78 : Run d 39 78 [a0] [.int x, .ref o] M 8 3200 Z ↔ gObj M o 4 ∧ Run d 39 81 [a0] [] (gsI M o 8 x) 8 3200 Z := R_putI (gd39 dX4_init_78) rfl gf_4_36 (Or.inl rfl) rfl
theorem z39_81 : Run d 39 81 [a0] [] M 8 3200 Z ↔ Z none M := R_vret (gd39 dX4_init_81) rfl
theorem e39 : Call (d + 1) 39 [s0] M Z ↔ Run d 39 0 [some s0] [] M 0 0 Z := Call_iff (Nat.lt_of_lt_of_le (Nat.lt_succ_self 39) (Nat.le_of_ble_eq_true rfl)) (Nat.le_of_ble_eq_true rfl)
end
