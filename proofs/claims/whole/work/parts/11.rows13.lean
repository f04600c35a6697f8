/-! Rules of the methods, an instruction each, by program (wip/whole/rows.py). -/
theorem dX9_isPlace_0 : decode cX9_isPlace 0 = .ok (.iload_n 0, 1) := by decide +kernel
theorem dX9_isPlace_1 : decode cX9_isPlace 1 = .ok (.iconst 0, 1) := by decide +kernel
theorem dX9_isPlace_2 : decode cX9_isPlace 2 = .ok (.bipush 7, 2) := by decide +kernel
theorem dX9_isPlace_4 : decode cX9_isPlace 4 = .ok (.invokestatic 157, 3) := by decide +kernel
theorem dX9_isPlace_7 : decode cX9_isPlace 7 = .ok (.ifCond .eq 17, 3) := by decide +kernel
theorem dX9_isPlace_10 : decode cX9_isPlace 10 = .ok (.iload_n 1, 1) := by decide +kernel
theorem dX9_isPlace_11 : decode cX9_isPlace 11 = .ok (.iconst 0, 1) := by decide +kernel
theorem dX9_isPlace_12 : decode cX9_isPlace 12 = .ok (.bipush 7, 2) := by decide +kernel
theorem dX9_isPlace_14 : decode cX9_isPlace 14 = .ok (.invokestatic 157, 3) := by decide +kernel
theorem dX9_isPlace_17 : decode cX9_isPlace 17 = .ok (.ifCond .eq 7, 3) := by decide +kernel
theorem dX9_isPlace_20 : decode cX9_isPlace 20 = .ok (.iconst 1, 1) := by decide +kernel
theorem dX9_isPlace_21 : decode cX9_isPlace 21 = .ok (.goto 4, 3) := by decide +kernel
theorem dX9_isPlace_24 : decode cX9_isPlace 24 = .ok (.iconst 0, 1) := by decide +kernel
theorem dX9_isPlace_25 : decode cX9_isPlace 25 = .ok (.ireturn, 1) := by decide +kernel
theorem dX9_lies0_0 : decode cX9_lies0 0 = .ok (.aload_n 0, 1) := by decide +kernel
theorem dX9_lies0_1 : decode cX9_lies0 1 = .ok (.getfield 44, 3) := by decide +kernel
theorem dX9_lies0_4 : decode cX9_lies0 4 = .ok (.iload_n 1, 1) := by decide +kernel
theorem dX9_lies0_5 : decode cX9_lies0 5 = .ok (.iaload, 1) := by decide +kernel
theorem dX9_lies0_6 : decode cX9_lies0 6 = .ok (.iload_n 3, 1) := by decide +kernel
theorem dX9_lies0_7 : decode cX9_lies0 7 = .ok (.if_icmp .ne 35, 3) := by decide +kernel
theorem dX9_lies0_10 : decode cX9_lies0 10 = .ok (.iload_n 2, 1) := by decide +kernel
theorem dX9_lies0_11 : decode cX9_lies0 11 = .ok (.aload_n 0, 1) := by decide +kernel
theorem dX9_lies0_12 : decode cX9_lies0 12 = .ok (.getfield 41, 3) := by decide +kernel
theorem dX9_lies0_15 : decode cX9_lies0 15 = .ok (.iload_n 1, 1) := by decide +kernel
theorem dX9_lies0_16 : decode cX9_lies0 16 = .ok (.iaload, 1) := by decide +kernel
theorem dX9_lies0_17 : decode cX9_lies0 17 = .ok (.aload_n 0, 1) := by decide +kernel
theorem dX9_lies0_18 : decode cX9_lies0 18 = .ok (.getfield 41, 3) := by decide +kernel
theorem dX9_lies0_21 : decode cX9_lies0 21 = .ok (.iload_n 1, 1) := by decide +kernel
theorem dX9_lies0_22 : decode cX9_lies0 22 = .ok (.iaload, 1) := by decide +kernel
theorem dX9_lies0_23 : decode cX9_lies0 23 = .ok (.aload_n 0, 1) := by decide +kernel
theorem dX9_lies0_24 : decode cX9_lies0 24 = .ok (.getfield 53, 3) := by decide +kernel
theorem dX9_lies0_27 : decode cX9_lies0 27 = .ok (.iload_n 1, 1) := by decide +kernel
theorem dX9_lies0_28 : decode cX9_lies0 28 = .ok (.iaload, 1) := by decide +kernel
theorem dX9_lies0_29 : decode cX9_lies0 29 = .ok (.iadd, 1) := by decide +kernel
theorem dX9_lies0_30 : decode cX9_lies0 30 = .ok (.iconst 1, 1) := by decide +kernel
theorem dX9_lies0_31 : decode cX9_lies0 31 = .ok (.isub, 1) := by decide +kernel
theorem dX9_lies0_32 : decode cX9_lies0 32 = .ok (.invokestatic 157, 3) := by decide +kernel
theorem dX9_lies0_35 : decode cX9_lies0 35 = .ok (.ifCond .eq 7, 3) := by decide +kernel
theorem dX9_lies0_38 : decode cX9_lies0 38 = .ok (.iconst 1, 1) := by decide +kernel
theorem dX9_lies0_39 : decode cX9_lies0 39 = .ok (.goto 4, 3) := by decide +kernel
theorem dX9_lies0_42 : decode cX9_lies0 42 = .ok (.iconst 0, 1) := by decide +kernel
theorem dX9_lies0_43 : decode cX9_lies0 43 = .ok (.ireturn, 1) := by decide +kernel
theorem dX9_showsAt_0 : decode cX9_showsAt 0 = .ok (.aload_n 0, 1) := by decide +kernel
theorem dX9_showsAt_1 : decode cX9_showsAt 1 = .ok (.getfield 68, 3) := by decide +kernel
theorem dX9_showsAt_4 : decode cX9_showsAt 4 = .ok (.iconst 0, 1) := by decide +kernel
theorem dX9_showsAt_5 : decode cX9_showsAt 5 = .ok (.iaload, 1) := by decide +kernel
theorem dX9_showsAt_6 : decode cX9_showsAt 6 = .ok (.iconst 1, 1) := by decide +kernel
theorem dX9_showsAt_7 : decode cX9_showsAt 7 = .ok (.isub, 1) := by decide +kernel
theorem dX9_showsAt_8 : decode cX9_showsAt 8 = .ok (.istore 4, 2) := by decide +kernel
theorem dX9_showsAt_10 : decode cX9_showsAt 10 = .ok (.iload 4, 2) := by decide +kernel
theorem dX9_showsAt_12 : decode cX9_showsAt 12 = .ok (.ifCond .lt 71, 3) := by decide +kernel
theorem dX9_showsAt_15 : decode cX9_showsAt 15 = .ok (.aload_n 0, 1) := by decide +kernel
theorem dX9_showsAt_16 : decode cX9_showsAt 16 = .ok (.iload 4, 2) := by decide +kernel
theorem dX9_showsAt_18 : decode cX9_showsAt 18 = .ok (.iload_n 1, 1) := by decide +kernel
theorem dX9_showsAt_19 : decode cX9_showsAt 19 = .ok (.iload_n 2, 1) := by decide +kernel
theorem dX9_showsAt_20 : decode cX9_showsAt 20 = .ok (.invokevirtual 351, 3) := by decide +kernel
theorem dX9_showsAt_23 : decode cX9_showsAt 23 = .ok (.ifCond .eq 54, 3) := by decide +kernel
theorem dX9_showsAt_26 : decode cX9_showsAt 26 = .ok (.iload_n 3, 1) := by decide +kernel
theorem dX9_showsAt_27 : decode cX9_showsAt 27 = .ok (.ifCond .ne 18, 3) := by decide +kernel
theorem dX9_showsAt_30 : decode cX9_showsAt 30 = .ok (.aload_n 0, 1) := by decide +kernel
theorem dX9_showsAt_31 : decode cX9_showsAt 31 = .ok (.getfield 110, 3) := by decide +kernel
theorem dX9_showsAt_34 : decode cX9_showsAt 34 = .ok (.aload_n 0, 1) := by decide +kernel
theorem dX9_showsAt_35 : decode cX9_showsAt 35 = .ok (.getfield 38, 3) := by decide +kernel
theorem dX9_showsAt_38 : decode cX9_showsAt 38 = .ok (.iload 4, 2) := by decide +kernel
theorem dX9_showsAt_40 : decode cX9_showsAt 40 = .ok (.iaload, 1) := by decide +kernel
theorem dX9_showsAt_41 : decode cX9_showsAt 41 = .ok (.baload, 1) := by decide +kernel
theorem dX9_showsAt_42 : decode cX9_showsAt 42 = .ok (.ifCond .ne 35, 3) := by decide +kernel
theorem dX9_showsAt_45 : decode cX9_showsAt 45 = .ok (.aload_n 0, 1) := by decide +kernel
theorem dX9_showsAt_46 : decode cX9_showsAt 46 = .ok (.aload_n 0, 1) := by decide +kernel
theorem dX9_showsAt_47 : decode cX9_showsAt 47 = .ok (.getfield 345, 3) := by decide +kernel
theorem dX9_showsAt_50 : decode cX9_showsAt 50 = .ok (.aload_n 0, 1) := by decide +kernel
theorem dX9_showsAt_51 : decode cX9_showsAt 51 = .ok (.getfield 47, 3) := by decide +kernel
theorem dX9_showsAt_54 : decode cX9_showsAt 54 = .ok (.iload 4, 2) := by decide +kernel
theorem dX9_showsAt_56 : decode cX9_showsAt 56 = .ok (.iaload, 1) := by decide +kernel
theorem dX9_showsAt_57 : decode cX9_showsAt 57 = .ok (.iload_n 1, 1) := by decide +kernel
theorem dX9_showsAt_58 : decode cX9_showsAt 58 = .ok (.aload_n 0, 1) := by decide +kernel
theorem dX9_showsAt_59 : decode cX9_showsAt 59 = .ok (.getfield 41, 3) := by decide +kernel
theorem dX9_showsAt_62 : decode cX9_showsAt 62 = .ok (.iload 4, 2) := by decide +kernel
theorem dX9_showsAt_64 : decode cX9_showsAt 64 = .ok (.iaload, 1) := by decide +kernel
theorem dX9_showsAt_65 : decode cX9_showsAt 65 = .ok (.isub, 1) := by decide +kernel
theorem dX9_showsAt_66 : decode cX9_showsAt 66 = .ok (.aload_n 0, 1) := by decide +kernel
theorem dX9_showsAt_67 : decode cX9_showsAt 67 = .ok (.getfield 56, 3) := by decide +kernel
theorem dX9_showsAt_70 : decode cX9_showsAt 70 = .ok (.iload 4, 2) := by decide +kernel
theorem dX9_showsAt_72 : decode cX9_showsAt 72 = .ok (.iaload, 1) := by decide +kernel
theorem dX9_showsAt_73 : decode cX9_showsAt 73 = .ok (.invokevirtual 354, 3) := by decide +kernel
theorem dX9_showsAt_76 : decode cX9_showsAt 76 = .ok (.ireturn, 1) := by decide +kernel
theorem dX9_showsAt_77 : decode cX9_showsAt 77 = .ok (.iinc 4 (-1), 3) := by decide +kernel
theorem dX9_showsAt_80 : decode cX9_showsAt 80 = .ok (.goto (-70), 3) := by decide +kernel
theorem dX9_showsAt_83 : decode cX9_showsAt 83 = .ok (.bipush 8, 2) := by decide +kernel
theorem dX9_showsAt_85 : decode cX9_showsAt 85 = .ok (.ireturn, 1) := by decide +kernel
theorem dX9_shows_0 : decode cX9_shows 0 = .ok (.aload_n 0, 1) := by decide +kernel
theorem dX9_shows_1 : decode cX9_shows 1 = .ok (.getfield 339, 3) := by decide +kernel
theorem dX9_shows_4 : decode cX9_shows 4 = .ok (.ifCond .eq 21, 3) := by decide +kernel
theorem dX9_shows_7 : decode cX9_shows 7 = .ok (.iload_n 1, 1) := by decide +kernel
theorem dX9_shows_8 : decode cX9_shows 8 = .ok (.iload_n 2, 1) := by decide +kernel
theorem dX9_shows_9 : decode cX9_shows 9 = .ok (.invokestatic 358, 3) := by decide +kernel
theorem dX9_shows_12 : decode cX9_shows 12 = .ok (.ifCond .eq 13, 3) := by decide +kernel
theorem dX9_shows_15 : decode cX9_shows 15 = .ok (.aload_n 0, 1) := by decide +kernel
theorem dX9_shows_16 : decode cX9_shows 16 = .ok (.iload_n 1, 1) := by decide +kernel
theorem dX9_shows_17 : decode cX9_shows 17 = .ok (.iload_n 2, 1) := by decide +kernel
theorem dX9_shows_18 : decode cX9_shows 18 = .ok (.iconst 1, 1) := by decide +kernel
theorem dX9_shows_19 : decode cX9_shows 19 = .ok (.invokevirtual 362, 3) := by decide +kernel
theorem dX9_shows_22 : decode cX9_shows 22 = .ok (.goto 4, 3) := by decide +kernel
theorem dX9_shows_25 : decode cX9_shows 25 = .ok (.iconst (-1), 1) := by decide +kernel
theorem dX9_shows_26 : decode cX9_shows 26 = .ok (.ireturn, 1) := by decide +kernel
theorem dX9_layers_0 : decode cX9_layers 0 = .ok (.aload_n 0, 1) := by decide +kernel
theorem dX9_layers_1 : decode cX9_layers 1 = .ok (.getfield 339, 3) := by decide +kernel
theorem dX9_layers_4 : decode cX9_layers 4 = .ok (.ifCond .eq 11, 3) := by decide +kernel
theorem dX9_layers_7 : decode cX9_layers 7 = .ok (.iload_n 1, 1) := by decide +kernel
theorem dX9_layers_8 : decode cX9_layers 8 = .ok (.iload_n 2, 1) := by decide +kernel
theorem dX9_layers_9 : decode cX9_layers 9 = .ok (.invokestatic 358, 3) := by decide +kernel
theorem dX9_layers_12 : decode cX9_layers 12 = .ok (.ifCond .ne 5, 3) := by decide +kernel
theorem dX9_layers_15 : decode cX9_layers 15 = .ok (.iconst (-1), 1) := by decide +kernel
theorem dX9_layers_16 : decode cX9_layers 16 = .ok (.ireturn, 1) := by decide +kernel
theorem dX9_layers_17 : decode cX9_layers 17 = .ok (.iconst 0, 1) := by decide +kernel
theorem dX9_layers_18 : decode cX9_layers 18 = .ok (.istore_n 3, 1) := by decide +kernel
theorem dX9_layers_19 : decode cX9_layers 19 = .ok (.iconst 0, 1) := by decide +kernel
theorem dX9_layers_20 : decode cX9_layers 20 = .ok (.istore 4, 2) := by decide +kernel
theorem dX9_layers_22 : decode cX9_layers 22 = .ok (.iload 4, 2) := by decide +kernel
theorem dX9_layers_24 : decode cX9_layers 24 = .ok (.aload_n 0, 1) := by decide +kernel
theorem dX9_layers_25 : decode cX9_layers 25 = .ok (.getfield 68, 3) := by decide +kernel
theorem dX9_layers_28 : decode cX9_layers 28 = .ok (.iconst 0, 1) := by decide +kernel
theorem dX9_layers_29 : decode cX9_layers 29 = .ok (.iaload, 1) := by decide +kernel
theorem dX9_layers_30 : decode cX9_layers 30 = .ok (.if_icmp .ge 28, 3) := by decide +kernel
theorem dX9_layers_33 : decode cX9_layers 33 = .ok (.iload_n 3, 1) := by decide +kernel
theorem dX9_layers_34 : decode cX9_layers 34 = .ok (.aload_n 0, 1) := by decide +kernel
theorem dX9_layers_35 : decode cX9_layers 35 = .ok (.iload 4, 2) := by decide +kernel
theorem dX9_layers_37 : decode cX9_layers 37 = .ok (.iload_n 1, 1) := by decide +kernel
theorem dX9_layers_38 : decode cX9_layers 38 = .ok (.iload_n 2, 1) := by decide +kernel
theorem dX9_layers_39 : decode cX9_layers 39 = .ok (.invokevirtual 351, 3) := by decide +kernel
theorem dX9_layers_42 : decode cX9_layers 42 = .ok (.ifCond .eq 7, 3) := by decide +kernel
theorem dX9_layers_45 : decode cX9_layers 45 = .ok (.iconst 1, 1) := by decide +kernel
theorem dX9_layers_46 : decode cX9_layers 46 = .ok (.goto 4, 3) := by decide +kernel
theorem dX9_layers_49 : decode cX9_layers 49 = .ok (.iconst 0, 1) := by decide +kernel
theorem dX9_layers_50 : decode cX9_layers 50 = .ok (.iadd, 1) := by decide +kernel
theorem dX9_layers_51 : decode cX9_layers 51 = .ok (.istore_n 3, 1) := by decide +kernel
theorem dX9_layers_52 : decode cX9_layers 52 = .ok (.iinc 4 1, 3) := by decide +kernel
theorem dX9_layers_55 : decode cX9_layers 55 = .ok (.goto (-33), 3) := by decide +kernel
theorem dX9_layers_58 : decode cX9_layers 58 = .ok (.iload_n 3, 1) := by decide +kernel
theorem dX9_layers_59 : decode cX9_layers 59 = .ok (.ireturn, 1) := by decide +kernel
theorem dX9_layer_0 : decode cX9_layer 0 = .ok (.aload_n 0, 1) := by decide +kernel
theorem dX9_layer_1 : decode cX9_layer 1 = .ok (.getfield 339, 3) := by decide +kernel
theorem dX9_layer_4 : decode cX9_layer 4 = .ok (.ifCond .eq 19, 3) := by decide +kernel
theorem dX9_layer_7 : decode cX9_layer 7 = .ok (.iload_n 1, 1) := by decide +kernel
theorem dX9_layer_8 : decode cX9_layer 8 = .ok (.iconst 0, 1) := by decide +kernel
theorem dX9_layer_9 : decode cX9_layer 9 = .ok (.aload_n 0, 1) := by decide +kernel
theorem dX9_layer_10 : decode cX9_layer 10 = .ok (.getfield 68, 3) := by decide +kernel
theorem dX9_layer_13 : decode cX9_layer 13 = .ok (.iconst 0, 1) := by decide +kernel
theorem dX9_layer_14 : decode cX9_layer 14 = .ok (.iaload, 1) := by decide +kernel
theorem dX9_layer_15 : decode cX9_layer 15 = .ok (.iconst 1, 1) := by decide +kernel
theorem dX9_layer_16 : decode cX9_layer 16 = .ok (.isub, 1) := by decide +kernel
theorem dX9_layer_17 : decode cX9_layer 17 = .ok (.invokestatic 157, 3) := by decide +kernel
theorem dX9_layer_20 : decode cX9_layer 20 = .ok (.ifCond .ne 5, 3) := by decide +kernel
theorem dX9_layer_23 : decode cX9_layer 23 = .ok (.iconst (-1), 1) := by decide +kernel
theorem dX9_layer_24 : decode cX9_layer 24 = .ok (.ireturn, 1) := by decide +kernel
theorem dX9_layer_25 : decode cX9_layer 25 = .ok (.iload_n 2, 1) := by decide +kernel
theorem dX9_layer_26 : decode cX9_layer 26 = .ok (.tableswitch 91 0 6 #[42, 49, 56, 63, 70, 77, 84], 42) := by decide +kernel
theorem dX9_layer_68 : decode cX9_layer 68 = .ok (.aload_n 0, 1) := by decide +kernel
theorem dX9_layer_69 : decode cX9_layer 69 = .ok (.getfield 38, 3) := by decide +kernel
theorem dX9_layer_72 : decode cX9_layer 72 = .ok (.iload_n 1, 1) := by decide +kernel
theorem dX9_layer_73 : decode cX9_layer 73 = .ok (.iaload, 1) := by decide +kernel
theorem dX9_layer_74 : decode cX9_layer 74 = .ok (.ireturn, 1) := by decide +kernel
theorem dX9_layer_75 : decode cX9_layer 75 = .ok (.aload_n 0, 1) := by decide +kernel
theorem dX9_layer_76 : decode cX9_layer 76 = .ok (.getfield 41, 3) := by decide +kernel
theorem dX9_layer_79 : decode cX9_layer 79 = .ok (.iload_n 1, 1) := by decide +kernel
theorem dX9_layer_80 : decode cX9_layer 80 = .ok (.iaload, 1) := by decide +kernel
theorem dX9_layer_81 : decode cX9_layer 81 = .ok (.ireturn, 1) := by decide +kernel
theorem dX9_layer_82 : decode cX9_layer 82 = .ok (.aload_n 0, 1) := by decide +kernel
theorem dX9_layer_83 : decode cX9_layer 83 = .ok (.getfield 44, 3) := by decide +kernel
theorem dX9_layer_86 : decode cX9_layer 86 = .ok (.iload_n 1, 1) := by decide +kernel
theorem dX9_layer_87 : decode cX9_layer 87 = .ok (.iaload, 1) := by decide +kernel
theorem dX9_layer_88 : decode cX9_layer 88 = .ok (.ireturn, 1) := by decide +kernel
theorem dX9_layer_89 : decode cX9_layer 89 = .ok (.aload_n 0, 1) := by decide +kernel
theorem dX9_layer_90 : decode cX9_layer 90 = .ok (.getfield 47, 3) := by decide +kernel
theorem dX9_layer_93 : decode cX9_layer 93 = .ok (.iload_n 1, 1) := by decide +kernel
theorem dX9_layer_94 : decode cX9_layer 94 = .ok (.iaload, 1) := by decide +kernel
theorem dX9_layer_95 : decode cX9_layer 95 = .ok (.ireturn, 1) := by decide +kernel
theorem dX9_layer_96 : decode cX9_layer 96 = .ok (.aload_n 0, 1) := by decide +kernel
theorem dX9_layer_97 : decode cX9_layer 97 = .ok (.getfield 50, 3) := by decide +kernel
theorem dX9_layer_100 : decode cX9_layer 100 = .ok (.iload_n 1, 1) := by decide +kernel
theorem dX9_layer_101 : decode cX9_layer 101 = .ok (.iaload, 1) := by decide +kernel
theorem dX9_layer_102 : decode cX9_layer 102 = .ok (.ireturn, 1) := by decide +kernel
theorem dX9_layer_103 : decode cX9_layer 103 = .ok (.aload_n 0, 1) := by decide +kernel
theorem dX9_layer_104 : decode cX9_layer 104 = .ok (.getfield 53, 3) := by decide +kernel
theorem dX9_layer_107 : decode cX9_layer 107 = .ok (.iload_n 1, 1) := by decide +kernel
theorem dX9_layer_108 : decode cX9_layer 108 = .ok (.iaload, 1) := by decide +kernel
theorem dX9_layer_109 : decode cX9_layer 109 = .ok (.ireturn, 1) := by decide +kernel
theorem dX9_layer_110 : decode cX9_layer 110 = .ok (.aload_n 0, 1) := by decide +kernel
theorem dX9_layer_111 : decode cX9_layer 111 = .ok (.getfield 56, 3) := by decide +kernel
theorem dX9_layer_114 : decode cX9_layer 114 = .ok (.iload_n 1, 1) := by decide +kernel
theorem dX9_layer_115 : decode cX9_layer 115 = .ok (.iaload, 1) := by decide +kernel
theorem dX9_layer_116 : decode cX9_layer 116 = .ok (.ireturn, 1) := by decide +kernel
theorem dX9_layer_117 : decode cX9_layer 117 = .ok (.iconst (-1), 1) := by decide +kernel
theorem dX9_layer_118 : decode cX9_layer 118 = .ok (.ireturn, 1) := by decide +kernel
theorem dX9_allPins_0 : decode cX9_allPins 0 = .ok (.iconst 0, 1) := by decide +kernel
theorem dX9_allPins_1 : decode cX9_allPins 1 = .ok (.istore_n 1, 1) := by decide +kernel
theorem dX9_allPins_2 : decode cX9_allPins 2 = .ok (.iconst 0, 1) := by decide +kernel
theorem dX9_allPins_3 : decode cX9_allPins 3 = .ok (.istore_n 2, 1) := by decide +kernel
theorem dX9_allPins_4 : decode cX9_allPins 4 = .ok (.iload_n 2, 1) := by decide +kernel
theorem dX9_allPins_5 : decode cX9_allPins 5 = .ok (.aload_n 0, 1) := by decide +kernel
theorem dX9_allPins_6 : decode cX9_allPins 6 = .ok (.getfield 65, 3) := by decide +kernel
theorem dX9_allPins_9 : decode cX9_allPins 9 = .ok (.iconst 0, 1) := by decide +kernel
theorem dX9_allPins_10 : decode cX9_allPins 10 = .ok (.iaload, 1) := by decide +kernel
theorem dX9_allPins_11 : decode cX9_allPins 11 = .ok (.if_icmp .ge 18, 3) := by decide +kernel
theorem dX9_allPins_14 : decode cX9_allPins 14 = .ok (.iload_n 1, 1) := by decide +kernel
theorem dX9_allPins_15 : decode cX9_allPins 15 = .ok (.aload_n 0, 1) := by decide +kernel
theorem dX9_allPins_16 : decode cX9_allPins 16 = .ok (.getfield 59, 3) := by decide +kernel
theorem dX9_allPins_19 : decode cX9_allPins 19 = .ok (.iload_n 2, 1) := by decide +kernel
theorem dX9_allPins_20 : decode cX9_allPins 20 = .ok (.iaload, 1) := by decide +kernel
theorem dX9_allPins_21 : decode cX9_allPins 21 = .ok (.iadd, 1) := by decide +kernel
theorem dX9_allPins_22 : decode cX9_allPins 22 = .ok (.istore_n 1, 1) := by decide +kernel
theorem dX9_allPins_23 : decode cX9_allPins 23 = .ok (.iinc 2 1, 3) := by decide +kernel
theorem dX9_allPins_26 : decode cX9_allPins 26 = .ok (.goto (-22), 3) := by decide +kernel
theorem dX9_allPins_29 : decode cX9_allPins 29 = .ok (.iload_n 1, 1) := by decide +kernel
theorem dX9_allPins_30 : decode cX9_allPins 30 = .ok (.ireturn, 1) := by decide +kernel
theorem dX9_look_0 : decode cX9_look 0 = .ok (.aload_n 0, 1) := by decide +kernel
theorem dX9_look_1 : decode cX9_look 1 = .ok (.getfield 339, 3) := by decide +kernel
theorem dX9_look_4 : decode cX9_look 4 = .ok (.ifCond .ne 5, 3) := by decide +kernel
theorem dX9_look_7 : decode cX9_look 7 = .ok (.iconst (-1), 1) := by decide +kernel
theorem dX9_look_8 : decode cX9_look 8 = .ok (.ireturn, 1) := by decide +kernel
theorem dX9_look_9 : decode cX9_look 9 = .ok (.iload_n 1, 1) := by decide +kernel
theorem dX9_look_10 : decode cX9_look 10 = .ok (.tableswitch 154 0 11 #[62, 79, 86, 93, 98, 105, 112, 119, 126, 133, 140, 147], 62) := by decide +kernel
theorem dX9_look_72 : decode cX9_look 72 = .ok (.aload_n 0, 1) := by decide +kernel
theorem dX9_look_73 : decode cX9_look 73 = .ok (.getfield 17, 3) := by decide +kernel
theorem dX9_look_76 : decode cX9_look 76 = .ok (.aload_n 0, 1) := by decide +kernel
theorem dX9_look_77 : decode cX9_look 77 = .ok (.getfield 345, 3) := by decide +kernel
theorem dX9_look_80 : decode cX9_look 80 = .ok (.iaload, 1) := by decide +kernel
theorem dX9_look_81 : decode cX9_look 81 = .ok (.aload_n 0, 1) := by decide +kernel
theorem dX9_look_82 : decode cX9_look 82 = .ok (.getfield 62, 3) := by decide +kernel
theorem dX9_look_85 : decode cX9_look 85 = .ok (.iconst 0, 1) := by decide +kernel
theorem dX9_look_86 : decode cX9_look 86 = .ok (.iaload, 1) := by decide +kernel
theorem dX9_look_87 : decode cX9_look 87 = .ok (.isub, 1) := by decide +kernel
theorem dX9_look_88 : decode cX9_look 88 = .ok (.ireturn, 1) := by decide +kernel
theorem dX9_look_89 : decode cX9_look 89 = .ok (.aload_n 0, 1) := by decide +kernel
theorem dX9_look_90 : decode cX9_look 90 = .ok (.getfield 65, 3) := by decide +kernel
theorem dX9_look_93 : decode cX9_look 93 = .ok (.iconst 0, 1) := by decide +kernel
theorem dX9_look_94 : decode cX9_look 94 = .ok (.iaload, 1) := by decide +kernel
theorem dX9_look_95 : decode cX9_look 95 = .ok (.ireturn, 1) := by decide +kernel
theorem dX9_look_96 : decode cX9_look 96 = .ok (.aload_n 0, 1) := by decide +kernel
theorem dX9_look_97 : decode cX9_look 97 = .ok (.getfield 68, 3) := by decide +kernel
theorem dX9_look_100 : decode cX9_look 100 = .ok (.iconst 0, 1) := by decide +kernel
theorem dX9_look_101 : decode cX9_look 101 = .ok (.iaload, 1) := by decide +kernel
theorem dX9_look_102 : decode cX9_look 102 = .ok (.ireturn, 1) := by decide +kernel
theorem dX9_look_103 : decode cX9_look 103 = .ok (.aload_n 0, 1) := by decide +kernel
theorem dX9_look_104 : decode cX9_look 104 = .ok (.invokevirtual 366, 3) := by decide +kernel
theorem dX9_look_107 : decode cX9_look 107 = .ok (.ireturn, 1) := by decide +kernel
theorem dX9_look_108 : decode cX9_look 108 = .ok (.aload_n 0, 1) := by decide +kernel
theorem dX9_look_109 : decode cX9_look 109 = .ok (.getfield 71, 3) := by decide +kernel
theorem dX9_look_112 : decode cX9_look 112 = .ok (.iconst 0, 1) := by decide +kernel
theorem dX9_look_113 : decode cX9_look 113 = .ok (.iaload, 1) := by decide +kernel
theorem dX9_look_114 : decode cX9_look 114 = .ok (.ireturn, 1) := by decide +kernel
theorem dX9_look_115 : decode cX9_look 115 = .ok (.aload_n 0, 1) := by decide +kernel
theorem dX9_look_116 : decode cX9_look 116 = .ok (.getfield 74, 3) := by decide +kernel
theorem dX9_look_119 : decode cX9_look 119 = .ok (.iconst 0, 1) := by decide +kernel
theorem dX9_look_120 : decode cX9_look 120 = .ok (.iaload, 1) := by decide +kernel
theorem dX9_look_121 : decode cX9_look 121 = .ok (.ireturn, 1) := by decide +kernel
theorem dX9_look_122 : decode cX9_look 122 = .ok (.aload_n 0, 1) := by decide +kernel
theorem dX9_look_123 : decode cX9_look 123 = .ok (.getfield 77, 3) := by decide +kernel
theorem dX9_look_126 : decode cX9_look 126 = .ok (.iconst 0, 1) := by decide +kernel
theorem dX9_look_127 : decode cX9_look 127 = .ok (.iaload, 1) := by decide +kernel
theorem dX9_look_128 : decode cX9_look 128 = .ok (.ireturn, 1) := by decide +kernel
theorem dX9_look_129 : decode cX9_look 129 = .ok (.aload_n 0, 1) := by decide +kernel
theorem dX9_look_130 : decode cX9_look 130 = .ok (.getfield 80, 3) := by decide +kernel
theorem dX9_look_133 : decode cX9_look 133 = .ok (.iconst 0, 1) := by decide +kernel
theorem dX9_look_134 : decode cX9_look 134 = .ok (.iaload, 1) := by decide +kernel
theorem dX9_look_135 : decode cX9_look 135 = .ok (.ireturn, 1) := by decide +kernel
theorem dX9_look_136 : decode cX9_look 136 = .ok (.aload_n 0, 1) := by decide +kernel
theorem dX9_look_137 : decode cX9_look 137 = .ok (.getfield 83, 3) := by decide +kernel
theorem dX9_look_140 : decode cX9_look 140 = .ok (.iconst 0, 1) := by decide +kernel
theorem dX9_look_141 : decode cX9_look 141 = .ok (.iaload, 1) := by decide +kernel
theorem dX9_look_142 : decode cX9_look 142 = .ok (.ireturn, 1) := by decide +kernel
theorem dX9_look_143 : decode cX9_look 143 = .ok (.aload_n 0, 1) := by decide +kernel
theorem dX9_look_144 : decode cX9_look 144 = .ok (.getfield 86, 3) := by decide +kernel
theorem dX9_look_147 : decode cX9_look 147 = .ok (.iconst 0, 1) := by decide +kernel
theorem dX9_look_148 : decode cX9_look 148 = .ok (.iaload, 1) := by decide +kernel
theorem dX9_look_149 : decode cX9_look 149 = .ok (.ireturn, 1) := by decide +kernel
theorem dX9_look_150 : decode cX9_look 150 = .ok (.aload_n 0, 1) := by decide +kernel
theorem dX9_look_151 : decode cX9_look 151 = .ok (.getfield 89, 3) := by decide +kernel
theorem dX9_look_154 : decode cX9_look 154 = .ok (.iconst 0, 1) := by decide +kernel
theorem dX9_look_155 : decode cX9_look 155 = .ok (.iaload, 1) := by decide +kernel
theorem dX9_look_156 : decode cX9_look 156 = .ok (.ireturn, 1) := by decide +kernel
theorem dX9_look_157 : decode cX9_look 157 = .ok (.aload_n 0, 1) := by decide +kernel
theorem dX9_look_158 : decode cX9_look 158 = .ok (.getfield 92, 3) := by decide +kernel
theorem dX9_look_161 : decode cX9_look 161 = .ok (.iconst 0, 1) := by decide +kernel
theorem dX9_look_162 : decode cX9_look 162 = .ok (.iaload, 1) := by decide +kernel
theorem dX9_look_163 : decode cX9_look 163 = .ok (.ireturn, 1) := by decide +kernel
theorem dX9_look_164 : decode cX9_look 164 = .ok (.iconst (-1), 1) := by decide +kernel
theorem dX9_look_165 : decode cX9_look 165 = .ok (.ireturn, 1) := by decide +kernel
theorem dX9_upon_0 : decode cX9_upon 0 = .ok (.iconst 0, 1) := by decide +kernel
theorem dX9_upon_1 : decode cX9_upon 1 = .ok (.istore 4, 2) := by decide +kernel
theorem dX9_upon_3 : decode cX9_upon 3 = .ok (.iload_n 1, 1) := by decide +kernel
theorem dX9_upon_4 : decode cX9_upon 4 = .ok (.iconst 1, 1) := by decide +kernel
theorem dX9_upon_5 : decode cX9_upon 5 = .ok (.iadd, 1) := by decide +kernel
theorem dX9_upon_6 : decode cX9_upon 6 = .ok (.istore 5, 2) := by decide +kernel
theorem dX9_upon_8 : decode cX9_upon 8 = .ok (.iload 5, 2) := by decide +kernel
theorem dX9_upon_10 : decode cX9_upon 10 = .ok (.aload_n 0, 1) := by decide +kernel
theorem dX9_upon_11 : decode cX9_upon 11 = .ok (.getfield 68, 3) := by decide +kernel
theorem dX9_upon_14 : decode cX9_upon 14 = .ok (.iconst 0, 1) := by decide +kernel
theorem dX9_upon_15 : decode cX9_upon 15 = .ok (.iaload, 1) := by decide +kernel
theorem dX9_upon_16 : decode cX9_upon 16 = .ok (.if_icmp .ge 70, 3) := by decide +kernel
theorem dX9_upon_19 : decode cX9_upon 19 = .ok (.iload 4, 2) := by decide +kernel
theorem dX9_upon_21 : decode cX9_upon 21 = .ok (.aload_n 0, 1) := by decide +kernel
theorem dX9_upon_22 : decode cX9_upon 22 = .ok (.getfield 38, 3) := by decide +kernel
theorem dX9_upon_25 : decode cX9_upon 25 = .ok (.iload 5, 2) := by decide +kernel
theorem dX9_upon_27 : decode cX9_upon 27 = .ok (.iaload, 1) := by decide +kernel
theorem dX9_upon_28 : decode cX9_upon 28 = .ok (.aload_n 0, 1) := by decide +kernel
theorem dX9_upon_29 : decode cX9_upon 29 = .ok (.getfield 38, 3) := by decide +kernel
theorem dX9_upon_32 : decode cX9_upon 32 = .ok (.iload_n 1, 1) := by decide +kernel
theorem dX9_upon_33 : decode cX9_upon 33 = .ok (.iaload, 1) := by decide +kernel
theorem dX9_upon_34 : decode cX9_upon 34 = .ok (.if_icmp .eq 42, 3) := by decide +kernel
theorem dX9_upon_37 : decode cX9_upon 37 = .ok (.aload_n 0, 1) := by decide +kernel
theorem dX9_upon_38 : decode cX9_upon 38 = .ok (.iload 5, 2) := by decide +kernel
theorem dX9_upon_40 : decode cX9_upon 40 = .ok (.iload_n 2, 1) := by decide +kernel
theorem dX9_upon_41 : decode cX9_upon 41 = .ok (.aload_n 0, 1) := by decide +kernel
theorem dX9_upon_42 : decode cX9_upon 42 = .ok (.getfield 44, 3) := by decide +kernel
theorem dX9_upon_45 : decode cX9_upon 45 = .ok (.iload_n 1, 1) := by decide +kernel
theorem dX9_upon_46 : decode cX9_upon 46 = .ok (.iaload, 1) := by decide +kernel
theorem dX9_upon_47 : decode cX9_upon 47 = .ok (.invokevirtual 351, 3) := by decide +kernel
theorem dX9_upon_50 : decode cX9_upon 50 = .ok (.ifCond .eq 26, 3) := by decide +kernel
theorem dX9_upon_53 : decode cX9_upon 53 = .ok (.iload_n 3, 1) := by decide +kernel
theorem dX9_upon_54 : decode cX9_upon 54 = .ok (.ifCond .ne 18, 3) := by decide +kernel
theorem dX9_upon_57 : decode cX9_upon 57 = .ok (.aload_n 0, 1) := by decide +kernel
theorem dX9_upon_58 : decode cX9_upon 58 = .ok (.getfield 110, 3) := by decide +kernel
theorem dX9_upon_61 : decode cX9_upon 61 = .ok (.aload_n 0, 1) := by decide +kernel
theorem dX9_upon_62 : decode cX9_upon 62 = .ok (.getfield 38, 3) := by decide +kernel
theorem dX9_upon_65 : decode cX9_upon 65 = .ok (.iload 5, 2) := by decide +kernel
theorem dX9_upon_67 : decode cX9_upon 67 = .ok (.iaload, 1) := by decide +kernel
theorem dX9_upon_68 : decode cX9_upon 68 = .ok (.baload, 1) := by decide +kernel
theorem dX9_upon_69 : decode cX9_upon 69 = .ok (.ifCond .ne 7, 3) := by decide +kernel
theorem dX9_upon_72 : decode cX9_upon 72 = .ok (.iconst 1, 1) := by decide +kernel
theorem dX9_upon_73 : decode cX9_upon 73 = .ok (.goto 4, 3) := by decide +kernel
theorem dX9_upon_76 : decode cX9_upon 76 = .ok (.iconst 0, 1) := by decide +kernel
theorem dX9_upon_77 : decode cX9_upon 77 = .ok (.iadd, 1) := by decide +kernel
theorem dX9_upon_78 : decode cX9_upon 78 = .ok (.istore 4, 2) := by decide +kernel
theorem dX9_upon_80 : decode cX9_upon 80 = .ok (.iinc 5 1, 3) := by decide +kernel
theorem dX9_upon_83 : decode cX9_upon 83 = .ok (.goto (-75), 3) := by decide +kernel
theorem dX9_upon_86 : decode cX9_upon 86 = .ok (.iload 4, 2) := by decide +kernel
theorem dX9_upon_88 : decode cX9_upon 88 = .ok (.ireturn, 1) := by decide +kernel
theorem dX9_strengthOf_0 : decode cX9_strengthOf 0 = .ok (.iconst 0, 1) := by decide +kernel
theorem dX9_strengthOf_1 : decode cX9_strengthOf 1 = .ok (.istore_n 3, 1) := by decide +kernel
theorem dX9_strengthOf_2 : decode cX9_strengthOf 2 = .ok (.iconst 0, 1) := by decide +kernel
theorem dX9_strengthOf_3 : decode cX9_strengthOf 3 = .ok (.istore 4, 2) := by decide +kernel
theorem dX9_strengthOf_5 : decode cX9_strengthOf 5 = .ok (.iload 4, 2) := by decide +kernel
theorem dX9_strengthOf_7 : decode cX9_strengthOf 7 = .ok (.aload_n 0, 1) := by decide +kernel
theorem dX9_strengthOf_8 : decode cX9_strengthOf 8 = .ok (.getfield 68, 3) := by decide +kernel
theorem dX9_strengthOf_11 : decode cX9_strengthOf 11 = .ok (.iconst 0, 1) := by decide +kernel
theorem dX9_strengthOf_12 : decode cX9_strengthOf 12 = .ok (.iaload, 1) := by decide +kernel
theorem dX9_strengthOf_13 : decode cX9_strengthOf 13 = .ok (.if_icmp .ge 79, 3) := by decide +kernel
theorem dX9_strengthOf_16 : decode cX9_strengthOf 16 = .ok (.aload_n 0, 1) := by decide +kernel
theorem dX9_strengthOf_17 : decode cX9_strengthOf 17 = .ok (.getfield 41, 3) := by decide +kernel
theorem dX9_strengthOf_20 : decode cX9_strengthOf 20 = .ok (.iload 4, 2) := by decide +kernel
theorem dX9_strengthOf_22 : decode cX9_strengthOf 22 = .ok (.iaload, 1) := by decide +kernel
theorem dX9_strengthOf_23 : decode cX9_strengthOf 23 = .ok (.istore 5, 2) := by decide +kernel
theorem dX9_strengthOf_25 : decode cX9_strengthOf 25 = .ok (.iload 5, 2) := by decide +kernel
theorem dX9_strengthOf_27 : decode cX9_strengthOf 27 = .ok (.aload_n 0, 1) := by decide +kernel
theorem dX9_strengthOf_28 : decode cX9_strengthOf 28 = .ok (.getfield 41, 3) := by decide +kernel
theorem dX9_strengthOf_31 : decode cX9_strengthOf 31 = .ok (.iload 4, 2) := by decide +kernel
theorem dX9_strengthOf_33 : decode cX9_strengthOf 33 = .ok (.iaload, 1) := by decide +kernel
theorem dX9_strengthOf_34 : decode cX9_strengthOf 34 = .ok (.aload_n 0, 1) := by decide +kernel
theorem dX9_strengthOf_35 : decode cX9_strengthOf 35 = .ok (.getfield 53, 3) := by decide +kernel
theorem dX9_strengthOf_38 : decode cX9_strengthOf 38 = .ok (.iload 4, 2) := by decide +kernel
theorem dX9_strengthOf_40 : decode cX9_strengthOf 40 = .ok (.iaload, 1) := by decide +kernel
theorem dX9_strengthOf_41 : decode cX9_strengthOf 41 = .ok (.iadd, 1) := by decide +kernel
theorem dX9_strengthOf_42 : decode cX9_strengthOf 42 = .ok (.if_icmp .ge 44, 3) := by decide +kernel
theorem dX9_strengthOf_45 : decode cX9_strengthOf 45 = .ok (.aload_n 0, 1) := by decide +kernel
theorem dX9_strengthOf_46 : decode cX9_strengthOf 46 = .ok (.getfield 38, 3) := by decide +kernel
theorem dX9_strengthOf_49 : decode cX9_strengthOf 49 = .ok (.iload 4, 2) := by decide +kernel
theorem dX9_strengthOf_51 : decode cX9_strengthOf 51 = .ok (.iaload, 1) := by decide +kernel
theorem dX9_strengthOf_52 : decode cX9_strengthOf 52 = .ok (.iload_n 1, 1) := by decide +kernel
theorem dX9_strengthOf_53 : decode cX9_strengthOf 53 = .ok (.if_icmp .ne 33, 3) := by decide +kernel
theorem dX9_strengthOf_56 : decode cX9_strengthOf 56 = .ok (.aload_n 0, 1) := by decide +kernel
theorem dX9_strengthOf_57 : decode cX9_strengthOf 57 = .ok (.iload 4, 2) := by decide +kernel
theorem dX9_strengthOf_59 : decode cX9_strengthOf 59 = .ok (.iload 5, 2) := by decide +kernel
theorem dX9_strengthOf_61 : decode cX9_strengthOf 61 = .ok (.iload_n 2, 1) := by decide +kernel
theorem dX9_strengthOf_62 : decode cX9_strengthOf 62 = .ok (.invokevirtual 369, 3) := by decide +kernel
theorem dX9_strengthOf_65 : decode cX9_strengthOf 65 = .ok (.istore 6, 2) := by decide +kernel
theorem dX9_strengthOf_67 : decode cX9_strengthOf 67 = .ok (.iload 6, 2) := by decide +kernel
theorem dX9_strengthOf_69 : decode cX9_strengthOf 69 = .ok (.iload_n 3, 1) := by decide +kernel
theorem dX9_strengthOf_70 : decode cX9_strengthOf 70 = .ok (.if_icmp .le 8, 3) := by decide +kernel
theorem dX9_strengthOf_73 : decode cX9_strengthOf 73 = .ok (.iload 6, 2) := by decide +kernel
theorem dX9_strengthOf_75 : decode cX9_strengthOf 75 = .ok (.goto 4, 3) := by decide +kernel
theorem dX9_strengthOf_78 : decode cX9_strengthOf 78 = .ok (.iload_n 3, 1) := by decide +kernel
theorem dX9_strengthOf_79 : decode cX9_strengthOf 79 = .ok (.istore_n 3, 1) := by decide +kernel
theorem dX9_strengthOf_80 : decode cX9_strengthOf 80 = .ok (.iinc 5 1, 3) := by decide +kernel
theorem dX9_strengthOf_83 : decode cX9_strengthOf 83 = .ok (.goto (-58), 3) := by decide +kernel
theorem dX9_strengthOf_86 : decode cX9_strengthOf 86 = .ok (.iinc 4 1, 3) := by decide +kernel
theorem dX9_strengthOf_89 : decode cX9_strengthOf 89 = .ok (.goto (-84), 3) := by decide +kernel
theorem dX9_strengthOf_92 : decode cX9_strengthOf 92 = .ok (.iconst 4, 1) := by decide +kernel
theorem dX9_strengthOf_93 : decode cX9_strengthOf 93 = .ok (.aload_n 0, 1) := by decide +kernel
theorem dX9_strengthOf_94 : decode cX9_strengthOf 94 = .ok (.getfield 59, 3) := by decide +kernel
theorem dX9_strengthOf_97 : decode cX9_strengthOf 97 = .ok (.iload_n 1, 1) := by decide +kernel
theorem dX9_strengthOf_98 : decode cX9_strengthOf 98 = .ok (.iaload, 1) := by decide +kernel
theorem dX9_strengthOf_99 : decode cX9_strengthOf 99 = .ok (.imul, 1) := by decide +kernel
theorem dX9_strengthOf_100 : decode cX9_strengthOf 100 = .ok (.iload_n 3, 1) := by decide +kernel
theorem dX9_strengthOf_101 : decode cX9_strengthOf 101 = .ok (.iadd, 1) := by decide +kernel
theorem dX9_strengthOf_102 : decode cX9_strengthOf 102 = .ok (.ireturn, 1) := by decide +kernel
theorem dX9_strength_0 : decode cX9_strength 0 = .ok (.aload_n 0, 1) := by decide +kernel
theorem dX9_strength_1 : decode cX9_strength 1 = .ok (.getfield 339, 3) := by decide +kernel
theorem dX9_strength_4 : decode cX9_strength 4 = .ok (.ifCond .eq 28, 3) := by decide +kernel
theorem dX9_strength_7 : decode cX9_strength 7 = .ok (.iload_n 1, 1) := by decide +kernel
theorem dX9_strength_8 : decode cX9_strength 8 = .ok (.iconst 0, 1) := by decide +kernel
theorem dX9_strength_9 : decode cX9_strength 9 = .ok (.aload_n 0, 1) := by decide +kernel
theorem dX9_strength_10 : decode cX9_strength 10 = .ok (.getfield 65, 3) := by decide +kernel
theorem dX9_strength_13 : decode cX9_strength 13 = .ok (.iconst 0, 1) := by decide +kernel
theorem dX9_strength_14 : decode cX9_strength 14 = .ok (.iaload, 1) := by decide +kernel
theorem dX9_strength_15 : decode cX9_strength 15 = .ok (.iconst 1, 1) := by decide +kernel
theorem dX9_strength_16 : decode cX9_strength 16 = .ok (.isub, 1) := by decide +kernel
theorem dX9_strength_17 : decode cX9_strength 17 = .ok (.invokestatic 157, 3) := by decide +kernel
theorem dX9_strength_20 : decode cX9_strength 20 = .ok (.ifCond .eq 12, 3) := by decide +kernel
theorem dX9_strength_23 : decode cX9_strength 23 = .ok (.aload_n 0, 1) := by decide +kernel
theorem dX9_strength_24 : decode cX9_strength 24 = .ok (.iload_n 1, 1) := by decide +kernel
theorem dX9_strength_25 : decode cX9_strength 25 = .ok (.iconst 1, 1) := by decide +kernel
theorem dX9_strength_26 : decode cX9_strength 26 = .ok (.invokevirtual 372, 3) := by decide +kernel
theorem dX9_strength_29 : decode cX9_strength 29 = .ok (.goto 4, 3) := by decide +kernel
theorem dX9_strength_32 : decode cX9_strength 32 = .ok (.iconst (-1), 1) := by decide +kernel
theorem dX9_strength_33 : decode cX9_strength 33 = .ok (.ireturn, 1) := by decide +kernel
theorem dX9_stretch_0 : decode cX9_stretch 0 = .ok (.iload_n 1, 1) := by decide +kernel
theorem dX9_stretch_1 : decode cX9_stretch 1 = .ok (.iconst 0, 1) := by decide +kernel
theorem dX9_stretch_2 : decode cX9_stretch 2 = .ok (.iconst 5, 1) := by decide +kernel
theorem dX9_stretch_3 : decode cX9_stretch 3 = .ok (.invokestatic 157, 3) := by decide +kernel
theorem dX9_stretch_6 : decode cX9_stretch 6 = .ok (.ifCond .eq 23, 3) := by decide +kernel
theorem dX9_stretch_9 : decode cX9_stretch 9 = .ok (.iload_n 2, 1) := by decide +kernel
theorem dX9_stretch_10 : decode cX9_stretch 10 = .ok (.iconst 0, 1) := by decide +kernel
theorem dX9_stretch_11 : decode cX9_stretch 11 = .ok (.bipush 7, 2) := by decide +kernel
theorem dX9_stretch_13 : decode cX9_stretch 13 = .ok (.invokestatic 157, 3) := by decide +kernel
theorem dX9_stretch_16 : decode cX9_stretch 16 = .ok (.ifCond .eq 13, 3) := by decide +kernel
theorem dX9_stretch_19 : decode cX9_stretch 19 = .ok (.iload_n 3, 1) := by decide +kernel
theorem dX9_stretch_20 : decode cX9_stretch 20 = .ok (.iconst 0, 1) := by decide +kernel
theorem dX9_stretch_21 : decode cX9_stretch 21 = .ok (.bipush 9, 2) := by decide +kernel
theorem dX9_stretch_23 : decode cX9_stretch 23 = .ok (.invokestatic 157, 3) := by decide +kernel
theorem dX9_stretch_26 : decode cX9_stretch 26 = .ok (.ifCond .ne 5, 3) := by decide +kernel
theorem dX9_stretch_29 : decode cX9_stretch 29 = .ok (.iconst 0, 1) := by decide +kernel
theorem dX9_stretch_30 : decode cX9_stretch 30 = .ok (.ireturn, 1) := by decide +kernel
theorem dX9_stretch_31 : decode cX9_stretch 31 = .ok (.aload_n 0, 1) := by decide +kernel
theorem dX9_stretch_32 : decode cX9_stretch 32 = .ok (.getfield 114, 3) := by decide +kernel
theorem dX9_stretch_35 : decode cX9_stretch 35 = .ok (.bipush 8, 2) := by decide +kernel
theorem dX9_stretch_37 : decode cX9_stretch 37 = .ok (.iload_n 1, 1) := by decide +kernel
theorem dX9_stretch_38 : decode cX9_stretch 38 = .ok (.imul, 1) := by decide +kernel
theorem dX9_stretch_39 : decode cX9_stretch 39 = .ok (.iload_n 2, 1) := by decide +kernel
theorem dX9_stretch_40 : decode cX9_stretch 40 = .ok (.iadd, 1) := by decide +kernel
theorem dX9_stretch_41 : decode cX9_stretch 41 = .ok (.iload_n 3, 1) := by decide +kernel
theorem dX9_stretch_42 : decode cX9_stretch 42 = .ok (.iastore, 1) := by decide +kernel
theorem dX9_stretch_43 : decode cX9_stretch 43 = .ok (.iconst 1, 1) := by decide +kernel
theorem dX9_stretch_44 : decode cX9_stretch 44 = .ok (.ireturn, 1) := by decide +kernel
theorem dX9_pullOf_0 : decode cX9_pullOf 0 = .ok (.iconst 0, 1) := by decide +kernel
theorem dX9_pullOf_1 : decode cX9_pullOf 1 = .ok (.istore 4, 2) := by decide +kernel
theorem dX9_pullOf_3 : decode cX9_pullOf 3 = .ok (.iconst 0, 1) := by decide +kernel
theorem dX9_pullOf_4 : decode cX9_pullOf 4 = .ok (.istore 5, 2) := by decide +kernel
theorem dX9_pullOf_6 : decode cX9_pullOf 6 = .ok (.iload 5, 2) := by decide +kernel
theorem dX9_pullOf_8 : decode cX9_pullOf 8 = .ok (.aload_n 0, 1) := by decide +kernel
theorem dX9_pullOf_9 : decode cX9_pullOf 9 = .ok (.getfield 68, 3) := by decide +kernel
theorem dX9_pullOf_12 : decode cX9_pullOf 12 = .ok (.iconst 0, 1) := by decide +kernel
theorem dX9_pullOf_13 : decode cX9_pullOf 13 = .ok (.iaload, 1) := by decide +kernel
theorem dX9_pullOf_14 : decode cX9_pullOf 14 = .ok (.if_icmp .ge 114, 3) := by decide +kernel
theorem dX9_pullOf_17 : decode cX9_pullOf 17 = .ok (.iconst 0, 1) := by decide +kernel
theorem dX9_pullOf_18 : decode cX9_pullOf 18 = .ok (.istore 6, 2) := by decide +kernel
theorem dX9_pullOf_20 : decode cX9_pullOf 20 = .ok (.aload_n 0, 1) := by decide +kernel
theorem dX9_pullOf_21 : decode cX9_pullOf 21 = .ok (.getfield 41, 3) := by decide +kernel
theorem dX9_pullOf_24 : decode cX9_pullOf 24 = .ok (.iload 5, 2) := by decide +kernel
theorem dX9_pullOf_26 : decode cX9_pullOf 26 = .ok (.iaload, 1) := by decide +kernel
theorem dX9_pullOf_27 : decode cX9_pullOf 27 = .ok (.istore 7, 2) := by decide +kernel
theorem dX9_pullOf_29 : decode cX9_pullOf 29 = .ok (.iload 7, 2) := by decide +kernel
theorem dX9_pullOf_31 : decode cX9_pullOf 31 = .ok (.aload_n 0, 1) := by decide +kernel
theorem dX9_pullOf_32 : decode cX9_pullOf 32 = .ok (.getfield 41, 3) := by decide +kernel
theorem dX9_pullOf_35 : decode cX9_pullOf 35 = .ok (.iload 5, 2) := by decide +kernel
theorem dX9_pullOf_37 : decode cX9_pullOf 37 = .ok (.iaload, 1) := by decide +kernel
theorem dX9_pullOf_38 : decode cX9_pullOf 38 = .ok (.aload_n 0, 1) := by decide +kernel
theorem dX9_pullOf_39 : decode cX9_pullOf 39 = .ok (.getfield 53, 3) := by decide +kernel
theorem dX9_pullOf_42 : decode cX9_pullOf 42 = .ok (.iload 5, 2) := by decide +kernel
theorem dX9_pullOf_44 : decode cX9_pullOf 44 = .ok (.iaload, 1) := by decide +kernel
theorem dX9_pullOf_45 : decode cX9_pullOf 45 = .ok (.iadd, 1) := by decide +kernel
theorem dX9_pullOf_46 : decode cX9_pullOf 46 = .ok (.if_icmp .ge 69, 3) := by decide +kernel
theorem dX9_pullOf_49 : decode cX9_pullOf 49 = .ok (.aload_n 0, 1) := by decide +kernel
theorem dX9_pullOf_50 : decode cX9_pullOf 50 = .ok (.getfield 38, 3) := by decide +kernel
theorem dX9_pullOf_53 : decode cX9_pullOf 53 = .ok (.iload 5, 2) := by decide +kernel
theorem dX9_pullOf_55 : decode cX9_pullOf 55 = .ok (.iaload, 1) := by decide +kernel
theorem dX9_pullOf_56 : decode cX9_pullOf 56 = .ok (.iload_n 2, 1) := by decide +kernel
theorem dX9_pullOf_57 : decode cX9_pullOf 57 = .ok (.if_icmp .ne 58, 3) := by decide +kernel
theorem dX9_pullOf_60 : decode cX9_pullOf 60 = .ok (.iload_n 3, 1) := by decide +kernel
theorem dX9_pullOf_61 : decode cX9_pullOf 61 = .ok (.ifCond .eq 18, 3) := by decide +kernel
theorem dX9_pullOf_64 : decode cX9_pullOf 64 = .ok (.aload_n 0, 1) := by decide +kernel
theorem dX9_pullOf_65 : decode cX9_pullOf 65 = .ok (.getfield 117, 3) := by decide +kernel
theorem dX9_pullOf_68 : decode cX9_pullOf 68 = .ok (.bipush 8, 2) := by decide +kernel
theorem dX9_pullOf_70 : decode cX9_pullOf 70 = .ok (.iload_n 1, 1) := by decide +kernel
theorem dX9_pullOf_71 : decode cX9_pullOf 71 = .ok (.imul, 1) := by decide +kernel
theorem dX9_pullOf_72 : decode cX9_pullOf 72 = .ok (.iload 7, 2) := by decide +kernel
theorem dX9_pullOf_74 : decode cX9_pullOf 74 = .ok (.iadd, 1) := by decide +kernel
theorem dX9_pullOf_75 : decode cX9_pullOf 75 = .ok (.iaload, 1) := by decide +kernel
theorem dX9_pullOf_76 : decode cX9_pullOf 76 = .ok (.goto 15, 3) := by decide +kernel
theorem dX9_pullOf_79 : decode cX9_pullOf 79 = .ok (.aload_n 0, 1) := by decide +kernel
theorem dX9_pullOf_80 : decode cX9_pullOf 80 = .ok (.getfield 114, 3) := by decide +kernel
theorem dX9_pullOf_83 : decode cX9_pullOf 83 = .ok (.bipush 8, 2) := by decide +kernel
theorem dX9_pullOf_85 : decode cX9_pullOf 85 = .ok (.iload_n 1, 1) := by decide +kernel
theorem dX9_pullOf_86 : decode cX9_pullOf 86 = .ok (.imul, 1) := by decide +kernel
theorem dX9_pullOf_87 : decode cX9_pullOf 87 = .ok (.iload 7, 2) := by decide +kernel
theorem dX9_pullOf_89 : decode cX9_pullOf 89 = .ok (.iadd, 1) := by decide +kernel
theorem dX9_pullOf_90 : decode cX9_pullOf 90 = .ok (.iaload, 1) := by decide +kernel
theorem dX9_pullOf_91 : decode cX9_pullOf 91 = .ok (.istore 8, 2) := by decide +kernel
theorem dX9_pullOf_93 : decode cX9_pullOf 93 = .ok (.iload 8, 2) := by decide +kernel
theorem dX9_pullOf_95 : decode cX9_pullOf 95 = .ok (.iload 6, 2) := by decide +kernel
theorem dX9_pullOf_97 : decode cX9_pullOf 97 = .ok (.if_icmp .le 8, 3) := by decide +kernel
theorem dX9_pullOf_100 : decode cX9_pullOf 100 = .ok (.iload 8, 2) := by decide +kernel
theorem dX9_pullOf_102 : decode cX9_pullOf 102 = .ok (.goto 5, 3) := by decide +kernel
theorem dX9_pullOf_105 : decode cX9_pullOf 105 = .ok (.iload 6, 2) := by decide +kernel
theorem dX9_pullOf_107 : decode cX9_pullOf 107 = .ok (.istore 6, 2) := by decide +kernel
theorem dX9_pullOf_109 : decode cX9_pullOf 109 = .ok (.iinc 7 1, 3) := by decide +kernel
theorem dX9_pullOf_112 : decode cX9_pullOf 112 = .ok (.goto (-83), 3) := by decide +kernel
theorem dX9_pullOf_115 : decode cX9_pullOf 115 = .ok (.iload 4, 2) := by decide +kernel
theorem dX9_pullOf_117 : decode cX9_pullOf 117 = .ok (.iload 6, 2) := by decide +kernel
theorem dX9_pullOf_119 : decode cX9_pullOf 119 = .ok (.iadd, 1) := by decide +kernel
theorem dX9_pullOf_120 : decode cX9_pullOf 120 = .ok (.istore 4, 2) := by decide +kernel
theorem dX9_pullOf_122 : decode cX9_pullOf 122 = .ok (.iinc 5 1, 3) := by decide +kernel
theorem dX9_pullOf_125 : decode cX9_pullOf 125 = .ok (.goto (-119), 3) := by decide +kernel
theorem dX9_pullOf_128 : decode cX9_pullOf 128 = .ok (.iload 4, 2) := by decide +kernel
theorem dX9_pullOf_130 : decode cX9_pullOf 130 = .ok (.ireturn, 1) := by decide +kernel
section
variable {d : Nat} {M : gM} {Z : Option Value → gM → Prop} {a0 a1 a2 a3 a4 a5 a6 a7 a8 a9 a10 a11 a12 : Option Value} {v s0 s1 s2 s3 s4 s5 s6 s7 s8 s9 s10 s11 : Value} {x y w : Int32} {o b u1 u2 : Nat}
/-! 168: X9_isPlace (II)Z -/
theorem gd168 {pc : Nat} {r : Except _ _} (h : decode cX9_isPlace pc = r) : decode (gby 168) pc = r := h
theorem z168_0 : Run d 168 0 [some (.int x), a1] [] M 0 0 Z ↔ Run d 168 1 [some (.int x), a1] [.int x] M 0 0 Z := R_local (gd168 dX9_isPlace_0) rfl rfl rfl
theorem z168_1 : Run d 168 1 [a0, a1] [s0] M 0 0 Z ↔ Run d 168 2 [a0, a1] [.int 0, s0] M 0 0 Z := R_iconst (gd168 dX9_isPlace_1) (by decide)
theorem z168_2 : Run d 168 2 [a0, a1] [s1, s0] M 0 0 Z ↔ Run d 168 4 [a0, a1] [.int 7, s1, s0] M 0 0 Z := R_bipush (gd168 dX9_isPlace_2) (by decide)
theorem z168_4 : Run d 168 4 [a0, a1] [s2, s1, s0] M 0 0 Z ↔ Call d 120 [s0, s1, s2] M (fun r M1 => Run d 168 7 [a0, a1] (r.toList ++ []) M1 0 0 Z) := R_call (gd168 dX9_isPlace_4) rfl rfl rfl rfl rfl rfl gc_9_157 rfl (by decide) (Nat.le_of_ble_eq_true rfl) (Nat.le_of_ble_eq_true rfl) rfl rfl rfl (Nat.le_of_ble_eq_true rfl) (Nat.le_of_ble_eq_true rfl)
theorem z168_7 : Run d 168 7 [a0, a1] [.int x] M 0 0 Z ↔ (x = 0 → Run d 168 24 [a0, a1] [] M 0 0 Z) ∧ (¬ (x = 0) → Run d 168 10 [a0, a1] [] M 0 0 Z) := R_if (gd168 dX9_isPlace_7) (show gTgt 7 17 = some 24 by decide) gIf_eq
theorem z168_10 : Run d 168 10 [a0, some (.int x)] [] M 0 0 Z ↔ Run d 168 11 [a0, some (.int x)] [.int x] M 0 0 Z := R_local (gd168 dX9_isPlace_10) rfl rfl rfl
theorem z168_11 : Run d 168 11 [a0, a1] [s0] M 0 0 Z ↔ Run d 168 12 [a0, a1] [.int 0, s0] M 0 0 Z := R_iconst (gd168 dX9_isPlace_11) (by decide)
theorem z168_12 : Run d 168 12 [a0, a1] [s1, s0] M 0 0 Z ↔ Run d 168 14 [a0, a1] [.int 7, s1, s0] M 0 0 Z := R_bipush (gd168 dX9_isPlace_12) (by decide)
theorem z168_14 : Run d 168 14 [a0, a1] [s2, s1, s0] M 0 0 Z ↔ Call d 120 [s0, s1, s2] M (fun r M1 => Run d 168 17 [a0, a1] (r.toList ++ []) M1 0 0 Z) := R_call (gd168 dX9_isPlace_14) rfl rfl rfl rfl rfl rfl gc_9_157 rfl (by decide) (Nat.le_of_ble_eq_true rfl) (Nat.le_of_ble_eq_true rfl) rfl rfl rfl (Nat.le_of_ble_eq_true rfl) (Nat.le_of_ble_eq_true rfl)
theorem z168_17 : Run d 168 17 [a0, a1] [.int x] M 0 0 Z ↔ (x = 0 → Run d 168 24 [a0, a1] [] M 0 0 Z) ∧ (¬ (x = 0) → Run d 168 20 [a0, a1] [] M 0 0 Z) := R_if (gd168 dX9_isPlace_17) (show gTgt 17 7 = some 24 by decide) gIf_eq
theorem z168_20 : Run d 168 20 [a0, a1] [] M 0 0 Z ↔ Run d 168 21 [a0, a1] [.int 1] M 0 0 Z := R_iconst (gd168 dX9_isPlace_20) (by decide)
theorem z168_21 : Run d 168 21 [a0, a1] [s0] M 0 0 Z ↔ Run d 168 25 [a0, a1] [s0] M 0 0 Z := R_goto (gd168 dX9_isPlace_21) (show gTgt 21 4 = some 25 by decide)
theorem z168_24 : Run d 168 24 [a0, a1] [] M 0 0 Z ↔ Run d 168 25 [a0, a1] [.int 0] M 0 0 Z := R_iconst (gd168 dX9_isPlace_24) (by decide)
theorem z168_25 : Run d 168 25 [a0, a1] [.int x] M 0 0 Z ↔ (x = 0 ∨ x = 1) ∧ Z (some (.int x)) M := R_iretZ (gd168 dX9_isPlace_25) rfl
theorem e168 : Call (d + 1) 168 [s0, s1] M Z ↔ Run d 168 0 [some s0, some s1] [] M 0 0 Z := Call_iff (Nat.lt_of_lt_of_le (Nat.lt_succ_self 168) (Nat.le_of_ble_eq_true rfl)) (Nat.le_of_ble_eq_true rfl)
/-! 169: X9_lies0 (III)Z -/
theorem gd169 {pc : Nat} {r : Except _ _} (h : decode cX9_lies0 pc = r) : decode (gby 169) pc = r := h
theorem z169_0 : Run d 169 0 [some (.ref o), a1, a2, a3] [] M 0 0 Z ↔ Run d 169 1 [some (.ref o), a1, a2, a3] [.ref o] M 0 0 Z := R_local (gd169 dX9_lies0_0) rfl rfl rfl
theorem z169_1 : Run d 169 1 [a0, a1, a2, a3] [.ref o] M 0 0 Z ↔ gObj M o 9 ∧ Run d 169 4 [a0, a1, a2, a3] [va_rf (M.2.1 o 19)] M 0 0 Z := R_getR (gd169 dX9_lies0_1) rfl gf_9_44 rfl
theorem z169_4 : Run d 169 4 [a0, some (.int x), a2, a3] [s0] M 0 0 Z ↔ Run d 169 5 [a0, some (.int x), a2, a3] [.int x, s0] M 0 0 Z := R_local (gd169 dX9_lies0_4) rfl rfl rfl
theorem z169_5 : Run d 169 5 [a0, a1, a2, a3] [.int x, .ref o] M 0 0 Z ↔ gAr M o 0 ∧ gIn x (gLen M o) = true ∧ Run d 169 6 [a0, a1, a2, a3] [.int (M.1 o x.toNatClampNeg)] M 0 0 Z := R_iald (gd169 dX9_lies0_5)
theorem z169_6 : Run d 169 6 [a0, a1, a2, some (.int x)] [s0] M 0 0 Z ↔ Run d 169 7 [a0, a1, a2, some (.int x)] [.int x, s0] M 0 0 Z := R_local (gd169 dX9_lies0_6) rfl rfl rfl
theorem z169_7 : Run d 169 7 [a0, a1, a2, a3] [.int y, .int x] M 0 0 Z ↔ (¬ x = y → Run d 169 42 [a0, a1, a2, a3] [] M 0 0 Z) ∧ (¬ (¬ x = y) → Run d 169 10 [a0, a1, a2, a3] [] M 0 0 Z) := R_icmp (gd169 dX9_lies0_7) (show gTgt 7 35 = some 42 by decide) gIf_ne
theorem z169_10 : Run d 169 10 [a0, a1, some (.int x), a3] [] M 0 0 Z ↔ Run d 169 11 [a0, a1, some (.int x), a3] [.int x] M 0 0 Z := R_local (gd169 dX9_lies0_10) rfl rfl rfl
theorem z169_11 : Run d 169 11 [some (.ref o), a1, a2, a3] [s0] M 0 0 Z ↔ Run d 169 12 [some (.ref o), a1, a2, a3] [.ref o, s0] M 0 0 Z := R_local (gd169 dX9_lies0_11) rfl rfl rfl
theorem z169_12 : Run d 169 12 [a0, a1, a2, a3] [.ref o, s0] M 0 0 Z ↔ gObj M o 9 ∧ Run d 169 15 [a0, a1, a2, a3] [va_rf (M.2.1 o 18), s0] M 0 0 Z := R_getR (gd169 dX9_lies0_12) rfl gf_9_41 rfl
theorem z169_15 : Run d 169 15 [a0, some (.int x), a2, a3] [s1, s0] M 0 0 Z ↔ Run d 169 16 [a0, some (.int x), a2, a3] [.int x, s1, s0] M 0 0 Z := R_local (gd169 dX9_lies0_15) rfl rfl rfl
theorem z169_16 : Run d 169 16 [a0, a1, a2, a3] [.int x, .ref o, s0] M 0 0 Z ↔ gAr M o 0 ∧ gIn x (gLen M o) = true ∧ Run d 169 17 [a0, a1, a2, a3] [.int (M.1 o x.toNatClampNeg), s0] M 0 0 Z := R_iald (gd169 dX9_lies0_16)
theorem z169_17 : Run d 169 17 [some (.ref o), a1, a2, a3] [s1, s0] M 0 0 Z ↔ Run d 169 18 [some (.ref o), a1, a2, a3] [.ref o, s1, s0] M 0 0 Z := R_local (gd169 dX9_lies0_17) rfl rfl rfl
theorem z169_18 : Run d 169 18 [a0, a1, a2, a3] [.ref o, s1, s0] M 0 0 Z ↔ gObj M o 9 ∧ Run d 169 21 [a0, a1, a2, a3] [va_rf (M.2.1 o 18), s1, s0] M 0 0 Z := R_getR (gd169 dX9_lies0_18) rfl gf_9_41 rfl
theorem z169_21 : Run d 169 21 [a0, some (.int x), a2, a3] [s2, s1, s0] M 0 0 Z ↔ Run d 169 22 [a0, some (.int x), a2, a3] [.int x, s2, s1, s0] M 0 0 Z := R_local (gd169 dX9_lies0_21) rfl rfl rfl
theorem z169_22 : Run d 169 22 [a0, a1, a2, a3] [.int x, .ref o, s1, s0] M 0 0 Z ↔ gAr M o 0 ∧ gIn x (gLen M o) = true ∧ Run d 169 23 [a0, a1, a2, a3] [.int (M.1 o x.toNatClampNeg), s1, s0] M 0 0 Z := R_iald (gd169 dX9_lies0_22)
theorem z169_23 : Run d 169 23 [some (.ref o), a1, a2, a3] [s2, s1, s0] M 0 0 Z ↔ Run d 169 24 [some (.ref o), a1, a2, a3] [.ref o, s2, s1, s0] M 0 0 Z := R_local (gd169 dX9_lies0_23) rfl rfl rfl
theorem z169_24 : Run d 169 24 [a0, a1, a2, a3] [.ref o, s2, s1, s0] M 0 0 Z ↔ gObj M o 9 ∧ Run d 169 27 [a0, a1, a2, a3] [va_rf (M.2.1 o 22), s2, s1, s0] M 0 0 Z := R_getR (gd169 dX9_lies0_24) rfl gf_9_53 rfl
theorem z169_27 : Run d 169 27 [a0, some (.int x), a2, a3] [s3, s2, s1, s0] M 0 0 Z ↔ Run d 169 28 [a0, some (.int x), a2, a3] [.int x, s3, s2, s1, s0] M 0 0 Z := R_local (gd169 dX9_lies0_27) rfl rfl rfl
theorem z169_28 : Run d 169 28 [a0, a1, a2, a3] [.int x, .ref o, s2, s1, s0] M 0 0 Z ↔ gAr M o 0 ∧ gIn x (gLen M o) = true ∧ Run d 169 29 [a0, a1, a2, a3] [.int (M.1 o x.toNatClampNeg), s2, s1, s0] M 0 0 Z := R_iald (gd169 dX9_lies0_28)
theorem z169_29 : Run d 169 29 [a0, a1, a2, a3] [.int y, .int x, s1, s0] M 0 0 Z ↔ Run d 169 30 [a0, a1, a2, a3] [.int (x + y), s1, s0] M 0 0 Z := R_arith (gd169 dX9_lies0_29) rfl
theorem z169_30 : Run d 169 30 [a0, a1, a2, a3] [s2, s1, s0] M 0 0 Z ↔ Run d 169 31 [a0, a1, a2, a3] [.int 1, s2, s1, s0] M 0 0 Z := R_iconst (gd169 dX9_lies0_30) (by decide)
theorem z169_31 : Run d 169 31 [a0, a1, a2, a3] [.int y, .int x, s1, s0] M 0 0 Z ↔ Run d 169 32 [a0, a1, a2, a3] [.int (x - y), s1, s0] M 0 0 Z := R_arith (gd169 dX9_lies0_31) rfl
theorem z169_32 : Run d 169 32 [a0, a1, a2, a3] [s2, s1, s0] M 0 0 Z ↔ Call d 120 [s0, s1, s2] M (fun r M1 => Run d 169 35 [a0, a1, a2, a3] (r.toList ++ []) M1 0 0 Z) := R_call (gd169 dX9_lies0_32) rfl rfl rfl rfl rfl rfl gc_9_157 rfl (by decide) (Nat.le_of_ble_eq_true rfl) (Nat.le_of_ble_eq_true rfl) rfl rfl rfl (Nat.le_of_ble_eq_true rfl) (Nat.le_of_ble_eq_true rfl)
theorem z169_35 : Run d 169 35 [a0, a1, a2, a3] [.int x] M 0 0 Z ↔ (x = 0 → Run d 169 42 [a0, a1, a2, a3] [] M 0 0 Z) ∧ (¬ (x = 0) → Run d 169 38 [a0, a1, a2, a3] [] M 0 0 Z) := R_if (gd169 dX9_lies0_35) (show gTgt 35 7 = some 42 by decide) gIf_eq
theorem z169_38 : Run d 169 38 [a0, a1, a2, a3] [] M 0 0 Z ↔ Run d 169 39 [a0, a1, a2, a3] [.int 1] M 0 0 Z := R_iconst (gd169 dX9_lies0_38) (by decide)
theorem z169_39 : Run d 169 39 [a0, a1, a2, a3] [s0] M 0 0 Z ↔ Run d 169 43 [a0, a1, a2, a3] [s0] M 0 0 Z := R_goto (gd169 dX9_lies0_39) (show gTgt 39 4 = some 43 by decide)
theorem z169_42 : Run d 169 42 [a0, a1, a2, a3] [] M 0 0 Z ↔ Run d 169 43 [a0, a1, a2, a3] [.int 0] M 0 0 Z := R_iconst (gd169 dX9_lies0_42) (by decide)
theorem z169_43 : Run d 169 43 [a0, a1, a2, a3] [.int x] M 0 0 Z ↔ (x = 0 ∨ x = 1) ∧ Z (some (.int x)) M := R_iretZ (gd169 dX9_lies0_43) rfl
theorem e169 : Call (d + 1) 169 [s0, s1, s2, s3] M Z ↔ Run d 169 0 [some s0, some s1, some s2, some s3] [] M 0 0 Z := Call_iff (Nat.lt_of_lt_of_le (Nat.lt_succ_self 169) (Nat.le_of_ble_eq_true rfl)) (Nat.le_of_ble_eq_true rfl)
/-! 170: X9_showsAt (IIZ)I -/
theorem gd170 {pc : Nat} {r : Except _ _} (h : decode cX9_showsAt pc = r) : decode (gby 170) pc = r := h
theorem z170_0 : Run d 170 0 [some (.ref o), a1, a2, a3, a4] [] M 0 0 Z ↔ Run d 170 1 [some (.ref o), a1, a2, a3, a4] [.ref o] M 0 0 Z := R_local (gd170 dX9_showsAt_0) rfl rfl rfl
theorem z170_1 : Run d 170 1 [a0, a1, a2, a3, a4] [.ref o] M 0 0 Z ↔ gObj M o 9 ∧ Run d 170 4 [a0, a1, a2, a3, a4] [va_rf (M.2.1 o 27)] M 0 0 Z := R_getR (gd170 dX9_showsAt_1) rfl gf_9_68 rfl
theorem z170_4 : Run d 170 4 [a0, a1, a2, a3, a4] [s0] M 0 0 Z ↔ Run d 170 5 [a0, a1, a2, a3, a4] [.int 0, s0] M 0 0 Z := R_iconst (gd170 dX9_showsAt_4) (by decide)
theorem z170_5 : Run d 170 5 [a0, a1, a2, a3, a4] [.int x, .ref o] M 0 0 Z ↔ gAr M o 0 ∧ gIn x (gLen M o) = true ∧ Run d 170 6 [a0, a1, a2, a3, a4] [.int (M.1 o x.toNatClampNeg)] M 0 0 Z := R_iald (gd170 dX9_showsAt_5)
theorem z170_6 : Run d 170 6 [a0, a1, a2, a3, a4] [s0] M 0 0 Z ↔ Run d 170 7 [a0, a1, a2, a3, a4] [.int 1, s0] M 0 0 Z := R_iconst (gd170 dX9_showsAt_6) (by decide)
theorem z170_7 : Run d 170 7 [a0, a1, a2, a3, a4] [.int y, .int x] M 0 0 Z ↔ Run d 170 8 [a0, a1, a2, a3, a4] [.int (x - y)] M 0 0 Z := R_arith (gd170 dX9_showsAt_7) rfl
theorem z170_8 : Run d 170 8 [a0, a1, a2, a3, a4] [.int x] M 0 0 Z ↔ Run d 170 10 [a0, a1, a2, a3, some (.int x)] [] M 0 0 Z := R_local (gd170 dX9_showsAt_8) rfl rfl rfl
theorem z170_10 : Run d 170 10 [a0, a1, a2, a3, some (.int x)] [] M 0 0 Z ↔ Run d 170 12 [a0, a1, a2, a3, some (.int x)] [.int x] M 0 0 Z := R_local (gd170 dX9_showsAt_10) rfl rfl rfl
theorem z170_12 : Run d 170 12 [a0, a1, a2, a3, a4] [.int x] M 0 0 Z ↔ (x < 0 → Run d 170 83 [a0, a1, a2, a3, a4] [] M 0 0 Z) ∧ (¬ (x < 0) → Run d 170 15 [a0, a1, a2, a3, a4] [] M 0 0 Z) := R_if (gd170 dX9_showsAt_12) (show gTgt 12 71 = some 83 by decide) gIf_lt
theorem z170_15 : Run d 170 15 [some (.ref o), a1, a2, a3, a4] [] M 0 0 Z ↔ Run d 170 16 [some (.ref o), a1, a2, a3, a4] [.ref o] M 0 0 Z := R_local (gd170 dX9_showsAt_15) rfl rfl rfl
theorem z170_16 : Run d 170 16 [a0, a1, a2, a3, some (.int x)] [s0] M 0 0 Z ↔ Run d 170 18 [a0, a1, a2, a3, some (.int x)] [.int x, s0] M 0 0 Z := R_local (gd170 dX9_showsAt_16) rfl rfl rfl
theorem z170_18 : Run d 170 18 [a0, some (.int x), a2, a3, a4] [s1, s0] M 0 0 Z ↔ Run d 170 19 [a0, some (.int x), a2, a3, a4] [.int x, s1, s0] M 0 0 Z := R_local (gd170 dX9_showsAt_18) rfl rfl rfl
theorem z170_19 : Run d 170 19 [a0, a1, some (.int x), a3, a4] [s2, s1, s0] M 0 0 Z ↔ Run d 170 20 [a0, a1, some (.int x), a3, a4] [.int x, s2, s1, s0] M 0 0 Z := R_local (gd170 dX9_showsAt_19) rfl rfl rfl
theorem z170_20 : Run d 170 20 [a0, a1, a2, a3, a4] [s3, s2, s1, .ref b] M 0 0 Z ↔ gObj M b 9 ∧ Call d 169 [.ref b, s1, s2, s3] M (fun r M1 => Run d 170 23 [a0, a1, a2, a3, a4] (r.toList ++ []) M1 0 0 Z) := R_callV (gd170 dX9_showsAt_20) rfl rfl rfl rfl rfl rfl gc_9_351 rfl rfl (Nat.le_of_ble_eq_true rfl) (Nat.le_of_ble_eq_true rfl) rfl rfl (Nat.le_of_ble_eq_true rfl) (Nat.le_of_ble_eq_true rfl)
theorem z170_23 : Run d 170 23 [a0, a1, a2, a3, a4] [.int x] M 0 0 Z ↔ (x = 0 → Run d 170 77 [a0, a1, a2, a3, a4] [] M 0 0 Z) ∧ (¬ (x = 0) → Run d 170 26 [a0, a1, a2, a3, a4] [] M 0 0 Z) := R_if (gd170 dX9_showsAt_23) (show gTgt 23 54 = some 77 by decide) gIf_eq
theorem z170_26 : Run d 170 26 [a0, a1, a2, some (.int x), a4] [] M 0 0 Z ↔ Run d 170 27 [a0, a1, a2, some (.int x), a4] [.int x] M 0 0 Z := R_local (gd170 dX9_showsAt_26) rfl rfl rfl
theorem z170_27 : Run d 170 27 [a0, a1, a2, a3, a4] [.int x] M 0 0 Z ↔ (¬ x = 0 → Run d 170 45 [a0, a1, a2, a3, a4] [] M 0 0 Z) ∧ (¬ (¬ x = 0) → Run d 170 30 [a0, a1, a2, a3, a4] [] M 0 0 Z) := R_if (gd170 dX9_showsAt_27) (show gTgt 27 18 = some 45 by decide) gIf_ne
theorem z170_30 : Run d 170 30 [some (.ref o), a1, a2, a3, a4] [] M 0 0 Z ↔ Run d 170 31 [some (.ref o), a1, a2, a3, a4] [.ref o] M 0 0 Z := R_local (gd170 dX9_showsAt_30) rfl rfl rfl
theorem z170_31 : Run d 170 31 [a0, a1, a2, a3, a4] [.ref o] M 0 0 Z ↔ gObj M o 9 ∧ Run d 170 34 [a0, a1, a2, a3, a4] [va_rf (M.2.1 o 55)] M 0 0 Z := R_getR (gd170 dX9_showsAt_31) rfl gf_9_110 rfl
theorem z170_34 : Run d 170 34 [some (.ref o), a1, a2, a3, a4] [s0] M 0 0 Z ↔ Run d 170 35 [some (.ref o), a1, a2, a3, a4] [.ref o, s0] M 0 0 Z := R_local (gd170 dX9_showsAt_34) rfl rfl rfl
theorem z170_35 : Run d 170 35 [a0, a1, a2, a3, a4] [.ref o, s0] M 0 0 Z ↔ gObj M o 9 ∧ Run d 170 38 [a0, a1, a2, a3, a4] [va_rf (M.2.1 o 17), s0] M 0 0 Z := R_getR (gd170 dX9_showsAt_35) rfl gf_9_38 rfl
theorem z170_38 : Run d 170 38 [a0, a1, a2, a3, some (.int x)] [s1, s0] M 0 0 Z ↔ Run d 170 40 [a0, a1, a2, a3, some (.int x)] [.int x, s1, s0] M 0 0 Z := R_local (gd170 dX9_showsAt_38) rfl rfl rfl
theorem z170_40 : Run d 170 40 [a0, a1, a2, a3, a4] [.int x, .ref o, s0] M 0 0 Z ↔ gAr M o 0 ∧ gIn x (gLen M o) = true ∧ Run d 170 41 [a0, a1, a2, a3, a4] [.int (M.1 o x.toNatClampNeg), s0] M 0 0 Z := R_iald (gd170 dX9_showsAt_40)
theorem z170_41 (hg : gAr M o 2) : Run d 170 41 [a0, a1, a2, a3, a4] [.int x, .ref o] M 0 0 Z ↔ gIn x (gLen M o) = true ∧ Run d 170 42 [a0, a1, a2, a3, a4] [.int (M.1 o x.toNatClampNeg)] M 0 0 Z := R_bald (gd170 dX9_showsAt_41) (by decide) hg
theorem z170_42 : Run d 170 42 [a0, a1, a2, a3, a4] [.int x] M 0 0 Z ↔ (¬ x = 0 → Run d 170 77 [a0, a1, a2, a3, a4] [] M 0 0 Z) ∧ (¬ (¬ x = 0) → Run d 170 45 [a0, a1, a2, a3, a4] [] M 0 0 Z) := R_if (gd170 dX9_showsAt_42) (show gTgt 42 35 = some 77 by decide) gIf_ne
theorem z170_45 : Run d 170 45 [some (.ref o), a1, a2, a3, a4] [] M 0 0 Z ↔ Run d 170 46 [some (.ref o), a1, a2, a3, a4] [.ref o] M 0 0 Z := R_local (gd170 dX9_showsAt_45) rfl rfl rfl
theorem z170_46 : Run d 170 46 [some (.ref o), a1, a2, a3, a4] [s0] M 0 0 Z ↔ Run d 170 47 [some (.ref o), a1, a2, a3, a4] [.ref o, s0] M 0 0 Z := R_local (gd170 dX9_showsAt_46) rfl rfl rfl
theorem z170_47 : Run d 170 47 [a0, a1, a2, a3, a4] [.ref o, s0] M 0 0 Z ↔ gObj M o 9 ∧ Run d 170 50 [a0, a1, a2, a3, a4] [.int (M.1 o 53), s0] M 0 0 Z := R_getI (gd170 dX9_showsAt_47) rfl gf_9_345 rfl
theorem z170_50 : Run d 170 50 [some (.ref o), a1, a2, a3, a4] [s1, s0] M 0 0 Z ↔ Run d 170 51 [some (.ref o), a1, a2, a3, a4] [.ref o, s1, s0] M 0 0 Z := R_local (gd170 dX9_showsAt_50) rfl rfl rfl
theorem z170_51 : Run d 170 51 [a0, a1, a2, a3, a4] [.ref o, s1, s0] M 0 0 Z ↔ gObj M o 9 ∧ Run d 170 54 [a0, a1, a2, a3, a4] [va_rf (M.2.1 o 20), s1, s0] M 0 0 Z := R_getR (gd170 dX9_showsAt_51) rfl gf_9_47 rfl
theorem z170_54 : Run d 170 54 [a0, a1, a2, a3, some (.int x)] [s2, s1, s0] M 0 0 Z ↔ Run d 170 56 [a0, a1, a2, a3, some (.int x)] [.int x, s2, s1, s0] M 0 0 Z := R_local (gd170 dX9_showsAt_54) rfl rfl rfl
theorem z170_56 : Run d 170 56 [a0, a1, a2, a3, a4] [.int x, .ref o, s1, s0] M 0 0 Z ↔ gAr M o 0 ∧ gIn x (gLen M o) = true ∧ Run d 170 57 [a0, a1, a2, a3, a4] [.int (M.1 o x.toNatClampNeg), s1, s0] M 0 0 Z := R_iald (gd170 dX9_showsAt_56)
theorem z170_57 : Run d 170 57 [a0, some (.int x), a2, a3, a4] [s2, s1, s0] M 0 0 Z ↔ Run d 170 58 [a0, some (.int x), a2, a3, a4] [.int x, s2, s1, s0] M 0 0 Z := R_local (gd170 dX9_showsAt_57) rfl rfl rfl
theorem z170_58 : Run d 170 58 [some (.ref o), a1, a2, a3, a4] [s3, s2, s1, s0] M 0 0 Z ↔ Run d 170 59 [some (.ref o), a1, a2, a3, a4] [.ref o, s3, s2, s1, s0] M 0 0 Z := R_local (gd170 dX9_showsAt_58) rfl rfl rfl
theorem z170_59 : Run d 170 59 [a0, a1, a2, a3, a4] [.ref o, s3, s2, s1, s0] M 0 0 Z ↔ gObj M o 9 ∧ Run d 170 62 [a0, a1, a2, a3, a4] [va_rf (M.2.1 o 18), s3, s2, s1, s0] M 0 0 Z := R_getR (gd170 dX9_showsAt_59) rfl gf_9_41 rfl
theorem z170_62 : Run d 170 62 [a0, a1, a2, a3, some (.int x)] [s4, s3, s2, s1, s0] M 0 0 Z ↔ Run d 170 64 [a0, a1, a2, a3, some (.int x)] [.int x, s4, s3, s2, s1, s0] M 0 0 Z := R_local (gd170 dX9_showsAt_62) rfl rfl rfl
theorem z170_64 : Run d 170 64 [a0, a1, a2, a3, a4] [.int x, .ref o, s3, s2, s1, s0] M 0 0 Z ↔ gAr M o 0 ∧ gIn x (gLen M o) = true ∧ Run d 170 65 [a0, a1, a2, a3, a4] [.int (M.1 o x.toNatClampNeg), s3, s2, s1, s0] M 0 0 Z := R_iald (gd170 dX9_showsAt_64)
theorem z170_65 : Run d 170 65 [a0, a1, a2, a3, a4] [.int y, .int x, s2, s1, s0] M 0 0 Z ↔ Run d 170 66 [a0, a1, a2, a3, a4] [.int (x - y), s2, s1, s0] M 0 0 Z := R_arith (gd170 dX9_showsAt_65) rfl
theorem z170_66 : Run d 170 66 [some (.ref o), a1, a2, a3, a4] [s3, s2, s1, s0] M 0 0 Z ↔ Run d 170 67 [some (.ref o), a1, a2, a3, a4] [.ref o, s3, s2, s1, s0] M 0 0 Z := R_local (gd170 dX9_showsAt_66) rfl rfl rfl
theorem z170_67 : Run d 170 67 [a0, a1, a2, a3, a4] [.ref o, s3, s2, s1, s0] M 0 0 Z ↔ gObj M o 9 ∧ Run d 170 70 [a0, a1, a2, a3, a4] [va_rf (M.2.1 o 23), s3, s2, s1, s0] M 0 0 Z := R_getR (gd170 dX9_showsAt_67) rfl gf_9_56 rfl
theorem z170_70 : Run d 170 70 [a0, a1, a2, a3, some (.int x)] [s4, s3, s2, s1, s0] M 0 0 Z ↔ Run d 170 72 [a0, a1, a2, a3, some (.int x)] [.int x, s4, s3, s2, s1, s0] M 0 0 Z := R_local (gd170 dX9_showsAt_70) rfl rfl rfl
theorem z170_72 : Run d 170 72 [a0, a1, a2, a3, a4] [.int x, .ref o, s3, s2, s1, s0] M 0 0 Z ↔ gAr M o 0 ∧ gIn x (gLen M o) = true ∧ Run d 170 73 [a0, a1, a2, a3, a4] [.int (M.1 o x.toNatClampNeg), s3, s2, s1, s0] M 0 0 Z := R_iald (gd170 dX9_showsAt_72)
theorem z170_73 : Run d 170 73 [a0, a1, a2, a3, a4] [s4, s3, s2, s1, .ref b] M 0 0 Z ↔ gObj M b 9 ∧ Call d 167 [.ref b, s1, s2, s3, s4] M (fun r M1 => Run d 170 76 [a0, a1, a2, a3, a4] (r.toList ++ []) M1 0 0 Z) := R_callV (gd170 dX9_showsAt_73) rfl rfl rfl rfl rfl rfl gc_9_354 rfl rfl (Nat.le_of_ble_eq_true rfl) (Nat.le_of_ble_eq_true rfl) rfl rfl (Nat.le_of_ble_eq_true rfl) (Nat.le_of_ble_eq_true rfl)
theorem z170_76 : Run d 170 76 [a0, a1, a2, a3, a4] [.int x] M 0 0 Z ↔ Z (some (.int x)) M := R_iret (gd170 dX9_showsAt_76) rfl
theorem z170_77 : Run d 170 77 [a0, a1, a2, a3, some (.int x)] [] M 0 0 Z ↔ Run d 170 80 [a0, a1, a2, a3, some (.int (x + (-1)))] [] M 0 0 Z := R_iinc (gd170 dX9_showsAt_77) (by decide) rfl rfl
theorem z170_80 : Run d 170 80 [a0, a1, a2, a3, a4] [] M 0 0 Z ↔ Run d 170 10 [a0, a1, a2, a3, a4] [] M 0 0 Z := R_goto (gd170 dX9_showsAt_80) (show gTgt 80 (-70) = some 10 by decide)
theorem z170_83 : Run d 170 83 [a0, a1, a2, a3, a4] [] M 0 0 Z ↔ Run d 170 85 [a0, a1, a2, a3, a4] [.int 8] M 0 0 Z := R_bipush (gd170 dX9_showsAt_83) (by decide)
theorem z170_85 : Run d 170 85 [a0, a1, a2, a3, a4] [.int x] M 0 0 Z ↔ Z (some (.int x)) M := R_iret (gd170 dX9_showsAt_85) rfl
theorem e170 : Call (d + 1) 170 [s0, s1, s2, s3] M Z ↔ Run d 170 0 [some s0, some s1, some s2, some s3, none] [] M 0 0 Z := Call_iff (Nat.lt_of_lt_of_le (Nat.lt_succ_self 170) (Nat.le_of_ble_eq_true rfl)) (Nat.le_of_ble_eq_true rfl)
/-! 171: X9_shows (II)I -/
theorem gd171 {pc : Nat} {r : Except _ _} (h : decode cX9_shows pc = r) : decode (gby 171) pc = r := h
theorem z171_0 : Run d 171 0 [some (.ref o), a1, a2] [] M 0 0 Z ↔ Run d 171 1 [some (.ref o), a1, a2] [.ref o] M 0 0 Z := R_local (gd171 dX9_shows_0) rfl rfl rfl
theorem z171_1 : Run d 171 1 [a0, a1, a2] [.ref o] M 0 0 Z ↔ gObj M o 9 ∧ Run d 171 4 [a0, a1, a2] [.int (M.1 o 51)] M 0 0 Z := R_getI (gd171 dX9_shows_1) rfl gf_9_339 rfl
theorem z171_4 : Run d 171 4 [a0, a1, a2] [.int x] M 0 0 Z ↔ (x = 0 → Run d 171 25 [a0, a1, a2] [] M 0 0 Z) ∧ (¬ (x = 0) → Run d 171 7 [a0, a1, a2] [] M 0 0 Z) := R_if (gd171 dX9_shows_4) (show gTgt 4 21 = some 25 by decide) gIf_eq
theorem z171_7 : Run d 171 7 [a0, some (.int x), a2] [] M 0 0 Z ↔ Run d 171 8 [a0, some (.int x), a2] [.int x] M 0 0 Z := R_local (gd171 dX9_shows_7) rfl rfl rfl
theorem z171_8 : Run d 171 8 [a0, a1, some (.int x)] [s0] M 0 0 Z ↔ Run d 171 9 [a0, a1, some (.int x)] [.int x, s0] M 0 0 Z := R_local (gd171 dX9_shows_8) rfl rfl rfl
theorem z171_9 : Run d 171 9 [a0, a1, a2] [s1, s0] M 0 0 Z ↔ Call d 168 [s0, s1] M (fun r M1 => Run d 171 12 [a0, a1, a2] (r.toList ++ []) M1 0 0 Z) := R_call (gd171 dX9_shows_9) rfl rfl rfl rfl rfl rfl gc_9_358 rfl (by decide) (Nat.le_of_ble_eq_true rfl) (Nat.le_of_ble_eq_true rfl) rfl rfl rfl (Nat.le_of_ble_eq_true rfl) (Nat.le_of_ble_eq_true rfl)
theorem z171_12 : Run d 171 12 [a0, a1, a2] [.int x] M 0 0 Z ↔ (x = 0 → Run d 171 25 [a0, a1, a2] [] M 0 0 Z) ∧ (¬ (x = 0) → Run d 171 15 [a0, a1, a2] [] M 0 0 Z) := R_if (gd171 dX9_shows_12) (show gTgt 12 13 = some 25 by decide) gIf_eq
theorem z171_15 : Run d 171 15 [some (.ref o), a1, a2] [] M 0 0 Z ↔ Run d 171 16 [some (.ref o), a1, a2] [.ref o] M 0 0 Z := R_local (gd171 dX9_shows_15) rfl rfl rfl
theorem z171_16 : Run d 171 16 [a0, some (.int x), a2] [s0] M 0 0 Z ↔ Run d 171 17 [a0, some (.int x), a2] [.int x, s0] M 0 0 Z := R_local (gd171 dX9_shows_16) rfl rfl rfl
theorem z171_17 : Run d 171 17 [a0, a1, some (.int x)] [s1, s0] M 0 0 Z ↔ Run d 171 18 [a0, a1, some (.int x)] [.int x, s1, s0] M 0 0 Z := R_local (gd171 dX9_shows_17) rfl rfl rfl
theorem z171_18 : Run d 171 18 [a0, a1, a2] [s2, s1, s0] M 0 0 Z ↔ Run d 171 19 [a0, a1, a2] [.int 1, s2, s1, s0] M 0 0 Z := R_iconst (gd171 dX9_shows_18) (by decide)
theorem z171_19 : Run d 171 19 [a0, a1, a2] [s3, s2, s1, .ref b] M 0 0 Z ↔ gObj M b 9 ∧ Call d 170 [.ref b, s1, s2, s3] M (fun r M1 => Run d 171 22 [a0, a1, a2] (r.toList ++ []) M1 0 0 Z) := R_callV (gd171 dX9_shows_19) rfl rfl rfl rfl rfl rfl gc_9_362 rfl rfl (Nat.le_of_ble_eq_true rfl) (Nat.le_of_ble_eq_true rfl) rfl rfl (Nat.le_of_ble_eq_true rfl) (Nat.le_of_ble_eq_true rfl)
theorem z171_22 : Run d 171 22 [a0, a1, a2] [s0] M 0 0 Z ↔ Run d 171 26 [a0, a1, a2] [s0] M 0 0 Z := R_goto (gd171 dX9_shows_22) (show gTgt 22 4 = some 26 by decide)
theorem z171_25 : Run d 171 25 [a0, a1, a2] [] M 0 0 Z ↔ Run d 171 26 [a0, a1, a2] [.int (-1)] M 0 0 Z := R_iconst (gd171 dX9_shows_25) (by decide)
theorem z171_26 : Run d 171 26 [a0, a1, a2] [.int x] M 0 0 Z ↔ Z (some (.int x)) M := R_iret (gd171 dX9_shows_26) rfl
theorem e171 : Call (d + 1) 171 [s0, s1, s2] M Z ↔ Run d 171 0 [some s0, some s1, some s2] [] M 0 0 Z := Call_iff (Nat.lt_of_lt_of_le (Nat.lt_succ_self 171) (Nat.le_of_ble_eq_true rfl)) (Nat.le_of_ble_eq_true rfl)
/-! 172: X9_layers (II)I -/
theorem gd172 {pc : Nat} {r : Except _ _} (h : decode cX9_layers pc = r) : decode (gby 172) pc = r := h
theorem z172_0 : Run d 172 0 [some (.ref o), a1, a2, a3, a4] [] M 0 0 Z ↔ Run d 172 1 [some (.ref o), a1, a2, a3, a4] [.ref o] M 0 0 Z := R_local (gd172 dX9_layers_0) rfl rfl rfl
theorem z172_1 : Run d 172 1 [a0, a1, a2, a3, a4] [.ref o] M 0 0 Z ↔ gObj M o 9 ∧ Run d 172 4 [a0, a1, a2, a3, a4] [.int (M.1 o 51)] M 0 0 Z := R_getI (gd172 dX9_layers_1) rfl gf_9_339 rfl
theorem z172_4 : Run d 172 4 [a0, a1, a2, a3, a4] [.int x] M 0 0 Z ↔ (x = 0 → Run d 172 15 [a0, a1, a2, a3, a4] [] M 0 0 Z) ∧ (¬ (x = 0) → Run d 172 7 [a0, a1, a2, a3, a4] [] M 0 0 Z) := R_if (gd172 dX9_layers_4) (show gTgt 4 11 = some 15 by decide) gIf_eq
theorem z172_7 : Run d 172 7 [a0, some (.int x), a2, a3, a4] [] M 0 0 Z ↔ Run d 172 8 [a0, some (.int x), a2, a3, a4] [.int x] M 0 0 Z := R_local (gd172 dX9_layers_7) rfl rfl rfl
theorem z172_8 : Run d 172 8 [a0, a1, some (.int x), a3, a4] [s0] M 0 0 Z ↔ Run d 172 9 [a0, a1, some (.int x), a3, a4] [.int x, s0] M 0 0 Z := R_local (gd172 dX9_layers_8) rfl rfl rfl
theorem z172_9 : Run d 172 9 [a0, a1, a2, a3, a4] [s1, s0] M 0 0 Z ↔ Call d 168 [s0, s1] M (fun r M1 => Run d 172 12 [a0, a1, a2, a3, a4] (r.toList ++ []) M1 0 0 Z) := R_call (gd172 dX9_layers_9) rfl rfl rfl rfl rfl rfl gc_9_358 rfl (by decide) (Nat.le_of_ble_eq_true rfl) (Nat.le_of_ble_eq_true rfl) rfl rfl rfl (Nat.le_of_ble_eq_true rfl) (Nat.le_of_ble_eq_true rfl)
theorem z172_12 : Run d 172 12 [a0, a1, a2, a3, a4] [.int x] M 0 0 Z ↔ (¬ x = 0 → Run d 172 17 [a0, a1, a2, a3, a4] [] M 0 0 Z) ∧ (¬ (¬ x = 0) → Run d 172 15 [a0, a1, a2, a3, a4] [] M 0 0 Z) := R_if (gd172 dX9_layers_12) (show gTgt 12 5 = some 17 by decide) gIf_ne
theorem z172_15 : Run d 172 15 [a0, a1, a2, a3, a4] [] M 0 0 Z ↔ Run d 172 16 [a0, a1, a2, a3, a4] [.int (-1)] M 0 0 Z := R_iconst (gd172 dX9_layers_15) (by decide)
theorem z172_16 : Run d 172 16 [a0, a1, a2, a3, a4] [.int x] M 0 0 Z ↔ Z (some (.int x)) M := R_iret (gd172 dX9_layers_16) rfl
theorem z172_17 : Run d 172 17 [a0, a1, a2, a3, a4] [] M 0 0 Z ↔ Run d 172 18 [a0, a1, a2, a3, a4] [.int 0] M 0 0 Z := R_iconst (gd172 dX9_layers_17) (by decide)
theorem z172_18 : Run d 172 18 [a0, a1, a2, a3, a4] [.int x] M 0 0 Z ↔ Run d 172 19 [a0, a1, a2, some (.int x), a4] [] M 0 0 Z := R_local (gd172 dX9_layers_18) rfl rfl rfl
theorem z172_19 : Run d 172 19 [a0, a1, a2, a3, a4] [] M 0 0 Z ↔ Run d 172 20 [a0, a1, a2, a3, a4] [.int 0] M 0 0 Z := R_iconst (gd172 dX9_layers_19) (by decide)
theorem z172_20 : Run d 172 20 [a0, a1, a2, a3, a4] [.int x] M 0 0 Z ↔ Run d 172 22 [a0, a1, a2, a3, some (.int x)] [] M 0 0 Z := R_local (gd172 dX9_layers_20) rfl rfl rfl
theorem z172_22 : Run d 172 22 [a0, a1, a2, a3, some (.int x)] [] M 0 0 Z ↔ Run d 172 24 [a0, a1, a2, a3, some (.int x)] [.int x] M 0 0 Z := R_local (gd172 dX9_layers_22) rfl rfl rfl
theorem z172_24 : Run d 172 24 [some (.ref o), a1, a2, a3, a4] [s0] M 0 0 Z ↔ Run d 172 25 [some (.ref o), a1, a2, a3, a4] [.ref o, s0] M 0 0 Z := R_local (gd172 dX9_layers_24) rfl rfl rfl
theorem z172_25 : Run d 172 25 [a0, a1, a2, a3, a4] [.ref o, s0] M 0 0 Z ↔ gObj M o 9 ∧ Run d 172 28 [a0, a1, a2, a3, a4] [va_rf (M.2.1 o 27), s0] M 0 0 Z := R_getR (gd172 dX9_layers_25) rfl gf_9_68 rfl
theorem z172_28 : Run d 172 28 [a0, a1, a2, a3, a4] [s1, s0] M 0 0 Z ↔ Run d 172 29 [a0, a1, a2, a3, a4] [.int 0, s1, s0] M 0 0 Z := R_iconst (gd172 dX9_layers_28) (by decide)
theorem z172_29 : Run d 172 29 [a0, a1, a2, a3, a4] [.int x, .ref o, s0] M 0 0 Z ↔ gAr M o 0 ∧ gIn x (gLen M o) = true ∧ Run d 172 30 [a0, a1, a2, a3, a4] [.int (M.1 o x.toNatClampNeg), s0] M 0 0 Z := R_iald (gd172 dX9_layers_29)
theorem z172_30 : Run d 172 30 [a0, a1, a2, a3, a4] [.int y, .int x] M 0 0 Z ↔ (y ≤ x → Run d 172 58 [a0, a1, a2, a3, a4] [] M 0 0 Z) ∧ (¬ (y ≤ x) → Run d 172 33 [a0, a1, a2, a3, a4] [] M 0 0 Z) := R_icmp (gd172 dX9_layers_30) (show gTgt 30 28 = some 58 by decide) gIf_ge
theorem z172_33 : Run d 172 33 [a0, a1, a2, some (.int x), a4] [] M 0 0 Z ↔ Run d 172 34 [a0, a1, a2, some (.int x), a4] [.int x] M 0 0 Z := R_local (gd172 dX9_layers_33) rfl rfl rfl
theorem z172_34 : Run d 172 34 [some (.ref o), a1, a2, a3, a4] [s0] M 0 0 Z ↔ Run d 172 35 [some (.ref o), a1, a2, a3, a4] [.ref o, s0] M 0 0 Z := R_local (gd172 dX9_layers_34) rfl rfl rfl
theorem z172_35 : Run d 172 35 [a0, a1, a2, a3, some (.int x)] [s1, s0] M 0 0 Z ↔ Run d 172 37 [a0, a1, a2, a3, some (.int x)] [.int x, s1, s0] M 0 0 Z := R_local (gd172 dX9_layers_35) rfl rfl rfl
theorem z172_37 : Run d 172 37 [a0, some (.int x), a2, a3, a4] [s2, s1, s0] M 0 0 Z ↔ Run d 172 38 [a0, some (.int x), a2, a3, a4] [.int x, s2, s1, s0] M 0 0 Z := R_local (gd172 dX9_layers_37) rfl rfl rfl
theorem z172_38 : Run d 172 38 [a0, a1, some (.int x), a3, a4] [s3, s2, s1, s0] M 0 0 Z ↔ Run d 172 39 [a0, a1, some (.int x), a3, a4] [.int x, s3, s2, s1, s0] M 0 0 Z := R_local (gd172 dX9_layers_38) rfl rfl rfl
theorem z172_39 : Run d 172 39 [a0, a1, a2, a3, a4] [s4, s3, s2, .ref b, s0] M 0 0 Z ↔ gObj M b 9 ∧ Call d 169 [.ref b, s2, s3, s4] M (fun r M1 => Run d 172 42 [a0, a1, a2, a3, a4] (r.toList ++ [s0]) M1 0 0 Z) := R_callV (gd172 dX9_layers_39) rfl rfl rfl rfl rfl rfl gc_9_351 rfl rfl (Nat.le_of_ble_eq_true rfl) (Nat.le_of_ble_eq_true rfl) rfl rfl (Nat.le_of_ble_eq_true rfl) (Nat.le_of_ble_eq_true rfl)
theorem z172_42 : Run d 172 42 [a0, a1, a2, a3, a4] [.int x, s0] M 0 0 Z ↔ (x = 0 → Run d 172 49 [a0, a1, a2, a3, a4] [s0] M 0 0 Z) ∧ (¬ (x = 0) → Run d 172 45 [a0, a1, a2, a3, a4] [s0] M 0 0 Z) := R_if (gd172 dX9_layers_42) (show gTgt 42 7 = some 49 by decide) gIf_eq
theorem z172_45 : Run d 172 45 [a0, a1, a2, a3, a4] [s0] M 0 0 Z ↔ Run d 172 46 [a0, a1, a2, a3, a4] [.int 1, s0] M 0 0 Z := R_iconst (gd172 dX9_layers_45) (by decide)
theorem z172_46 : Run d 172 46 [a0, a1, a2, a3, a4] [s1, s0] M 0 0 Z ↔ Run d 172 50 [a0, a1, a2, a3, a4] [s1, s0] M 0 0 Z := R_goto (gd172 dX9_layers_46) (show gTgt 46 4 = some 50 by decide)
theorem z172_49 : Run d 172 49 [a0, a1, a2, a3, a4] [s0] M 0 0 Z ↔ Run d 172 50 [a0, a1, a2, a3, a4] [.int 0, s0] M 0 0 Z := R_iconst (gd172 dX9_layers_49) (by decide)
theorem z172_50 : Run d 172 50 [a0, a1, a2, a3, a4] [.int y, .int x] M 0 0 Z ↔ Run d 172 51 [a0, a1, a2, a3, a4] [.int (x + y)] M 0 0 Z := R_arith (gd172 dX9_layers_50) rfl
theorem z172_51 : Run d 172 51 [a0, a1, a2, a3, a4] [.int x] M 0 0 Z ↔ Run d 172 52 [a0, a1, a2, some (.int x), a4] [] M 0 0 Z := R_local (gd172 dX9_layers_51) rfl rfl rfl
theorem z172_52 : Run d 172 52 [a0, a1, a2, a3, some (.int x)] [] M 0 0 Z ↔ Run d 172 55 [a0, a1, a2, a3, some (.int (x + 1))] [] M 0 0 Z := R_iinc (gd172 dX9_layers_52) (by decide) rfl rfl
theorem z172_55 : Run d 172 55 [a0, a1, a2, a3, a4] [] M 0 0 Z ↔ Run d 172 22 [a0, a1, a2, a3, a4] [] M 0 0 Z := R_goto (gd172 dX9_layers_55) (show gTgt 55 (-33) = some 22 by decide)
theorem z172_58 : Run d 172 58 [a0, a1, a2, some (.int x), a4] [] M 0 0 Z ↔ Run d 172 59 [a0, a1, a2, some (.int x), a4] [.int x] M 0 0 Z := R_local (gd172 dX9_layers_58) rfl rfl rfl
theorem z172_59 : Run d 172 59 [a0, a1, a2, a3, a4] [.int x] M 0 0 Z ↔ Z (some (.int x)) M := R_iret (gd172 dX9_layers_59) rfl
theorem e172 : Call (d + 1) 172 [s0, s1, s2] M Z ↔ Run d 172 0 [some s0, some s1, some s2, none, none] [] M 0 0 Z := Call_iff (Nat.lt_of_lt_of_le (Nat.lt_succ_self 172) (Nat.le_of_ble_eq_true rfl)) (Nat.le_of_ble_eq_true rfl)
/-! 173: X9_layer (II)I -/
theorem gd173 {pc : Nat} {r : Except _ _} (h : decode cX9_layer pc = r) : decode (gby 173) pc = r := h
theorem z173_0 : Run d 173 0 [some (.ref o), a1, a2] [] M 0 0 Z ↔ Run d 173 1 [some (.ref o), a1, a2] [.ref o] M 0 0 Z := R_local (gd173 dX9_layer_0) rfl rfl rfl
theorem z173_1 : Run d 173 1 [a0, a1, a2] [.ref o] M 0 0 Z ↔ gObj M o 9 ∧ Run d 173 4 [a0, a1, a2] [.int (M.1 o 51)] M 0 0 Z := R_getI (gd173 dX9_layer_1) rfl gf_9_339 rfl
theorem z173_4 : Run d 173 4 [a0, a1, a2] [.int x] M 0 0 Z ↔ (x = 0 → Run d 173 23 [a0, a1, a2] [] M 0 0 Z) ∧ (¬ (x = 0) → Run d 173 7 [a0, a1, a2] [] M 0 0 Z) := R_if (gd173 dX9_layer_4) (show gTgt 4 19 = some 23 by decide) gIf_eq
theorem z173_7 : Run d 173 7 [a0, some (.int x), a2] [] M 0 0 Z ↔ Run d 173 8 [a0, some (.int x), a2] [.int x] M 0 0 Z := R_local (gd173 dX9_layer_7) rfl rfl rfl
theorem z173_8 : Run d 173 8 [a0, a1, a2] [s0] M 0 0 Z ↔ Run d 173 9 [a0, a1, a2] [.int 0, s0] M 0 0 Z := R_iconst (gd173 dX9_layer_8) (by decide)
theorem z173_9 : Run d 173 9 [some (.ref o), a1, a2] [s1, s0] M 0 0 Z ↔ Run d 173 10 [some (.ref o), a1, a2] [.ref o, s1, s0] M 0 0 Z := R_local (gd173 dX9_layer_9) rfl rfl rfl
theorem z173_10 : Run d 173 10 [a0, a1, a2] [.ref o, s1, s0] M 0 0 Z ↔ gObj M o 9 ∧ Run d 173 13 [a0, a1, a2] [va_rf (M.2.1 o 27), s1, s0] M 0 0 Z := R_getR (gd173 dX9_layer_10) rfl gf_9_68 rfl
theorem z173_13 : Run d 173 13 [a0, a1, a2] [s2, s1, s0] M 0 0 Z ↔ Run d 173 14 [a0, a1, a2] [.int 0, s2, s1, s0] M 0 0 Z := R_iconst (gd173 dX9_layer_13) (by decide)
theorem z173_14 : Run d 173 14 [a0, a1, a2] [.int x, .ref o, s1, s0] M 0 0 Z ↔ gAr M o 0 ∧ gIn x (gLen M o) = true ∧ Run d 173 15 [a0, a1, a2] [.int (M.1 o x.toNatClampNeg), s1, s0] M 0 0 Z := R_iald (gd173 dX9_layer_14)
theorem z173_15 : Run d 173 15 [a0, a1, a2] [s2, s1, s0] M 0 0 Z ↔ Run d 173 16 [a0, a1, a2] [.int 1, s2, s1, s0] M 0 0 Z := R_iconst (gd173 dX9_layer_15) (by decide)
theorem z173_16 : Run d 173 16 [a0, a1, a2] [.int y, .int x, s1, s0] M 0 0 Z ↔ Run d 173 17 [a0, a1, a2] [.int (x - y), s1, s0] M 0 0 Z := R_arith (gd173 dX9_layer_16) rfl
theorem z173_17 : Run d 173 17 [a0, a1, a2] [s2, s1, s0] M 0 0 Z ↔ Call d 120 [s0, s1, s2] M (fun r M1 => Run d 173 20 [a0, a1, a2] (r.toList ++ []) M1 0 0 Z) := R_call (gd173 dX9_layer_17) rfl rfl rfl rfl rfl rfl gc_9_157 rfl (by decide) (Nat.le_of_ble_eq_true rfl) (Nat.le_of_ble_eq_true rfl) rfl rfl rfl (Nat.le_of_ble_eq_true rfl) (Nat.le_of_ble_eq_true rfl)
theorem z173_20 : Run d 173 20 [a0, a1, a2] [.int x] M 0 0 Z ↔ (¬ x = 0 → Run d 173 25 [a0, a1, a2] [] M 0 0 Z) ∧ (¬ (¬ x = 0) → Run d 173 23 [a0, a1, a2] [] M 0 0 Z) := R_if (gd173 dX9_layer_20) (show gTgt 20 5 = some 25 by decide) gIf_ne
theorem z173_23 : Run d 173 23 [a0, a1, a2] [] M 0 0 Z ↔ Run d 173 24 [a0, a1, a2] [.int (-1)] M 0 0 Z := R_iconst (gd173 dX9_layer_23) (by decide)
theorem z173_24 : Run d 173 24 [a0, a1, a2] [.int x] M 0 0 Z ↔ Z (some (.int x)) M := R_iret (gd173 dX9_layer_24) rfl
theorem z173_25 : Run d 173 25 [a0, a1, some (.int x)] [] M 0 0 Z ↔ Run d 173 26 [a0, a1, some (.int x)] [.int x] M 0 0 Z := R_local (gd173 dX9_layer_25) rfl rfl rfl
theorem z173_26 : Run d 173 26 [a0, a1, a2] [.int x] M 0 0 Z ↔ (x = 0 → Run d 173 68 [a0, a1, a2] [] M 0 0 Z) ∧ (¬ x = 0 → ((x = 1 → Run d 173 75 [a0, a1, a2] [] M 0 0 Z) ∧ (¬ x = 1 → ((x = 2 → Run d 173 82 [a0, a1, a2] [] M 0 0 Z) ∧ (¬ x = 2 → ((x = 3 → Run d 173 89 [a0, a1, a2] [] M 0 0 Z) ∧ (¬ x = 3 → ((x = 4 → Run d 173 96 [a0, a1, a2] [] M 0 0 Z) ∧ (¬ x = 4 → ((x = 5 → Run d 173 103 [a0, a1, a2] [] M 0 0 Z) ∧ (¬ x = 5 → ((x = 6 → Run d 173 110 [a0, a1, a2] [] M 0 0 Z) ∧ (¬ x = 6 → (Run d 173 117 [a0, a1, a2] [] M 0 0 Z)))))))))))))) := R_table (tbl := [(0, 68), (1, 75), (2, 82), (3, 89), (4, 96), (5, 103), (6, 110)]) (dt := 117) (gd173 dX9_layer_26) (by decide) (by decide) (by decide)
theorem z173_68 : Run d 173 68 [some (.ref o), a1, a2] [] M 0 0 Z ↔ Run d 173 69 [some (.ref o), a1, a2] [.ref o] M 0 0 Z := R_local (gd173 dX9_layer_68) rfl rfl rfl
theorem z173_69 : Run d 173 69 [a0, a1, a2] [.ref o] M 0 0 Z ↔ gObj M o 9 ∧ Run d 173 72 [a0, a1, a2] [va_rf (M.2.1 o 17)] M 0 0 Z := R_getR (gd173 dX9_layer_69) rfl gf_9_38 rfl
theorem z173_72 : Run d 173 72 [a0, some (.int x), a2] [s0] M 0 0 Z ↔ Run d 173 73 [a0, some (.int x), a2] [.int x, s0] M 0 0 Z := R_local (gd173 dX9_layer_72) rfl rfl rfl
theorem z173_73 : Run d 173 73 [a0, a1, a2] [.int x, .ref o] M 0 0 Z ↔ gAr M o 0 ∧ gIn x (gLen M o) = true ∧ Run d 173 74 [a0, a1, a2] [.int (M.1 o x.toNatClampNeg)] M 0 0 Z := R_iald (gd173 dX9_layer_73)
theorem z173_74 : Run d 173 74 [a0, a1, a2] [.int x] M 0 0 Z ↔ Z (some (.int x)) M := R_iret (gd173 dX9_layer_74) rfl
theorem z173_75 : Run d 173 75 [some (.ref o), a1, a2] [] M 0 0 Z ↔ Run d 173 76 [some (.ref o), a1, a2] [.ref o] M 0 0 Z := R_local (gd173 dX9_layer_75) rfl rfl rfl
theorem z173_76 : Run d 173 76 [a0, a1, a2] [.ref o] M 0 0 Z ↔ gObj M o 9 ∧ Run d 173 79 [a0, a1, a2] [va_rf (M.2.1 o 18)] M 0 0 Z := R_getR (gd173 dX9_layer_76) rfl gf_9_41 rfl
theorem z173_79 : Run d 173 79 [a0, some (.int x), a2] [s0] M 0 0 Z ↔ Run d 173 80 [a0, some (.int x), a2] [.int x, s0] M 0 0 Z := R_local (gd173 dX9_layer_79) rfl rfl rfl
theorem z173_80 : Run d 173 80 [a0, a1, a2] [.int x, .ref o] M 0 0 Z ↔ gAr M o 0 ∧ gIn x (gLen M o) = true ∧ Run d 173 81 [a0, a1, a2] [.int (M.1 o x.toNatClampNeg)] M 0 0 Z := R_iald (gd173 dX9_layer_80)
theorem z173_81 : Run d 173 81 [a0, a1, a2] [.int x] M 0 0 Z ↔ Z (some (.int x)) M := R_iret (gd173 dX9_layer_81) rfl
theorem z173_82 : Run d 173 82 [some (.ref o), a1, a2] [] M 0 0 Z ↔ Run d 173 83 [some (.ref o), a1, a2] [.ref o] M 0 0 Z := R_local (gd173 dX9_layer_82) rfl rfl rfl
theorem z173_83 : Run d 173 83 [a0, a1, a2] [.ref o] M 0 0 Z ↔ gObj M o 9 ∧ Run d 173 86 [a0, a1, a2] [va_rf (M.2.1 o 19)] M 0 0 Z := R_getR (gd173 dX9_layer_83) rfl gf_9_44 rfl
theorem z173_86 : Run d 173 86 [a0, some (.int x), a2] [s0] M 0 0 Z ↔ Run d 173 87 [a0, some (.int x), a2] [.int x, s0] M 0 0 Z := R_local (gd173 dX9_layer_86) rfl rfl rfl
theorem z173_87 : Run d 173 87 [a0, a1, a2] [.int x, .ref o] M 0 0 Z ↔ gAr M o 0 ∧ gIn x (gLen M o) = true ∧ Run d 173 88 [a0, a1, a2] [.int (M.1 o x.toNatClampNeg)] M 0 0 Z := R_iald (gd173 dX9_layer_87)
theorem z173_88 : Run d 173 88 [a0, a1, a2] [.int x] M 0 0 Z ↔ Z (some (.int x)) M := R_iret (gd173 dX9_layer_88) rfl
theorem z173_89 : Run d 173 89 [some (.ref o), a1, a2] [] M 0 0 Z ↔ Run d 173 90 [some (.ref o), a1, a2] [.ref o] M 0 0 Z := R_local (gd173 dX9_layer_89) rfl rfl rfl
theorem z173_90 : Run d 173 90 [a0, a1, a2] [.ref o] M 0 0 Z ↔ gObj M o 9 ∧ Run d 173 93 [a0, a1, a2] [va_rf (M.2.1 o 20)] M 0 0 Z := R_getR (gd173 dX9_layer_90) rfl gf_9_47 rfl
theorem z173_93 : Run d 173 93 [a0, some (.int x), a2] [s0] M 0 0 Z ↔ Run d 173 94 [a0, some (.int x), a2] [.int x, s0] M 0 0 Z := R_local (gd173 dX9_layer_93) rfl rfl rfl
theorem z173_94 : Run d 173 94 [a0, a1, a2] [.int x, .ref o] M 0 0 Z ↔ gAr M o 0 ∧ gIn x (gLen M o) = true ∧ Run d 173 95 [a0, a1, a2] [.int (M.1 o x.toNatClampNeg)] M 0 0 Z := R_iald (gd173 dX9_layer_94)
theorem z173_95 : Run d 173 95 [a0, a1, a2] [.int x] M 0 0 Z ↔ Z (some (.int x)) M := R_iret (gd173 dX9_layer_95) rfl
theorem z173_96 : Run d 173 96 [some (.ref o), a1, a2] [] M 0 0 Z ↔ Run d 173 97 [some (.ref o), a1, a2] [.ref o] M 0 0 Z := R_local (gd173 dX9_layer_96) rfl rfl rfl
theorem z173_97 : Run d 173 97 [a0, a1, a2] [.ref o] M 0 0 Z ↔ gObj M o 9 ∧ Run d 173 100 [a0, a1, a2] [va_rf (M.2.1 o 21)] M 0 0 Z := R_getR (gd173 dX9_layer_97) rfl gf_9_50 rfl
theorem z173_100 : Run d 173 100 [a0, some (.int x), a2] [s0] M 0 0 Z ↔ Run d 173 101 [a0, some (.int x), a2] [.int x, s0] M 0 0 Z := R_local (gd173 dX9_layer_100) rfl rfl rfl
theorem z173_101 : Run d 173 101 [a0, a1, a2] [.int x, .ref o] M 0 0 Z ↔ gAr M o 0 ∧ gIn x (gLen M o) = true ∧ Run d 173 102 [a0, a1, a2] [.int (M.1 o x.toNatClampNeg)] M 0 0 Z := R_iald (gd173 dX9_layer_101)
theorem z173_102 : Run d 173 102 [a0, a1, a2] [.int x] M 0 0 Z ↔ Z (some (.int x)) M := R_iret (gd173 dX9_layer_102) rfl
theorem z173_103 : Run d 173 103 [some (.ref o), a1, a2] [] M 0 0 Z ↔ Run d 173 104 [some (.ref o), a1, a2] [.ref o] M 0 0 Z := R_local (gd173 dX9_layer_103) rfl rfl rfl
theorem z173_104 : Run d 173 104 [a0, a1, a2] [.ref o] M 0 0 Z ↔ gObj M o 9 ∧ Run d 173 107 [a0, a1, a2] [va_rf (M.2.1 o 22)] M 0 0 Z := R_getR (gd173 dX9_layer_104) rfl gf_9_53 rfl
theorem z173_107 : Run d 173 107 [a0, some (.int x), a2] [s0] M 0 0 Z ↔ Run d 173 108 [a0, some (.int x), a2] [.int x, s0] M 0 0 Z := R_local (gd173 dX9_layer_107) rfl rfl rfl
theorem z173_108 : Run d 173 108 [a0, a1, a2] [.int x, .ref o] M 0 0 Z ↔ gAr M o 0 ∧ gIn x (gLen M o) = true ∧ Run d 173 109 [a0, a1, a2] [.int (M.1 o x.toNatClampNeg)] M 0 0 Z := R_iald (gd173 dX9_layer_108)
theorem z173_109 : Run d 173 109 [a0, a1, a2] [.int x] M 0 0 Z ↔ Z (some (.int x)) M := R_iret (gd173 dX9_layer_109) rfl
theorem z173_110 : Run d 173 110 [some (.ref o), a1, a2] [] M 0 0 Z ↔ Run d 173 111 [some (.ref o), a1, a2] [.ref o] M 0 0 Z := R_local (gd173 dX9_layer_110) rfl rfl rfl
theorem z173_111 : Run d 173 111 [a0, a1, a2] [.ref o] M 0 0 Z ↔ gObj M o 9 ∧ Run d 173 114 [a0, a1, a2] [va_rf (M.2.1 o 23)] M 0 0 Z := R_getR (gd173 dX9_layer_111) rfl gf_9_56 rfl
theorem z173_114 : Run d 173 114 [a0, some (.int x), a2] [s0] M 0 0 Z ↔ Run d 173 115 [a0, some (.int x), a2] [.int x, s0] M 0 0 Z := R_local (gd173 dX9_layer_114) rfl rfl rfl
theorem z173_115 : Run d 173 115 [a0, a1, a2] [.int x, .ref o] M 0 0 Z ↔ gAr M o 0 ∧ gIn x (gLen M o) = true ∧ Run d 173 116 [a0, a1, a2] [.int (M.1 o x.toNatClampNeg)] M 0 0 Z := R_iald (gd173 dX9_layer_115)
theorem z173_116 : Run d 173 116 [a0, a1, a2] [.int x] M 0 0 Z ↔ Z (some (.int x)) M := R_iret (gd173 dX9_layer_116) rfl
theorem z173_117 : Run d 173 117 [a0, a1, a2] [] M 0 0 Z ↔ Run d 173 118 [a0, a1, a2] [.int (-1)] M 0 0 Z := R_iconst (gd173 dX9_layer_117) (by decide)
theorem z173_118 : Run d 173 118 [a0, a1, a2] [.int x] M 0 0 Z ↔ Z (some (.int x)) M := R_iret (gd173 dX9_layer_118) rfl
theorem e173 : Call (d + 1) 173 [s0, s1, s2] M Z ↔ Run d 173 0 [some s0, some s1, some s2] [] M 0 0 Z := Call_iff (Nat.lt_of_lt_of_le (Nat.lt_succ_self 173) (Nat.le_of_ble_eq_true rfl)) (Nat.le_of_ble_eq_true rfl)
/-! 174: X9_allPins ()I -/
theorem gd174 {pc : Nat} {r : Except _ _} (h : decode cX9_allPins pc = r) : decode (gby 174) pc = r := h
theorem z174_0 : Run d 174 0 [a0, a1, a2] [] M 0 0 Z ↔ Run d 174 1 [a0, a1, a2] [.int 0] M 0 0 Z := R_iconst (gd174 dX9_allPins_0) (by decide)
theorem z174_1 : Run d 174 1 [a0, a1, a2] [.int x] M 0 0 Z ↔ Run d 174 2 [a0, some (.int x), a2] [] M 0 0 Z := R_local (gd174 dX9_allPins_1) rfl rfl rfl
theorem z174_2 : Run d 174 2 [a0, a1, a2] [] M 0 0 Z ↔ Run d 174 3 [a0, a1, a2] [.int 0] M 0 0 Z := R_iconst (gd174 dX9_allPins_2) (by decide)
theorem z174_3 : Run d 174 3 [a0, a1, a2] [.int x] M 0 0 Z ↔ Run d 174 4 [a0, a1, some (.int x)] [] M 0 0 Z := R_local (gd174 dX9_allPins_3) rfl rfl rfl
theorem z174_4 : Run d 174 4 [a0, a1, some (.int x)] [] M 0 0 Z ↔ Run d 174 5 [a0, a1, some (.int x)] [.int x] M 0 0 Z := R_local (gd174 dX9_allPins_4) rfl rfl rfl
theorem z174_5 : Run d 174 5 [some (.ref o), a1, a2] [s0] M 0 0 Z ↔ Run d 174 6 [some (.ref o), a1, a2] [.ref o, s0] M 0 0 Z := R_local (gd174 dX9_allPins_5) rfl rfl rfl
theorem z174_6 : Run d 174 6 [a0, a1, a2] [.ref o, s0] M 0 0 Z ↔ gObj M o 9 ∧ Run d 174 9 [a0, a1, a2] [va_rf (M.2.1 o 26), s0] M 0 0 Z := R_getR (gd174 dX9_allPins_6) rfl gf_9_65 rfl
theorem z174_9 : Run d 174 9 [a0, a1, a2] [s1, s0] M 0 0 Z ↔ Run d 174 10 [a0, a1, a2] [.int 0, s1, s0] M 0 0 Z := R_iconst (gd174 dX9_allPins_9) (by decide)
theorem z174_10 : Run d 174 10 [a0, a1, a2] [.int x, .ref o, s0] M 0 0 Z ↔ gAr M o 0 ∧ gIn x (gLen M o) = true ∧ Run d 174 11 [a0, a1, a2] [.int (M.1 o x.toNatClampNeg), s0] M 0 0 Z := R_iald (gd174 dX9_allPins_10)
theorem z174_11 : Run d 174 11 [a0, a1, a2] [.int y, .int x] M 0 0 Z ↔ (y ≤ x → Run d 174 29 [a0, a1, a2] [] M 0 0 Z) ∧ (¬ (y ≤ x) → Run d 174 14 [a0, a1, a2] [] M 0 0 Z) := R_icmp (gd174 dX9_allPins_11) (show gTgt 11 18 = some 29 by decide) gIf_ge
theorem z174_14 : Run d 174 14 [a0, some (.int x), a2] [] M 0 0 Z ↔ Run d 174 15 [a0, some (.int x), a2] [.int x] M 0 0 Z := R_local (gd174 dX9_allPins_14) rfl rfl rfl
theorem z174_15 : Run d 174 15 [some (.ref o), a1, a2] [s0] M 0 0 Z ↔ Run d 174 16 [some (.ref o), a1, a2] [.ref o, s0] M 0 0 Z := R_local (gd174 dX9_allPins_15) rfl rfl rfl
theorem z174_16 : Run d 174 16 [a0, a1, a2] [.ref o, s0] M 0 0 Z ↔ gObj M o 9 ∧ Run d 174 19 [a0, a1, a2] [va_rf (M.2.1 o 24), s0] M 0 0 Z := R_getR (gd174 dX9_allPins_16) rfl gf_9_59 rfl
theorem z174_19 : Run d 174 19 [a0, a1, some (.int x)] [s1, s0] M 0 0 Z ↔ Run d 174 20 [a0, a1, some (.int x)] [.int x, s1, s0] M 0 0 Z := R_local (gd174 dX9_allPins_19) rfl rfl rfl
theorem z174_20 : Run d 174 20 [a0, a1, a2] [.int x, .ref o, s0] M 0 0 Z ↔ gAr M o 0 ∧ gIn x (gLen M o) = true ∧ Run d 174 21 [a0, a1, a2] [.int (M.1 o x.toNatClampNeg), s0] M 0 0 Z := R_iald (gd174 dX9_allPins_20)
theorem z174_21 : Run d 174 21 [a0, a1, a2] [.int y, .int x] M 0 0 Z ↔ Run d 174 22 [a0, a1, a2] [.int (x + y)] M 0 0 Z := R_arith (gd174 dX9_allPins_21) rfl
theorem z174_22 : Run d 174 22 [a0, a1, a2] [.int x] M 0 0 Z ↔ Run d 174 23 [a0, some (.int x), a2] [] M 0 0 Z := R_local (gd174 dX9_allPins_22) rfl rfl rfl
theorem z174_23 : Run d 174 23 [a0, a1, some (.int x)] [] M 0 0 Z ↔ Run d 174 26 [a0, a1, some (.int (x + 1))] [] M 0 0 Z := R_iinc (gd174 dX9_allPins_23) (by decide) rfl rfl
theorem z174_26 : Run d 174 26 [a0, a1, a2] [] M 0 0 Z ↔ Run d 174 4 [a0, a1, a2] [] M 0 0 Z := R_goto (gd174 dX9_allPins_26) (show gTgt 26 (-22) = some 4 by decide)
theorem z174_29 : Run d 174 29 [a0, some (.int x), a2] [] M 0 0 Z ↔ Run d 174 30 [a0, some (.int x), a2] [.int x] M 0 0 Z := R_local (gd174 dX9_allPins_29) rfl rfl rfl
theorem z174_30 : Run d 174 30 [a0, a1, a2] [.int x] M 0 0 Z ↔ Z (some (.int x)) M := R_iret (gd174 dX9_allPins_30) rfl
theorem e174 : Call (d + 1) 174 [s0] M Z ↔ Run d 174 0 [some s0, none, none] [] M 0 0 Z := Call_iff (Nat.lt_of_lt_of_le (Nat.lt_succ_self 174) (Nat.le_of_ble_eq_true rfl)) (Nat.le_of_ble_eq_true rfl)
/-! 175: X9_look (I)I -/
theorem gd175 {pc : Nat} {r : Except _ _} (h : decode cX9_look pc = r) : decode (gby 175) pc = r := h
theorem z175_0 : Run d 175 0 [some (.ref o), a1] [] M 0 0 Z ↔ Run d 175 1 [some (.ref o), a1] [.ref o] M 0 0 Z := R_local (gd175 dX9_look_0) rfl rfl rfl
theorem z175_1 : Run d 175 1 [a0, a1] [.ref o] M 0 0 Z ↔ gObj M o 9 ∧ Run d 175 4 [a0, a1] [.int (M.1 o 51)] M 0 0 Z := R_getI (gd175 dX9_look_1) rfl gf_9_339 rfl
theorem z175_4 : Run d 175 4 [a0, a1] [.int x] M 0 0 Z ↔ (¬ x = 0 → Run d 175 9 [a0, a1] [] M 0 0 Z) ∧ (¬ (¬ x = 0) → Run d 175 7 [a0, a1] [] M 0 0 Z) := R_if (gd175 dX9_look_4) (show gTgt 4 5 = some 9 by decide) gIf_ne
theorem z175_7 : Run d 175 7 [a0, a1] [] M 0 0 Z ↔ Run d 175 8 [a0, a1] [.int (-1)] M 0 0 Z := R_iconst (gd175 dX9_look_7) (by decide)
theorem z175_8 : Run d 175 8 [a0, a1] [.int x] M 0 0 Z ↔ Z (some (.int x)) M := R_iret (gd175 dX9_look_8) rfl
theorem z175_9 : Run d 175 9 [a0, some (.int x)] [] M 0 0 Z ↔ Run d 175 10 [a0, some (.int x)] [.int x] M 0 0 Z := R_local (gd175 dX9_look_9) rfl rfl rfl
theorem z175_10 : Run d 175 10 [a0, a1] [.int x] M 0 0 Z ↔ (x = 0 → Run d 175 72 [a0, a1] [] M 0 0 Z) ∧ (¬ x = 0 → ((x = 1 → Run d 175 89 [a0, a1] [] M 0 0 Z) ∧ (¬ x = 1 → ((x = 2 → Run d 175 96 [a0, a1] [] M 0 0 Z) ∧ (¬ x = 2 → ((x = 3 → Run d 175 103 [a0, a1] [] M 0 0 Z) ∧ (¬ x = 3 → ((x = 4 → Run d 175 108 [a0, a1] [] M 0 0 Z) ∧ (¬ x = 4 → ((x = 5 → Run d 175 115 [a0, a1] [] M 0 0 Z) ∧ (¬ x = 5 → ((x = 6 → Run d 175 122 [a0, a1] [] M 0 0 Z) ∧ (¬ x = 6 → ((x = 7 → Run d 175 129 [a0, a1] [] M 0 0 Z) ∧ (¬ x = 7 → ((x = 8 → Run d 175 136 [a0, a1] [] M 0 0 Z) ∧ (¬ x = 8 → ((x = 9 → Run d 175 143 [a0, a1] [] M 0 0 Z) ∧ (¬ x = 9 → ((x = 10 → Run d 175 150 [a0, a1] [] M 0 0 Z) ∧ (¬ x = 10 → ((x = 11 → Run d 175 157 [a0, a1] [] M 0 0 Z) ∧ (¬ x = 11 → (Run d 175 164 [a0, a1] [] M 0 0 Z)))))))))))))))))))))))) := R_table (tbl := [(0, 72), (1, 89), (2, 96), (3, 103), (4, 108), (5, 115), (6, 122), (7, 129), (8, 136), (9, 143), (10, 150), (11, 157)]) (dt := 164) (gd175 dX9_look_10) (by decide) (by decide) (by decide)
theorem z175_72 : Run d 175 72 [some (.ref o), a1] [] M 0 0 Z ↔ Run d 175 73 [some (.ref o), a1] [.ref o] M 0 0 Z := R_local (gd175 dX9_look_72) rfl rfl rfl
theorem z175_73 : Run d 175 73 [a0, a1] [.ref o] M 0 0 Z ↔ gObj M o 9 ∧ Run d 175 76 [a0, a1] [va_rf (M.2.1 o 6)] M 0 0 Z := R_getR (gd175 dX9_look_73) rfl gf_9_17 rfl
theorem z175_76 : Run d 175 76 [some (.ref o), a1] [s0] M 0 0 Z ↔ Run d 175 77 [some (.ref o), a1] [.ref o, s0] M 0 0 Z := R_local (gd175 dX9_look_76) rfl rfl rfl
theorem z175_77 : Run d 175 77 [a0, a1] [.ref o, s0] M 0 0 Z ↔ gObj M o 9 ∧ Run d 175 80 [a0, a1] [.int (M.1 o 53), s0] M 0 0 Z := R_getI (gd175 dX9_look_77) rfl gf_9_345 rfl
theorem z175_80 : Run d 175 80 [a0, a1] [.int x, .ref o] M 0 0 Z ↔ gAr M o 0 ∧ gIn x (gLen M o) = true ∧ Run d 175 81 [a0, a1] [.int (M.1 o x.toNatClampNeg)] M 0 0 Z := R_iald (gd175 dX9_look_80)
theorem z175_81 : Run d 175 81 [some (.ref o), a1] [s0] M 0 0 Z ↔ Run d 175 82 [some (.ref o), a1] [.ref o, s0] M 0 0 Z := R_local (gd175 dX9_look_81) rfl rfl rfl
theorem z175_82 : Run d 175 82 [a0, a1] [.ref o, s0] M 0 0 Z ↔ gObj M o 9 ∧ Run d 175 85 [a0, a1] [va_rf (M.2.1 o 25), s0] M 0 0 Z := R_getR (gd175 dX9_look_82) rfl gf_9_62 rfl
theorem z175_85 : Run d 175 85 [a0, a1] [s1, s0] M 0 0 Z ↔ Run d 175 86 [a0, a1] [.int 0, s1, s0] M 0 0 Z := R_iconst (gd175 dX9_look_85) (by decide)
theorem z175_86 : Run d 175 86 [a0, a1] [.int x, .ref o, s0] M 0 0 Z ↔ gAr M o 0 ∧ gIn x (gLen M o) = true ∧ Run d 175 87 [a0, a1] [.int (M.1 o x.toNatClampNeg), s0] M 0 0 Z := R_iald (gd175 dX9_look_86)
theorem z175_87 : Run d 175 87 [a0, a1] [.int y, .int x] M 0 0 Z ↔ Run d 175 88 [a0, a1] [.int (x - y)] M 0 0 Z := R_arith (gd175 dX9_look_87) rfl
theorem z175_88 : Run d 175 88 [a0, a1] [.int x] M 0 0 Z ↔ Z (some (.int x)) M := R_iret (gd175 dX9_look_88) rfl
theorem z175_89 : Run d 175 89 [some (.ref o), a1] [] M 0 0 Z ↔ Run d 175 90 [some (.ref o), a1] [.ref o] M 0 0 Z := R_local (gd175 dX9_look_89) rfl rfl rfl
theorem z175_90 : Run d 175 90 [a0, a1] [.ref o] M 0 0 Z ↔ gObj M o 9 ∧ Run d 175 93 [a0, a1] [va_rf (M.2.1 o 26)] M 0 0 Z := R_getR (gd175 dX9_look_90) rfl gf_9_65 rfl
theorem z175_93 : Run d 175 93 [a0, a1] [s0] M 0 0 Z ↔ Run d 175 94 [a0, a1] [.int 0, s0] M 0 0 Z := R_iconst (gd175 dX9_look_93) (by decide)
theorem z175_94 : Run d 175 94 [a0, a1] [.int x, .ref o] M 0 0 Z ↔ gAr M o 0 ∧ gIn x (gLen M o) = true ∧ Run d 175 95 [a0, a1] [.int (M.1 o x.toNatClampNeg)] M 0 0 Z := R_iald (gd175 dX9_look_94)
theorem z175_95 : Run d 175 95 [a0, a1] [.int x] M 0 0 Z ↔ Z (some (.int x)) M := R_iret (gd175 dX9_look_95) rfl
theorem z175_96 : Run d 175 96 [some (.ref o), a1] [] M 0 0 Z ↔ Run d 175 97 [some (.ref o), a1] [.ref o] M 0 0 Z := R_local (gd175 dX9_look_96) rfl rfl rfl
theorem z175_97 : Run d 175 97 [a0, a1] [.ref o] M 0 0 Z ↔ gObj M o 9 ∧ Run d 175 100 [a0, a1] [va_rf (M.2.1 o 27)] M 0 0 Z := R_getR (gd175 dX9_look_97) rfl gf_9_68 rfl
theorem z175_100 : Run d 175 100 [a0, a1] [s0] M 0 0 Z ↔ Run d 175 101 [a0, a1] [.int 0, s0] M 0 0 Z := R_iconst (gd175 dX9_look_100) (by decide)
theorem z175_101 : Run d 175 101 [a0, a1] [.int x, .ref o] M 0 0 Z ↔ gAr M o 0 ∧ gIn x (gLen M o) = true ∧ Run d 175 102 [a0, a1] [.int (M.1 o x.toNatClampNeg)] M 0 0 Z := R_iald (gd175 dX9_look_101)
theorem z175_102 : Run d 175 102 [a0, a1] [.int x] M 0 0 Z ↔ Z (some (.int x)) M := R_iret (gd175 dX9_look_102) rfl
theorem z175_103 : Run d 175 103 [some (.ref o), a1] [] M 0 0 Z ↔ Run d 175 104 [some (.ref o), a1] [.ref o] M 0 0 Z := R_local (gd175 dX9_look_103) rfl rfl rfl
theorem z175_104 : Run d 175 104 [a0, a1] [.ref b] M 0 0 Z ↔ gObj M b 9 ∧ Call d 174 [.ref b] M (fun r M1 => Run d 175 107 [a0, a1] (r.toList ++ []) M1 0 0 Z) := R_callV (gd175 dX9_look_104) rfl rfl rfl rfl rfl rfl gc_9_366 rfl rfl (Nat.le_of_ble_eq_true rfl) (Nat.le_of_ble_eq_true rfl) rfl rfl (Nat.le_of_ble_eq_true rfl) (Nat.le_of_ble_eq_true rfl)
theorem z175_107 : Run d 175 107 [a0, a1] [.int x] M 0 0 Z ↔ Z (some (.int x)) M := R_iret (gd175 dX9_look_107) rfl
theorem z175_108 : Run d 175 108 [some (.ref o), a1] [] M 0 0 Z ↔ Run d 175 109 [some (.ref o), a1] [.ref o] M 0 0 Z := R_local (gd175 dX9_look_108) rfl rfl rfl
theorem z175_109 : Run d 175 109 [a0, a1] [.ref o] M 0 0 Z ↔ gObj M o 9 ∧ Run d 175 112 [a0, a1] [va_rf (M.2.1 o 28)] M 0 0 Z := R_getR (gd175 dX9_look_109) rfl gf_9_71 rfl
theorem z175_112 : Run d 175 112 [a0, a1] [s0] M 0 0 Z ↔ Run d 175 113 [a0, a1] [.int 0, s0] M 0 0 Z := R_iconst (gd175 dX9_look_112) (by decide)
theorem z175_113 : Run d 175 113 [a0, a1] [.int x, .ref o] M 0 0 Z ↔ gAr M o 0 ∧ gIn x (gLen M o) = true ∧ Run d 175 114 [a0, a1] [.int (M.1 o x.toNatClampNeg)] M 0 0 Z := R_iald (gd175 dX9_look_113)
theorem z175_114 : Run d 175 114 [a0, a1] [.int x] M 0 0 Z ↔ Z (some (.int x)) M := R_iret (gd175 dX9_look_114) rfl
theorem z175_115 : Run d 175 115 [some (.ref o), a1] [] M 0 0 Z ↔ Run d 175 116 [some (.ref o), a1] [.ref o] M 0 0 Z := R_local (gd175 dX9_look_115) rfl rfl rfl
theorem z175_116 : Run d 175 116 [a0, a1] [.ref o] M 0 0 Z ↔ gObj M o 9 ∧ Run d 175 119 [a0, a1] [va_rf (M.2.1 o 29)] M 0 0 Z := R_getR (gd175 dX9_look_116) rfl gf_9_74 rfl
theorem z175_119 : Run d 175 119 [a0, a1] [s0] M 0 0 Z ↔ Run d 175 120 [a0, a1] [.int 0, s0] M 0 0 Z := R_iconst (gd175 dX9_look_119) (by decide)
theorem z175_120 : Run d 175 120 [a0, a1] [.int x, .ref o] M 0 0 Z ↔ gAr M o 0 ∧ gIn x (gLen M o) = true ∧ Run d 175 121 [a0, a1] [.int (M.1 o x.toNatClampNeg)] M 0 0 Z := R_iald (gd175 dX9_look_120)
theorem z175_121 : Run d 175 121 [a0, a1] [.int x] M 0 0 Z ↔ Z (some (.int x)) M := R_iret (gd175 dX9_look_121) rfl
theorem z175_122 : Run d 175 122 [some (.ref o), a1] [] M 0 0 Z ↔ Run d 175 123 [some (.ref o), a1] [.ref o] M 0 0 Z := R_local (gd175 dX9_look_122) rfl rfl rfl
theorem z175_123 : Run d 175 123 [a0, a1] [.ref o] M 0 0 Z ↔ gObj M o 9 ∧ Run d 175 126 [a0, a1] [va_rf (M.2.1 o 30)] M 0 0 Z := R_getR (gd175 dX9_look_123) rfl gf_9_77 rfl
theorem z175_126 : Run d 175 126 [a0, a1] [s0] M 0 0 Z ↔ Run d 175 127 [a0, a1] [.int 0, s0] M 0 0 Z := R_iconst (gd175 dX9_look_126) (by decide)
theorem z175_127 : Run d 175 127 [a0, a1] [.int x, .ref o] M 0 0 Z ↔ gAr M o 0 ∧ gIn x (gLen M o) = true ∧ Run d 175 128 [a0, a1] [.int (M.1 o x.toNatClampNeg)] M 0 0 Z := R_iald (gd175 dX9_look_127)
theorem z175_128 : Run d 175 128 [a0, a1] [.int x] M 0 0 Z ↔ Z (some (.int x)) M := R_iret (gd175 dX9_look_128) rfl
theorem z175_129 : Run d 175 129 [some (.ref o), a1] [] M 0 0 Z ↔ Run d 175 130 [some (.ref o), a1] [.ref o] M 0 0 Z := R_local (gd175 dX9_look_129) rfl rfl rfl
theorem z175_130 : Run d 175 130 [a0, a1] [.ref o] M 0 0 Z ↔ gObj M o 9 ∧ Run d 175 133 [a0, a1] [va_rf (M.2.1 o 31)] M 0 0 Z := R_getR (gd175 dX9_look_130) rfl gf_9_80 rfl
theorem z175_133 : Run d 175 133 [a0, a1] [s0] M 0 0 Z ↔ Run d 175 134 [a0, a1] [.int 0, s0] M 0 0 Z := R_iconst (gd175 dX9_look_133) (by decide)
theorem z175_134 : Run d 175 134 [a0, a1] [.int x, .ref o] M 0 0 Z ↔ gAr M o 0 ∧ gIn x (gLen M o) = true ∧ Run d 175 135 [a0, a1] [.int (M.1 o x.toNatClampNeg)] M 0 0 Z := R_iald (gd175 dX9_look_134)
theorem z175_135 : Run d 175 135 [a0, a1] [.int x] M 0 0 Z ↔ Z (some (.int x)) M := R_iret (gd175 dX9_look_135) rfl
theorem z175_136 : Run d 175 136 [some (.ref o), a1] [] M 0 0 Z ↔ Run d 175 137 [some (.ref o), a1] [.ref o] M 0 0 Z := R_local (gd175 dX9_look_136) rfl rfl rfl
theorem z175_137 : Run d 175 137 [a0, a1] [.ref o] M 0 0 Z ↔ gObj M o 9 ∧ Run d 175 140 [a0, a1] [va_rf (M.2.1 o 32)] M 0 0 Z := R_getR (gd175 dX9_look_137) rfl gf_9_83 rfl
theorem z175_140 : Run d 175 140 [a0, a1] [s0] M 0 0 Z ↔ Run d 175 141 [a0, a1] [.int 0, s0] M 0 0 Z := R_iconst (gd175 dX9_look_140) (by decide)
theorem z175_141 : Run d 175 141 [a0, a1] [.int x, .ref o] M 0 0 Z ↔ gAr M o 0 ∧ gIn x (gLen M o) = true ∧ Run d 175 142 [a0, a1] [.int (M.1 o x.toNatClampNeg)] M 0 0 Z := R_iald (gd175 dX9_look_141)
theorem z175_142 : Run d 175 142 [a0, a1] [.int x] M 0 0 Z ↔ Z (some (.int x)) M := R_iret (gd175 dX9_look_142) rfl
theorem z175_143 : Run d 175 143 [some (.ref o), a1] [] M 0 0 Z ↔ Run d 175 144 [some (.ref o), a1] [.ref o] M 0 0 Z := R_local (gd175 dX9_look_143) rfl rfl rfl
theorem z175_144 : Run d 175 144 [a0, a1] [.ref o] M 0 0 Z ↔ gObj M o 9 ∧ Run d 175 147 [a0, a1] [va_rf (M.2.1 o 33)] M 0 0 Z := R_getR (gd175 dX9_look_144) rfl gf_9_86 rfl
theorem z175_147 : Run d 175 147 [a0, a1] [s0] M 0 0 Z ↔ Run d 175 148 [a0, a1] [.int 0, s0] M 0 0 Z := R_iconst (gd175 dX9_look_147) (by decide)
theorem z175_148 : Run d 175 148 [a0, a1] [.int x, .ref o] M 0 0 Z ↔ gAr M o 0 ∧ gIn x (gLen M o) = true ∧ Run d 175 149 [a0, a1] [.int (M.1 o x.toNatClampNeg)] M 0 0 Z := R_iald (gd175 dX9_look_148)
theorem z175_149 : Run d 175 149 [a0, a1] [.int x] M 0 0 Z ↔ Z (some (.int x)) M := R_iret (gd175 dX9_look_149) rfl
theorem z175_150 : Run d 175 150 [some (.ref o), a1] [] M 0 0 Z ↔ Run d 175 151 [some (.ref o), a1] [.ref o] M 0 0 Z := R_local (gd175 dX9_look_150) rfl rfl rfl
theorem z175_151 : Run d 175 151 [a0, a1] [.ref o] M 0 0 Z ↔ gObj M o 9 ∧ Run d 175 154 [a0, a1] [va_rf (M.2.1 o 34)] M 0 0 Z := R_getR (gd175 dX9_look_151) rfl gf_9_89 rfl
theorem z175_154 : Run d 175 154 [a0, a1] [s0] M 0 0 Z ↔ Run d 175 155 [a0, a1] [.int 0, s0] M 0 0 Z := R_iconst (gd175 dX9_look_154) (by decide)
theorem z175_155 : Run d 175 155 [a0, a1] [.int x, .ref o] M 0 0 Z ↔ gAr M o 0 ∧ gIn x (gLen M o) = true ∧ Run d 175 156 [a0, a1] [.int (M.1 o x.toNatClampNeg)] M 0 0 Z := R_iald (gd175 dX9_look_155)
theorem z175_156 : Run d 175 156 [a0, a1] [.int x] M 0 0 Z ↔ Z (some (.int x)) M := R_iret (gd175 dX9_look_156) rfl
theorem z175_157 : Run d 175 157 [some (.ref o), a1] [] M 0 0 Z ↔ Run d 175 158 [some (.ref o), a1] [.ref o] M 0 0 Z := R_local (gd175 dX9_look_157) rfl rfl rfl
theorem z175_158 : Run d 175 158 [a0, a1] [.ref o] M 0 0 Z ↔ gObj M o 9 ∧ Run d 175 161 [a0, a1] [va_rf (M.2.1 o 35)] M 0 0 Z := R_getR (gd175 dX9_look_158) rfl gf_9_92 rfl
theorem z175_161 : Run d 175 161 [a0, a1] [s0] M 0 0 Z ↔ Run d 175 162 [a0, a1] [.int 0, s0] M 0 0 Z := R_iconst (gd175 dX9_look_161) (by decide)
theorem z175_162 : Run d 175 162 [a0, a1] [.int x, .ref o] M 0 0 Z ↔ gAr M o 0 ∧ gIn x (gLen M o) = true ∧ Run d 175 163 [a0, a1] [.int (M.1 o x.toNatClampNeg)] M 0 0 Z := R_iald (gd175 dX9_look_162)
theorem z175_163 : Run d 175 163 [a0, a1] [.int x] M 0 0 Z ↔ Z (some (.int x)) M := R_iret (gd175 dX9_look_163) rfl
theorem z175_164 : Run d 175 164 [a0, a1] [] M 0 0 Z ↔ Run d 175 165 [a0, a1] [.int (-1)] M 0 0 Z := R_iconst (gd175 dX9_look_164) (by decide)
theorem z175_165 : Run d 175 165 [a0, a1] [.int x] M 0 0 Z ↔ Z (some (.int x)) M := R_iret (gd175 dX9_look_165) rfl
theorem e175 : Call (d + 1) 175 [s0, s1] M Z ↔ Run d 175 0 [some s0, some s1] [] M 0 0 Z := Call_iff (Nat.lt_of_lt_of_le (Nat.lt_succ_self 175) (Nat.le_of_ble_eq_true rfl)) (Nat.le_of_ble_eq_true rfl)
/-! 176: X9_upon (IIZ)I -/
theorem gd176 {pc : Nat} {r : Except _ _} (h : decode cX9_upon pc = r) : decode (gby 176) pc = r := h
theorem z176_0 : Run d 176 0 [a0, a1, a2, a3, a4, a5] [] M 0 0 Z ↔ Run d 176 1 [a0, a1, a2, a3, a4, a5] [.int 0] M 0 0 Z := R_iconst (gd176 dX9_upon_0) (by decide)
theorem z176_1 : Run d 176 1 [a0, a1, a2, a3, a4, a5] [.int x] M 0 0 Z ↔ Run d 176 3 [a0, a1, a2, a3, some (.int x), a5] [] M 0 0 Z := R_local (gd176 dX9_upon_1) rfl rfl rfl
theorem z176_3 : Run d 176 3 [a0, some (.int x), a2, a3, a4, a5] [] M 0 0 Z ↔ Run d 176 4 [a0, some (.int x), a2, a3, a4, a5] [.int x] M 0 0 Z := R_local (gd176 dX9_upon_3) rfl rfl rfl
theorem z176_4 : Run d 176 4 [a0, a1, a2, a3, a4, a5] [s0] M 0 0 Z ↔ Run d 176 5 [a0, a1, a2, a3, a4, a5] [.int 1, s0] M 0 0 Z := R_iconst (gd176 dX9_upon_4) (by decide)
theorem z176_5 : Run d 176 5 [a0, a1, a2, a3, a4, a5] [.int y, .int x] M 0 0 Z ↔ Run d 176 6 [a0, a1, a2, a3, a4, a5] [.int (x + y)] M 0 0 Z := R_arith (gd176 dX9_upon_5) rfl
theorem z176_6 : Run d 176 6 [a0, a1, a2, a3, a4, a5] [.int x] M 0 0 Z ↔ Run d 176 8 [a0, a1, a2, a3, a4, some (.int x)] [] M 0 0 Z := R_local (gd176 dX9_upon_6) rfl rfl rfl
theorem z176_8 : Run d 176 8 [a0, a1, a2, a3, a4, some (.int x)] [] M 0 0 Z ↔ Run d 176 10 [a0, a1, a2, a3, a4, some (.int x)] [.int x] M 0 0 Z := R_local (gd176 dX9_upon_8) rfl rfl rfl
theorem z176_10 : Run d 176 10 [some (.ref o), a1, a2, a3, a4, a5] [s0] M 0 0 Z ↔ Run d 176 11 [some (.ref o), a1, a2, a3, a4, a5] [.ref o, s0] M 0 0 Z := R_local (gd176 dX9_upon_10) rfl rfl rfl
theorem z176_11 : Run d 176 11 [a0, a1, a2, a3, a4, a5] [.ref o, s0] M 0 0 Z ↔ gObj M o 9 ∧ Run d 176 14 [a0, a1, a2, a3, a4, a5] [va_rf (M.2.1 o 27), s0] M 0 0 Z := R_getR (gd176 dX9_upon_11) rfl gf_9_68 rfl
theorem z176_14 : Run d 176 14 [a0, a1, a2, a3, a4, a5] [s1, s0] M 0 0 Z ↔ Run d 176 15 [a0, a1, a2, a3, a4, a5] [.int 0, s1, s0] M 0 0 Z := R_iconst (gd176 dX9_upon_14) (by decide)
theorem z176_15 : Run d 176 15 [a0, a1, a2, a3, a4, a5] [.int x, .ref o, s0] M 0 0 Z ↔ gAr M o 0 ∧ gIn x (gLen M o) = true ∧ Run d 176 16 [a0, a1, a2, a3, a4, a5] [.int (M.1 o x.toNatClampNeg), s0] M 0 0 Z := R_iald (gd176 dX9_upon_15)
theorem z176_16 : Run d 176 16 [a0, a1, a2, a3, a4, a5] [.int y, .int x] M 0 0 Z ↔ (y ≤ x → Run d 176 86 [a0, a1, a2, a3, a4, a5] [] M 0 0 Z) ∧ (¬ (y ≤ x) → Run d 176 19 [a0, a1, a2, a3, a4, a5] [] M 0 0 Z) := R_icmp (gd176 dX9_upon_16) (show gTgt 16 70 = some 86 by decide) gIf_ge
theorem z176_19 : Run d 176 19 [a0, a1, a2, a3, some (.int x), a5] [] M 0 0 Z ↔ Run d 176 21 [a0, a1, a2, a3, some (.int x), a5] [.int x] M 0 0 Z := R_local (gd176 dX9_upon_19) rfl rfl rfl
theorem z176_21 : Run d 176 21 [some (.ref o), a1, a2, a3, a4, a5] [s0] M 0 0 Z ↔ Run d 176 22 [some (.ref o), a1, a2, a3, a4, a5] [.ref o, s0] M 0 0 Z := R_local (gd176 dX9_upon_21) rfl rfl rfl
theorem z176_22 : Run d 176 22 [a0, a1, a2, a3, a4, a5] [.ref o, s0] M 0 0 Z ↔ gObj M o 9 ∧ Run d 176 25 [a0, a1, a2, a3, a4, a5] [va_rf (M.2.1 o 17), s0] M 0 0 Z := R_getR (gd176 dX9_upon_22) rfl gf_9_38 rfl
theorem z176_25 : Run d 176 25 [a0, a1, a2, a3, a4, some (.int x)] [s1, s0] M 0 0 Z ↔ Run d 176 27 [a0, a1, a2, a3, a4, some (.int x)] [.int x, s1, s0] M 0 0 Z := R_local (gd176 dX9_upon_25) rfl rfl rfl
theorem z176_27 : Run d 176 27 [a0, a1, a2, a3, a4, a5] [.int x, .ref o, s0] M 0 0 Z ↔ gAr M o 0 ∧ gIn x (gLen M o) = true ∧ Run d 176 28 [a0, a1, a2, a3, a4, a5] [.int (M.1 o x.toNatClampNeg), s0] M 0 0 Z := R_iald (gd176 dX9_upon_27)
theorem z176_28 : Run d 176 28 [some (.ref o), a1, a2, a3, a4, a5] [s1, s0] M 0 0 Z ↔ Run d 176 29 [some (.ref o), a1, a2, a3, a4, a5] [.ref o, s1, s0] M 0 0 Z := R_local (gd176 dX9_upon_28) rfl rfl rfl
theorem z176_29 : Run d 176 29 [a0, a1, a2, a3, a4, a5] [.ref o, s1, s0] M 0 0 Z ↔ gObj M o 9 ∧ Run d 176 32 [a0, a1, a2, a3, a4, a5] [va_rf (M.2.1 o 17), s1, s0] M 0 0 Z := R_getR (gd176 dX9_upon_29) rfl gf_9_38 rfl
theorem z176_32 : Run d 176 32 [a0, some (.int x), a2, a3, a4, a5] [s2, s1, s0] M 0 0 Z ↔ Run d 176 33 [a0, some (.int x), a2, a3, a4, a5] [.int x, s2, s1, s0] M 0 0 Z := R_local (gd176 dX9_upon_32) rfl rfl rfl
theorem z176_33 : Run d 176 33 [a0, a1, a2, a3, a4, a5] [.int x, .ref o, s1, s0] M 0 0 Z ↔ gAr M o 0 ∧ gIn x (gLen M o) = true ∧ Run d 176 34 [a0, a1, a2, a3, a4, a5] [.int (M.1 o x.toNatClampNeg), s1, s0] M 0 0 Z := R_iald (gd176 dX9_upon_33)
theorem z176_34 : Run d 176 34 [a0, a1, a2, a3, a4, a5] [.int y, .int x, s0] M 0 0 Z ↔ (x = y → Run d 176 76 [a0, a1, a2, a3, a4, a5] [s0] M 0 0 Z) ∧ (¬ (x = y) → Run d 176 37 [a0, a1, a2, a3, a4, a5] [s0] M 0 0 Z) := R_icmp (gd176 dX9_upon_34) (show gTgt 34 42 = some 76 by decide) gIf_eq
theorem z176_37 : Run d 176 37 [some (.ref o), a1, a2, a3, a4, a5] [s0] M 0 0 Z ↔ Run d 176 38 [some (.ref o), a1, a2, a3, a4, a5] [.ref o, s0] M 0 0 Z := R_local (gd176 dX9_upon_37) rfl rfl rfl
theorem z176_38 : Run d 176 38 [a0, a1, a2, a3, a4, some (.int x)] [s1, s0] M 0 0 Z ↔ Run d 176 40 [a0, a1, a2, a3, a4, some (.int x)] [.int x, s1, s0] M 0 0 Z := R_local (gd176 dX9_upon_38) rfl rfl rfl
theorem z176_40 : Run d 176 40 [a0, a1, some (.int x), a3, a4, a5] [s2, s1, s0] M 0 0 Z ↔ Run d 176 41 [a0, a1, some (.int x), a3, a4, a5] [.int x, s2, s1, s0] M 0 0 Z := R_local (gd176 dX9_upon_40) rfl rfl rfl
theorem z176_41 : Run d 176 41 [some (.ref o), a1, a2, a3, a4, a5] [s3, s2, s1, s0] M 0 0 Z ↔ Run d 176 42 [some (.ref o), a1, a2, a3, a4, a5] [.ref o, s3, s2, s1, s0] M 0 0 Z := R_local (gd176 dX9_upon_41) rfl rfl rfl
theorem z176_42 : Run d 176 42 [a0, a1, a2, a3, a4, a5] [.ref o, s3, s2, s1, s0] M 0 0 Z ↔ gObj M o 9 ∧ Run d 176 45 [a0, a1, a2, a3, a4, a5] [va_rf (M.2.1 o 19), s3, s2, s1, s0] M 0 0 Z := R_getR (gd176 dX9_upon_42) rfl gf_9_44 rfl
theorem z176_45 : Run d 176 45 [a0, some (.int x), a2, a3, a4, a5] [s4, s3, s2, s1, s0] M 0 0 Z ↔ Run d 176 46 [a0, some (.int x), a2, a3, a4, a5] [.int x, s4, s3, s2, s1, s0] M 0 0 Z := R_local (gd176 dX9_upon_45) rfl rfl rfl
theorem z176_46 : Run d 176 46 [a0, a1, a2, a3, a4, a5] [.int x, .ref o, s3, s2, s1, s0] M 0 0 Z ↔ gAr M o 0 ∧ gIn x (gLen M o) = true ∧ Run d 176 47 [a0, a1, a2, a3, a4, a5] [.int (M.1 o x.toNatClampNeg), s3, s2, s1, s0] M 0 0 Z := R_iald (gd176 dX9_upon_46)
theorem z176_47 : Run d 176 47 [a0, a1, a2, a3, a4, a5] [s4, s3, s2, .ref b, s0] M 0 0 Z ↔ gObj M b 9 ∧ Call d 169 [.ref b, s2, s3, s4] M (fun r M1 => Run d 176 50 [a0, a1, a2, a3, a4, a5] (r.toList ++ [s0]) M1 0 0 Z) := R_callV (gd176 dX9_upon_47) rfl rfl rfl rfl rfl rfl gc_9_351 rfl rfl (Nat.le_of_ble_eq_true rfl) (Nat.le_of_ble_eq_true rfl) rfl rfl (Nat.le_of_ble_eq_true rfl) (Nat.le_of_ble_eq_true rfl)
theorem z176_50 : Run d 176 50 [a0, a1, a2, a3, a4, a5] [.int x, s0] M 0 0 Z ↔ (x = 0 → Run d 176 76 [a0, a1, a2, a3, a4, a5] [s0] M 0 0 Z) ∧ (¬ (x = 0) → Run d 176 53 [a0, a1, a2, a3, a4, a5] [s0] M 0 0 Z) := R_if (gd176 dX9_upon_50) (show gTgt 50 26 = some 76 by decide) gIf_eq
theorem z176_53 : Run d 176 53 [a0, a1, a2, some (.int x), a4, a5] [s0] M 0 0 Z ↔ Run d 176 54 [a0, a1, a2, some (.int x), a4, a5] [.int x, s0] M 0 0 Z := R_local (gd176 dX9_upon_53) rfl rfl rfl
theorem z176_54 : Run d 176 54 [a0, a1, a2, a3, a4, a5] [.int x, s0] M 0 0 Z ↔ (¬ x = 0 → Run d 176 72 [a0, a1, a2, a3, a4, a5] [s0] M 0 0 Z) ∧ (¬ (¬ x = 0) → Run d 176 57 [a0, a1, a2, a3, a4, a5] [s0] M 0 0 Z) := R_if (gd176 dX9_upon_54) (show gTgt 54 18 = some 72 by decide) gIf_ne
theorem z176_57 : Run d 176 57 [some (.ref o), a1, a2, a3, a4, a5] [s0] M 0 0 Z ↔ Run d 176 58 [some (.ref o), a1, a2, a3, a4, a5] [.ref o, s0] M 0 0 Z := R_local (gd176 dX9_upon_57) rfl rfl rfl
theorem z176_58 : Run d 176 58 [a0, a1, a2, a3, a4, a5] [.ref o, s0] M 0 0 Z ↔ gObj M o 9 ∧ Run d 176 61 [a0, a1, a2, a3, a4, a5] [va_rf (M.2.1 o 55), s0] M 0 0 Z := R_getR (gd176 dX9_upon_58) rfl gf_9_110 rfl
theorem z176_61 : Run d 176 61 [some (.ref o), a1, a2, a3, a4, a5] [s1, s0] M 0 0 Z ↔ Run d 176 62 [some (.ref o), a1, a2, a3, a4, a5] [.ref o, s1, s0] M 0 0 Z := R_local (gd176 dX9_upon_61) rfl rfl rfl
theorem z176_62 : Run d 176 62 [a0, a1, a2, a3, a4, a5] [.ref o, s1, s0] M 0 0 Z ↔ gObj M o 9 ∧ Run d 176 65 [a0, a1, a2, a3, a4, a5] [va_rf (M.2.1 o 17), s1, s0] M 0 0 Z := R_getR (gd176 dX9_upon_62) rfl gf_9_38 rfl
theorem z176_65 : Run d 176 65 [a0, a1, a2, a3, a4, some (.int x)] [s2, s1, s0] M 0 0 Z ↔ Run d 176 67 [a0, a1, a2, a3, a4, some (.int x)] [.int x, s2, s1, s0] M 0 0 Z := R_local (gd176 dX9_upon_65) rfl rfl rfl
theorem z176_67 : Run d 176 67 [a0, a1, a2, a3, a4, a5] [.int x, .ref o, s1, s0] M 0 0 Z ↔ gAr M o 0 ∧ gIn x (gLen M o) = true ∧ Run d 176 68 [a0, a1, a2, a3, a4, a5] [.int (M.1 o x.toNatClampNeg), s1, s0] M 0 0 Z := R_iald (gd176 dX9_upon_67)
theorem z176_68 (hg : gAr M o 2) : Run d 176 68 [a0, a1, a2, a3, a4, a5] [.int x, .ref o, s0] M 0 0 Z ↔ gIn x (gLen M o) = true ∧ Run d 176 69 [a0, a1, a2, a3, a4, a5] [.int (M.1 o x.toNatClampNeg), s0] M 0 0 Z := R_bald (gd176 dX9_upon_68) (by decide) hg
theorem z176_69 : Run d 176 69 [a0, a1, a2, a3, a4, a5] [.int x, s0] M 0 0 Z ↔ (¬ x = 0 → Run d 176 76 [a0, a1, a2, a3, a4, a5] [s0] M 0 0 Z) ∧ (¬ (¬ x = 0) → Run d 176 72 [a0, a1, a2, a3, a4, a5] [s0] M 0 0 Z) := R_if (gd176 dX9_upon_69) (show gTgt 69 7 = some 76 by decide) gIf_ne
theorem z176_72 : Run d 176 72 [a0, a1, a2, a3, a4, a5] [s0] M 0 0 Z ↔ Run d 176 73 [a0, a1, a2, a3, a4, a5] [.int 1, s0] M 0 0 Z := R_iconst (gd176 dX9_upon_72) (by decide)
theorem z176_73 : Run d 176 73 [a0, a1, a2, a3, a4, a5] [s1, s0] M 0 0 Z ↔ Run d 176 77 [a0, a1, a2, a3, a4, a5] [s1, s0] M 0 0 Z := R_goto (gd176 dX9_upon_73) (show gTgt 73 4 = some 77 by decide)
theorem z176_76 : Run d 176 76 [a0, a1, a2, a3, a4, a5] [s0] M 0 0 Z ↔ Run d 176 77 [a0, a1, a2, a3, a4, a5] [.int 0, s0] M 0 0 Z := R_iconst (gd176 dX9_upon_76) (by decide)
theorem z176_77 : Run d 176 77 [a0, a1, a2, a3, a4, a5] [.int y, .int x] M 0 0 Z ↔ Run d 176 78 [a0, a1, a2, a3, a4, a5] [.int (x + y)] M 0 0 Z := R_arith (gd176 dX9_upon_77) rfl
theorem z176_78 : Run d 176 78 [a0, a1, a2, a3, a4, a5] [.int x] M 0 0 Z ↔ Run d 176 80 [a0, a1, a2, a3, some (.int x), a5] [] M 0 0 Z := R_local (gd176 dX9_upon_78) rfl rfl rfl
theorem z176_80 : Run d 176 80 [a0, a1, a2, a3, a4, some (.int x)] [] M 0 0 Z ↔ Run d 176 83 [a0, a1, a2, a3, a4, some (.int (x + 1))] [] M 0 0 Z := R_iinc (gd176 dX9_upon_80) (by decide) rfl rfl
theorem z176_83 : Run d 176 83 [a0, a1, a2, a3, a4, a5] [] M 0 0 Z ↔ Run d 176 8 [a0, a1, a2, a3, a4, a5] [] M 0 0 Z := R_goto (gd176 dX9_upon_83) (show gTgt 83 (-75) = some 8 by decide)
theorem z176_86 : Run d 176 86 [a0, a1, a2, a3, some (.int x), a5] [] M 0 0 Z ↔ Run d 176 88 [a0, a1, a2, a3, some (.int x), a5] [.int x] M 0 0 Z := R_local (gd176 dX9_upon_86) rfl rfl rfl
theorem z176_88 : Run d 176 88 [a0, a1, a2, a3, a4, a5] [.int x] M 0 0 Z ↔ Z (some (.int x)) M := R_iret (gd176 dX9_upon_88) rfl
theorem e176 : Call (d + 1) 176 [s0, s1, s2, s3] M Z ↔ Run d 176 0 [some s0, some s1, some s2, some s3, none, none] [] M 0 0 Z := Call_iff (Nat.lt_of_lt_of_le (Nat.lt_succ_self 176) (Nat.le_of_ble_eq_true rfl)) (Nat.le_of_ble_eq_true rfl)
/-! 177: X9_strengthOf (IZ)I -/
theorem gd177 {pc : Nat} {r : Except _ _} (h : decode cX9_strengthOf pc = r) : decode (gby 177) pc = r := h
theorem z177_0 : Run d 177 0 [a0, a1, a2, a3, a4, a5, a6] [] M 0 0 Z ↔ Run d 177 1 [a0, a1, a2, a3, a4, a5, a6] [.int 0] M 0 0 Z := R_iconst (gd177 dX9_strengthOf_0) (by decide)
theorem z177_1 : Run d 177 1 [a0, a1, a2, a3, a4, a5, a6] [.int x] M 0 0 Z ↔ Run d 177 2 [a0, a1, a2, some (.int x), a4, a5, a6] [] M 0 0 Z := R_local (gd177 dX9_strengthOf_1) rfl rfl rfl
theorem z177_2 : Run d 177 2 [a0, a1, a2, a3, a4, a5, a6] [] M 0 0 Z ↔ Run d 177 3 [a0, a1, a2, a3, a4, a5, a6] [.int 0] M 0 0 Z := R_iconst (gd177 dX9_strengthOf_2) (by decide)
theorem z177_3 : Run d 177 3 [a0, a1, a2, a3, a4, a5, a6] [.int x] M 0 0 Z ↔ Run d 177 5 [a0, a1, a2, a3, some (.int x), a5, a6] [] M 0 0 Z := R_local (gd177 dX9_strengthOf_3) rfl rfl rfl
theorem z177_5 : Run d 177 5 [a0, a1, a2, a3, some (.int x), a5, a6] [] M 0 0 Z ↔ Run d 177 7 [a0, a1, a2, a3, some (.int x), a5, a6] [.int x] M 0 0 Z := R_local (gd177 dX9_strengthOf_5) rfl rfl rfl
theorem z177_7 : Run d 177 7 [some (.ref o), a1, a2, a3, a4, a5, a6] [s0] M 0 0 Z ↔ Run d 177 8 [some (.ref o), a1, a2, a3, a4, a5, a6] [.ref o, s0] M 0 0 Z := R_local (gd177 dX9_strengthOf_7) rfl rfl rfl
theorem z177_8 : Run d 177 8 [a0, a1, a2, a3, a4, a5, a6] [.ref o, s0] M 0 0 Z ↔ gObj M o 9 ∧ Run d 177 11 [a0, a1, a2, a3, a4, a5, a6] [va_rf (M.2.1 o 27), s0] M 0 0 Z := R_getR (gd177 dX9_strengthOf_8) rfl gf_9_68 rfl
theorem z177_11 : Run d 177 11 [a0, a1, a2, a3, a4, a5, a6] [s1, s0] M 0 0 Z ↔ Run d 177 12 [a0, a1, a2, a3, a4, a5, a6] [.int 0, s1, s0] M 0 0 Z := R_iconst (gd177 dX9_strengthOf_11) (by decide)
theorem z177_12 : Run d 177 12 [a0, a1, a2, a3, a4, a5, a6] [.int x, .ref o, s0] M 0 0 Z ↔ gAr M o 0 ∧ gIn x (gLen M o) = true ∧ Run d 177 13 [a0, a1, a2, a3, a4, a5, a6] [.int (M.1 o x.toNatClampNeg), s0] M 0 0 Z := R_iald (gd177 dX9_strengthOf_12)
theorem z177_13 : Run d 177 13 [a0, a1, a2, a3, a4, a5, a6] [.int y, .int x] M 0 0 Z ↔ (y ≤ x → Run d 177 92 [a0, a1, a2, a3, a4, a5, a6] [] M 0 0 Z) ∧ (¬ (y ≤ x) → Run d 177 16 [a0, a1, a2, a3, a4, a5, a6] [] M 0 0 Z) := R_icmp (gd177 dX9_strengthOf_13) (show gTgt 13 79 = some 92 by decide) gIf_ge
theorem z177_16 : Run d 177 16 [some (.ref o), a1, a2, a3, a4, a5, a6] [] M 0 0 Z ↔ Run d 177 17 [some (.ref o), a1, a2, a3, a4, a5, a6] [.ref o] M 0 0 Z := R_local (gd177 dX9_strengthOf_16) rfl rfl rfl
theorem z177_17 : Run d 177 17 [a0, a1, a2, a3, a4, a5, a6] [.ref o] M 0 0 Z ↔ gObj M o 9 ∧ Run d 177 20 [a0, a1, a2, a3, a4, a5, a6] [va_rf (M.2.1 o 18)] M 0 0 Z := R_getR (gd177 dX9_strengthOf_17) rfl gf_9_41 rfl
theorem z177_20 : Run d 177 20 [a0, a1, a2, a3, some (.int x), a5, a6] [s0] M 0 0 Z ↔ Run d 177 22 [a0, a1, a2, a3, some (.int x), a5, a6] [.int x, s0] M 0 0 Z := R_local (gd177 dX9_strengthOf_20) rfl rfl rfl
theorem z177_22 : Run d 177 22 [a0, a1, a2, a3, a4, a5, a6] [.int x, .ref o] M 0 0 Z ↔ gAr M o 0 ∧ gIn x (gLen M o) = true ∧ Run d 177 23 [a0, a1, a2, a3, a4, a5, a6] [.int (M.1 o x.toNatClampNeg)] M 0 0 Z := R_iald (gd177 dX9_strengthOf_22)
theorem z177_23 : Run d 177 23 [a0, a1, a2, a3, a4, a5, a6] [.int x] M 0 0 Z ↔ Run d 177 25 [a0, a1, a2, a3, a4, some (.int x), a6] [] M 0 0 Z := R_local (gd177 dX9_strengthOf_23) rfl rfl rfl
theorem z177_25 : Run d 177 25 [a0, a1, a2, a3, a4, some (.int x), a6] [] M 0 0 Z ↔ Run d 177 27 [a0, a1, a2, a3, a4, some (.int x), a6] [.int x] M 0 0 Z := R_local (gd177 dX9_strengthOf_25) rfl rfl rfl
theorem z177_27 : Run d 177 27 [some (.ref o), a1, a2, a3, a4, a5, a6] [s0] M 0 0 Z ↔ Run d 177 28 [some (.ref o), a1, a2, a3, a4, a5, a6] [.ref o, s0] M 0 0 Z := R_local (gd177 dX9_strengthOf_27) rfl rfl rfl
theorem z177_28 : Run d 177 28 [a0, a1, a2, a3, a4, a5, a6] [.ref o, s0] M 0 0 Z ↔ gObj M o 9 ∧ Run d 177 31 [a0, a1, a2, a3, a4, a5, a6] [va_rf (M.2.1 o 18), s0] M 0 0 Z := R_getR (gd177 dX9_strengthOf_28) rfl gf_9_41 rfl
theorem z177_31 : Run d 177 31 [a0, a1, a2, a3, some (.int x), a5, a6] [s1, s0] M 0 0 Z ↔ Run d 177 33 [a0, a1, a2, a3, some (.int x), a5, a6] [.int x, s1, s0] M 0 0 Z := R_local (gd177 dX9_strengthOf_31) rfl rfl rfl
theorem z177_33 : Run d 177 33 [a0, a1, a2, a3, a4, a5, a6] [.int x, .ref o, s0] M 0 0 Z ↔ gAr M o 0 ∧ gIn x (gLen M o) = true ∧ Run d 177 34 [a0, a1, a2, a3, a4, a5, a6] [.int (M.1 o x.toNatClampNeg), s0] M 0 0 Z := R_iald (gd177 dX9_strengthOf_33)
theorem z177_34 : Run d 177 34 [some (.ref o), a1, a2, a3, a4, a5, a6] [s1, s0] M 0 0 Z ↔ Run d 177 35 [some (.ref o), a1, a2, a3, a4, a5, a6] [.ref o, s1, s0] M 0 0 Z := R_local (gd177 dX9_strengthOf_34) rfl rfl rfl
theorem z177_35 : Run d 177 35 [a0, a1, a2, a3, a4, a5, a6] [.ref o, s1, s0] M 0 0 Z ↔ gObj M o 9 ∧ Run d 177 38 [a0, a1, a2, a3, a4, a5, a6] [va_rf (M.2.1 o 22), s1, s0] M 0 0 Z := R_getR (gd177 dX9_strengthOf_35) rfl gf_9_53 rfl
theorem z177_38 : Run d 177 38 [a0, a1, a2, a3, some (.int x), a5, a6] [s2, s1, s0] M 0 0 Z ↔ Run d 177 40 [a0, a1, a2, a3, some (.int x), a5, a6] [.int x, s2, s1, s0] M 0 0 Z := R_local (gd177 dX9_strengthOf_38) rfl rfl rfl
theorem z177_40 : Run d 177 40 [a0, a1, a2, a3, a4, a5, a6] [.int x, .ref o, s1, s0] M 0 0 Z ↔ gAr M o 0 ∧ gIn x (gLen M o) = true ∧ Run d 177 41 [a0, a1, a2, a3, a4, a5, a6] [.int (M.1 o x.toNatClampNeg), s1, s0] M 0 0 Z := R_iald (gd177 dX9_strengthOf_40)
theorem z177_41 : Run d 177 41 [a0, a1, a2, a3, a4, a5, a6] [.int y, .int x, s0] M 0 0 Z ↔ Run d 177 42 [a0, a1, a2, a3, a4, a5, a6] [.int (x + y), s0] M 0 0 Z := R_arith (gd177 dX9_strengthOf_41) rfl
theorem z177_42 : Run d 177 42 [a0, a1, a2, a3, a4, a5, a6] [.int y, .int x] M 0 0 Z ↔ (y ≤ x → Run d 177 86 [a0, a1, a2, a3, a4, a5, a6] [] M 0 0 Z) ∧ (¬ (y ≤ x) → Run d 177 45 [a0, a1, a2, a3, a4, a5, a6] [] M 0 0 Z) := R_icmp (gd177 dX9_strengthOf_42) (show gTgt 42 44 = some 86 by decide) gIf_ge
theorem z177_45 : Run d 177 45 [some (.ref o), a1, a2, a3, a4, a5, a6] [] M 0 0 Z ↔ Run d 177 46 [some (.ref o), a1, a2, a3, a4, a5, a6] [.ref o] M 0 0 Z := R_local (gd177 dX9_strengthOf_45) rfl rfl rfl
theorem z177_46 : Run d 177 46 [a0, a1, a2, a3, a4, a5, a6] [.ref o] M 0 0 Z ↔ gObj M o 9 ∧ Run d 177 49 [a0, a1, a2, a3, a4, a5, a6] [va_rf (M.2.1 o 17)] M 0 0 Z := R_getR (gd177 dX9_strengthOf_46) rfl gf_9_38 rfl
theorem z177_49 : Run d 177 49 [a0, a1, a2, a3, some (.int x), a5, a6] [s0] M 0 0 Z ↔ Run d 177 51 [a0, a1, a2, a3, some (.int x), a5, a6] [.int x, s0] M 0 0 Z := R_local (gd177 dX9_strengthOf_49) rfl rfl rfl
theorem z177_51 : Run d 177 51 [a0, a1, a2, a3, a4, a5, a6] [.int x, .ref o] M 0 0 Z ↔ gAr M o 0 ∧ gIn x (gLen M o) = true ∧ Run d 177 52 [a0, a1, a2, a3, a4, a5, a6] [.int (M.1 o x.toNatClampNeg)] M 0 0 Z := R_iald (gd177 dX9_strengthOf_51)
theorem z177_52 : Run d 177 52 [a0, some (.int x), a2, a3, a4, a5, a6] [s0] M 0 0 Z ↔ Run d 177 53 [a0, some (.int x), a2, a3, a4, a5, a6] [.int x, s0] M 0 0 Z := R_local (gd177 dX9_strengthOf_52) rfl rfl rfl
theorem z177_53 : Run d 177 53 [a0, a1, a2, a3, a4, a5, a6] [.int y, .int x] M 0 0 Z ↔ (¬ x = y → Run d 177 86 [a0, a1, a2, a3, a4, a5, a6] [] M 0 0 Z) ∧ (¬ (¬ x = y) → Run d 177 56 [a0, a1, a2, a3, a4, a5, a6] [] M 0 0 Z) := R_icmp (gd177 dX9_strengthOf_53) (show gTgt 53 33 = some 86 by decide) gIf_ne
theorem z177_56 : Run d 177 56 [some (.ref o), a1, a2, a3, a4, a5, a6] [] M 0 0 Z ↔ Run d 177 57 [some (.ref o), a1, a2, a3, a4, a5, a6] [.ref o] M 0 0 Z := R_local (gd177 dX9_strengthOf_56) rfl rfl rfl
theorem z177_57 : Run d 177 57 [a0, a1, a2, a3, some (.int x), a5, a6] [s0] M 0 0 Z ↔ Run d 177 59 [a0, a1, a2, a3, some (.int x), a5, a6] [.int x, s0] M 0 0 Z := R_local (gd177 dX9_strengthOf_57) rfl rfl rfl
theorem z177_59 : Run d 177 59 [a0, a1, a2, a3, a4, some (.int x), a6] [s1, s0] M 0 0 Z ↔ Run d 177 61 [a0, a1, a2, a3, a4, some (.int x), a6] [.int x, s1, s0] M 0 0 Z := R_local (gd177 dX9_strengthOf_59) rfl rfl rfl
theorem z177_61 : Run d 177 61 [a0, a1, some (.int x), a3, a4, a5, a6] [s2, s1, s0] M 0 0 Z ↔ Run d 177 62 [a0, a1, some (.int x), a3, a4, a5, a6] [.int x, s2, s1, s0] M 0 0 Z := R_local (gd177 dX9_strengthOf_61) rfl rfl rfl
theorem z177_62 : Run d 177 62 [a0, a1, a2, a3, a4, a5, a6] [s3, s2, s1, .ref b] M 0 0 Z ↔ gObj M b 9 ∧ Call d 176 [.ref b, s1, s2, s3] M (fun r M1 => Run d 177 65 [a0, a1, a2, a3, a4, a5, a6] (r.toList ++ []) M1 0 0 Z) := R_callV (gd177 dX9_strengthOf_62) rfl rfl rfl rfl rfl rfl gc_9_369 rfl rfl (Nat.le_of_ble_eq_true rfl) (Nat.le_of_ble_eq_true rfl) rfl rfl (Nat.le_of_ble_eq_true rfl) (Nat.le_of_ble_eq_true rfl)
theorem z177_65 : Run d 177 65 [a0, a1, a2, a3, a4, a5, a6] [.int x] M 0 0 Z ↔ Run d 177 67 [a0, a1, a2, a3, a4, a5, some (.int x)] [] M 0 0 Z := R_local (gd177 dX9_strengthOf_65) rfl rfl rfl
theorem z177_67 : Run d 177 67 [a0, a1, a2, a3, a4, a5, some (.int x)] [] M 0 0 Z ↔ Run d 177 69 [a0, a1, a2, a3, a4, a5, some (.int x)] [.int x] M 0 0 Z := R_local (gd177 dX9_strengthOf_67) rfl rfl rfl
theorem z177_69 : Run d 177 69 [a0, a1, a2, some (.int x), a4, a5, a6] [s0] M 0 0 Z ↔ Run d 177 70 [a0, a1, a2, some (.int x), a4, a5, a6] [.int x, s0] M 0 0 Z := R_local (gd177 dX9_strengthOf_69) rfl rfl rfl
theorem z177_70 : Run d 177 70 [a0, a1, a2, a3, a4, a5, a6] [.int y, .int x] M 0 0 Z ↔ (x ≤ y → Run d 177 78 [a0, a1, a2, a3, a4, a5, a6] [] M 0 0 Z) ∧ (¬ (x ≤ y) → Run d 177 73 [a0, a1, a2, a3, a4, a5, a6] [] M 0 0 Z) := R_icmp (gd177 dX9_strengthOf_70) (show gTgt 70 8 = some 78 by decide) gIf_le
theorem z177_73 : Run d 177 73 [a0, a1, a2, a3, a4, a5, some (.int x)] [] M 0 0 Z ↔ Run d 177 75 [a0, a1, a2, a3, a4, a5, some (.int x)] [.int x] M 0 0 Z := R_local (gd177 dX9_strengthOf_73) rfl rfl rfl
theorem z177_75 : Run d 177 75 [a0, a1, a2, a3, a4, a5, a6] [s0] M 0 0 Z ↔ Run d 177 79 [a0, a1, a2, a3, a4, a5, a6] [s0] M 0 0 Z := R_goto (gd177 dX9_strengthOf_75) (show gTgt 75 4 = some 79 by decide)
theorem z177_78 : Run d 177 78 [a0, a1, a2, some (.int x), a4, a5, a6] [] M 0 0 Z ↔ Run d 177 79 [a0, a1, a2, some (.int x), a4, a5, a6] [.int x] M 0 0 Z := R_local (gd177 dX9_strengthOf_78) rfl rfl rfl
theorem z177_79 : Run d 177 79 [a0, a1, a2, a3, a4, a5, a6] [.int x] M 0 0 Z ↔ Run d 177 80 [a0, a1, a2, some (.int x), a4, a5, a6] [] M 0 0 Z := R_local (gd177 dX9_strengthOf_79) rfl rfl rfl
theorem z177_80 : Run d 177 80 [a0, a1, a2, a3, a4, some (.int x), a6] [] M 0 0 Z ↔ Run d 177 83 [a0, a1, a2, a3, a4, some (.int (x + 1)), a6] [] M 0 0 Z := R_iinc (gd177 dX9_strengthOf_80) (by decide) rfl rfl
theorem z177_83 : Run d 177 83 [a0, a1, a2, a3, a4, a5, a6] [] M 0 0 Z ↔ Run d 177 25 [a0, a1, a2, a3, a4, a5, a6] [] M 0 0 Z := R_goto (gd177 dX9_strengthOf_83) (show gTgt 83 (-58) = some 25 by decide)
theorem z177_86 : Run d 177 86 [a0, a1, a2, a3, some (.int x), a5, a6] [] M 0 0 Z ↔ Run d 177 89 [a0, a1, a2, a3, some (.int (x + 1)), a5, a6] [] M 0 0 Z := R_iinc (gd177 dX9_strengthOf_86) (by decide) rfl rfl
theorem z177_89 : Run d 177 89 [a0, a1, a2, a3, a4, a5, a6] [] M 0 0 Z ↔ Run d 177 5 [a0, a1, a2, a3, a4, a5, a6] [] M 0 0 Z := R_goto (gd177 dX9_strengthOf_89) (show gTgt 89 (-84) = some 5 by decide)
theorem z177_92 : Run d 177 92 [a0, a1, a2, a3, a4, a5, a6] [] M 0 0 Z ↔ Run d 177 93 [a0, a1, a2, a3, a4, a5, a6] [.int 4] M 0 0 Z := R_iconst (gd177 dX9_strengthOf_92) (by decide)
theorem z177_93 : Run d 177 93 [some (.ref o), a1, a2, a3, a4, a5, a6] [s0] M 0 0 Z ↔ Run d 177 94 [some (.ref o), a1, a2, a3, a4, a5, a6] [.ref o, s0] M 0 0 Z := R_local (gd177 dX9_strengthOf_93) rfl rfl rfl
theorem z177_94 : Run d 177 94 [a0, a1, a2, a3, a4, a5, a6] [.ref o, s0] M 0 0 Z ↔ gObj M o 9 ∧ Run d 177 97 [a0, a1, a2, a3, a4, a5, a6] [va_rf (M.2.1 o 24), s0] M 0 0 Z := R_getR (gd177 dX9_strengthOf_94) rfl gf_9_59 rfl
theorem z177_97 : Run d 177 97 [a0, some (.int x), a2, a3, a4, a5, a6] [s1, s0] M 0 0 Z ↔ Run d 177 98 [a0, some (.int x), a2, a3, a4, a5, a6] [.int x, s1, s0] M 0 0 Z := R_local (gd177 dX9_strengthOf_97) rfl rfl rfl
theorem z177_98 : Run d 177 98 [a0, a1, a2, a3, a4, a5, a6] [.int x, .ref o, s0] M 0 0 Z ↔ gAr M o 0 ∧ gIn x (gLen M o) = true ∧ Run d 177 99 [a0, a1, a2, a3, a4, a5, a6] [.int (M.1 o x.toNatClampNeg), s0] M 0 0 Z := R_iald (gd177 dX9_strengthOf_98)
theorem z177_99 : Run d 177 99 [a0, a1, a2, a3, a4, a5, a6] [.int y, .int x] M 0 0 Z ↔ Run d 177 100 [a0, a1, a2, a3, a4, a5, a6] [.int (x * y)] M 0 0 Z := R_arith (gd177 dX9_strengthOf_99) rfl
theorem z177_100 : Run d 177 100 [a0, a1, a2, some (.int x), a4, a5, a6] [s0] M 0 0 Z ↔ Run d 177 101 [a0, a1, a2, some (.int x), a4, a5, a6] [.int x, s0] M 0 0 Z := R_local (gd177 dX9_strengthOf_100) rfl rfl rfl
theorem z177_101 : Run d 177 101 [a0, a1, a2, a3, a4, a5, a6] [.int y, .int x] M 0 0 Z ↔ Run d 177 102 [a0, a1, a2, a3, a4, a5, a6] [.int (x + y)] M 0 0 Z := R_arith (gd177 dX9_strengthOf_101) rfl
theorem z177_102 : Run d 177 102 [a0, a1, a2, a3, a4, a5, a6] [.int x] M 0 0 Z ↔ Z (some (.int x)) M := R_iret (gd177 dX9_strengthOf_102) rfl
theorem e177 : Call (d + 1) 177 [s0, s1, s2] M Z ↔ Run d 177 0 [some s0, some s1, some s2, none, none, none, none] [] M 0 0 Z := Call_iff (Nat.lt_of_lt_of_le (Nat.lt_succ_self 177) (Nat.le_of_ble_eq_true rfl)) (Nat.le_of_ble_eq_true rfl)
/-! 178: X9_strength (I)I -/
theorem gd178 {pc : Nat} {r : Except _ _} (h : decode cX9_strength pc = r) : decode (gby 178) pc = r := h
theorem z178_0 : Run d 178 0 [some (.ref o), a1] [] M 0 0 Z ↔ Run d 178 1 [some (.ref o), a1] [.ref o] M 0 0 Z := R_local (gd178 dX9_strength_0) rfl rfl rfl
theorem z178_1 : Run d 178 1 [a0, a1] [.ref o] M 0 0 Z ↔ gObj M o 9 ∧ Run d 178 4 [a0, a1] [.int (M.1 o 51)] M 0 0 Z := R_getI (gd178 dX9_strength_1) rfl gf_9_339 rfl
theorem z178_4 : Run d 178 4 [a0, a1] [.int x] M 0 0 Z ↔ (x = 0 → Run d 178 32 [a0, a1] [] M 0 0 Z) ∧ (¬ (x = 0) → Run d 178 7 [a0, a1] [] M 0 0 Z) := R_if (gd178 dX9_strength_4) (show gTgt 4 28 = some 32 by decide) gIf_eq
theorem z178_7 : Run d 178 7 [a0, some (.int x)] [] M 0 0 Z ↔ Run d 178 8 [a0, some (.int x)] [.int x] M 0 0 Z := R_local (gd178 dX9_strength_7) rfl rfl rfl
theorem z178_8 : Run d 178 8 [a0, a1] [s0] M 0 0 Z ↔ Run d 178 9 [a0, a1] [.int 0, s0] M 0 0 Z := R_iconst (gd178 dX9_strength_8) (by decide)
theorem z178_9 : Run d 178 9 [some (.ref o), a1] [s1, s0] M 0 0 Z ↔ Run d 178 10 [some (.ref o), a1] [.ref o, s1, s0] M 0 0 Z := R_local (gd178 dX9_strength_9) rfl rfl rfl
theorem z178_10 : Run d 178 10 [a0, a1] [.ref o, s1, s0] M 0 0 Z ↔ gObj M o 9 ∧ Run d 178 13 [a0, a1] [va_rf (M.2.1 o 26), s1, s0] M 0 0 Z := R_getR (gd178 dX9_strength_10) rfl gf_9_65 rfl
theorem z178_13 : Run d 178 13 [a0, a1] [s2, s1, s0] M 0 0 Z ↔ Run d 178 14 [a0, a1] [.int 0, s2, s1, s0] M 0 0 Z := R_iconst (gd178 dX9_strength_13) (by decide)
theorem z178_14 : Run d 178 14 [a0, a1] [.int x, .ref o, s1, s0] M 0 0 Z ↔ gAr M o 0 ∧ gIn x (gLen M o) = true ∧ Run d 178 15 [a0, a1] [.int (M.1 o x.toNatClampNeg), s1, s0] M 0 0 Z := R_iald (gd178 dX9_strength_14)
theorem z178_15 : Run d 178 15 [a0, a1] [s2, s1, s0] M 0 0 Z ↔ Run d 178 16 [a0, a1] [.int 1, s2, s1, s0] M 0 0 Z := R_iconst (gd178 dX9_strength_15) (by decide)
theorem z178_16 : Run d 178 16 [a0, a1] [.int y, .int x, s1, s0] M 0 0 Z ↔ Run d 178 17 [a0, a1] [.int (x - y), s1, s0] M 0 0 Z := R_arith (gd178 dX9_strength_16) rfl
theorem z178_17 : Run d 178 17 [a0, a1] [s2, s1, s0] M 0 0 Z ↔ Call d 120 [s0, s1, s2] M (fun r M1 => Run d 178 20 [a0, a1] (r.toList ++ []) M1 0 0 Z) := R_call (gd178 dX9_strength_17) rfl rfl rfl rfl rfl rfl gc_9_157 rfl (by decide) (Nat.le_of_ble_eq_true rfl) (Nat.le_of_ble_eq_true rfl) rfl rfl rfl (Nat.le_of_ble_eq_true rfl) (Nat.le_of_ble_eq_true rfl)
theorem z178_20 : Run d 178 20 [a0, a1] [.int x] M 0 0 Z ↔ (x = 0 → Run d 178 32 [a0, a1] [] M 0 0 Z) ∧ (¬ (x = 0) → Run d 178 23 [a0, a1] [] M 0 0 Z) := R_if (gd178 dX9_strength_20) (show gTgt 20 12 = some 32 by decide) gIf_eq
theorem z178_23 : Run d 178 23 [some (.ref o), a1] [] M 0 0 Z ↔ Run d 178 24 [some (.ref o), a1] [.ref o] M 0 0 Z := R_local (gd178 dX9_strength_23) rfl rfl rfl
theorem z178_24 : Run d 178 24 [a0, some (.int x)] [s0] M 0 0 Z ↔ Run d 178 25 [a0, some (.int x)] [.int x, s0] M 0 0 Z := R_local (gd178 dX9_strength_24) rfl rfl rfl
theorem z178_25 : Run d 178 25 [a0, a1] [s1, s0] M 0 0 Z ↔ Run d 178 26 [a0, a1] [.int 1, s1, s0] M 0 0 Z := R_iconst (gd178 dX9_strength_25) (by decide)
theorem z178_26 : Run d 178 26 [a0, a1] [s2, s1, .ref b] M 0 0 Z ↔ gObj M b 9 ∧ Call d 177 [.ref b, s1, s2] M (fun r M1 => Run d 178 29 [a0, a1] (r.toList ++ []) M1 0 0 Z) := R_callV (gd178 dX9_strength_26) rfl rfl rfl rfl rfl rfl gc_9_372 rfl rfl (Nat.le_of_ble_eq_true rfl) (Nat.le_of_ble_eq_true rfl) rfl rfl (Nat.le_of_ble_eq_true rfl) (Nat.le_of_ble_eq_true rfl)
theorem z178_29 : Run d 178 29 [a0, a1] [s0] M 0 0 Z ↔ Run d 178 33 [a0, a1] [s0] M 0 0 Z := R_goto (gd178 dX9_strength_29) (show gTgt 29 4 = some 33 by decide)
theorem z178_32 : Run d 178 32 [a0, a1] [] M 0 0 Z ↔ Run d 178 33 [a0, a1] [.int (-1)] M 0 0 Z := R_iconst (gd178 dX9_strength_32) (by decide)
theorem z178_33 : Run d 178 33 [a0, a1] [.int x] M 0 0 Z ↔ Z (some (.int x)) M := R_iret (gd178 dX9_strength_33) rfl
theorem e178 : Call (d + 1) 178 [s0, s1] M Z ↔ Run d 178 0 [some s0, some s1] [] M 0 0 Z := Call_iff (Nat.lt_of_lt_of_le (Nat.lt_succ_self 178) (Nat.le_of_ble_eq_true rfl)) (Nat.le_of_ble_eq_true rfl)
/-! 179: X9_stretch (III)Z -/
theorem gd179 {pc : Nat} {r : Except _ _} (h : decode cX9_stretch pc = r) : decode (gby 179) pc = r := h
theorem z179_0 : Run d 179 0 [a0, some (.int x), a2, a3] [] M 0 0 Z ↔ Run d 179 1 [a0, some (.int x), a2, a3] [.int x] M 0 0 Z := R_local (gd179 dX9_stretch_0) rfl rfl rfl
theorem z179_1 : Run d 179 1 [a0, a1, a2, a3] [s0] M 0 0 Z ↔ Run d 179 2 [a0, a1, a2, a3] [.int 0, s0] M 0 0 Z := R_iconst (gd179 dX9_stretch_1) (by decide)
theorem z179_2 : Run d 179 2 [a0, a1, a2, a3] [s1, s0] M 0 0 Z ↔ Run d 179 3 [a0, a1, a2, a3] [.int 5, s1, s0] M 0 0 Z := R_iconst (gd179 dX9_stretch_2) (by decide)
theorem z179_3 : Run d 179 3 [a0, a1, a2, a3] [s2, s1, s0] M 0 0 Z ↔ Call d 120 [s0, s1, s2] M (fun r M1 => Run d 179 6 [a0, a1, a2, a3] (r.toList ++ []) M1 0 0 Z) := R_call (gd179 dX9_stretch_3) rfl rfl rfl rfl rfl rfl gc_9_157 rfl (by decide) (Nat.le_of_ble_eq_true rfl) (Nat.le_of_ble_eq_true rfl) rfl rfl rfl (Nat.le_of_ble_eq_true rfl) (Nat.le_of_ble_eq_true rfl)
theorem z179_6 : Run d 179 6 [a0, a1, a2, a3] [.int x] M 0 0 Z ↔ (x = 0 → Run d 179 29 [a0, a1, a2, a3] [] M 0 0 Z) ∧ (¬ (x = 0) → Run d 179 9 [a0, a1, a2, a3] [] M 0 0 Z) := R_if (gd179 dX9_stretch_6) (show gTgt 6 23 = some 29 by decide) gIf_eq
theorem z179_9 : Run d 179 9 [a0, a1, some (.int x), a3] [] M 0 0 Z ↔ Run d 179 10 [a0, a1, some (.int x), a3] [.int x] M 0 0 Z := R_local (gd179 dX9_stretch_9) rfl rfl rfl
theorem z179_10 : Run d 179 10 [a0, a1, a2, a3] [s0] M 0 0 Z ↔ Run d 179 11 [a0, a1, a2, a3] [.int 0, s0] M 0 0 Z := R_iconst (gd179 dX9_stretch_10) (by decide)
theorem z179_11 : Run d 179 11 [a0, a1, a2, a3] [s1, s0] M 0 0 Z ↔ Run d 179 13 [a0, a1, a2, a3] [.int 7, s1, s0] M 0 0 Z := R_bipush (gd179 dX9_stretch_11) (by decide)
theorem z179_13 : Run d 179 13 [a0, a1, a2, a3] [s2, s1, s0] M 0 0 Z ↔ Call d 120 [s0, s1, s2] M (fun r M1 => Run d 179 16 [a0, a1, a2, a3] (r.toList ++ []) M1 0 0 Z) := R_call (gd179 dX9_stretch_13) rfl rfl rfl rfl rfl rfl gc_9_157 rfl (by decide) (Nat.le_of_ble_eq_true rfl) (Nat.le_of_ble_eq_true rfl) rfl rfl rfl (Nat.le_of_ble_eq_true rfl) (Nat.le_of_ble_eq_true rfl)
theorem z179_16 : Run d 179 16 [a0, a1, a2, a3] [.int x] M 0 0 Z ↔ (x = 0 → Run d 179 29 [a0, a1, a2, a3] [] M 0 0 Z) ∧ (¬ (x = 0) → Run d 179 19 [a0, a1, a2, a3] [] M 0 0 Z) := R_if (gd179 dX9_stretch_16) (show gTgt 16 13 = some 29 by decide) gIf_eq
theorem z179_19 : Run d 179 19 [a0, a1, a2, some (.int x)] [] M 0 0 Z ↔ Run d 179 20 [a0, a1, a2, some (.int x)] [.int x] M 0 0 Z := R_local (gd179 dX9_stretch_19) rfl rfl rfl
theorem z179_20 : Run d 179 20 [a0, a1, a2, a3] [s0] M 0 0 Z ↔ Run d 179 21 [a0, a1, a2, a3] [.int 0, s0] M 0 0 Z := R_iconst (gd179 dX9_stretch_20) (by decide)
theorem z179_21 : Run d 179 21 [a0, a1, a2, a3] [s1, s0] M 0 0 Z ↔ Run d 179 23 [a0, a1, a2, a3] [.int 9, s1, s0] M 0 0 Z := R_bipush (gd179 dX9_stretch_21) (by decide)
theorem z179_23 : Run d 179 23 [a0, a1, a2, a3] [s2, s1, s0] M 0 0 Z ↔ Call d 120 [s0, s1, s2] M (fun r M1 => Run d 179 26 [a0, a1, a2, a3] (r.toList ++ []) M1 0 0 Z) := R_call (gd179 dX9_stretch_23) rfl rfl rfl rfl rfl rfl gc_9_157 rfl (by decide) (Nat.le_of_ble_eq_true rfl) (Nat.le_of_ble_eq_true rfl) rfl rfl rfl (Nat.le_of_ble_eq_true rfl) (Nat.le_of_ble_eq_true rfl)
theorem z179_26 : Run d 179 26 [a0, a1, a2, a3] [.int x] M 0 0 Z ↔ (¬ x = 0 → Run d 179 31 [a0, a1, a2, a3] [] M 0 0 Z) ∧ (¬ (¬ x = 0) → Run d 179 29 [a0, a1, a2, a3] [] M 0 0 Z) := R_if (gd179 dX9_stretch_26) (show gTgt 26 5 = some 31 by decide) gIf_ne
theorem z179_29 : Run d 179 29 [a0, a1, a2, a3] [] M 0 0 Z ↔ Run d 179 30 [a0, a1, a2, a3] [.int 0] M 0 0 Z := R_iconst (gd179 dX9_stretch_29) (by decide)
theorem z179_30 : Run d 179 30 [a0, a1, a2, a3] [.int x] M 0 0 Z ↔ (x = 0 ∨ x = 1) ∧ Z (some (.int x)) M := R_iretZ (gd179 dX9_stretch_30) rfl
theorem z179_31 : Run d 179 31 [some (.ref o), a1, a2, a3] [] M 0 0 Z ↔ Run d 179 32 [some (.ref o), a1, a2, a3] [.ref o] M 0 0 Z := R_local (gd179 dX9_stretch_31) rfl rfl rfl
theorem z179_32 : Run d 179 32 [a0, a1, a2, a3] [.ref o] M 0 0 Z ↔ gObj M o 9 ∧ Run d 179 35 [a0, a1, a2, a3] [va_rf (M.2.1 o 56)] M 0 0 Z := R_getR (gd179 dX9_stretch_32) rfl gf_9_114 rfl
theorem z179_35 : Run d 179 35 [a0, a1, a2, a3] [s0] M 0 0 Z ↔ Run d 179 37 [a0, a1, a2, a3] [.int 8, s0] M 0 0 Z := R_bipush (gd179 dX9_stretch_35) (by decide)
theorem z179_37 : Run d 179 37 [a0, some (.int x), a2, a3] [s1, s0] M 0 0 Z ↔ Run d 179 38 [a0, some (.int x), a2, a3] [.int x, s1, s0] M 0 0 Z := R_local (gd179 dX9_stretch_37) rfl rfl rfl
theorem z179_38 : Run d 179 38 [a0, a1, a2, a3] [.int y, .int x, s0] M 0 0 Z ↔ Run d 179 39 [a0, a1, a2, a3] [.int (x * y), s0] M 0 0 Z := R_arith (gd179 dX9_stretch_38) rfl
theorem z179_39 : Run d 179 39 [a0, a1, some (.int x), a3] [s1, s0] M 0 0 Z ↔ Run d 179 40 [a0, a1, some (.int x), a3] [.int x, s1, s0] M 0 0 Z := R_local (gd179 dX9_stretch_39) rfl rfl rfl
theorem z179_40 : Run d 179 40 [a0, a1, a2, a3] [.int y, .int x, s0] M 0 0 Z ↔ Run d 179 41 [a0, a1, a2, a3] [.int (x + y), s0] M 0 0 Z := R_arith (gd179 dX9_stretch_40) rfl
theorem z179_41 : Run d 179 41 [a0, a1, a2, some (.int x)] [s1, s0] M 0 0 Z ↔ Run d 179 42 [a0, a1, a2, some (.int x)] [.int x, s1, s0] M 0 0 Z := R_local (gd179 dX9_stretch_41) rfl rfl rfl
theorem z179_42 : Run d 179 42 [a0, a1, a2, a3] [.int y, .int x, .ref o] M 0 0 Z ↔ gAr M o 0 ∧ gIn x (gLen M o) = true ∧ Run d 179 43 [a0, a1, a2, a3] [] (gsI M o x.toNatClampNeg y) 0 0 Z := R_iast (gd179 dX9_stretch_42)
theorem z179_43 : Run d 179 43 [a0, a1, a2, a3] [] M 0 0 Z ↔ Run d 179 44 [a0, a1, a2, a3] [.int 1] M 0 0 Z := R_iconst (gd179 dX9_stretch_43) (by decide)
theorem z179_44 : Run d 179 44 [a0, a1, a2, a3] [.int x] M 0 0 Z ↔ (x = 0 ∨ x = 1) ∧ Z (some (.int x)) M := R_iretZ (gd179 dX9_stretch_44) rfl
theorem e179 : Call (d + 1) 179 [s0, s1, s2, s3] M Z ↔ Run d 179 0 [some s0, some s1, some s2, some s3] [] M 0 0 Z := Call_iff (Nat.lt_of_lt_of_le (Nat.lt_succ_self 179) (Nat.le_of_ble_eq_true rfl)) (Nat.le_of_ble_eq_true rfl)
/-! 180: X9_pullOf (IIZ)I -/
theorem gd180 {pc : Nat} {r : Except _ _} (h : decode cX9_pullOf pc = r) : decode (gby 180) pc = r := h
theorem z180_0 : Run d 180 0 [a0, a1, a2, a3, a4, a5, a6, a7, a8] [] M 0 0 Z ↔ Run d 180 1 [a0, a1, a2, a3, a4, a5, a6, a7, a8] [.int 0] M 0 0 Z := R_iconst (gd180 dX9_pullOf_0) (by decide)
theorem z180_1 : Run d 180 1 [a0, a1, a2, a3, a4, a5, a6, a7, a8] [.int x] M 0 0 Z ↔ Run d 180 3 [a0, a1, a2, a3, some (.int x), a5, a6, a7, a8] [] M 0 0 Z := R_local (gd180 dX9_pullOf_1) rfl rfl rfl
theorem z180_3 : Run d 180 3 [a0, a1, a2, a3, a4, a5, a6, a7, a8] [] M 0 0 Z ↔ Run d 180 4 [a0, a1, a2, a3, a4, a5, a6, a7, a8] [.int 0] M 0 0 Z := R_iconst (gd180 dX9_pullOf_3) (by decide)
theorem z180_4 : Run d 180 4 [a0, a1, a2, a3, a4, a5, a6, a7, a8] [.int x] M 0 0 Z ↔ Run d 180 6 [a0, a1, a2, a3, a4, some (.int x), a6, a7, a8] [] M 0 0 Z := R_local (gd180 dX9_pullOf_4) rfl rfl rfl
theorem z180_6 : Run d 180 6 [a0, a1, a2, a3, a4, some (.int x), a6, a7, a8] [] M 0 0 Z ↔ Run d 180 8 [a0, a1, a2, a3, a4, some (.int x), a6, a7, a8] [.int x] M 0 0 Z := R_local (gd180 dX9_pullOf_6) rfl rfl rfl
theorem z180_8 : Run d 180 8 [some (.ref o), a1, a2, a3, a4, a5, a6, a7, a8] [s0] M 0 0 Z ↔ Run d 180 9 [some (.ref o), a1, a2, a3, a4, a5, a6, a7, a8] [.ref o, s0] M 0 0 Z := R_local (gd180 dX9_pullOf_8) rfl rfl rfl
theorem z180_9 : Run d 180 9 [a0, a1, a2, a3, a4, a5, a6, a7, a8] [.ref o, s0] M 0 0 Z ↔ gObj M o 9 ∧ Run d 180 12 [a0, a1, a2, a3, a4, a5, a6, a7, a8] [va_rf (M.2.1 o 27), s0] M 0 0 Z := R_getR (gd180 dX9_pullOf_9) rfl gf_9_68 rfl
theorem z180_12 : Run d 180 12 [a0, a1, a2, a3, a4, a5, a6, a7, a8] [s1, s0] M 0 0 Z ↔ Run d 180 13 [a0, a1, a2, a3, a4, a5, a6, a7, a8] [.int 0, s1, s0] M 0 0 Z := R_iconst (gd180 dX9_pullOf_12) (by decide)
theorem z180_13 : Run d 180 13 [a0, a1, a2, a3, a4, a5, a6, a7, a8] [.int x, .ref o, s0] M 0 0 Z ↔ gAr M o 0 ∧ gIn x (gLen M o) = true ∧ Run d 180 14 [a0, a1, a2, a3, a4, a5, a6, a7, a8] [.int (M.1 o x.toNatClampNeg), s0] M 0 0 Z := R_iald (gd180 dX9_pullOf_13)
theorem z180_14 : Run d 180 14 [a0, a1, a2, a3, a4, a5, a6, a7, a8] [.int y, .int x] M 0 0 Z ↔ (y ≤ x → Run d 180 128 [a0, a1, a2, a3, a4, a5, a6, a7, a8] [] M 0 0 Z) ∧ (¬ (y ≤ x) → Run d 180 17 [a0, a1, a2, a3, a4, a5, a6, a7, a8] [] M 0 0 Z) := R_icmp (gd180 dX9_pullOf_14) (show gTgt 14 114 = some 128 by decide) gIf_ge
theorem z180_17 : Run d 180 17 [a0, a1, a2, a3, a4, a5, a6, a7, a8] [] M 0 0 Z ↔ Run d 180 18 [a0, a1, a2, a3, a4, a5, a6, a7, a8] [.int 0] M 0 0 Z := R_iconst (gd180 dX9_pullOf_17) (by decide)
theorem z180_18 : Run d 180 18 [a0, a1, a2, a3, a4, a5, a6, a7, a8] [.int x] M 0 0 Z ↔ Run d 180 20 [a0, a1, a2, a3, a4, a5, some (.int x), a7, a8] [] M 0 0 Z := R_local (gd180 dX9_pullOf_18) rfl rfl rfl
theorem z180_20 : Run d 180 20 [some (.ref o), a1, a2, a3, a4, a5, a6, a7, a8] [] M 0 0 Z ↔ Run d 180 21 [some (.ref o), a1, a2, a3, a4, a5, a6, a7, a8] [.ref o] M 0 0 Z := R_local (gd180 dX9_pullOf_20) rfl rfl rfl
theorem z180_21 : Run d 180 21 [a0, a1, a2, a3, a4, a5, a6, a7, a8] [.ref o] M 0 0 Z ↔ gObj M o 9 ∧ Run d 180 24 [a0, a1, a2, a3, a4, a5, a6, a7, a8] [va_rf (M.2.1 o 18)] M 0 0 Z := R_getR (gd180 dX9_pullOf_21) rfl gf_9_41 rfl
theorem z180_24 : Run d 180 24 [a0, a1, a2, a3, a4, some (.int x), a6, a7, a8] [s0] M 0 0 Z ↔ Run d 180 26 [a0, a1, a2, a3, a4, some (.int x), a6, a7, a8] [.int x, s0] M 0 0 Z := R_local (gd180 dX9_pullOf_24) rfl rfl rfl
theorem z180_26 : Run d 180 26 [a0, a1, a2, a3, a4, a5, a6, a7, a8] [.int x, .ref o] M 0 0 Z ↔ gAr M o 0 ∧ gIn x (gLen M o) = true ∧ Run d 180 27 [a0, a1, a2, a3, a4, a5, a6, a7, a8] [.int (M.1 o x.toNatClampNeg)] M 0 0 Z := R_iald (gd180 dX9_pullOf_26)
theorem z180_27 : Run d 180 27 [a0, a1, a2, a3, a4, a5, a6, a7, a8] [.int x] M 0 0 Z ↔ Run d 180 29 [a0, a1, a2, a3, a4, a5, a6, some (.int x), a8] [] M 0 0 Z := R_local (gd180 dX9_pullOf_27) rfl rfl rfl
theorem z180_29 : Run d 180 29 [a0, a1, a2, a3, a4, a5, a6, some (.int x), a8] [] M 0 0 Z ↔ Run d 180 31 [a0, a1, a2, a3, a4, a5, a6, some (.int x), a8] [.int x] M 0 0 Z := R_local (gd180 dX9_pullOf_29) rfl rfl rfl
theorem z180_31 : Run d 180 31 [some (.ref o), a1, a2, a3, a4, a5, a6, a7, a8] [s0] M 0 0 Z ↔ Run d 180 32 [some (.ref o), a1, a2, a3, a4, a5, a6, a7, a8] [.ref o, s0] M 0 0 Z := R_local (gd180 dX9_pullOf_31) rfl rfl rfl
theorem z180_32 : Run d 180 32 [a0, a1, a2, a3, a4, a5, a6, a7, a8] [.ref o, s0] M 0 0 Z ↔ gObj M o 9 ∧ Run d 180 35 [a0, a1, a2, a3, a4, a5, a6, a7, a8] [va_rf (M.2.1 o 18), s0] M 0 0 Z := R_getR (gd180 dX9_pullOf_32) rfl gf_9_41 rfl
theorem z180_35 : Run d 180 35 [a0, a1, a2, a3, a4, some (.int x), a6, a7, a8] [s1, s0] M 0 0 Z ↔ Run d 180 37 [a0, a1, a2, a3, a4, some (.int x), a6, a7, a8] [.int x, s1, s0] M 0 0 Z := R_local (gd180 dX9_pullOf_35) rfl rfl rfl
theorem z180_37 : Run d 180 37 [a0, a1, a2, a3, a4, a5, a6, a7, a8] [.int x, .ref o, s0] M 0 0 Z ↔ gAr M o 0 ∧ gIn x (gLen M o) = true ∧ Run d 180 38 [a0, a1, a2, a3, a4, a5, a6, a7, a8] [.int (M.1 o x.toNatClampNeg), s0] M 0 0 Z := R_iald (gd180 dX9_pullOf_37)
theorem z180_38 : Run d 180 38 [some (.ref o), a1, a2, a3, a4, a5, a6, a7, a8] [s1, s0] M 0 0 Z ↔ Run d 180 39 [some (.ref o), a1, a2, a3, a4, a5, a6, a7, a8] [.ref o, s1, s0] M 0 0 Z := R_local (gd180 dX9_pullOf_38) rfl rfl rfl
theorem z180_39 : Run d 180 39 [a0, a1, a2, a3, a4, a5, a6, a7, a8] [.ref o, s1, s0] M 0 0 Z ↔ gObj M o 9 ∧ Run d 180 42 [a0, a1, a2, a3, a4, a5, a6, a7, a8] [va_rf (M.2.1 o 22), s1, s0] M 0 0 Z := R_getR (gd180 dX9_pullOf_39) rfl gf_9_53 rfl
theorem z180_42 : Run d 180 42 [a0, a1, a2, a3, a4, some (.int x), a6, a7, a8] [s2, s1, s0] M 0 0 Z ↔ Run d 180 44 [a0, a1, a2, a3, a4, some (.int x), a6, a7, a8] [.int x, s2, s1, s0] M 0 0 Z := R_local (gd180 dX9_pullOf_42) rfl rfl rfl
theorem z180_44 : Run d 180 44 [a0, a1, a2, a3, a4, a5, a6, a7, a8] [.int x, .ref o, s1, s0] M 0 0 Z ↔ gAr M o 0 ∧ gIn x (gLen M o) = true ∧ Run d 180 45 [a0, a1, a2, a3, a4, a5, a6, a7, a8] [.int (M.1 o x.toNatClampNeg), s1, s0] M 0 0 Z := R_iald (gd180 dX9_pullOf_44)
theorem z180_45 : Run d 180 45 [a0, a1, a2, a3, a4, a5, a6, a7, a8] [.int y, .int x, s0] M 0 0 Z ↔ Run d 180 46 [a0, a1, a2, a3, a4, a5, a6, a7, a8] [.int (x + y), s0] M 0 0 Z := R_arith (gd180 dX9_pullOf_45) rfl
theorem z180_46 : Run d 180 46 [a0, a1, a2, a3, a4, a5, a6, a7, a8] [.int y, .int x] M 0 0 Z ↔ (y ≤ x → Run d 180 115 [a0, a1, a2, a3, a4, a5, a6, a7, a8] [] M 0 0 Z) ∧ (¬ (y ≤ x) → Run d 180 49 [a0, a1, a2, a3, a4, a5, a6, a7, a8] [] M 0 0 Z) := R_icmp (gd180 dX9_pullOf_46) (show gTgt 46 69 = some 115 by decide) gIf_ge
theorem z180_49 : Run d 180 49 [some (.ref o), a1, a2, a3, a4, a5, a6, a7, a8] [] M 0 0 Z ↔ Run d 180 50 [some (.ref o), a1, a2, a3, a4, a5, a6, a7, a8] [.ref o] M 0 0 Z := R_local (gd180 dX9_pullOf_49) rfl rfl rfl
theorem z180_50 : Run d 180 50 [a0, a1, a2, a3, a4, a5, a6, a7, a8] [.ref o] M 0 0 Z ↔ gObj M o 9 ∧ Run d 180 53 [a0, a1, a2, a3, a4, a5, a6, a7, a8] [va_rf (M.2.1 o 17)] M 0 0 Z := R_getR (gd180 dX9_pullOf_50) rfl gf_9_38 rfl
theorem z180_53 : Run d 180 53 [a0, a1, a2, a3, a4, some (.int x), a6, a7, a8] [s0] M 0 0 Z ↔ Run d 180 55 [a0, a1, a2, a3, a4, some (.int x), a6, a7, a8] [.int x, s0] M 0 0 Z := R_local (gd180 dX9_pullOf_53) rfl rfl rfl
theorem z180_55 : Run d 180 55 [a0, a1, a2, a3, a4, a5, a6, a7, a8] [.int x, .ref o] M 0 0 Z ↔ gAr M o 0 ∧ gIn x (gLen M o) = true ∧ Run d 180 56 [a0, a1, a2, a3, a4, a5, a6, a7, a8] [.int (M.1 o x.toNatClampNeg)] M 0 0 Z := R_iald (gd180 dX9_pullOf_55)
theorem z180_56 : Run d 180 56 [a0, a1, some (.int x), a3, a4, a5, a6, a7, a8] [s0] M 0 0 Z ↔ Run d 180 57 [a0, a1, some (.int x), a3, a4, a5, a6, a7, a8] [.int x, s0] M 0 0 Z := R_local (gd180 dX9_pullOf_56) rfl rfl rfl
theorem z180_57 : Run d 180 57 [a0, a1, a2, a3, a4, a5, a6, a7, a8] [.int y, .int x] M 0 0 Z ↔ (¬ x = y → Run d 180 115 [a0, a1, a2, a3, a4, a5, a6, a7, a8] [] M 0 0 Z) ∧ (¬ (¬ x = y) → Run d 180 60 [a0, a1, a2, a3, a4, a5, a6, a7, a8] [] M 0 0 Z) := R_icmp (gd180 dX9_pullOf_57) (show gTgt 57 58 = some 115 by decide) gIf_ne
theorem z180_60 : Run d 180 60 [a0, a1, a2, some (.int x), a4, a5, a6, a7, a8] [] M 0 0 Z ↔ Run d 180 61 [a0, a1, a2, some (.int x), a4, a5, a6, a7, a8] [.int x] M 0 0 Z := R_local (gd180 dX9_pullOf_60) rfl rfl rfl
theorem z180_61 : Run d 180 61 [a0, a1, a2, a3, a4, a5, a6, a7, a8] [.int x] M 0 0 Z ↔ (x = 0 → Run d 180 79 [a0, a1, a2, a3, a4, a5, a6, a7, a8] [] M 0 0 Z) ∧ (¬ (x = 0) → Run d 180 64 [a0, a1, a2, a3, a4, a5, a6, a7, a8] [] M 0 0 Z) := R_if (gd180 dX9_pullOf_61) (show gTgt 61 18 = some 79 by decide) gIf_eq
theorem z180_64 : Run d 180 64 [some (.ref o), a1, a2, a3, a4, a5, a6, a7, a8] [] M 0 0 Z ↔ Run d 180 65 [some (.ref o), a1, a2, a3, a4, a5, a6, a7, a8] [.ref o] M 0 0 Z := R_local (gd180 dX9_pullOf_64) rfl rfl rfl
theorem z180_65 : Run d 180 65 [a0, a1, a2, a3, a4, a5, a6, a7, a8] [.ref o] M 0 0 Z ↔ gObj M o 9 ∧ Run d 180 68 [a0, a1, a2, a3, a4, a5, a6, a7, a8] [va_rf (M.2.1 o 57)] M 0 0 Z := R_getR (gd180 dX9_pullOf_65) rfl gf_9_117 rfl
theorem z180_68 : Run d 180 68 [a0, a1, a2, a3, a4, a5, a6, a7, a8] [s0] M 0 0 Z ↔ Run d 180 70 [a0, a1, a2, a3, a4, a5, a6, a7, a8] [.int 8, s0] M 0 0 Z := R_bipush (gd180 dX9_pullOf_68) (by decide)
theorem z180_70 : Run d 180 70 [a0, some (.int x), a2, a3, a4, a5, a6, a7, a8] [s1, s0] M 0 0 Z ↔ Run d 180 71 [a0, some (.int x), a2, a3, a4, a5, a6, a7, a8] [.int x, s1, s0] M 0 0 Z := R_local (gd180 dX9_pullOf_70) rfl rfl rfl
theorem z180_71 : Run d 180 71 [a0, a1, a2, a3, a4, a5, a6, a7, a8] [.int y, .int x, s0] M 0 0 Z ↔ Run d 180 72 [a0, a1, a2, a3, a4, a5, a6, a7, a8] [.int (x * y), s0] M 0 0 Z := R_arith (gd180 dX9_pullOf_71) rfl
theorem z180_72 : Run d 180 72 [a0, a1, a2, a3, a4, a5, a6, some (.int x), a8] [s1, s0] M 0 0 Z ↔ Run d 180 74 [a0, a1, a2, a3, a4, a5, a6, some (.int x), a8] [.int x, s1, s0] M 0 0 Z := R_local (gd180 dX9_pullOf_72) rfl rfl rfl
theorem z180_74 : Run d 180 74 [a0, a1, a2, a3, a4, a5, a6, a7, a8] [.int y, .int x, s0] M 0 0 Z ↔ Run d 180 75 [a0, a1, a2, a3, a4, a5, a6, a7, a8] [.int (x + y), s0] M 0 0 Z := R_arith (gd180 dX9_pullOf_74) rfl
theorem z180_75 : Run d 180 75 [a0, a1, a2, a3, a4, a5, a6, a7, a8] [.int x, .ref o] M 0 0 Z ↔ gAr M o 0 ∧ gIn x (gLen M o) = true ∧ Run d 180 76 [a0, a1, a2, a3, a4, a5, a6, a7, a8] [.int (M.1 o x.toNatClampNeg)] M 0 0 Z := R_iald (gd180 dX9_pullOf_75)
theorem z180_76 : Run d 180 76 [a0, a1, a2, a3, a4, a5, a6, a7, a8] [s0] M 0 0 Z ↔ Run d 180 91 [a0, a1, a2, a3, a4, a5, a6, a7, a8] [s0] M 0 0 Z := R_goto (gd180 dX9_pullOf_76) (show gTgt 76 15 = some 91 by decide)
theorem z180_79 : Run d 180 79 [some (.ref o), a1, a2, a3, a4, a5, a6, a7, a8] [] M 0 0 Z ↔ Run d 180 80 [some (.ref o), a1, a2, a3, a4, a5, a6, a7, a8] [.ref o] M 0 0 Z := R_local (gd180 dX9_pullOf_79) rfl rfl rfl
theorem z180_80 : Run d 180 80 [a0, a1, a2, a3, a4, a5, a6, a7, a8] [.ref o] M 0 0 Z ↔ gObj M o 9 ∧ Run d 180 83 [a0, a1, a2, a3, a4, a5, a6, a7, a8] [va_rf (M.2.1 o 56)] M 0 0 Z := R_getR (gd180 dX9_pullOf_80) rfl gf_9_114 rfl
theorem z180_83 : Run d 180 83 [a0, a1, a2, a3, a4, a5, a6, a7, a8] [s0] M 0 0 Z ↔ Run d 180 85 [a0, a1, a2, a3, a4, a5, a6, a7, a8] [.int 8, s0] M 0 0 Z := R_bipush (gd180 dX9_pullOf_83) (by decide)
theorem z180_85 : Run d 180 85 [a0, some (.int x), a2, a3, a4, a5, a6, a7, a8] [s1, s0] M 0 0 Z ↔ Run d 180 86 [a0, some (.int x), a2, a3, a4, a5, a6, a7, a8] [.int x, s1, s0] M 0 0 Z := R_local (gd180 dX9_pullOf_85) rfl rfl rfl
theorem z180_86 : Run d 180 86 [a0, a1, a2, a3, a4, a5, a6, a7, a8] [.int y, .int x, s0] M 0 0 Z ↔ Run d 180 87 [a0, a1, a2, a3, a4, a5, a6, a7, a8] [.int (x * y), s0] M 0 0 Z := R_arith (gd180 dX9_pullOf_86) rfl
theorem z180_87 : Run d 180 87 [a0, a1, a2, a3, a4, a5, a6, some (.int x), a8] [s1, s0] M 0 0 Z ↔ Run d 180 89 [a0, a1, a2, a3, a4, a5, a6, some (.int x), a8] [.int x, s1, s0] M 0 0 Z := R_local (gd180 dX9_pullOf_87) rfl rfl rfl
theorem z180_89 : Run d 180 89 [a0, a1, a2, a3, a4, a5, a6, a7, a8] [.int y, .int x, s0] M 0 0 Z ↔ Run d 180 90 [a0, a1, a2, a3, a4, a5, a6, a7, a8] [.int (x + y), s0] M 0 0 Z := R_arith (gd180 dX9_pullOf_89) rfl
theorem z180_90 : Run d 180 90 [a0, a1, a2, a3, a4, a5, a6, a7, a8] [.int x, .ref o] M 0 0 Z ↔ gAr M o 0 ∧ gIn x (gLen M o) = true ∧ Run d 180 91 [a0, a1, a2, a3, a4, a5, a6, a7, a8] [.int (M.1 o x.toNatClampNeg)] M 0 0 Z := R_iald (gd180 dX9_pullOf_90)
theorem z180_91 : Run d 180 91 [a0, a1, a2, a3, a4, a5, a6, a7, a8] [.int x] M 0 0 Z ↔ Run d 180 93 [a0, a1, a2, a3, a4, a5, a6, a7, some (.int x)] [] M 0 0 Z := R_local (gd180 dX9_pullOf_91) rfl rfl rfl
theorem z180_93 : Run d 180 93 [a0, a1, a2, a3, a4, a5, a6, a7, some (.int x)] [] M 0 0 Z ↔ Run d 180 95 [a0, a1, a2, a3, a4, a5, a6, a7, some (.int x)] [.int x] M 0 0 Z := R_local (gd180 dX9_pullOf_93) rfl rfl rfl
theorem z180_95 : Run d 180 95 [a0, a1, a2, a3, a4, a5, some (.int x), a7, a8] [s0] M 0 0 Z ↔ Run d 180 97 [a0, a1, a2, a3, a4, a5, some (.int x), a7, a8] [.int x, s0] M 0 0 Z := R_local (gd180 dX9_pullOf_95) rfl rfl rfl
theorem z180_97 : Run d 180 97 [a0, a1, a2, a3, a4, a5, a6, a7, a8] [.int y, .int x] M 0 0 Z ↔ (x ≤ y → Run d 180 105 [a0, a1, a2, a3, a4, a5, a6, a7, a8] [] M 0 0 Z) ∧ (¬ (x ≤ y) → Run d 180 100 [a0, a1, a2, a3, a4, a5, a6, a7, a8] [] M 0 0 Z) := R_icmp (gd180 dX9_pullOf_97) (show gTgt 97 8 = some 105 by decide) gIf_le
theorem z180_100 : Run d 180 100 [a0, a1, a2, a3, a4, a5, a6, a7, some (.int x)] [] M 0 0 Z ↔ Run d 180 102 [a0, a1, a2, a3, a4, a5, a6, a7, some (.int x)] [.int x] M 0 0 Z := R_local (gd180 dX9_pullOf_100) rfl rfl rfl
theorem z180_102 : Run d 180 102 [a0, a1, a2, a3, a4, a5, a6, a7, a8] [s0] M 0 0 Z ↔ Run d 180 107 [a0, a1, a2, a3, a4, a5, a6, a7, a8] [s0] M 0 0 Z := R_goto (gd180 dX9_pullOf_102) (show gTgt 102 5 = some 107 by decide)
theorem z180_105 : Run d 180 105 [a0, a1, a2, a3, a4, a5, some (.int x), a7, a8] [] M 0 0 Z ↔ Run d 180 107 [a0, a1, a2, a3, a4, a5, some (.int x), a7, a8] [.int x] M 0 0 Z := R_local (gd180 dX9_pullOf_105) rfl rfl rfl
theorem z180_107 : Run d 180 107 [a0, a1, a2, a3, a4, a5, a6, a7, a8] [.int x] M 0 0 Z ↔ Run d 180 109 [a0, a1, a2, a3, a4, a5, some (.int x), a7, a8] [] M 0 0 Z := R_local (gd180 dX9_pullOf_107) rfl rfl rfl
theorem z180_109 : Run d 180 109 [a0, a1, a2, a3, a4, a5, a6, some (.int x), a8] [] M 0 0 Z ↔ Run d 180 112 [a0, a1, a2, a3, a4, a5, a6, some (.int (x + 1)), a8] [] M 0 0 Z := R_iinc (gd180 dX9_pullOf_109) (by decide) rfl rfl
theorem z180_112 : Run d 180 112 [a0, a1, a2, a3, a4, a5, a6, a7, a8] [] M 0 0 Z ↔ Run d 180 29 [a0, a1, a2, a3, a4, a5, a6, a7, a8] [] M 0 0 Z := R_goto (gd180 dX9_pullOf_112) (show gTgt 112 (-83) = some 29 by decide)
theorem z180_115 : Run d 180 115 [a0, a1, a2, a3, some (.int x), a5, a6, a7, a8] [] M 0 0 Z ↔ Run d 180 117 [a0, a1, a2, a3, some (.int x), a5, a6, a7, a8] [.int x] M 0 0 Z := R_local (gd180 dX9_pullOf_115) rfl rfl rfl
theorem z180_117 : Run d 180 117 [a0, a1, a2, a3, a4, a5, some (.int x), a7, a8] [s0] M 0 0 Z ↔ Run d 180 119 [a0, a1, a2, a3, a4, a5, some (.int x), a7, a8] [.int x, s0] M 0 0 Z := R_local (gd180 dX9_pullOf_117) rfl rfl rfl
theorem z180_119 : Run d 180 119 [a0, a1, a2, a3, a4, a5, a6, a7, a8] [.int y, .int x] M 0 0 Z ↔ Run d 180 120 [a0, a1, a2, a3, a4, a5, a6, a7, a8] [.int (x + y)] M 0 0 Z := R_arith (gd180 dX9_pullOf_119) rfl
theorem z180_120 : Run d 180 120 [a0, a1, a2, a3, a4, a5, a6, a7, a8] [.int x] M 0 0 Z ↔ Run d 180 122 [a0, a1, a2, a3, some (.int x), a5, a6, a7, a8] [] M 0 0 Z := R_local (gd180 dX9_pullOf_120) rfl rfl rfl
theorem z180_122 : Run d 180 122 [a0, a1, a2, a3, a4, some (.int x), a6, a7, a8] [] M 0 0 Z ↔ Run d 180 125 [a0, a1, a2, a3, a4, some (.int (x + 1)), a6, a7, a8] [] M 0 0 Z := R_iinc (gd180 dX9_pullOf_122) (by decide) rfl rfl
theorem z180_125 : Run d 180 125 [a0, a1, a2, a3, a4, a5, a6, a7, a8] [] M 0 0 Z ↔ Run d 180 6 [a0, a1, a2, a3, a4, a5, a6, a7, a8] [] M 0 0 Z := R_goto (gd180 dX9_pullOf_125) (show gTgt 125 (-119) = some 6 by decide)
theorem z180_128 : Run d 180 128 [a0, a1, a2, a3, some (.int x), a5, a6, a7, a8] [] M 0 0 Z ↔ Run d 180 130 [a0, a1, a2, a3, some (.int x), a5, a6, a7, a8] [.int x] M 0 0 Z := R_local (gd180 dX9_pullOf_128) rfl rfl rfl
theorem z180_130 : Run d 180 130 [a0, a1, a2, a3, a4, a5, a6, a7, a8] [.int x] M 0 0 Z ↔ Z (some (.int x)) M := R_iret (gd180 dX9_pullOf_130) rfl
theorem e180 : Call (d + 1) 180 [s0, s1, s2, s3] M Z ↔ Run d 180 0 [some s0, some s1, some s2, some s3, none, none, none, none, none] [] M 0 0 Z := Call_iff (Nat.lt_of_lt_of_le (Nat.lt_succ_self 180) (Nat.le_of_ble_eq_true rfl)) (Nat.le_of_ble_eq_true rfl)
end
