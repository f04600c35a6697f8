/-! Literals as numbers. -/
theorem nl_0 : (0 : Int32) = nI 0 := rfl
theorem nl_1 : (1 : Int32) = nI 1 := rfl
theorem nl_2 : (2 : Int32) = nI 2 := rfl
theorem nl_3 : (3 : Int32) = nI 3 := rfl
theorem nl_4 : (4 : Int32) = nI 4 := rfl
theorem nl_5 : (5 : Int32) = nI 5 := rfl
theorem nl_6 : (6 : Int32) = nI 6 := rfl
theorem nl_7 : (7 : Int32) = nI 7 := rfl
theorem nl_8 : (8 : Int32) = nI 8 := rfl
theorem nl_9 : (9 : Int32) = nI 9 := rfl
theorem nl_10 : (10 : Int32) = nI 10 := rfl
theorem nl_20 : (20 : Int32) = nI 20 := rfl
theorem nl_26 : (26 : Int32) = nI 26 := rfl
theorem nl_40 : (40 : Int32) = nI 40 := rfl
theorem nl_48 : (48 : Int32) = nI 48 := rfl
theorem nl_58 : (58 : Int32) = nI 58 := rfl
theorem nl_64 : (64 : Int32) = nI 64 := rfl
theorem nl_91 : (91 : Int32) = nI 91 := rfl
theorem nl_93 : (93 : Int32) = nI 93 := rfl
theorem nl_100 : (100 : Int32) = nI 100 := rfl
theorem nl_101 : (101 : Int32) = nI 101 := rfl
theorem nl_120 : (120 : Int32) = nI 120 := rfl
theorem nl_128 : (128 : Int32) = nI 128 := rfl
theorem nl_200 : (200 : Int32) = nI 200 := rfl
theorem nl_248 : (248 : Int32) = nI 248 := rfl
theorem nl_255 : (255 : Int32) = nI 255 := rfl
theorem nl_256 : (256 : Int32) = nI 256 := rfl
theorem nl_400 : (400 : Int32) = nI 400 := rfl
theorem nl_2000 : (2000 : Int32) = nI 2000 := rfl
theorem nl_2001 : (2001 : Int32) = nI 2001 := rfl
theorem ti_0 : (0 : Int32).toInt = 0 := by decide
theorem ti_1 : (1 : Int32).toInt = 1 := by decide
theorem ti_2 : (2 : Int32).toInt = 2 := by decide
theorem ti_3 : (3 : Int32).toInt = 3 := by decide
theorem ti_4 : (4 : Int32).toInt = 4 := by decide
theorem ti_5 : (5 : Int32).toInt = 5 := by decide
theorem ti_6 : (6 : Int32).toInt = 6 := by decide
theorem ti_7 : (7 : Int32).toInt = 7 := by decide
theorem ti_8 : (8 : Int32).toInt = 8 := by decide
theorem ti_9 : (9 : Int32).toInt = 9 := by decide
theorem ti_10 : (10 : Int32).toInt = 10 := by decide
theorem ti_11 : (11 : Int32).toInt = 11 := by decide
theorem ti_12 : (12 : Int32).toInt = 12 := by decide
theorem ti_13 : (13 : Int32).toInt = 13 := by decide
theorem ti_14 : (14 : Int32).toInt = 14 := by decide
theorem ti_15 : (15 : Int32).toInt = 15 := by decide
theorem ti_16 : (16 : Int32).toInt = 16 := by decide
theorem ti_17 : (17 : Int32).toInt = 17 := by decide
theorem ti_18 : (18 : Int32).toInt = 18 := by decide
theorem ti_19 : (19 : Int32).toInt = 19 := by decide
theorem ti_20 : (20 : Int32).toInt = 20 := by decide
theorem ti_21 : (21 : Int32).toInt = 21 := by decide
theorem ti_22 : (22 : Int32).toInt = 22 := by decide
theorem ti_23 : (23 : Int32).toInt = 23 := by decide
theorem ti_24 : (24 : Int32).toInt = 24 := by decide
theorem ti_25 : (25 : Int32).toInt = 25 := by decide
theorem ti_26 : (26 : Int32).toInt = 26 := by decide
theorem ti_27 : (27 : Int32).toInt = 27 := by decide
theorem ti_28 : (28 : Int32).toInt = 28 := by decide
theorem ti_29 : (29 : Int32).toInt = 29 := by decide
theorem ti_30 : (30 : Int32).toInt = 30 := by decide
theorem ti_31 : (31 : Int32).toInt = 31 := by decide
theorem ti_32 : (32 : Int32).toInt = 32 := by decide
theorem ti_33 : (33 : Int32).toInt = 33 := by decide
theorem ti_34 : (34 : Int32).toInt = 34 := by decide
theorem ti_35 : (35 : Int32).toInt = 35 := by decide
theorem ti_36 : (36 : Int32).toInt = 36 := by decide
theorem ti_37 : (37 : Int32).toInt = 37 := by decide
theorem ti_38 : (38 : Int32).toInt = 38 := by decide
theorem ti_39 : (39 : Int32).toInt = 39 := by decide
theorem ti_40 : (40 : Int32).toInt = 40 := by decide
theorem ti_41 : (41 : Int32).toInt = 41 := by decide
theorem ti_42 : (42 : Int32).toInt = 42 := by decide
theorem ti_43 : (43 : Int32).toInt = 43 := by decide
theorem ti_44 : (44 : Int32).toInt = 44 := by decide
theorem ti_45 : (45 : Int32).toInt = 45 := by decide
theorem ti_46 : (46 : Int32).toInt = 46 := by decide
theorem ti_47 : (47 : Int32).toInt = 47 := by decide
theorem ti_48 : (48 : Int32).toInt = 48 := by decide
theorem ti_49 : (49 : Int32).toInt = 49 := by decide
theorem ti_50 : (50 : Int32).toInt = 50 := by decide
theorem ti_51 : (51 : Int32).toInt = 51 := by decide
theorem ti_52 : (52 : Int32).toInt = 52 := by decide
theorem ti_53 : (53 : Int32).toInt = 53 := by decide
theorem ti_54 : (54 : Int32).toInt = 54 := by decide
theorem ti_55 : (55 : Int32).toInt = 55 := by decide
theorem ti_56 : (56 : Int32).toInt = 56 := by decide
theorem ti_57 : (57 : Int32).toInt = 57 := by decide
theorem ti_58 : (58 : Int32).toInt = 58 := by decide
theorem ti_59 : (59 : Int32).toInt = 59 := by decide
theorem ti_60 : (60 : Int32).toInt = 60 := by decide
theorem ti_61 : (61 : Int32).toInt = 61 := by decide
theorem ti_62 : (62 : Int32).toInt = 62 := by decide
theorem ti_63 : (63 : Int32).toInt = 63 := by decide
theorem ti_64 : (64 : Int32).toInt = 64 := by decide
theorem ti_65 : (65 : Int32).toInt = 65 := by decide
theorem ti_66 : (66 : Int32).toInt = 66 := by decide
theorem ti_67 : (67 : Int32).toInt = 67 := by decide
theorem ti_68 : (68 : Int32).toInt = 68 := by decide
theorem ti_69 : (69 : Int32).toInt = 69 := by decide
theorem ti_70 : (70 : Int32).toInt = 70 := by decide
theorem ti_71 : (71 : Int32).toInt = 71 := by decide
theorem ti_72 : (72 : Int32).toInt = 72 := by decide
theorem ti_73 : (73 : Int32).toInt = 73 := by decide
theorem ti_74 : (74 : Int32).toInt = 74 := by decide
theorem ti_75 : (75 : Int32).toInt = 75 := by decide
theorem ti_76 : (76 : Int32).toInt = 76 := by decide
theorem ti_77 : (77 : Int32).toInt = 77 := by decide
theorem ti_78 : (78 : Int32).toInt = 78 := by decide
theorem ti_79 : (79 : Int32).toInt = 79 := by decide
theorem ti_80 : (80 : Int32).toInt = 80 := by decide
theorem ti_81 : (81 : Int32).toInt = 81 := by decide
theorem ti_82 : (82 : Int32).toInt = 82 := by decide
theorem ti_83 : (83 : Int32).toInt = 83 := by decide
theorem ti_84 : (84 : Int32).toInt = 84 := by decide
theorem ti_85 : (85 : Int32).toInt = 85 := by decide
theorem ti_86 : (86 : Int32).toInt = 86 := by decide
theorem ti_87 : (87 : Int32).toInt = 87 := by decide
theorem ti_88 : (88 : Int32).toInt = 88 := by decide
theorem ti_89 : (89 : Int32).toInt = 89 := by decide
theorem ti_90 : (90 : Int32).toInt = 90 := by decide
theorem ti_91 : (91 : Int32).toInt = 91 := by decide
theorem ti_92 : (92 : Int32).toInt = 92 := by decide
theorem ti_93 : (93 : Int32).toInt = 93 := by decide
theorem ti_94 : (94 : Int32).toInt = 94 := by decide
theorem ti_95 : (95 : Int32).toInt = 95 := by decide
theorem ti_96 : (96 : Int32).toInt = 96 := by decide
theorem ti_97 : (97 : Int32).toInt = 97 := by decide
theorem ti_98 : (98 : Int32).toInt = 98 := by decide
theorem ti_99 : (99 : Int32).toInt = 99 := by decide
theorem ti_100 : (100 : Int32).toInt = 100 := by decide
theorem ti_101 : (101 : Int32).toInt = 101 := by decide
theorem ti_102 : (102 : Int32).toInt = 102 := by decide
theorem ti_103 : (103 : Int32).toInt = 103 := by decide
theorem ti_104 : (104 : Int32).toInt = 104 := by decide
theorem ti_105 : (105 : Int32).toInt = 105 := by decide
theorem ti_106 : (106 : Int32).toInt = 106 := by decide
theorem ti_107 : (107 : Int32).toInt = 107 := by decide
theorem ti_108 : (108 : Int32).toInt = 108 := by decide
theorem ti_109 : (109 : Int32).toInt = 109 := by decide
theorem ti_110 : (110 : Int32).toInt = 110 := by decide
theorem ti_111 : (111 : Int32).toInt = 111 := by decide
theorem ti_112 : (112 : Int32).toInt = 112 := by decide
theorem ti_113 : (113 : Int32).toInt = 113 := by decide
theorem ti_114 : (114 : Int32).toInt = 114 := by decide
theorem ti_115 : (115 : Int32).toInt = 115 := by decide
theorem ti_116 : (116 : Int32).toInt = 116 := by decide
theorem ti_117 : (117 : Int32).toInt = 117 := by decide
theorem ti_118 : (118 : Int32).toInt = 118 := by decide
theorem ti_119 : (119 : Int32).toInt = 119 := by decide
theorem ti_120 : (120 : Int32).toInt = 120 := by decide
theorem ti_121 : (121 : Int32).toInt = 121 := by decide
theorem ti_122 : (122 : Int32).toInt = 122 := by decide
theorem ti_123 : (123 : Int32).toInt = 123 := by decide
theorem ti_124 : (124 : Int32).toInt = 124 := by decide
theorem ti_125 : (125 : Int32).toInt = 125 := by decide
theorem ti_126 : (126 : Int32).toInt = 126 := by decide
theorem ti_127 : (127 : Int32).toInt = 127 := by decide
theorem ti_128 : (128 : Int32).toInt = 128 := by decide
theorem ti_129 : (129 : Int32).toInt = 129 := by decide
theorem ti_200 : (200 : Int32).toInt = 200 := by decide
theorem ti_248 : (248 : Int32).toInt = 248 := by decide
theorem ti_255 : (255 : Int32).toInt = 255 := by decide
theorem ti_256 : (256 : Int32).toInt = 256 := by decide
theorem ti_400 : (400 : Int32).toInt = 400 := by decide
theorem ti_1000 : (1000 : Int32).toInt = 1000 := by decide
theorem ti_2000 : (2000 : Int32).toInt = 2000 := by decide
theorem ti_2001 : (2001 : Int32).toInt = 2001 := by decide
theorem ti_1000000 : (1000000 : Int32).toInt = 1000000 := by decide
theorem tj_1 : (-1 : Int32).toInt = -1 := by decide
theorem tj_2 : (-2 : Int32).toInt = -2 := by decide
theorem tj_8 : (-8 : Int32).toInt = -8 := by decide
theorem tj_10 : (-10 : Int32).toInt = -10 := by decide
theorem tj_1000 : (-1000 : Int32).toInt = -1000 := by decide
theorem tc_0 : (0 : Int32).toNatClampNeg = 0 := by decide
theorem tc_1 : (1 : Int32).toNatClampNeg = 1 := by decide
theorem tc_2 : (2 : Int32).toNatClampNeg = 2 := by decide
theorem tc_3 : (3 : Int32).toNatClampNeg = 3 := by decide
theorem tc_4 : (4 : Int32).toNatClampNeg = 4 := by decide
theorem tc_5 : (5 : Int32).toNatClampNeg = 5 := by decide
theorem tc_6 : (6 : Int32).toNatClampNeg = 6 := by decide
theorem tc_7 : (7 : Int32).toNatClampNeg = 7 := by decide
theorem tc_8 : (8 : Int32).toNatClampNeg = 8 := by decide
theorem zc_0 : ((0 : Nat) : Int) = 0 := rfl
theorem zc_1 : ((1 : Nat) : Int) = 1 := rfl
theorem zc_2 : ((2 : Nat) : Int) = 2 := rfl
theorem zc_3 : ((3 : Nat) : Int) = 3 := rfl
theorem zc_4 : ((4 : Nat) : Int) = 4 := rfl
theorem zc_5 : ((5 : Nat) : Int) = 5 := rfl
theorem zc_6 : ((6 : Nat) : Int) = 6 := rfl
theorem zc_8 : ((8 : Nat) : Int) = 8 := rfl
theorem zc_9 : ((9 : Nat) : Int) = 9 := rfl
theorem zc_10 : ((10 : Nat) : Int) = 10 := rfl
theorem zc_32 : ((32 : Nat) : Int) = 32 := rfl
theorem zc_36 : ((36 : Nat) : Int) = 36 := rfl
theorem zc_48 : ((48 : Nat) : Int) = 48 := rfl
theorem zc_64 : ((64 : Nat) : Int) = 64 := rfl
theorem zc_80 : ((80 : Nat) : Int) = 80 := rfl
theorem zc_120 : ((120 : Nat) : Int) = 120 := rfl
theorem zc_128 : ((128 : Nat) : Int) = 128 := rfl
theorem zc_248 : ((248 : Nat) : Int) = 248 := rfl
theorem zc_320 : ((320 : Nat) : Int) = 320 := rfl
theorem zc_400 : ((400 : Nat) : Int) = 400 := rfl
theorem zc_800 : ((800 : Nat) : Int) = 800 := rfl
theorem zc_1200 : ((1200 : Nat) : Int) = 1200 := rfl
theorem zc_2001 : ((2001 : Nat) : Int) = 2001 := rfl
theorem zc_4002 : ((4002 : Nat) : Int) = 4002 := rfl
theorem nI_mul (a b : Nat) : nI a * nI b = nI (a * b) := pk_mul a b
theorem nI_subn {a b : Nat} (h : b ≤ a) : nI a - nI b = nI (a - b) := pk_sub h
theorem nI_cl {n : Nat} (h : n < 2 ^ 31) : (nI n).toNatClampNeg = n := nI_clamp h
theorem nI_inj {a b : Nat} (ha : a < 2 ^ 31) (hb : b < 2 ^ 31) (h : nI a = nI b) : a = b := (nI_eq ha hb).mp h
theorem nI_ofInt {x : Int32} (h : 0 ≤ x.toInt) : x = nI x.toInt.toNat := by
  apply Int32.toInt_inj.mp
  have h2 : x.toInt < 2 ^ 31 := Int32.toInt_lt x
  rw [nI_toInt (by omega)]
  omega
theorem nI_of_lt {x : Int32} {n : Nat} (h : 0 ≤ x.toInt) (h2 : x.toInt < n) : ∃ k : Nat, k < n ∧ x = nI k := ⟨x.toInt.toNat, by omega, nI_ofInt h⟩
theorem clamp_toInt (x : Int32) : x.toNatClampNeg = x.toInt.toNat := rfl
