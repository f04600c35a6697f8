/-! Layers: the walks over an act's layers. -/
/-- a layer by its fields: act, lowest ring, sector, first cell, cells, rows, side, pins -/
def lOk (q : Nat → Nat) : Prop := q 0 ≤ 2000000 ∧ q 1 + q 5 ≤ 8 ∧ 1 ≤ q 5 ∧ q 2 < 8 ∧ q 3 ≤ 2000 ∧ q 4 ≤ 2000 ∧ q 6 ≤ 1 ∧ q 7 ≤ 2000
def xLs (M : gM) (L n : Nat) (ly : Nat → Nat → Nat) : Prop := M.1 L 8 = nI n ∧ n ≤ 400 ∧ ∀ k, k < n → lOk (ly k) ∧ ∀ f, f < 8 → M.1 (L + 1 + f) k = nI (ly k f)
def nLies (q : Nat → Nat) (r s : Nat) : Prop := q 2 = s ∧ q 1 ≤ r ∧ r < q 1 + q 5
theorem xLs_f {M : gM} {L n : Nat} {ly : Nat → Nat → Nat} (h : xLs M L n ly) {k f o : Nat} (hk : k < n) (hf : f < 8) (ho : o = L + 1 + f) : M.1 o k = nI (ly k f) := by subst ho; exact (h.2.2 k hk).2 f hf
theorem nMx_lt {a b : Nat} (ha : a < 2 ^ 31) (hb : b < 2 ^ 31) : (if nI a < nI b then nI b else nI a) = nI (max a b) := by
  by_cases h : a < b
  · rw [if_pos ((nI_ltI ha hb).mpr h), Nat.max_eq_right (by omega)]
  · rw [if_neg (fun q => h ((nI_ltI ha hb).mp q)), Nat.max_eq_left (by omega)]
theorem nMx_lti {a b : Nat} (ha : a < 2 ^ 31) (hb : b < 2 ^ 31) : (if (nI a).toInt < (nI b).toInt then nI b else nI a) = nI (max a b) := by
  rw [nI_toInt ha, nI_toInt hb]
  by_cases h : a < b
  · rw [if_pos (by omega), Nat.max_eq_right (by omega)]
  · rw [if_neg (by omega), Nat.max_eq_left (by omega)]
def nMxI (f : Nat → Nat) (init lo : Nat) : Nat → Nat
  | 0 => init
  | c + 1 => max (nMxI f init lo c) (f (lo + c))
theorem nMxI_le {f : Nat → Nat} {init lo B : Nat} (hi : init ≤ B) : ∀ c, (∀ r, r < lo + c → f r ≤ B) → nMxI f init lo c ≤ B
  | 0, _ => hi
  | c + 1, h => by
    have h1 := nMxI_le (lo := lo) hi c (fun r hr => h r (by omega))
    have h2 := h (lo + c) (by omega)
    show max _ _ ≤ B
    omega
def nPull (ly : Nat → Nat → Nat) (st : Nat → Nat) (a : Nat) : Nat → Nat
  | 0 => 0
  | c + 1 => nPull ly st a c + nMxI st 0 (ly (a + c) 1) (ly (a + c) 5)
def nFirst (P : Nat → Prop) [DecidablePred P] : Nat → Nat → Nat
  | 0, cur => cur
  | k + 1, cur => if P k then nFirst P k k else cur
theorem nI_e1 {e : Nat} (h : e ≤ 2000) : (nI e - 1).toInt = (e : Int) - 1 := by
  cases e with
  | zero => rw [nI_0m]; rfl
  | succ k => rw [nI_s1, nI_ti (by omega)]; omega
section
variable {d L n k : Nat} {M : gM} {Z : Option Value → gM → Prop} {i r s x a : Int32} {ly : Nat → Nat → Nat}
theorem xL_o (hx : XR M) (hL : isL L) : gObj M L 4 := by rcases hL with rfl | rfl; exact xo16 hx; exact xo27 hx
theorem s_lastOf1 (hx : XR M) (hL : isL L) (hn : M.1 L 8 = nI n) (h4 : n ≤ 400) (P : Nat → Prop) [DecidablePred P] (hP : ∀ k, k < n → (P k ↔ M.1 (L + 1) k = a)) : ∀ k, k ≤ n → (Run (d + 2) 52 7 [some (.ref L), some (.int a), some (.int (nI k - 1))] [] M 0 0 Z ↔ Z (some (.int (oI (nLast P k)))) M)
  | 0, _ => by
    rw [nI_0m, z52_7, z52_8]
    simp only [z52_28, z52_29, gIn_toInt, nI_toInt, Nat.reduceLT, Nat.reducePow, va_rf_none, va_rf_some, gObj_sI, gObj_sR, gAr_sI, gAr_sR, gLen_sI, gLen_sR, gsI_1, gsI_2, gsR_1, gsR_2, gU_ref, gU_null, gU_rf, gisRef_ref, gisRef_null, gisRef_rf, Option.toList_some, Option.toList_none, List.cons_append, List.nil_append, true_and, and_true, false_and, and_false, ↓reduceIte, if_true, if_false, Nat.reduceEqDiff, Nat.reduceAdd, Nat.reduceMul, Nat.reduceSub, Nat.reduceLeDiff, reduceCtorEq, not_true_eq_false, not_false_eq_true, true_imp_iff, false_imp_iff, zc_0, zc_1, zc_2, zc_3, zc_4, zc_5, zc_6, zc_8, zc_9, zc_10, zc_32, zc_36, zc_48, zc_64, zc_80, zc_120, zc_128, zc_248, zc_320, zc_400, zc_800, zc_1200, zc_2001, zc_4002, Int.reduceLT, Int.reduceLE, Int.reduceNeg, Nat.zero_ne_one, Nat.one_ne_zero, or_true, true_or, or_false, false_or, ti_0, ti_1, ti_2, ti_3, ti_4, ti_5, ti_6, ti_7, ti_8, ti_9, ti_10, ti_11, ti_12, ti_13, ti_14, ti_15, ti_16, ti_17, ti_18, ti_19, ti_20, ti_21, ti_22, ti_23, ti_24, ti_25, ti_26, ti_27, ti_28, ti_29, ti_30, ti_31, ti_32, ti_33, ti_34, ti_35, ti_36, ti_37, ti_38, ti_39, ti_40, ti_41, ti_42, ti_43, ti_44, ti_45, ti_46, ti_47, ti_48, ti_49, ti_50, ti_51, ti_52, ti_53, ti_54, ti_55, ti_56, ti_57, ti_58, ti_59, ti_60, ti_61, ti_62, ti_63, ti_64, ti_65, ti_66, ti_67, ti_68, ti_69, ti_70, ti_71, ti_72, ti_73, ti_74, ti_75, ti_76, ti_77, ti_78, ti_79, ti_80, ti_81, ti_82, ti_83, ti_84, ti_85, ti_86, ti_87, ti_88, ti_89, ti_90, ti_91, ti_92, ti_93, ti_94, ti_95, ti_96, ti_97, ti_98, ti_99, ti_100, ti_101, ti_102, ti_103, ti_104, ti_105, ti_106, ti_107, ti_108, ti_109, ti_110, ti_111, ti_112, ti_113, ti_114, ti_115, ti_116, ti_117, ti_118, ti_119, ti_120, ti_121, ti_122, ti_123, ti_124, ti_125, ti_126, ti_127, ti_128, ti_129, ti_200, ti_248, ti_255, ti_256, ti_400, ti_1000, ti_2000, ti_2001, ti_1000000, tj_1, tj_2, tj_8, tj_10, tj_1000, tc_0, tc_1, tc_2, tc_3, tc_4, tc_5, tc_6, tc_7, tc_8, i32_lt, i32_le, nLast, oI]
  | k + 1, hk => by
    have ih := s_lastOf1 hx hL hn h4 P hP k (by omega)
    have h6 := nI_ti (show k ≤ 2000 by omega)
    have h7 : ¬ (k : Int) < 0 := by omega
    have hl := fun Z => s_actOf (d := d) (Z := Z) hx hL hn h4 (show k < n by omega)
    have hi : nI k + -1 = nI k - 1 := by rw [Int32.sub_eq_add_neg]
    rw [nI_s1, z52_7, z52_8]
    have ho := xL_o hx hL
    have hp2 := hP k (by omega)
    by_cases hp : P k
    · have hq := hp2.mp hp
      simp only [z52_11, z52_12, z52_13, z52_16, z52_17, z52_20, z52_21, z52_22, z52_25, gIn_toInt, nI_toInt, Nat.reduceLT, Nat.reducePow, va_rf_none, va_rf_some, gObj_sI, gObj_sR, gAr_sI, gAr_sR, gLen_sI, gLen_sR, gsI_1, gsI_2, gsR_1, gsR_2, gU_ref, gU_null, gU_rf, gisRef_ref, gisRef_null, gisRef_rf, Option.toList_some, Option.toList_none, List.cons_append, List.nil_append, true_and, and_true, false_and, and_false, ↓reduceIte, if_true, if_false, Nat.reduceEqDiff, Nat.reduceAdd, Nat.reduceMul, Nat.reduceSub, Nat.reduceLeDiff, reduceCtorEq, not_true_eq_false, not_false_eq_true, true_imp_iff, false_imp_iff, zc_0, zc_1, zc_2, zc_3, zc_4, zc_5, zc_6, zc_8, zc_9, zc_10, zc_32, zc_36, zc_48, zc_64, zc_80, zc_120, zc_128, zc_248, zc_320, zc_400, zc_800, zc_1200, zc_2001, zc_4002, Int.reduceLT, Int.reduceLE, Int.reduceNeg, Nat.zero_ne_one, Nat.one_ne_zero, or_true, true_or, or_false, false_or, ti_0, ti_1, ti_2, ti_3, ti_4, ti_5, ti_6, ti_7, ti_8, ti_9, ti_10, ti_11, ti_12, ti_13, ti_14, ti_15, ti_16, ti_17, ti_18, ti_19, ti_20, ti_21, ti_22, ti_23, ti_24, ti_25, ti_26, ti_27, ti_28, ti_29, ti_30, ti_31, ti_32, ti_33, ti_34, ti_35, ti_36, ti_37, ti_38, ti_39, ti_40, ti_41, ti_42, ti_43, ti_44, ti_45, ti_46, ti_47, ti_48, ti_49, ti_50, ti_51, ti_52, ti_53, ti_54, ti_55, ti_56, ti_57, ti_58, ti_59, ti_60, ti_61, ti_62, ti_63, ti_64, ti_65, ti_66, ti_67, ti_68, ti_69, ti_70, ti_71, ti_72, ti_73, ti_74, ti_75, ti_76, ti_77, ti_78, ti_79, ti_80, ti_81, ti_82, ti_83, ti_84, ti_85, ti_86, ti_87, ti_88, ti_89, ti_90, ti_91, ti_92, ti_93, ti_94, ti_95, ti_96, ti_97, ti_98, ti_99, ti_100, ti_101, ti_102, ti_103, ti_104, ti_105, ti_106, ti_107, ti_108, ti_109, ti_110, ti_111, ti_112, ti_113, ti_114, ti_115, ti_116, ti_117, ti_118, ti_119, ti_120, ti_121, ti_122, ti_123, ti_124, ti_125, ti_126, ti_127, ti_128, ti_129, ti_200, ti_248, ti_255, ti_256, ti_400, ti_1000, ti_2000, ti_2001, ti_1000000, tj_1, tj_2, tj_8, tj_10, tj_1000, tc_0, tc_1, tc_2, tc_3, tc_4, tc_5, tc_6, tc_7, tc_8, i32_lt, i32_le, h6, h7, hl, hp, nLast, oI, ho, hq]
    · have hq : ¬ M.1 (L + 1) k = a := fun q => hp (hp2.mpr q)
      simp only [z52_11, z52_12, z52_13, z52_16, z52_17, z52_20, z52_21, z52_22, z52_25, gIn_toInt, nI_toInt, Nat.reduceLT, Nat.reducePow, va_rf_none, va_rf_some, gObj_sI, gObj_sR, gAr_sI, gAr_sR, gLen_sI, gLen_sR, gsI_1, gsI_2, gsR_1, gsR_2, gU_ref, gU_null, gU_rf, gisRef_ref, gisRef_null, gisRef_rf, Option.toList_some, Option.toList_none, List.cons_append, List.nil_append, true_and, and_true, false_and, and_false, ↓reduceIte, if_true, if_false, Nat.reduceEqDiff, Nat.reduceAdd, Nat.reduceMul, Nat.reduceSub, Nat.reduceLeDiff, reduceCtorEq, not_true_eq_false, not_false_eq_true, true_imp_iff, false_imp_iff, zc_0, zc_1, zc_2, zc_3, zc_4, zc_5, zc_6, zc_8, zc_9, zc_10, zc_32, zc_36, zc_48, zc_64, zc_80, zc_120, zc_128, zc_248, zc_320, zc_400, zc_800, zc_1200, zc_2001, zc_4002, Int.reduceLT, Int.reduceLE, Int.reduceNeg, Nat.zero_ne_one, Nat.one_ne_zero, or_true, true_or, or_false, false_or, ti_0, ti_1, ti_2, ti_3, ti_4, ti_5, ti_6, ti_7, ti_8, ti_9, ti_10, ti_11, ti_12, ti_13, ti_14, ti_15, ti_16, ti_17, ti_18, ti_19, ti_20, ti_21, ti_22, ti_23, ti_24, ti_25, ti_26, ti_27, ti_28, ti_29, ti_30, ti_31, ti_32, ti_33, ti_34, ti_35, ti_36, ti_37, ti_38, ti_39, ti_40, ti_41, ti_42, ti_43, ti_44, ti_45, ti_46, ti_47, ti_48, ti_49, ti_50, ti_51, ti_52, ti_53, ti_54, ti_55, ti_56, ti_57, ti_58, ti_59, ti_60, ti_61, ti_62, ti_63, ti_64, ti_65, ti_66, ti_67, ti_68, ti_69, ti_70, ti_71, ti_72, ti_73, ti_74, ti_75, ti_76, ti_77, ti_78, ti_79, ti_80, ti_81, ti_82, ti_83, ti_84, ti_85, ti_86, ti_87, ti_88, ti_89, ti_90, ti_91, ti_92, ti_93, ti_94, ti_95, ti_96, ti_97, ti_98, ti_99, ti_100, ti_101, ti_102, ti_103, ti_104, ti_105, ti_106, ti_107, ti_108, ti_109, ti_110, ti_111, ti_112, ti_113, ti_114, ti_115, ti_116, ti_117, ti_118, ti_119, ti_120, ti_121, ti_122, ti_123, ti_124, ti_125, ti_126, ti_127, ti_128, ti_129, ti_200, ti_248, ti_255, ti_256, ti_400, ti_1000, ti_2000, ti_2001, ti_1000000, tj_1, tj_2, tj_8, tj_10, tj_1000, tc_0, tc_1, tc_2, tc_3, tc_4, tc_5, tc_6, tc_7, tc_8, i32_lt, i32_le, h6, h7, hl, hp, nLast, oI, ho, hi, ih, hq]
theorem s_lastOf (hx : XR M) (hL : isL L) (hn : M.1 L 8 = nI n) (h4 : n ≤ 400) (P : Nat → Prop) [DecidablePred P] (hP : ∀ k, k < n → (P k ↔ M.1 (L + 1) k = a)) : Call (d + 3) 52 [.ref L, .int a] M Z ↔ Z (some (.int (oI (nLast P n)))) M := by
  have ho := xL_o hx hL
  simp only [z52_0, z52_1, z52_4, z52_5, z52_6, e52, gIn_toInt, nI_toInt, Nat.reduceLT, Nat.reducePow, va_rf_none, va_rf_some, gObj_sI, gObj_sR, gAr_sI, gAr_sR, gLen_sI, gLen_sR, gsI_1, gsI_2, gsR_1, gsR_2, gU_ref, gU_null, gU_rf, gisRef_ref, gisRef_null, gisRef_rf, Option.toList_some, Option.toList_none, List.cons_append, List.nil_append, true_and, and_true, false_and, and_false, ↓reduceIte, if_true, if_false, Nat.reduceEqDiff, Nat.reduceAdd, Nat.reduceMul, Nat.reduceSub, Nat.reduceLeDiff, reduceCtorEq, not_true_eq_false, not_false_eq_true, true_imp_iff, false_imp_iff, zc_0, zc_1, zc_2, zc_3, zc_4, zc_5, zc_6, zc_8, zc_9, zc_10, zc_32, zc_36, zc_48, zc_64, zc_80, zc_120, zc_128, zc_248, zc_320, zc_400, zc_800, zc_1200, zc_2001, zc_4002, Int.reduceLT, Int.reduceLE, Int.reduceNeg, Nat.zero_ne_one, Nat.one_ne_zero, or_true, true_or, or_false, false_or, ho, hn, s_lastOf1 hx hL hn h4 P hP n (Nat.le_refl _)]
theorem s_firstWith1 (hx : XR M) (hL : isL L) (hn : M.1 L 8 = nI n) (h4 : n ≤ 400) {t : Nat} (ht : t < n) (P : Nat → Prop) [DecidablePred P] (hP : ∀ k, k < n → (P k ↔ M.1 (L + 1) k = M.1 (L + 1) t)) : ∀ k c, k ≤ n → (Run (d + 2) 53 8 [some (.ref L), some (.int (nI t)), some (.int (nI c)), some (.int (nI k - 1))] [] M 0 0 Z ↔ Z (some (.int (nI (nFirst P k c)))) M)
  | 0, c, _ => by
    rw [nI_0m, z53_8, z53_9]
    simp only [z53_33, z53_34, gIn_toInt, nI_toInt, Nat.reduceLT, Nat.reducePow, va_rf_none, va_rf_some, gObj_sI, gObj_sR, gAr_sI, gAr_sR, gLen_sI, gLen_sR, gsI_1, gsI_2, gsR_1, gsR_2, gU_ref, gU_null, gU_rf, gisRef_ref, gisRef_null, gisRef_rf, Option.toList_some, Option.toList_none, List.cons_append, List.nil_append, true_and, and_true, false_and, and_false, ↓reduceIte, if_true, if_false, Nat.reduceEqDiff, Nat.reduceAdd, Nat.reduceMul, Nat.reduceSub, Nat.reduceLeDiff, reduceCtorEq, not_true_eq_false, not_false_eq_true, true_imp_iff, false_imp_iff, zc_0, zc_1, zc_2, zc_3, zc_4, zc_5, zc_6, zc_8, zc_9, zc_10, zc_32, zc_36, zc_48, zc_64, zc_80, zc_120, zc_128, zc_248, zc_320, zc_400, zc_800, zc_1200, zc_2001, zc_4002, Int.reduceLT, Int.reduceLE, Int.reduceNeg, Nat.zero_ne_one, Nat.one_ne_zero, or_true, true_or, or_false, false_or, ti_0, ti_1, ti_2, ti_3, ti_4, ti_5, ti_6, ti_7, ti_8, ti_9, ti_10, ti_11, ti_12, ti_13, ti_14, ti_15, ti_16, ti_17, ti_18, ti_19, ti_20, ti_21, ti_22, ti_23, ti_24, ti_25, ti_26, ti_27, ti_28, ti_29, ti_30, ti_31, ti_32, ti_33, ti_34, ti_35, ti_36, ti_37, ti_38, ti_39, ti_40, ti_41, ti_42, ti_43, ti_44, ti_45, ti_46, ti_47, ti_48, ti_49, ti_50, ti_51, ti_52, ti_53, ti_54, ti_55, ti_56, ti_57, ti_58, ti_59, ti_60, ti_61, ti_62, ti_63, ti_64, ti_65, ti_66, ti_67, ti_68, ti_69, ti_70, ti_71, ti_72, ti_73, ti_74, ti_75, ti_76, ti_77, ti_78, ti_79, ti_80, ti_81, ti_82, ti_83, ti_84, ti_85, ti_86, ti_87, ti_88, ti_89, ti_90, ti_91, ti_92, ti_93, ti_94, ti_95, ti_96, ti_97, ti_98, ti_99, ti_100, ti_101, ti_102, ti_103, ti_104, ti_105, ti_106, ti_107, ti_108, ti_109, ti_110, ti_111, ti_112, ti_113, ti_114, ti_115, ti_116, ti_117, ti_118, ti_119, ti_120, ti_121, ti_122, ti_123, ti_124, ti_125, ti_126, ti_127, ti_128, ti_129, ti_200, ti_248, ti_255, ti_256, ti_400, ti_1000, ti_2000, ti_2001, ti_1000000, tj_1, tj_2, tj_8, tj_10, tj_1000, tc_0, tc_1, tc_2, tc_3, tc_4, tc_5, tc_6, tc_7, tc_8, i32_lt, i32_le, nFirst]
  | k + 1, c, hk => by
    have ih := s_firstWith1 hx hL hn h4 ht P hP k k (by omega)
    have h6 := nI_ti (show k ≤ 2000 by omega)
    have h7 : ¬ (k : Int) < 0 := by omega
    have hl := fun Z => s_actOf (d := d) (Z := Z) hx hL hn h4 (show k < n by omega)
    have hl2 := fun Z => s_actOf (d := d) (Z := Z) hx hL hn h4 ht
    have hi : nI k + -1 = nI k - 1 := by rw [Int32.sub_eq_add_neg]
    rw [nI_s1, z53_8, z53_9]
    have ho := xL_o hx hL
    have hp2 := hP k (by omega)
    by_cases hp : P k
    · have hq := hp2.mp hp
      simp only [z53_12, z53_13, z53_14, z53_17, z53_18, z53_19, z53_22, z53_25, z53_26, z53_27, z53_30, gIn_toInt, nI_toInt, Nat.reduceLT, Nat.reducePow, va_rf_none, va_rf_some, gObj_sI, gObj_sR, gAr_sI, gAr_sR, gLen_sI, gLen_sR, gsI_1, gsI_2, gsR_1, gsR_2, gU_ref, gU_null, gU_rf, gisRef_ref, gisRef_null, gisRef_rf, Option.toList_some, Option.toList_none, List.cons_append, List.nil_append, true_and, and_true, false_and, and_false, ↓reduceIte, if_true, if_false, Nat.reduceEqDiff, Nat.reduceAdd, Nat.reduceMul, Nat.reduceSub, Nat.reduceLeDiff, reduceCtorEq, not_true_eq_false, not_false_eq_true, true_imp_iff, false_imp_iff, zc_0, zc_1, zc_2, zc_3, zc_4, zc_5, zc_6, zc_8, zc_9, zc_10, zc_32, zc_36, zc_48, zc_64, zc_80, zc_120, zc_128, zc_248, zc_320, zc_400, zc_800, zc_1200, zc_2001, zc_4002, Int.reduceLT, Int.reduceLE, Int.reduceNeg, Nat.zero_ne_one, Nat.one_ne_zero, or_true, true_or, or_false, false_or, ti_0, ti_1, ti_2, ti_3, ti_4, ti_5, ti_6, ti_7, ti_8, ti_9, ti_10, ti_11, ti_12, ti_13, ti_14, ti_15, ti_16, ti_17, ti_18, ti_19, ti_20, ti_21, ti_22, ti_23, ti_24, ti_25, ti_26, ti_27, ti_28, ti_29, ti_30, ti_31, ti_32, ti_33, ti_34, ti_35, ti_36, ti_37, ti_38, ti_39, ti_40, ti_41, ti_42, ti_43, ti_44, ti_45, ti_46, ti_47, ti_48, ti_49, ti_50, ti_51, ti_52, ti_53, ti_54, ti_55, ti_56, ti_57, ti_58, ti_59, ti_60, ti_61, ti_62, ti_63, ti_64, ti_65, ti_66, ti_67, ti_68, ti_69, ti_70, ti_71, ti_72, ti_73, ti_74, ti_75, ti_76, ti_77, ti_78, ti_79, ti_80, ti_81, ti_82, ti_83, ti_84, ti_85, ti_86, ti_87, ti_88, ti_89, ti_90, ti_91, ti_92, ti_93, ti_94, ti_95, ti_96, ti_97, ti_98, ti_99, ti_100, ti_101, ti_102, ti_103, ti_104, ti_105, ti_106, ti_107, ti_108, ti_109, ti_110, ti_111, ti_112, ti_113, ti_114, ti_115, ti_116, ti_117, ti_118, ti_119, ti_120, ti_121, ti_122, ti_123, ti_124, ti_125, ti_126, ti_127, ti_128, ti_129, ti_200, ti_248, ti_255, ti_256, ti_400, ti_1000, ti_2000, ti_2001, ti_1000000, tj_1, tj_2, tj_8, tj_10, tj_1000, tc_0, tc_1, tc_2, tc_3, tc_4, tc_5, tc_6, tc_7, tc_8, i32_lt, i32_le, h6, h7, hl, hl2, hp, nFirst, ho, hq, hi, ih]
    · have hq : ¬ M.1 (L + 1) k = M.1 (L + 1) t := fun q => hp (hp2.mpr q)
      simp only [z53_12, z53_13, z53_14, z53_17, z53_18, z53_19, z53_22, z53_25, z53_26, z53_27, z53_30, z53_33, z53_34, gIn_toInt, nI_toInt, Nat.reduceLT, Nat.reducePow, va_rf_none, va_rf_some, gObj_sI, gObj_sR, gAr_sI, gAr_sR, gLen_sI, gLen_sR, gsI_1, gsI_2, gsR_1, gsR_2, gU_ref, gU_null, gU_rf, gisRef_ref, gisRef_null, gisRef_rf, Option.toList_some, Option.toList_none, List.cons_append, List.nil_append, true_and, and_true, false_and, and_false, ↓reduceIte, if_true, if_false, Nat.reduceEqDiff, Nat.reduceAdd, Nat.reduceMul, Nat.reduceSub, Nat.reduceLeDiff, reduceCtorEq, not_true_eq_false, not_false_eq_true, true_imp_iff, false_imp_iff, zc_0, zc_1, zc_2, zc_3, zc_4, zc_5, zc_6, zc_8, zc_9, zc_10, zc_32, zc_36, zc_48, zc_64, zc_80, zc_120, zc_128, zc_248, zc_320, zc_400, zc_800, zc_1200, zc_2001, zc_4002, Int.reduceLT, Int.reduceLE, Int.reduceNeg, Nat.zero_ne_one, Nat.one_ne_zero, or_true, true_or, or_false, false_or, ti_0, ti_1, ti_2, ti_3, ti_4, ti_5, ti_6, ti_7, ti_8, ti_9, ti_10, ti_11, ti_12, ti_13, ti_14, ti_15, ti_16, ti_17, ti_18, ti_19, ti_20, ti_21, ti_22, ti_23, ti_24, ti_25, ti_26, ti_27, ti_28, ti_29, ti_30, ti_31, ti_32, ti_33, ti_34, ti_35, ti_36, ti_37, ti_38, ti_39, ti_40, ti_41, ti_42, ti_43, ti_44, ti_45, ti_46, ti_47, ti_48, ti_49, ti_50, ti_51, ti_52, ti_53, ti_54, ti_55, ti_56, ti_57, ti_58, ti_59, ti_60, ti_61, ti_62, ti_63, ti_64, ti_65, ti_66, ti_67, ti_68, ti_69, ti_70, ti_71, ti_72, ti_73, ti_74, ti_75, ti_76, ti_77, ti_78, ti_79, ti_80, ti_81, ti_82, ti_83, ti_84, ti_85, ti_86, ti_87, ti_88, ti_89, ti_90, ti_91, ti_92, ti_93, ti_94, ti_95, ti_96, ti_97, ti_98, ti_99, ti_100, ti_101, ti_102, ti_103, ti_104, ti_105, ti_106, ti_107, ti_108, ti_109, ti_110, ti_111, ti_112, ti_113, ti_114, ti_115, ti_116, ti_117, ti_118, ti_119, ti_120, ti_121, ti_122, ti_123, ti_124, ti_125, ti_126, ti_127, ti_128, ti_129, ti_200, ti_248, ti_255, ti_256, ti_400, ti_1000, ti_2000, ti_2001, ti_1000000, tj_1, tj_2, tj_8, tj_10, tj_1000, tc_0, tc_1, tc_2, tc_3, tc_4, tc_5, tc_6, tc_7, tc_8, i32_lt, i32_le, h6, h7, hl, hl2, hp, nFirst, ho, hq]
theorem s_firstWith (hx : XR M) (hL : isL L) (hn : M.1 L 8 = nI n) (h4 : n ≤ 400) {t : Nat} (ht : t < n) (P : Nat → Prop) [DecidablePred P] (hP : ∀ k, k < n → (P k ↔ M.1 (L + 1) k = M.1 (L + 1) t)) : Call (d + 3) 53 [.ref L, .int (nI t)] M Z ↔ Z (some (.int (nI (nFirst P (t + 1) t)))) M := by
  have h := s_firstWith1 (d := d) (Z := Z) hx hL hn h4 ht P hP (t + 1) t (by omega)
  rw [nI_s1] at h
  have hm : (if (0 : Int32) < nI t then nI t else 0) = nI t := by
    have := nMx_lt (a := 0) (b := t) (by decide) (by omega)
    rw [Nat.zero_max] at this
    exact this
  rw [← h, e53, z53_0, z53_1, z53_2, hm, z53_5, z53_6, z53_7]
theorem s_firstWithN (hx : XR M) (hL : isL L) : Call (d + 3) 53 [.ref L, .int (-1)] M Z ↔ Z (some (.int 0)) M := by
  have hm : (if (0 : Int32) < -1 then (-1 : Int32) else 0) = 0 := by decide
  rw [e53, z53_0, z53_1, z53_2, hm, z53_5, z53_6, z53_7, z53_8, z53_9]
  simp only [z53_33, z53_34, gIn_toInt, nI_toInt, Nat.reduceLT, Nat.reducePow, va_rf_none, va_rf_some, gObj_sI, gObj_sR, gAr_sI, gAr_sR, gLen_sI, gLen_sR, gsI_1, gsI_2, gsR_1, gsR_2, gU_ref, gU_null, gU_rf, gisRef_ref, gisRef_null, gisRef_rf, Option.toList_some, Option.toList_none, List.cons_append, List.nil_append, true_and, and_true, false_and, and_false, ↓reduceIte, if_true, if_false, Nat.reduceEqDiff, Nat.reduceAdd, Nat.reduceMul, Nat.reduceSub, Nat.reduceLeDiff, reduceCtorEq, not_true_eq_false, not_false_eq_true, true_imp_iff, false_imp_iff, zc_0, zc_1, zc_2, zc_3, zc_4, zc_5, zc_6, zc_8, zc_9, zc_10, zc_32, zc_36, zc_48, zc_64, zc_80, zc_120, zc_128, zc_248, zc_320, zc_400, zc_800, zc_1200, zc_2001, zc_4002, Int.reduceLT, Int.reduceLE, Int.reduceNeg, Nat.zero_ne_one, Nat.one_ne_zero, or_true, true_or, or_false, false_or, ti_0, ti_1, ti_2, ti_3, ti_4, ti_5, ti_6, ti_7, ti_8, ti_9, ti_10, ti_11, ti_12, ti_13, ti_14, ti_15, ti_16, ti_17, ti_18, ti_19, ti_20, ti_21, ti_22, ti_23, ti_24, ti_25, ti_26, ti_27, ti_28, ti_29, ti_30, ti_31, ti_32, ti_33, ti_34, ti_35, ti_36, ti_37, ti_38, ti_39, ti_40, ti_41, ti_42, ti_43, ti_44, ti_45, ti_46, ti_47, ti_48, ti_49, ti_50, ti_51, ti_52, ti_53, ti_54, ti_55, ti_56, ti_57, ti_58, ti_59, ti_60, ti_61, ti_62, ti_63, ti_64, ti_65, ti_66, ti_67, ti_68, ti_69, ti_70, ti_71, ti_72, ti_73, ti_74, ti_75, ti_76, ti_77, ti_78, ti_79, ti_80, ti_81, ti_82, ti_83, ti_84, ti_85, ti_86, ti_87, ti_88, ti_89, ti_90, ti_91, ti_92, ti_93, ti_94, ti_95, ti_96, ti_97, ti_98, ti_99, ti_100, ti_101, ti_102, ti_103, ti_104, ti_105, ti_106, ti_107, ti_108, ti_109, ti_110, ti_111, ti_112, ti_113, ti_114, ti_115, ti_116, ti_117, ti_118, ti_119, ti_120, ti_121, ti_122, ti_123, ti_124, ti_125, ti_126, ti_127, ti_128, ti_129, ti_200, ti_248, ti_255, ti_256, ti_400, ti_1000, ti_2000, ti_2001, ti_1000000, tj_1, tj_2, tj_8, tj_10, tj_1000, tc_0, tc_1, tc_2, tc_3, tc_4, tc_5, tc_6, tc_7, tc_8, i32_lt, i32_le]
/-! pulled -/
theorem s_pulled2 (hx : XR M) (hL : isL L) (hls : xLs M L n ly) {so m : Nat} {st : Nat → Nat} (hso : so = 5 ∨ so = 38) (hm : m < 6) (hst : ∀ q, q < 48 → M.1 so q = nI (st q) ∧ st q ≤ 9) {v1 v2 v5 : Value} {K : Prop} (hk : k < n)
    (hK : ∀ v, Run (d + 3) 54 73 [some (.ref L), some v1, some v2, some (.ref so), some (.int (nI (8 * m))), some v5, some (.int (nI k)), some (.int (nI (nMxI (fun r => st (8 * m + r)) 0 (ly k 1) (ly k 5)))), some (.int (nI (ly k 1 + ly k 5))), v] [] M 0 0 Z ↔ K) :
    ∀ j c v, c + j = ly k 5 → (Run (d + 3) 54 23 [some (.ref L), some v1, some v2, some (.ref so), some (.int (nI (8 * m))), some v5, some (.int (nI k)), some (.int (nI (nMxI (fun r => st (8 * m + r)) 0 (ly k 1) c))), some (.int (nI (ly k 1 + c))), v] [] M 0 0 Z ↔ K)
  | 0, c, v, hc => by
    have hc : c = ly k 5 := by omega
    subst hc
    obtain ⟨hq, hf⟩ := hls.2.2 k hk
    have h5 : ly k 1 + ly k 5 ≤ 8 := hq.2.1
    have h1 := nI_ti (show ly k 1 + ly k 5 ≤ 2000 by omega)
    have ht := fun Z => s_topOf (d := d + 1) (Z := Z) hx hL hls.1 hls.2.1 hk
    rw [xLs_f hls hk (f := 1) (by decide) rfl, xLs_f hls hk (f := 5) (by decide) rfl, nI_add] at ht
    have ho := xL_o hx hL
    rw [z54_23]
    simp only [z54_25, z54_26, z54_28, z54_31, gIn_toInt, nI_toInt, Nat.reduceLT, Nat.reducePow, va_rf_none, va_rf_some, gObj_sI, gObj_sR, gAr_sI, gAr_sR, gLen_sI, gLen_sR, gsI_1, gsI_2, gsR_1, gsR_2, gU_ref, gU_null, gU_rf, gisRef_ref, gisRef_null, gisRef_rf, Option.toList_some, Option.toList_none, List.cons_append, List.nil_append, true_and, and_true, false_and, and_false, ↓reduceIte, if_true, if_false, Nat.reduceEqDiff, Nat.reduceAdd, Nat.reduceMul, Nat.reduceSub, Nat.reduceLeDiff, reduceCtorEq, not_true_eq_false, not_false_eq_true, true_imp_iff, false_imp_iff, zc_0, zc_1, zc_2, zc_3, zc_4, zc_5, zc_6, zc_8, zc_9, zc_10, zc_32, zc_36, zc_48, zc_64, zc_80, zc_120, zc_128, zc_248, zc_320, zc_400, zc_800, zc_1200, zc_2001, zc_4002, Int.reduceLT, Int.reduceLE, Int.reduceNeg, Nat.zero_ne_one, Nat.one_ne_zero, or_true, true_or, or_false, false_or, ti_0, ti_1, ti_2, ti_3, ti_4, ti_5, ti_6, ti_7, ti_8, ti_9, ti_10, ti_11, ti_12, ti_13, ti_14, ti_15, ti_16, ti_17, ti_18, ti_19, ti_20, ti_21, ti_22, ti_23, ti_24, ti_25, ti_26, ti_27, ti_28, ti_29, ti_30, ti_31, ti_32, ti_33, ti_34, ti_35, ti_36, ti_37, ti_38, ti_39, ti_40, ti_41, ti_42, ti_43, ti_44, ti_45, ti_46, ti_47, ti_48, ti_49, ti_50, ti_51, ti_52, ti_53, ti_54, ti_55, ti_56, ti_57, ti_58, ti_59, ti_60, ti_61, ti_62, ti_63, ti_64, ti_65, ti_66, ti_67, ti_68, ti_69, ti_70, ti_71, ti_72, ti_73, ti_74, ti_75, ti_76, ti_77, ti_78, ti_79, ti_80, ti_81, ti_82, ti_83, ti_84, ti_85, ti_86, ti_87, ti_88, ti_89, ti_90, ti_91, ti_92, ti_93, ti_94, ti_95, ti_96, ti_97, ti_98, ti_99, ti_100, ti_101, ti_102, ti_103, ti_104, ti_105, ti_106, ti_107, ti_108, ti_109, ti_110, ti_111, ti_112, ti_113, ti_114, ti_115, ti_116, ti_117, ti_118, ti_119, ti_120, ti_121, ti_122, ti_123, ti_124, ti_125, ti_126, ti_127, ti_128, ti_129, ti_200, ti_248, ti_255, ti_256, ti_400, ti_1000, ti_2000, ti_2001, ti_1000000, tj_1, tj_2, tj_8, tj_10, tj_1000, tc_0, tc_1, tc_2, tc_3, tc_4, tc_5, tc_6, tc_7, tc_8, i32_lt, i32_le, ho, ht, h1, Int.le_refl]
    exact hK v
  | j + 1, c, v, hc => by
    obtain ⟨hq, hf⟩ := hls.2.2 k hk
    have h5 : ly k 1 + ly k 5 ≤ 8 := hq.2.1
    have ih := s_pulled2 hx hL hls hso hm hst hk hK j (c + 1) (some (.int (nI (8 * m + (ly k 1 + c))))) (by omega)
    have h1 := nI_ti (show ly k 1 + ly k 5 ≤ 2000 by omega)
    have h2 := nI_ti (show ly k 1 + c ≤ 2000 by omega)
    have h3 := nI_ti (show 8 * m + (ly k 1 + c) ≤ 2000 by omega)
    have h6 := nI_tc (show 8 * m + (ly k 1 + c) ≤ 2000 by omega)
    have h7 : ¬ ((ly k 1 + ly k 5 : Nat) : Int) ≤ ((ly k 1 + c : Nat) : Int) := by omega
    have h8 : 0 ≤ ((8 * m + (ly k 1 + c) : Nat) : Int) ∧ ((8 * m + (ly k 1 + c) : Nat) : Int) < 48 := by omega
    have ht := fun Z => s_topOf (d := d + 1) (Z := Z) hx hL hls.1 hls.2.1 hk
    rw [xLs_f hls hk (f := 1) (by decide) rfl, xLs_f hls hk (f := 5) (by decide) rfl, nI_add] at ht
    have ho := xL_o hx hL
    obtain ⟨hs1, hs2⟩ := hst (8 * m + (ly k 1 + c)) (by omega)
    have h9 : nMxI (fun r => st (8 * m + r)) 0 (ly k 1) c ≤ 9 := nMxI_le (by decide) c (fun r hr => (hst (8 * m + r) (by omega)).2)
    have hmx := nMx_lti (a := nMxI (fun r => st (8 * m + r)) 0 (ly k 1) c) (b := st (8 * m + (ly k 1 + c))) (by omega) (by omega)
    have hw := fun Z => s_within (d := d + 2) (M := M) (Z := Z) (i := nI (8 * m + (ly k 1 + c))) (n := nI 48)
    have h48 : (nI 48).toInt = 48 := nI_ti (by decide)
    simp only [h3, h48, h8] at hw
    rw [z54_23]
    have hsa : gAr M so 0 ∧ gLen M so = 48 ∧ (gTy M so).isSome = true := by
      rcases hso with rfl | rfl
      · exact ⟨xa5 hx, xl5 hx, xs5 hx⟩
      · exact ⟨xa38 hx, xl38 hx, xs38 hx⟩
    simp only [z54_25, z54_26, z54_28, z54_31, z54_34, z54_36, z54_38, z54_39, z54_41, z54_43, z54_43n, z54_44, z54_45, z54_48, z54_51, z54_53, z54_53n, z54_54, z54_56, z54_57, z54_60, z54_63, z54_65, z54_67, z54_70, gIn_toInt, nI_toInt, Nat.reduceLT, Nat.reducePow, va_rf_none, va_rf_some, gObj_sI, gObj_sR, gAr_sI, gAr_sR, gLen_sI, gLen_sR, gsI_1, gsI_2, gsR_1, gsR_2, gU_ref, gU_null, gU_rf, gisRef_ref, gisRef_null, gisRef_rf, Option.toList_some, Option.toList_none, List.cons_append, List.nil_append, true_and, and_true, false_and, and_false, ↓reduceIte, if_true, if_false, Nat.reduceEqDiff, Nat.reduceAdd, Nat.reduceMul, Nat.reduceSub, Nat.reduceLeDiff, reduceCtorEq, not_true_eq_false, not_false_eq_true, true_imp_iff, false_imp_iff, zc_0, zc_1, zc_2, zc_3, zc_4, zc_5, zc_6, zc_8, zc_9, zc_10, zc_32, zc_36, zc_48, zc_64, zc_80, zc_120, zc_128, zc_248, zc_320, zc_400, zc_800, zc_1200, zc_2001, zc_4002, Int.reduceLT, Int.reduceLE, Int.reduceNeg, Nat.zero_ne_one, Nat.one_ne_zero, or_true, true_or, or_false, false_or, ti_0, ti_1, ti_2, ti_3, ti_4, ti_5, ti_6, ti_7, ti_8, ti_9, ti_10, ti_11, ti_12, ti_13, ti_14, ti_15, ti_16, ti_17, ti_18, ti_19, ti_20, ti_21, ti_22, ti_23, ti_24, ti_25, ti_26, ti_27, ti_28, ti_29, ti_30, ti_31, ti_32, ti_33, ti_34, ti_35, ti_36, ti_37, ti_38, ti_39, ti_40, ti_41, ti_42, ti_43, ti_44, ti_45, ti_46, ti_47, ti_48, ti_49, ti_50, ti_51, ti_52, ti_53, ti_54, ti_55, ti_56, ti_57, ti_58, ti_59, ti_60, ti_61, ti_62, ti_63, ti_64, ti_65, ti_66, ti_67, ti_68, ti_69, ti_70, ti_71, ti_72, ti_73, ti_74, ti_75, ti_76, ti_77, ti_78, ti_79, ti_80, ti_81, ti_82, ti_83, ti_84, ti_85, ti_86, ti_87, ti_88, ti_89, ti_90, ti_91, ti_92, ti_93, ti_94, ti_95, ti_96, ti_97, ti_98, ti_99, ti_100, ti_101, ti_102, ti_103, ti_104, ti_105, ti_106, ti_107, ti_108, ti_109, ti_110, ti_111, ti_112, ti_113, ti_114, ti_115, ti_116, ti_117, ti_118, ti_119, ti_120, ti_121, ti_122, ti_123, ti_124, ti_125, ti_126, ti_127, ti_128, ti_129, ti_200, ti_248, ti_255, ti_256, ti_400, ti_1000, ti_2000, ti_2001, ti_1000000, tj_1, tj_2, tj_8, tj_10, tj_1000, tc_0, tc_1, tc_2, tc_3, tc_4, tc_5, tc_6, tc_7, tc_8, i32_lt, i32_le, ho, ht, h1, h2, h7, nI_add, hsa, hw, gb_0, h8, h3, h6, hs1, hmx, nI_1]
    exact ih
theorem nPull_le {st : Nat → Nat} {a : Nat} : ∀ c, (∀ k, k < a + c → ly k 1 + ly k 5 ≤ 8) → (∀ r, r < 8 → st r ≤ 9) → nPull ly st a c ≤ 9 * c
  | 0, _, _ => Nat.le_refl _
  | c + 1, h, hs => by
    have h1 := nPull_le (a := a) (st := st) c (fun k hk => h k (by omega)) hs
    have h2 := h (a + c) (by omega)
    have h3 : nMxI st 0 (ly (a + c) 1) (ly (a + c) 5) ≤ 9 := nMxI_le (by decide) _ (fun r hr => hs r (by omega))
    show nPull ly st a c + _ ≤ _
    omega
theorem s_pulled1 (hx : XR M) (hL : isL L) (hls : xLs M L n ly) {so m : Nat} {st : Nat → Nat} (hso : so = 5 ∨ so = 38) (hm : m < 6) (hst : ∀ q, q < 48 → M.1 so q = nI (st q) ∧ st q ≤ 9) {a e : Nat} (he : e ≤ n) :
    ∀ j c v7 v8 v9, a + c + j = e → (Run (d + 3) 54 6 [some (.ref L), some (.int (nI a)), some (.int (nI e - 1)), some (.ref so), some (.int (nI (8 * m))), some (.int (nI (nPull ly (fun r => st (8 * m + r)) a c))), some (.int (nI (a + c))), v7, v8, v9] [] M 0 0 Z ↔ Z (some (.int (nI (nPull ly (fun r => st (8 * m + r)) a (e - a))))) M)
  | 0, c, v7, v8, v9, hc => by
    have hc : e = a + c := by omega
    subst hc
    have h1 := nI_ti (show a + c ≤ 2000 by have := hls.2.1; omega)
    have h2 := nI_e1 (show a + c ≤ 2000 by have := hls.2.1; omega)
    have h3 : ((a + c : Nat) : Int) - 1 < ((a + c : Nat) : Int) := by omega
    rw [z54_6, Nat.add_sub_cancel_left]
    simp only [z54_8, z54_9, z54_86, z54_88, gIn_toInt, nI_toInt, Nat.reduceLT, Nat.reducePow, va_rf_none, va_rf_some, gObj_sI, gObj_sR, gAr_sI, gAr_sR, gLen_sI, gLen_sR, gsI_1, gsI_2, gsR_1, gsR_2, gU_ref, gU_null, gU_rf, gisRef_ref, gisRef_null, gisRef_rf, Option.toList_some, Option.toList_none, List.cons_append, List.nil_append, true_and, and_true, false_and, and_false, ↓reduceIte, if_true, if_false, Nat.reduceEqDiff, Nat.reduceAdd, Nat.reduceMul, Nat.reduceSub, Nat.reduceLeDiff, reduceCtorEq, not_true_eq_false, not_false_eq_true, true_imp_iff, false_imp_iff, zc_0, zc_1, zc_2, zc_3, zc_4, zc_5, zc_6, zc_8, zc_9, zc_10, zc_32, zc_36, zc_48, zc_64, zc_80, zc_120, zc_128, zc_248, zc_320, zc_400, zc_800, zc_1200, zc_2001, zc_4002, Int.reduceLT, Int.reduceLE, Int.reduceNeg, Nat.zero_ne_one, Nat.one_ne_zero, or_true, true_or, or_false, false_or, ti_0, ti_1, ti_2, ti_3, ti_4, ti_5, ti_6, ti_7, ti_8, ti_9, ti_10, ti_11, ti_12, ti_13, ti_14, ti_15, ti_16, ti_17, ti_18, ti_19, ti_20, ti_21, ti_22, ti_23, ti_24, ti_25, ti_26, ti_27, ti_28, ti_29, ti_30, ti_31, ti_32, ti_33, ti_34, ti_35, ti_36, ti_37, ti_38, ti_39, ti_40, ti_41, ti_42, ti_43, ti_44, ti_45, ti_46, ti_47, ti_48, ti_49, ti_50, ti_51, ti_52, ti_53, ti_54, ti_55, ti_56, ti_57, ti_58, ti_59, ti_60, ti_61, ti_62, ti_63, ti_64, ti_65, ti_66, ti_67, ti_68, ti_69, ti_70, ti_71, ti_72, ti_73, ti_74, ti_75, ti_76, ti_77, ti_78, ti_79, ti_80, ti_81, ti_82, ti_83, ti_84, ti_85, ti_86, ti_87, ti_88, ti_89, ti_90, ti_91, ti_92, ti_93, ti_94, ti_95, ti_96, ti_97, ti_98, ti_99, ti_100, ti_101, ti_102, ti_103, ti_104, ti_105, ti_106, ti_107, ti_108, ti_109, ti_110, ti_111, ti_112, ti_113, ti_114, ti_115, ti_116, ti_117, ti_118, ti_119, ti_120, ti_121, ti_122, ti_123, ti_124, ti_125, ti_126, ti_127, ti_128, ti_129, ti_200, ti_248, ti_255, ti_256, ti_400, ti_1000, ti_2000, ti_2001, ti_1000000, tj_1, tj_2, tj_8, tj_10, tj_1000, tc_0, tc_1, tc_2, tc_3, tc_4, tc_5, tc_6, tc_7, tc_8, i32_lt, i32_le, h1, h2, h3]
  | j + 1, c, v7, v8, v9, hc => by
    have hk : a + c < n := by omega
    have hn4 := hls.2.1
    obtain ⟨hq, hf⟩ := hls.2.2 (a + c) hk
    have h1 := nI_ti (show a + c ≤ 2000 by omega)
    have h2 := nI_e1 (show e ≤ 2000 by omega)
    have h3 : ¬ ((e : Int) - 1 < ((a + c : Nat) : Int)) := by omega
    have ih := fun v7 v8 v9 => s_pulled1 (v7 := v7) (v8 := v8) (v9 := v9) hx hL hls hso hm hst (a := a) he j (c + 1) (by omega)
    have hl := fun Z => s_lowOf (d := d + 1) (Z := Z) hx hL hls.1 hls.2.1 hk
    rw [xLs_f hls hk (f := 1) (by decide) rfl] at hl
    have ho := xL_o hx hL
    have hin := s_pulled2 (d := d) (Z := Z) (v1 := .int (nI a)) (v2 := .int (nI e - 1)) (v5 := .int (nI (nPull ly (fun r => st (8 * m + r)) a c))) hx hL hls hso hm hst hk (fun v => by
      rw [z54_73, z54_75, z54_77, nI_add, z54_78, z54_80, nI_1, z54_83]
      exact ih _ _ v) (ly (a + c) 5) 0 v9 (by omega)
    simp only [nMxI, Nat.add_zero] at hin
    rw [z54_6]
    simp only [z54_8, z54_9, z54_12, z54_13, z54_15, z54_16, z54_18, z54_21, gIn_toInt, nI_toInt, Nat.reduceLT, Nat.reducePow, va_rf_none, va_rf_some, gObj_sI, gObj_sR, gAr_sI, gAr_sR, gLen_sI, gLen_sR, gsI_1, gsI_2, gsR_1, gsR_2, gU_ref, gU_null, gU_rf, gisRef_ref, gisRef_null, gisRef_rf, Option.toList_some, Option.toList_none, List.cons_append, List.nil_append, true_and, and_true, false_and, and_false, ↓reduceIte, if_true, if_false, Nat.reduceEqDiff, Nat.reduceAdd, Nat.reduceMul, Nat.reduceSub, Nat.reduceLeDiff, reduceCtorEq, not_true_eq_false, not_false_eq_true, true_imp_iff, false_imp_iff, zc_0, zc_1, zc_2, zc_3, zc_4, zc_5, zc_6, zc_8, zc_9, zc_10, zc_32, zc_36, zc_48, zc_64, zc_80, zc_120, zc_128, zc_248, zc_320, zc_400, zc_800, zc_1200, zc_2001, zc_4002, Int.reduceLT, Int.reduceLE, Int.reduceNeg, Nat.zero_ne_one, Nat.one_ne_zero, or_true, true_or, or_false, false_or, ti_0, ti_1, ti_2, ti_3, ti_4, ti_5, ti_6, ti_7, ti_8, ti_9, ti_10, ti_11, ti_12, ti_13, ti_14, ti_15, ti_16, ti_17, ti_18, ti_19, ti_20, ti_21, ti_22, ti_23, ti_24, ti_25, ti_26, ti_27, ti_28, ti_29, ti_30, ti_31, ti_32, ti_33, ti_34, ti_35, ti_36, ti_37, ti_38, ti_39, ti_40, ti_41, ti_42, ti_43, ti_44, ti_45, ti_46, ti_47, ti_48, ti_49, ti_50, ti_51, ti_52, ti_53, ti_54, ti_55, ti_56, ti_57, ti_58, ti_59, ti_60, ti_61, ti_62, ti_63, ti_64, ti_65, ti_66, ti_67, ti_68, ti_69, ti_70, ti_71, ti_72, ti_73, ti_74, ti_75, ti_76, ti_77, ti_78, ti_79, ti_80, ti_81, ti_82, ti_83, ti_84, ti_85, ti_86, ti_87, ti_88, ti_89, ti_90, ti_91, ti_92, ti_93, ti_94, ti_95, ti_96, ti_97, ti_98, ti_99, ti_100, ti_101, ti_102, ti_103, ti_104, ti_105, ti_106, ti_107, ti_108, ti_109, ti_110, ti_111, ti_112, ti_113, ti_114, ti_115, ti_116, ti_117, ti_118, ti_119, ti_120, ti_121, ti_122, ti_123, ti_124, ti_125, ti_126, ti_127, ti_128, ti_129, ti_200, ti_248, ti_255, ti_256, ti_400, ti_1000, ti_2000, ti_2001, ti_1000000, tj_1, tj_2, tj_8, tj_10, tj_1000, tc_0, tc_1, tc_2, tc_3, tc_4, tc_5, tc_6, tc_7, tc_8, i32_lt, i32_le, h1, h2, h3, ho, hl]
    exact hin
theorem s_pulled (hx : XR M) (hL : isL L) (hls : xLs M L n ly) {so m : Nat} {st : Nat → Nat} (hso : so = 5 ∨ so = 38) (hm : m < 6) (hst : ∀ q, q < 48 → M.1 so q = nI (st q) ∧ st q ≤ 9) {a e : Nat} (he : e ≤ n) (ha : a ≤ e) :
    Call (d + 4) 54 [.ref L, .int (nI a), .int (nI e - 1), .ref so, .int (nI (8 * m))] M Z ↔ Z (some (.int (nI (nPull ly (fun r => st (8 * m + r)) a (e - a))))) M := by
  rw [e54, z54_0, z54_1, z54_3, z54_4]
  exact s_pulled1 hx hL hls hso hm hst he (e - a) 0 none none none (by omega)
end
