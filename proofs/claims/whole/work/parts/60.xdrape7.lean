/-! The class's acts on the drape: hang; its beginning. -/
section
variable {d D L n k p len endc : Nat} {M : gM} {Z : Option Value → gM → Prop} {i r s x y a b c e f v : Int32} {ly : Nat → Nat → Nat} {col : Nat → Nat} {t : nD} {g : Nat → Nat}
theorem nMn_lti {a b : Nat} (ha : a < 2 ^ 31) (hb : b < 2 ^ 31) : (if (nI a).toInt < (nI b).toInt then nI a else nI b) = nI (min a b) := by
  rw [nI_toInt ha, nI_toInt hb]
  split
  · rw [Nat.min_eq_left (by omega)]
  · rw [Nat.min_eq_right (by omega)]
set_option maxRecDepth 4000 in
theorem nI_dv5 : ∀ k, k < 210 → nI k / 5 = nI (k / 5) := by decide
/-- the hanging row number j being laid, the cell left where it was -/
def nHangX (c : Nat) : Nat → Nat → Nat → nD → Nat × nD
  | 0, _, rest, s => (rest, s)
  | j + 1, k, rest, s => nHangX c j (k + 1) (rest - min rest 5) (s.1, s.2.1 + 1, fun i => if i = s.2.1 then nRec (s.1 9) (s.1 5 - 1 - k) (s.1 6) (c + 5 * k) (min rest 5) 1 (s.1 8) else s.2.2 i)
theorem nHangX_1 (c : Nat) : ∀ j k r (s : nD), (nHangX c j k r s).2.1 = s.1
  | 0, _, _, _ => rfl
  | j + 1, k, r, s => by rw [nHangX, nHangX_1 c j]
theorem nHangX_r (c : Nat) : ∀ j k r (s : nD), (nHangX c j k r s).1 = r - 5 * j
  | 0, _, _, _ => rfl
  | j + 1, k, r, s => by rw [nHangX, nHangX_r c j]; omega
theorem nHangX_n (c : Nat) : ∀ j k r (s : nD), (nHangX c j k r s).2.2.1 = s.2.1 + j
  | 0, _, _, _ => rfl
  | j + 1, k, r, s => by rw [nHangX, nHangX_n c j]; show s.2.1 + 1 + j = _; omega
theorem nHang_eq (c : Nat) : ∀ j k r (s s' : nD), s'.2 = s.2 → (∀ q, q ≠ 4 → s'.1 q = s.1 q) → s'.1 4 = c + 5 * k → 5 * j < r + 5 → (nHang j k r s').1 = (nHangX c j k r s).1 ∧ (nHang j k r s').2.2 = (nHangX c j k r s).2.2 ∧ (nHang j k r s').2.1 4 + (nHang j k r s').1 = c + 5 * k + r
  | 0, k, r, s, s', h2, h1, h4, hr => ⟨rfl, h2, by show s'.1 4 + r = _; omega⟩
  | j + 1, k, r, s, s', h2, h1, h4, hr => by
    by_cases hj : j = 0
    · subst hj
      refine ⟨rfl, ?_, ?_⟩
      · show (s'.2.1 + 1, _) = (s.2.1 + 1, _)
        rw [h2, h1 9 (by decide), h1 5 (by decide), h1 6 (by decide), h1 8 (by decide), h4]
      · show s'.1 4 + min r 5 + (r - min r 5) = _
        omega
    · have ih := nHang_eq c j (k + 1) (r - min r 5) (s.1, s.2.1 + 1, fun i => if i = s.2.1 then nRec (s.1 9) (s.1 5 - 1 - k) (s.1 6) (c + 5 * k) (min r 5) 1 (s.1 8) else s.2.2 i) (nLay s' (s'.1 5 - 1 - k) (min r 5) 1 (s'.1 8)) ?_ ?_ ?_ (by omega)
      · refine ⟨ih.1, ih.2.1, ?_⟩
        have := ih.2.2
        show (nHang j (k + 1) (r - min r 5) _).2.1 4 + (nHang j (k + 1) (r - min r 5) _).1 = _
        omega
      · show (s'.2.1 + 1, _) = (s.2.1 + 1, _)
        rw [h2, h1 9 (by decide), h1 5 (by decide), h1 6 (by decide), h1 8 (by decide), h4]
      · intro q hq
        show nU s'.1 4 _ q = s.1 q
        simp only [nU, hq, if_false]
        exact h1 q hq
      · show s'.1 4 + min r 5 = c + 5 * (k + 1)
        omega
theorem nI_sb {a b : Nat} (ha : a ≤ 2000) (hb : b ≤ 2000) : (nI a - nI b).toInt = (a : Int) - b := by
  have h1 := nI_ti ha
  have h2 := nI_ti hb
  rw [Int32.toInt_sub, h1, h2, Int.bmod_eq_of_le] <;> omega
theorem nMx_sb {a b : Nat} (ha : a ≤ 2000) (hb : b ≤ 2000) : (if 0 < (nI a - nI b).toInt then nI a - nI b else 0) = nI (a - b) := by
  rw [nI_sb ha hb]
  split
  · rw [nI_subn (by omega)]
  · rw [show a - b = 0 by omega]; rfl
theorem nMx_sb1 {a b : Nat} (ha : a ≤ 2000) (hb : b ≤ 2000) : (if -1 < (nI a - nI b).toInt then nI a - nI b else -1) = nI (a + 1 - b) - 1 := by
  rw [nI_sb ha hb]
  split
  · rw [show a + 1 - b = (a - b) + 1 by omega, nI_s1, nI_subn (by omega)]
  · rw [show a + 1 - b = 0 by omega]; rfl
theorem s_hang1 (hD : isD D) {m sn : Nat} {dp : Int32} (hm : m ≤ 200) (c : Nat) : ∀ j i (s : nD) (M1 : gM) (v5 v6 : Option Value), i + j = sn → gFr (xDin D) M M1 → XR M1 → xDr M1 D s → nOk s → sn ≤ s.1 5 → c = s.1 4 → s.1 4 + m ≤ s.1 2 → s.2.1 + j ≤ 400 → 5 * sn < m + 5 →
    (∀ M2 v5 v6, gFr (xDin D) M M2 → xDr M2 D (nHangX c j i (m - 5 * i) s).2 → Run (d + 2) 16 123 [some (.ref D), some (.int (nI m)), some (.int dp), some (.int (nI sn)), some (.int (nI sn)), v5, v6] [] M2 0 0 Z) →
    Run (d + 2) 16 57 [some (.ref D), some (.int (nI m)), some (.int dp), some (.int (nI sn)), some (.int (nI i)), v5, v6] [] M1 0 0 Z
  | 0, i, s, M1, v5, v6, hi, hf, hx, hd, hk, hr, hc, h4, hn, h5, hZ => by
    have hi : i = sn := by omega
    subst hi
    rw [z16_57]
    simp only [z16_59, z16_60, gIn_toInt, nI_toInt, Nat.reduceLT, Nat.reducePow, va_rf_none, va_rf_some, gObj_sI, gObj_sR, gAr_sI, gAr_sR, gLen_sI, gLen_sR, gsI_1, gsI_2, gsR_1, gsR_2, gU_ref, gU_null, gU_rf, gisRef_ref, gisRef_null, gisRef_rf, Option.toList_some, Option.toList_none, List.cons_append, List.nil_append, true_and, and_true, false_and, and_false, ↓reduceIte, if_true, if_false, Nat.reduceEqDiff, Nat.reduceAdd, Nat.reduceMul, Nat.reduceSub, Nat.reduceLeDiff, reduceCtorEq, not_true_eq_false, not_false_eq_true, true_imp_iff, false_imp_iff, zc_0, zc_1, zc_2, zc_3, zc_4, zc_5, zc_6, zc_8, zc_9, zc_10, zc_32, zc_36, zc_48, zc_64, zc_80, zc_120, zc_128, zc_248, zc_320, zc_400, zc_800, zc_1200, zc_2001, zc_4002, Int.reduceLT, Int.reduceLE, Int.reduceNeg, Nat.zero_ne_one, Nat.one_ne_zero, or_true, true_or, or_false, false_or, ti_0, ti_1, ti_2, ti_3, ti_4, ti_5, ti_6, ti_7, ti_8, ti_9, ti_10, ti_11, ti_12, ti_13, ti_14, ti_15, ti_16, ti_17, ti_18, ti_19, ti_20, ti_21, ti_22, ti_23, ti_24, ti_25, ti_26, ti_27, ti_28, ti_29, ti_30, ti_31, ti_32, ti_33, ti_34, ti_35, ti_36, ti_37, ti_38, ti_39, ti_40, ti_41, ti_42, ti_43, ti_44, ti_45, ti_46, ti_47, ti_48, ti_49, ti_50, ti_51, ti_52, ti_53, ti_54, ti_55, ti_56, ti_57, ti_58, ti_59, ti_60, ti_61, ti_62, ti_63, ti_64, ti_65, ti_66, ti_67, ti_68, ti_69, ti_70, ti_71, ti_72, ti_73, ti_74, ti_75, ti_76, ti_77, ti_78, ti_79, ti_80, ti_81, ti_82, ti_83, ti_84, ti_85, ti_86, ti_87, ti_88, ti_89, ti_90, ti_91, ti_92, ti_93, ti_94, ti_95, ti_96, ti_97, ti_98, ti_99, ti_100, ti_101, ti_102, ti_103, ti_104, ti_105, ti_106, ti_107, ti_108, ti_109, ti_110, ti_111, ti_112, ti_113, ti_114, ti_115, ti_116, ti_117, ti_118, ti_119, ti_120, ti_121, ti_122, ti_123, ti_124, ti_125, ti_126, ti_127, ti_128, ti_129, ti_200, ti_248, ti_255, ti_256, ti_400, ti_1000, ti_2000, ti_2001, ti_1000000, tj_1, tj_2, tj_8, tj_10, tj_1000, tc_0, tc_1, tc_2, tc_3, tc_4, tc_5, tc_6, tc_7, tc_8, i32_lt, i32_le, Int.le_refl]
    exact hZ M1 v5 v6 hf hd
  | j + 1, i, s, M1, v5, v6, hi, hf, hx, hd, hk, hr, hc, h4, hn, h5, hZ => by
    have ho := xD_o hx hD
    have h0 := xD_0 hx hD
    have hL := xL_o hx (isD_L hD)
    obtain ⟨f2, f3, f4, f5, f6, f8, f9, f10, f11, f13, f14⟩ := xDr_all hd
    obtain ⟨k1, k2, k3, k4, k5, k6, k7, k8, k10, k11, k12⟩ := id hk
    have c1 : ¬ (sn : Int) ≤ (i : Int) := by omega
    have t1 := nI_ti (show sn ≤ 2000 by omega)
    have t2 := nI_ti (show i ≤ 2000 by omega)
    have e1 : nI i * 5 = nI (5 * i) := by rw [Nat.mul_comm, ← nI_mul]; rfl
    have a1 : nI m - nI (5 * i) = nI (m - 5 * i) := nI_subn (by omega)
    have a2 : (if (nI (m - 5 * i)).toInt < 5 then nI (m - 5 * i) else 5) = nI (min (m - 5 * i) 5) := nMn_lti (b := 5) (by omega) (by omega)
    have a3 : nI (s.1 5) - 1 - nI i = nI (s.1 5 - 1 - i) := by rw [show (1 : Int32) = nI 1 from rfl, nI_subn (by omega), nI_subn (by omega)]
    rw [z16_57]
    simp only [z16_59, z16_60, z16_63, z16_65, z16_66, z16_67, z16_69, z16_70, z16_71, z16_73, z16_74, z16_77, z16_79, z16_80, z16_83, z16_84, z16_87, z16_88, z16_91, z16_92, z16_93, z16_95, z16_96, z16_97, z16_100, z16_101, z16_104, z16_106, z16_107, z16_109, z16_110, z16_111, z16_114, gIn_toInt, nI_toInt, Nat.reduceLT, Nat.reducePow, va_rf_none, va_rf_some, gObj_sI, gObj_sR, gAr_sI, gAr_sR, gLen_sI, gLen_sR, gsI_1, gsI_2, gsR_1, gsR_2, gU_ref, gU_null, gU_rf, gisRef_ref, gisRef_null, gisRef_rf, Option.toList_some, Option.toList_none, List.cons_append, List.nil_append, true_and, and_true, false_and, and_false, ↓reduceIte, if_true, if_false, Nat.reduceEqDiff, Nat.reduceAdd, Nat.reduceMul, Nat.reduceSub, Nat.reduceLeDiff, reduceCtorEq, not_true_eq_false, not_false_eq_true, true_imp_iff, false_imp_iff, zc_0, zc_1, zc_2, zc_3, zc_4, zc_5, zc_6, zc_8, zc_9, zc_10, zc_32, zc_36, zc_48, zc_64, zc_80, zc_120, zc_128, zc_248, zc_320, zc_400, zc_800, zc_1200, zc_2001, zc_4002, Int.reduceLT, Int.reduceLE, Int.reduceNeg, Nat.zero_ne_one, Nat.one_ne_zero, or_true, true_or, or_false, false_or, ti_0, ti_1, ti_2, ti_3, ti_4, ti_5, ti_6, ti_7, ti_8, ti_9, ti_10, ti_11, ti_12, ti_13, ti_14, ti_15, ti_16, ti_17, ti_18, ti_19, ti_20, ti_21, ti_22, ti_23, ti_24, ti_25, ti_26, ti_27, ti_28, ti_29, ti_30, ti_31, ti_32, ti_33, ti_34, ti_35, ti_36, ti_37, ti_38, ti_39, ti_40, ti_41, ti_42, ti_43, ti_44, ti_45, ti_46, ti_47, ti_48, ti_49, ti_50, ti_51, ti_52, ti_53, ti_54, ti_55, ti_56, ti_57, ti_58, ti_59, ti_60, ti_61, ti_62, ti_63, ti_64, ti_65, ti_66, ti_67, ti_68, ti_69, ti_70, ti_71, ti_72, ti_73, ti_74, ti_75, ti_76, ti_77, ti_78, ti_79, ti_80, ti_81, ti_82, ti_83, ti_84, ti_85, ti_86, ti_87, ti_88, ti_89, ti_90, ti_91, ti_92, ti_93, ti_94, ti_95, ti_96, ti_97, ti_98, ti_99, ti_100, ti_101, ti_102, ti_103, ti_104, ti_105, ti_106, ti_107, ti_108, ti_109, ti_110, ti_111, ti_112, ti_113, ti_114, ti_115, ti_116, ti_117, ti_118, ti_119, ti_120, ti_121, ti_122, ti_123, ti_124, ti_125, ti_126, ti_127, ti_128, ti_129, ti_200, ti_248, ti_255, ti_256, ti_400, ti_1000, ti_2000, ti_2001, ti_1000000, tj_1, tj_2, tj_8, tj_10, tj_1000, tc_0, tc_1, tc_2, tc_3, tc_4, tc_5, tc_6, tc_7, tc_8, i32_lt, i32_le, ho, h0, hL, t1, t2, c1, e1, a1, a2, a3, f4, f5, f6, f8, f9, nI_add]
    refine s_laddD (ro := 1) hx hD hd (by omega) (lOk_rec (by omega) (by omega) (by omega) k5 (by omega) (by omega) k7) (fun M2 hf2 hd2 => ?_)
    simp only [z16_117, z16_120, gIn_toInt, nI_toInt, Nat.reduceLT, Nat.reducePow, va_rf_none, va_rf_some, gObj_sI, gObj_sR, gAr_sI, gAr_sR, gLen_sI, gLen_sR, gsI_1, gsI_2, gsR_1, gsR_2, gU_ref, gU_null, gU_rf, gisRef_ref, gisRef_null, gisRef_rf, Option.toList_some, Option.toList_none, List.cons_append, List.nil_append, true_and, and_true, false_and, and_false, ↓reduceIte, if_true, if_false, Nat.reduceEqDiff, Nat.reduceAdd, Nat.reduceMul, Nat.reduceSub, Nat.reduceLeDiff, reduceCtorEq, not_true_eq_false, not_false_eq_true, true_imp_iff, false_imp_iff, zc_0, zc_1, zc_2, zc_3, zc_4, zc_5, zc_6, zc_8, zc_9, zc_10, zc_32, zc_36, zc_48, zc_64, zc_80, zc_120, zc_128, zc_248, zc_320, zc_400, zc_800, zc_1200, zc_2001, zc_4002, Int.reduceLT, Int.reduceLE, Int.reduceNeg, Nat.zero_ne_one, Nat.one_ne_zero, or_true, true_or, or_false, false_or, ti_0, ti_1, ti_2, ti_3, ti_4, ti_5, ti_6, ti_7, ti_8, ti_9, ti_10, ti_11, ti_12, ti_13, ti_14, ti_15, ti_16, ti_17, ti_18, ti_19, ti_20, ti_21, ti_22, ti_23, ti_24, ti_25, ti_26, ti_27, ti_28, ti_29, ti_30, ti_31, ti_32, ti_33, ti_34, ti_35, ti_36, ti_37, ti_38, ti_39, ti_40, ti_41, ti_42, ti_43, ti_44, ti_45, ti_46, ti_47, ti_48, ti_49, ti_50, ti_51, ti_52, ti_53, ti_54, ti_55, ti_56, ti_57, ti_58, ti_59, ti_60, ti_61, ti_62, ti_63, ti_64, ti_65, ti_66, ti_67, ti_68, ti_69, ti_70, ti_71, ti_72, ti_73, ti_74, ti_75, ti_76, ti_77, ti_78, ti_79, ti_80, ti_81, ti_82, ti_83, ti_84, ti_85, ti_86, ti_87, ti_88, ti_89, ti_90, ti_91, ti_92, ti_93, ti_94, ti_95, ti_96, ti_97, ti_98, ti_99, ti_100, ti_101, ti_102, ti_103, ti_104, ti_105, ti_106, ti_107, ti_108, ti_109, ti_110, ti_111, ti_112, ti_113, ti_114, ti_115, ti_116, ti_117, ti_118, ti_119, ti_120, ti_121, ti_122, ti_123, ti_124, ti_125, ti_126, ti_127, ti_128, ti_129, ti_200, ti_248, ti_255, ti_256, ti_400, ti_1000, ti_2000, ti_2001, ti_1000000, tj_1, tj_2, tj_8, tj_10, tj_1000, tc_0, tc_1, tc_2, tc_3, tc_4, tc_5, tc_6, tc_7, tc_8, i32_lt, i32_le, nI_1]
    refine s_hang1 hD hm c j (i + 1) _ M2 _ _ (by omega) (gFr_tr hf hf2) (gFr_X hf2 hx) hd2 hk hr hc h4 ?_ h5 ?_
    · show s.2.1 + 1 + j ≤ 400
      omega
    · intro M3 w5 w6 hf3 hd3
      refine hZ M3 w5 w6 hf3 ?_
      rw [nHangX, show m - 5 * i - min (m - 5 * i) 5 = m - 5 * (i + 1) by omega]
      rw [← hc] at hd3
      exact hd3
theorem s_hang (hx : XR M) (hD : isD D) (hd : xDr M D t) (hk : nOk t) (hZ : ∀ M2, gFr (xDin D) M M2 → xDr M2 D (aHang t x).2 → Z (some (.int (nI (aHang t x).1))) M2) : Call (d + 3) 16 [.ref D, .int x] M Z := by
  have ho := xD_o hx hD
  have h0 := xD_0 hx hD
  have hL := xL_o hx (isD_L hD)
  have hn8 := hd.1.1
  have hn4 := hd.1.2.1
  have hl := fun Z => s_leftD (d := d + 1) (Z := Z) hx hD hd hk
  have f5 : M.1 D 5 = nI (t.1 5) := xDr_f hd (by decide)
  obtain ⟨k1, k2, k3, k4, k5, k6, k7, k8, k10, k11, k12⟩ := id hk
  by_cases hn : isNm x
  · obtain ⟨m, hm, rfl, hmm⟩ := isNm_nI hn
    have t0 := nI_ti (show m ≤ 2000 by omega)
    have ti3 := nI_ti (show t.1 2 - t.1 4 ≤ 2000 by omega)
    have c0 : 0 ≤ (m : Int) ∧ (m : Int) ≤ 200 := by omega
    have a1 : nI m + 5 - 1 = nI (m + 4) := by rw [show (5 : Int32) = nI 5 from rfl, nI_add, show m + 5 = (m + 4) + 1 by omega, nI_s1]
    have a2 := nI_dv5 (m + 4) (by omega)
    have z5 : ¬ (5 : Int32) = 0 := by decide
    unfold aHang at hZ
    rw [if_neg (by simpa using hn)] at hZ
    simp only [hmm] at hZ
    have hdp : (m + 4) / 5 ≤ 41 := by omega
    have hdm : 5 * ((m + 4) / 5) < m + 5 := by omega
    generalize (m + 4) / 5 = dp at *
    have a3 : (if (nI (t.1 5)).toInt < (nI dp).toInt then nI (t.1 5) else nI dp) = nI (min dp (t.1 5)) := by rw [nMn_lti (by omega) (by omega), Nat.min_comm]
    have hsn : min dp (t.1 5) ≤ t.1 5 := by omega
    have hsd : min dp (t.1 5) ≤ dp := by omega
    have hsf : min dp (t.1 5) = t.1 5 ∨ min dp (t.1 5) = dp := by omega
    generalize min dp (t.1 5) = sn at *
    have ti2 := nI_ti (show t.2.1 + sn ≤ 2000 by omega)
    by_cases c2 : t.1 2 - t.1 4 < m
    · have c3 : ¬ (m : Int) ≤ ((t.1 2 - t.1 4 : Nat) : Int) := by omega
      rw [if_pos c2] at hZ
      simp only [z16_0, z16_1, z16_4, z16_7, z16_8, z16_9, z16_10, z16_11, z16_14, z16_17, z16_18, e16, gIn_toInt, nI_toInt, Nat.reduceLT, Nat.reducePow, va_rf_none, va_rf_some, gObj_sI, gObj_sR, gAr_sI, gAr_sR, gLen_sI, gLen_sR, gsI_1, gsI_2, gsR_1, gsR_2, gU_ref, gU_null, gU_rf, gisRef_ref, gisRef_null, gisRef_rf, Option.toList_some, Option.toList_none, List.cons_append, List.nil_append, true_and, and_true, false_and, and_false, ↓reduceIte, if_true, if_false, Nat.reduceEqDiff, Nat.reduceAdd, Nat.reduceMul, Nat.reduceSub, Nat.reduceLeDiff, reduceCtorEq, not_true_eq_false, not_false_eq_true, true_imp_iff, false_imp_iff, zc_0, zc_1, zc_2, zc_3, zc_4, zc_5, zc_6, zc_8, zc_9, zc_10, zc_32, zc_36, zc_48, zc_64, zc_80, zc_120, zc_128, zc_248, zc_320, zc_400, zc_800, zc_1200, zc_2001, zc_4002, Int.reduceLT, Int.reduceLE, Int.reduceNeg, Nat.zero_ne_one, Nat.one_ne_zero, or_true, true_or, or_false, false_or, ti_0, ti_1, ti_2, ti_3, ti_4, ti_5, ti_6, ti_7, ti_8, ti_9, ti_10, ti_11, ti_12, ti_13, ti_14, ti_15, ti_16, ti_17, ti_18, ti_19, ti_20, ti_21, ti_22, ti_23, ti_24, ti_25, ti_26, ti_27, ti_28, ti_29, ti_30, ti_31, ti_32, ti_33, ti_34, ti_35, ti_36, ti_37, ti_38, ti_39, ti_40, ti_41, ti_42, ti_43, ti_44, ti_45, ti_46, ti_47, ti_48, ti_49, ti_50, ti_51, ti_52, ti_53, ti_54, ti_55, ti_56, ti_57, ti_58, ti_59, ti_60, ti_61, ti_62, ti_63, ti_64, ti_65, ti_66, ti_67, ti_68, ti_69, ti_70, ti_71, ti_72, ti_73, ti_74, ti_75, ti_76, ti_77, ti_78, ti_79, ti_80, ti_81, ti_82, ti_83, ti_84, ti_85, ti_86, ti_87, ti_88, ti_89, ti_90, ti_91, ti_92, ti_93, ti_94, ti_95, ti_96, ti_97, ti_98, ti_99, ti_100, ti_101, ti_102, ti_103, ti_104, ti_105, ti_106, ti_107, ti_108, ti_109, ti_110, ti_111, ti_112, ti_113, ti_114, ti_115, ti_116, ti_117, ti_118, ti_119, ti_120, ti_121, ti_122, ti_123, ti_124, ti_125, ti_126, ti_127, ti_128, ti_129, ti_200, ti_248, ti_255, ti_256, ti_400, ti_1000, ti_2000, ti_2001, ti_1000000, tj_1, tj_2, tj_8, tj_10, tj_1000, tc_0, tc_1, tc_2, tc_3, tc_4, tc_5, tc_6, tc_7, tc_8, i32_lt, i32_le, s_isNumber, gb_0, ho, hl, t0, ti3, c0, c3]
      exact hZ M gFr_rf hd
    · have c3 : (m : Int) ≤ ((t.1 2 - t.1 4 : Nat) : Int) := by omega
      rw [if_neg c2] at hZ
      by_cases c4 : 400 < t.2.1 + sn
      · have c5 : ¬ ((t.2.1 + sn : Nat) : Int) ≤ 400 := by omega
        rw [if_pos c4] at hZ
        simp only [z16_0, z16_1, z16_4, z16_7, z16_8, z16_9, z16_10, z16_11, z16_14, z16_17, z16_18, z16_19, z16_20, z16_21, z16_22, z16_23, z16_24, z16_26, z16_27, z16_28, z16_29, z16_32, z16_35, z16_36, z16_37, z16_40, z16_43, z16_44, z16_45, z16_48, z16_51, z16_53, z16_25 z5, e16, gIn_toInt, nI_toInt, Nat.reduceLT, Nat.reducePow, va_rf_none, va_rf_some, gObj_sI, gObj_sR, gAr_sI, gAr_sR, gLen_sI, gLen_sR, gsI_1, gsI_2, gsR_1, gsR_2, gU_ref, gU_null, gU_rf, gisRef_ref, gisRef_null, gisRef_rf, Option.toList_some, Option.toList_none, List.cons_append, List.nil_append, true_and, and_true, false_and, and_false, ↓reduceIte, if_true, if_false, Nat.reduceEqDiff, Nat.reduceAdd, Nat.reduceMul, Nat.reduceSub, Nat.reduceLeDiff, reduceCtorEq, not_true_eq_false, not_false_eq_true, true_imp_iff, false_imp_iff, zc_0, zc_1, zc_2, zc_3, zc_4, zc_5, zc_6, zc_8, zc_9, zc_10, zc_32, zc_36, zc_48, zc_64, zc_80, zc_120, zc_128, zc_248, zc_320, zc_400, zc_800, zc_1200, zc_2001, zc_4002, Int.reduceLT, Int.reduceLE, Int.reduceNeg, Nat.zero_ne_one, Nat.one_ne_zero, or_true, true_or, or_false, false_or, ti_0, ti_1, ti_2, ti_3, ti_4, ti_5, ti_6, ti_7, ti_8, ti_9, ti_10, ti_11, ti_12, ti_13, ti_14, ti_15, ti_16, ti_17, ti_18, ti_19, ti_20, ti_21, ti_22, ti_23, ti_24, ti_25, ti_26, ti_27, ti_28, ti_29, ti_30, ti_31, ti_32, ti_33, ti_34, ti_35, ti_36, ti_37, ti_38, ti_39, ti_40, ti_41, ti_42, ti_43, ti_44, ti_45, ti_46, ti_47, ti_48, ti_49, ti_50, ti_51, ti_52, ti_53, ti_54, ti_55, ti_56, ti_57, ti_58, ti_59, ti_60, ti_61, ti_62, ti_63, ti_64, ti_65, ti_66, ti_67, ti_68, ti_69, ti_70, ti_71, ti_72, ti_73, ti_74, ti_75, ti_76, ti_77, ti_78, ti_79, ti_80, ti_81, ti_82, ti_83, ti_84, ti_85, ti_86, ti_87, ti_88, ti_89, ti_90, ti_91, ti_92, ti_93, ti_94, ti_95, ti_96, ti_97, ti_98, ti_99, ti_100, ti_101, ti_102, ti_103, ti_104, ti_105, ti_106, ti_107, ti_108, ti_109, ti_110, ti_111, ti_112, ti_113, ti_114, ti_115, ti_116, ti_117, ti_118, ti_119, ti_120, ti_121, ti_122, ti_123, ti_124, ti_125, ti_126, ti_127, ti_128, ti_129, ti_200, ti_248, ti_255, ti_256, ti_400, ti_1000, ti_2000, ti_2001, ti_1000000, tj_1, tj_2, tj_8, tj_10, tj_1000, tc_0, tc_1, tc_2, tc_3, tc_4, tc_5, tc_6, tc_7, tc_8, i32_lt, i32_le, s_isNumber, gb_0, ho, h0, hL, hl, hn8, f5, a1, a2, a3, nI_add, t0, ti2, ti3, c0, c3, c5]
        exact hZ M gFr_rf hd
      · have c5 : ((t.2.1 + sn : Nat) : Int) ≤ 400 := by omega
        rw [if_neg c4] at hZ
        simp only [z16_0, z16_1, z16_4, z16_7, z16_8, z16_9, z16_10, z16_11, z16_14, z16_17, z16_18, z16_19, z16_20, z16_21, z16_22, z16_23, z16_24, z16_26, z16_27, z16_28, z16_29, z16_32, z16_35, z16_36, z16_37, z16_40, z16_43, z16_44, z16_45, z16_48, z16_51, z16_53, z16_54, z16_55, z16_25 z5, e16, gIn_toInt, nI_toInt, Nat.reduceLT, Nat.reducePow, va_rf_none, va_rf_some, gObj_sI, gObj_sR, gAr_sI, gAr_sR, gLen_sI, gLen_sR, gsI_1, gsI_2, gsR_1, gsR_2, gU_ref, gU_null, gU_rf, gisRef_ref, gisRef_null, gisRef_rf, Option.toList_some, Option.toList_none, List.cons_append, List.nil_append, true_and, and_true, false_and, and_false, ↓reduceIte, if_true, if_false, Nat.reduceEqDiff, Nat.reduceAdd, Nat.reduceMul, Nat.reduceSub, Nat.reduceLeDiff, reduceCtorEq, not_true_eq_false, not_false_eq_true, true_imp_iff, false_imp_iff, zc_0, zc_1, zc_2, zc_3, zc_4, zc_5, zc_6, zc_8, zc_9, zc_10, zc_32, zc_36, zc_48, zc_64, zc_80, zc_120, zc_128, zc_248, zc_320, zc_400, zc_800, zc_1200, zc_2001, zc_4002, Int.reduceLT, Int.reduceLE, Int.reduceNeg, Nat.zero_ne_one, Nat.one_ne_zero, or_true, true_or, or_false, false_or, ti_0, ti_1, ti_2, ti_3, ti_4, ti_5, ti_6, ti_7, ti_8, ti_9, ti_10, ti_11, ti_12, ti_13, ti_14, ti_15, ti_16, ti_17, ti_18, ti_19, ti_20, ti_21, ti_22, ti_23, ti_24, ti_25, ti_26, ti_27, ti_28, ti_29, ti_30, ti_31, ti_32, ti_33, ti_34, ti_35, ti_36, ti_37, ti_38, ti_39, ti_40, ti_41, ti_42, ti_43, ti_44, ti_45, ti_46, ti_47, ti_48, ti_49, ti_50, ti_51, ti_52, ti_53, ti_54, ti_55, ti_56, ti_57, ti_58, ti_59, ti_60, ti_61, ti_62, ti_63, ti_64, ti_65, ti_66, ti_67, ti_68, ti_69, ti_70, ti_71, ti_72, ti_73, ti_74, ti_75, ti_76, ti_77, ti_78, ti_79, ti_80, ti_81, ti_82, ti_83, ti_84, ti_85, ti_86, ti_87, ti_88, ti_89, ti_90, ti_91, ti_92, ti_93, ti_94, ti_95, ti_96, ti_97, ti_98, ti_99, ti_100, ti_101, ti_102, ti_103, ti_104, ti_105, ti_106, ti_107, ti_108, ti_109, ti_110, ti_111, ti_112, ti_113, ti_114, ti_115, ti_116, ti_117, ti_118, ti_119, ti_120, ti_121, ti_122, ti_123, ti_124, ti_125, ti_126, ti_127, ti_128, ti_129, ti_200, ti_248, ti_255, ti_256, ti_400, ti_1000, ti_2000, ti_2001, ti_1000000, tj_1, tj_2, tj_8, tj_10, tj_1000, tc_0, tc_1, tc_2, tc_3, tc_4, tc_5, tc_6, tc_7, tc_8, i32_lt, i32_le, s_isNumber, gb_0, ho, h0, hL, hl, hn8, f5, a1, a2, a3, nI_add, t0, ti2, ti3, c0, c3, c5]
        refine s_hang1 (d := d) hD hm (t.1 4) sn 0 t M none none (by omega) gFr_rf hx hd hk hsn rfl (by omega) (by omega) (by omega) (fun M2 v5 v6 hf2 hd2 => ?_)
        rw [show m - 5 * 0 = m by omega] at hd2
        have hx2 := gFr_X hf2 hx
        have ho2 := xD_o hx2 hD
        obtain ⟨g2, g3, g4, g5, g6, g8, g9, g10, g11, g13, g14⟩ := xDr_all hd2
        rw [nHangX_1] at g4 g5 g9 g13
        have b1 : (5 : Int32) * nI sn = nI (5 * sn) := by rw [← nI_mul]; rfl
        have b2 := nMx_sb (a := m) (b := 5 * sn) (by omega) (by omega)
        have b3 := nMx_sb1 (a := t.1 5) (b := dp) (by omega) (by omega)
        simp only [z16_123, z16_124, z16_125, z16_128, z16_129, z16_130, z16_133, z16_134, z16_135, z16_138, z16_139, z16_140, z16_141, z16_142, z16_143, z16_144, z16_147, z16_148, z16_151, z16_152, z16_153, z16_156, z16_157, z16_158, z16_159, z16_162, z16_163, z16_164, z16_167, z16_170, z16_171, z16_172, z16_175, z16_176, z16_177, z16_180, z16_181, gIn_toInt, nI_toInt, Nat.reduceLT, Nat.reducePow, va_rf_none, va_rf_some, gObj_sI, gObj_sR, gAr_sI, gAr_sR, gLen_sI, gLen_sR, gsI_1, gsI_2, gsR_1, gsR_2, gU_ref, gU_null, gU_rf, gisRef_ref, gisRef_null, gisRef_rf, Option.toList_some, Option.toList_none, List.cons_append, List.nil_append, true_and, and_true, false_and, and_false, ↓reduceIte, if_true, if_false, Nat.reduceEqDiff, Nat.reduceAdd, Nat.reduceMul, Nat.reduceSub, Nat.reduceLeDiff, reduceCtorEq, not_true_eq_false, not_false_eq_true, true_imp_iff, false_imp_iff, zc_0, zc_1, zc_2, zc_3, zc_4, zc_5, zc_6, zc_8, zc_9, zc_10, zc_32, zc_36, zc_48, zc_64, zc_80, zc_120, zc_128, zc_248, zc_320, zc_400, zc_800, zc_1200, zc_2001, zc_4002, Int.reduceLT, Int.reduceLE, Int.reduceNeg, Nat.zero_ne_one, Nat.one_ne_zero, or_true, true_or, or_false, false_or, ti_0, ti_1, ti_2, ti_3, ti_4, ti_5, ti_6, ti_7, ti_8, ti_9, ti_10, ti_11, ti_12, ti_13, ti_14, ti_15, ti_16, ti_17, ti_18, ti_19, ti_20, ti_21, ti_22, ti_23, ti_24, ti_25, ti_26, ti_27, ti_28, ti_29, ti_30, ti_31, ti_32, ti_33, ti_34, ti_35, ti_36, ti_37, ti_38, ti_39, ti_40, ti_41, ti_42, ti_43, ti_44, ti_45, ti_46, ti_47, ti_48, ti_49, ti_50, ti_51, ti_52, ti_53, ti_54, ti_55, ti_56, ti_57, ti_58, ti_59, ti_60, ti_61, ti_62, ti_63, ti_64, ti_65, ti_66, ti_67, ti_68, ti_69, ti_70, ti_71, ti_72, ti_73, ti_74, ti_75, ti_76, ti_77, ti_78, ti_79, ti_80, ti_81, ti_82, ti_83, ti_84, ti_85, ti_86, ti_87, ti_88, ti_89, ti_90, ti_91, ti_92, ti_93, ti_94, ti_95, ti_96, ti_97, ti_98, ti_99, ti_100, ti_101, ti_102, ti_103, ti_104, ti_105, ti_106, ti_107, ti_108, ti_109, ti_110, ti_111, ti_112, ti_113, ti_114, ti_115, ti_116, ti_117, ti_118, ti_119, ti_120, ti_121, ti_122, ti_123, ti_124, ti_125, ti_126, ti_127, ti_128, ti_129, ti_200, ti_248, ti_255, ti_256, ti_400, ti_1000, ti_2000, ti_2001, ti_1000000, tj_1, tj_2, tj_8, tj_10, tj_1000, tc_0, tc_1, tc_2, tc_3, tc_4, tc_5, tc_6, tc_7, tc_8, i32_lt, i32_le, ho2, g4, g5, g9, g13, b1, b2, b3, nI_add, nI_1]
        have hd3 := xDr_set (xDr_set12 (xDr_set (xDr_set (xDr_set hd2 (q := 4) (w := t.1 4 + m) (by decide)) (q := 13) (w := t.1 13 + (m - 5 * sn)) (by decide)) (q := 11) (w := 1) (by decide)) (w := t.1 5 + 1 - dp) rfl) (q := 9) (w := t.1 9 + 1) (by decide)
        refine hZ _ (gFr_tr (gFr_tr (gFr_tr (gFr_tr (gFr_tr hf2 (xDin_sI (by omega))) (xDin_sI (by omega))) (xDin_sI (by omega))) (xDin_sI (by omega))) (xDin_sI (by omega))) (cast ?_ hd3)
        have he := nHang_eq (t.1 4) sn 0 m t t rfl (fun _ _ => rfl) rfl (by omega)
        have hr := nHangX_r (t.1 4) sn 0 m t
        congr 1
        refine Prod.ext (funext fun q => ?_) he.2.1.symm
        have hq := fun h => nHang_rg (q := q) h sn 0 m t
        have he1 := he.1
        have he3 := he.2.2
        rw [nHangX_1]
        generalize nHang sn 0 m t = w at *
        generalize nHangX (t.1 4) sn 0 m t = w' at *
        simp only [nActed, nWaste, nU]
        by_cases q9 : q = 9
        · subst q9; simp; exact (hq (by decide)).symm
        by_cases q4 : q = 4
        · subst q4; simp; omega
        have hq := hq q4
        by_cases q13 : q = 13
        · subst q13; simp [hq]; omega
        simp only [q9, q4, q13, if_false]
        rw [hq]
  · unfold aHang at hZ
    rw [if_pos hn] at hZ
    simp only [z16_0, z16_1, z16_4, z16_7, z16_8, e16, gIn_toInt, nI_toInt, Nat.reduceLT, Nat.reducePow, va_rf_none, va_rf_some, gObj_sI, gObj_sR, gAr_sI, gAr_sR, gLen_sI, gLen_sR, gsI_1, gsI_2, gsR_1, gsR_2, gU_ref, gU_null, gU_rf, gisRef_ref, gisRef_null, gisRef_rf, Option.toList_some, Option.toList_none, List.cons_append, List.nil_append, true_and, and_true, false_and, and_false, ↓reduceIte, if_true, if_false, Nat.reduceEqDiff, Nat.reduceAdd, Nat.reduceMul, Nat.reduceSub, Nat.reduceLeDiff, reduceCtorEq, not_true_eq_false, not_false_eq_true, true_imp_iff, false_imp_iff, zc_0, zc_1, zc_2, zc_3, zc_4, zc_5, zc_6, zc_8, zc_9, zc_10, zc_32, zc_36, zc_48, zc_64, zc_80, zc_120, zc_128, zc_248, zc_320, zc_400, zc_800, zc_1200, zc_2001, zc_4002, Int.reduceLT, Int.reduceLE, Int.reduceNeg, Nat.zero_ne_one, Nat.one_ne_zero, or_true, true_or, or_false, false_or, s_isNumber, isNm_no hn]
    exact hZ M gFr_rf hd
end
