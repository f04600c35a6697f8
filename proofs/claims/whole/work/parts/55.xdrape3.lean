/-! The class's drape: its fields one by one; begin, goTo, width. -/
def xDin (D o : Nat) : Prop := D ≤ o ∧ o ≤ D + 9
def nBeg (len h : Nat) : nD := (fun f => if f = 2 then len else if f = 3 then h else 0, 0, fun _ _ => 0)
section
variable {d D L n k p len endc : Nat} {M : gM} {Z : Option Value → gM → Prop} {i r s x a b c e f v : Int32} {ly : Nat → Nat → Nat} {col : Nat → Nat} {t : nD} {g : Nat → Nat}
theorem xD_o (hx : XR M) (hD : isD D) : gObj M D 1 := by rcases hD with rfl | rfl; exact xo15 hx; exact xo26 hx
theorem xD_0 (hx : XR M) (hD : isD D) : M.2.1 D 0 = some (D + 1) := by rcases hD with rfl | rfl; exact xr15_0 hx; exact xr26_0 hx
theorem xD_1 (hx : XR M) (hD : isD D) : M.2.1 D 1 = some (D + 10) := by rcases hD with rfl | rfl; exact xr15_1 hx; exact xr26_1 hx
theorem xD_a (hx : XR M) (hD : isD D) : gAr M (D + 10) 0 := by rcases hD with rfl | rfl; exact xa25 hx; exact xa36 hx
theorem xD_l (hx : XR M) (hD : isD D) : gLen M (D + 10) = 8 := by rcases hD with rfl | rfl; exact xl25 hx; exact xl36 hx
theorem xDr_f (hd : xDr M D t) {q : Nat} (h : 2 ≤ q ∧ q < 15 ∧ q ≠ 7 ∧ q ≠ 12) : M.1 D q = nI (t.1 q) := hd.2.1 q h.1 h.2.1 h.2.2.1 h.2.2.2
theorem xDr_all (hd : xDr M D t) : M.1 D 2 = nI (t.1 2) ∧ M.1 D 3 = nI (t.1 3) ∧ M.1 D 4 = nI (t.1 4) ∧ M.1 D 5 = nI (t.1 5) ∧ M.1 D 6 = nI (t.1 6) ∧ M.1 D 8 = nI (t.1 8) ∧ M.1 D 9 = nI (t.1 9) ∧ M.1 D 10 = nI (t.1 10) ∧ M.1 D 11 = nI (t.1 11) ∧ M.1 D 13 = nI (t.1 13) ∧ M.1 D 14 = nI (t.1 14) :=
  ⟨xDr_f hd (by decide), xDr_f hd (by decide), xDr_f hd (by decide), xDr_f hd (by decide), xDr_f hd (by decide), xDr_f hd (by decide), xDr_f hd (by decide), xDr_f hd (by decide), xDr_f hd (by decide), xDr_f hd (by decide), xDr_f hd (by decide)⟩
theorem xDr_set (hd : xDr M D t) {q w : Nat} (h : 2 ≤ q ∧ q < 15 ∧ q ≠ 7 ∧ q ≠ 12) : xDr (gsI M D q (nI w)) D (nU t.1 q w, t.2) := by
  refine ⟨xLs_fr (gFr_sI (P := fun o => o = D) rfl) (fun o h1 h2 h3 => by omega) hd.1, fun f h1 h2 h3 h4 => ?_, ?_, ?_, ?_⟩
  · simp only [gsI_1, nU, true_and]
    split
    · rfl
    · exact hd.2.1 f h1 h2 h3 h4
  · simp only [gsI_1, nU, true_and, if_neg (fun z : 7 = q => h.2.2.1 z.symm)]; exact hd.2.2.1
  · simp only [gsI_1, nU, true_and, if_neg (fun z : 12 = q => h.2.2.2 z.symm)]; exact hd.2.2.2.1
  · simp only [gsI_1, nU, true_and, if_neg (show ¬ (15 = q) by omega)]; exact hd.2.2.2.2
theorem xDr_set7 (hd : xDr M D t) {w : Nat} {x : Int32} (hx : x = if w = 0 then 1 else -1) : xDr (gsI M D 7 x) D (nU t.1 7 w, t.2) := by
  refine ⟨xLs_fr (gFr_sI (P := fun o => o = D) rfl) (fun o h1 h2 h3 => by omega) hd.1, fun f h1 h2 h3 h4 => ?_, ?_, ?_, ?_⟩
  · simp only [gsI_1, nU, true_and, if_neg h3]; exact hd.2.1 f h1 h2 h3 h4
  · simp [gsI_1, nU, hx]
  · simp [gsI_1, nU]; exact hd.2.2.2.1
  · simp [gsI_1, nU]; exact hd.2.2.2.2
theorem xDr_set12 (hd : xDr M D t) {w : Nat} {x : Int32} (hx : x = nI w - 1) : xDr (gsI M D 12 x) D (nU t.1 12 w, t.2) := by
  refine ⟨xLs_fr (gFr_sI (P := fun o => o = D) rfl) (fun o h1 h2 h3 => by omega) hd.1, fun f h1 h2 h3 h4 => ?_, ?_, ?_, ?_⟩
  · simp only [gsI_1, nU, true_and, if_neg h4]; exact hd.2.1 f h1 h2 h3 h4
  · simp [gsI_1, nU]; exact hd.2.2.1
  · simp [gsI_1, nU, hx]
  · simp [gsI_1, nU]; exact hd.2.2.2.2
theorem xDr_set15 (hd : xDr M D t) {w : Nat} {x : Int32} (hx : x = nI w - 1) : xDr (gsI M D 15 x) D (nU t.1 15 w, t.2) := by
  refine ⟨xLs_fr (gFr_sI (P := fun o => o = D) rfl) (fun o h1 h2 h3 => by omega) hd.1, fun f h1 h2 h3 h4 => ?_, ?_, ?_, ?_⟩
  · simp only [gsI_1, nU, true_and, if_neg (show ¬ (f = 15) by omega)]; exact hd.2.1 f h1 h2 h3 h4
  · simp [gsI_1, nU]; exact hd.2.2.1
  · simp [gsI_1, nU]; exact hd.2.2.2.1
  · simp [gsI_1, nU, hx]
theorem xDr_o (hd : xDr M D t) {o q : Nat} {x : Int32} (h : o < D ∨ D + 8 + 1 < o ∨ (o = D ∧ 15 < q)) : xDr (gsI M o q x) D t := by
  refine ⟨?_, fun f h1 h2 h3 h4 => ?_, ?_, ?_, ?_⟩
  · refine ⟨by rw [gsI_1, if_neg (by omega)]; exact hd.1.1, hd.1.2.1, fun k hk => ⟨(hd.1.2.2 k hk).1, fun f hf => ?_⟩⟩
    rw [gsI_1, if_neg (by omega)]; exact (hd.1.2.2 k hk).2 f hf
  · rw [gsI_1, if_neg (by omega)]; exact hd.2.1 f h1 h2 h3 h4
  · rw [gsI_1, if_neg (by omega)]; exact hd.2.2.1
  · rw [gsI_1, if_neg (by omega)]; exact hd.2.2.2.1
  · rw [gsI_1, if_neg (by omega)]; exact hd.2.2.2.2
theorem xDr_n (hd : xDr M D t) {m : Nat} {x : Int32} (hm : m ≤ t.2.1) (hxm : x = nI m) : xDr (gsI M (D + 1) 8 x) D (t.1, m, t.2.2) := by
  subst hxm
  refine ⟨⟨by simp [gsI_1], Nat.le_trans hm hd.1.2.1, fun k hk => ⟨(hd.1.2.2 k (Nat.lt_of_lt_of_le hk hm)).1, fun f hf => ?_⟩⟩, fun f h1 h2 h3 h4 => ?_, ?_, ?_, ?_⟩
  · rw [gsI_1, if_neg (by omega)]; exact (hd.1.2.2 k (Nat.lt_of_lt_of_le hk hm)).2 f hf
  · rw [gsI_1, if_neg (by omega)]; exact hd.2.1 f h1 h2 h3 h4
  · rw [gsI_1, if_neg (by omega)]; exact hd.2.2.1
  · rw [gsI_1, if_neg (by omega)]; exact hd.2.2.2.1
  · rw [gsI_1, if_neg (by omega)]; exact hd.2.2.2.2
theorem xDr_fr {P : Nat → Prop} {M1 : gM} (h1 : gFr P M M1) (hP : ∀ o, D ≤ o → o ≤ D + 9 → ¬ P o) (hd : xDr M D t) : xDr M1 D t := by
  have h0 := h1.2 D (hP D (Nat.le_refl _) (by omega))
  exact ⟨xLs_fr h1 (fun o h2 h3 => hP o (by omega) (by omega)) hd.1, fun f h2 h3 h4 h5 => by rw [h0]; exact hd.2.1 f h2 h3 h4 h5, by rw [h0]; exact hd.2.2.1, by rw [h0]; exact hd.2.2.2.1, by rw [h0]; exact hd.2.2.2.2⟩
theorem xGi_fr {P : Nat → Prop} {M1 : gM} (h1 : gFr P M M1) (hP : ¬ P (D + 10)) (hg : xGi M D g) : xGi M1 D g := fun r hr => by rw [h1.2 _ hP]; exact hg r hr
theorem s_goTo (hx : XR M) (hD : isD D) : Call (d + 1) 5 [.ref D, .int a, .int b, .int c] M Z ↔ Z none (gsI (gsI (gsI M D 5 a) D 6 b) D 4 c) := by
  have ho := xD_o hx hD
  simp only [z5_0, z5_1, z5_2, z5_5, z5_6, z5_7, z5_10, z5_11, z5_12, z5_15, e5, gIn_toInt, nI_toInt, Nat.reduceLT, Nat.reducePow, va_rf_none, va_rf_some, gObj_sI, gObj_sR, gAr_sI, gAr_sR, gLen_sI, gLen_sR, gsI_1, gsI_2, gsR_1, gsR_2, gU_ref, gU_null, gU_rf, gisRef_ref, gisRef_null, gisRef_rf, Option.toList_some, Option.toList_none, List.cons_append, List.nil_append, true_and, and_true, false_and, and_false, ↓reduceIte, if_true, if_false, Nat.reduceEqDiff, Nat.reduceAdd, Nat.reduceMul, Nat.reduceSub, Nat.reduceLeDiff, reduceCtorEq, not_true_eq_false, not_false_eq_true, true_imp_iff, false_imp_iff, zc_0, zc_1, zc_2, zc_3, zc_4, zc_5, zc_6, zc_8, zc_9, zc_10, zc_32, zc_36, zc_48, zc_64, zc_80, zc_120, zc_128, zc_248, zc_320, zc_400, zc_800, zc_1200, zc_2001, zc_4002, Int.reduceLT, Int.reduceLE, Int.reduceNeg, Nat.zero_ne_one, Nat.one_ne_zero, or_true, true_or, or_false, false_or, ti_0, ti_1, ti_2, ti_3, ti_4, ti_5, ti_6, ti_7, ti_8, ti_9, ti_10, ti_11, ti_12, ti_13, ti_14, ti_15, ti_16, ti_17, ti_18, ti_19, ti_20, ti_21, ti_22, ti_23, ti_24, ti_25, ti_26, ti_27, ti_28, ti_29, ti_30, ti_31, ti_32, ti_33, ti_34, ti_35, ti_36, ti_37, ti_38, ti_39, ti_40, ti_41, ti_42, ti_43, ti_44, ti_45, ti_46, ti_47, ti_48, ti_49, ti_50, ti_51, ti_52, ti_53, ti_54, ti_55, ti_56, ti_57, ti_58, ti_59, ti_60, ti_61, ti_62, ti_63, ti_64, ti_65, ti_66, ti_67, ti_68, ti_69, ti_70, ti_71, ti_72, ti_73, ti_74, ti_75, ti_76, ti_77, ti_78, ti_79, ti_80, ti_81, ti_82, ti_83, ti_84, ti_85, ti_86, ti_87, ti_88, ti_89, ti_90, ti_91, ti_92, ti_93, ti_94, ti_95, ti_96, ti_97, ti_98, ti_99, ti_100, ti_101, ti_102, ti_103, ti_104, ti_105, ti_106, ti_107, ti_108, ti_109, ti_110, ti_111, ti_112, ti_113, ti_114, ti_115, ti_116, ti_117, ti_118, ti_119, ti_120, ti_121, ti_122, ti_123, ti_124, ti_125, ti_126, ti_127, ti_128, ti_129, ti_200, ti_248, ti_255, ti_256, ti_400, ti_1000, ti_2000, ti_2001, ti_1000000, tj_1, tj_2, tj_8, tj_10, tj_1000, tc_0, tc_1, tc_2, tc_3, tc_4, tc_5, tc_6, tc_7, tc_8, i32_lt, i32_le, ho]
theorem s_leftD (hx : XR M) (hD : isD D) (hd : xDr M D t) (hk : nOk t) : Call (d + 1) 6 [.ref D] M Z ↔ Z (some (.int (nI (t.1 2 - t.1 4)))) M := by
  rw [s_left hx hD, xDr_f hd (by decide), xDr_f hd (by decide), nI_subn hk.2.2.1]
theorem s_width1 (hx : XR M) (hD : isD D) (hd : xDr M D t) (hk : nOk t) (hg : xGi M D g) : ∀ j m, m + j = t.1 3 → (Run (d + 1) 7 11 [some (.ref D), some (.int (nI (nWide g (t.1 5) m))), some (.int (nI (t.1 5 + m)))] [] M 0 0 Z ↔ Z (some (.int (nI (nWide g (t.1 5) (t.1 3))))) M)
  | 0, m, hm => by
    obtain ⟨f2, f3, f4, f5, f6, f8, f9, f10, f11, f13, f14⟩ := xDr_all hd
    obtain ⟨-, ⟨k1, k2⟩, -, k5, -⟩ := hk
    have hm : m = t.1 3 := by omega
    subst hm
    have ho := xD_o hx hD
    have t1 := nI_ti (show t.1 5 + t.1 3 ≤ 2000 by omega)
    rw [z7_11]
    simp only [z7_12, z7_13, z7_16, z7_17, z7_20, z7_21, z7_24, z7_47, z7_48, gIn_toInt, nI_toInt, Nat.reduceLT, Nat.reducePow, va_rf_none, va_rf_some, gObj_sI, gObj_sR, gAr_sI, gAr_sR, gLen_sI, gLen_sR, gsI_1, gsI_2, gsR_1, gsR_2, gU_ref, gU_null, gU_rf, gisRef_ref, gisRef_null, gisRef_rf, Option.toList_some, Option.toList_none, List.cons_append, List.nil_append, true_and, and_true, false_and, and_false, ↓reduceIte, if_true, if_false, Nat.reduceEqDiff, Nat.reduceAdd, Nat.reduceMul, Nat.reduceSub, Nat.reduceLeDiff, reduceCtorEq, not_true_eq_false, not_false_eq_true, true_imp_iff, false_imp_iff, zc_0, zc_1, zc_2, zc_3, zc_4, zc_5, zc_6, zc_8, zc_9, zc_10, zc_32, zc_36, zc_48, zc_64, zc_80, zc_120, zc_128, zc_248, zc_320, zc_400, zc_800, zc_1200, zc_2001, zc_4002, Int.reduceLT, Int.reduceLE, Int.reduceNeg, Nat.zero_ne_one, Nat.one_ne_zero, or_true, true_or, or_false, false_or, ti_0, ti_1, ti_2, ti_3, ti_4, ti_5, ti_6, ti_7, ti_8, ti_9, ti_10, ti_11, ti_12, ti_13, ti_14, ti_15, ti_16, ti_17, ti_18, ti_19, ti_20, ti_21, ti_22, ti_23, ti_24, ti_25, ti_26, ti_27, ti_28, ti_29, ti_30, ti_31, ti_32, ti_33, ti_34, ti_35, ti_36, ti_37, ti_38, ti_39, ti_40, ti_41, ti_42, ti_43, ti_44, ti_45, ti_46, ti_47, ti_48, ti_49, ti_50, ti_51, ti_52, ti_53, ti_54, ti_55, ti_56, ti_57, ti_58, ti_59, ti_60, ti_61, ti_62, ti_63, ti_64, ti_65, ti_66, ti_67, ti_68, ti_69, ti_70, ti_71, ti_72, ti_73, ti_74, ti_75, ti_76, ti_77, ti_78, ti_79, ti_80, ti_81, ti_82, ti_83, ti_84, ti_85, ti_86, ti_87, ti_88, ti_89, ti_90, ti_91, ti_92, ti_93, ti_94, ti_95, ti_96, ti_97, ti_98, ti_99, ti_100, ti_101, ti_102, ti_103, ti_104, ti_105, ti_106, ti_107, ti_108, ti_109, ti_110, ti_111, ti_112, ti_113, ti_114, ti_115, ti_116, ti_117, ti_118, ti_119, ti_120, ti_121, ti_122, ti_123, ti_124, ti_125, ti_126, ti_127, ti_128, ti_129, ti_200, ti_248, ti_255, ti_256, ti_400, ti_1000, ti_2000, ti_2001, ti_1000000, tj_1, tj_2, tj_8, tj_10, tj_1000, tc_0, tc_1, tc_2, tc_3, tc_4, tc_5, tc_6, tc_7, tc_8, i32_lt, i32_le, ho, f3, f5, nI_add, t1, Int.le_refl]
  | j + 1, m, hm => by
    have ih := s_width1 hx hD hd hk hg j (m + 1) (by omega)
    obtain ⟨f2, f3, f4, f5, f6, f8, f9, f10, f11, f13, f14⟩ := xDr_all hd
    obtain ⟨-, ⟨k1, k2⟩, -, k5, -⟩ := hk
    have ho := xD_o hx hD
    have h1 := xD_1 hx hD
    have h2 := xD_a hx hD
    have h3 := xD_l hx hD
    have t1 := nI_ti (show t.1 5 + t.1 3 ≤ 2000 by omega)
    have t2 := nI_ti (show t.1 5 + m ≤ 2000 by omega)
    have t3 := nI_tc (show t.1 5 + m ≤ 2000 by omega)
    have c1 : ¬ ((t.1 5 + t.1 3 : Nat) : Int) ≤ ((t.1 5 + m : Nat) : Int) := by omega
    have c2 : ¬ (8 : Int) ≤ ((t.1 5 + m : Nat) : Int) := by omega
    have c3 : 0 ≤ ((t.1 5 + m : Nat) : Int) ∧ ((t.1 5 + m : Nat) : Int) < 8 := by omega
    obtain ⟨g1, g2⟩ := hg (t.1 5 + m) (by omega)
    have g3 : nWide g (t.1 5) m ≤ 9 := nWide_le (fun q hq => (hg q hq).2) m (by omega)
    have hmx := nMx_lti (a := nWide g (t.1 5) m) (b := g (t.1 5 + m)) (by omega) (by omega)
    rw [z7_11]
    simp only [z7_12, z7_13, z7_16, z7_17, z7_20, z7_21, z7_24, z7_25, z7_27, z7_30, z7_31, z7_32, z7_35, z7_36, z7_37, z7_40, z7_41, z7_44, gIn_toInt, nI_toInt, Nat.reduceLT, Nat.reducePow, va_rf_none, va_rf_some, gObj_sI, gObj_sR, gAr_sI, gAr_sR, gLen_sI, gLen_sR, gsI_1, gsI_2, gsR_1, gsR_2, gU_ref, gU_null, gU_rf, gisRef_ref, gisRef_null, gisRef_rf, Option.toList_some, Option.toList_none, List.cons_append, List.nil_append, true_and, and_true, false_and, and_false, ↓reduceIte, if_true, if_false, Nat.reduceEqDiff, Nat.reduceAdd, Nat.reduceMul, Nat.reduceSub, Nat.reduceLeDiff, reduceCtorEq, not_true_eq_false, not_false_eq_true, true_imp_iff, false_imp_iff, zc_0, zc_1, zc_2, zc_3, zc_4, zc_5, zc_6, zc_8, zc_9, zc_10, zc_32, zc_36, zc_48, zc_64, zc_80, zc_120, zc_128, zc_248, zc_320, zc_400, zc_800, zc_1200, zc_2001, zc_4002, Int.reduceLT, Int.reduceLE, Int.reduceNeg, Nat.zero_ne_one, Nat.one_ne_zero, or_true, true_or, or_false, false_or, ti_0, ti_1, ti_2, ti_3, ti_4, ti_5, ti_6, ti_7, ti_8, ti_9, ti_10, ti_11, ti_12, ti_13, ti_14, ti_15, ti_16, ti_17, ti_18, ti_19, ti_20, ti_21, ti_22, ti_23, ti_24, ti_25, ti_26, ti_27, ti_28, ti_29, ti_30, ti_31, ti_32, ti_33, ti_34, ti_35, ti_36, ti_37, ti_38, ti_39, ti_40, ti_41, ti_42, ti_43, ti_44, ti_45, ti_46, ti_47, ti_48, ti_49, ti_50, ti_51, ti_52, ti_53, ti_54, ti_55, ti_56, ti_57, ti_58, ti_59, ti_60, ti_61, ti_62, ti_63, ti_64, ti_65, ti_66, ti_67, ti_68, ti_69, ti_70, ti_71, ti_72, ti_73, ti_74, ti_75, ti_76, ti_77, ti_78, ti_79, ti_80, ti_81, ti_82, ti_83, ti_84, ti_85, ti_86, ti_87, ti_88, ti_89, ti_90, ti_91, ti_92, ti_93, ti_94, ti_95, ti_96, ti_97, ti_98, ti_99, ti_100, ti_101, ti_102, ti_103, ti_104, ti_105, ti_106, ti_107, ti_108, ti_109, ti_110, ti_111, ti_112, ti_113, ti_114, ti_115, ti_116, ti_117, ti_118, ti_119, ti_120, ti_121, ti_122, ti_123, ti_124, ti_125, ti_126, ti_127, ti_128, ti_129, ti_200, ti_248, ti_255, ti_256, ti_400, ti_1000, ti_2000, ti_2001, ti_1000000, tj_1, tj_2, tj_8, tj_10, tj_1000, tc_0, tc_1, tc_2, tc_3, tc_4, tc_5, tc_6, tc_7, tc_8, i32_lt, i32_le, ho, h1, h2, h3, f3, f5, nI_add, t1, t2, t3, c1, c2, c3, g1, hmx, nI_1]
    exact ih
theorem s_width (hx : XR M) (hD : isD D) (hd : xDr M D t) (hk : nOk t) (hg : xGi M D g) : Call (d + 2) 7 [.ref D] M Z ↔ Z (some (.int (nI (nWide g (t.1 5) (t.1 3))))) M := by
  have h := s_width1 (d := d) (Z := Z) hx hD hd hk hg (t.1 3) 0 (by omega)
  have f5 : M.1 D 5 = nI (t.1 5) := xDr_f hd (by decide)
  obtain ⟨-, ⟨k1, k2⟩, -, k5, -⟩ := hk
  have ho := xD_o hx hD
  have hmx := nMx_lti (a := 0) (b := t.1 5) (by omega) (by omega)
  rw [Nat.max_eq_right (Nat.zero_le _)] at hmx
  rw [show (nI 0).toInt = 0 from by decide, show nI 0 = 0 from by decide] at hmx
  rw [e7]
  simp only [z7_0, z7_1, z7_2, z7_3, z7_4, z7_7, z7_10, gIn_toInt, nI_toInt, Nat.reduceLT, Nat.reducePow, va_rf_none, va_rf_some, gObj_sI, gObj_sR, gAr_sI, gAr_sR, gLen_sI, gLen_sR, gsI_1, gsI_2, gsR_1, gsR_2, gU_ref, gU_null, gU_rf, gisRef_ref, gisRef_null, gisRef_rf, Option.toList_some, Option.toList_none, List.cons_append, List.nil_append, true_and, and_true, false_and, and_false, ↓reduceIte, if_true, if_false, Nat.reduceEqDiff, Nat.reduceAdd, Nat.reduceMul, Nat.reduceSub, Nat.reduceLeDiff, reduceCtorEq, not_true_eq_false, not_false_eq_true, true_imp_iff, false_imp_iff, zc_0, zc_1, zc_2, zc_3, zc_4, zc_5, zc_6, zc_8, zc_9, zc_10, zc_32, zc_36, zc_48, zc_64, zc_80, zc_120, zc_128, zc_248, zc_320, zc_400, zc_800, zc_1200, zc_2001, zc_4002, Int.reduceLT, Int.reduceLE, Int.reduceNeg, Nat.zero_ne_one, Nat.one_ne_zero, or_true, true_or, or_false, false_or, ti_0, ti_1, ti_2, ti_3, ti_4, ti_5, ti_6, ti_7, ti_8, ti_9, ti_10, ti_11, ti_12, ti_13, ti_14, ti_15, ti_16, ti_17, ti_18, ti_19, ti_20, ti_21, ti_22, ti_23, ti_24, ti_25, ti_26, ti_27, ti_28, ti_29, ti_30, ti_31, ti_32, ti_33, ti_34, ti_35, ti_36, ti_37, ti_38, ti_39, ti_40, ti_41, ti_42, ti_43, ti_44, ti_45, ti_46, ti_47, ti_48, ti_49, ti_50, ti_51, ti_52, ti_53, ti_54, ti_55, ti_56, ti_57, ti_58, ti_59, ti_60, ti_61, ti_62, ti_63, ti_64, ti_65, ti_66, ti_67, ti_68, ti_69, ti_70, ti_71, ti_72, ti_73, ti_74, ti_75, ti_76, ti_77, ti_78, ti_79, ti_80, ti_81, ti_82, ti_83, ti_84, ti_85, ti_86, ti_87, ti_88, ti_89, ti_90, ti_91, ti_92, ti_93, ti_94, ti_95, ti_96, ti_97, ti_98, ti_99, ti_100, ti_101, ti_102, ti_103, ti_104, ti_105, ti_106, ti_107, ti_108, ti_109, ti_110, ti_111, ti_112, ti_113, ti_114, ti_115, ti_116, ti_117, ti_118, ti_119, ti_120, ti_121, ti_122, ti_123, ti_124, ti_125, ti_126, ti_127, ti_128, ti_129, ti_200, ti_248, ti_255, ti_256, ti_400, ti_1000, ti_2000, ti_2001, ti_1000000, tj_1, tj_2, tj_8, tj_10, tj_1000, tc_0, tc_1, tc_2, tc_3, tc_4, tc_5, tc_6, tc_7, tc_8, i32_lt, i32_le, ho, f5, hmx]
  exact h
end
