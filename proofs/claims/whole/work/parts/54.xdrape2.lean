/-! The class's drape and the neutral one. -/
def isD (D : Nat) : Prop := D = 15 ∨ D = 26
def xDr (M : gM) (D : Nat) (s : nD) : Prop := xLs M (D + 1) s.2.1 s.2.2 ∧ (∀ f, 2 ≤ f → f < 15 → f ≠ 7 → f ≠ 12 → M.1 D f = nI (s.1 f)) ∧ M.1 D 7 = (if s.1 7 = 0 then 1 else -1) ∧ M.1 D 12 = nI (s.1 12) - 1 ∧ M.1 D 15 = nI (s.1 15) - 1
def nOk (s : nD) : Prop := s.1 2 ≤ 400 ∧ (1 ≤ s.1 3 ∧ s.1 3 ≤ 4) ∧ s.1 4 ≤ s.1 2 ∧ s.1 5 + s.1 3 ≤ 8 ∧ s.1 6 < 8 ∧ s.1 7 ≤ 1 ∧ s.1 8 ≤ 1 ∧ s.1 9 ≤ 1000000 ∧ s.1 10 ≤ 2000 ∧ s.1 12 ≤ 8 ∧ True
def xGi (M : gM) (D : Nat) (g : Nat → Nat) : Prop := ∀ r, r < 8 → M.1 (D + 10) r = nI (g r) ∧ g r ≤ 9
section
variable {d D L n k p len endc : Nat} {M : gM} {Z : Option Value → gM → Prop} {i r s x a b c e f v : Int32} {ly : Nat → Nat → Nat} {col : Nat → Nat}
theorem isD_L (hD : isD D) : isL (D + 1) := by rcases hD with rfl | rfl; exact Or.inl rfl; exact Or.inr rfl
theorem s_isNumber : Call (d + 1) 8 [.int i] M Z ↔ Z (some (.int (gb (0 ≤ i.toInt ∧ i.toInt ≤ 200)))) M := by
  simp only [z8_0, z8_1, z8_4, z8_5, z8_8, z8_11, z8_12, z8_15, z8_16, e8, gIn_toInt, nI_toInt, Nat.reduceLT, Nat.reducePow, va_rf_none, va_rf_some, gObj_sI, gObj_sR, gAr_sI, gAr_sR, gLen_sI, gLen_sR, gsI_1, gsI_2, gsR_1, gsR_2, gU_ref, gU_null, gU_rf, gisRef_ref, gisRef_null, gisRef_rf, Option.toList_some, Option.toList_none, List.cons_append, List.nil_append, true_and, and_true, false_and, and_false, ↓reduceIte, if_true, if_false, Nat.reduceEqDiff, Nat.reduceAdd, Nat.reduceMul, Nat.reduceSub, Nat.reduceLeDiff, reduceCtorEq, not_true_eq_false, not_false_eq_true, true_imp_iff, false_imp_iff, zc_0, zc_1, zc_2, zc_3, zc_4, zc_5, zc_6, zc_8, zc_9, zc_10, zc_32, zc_36, zc_48, zc_64, zc_80, zc_120, zc_128, zc_248, zc_320, zc_400, zc_800, zc_1200, zc_2001, zc_4002, Int.reduceLT, Int.reduceLE, Int.reduceNeg, Nat.zero_ne_one, Nat.one_ne_zero, or_true, true_or, or_false, false_or, ti_0, ti_1, ti_2, ti_3, ti_4, ti_5, ti_6, ti_7, ti_8, ti_9, ti_10, ti_11, ti_12, ti_13, ti_14, ti_15, ti_16, ti_17, ti_18, ti_19, ti_20, ti_21, ti_22, ti_23, ti_24, ti_25, ti_26, ti_27, ti_28, ti_29, ti_30, ti_31, ti_32, ti_33, ti_34, ti_35, ti_36, ti_37, ti_38, ti_39, ti_40, ti_41, ti_42, ti_43, ti_44, ti_45, ti_46, ti_47, ti_48, ti_49, ti_50, ti_51, ti_52, ti_53, ti_54, ti_55, ti_56, ti_57, ti_58, ti_59, ti_60, ti_61, ti_62, ti_63, ti_64, ti_65, ti_66, ti_67, ti_68, ti_69, ti_70, ti_71, ti_72, ti_73, ti_74, ti_75, ti_76, ti_77, ti_78, ti_79, ti_80, ti_81, ti_82, ti_83, ti_84, ti_85, ti_86, ti_87, ti_88, ti_89, ti_90, ti_91, ti_92, ti_93, ti_94, ti_95, ti_96, ti_97, ti_98, ti_99, ti_100, ti_101, ti_102, ti_103, ti_104, ti_105, ti_106, ti_107, ti_108, ti_109, ti_110, ti_111, ti_112, ti_113, ti_114, ti_115, ti_116, ti_117, ti_118, ti_119, ti_120, ti_121, ti_122, ti_123, ti_124, ti_125, ti_126, ti_127, ti_128, ti_129, ti_200, ti_248, ti_255, ti_256, ti_400, ti_1000, ti_2000, ti_2001, ti_1000000, tj_1, tj_2, tj_8, tj_10, tj_1000, tc_0, tc_1, tc_2, tc_3, tc_4, tc_5, tc_6, tc_7, tc_8, i32_lt, i32_le]
  by_cases h1 : i.toInt < 0 <;> by_cases h2 : 200 < i.toInt <;> simp [gb, h1, h2] <;> grind
theorem nWide_le {g : Nat → Nat} {r : Nat} (hg : ∀ q, q < 8 → g q ≤ 9) : ∀ h, r + h ≤ 8 → nWide g r h ≤ 9
  | 0, _ => by simp [nWide]
  | h + 1, hh => by
    have := nWide_le (r := r) hg h (by omega)
    have := hg (r + h) (by omega)
    simp only [nWide]
    omega
end
