/-! The reference: looksAt, the parts of a step. -/
section
variable {d n a ba c o p f w b r l ns : Nat} {M0 M M1 M2 : gM} {Z : Option Value → gM → Prop} {x y v : Int32} {tx mk : Nat → Nat} {x1 x2 x3 x4 : Option Value}
theorem q135n (hm : MR M) (hc : c ≤ 255) (hn : ¬ cNam c) (h : Run (d + 5) 142 149 [some (.ref 0), x1, x2, x3, some (.int (nI c))] [] M 0 0 Z) : Run (d + 5) 142 135 [some (.ref 0), x1, x2, x3, some (.int (nI c))] [] M 0 0 Z := by
  have hna := fun Z => m_isName (d := d + 4) (M := M) (Z := Z) hc
  rw [gb_0.mpr hn] at hna
  simp only [z142_135, z142_137, z142_140, gIn_toInt, nI_toInt, Nat.reduceLT, Nat.reducePow, va_rf_none, va_rf_some, gObj_sI, gObj_sR, gAr_sI, gAr_sR, gLen_sI, gLen_sR, gsI_1, gsI_2, gsR_1, gsR_2, gU_ref, gU_null, gU_rf, gisRef_ref, gisRef_null, gisRef_rf, Option.toList_some, Option.toList_none, List.cons_append, List.nil_append, true_and, and_true, false_and, and_false, ↓reduceIte, if_true, if_false, Nat.reduceEqDiff, Nat.reduceAdd, Nat.reduceMul, Nat.reduceSub, Nat.reduceLeDiff, reduceCtorEq, not_true_eq_false, not_false_eq_true, true_imp_iff, false_imp_iff, zc_0, zc_1, zc_2, zc_3, zc_4, zc_5, zc_6, zc_8, zc_9, zc_10, zc_32, zc_36, zc_48, zc_64, zc_80, zc_120, zc_128, zc_248, zc_320, zc_400, zc_800, zc_1200, zc_2001, zc_4002, Int.reduceLT, Int.reduceLE, Int.reduceNeg, Nat.zero_ne_one, Nat.one_ne_zero, or_true, true_or, or_false, false_or, hna]
  exact h
theorem q135y (hm : MR M) (ht : tOk tx n) (hs : mSc M tx n ba a) (hc : c ≤ 255) (hn : cNam c) (hK : tx a = 61 → ∀ M2, mFr M M2 → mSc M2 tx n ba (a + 1) → Run (d + 5) 142 149 [some (.ref 0), x1, x2, x3, some (.int (nI c))] [] M2 0 0 Z)
    (hF : tx a ≠ 61 → ∀ M2, mBl M M2 1 a → Run (d + 5) 142 149 [some (.ref 0), x1, x2, x3, some (.int (nI c))] [] M2 0 0 Z) : Run (d + 5) 142 135 [some (.ref 0), x1, x2, x3, some (.int (nI c))] [] M 0 0 Z := by
  have hna := fun Z => m_isName (d := d + 4) (M := M) (Z := Z) hc
  have k1 : ¬ (1 : Int32) = 0 := by decide
  rw [gb_1.mpr hn] at hna
  simp only [z142_135, z142_137, z142_140, z142_143, z142_144, z142_146, gIn_toInt, nI_toInt, Nat.reduceLT, Nat.reducePow, va_rf_none, va_rf_some, gObj_sI, gObj_sR, gAr_sI, gAr_sR, gLen_sI, gLen_sR, gsI_1, gsI_2, gsR_1, gsR_2, gU_ref, gU_null, gU_rf, gisRef_ref, gisRef_null, gisRef_rf, Option.toList_some, Option.toList_none, List.cons_append, List.nil_append, true_and, and_true, false_and, and_false, ↓reduceIte, if_true, if_false, Nat.reduceEqDiff, Nat.reduceAdd, Nat.reduceMul, Nat.reduceSub, Nat.reduceLeDiff, reduceCtorEq, not_true_eq_false, not_false_eq_true, true_imp_iff, false_imp_iff, zc_0, zc_1, zc_2, zc_3, zc_4, zc_5, zc_6, zc_8, zc_9, zc_10, zc_32, zc_36, zc_48, zc_64, zc_80, zc_120, zc_128, zc_248, zc_320, zc_400, zc_800, zc_1200, zc_2001, zc_4002, Int.reduceLT, Int.reduceLE, Int.reduceNeg, Nat.zero_ne_one, Nat.one_ne_zero, or_true, true_or, or_false, false_or, MR_sI, mo0 hm, ma1 hm, ml1 hm, ms1 hm, ma2 hm, ml2 hm, ms2 hm, ma3 hm, ml3 hm, ms3 hm, ma4 hm, ml4 hm, ms4 hm, ma5 hm, ml5 hm, ms5 hm, ma6 hm, ml6 hm, ms6 hm, ma7 hm, ml7 hm, ms7 hm, ma8 hm, ml8 hm, ms8 hm, ma9 hm, ml9 hm, ms9 hm, ma10 hm, ml10 hm, ms10 hm, ma11 hm, ml11 hm, ms11 hm, ma12 hm, ml12 hm, ms12 hm, ma13 hm, ml13 hm, ms13 hm, ma14 hm, ml14 hm, ms14 hm, ma15 hm, ml15 hm, ms15 hm, ma16 hm, ml16 hm, ms16 hm, ma17 hm, ml17 hm, ms17 hm, ma18 hm, ml18 hm, ms18 hm, ma19 hm, ml19 hm, ms19 hm, ma20 hm, ml20 hm, ms20 hm, ma21 hm, ml21 hm, ms21 hm, ma22 hm, ml22 hm, ms22 hm, ma23 hm, ml23 hm, ms23 hm, ma24 hm, ml24 hm, ms24 hm, ma25 hm, ml25 hm, ms25 hm, ma26 hm, ml26 hm, ms26 hm, ma27 hm, ml27 hm, ms27 hm, ma28 hm, ml28 hm, ms28 hm, ma29 hm, ml29 hm, ms29 hm, ma30 hm, ml30 hm, ms30 hm, ma31 hm, ml31 hm, ms31 hm, ma32 hm, ml32 hm, ms32 hm, ma33 hm, ml33 hm, ms33 hm, ma34 hm, ml34 hm, ms34 hm, ma35 hm, ml35 hm, ms35 hm, ma36 hm, ml36 hm, ms36 hm, ma37 hm, ml37 hm, ms37 hm, ma38 hm, ml38 hm, ms38 hm, ma39 hm, ml39 hm, ms39 hm, ma40 hm, ml40 hm, ms40 hm, ma41 hm, ml41 hm, ms41 hm, ma42 hm, ml42 hm, ms42 hm, ma43 hm, ml43 hm, ms43 hm, ma44 hm, ml44 hm, ms44 hm, ma45 hm, ml45 hm, ms45 hm, ma46 hm, ml46 hm, ms46 hm, ma47 hm, ml47 hm, ms47 hm, mr0_0 hm, mr0_5 hm, mr0_6 hm, mr0_7 hm, mr0_8 hm, mr0_9 hm, mr0_10 hm, mr0_11 hm, mr0_12 hm, mr0_17 hm, mr0_18 hm, mr0_19 hm, mr0_20 hm, mr0_21 hm, mr0_22 hm, mr0_23 hm, mr0_24 hm, mr0_25 hm, mr0_26 hm, mr0_27 hm, mr0_28 hm, mr0_29 hm, mr0_30 hm, mr0_31 hm, mr0_32 hm, mr0_33 hm, mr0_34 hm, mr0_35 hm, mr0_41 hm, mr0_42 hm, mr0_43 hm, mr0_45 hm, mr0_46 hm, mr0_55 hm, mr0_56 hm, mr0_57 hm, mr0_58 hm, mr0_59 hm, mr0_62 hm, mr0_63 hm, mr0_64 hm, mr0_65 hm, mr0_66 hm, mr0_67 hm, mr0_68 hm, mr0_69 hm, mr0_70 hm, hna, k1]
  refine m_must (d := d + 3) (c := 61) hm ht hs (by decide) (by decide) rfl (fun h M2 h1 h2 => ?_) (fun h M2 h1 => ?_)
  · simp only [gIn_toInt, nI_toInt, Nat.reduceLT, Nat.reducePow, va_rf_none, va_rf_some, gObj_sI, gObj_sR, gAr_sI, gAr_sR, gLen_sI, gLen_sR, gsI_1, gsI_2, gsR_1, gsR_2, gU_ref, gU_null, gU_rf, gisRef_ref, gisRef_null, gisRef_rf, Option.toList_some, Option.toList_none, List.cons_append, List.nil_append, true_and, and_true, false_and, and_false, ↓reduceIte, if_true, if_false, Nat.reduceEqDiff, Nat.reduceAdd, Nat.reduceMul, Nat.reduceSub, Nat.reduceLeDiff, reduceCtorEq, not_true_eq_false, not_false_eq_true, true_imp_iff, false_imp_iff, zc_0, zc_1, zc_2, zc_3, zc_4, zc_5, zc_6, zc_8, zc_9, zc_10, zc_32, zc_36, zc_48, zc_64, zc_80, zc_120, zc_128, zc_248, zc_320, zc_400, zc_800, zc_1200, zc_2001, zc_4002, Int.reduceLT, Int.reduceLE, Int.reduceNeg, Nat.zero_ne_one, Nat.one_ne_zero, or_true, true_or, or_false, false_or]
    exact hK h M2 h1 h2
  · simp only [gIn_toInt, nI_toInt, Nat.reduceLT, Nat.reducePow, va_rf_none, va_rf_some, gObj_sI, gObj_sR, gAr_sI, gAr_sR, gLen_sI, gLen_sR, gsI_1, gsI_2, gsR_1, gsR_2, gU_ref, gU_null, gU_rf, gisRef_ref, gisRef_null, gisRef_rf, Option.toList_some, Option.toList_none, List.cons_append, List.nil_append, true_and, and_true, false_and, and_false, ↓reduceIte, if_true, if_false, Nat.reduceEqDiff, Nat.reduceAdd, Nat.reduceMul, Nat.reduceSub, Nat.reduceLeDiff, reduceCtorEq, not_true_eq_false, not_false_eq_true, true_imp_iff, false_imp_iff, zc_0, zc_1, zc_2, zc_3, zc_4, zc_5, zc_6, zc_8, zc_9, zc_10, zc_32, zc_36, zc_48, zc_64, zc_80, zc_120, zc_128, zc_248, zc_320, zc_400, zc_800, zc_1200, zc_2001, zc_4002, Int.reduceLT, Int.reduceLE, Int.reduceNeg, Nat.zero_ne_one, Nat.one_ne_zero, or_true, true_or, or_false, false_or]
    exact hF h M2 h1
theorem q149p (hm : MR M) (h7 : M.1 0 15 = 0) (hc : c ≤ 255) (hp : cPln c) (h : Run (d + 5) 142 168 [some (.ref 0), x1, x2, x3, some (.int (nI c))] [] M 0 0 Z) : Run (d + 5) 142 149 [some (.ref 0), x1, x2, x3, some (.int (nI c))] [] M 0 0 Z := by
  have hna := fun Z => m_isPlain (d := d + 4) (M := M) (Z := Z) hc
  have k1 : ¬ (1 : Int32) = 0 := by decide
  rw [gb_1.mpr hp] at hna
  simp only [z142_149, z142_150, z142_153, z142_156, z142_158, z142_161, gIn_toInt, nI_toInt, Nat.reduceLT, Nat.reducePow, va_rf_none, va_rf_some, gObj_sI, gObj_sR, gAr_sI, gAr_sR, gLen_sI, gLen_sR, gsI_1, gsI_2, gsR_1, gsR_2, gU_ref, gU_null, gU_rf, gisRef_ref, gisRef_null, gisRef_rf, Option.toList_some, Option.toList_none, List.cons_append, List.nil_append, true_and, and_true, false_and, and_false, ↓reduceIte, if_true, if_false, Nat.reduceEqDiff, Nat.reduceAdd, Nat.reduceMul, Nat.reduceSub, Nat.reduceLeDiff, reduceCtorEq, not_true_eq_false, not_false_eq_true, true_imp_iff, false_imp_iff, zc_0, zc_1, zc_2, zc_3, zc_4, zc_5, zc_6, zc_8, zc_9, zc_10, zc_32, zc_36, zc_48, zc_64, zc_80, zc_120, zc_128, zc_248, zc_320, zc_400, zc_800, zc_1200, zc_2001, zc_4002, Int.reduceLT, Int.reduceLE, Int.reduceNeg, Nat.zero_ne_one, Nat.one_ne_zero, or_true, true_or, or_false, false_or, MR_sI, mo0 hm, ma1 hm, ml1 hm, ms1 hm, ma2 hm, ml2 hm, ms2 hm, ma3 hm, ml3 hm, ms3 hm, ma4 hm, ml4 hm, ms4 hm, ma5 hm, ml5 hm, ms5 hm, ma6 hm, ml6 hm, ms6 hm, ma7 hm, ml7 hm, ms7 hm, ma8 hm, ml8 hm, ms8 hm, ma9 hm, ml9 hm, ms9 hm, ma10 hm, ml10 hm, ms10 hm, ma11 hm, ml11 hm, ms11 hm, ma12 hm, ml12 hm, ms12 hm, ma13 hm, ml13 hm, ms13 hm, ma14 hm, ml14 hm, ms14 hm, ma15 hm, ml15 hm, ms15 hm, ma16 hm, ml16 hm, ms16 hm, ma17 hm, ml17 hm, ms17 hm, ma18 hm, ml18 hm, ms18 hm, ma19 hm, ml19 hm, ms19 hm, ma20 hm, ml20 hm, ms20 hm, ma21 hm, ml21 hm, ms21 hm, ma22 hm, ml22 hm, ms22 hm, ma23 hm, ml23 hm, ms23 hm, ma24 hm, ml24 hm, ms24 hm, ma25 hm, ml25 hm, ms25 hm, ma26 hm, ml26 hm, ms26 hm, ma27 hm, ml27 hm, ms27 hm, ma28 hm, ml28 hm, ms28 hm, ma29 hm, ml29 hm, ms29 hm, ma30 hm, ml30 hm, ms30 hm, ma31 hm, ml31 hm, ms31 hm, ma32 hm, ml32 hm, ms32 hm, ma33 hm, ml33 hm, ms33 hm, ma34 hm, ml34 hm, ms34 hm, ma35 hm, ml35 hm, ms35 hm, ma36 hm, ml36 hm, ms36 hm, ma37 hm, ml37 hm, ms37 hm, ma38 hm, ml38 hm, ms38 hm, ma39 hm, ml39 hm, ms39 hm, ma40 hm, ml40 hm, ms40 hm, ma41 hm, ml41 hm, ms41 hm, ma42 hm, ml42 hm, ms42 hm, ma43 hm, ml43 hm, ms43 hm, ma44 hm, ml44 hm, ms44 hm, ma45 hm, ml45 hm, ms45 hm, ma46 hm, ml46 hm, ms46 hm, ma47 hm, ml47 hm, ms47 hm, mr0_0 hm, mr0_5 hm, mr0_6 hm, mr0_7 hm, mr0_8 hm, mr0_9 hm, mr0_10 hm, mr0_11 hm, mr0_12 hm, mr0_17 hm, mr0_18 hm, mr0_19 hm, mr0_20 hm, mr0_21 hm, mr0_22 hm, mr0_23 hm, mr0_24 hm, mr0_25 hm, mr0_26 hm, mr0_27 hm, mr0_28 hm, mr0_29 hm, mr0_30 hm, mr0_31 hm, mr0_32 hm, mr0_33 hm, mr0_34 hm, mr0_35 hm, mr0_41 hm, mr0_42 hm, mr0_43 hm, mr0_45 hm, mr0_46 hm, mr0_55 hm, mr0_56 hm, mr0_57 hm, mr0_58 hm, mr0_59 hm, mr0_62 hm, mr0_63 hm, mr0_64 hm, mr0_65 hm, mr0_66 hm, mr0_67 hm, mr0_68 hm, mr0_69 hm, mr0_70 hm, h7, hna, k1]
  exact h
theorem q149s (hm : MR M) (h7 : M.1 0 15 = 0) (hc : c ≤ 255) (hp : ¬ cPln c) (h : ∀ Z2 : Option Value → gM → Prop, (∀ M2, Run (d + 5) 142 168 [some (.ref 0), x1, x2, x3, some (.int (nI c))] [] M2 0 0 Z → Z2 none M2) → Call (d + 5) 141 [.ref 0] M Z2) : Run (d + 5) 142 149 [some (.ref 0), x1, x2, x3, some (.int (nI c))] [] M 0 0 Z := by
  have hna := fun Z => m_isPlain (d := d + 4) (M := M) (Z := Z) hc
  rw [gb_0.mpr hp] at hna
  simp only [z142_149, z142_150, z142_153, z142_156, z142_158, z142_161, z142_164, z142_165, gIn_toInt, nI_toInt, Nat.reduceLT, Nat.reducePow, va_rf_none, va_rf_some, gObj_sI, gObj_sR, gAr_sI, gAr_sR, gLen_sI, gLen_sR, gsI_1, gsI_2, gsR_1, gsR_2, gU_ref, gU_null, gU_rf, gisRef_ref, gisRef_null, gisRef_rf, Option.toList_some, Option.toList_none, List.cons_append, List.nil_append, true_and, and_true, false_and, and_false, ↓reduceIte, if_true, if_false, Nat.reduceEqDiff, Nat.reduceAdd, Nat.reduceMul, Nat.reduceSub, Nat.reduceLeDiff, reduceCtorEq, not_true_eq_false, not_false_eq_true, true_imp_iff, false_imp_iff, zc_0, zc_1, zc_2, zc_3, zc_4, zc_5, zc_6, zc_8, zc_9, zc_10, zc_32, zc_36, zc_48, zc_64, zc_80, zc_120, zc_128, zc_248, zc_320, zc_400, zc_800, zc_1200, zc_2001, zc_4002, Int.reduceLT, Int.reduceLE, Int.reduceNeg, Nat.zero_ne_one, Nat.one_ne_zero, or_true, true_or, or_false, false_or, MR_sI, mo0 hm, ma1 hm, ml1 hm, ms1 hm, ma2 hm, ml2 hm, ms2 hm, ma3 hm, ml3 hm, ms3 hm, ma4 hm, ml4 hm, ms4 hm, ma5 hm, ml5 hm, ms5 hm, ma6 hm, ml6 hm, ms6 hm, ma7 hm, ml7 hm, ms7 hm, ma8 hm, ml8 hm, ms8 hm, ma9 hm, ml9 hm, ms9 hm, ma10 hm, ml10 hm, ms10 hm, ma11 hm, ml11 hm, ms11 hm, ma12 hm, ml12 hm, ms12 hm, ma13 hm, ml13 hm, ms13 hm, ma14 hm, ml14 hm, ms14 hm, ma15 hm, ml15 hm, ms15 hm, ma16 hm, ml16 hm, ms16 hm, ma17 hm, ml17 hm, ms17 hm, ma18 hm, ml18 hm, ms18 hm, ma19 hm, ml19 hm, ms19 hm, ma20 hm, ml20 hm, ms20 hm, ma21 hm, ml21 hm, ms21 hm, ma22 hm, ml22 hm, ms22 hm, ma23 hm, ml23 hm, ms23 hm, ma24 hm, ml24 hm, ms24 hm, ma25 hm, ml25 hm, ms25 hm, ma26 hm, ml26 hm, ms26 hm, ma27 hm, ml27 hm, ms27 hm, ma28 hm, ml28 hm, ms28 hm, ma29 hm, ml29 hm, ms29 hm, ma30 hm, ml30 hm, ms30 hm, ma31 hm, ml31 hm, ms31 hm, ma32 hm, ml32 hm, ms32 hm, ma33 hm, ml33 hm, ms33 hm, ma34 hm, ml34 hm, ms34 hm, ma35 hm, ml35 hm, ms35 hm, ma36 hm, ml36 hm, ms36 hm, ma37 hm, ml37 hm, ms37 hm, ma38 hm, ml38 hm, ms38 hm, ma39 hm, ml39 hm, ms39 hm, ma40 hm, ml40 hm, ms40 hm, ma41 hm, ml41 hm, ms41 hm, ma42 hm, ml42 hm, ms42 hm, ma43 hm, ml43 hm, ms43 hm, ma44 hm, ml44 hm, ms44 hm, ma45 hm, ml45 hm, ms45 hm, ma46 hm, ml46 hm, ms46 hm, ma47 hm, ml47 hm, ms47 hm, mr0_0 hm, mr0_5 hm, mr0_6 hm, mr0_7 hm, mr0_8 hm, mr0_9 hm, mr0_10 hm, mr0_11 hm, mr0_12 hm, mr0_17 hm, mr0_18 hm, mr0_19 hm, mr0_20 hm, mr0_21 hm, mr0_22 hm, mr0_23 hm, mr0_24 hm, mr0_25 hm, mr0_26 hm, mr0_27 hm, mr0_28 hm, mr0_29 hm, mr0_30 hm, mr0_31 hm, mr0_32 hm, mr0_33 hm, mr0_34 hm, mr0_35 hm, mr0_41 hm, mr0_42 hm, mr0_43 hm, mr0_45 hm, mr0_46 hm, mr0_55 hm, mr0_56 hm, mr0_57 hm, mr0_58 hm, mr0_59 hm, mr0_62 hm, mr0_63 hm, mr0_64 hm, mr0_65 hm, mr0_66 hm, mr0_67 hm, mr0_68 hm, mr0_69 hm, mr0_70 hm, h7, hna]
  refine h _ (fun M2 h2 => ?_)
  simp only [gIn_toInt, nI_toInt, Nat.reduceLT, Nat.reducePow, va_rf_none, va_rf_some, gObj_sI, gObj_sR, gAr_sI, gAr_sR, gLen_sI, gLen_sR, gsI_1, gsI_2, gsR_1, gsR_2, gU_ref, gU_null, gU_rf, gisRef_ref, gisRef_null, gisRef_rf, Option.toList_some, Option.toList_none, List.cons_append, List.nil_append, true_and, and_true, false_and, and_false, ↓reduceIte, if_true, if_false, Nat.reduceEqDiff, Nat.reduceAdd, Nat.reduceMul, Nat.reduceSub, Nat.reduceLeDiff, reduceCtorEq, not_true_eq_false, not_false_eq_true, true_imp_iff, false_imp_iff, zc_0, zc_1, zc_2, zc_3, zc_4, zc_5, zc_6, zc_8, zc_9, zc_10, zc_32, zc_36, zc_48, zc_64, zc_80, zc_120, zc_128, zc_248, zc_320, zc_400, zc_800, zc_1200, zc_2001, zc_4002, Int.reduceLT, Int.reduceLE, Int.reduceNeg, Nat.zero_ne_one, Nat.one_ne_zero, or_true, true_or, or_false, false_or]
  exact h2
theorem q168n (hm : MR M) (h7 : M.1 0 15 = 0) (hc : c ≤ 255) (hp : c ≠ 112) (h : Run (d + 5) 142 199 [some (.ref 0), x1, x2, x3, some (.int (nI c))] [] M 0 0 Z) : Run (d + 5) 142 168 [some (.ref 0), x1, x2, x3, some (.int (nI c))] [] M 0 0 Z := by
  have q1 : ¬ nI c = 112 := by rw [show (112 : Int32) = nI 112 from rfl, nI_lit hc (by decide)]; exact hp
  simp only [z142_168, z142_169, z142_172, z142_175, z142_177, z142_179, gIn_toInt, nI_toInt, Nat.reduceLT, Nat.reducePow, va_rf_none, va_rf_some, gObj_sI, gObj_sR, gAr_sI, gAr_sR, gLen_sI, gLen_sR, gsI_1, gsI_2, gsR_1, gsR_2, gU_ref, gU_null, gU_rf, gisRef_ref, gisRef_null, gisRef_rf, Option.toList_some, Option.toList_none, List.cons_append, List.nil_append, true_and, and_true, false_and, and_false, ↓reduceIte, if_true, if_false, Nat.reduceEqDiff, Nat.reduceAdd, Nat.reduceMul, Nat.reduceSub, Nat.reduceLeDiff, reduceCtorEq, not_true_eq_false, not_false_eq_true, true_imp_iff, false_imp_iff, zc_0, zc_1, zc_2, zc_3, zc_4, zc_5, zc_6, zc_8, zc_9, zc_10, zc_32, zc_36, zc_48, zc_64, zc_80, zc_120, zc_128, zc_248, zc_320, zc_400, zc_800, zc_1200, zc_2001, zc_4002, Int.reduceLT, Int.reduceLE, Int.reduceNeg, Nat.zero_ne_one, Nat.one_ne_zero, or_true, true_or, or_false, false_or, MR_sI, mo0 hm, ma1 hm, ml1 hm, ms1 hm, ma2 hm, ml2 hm, ms2 hm, ma3 hm, ml3 hm, ms3 hm, ma4 hm, ml4 hm, ms4 hm, ma5 hm, ml5 hm, ms5 hm, ma6 hm, ml6 hm, ms6 hm, ma7 hm, ml7 hm, ms7 hm, ma8 hm, ml8 hm, ms8 hm, ma9 hm, ml9 hm, ms9 hm, ma10 hm, ml10 hm, ms10 hm, ma11 hm, ml11 hm, ms11 hm, ma12 hm, ml12 hm, ms12 hm, ma13 hm, ml13 hm, ms13 hm, ma14 hm, ml14 hm, ms14 hm, ma15 hm, ml15 hm, ms15 hm, ma16 hm, ml16 hm, ms16 hm, ma17 hm, ml17 hm, ms17 hm, ma18 hm, ml18 hm, ms18 hm, ma19 hm, ml19 hm, ms19 hm, ma20 hm, ml20 hm, ms20 hm, ma21 hm, ml21 hm, ms21 hm, ma22 hm, ml22 hm, ms22 hm, ma23 hm, ml23 hm, ms23 hm, ma24 hm, ml24 hm, ms24 hm, ma25 hm, ml25 hm, ms25 hm, ma26 hm, ml26 hm, ms26 hm, ma27 hm, ml27 hm, ms27 hm, ma28 hm, ml28 hm, ms28 hm, ma29 hm, ml29 hm, ms29 hm, ma30 hm, ml30 hm, ms30 hm, ma31 hm, ml31 hm, ms31 hm, ma32 hm, ml32 hm, ms32 hm, ma33 hm, ml33 hm, ms33 hm, ma34 hm, ml34 hm, ms34 hm, ma35 hm, ml35 hm, ms35 hm, ma36 hm, ml36 hm, ms36 hm, ma37 hm, ml37 hm, ms37 hm, ma38 hm, ml38 hm, ms38 hm, ma39 hm, ml39 hm, ms39 hm, ma40 hm, ml40 hm, ms40 hm, ma41 hm, ml41 hm, ms41 hm, ma42 hm, ml42 hm, ms42 hm, ma43 hm, ml43 hm, ms43 hm, ma44 hm, ml44 hm, ms44 hm, ma45 hm, ml45 hm, ms45 hm, ma46 hm, ml46 hm, ms46 hm, ma47 hm, ml47 hm, ms47 hm, mr0_0 hm, mr0_5 hm, mr0_6 hm, mr0_7 hm, mr0_8 hm, mr0_9 hm, mr0_10 hm, mr0_11 hm, mr0_12 hm, mr0_17 hm, mr0_18 hm, mr0_19 hm, mr0_20 hm, mr0_21 hm, mr0_22 hm, mr0_23 hm, mr0_24 hm, mr0_25 hm, mr0_26 hm, mr0_27 hm, mr0_28 hm, mr0_29 hm, mr0_30 hm, mr0_31 hm, mr0_32 hm, mr0_33 hm, mr0_34 hm, mr0_35 hm, mr0_41 hm, mr0_42 hm, mr0_43 hm, mr0_45 hm, mr0_46 hm, mr0_55 hm, mr0_56 hm, mr0_57 hm, mr0_58 hm, mr0_59 hm, mr0_62 hm, mr0_63 hm, mr0_64 hm, mr0_65 hm, mr0_66 hm, mr0_67 hm, mr0_68 hm, mr0_69 hm, mr0_70 hm, h7, q1]
  exact h
theorem q168p (hm : MR M) (ht : tOk tx n) (hs : mSc M tx n ba a) (hc : c = 112) (hK : tx a = 46 → ∀ M2, mFr M M2 → mSc M2 tx n ba (a + 1) → ∀ Z2 : Option Value → gM → Prop, (∀ M3, Run (d + 5) 142 199 [some (.ref 0), x1, x2, x3, some (.int (nI c))] [] M3 0 0 Z → Z2 none M3) → Call (d + 5) 141 [.ref 0] M2 Z2)
    (hF : tx a ≠ 46 → ∀ M2, mBl M M2 1 a → Run (d + 5) 142 199 [some (.ref 0), x1, x2, x3, some (.int (nI c))] [] M2 0 0 Z) : Run (d + 5) 142 168 [some (.ref 0), x1, x2, x3, some (.int (nI c))] [] M 0 0 Z := by
  subst hc
  have h7 := hs.2.2.2.2
  have i112 : nI 112 = 112 := rfl
  have hn := ht.1
  have han := hs.2.2.2.1.2
  rw [i112] at hK hF ⊢
  simp only [z142_168, z142_169, z142_172, z142_175, z142_177, z142_179, z142_182, z142_183, z142_185, gIn_toInt, nI_toInt, Nat.reduceLT, Nat.reducePow, va_rf_none, va_rf_some, gObj_sI, gObj_sR, gAr_sI, gAr_sR, gLen_sI, gLen_sR, gsI_1, gsI_2, gsR_1, gsR_2, gU_ref, gU_null, gU_rf, gisRef_ref, gisRef_null, gisRef_rf, Option.toList_some, Option.toList_none, List.cons_append, List.nil_append, true_and, and_true, false_and, and_false, ↓reduceIte, if_true, if_false, Nat.reduceEqDiff, Nat.reduceAdd, Nat.reduceMul, Nat.reduceSub, Nat.reduceLeDiff, reduceCtorEq, not_true_eq_false, not_false_eq_true, true_imp_iff, false_imp_iff, zc_0, zc_1, zc_2, zc_3, zc_4, zc_5, zc_6, zc_8, zc_9, zc_10, zc_32, zc_36, zc_48, zc_64, zc_80, zc_120, zc_128, zc_248, zc_320, zc_400, zc_800, zc_1200, zc_2001, zc_4002, Int.reduceLT, Int.reduceLE, Int.reduceNeg, Nat.zero_ne_one, Nat.one_ne_zero, or_true, true_or, or_false, false_or, MR_sI, mo0 hm, ma1 hm, ml1 hm, ms1 hm, ma2 hm, ml2 hm, ms2 hm, ma3 hm, ml3 hm, ms3 hm, ma4 hm, ml4 hm, ms4 hm, ma5 hm, ml5 hm, ms5 hm, ma6 hm, ml6 hm, ms6 hm, ma7 hm, ml7 hm, ms7 hm, ma8 hm, ml8 hm, ms8 hm, ma9 hm, ml9 hm, ms9 hm, ma10 hm, ml10 hm, ms10 hm, ma11 hm, ml11 hm, ms11 hm, ma12 hm, ml12 hm, ms12 hm, ma13 hm, ml13 hm, ms13 hm, ma14 hm, ml14 hm, ms14 hm, ma15 hm, ml15 hm, ms15 hm, ma16 hm, ml16 hm, ms16 hm, ma17 hm, ml17 hm, ms17 hm, ma18 hm, ml18 hm, ms18 hm, ma19 hm, ml19 hm, ms19 hm, ma20 hm, ml20 hm, ms20 hm, ma21 hm, ml21 hm, ms21 hm, ma22 hm, ml22 hm, ms22 hm, ma23 hm, ml23 hm, ms23 hm, ma24 hm, ml24 hm, ms24 hm, ma25 hm, ml25 hm, ms25 hm, ma26 hm, ml26 hm, ms26 hm, ma27 hm, ml27 hm, ms27 hm, ma28 hm, ml28 hm, ms28 hm, ma29 hm, ml29 hm, ms29 hm, ma30 hm, ml30 hm, ms30 hm, ma31 hm, ml31 hm, ms31 hm, ma32 hm, ml32 hm, ms32 hm, ma33 hm, ml33 hm, ms33 hm, ma34 hm, ml34 hm, ms34 hm, ma35 hm, ml35 hm, ms35 hm, ma36 hm, ml36 hm, ms36 hm, ma37 hm, ml37 hm, ms37 hm, ma38 hm, ml38 hm, ms38 hm, ma39 hm, ml39 hm, ms39 hm, ma40 hm, ml40 hm, ms40 hm, ma41 hm, ml41 hm, ms41 hm, ma42 hm, ml42 hm, ms42 hm, ma43 hm, ml43 hm, ms43 hm, ma44 hm, ml44 hm, ms44 hm, ma45 hm, ml45 hm, ms45 hm, ma46 hm, ml46 hm, ms46 hm, ma47 hm, ml47 hm, ms47 hm, mr0_0 hm, mr0_5 hm, mr0_6 hm, mr0_7 hm, mr0_8 hm, mr0_9 hm, mr0_10 hm, mr0_11 hm, mr0_12 hm, mr0_17 hm, mr0_18 hm, mr0_19 hm, mr0_20 hm, mr0_21 hm, mr0_22 hm, mr0_23 hm, mr0_24 hm, mr0_25 hm, mr0_26 hm, mr0_27 hm, mr0_28 hm, mr0_29 hm, mr0_30 hm, mr0_31 hm, mr0_32 hm, mr0_33 hm, mr0_34 hm, mr0_35 hm, mr0_41 hm, mr0_42 hm, mr0_43 hm, mr0_45 hm, mr0_46 hm, mr0_55 hm, mr0_56 hm, mr0_57 hm, mr0_58 hm, mr0_59 hm, mr0_62 hm, mr0_63 hm, mr0_64 hm, mr0_65 hm, mr0_66 hm, mr0_67 hm, mr0_68 hm, mr0_69 hm, mr0_70 hm, h7]
  refine m_must (d := d + 3) (c := 46) hm ht hs (by decide) (by decide) rfl (fun h M2 h1 h2 => ?_) (fun h M2 h1 => ?_)
  · have hm2 := gFr_M h1.1 hm
    have h72 := h2.2.2.2.2
    simp only [z142_188, z142_189, z142_192, z142_195, z142_196, gIn_toInt, nI_toInt, Nat.reduceLT, Nat.reducePow, va_rf_none, va_rf_some, gObj_sI, gObj_sR, gAr_sI, gAr_sR, gLen_sI, gLen_sR, gsI_1, gsI_2, gsR_1, gsR_2, gU_ref, gU_null, gU_rf, gisRef_ref, gisRef_null, gisRef_rf, Option.toList_some, Option.toList_none, List.cons_append, List.nil_append, true_and, and_true, false_and, and_false, ↓reduceIte, if_true, if_false, Nat.reduceEqDiff, Nat.reduceAdd, Nat.reduceMul, Nat.reduceSub, Nat.reduceLeDiff, reduceCtorEq, not_true_eq_false, not_false_eq_true, true_imp_iff, false_imp_iff, zc_0, zc_1, zc_2, zc_3, zc_4, zc_5, zc_6, zc_8, zc_9, zc_10, zc_32, zc_36, zc_48, zc_64, zc_80, zc_120, zc_128, zc_248, zc_320, zc_400, zc_800, zc_1200, zc_2001, zc_4002, Int.reduceLT, Int.reduceLE, Int.reduceNeg, Nat.zero_ne_one, Nat.one_ne_zero, or_true, true_or, or_false, false_or, MR_sI, mo0 hm2, ma1 hm2, ml1 hm2, ms1 hm2, ma2 hm2, ml2 hm2, ms2 hm2, ma3 hm2, ml3 hm2, ms3 hm2, ma4 hm2, ml4 hm2, ms4 hm2, ma5 hm2, ml5 hm2, ms5 hm2, ma6 hm2, ml6 hm2, ms6 hm2, ma7 hm2, ml7 hm2, ms7 hm2, ma8 hm2, ml8 hm2, ms8 hm2, ma9 hm2, ml9 hm2, ms9 hm2, ma10 hm2, ml10 hm2, ms10 hm2, ma11 hm2, ml11 hm2, ms11 hm2, ma12 hm2, ml12 hm2, ms12 hm2, ma13 hm2, ml13 hm2, ms13 hm2, ma14 hm2, ml14 hm2, ms14 hm2, ma15 hm2, ml15 hm2, ms15 hm2, ma16 hm2, ml16 hm2, ms16 hm2, ma17 hm2, ml17 hm2, ms17 hm2, ma18 hm2, ml18 hm2, ms18 hm2, ma19 hm2, ml19 hm2, ms19 hm2, ma20 hm2, ml20 hm2, ms20 hm2, ma21 hm2, ml21 hm2, ms21 hm2, ma22 hm2, ml22 hm2, ms22 hm2, ma23 hm2, ml23 hm2, ms23 hm2, ma24 hm2, ml24 hm2, ms24 hm2, ma25 hm2, ml25 hm2, ms25 hm2, ma26 hm2, ml26 hm2, ms26 hm2, ma27 hm2, ml27 hm2, ms27 hm2, ma28 hm2, ml28 hm2, ms28 hm2, ma29 hm2, ml29 hm2, ms29 hm2, ma30 hm2, ml30 hm2, ms30 hm2, ma31 hm2, ml31 hm2, ms31 hm2, ma32 hm2, ml32 hm2, ms32 hm2, ma33 hm2, ml33 hm2, ms33 hm2, ma34 hm2, ml34 hm2, ms34 hm2, ma35 hm2, ml35 hm2, ms35 hm2, ma36 hm2, ml36 hm2, ms36 hm2, ma37 hm2, ml37 hm2, ms37 hm2, ma38 hm2, ml38 hm2, ms38 hm2, ma39 hm2, ml39 hm2, ms39 hm2, ma40 hm2, ml40 hm2, ms40 hm2, ma41 hm2, ml41 hm2, ms41 hm2, ma42 hm2, ml42 hm2, ms42 hm2, ma43 hm2, ml43 hm2, ms43 hm2, ma44 hm2, ml44 hm2, ms44 hm2, ma45 hm2, ml45 hm2, ms45 hm2, ma46 hm2, ml46 hm2, ms46 hm2, ma47 hm2, ml47 hm2, ms47 hm2, mr0_0 hm2, mr0_5 hm2, mr0_6 hm2, mr0_7 hm2, mr0_8 hm2, mr0_9 hm2, mr0_10 hm2, mr0_11 hm2, mr0_12 hm2, mr0_17 hm2, mr0_18 hm2, mr0_19 hm2, mr0_20 hm2, mr0_21 hm2, mr0_22 hm2, mr0_23 hm2, mr0_24 hm2, mr0_25 hm2, mr0_26 hm2, mr0_27 hm2, mr0_28 hm2, mr0_29 hm2, mr0_30 hm2, mr0_31 hm2, mr0_32 hm2, mr0_33 hm2, mr0_34 hm2, mr0_35 hm2, mr0_41 hm2, mr0_42 hm2, mr0_43 hm2, mr0_45 hm2, mr0_46 hm2, mr0_55 hm2, mr0_56 hm2, mr0_57 hm2, mr0_58 hm2, mr0_59 hm2, mr0_62 hm2, mr0_63 hm2, mr0_64 hm2, mr0_65 hm2, mr0_66 hm2, mr0_67 hm2, mr0_68 hm2, mr0_69 hm2, mr0_70 hm2, h72]
    refine hK h M2 h1 h2 _ (fun M3 h3 => ?_)
    simp only [gIn_toInt, nI_toInt, Nat.reduceLT, Nat.reducePow, va_rf_none, va_rf_some, gObj_sI, gObj_sR, gAr_sI, gAr_sR, gLen_sI, gLen_sR, gsI_1, gsI_2, gsR_1, gsR_2, gU_ref, gU_null, gU_rf, gisRef_ref, gisRef_null, gisRef_rf, Option.toList_some, Option.toList_none, List.cons_append, List.nil_append, true_and, and_true, false_and, and_false, ↓reduceIte, if_true, if_false, Nat.reduceEqDiff, Nat.reduceAdd, Nat.reduceMul, Nat.reduceSub, Nat.reduceLeDiff, reduceCtorEq, not_true_eq_false, not_false_eq_true, true_imp_iff, false_imp_iff, zc_0, zc_1, zc_2, zc_3, zc_4, zc_5, zc_6, zc_8, zc_9, zc_10, zc_32, zc_36, zc_48, zc_64, zc_80, zc_120, zc_128, zc_248, zc_320, zc_400, zc_800, zc_1200, zc_2001, zc_4002, Int.reduceLT, Int.reduceLE, Int.reduceNeg, Nat.zero_ne_one, Nat.one_ne_zero, or_true, true_or, or_false, false_or]
    exact h3
  · have hm2 := gFr_M h1.1.1 hm
    have h0 := badV_n0 (f := 1) (p := a) (by decide) (by decide) (by omega)
    simp only [z142_188, z142_189, z142_192, gIn_toInt, nI_toInt, Nat.reduceLT, Nat.reducePow, va_rf_none, va_rf_some, gObj_sI, gObj_sR, gAr_sI, gAr_sR, gLen_sI, gLen_sR, gsI_1, gsI_2, gsR_1, gsR_2, gU_ref, gU_null, gU_rf, gisRef_ref, gisRef_null, gisRef_rf, Option.toList_some, Option.toList_none, List.cons_append, List.nil_append, true_and, and_true, false_and, and_false, ↓reduceIte, if_true, if_false, Nat.reduceEqDiff, Nat.reduceAdd, Nat.reduceMul, Nat.reduceSub, Nat.reduceLeDiff, reduceCtorEq, not_true_eq_false, not_false_eq_true, true_imp_iff, false_imp_iff, zc_0, zc_1, zc_2, zc_3, zc_4, zc_5, zc_6, zc_8, zc_9, zc_10, zc_32, zc_36, zc_48, zc_64, zc_80, zc_120, zc_128, zc_248, zc_320, zc_400, zc_800, zc_1200, zc_2001, zc_4002, Int.reduceLT, Int.reduceLE, Int.reduceNeg, Nat.zero_ne_one, Nat.one_ne_zero, or_true, true_or, or_false, false_or, MR_sI, mo0 hm2, ma1 hm2, ml1 hm2, ms1 hm2, ma2 hm2, ml2 hm2, ms2 hm2, ma3 hm2, ml3 hm2, ms3 hm2, ma4 hm2, ml4 hm2, ms4 hm2, ma5 hm2, ml5 hm2, ms5 hm2, ma6 hm2, ml6 hm2, ms6 hm2, ma7 hm2, ml7 hm2, ms7 hm2, ma8 hm2, ml8 hm2, ms8 hm2, ma9 hm2, ml9 hm2, ms9 hm2, ma10 hm2, ml10 hm2, ms10 hm2, ma11 hm2, ml11 hm2, ms11 hm2, ma12 hm2, ml12 hm2, ms12 hm2, ma13 hm2, ml13 hm2, ms13 hm2, ma14 hm2, ml14 hm2, ms14 hm2, ma15 hm2, ml15 hm2, ms15 hm2, ma16 hm2, ml16 hm2, ms16 hm2, ma17 hm2, ml17 hm2, ms17 hm2, ma18 hm2, ml18 hm2, ms18 hm2, ma19 hm2, ml19 hm2, ms19 hm2, ma20 hm2, ml20 hm2, ms20 hm2, ma21 hm2, ml21 hm2, ms21 hm2, ma22 hm2, ml22 hm2, ms22 hm2, ma23 hm2, ml23 hm2, ms23 hm2, ma24 hm2, ml24 hm2, ms24 hm2, ma25 hm2, ml25 hm2, ms25 hm2, ma26 hm2, ml26 hm2, ms26 hm2, ma27 hm2, ml27 hm2, ms27 hm2, ma28 hm2, ml28 hm2, ms28 hm2, ma29 hm2, ml29 hm2, ms29 hm2, ma30 hm2, ml30 hm2, ms30 hm2, ma31 hm2, ml31 hm2, ms31 hm2, ma32 hm2, ml32 hm2, ms32 hm2, ma33 hm2, ml33 hm2, ms33 hm2, ma34 hm2, ml34 hm2, ms34 hm2, ma35 hm2, ml35 hm2, ms35 hm2, ma36 hm2, ml36 hm2, ms36 hm2, ma37 hm2, ml37 hm2, ms37 hm2, ma38 hm2, ml38 hm2, ms38 hm2, ma39 hm2, ml39 hm2, ms39 hm2, ma40 hm2, ml40 hm2, ms40 hm2, ma41 hm2, ml41 hm2, ms41 hm2, ma42 hm2, ml42 hm2, ms42 hm2, ma43 hm2, ml43 hm2, ms43 hm2, ma44 hm2, ml44 hm2, ms44 hm2, ma45 hm2, ml45 hm2, ms45 hm2, ma46 hm2, ml46 hm2, ms46 hm2, ma47 hm2, ml47 hm2, ms47 hm2, mr0_0 hm2, mr0_5 hm2, mr0_6 hm2, mr0_7 hm2, mr0_8 hm2, mr0_9 hm2, mr0_10 hm2, mr0_11 hm2, mr0_12 hm2, mr0_17 hm2, mr0_18 hm2, mr0_19 hm2, mr0_20 hm2, mr0_21 hm2, mr0_22 hm2, mr0_23 hm2, mr0_24 hm2, mr0_25 hm2, mr0_26 hm2, mr0_27 hm2, mr0_28 hm2, mr0_29 hm2, mr0_30 hm2, mr0_31 hm2, mr0_32 hm2, mr0_33 hm2, mr0_34 hm2, mr0_35 hm2, mr0_41 hm2, mr0_42 hm2, mr0_43 hm2, mr0_45 hm2, mr0_46 hm2, mr0_55 hm2, mr0_56 hm2, mr0_57 hm2, mr0_58 hm2, mr0_59 hm2, mr0_62 hm2, mr0_63 hm2, mr0_64 hm2, mr0_65 hm2, mr0_66 hm2, mr0_67 hm2, mr0_68 hm2, mr0_69 hm2, mr0_70 hm2, h1.2, h0]
    exact hF h M2 h1
theorem q199n (hm : MR M) (h7 : M.1 0 15 = 0) (hc : c ≤ 255) (hp : c ≠ 91) (h : Run (d + 5) 142 230 [some (.ref 0), x1, x2, x3, some (.int (nI c))] [] M 0 0 Z) : Run (d + 5) 142 199 [some (.ref 0), x1, x2, x3, some (.int (nI c))] [] M 0 0 Z := by
  have q1 : ¬ nI c = 91 := by rw [show (91 : Int32) = nI 91 from rfl, nI_lit hc (by decide)]; exact hp
  simp only [z142_199, z142_200, z142_203, z142_206, z142_207, z142_210, z142_211, z142_213, z142_215, gIn_toInt, nI_toInt, Nat.reduceLT, Nat.reducePow, va_rf_none, va_rf_some, gObj_sI, gObj_sR, gAr_sI, gAr_sR, gLen_sI, gLen_sR, gsI_1, gsI_2, gsR_1, gsR_2, gU_ref, gU_null, gU_rf, gisRef_ref, gisRef_null, gisRef_rf, Option.toList_some, Option.toList_none, List.cons_append, List.nil_append, true_and, and_true, false_and, and_false, ↓reduceIte, if_true, if_false, Nat.reduceEqDiff, Nat.reduceAdd, Nat.reduceMul, Nat.reduceSub, Nat.reduceLeDiff, reduceCtorEq, not_true_eq_false, not_false_eq_true, true_imp_iff, false_imp_iff, zc_0, zc_1, zc_2, zc_3, zc_4, zc_5, zc_6, zc_8, zc_9, zc_10, zc_32, zc_36, zc_48, zc_64, zc_80, zc_120, zc_128, zc_248, zc_320, zc_400, zc_800, zc_1200, zc_2001, zc_4002, Int.reduceLT, Int.reduceLE, Int.reduceNeg, Nat.zero_ne_one, Nat.one_ne_zero, or_true, true_or, or_false, false_or, ti_0, ti_1, ti_2, ti_3, ti_4, ti_5, ti_6, ti_7, ti_8, ti_9, ti_10, ti_11, ti_12, ti_13, ti_14, ti_15, ti_16, ti_17, ti_18, ti_19, ti_20, ti_21, ti_22, ti_23, ti_24, ti_25, ti_26, ti_27, ti_28, ti_29, ti_30, ti_31, ti_32, ti_33, ti_34, ti_35, ti_36, ti_37, ti_38, ti_39, ti_40, ti_41, ti_42, ti_43, ti_44, ti_45, ti_46, ti_47, ti_48, ti_49, ti_50, ti_51, ti_52, ti_53, ti_54, ti_55, ti_56, ti_57, ti_58, ti_59, ti_60, ti_61, ti_62, ti_63, ti_64, ti_65, ti_66, ti_67, ti_68, ti_69, ti_70, ti_71, ti_72, ti_73, ti_74, ti_75, ti_76, ti_77, ti_78, ti_79, ti_80, ti_81, ti_82, ti_83, ti_84, ti_85, ti_86, ti_87, ti_88, ti_89, ti_90, ti_91, ti_92, ti_93, ti_94, ti_95, ti_96, ti_97, ti_98, ti_99, ti_100, ti_101, ti_102, ti_103, ti_104, ti_105, ti_106, ti_107, ti_108, ti_109, ti_110, ti_111, ti_112, ti_113, ti_114, ti_115, ti_116, ti_117, ti_118, ti_119, ti_120, ti_121, ti_122, ti_123, ti_124, ti_125, ti_126, ti_127, ti_128, ti_129, ti_200, ti_248, ti_255, ti_256, ti_400, ti_1000, ti_2000, ti_2001, ti_1000000, tj_1, tj_2, tj_8, tj_10, tj_1000, tc_0, tc_1, tc_2, tc_3, tc_4, tc_5, tc_6, tc_7, tc_8, i32_lt, i32_le, MR_sI, mo0 hm, ma1 hm, ml1 hm, ms1 hm, ma2 hm, ml2 hm, ms2 hm, ma3 hm, ml3 hm, ms3 hm, ma4 hm, ml4 hm, ms4 hm, ma5 hm, ml5 hm, ms5 hm, ma6 hm, ml6 hm, ms6 hm, ma7 hm, ml7 hm, ms7 hm, ma8 hm, ml8 hm, ms8 hm, ma9 hm, ml9 hm, ms9 hm, ma10 hm, ml10 hm, ms10 hm, ma11 hm, ml11 hm, ms11 hm, ma12 hm, ml12 hm, ms12 hm, ma13 hm, ml13 hm, ms13 hm, ma14 hm, ml14 hm, ms14 hm, ma15 hm, ml15 hm, ms15 hm, ma16 hm, ml16 hm, ms16 hm, ma17 hm, ml17 hm, ms17 hm, ma18 hm, ml18 hm, ms18 hm, ma19 hm, ml19 hm, ms19 hm, ma20 hm, ml20 hm, ms20 hm, ma21 hm, ml21 hm, ms21 hm, ma22 hm, ml22 hm, ms22 hm, ma23 hm, ml23 hm, ms23 hm, ma24 hm, ml24 hm, ms24 hm, ma25 hm, ml25 hm, ms25 hm, ma26 hm, ml26 hm, ms26 hm, ma27 hm, ml27 hm, ms27 hm, ma28 hm, ml28 hm, ms28 hm, ma29 hm, ml29 hm, ms29 hm, ma30 hm, ml30 hm, ms30 hm, ma31 hm, ml31 hm, ms31 hm, ma32 hm, ml32 hm, ms32 hm, ma33 hm, ml33 hm, ms33 hm, ma34 hm, ml34 hm, ms34 hm, ma35 hm, ml35 hm, ms35 hm, ma36 hm, ml36 hm, ms36 hm, ma37 hm, ml37 hm, ms37 hm, ma38 hm, ml38 hm, ms38 hm, ma39 hm, ml39 hm, ms39 hm, ma40 hm, ml40 hm, ms40 hm, ma41 hm, ml41 hm, ms41 hm, ma42 hm, ml42 hm, ms42 hm, ma43 hm, ml43 hm, ms43 hm, ma44 hm, ml44 hm, ms44 hm, ma45 hm, ml45 hm, ms45 hm, ma46 hm, ml46 hm, ms46 hm, ma47 hm, ml47 hm, ms47 hm, mr0_0 hm, mr0_5 hm, mr0_6 hm, mr0_7 hm, mr0_8 hm, mr0_9 hm, mr0_10 hm, mr0_11 hm, mr0_12 hm, mr0_17 hm, mr0_18 hm, mr0_19 hm, mr0_20 hm, mr0_21 hm, mr0_22 hm, mr0_23 hm, mr0_24 hm, mr0_25 hm, mr0_26 hm, mr0_27 hm, mr0_28 hm, mr0_29 hm, mr0_30 hm, mr0_31 hm, mr0_32 hm, mr0_33 hm, mr0_34 hm, mr0_35 hm, mr0_41 hm, mr0_42 hm, mr0_43 hm, mr0_45 hm, mr0_46 hm, mr0_55 hm, mr0_56 hm, mr0_57 hm, mr0_58 hm, mr0_59 hm, mr0_62 hm, mr0_63 hm, mr0_64 hm, mr0_65 hm, mr0_66 hm, mr0_67 hm, mr0_68 hm, mr0_69 hm, mr0_70 hm, h7, q1, Int.le_refl]
  exact h
theorem q199y (hm : MR M) (ht : tOk tx n) (hs : mSc M tx n ba a) (hc : c = 91) (hr : r ≤ 100) (hK : tx a = 58 → ∀ M2, mFr M M2 → mSc M2 tx n ba (a + 1) → Run (d + 5) 142 16 [some (.ref 0), some (.int (nI (r + 1))), x2, x3, some (.int (nI c))] [] M2 0 0 Z)
    (hF : tx a ≠ 58 → ∀ M2, mBl M M2 1 a → Run (d + 5) 142 16 [some (.ref 0), some (.int (nI (r + 1))), x2, x3, some (.int (nI c))] [] M2 0 0 Z) : Run (d + 5) 142 199 [some (.ref 0), some (.int (nI r)), x2, x3, some (.int (nI c))] [] M 0 0 Z := by
  subst hc
  have h7 := hs.2.2.2.2
  have i91 : nI 91 = 91 := rfl
  rw [i91] at hK hF ⊢
  simp only [z142_199, z142_200, z142_203, z142_206, z142_207, z142_210, z142_211, z142_213, z142_215, z142_218, z142_219, z142_221, gIn_toInt, nI_toInt, Nat.reduceLT, Nat.reducePow, va_rf_none, va_rf_some, gObj_sI, gObj_sR, gAr_sI, gAr_sR, gLen_sI, gLen_sR, gsI_1, gsI_2, gsR_1, gsR_2, gU_ref, gU_null, gU_rf, gisRef_ref, gisRef_null, gisRef_rf, Option.toList_some, Option.toList_none, List.cons_append, List.nil_append, true_and, and_true, false_and, and_false, ↓reduceIte, if_true, if_false, Nat.reduceEqDiff, Nat.reduceAdd, Nat.reduceMul, Nat.reduceSub, Nat.reduceLeDiff, reduceCtorEq, not_true_eq_false, not_false_eq_true, true_imp_iff, false_imp_iff, zc_0, zc_1, zc_2, zc_3, zc_4, zc_5, zc_6, zc_8, zc_9, zc_10, zc_32, zc_36, zc_48, zc_64, zc_80, zc_120, zc_128, zc_248, zc_320, zc_400, zc_800, zc_1200, zc_2001, zc_4002, Int.reduceLT, Int.reduceLE, Int.reduceNeg, Nat.zero_ne_one, Nat.one_ne_zero, or_true, true_or, or_false, false_or, ti_0, ti_1, ti_2, ti_3, ti_4, ti_5, ti_6, ti_7, ti_8, ti_9, ti_10, ti_11, ti_12, ti_13, ti_14, ti_15, ti_16, ti_17, ti_18, ti_19, ti_20, ti_21, ti_22, ti_23, ti_24, ti_25, ti_26, ti_27, ti_28, ti_29, ti_30, ti_31, ti_32, ti_33, ti_34, ti_35, ti_36, ti_37, ti_38, ti_39, ti_40, ti_41, ti_42, ti_43, ti_44, ti_45, ti_46, ti_47, ti_48, ti_49, ti_50, ti_51, ti_52, ti_53, ti_54, ti_55, ti_56, ti_57, ti_58, ti_59, ti_60, ti_61, ti_62, ti_63, ti_64, ti_65, ti_66, ti_67, ti_68, ti_69, ti_70, ti_71, ti_72, ti_73, ti_74, ti_75, ti_76, ti_77, ti_78, ti_79, ti_80, ti_81, ti_82, ti_83, ti_84, ti_85, ti_86, ti_87, ti_88, ti_89, ti_90, ti_91, ti_92, ti_93, ti_94, ti_95, ti_96, ti_97, ti_98, ti_99, ti_100, ti_101, ti_102, ti_103, ti_104, ti_105, ti_106, ti_107, ti_108, ti_109, ti_110, ti_111, ti_112, ti_113, ti_114, ti_115, ti_116, ti_117, ti_118, ti_119, ti_120, ti_121, ti_122, ti_123, ti_124, ti_125, ti_126, ti_127, ti_128, ti_129, ti_200, ti_248, ti_255, ti_256, ti_400, ti_1000, ti_2000, ti_2001, ti_1000000, tj_1, tj_2, tj_8, tj_10, tj_1000, tc_0, tc_1, tc_2, tc_3, tc_4, tc_5, tc_6, tc_7, tc_8, i32_lt, i32_le, MR_sI, mo0 hm, ma1 hm, ml1 hm, ms1 hm, ma2 hm, ml2 hm, ms2 hm, ma3 hm, ml3 hm, ms3 hm, ma4 hm, ml4 hm, ms4 hm, ma5 hm, ml5 hm, ms5 hm, ma6 hm, ml6 hm, ms6 hm, ma7 hm, ml7 hm, ms7 hm, ma8 hm, ml8 hm, ms8 hm, ma9 hm, ml9 hm, ms9 hm, ma10 hm, ml10 hm, ms10 hm, ma11 hm, ml11 hm, ms11 hm, ma12 hm, ml12 hm, ms12 hm, ma13 hm, ml13 hm, ms13 hm, ma14 hm, ml14 hm, ms14 hm, ma15 hm, ml15 hm, ms15 hm, ma16 hm, ml16 hm, ms16 hm, ma17 hm, ml17 hm, ms17 hm, ma18 hm, ml18 hm, ms18 hm, ma19 hm, ml19 hm, ms19 hm, ma20 hm, ml20 hm, ms20 hm, ma21 hm, ml21 hm, ms21 hm, ma22 hm, ml22 hm, ms22 hm, ma23 hm, ml23 hm, ms23 hm, ma24 hm, ml24 hm, ms24 hm, ma25 hm, ml25 hm, ms25 hm, ma26 hm, ml26 hm, ms26 hm, ma27 hm, ml27 hm, ms27 hm, ma28 hm, ml28 hm, ms28 hm, ma29 hm, ml29 hm, ms29 hm, ma30 hm, ml30 hm, ms30 hm, ma31 hm, ml31 hm, ms31 hm, ma32 hm, ml32 hm, ms32 hm, ma33 hm, ml33 hm, ms33 hm, ma34 hm, ml34 hm, ms34 hm, ma35 hm, ml35 hm, ms35 hm, ma36 hm, ml36 hm, ms36 hm, ma37 hm, ml37 hm, ms37 hm, ma38 hm, ml38 hm, ms38 hm, ma39 hm, ml39 hm, ms39 hm, ma40 hm, ml40 hm, ms40 hm, ma41 hm, ml41 hm, ms41 hm, ma42 hm, ml42 hm, ms42 hm, ma43 hm, ml43 hm, ms43 hm, ma44 hm, ml44 hm, ms44 hm, ma45 hm, ml45 hm, ms45 hm, ma46 hm, ml46 hm, ms46 hm, ma47 hm, ml47 hm, ms47 hm, mr0_0 hm, mr0_5 hm, mr0_6 hm, mr0_7 hm, mr0_8 hm, mr0_9 hm, mr0_10 hm, mr0_11 hm, mr0_12 hm, mr0_17 hm, mr0_18 hm, mr0_19 hm, mr0_20 hm, mr0_21 hm, mr0_22 hm, mr0_23 hm, mr0_24 hm, mr0_25 hm, mr0_26 hm, mr0_27 hm, mr0_28 hm, mr0_29 hm, mr0_30 hm, mr0_31 hm, mr0_32 hm, mr0_33 hm, mr0_34 hm, mr0_35 hm, mr0_41 hm, mr0_42 hm, mr0_43 hm, mr0_45 hm, mr0_46 hm, mr0_55 hm, mr0_56 hm, mr0_57 hm, mr0_58 hm, mr0_59 hm, mr0_62 hm, mr0_63 hm, mr0_64 hm, mr0_65 hm, mr0_66 hm, mr0_67 hm, mr0_68 hm, mr0_69 hm, mr0_70 hm, h7, Int.le_refl]
  refine m_must (d := d + 3) (c := 58) hm ht hs (by decide) (by decide) rfl (fun h M2 h1 h2 => ?_) (fun h M2 h1 => ?_)
  · simp only [z142_224, z142_227, gIn_toInt, nI_toInt, Nat.reduceLT, Nat.reducePow, va_rf_none, va_rf_some, gObj_sI, gObj_sR, gAr_sI, gAr_sR, gLen_sI, gLen_sR, gsI_1, gsI_2, gsR_1, gsR_2, gU_ref, gU_null, gU_rf, gisRef_ref, gisRef_null, gisRef_rf, Option.toList_some, Option.toList_none, List.cons_append, List.nil_append, true_and, and_true, false_and, and_false, ↓reduceIte, if_true, if_false, Nat.reduceEqDiff, Nat.reduceAdd, Nat.reduceMul, Nat.reduceSub, Nat.reduceLeDiff, reduceCtorEq, not_true_eq_false, not_false_eq_true, true_imp_iff, false_imp_iff, zc_0, zc_1, zc_2, zc_3, zc_4, zc_5, zc_6, zc_8, zc_9, zc_10, zc_32, zc_36, zc_48, zc_64, zc_80, zc_120, zc_128, zc_248, zc_320, zc_400, zc_800, zc_1200, zc_2001, zc_4002, Int.reduceLT, Int.reduceLE, Int.reduceNeg, Nat.zero_ne_one, Nat.one_ne_zero, or_true, true_or, or_false, false_or, nI_1]
    exact hK h M2 h1 h2
  · simp only [z142_224, z142_227, gIn_toInt, nI_toInt, Nat.reduceLT, Nat.reducePow, va_rf_none, va_rf_some, gObj_sI, gObj_sR, gAr_sI, gAr_sR, gLen_sI, gLen_sR, gsI_1, gsI_2, gsR_1, gsR_2, gU_ref, gU_null, gU_rf, gisRef_ref, gisRef_null, gisRef_rf, Option.toList_some, Option.toList_none, List.cons_append, List.nil_append, true_and, and_true, false_and, and_false, ↓reduceIte, if_true, if_false, Nat.reduceEqDiff, Nat.reduceAdd, Nat.reduceMul, Nat.reduceSub, Nat.reduceLeDiff, reduceCtorEq, not_true_eq_false, not_false_eq_true, true_imp_iff, false_imp_iff, zc_0, zc_1, zc_2, zc_3, zc_4, zc_5, zc_6, zc_8, zc_9, zc_10, zc_32, zc_36, zc_48, zc_64, zc_80, zc_120, zc_128, zc_248, zc_320, zc_400, zc_800, zc_1200, zc_2001, zc_4002, Int.reduceLT, Int.reduceLE, Int.reduceNeg, Nat.zero_ne_one, Nat.one_ne_zero, or_true, true_or, or_false, false_or, nI_1]
    exact hF h M2 h1
def mTS (tx : Nat → Nat) (n ba : Nat) : nPT := fun _ r l a z b => z ≤ 40 ∧ (r ≤ 3 → ∀ d Z M, MR M → mSc M tx n ba a → (∀ M2, mFr M M2 → mSc M2 tx n ba b → mLT d Z M2 r z) → mLH d Z M r l)
def mFS (tx : Nat → Nat) (n ba ns : Nat) : nPG := fun _ r l a f p => f ≠ 0 ∧ f ≤ 5 ∧ (r ≤ 3 → l ≤ 40 → ∀ d Z M, MR M → M.1 0 4 = nI ns → ns < 10 → mSc M tx n ba a → (∀ M2, mG ns M M2 → p ≤ n → Z (some (.int (badV f p))) M2) → mLH d Z M r l)
theorem mTS_cl (ht : tOk tx n) : tScl tx (mTS tx n ba) := by
  refine ⟨?_, ?_, ?_, ?_, ?_, ?_, ?_⟩
  · intro r l a hl hc
    refine ⟨by omega, fun hr d Z M hm hs hK => ?_⟩
    have c255 := ht.2.1 a
    refine mh_step hm ht hs (Or.inl hc) (fun h => by unfold cPln at hc; omega) hl hr (fun M2 hf2 hs2 => ?_)
    have hm2 := gFr_M hf2.1 hm
    have h7 := hs2.2.2.2.2
    exact q135n hm2 c255 (by unfold cPln at hc; unfold cNam; omega) (q149p hm2 h7 c255 hc (q168n hm2 h7 c255 (by unfold cPln at hc; omega) (q199n hm2 h7 c255 (by unfold cPln at hc; omega) (hK M2 hf2 hs2 _))))
  · intro r l a b hl hc hX
    refine ⟨by omega, fun hr d Z M hm hs hK => ?_⟩
    have c255 := ht.2.1 a
    refine mh_step hm ht hs (Or.inr (Or.inl hc)) (fun h => by unfold cAct at hc; omega) hl hr (fun M2 hf2 hs2 => ?_)
    have hm2 := gFr_M hf2.1 hm
    have h7 := hs2.2.2.2.2
    refine q135n hm2 c255 (by unfold cAct at hc; unfold cNam; omega) (q149s hm2 h7 c255 (by unfold cAct at hc; unfold cPln; omega) (fun Z2 hZ2 => m_sumL hm2 ht hs2 hX (fun M3 hf3 hs3 => hZ2 M3 ?_)))
    have hm3 := gFr_M hf3.1 hm2
    have h73 := hs3.2.2.2.2
    exact q168n hm3 h73 c255 (by unfold cAct at hc; omega) (q199n hm3 h73 c255 (by unfold cAct at hc; omega) (hK M3 (mFr_tr hf2 hf3) hs3 _))
  · intro r l a b c hl hc hX h46 hY
    refine ⟨by omega, fun hr d Z M hm hs hK => ?_⟩
    have c255 := ht.2.1 a
    refine mh_step hm ht hs (Or.inr (Or.inr (Or.inl hc))) (fun h => by omega) hl hr (fun M2 hf2 hs2 => ?_)
    have hm2 := gFr_M hf2.1 hm
    have h7 := hs2.2.2.2.2
    refine q135n hm2 c255 (by unfold cNam; omega) (q149s hm2 h7 c255 (by unfold cPln; omega) (fun Z2 hZ2 => m_sumL hm2 ht hs2 hX (fun M3 hf3 hs3 => hZ2 M3 ?_)))
    have hm3 := gFr_M hf3.1 hm2
    refine q168p hm3 ht hs3 hc (fun _ M4 hf4 hs4 Z3 hZ3 => ?_) (fun h => absurd h46 h)
    have hm4 := gFr_M hf4.1 hm3
    refine m_sumL hm4 ht hs4 hY (fun M5 hf5 hs5 => hZ3 M5 ?_)
    have hm5 := gFr_M hf5.1 hm4
    exact q199n hm5 hs5.2.2.2.2 c255 (by omega) (hK M5 (mFr_tr hf2 (mFr_tr hf3 (mFr_tr hf4 hf5))) hs5 _)
  · intro r l a b hl hc h61 hX
    refine ⟨by omega, fun hr d Z M hm hs hK => ?_⟩
    have c255 := ht.2.1 a
    refine mh_step hm ht hs (Or.inr (Or.inr (Or.inr (Or.inl hc)))) (fun h => by unfold cNam at hc; omega) hl hr (fun M2 hf2 hs2 => ?_)
    have hm2 := gFr_M hf2.1 hm
    refine q135y hm2 ht hs2 c255 hc (fun _ M4 hf4 hs4 => ?_) (fun h => absurd h61 h)
    have hm4 := gFr_M hf4.1 hm2
    refine q149s hm4 hs4.2.2.2.2 c255 (by unfold cNam at hc; unfold cPln; omega) (fun Z2 hZ2 => m_sumL hm4 ht hs4 hX (fun M3 hf3 hs3 => hZ2 M3 ?_))
    have hm3 := gFr_M hf3.1 hm4
    have h73 := hs3.2.2.2.2
    exact q168n hm3 h73 c255 (by unfold cNam at hc; omega) (q199n hm3 h73 c255 (by unfold cNam at hc; omega) (hK M3 (mFr_tr hf2 (mFr_tr hf4 hf3)) hs3 _))
  · intro r l a b z c hl hr3 hc hX h58 hP h93
    obtain ⟨hz, hP⟩ := hP
    refine ⟨hz, fun hr d Z M hm hs hK => ?_⟩
    have c255 := ht.2.1 a
    refine mh_step hm ht hs (Or.inr (Or.inr (Or.inr (Or.inr hc)))) (fun _ => hr3) hl hr (fun M2 hf2 hs2 => ?_)
    have hm2 := gFr_M hf2.1 hm
    have h7 := hs2.2.2.2.2
    refine q135n hm2 c255 (by unfold cNam; omega) (q149s hm2 h7 c255 (by unfold cPln; omega) (fun Z2 hZ2 => m_sumL hm2 ht hs2 hX (fun M3 hf3 hs3 => hZ2 M3 ?_)))
    have hm3 := gFr_M hf3.1 hm2
    refine q168n hm3 hs3.2.2.2.2 c255 (by omega) (q199y hm3 ht hs3 hc (by omega) (fun _ M4 hf4 hs4 => ?_) (fun h => absurd h58 h))
    have hm4 := gFr_M hf4.1 hm3
    refine hP (by omega) d Z M4 hm4 hs4 (fun M5 hf5 hs5 => ?_) _
    have hm5 := gFr_M hf5.1 hm4
    exact mt_out hm5 ht hs5 h93 hr (fun M6 hf6 hs6 => hK M6 (mFr_tr hf2 (mFr_tr hf3 (mFr_tr hf4 (mFr_tr hf5 hf6)))) hs6)
  · intro r l a z b h1
    exact h1
  · intro r l a y b z c h1 h59 h2
    obtain ⟨hy, h1⟩ := h1
    obtain ⟨hz, h2⟩ := h2
    refine ⟨hz, fun hr d Z M hm hs hK => ?_⟩
    refine h1 hr d Z M hm hs (fun M2 hf2 hs2 => ?_)
    have hm2 := gFr_M hf2.1 hm
    refine mt_next hm2 ht hs2 h59 (fun M3 hf3 hs3 => ?_)
    exact h2 hr d Z M3 (gFr_M hf3.1 hm2) hs3 (fun M4 hf4 hs4 => hK M4 (mFr_tr hf2 (mFr_tr hf3 hf4)) hs4)
theorem mG_tr (h1 : mFr M M1) (h2 : mG ns M1 M2) : mG ns M M2 := ⟨gFr_tr (gFr_wk h1.1 (fun _ z => Or.inl z)) h2.1, fun k a b => (h2.2.1 k a b).trans (h1.2 k a b), fun k hk => (h2.2.2 k hk).trans (by rw [h1.1.2 9 (by decide)])⟩
theorem mFS_cl (ht : tOk tx n) : fScl tx (mFS tx n ba ns) := by
  have hn := ht.1
  refine ⟨?_, ?_, ?_, ?_, ?_, ?_, ?_, ?_, ?_, ?_, ?_, ?_, ?_⟩
  · intro r l a hc
    exact ⟨by decide, by decide, fun hr hl d Z M hm hns hns2 hs hK => mh_fail hm ht hs hr hl (Or.inl ⟨hc, rfl⟩) (fun M2 hb => hK M2 (mG_of hb.1) hs.2.2.2.1.2)⟩
  · intro r l a hc h3
    exact ⟨by decide, by decide, fun hr hl d Z M hm hns hns2 hs hK => mh_fail hm ht hs hr hl (Or.inr (Or.inl ⟨hc, by omega, rfl⟩)) (fun M2 hb => hK M2 (mG_of hb.1) hs.2.2.2.1.2)⟩
  · intro r l a hc h3 h40
    exact ⟨by decide, by decide, fun hr hl d Z M hm hns hns2 hs hK => mh_fail hm ht hs hr hl (Or.inr (Or.inr ⟨hc, h3, by omega, rfl⟩)) (fun M2 hb => hK M2 (mG_of hb.1) hs.2.2.2.1.2)⟩
  · intro r l a f p hl hc hF
    obtain ⟨g1, g2, -⟩ := hF _ (mLF_cl (ba := 0) ht)
    refine ⟨g1, g2, fun hr hl4 d Z M hm hns hns2 hs hK => ?_⟩
    have c255 := ht.2.1 a
    refine mh_step hm ht hs (by rcases hc with h | h | h; exact Or.inr (Or.inl h); exact Or.inr (Or.inr (Or.inl h)); exact Or.inr (Or.inr (Or.inr (Or.inr h.1)))) (fun h => by rcases hc with h' | h' | h'; (unfold cAct at h'; omega); omega; exact h'.2) hl hr (fun M2 hf2 hs2 => ?_)
    have hm2 := gFr_M hf2.1 hm
    have h7 := hs2.2.2.2.2
    have hnn : ¬ cNam (tx a) ∧ ¬ cPln (tx a) := by unfold cNam cPln; unfold cAct at hc; omega
    refine q135n hm2 c255 hnn.1 (q149s hm2 h7 c255 hnn.2 (fun Z2 hZ2 => m_sumF hm2 ht hs2 hF (fun M3 hb _ _ hp => hZ2 M3 ?_)))
    have hm3 := gFr_M hb.1.1 hm2
    exact mx_168 hm3 hb.2 g1 g2 (by omega) (hK M3 (mG_of (mFr_tr hf2 hb.1)) hp)
  · intro r l a b hl hc hX h46
    refine ⟨by decide, by decide, fun hr hl4 d Z M hm hns hns2 hs hK => ?_⟩
    have c255 := ht.2.1 a
    refine mh_step hm ht hs (Or.inr (Or.inr (Or.inl hc))) (fun h => by omega) hl hr (fun M2 hf2 hs2 => ?_)
    have hm2 := gFr_M hf2.1 hm
    have h7 := hs2.2.2.2.2
    refine q135n hm2 c255 (by unfold cNam; omega) (q149s hm2 h7 c255 (by unfold cPln; omega) (fun Z2 hZ2 => m_sumL hm2 ht hs2 hX (fun M3 hf3 hs3 => hZ2 M3 ?_)))
    have hm3 := gFr_M hf3.1 hm2
    have hbn : b ≤ n := hs3.2.2.2.1.2
    refine q168p hm3 ht hs3 hc (fun h => absurd h h46) (fun _ M4 hb => ?_)
    exact mx_199 (gFr_M hb.1.1 hm3) hb.2 (by decide) (by decide) (by omega) (hK M4 (mG_of (mFr_tr hf2 (mFr_tr hf3 hb.1))) hbn)
  · intro r l a b f p hl hc hX h46 hF
    obtain ⟨g1, g2, -⟩ := hF _ (mLF_cl (ba := 0) ht)
    refine ⟨g1, g2, fun hr hl4 d Z M hm hns hns2 hs hK => ?_⟩
    have c255 := ht.2.1 a
    refine mh_step hm ht hs (Or.inr (Or.inr (Or.inl hc))) (fun h => by omega) hl hr (fun M2 hf2 hs2 => ?_)
    have hm2 := gFr_M hf2.1 hm
    have h7 := hs2.2.2.2.2
    refine q135n hm2 c255 (by unfold cNam; omega) (q149s hm2 h7 c255 (by unfold cPln; omega) (fun Z2 hZ2 => m_sumL hm2 ht hs2 hX (fun M3 hf3 hs3 => hZ2 M3 ?_)))
    have hm3 := gFr_M hf3.1 hm2
    refine q168p hm3 ht hs3 hc (fun _ M4 hf4 hs4 Z3 hZ3 => ?_) (fun h => absurd h46 h)
    have hm4 := gFr_M hf4.1 hm3
    refine m_sumF hm4 ht hs4 hF (fun M5 hb _ _ hp => hZ3 M5 ?_)
    exact mx_199 (gFr_M hb.1.1 hm4) hb.2 g1 g2 (by omega) (hK M5 (mG_of (mFr_tr hf2 (mFr_tr hf3 (mFr_tr hf4 hb.1)))) hp)
  · intro r l a hl hc h61
    refine ⟨by decide, by decide, fun hr hl4 d Z M hm hns hns2 hs hK => ?_⟩
    have c255 := ht.2.1 a
    refine mh_step hm ht hs (Or.inr (Or.inr (Or.inr (Or.inl hc)))) (fun h => by unfold cNam at hc; omega) hl hr (fun M2 hf2 hs2 => ?_)
    have hm2 := gFr_M hf2.1 hm
    have hbn : a + 1 ≤ n := hs2.2.2.2.1.2
    refine q135y hm2 ht hs2 c255 hc (fun h => absurd h h61) (fun _ M4 hb => ?_)
    exact mx_149 (gFr_M hb.1.1 hm2) hb.2 (by decide) (by decide) (by omega) (hK M4 (mG_of (mFr_tr hf2 hb.1)) hbn)
  · intro r l a f p hl hc h61 hF
    obtain ⟨g1, g2, -⟩ := hF _ (mLF_cl (ba := 0) ht)
    refine ⟨g1, g2, fun hr hl4 d Z M hm hns hns2 hs hK => ?_⟩
    have c255 := ht.2.1 a
    refine mh_step hm ht hs (Or.inr (Or.inr (Or.inr (Or.inl hc)))) (fun h => by unfold cNam at hc; omega) hl hr (fun M2 hf2 hs2 => ?_)
    have hm2 := gFr_M hf2.1 hm
    refine q135y hm2 ht hs2 c255 hc (fun _ M4 hf4 hs4 => ?_) (fun h => absurd h61 h)
    have hm4 := gFr_M hf4.1 hm2
    refine q149s hm4 hs4.2.2.2.2 c255 (by unfold cNam at hc; unfold cPln; omega) (fun Z2 hZ2 => m_sumF hm4 ht hs4 hF (fun M3 hb _ _ hp => hZ2 M3 ?_))
    exact mx_168 (gFr_M hb.1.1 hm4) hb.2 g1 g2 (by omega) (hK M3 (mG_of (mFr_tr hf2 (mFr_tr hf4 hb.1))) hp)
  · intro r l a b hl hr3 hc hX h58
    refine ⟨by decide, by decide, fun hr hl4 d Z M hm hns hns2 hs hK => ?_⟩
    have c255 := ht.2.1 a
    refine mh_step hm ht hs (Or.inr (Or.inr (Or.inr (Or.inr hc)))) (fun _ => hr3) hl hr (fun M2 hf2 hs2 => ?_)
    have hm2 := gFr_M hf2.1 hm
    have h7 := hs2.2.2.2.2
    refine q135n hm2 c255 (by unfold cNam; omega) (q149s hm2 h7 c255 (by unfold cPln; omega) (fun Z2 hZ2 => m_sumL hm2 ht hs2 hX (fun M3 hf3 hs3 => hZ2 M3 ?_)))
    have hm3 := gFr_M hf3.1 hm2
    have hbn : b ≤ n := hs3.2.2.2.1.2
    refine q168n hm3 hs3.2.2.2.2 c255 (by omega) (q199y hm3 ht hs3 hc (by omega) (fun h => absurd h h58) (fun _ M4 hb => ?_))
    have hF4 := mFr_tr hf2 (mFr_tr hf3 hb.1)
    exact mx_bad (gFr_M hb.1.1 hm3) (by rw [hF4.2 4 (by decide) (by decide)]; exact hns) hns2 hb.2 (by decide) (by decide) (by omega) (fun x => hK _ (mG_let hF4) hbn)
  · intro r l a b f p hl hr3 hc hX h58 hP
    obtain ⟨g1, g2, hP⟩ := hP
    refine ⟨g1, g2, fun hr hl4 d Z M hm hns hns2 hs hK => ?_⟩
    have c255 := ht.2.1 a
    refine mh_step hm ht hs (Or.inr (Or.inr (Or.inr (Or.inr hc)))) (fun _ => hr3) hl hr (fun M2 hf2 hs2 => ?_)
    have hm2 := gFr_M hf2.1 hm
    have h7 := hs2.2.2.2.2
    refine q135n hm2 c255 (by unfold cNam; omega) (q149s hm2 h7 c255 (by unfold cPln; omega) (fun Z2 hZ2 => m_sumL hm2 ht hs2 hX (fun M3 hf3 hs3 => hZ2 M3 ?_)))
    have hm3 := gFr_M hf3.1 hm2
    refine q168n hm3 hs3.2.2.2.2 c255 (by omega) (q199y hm3 ht hs3 hc (by omega) (fun _ M4 hf4 hs4 => ?_) (fun h => absurd h58 h))
    have hF4 := mFr_tr hf2 (mFr_tr hf3 hf4)
    exact hP (by omega) (by omega) d Z M4 (gFr_M hf4.1 hm3) (by rw [hF4.2 4 (by decide) (by decide)]; exact hns) hns2 hs4 (fun M5 hg hp => hK M5 (mG_tr hF4 hg) hp) _
  · intro r l a b z c hl hr3 hc hX h58 hT h59 h93
    obtain ⟨hz, hP⟩ := hT _ (mTS_cl (ba := ba) ht)
    refine ⟨by decide, by decide, fun hr hl4 d Z M hm hns hns2 hs hK => ?_⟩
    have c255 := ht.2.1 a
    refine mh_step hm ht hs (Or.inr (Or.inr (Or.inr (Or.inr hc)))) (fun _ => hr3) hl hr (fun M2 hf2 hs2 => ?_)
    have hm2 := gFr_M hf2.1 hm
    have h7 := hs2.2.2.2.2
    refine q135n hm2 c255 (by unfold cNam; omega) (q149s hm2 h7 c255 (by unfold cPln; omega) (fun Z2 hZ2 => m_sumL hm2 ht hs2 hX (fun M3 hf3 hs3 => hZ2 M3 ?_)))
    have hm3 := gFr_M hf3.1 hm2
    refine q168n hm3 hs3.2.2.2.2 c255 (by omega) (q199y hm3 ht hs3 hc (by omega) (fun _ M4 hf4 hs4 => ?_) (fun h => absurd h58 h))
    have hm4 := gFr_M hf4.1 hm3
    refine hP (by omega) d Z M4 hm4 hs4 (fun M5 hf5 hs5 => ?_) _
    have hF5 := mFr_tr hf2 (mFr_tr hf3 (mFr_tr hf4 hf5))
    exact mt_bad (gFr_M hf5.1 hm4) ht hs5 (by rw [hF5.2 4 (by decide) (by decide)]; exact hns) hns2 (Or.inl h93) h59 (Or.inr (by omega)) (by omega) (fun M6 hg => hK M6 (mG_tr hF5 hg) hs5.2.2.2.1.2)
  · intro r l a f p h1
    exact h1
  · intro r l a z b f p hT h59 hP
    obtain ⟨hz, hT⟩ := hT _ (mTS_cl (ba := ba) ht)
    obtain ⟨g1, g2, hP⟩ := hP
    refine ⟨g1, g2, fun hr hl4 d Z M hm hns hns2 hs hK => ?_⟩
    refine hT hr d Z M hm hs (fun M2 hf2 hs2 => ?_)
    have hm2 := gFr_M hf2.1 hm
    refine mt_next hm2 ht hs2 h59 (fun M3 hf3 hs3 => ?_)
    have hF3 := mFr_tr hf2 hf3
    exact hP hr hz d Z M3 (gFr_M hf3.1 hm2) (by rw [hF3.2 4 (by decide) (by decide)]; exact hns) hns2 hs3 (fun M4 hg hp => hK M4 (mG_tr hF3 hg) hp)
end
