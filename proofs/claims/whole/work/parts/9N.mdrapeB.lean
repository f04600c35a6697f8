/-! The reference: tucks, valueOf. -/
section
variable {d w b n a st dv : Nat} {M M1 M2 : gM} {Z : Option Value → gM → Prop} {x y : Int32} {g rg : Nat → Nat} {t : nD} {ly : Nat → Nat → Nat} {P Q : Nat → Nat → Prop} {nm : Nat → Int32}
theorem m_tucks (hm : MR M) (hc : mCx M w b g) (hst : M.1 0 40 = nI st) (hd : mDr M w t) (h9 : t.1 9 ≤ 2000) (h7 : ∀ k, k < t.2.1 → t.2.2 k 7 < 2000) (hact : ∀ k, k < t.2.1 → t.2.2 k 0 < t.1 9) (hZ : ∀ M2, gFq (inW w) M M2 → mDr M2 w (aft (aTuck t) t st) → Z none M2) : Call (d + 3) 160 [.ref 0] M Z := by
  obtain ⟨⟨c1, c2⟩, ⟨c3, c4⟩, c5⟩ := id hc
  have t1 := nI_ti (show w ≤ 2000 by omega)
  have t3 := nI_tc (show w ≤ 2000 by omega)
  have k1 : 0 ≤ (w : Int) ∧ (w : Int) < 2 := by omega
  obtain ⟨hr, ⟨⟨q20, hn4⟩, hl⟩, hp⟩ := id hd
  have hcase : t.2.1 = 0 ∨ ∃ m, t.2.1 = m + 1 := by
    rcases Nat.eq_zero_or_pos t.2.1 with h | h
    · exact Or.inl h
    · exact Or.inr ⟨t.2.1 - 1, by omega⟩
  rcases hcase with h0 | ⟨m, hm1⟩
  · have z0 : nI t.2.1 = 0 := by rw [h0]; rfl
    have haf : aft (aTuck t) t st = (nU (nU t.1 14 6) 15 (st + 1), t.2) := by unfold aTuck; rw [if_pos h0]; rfl
    rw [haf] at hZ
    simp only [z160_0, z160_1, z160_4, z160_5, z160_8, z160_9, z160_12, z160_13, z160_15, e160, gIn_toInt, nI_toInt, Nat.reduceLT, Nat.reducePow, va_rf_none, va_rf_some, gObj_sI, gObj_sR, gAr_sI, gAr_sR, gLen_sI, gLen_sR, gsI_1, gsI_2, gsR_1, gsR_2, gU_ref, gU_null, gU_rf, gisRef_ref, gisRef_null, gisRef_rf, Option.toList_some, Option.toList_none, List.cons_append, List.nil_append, true_and, and_true, false_and, and_false, ↓reduceIte, if_true, if_false, Nat.reduceEqDiff, Nat.reduceAdd, Nat.reduceMul, Nat.reduceSub, Nat.reduceLeDiff, reduceCtorEq, not_true_eq_false, not_false_eq_true, true_imp_iff, false_imp_iff, zc_0, zc_1, zc_2, zc_3, zc_4, zc_5, zc_6, zc_8, zc_9, zc_10, zc_32, zc_36, zc_48, zc_64, zc_80, zc_120, zc_128, zc_248, zc_320, zc_400, zc_800, zc_1200, zc_2001, zc_4002, Int.reduceLT, Int.reduceLE, Int.reduceNeg, Nat.zero_ne_one, Nat.one_ne_zero, or_true, true_or, or_false, false_or, ti_0, ti_1, ti_2, ti_3, ti_4, ti_5, ti_6, ti_7, ti_8, ti_9, ti_10, ti_11, ti_12, ti_13, ti_14, ti_15, ti_16, ti_17, ti_18, ti_19, ti_20, ti_21, ti_22, ti_23, ti_24, ti_25, ti_26, ti_27, ti_28, ti_29, ti_30, ti_31, ti_32, ti_33, ti_34, ti_35, ti_36, ti_37, ti_38, ti_39, ti_40, ti_41, ti_42, ti_43, ti_44, ti_45, ti_46, ti_47, ti_48, ti_49, ti_50, ti_51, ti_52, ti_53, ti_54, ti_55, ti_56, ti_57, ti_58, ti_59, ti_60, ti_61, ti_62, ti_63, ti_64, ti_65, ti_66, ti_67, ti_68, ti_69, ti_70, ti_71, ti_72, ti_73, ti_74, ti_75, ti_76, ti_77, ti_78, ti_79, ti_80, ti_81, ti_82, ti_83, ti_84, ti_85, ti_86, ti_87, ti_88, ti_89, ti_90, ti_91, ti_92, ti_93, ti_94, ti_95, ti_96, ti_97, ti_98, ti_99, ti_100, ti_101, ti_102, ti_103, ti_104, ti_105, ti_106, ti_107, ti_108, ti_109, ti_110, ti_111, ti_112, ti_113, ti_114, ti_115, ti_116, ti_117, ti_118, ti_119, ti_120, ti_121, ti_122, ti_123, ti_124, ti_125, ti_126, ti_127, ti_128, ti_129, ti_200, ti_248, ti_255, ti_256, ti_400, ti_1000, ti_2000, ti_2001, ti_1000000, tj_1, tj_2, tj_8, tj_10, tj_1000, tc_0, tc_1, tc_2, tc_3, tc_4, tc_5, tc_6, tc_7, tc_8, i32_lt, i32_le, MR_sI, mo0 hm, ma1 hm, ml1 hm, ms1 hm, ma2 hm, ml2 hm, ms2 hm, ma3 hm, ml3 hm, ms3 hm, ma4 hm, ml4 hm, ms4 hm, ma5 hm, ml5 hm, ms5 hm, ma6 hm, ml6 hm, ms6 hm, ma7 hm, ml7 hm, ms7 hm, ma8 hm, ml8 hm, ms8 hm, ma9 hm, ml9 hm, ms9 hm, ma10 hm, ml10 hm, ms10 hm, ma11 hm, ml11 hm, ms11 hm, ma12 hm, ml12 hm, ms12 hm, ma13 hm, ml13 hm, ms13 hm, ma14 hm, ml14 hm, ms14 hm, ma15 hm, ml15 hm, ms15 hm, ma16 hm, ml16 hm, ms16 hm, ma17 hm, ml17 hm, ms17 hm, ma18 hm, ml18 hm, ms18 hm, ma19 hm, ml19 hm, ms19 hm, ma20 hm, ml20 hm, ms20 hm, ma21 hm, ml21 hm, ms21 hm, ma22 hm, ml22 hm, ms22 hm, ma23 hm, ml23 hm, ms23 hm, ma24 hm, ml24 hm, ms24 hm, ma25 hm, ml25 hm, ms25 hm, ma26 hm, ml26 hm, ms26 hm, ma27 hm, ml27 hm, ms27 hm, ma28 hm, ml28 hm, ms28 hm, ma29 hm, ml29 hm, ms29 hm, ma30 hm, ml30 hm, ms30 hm, ma31 hm, ml31 hm, ms31 hm, ma32 hm, ml32 hm, ms32 hm, ma33 hm, ml33 hm, ms33 hm, ma34 hm, ml34 hm, ms34 hm, ma35 hm, ml35 hm, ms35 hm, ma36 hm, ml36 hm, ms36 hm, ma37 hm, ml37 hm, ms37 hm, ma38 hm, ml38 hm, ms38 hm, ma39 hm, ml39 hm, ms39 hm, ma40 hm, ml40 hm, ms40 hm, ma41 hm, ml41 hm, ms41 hm, ma42 hm, ml42 hm, ms42 hm, ma43 hm, ml43 hm, ms43 hm, ma44 hm, ml44 hm, ms44 hm, ma45 hm, ml45 hm, ms45 hm, ma46 hm, ml46 hm, ms46 hm, ma47 hm, ml47 hm, ms47 hm, mr0_0 hm, mr0_5 hm, mr0_6 hm, mr0_7 hm, mr0_8 hm, mr0_9 hm, mr0_10 hm, mr0_11 hm, mr0_12 hm, mr0_17 hm, mr0_18 hm, mr0_19 hm, mr0_20 hm, mr0_21 hm, mr0_22 hm, mr0_23 hm, mr0_24 hm, mr0_25 hm, mr0_26 hm, mr0_27 hm, mr0_28 hm, mr0_29 hm, mr0_30 hm, mr0_31 hm, mr0_32 hm, mr0_33 hm, mr0_34 hm, mr0_35 hm, mr0_41 hm, mr0_42 hm, mr0_43 hm, mr0_45 hm, mr0_46 hm, mr0_55 hm, mr0_56 hm, mr0_57 hm, mr0_58 hm, mr0_59 hm, mr0_62 hm, mr0_63 hm, mr0_64 hm, mr0_65 hm, mr0_66 hm, mr0_67 hm, mr0_68 hm, mr0_69 hm, mr0_70 hm, c1, t1, t3, k1, q20, z0]
    refine m_breaks (d := d + 1) (v := 6) hm hc hst hd (fun M2 hf2 hd2 => ?_)
    simp only [z160_18, z160_64, gIn_toInt, nI_toInt, Nat.reduceLT, Nat.reducePow, va_rf_none, va_rf_some, gObj_sI, gObj_sR, gAr_sI, gAr_sR, gLen_sI, gLen_sR, gsI_1, gsI_2, gsR_1, gsR_2, gU_ref, gU_null, gU_rf, gisRef_ref, gisRef_null, gisRef_rf, Option.toList_some, Option.toList_none, List.cons_append, List.nil_append, true_and, and_true, false_and, and_false, ↓reduceIte, if_true, if_false, Nat.reduceEqDiff, Nat.reduceAdd, Nat.reduceMul, Nat.reduceSub, Nat.reduceLeDiff, reduceCtorEq, not_true_eq_false, not_false_eq_true, true_imp_iff, false_imp_iff, zc_0, zc_1, zc_2, zc_3, zc_4, zc_5, zc_6, zc_8, zc_9, zc_10, zc_32, zc_36, zc_48, zc_64, zc_80, zc_120, zc_128, zc_248, zc_320, zc_400, zc_800, zc_1200, zc_2001, zc_4002, Int.reduceLT, Int.reduceLE, Int.reduceNeg, Nat.zero_ne_one, Nat.one_ne_zero, or_true, true_or, or_false, false_or]
    exact hZ M2 hf2 hd2
  · have z0 : ¬ nI t.2.1 = 0 := nI_n0 (by omega) (by omega)
    have haf : aft (aTuck t) t st = (nU t.1 10 (t.1 10 + 1), t.2.1, fun k => if k = m then nU (t.2.2 k) 7 (t.2.2 k 7 + 1) else t.2.2 k) := by
      unfold aTuck; rw [if_neg (by omega), show t.2.1 - 1 = m by omega]; rfl
    rw [haf] at hZ
    obtain ⟨hq, hf⟩ := hl m (by omega)
    have ha := hact m (by omega)
    have q0 : M.1 10 (400 * w + m) = nI (t.2.2 m 0) := hf 0 (by decide)
    have e1 : (400 : Int32) * nI w + nI t.2.1 - 1 = nI (400 * w + m) := by rw [show (400 : Int32) = nI 400 from rfl, nI_mul, nI_add, hm1, show 400 * w + (m + 1) = 400 * w + m + 1 by omega, nI_s1]
    have t4 := nI_ti (show 400 * w + m ≤ 2000 by omega)
    have t5 := nI_tc (show 400 * w + m ≤ 2000 by omega)
    have k2 : 0 ≤ ((400 * w + m : Nat) : Int) ∧ ((400 * w + m : Nat) : Int) < 800 := by omega
    have e2 : (2001 : Int32) * nI w + nI (t.2.2 m 0) = nI (2001 * w + t.2.2 m 0) := by rw [show (2001 : Int32) = nI 2001 from rfl, nI_mul, nI_add]
    have t6 := nI_toInt (show 2001 * w + t.2.2 m 0 < 2 ^ 31 by omega)
    have t7 := nI_cl (show 2001 * w + t.2.2 m 0 < 2 ^ 31 by omega)
    have k3 : 0 ≤ ((2001 * w + t.2.2 m 0 : Nat) : Int) ∧ ((2001 * w + t.2.2 m 0 : Nat) : Int) < 4002 := by omega
    have q17 := hp.1 (t.2.2 m 0) ha
    have hfin := hZ (gsI M 17 (2001 * w + t.2.2 m 0) (nI (nPs t.2.2 (t.2.2 m 0) t.2.1 + 1))) (gFq_sI (Or.inr (Or.inl ⟨rfl, by omega, by omega⟩))) ?_
    · simp only [z160_0, z160_1, z160_4, z160_5, z160_8, z160_9, z160_21, z160_22, z160_25, z160_28, z160_29, z160_32, z160_33, z160_34, z160_37, z160_40, z160_41, z160_44, z160_45, z160_46, z160_49, z160_50, z160_53, z160_54, z160_55, z160_56, z160_57, z160_58, z160_59, z160_60, z160_61, z160_62, z160_63, z160_64, e160, gIn_toInt, nI_toInt, Nat.reduceLT, Nat.reducePow, va_rf_none, va_rf_some, gObj_sI, gObj_sR, gAr_sI, gAr_sR, gLen_sI, gLen_sR, gsI_1, gsI_2, gsR_1, gsR_2, gU_ref, gU_null, gU_rf, gisRef_ref, gisRef_null, gisRef_rf, Option.toList_some, Option.toList_none, List.cons_append, List.nil_append, true_and, and_true, false_and, and_false, ↓reduceIte, if_true, if_false, Nat.reduceEqDiff, Nat.reduceAdd, Nat.reduceMul, Nat.reduceSub, Nat.reduceLeDiff, reduceCtorEq, not_true_eq_false, not_false_eq_true, true_imp_iff, false_imp_iff, zc_0, zc_1, zc_2, zc_3, zc_4, zc_5, zc_6, zc_8, zc_9, zc_10, zc_32, zc_36, zc_48, zc_64, zc_80, zc_120, zc_128, zc_248, zc_320, zc_400, zc_800, zc_1200, zc_2001, zc_4002, Int.reduceLT, Int.reduceLE, Int.reduceNeg, Nat.zero_ne_one, Nat.one_ne_zero, or_true, true_or, or_false, false_or, ti_0, ti_1, ti_2, ti_3, ti_4, ti_5, ti_6, ti_7, ti_8, ti_9, ti_10, ti_11, ti_12, ti_13, ti_14, ti_15, ti_16, ti_17, ti_18, ti_19, ti_20, ti_21, ti_22, ti_23, ti_24, ti_25, ti_26, ti_27, ti_28, ti_29, ti_30, ti_31, ti_32, ti_33, ti_34, ti_35, ti_36, ti_37, ti_38, ti_39, ti_40, ti_41, ti_42, ti_43, ti_44, ti_45, ti_46, ti_47, ti_48, ti_49, ti_50, ti_51, ti_52, ti_53, ti_54, ti_55, ti_56, ti_57, ti_58, ti_59, ti_60, ti_61, ti_62, ti_63, ti_64, ti_65, ti_66, ti_67, ti_68, ti_69, ti_70, ti_71, ti_72, ti_73, ti_74, ti_75, ti_76, ti_77, ti_78, ti_79, ti_80, ti_81, ti_82, ti_83, ti_84, ti_85, ti_86, ti_87, ti_88, ti_89, ti_90, ti_91, ti_92, ti_93, ti_94, ti_95, ti_96, ti_97, ti_98, ti_99, ti_100, ti_101, ti_102, ti_103, ti_104, ti_105, ti_106, ti_107, ti_108, ti_109, ti_110, ti_111, ti_112, ti_113, ti_114, ti_115, ti_116, ti_117, ti_118, ti_119, ti_120, ti_121, ti_122, ti_123, ti_124, ti_125, ti_126, ti_127, ti_128, ti_129, ti_200, ti_248, ti_255, ti_256, ti_400, ti_1000, ti_2000, ti_2001, ti_1000000, tj_1, tj_2, tj_8, tj_10, tj_1000, tc_0, tc_1, tc_2, tc_3, tc_4, tc_5, tc_6, tc_7, tc_8, i32_lt, i32_le, MR_sI, mo0 hm, ma1 hm, ml1 hm, ms1 hm, ma2 hm, ml2 hm, ms2 hm, ma3 hm, ml3 hm, ms3 hm, ma4 hm, ml4 hm, ms4 hm, ma5 hm, ml5 hm, ms5 hm, ma6 hm, ml6 hm, ms6 hm, ma7 hm, ml7 hm, ms7 hm, ma8 hm, ml8 hm, ms8 hm, ma9 hm, ml9 hm, ms9 hm, ma10 hm, ml10 hm, ms10 hm, ma11 hm, ml11 hm, ms11 hm, ma12 hm, ml12 hm, ms12 hm, ma13 hm, ml13 hm, ms13 hm, ma14 hm, ml14 hm, ms14 hm, ma15 hm, ml15 hm, ms15 hm, ma16 hm, ml16 hm, ms16 hm, ma17 hm, ml17 hm, ms17 hm, ma18 hm, ml18 hm, ms18 hm, ma19 hm, ml19 hm, ms19 hm, ma20 hm, ml20 hm, ms20 hm, ma21 hm, ml21 hm, ms21 hm, ma22 hm, ml22 hm, ms22 hm, ma23 hm, ml23 hm, ms23 hm, ma24 hm, ml24 hm, ms24 hm, ma25 hm, ml25 hm, ms25 hm, ma26 hm, ml26 hm, ms26 hm, ma27 hm, ml27 hm, ms27 hm, ma28 hm, ml28 hm, ms28 hm, ma29 hm, ml29 hm, ms29 hm, ma30 hm, ml30 hm, ms30 hm, ma31 hm, ml31 hm, ms31 hm, ma32 hm, ml32 hm, ms32 hm, ma33 hm, ml33 hm, ms33 hm, ma34 hm, ml34 hm, ms34 hm, ma35 hm, ml35 hm, ms35 hm, ma36 hm, ml36 hm, ms36 hm, ma37 hm, ml37 hm, ms37 hm, ma38 hm, ml38 hm, ms38 hm, ma39 hm, ml39 hm, ms39 hm, ma40 hm, ml40 hm, ms40 hm, ma41 hm, ml41 hm, ms41 hm, ma42 hm, ml42 hm, ms42 hm, ma43 hm, ml43 hm, ms43 hm, ma44 hm, ml44 hm, ms44 hm, ma45 hm, ml45 hm, ms45 hm, ma46 hm, ml46 hm, ms46 hm, ma47 hm, ml47 hm, ms47 hm, mr0_0 hm, mr0_5 hm, mr0_6 hm, mr0_7 hm, mr0_8 hm, mr0_9 hm, mr0_10 hm, mr0_11 hm, mr0_12 hm, mr0_17 hm, mr0_18 hm, mr0_19 hm, mr0_20 hm, mr0_21 hm, mr0_22 hm, mr0_23 hm, mr0_24 hm, mr0_25 hm, mr0_26 hm, mr0_27 hm, mr0_28 hm, mr0_29 hm, mr0_30 hm, mr0_31 hm, mr0_32 hm, mr0_33 hm, mr0_34 hm, mr0_35 hm, mr0_41 hm, mr0_42 hm, mr0_43 hm, mr0_45 hm, mr0_46 hm, mr0_55 hm, mr0_56 hm, mr0_57 hm, mr0_58 hm, mr0_59 hm, mr0_62 hm, mr0_63 hm, mr0_64 hm, mr0_65 hm, mr0_66 hm, mr0_67 hm, mr0_68 hm, mr0_69 hm, mr0_70 hm, c1, t1, t3, k1, q20, z0, e1, t4, t5, k2, q0, e2, t6, t7, k3, q17, nI_1]
      exact hfin
    · have hlz : ∀ k f, f ≠ 7 → (if k = m then nU (t.2.2 k) 7 (t.2.2 k 7 + 1) else t.2.2 k) f = t.2.2 k f := fun k f hf => by
        split
        · unfold nU; rw [if_neg hf]
        · rfl
      refine ⟨mRg_sI (by omega) hr, ⟨⟨by rw [gsI_1, if_neg (by omega)]; exact q20, hn4⟩, fun k hk => ?_⟩, ?_⟩
      · obtain ⟨i1, i2⟩ := hl k hk
        refine ⟨?_, fun f hf => ?_⟩
        · show lOk (if k = m then nU (t.2.2 k) 7 (t.2.2 k 7 + 1) else t.2.2 k)
          obtain ⟨q0, q1, q2, q3, q4, q5, q6, q7⟩ := i1
          unfold lOk
          rw [hlz k 0 (by decide), hlz k 1 (by decide), hlz k 2 (by decide), hlz k 3 (by decide), hlz k 4 (by decide), hlz k 5 (by decide), hlz k 6 (by decide)]
          refine ⟨q0, q1, q2, q3, q4, q5, q6, ?_⟩
          have := h7 k hk
          split
          · show t.2.2 k 7 + 1 ≤ 2000; omega
          · exact q7
        · show _ = nI ((if k = m then nU (t.2.2 k) 7 (t.2.2 k 7 + 1) else t.2.2 k) f)
          rw [hlz k f (by omega), gsI_1, if_neg (by omega)]
          exact i2 f hf
      · show mPn _ w (t.1 9) t.2.1 (fun k => if k = m then nU (t.2.2 k) 7 (t.2.2 k 7 + 1) else t.2.2 k)
        have hps : ∀ a, nPs (fun k => if k = m then nU (t.2.2 k) 7 (t.2.2 k 7 + 1) else t.2.2 k) a t.2.1 = nPs t.2.2 a t.2.1 + if t.2.2 m 0 = a then 1 else 0 := by
          intro a
          rw [hm1, nPs, nPs, nPs_c (lz := t.2.2) (fun k hk => by simp only [if_neg (show ¬ k = m by omega)])]
          simp only [if_true]
          have e0 : nU (t.2.2 m) 7 (t.2.2 m 7 + 1) 0 = t.2.2 m 0 := rfl
          have e7 : nU (t.2.2 m) 7 (t.2.2 m 7 + 1) 7 = t.2.2 m 7 + 1 := rfl
          rw [e0, e7]
          split <;> omega
        refine ⟨fun a haa => ?_, fun k hk => ?_⟩
        · rw [hps a, gsI_1]
          by_cases hae : a = t.2.2 m 0
          · rw [if_pos ⟨rfl, by rw [hae]⟩, if_pos hae.symm, hae]
          · rw [if_neg (by omega), if_neg (fun z => hae z.symm), Nat.add_zero]
            exact hp.1 a haa
        · have h0k := hlz k 0 (by decide)
          simp only [] at h0k ⊢
          rw [h0k]
          have := hact k hk
          exact ⟨by omega, fun z => by omega⟩
end
