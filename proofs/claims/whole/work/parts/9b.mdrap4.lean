/-! The reference: drapes. -/
section
variable {d n a ba b w bb st dv r : Nat} {M M0 M1 M2 : gM} {Z : Option Value → gM → Prop} {x y v : Int32} {tx mk : Nat → Nat} {g : Nat → Nat} {s : nS} {t : nD} {nm : Nat → Int32} {P : Nat → Nat → Prop} {a1 a2 a3 a4 a5 a6 a7 a8 a9 : Option Value}
theorem and_dep {A B : Prop} (ha : A) (hb : A → B) : A ∧ B := ⟨ha, hb ha⟩
theorem dP_cl (ht : tOk tx n) : cScl tx mk (dP tx mk d n ba w bb g Z a1 a2 a3 a4 a5 a6) := by
  refine ⟨fun r a u h1 h2 h3 => ?_, fun r a u b v e h1 h2 h3 h4 => ?_, fun r a u b v e c w f h1 h2 h3 h4 h5 h6 => ?_, fun r a u b v e h1 h2 h3 h4 h5 => ?_, fun r a u b v e c w D h1 h2 h3 h4 h5 h6 h7 h8 h9 h10 => ?_, fun r a u b v D h => ?_, fun r a u b v D c w E h1 h2 h3 => ?_⟩
  · have hcs : cS tx mk 0 r a u (a + 1) (u + 2) (dStep (dPlain (tx a))) := fun P hP => hP.1 r a u h1 h2 h3
    refine ⟨hcs, m_lpSimple ht (by unfold cPln at h1; omega) (by unfold cPln at h1; omega) dPlain_keep (cS_bnd hcs) (fun s M hH hi hac hst Z' hZ => m_stepPln hH.1 ht hH.2.2.1 hi hst hac hH.2.1 h1 hZ) (fun s h14 _ => ?_)⟩
    rw [dPlain_eq] at h14 ⊢
    rw [if_neg (by unfold cPln at h1; omega)]
    exact fin_11 h14 (fun _ => rPlain_h)
  · have hcs : cS tx mk 0 r a u b (v + 1) (dStep (dNum (tx a) e)) := fun P hP => hP.2.1 r a u b v e h1 h2 h3 h4
    refine ⟨hcs, m_lpSimple ht (by unfold cAct at h1; omega) (by unfold cAct at h1; omega) dNum_keep (cS_bnd hcs) (fun s M hH hi hac hst Z' hZ => m_stepNum hH.1 ht hH.2.2.1 hi hst hH.2.1 h1 (cE_n0 h3.1) h3 hZ) (fun s h14 _ => ?_)⟩
    obtain ⟨q1, q2⟩ := dE_ok h14
    rw [show dNum (tx a) e g s = _ from q2] at h14 ⊢
    exact fin_11 h14 (fun h0 => rNum_h h0 h1)
  · have hcs : cS tx mk 0 r a u c (w + 1) (dStep (dPleat e f)) := fun P hP => hP.2.2.1 r a u b v e c w f h1 h2 h3 h4 h5 h6
    refine ⟨hcs, m_lpSimple ht (by omega) (by omega) dPleat_keep (cS_bnd hcs) (fun s M hH hi hac hst Z' hZ => m_stepPle hH.1 ht hH.2.2.1 hi hst hH.2.1 h1 (cE_n0 h3.1) h3 h4 h5 hZ) (fun s h14 _ => ?_)⟩
    obtain ⟨q1, q2⟩ := dE_ok h14
    rw [show dPleat e f g s = _ from q2] at h14 ⊢
    obtain ⟨q3, q4⟩ := dE_ok h14
    rw [q4] at h14 ⊢
    rw [if_neg (by omega)]
    exact fin_11 h14 (fun _ => aPleat_h)
  · have hcs : cS tx mk 0 r a u b (v + 1) (dStep (dName (tx a) e)) := fun P hP => hP.2.2.2.1 r a u b v e h1 h2 h3 h4 h5
    refine ⟨hcs, m_lpSimple ht (by unfold cNam at h1; omega) (by unfold cNam at h1; omega) dName_keep (cS_bnd hcs) (fun s M hH hi hac hst Z' hZ => m_stepNam hH.1 ht hH.2.2.1 hi hst hH.2.1 h1 (by omega) h4 hZ) (fun s h14 _ => ?_)⟩
    obtain ⟨q1, q2⟩ := dE_ok h14
    rw [show dName (tx a) e g s = _ from q2]
    rw [if_neg (by unfold cNam at h1; omega)]
    exact ⟨rfl, rfl⟩
  · have hcs : cS tx mk 0 r a u (c + 1) (w + 1) (dStep (dRow e D)) := fun P hP => hP.2.2.2.2.1 r a u b v e c w D h1 h2 h3 h4 h5 h6 h7 (h8.1 P hP) h9 h10
    exact ⟨hcs, m_lpRow ht h1 h2 h4 h5 h9 h8.1 (cS_bnd hcs) h8.2⟩
  · exact ⟨fun P hP => hP.2.2.2.2.2.1 r a u b v D (h.1 P hP), h.2⟩
  · have hcs : cS tx mk 1 r a u c w (dSeq D E) := fun P hP => hP.2.2.2.2.2.2 r a u b v D c w E (h1.1 P hP) h2 (h3.1 P hP)
    refine ⟨hcs, fun hr s M hH hi hac K1 K2 l7 l8 l9 => ?_⟩
    have hlb := tx_lt (a := b) ht (by omega)
    refine h1.2 hr s M hH hi hac (fun h14 M2 hf2 hH2 hk2 l7 l8 l9 => ?_) (fun h14 => ?_) l7 l8 l9
    · have e1 : dSeq D E g s = E g (D g s) := by unfold dSeq; rw [if_pos h14]
      rw [e1] at K1 K2
      obtain ⟨hm2, hT2, hs2, h502, h442, has2⟩ := hH2
      obtain ⟨hi2, -⟩ := cS_keep h1.1 g s hi h14
      have h9 : (D g s).2.2.2.1 9 ≤ 2001 := by have := hi2.2.1; have := hi2.2.2.2.2.1; omega
      have hf13 : gFq i13 M2 (gsI M2 0 13 (nI (b + 1))) := gFq_sI ⟨rfl, rfl⟩
      have hft := gFq_tr hf2 (gFq_wk (Q := inT _) hf13 (fun o k z => inT_K (Or.inl ⟨z.1, Or.inl z.2⟩)))
      have hkt : mKp r M (gsI M2 0 13 (nI (b + 1))) := mKp_tr hk2 (fun i _ => ⟨hf13.2 30 i (by unfold i13; omega), hf13.2 31 i (by unfold i13; omega)⟩)
      rw [m_go59 (d := d + 3) hm2 ht hT2 h2]
      simp only [z165_336, gIn_toInt, nI_toInt, Nat.reduceLT, Nat.reducePow, va_rf_none, va_rf_some, gObj_sI, gObj_sR, gAr_sI, gAr_sR, gLen_sI, gLen_sR, gsI_1, gsI_2, gsR_1, gsR_2, gU_ref, gU_null, gU_rf, gisRef_ref, gisRef_null, gisRef_rf, Option.toList_some, Option.toList_none, List.cons_append, List.nil_append, true_and, and_true, false_and, and_false, ↓reduceIte, if_true, if_false, Nat.reduceEqDiff, Nat.reduceAdd, Nat.reduceMul, Nat.reduceSub, Nat.reduceLeDiff, reduceCtorEq, not_true_eq_false, not_false_eq_true, true_imp_iff, false_imp_iff, zc_0, zc_1, zc_2, zc_3, zc_4, zc_5, zc_6, zc_8, zc_9, zc_10, zc_32, zc_36, zc_48, zc_64, zc_80, zc_120, zc_128, zc_248, zc_320, zc_400, zc_800, zc_1200, zc_2001, zc_4002, Int.reduceLT, Int.reduceLE, Int.reduceNeg, Nat.zero_ne_one, Nat.one_ne_zero, or_true, true_or, or_false, false_or]
      exact h3.2 hr (D g s) _ ⟨gFq_M hf13 hm2, mTx_at hT2 (show b + 1 ≤ n by omega), mSd_13 h9 hf13 hs2, by rw [hf13.2 0 50 (by unfold i13; omega)]; exact h502, by rw [hf13.2 0 44 (by unfold i13; omega)]; exact h442, has2⟩ hi2 (cS_ac h1.1 g s hac) (fun q M3 hf3 hH3 hk3 => K1 q M3 (gFq_tr hft hf3) hH3 (mKp_tr hkt hk3)) (fun q M3 hf3 hd3 => K2 q M3 (gFq_tr hft hf3) hd3) l7 l8 l9
    · have e1 : dSeq D E g s = D g s := by unfold dSeq; rw [if_neg h14]
      rw [e1] at K2
      exact K2 h14
/-- what a draping may write -/
def inU (w o k : Nat) : Prop := inT w o k ∨ (o = 0 ∧ (k = 14 ∨ k = 16 ∨ k = 36 ∨ k = 37 ∨ k = 38 ∨ k = 39))
theorem m_drapes (hm : MR M) (ht : tOk tx n) {j len h : Nat} (hj : j < 10) (hsz : M.1 8 j = nI n) (htx : ∀ k, k < n → M.1 7 (120 * j + k) &&& 255 = nI (tx k)) (hb : bb < 6) (hw : w < 2) (hwd : ∀ r, r < 8 → M.1 2 (8 * bb + r) = nI (g r) ∧ g r ≤ 9) (hlen : len ≤ 400) (hh : 1 ≤ h ∧ h ≤ 4) {N : Nat} {D : nDn} (hW : cS tx mk 1 0 0 0 n N D)
    (hZ : ∀ M2, gFq (inU w) M M2 → mDr M2 w (D g (nNm x, 0, 0, nBeg len h)).2.2.2 → ((D g (nNm x, 0, 0, nBeg len h)).2.2.2.1 14 = 0 → M2.1 0 50 = nI ((D g (nNm x, 0, 0, nBeg len h)).2.2.2.1 11)) → Z none M2) :
    Call (d + 6) 165 [.ref 0, .int (nI j), .int (nI bb), .int (nI len), .int (nI h), .int x, .int (nI w)] M Z := by
  have t1 := nI_ti (show w ≤ 2000 by omega)
  have t3 := nI_tc (show w ≤ 2000 by omega)
  have k2 : 0 ≤ (w : Int) ∧ (w : Int) < 2 := by omega
  have t4 := nI_ti (show j ≤ 2000 by omega)
  have t5 := nI_tc (show j ≤ 2000 by omega)
  have k3 : 0 ≤ (j : Int) ∧ (j : Int) < 10 := by omega
  have e1 : (120 : Int32) * nI j = nI (120 * j) := by rw [show (120 : Int32) = nI 120 from rfl, nI_mul]
  have i0 : (0 : Int) ≤ 0 ∧ (0 : Int) < 3 := by decide
  have i1 : (0 : Int) ≤ 1 ∧ (1 : Int) < 3 := by decide
  have i2 : (0 : Int) ≤ 2 ∧ (2 : Int) < 3 := by decide
  have hinv : nInv (nNm x, 0, 0, nBeg len h) := by
    refine ⟨⟨hlen, ⟨hh.1, hh.2⟩, Nat.zero_le _, ?_, ?_, ?_, ?_, ?_, ?_, ?_, trivial⟩, Nat.le_refl 0, Nat.le_refl 0, fun k hk => absurd hk (Nat.not_lt_zero k), Nat.zero_le _, rfl⟩
    · show 0 + h ≤ 8; omega
    · show 0 < 8; omega
    · show 0 ≤ 1; omega
    · show 0 ≤ 1; omega
    · show 0 ≤ 1000000; omega
    · show 0 ≤ 2000; omega
    · show 0 ≤ 8; omega
  have hact : nAct (nBeg len h) := ⟨fun k hk => absurd hk (Nat.not_lt_zero k), Nat.zero_le 1⟩
  have hrun : ∀ M1, gFq (inU w) M M1 → mHd M1 tx g n (120 * j) w bb 0 (nNm x, 0, 0, nBeg len h) 0 → Run (d + 5) 165 192 [some (.ref 0), some (.int (nI j)), some (.int (nI bb)), some (.int (nI len)), some (.int (nI h)), some (.int x), some (.int (nI w)), none, none, none] [] M1 0 0 Z := by
    intro M1 hf1 hH1
    refine (hW _ (dP_cl (d := d) (ba := 120 * j) (w := w) (bb := bb) (g := g) (Z := Z) ht)).2 (by decide) _ M1 hH1 hinv hact (fun h14 M2 hf2 hH2 hk2 l7 l8 l9 => ?_) (fun h14 M2 hf2 hd2 => hZ M2 (gFq_tr hf1 (gFq_wk hf2 (fun _ _ => Or.inl))) hd2 (fun z => absurd z h14)) none none none
    obtain ⟨hm2, hT2, hs2, h502, h442, has2⟩ := hH2
    have hfin := hZ M2 (gFq_tr hf1 (gFq_wk hf2 (fun _ _ => Or.inl))) hs2.2.1 (fun _ => h502)
    rw [m_goEnd (d := d + 3) hm2 ht hT2]
    obtain ⟨h1, ⟨h2, h3⟩, h4, ⟨h5, h6⟩⟩ := hT2
    have hn := ht.1
    have u1 := nI_ti (show n ≤ 2000 by omega)
    have u2 : (n : Int) ≤ (n : Int) := Int.le_refl _
    simp only [z165_336, gIn_toInt, nI_toInt, Nat.reduceLT, Nat.reducePow, va_rf_none, va_rf_some, gObj_sI, gObj_sR, gAr_sI, gAr_sR, gLen_sI, gLen_sR, gsI_1, gsI_2, gsR_1, gsR_2, gU_ref, gU_null, gU_rf, gisRef_ref, gisRef_null, gisRef_rf, Option.toList_some, Option.toList_none, List.cons_append, List.nil_append, true_and, and_true, false_and, and_false, ↓reduceIte, if_true, if_false, Nat.reduceEqDiff, Nat.reduceAdd, Nat.reduceMul, Nat.reduceSub, Nat.reduceLeDiff, reduceCtorEq, not_true_eq_false, not_false_eq_true, true_imp_iff, false_imp_iff, zc_0, zc_1, zc_2, zc_3, zc_4, zc_5, zc_6, zc_8, zc_9, zc_10, zc_32, zc_36, zc_48, zc_64, zc_80, zc_120, zc_128, zc_248, zc_320, zc_400, zc_800, zc_1200, zc_2001, zc_4002, Int.reduceLT, Int.reduceLE, Int.reduceNeg, Nat.zero_ne_one, Nat.one_ne_zero, or_true, true_or, or_false, false_or]
    simp only [z165_192, z165_193, z165_196, z165_197, z165_200, z165_339, gIn_toInt, nI_toInt, Nat.reduceLT, Nat.reducePow, va_rf_none, va_rf_some, gObj_sI, gObj_sR, gAr_sI, gAr_sR, gLen_sI, gLen_sR, gsI_1, gsI_2, gsR_1, gsR_2, gU_ref, gU_null, gU_rf, gisRef_ref, gisRef_null, gisRef_rf, Option.toList_some, Option.toList_none, List.cons_append, List.nil_append, true_and, and_true, false_and, and_false, ↓reduceIte, if_true, if_false, Nat.reduceEqDiff, Nat.reduceAdd, Nat.reduceMul, Nat.reduceSub, Nat.reduceLeDiff, reduceCtorEq, not_true_eq_false, not_false_eq_true, true_imp_iff, false_imp_iff, zc_0, zc_1, zc_2, zc_3, zc_4, zc_5, zc_6, zc_8, zc_9, zc_10, zc_32, zc_36, zc_48, zc_64, zc_80, zc_120, zc_128, zc_248, zc_320, zc_400, zc_800, zc_1200, zc_2001, zc_4002, Int.reduceLT, Int.reduceLE, Int.reduceNeg, Nat.zero_ne_one, Nat.one_ne_zero, or_true, true_or, or_false, false_or, ti_0, ti_1, ti_2, ti_3, ti_4, ti_5, ti_6, ti_7, ti_8, ti_9, ti_10, ti_11, ti_12, ti_13, ti_14, ti_15, ti_16, ti_17, ti_18, ti_19, ti_20, ti_21, ti_22, ti_23, ti_24, ti_25, ti_26, ti_27, ti_28, ti_29, ti_30, ti_31, ti_32, ti_33, ti_34, ti_35, ti_36, ti_37, ti_38, ti_39, ti_40, ti_41, ti_42, ti_43, ti_44, ti_45, ti_46, ti_47, ti_48, ti_49, ti_50, ti_51, ti_52, ti_53, ti_54, ti_55, ti_56, ti_57, ti_58, ti_59, ti_60, ti_61, ti_62, ti_63, ti_64, ti_65, ti_66, ti_67, ti_68, ti_69, ti_70, ti_71, ti_72, ti_73, ti_74, ti_75, ti_76, ti_77, ti_78, ti_79, ti_80, ti_81, ti_82, ti_83, ti_84, ti_85, ti_86, ti_87, ti_88, ti_89, ti_90, ti_91, ti_92, ti_93, ti_94, ti_95, ti_96, ti_97, ti_98, ti_99, ti_100, ti_101, ti_102, ti_103, ti_104, ti_105, ti_106, ti_107, ti_108, ti_109, ti_110, ti_111, ti_112, ti_113, ti_114, ti_115, ti_116, ti_117, ti_118, ti_119, ti_120, ti_121, ti_122, ti_123, ti_124, ti_125, ti_126, ti_127, ti_128, ti_129, ti_200, ti_248, ti_255, ti_256, ti_400, ti_1000, ti_2000, ti_2001, ti_1000000, tj_1, tj_2, tj_8, tj_10, tj_1000, tc_0, tc_1, tc_2, tc_3, tc_4, tc_5, tc_6, tc_7, tc_8, i32_lt, i32_le, MR_sI, mo0 hm2, ma1 hm2, ml1 hm2, ms1 hm2, ma2 hm2, ml2 hm2, ms2 hm2, ma3 hm2, ml3 hm2, ms3 hm2, ma4 hm2, ml4 hm2, ms4 hm2, ma5 hm2, ml5 hm2, ms5 hm2, ma6 hm2, ml6 hm2, ms6 hm2, ma7 hm2, ml7 hm2, ms7 hm2, ma8 hm2, ml8 hm2, ms8 hm2, ma9 hm2, ml9 hm2, ms9 hm2, ma10 hm2, ml10 hm2, ms10 hm2, ma11 hm2, ml11 hm2, ms11 hm2, ma12 hm2, ml12 hm2, ms12 hm2, ma13 hm2, ml13 hm2, ms13 hm2, ma14 hm2, ml14 hm2, ms14 hm2, ma15 hm2, ml15 hm2, ms15 hm2, ma16 hm2, ml16 hm2, ms16 hm2, ma17 hm2, ml17 hm2, ms17 hm2, ma18 hm2, ml18 hm2, ms18 hm2, ma19 hm2, ml19 hm2, ms19 hm2, ma20 hm2, ml20 hm2, ms20 hm2, ma21 hm2, ml21 hm2, ms21 hm2, ma22 hm2, ml22 hm2, ms22 hm2, ma23 hm2, ml23 hm2, ms23 hm2, ma24 hm2, ml24 hm2, ms24 hm2, ma25 hm2, ml25 hm2, ms25 hm2, ma26 hm2, ml26 hm2, ms26 hm2, ma27 hm2, ml27 hm2, ms27 hm2, ma28 hm2, ml28 hm2, ms28 hm2, ma29 hm2, ml29 hm2, ms29 hm2, ma30 hm2, ml30 hm2, ms30 hm2, ma31 hm2, ml31 hm2, ms31 hm2, ma32 hm2, ml32 hm2, ms32 hm2, ma33 hm2, ml33 hm2, ms33 hm2, ma34 hm2, ml34 hm2, ms34 hm2, ma35 hm2, ml35 hm2, ms35 hm2, ma36 hm2, ml36 hm2, ms36 hm2, ma37 hm2, ml37 hm2, ms37 hm2, ma38 hm2, ml38 hm2, ms38 hm2, ma39 hm2, ml39 hm2, ms39 hm2, ma40 hm2, ml40 hm2, ms40 hm2, ma41 hm2, ml41 hm2, ms41 hm2, ma42 hm2, ml42 hm2, ms42 hm2, ma43 hm2, ml43 hm2, ms43 hm2, ma44 hm2, ml44 hm2, ms44 hm2, ma45 hm2, ml45 hm2, ms45 hm2, ma46 hm2, ml46 hm2, ms46 hm2, ma47 hm2, ml47 hm2, ms47 hm2, mr0_0 hm2, mr0_5 hm2, mr0_6 hm2, mr0_7 hm2, mr0_8 hm2, mr0_9 hm2, mr0_10 hm2, mr0_11 hm2, mr0_12 hm2, mr0_17 hm2, mr0_18 hm2, mr0_19 hm2, mr0_20 hm2, mr0_21 hm2, mr0_22 hm2, mr0_23 hm2, mr0_24 hm2, mr0_25 hm2, mr0_26 hm2, mr0_27 hm2, mr0_28 hm2, mr0_29 hm2, mr0_30 hm2, mr0_31 hm2, mr0_32 hm2, mr0_33 hm2, mr0_34 hm2, mr0_35 hm2, mr0_41 hm2, mr0_42 hm2, mr0_43 hm2, mr0_45 hm2, mr0_46 hm2, mr0_55 hm2, mr0_56 hm2, mr0_57 hm2, mr0_58 hm2, mr0_59 hm2, mr0_62 hm2, mr0_63 hm2, mr0_64 hm2, mr0_65 hm2, mr0_66 hm2, mr0_67 hm2, mr0_68 hm2, mr0_69 hm2, mr0_70 hm2, h5, h1, u1, u2]
    exact hfin
  simp only [z165_0, z165_1, z165_3, z165_6, z165_7, z165_8, z165_11, z165_12, z165_13, z165_16, z165_17, z165_19, z165_22, z165_23, z165_25, z165_26, z165_27, z165_30, z165_31, z165_32, z165_35, z165_36, z165_37, z165_40, z165_41, z165_42, z165_45, z165_46, z165_47, z165_50, z165_51, z165_52, z165_55, z165_56, z165_59, z165_60, z165_63, z165_64, z165_65, z165_66, z165_69, z165_70, z165_73, z165_74, z165_75, z165_76, z165_79, z165_80, z165_83, z165_84, z165_85, z165_86, z165_89, z165_90, z165_93, z165_94, z165_95, z165_96, z165_99, z165_100, z165_103, z165_104, z165_105, z165_106, z165_109, z165_110, z165_113, z165_114, z165_115, z165_116, z165_119, z165_120, z165_123, z165_124, z165_125, z165_126, z165_129, z165_130, z165_133, z165_134, z165_135, z165_136, z165_139, z165_140, z165_143, z165_144, z165_145, z165_146, z165_149, z165_150, z165_153, z165_154, z165_155, z165_156, z165_159, z165_160, z165_163, z165_164, z165_165, z165_166, z165_167, z165_170, z165_171, z165_174, z165_175, z165_176, z165_177, z165_178, z165_181, z165_182, z165_183, z165_184, z165_185, z165_188, z165_189, z165_191, e165, gIn_toInt, nI_toInt, Nat.reduceLT, Nat.reducePow, va_rf_none, va_rf_some, gObj_sI, gObj_sR, gAr_sI, gAr_sR, gLen_sI, gLen_sR, gsI_1, gsI_2, gsR_1, gsR_2, gU_ref, gU_null, gU_rf, gisRef_ref, gisRef_null, gisRef_rf, Option.toList_some, Option.toList_none, List.cons_append, List.nil_append, true_and, and_true, false_and, and_false, ↓reduceIte, if_true, if_false, Nat.reduceEqDiff, Nat.reduceAdd, Nat.reduceMul, Nat.reduceSub, Nat.reduceLeDiff, reduceCtorEq, not_true_eq_false, not_false_eq_true, true_imp_iff, false_imp_iff, zc_0, zc_1, zc_2, zc_3, zc_4, zc_5, zc_6, zc_8, zc_9, zc_10, zc_32, zc_36, zc_48, zc_64, zc_80, zc_120, zc_128, zc_248, zc_320, zc_400, zc_800, zc_1200, zc_2001, zc_4002, Int.reduceLT, Int.reduceLE, Int.reduceNeg, Nat.zero_ne_one, Nat.one_ne_zero, or_true, true_or, or_false, false_or, ti_0, ti_1, ti_2, ti_3, ti_4, ti_5, ti_6, ti_7, ti_8, ti_9, ti_10, ti_11, ti_12, ti_13, ti_14, ti_15, ti_16, ti_17, ti_18, ti_19, ti_20, ti_21, ti_22, ti_23, ti_24, ti_25, ti_26, ti_27, ti_28, ti_29, ti_30, ti_31, ti_32, ti_33, ti_34, ti_35, ti_36, ti_37, ti_38, ti_39, ti_40, ti_41, ti_42, ti_43, ti_44, ti_45, ti_46, ti_47, ti_48, ti_49, ti_50, ti_51, ti_52, ti_53, ti_54, ti_55, ti_56, ti_57, ti_58, ti_59, ti_60, ti_61, ti_62, ti_63, ti_64, ti_65, ti_66, ti_67, ti_68, ti_69, ti_70, ti_71, ti_72, ti_73, ti_74, ti_75, ti_76, ti_77, ti_78, ti_79, ti_80, ti_81, ti_82, ti_83, ti_84, ti_85, ti_86, ti_87, ti_88, ti_89, ti_90, ti_91, ti_92, ti_93, ti_94, ti_95, ti_96, ti_97, ti_98, ti_99, ti_100, ti_101, ti_102, ti_103, ti_104, ti_105, ti_106, ti_107, ti_108, ti_109, ti_110, ti_111, ti_112, ti_113, ti_114, ti_115, ti_116, ti_117, ti_118, ti_119, ti_120, ti_121, ti_122, ti_123, ti_124, ti_125, ti_126, ti_127, ti_128, ti_129, ti_200, ti_248, ti_255, ti_256, ti_400, ti_1000, ti_2000, ti_2001, ti_1000000, tj_1, tj_2, tj_8, tj_10, tj_1000, tc_0, tc_1, tc_2, tc_3, tc_4, tc_5, tc_6, tc_7, tc_8, i32_lt, i32_le, MR_sI, mo0 hm, ma1 hm, ml1 hm, ms1 hm, ma2 hm, ml2 hm, ms2 hm, ma3 hm, ml3 hm, ms3 hm, ma4 hm, ml4 hm, ms4 hm, ma5 hm, ml5 hm, ms5 hm, ma6 hm, ml6 hm, ms6 hm, ma7 hm, ml7 hm, ms7 hm, ma8 hm, ml8 hm, ms8 hm, ma9 hm, ml9 hm, ms9 hm, ma10 hm, ml10 hm, ms10 hm, ma11 hm, ml11 hm, ms11 hm, ma12 hm, ml12 hm, ms12 hm, ma13 hm, ml13 hm, ms13 hm, ma14 hm, ml14 hm, ms14 hm, ma15 hm, ml15 hm, ms15 hm, ma16 hm, ml16 hm, ms16 hm, ma17 hm, ml17 hm, ms17 hm, ma18 hm, ml18 hm, ms18 hm, ma19 hm, ml19 hm, ms19 hm, ma20 hm, ml20 hm, ms20 hm, ma21 hm, ml21 hm, ms21 hm, ma22 hm, ml22 hm, ms22 hm, ma23 hm, ml23 hm, ms23 hm, ma24 hm, ml24 hm, ms24 hm, ma25 hm, ml25 hm, ms25 hm, ma26 hm, ml26 hm, ms26 hm, ma27 hm, ml27 hm, ms27 hm, ma28 hm, ml28 hm, ms28 hm, ma29 hm, ml29 hm, ms29 hm, ma30 hm, ml30 hm, ms30 hm, ma31 hm, ml31 hm, ms31 hm, ma32 hm, ml32 hm, ms32 hm, ma33 hm, ml33 hm, ms33 hm, ma34 hm, ml34 hm, ms34 hm, ma35 hm, ml35 hm, ms35 hm, ma36 hm, ml36 hm, ms36 hm, ma37 hm, ml37 hm, ms37 hm, ma38 hm, ml38 hm, ms38 hm, ma39 hm, ml39 hm, ms39 hm, ma40 hm, ml40 hm, ms40 hm, ma41 hm, ml41 hm, ms41 hm, ma42 hm, ml42 hm, ms42 hm, ma43 hm, ml43 hm, ms43 hm, ma44 hm, ml44 hm, ms44 hm, ma45 hm, ml45 hm, ms45 hm, ma46 hm, ml46 hm, ms46 hm, ma47 hm, ml47 hm, ms47 hm, mr0_0 hm, mr0_5 hm, mr0_6 hm, mr0_7 hm, mr0_8 hm, mr0_9 hm, mr0_10 hm, mr0_11 hm, mr0_12 hm, mr0_17 hm, mr0_18 hm, mr0_19 hm, mr0_20 hm, mr0_21 hm, mr0_22 hm, mr0_23 hm, mr0_24 hm, mr0_25 hm, mr0_26 hm, mr0_27 hm, mr0_28 hm, mr0_29 hm, mr0_30 hm, mr0_31 hm, mr0_32 hm, mr0_33 hm, mr0_34 hm, mr0_35 hm, mr0_41 hm, mr0_42 hm, mr0_43 hm, mr0_45 hm, mr0_46 hm, mr0_55 hm, mr0_56 hm, mr0_57 hm, mr0_58 hm, mr0_59 hm, mr0_62 hm, mr0_63 hm, mr0_64 hm, mr0_65 hm, mr0_66 hm, mr0_67 hm, mr0_68 hm, mr0_69 hm, mr0_70 hm, t1, t3, k2, t4, t5, k3, e1, i0, i1, i2, hsz]
  have hfr : ∀ M2 : gM, M2.2 = M.2 → (∀ o k, ¬ inU w o k → M2.1 o k = M.1 o k) → gFq (inU w) M M2 := fun M2 h1 h2 => ⟨h1, h2⟩
  have hrun' := fun M1 (hq : gFq (inU w) M M1 ∧ mHd M1 tx g n (120 * j) w bb 0 (nNm x, 0, 0, nBeg len h) 0) => hrun M1 hq.1 hq.2
  refine hrun' _ ?_
  refine and_dep (hfr _ rfl (fun o k hk => by
    have hk2 : ¬ (o = 29) ∧ ¬ (o = 0 ∧ (k = 13 ∨ k = 14 ∨ k = 16 ∨ k = 36 ∨ k = 37 ∨ k = 38 ∨ k = 39 ∨ k = 40 ∨ k = 44 ∨ k = 50)) ∧ ¬ (18 ≤ o ∧ o ≤ 28 ∧ k = w) := by unfold inU inT inS inW inK at hk; omega
    clear hk
    simp only [gsI_1]
    repeat (rw [if_neg (by omega)]))) (fun hf => ⟨gFq_M hf hm, ⟨?_, ⟨?_, by omega⟩, fun k hk => ?_, ⟨?_, Nat.zero_le _⟩⟩, ⟨⟨⟨?_, hw⟩, ⟨?_, hb⟩, fun r hr => ⟨?_, (hwd r hr).2⟩⟩, ⟨⟨⟨?_, ?_⟩, ?_, ?_, ?_, ?_, ?_, ?_, ?_, ?_, ?_, ?_⟩, ⟨⟨?_, Nat.zero_le _⟩, fun k hk => absurd hk (Nat.not_lt_zero k)⟩, fun k hk => absurd hk (Nat.not_lt_zero k), fun k hk => absurd hk (Nat.not_lt_zero k)⟩, fun k hk => ?_, ?_⟩, ?_, ?_, Nat.zero_le _⟩)
  · simp [gsI_1]
  · simp [gsI_1]
  · rw [show ∀ M2 : gM, M2.1 7 (120 * j + k) = M2.1 7 (120 * j + k) from fun _ => rfl]
    simp [gsI_1]
    exact htx k hk
  · simp [gsI_1]; rfl
  · simp [gsI_1]
  · simp [gsI_1]
  · simp [gsI_1]
    exact (hwd r hr).1
  · simp [gsI_1, nBeg]
  · simp [gsI_1, nBeg]
  · simp [gsI_1, nBeg]; rfl
  · simp [gsI_1, nBeg]; rfl
  · simp [gsI_1, nBeg]; rfl
  · simp [gsI_1, nBeg]; rfl
  · simp [gsI_1, nBeg]; rfl
  · simp [gsI_1, nBeg]; rfl
  · simp [gsI_1, nBeg]; rfl
  · simp [gsI_1, nBeg]
  · simp [gsI_1, nBeg]; rfl
  · simp [gsI_1, nBeg]; rfl
  · simp [gsI_1, nBeg]; rfl
  · have h3 : k = 0 ∨ k = 1 ∨ k = 2 := by omega
    rcases h3 with rfl | rfl | rfl <;> simp [gsI_1, nNm]
  · simp [gsI_1]; rfl
  · simp [gsI_1, nBeg]; rfl
  · simp [gsI_1]; rfl
end
