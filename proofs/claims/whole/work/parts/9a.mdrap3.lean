/-! The reference: a style is draped. -/
def dP (tx mk : Nat → Nat) (d n ba w bb : Nat) (g : Nat → Nat) (Z : Option Value → gM → Prop) (a1 a2 a3 a4 a5 a6 : Option Value) : nPS := fun m r a u b v D => cS tx mk m r a u b v D ∧ dRun d n ba w bb tx g Z a1 a2 a3 a4 a5 a6 r a b D
section
variable {d n a ba b w bb st dv r : Nat} {M M0 M1 M2 : gM} {Z : Option Value → gM → Prop} {x y v : Int32} {tx mk : Nat → Nat} {g : Nat → Nat} {s : nS} {t : nD} {nm : Nat → Int32} {P : Nat → Nat → Prop} {a1 a2 a3 a4 a5 a6 a7 a8 a9 : Option Value}
theorem dRow_eq {e : nEv} {D : nDn} {m o u v : Nat} (he : cE tx mk m o a u b v e) : ∃ as, (s.2.2.1 ≤ 1 → as ≤ 1) ∧ dRow e D g s = if eF e g s = 0 then (if isNm (eV e g s) then dRep (D g) (eV e g s).toInt.toNat (s.1, s.2.1 + 1, as, s.2.2.2) else brk 4 (ask as s)) else brk 5 (ask as s) := by
  refine ⟨(e (envOf g s) (0, s.2.2.1)).2.2, fun h => cE_as he _ _ h, ?_⟩
  have h2 : dRow e D g s = dE g e (fun v s => if isNm v then dRep (D g) v.toInt.toNat (s.1, s.2.1 + 1, s.2.2) else brk 4 s) s := rfl
  rw [h2]
  unfold dE
  rw [(eV_s he).1, (eV_s he).2]
  rfl
theorem dRow_bad {e : nEv} {D : nDn} {m o u v : Nat} (he : cE tx mk m o a u b v e) (h : eF e g s ≠ 0 ∨ ¬ isNm (eV e g s)) : (dRow e D g s).2.2.2 = (nU (nU s.2.2.2.1 14 (if eF e g s = 0 then 4 else 5)) 15 (s.2.1 + 1), s.2.2.2.2) := by
  obtain ⟨as, -, h1⟩ := dRow_eq (D := D) (s := s) (g := g) he
  rw [h1]
  by_cases hz : eF e g s = 0
  · have h2 : ¬ isNm (eV e g s) := by
      rcases h with h | h
      · exact absurd hz h
      · exact h
    rw [if_pos hz, if_pos hz, if_neg h2]
    rfl
  · rw [if_neg hz, if_neg hz]
    rfl
theorem m_lpRow (ht : tOk tx n) {u u2 c v : Nat} {e : nEv} {D : nDn} (hr3 : r < 3) (h91 : tx a = 91) (he : cX tx mk (a + 1) u b u2 e) (h58 : tx b = 58) (hc : tx c = 93) (hD : cS tx mk 1 (r + 1) (b + 1) (u2 + 2) c v D) (hbd : dBnd (dStep (dRow e D)))
    (hP : dRun d n ba w bb tx g Z a1 a2 a3 a4 a5 a6 (r + 1) (b + 1) c D) : dRun d n ba w bb tx g Z a1 a2 a3 a4 a5 a6 r a (c + 1) (dStep (dRow e D)) := by
  intro hr s M hH hi hac K1 K2 l7 l8 l9
  obtain ⟨hm, hT, hs, h50, h44, has⟩ := id hH
  have hlc := tx_lt (a := c) ht (by omega)
  have hlb := tx_lt (a := b) ht (by omega)
  have hkD := cS_keep hD
  refine m_lpStep hm ht hT (by omega) hs hi h44 (fun hge M2 hf2 hd2 => ?_) (fun hlt => ?_)
  · rw [dStep_ge hge] at K2
    exact K2 (by rw [brk_14]; decide) M2 (gFq_wk hf2 (fun _ _ => inT_W)) hd2
  · have hbd2 := hbd g s has (by rw [hi.2.2.2.2.2]; decide)
    have hkp2 := dRow_keep (e := e) hkD g s hi
    rw [dStep_lt hlt] at K1 K2 hbd2 hkp2
    obtain ⟨i1, i2, i3, i4, i5, i6⟩ := id hi
    have hna : ¬ cNam (tx a) := by unfold cNam; omega
    refine m_stepE hm ht hs i1 (by omega) hT (by unfold cPln; omega) (by omega) (a1 := a + 1) (by rw [if_neg hna]) (cE_n0 he.1) he (fun M2 hf2 hT2 h49 => ?_)
    have hs2 := mSd_frK hf2 (by omega) hs
    have hm2 := gFq_M hf2 hm
    rw [show (e (envOf g (s.1, 0, 0, s.2.2.2)) (0, 0)).2.1 = eF e g s from rfl] at h49
    rw [show (e (envOf g (s.1, 0, 0, s.2.2.2)) (0, 0)).1 = eV e g s from rfl]
    have hdv : eF e g s ≤ 1 := (cE_dv he.1 (envOf g s) (0, 0) (by decide)).1
    have h44' : M2.1 0 44 = nI r := by rw [hf2.2 0 44 (by unfold inK; omega)]; exact h44
    have h502 : M2.1 0 50 = nI (s.2.2.2.1 11) := by rw [hf2.2 0 50 (by unfold inK; omega)]; exact h50
    have hk02 : mKp r M M2 := fun i hi => ⟨hf2.2 30 i (by unfold inK; omega), hf2.2 31 i (by unfold inK; omega)⟩
    have hbad := fun h => dRow_bad (D := D) (s := s) (g := g) he.1 h
    obtain ⟨as, has1, hrow⟩ := dRow_eq (D := D) (s := s) (g := g) he.1
    rw [h91, show nI 91 = 91 from rfl]
    simp only [z163_53, z163_54, i32_eq, gIn_toInt, nI_toInt, Nat.reduceLT, Nat.reducePow, va_rf_none, va_rf_some, gObj_sI, gObj_sR, gAr_sI, gAr_sR, gLen_sI, gLen_sR, gsI_1, gsI_2, gsR_1, gsR_2, gU_ref, gU_null, gU_rf, gisRef_ref, gisRef_null, gisRef_rf, Option.toList_some, Option.toList_none, List.cons_append, List.nil_append, true_and, and_true, false_and, and_false, ↓reduceIte, if_true, if_false, Nat.reduceEqDiff, Nat.reduceAdd, Nat.reduceMul, Nat.reduceSub, Nat.reduceLeDiff, reduceCtorEq, not_true_eq_false, not_false_eq_true, true_imp_iff, false_imp_iff, zc_0, zc_1, zc_2, zc_3, zc_4, zc_5, zc_6, zc_8, zc_9, zc_10, zc_32, zc_36, zc_48, zc_64, zc_80, zc_120, zc_128, zc_248, zc_320, zc_400, zc_800, zc_1200, zc_2001, zc_4002, Int.reduceLT, Int.reduceLE, Int.reduceNeg, Nat.zero_ne_one, Nat.one_ne_zero, or_true, true_or, or_false, false_or, ti_0, ti_1, ti_2, ti_3, ti_4, ti_5, ti_6, ti_7, ti_8, ti_9, ti_10, ti_11, ti_12, ti_13, ti_14, ti_15, ti_16, ti_17, ti_18, ti_19, ti_20, ti_21, ti_22, ti_23, ti_24, ti_25, ti_26, ti_27, ti_28, ti_29, ti_30, ti_31, ti_32, ti_33, ti_34, ti_35, ti_36, ti_37, ti_38, ti_39, ti_40, ti_41, ti_42, ti_43, ti_44, ti_45, ti_46, ti_47, ti_48, ti_49, ti_50, ti_51, ti_52, ti_53, ti_54, ti_55, ti_56, ti_57, ti_58, ti_59, ti_60, ti_61, ti_62, ti_63, ti_64, ti_65, ti_66, ti_67, ti_68, ti_69, ti_70, ti_71, ti_72, ti_73, ti_74, ti_75, ti_76, ti_77, ti_78, ti_79, ti_80, ti_81, ti_82, ti_83, ti_84, ti_85, ti_86, ti_87, ti_88, ti_89, ti_90, ti_91, ti_92, ti_93, ti_94, ti_95, ti_96, ti_97, ti_98, ti_99, ti_100, ti_101, ti_102, ti_103, ti_104, ti_105, ti_106, ti_107, ti_108, ti_109, ti_110, ti_111, ti_112, ti_113, ti_114, ti_115, ti_116, ti_117, ti_118, ti_119, ti_120, ti_121, ti_122, ti_123, ti_124, ti_125, ti_126, ti_127, ti_128, ti_129, ti_200, ti_248, ti_255, ti_256, ti_400, ti_1000, ti_2000, ti_2001, ti_1000000, tj_1, tj_2, tj_8, tj_10, tj_1000, tc_0, tc_1, tc_2, tc_3, tc_4, tc_5, tc_6, tc_7, tc_8, i32_lt, i32_le, Int.reduceEq]
    simp only [z163_300, z163_301, z163_302, gIn_toInt, nI_toInt, Nat.reduceLT, Nat.reducePow, va_rf_none, va_rf_some, gObj_sI, gObj_sR, gAr_sI, gAr_sR, gLen_sI, gLen_sR, gsI_1, gsI_2, gsR_1, gsR_2, gU_ref, gU_null, gU_rf, gisRef_ref, gisRef_null, gisRef_rf, Option.toList_some, Option.toList_none, List.cons_append, List.nil_append, true_and, and_true, false_and, and_false, ↓reduceIte, if_true, if_false, Nat.reduceEqDiff, Nat.reduceAdd, Nat.reduceMul, Nat.reduceSub, Nat.reduceLeDiff, reduceCtorEq, not_true_eq_false, not_false_eq_true, true_imp_iff, false_imp_iff, zc_0, zc_1, zc_2, zc_3, zc_4, zc_5, zc_6, zc_8, zc_9, zc_10, zc_32, zc_36, zc_48, zc_64, zc_80, zc_120, zc_128, zc_248, zc_320, zc_400, zc_800, zc_1200, zc_2001, zc_4002, Int.reduceLT, Int.reduceLE, Int.reduceNeg, Nat.zero_ne_one, Nat.one_ne_zero, or_true, true_or, or_false, false_or, MR_sI, mo0 hm2, ma1 hm2, ml1 hm2, ms1 hm2, ma2 hm2, ml2 hm2, ms2 hm2, ma3 hm2, ml3 hm2, ms3 hm2, ma4 hm2, ml4 hm2, ms4 hm2, ma5 hm2, ml5 hm2, ms5 hm2, ma6 hm2, ml6 hm2, ms6 hm2, ma7 hm2, ml7 hm2, ms7 hm2, ma8 hm2, ml8 hm2, ms8 hm2, ma9 hm2, ml9 hm2, ms9 hm2, ma10 hm2, ml10 hm2, ms10 hm2, ma11 hm2, ml11 hm2, ms11 hm2, ma12 hm2, ml12 hm2, ms12 hm2, ma13 hm2, ml13 hm2, ms13 hm2, ma14 hm2, ml14 hm2, ms14 hm2, ma15 hm2, ml15 hm2, ms15 hm2, ma16 hm2, ml16 hm2, ms16 hm2, ma17 hm2, ml17 hm2, ms17 hm2, ma18 hm2, ml18 hm2, ms18 hm2, ma19 hm2, ml19 hm2, ms19 hm2, ma20 hm2, ml20 hm2, ms20 hm2, ma21 hm2, ml21 hm2, ms21 hm2, ma22 hm2, ml22 hm2, ms22 hm2, ma23 hm2, ml23 hm2, ms23 hm2, ma24 hm2, ml24 hm2, ms24 hm2, ma25 hm2, ml25 hm2, ms25 hm2, ma26 hm2, ml26 hm2, ms26 hm2, ma27 hm2, ml27 hm2, ms27 hm2, ma28 hm2, ml28 hm2, ms28 hm2, ma29 hm2, ml29 hm2, ms29 hm2, ma30 hm2, ml30 hm2, ms30 hm2, ma31 hm2, ml31 hm2, ms31 hm2, ma32 hm2, ml32 hm2, ms32 hm2, ma33 hm2, ml33 hm2, ms33 hm2, ma34 hm2, ml34 hm2, ms34 hm2, ma35 hm2, ml35 hm2, ms35 hm2, ma36 hm2, ml36 hm2, ms36 hm2, ma37 hm2, ml37 hm2, ms37 hm2, ma38 hm2, ml38 hm2, ms38 hm2, ma39 hm2, ml39 hm2, ms39 hm2, ma40 hm2, ml40 hm2, ms40 hm2, ma41 hm2, ml41 hm2, ms41 hm2, ma42 hm2, ml42 hm2, ms42 hm2, ma43 hm2, ml43 hm2, ms43 hm2, ma44 hm2, ml44 hm2, ms44 hm2, ma45 hm2, ml45 hm2, ms45 hm2, ma46 hm2, ml46 hm2, ms46 hm2, ma47 hm2, ml47 hm2, ms47 hm2, mr0_0 hm2, mr0_5 hm2, mr0_6 hm2, mr0_7 hm2, mr0_8 hm2, mr0_9 hm2, mr0_10 hm2, mr0_11 hm2, mr0_12 hm2, mr0_17 hm2, mr0_18 hm2, mr0_19 hm2, mr0_20 hm2, mr0_21 hm2, mr0_22 hm2, mr0_23 hm2, mr0_24 hm2, mr0_25 hm2, mr0_26 hm2, mr0_27 hm2, mr0_28 hm2, mr0_29 hm2, mr0_30 hm2, mr0_31 hm2, mr0_32 hm2, mr0_33 hm2, mr0_34 hm2, mr0_35 hm2, mr0_41 hm2, mr0_42 hm2, mr0_43 hm2, mr0_45 hm2, mr0_46 hm2, mr0_55 hm2, mr0_56 hm2, mr0_57 hm2, mr0_58 hm2, mr0_59 hm2, mr0_62 hm2, mr0_63 hm2, mr0_64 hm2, mr0_65 hm2, mr0_66 hm2, mr0_67 hm2, mr0_68 hm2, mr0_69 hm2, mr0_70 hm2]
    refine m_opens (d := d + 1) hm2 ht hs2 (by omega) hT2 hlb h49 hdv h44' hr3 hD hc (fun h M3 hf3 hd3 hs3 => ?_) (fun h0 hx0 M3 hf3 hT3 => ?_) (fun h0 hnm hx0 M3 hf3 hT3 hs3 h30 h31 h443 hk3 h503 => ?_)
    · have hm3 := gFq_M hf3 hm2
      have hb2 := hbad h
      simp only [z163_305, z163_333, gIn_toInt, nI_toInt, Nat.reduceLT, Nat.reducePow, va_rf_none, va_rf_some, gObj_sI, gObj_sR, gAr_sI, gAr_sR, gLen_sI, gLen_sR, gsI_1, gsI_2, gsR_1, gsR_2, gU_ref, gU_null, gU_rf, gisRef_ref, gisRef_null, gisRef_rf, Option.toList_some, Option.toList_none, List.cons_append, List.nil_append, true_and, and_true, false_and, and_false, ↓reduceIte, if_true, if_false, Nat.reduceEqDiff, Nat.reduceAdd, Nat.reduceMul, Nat.reduceSub, Nat.reduceLeDiff, reduceCtorEq, not_true_eq_false, not_false_eq_true, true_imp_iff, false_imp_iff, zc_0, zc_1, zc_2, zc_3, zc_4, zc_5, zc_6, zc_8, zc_9, zc_10, zc_32, zc_36, zc_48, zc_64, zc_80, zc_120, zc_128, zc_248, zc_320, zc_400, zc_800, zc_1200, zc_2001, zc_4002, Int.reduceLT, Int.reduceLE, Int.reduceNeg, Nat.zero_ne_one, Nat.one_ne_zero, or_true, true_or, or_false, false_or]
      rw [m_lpBad hm3 hs3.1 hd3 (by show (if eF e g s = 0 then 4 else 5) ≠ 0; split <;> decide) (by show (if eF e g s = 0 then 4 else 5) ≤ 6; split <;> decide)]
      refine K2 ?_ M3 (gFq_tr (gFq_wk hf2 (fun _ _ => inT_K)) hf3) (by rw [hb2]; exact hd3)
      rw [hb2]
      show (if eF e g s = 0 then 4 else 5) ≠ 0
      split <;> decide
    · have hrow2 : dRow e D g s = (s.1, s.2.1 + 1, as, s.2.2.2) := by
        rw [hrow, if_pos h0, hx0, if_pos (by decide)]
        rfl
      rw [hrow2] at K1 hbd2
      have hm3 := gFq_M hf3 hm2
      have hs3 := mSd_13 (by omega) hf3 hs2
      have h443 : M3.1 0 44 = nI r := by rw [hf3.2 0 44 (by unfold i13; omega)]; exact h44'
      have h503 : M3.1 0 50 = nI (s.2.2.2.1 11) := by rw [hf3.2 0 50 (by unfold i13; omega)]; exact h502
      simp only [z163_305, z163_333, gIn_toInt, nI_toInt, Nat.reduceLT, Nat.reducePow, va_rf_none, va_rf_some, gObj_sI, gObj_sR, gAr_sI, gAr_sR, gLen_sI, gLen_sR, gsI_1, gsI_2, gsR_1, gsR_2, gU_ref, gU_null, gU_rf, gisRef_ref, gisRef_null, gisRef_rf, Option.toList_some, Option.toList_none, List.cons_append, List.nil_append, true_and, and_true, false_and, and_false, ↓reduceIte, if_true, if_false, Nat.reduceEqDiff, Nat.reduceAdd, Nat.reduceMul, Nat.reduceSub, Nat.reduceLeDiff, reduceCtorEq, not_true_eq_false, not_false_eq_true, true_imp_iff, false_imp_iff, zc_0, zc_1, zc_2, zc_3, zc_4, zc_5, zc_6, zc_8, zc_9, zc_10, zc_32, zc_36, zc_48, zc_64, zc_80, zc_120, zc_128, zc_248, zc_320, zc_400, zc_800, zc_1200, zc_2001, zc_4002, Int.reduceLT, Int.reduceLE, Int.reduceNeg, Nat.zero_ne_one, Nat.one_ne_zero, or_true, true_or, or_false, false_or]
      refine m_lpGood (P := True) (Q := False) (r' := r) hm3 hs3 i6 (by omega) h503 hac.2 h443 (by omega) (by omega) (fun _ M4 hf4 ho h0' hs4 h504 => ?_) (fun _ z => absurd rfl z)
      refine K1 i6 M4 (gFq_tr (gFq_wk (gFq_tr hf2 (gFq_wk hf3 (fun o k z => Or.inl ⟨z.1, Or.inl z.2⟩))) (fun _ _ => inT_K)) hf4) ⟨gFq_M hf4 hm3, ?_, hs4, by rw [h504, if_neg (fun z => z)], by rw [h0' 44 (by decide) (by decide)]; exact h443, hbd2.1⟩ (mKp_tr hk02 (mKp_tr (fun i hi => ⟨hf3.2 30 i (by unfold i13; omega), hf3.2 31 i (by unfold i13; omega)⟩) (fun i _ => ⟨ho 30 i (by decide), ho 31 i (by decide)⟩))) _ _ _
      unfold mTx
      rw [h0' 14 (by decide) (by decide), h0' 16 (by decide) (by decide), h0' 13 (by decide) (by decide)]
      exact ⟨hT3.1, hT3.2.1, fun k hk => by rw [ho 7 _ (by decide)]; exact hT3.2.2.1 k hk, hT3.2.2.2⟩
    · obtain ⟨m, hm200, hxm, hxn⟩ := isNm_nI hnm
      have hm0 : m ≠ 0 := fun z => hx0 (by rw [hxm, z]; rfl)
      have hrow2 : dRow e D g s = dRep (D g) (m - 1 + 1) (s.1, s.2.1 + 1, as, s.2.2.2) := by
        rw [hrow, if_pos h0, if_pos hnm, hxn, show m - 1 + 1 = m by omega]
      have hi2 : nInv (s.1, s.2.1 + 1, as, s.2.2.2) := ⟨i1, Nat.le_succ_of_le i2, Nat.le_succ_of_le i3, i4, hlt, i6⟩
      have has2 : as ≤ 1 := has1 has
      have hm3 := gFq_M hf3 hm2
      simp only [z163_305, z163_333, gIn_toInt, nI_toInt, Nat.reduceLT, Nat.reducePow, va_rf_none, va_rf_some, gObj_sI, gObj_sR, gAr_sI, gAr_sR, gLen_sI, gLen_sR, gsI_1, gsI_2, gsR_1, gsR_2, gU_ref, gU_null, gU_rf, gisRef_ref, gisRef_null, gisRef_rf, Option.toList_some, Option.toList_none, List.cons_append, List.nil_append, true_and, and_true, false_and, and_false, ↓reduceIte, if_true, if_false, Nat.reduceEqDiff, Nat.reduceAdd, Nat.reduceMul, Nat.reduceSub, Nat.reduceLeDiff, reduceCtorEq, not_true_eq_false, not_false_eq_true, true_imp_iff, false_imp_iff, zc_0, zc_1, zc_2, zc_3, zc_4, zc_5, zc_6, zc_8, zc_9, zc_10, zc_32, zc_36, zc_48, zc_64, zc_80, zc_120, zc_128, zc_248, zc_320, zc_400, zc_800, zc_1200, zc_2001, zc_4002, Int.reduceLT, Int.reduceLE, Int.reduceNeg, Nat.zero_ne_one, Nat.one_ne_zero, or_true, true_or, or_false, false_or]
      rw [hrow2] at K1 K2
      refine m_lpGood (P := True) (Q := False) (r' := r + 1) hm3 hs3 i6 (by omega) (h503.trans h502) hac.2 h443 (by omega) (by omega) (fun z => absurd (z trivial) (by omega)) (fun _ _ M4 hf4 ho h0' hs4 h504 => ?_)
      have hf24 : gFq (inT w) M M4 := gFq_tr (gFq_wk hf2 (fun _ _ => inT_K)) (gFq_tr hf3 hf4)
      have hkt : mKp r M M4 := mKp_tr hk02 (mKp_tr hk3 (fun i _ => ⟨ho 30 i (by decide), ho 31 i (by decide)⟩))
      refine m_turns ht hkD (cS_ac hD) (cS_bnd hD) hr3 hc (by omega) hP (m - 1) (s.1, s.2.1 + 1, as, s.2.2.2) M4 ⟨gFq_M hf4 hm3, ?_, hs4, by rw [h504, if_neg (fun z => z)], by rw [h0' 44 (by decide) (by decide)]; exact h443, has2⟩ hi2 hac (by rw [ho 30 r (by decide)]; exact h30) (by rw [ho 31 r (by decide), h31, hxm, show m - 1 + 1 = m by omega]) (by omega) (fun q M5 hf5 hH5 hk5 => K1 q M5 (gFq_tr hf24 hf5) hH5 (mKp_tr hkt hk5)) (fun q M5 hf5 hd5 => K2 q M5 (gFq_tr hf24 hf5) hd5) _ _ _
      unfold mTx
      rw [h0' 14 (by decide) (by decide), h0' 16 (by decide) (by decide), h0' 13 (by decide) (by decide)]
      exact ⟨hT3.1, hT3.2.1, fun k hk => by rw [ho 7 _ (by decide)]; exact hT3.2.2.1 k hk, hT3.2.2.2⟩
end
