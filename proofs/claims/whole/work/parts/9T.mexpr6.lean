/-! The reference: sum. -/
def sP (tx : Nat → Nat) (en : Nat → Int32) (d n ba : Nat) (M0 : gM) (Z : Option Value → gM → Prop) : nPE := fun m o a _ b _ e => m ≤ 2 ∧
  (∀ dv p q, (e en (dv, p)).1 = (e en (dv, q)).1 ∧ (e en (dv, p)).2.1 = (e en (dv, q)).2.1) ∧
  (o ≤ 8 → ∀ (vs : List Int32) (ss : List Nat) (dv : Nat) (M : gM) (a4 a5 : Option Value), gFq inK M0 M → mTx M tx n ba a → mSk M vs ss dv → vs.length + m ≤ 3 * o + 2 → ss.length + m ≤ 3 * o + 2 → (∀ q l, ss = q :: l → (m = 1 → bnd q < 2) ∧ (m = 2 → bnd q < 1)) →
    (∀ (pend : List Nat) (vs2 : List Int32) (dv2 : Nat) (M2 : gM) (b4 b5 : Option Value), gFq inK M0 M2 → mTx M2 tx n ba b → mSk M2 vs2 (pend ++ ss) dv2 → wkR pend (vs2, dv2) ((e en (dv, 0)).1 :: vs, (e en (dv, 0)).2.1) → (∀ p, p ∈ pend → 1 ≤ bnd p ∧ (m ≤ 1 → 2 ≤ bnd p)) → (m = 0 → pend = []) →
      Run (d + 3) 148 16 [some (.ref 0), some (.int 0), some (.int 1), some (.int (nI o)), b4, b5] [] M2 0 0 Z) →
    Run (d + 3) 148 16 [some (.ref 0), some (.int 1), some (.int 1), some (.int (nI o)), a4, a5] [] M 0 0 Z)
section
variable {d n a ba b o dv : Nat} {M0 M M1 M2 : gM} {Z : Option Value → gM → Prop} {x y v : Int32} {tx mk : Nat → Nat} {en : Nat → Int32}
theorem evO_ind {c : Nat} {e f : nEv} (he : ∀ dv p q, (e en (dv, p)).1 = (e en (dv, q)).1 ∧ (e en (dv, p)).2.1 = (e en (dv, q)).2.1) (hf : ∀ dv p q, (f en (dv, p)).1 = (f en (dv, q)).1 ∧ (f en (dv, p)).2.1 = (f en (dv, q)).2.1) (dv p q : Nat) :
    (evO c e f en (dv, p)).1 = opV c (e en (dv, q)).1 (f en ((e en (dv, q)).2.1, 0)).1 ∧ (evO c e f en (dv, p)).2.1 = if c = 47 ∧ (f en ((e en (dv, q)).2.1, 0)).1 = 0 then 1 else (f en ((e en (dv, q)).2.1, 0)).2.1 := by
  have h1 := he dv p q
  have h2 := hf (e en (dv, q)).2.1 (e en (dv, p)).2.2 0
  have h3 : (f en (e en (dv, p)).2) = f en ((e en (dv, q)).2.1, (e en (dv, p)).2.2) := by rw [← h1.2]
  constructor
  · show opV c (e en (dv, p)).1 (f en (e en (dv, p)).2).1 = _
    rw [h3, h2.1, h1.1]
  · show (if c = 47 ∧ (f en (e en (dv, p)).2).1 = 0 then 1 else (f en (e en (dv, p)).2).2.1) = _
    rw [h3, h2.1, h2.2]
theorem evO_ind2 {c : Nat} {e f : nEv} (he : ∀ dv p q, (e en (dv, p)).1 = (e en (dv, q)).1 ∧ (e en (dv, p)).2.1 = (e en (dv, q)).2.1) (hf : ∀ dv p q, (f en (dv, p)).1 = (f en (dv, q)).1 ∧ (f en (dv, p)).2.1 = (f en (dv, q)).2.1) (dv p q : Nat) :
    (evO c e f en (dv, p)).1 = (evO c e f en (dv, q)).1 ∧ (evO c e f en (dv, p)).2.1 = (evO c e f en (dv, q)).2.1 := by
  rw [(evO_ind he hf dv p 0).1, (evO_ind he hf dv p 0).2, (evO_ind he hf dv q 0).1, (evO_ind he hf dv q 0).2]
  exact ⟨rfl, rfl⟩
theorem sP_cl (hm0 : MR M0) (ht : tOk tx n) (hval : ∀ M, gFq inK M0 M → ∀ c, cVal c → ∀ Z, Call (d + 3) 145 [.ref 0, .int (nI c)] M Z ↔ Z (some (.int (en c))) M) : cEcl tx mk (sP tx en d n ba M0 Z) := by
  refine ⟨fun o a u k h1 h2 h3 h4 h5 => ?_, fun o a u h1 h2 => ?_, fun o a u b v e h1 h2 h3 h4 => ?_, fun o a u b v e h => ?_, fun o a u b v e c w f h1 h2 h3 h4 => ?_, fun o a u b v e h => ?_, fun o a u b v e c w f h1 h2 h3 h4 => ?_⟩
  · refine ⟨by decide, fun _ _ _ => ⟨rfl, rfl⟩, fun ho vs ss dv M a4 a5 hf hT hs hl1 hl2 hq hK => ?_⟩
    exact m_sDig (gFq_M hf hm0) ht hT hs (by omega) h1 h2 h3 h4 (fun M2 b4 b5 hf2 hT2 hs2 => hK [] _ _ M2 b4 b5 (gFq_tr hf hf2) hT2 hs2 rfl (fun p hp => by cases hp) (fun _ => rfl))
  · refine ⟨by decide, fun _ _ _ => ⟨rfl, rfl⟩, fun ho vs ss dv M a4 a5 hf hT hs hl1 hl2 hq hK => ?_⟩
    exact m_sVal (gFq_M hf hm0) ht hT hs (by omega) h1 (hval M hf _ h1) (fun M2 b4 b5 hf2 hT2 hs2 => hK [] _ _ M2 b4 b5 (gFq_tr hf hf2) hT2 hs2 rfl (fun p hp => by cases hp) (fun _ => rfl))
  · obtain ⟨-, hi, h5⟩ := h3
    refine ⟨by decide, hi, fun ho vs ss dv M a4 a5 hf hT hs hl1 hl2 hq hK => ?_⟩
    refine m_s40 (gFq_M hf hm0) ht hT hs (by omega) h2 (fun M2 b4 b5 hf2 hT2 hs2 => ?_)
    refine h5 (by omega) vs (40 :: ss) dv M2 b4 b5 (gFq_tr hf hf2) hT2 hs2 (by omega) (by simp only [List.length_cons]; omega) (fun q l hql => ?_) (fun pend vs3 dv3 M3 c4 c5 hf3 hT3 hs3 hw3 hp3 _ => ?_)
    · cases hql
      rw [bnd_40]
      exact ⟨fun _ => by decide, fun _ => by decide⟩
    · exact m_s41 (gFq_M hf3 hm0) ht hT3 hs3 h4 (by omega) hw3 (fun M4 d4 d5 hf4 hT4 hs4 => hK [] _ _ M4 d4 d5 (gFq_tr hf3 hf4) hT4 hs4 rfl (fun p hp => by cases hp) (fun _ => rfl))
  · obtain ⟨-, hi, h5⟩ := h
    refine ⟨by decide, hi, fun ho vs ss dv M a4 a5 hf hT hs hl1 hl2 hq hK => ?_⟩
    refine h5 ho vs ss dv M a4 a5 hf hT hs (by omega) (by omega) (fun q l hql => ⟨fun z => absurd z (by decide), fun z => absurd z (by decide)⟩) (fun pend vs3 dv3 M3 c4 c5 hf3 hT3 hs3 hw3 hp3 h0 => ?_)
    exact hK pend vs3 dv3 M3 c4 c5 hf3 hT3 hs3 hw3 (fun p hp => by rw [h0 rfl] at hp; cases hp) (fun z => absurd z (by decide))
  · obtain ⟨-, hi, h5⟩ := h1
    obtain ⟨-, hj, h6⟩ := h3
    refine ⟨by decide, evO_ind2 hi hj, fun ho vs ss dv M a4 a5 hf hT hs hl1 hl2 hq hK => ?_⟩
    refine h5 ho vs ss dv M a4 a5 hf hT hs (by omega) (by omega) hq (fun pend vs3 dv3 M3 c4 c5 hf3 hT3 hs3 hw3 hp3 _ => ?_)
    refine m_sSgn (gFq_M hf3 hm0) ht hT3 hs3 (Or.inl h2) (by omega) hw3 (fun p hp => by rw [bnd_tim h2]; exact (hp3 p hp).2 (by decide)) (fun q l hql => by rw [bnd_tim h2]; exact (hq q l hql).1 rfl) (fun M4 d4 d5 hf4 hT4 hs4 => ?_)
    refine h6 ho _ _ _ M4 d4 d5 (gFq_tr hf3 hf4) hT4 hs4 (by simp only [List.length_cons]; omega) (by simp only [List.length_cons]; omega) (fun q l hql => ⟨fun z => absurd z (by decide), fun z => absurd z (by decide)⟩) (fun pend5 vs5 dv5 M5 e4 e5 hf5 hT5 hs5 hw5 hp5 h0 => ?_)
    have h0 := h0 rfl
    subst h0
    cases hw5
    have hev := evO_ind (c := tx b) hi hj dv 0 0
    refine hK [tx b] _ _ M5 e4 e5 hf5 hT5 hs5 ⟨Or.inl h2, _, _, _, rfl, ?_⟩ (fun p hp => ?_) (fun z => absurd z (by decide))
    · rw [hev.1, hev.2]; rfl
    · rw [List.mem_singleton] at hp
      subst hp
      rw [bnd_tim h2]
      exact ⟨by decide, fun _ => by decide⟩
  · obtain ⟨-, hi, h5⟩ := h
    refine ⟨by decide, hi, fun ho vs ss dv M a4 a5 hf hT hs hl1 hl2 hq hK => ?_⟩
    refine h5 ho vs ss dv M a4 a5 hf hT hs (by omega) (by omega) (fun q l hql => ⟨fun _ => Nat.lt_succ_of_lt ((hq q l hql).2 rfl), fun z => absurd z (by decide)⟩) (fun pend vs3 dv3 M3 c4 c5 hf3 hT3 hs3 hw3 hp3 h0 => ?_)
    exact hK pend vs3 dv3 M3 c4 c5 hf3 hT3 hs3 hw3 (fun p hp => ⟨(hp3 p hp).1, fun z => absurd z (by decide)⟩) (fun z => absurd z (by decide))
  · obtain ⟨-, hi, h5⟩ := h1
    obtain ⟨-, hj, h6⟩ := h3
    refine ⟨by decide, evO_ind2 hi hj, fun ho vs ss dv M a4 a5 hf hT hs hl1 hl2 hq hK => ?_⟩
    refine h5 ho vs ss dv M a4 a5 hf hT hs (by omega) (by omega) hq (fun pend vs3 dv3 M3 c4 c5 hf3 hT3 hs3 hw3 hp3 _ => ?_)
    refine m_sSgn (gFq_M hf3 hm0) ht hT3 hs3 (Or.inr h2) (by omega) hw3 (fun p hp => by rw [bnd_plu h2]; exact (hp3 p hp).1) (fun q l hql => by rw [bnd_plu h2]; exact (hq q l hql).2 rfl) (fun M4 d4 d5 hf4 hT4 hs4 => ?_)
    refine h6 ho _ _ _ M4 d4 d5 (gFq_tr hf3 hf4) hT4 hs4 (by simp only [List.length_cons]; omega) (by simp only [List.length_cons]; omega) (fun q l hql => ?_) (fun pend5 vs5 dv5 M5 e4 e5 hf5 hT5 hs5 hw5 hp5 _ => ?_)
    · cases hql
      rw [bnd_plu h2]
      exact ⟨fun _ => by decide, fun z => absurd z (by decide)⟩
    · have hev := evO_ind (c := tx b) hi hj dv 0 0
      refine hK (pend5 ++ [tx b]) _ _ M5 e4 e5 hf5 hT5 (by rw [List.append_assoc]; exact hs5) (wkR_app hw5 ⟨Or.inr h2, _, _, _, rfl, ?_⟩) (fun p hp => ?_) (fun z => absurd z (by decide))
      · rw [hev.1, hev.2]; rfl
      · rw [List.mem_append, List.mem_singleton] at hp
        refine ⟨?_, fun z => absurd z (by decide)⟩
        rcases hp with hp | hp
        · exact (hp5 p hp).1
        · subst hp
          rw [bnd_plu h2]
          exact Nat.le_refl _
theorem m_sum {w bb : Nat} {g : Nat → Nat} {t : nD} {nm : Nat → Int32} {u v : Nat} {e : nEv} (hm : MR M) (ht : tOk tx n) (hc : mCx M w bb g) (hd : mDr M w t) (hk : nOk t) (h9 : t.1 9 ≤ 2001) (hn : ∀ k, k < 3 → M.1 29 k = nm k) (hT : mTx M tx n ba a) (h49 : M.1 0 49 = nI dv) (he : cX tx mk a u b v e)
    (hK : ∀ M2, gFq inK M M2 → mTx M2 tx n ba b → M2.1 0 49 = nI (e (envOf g (nm, 0, 0, t)) (dv, 0)).2.1 → Z (some (.int (e (envOf g (nm, 0, 0, t)) (dv, 0)).1)) M2) : Call (d + 4) 148 [.ref 0] M Z := by
  have hval : ∀ M2, gFq inK (gsI (gsI M 0 47 0) 0 48 0) M2 → ∀ c, cVal c → ∀ Z, Call (d + 3) 145 [.ref 0, .int (nI c)] M2 Z ↔ Z (some (.int (envOf g (nm, 0, 0, t) c))) M2 := by
    intro M2 hf c hv Z
    have hf0 : gFq inK M M2 := gFq_tr (gFq_tr (gFq_sI (inK_0 (by omega))) (gFq_sI (inK_0 (by omega)))) hf
    refine m_valueOf (b := bb) (gFq_M hf0 hm) ?_ (mDr_fr hf0 ⟨by unfold inK; omega, by unfold inK; omega⟩ (fun o k z => by unfold inW at z; unfold inK; omega) h9 hd) hk (fun k hk => by rw [hf0.2 29 k (by unfold inK; omega)]; exact hn k hk) hv
    unfold mCx
    rw [hf0.2 0 36 (by unfold inK; omega), hf0.2 0 37 (by unfold inK; omega)]
    exact ⟨hc.1, hc.2.1, fun r hr => by rw [hf0.2 2 _ (by unfold inK; omega)]; exact hc.2.2 r hr⟩
  have hf1 : gFq inK M (gsI (gsI M 0 47 0) 0 48 0) := gFq_tr (gFq_sI (inK_0 (by omega))) (gFq_sI (inK_0 (by omega)))
  have hm1 := gFq_M hf1 hm
  have hgo := (he.1 _ (sP_cl (mk := mk) (Z := Z) (ba := ba) hm1 ht hval)).2.2 (by decide) [] [] dv (gsI (gsI M 0 47 0) 0 48 0) none none gFq_rf (mTx_fr hf1 (by simp [gsI_1]) hT) ⟨⟨by simp [gsI_1]; rfl, by decide, trivial⟩, ⟨by simp [gsI_1]; rfl, by decide, trivial⟩, by simp [gsI_1, h49]⟩ (by decide) (by decide) (fun q l hql => by cases hql) (fun pend vs3 dv3 M3 c4 c5 hf3 hT3 hs3 hw3 hp3 _ => ?_)
  · rw [nI_0] at hgo
    simp only [z148_0, z148_1, z148_2, z148_5, z148_6, z148_7, z148_10, z148_11, z148_12, z148_13, z148_14, z148_15, e148, gIn_toInt, nI_toInt, Nat.reduceLT, Nat.reducePow, va_rf_none, va_rf_some, gObj_sI, gObj_sR, gAr_sI, gAr_sR, gLen_sI, gLen_sR, gsI_1, gsI_2, gsR_1, gsR_2, gU_ref, gU_null, gU_rf, gisRef_ref, gisRef_null, gisRef_rf, Option.toList_some, Option.toList_none, List.cons_append, List.nil_append, true_and, and_true, false_and, and_false, ↓reduceIte, if_true, if_false, Nat.reduceEqDiff, Nat.reduceAdd, Nat.reduceMul, Nat.reduceSub, Nat.reduceLeDiff, reduceCtorEq, not_true_eq_false, not_false_eq_true, true_imp_iff, false_imp_iff, zc_0, zc_1, zc_2, zc_3, zc_4, zc_5, zc_6, zc_8, zc_9, zc_10, zc_32, zc_36, zc_48, zc_64, zc_80, zc_120, zc_128, zc_248, zc_320, zc_400, zc_800, zc_1200, zc_2001, zc_4002, Int.reduceLT, Int.reduceLE, Int.reduceNeg, Nat.zero_ne_one, Nat.one_ne_zero, or_true, true_or, or_false, false_or, ti_0, ti_1, ti_2, ti_3, ti_4, ti_5, ti_6, ti_7, ti_8, ti_9, ti_10, ti_11, ti_12, ti_13, ti_14, ti_15, ti_16, ti_17, ti_18, ti_19, ti_20, ti_21, ti_22, ti_23, ti_24, ti_25, ti_26, ti_27, ti_28, ti_29, ti_30, ti_31, ti_32, ti_33, ti_34, ti_35, ti_36, ti_37, ti_38, ti_39, ti_40, ti_41, ti_42, ti_43, ti_44, ti_45, ti_46, ti_47, ti_48, ti_49, ti_50, ti_51, ti_52, ti_53, ti_54, ti_55, ti_56, ti_57, ti_58, ti_59, ti_60, ti_61, ti_62, ti_63, ti_64, ti_65, ti_66, ti_67, ti_68, ti_69, ti_70, ti_71, ti_72, ti_73, ti_74, ti_75, ti_76, ti_77, ti_78, ti_79, ti_80, ti_81, ti_82, ti_83, ti_84, ti_85, ti_86, ti_87, ti_88, ti_89, ti_90, ti_91, ti_92, ti_93, ti_94, ti_95, ti_96, ti_97, ti_98, ti_99, ti_100, ti_101, ti_102, ti_103, ti_104, ti_105, ti_106, ti_107, ti_108, ti_109, ti_110, ti_111, ti_112, ti_113, ti_114, ti_115, ti_116, ti_117, ti_118, ti_119, ti_120, ti_121, ti_122, ti_123, ti_124, ti_125, ti_126, ti_127, ti_128, ti_129, ti_200, ti_248, ti_255, ti_256, ti_400, ti_1000, ti_2000, ti_2001, ti_1000000, tj_1, tj_2, tj_8, tj_10, tj_1000, tc_0, tc_1, tc_2, tc_3, tc_4, tc_5, tc_6, tc_7, tc_8, i32_lt, i32_le, MR_sI, mo0 hm, ma1 hm, ml1 hm, ms1 hm, ma2 hm, ml2 hm, ms2 hm, ma3 hm, ml3 hm, ms3 hm, ma4 hm, ml4 hm, ms4 hm, ma5 hm, ml5 hm, ms5 hm, ma6 hm, ml6 hm, ms6 hm, ma7 hm, ml7 hm, ms7 hm, ma8 hm, ml8 hm, ms8 hm, ma9 hm, ml9 hm, ms9 hm, ma10 hm, ml10 hm, ms10 hm, ma11 hm, ml11 hm, ms11 hm, ma12 hm, ml12 hm, ms12 hm, ma13 hm, ml13 hm, ms13 hm, ma14 hm, ml14 hm, ms14 hm, ma15 hm, ml15 hm, ms15 hm, ma16 hm, ml16 hm, ms16 hm, ma17 hm, ml17 hm, ms17 hm, ma18 hm, ml18 hm, ms18 hm, ma19 hm, ml19 hm, ms19 hm, ma20 hm, ml20 hm, ms20 hm, ma21 hm, ml21 hm, ms21 hm, ma22 hm, ml22 hm, ms22 hm, ma23 hm, ml23 hm, ms23 hm, ma24 hm, ml24 hm, ms24 hm, ma25 hm, ml25 hm, ms25 hm, ma26 hm, ml26 hm, ms26 hm, ma27 hm, ml27 hm, ms27 hm, ma28 hm, ml28 hm, ms28 hm, ma29 hm, ml29 hm, ms29 hm, ma30 hm, ml30 hm, ms30 hm, ma31 hm, ml31 hm, ms31 hm, ma32 hm, ml32 hm, ms32 hm, ma33 hm, ml33 hm, ms33 hm, ma34 hm, ml34 hm, ms34 hm, ma35 hm, ml35 hm, ms35 hm, ma36 hm, ml36 hm, ms36 hm, ma37 hm, ml37 hm, ms37 hm, ma38 hm, ml38 hm, ms38 hm, ma39 hm, ml39 hm, ms39 hm, ma40 hm, ml40 hm, ms40 hm, ma41 hm, ml41 hm, ms41 hm, ma42 hm, ml42 hm, ms42 hm, ma43 hm, ml43 hm, ms43 hm, ma44 hm, ml44 hm, ms44 hm, ma45 hm, ml45 hm, ms45 hm, ma46 hm, ml46 hm, ms46 hm, ma47 hm, ml47 hm, ms47 hm, mr0_0 hm, mr0_5 hm, mr0_6 hm, mr0_7 hm, mr0_8 hm, mr0_9 hm, mr0_10 hm, mr0_11 hm, mr0_12 hm, mr0_17 hm, mr0_18 hm, mr0_19 hm, mr0_20 hm, mr0_21 hm, mr0_22 hm, mr0_23 hm, mr0_24 hm, mr0_25 hm, mr0_26 hm, mr0_27 hm, mr0_28 hm, mr0_29 hm, mr0_30 hm, mr0_31 hm, mr0_32 hm, mr0_33 hm, mr0_34 hm, mr0_35 hm, mr0_41 hm, mr0_42 hm, mr0_43 hm, mr0_45 hm, mr0_46 hm, mr0_55 hm, mr0_56 hm, mr0_57 hm, mr0_58 hm, mr0_59 hm, mr0_62 hm, mr0_63 hm, mr0_64 hm, mr0_65 hm, mr0_66 hm, mr0_67 hm, mr0_68 hm, mr0_69 hm, mr0_70 hm]
    exact hgo
  · rw [List.append_nil] at hs3
    exact m_sEnd (gFq_M hf3 hm1) ht hT3 hs3 he.2 hw3 (fun M4 hf4 hT4 h4 => hK M4 (gFq_tr hf1 (gFq_tr hf3 hf4)) hT4 h4)
end
