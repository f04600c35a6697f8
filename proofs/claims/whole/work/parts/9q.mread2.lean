/-! The reference: read's search. -/
def rKeep (most : Nat) (rw' : Nat → Nat) (a : nFo) : nFo := (a.1 + 1, if a.1 = 0 then (most, rw') else a.2)
def rT (g : Nat → Nat) (len endc : Nat) (col want : Nat → Nat) : Nat → (Nat → Nat) → (Nat → Nat) → Nat → (Nat → Nat) → nFo → nFo
  | 0, _, gr, dn, rw', a => if nOff want gr 64 = 0 then rKeep dn rw' a else a
  | j + 1, rg, gr, dn, rw', a => nIt (fun i a => if pOk g i rg = true then rT g len endc col want j (cn (pRg g i rg)) (gLaysG len endc col (pL g i rg) (pN i rg) gr) (dn + 1) (pUpd rw' dn i) a else a) 11 a
def rB : Nat → Nat
  | 0 => 1
  | j + 1 => 11 * rB j
theorem nIt_b {B : Nat} {f : Nat → nFo → nFo} (h : ∀ i a, (f i a).1 ≤ a.1 + B) : ∀ k a, (nIt f k a).1 ≤ a.1 + k * B
  | 0, a => by simp [nIt]
  | k + 1, a => by
    have h1 := nIt_b h k a
    have h2 := h k (nIt f k a)
    rw [Nat.succ_mul]
    show (f k (nIt f k a)).1 ≤ _
    omega
theorem rT_b {g : Nat → Nat} {len endc : Nat} {col want : Nat → Nat} : ∀ j rg gr dn rw' (a : nFo), (rT g len endc col want j rg gr dn rw' a).1 ≤ a.1 + rB j
  | 0, rg, gr, dn, rw', a => by
    unfold rT
    split
    · exact Nat.le_refl _
    · exact Nat.le_succ _
  | j + 1, rg, gr, dn, rw', a => by
    refine nIt_b (B := rB j) (fun i a => ?_) 11 a
    split
    · exact rT_b j _ _ _ _ a
    · exact Nat.le_add_right _ _
def mAc (M : gM) (a : nFo) : Prop := M.1 0 71 = nI a.2.1 ∧ a.2.1 ≤ 4 ∧ ∀ i, i < a.2.1 → M.1 46 i = nI (a.2.2 i)
def mRd (M : gM) (bb c len endc h : Nat) (col g tp : Nat → Nat) : Prop := MR M ∧ mCo M c len endc col ∧ M.1 4 c = nI h ∧ (∀ r, r < 8 → M.1 2 (8 * bb + r) = nI (g r) ∧ g r ≤ 9) ∧ ∀ k, k < 64 → M.1 47 k = nI (tp k) ∧ isPic (tp k) ∧ tp k ≤ 255
def inR (d o k : Nat) : Prop := (o = 39 ∧ 64 * (d + 1) ≤ k) ∨ (40 ≤ o ∧ o ≤ 44 ∧ d + 1 ≤ k) ∨ (o = 45 ∧ d ≤ k) ∨ o = 46 ∨ (o = 0 ∧ k = 71)
section
variable {d n k e bb c len endc h m dn : Nat} {M M0 M1 M2 : gM} {Z : Option Value → gM → Prop} {x y v : Int32} {col g rg gr want tp rw' : Nat → Nat} {a : nFo} {P : Nat → Nat → Prop}
theorem mRd_fr (hf : gFq P M M2) (hP : ∀ o k, (2 ≤ o ∧ o ≤ 6) ∨ o = 47 → ¬ P o k) (h0 : mRd M bb c len endc h col g tp) : mRd M2 bb c len endc h col g tp :=
  ⟨gFq_M hf h0.1, mCo_fr hf (fun k => hP 3 k (by omega)) (fun k => hP 5 k (by omega)) (fun k => hP 6 k (by omega)) h0.2.1, by rw [hf.2 4 c (hP 4 c (by omega))]; exact h0.2.2.1, fun r hr => by rw [hf.2 2 _ (hP 2 _ (by omega))]; exact h0.2.2.2.1 r hr, fun k hk => by rw [hf.2 47 k (hP 47 k (by omega))]; exact h0.2.2.2.2 k hk⟩
theorem mLv_fr (hf : gFq P M M2) (hP : ∀ o, 40 ≤ o → o ≤ 44 → ¬ P o e) (h39 : ∀ k, k < 64 → ¬ P 39 (64 * e + k)) (hl : mLv M e rg gr) : mLv M2 e rg gr :=
  ⟨⟨by rw [hf.2 40 e (hP 40 (by omega) (by omega))]; exact hl.1.1, by rw [hf.2 41 e (hP 41 (by omega) (by omega))]; exact hl.1.2.1, by rw [hf.2 42 e (hP 42 (by omega) (by omega))]; exact hl.1.2.2.1, by rw [hf.2 43 e (hP 43 (by omega) (by omega))]; exact hl.1.2.2.2.1, by rw [hf.2 44 e (hP 44 (by omega) (by omega))]; exact hl.1.2.2.2.2⟩, fun k hk => by rw [hf.2 39 _ (h39 k hk)]; exact hl.2 k hk⟩
theorem mAc_fr (hf : gFq P M M2) (h71 : ¬ P 0 71) (h46 : ∀ k, ¬ P 46 k) (ha : mAc M a) : mAc M2 a := ⟨by rw [hf.2 0 71 h71]; exact ha.1, ha.2.1, fun i hi => by rw [hf.2 46 i (h46 i)]; exact ha.2.2 i hi⟩
theorem inR_L {o k : Nat} (h : inL (dn + 1) o k) : inR dn o k := by unfold inL at h; unfold inR; omega
theorem inR_s {o k : Nat} (h : inR (dn + 1) o k) : inR dn o k := by unfold inR at h ⊢; omega
theorem gLayG_le (hc : ∀ k, k < 6 → col k ≤ 8) {q : Nat → Nat} : ∀ k, k ≤ 4 → (∀ i, gr i ≤ 8) → ∀ i, gLayG len endc col q k gr i ≤ 8
  | 0, _, hg => hg
  | k + 1, hk, hg => fun i => by
    show (if i = (q 1 + k) * 8 + q 2 then nShown len endc col k (q 3) (q 6) else gLayG len endc col q k gr i) ≤ 8
    split
    · exact nShown_le hc (by omega)
    · exact gLayG_le hc k (by omega) hg i
theorem gLaysG_le (hc : ∀ k, k < 6 → col k ≤ 8) {lf : Nat → Nat → Nat} : ∀ k, (∀ i, i < k → lf i 5 ≤ 4) → (∀ i, gr i ≤ 8) → ∀ i, gLaysG len endc col lf k gr i ≤ 8
  | 0, _, hg => hg
  | k + 1, hl, hg => gLayG_le hc _ (hl k (by omega)) (gLaysG_le hc k (fun i hi => hl i (by omega)) hg)
theorem pL_5m {a i : Nat} (hp : pInv len h rg) : pL g a rg i 5 ≤ 4 := by
  unfold pL
  obtain ⟨-, ⟨p3, p3', p3''⟩, -⟩ := hp
  split
  · show rg 3 ≤ 4; omega
  · split
    · show rg 3 ≤ 4; omega
    · show 1 ≤ 4; omega
theorem pInv_step {a : Nat} (hg : ∀ r, r < 8 → g r ≤ 9) (hp : pInv len h rg) (ha : a < 11) (hok : pOk g a rg = true) : pInv len h (cn (pRg g a rg)) := by
  obtain ⟨⟨p2, p2'⟩, ⟨p3, p3', p3''⟩, p4, p5, p6, p7, p8⟩ := hp
  have hsec : ∀ q, secIt (rg 7) (rg 6) q < 8 := fun q => by
    cases q with
    | zero => exact p6
    | succ q => unfold secIt; split <;> omega
  by_cases h4 : a < 4
  · have hpr : pRg g a rg = nU (nU rg 4 (rg 4 + 2 ^ a * nWide g (rg 5) (rg 3))) 6 (secIt (rg 7) (rg 6) (2 ^ a)) := by unfold pRg; rw [if_pos h4]
    have ho : 2 ^ a * nWide g (rg 5) (rg 3) ≤ rg 2 - rg 4 := by unfold pOk at hok; rw [if_pos h4] at hok; exact of_decide_eq_true hok
    rw [hpr]
    refine ⟨⟨p2, p2'⟩, ⟨p3, p3', p3''⟩, ?_, p5, hsec _, p7, p8⟩
    show rg 4 + 2 ^ a * nWide g (rg 5) (rg 3) ≤ len
    omega
  · rcases (show a = 4 ∨ a = 5 ∨ a = 6 ∨ a = 7 ∨ a = 8 ∨ a = 9 ∨ a = 10 by omega) with rfl | rfl | rfl | rfl | rfl | rfl | rfl
    · have ho : 8 ≤ rg 2 - rg 4 := of_decide_eq_true hok
      exact ⟨⟨p2, p2'⟩, ⟨p3, p3', p3''⟩, by show rg 4 + 8 ≤ len; omega, p5, p6, p7, p8⟩
    · have ho : rg 5 + 1 + rg 3 ≤ 8 ∧ 1 ≤ rg 2 - rg 4 := of_decide_eq_true hok
      exact ⟨⟨p2, p2'⟩, ⟨p3, p3', p3''⟩, by show rg 4 + 1 ≤ len; omega, by show rg 5 + 1 + h ≤ 8; omega, p6, p7, p8⟩
    · have ho : 1 ≤ rg 5 ∧ 1 ≤ rg 2 - rg 4 := of_decide_eq_true hok
      exact ⟨⟨p2, p2'⟩, ⟨p3, p3', p3''⟩, by show rg 4 + 1 ≤ len; omega, by show rg 5 - 1 + h ≤ 8; omega, p6, p7, p8⟩
    · exact ⟨⟨p2, p2'⟩, ⟨p3, p3', p3''⟩, p4, p5, p6, by show 1 - rg 7 ≤ 1; omega, p8⟩
    · exact ⟨⟨p2, p2'⟩, ⟨p3, p3', p3''⟩, p4, p5, p6, p7, by show 1 - rg 8 ≤ 1; omega⟩
    · have ho : rg 5 + rg 3 = 8 ∧ 2 * g 7 ≤ rg 2 - rg 4 := of_decide_eq_true hok
      exact ⟨⟨p2, p2'⟩, ⟨p3, p3', p3''⟩, by show rg 4 + 2 * g 7 ≤ len; omega, p5, by show (rg 6 + 4) % 8 < 8; omega, p7, p8⟩
    · have ho : 9 ≤ rg 2 - rg 4 := of_decide_eq_true hok
      exact ⟨⟨p2, p2'⟩, ⟨p3, p3', p3''⟩, by show rg 4 + 9 ≤ len; omega, p5, p6, p7, p8⟩
/-- what is kept -/
theorem m_keep1 (hm0 : MR M0) (hm4 : m ≤ 4) (hrw : ∀ i, i < m → M0.1 45 i = nI (rw' i)) {b1 b2 b5 : Option Value}
    (hK : ∀ M2, gFq (fun o _ => o = 46) M0 M2 → (∀ i, i < m → M2.1 46 i = nI (rw' i)) → Run (d + 3) 194 275 [some (.ref 0), b1, b2, some (.int 0), some (.int (nI m)), b5, some (.int (nI m))] [] M2 0 0 Z) :
    ∀ j i M, i + j = m → gFq (fun o _ => o = 46) M0 M → (∀ q, q < i → M.1 46 q = nI (rw' q)) → Run (d + 3) 194 244 [some (.ref 0), b1, b2, some (.int 0), some (.int (nI m)), b5, some (.int (nI i))] [] M 0 0 Z
  | 0, i, M, hi, hf, hq => by
    have hi2 : i = m := by omega
    subst hi2
    have hgo := hK M hf hq
    have t1 := nI_ti (show i ≤ 2000 by omega)
    have k1 : (i : Int) ≤ (i : Int) := Int.le_refl _
    rw [z194_244]
    simp only [z194_246, z194_248, gIn_toInt, nI_toInt, Nat.reduceLT, Nat.reducePow, va_rf_none, va_rf_some, gObj_sI, gObj_sR, gAr_sI, gAr_sR, gLen_sI, gLen_sR, gsI_1, gsI_2, gsR_1, gsR_2, gU_ref, gU_null, gU_rf, gisRef_ref, gisRef_null, gisRef_rf, Option.toList_some, Option.toList_none, List.cons_append, List.nil_append, true_and, and_true, false_and, and_false, ↓reduceIte, if_true, if_false, Nat.reduceEqDiff, Nat.reduceAdd, Nat.reduceMul, Nat.reduceSub, Nat.reduceLeDiff, reduceCtorEq, not_true_eq_false, not_false_eq_true, true_imp_iff, false_imp_iff, zc_0, zc_1, zc_2, zc_3, zc_4, zc_5, zc_6, zc_8, zc_9, zc_10, zc_32, zc_36, zc_48, zc_64, zc_80, zc_120, zc_128, zc_248, zc_320, zc_400, zc_800, zc_1200, zc_2001, zc_4002, Int.reduceLT, Int.reduceLE, Int.reduceNeg, Nat.zero_ne_one, Nat.one_ne_zero, or_true, true_or, or_false, false_or, ti_0, ti_1, ti_2, ti_3, ti_4, ti_5, ti_6, ti_7, ti_8, ti_9, ti_10, ti_11, ti_12, ti_13, ti_14, ti_15, ti_16, ti_17, ti_18, ti_19, ti_20, ti_21, ti_22, ti_23, ti_24, ti_25, ti_26, ti_27, ti_28, ti_29, ti_30, ti_31, ti_32, ti_33, ti_34, ti_35, ti_36, ti_37, ti_38, ti_39, ti_40, ti_41, ti_42, ti_43, ti_44, ti_45, ti_46, ti_47, ti_48, ti_49, ti_50, ti_51, ti_52, ti_53, ti_54, ti_55, ti_56, ti_57, ti_58, ti_59, ti_60, ti_61, ti_62, ti_63, ti_64, ti_65, ti_66, ti_67, ti_68, ti_69, ti_70, ti_71, ti_72, ti_73, ti_74, ti_75, ti_76, ti_77, ti_78, ti_79, ti_80, ti_81, ti_82, ti_83, ti_84, ti_85, ti_86, ti_87, ti_88, ti_89, ti_90, ti_91, ti_92, ti_93, ti_94, ti_95, ti_96, ti_97, ti_98, ti_99, ti_100, ti_101, ti_102, ti_103, ti_104, ti_105, ti_106, ti_107, ti_108, ti_109, ti_110, ti_111, ti_112, ti_113, ti_114, ti_115, ti_116, ti_117, ti_118, ti_119, ti_120, ti_121, ti_122, ti_123, ti_124, ti_125, ti_126, ti_127, ti_128, ti_129, ti_200, ti_248, ti_255, ti_256, ti_400, ti_1000, ti_2000, ti_2001, ti_1000000, tj_1, tj_2, tj_8, tj_10, tj_1000, tc_0, tc_1, tc_2, tc_3, tc_4, tc_5, tc_6, tc_7, tc_8, i32_lt, i32_le, t1, k1]
    exact hgo
  | j + 1, i, M, hi, hf, hq => by
    have hm := gFq_M hf hm0
    have t1 := nI_ti (show i ≤ 2000 by omega)
    have t2 := nI_tc (show i ≤ 2000 by omega)
    have t3 := nI_ti (show m ≤ 2000 by omega)
    have k1 : ¬ (m : Int) ≤ (i : Int) := by omega
    have k2 : 0 ≤ (i : Int) ∧ (i : Int) < 4 := by omega
    have h45 : M.1 45 i = nI (rw' i) := by rw [hf.2 45 i (by omega)]; exact hrw i (by omega)
    have hgo := m_keep1 hm0 hm4 hrw hK j (i + 1) (gsI M 46 i (nI (rw' i))) (by omega) (gFq_tr hf (gFq_sI rfl)) (fun q hq2 => by
      rw [gsI_1]
      by_cases hqi : q = i
      · rw [if_pos ⟨rfl, hqi⟩, hqi]
      · rw [if_neg (fun z => hqi z.2)]; exact hq q (by omega))
    rw [z194_244]
    simp only [z194_246, z194_248, z194_251, z194_252, z194_255, z194_256, z194_259, z194_261, z194_262, z194_265, z194_267, z194_268, z194_269, z194_272, gIn_toInt, nI_toInt, Nat.reduceLT, Nat.reducePow, va_rf_none, va_rf_some, gObj_sI, gObj_sR, gAr_sI, gAr_sR, gLen_sI, gLen_sR, gsI_1, gsI_2, gsR_1, gsR_2, gU_ref, gU_null, gU_rf, gisRef_ref, gisRef_null, gisRef_rf, Option.toList_some, Option.toList_none, List.cons_append, List.nil_append, true_and, and_true, false_and, and_false, ↓reduceIte, if_true, if_false, Nat.reduceEqDiff, Nat.reduceAdd, Nat.reduceMul, Nat.reduceSub, Nat.reduceLeDiff, reduceCtorEq, not_true_eq_false, not_false_eq_true, true_imp_iff, false_imp_iff, zc_0, zc_1, zc_2, zc_3, zc_4, zc_5, zc_6, zc_8, zc_9, zc_10, zc_32, zc_36, zc_48, zc_64, zc_80, zc_120, zc_128, zc_248, zc_320, zc_400, zc_800, zc_1200, zc_2001, zc_4002, Int.reduceLT, Int.reduceLE, Int.reduceNeg, Nat.zero_ne_one, Nat.one_ne_zero, or_true, true_or, or_false, false_or, ti_0, ti_1, ti_2, ti_3, ti_4, ti_5, ti_6, ti_7, ti_8, ti_9, ti_10, ti_11, ti_12, ti_13, ti_14, ti_15, ti_16, ti_17, ti_18, ti_19, ti_20, ti_21, ti_22, ti_23, ti_24, ti_25, ti_26, ti_27, ti_28, ti_29, ti_30, ti_31, ti_32, ti_33, ti_34, ti_35, ti_36, ti_37, ti_38, ti_39, ti_40, ti_41, ti_42, ti_43, ti_44, ti_45, ti_46, ti_47, ti_48, ti_49, ti_50, ti_51, ti_52, ti_53, ti_54, ti_55, ti_56, ti_57, ti_58, ti_59, ti_60, ti_61, ti_62, ti_63, ti_64, ti_65, ti_66, ti_67, ti_68, ti_69, ti_70, ti_71, ti_72, ti_73, ti_74, ti_75, ti_76, ti_77, ti_78, ti_79, ti_80, ti_81, ti_82, ti_83, ti_84, ti_85, ti_86, ti_87, ti_88, ti_89, ti_90, ti_91, ti_92, ti_93, ti_94, ti_95, ti_96, ti_97, ti_98, ti_99, ti_100, ti_101, ti_102, ti_103, ti_104, ti_105, ti_106, ti_107, ti_108, ti_109, ti_110, ti_111, ti_112, ti_113, ti_114, ti_115, ti_116, ti_117, ti_118, ti_119, ti_120, ti_121, ti_122, ti_123, ti_124, ti_125, ti_126, ti_127, ti_128, ti_129, ti_200, ti_248, ti_255, ti_256, ti_400, ti_1000, ti_2000, ti_2001, ti_1000000, tj_1, tj_2, tj_8, tj_10, tj_1000, tc_0, tc_1, tc_2, tc_3, tc_4, tc_5, tc_6, tc_7, tc_8, i32_lt, i32_le, MR_sI, mo0 hm, ma1 hm, ml1 hm, ms1 hm, ma2 hm, ml2 hm, ms2 hm, ma3 hm, ml3 hm, ms3 hm, ma4 hm, ml4 hm, ms4 hm, ma5 hm, ml5 hm, ms5 hm, ma6 hm, ml6 hm, ms6 hm, ma7 hm, ml7 hm, ms7 hm, ma8 hm, ml8 hm, ms8 hm, ma9 hm, ml9 hm, ms9 hm, ma10 hm, ml10 hm, ms10 hm, ma11 hm, ml11 hm, ms11 hm, ma12 hm, ml12 hm, ms12 hm, ma13 hm, ml13 hm, ms13 hm, ma14 hm, ml14 hm, ms14 hm, ma15 hm, ml15 hm, ms15 hm, ma16 hm, ml16 hm, ms16 hm, ma17 hm, ml17 hm, ms17 hm, ma18 hm, ml18 hm, ms18 hm, ma19 hm, ml19 hm, ms19 hm, ma20 hm, ml20 hm, ms20 hm, ma21 hm, ml21 hm, ms21 hm, ma22 hm, ml22 hm, ms22 hm, ma23 hm, ml23 hm, ms23 hm, ma24 hm, ml24 hm, ms24 hm, ma25 hm, ml25 hm, ms25 hm, ma26 hm, ml26 hm, ms26 hm, ma27 hm, ml27 hm, ms27 hm, ma28 hm, ml28 hm, ms28 hm, ma29 hm, ml29 hm, ms29 hm, ma30 hm, ml30 hm, ms30 hm, ma31 hm, ml31 hm, ms31 hm, ma32 hm, ml32 hm, ms32 hm, ma33 hm, ml33 hm, ms33 hm, ma34 hm, ml34 hm, ms34 hm, ma35 hm, ml35 hm, ms35 hm, ma36 hm, ml36 hm, ms36 hm, ma37 hm, ml37 hm, ms37 hm, ma38 hm, ml38 hm, ms38 hm, ma39 hm, ml39 hm, ms39 hm, ma40 hm, ml40 hm, ms40 hm, ma41 hm, ml41 hm, ms41 hm, ma42 hm, ml42 hm, ms42 hm, ma43 hm, ml43 hm, ms43 hm, ma44 hm, ml44 hm, ms44 hm, ma45 hm, ml45 hm, ms45 hm, ma46 hm, ml46 hm, ms46 hm, ma47 hm, ml47 hm, ms47 hm, mr0_0 hm, mr0_5 hm, mr0_6 hm, mr0_7 hm, mr0_8 hm, mr0_9 hm, mr0_10 hm, mr0_11 hm, mr0_12 hm, mr0_17 hm, mr0_18 hm, mr0_19 hm, mr0_20 hm, mr0_21 hm, mr0_22 hm, mr0_23 hm, mr0_24 hm, mr0_25 hm, mr0_26 hm, mr0_27 hm, mr0_28 hm, mr0_29 hm, mr0_30 hm, mr0_31 hm, mr0_32 hm, mr0_33 hm, mr0_34 hm, mr0_35 hm, mr0_41 hm, mr0_42 hm, mr0_43 hm, mr0_45 hm, mr0_46 hm, mr0_55 hm, mr0_56 hm, mr0_57 hm, mr0_58 hm, mr0_59 hm, mr0_62 hm, mr0_63 hm, mr0_64 hm, mr0_65 hm, mr0_66 hm, mr0_67 hm, mr0_68 hm, mr0_69 hm, mr0_70 hm, t1, t2, t3, k1, k2, h45, nI_1]
    exact hgo
theorem m_keep (hm : MR M) (hm4 : m ≤ 4) (hrw : ∀ i, i < m → M.1 45 i = nI (rw' i)) (ha : mAc M a) (hab : a.1 < 2 ^ 31) {b1 b2 b5 b6 : Option Value}
    (hK : ∀ M2 a6, gFq (fun o k => o = 46 ∨ (o = 0 ∧ k = 71)) M M2 → mAc M2 (rKeep m rw' a) → Run (d + 3) 194 155 [some (.ref 0), b1, b2, some (.int (nI (rKeep m rw' a).1)), some (.int (nI m)), b5, a6] [] M2 0 0 Z) :
    Run (d + 3) 194 241 [some (.ref 0), b1, b2, some (.int (nI a.1)), some (.int (nI m)), b5, b6] [] M 0 0 Z := by
  by_cases h0 : a.1 = 0
  · have hgo := m_keep1 (d := d) (Z := Z) (b1 := b1) (b2 := b2) (b5 := b5) hm hm4 hrw (fun M2 hf2 h46 => ?_) m 0 M (by omega) gFq_rf (fun q hq => by omega)
    · rw [h0, nI_0]
      rw [nI_0] at hgo
      simp only [z194_241, z194_242, gIn_toInt, nI_toInt, Nat.reduceLT, Nat.reducePow, va_rf_none, va_rf_some, gObj_sI, gObj_sR, gAr_sI, gAr_sR, gLen_sI, gLen_sR, gsI_1, gsI_2, gsR_1, gsR_2, gU_ref, gU_null, gU_rf, gisRef_ref, gisRef_null, gisRef_rf, Option.toList_some, Option.toList_none, List.cons_append, List.nil_append, true_and, and_true, false_and, and_false, ↓reduceIte, if_true, if_false, Nat.reduceEqDiff, Nat.reduceAdd, Nat.reduceMul, Nat.reduceSub, Nat.reduceLeDiff, reduceCtorEq, not_true_eq_false, not_false_eq_true, true_imp_iff, false_imp_iff, zc_0, zc_1, zc_2, zc_3, zc_4, zc_5, zc_6, zc_8, zc_9, zc_10, zc_32, zc_36, zc_48, zc_64, zc_80, zc_120, zc_128, zc_248, zc_320, zc_400, zc_800, zc_1200, zc_2001, zc_4002, Int.reduceLT, Int.reduceLE, Int.reduceNeg, Nat.zero_ne_one, Nat.one_ne_zero, or_true, true_or, or_false, false_or]
      exact hgo
    · have hm2 := gFq_M hf2 hm
      have hgo := hK (gsI M2 0 71 (nI m)) (some (.int (nI m))) (gFq_tr (gFq_wk hf2 (fun o k z => Or.inl z)) (gFq_sI (Or.inr ⟨rfl, rfl⟩))) (by
        unfold rKeep mAc
        rw [if_pos h0]
        exact ⟨by simp [gsI_1], hm4, fun i hi => by rw [gsI_1, if_neg (by omega)]; exact h46 i hi⟩)
      rw [show (rKeep m rw' a).1 = 1 by unfold rKeep; rw [h0]] at hgo
      simp only [z194_275, z194_276, z194_277, z194_280, z194_282, z194_285, z194_286, z194_289, z194_292, z194_295, gIn_toInt, nI_toInt, Nat.reduceLT, Nat.reducePow, va_rf_none, va_rf_some, gObj_sI, gObj_sR, gAr_sI, gAr_sR, gLen_sI, gLen_sR, gsI_1, gsI_2, gsR_1, gsR_2, gU_ref, gU_null, gU_rf, gisRef_ref, gisRef_null, gisRef_rf, Option.toList_some, Option.toList_none, List.cons_append, List.nil_append, true_and, and_true, false_and, and_false, ↓reduceIte, if_true, if_false, Nat.reduceEqDiff, Nat.reduceAdd, Nat.reduceMul, Nat.reduceSub, Nat.reduceLeDiff, reduceCtorEq, not_true_eq_false, not_false_eq_true, true_imp_iff, false_imp_iff, zc_0, zc_1, zc_2, zc_3, zc_4, zc_5, zc_6, zc_8, zc_9, zc_10, zc_32, zc_36, zc_48, zc_64, zc_80, zc_120, zc_128, zc_248, zc_320, zc_400, zc_800, zc_1200, zc_2001, zc_4002, Int.reduceLT, Int.reduceLE, Int.reduceNeg, Nat.zero_ne_one, Nat.one_ne_zero, or_true, true_or, or_false, false_or, MR_sI, mo0 hm2, ma1 hm2, ml1 hm2, ms1 hm2, ma2 hm2, ml2 hm2, ms2 hm2, ma3 hm2, ml3 hm2, ms3 hm2, ma4 hm2, ml4 hm2, ms4 hm2, ma5 hm2, ml5 hm2, ms5 hm2, ma6 hm2, ml6 hm2, ms6 hm2, ma7 hm2, ml7 hm2, ms7 hm2, ma8 hm2, ml8 hm2, ms8 hm2, ma9 hm2, ml9 hm2, ms9 hm2, ma10 hm2, ml10 hm2, ms10 hm2, ma11 hm2, ml11 hm2, ms11 hm2, ma12 hm2, ml12 hm2, ms12 hm2, ma13 hm2, ml13 hm2, ms13 hm2, ma14 hm2, ml14 hm2, ms14 hm2, ma15 hm2, ml15 hm2, ms15 hm2, ma16 hm2, ml16 hm2, ms16 hm2, ma17 hm2, ml17 hm2, ms17 hm2, ma18 hm2, ml18 hm2, ms18 hm2, ma19 hm2, ml19 hm2, ms19 hm2, ma20 hm2, ml20 hm2, ms20 hm2, ma21 hm2, ml21 hm2, ms21 hm2, ma22 hm2, ml22 hm2, ms22 hm2, ma23 hm2, ml23 hm2, ms23 hm2, ma24 hm2, ml24 hm2, ms24 hm2, ma25 hm2, ml25 hm2, ms25 hm2, ma26 hm2, ml26 hm2, ms26 hm2, ma27 hm2, ml27 hm2, ms27 hm2, ma28 hm2, ml28 hm2, ms28 hm2, ma29 hm2, ml29 hm2, ms29 hm2, ma30 hm2, ml30 hm2, ms30 hm2, ma31 hm2, ml31 hm2, ms31 hm2, ma32 hm2, ml32 hm2, ms32 hm2, ma33 hm2, ml33 hm2, ms33 hm2, ma34 hm2, ml34 hm2, ms34 hm2, ma35 hm2, ml35 hm2, ms35 hm2, ma36 hm2, ml36 hm2, ms36 hm2, ma37 hm2, ml37 hm2, ms37 hm2, ma38 hm2, ml38 hm2, ms38 hm2, ma39 hm2, ml39 hm2, ms39 hm2, ma40 hm2, ml40 hm2, ms40 hm2, ma41 hm2, ml41 hm2, ms41 hm2, ma42 hm2, ml42 hm2, ms42 hm2, ma43 hm2, ml43 hm2, ms43 hm2, ma44 hm2, ml44 hm2, ms44 hm2, ma45 hm2, ml45 hm2, ms45 hm2, ma46 hm2, ml46 hm2, ms46 hm2, ma47 hm2, ml47 hm2, ms47 hm2, mr0_0 hm2, mr0_5 hm2, mr0_6 hm2, mr0_7 hm2, mr0_8 hm2, mr0_9 hm2, mr0_10 hm2, mr0_11 hm2, mr0_12 hm2, mr0_17 hm2, mr0_18 hm2, mr0_19 hm2, mr0_20 hm2, mr0_21 hm2, mr0_22 hm2, mr0_23 hm2, mr0_24 hm2, mr0_25 hm2, mr0_26 hm2, mr0_27 hm2, mr0_28 hm2, mr0_29 hm2, mr0_30 hm2, mr0_31 hm2, mr0_32 hm2, mr0_33 hm2, mr0_34 hm2, mr0_35 hm2, mr0_41 hm2, mr0_42 hm2, mr0_43 hm2, mr0_45 hm2, mr0_46 hm2, mr0_55 hm2, mr0_56 hm2, mr0_57 hm2, mr0_58 hm2, mr0_59 hm2, mr0_62 hm2, mr0_63 hm2, mr0_64 hm2, mr0_65 hm2, mr0_66 hm2, mr0_67 hm2, mr0_68 hm2, mr0_69 hm2, mr0_70 hm2]
      exact hgo
  · have hz : ¬ nI a.1 = 0 := fun z => h0 (by
      have := nI_inj (b := 0) hab (by decide) z
      exact this)
    have h71 := ha.1
    have hgo := hK (gsI M 0 71 (nI a.2.1)) (some (.int 0)) (gFq_sI (Or.inr ⟨rfl, rfl⟩)) (by
      unfold rKeep mAc
      rw [if_neg h0]
      exact ⟨by simp [gsI_1], ha.2.1, fun i hi => by rw [gsI_1, if_neg (by omega)]; exact ha.2.2 i hi⟩)
    rw [show (rKeep m rw' a).1 = a.1 + 1 from rfl] at hgo
    have t3 := nI_ti (show m ≤ 2000 by omega)
    by_cases hm0 : m = 0
    · have k1 : (m : Int) ≤ 0 := by omega
      simp only [z194_241, z194_242, z194_244, z194_246, z194_248, z194_275, z194_276, z194_277, z194_285, z194_286, z194_289, z194_292, z194_295, gIn_toInt, nI_toInt, Nat.reduceLT, Nat.reducePow, va_rf_none, va_rf_some, gObj_sI, gObj_sR, gAr_sI, gAr_sR, gLen_sI, gLen_sR, gsI_1, gsI_2, gsR_1, gsR_2, gU_ref, gU_null, gU_rf, gisRef_ref, gisRef_null, gisRef_rf, Option.toList_some, Option.toList_none, List.cons_append, List.nil_append, true_and, and_true, false_and, and_false, ↓reduceIte, if_true, if_false, Nat.reduceEqDiff, Nat.reduceAdd, Nat.reduceMul, Nat.reduceSub, Nat.reduceLeDiff, reduceCtorEq, not_true_eq_false, not_false_eq_true, true_imp_iff, false_imp_iff, zc_0, zc_1, zc_2, zc_3, zc_4, zc_5, zc_6, zc_8, zc_9, zc_10, zc_32, zc_36, zc_48, zc_64, zc_80, zc_120, zc_128, zc_248, zc_320, zc_400, zc_800, zc_1200, zc_2001, zc_4002, Int.reduceLT, Int.reduceLE, Int.reduceNeg, Nat.zero_ne_one, Nat.one_ne_zero, or_true, true_or, or_false, false_or, ti_0, ti_1, ti_2, ti_3, ti_4, ti_5, ti_6, ti_7, ti_8, ti_9, ti_10, ti_11, ti_12, ti_13, ti_14, ti_15, ti_16, ti_17, ti_18, ti_19, ti_20, ti_21, ti_22, ti_23, ti_24, ti_25, ti_26, ti_27, ti_28, ti_29, ti_30, ti_31, ti_32, ti_33, ti_34, ti_35, ti_36, ti_37, ti_38, ti_39, ti_40, ti_41, ti_42, ti_43, ti_44, ti_45, ti_46, ti_47, ti_48, ti_49, ti_50, ti_51, ti_52, ti_53, ti_54, ti_55, ti_56, ti_57, ti_58, ti_59, ti_60, ti_61, ti_62, ti_63, ti_64, ti_65, ti_66, ti_67, ti_68, ti_69, ti_70, ti_71, ti_72, ti_73, ti_74, ti_75, ti_76, ti_77, ti_78, ti_79, ti_80, ti_81, ti_82, ti_83, ti_84, ti_85, ti_86, ti_87, ti_88, ti_89, ti_90, ti_91, ti_92, ti_93, ti_94, ti_95, ti_96, ti_97, ti_98, ti_99, ti_100, ti_101, ti_102, ti_103, ti_104, ti_105, ti_106, ti_107, ti_108, ti_109, ti_110, ti_111, ti_112, ti_113, ti_114, ti_115, ti_116, ti_117, ti_118, ti_119, ti_120, ti_121, ti_122, ti_123, ti_124, ti_125, ti_126, ti_127, ti_128, ti_129, ti_200, ti_248, ti_255, ti_256, ti_400, ti_1000, ti_2000, ti_2001, ti_1000000, tj_1, tj_2, tj_8, tj_10, tj_1000, tc_0, tc_1, tc_2, tc_3, tc_4, tc_5, tc_6, tc_7, tc_8, i32_lt, i32_le, MR_sI, mo0 hm, ma1 hm, ml1 hm, ms1 hm, ma2 hm, ml2 hm, ms2 hm, ma3 hm, ml3 hm, ms3 hm, ma4 hm, ml4 hm, ms4 hm, ma5 hm, ml5 hm, ms5 hm, ma6 hm, ml6 hm, ms6 hm, ma7 hm, ml7 hm, ms7 hm, ma8 hm, ml8 hm, ms8 hm, ma9 hm, ml9 hm, ms9 hm, ma10 hm, ml10 hm, ms10 hm, ma11 hm, ml11 hm, ms11 hm, ma12 hm, ml12 hm, ms12 hm, ma13 hm, ml13 hm, ms13 hm, ma14 hm, ml14 hm, ms14 hm, ma15 hm, ml15 hm, ms15 hm, ma16 hm, ml16 hm, ms16 hm, ma17 hm, ml17 hm, ms17 hm, ma18 hm, ml18 hm, ms18 hm, ma19 hm, ml19 hm, ms19 hm, ma20 hm, ml20 hm, ms20 hm, ma21 hm, ml21 hm, ms21 hm, ma22 hm, ml22 hm, ms22 hm, ma23 hm, ml23 hm, ms23 hm, ma24 hm, ml24 hm, ms24 hm, ma25 hm, ml25 hm, ms25 hm, ma26 hm, ml26 hm, ms26 hm, ma27 hm, ml27 hm, ms27 hm, ma28 hm, ml28 hm, ms28 hm, ma29 hm, ml29 hm, ms29 hm, ma30 hm, ml30 hm, ms30 hm, ma31 hm, ml31 hm, ms31 hm, ma32 hm, ml32 hm, ms32 hm, ma33 hm, ml33 hm, ms33 hm, ma34 hm, ml34 hm, ms34 hm, ma35 hm, ml35 hm, ms35 hm, ma36 hm, ml36 hm, ms36 hm, ma37 hm, ml37 hm, ms37 hm, ma38 hm, ml38 hm, ms38 hm, ma39 hm, ml39 hm, ms39 hm, ma40 hm, ml40 hm, ms40 hm, ma41 hm, ml41 hm, ms41 hm, ma42 hm, ml42 hm, ms42 hm, ma43 hm, ml43 hm, ms43 hm, ma44 hm, ml44 hm, ms44 hm, ma45 hm, ml45 hm, ms45 hm, ma46 hm, ml46 hm, ms46 hm, ma47 hm, ml47 hm, ms47 hm, mr0_0 hm, mr0_5 hm, mr0_6 hm, mr0_7 hm, mr0_8 hm, mr0_9 hm, mr0_10 hm, mr0_11 hm, mr0_12 hm, mr0_17 hm, mr0_18 hm, mr0_19 hm, mr0_20 hm, mr0_21 hm, mr0_22 hm, mr0_23 hm, mr0_24 hm, mr0_25 hm, mr0_26 hm, mr0_27 hm, mr0_28 hm, mr0_29 hm, mr0_30 hm, mr0_31 hm, mr0_32 hm, mr0_33 hm, mr0_34 hm, mr0_35 hm, mr0_41 hm, mr0_42 hm, mr0_43 hm, mr0_45 hm, mr0_46 hm, mr0_55 hm, mr0_56 hm, mr0_57 hm, mr0_58 hm, mr0_59 hm, mr0_62 hm, mr0_63 hm, mr0_64 hm, mr0_65 hm, mr0_66 hm, mr0_67 hm, mr0_68 hm, mr0_69 hm, mr0_70 hm, hz, h71, t3, k1, nI_1]
      exact hgo
    · have k1 : ¬ (m : Int) ≤ 0 := by omega
      simp only [z194_241, z194_242, z194_244, z194_246, z194_248, z194_251, z194_252, z194_275, z194_276, z194_277, z194_285, z194_286, z194_289, z194_292, z194_295, gIn_toInt, nI_toInt, Nat.reduceLT, Nat.reducePow, va_rf_none, va_rf_some, gObj_sI, gObj_sR, gAr_sI, gAr_sR, gLen_sI, gLen_sR, gsI_1, gsI_2, gsR_1, gsR_2, gU_ref, gU_null, gU_rf, gisRef_ref, gisRef_null, gisRef_rf, Option.toList_some, Option.toList_none, List.cons_append, List.nil_append, true_and, and_true, false_and, and_false, ↓reduceIte, if_true, if_false, Nat.reduceEqDiff, Nat.reduceAdd, Nat.reduceMul, Nat.reduceSub, Nat.reduceLeDiff, reduceCtorEq, not_true_eq_false, not_false_eq_true, true_imp_iff, false_imp_iff, zc_0, zc_1, zc_2, zc_3, zc_4, zc_5, zc_6, zc_8, zc_9, zc_10, zc_32, zc_36, zc_48, zc_64, zc_80, zc_120, zc_128, zc_248, zc_320, zc_400, zc_800, zc_1200, zc_2001, zc_4002, Int.reduceLT, Int.reduceLE, Int.reduceNeg, Nat.zero_ne_one, Nat.one_ne_zero, or_true, true_or, or_false, false_or, ti_0, ti_1, ti_2, ti_3, ti_4, ti_5, ti_6, ti_7, ti_8, ti_9, ti_10, ti_11, ti_12, ti_13, ti_14, ti_15, ti_16, ti_17, ti_18, ti_19, ti_20, ti_21, ti_22, ti_23, ti_24, ti_25, ti_26, ti_27, ti_28, ti_29, ti_30, ti_31, ti_32, ti_33, ti_34, ti_35, ti_36, ti_37, ti_38, ti_39, ti_40, ti_41, ti_42, ti_43, ti_44, ti_45, ti_46, ti_47, ti_48, ti_49, ti_50, ti_51, ti_52, ti_53, ti_54, ti_55, ti_56, ti_57, ti_58, ti_59, ti_60, ti_61, ti_62, ti_63, ti_64, ti_65, ti_66, ti_67, ti_68, ti_69, ti_70, ti_71, ti_72, ti_73, ti_74, ti_75, ti_76, ti_77, ti_78, ti_79, ti_80, ti_81, ti_82, ti_83, ti_84, ti_85, ti_86, ti_87, ti_88, ti_89, ti_90, ti_91, ti_92, ti_93, ti_94, ti_95, ti_96, ti_97, ti_98, ti_99, ti_100, ti_101, ti_102, ti_103, ti_104, ti_105, ti_106, ti_107, ti_108, ti_109, ti_110, ti_111, ti_112, ti_113, ti_114, ti_115, ti_116, ti_117, ti_118, ti_119, ti_120, ti_121, ti_122, ti_123, ti_124, ti_125, ti_126, ti_127, ti_128, ti_129, ti_200, ti_248, ti_255, ti_256, ti_400, ti_1000, ti_2000, ti_2001, ti_1000000, tj_1, tj_2, tj_8, tj_10, tj_1000, tc_0, tc_1, tc_2, tc_3, tc_4, tc_5, tc_6, tc_7, tc_8, i32_lt, i32_le, MR_sI, mo0 hm, ma1 hm, ml1 hm, ms1 hm, ma2 hm, ml2 hm, ms2 hm, ma3 hm, ml3 hm, ms3 hm, ma4 hm, ml4 hm, ms4 hm, ma5 hm, ml5 hm, ms5 hm, ma6 hm, ml6 hm, ms6 hm, ma7 hm, ml7 hm, ms7 hm, ma8 hm, ml8 hm, ms8 hm, ma9 hm, ml9 hm, ms9 hm, ma10 hm, ml10 hm, ms10 hm, ma11 hm, ml11 hm, ms11 hm, ma12 hm, ml12 hm, ms12 hm, ma13 hm, ml13 hm, ms13 hm, ma14 hm, ml14 hm, ms14 hm, ma15 hm, ml15 hm, ms15 hm, ma16 hm, ml16 hm, ms16 hm, ma17 hm, ml17 hm, ms17 hm, ma18 hm, ml18 hm, ms18 hm, ma19 hm, ml19 hm, ms19 hm, ma20 hm, ml20 hm, ms20 hm, ma21 hm, ml21 hm, ms21 hm, ma22 hm, ml22 hm, ms22 hm, ma23 hm, ml23 hm, ms23 hm, ma24 hm, ml24 hm, ms24 hm, ma25 hm, ml25 hm, ms25 hm, ma26 hm, ml26 hm, ms26 hm, ma27 hm, ml27 hm, ms27 hm, ma28 hm, ml28 hm, ms28 hm, ma29 hm, ml29 hm, ms29 hm, ma30 hm, ml30 hm, ms30 hm, ma31 hm, ml31 hm, ms31 hm, ma32 hm, ml32 hm, ms32 hm, ma33 hm, ml33 hm, ms33 hm, ma34 hm, ml34 hm, ms34 hm, ma35 hm, ml35 hm, ms35 hm, ma36 hm, ml36 hm, ms36 hm, ma37 hm, ml37 hm, ms37 hm, ma38 hm, ml38 hm, ms38 hm, ma39 hm, ml39 hm, ms39 hm, ma40 hm, ml40 hm, ms40 hm, ma41 hm, ml41 hm, ms41 hm, ma42 hm, ml42 hm, ms42 hm, ma43 hm, ml43 hm, ms43 hm, ma44 hm, ml44 hm, ms44 hm, ma45 hm, ml45 hm, ms45 hm, ma46 hm, ml46 hm, ms46 hm, ma47 hm, ml47 hm, ms47 hm, mr0_0 hm, mr0_5 hm, mr0_6 hm, mr0_7 hm, mr0_8 hm, mr0_9 hm, mr0_10 hm, mr0_11 hm, mr0_12 hm, mr0_17 hm, mr0_18 hm, mr0_19 hm, mr0_20 hm, mr0_21 hm, mr0_22 hm, mr0_23 hm, mr0_24 hm, mr0_25 hm, mr0_26 hm, mr0_27 hm, mr0_28 hm, mr0_29 hm, mr0_30 hm, mr0_31 hm, mr0_32 hm, mr0_33 hm, mr0_34 hm, mr0_35 hm, mr0_41 hm, mr0_42 hm, mr0_43 hm, mr0_45 hm, mr0_46 hm, mr0_55 hm, mr0_56 hm, mr0_57 hm, mr0_58 hm, mr0_59 hm, mr0_62 hm, mr0_63 hm, mr0_64 hm, mr0_65 hm, mr0_66 hm, mr0_67 hm, mr0_68 hm, mr0_69 hm, mr0_70 hm, hz, h71, t3, k1, nI_1]
      exact hgo
end
