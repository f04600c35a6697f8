/-! The reference: moves, its inner loop. -/
abbrev rSt : Type := (Nat → Bool) × List Nat
def rHold (ly : Nat → Nat → Nat) (n : Nat) (pin : Option Nat) (g : Nat → Bool) (a : Nat) : Nat := 4 * nPs ly a n + rStr ly (fun q => !g q) n a n + (if some a = pin then 4 else 0)
def rStep (ly : Nat → Nat → Nat) (n : Nat) (pu : Nat → Nat) (pin : Option Nat) (a : Nat) (s : rSt) : rSt := if s.1 a = false ∧ rHas ly a n = true ∧ rHold ly n pin s.1 a < pu a then ((fun q => if q = a then true else s.1 q), s.2 ++ [a]) else s
def rMv (ly : Nat → Nat → Nat) (n : Nat) (pu : Nat → Nat) (pin : Option Nat) : Nat → rSt → rSt
  | 0, s => s
  | a + 1, s => rMv ly n pu pin a (rStep ly n pu pin a s)
def rPlay (ly : Nat → Nat → Nat) (n : Nat) (f : Nat → Nat → Nat) (A : Nat) (pin : Option Nat) : Nat → rSt
  | 0 => (fun _ => false, [])
  | m + 1 => rMv ly n (fun a => rPu ly (f m) a n) pin A (rPlay ly n f A pin m)
def mHl (M : gM) (A : Nat) (s : rSt) : Prop := (∀ a, a < A → M.1 34 a = if s.1 a then 1 else 0) ∧ M.1 0 61 = nI s.2.length ∧ ∀ (i : Nat) (a : Nat), s.2[i]? = some a → M.1 38 i = nI a
def inH (o k : Nat) : Prop := o = 34 ∨ o = 38 ∨ (o = 0 ∧ k = 61)
theorem rUp_c {ly : Nat → Nat → Nat} {al al' : Nat → Bool} {k r n : Nat} (h : ∀ j, j < n → al (ly j 0) = al' (ly j 0)) : ∀ c, k + 1 + c ≤ n → rUp ly al k r c = rUp ly al' k r c
  | 0, _ => rfl
  | c + 1, hc => by
    unfold rUp
    rw [rUp_c h c (by omega), h (k + 1 + c) (by omega)]
theorem nMxI_c {f f' : Nat → Nat} {i lo : Nat} : ∀ c, (∀ r, lo ≤ r → r < lo + c → f r = f' r) → nMxI f i lo c = nMxI f' i lo c
  | 0, _ => rfl
  | c + 1, h => by
    unfold nMxI
    rw [nMxI_c c (fun r h1 h2 => h r h1 (by omega)), h (lo + c) (by omega) (by omega)]
theorem rStr_c {ly : Nat → Nat → Nat} {al al' : Nat → Bool} {n a : Nat} (h : ∀ j, j < n → al (ly j 0) = al' (ly j 0)) : ∀ k, k ≤ n → rStr ly al n a k = rStr ly al' n a k
  | 0, _ => rfl
  | k + 1, hk => by
    unfold rStr
    rw [rStr_c h k (by omega), nMxI_c (f := fun r => rUp ly al k r (n - (k + 1))) (f' := fun r => rUp ly al' k r (n - (k + 1))) (ly k 5) (fun r _ _ => rUp_c h _ (by omega))]
theorem rPu_c {ly : Nat → Nat → Nat} {st st' : Nat → Nat} {a n : Nat} (h : ∀ r, r < 8 → st r = st' r) (hl : ∀ k, k < n → ly k 1 + ly k 5 ≤ 8) : ∀ k, k ≤ n → rPu ly st a k = rPu ly st' a k
  | 0, _ => rfl
  | k + 1, hk => by
    unfold rPu
    rw [rPu_c h hl k (by omega), nMxI_c (f := st) (f' := st') (ly k 5) (fun r _ h2 => h r (by have := hl k (by omega); omega))]
theorem rPu_b {ly : Nat → Nat → Nat} {st : Nat → Nat} {a n : Nat} (hst : ∀ q, q < 8 → st q ≤ 9) (hl : ∀ k, k < n → ly k 1 + ly k 5 ≤ 8) : ∀ k, k ≤ n → rPu ly st a k ≤ 9 * k
  | 0, _ => Nat.zero_le _
  | k + 1, hk => by
    have h := rPu_b (a := a) hst hl k (by omega)
    unfold rPu
    split
    · have := nMxI_le (f := st) (init := 0) (lo := ly k 1) (B := 9) (by omega) (ly k 5) (fun r hr => hst r (by have := hl k (by omega); omega))
      omega
    · omega
theorem nPs_b {ly : Nat → Nat → Nat} {a n : Nat} (h : ∀ k, k < n → ly k 7 ≤ 2000) : ∀ k, k ≤ n → nPs ly a k ≤ 2000 * k
  | 0, _ => Nat.zero_le _
  | k + 1, hk => by
    have h1 := nPs_b (a := a) h k (by omega)
    have h2 := h k (by omega)
    unfold nPs
    split <;> omega
section
variable {d n k c so m A : Nat} {M M0 M2 : gM} {Z : Option Value → gM → Prop} {i r s x v y th : Int32} {ly : Nat → Nat → Nat} {al : Nat → Bool} {st sv tp : Nat → Nat} {q : rSt}
theorem mL0_fr {P : Nat → Nat → Prop} (hf : gFq P M M2) (h1 : ¬ P 20 0) (h2 : ∀ o k, 10 ≤ o → o ≤ 16 → k < 400 → ¬ P o k) (h : mL0 M n ly) : mL0 M2 n ly :=
  ⟨⟨by rw [hf.2 20 0 h1]; exact h.1.1, h.1.2⟩, fun k hk => ⟨(h.2 k hk).1, fun f hf2 => by have := h.1.2; rw [hf.2 (10 + f) k (h2 _ _ (by omega) (by omega) (by omega))]; exact (h.2 k hk).2 f hf2⟩⟩
theorem m_mvIn (hm : MR M0) (hl : mL0 M0 n ly) (h4 : ∀ k, k < n → ly k 0 < A) (hA : A ≤ 2000) (h19 : M0.1 19 0 = nI A) (hp : ∀ a, a < A → M0.1 17 a = nI (nPs ly a n)) (hst : xSt M0 36 st) {kk mv : Nat} (hkk : kk < 6) (hmv : M0.1 37 kk = nI mv) (hmv6 : mv < 6) {a1 : Option Value}
    (hK : ∀ M2 q2 a3, gFq inH M0 M2 → mHl M2 A q2 → q2 = rMv ly n (fun a => rPu ly (fun r => st (8 * mv + r)) a n) none A q → q2.2.length + nCnt q2.1 A ≤ A → Run (d + 4) 183 246 [some (.ref 0), a1, some (.int (nI kk)), a3] [] M2 0 0 Z) : ∀ a s M, a ≤ A → gFq inH M0 M → mHl M A s → s.2.length + nCnt s.1 A ≤ A → rMv ly n (fun a => rPu ly (fun r => st (8 * mv + r)) a n) none a s = rMv ly n (fun a => rPu ly (fun r => st (8 * mv + r)) a n) none A q →
      Run (d + 4) 183 168 [some (.ref 0), a1, some (.int (nI kk)), some (.int (nI a - 1))] [] M 0 0 Z
  | 0, s, M, _, hf, hs, hc, he => by
    have hgo := hK M s (some (.int (-1))) hf hs he hc
    have l1 : (-1 : Int32).toInt = -1 := by decide
    have k1 : (-1 : Int) < 0 := by decide
    rw [nI_0m, z183_168]
    simp only [z183_169, gIn_toInt, nI_toInt, Nat.reduceLT, Nat.reducePow, va_rf_none, va_rf_some, gObj_sI, gObj_sR, gAr_sI, gAr_sR, gLen_sI, gLen_sR, gsI_1, gsI_2, gsR_1, gsR_2, gU_ref, gU_null, gU_rf, gisRef_ref, gisRef_null, gisRef_rf, Option.toList_some, Option.toList_none, List.cons_append, List.nil_append, true_and, and_true, false_and, and_false, ↓reduceIte, if_true, if_false, Nat.reduceEqDiff, Nat.reduceAdd, Nat.reduceMul, Nat.reduceSub, Nat.reduceLeDiff, reduceCtorEq, not_true_eq_false, not_false_eq_true, true_imp_iff, false_imp_iff, zc_0, zc_1, zc_2, zc_3, zc_4, zc_5, zc_6, zc_8, zc_9, zc_10, zc_32, zc_36, zc_48, zc_64, zc_80, zc_120, zc_128, zc_248, zc_320, zc_400, zc_800, zc_1200, zc_2001, zc_4002, Int.reduceLT, Int.reduceLE, Int.reduceNeg, Nat.zero_ne_one, Nat.one_ne_zero, or_true, true_or, or_false, false_or, ti_0, ti_1, ti_2, ti_3, ti_4, ti_5, ti_6, ti_7, ti_8, ti_9, ti_10, ti_11, ti_12, ti_13, ti_14, ti_15, ti_16, ti_17, ti_18, ti_19, ti_20, ti_21, ti_22, ti_23, ti_24, ti_25, ti_26, ti_27, ti_28, ti_29, ti_30, ti_31, ti_32, ti_33, ti_34, ti_35, ti_36, ti_37, ti_38, ti_39, ti_40, ti_41, ti_42, ti_43, ti_44, ti_45, ti_46, ti_47, ti_48, ti_49, ti_50, ti_51, ti_52, ti_53, ti_54, ti_55, ti_56, ti_57, ti_58, ti_59, ti_60, ti_61, ti_62, ti_63, ti_64, ti_65, ti_66, ti_67, ti_68, ti_69, ti_70, ti_71, ti_72, ti_73, ti_74, ti_75, ti_76, ti_77, ti_78, ti_79, ti_80, ti_81, ti_82, ti_83, ti_84, ti_85, ti_86, ti_87, ti_88, ti_89, ti_90, ti_91, ti_92, ti_93, ti_94, ti_95, ti_96, ti_97, ti_98, ti_99, ti_100, ti_101, ti_102, ti_103, ti_104, ti_105, ti_106, ti_107, ti_108, ti_109, ti_110, ti_111, ti_112, ti_113, ti_114, ti_115, ti_116, ti_117, ti_118, ti_119, ti_120, ti_121, ti_122, ti_123, ti_124, ti_125, ti_126, ti_127, ti_128, ti_129, ti_200, ti_248, ti_255, ti_256, ti_400, ti_1000, ti_2000, ti_2001, ti_1000000, tj_1, tj_2, tj_8, tj_10, tj_1000, tc_0, tc_1, tc_2, tc_3, tc_4, tc_5, tc_6, tc_7, tc_8, i32_lt, i32_le, l1, k1]
    exact hgo
  | a + 1, s, M, ha, hf, hs, hc, he => by
    have hm1 := gFq_M hf hm
    have hl1 := mL0_fr hf (by unfold inH; omega) (fun o k h1 h2 h3 => by unfold inH; omega) hl
    have h4' : ∀ k, k < n → ly k 0 ≤ 2000 := fun k hk => by have := h4 k hk; omega
    have ih := fun s M => m_mvIn hm hl h4 hA h19 hp hst hkk hmv hmv6 hK a s M (by omega)
    have he2 : rMv ly n (fun a => rPu ly (fun r => st (8 * mv + r)) a n) none a (rStep ly n (fun a => rPu ly (fun r => st (8 * mv + r)) a n) none a s) = rMv ly n (fun a => rPu ly (fun r => st (8 * mv + r)) a n) none A q := he
    have t1 := nI_ti (show a ≤ 2000 by omega)
    have t2 := nI_tc (show a ≤ 2000 by omega)
    have k1 : ¬ (a : Int) < 0 := by omega
    have k2 : 0 ≤ (a : Int) ∧ (a : Int) < 2001 := by omega
    have t3 := nI_ti (show kk ≤ 2000 by omega)
    have t4 := nI_tc (show kk ≤ 2000 by omega)
    have k3 : 0 ≤ (kk : Int) ∧ (kk : Int) < 6 := by omega
    have hi : nI a + -1 = nI a - 1 := by rw [Int32.sub_eq_add_neg]
    have hga := hs.1 a (by omega)
    have k0 : ¬ (1 : Int32) = 0 := by decide
    have z177 := fun a0 a1 a2 a3 x Z => z183_177 (d := d + 4) (M := M) (a0 := a0) (a1 := a1) (a2 := a2) (a3 := a3) (x := x) (Z := Z) (ma34 hm1)
    have h36 : M.1 37 kk = nI mv := by rw [hf.2 37 kk (by unfold inH; omega)]; exact hmv
    rw [nI_s1, z183_168]
    by_cases hg : s.1 a = true
    · rw [hg, if_pos rfl] at hga
      have hstp : rStep ly n (fun a => rPu ly (fun r => st (8 * mv + r)) a n) none a s = s := by unfold rStep; rw [if_neg (fun z => by rw [hg] at z; exact absurd z.1 (by decide))]
      rw [hstp] at he2
      simp only [z183_169, z183_172, z183_173, z183_176, z183_178, z177, z183_240, z183_243, gIn_toInt, nI_toInt, Nat.reduceLT, Nat.reducePow, va_rf_none, va_rf_some, gObj_sI, gObj_sR, gAr_sI, gAr_sR, gLen_sI, gLen_sR, gsI_1, gsI_2, gsR_1, gsR_2, gU_ref, gU_null, gU_rf, gisRef_ref, gisRef_null, gisRef_rf, Option.toList_some, Option.toList_none, List.cons_append, List.nil_append, true_and, and_true, false_and, and_false, ↓reduceIte, if_true, if_false, Nat.reduceEqDiff, Nat.reduceAdd, Nat.reduceMul, Nat.reduceSub, Nat.reduceLeDiff, reduceCtorEq, not_true_eq_false, not_false_eq_true, true_imp_iff, false_imp_iff, zc_0, zc_1, zc_2, zc_3, zc_4, zc_5, zc_6, zc_8, zc_9, zc_10, zc_32, zc_36, zc_48, zc_64, zc_80, zc_120, zc_128, zc_248, zc_320, zc_400, zc_800, zc_1200, zc_2001, zc_4002, Int.reduceLT, Int.reduceLE, Int.reduceNeg, Nat.zero_ne_one, Nat.one_ne_zero, or_true, true_or, or_false, false_or, ti_0, ti_1, ti_2, ti_3, ti_4, ti_5, ti_6, ti_7, ti_8, ti_9, ti_10, ti_11, ti_12, ti_13, ti_14, ti_15, ti_16, ti_17, ti_18, ti_19, ti_20, ti_21, ti_22, ti_23, ti_24, ti_25, ti_26, ti_27, ti_28, ti_29, ti_30, ti_31, ti_32, ti_33, ti_34, ti_35, ti_36, ti_37, ti_38, ti_39, ti_40, ti_41, ti_42, ti_43, ti_44, ti_45, ti_46, ti_47, ti_48, ti_49, ti_50, ti_51, ti_52, ti_53, ti_54, ti_55, ti_56, ti_57, ti_58, ti_59, ti_60, ti_61, ti_62, ti_63, ti_64, ti_65, ti_66, ti_67, ti_68, ti_69, ti_70, ti_71, ti_72, ti_73, ti_74, ti_75, ti_76, ti_77, ti_78, ti_79, ti_80, ti_81, ti_82, ti_83, ti_84, ti_85, ti_86, ti_87, ti_88, ti_89, ti_90, ti_91, ti_92, ti_93, ti_94, ti_95, ti_96, ti_97, ti_98, ti_99, ti_100, ti_101, ti_102, ti_103, ti_104, ti_105, ti_106, ti_107, ti_108, ti_109, ti_110, ti_111, ti_112, ti_113, ti_114, ti_115, ti_116, ti_117, ti_118, ti_119, ti_120, ti_121, ti_122, ti_123, ti_124, ti_125, ti_126, ti_127, ti_128, ti_129, ti_200, ti_248, ti_255, ti_256, ti_400, ti_1000, ti_2000, ti_2001, ti_1000000, tj_1, tj_2, tj_8, tj_10, tj_1000, tc_0, tc_1, tc_2, tc_3, tc_4, tc_5, tc_6, tc_7, tc_8, i32_lt, i32_le, MR_sI, mo0 hm1, ma1 hm1, ml1 hm1, ms1 hm1, ma2 hm1, ml2 hm1, ms2 hm1, ma3 hm1, ml3 hm1, ms3 hm1, ma4 hm1, ml4 hm1, ms4 hm1, ma5 hm1, ml5 hm1, ms5 hm1, ma6 hm1, ml6 hm1, ms6 hm1, ma7 hm1, ml7 hm1, ms7 hm1, ma8 hm1, ml8 hm1, ms8 hm1, ma9 hm1, ml9 hm1, ms9 hm1, ma10 hm1, ml10 hm1, ms10 hm1, ma11 hm1, ml11 hm1, ms11 hm1, ma12 hm1, ml12 hm1, ms12 hm1, ma13 hm1, ml13 hm1, ms13 hm1, ma14 hm1, ml14 hm1, ms14 hm1, ma15 hm1, ml15 hm1, ms15 hm1, ma16 hm1, ml16 hm1, ms16 hm1, ma17 hm1, ml17 hm1, ms17 hm1, ma18 hm1, ml18 hm1, ms18 hm1, ma19 hm1, ml19 hm1, ms19 hm1, ma20 hm1, ml20 hm1, ms20 hm1, ma21 hm1, ml21 hm1, ms21 hm1, ma22 hm1, ml22 hm1, ms22 hm1, ma23 hm1, ml23 hm1, ms23 hm1, ma24 hm1, ml24 hm1, ms24 hm1, ma25 hm1, ml25 hm1, ms25 hm1, ma26 hm1, ml26 hm1, ms26 hm1, ma27 hm1, ml27 hm1, ms27 hm1, ma28 hm1, ml28 hm1, ms28 hm1, ma29 hm1, ml29 hm1, ms29 hm1, ma30 hm1, ml30 hm1, ms30 hm1, ma31 hm1, ml31 hm1, ms31 hm1, ma32 hm1, ml32 hm1, ms32 hm1, ma33 hm1, ml33 hm1, ms33 hm1, ma34 hm1, ml34 hm1, ms34 hm1, ma35 hm1, ml35 hm1, ms35 hm1, ma36 hm1, ml36 hm1, ms36 hm1, ma37 hm1, ml37 hm1, ms37 hm1, ma38 hm1, ml38 hm1, ms38 hm1, ma39 hm1, ml39 hm1, ms39 hm1, ma40 hm1, ml40 hm1, ms40 hm1, ma41 hm1, ml41 hm1, ms41 hm1, ma42 hm1, ml42 hm1, ms42 hm1, ma43 hm1, ml43 hm1, ms43 hm1, ma44 hm1, ml44 hm1, ms44 hm1, ma45 hm1, ml45 hm1, ms45 hm1, ma46 hm1, ml46 hm1, ms46 hm1, ma47 hm1, ml47 hm1, ms47 hm1, mr0_0 hm1, mr0_5 hm1, mr0_6 hm1, mr0_7 hm1, mr0_8 hm1, mr0_9 hm1, mr0_10 hm1, mr0_11 hm1, mr0_12 hm1, mr0_17 hm1, mr0_18 hm1, mr0_19 hm1, mr0_20 hm1, mr0_21 hm1, mr0_22 hm1, mr0_23 hm1, mr0_24 hm1, mr0_25 hm1, mr0_26 hm1, mr0_27 hm1, mr0_28 hm1, mr0_29 hm1, mr0_30 hm1, mr0_31 hm1, mr0_32 hm1, mr0_33 hm1, mr0_34 hm1, mr0_35 hm1, mr0_41 hm1, mr0_42 hm1, mr0_43 hm1, mr0_45 hm1, mr0_46 hm1, mr0_55 hm1, mr0_56 hm1, mr0_57 hm1, mr0_58 hm1, mr0_59 hm1, mr0_62 hm1, mr0_63 hm1, mr0_64 hm1, mr0_65 hm1, mr0_66 hm1, mr0_67 hm1, mr0_68 hm1, mr0_69 hm1, mr0_70 hm1, t1, t2, k1, k2, hga, k0, hi]
      exact ih s M hf hs hc he2
    · have hgf : s.1 a = false := by simpa using hg
      rw [if_neg hg] at hga
      have hhas := fun Z => m_hasLayers (d := d + 3) (Z := Z) hm1 hl1 h4' (b := a) (by omega)
      by_cases hh : rHas ly a n = true
      · rw [gb_1.mpr hh] at hhas
        have hst1 : xSt M 36 st := fun q hq => by rw [hf.2 36 q (by unfold inH; omega)]; exact hst q hq
        have hpul := fun Z => m_pullOf (d := d + 2) (Z := Z) (th := 1) hm1 hl1 h4' (Or.inr ⟨k0, rfl⟩) hst1 hmv6 (b := a) (by omega)
        have hstg := fun Z => m_strengthOf (d := d) (Z := Z) (a := 0) (al := fun q => decide (M.1 34 q = 0)) (b := a) (p := nPs ly a n) hm1 hl1 h4' (fun q _ => by simp) (by omega) (by rw [hf.2 17 a (by unfold inH; omega)]; exact hp a (by omega))
        have hcg : rStr ly (fun q => decide (M.1 34 q = 0)) n a n = rStr ly (fun q => !s.1 q) n a n := rStr_c (fun j hj => by
          have := hs.1 (ly j 0) (h4 j hj)
          show decide (M.1 34 (ly j 0) = 0) = !s.1 (ly j 0)
          rw [this]
          cases s.1 (ly j 0) <;> decide) n (Nat.le_refl _)
        rw [hcg] at hstg
        have hn := hl.1.2
        have hb1 : rPu ly (fun r => st (8 * mv + r)) a n ≤ 9 * n := rPu_b (fun q hq => (hst _ (by omega)).2) (fun k hk => (hl.2 k hk).1.2.1) n (Nat.le_refl _)
        have hb2 : nPs ly a n ≤ 2000 * n := nPs_b (fun k hk => (hl.2 k hk).1.2.2.2.2.2.2.2) n (Nat.le_refl _)
        have hb3 := rStr_le (ly := ly) (al := fun q => !s.1 q) (n := n) (a := a) n
        have u1 := nI_toInt (show rPu ly (fun r => st (8 * mv + r)) a n < 2 ^ 31 by omega)
        have u2 := nI_toInt (show 4 * nPs ly a n + rStr ly (fun q => !s.1 q) n a n < 2 ^ 31 by omega)
        by_cases hgt : 4 * nPs ly a n + rStr ly (fun q => !s.1 q) n a n < rPu ly (fun r => st (8 * mv + r)) a n
        · have k4 : ((4 * nPs ly a n + rStr ly (fun q => !s.1 q) n a n : Nat) : Int) < ((rPu ly (fun r => st (8 * mv + r)) a n : Nat) : Int) := by omega
          have hstp : rStep ly n (fun a => rPu ly (fun r => st (8 * mv + r)) a n) none a s = ((fun q => if q = a then true else s.1 q), s.2 ++ [a]) := by
            unfold rStep rHold
            rw [if_pos ⟨hgf, hh, by rw [if_neg (by simp)]; exact hgt⟩]
          rw [hstp] at he2
          have hlt := nCnt_lt (g := s.1) (g' := fun q => if q = a then true else s.1 q) (fun q hq => by show (if q = a then true else s.1 q) = true; split; rfl; exact hq) hgf (by simp) A (by omega)
          have z219 := fun M' a0 a1 a2 a3 x y (h : gAr M' 34 2) Z => z183_219 (d := d + 4) (M := M') (o := 34) (a0 := a0) (a1 := a1) (a2 := a2) (a3 := a3) (x := x) (y := y) (Z := Z) h
          have h61 := hs.2.1
          have t6 := nI_ti (show s.2.length ≤ 2000 by omega)
          have t7 := nI_tc (show s.2.length ≤ 2000 by omega)
          have k6 : 0 ≤ (s.2.length : Int) ∧ (s.2.length : Int) < 2001 := by omega
          have e11 : (1 : Int32) &&& 1 = 1 := by decide
          have m34 := ma34 hm1
          have hgo := ih ((fun q => if q = a then true else s.1 q), s.2 ++ [a]) (gsI (gsI (gsI M 34 a 1) 38 s.2.length (nI a)) 0 61 (nI (s.2.length + 1))) (gFq_tr hf (gFq_tr (gFq_sI (Or.inl rfl)) (gFq_tr (gFq_sI (Or.inr (Or.inl rfl))) (gFq_sI (Or.inr (Or.inr ⟨rfl, rfl⟩)))))) ⟨fun b hb => ?_, ?_, fun i b hib => ?_⟩ (by simp only [List.length_append, List.length_cons, List.length_nil]; omega) he2
          · simp only [z183_169, z183_172, z183_173, z183_176, z183_178, z183_181, z183_182, z183_183, z183_186, z183_189, z183_190, z183_191, z183_194, z183_195, z183_196, z183_197, z183_198, z183_201, z183_202, z183_203, z183_204, z183_207, z177, z183_213, z183_214, z183_217, z183_218, z183_220, z183_221, z183_224, z183_225, z183_228, z183_229, z183_230, z183_231, z183_232, z183_235, z183_236, z183_237, z183_240, z183_243, z219, m34, gIn_toInt, nI_toInt, Nat.reduceLT, Nat.reducePow, va_rf_none, va_rf_some, gObj_sI, gObj_sR, gAr_sI, gAr_sR, gLen_sI, gLen_sR, gsI_1, gsI_2, gsR_1, gsR_2, gU_ref, gU_null, gU_rf, gisRef_ref, gisRef_null, gisRef_rf, Option.toList_some, Option.toList_none, List.cons_append, List.nil_append, true_and, and_true, false_and, and_false, ↓reduceIte, if_true, if_false, Nat.reduceEqDiff, Nat.reduceAdd, Nat.reduceMul, Nat.reduceSub, Nat.reduceLeDiff, reduceCtorEq, not_true_eq_false, not_false_eq_true, true_imp_iff, false_imp_iff, zc_0, zc_1, zc_2, zc_3, zc_4, zc_5, zc_6, zc_8, zc_9, zc_10, zc_32, zc_36, zc_48, zc_64, zc_80, zc_120, zc_128, zc_248, zc_320, zc_400, zc_800, zc_1200, zc_2001, zc_4002, Int.reduceLT, Int.reduceLE, Int.reduceNeg, Nat.zero_ne_one, Nat.one_ne_zero, or_true, true_or, or_false, false_or, ti_0, ti_1, ti_2, ti_3, ti_4, ti_5, ti_6, ti_7, ti_8, ti_9, ti_10, ti_11, ti_12, ti_13, ti_14, ti_15, ti_16, ti_17, ti_18, ti_19, ti_20, ti_21, ti_22, ti_23, ti_24, ti_25, ti_26, ti_27, ti_28, ti_29, ti_30, ti_31, ti_32, ti_33, ti_34, ti_35, ti_36, ti_37, ti_38, ti_39, ti_40, ti_41, ti_42, ti_43, ti_44, ti_45, ti_46, ti_47, ti_48, ti_49, ti_50, ti_51, ti_52, ti_53, ti_54, ti_55, ti_56, ti_57, ti_58, ti_59, ti_60, ti_61, ti_62, ti_63, ti_64, ti_65, ti_66, ti_67, ti_68, ti_69, ti_70, ti_71, ti_72, ti_73, ti_74, ti_75, ti_76, ti_77, ti_78, ti_79, ti_80, ti_81, ti_82, ti_83, ti_84, ti_85, ti_86, ti_87, ti_88, ti_89, ti_90, ti_91, ti_92, ti_93, ti_94, ti_95, ti_96, ti_97, ti_98, ti_99, ti_100, ti_101, ti_102, ti_103, ti_104, ti_105, ti_106, ti_107, ti_108, ti_109, ti_110, ti_111, ti_112, ti_113, ti_114, ti_115, ti_116, ti_117, ti_118, ti_119, ti_120, ti_121, ti_122, ti_123, ti_124, ti_125, ti_126, ti_127, ti_128, ti_129, ti_200, ti_248, ti_255, ti_256, ti_400, ti_1000, ti_2000, ti_2001, ti_1000000, tj_1, tj_2, tj_8, tj_10, tj_1000, tc_0, tc_1, tc_2, tc_3, tc_4, tc_5, tc_6, tc_7, tc_8, i32_lt, i32_le, MR_sI, mo0 hm1, ma1 hm1, ml1 hm1, ms1 hm1, ma2 hm1, ml2 hm1, ms2 hm1, ma3 hm1, ml3 hm1, ms3 hm1, ma4 hm1, ml4 hm1, ms4 hm1, ma5 hm1, ml5 hm1, ms5 hm1, ma6 hm1, ml6 hm1, ms6 hm1, ma7 hm1, ml7 hm1, ms7 hm1, ma8 hm1, ml8 hm1, ms8 hm1, ma9 hm1, ml9 hm1, ms9 hm1, ma10 hm1, ml10 hm1, ms10 hm1, ma11 hm1, ml11 hm1, ms11 hm1, ma12 hm1, ml12 hm1, ms12 hm1, ma13 hm1, ml13 hm1, ms13 hm1, ma14 hm1, ml14 hm1, ms14 hm1, ma15 hm1, ml15 hm1, ms15 hm1, ma16 hm1, ml16 hm1, ms16 hm1, ma17 hm1, ml17 hm1, ms17 hm1, ma18 hm1, ml18 hm1, ms18 hm1, ma19 hm1, ml19 hm1, ms19 hm1, ma20 hm1, ml20 hm1, ms20 hm1, ma21 hm1, ml21 hm1, ms21 hm1, ma22 hm1, ml22 hm1, ms22 hm1, ma23 hm1, ml23 hm1, ms23 hm1, ma24 hm1, ml24 hm1, ms24 hm1, ma25 hm1, ml25 hm1, ms25 hm1, ma26 hm1, ml26 hm1, ms26 hm1, ma27 hm1, ml27 hm1, ms27 hm1, ma28 hm1, ml28 hm1, ms28 hm1, ma29 hm1, ml29 hm1, ms29 hm1, ma30 hm1, ml30 hm1, ms30 hm1, ma31 hm1, ml31 hm1, ms31 hm1, ma32 hm1, ml32 hm1, ms32 hm1, ma33 hm1, ml33 hm1, ms33 hm1, ma34 hm1, ml34 hm1, ms34 hm1, ma35 hm1, ml35 hm1, ms35 hm1, ma36 hm1, ml36 hm1, ms36 hm1, ma37 hm1, ml37 hm1, ms37 hm1, ma38 hm1, ml38 hm1, ms38 hm1, ma39 hm1, ml39 hm1, ms39 hm1, ma40 hm1, ml40 hm1, ms40 hm1, ma41 hm1, ml41 hm1, ms41 hm1, ma42 hm1, ml42 hm1, ms42 hm1, ma43 hm1, ml43 hm1, ms43 hm1, ma44 hm1, ml44 hm1, ms44 hm1, ma45 hm1, ml45 hm1, ms45 hm1, ma46 hm1, ml46 hm1, ms46 hm1, ma47 hm1, ml47 hm1, ms47 hm1, mr0_0 hm1, mr0_5 hm1, mr0_6 hm1, mr0_7 hm1, mr0_8 hm1, mr0_9 hm1, mr0_10 hm1, mr0_11 hm1, mr0_12 hm1, mr0_17 hm1, mr0_18 hm1, mr0_19 hm1, mr0_20 hm1, mr0_21 hm1, mr0_22 hm1, mr0_23 hm1, mr0_24 hm1, mr0_25 hm1, mr0_26 hm1, mr0_27 hm1, mr0_28 hm1, mr0_29 hm1, mr0_30 hm1, mr0_31 hm1, mr0_32 hm1, mr0_33 hm1, mr0_34 hm1, mr0_35 hm1, mr0_41 hm1, mr0_42 hm1, mr0_43 hm1, mr0_45 hm1, mr0_46 hm1, mr0_55 hm1, mr0_56 hm1, mr0_57 hm1, mr0_58 hm1, mr0_59 hm1, mr0_62 hm1, mr0_63 hm1, mr0_64 hm1, mr0_65 hm1, mr0_66 hm1, mr0_67 hm1, mr0_68 hm1, mr0_69 hm1, mr0_70 hm1, t1, t2, k1, k2, hga, k0, hi, hhas, t3, t4, k3, h36, hpul, hstg, u1, u2, k4, e11, h61, t6, t7, k6, nI_1]
            exact hgo
          · show _ = if (if b = a then true else s.1 b) = true then 1 else 0
            rw [gsI_1, if_neg (by omega), gsI_1, if_neg (by omega), gsI_1]
            by_cases hba : b = a
            · rw [if_pos ⟨rfl, hba⟩, if_pos hba]; rfl
            · rw [if_neg (fun z => hba z.2), if_neg hba]; exact hs.1 b hb
          · rw [gsI_1, if_pos ⟨rfl, rfl⟩, List.length_append]; rfl
          · rw [gsI_1, if_neg (by omega), gsI_1]
            rw [List.getElem?_append] at hib
            split at hib
            · rename_i hil
              rw [if_neg (by omega), gsI_1, if_neg (by omega)]
              exact hs.2.2 i b hib
            · rename_i hil
              by_cases hie : i = s.2.length
              · subst hie
                rw [if_pos ⟨rfl, rfl⟩]
                rw [Nat.sub_self] at hib
                cases hib
                rfl
              · rw [List.getElem?_eq_none (by simp only [List.length_cons, List.length_nil]; omega)] at hib
                cases hib
        · have k4 : ¬ ((4 * nPs ly a n + rStr ly (fun q => !s.1 q) n a n : Nat) : Int) < ((rPu ly (fun r => st (8 * mv + r)) a n : Nat) : Int) := by omega
          have hstp : rStep ly n (fun a => rPu ly (fun r => st (8 * mv + r)) a n) none a s = s := by
            unfold rStep rHold
            rw [if_neg (fun z => by
              have := z.2.2
              rw [if_neg (by simp)] at this
              exact hgt this)]
          rw [hstp] at he2
          simp only [z183_169, z183_172, z183_173, z183_176, z183_178, z183_181, z183_182, z183_183, z183_186, z183_189, z183_190, z183_191, z183_194, z183_195, z183_196, z183_197, z183_198, z183_201, z183_202, z183_203, z183_204, z183_207, z183_210, z177, z183_240, z183_243, gIn_toInt, nI_toInt, Nat.reduceLT, Nat.reducePow, va_rf_none, va_rf_some, gObj_sI, gObj_sR, gAr_sI, gAr_sR, gLen_sI, gLen_sR, gsI_1, gsI_2, gsR_1, gsR_2, gU_ref, gU_null, gU_rf, gisRef_ref, gisRef_null, gisRef_rf, Option.toList_some, Option.toList_none, List.cons_append, List.nil_append, true_and, and_true, false_and, and_false, ↓reduceIte, if_true, if_false, Nat.reduceEqDiff, Nat.reduceAdd, Nat.reduceMul, Nat.reduceSub, Nat.reduceLeDiff, reduceCtorEq, not_true_eq_false, not_false_eq_true, true_imp_iff, false_imp_iff, zc_0, zc_1, zc_2, zc_3, zc_4, zc_5, zc_6, zc_8, zc_9, zc_10, zc_32, zc_36, zc_48, zc_64, zc_80, zc_120, zc_128, zc_248, zc_320, zc_400, zc_800, zc_1200, zc_2001, zc_4002, Int.reduceLT, Int.reduceLE, Int.reduceNeg, Nat.zero_ne_one, Nat.one_ne_zero, or_true, true_or, or_false, false_or, ti_0, ti_1, ti_2, ti_3, ti_4, ti_5, ti_6, ti_7, ti_8, ti_9, ti_10, ti_11, ti_12, ti_13, ti_14, ti_15, ti_16, ti_17, ti_18, ti_19, ti_20, ti_21, ti_22, ti_23, ti_24, ti_25, ti_26, ti_27, ti_28, ti_29, ti_30, ti_31, ti_32, ti_33, ti_34, ti_35, ti_36, ti_37, ti_38, ti_39, ti_40, ti_41, ti_42, ti_43, ti_44, ti_45, ti_46, ti_47, ti_48, ti_49, ti_50, ti_51, ti_52, ti_53, ti_54, ti_55, ti_56, ti_57, ti_58, ti_59, ti_60, ti_61, ti_62, ti_63, ti_64, ti_65, ti_66, ti_67, ti_68, ti_69, ti_70, ti_71, ti_72, ti_73, ti_74, ti_75, ti_76, ti_77, ti_78, ti_79, ti_80, ti_81, ti_82, ti_83, ti_84, ti_85, ti_86, ti_87, ti_88, ti_89, ti_90, ti_91, ti_92, ti_93, ti_94, ti_95, ti_96, ti_97, ti_98, ti_99, ti_100, ti_101, ti_102, ti_103, ti_104, ti_105, ti_106, ti_107, ti_108, ti_109, ti_110, ti_111, ti_112, ti_113, ti_114, ti_115, ti_116, ti_117, ti_118, ti_119, ti_120, ti_121, ti_122, ti_123, ti_124, ti_125, ti_126, ti_127, ti_128, ti_129, ti_200, ti_248, ti_255, ti_256, ti_400, ti_1000, ti_2000, ti_2001, ti_1000000, tj_1, tj_2, tj_8, tj_10, tj_1000, tc_0, tc_1, tc_2, tc_3, tc_4, tc_5, tc_6, tc_7, tc_8, i32_lt, i32_le, MR_sI, mo0 hm1, ma1 hm1, ml1 hm1, ms1 hm1, ma2 hm1, ml2 hm1, ms2 hm1, ma3 hm1, ml3 hm1, ms3 hm1, ma4 hm1, ml4 hm1, ms4 hm1, ma5 hm1, ml5 hm1, ms5 hm1, ma6 hm1, ml6 hm1, ms6 hm1, ma7 hm1, ml7 hm1, ms7 hm1, ma8 hm1, ml8 hm1, ms8 hm1, ma9 hm1, ml9 hm1, ms9 hm1, ma10 hm1, ml10 hm1, ms10 hm1, ma11 hm1, ml11 hm1, ms11 hm1, ma12 hm1, ml12 hm1, ms12 hm1, ma13 hm1, ml13 hm1, ms13 hm1, ma14 hm1, ml14 hm1, ms14 hm1, ma15 hm1, ml15 hm1, ms15 hm1, ma16 hm1, ml16 hm1, ms16 hm1, ma17 hm1, ml17 hm1, ms17 hm1, ma18 hm1, ml18 hm1, ms18 hm1, ma19 hm1, ml19 hm1, ms19 hm1, ma20 hm1, ml20 hm1, ms20 hm1, ma21 hm1, ml21 hm1, ms21 hm1, ma22 hm1, ml22 hm1, ms22 hm1, ma23 hm1, ml23 hm1, ms23 hm1, ma24 hm1, ml24 hm1, ms24 hm1, ma25 hm1, ml25 hm1, ms25 hm1, ma26 hm1, ml26 hm1, ms26 hm1, ma27 hm1, ml27 hm1, ms27 hm1, ma28 hm1, ml28 hm1, ms28 hm1, ma29 hm1, ml29 hm1, ms29 hm1, ma30 hm1, ml30 hm1, ms30 hm1, ma31 hm1, ml31 hm1, ms31 hm1, ma32 hm1, ml32 hm1, ms32 hm1, ma33 hm1, ml33 hm1, ms33 hm1, ma34 hm1, ml34 hm1, ms34 hm1, ma35 hm1, ml35 hm1, ms35 hm1, ma36 hm1, ml36 hm1, ms36 hm1, ma37 hm1, ml37 hm1, ms37 hm1, ma38 hm1, ml38 hm1, ms38 hm1, ma39 hm1, ml39 hm1, ms39 hm1, ma40 hm1, ml40 hm1, ms40 hm1, ma41 hm1, ml41 hm1, ms41 hm1, ma42 hm1, ml42 hm1, ms42 hm1, ma43 hm1, ml43 hm1, ms43 hm1, ma44 hm1, ml44 hm1, ms44 hm1, ma45 hm1, ml45 hm1, ms45 hm1, ma46 hm1, ml46 hm1, ms46 hm1, ma47 hm1, ml47 hm1, ms47 hm1, mr0_0 hm1, mr0_5 hm1, mr0_6 hm1, mr0_7 hm1, mr0_8 hm1, mr0_9 hm1, mr0_10 hm1, mr0_11 hm1, mr0_12 hm1, mr0_17 hm1, mr0_18 hm1, mr0_19 hm1, mr0_20 hm1, mr0_21 hm1, mr0_22 hm1, mr0_23 hm1, mr0_24 hm1, mr0_25 hm1, mr0_26 hm1, mr0_27 hm1, mr0_28 hm1, mr0_29 hm1, mr0_30 hm1, mr0_31 hm1, mr0_32 hm1, mr0_33 hm1, mr0_34 hm1, mr0_35 hm1, mr0_41 hm1, mr0_42 hm1, mr0_43 hm1, mr0_45 hm1, mr0_46 hm1, mr0_55 hm1, mr0_56 hm1, mr0_57 hm1, mr0_58 hm1, mr0_59 hm1, mr0_62 hm1, mr0_63 hm1, mr0_64 hm1, mr0_65 hm1, mr0_66 hm1, mr0_67 hm1, mr0_68 hm1, mr0_69 hm1, mr0_70 hm1, t1, t2, k1, k2, hga, k0, hi, hhas, t3, t4, k3, h36, hpul, hstg, u1, u2, k4]
          exact ih s M hf hs hc he2
      · rw [gb_0.mpr hh] at hhas
        have hstp : rStep ly n (fun a => rPu ly (fun r => st (8 * mv + r)) a n) none a s = s := by
          unfold rStep
          rw [if_neg (fun z => hh z.2.1)]
        rw [hstp] at he2
        simp only [z183_169, z183_172, z183_173, z183_176, z183_178, z183_181, z183_182, z183_183, z183_186, z177, z183_240, z183_243, gIn_toInt, nI_toInt, Nat.reduceLT, Nat.reducePow, va_rf_none, va_rf_some, gObj_sI, gObj_sR, gAr_sI, gAr_sR, gLen_sI, gLen_sR, gsI_1, gsI_2, gsR_1, gsR_2, gU_ref, gU_null, gU_rf, gisRef_ref, gisRef_null, gisRef_rf, Option.toList_some, Option.toList_none, List.cons_append, List.nil_append, true_and, and_true, false_and, and_false, ↓reduceIte, if_true, if_false, Nat.reduceEqDiff, Nat.reduceAdd, Nat.reduceMul, Nat.reduceSub, Nat.reduceLeDiff, reduceCtorEq, not_true_eq_false, not_false_eq_true, true_imp_iff, false_imp_iff, zc_0, zc_1, zc_2, zc_3, zc_4, zc_5, zc_6, zc_8, zc_9, zc_10, zc_32, zc_36, zc_48, zc_64, zc_80, zc_120, zc_128, zc_248, zc_320, zc_400, zc_800, zc_1200, zc_2001, zc_4002, Int.reduceLT, Int.reduceLE, Int.reduceNeg, Nat.zero_ne_one, Nat.one_ne_zero, or_true, true_or, or_false, false_or, ti_0, ti_1, ti_2, ti_3, ti_4, ti_5, ti_6, ti_7, ti_8, ti_9, ti_10, ti_11, ti_12, ti_13, ti_14, ti_15, ti_16, ti_17, ti_18, ti_19, ti_20, ti_21, ti_22, ti_23, ti_24, ti_25, ti_26, ti_27, ti_28, ti_29, ti_30, ti_31, ti_32, ti_33, ti_34, ti_35, ti_36, ti_37, ti_38, ti_39, ti_40, ti_41, ti_42, ti_43, ti_44, ti_45, ti_46, ti_47, ti_48, ti_49, ti_50, ti_51, ti_52, ti_53, ti_54, ti_55, ti_56, ti_57, ti_58, ti_59, ti_60, ti_61, ti_62, ti_63, ti_64, ti_65, ti_66, ti_67, ti_68, ti_69, ti_70, ti_71, ti_72, ti_73, ti_74, ti_75, ti_76, ti_77, ti_78, ti_79, ti_80, ti_81, ti_82, ti_83, ti_84, ti_85, ti_86, ti_87, ti_88, ti_89, ti_90, ti_91, ti_92, ti_93, ti_94, ti_95, ti_96, ti_97, ti_98, ti_99, ti_100, ti_101, ti_102, ti_103, ti_104, ti_105, ti_106, ti_107, ti_108, ti_109, ti_110, ti_111, ti_112, ti_113, ti_114, ti_115, ti_116, ti_117, ti_118, ti_119, ti_120, ti_121, ti_122, ti_123, ti_124, ti_125, ti_126, ti_127, ti_128, ti_129, ti_200, ti_248, ti_255, ti_256, ti_400, ti_1000, ti_2000, ti_2001, ti_1000000, tj_1, tj_2, tj_8, tj_10, tj_1000, tc_0, tc_1, tc_2, tc_3, tc_4, tc_5, tc_6, tc_7, tc_8, i32_lt, i32_le, MR_sI, mo0 hm1, ma1 hm1, ml1 hm1, ms1 hm1, ma2 hm1, ml2 hm1, ms2 hm1, ma3 hm1, ml3 hm1, ms3 hm1, ma4 hm1, ml4 hm1, ms4 hm1, ma5 hm1, ml5 hm1, ms5 hm1, ma6 hm1, ml6 hm1, ms6 hm1, ma7 hm1, ml7 hm1, ms7 hm1, ma8 hm1, ml8 hm1, ms8 hm1, ma9 hm1, ml9 hm1, ms9 hm1, ma10 hm1, ml10 hm1, ms10 hm1, ma11 hm1, ml11 hm1, ms11 hm1, ma12 hm1, ml12 hm1, ms12 hm1, ma13 hm1, ml13 hm1, ms13 hm1, ma14 hm1, ml14 hm1, ms14 hm1, ma15 hm1, ml15 hm1, ms15 hm1, ma16 hm1, ml16 hm1, ms16 hm1, ma17 hm1, ml17 hm1, ms17 hm1, ma18 hm1, ml18 hm1, ms18 hm1, ma19 hm1, ml19 hm1, ms19 hm1, ma20 hm1, ml20 hm1, ms20 hm1, ma21 hm1, ml21 hm1, ms21 hm1, ma22 hm1, ml22 hm1, ms22 hm1, ma23 hm1, ml23 hm1, ms23 hm1, ma24 hm1, ml24 hm1, ms24 hm1, ma25 hm1, ml25 hm1, ms25 hm1, ma26 hm1, ml26 hm1, ms26 hm1, ma27 hm1, ml27 hm1, ms27 hm1, ma28 hm1, ml28 hm1, ms28 hm1, ma29 hm1, ml29 hm1, ms29 hm1, ma30 hm1, ml30 hm1, ms30 hm1, ma31 hm1, ml31 hm1, ms31 hm1, ma32 hm1, ml32 hm1, ms32 hm1, ma33 hm1, ml33 hm1, ms33 hm1, ma34 hm1, ml34 hm1, ms34 hm1, ma35 hm1, ml35 hm1, ms35 hm1, ma36 hm1, ml36 hm1, ms36 hm1, ma37 hm1, ml37 hm1, ms37 hm1, ma38 hm1, ml38 hm1, ms38 hm1, ma39 hm1, ml39 hm1, ms39 hm1, ma40 hm1, ml40 hm1, ms40 hm1, ma41 hm1, ml41 hm1, ms41 hm1, ma42 hm1, ml42 hm1, ms42 hm1, ma43 hm1, ml43 hm1, ms43 hm1, ma44 hm1, ml44 hm1, ms44 hm1, ma45 hm1, ml45 hm1, ms45 hm1, ma46 hm1, ml46 hm1, ms46 hm1, ma47 hm1, ml47 hm1, ms47 hm1, mr0_0 hm1, mr0_5 hm1, mr0_6 hm1, mr0_7 hm1, mr0_8 hm1, mr0_9 hm1, mr0_10 hm1, mr0_11 hm1, mr0_12 hm1, mr0_17 hm1, mr0_18 hm1, mr0_19 hm1, mr0_20 hm1, mr0_21 hm1, mr0_22 hm1, mr0_23 hm1, mr0_24 hm1, mr0_25 hm1, mr0_26 hm1, mr0_27 hm1, mr0_28 hm1, mr0_29 hm1, mr0_30 hm1, mr0_31 hm1, mr0_32 hm1, mr0_33 hm1, mr0_34 hm1, mr0_35 hm1, mr0_41 hm1, mr0_42 hm1, mr0_43 hm1, mr0_45 hm1, mr0_46 hm1, mr0_55 hm1, mr0_56 hm1, mr0_57 hm1, mr0_58 hm1, mr0_59 hm1, mr0_62 hm1, mr0_63 hm1, mr0_64 hm1, mr0_65 hm1, mr0_66 hm1, mr0_67 hm1, mr0_68 hm1, mr0_69 hm1, mr0_70 hm1, t1, t2, k1, k2, hga, k0, hi, hhas]
        exact ih s M hf hs hc he2
end
