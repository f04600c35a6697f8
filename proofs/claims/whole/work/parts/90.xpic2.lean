/-! The class's Picture: paint, unpaint, perform. -/
abbrev nGs : Type := (Nat → Nat) × List (Nat × Nat)
def gCell (p c : Nat) (s : nGs) : nGs := (pUpd s.1 p c, (p, s.1 p) :: s.2)
/-- k rows of the layer q painted -/
def gLay (len endc : Nat) (col : Nat → Nat) (q : Nat → Nat) : Nat → nGs → nGs
  | 0, s => s
  | k + 1, s => gCell ((q 1 + k) * 8 + q 2) (nShown len endc col k (q 3) (q 6)) (gLay len endc col q k s)
def gLays (len endc : Nat) (col : Nat → Nat) (lf : Nat → Nat → Nat) : Nat → nGs → nGs
  | 0, s => s
  | k + 1, s => gLay len endc col (lf k) (lf k 5) (gLays len endc col lf k s)
def xStk (M : gM) : List (Nat × Nat) → Prop
  | [] => True
  | v :: l => (M.1 45 l.length = nI v.1 ∧ M.1 46 l.length = nI v.2 ∧ v.1 < 64 ∧ v.2 ≤ 8) ∧ xStk M l
section
variable {d D k n p c len endc : Nat} {M M0 M2 : gM} {Z : Option Value → gM → Prop} {x y : Int32} {want gr g col : Nat → Nat} {t : nD} {l : List (Nat × Nat)}
theorem xStk_fr : ∀ {l : List (Nat × Nat)}, (∀ k, k < l.length → M2.1 45 k = M.1 45 k ∧ M2.1 46 k = M.1 46 k) → xStk M l → xStk M2 l
  | [], _, _ => trivial
  | v :: l, h, hp => ⟨by rw [(h l.length (by simp)).1, (h l.length (by simp)).2]; exact hp.1, xStk_fr (fun k hk => h k (by simp only [List.length_cons]; omega)) hp.2⟩
/-- the picture's grid and stack -/
def xPg (M : gM) (want : Nat → Nat) (s : nGs) : Prop := xGr M want s.1 ∧ xStk M s.2 ∧ M.1 42 5 = nI s.2.length ∧ s.2.length ≤ 128
def xPin (o : Nat) : Prop := o = 42 ∨ o = 44 ∨ o = 45 ∨ o = 46
def fld (M M2 : gM) : Prop := ∀ k, k ≠ 2 → k ≠ 5 → M2.1 42 k = M.1 42 k
/-- one cell painted -/
theorem xPg_cell {s : nGs} (hs : xPg M want s) (hl : s.2.length < 128) {p : Nat} (hp : p < 64) {M1 : gM} (hM1 : M1 = gsI (gsI (gsI M 45 s.2.length (nI p)) 46 s.2.length (nI (s.1 p))) 42 5 (nI (s.2.length + 1))) : xGr M1 want s.1 ∧ xStk M1 ((p, s.1 p) :: s.2) ∧ M1.1 42 5 = nI (s.2.length + 1) := by
  obtain ⟨h1, h2, h3, h4⟩ := hs
  subst hM1
  refine ⟨⟨fun k hk => ?_, ?_⟩, ⟨⟨?_, ?_, hp, (h1.1 p hp).2⟩, xStk_fr (fun k hk => ?_) h2⟩, ?_⟩
  · simp [gsI_1]; exact h1.1 k hk
  · simp [gsI_1]; exact h1.2
  · simp [gsI_1]
  · simp [gsI_1]
  · simp only [gsI_1]
    refine ⟨?_, ?_⟩
    · rw [if_neg (by omega), if_neg (by omega), if_neg (by omega)]
    · rw [if_neg (by omega), if_neg (by omega)]
      rw [if_neg (by omega)]
  · simp [gsI_1]
theorem gLay_len {len endc : Nat} {col q : Nat → Nat} : ∀ k (s : nGs), (gLay len endc col q k s).2.length = s.2.length + k
  | 0, _ => rfl
  | k + 1, s => by
    show (gLay len endc col q k s).2.length + 1 = _
    rw [gLay_len k s]; omega
theorem nShown_le {row cell side : Nat} (hc : ∀ k, k < 6 → col k ≤ 8) (hr : row < 4) : nShown len endc col row cell side ≤ 8 := by
  unfold nShown
  by_cases h1 : side = 0
  · rw [if_pos h1]
    by_cases h2 : len - endc ≤ cell
    · rw [if_pos h2]; exact hc 4 (by decide)
    · rw [if_neg h2]; exact hc row (by omega)
  · rw [if_neg h1]; exact hc 5 (by decide)
theorem xCo_fr {P : Nat → Prop} {p : Nat} (hf : gFr P M M2) (hP : ∀ o, 48 < o → ¬ P o) (hp : 48 < p) (hc : xCo M p len endc col) : xCo M2 p len endc col := by
  obtain ⟨h1, h2, h3, h4, h5, h6, h7, h8, h9⟩ := hc
  have q1 := hf.2 p (hP p hp)
  have q2 := hf.2 (p + 1) (hP _ (by omega))
  unfold xCo gObj gAr gTy gLen
  rw [q1, q2, hf.1]
  exact ⟨h1, h2, h3, h4, h5, h6, h7, h8, h9⟩
theorem xPin_4 {o : Nat} (h : 48 < o) : ¬ xPin o := fun z => by unfold xPin at z; omega
theorem s_paint2 {ly : Nat → Nat → Nat} {p : Nat} (hx0 : XR M0) (hls0 : xLs M0 27 n ly) (hco0 : xCo M0 p len endc col) (hp48 : 48 < p) (hw0 : xWa M0 want) (hcol : ∀ k, k < 6 → col k ≤ 8) {kk : Nat} (hk : kk < n) (h4 : ly kk 5 ≤ 4) (s0 : nGs) (hl : s0.2.length + ly kk 5 ≤ 128) (a2 : Option Value)
    (hK : ∀ M1 v6, gFr xPin M0 M1 → fld M0 M1 → xPg M1 want (gLay len endc col (ly kk) (ly kk 5) s0) → Run (d + 3) 65 122 [some (.ref 42), some (.ref 27), a2, some (.ref p), some (.int (nI kk)), some (.int (nI (ly kk 1 + ly kk 5))), v6] [] M1 0 0 Z) :
    ∀ j c M1 v6, c + j = ly kk 5 → gFr xPin M0 M1 → fld M0 M1 → xPg M1 want (gLay len endc col (ly kk) c s0) → Run (d + 3) 65 20 [some (.ref 42), some (.ref 27), a2, some (.ref p), some (.int (nI kk)), some (.int (nI (ly kk 1 + c))), v6] [] M1 0 0 Z := by
  have hq := (hls0.2.2 kk hk).1
  have hq1 := hq.2.1
  have hq2 := hq.2.2.2.1
  have hn4 := hls0.2.1
  intro j
  induction j with
  | zero =>
    intro c M1 v6 hc hf hfd hs
    have hc : c = ly kk 5 := by omega
    subst hc
    have hx := gFr_X hf hx0
    have hls : xLs M1 27 n ly := xLs_fr hf (fun o h1 h2 h3 => by unfold xPin at h3; omega) hls0
    have htp := fun Z => s_topOf (d := d + 1) (Z := Z) hx (Or.inr rfl) hls.1 hn4 hk
    have f2 : M1.1 (27 + 2) kk = nI (ly kk 1) := xLs_f hls hk (f := 1) (by decide) rfl
    have f6 : M1.1 (27 + 6) kk = nI (ly kk 5) := xLs_f hls hk (f := 5) (by decide) rfl
    rw [f2, f6, nI_add] at htp
    have t1 := nI_ti (show ly kk 1 + ly kk 5 ≤ 2000 by omega)
    rw [z65_20]
    simp only [z65_22, z65_22n, z65_23, z65_25, z65_28, gIn_toInt, nI_toInt, Nat.reduceLT, Nat.reducePow, va_rf_none, va_rf_some, gObj_sI, gObj_sR, gAr_sI, gAr_sR, gLen_sI, gLen_sR, gsI_1, gsI_2, gsR_1, gsR_2, gU_ref, gU_null, gU_rf, gisRef_ref, gisRef_null, gisRef_rf, Option.toList_some, Option.toList_none, List.cons_append, List.nil_append, true_and, and_true, false_and, and_false, ↓reduceIte, if_true, if_false, Nat.reduceEqDiff, Nat.reduceAdd, Nat.reduceMul, Nat.reduceSub, Nat.reduceLeDiff, reduceCtorEq, not_true_eq_false, not_false_eq_true, true_imp_iff, false_imp_iff, zc_0, zc_1, zc_2, zc_3, zc_4, zc_5, zc_6, zc_8, zc_9, zc_10, zc_32, zc_36, zc_48, zc_64, zc_80, zc_120, zc_128, zc_248, zc_320, zc_400, zc_800, zc_1200, zc_2001, zc_4002, Int.reduceLT, Int.reduceLE, Int.reduceNeg, Nat.zero_ne_one, Nat.one_ne_zero, or_true, true_or, or_false, false_or, ti_0, ti_1, ti_2, ti_3, ti_4, ti_5, ti_6, ti_7, ti_8, ti_9, ti_10, ti_11, ti_12, ti_13, ti_14, ti_15, ti_16, ti_17, ti_18, ti_19, ti_20, ti_21, ti_22, ti_23, ti_24, ti_25, ti_26, ti_27, ti_28, ti_29, ti_30, ti_31, ti_32, ti_33, ti_34, ti_35, ti_36, ti_37, ti_38, ti_39, ti_40, ti_41, ti_42, ti_43, ti_44, ti_45, ti_46, ti_47, ti_48, ti_49, ti_50, ti_51, ti_52, ti_53, ti_54, ti_55, ti_56, ti_57, ti_58, ti_59, ti_60, ti_61, ti_62, ti_63, ti_64, ti_65, ti_66, ti_67, ti_68, ti_69, ti_70, ti_71, ti_72, ti_73, ti_74, ti_75, ti_76, ti_77, ti_78, ti_79, ti_80, ti_81, ti_82, ti_83, ti_84, ti_85, ti_86, ti_87, ti_88, ti_89, ti_90, ti_91, ti_92, ti_93, ti_94, ti_95, ti_96, ti_97, ti_98, ti_99, ti_100, ti_101, ti_102, ti_103, ti_104, ti_105, ti_106, ti_107, ti_108, ti_109, ti_110, ti_111, ti_112, ti_113, ti_114, ti_115, ti_116, ti_117, ti_118, ti_119, ti_120, ti_121, ti_122, ti_123, ti_124, ti_125, ti_126, ti_127, ti_128, ti_129, ti_200, ti_248, ti_255, ti_256, ti_400, ti_1000, ti_2000, ti_2001, ti_1000000, tj_1, tj_2, tj_8, tj_10, tj_1000, tc_0, tc_1, tc_2, tc_3, tc_4, tc_5, tc_6, tc_7, tc_8, i32_lt, i32_le, XR_sI, xo0 hx, xa1 hx, xl1 hx, xs1 hx, xa2 hx, xl2 hx, xs2 hx, xa3 hx, xl3 hx, xs3 hx, xa4 hx, xl4 hx, xs4 hx, xa5 hx, xl5 hx, xs5 hx, xo6 hx, xa7 hx, xl7 hx, xs7 hx, xa8 hx, xl8 hx, xs8 hx, xo9 hx, xa10 hx, xl10 hx, xs10 hx, xa11 hx, xl11 hx, xs11 hx, xa12 hx, xl12 hx, xs12 hx, xa13 hx, xl13 hx, xs13 hx, xa14 hx, xl14 hx, xs14 hx, xo15 hx, xo16 hx, xa17 hx, xl17 hx, xs17 hx, xa18 hx, xl18 hx, xs18 hx, xa19 hx, xl19 hx, xs19 hx, xa20 hx, xl20 hx, xs20 hx, xa21 hx, xl21 hx, xs21 hx, xa22 hx, xl22 hx, xs22 hx, xa23 hx, xl23 hx, xs23 hx, xa24 hx, xl24 hx, xs24 hx, xa25 hx, xl25 hx, xs25 hx, xo26 hx, xo27 hx, xa28 hx, xl28 hx, xs28 hx, xa29 hx, xl29 hx, xs29 hx, xa30 hx, xl30 hx, xs30 hx, xa31 hx, xl31 hx, xs31 hx, xa32 hx, xl32 hx, xs32 hx, xa33 hx, xl33 hx, xs33 hx, xa34 hx, xl34 hx, xs34 hx, xa35 hx, xl35 hx, xs35 hx, xa36 hx, xl36 hx, xs36 hx, xo37 hx, xa38 hx, xl38 hx, xs38 hx, xa39 hx, xl39 hx, xs39 hx, xa40 hx, xl40 hx, xs40 hx, xa41 hx, xl41 hx, xs41 hx, xo42 hx, xa43 hx, xl43 hx, xs43 hx, xa44 hx, xl44 hx, xs44 hx, xa45 hx, xl45 hx, xs45 hx, xa46 hx, xl46 hx, xs46 hx, xa47 hx, xl47 hx, xs47 hx, xa48 hx, xl48 hx, xs48 hx, xr0_0 hx, xr0_2 hx, xr0_4 hx, xr0_6 hx, xr0_8 hx, xr0_9 hx, xr6_0 hx, xr6_3 hx, xr0_10 hx, xr9_0 hx, xr9_2 hx, xr9_3 hx, xr9_5 hx, xr0_11 hx, xr0_12 hx, xr0_13 hx, xr0_14 hx, xr15_0 hx, xr15_1 hx, xr16_0 hx, xr16_1 hx, xr16_2 hx, xr16_3 hx, xr16_4 hx, xr16_5 hx, xr16_6 hx, xr16_7 hx, xr26_0 hx, xr26_1 hx, xr27_0 hx, xr27_1 hx, xr27_2 hx, xr27_3 hx, xr27_4 hx, xr27_5 hx, xr27_6 hx, xr27_7 hx, xr37_0 hx, xr37_2 hx, xr37_3 hx, xr37_5 hx, xr42_0 hx, xr42_1 hx, xr42_3 hx, xr42_4 hx, xr42_6 hx, xr42_8 hx, htp, t1, Int.le_refl]
    exact hK M1 v6 hf hfd hs
  | succ j ih =>
    intro c M1 v6 hc hf hfd hs
    have hx := gFr_X hf hx0
    have hls : xLs M1 27 n ly := xLs_fr hf (fun o h1 h2 h3 => by unfold xPin at h3; omega) hls0
    have hco : xCo M1 p len endc col := xCo_fr hf (fun o => xPin_4) hp48 hco0
    have hw : xWa M1 want := fun k hk => by rw [hf.2 43 (by unfold xPin; omega)]; exact hw0 k hk
    have htp := fun Z => s_topOf (d := d + 1) (Z := Z) hx (Or.inr rfl) hls.1 hn4 hk
    have f2 : M1.1 (27 + 2) kk = nI (ly kk 1) := xLs_f hls hk (f := 1) (by decide) rfl
    have f3 : M1.1 (27 + 3) kk = nI (ly kk 2) := xLs_f hls hk (f := 2) (by decide) rfl
    have f6 : M1.1 (27 + 6) kk = nI (ly kk 5) := xLs_f hls hk (f := 5) (by decide) rfl
    rw [f2, f6, nI_add] at htp
    have hpl := fun Z => s_place (d := d + 1) (r := nI (ly kk 1 + c)) (Z := Z) hx (Or.inr rfl) hls.1 hn4 hk
    have e8 : nI (ly kk 1 + c) * 8 + nI (ly kk 2) = nI ((ly kk 1 + c) * 8 + ly kk 2) := by rw [nl_8, nI_mul, nI_add]
    rw [f3, e8] at hpl
    have t1 := nI_ti (show ly kk 1 + ly kk 5 ≤ 2000 by omega)
    have t2 := nI_ti (show ly kk 1 + c ≤ 2000 by omega)
    have c1 : ¬ ((ly kk 1 + ly kk 5 : Nat) : Int) ≤ ((ly kk 1 + c : Nat) : Int) := by omega
    have hlen := gLay_len (len := len) (endc := endc) (col := col) (q := ly kk) c s0
    have hp64 : (ly kk 1 + c) * 8 + ly kk 2 < 64 := by omega
    generalize hP : (ly kk 1 + c) * 8 + ly kk 2 = P at *
    have t3 := nI_ti (show P ≤ 2000 by omega)
    have t4 := nI_tc (show P ≤ 2000 by omega)
    have c2 : 0 ≤ (P : Int) ∧ (P : Int) < 64 := by omega
    have k1 : ¬ (1 : Int32) = 0 := by decide
    have hst : gCell P (nShown len endc col c (ly kk 3) (ly kk 6)) (gLay len endc col (ly kk) c s0) = gLay len endc col (ly kk) (c + 1) s0 := by rw [← hP]; rfl
    generalize hS : gLay len endc col (ly kk) c s0 = s at *
    obtain ⟨p1, p2, p3, p4⟩ := id hs
    have t5 := nI_ti (show s.2.length ≤ 2000 by omega)
    have t6 := nI_tc (show s.2.length ≤ 2000 by omega)
    have c3 : 0 ≤ (s.2.length : Int) ∧ (s.2.length : Int) < 128 := by omega
    have q44 : M1.1 44 P = nI (s.1 P) := (p1.1 P hp64).1
    obtain ⟨x1, x2, x3⟩ := xPg_cell hs (by omega) hp64 rfl
    have hf1 : gFr xPin M1 (gsI (gsI (gsI M1 45 s.2.length (nI P)) 46 s.2.length (nI (s.1 P))) 42 5 (nI (s.2.length + 1))) := gFr_tr (gFr_tr (gFr_sI (by unfold xPin; omega)) (gFr_sI (by unfold xPin; omega))) (gFr_sI (by unfold xPin; omega))
    have hfd1 : fld M1 (gsI (gsI (gsI M1 45 s.2.length (nI P)) 46 s.2.length (nI (s.1 P))) 42 5 (nI (s.2.length + 1))) := fun k h1 h2 => by simp only [gsI_1]; rw [if_neg (by omega), if_neg (by omega), if_neg (by omega)]
    rw [z65_20]
    simp only [z65_22, z65_22n, z65_23, z65_25, z65_28, z65_31, z65_31n, z65_32, z65_34, z65_36, z65_39, z65_41, z65_43, z65_45, z65_48, z65_51, z65_52, z65_55, z65_58, z65_61, z65_64, z65_65, z65_68, z65_69, z65_72, z65_74, z65_75, z65_76, z65_79, z65_80, z65_83, z65_84, z65_87, z65_89, z65_90, z65_91, z65_92, z65_93, z65_96, z65_97, z65_98, gIn_toInt, nI_toInt, Nat.reduceLT, Nat.reducePow, va_rf_none, va_rf_some, gObj_sI, gObj_sR, gAr_sI, gAr_sR, gLen_sI, gLen_sR, gsI_1, gsI_2, gsR_1, gsR_2, gU_ref, gU_null, gU_rf, gisRef_ref, gisRef_null, gisRef_rf, Option.toList_some, Option.toList_none, List.cons_append, List.nil_append, true_and, and_true, false_and, and_false, ↓reduceIte, if_true, if_false, Nat.reduceEqDiff, Nat.reduceAdd, Nat.reduceMul, Nat.reduceSub, Nat.reduceLeDiff, reduceCtorEq, not_true_eq_false, not_false_eq_true, true_imp_iff, false_imp_iff, zc_0, zc_1, zc_2, zc_3, zc_4, zc_5, zc_6, zc_8, zc_9, zc_10, zc_32, zc_36, zc_48, zc_64, zc_80, zc_120, zc_128, zc_248, zc_320, zc_400, zc_800, zc_1200, zc_2001, zc_4002, Int.reduceLT, Int.reduceLE, Int.reduceNeg, Nat.zero_ne_one, Nat.one_ne_zero, or_true, true_or, or_false, false_or, ti_0, ti_1, ti_2, ti_3, ti_4, ti_5, ti_6, ti_7, ti_8, ti_9, ti_10, ti_11, ti_12, ti_13, ti_14, ti_15, ti_16, ti_17, ti_18, ti_19, ti_20, ti_21, ti_22, ti_23, ti_24, ti_25, ti_26, ti_27, ti_28, ti_29, ti_30, ti_31, ti_32, ti_33, ti_34, ti_35, ti_36, ti_37, ti_38, ti_39, ti_40, ti_41, ti_42, ti_43, ti_44, ti_45, ti_46, ti_47, ti_48, ti_49, ti_50, ti_51, ti_52, ti_53, ti_54, ti_55, ti_56, ti_57, ti_58, ti_59, ti_60, ti_61, ti_62, ti_63, ti_64, ti_65, ti_66, ti_67, ti_68, ti_69, ti_70, ti_71, ti_72, ti_73, ti_74, ti_75, ti_76, ti_77, ti_78, ti_79, ti_80, ti_81, ti_82, ti_83, ti_84, ti_85, ti_86, ti_87, ti_88, ti_89, ti_90, ti_91, ti_92, ti_93, ti_94, ti_95, ti_96, ti_97, ti_98, ti_99, ti_100, ti_101, ti_102, ti_103, ti_104, ti_105, ti_106, ti_107, ti_108, ti_109, ti_110, ti_111, ti_112, ti_113, ti_114, ti_115, ti_116, ti_117, ti_118, ti_119, ti_120, ti_121, ti_122, ti_123, ti_124, ti_125, ti_126, ti_127, ti_128, ti_129, ti_200, ti_248, ti_255, ti_256, ti_400, ti_1000, ti_2000, ti_2001, ti_1000000, tj_1, tj_2, tj_8, tj_10, tj_1000, tc_0, tc_1, tc_2, tc_3, tc_4, tc_5, tc_6, tc_7, tc_8, i32_lt, i32_le, XR_sI, xo0 hx, xa1 hx, xl1 hx, xs1 hx, xa2 hx, xl2 hx, xs2 hx, xa3 hx, xl3 hx, xs3 hx, xa4 hx, xl4 hx, xs4 hx, xa5 hx, xl5 hx, xs5 hx, xo6 hx, xa7 hx, xl7 hx, xs7 hx, xa8 hx, xl8 hx, xs8 hx, xo9 hx, xa10 hx, xl10 hx, xs10 hx, xa11 hx, xl11 hx, xs11 hx, xa12 hx, xl12 hx, xs12 hx, xa13 hx, xl13 hx, xs13 hx, xa14 hx, xl14 hx, xs14 hx, xo15 hx, xo16 hx, xa17 hx, xl17 hx, xs17 hx, xa18 hx, xl18 hx, xs18 hx, xa19 hx, xl19 hx, xs19 hx, xa20 hx, xl20 hx, xs20 hx, xa21 hx, xl21 hx, xs21 hx, xa22 hx, xl22 hx, xs22 hx, xa23 hx, xl23 hx, xs23 hx, xa24 hx, xl24 hx, xs24 hx, xa25 hx, xl25 hx, xs25 hx, xo26 hx, xo27 hx, xa28 hx, xl28 hx, xs28 hx, xa29 hx, xl29 hx, xs29 hx, xa30 hx, xl30 hx, xs30 hx, xa31 hx, xl31 hx, xs31 hx, xa32 hx, xl32 hx, xs32 hx, xa33 hx, xl33 hx, xs33 hx, xa34 hx, xl34 hx, xs34 hx, xa35 hx, xl35 hx, xs35 hx, xa36 hx, xl36 hx, xs36 hx, xo37 hx, xa38 hx, xl38 hx, xs38 hx, xa39 hx, xl39 hx, xs39 hx, xa40 hx, xl40 hx, xs40 hx, xa41 hx, xl41 hx, xs41 hx, xo42 hx, xa43 hx, xl43 hx, xs43 hx, xa44 hx, xl44 hx, xs44 hx, xa45 hx, xl45 hx, xs45 hx, xa46 hx, xl46 hx, xs46 hx, xa47 hx, xl47 hx, xs47 hx, xa48 hx, xl48 hx, xs48 hx, xr0_0 hx, xr0_2 hx, xr0_4 hx, xr0_6 hx, xr0_8 hx, xr0_9 hx, xr6_0 hx, xr6_3 hx, xr0_10 hx, xr9_0 hx, xr9_2 hx, xr9_3 hx, xr9_5 hx, xr0_11 hx, xr0_12 hx, xr0_13 hx, xr0_14 hx, xr15_0 hx, xr15_1 hx, xr16_0 hx, xr16_1 hx, xr16_2 hx, xr16_3 hx, xr16_4 hx, xr16_5 hx, xr16_6 hx, xr16_7 hx, xr26_0 hx, xr26_1 hx, xr27_0 hx, xr27_1 hx, xr27_2 hx, xr27_3 hx, xr27_4 hx, xr27_5 hx, xr27_6 hx, xr27_7 hx, xr37_0 hx, xr37_2 hx, xr37_3 hx, xr37_5 hx, xr42_0 hx, xr42_1 hx, xr42_3 hx, xr42_4 hx, xr42_6 hx, xr42_8 hx, s_within, gb_0, htp, hpl, t1, t2, t3, t4, t5, t6, c1, c2, c3, k1, p3, q44, nI_1]
    generalize gsI (gsI (gsI M1 45 s.2.length (nI P)) 46 s.2.length (nI (s.1 P))) 42 5 (nI (s.2.length + 1)) = M3 at *
    have hx3 := gFr_X hf1 hx
    have hls3 : xLs M3 27 n ly := xLs_fr hf1 (fun o h1 h2 h3 => by unfold xPin at h3; omega) hls
    have hco3 : xCo M3 p len endc col := xCo_fr hf1 (fun o => xPin_4) hp48 hco
    have hw3 : xWa M3 want := fun k hk => by rw [hf1.2 43 (by unfold xPin; omega)]; exact hw k hk
    have hsh := fun Z => s_shown (d := d) (rr := ly kk 1 + c) (Z := Z) hx3 (Or.inr rfl) hls3 hk hco3 (by omega) (by omega) (by omega)
    rw [Nat.add_sub_cancel_left] at hsh
    simp only [z65_101, z65_102, z65_104, z65_104n, z65_105, z65_107, z65_109, z65_109n, z65_110, z65_113, gIn_toInt, nI_toInt, Nat.reduceLT, Nat.reducePow, va_rf_none, va_rf_some, gObj_sI, gObj_sR, gAr_sI, gAr_sR, gLen_sI, gLen_sR, gsI_1, gsI_2, gsR_1, gsR_2, gU_ref, gU_null, gU_rf, gisRef_ref, gisRef_null, gisRef_rf, Option.toList_some, Option.toList_none, List.cons_append, List.nil_append, true_and, and_true, false_and, and_false, ↓reduceIte, if_true, if_false, Nat.reduceEqDiff, Nat.reduceAdd, Nat.reduceMul, Nat.reduceSub, Nat.reduceLeDiff, reduceCtorEq, not_true_eq_false, not_false_eq_true, true_imp_iff, false_imp_iff, zc_0, zc_1, zc_2, zc_3, zc_4, zc_5, zc_6, zc_8, zc_9, zc_10, zc_32, zc_36, zc_48, zc_64, zc_80, zc_120, zc_128, zc_248, zc_320, zc_400, zc_800, zc_1200, zc_2001, zc_4002, Int.reduceLT, Int.reduceLE, Int.reduceNeg, Nat.zero_ne_one, Nat.one_ne_zero, or_true, true_or, or_false, false_or, XR_sI, xo0 hx3, xa1 hx3, xl1 hx3, xs1 hx3, xa2 hx3, xl2 hx3, xs2 hx3, xa3 hx3, xl3 hx3, xs3 hx3, xa4 hx3, xl4 hx3, xs4 hx3, xa5 hx3, xl5 hx3, xs5 hx3, xo6 hx3, xa7 hx3, xl7 hx3, xs7 hx3, xa8 hx3, xl8 hx3, xs8 hx3, xo9 hx3, xa10 hx3, xl10 hx3, xs10 hx3, xa11 hx3, xl11 hx3, xs11 hx3, xa12 hx3, xl12 hx3, xs12 hx3, xa13 hx3, xl13 hx3, xs13 hx3, xa14 hx3, xl14 hx3, xs14 hx3, xo15 hx3, xo16 hx3, xa17 hx3, xl17 hx3, xs17 hx3, xa18 hx3, xl18 hx3, xs18 hx3, xa19 hx3, xl19 hx3, xs19 hx3, xa20 hx3, xl20 hx3, xs20 hx3, xa21 hx3, xl21 hx3, xs21 hx3, xa22 hx3, xl22 hx3, xs22 hx3, xa23 hx3, xl23 hx3, xs23 hx3, xa24 hx3, xl24 hx3, xs24 hx3, xa25 hx3, xl25 hx3, xs25 hx3, xo26 hx3, xo27 hx3, xa28 hx3, xl28 hx3, xs28 hx3, xa29 hx3, xl29 hx3, xs29 hx3, xa30 hx3, xl30 hx3, xs30 hx3, xa31 hx3, xl31 hx3, xs31 hx3, xa32 hx3, xl32 hx3, xs32 hx3, xa33 hx3, xl33 hx3, xs33 hx3, xa34 hx3, xl34 hx3, xs34 hx3, xa35 hx3, xl35 hx3, xs35 hx3, xa36 hx3, xl36 hx3, xs36 hx3, xo37 hx3, xa38 hx3, xl38 hx3, xs38 hx3, xa39 hx3, xl39 hx3, xs39 hx3, xa40 hx3, xl40 hx3, xs40 hx3, xa41 hx3, xl41 hx3, xs41 hx3, xo42 hx3, xa43 hx3, xl43 hx3, xs43 hx3, xa44 hx3, xl44 hx3, xs44 hx3, xa45 hx3, xl45 hx3, xs45 hx3, xa46 hx3, xl46 hx3, xs46 hx3, xa47 hx3, xl47 hx3, xs47 hx3, xa48 hx3, xl48 hx3, xs48 hx3, xr0_0 hx3, xr0_2 hx3, xr0_4 hx3, xr0_6 hx3, xr0_8 hx3, xr0_9 hx3, xr6_0 hx3, xr6_3 hx3, xr0_10 hx3, xr9_0 hx3, xr9_2 hx3, xr9_3 hx3, xr9_5 hx3, xr0_11 hx3, xr0_12 hx3, xr0_13 hx3, xr0_14 hx3, xr15_0 hx3, xr15_1 hx3, xr16_0 hx3, xr16_1 hx3, xr16_2 hx3, xr16_3 hx3, xr16_4 hx3, xr16_5 hx3, xr16_6 hx3, xr16_7 hx3, xr26_0 hx3, xr26_1 hx3, xr27_0 hx3, xr27_1 hx3, xr27_2 hx3, xr27_3 hx3, xr27_4 hx3, xr27_5 hx3, xr27_6 hx3, xr27_7 hx3, xr37_0 hx3, xr37_2 hx3, xr37_3 hx3, xr37_5 hx3, xr42_0 hx3, xr42_1 hx3, xr42_3 hx3, xr42_4 hx3, xr42_6 hx3, xr42_8 hx3, hsh]
    refine s_see (d := d) hx3 hw3 x1 hp64 (nShown_le hcol (by omega)) (fun M4 y1 y2 y3 => ?_)
    simp only [z65_116, z65_119, gIn_toInt, nI_toInt, Nat.reduceLT, Nat.reducePow, va_rf_none, va_rf_some, gObj_sI, gObj_sR, gAr_sI, gAr_sR, gLen_sI, gLen_sR, gsI_1, gsI_2, gsR_1, gsR_2, gU_ref, gU_null, gU_rf, gisRef_ref, gisRef_null, gisRef_rf, Option.toList_some, Option.toList_none, List.cons_append, List.nil_append, true_and, and_true, false_and, and_false, ↓reduceIte, if_true, if_false, Nat.reduceEqDiff, Nat.reduceAdd, Nat.reduceMul, Nat.reduceSub, Nat.reduceLeDiff, reduceCtorEq, not_true_eq_false, not_false_eq_true, true_imp_iff, false_imp_iff, zc_0, zc_1, zc_2, zc_3, zc_4, zc_5, zc_6, zc_8, zc_9, zc_10, zc_32, zc_36, zc_48, zc_64, zc_80, zc_120, zc_128, zc_248, zc_320, zc_400, zc_800, zc_1200, zc_2001, zc_4002, Int.reduceLT, Int.reduceLE, Int.reduceNeg, Nat.zero_ne_one, Nat.one_ne_zero, or_true, true_or, or_false, false_or, nI_1]
    have hf4 : gFr xPin M3 M4 := gFr_wk y1 (fun o z => by unfold xPin; omega)
    refine ih (c + 1) M4 _ (by omega) (gFr_tr hf (gFr_tr hf1 hf4)) (fun k h1 h2 => ?_) ?_
    · rw [y2 k h1, hfd1 k h1 h2, hfd k h1 h2]
    · rw [← hst]
      refine ⟨y3, xStk_fr (fun k hk => ⟨by rw [y1.2 45 (by omega)], by rw [y1.2 46 (by omega)]⟩) x2, ?_, ?_⟩
      · rw [y2 5 (by decide)]; exact x3
      · show s.2.length + 1 ≤ 128; omega
end
