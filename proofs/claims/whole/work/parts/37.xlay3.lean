/-! Layers: held, heap, add, tuckLast, told, shown. -/
/-- nothing but the cells P is changed -/
def gFr (P : Nat → Prop) (M M' : gM) : Prop := M'.2 = M.2 ∧ ∀ o, ¬ P o → M'.1 o = M.1 o
theorem gFr_rf {P : Nat → Prop} {M : gM} : gFr P M M := ⟨rfl, fun _ _ => rfl⟩
theorem gFr_tr {P : Nat → Prop} {M M1 M2 : gM} (h1 : gFr P M M1) (h2 : gFr P M1 M2) : gFr P M M2 := ⟨h2.1.trans h1.1, fun o ho => (h2.2 o ho).trans (h1.2 o ho)⟩
theorem gFr_wk {P Q : Nat → Prop} {M M1 : gM} (h1 : gFr P M M1) (h : ∀ o, P o → Q o) : gFr Q M M1 := ⟨h1.1, fun o ho => h1.2 o (fun q => ho (h o q))⟩
theorem gFr_sI {P : Nat → Prop} {M : gM} {o k : Nat} {x : Int32} (h : P o) : gFr P M (gsI M o k x) := ⟨rfl, fun q hq => funext fun b => by rw [gsI_1, if_neg (fun (z : q = o ∧ b = k) => hq (by rw [z.1]; exact h))]⟩
theorem gFr_X {P : Nat → Prop} {M M1 : gM} (h1 : gFr P M M1) (h : XR M) : XR M1 := (gHas_same h1.1).mpr h
theorem xLs_fr {P : Nat → Prop} {M M1 : gM} {L n : Nat} {ly : Nat → Nat → Nat} (h1 : gFr P M M1) (hP : ∀ o, L ≤ o → o ≤ L + 8 → ¬ P o) (h : xLs M L n ly) : xLs M1 L n ly := by
  refine ⟨by rw [h1.2 L (hP L (Nat.le_refl _) (Nat.le_add_right _ _))]; exact h.1, h.2.1, fun k hk => ⟨(h.2.2 k hk).1, fun f hf => ?_⟩⟩
  rw [h1.2 (L + 1 + f) (hP _ (by omega) (by omega))]
  exact (h.2.2 k hk).2 f hf
def nHP (ly : Nat → Nat → Nat) (a : Nat) : Nat → Nat
  | 0 => 0
  | c + 1 => nHP ly a c + 4 * ly (a + c) 7
def nHM (up : Nat → Nat) (ly : Nat → Nat → Nat) (a : Nat) : Nat → Nat
  | 0 => 0
  | c + 1 => nMxI (fun r => up (r * 8 + ly (a + c) 2)) (nHM up ly a c) (ly (a + c) 1) (ly (a + c) 5)
def nHeap1 (up : Nat → Nat) (s lo : Nat) : Nat → Nat → Nat
  | 0 => up
  | c + 1 => fun q => if q = (lo + c) * 8 + s then nHeap1 up s lo c q + 1 else nHeap1 up s lo c q
def nHeap (up : Nat → Nat) (ly : Nat → Nat → Nat) (a : Nat) : Nat → Nat → Nat
  | 0 => up
  | c + 1 => nHeap1 (nHeap up ly a c) (ly (a + c) 2) (ly (a + c) 1) (ly (a + c) 5)
def xUp (M : gM) (up : Nat → Nat) (B : Nat) : Prop := ∀ q, q < 64 → M.1 41 q = nI (up q) ∧ up q ≤ B
section
variable {d L n k : Nat} {M : gM} {Z : Option Value → gM → Prop} {i r s x a : Int32} {ly : Nat → Nat → Nat}
theorem s_held2 (hx : XR M) (hL : isL L) (hls : xLs M L n ly) {up : Nat → Nat} {B w0 : Nat} (hB : B ≤ 100000) (hup : xUp M up B) (hw0 : w0 ≤ B) {v1 v2 v4 : Value} {K : Prop} (hk : k < n)
    (hK : ∀ v, Run (d + 3) 55 103 [some (.ref L), some v1, some v2, some (.ref 41), some v4, some (.int (nI (nMxI (fun r => up (r * 8 + ly k 2)) w0 (ly k 1) (ly k 5)))), some (.int (nI k)), some (.int (nI (ly k 1 + ly k 5))), v] [] M 0 0 Z ↔ K) :
    ∀ j c v, c + j = ly k 5 → (Run (d + 3) 55 50 [some (.ref L), some v1, some v2, some (.ref 41), some v4, some (.int (nI (nMxI (fun r => up (r * 8 + ly k 2)) w0 (ly k 1) c))), some (.int (nI k)), some (.int (nI (ly k 1 + c))), v] [] M 0 0 Z ↔ K)
  | 0, c, v, hc => by
    have hc : c = ly k 5 := by omega
    subst hc
    obtain ⟨hq, hf⟩ := hls.2.2 k hk
    have h5 : ly k 1 + ly k 5 ≤ 8 := hq.2.1
    have h1 := nI_ti (show ly k 1 + ly k 5 ≤ 2000 by omega)
    have ht := fun Z => s_topOf (d := d + 1) (Z := Z) hx hL hls.1 hls.2.1 hk
    rw [xLs_f hls hk (f := 1) (by decide) rfl, xLs_f hls hk (f := 5) (by decide) rfl, nI_add] at ht
    have ho := xL_o hx hL
    rw [z55_50]
    simp only [z55_52, z55_53, z55_55, z55_58, gIn_toInt, nI_toInt, Nat.reduceLT, Nat.reducePow, va_rf_none, va_rf_some, gObj_sI, gObj_sR, gAr_sI, gAr_sR, gLen_sI, gLen_sR, gsI_1, gsI_2, gsR_1, gsR_2, gU_ref, gU_null, gU_rf, gisRef_ref, gisRef_null, gisRef_rf, Option.toList_some, Option.toList_none, List.cons_append, List.nil_append, true_and, and_true, false_and, and_false, ↓reduceIte, if_true, if_false, Nat.reduceEqDiff, Nat.reduceAdd, Nat.reduceMul, Nat.reduceSub, Nat.reduceLeDiff, reduceCtorEq, not_true_eq_false, not_false_eq_true, true_imp_iff, false_imp_iff, zc_0, zc_1, zc_2, zc_3, zc_4, zc_5, zc_6, zc_8, zc_9, zc_10, zc_32, zc_36, zc_48, zc_64, zc_80, zc_120, zc_128, zc_248, zc_320, zc_400, zc_800, zc_1200, zc_2001, zc_4002, Int.reduceLT, Int.reduceLE, Int.reduceNeg, Nat.zero_ne_one, Nat.one_ne_zero, or_true, true_or, or_false, false_or, ti_0, ti_1, ti_2, ti_3, ti_4, ti_5, ti_6, ti_7, ti_8, ti_9, ti_10, ti_11, ti_12, ti_13, ti_14, ti_15, ti_16, ti_17, ti_18, ti_19, ti_20, ti_21, ti_22, ti_23, ti_24, ti_25, ti_26, ti_27, ti_28, ti_29, ti_30, ti_31, ti_32, ti_33, ti_34, ti_35, ti_36, ti_37, ti_38, ti_39, ti_40, ti_41, ti_42, ti_43, ti_44, ti_45, ti_46, ti_47, ti_48, ti_49, ti_50, ti_51, ti_52, ti_53, ti_54, ti_55, ti_56, ti_57, ti_58, ti_59, ti_60, ti_61, ti_62, ti_63, ti_64, ti_65, ti_66, ti_67, ti_68, ti_69, ti_70, ti_71, ti_72, ti_73, ti_74, ti_75, ti_76, ti_77, ti_78, ti_79, ti_80, ti_81, ti_82, ti_83, ti_84, ti_85, ti_86, ti_87, ti_88, ti_89, ti_90, ti_91, ti_92, ti_93, ti_94, ti_95, ti_96, ti_97, ti_98, ti_99, ti_100, ti_101, ti_102, ti_103, ti_104, ti_105, ti_106, ti_107, ti_108, ti_109, ti_110, ti_111, ti_112, ti_113, ti_114, ti_115, ti_116, ti_117, ti_118, ti_119, ti_120, ti_121, ti_122, ti_123, ti_124, ti_125, ti_126, ti_127, ti_128, ti_129, ti_200, ti_248, ti_255, ti_256, ti_400, ti_1000, ti_2000, ti_2001, ti_1000000, tj_1, tj_2, tj_8, tj_10, tj_1000, tc_0, tc_1, tc_2, tc_3, tc_4, tc_5, tc_6, tc_7, tc_8, i32_lt, i32_le, ho, ht, h1, Int.le_refl]
    exact hK v
  | j + 1, c, v, hc => by
    obtain ⟨hq, hf⟩ := hls.2.2 k hk
    have h5 : ly k 1 + ly k 5 ≤ 8 := hq.2.1
    have hs8 : ly k 2 < 8 := hq.2.2.2.1
    have ih := s_held2 hx hL hls hB hup hw0 hk hK j (c + 1) (some (.int (nI ((ly k 1 + c) * 8 + ly k 2)))) (by omega)
    have h1 := nI_ti (show ly k 1 + ly k 5 ≤ 2000 by omega)
    have h2 := nI_ti (show ly k 1 + c ≤ 2000 by omega)
    have h3 := nI_ti (show (ly k 1 + c) * 8 + ly k 2 ≤ 2000 by omega)
    have h6 := nI_tc (show (ly k 1 + c) * 8 + ly k 2 ≤ 2000 by omega)
    have h7 : ¬ ((ly k 1 + ly k 5 : Nat) : Int) ≤ ((ly k 1 + c : Nat) : Int) := by omega
    have h8 : 0 ≤ (((ly k 1 + c) * 8 + ly k 2 : Nat) : Int) ∧ (((ly k 1 + c) * 8 + ly k 2 : Nat) : Int) < 64 := by omega
    have ht := fun Z => s_topOf (d := d + 1) (Z := Z) hx hL hls.1 hls.2.1 hk
    rw [xLs_f hls hk (f := 1) (by decide) rfl, xLs_f hls hk (f := 5) (by decide) rfl, nI_add] at ht
    have hp := fun Z => s_place (d := d + 1) (r := nI (ly k 1 + c)) (Z := Z) hx hL hls.1 hls.2.1 hk
    rw [xLs_f hls hk (f := 2) (by decide) rfl, nl_8, nI_mul, nI_add] at hp
    have ho := xL_o hx hL
    obtain ⟨hs1, hs2⟩ := hup ((ly k 1 + c) * 8 + ly k 2) (by omega)
    have h9 : nMxI (fun r => up (r * 8 + ly k 2)) w0 (ly k 1) c ≤ B := nMxI_le hw0 c (fun r hr => (hup (r * 8 + ly k 2) (by omega)).2)
    have hmx := nMx_lti (a := nMxI (fun r => up (r * 8 + ly k 2)) w0 (ly k 1) c) (b := up ((ly k 1 + c) * 8 + ly k 2)) (by omega) (by omega)
    have hw := fun Z => s_within (d := d + 2) (M := M) (Z := Z) (i := nI ((ly k 1 + c) * 8 + ly k 2)) (n := nI 64)
    have h48 : (nI 64).toInt = 64 := nI_ti (by decide)
    simp only [h3, h48, h8] at hw
    rw [z55_50]
    simp only [z55_52, z55_53, z55_55, z55_58, z55_61, z55_62, z55_64, z55_66, z55_69, z55_71, z55_73, z55_73n, z55_74, z55_75, z55_78, z55_81, z55_83, z55_83n, z55_84, z55_86, z55_87, z55_90, z55_93, z55_95, z55_97, z55_100, gIn_toInt, nI_toInt, Nat.reduceLT, Nat.reducePow, va_rf_none, va_rf_some, gObj_sI, gObj_sR, gAr_sI, gAr_sR, gLen_sI, gLen_sR, gsI_1, gsI_2, gsR_1, gsR_2, gU_ref, gU_null, gU_rf, gisRef_ref, gisRef_null, gisRef_rf, Option.toList_some, Option.toList_none, List.cons_append, List.nil_append, true_and, and_true, false_and, and_false, ↓reduceIte, if_true, if_false, Nat.reduceEqDiff, Nat.reduceAdd, Nat.reduceMul, Nat.reduceSub, Nat.reduceLeDiff, reduceCtorEq, not_true_eq_false, not_false_eq_true, true_imp_iff, false_imp_iff, zc_0, zc_1, zc_2, zc_3, zc_4, zc_5, zc_6, zc_8, zc_9, zc_10, zc_32, zc_36, zc_48, zc_64, zc_80, zc_120, zc_128, zc_248, zc_320, zc_400, zc_800, zc_1200, zc_2001, zc_4002, Int.reduceLT, Int.reduceLE, Int.reduceNeg, Nat.zero_ne_one, Nat.one_ne_zero, or_true, true_or, or_false, false_or, ti_0, ti_1, ti_2, ti_3, ti_4, ti_5, ti_6, ti_7, ti_8, ti_9, ti_10, ti_11, ti_12, ti_13, ti_14, ti_15, ti_16, ti_17, ti_18, ti_19, ti_20, ti_21, ti_22, ti_23, ti_24, ti_25, ti_26, ti_27, ti_28, ti_29, ti_30, ti_31, ti_32, ti_33, ti_34, ti_35, ti_36, ti_37, ti_38, ti_39, ti_40, ti_41, ti_42, ti_43, ti_44, ti_45, ti_46, ti_47, ti_48, ti_49, ti_50, ti_51, ti_52, ti_53, ti_54, ti_55, ti_56, ti_57, ti_58, ti_59, ti_60, ti_61, ti_62, ti_63, ti_64, ti_65, ti_66, ti_67, ti_68, ti_69, ti_70, ti_71, ti_72, ti_73, ti_74, ti_75, ti_76, ti_77, ti_78, ti_79, ti_80, ti_81, ti_82, ti_83, ti_84, ti_85, ti_86, ti_87, ti_88, ti_89, ti_90, ti_91, ti_92, ti_93, ti_94, ti_95, ti_96, ti_97, ti_98, ti_99, ti_100, ti_101, ti_102, ti_103, ti_104, ti_105, ti_106, ti_107, ti_108, ti_109, ti_110, ti_111, ti_112, ti_113, ti_114, ti_115, ti_116, ti_117, ti_118, ti_119, ti_120, ti_121, ti_122, ti_123, ti_124, ti_125, ti_126, ti_127, ti_128, ti_129, ti_200, ti_248, ti_255, ti_256, ti_400, ti_1000, ti_2000, ti_2001, ti_1000000, tj_1, tj_2, tj_8, tj_10, tj_1000, tc_0, tc_1, tc_2, tc_3, tc_4, tc_5, tc_6, tc_7, tc_8, i32_lt, i32_le, ho, ht, h1, h2, h7, hp, XR_sI, xo0 hx, xa1 hx, xl1 hx, xs1 hx, xa2 hx, xl2 hx, xs2 hx, xa3 hx, xl3 hx, xs3 hx, xa4 hx, xl4 hx, xs4 hx, xa5 hx, xl5 hx, xs5 hx, xo6 hx, xa7 hx, xl7 hx, xs7 hx, xa8 hx, xl8 hx, xs8 hx, xo9 hx, xa10 hx, xl10 hx, xs10 hx, xa11 hx, xl11 hx, xs11 hx, xa12 hx, xl12 hx, xs12 hx, xa13 hx, xl13 hx, xs13 hx, xa14 hx, xl14 hx, xs14 hx, xo15 hx, xo16 hx, xa17 hx, xl17 hx, xs17 hx, xa18 hx, xl18 hx, xs18 hx, xa19 hx, xl19 hx, xs19 hx, xa20 hx, xl20 hx, xs20 hx, xa21 hx, xl21 hx, xs21 hx, xa22 hx, xl22 hx, xs22 hx, xa23 hx, xl23 hx, xs23 hx, xa24 hx, xl24 hx, xs24 hx, xa25 hx, xl25 hx, xs25 hx, xo26 hx, xo27 hx, xa28 hx, xl28 hx, xs28 hx, xa29 hx, xl29 hx, xs29 hx, xa30 hx, xl30 hx, xs30 hx, xa31 hx, xl31 hx, xs31 hx, xa32 hx, xl32 hx, xs32 hx, xa33 hx, xl33 hx, xs33 hx, xa34 hx, xl34 hx, xs34 hx, xa35 hx, xl35 hx, xs35 hx, xa36 hx, xl36 hx, xs36 hx, xo37 hx, xa38 hx, xl38 hx, xs38 hx, xa39 hx, xl39 hx, xs39 hx, xa40 hx, xl40 hx, xs40 hx, xa41 hx, xl41 hx, xs41 hx, xo42 hx, xa43 hx, xl43 hx, xs43 hx, xa44 hx, xl44 hx, xs44 hx, xa45 hx, xl45 hx, xs45 hx, xa46 hx, xl46 hx, xs46 hx, xa47 hx, xl47 hx, xs47 hx, xa48 hx, xl48 hx, xs48 hx, xr0_0 hx, xr0_2 hx, xr0_4 hx, xr0_6 hx, xr0_8 hx, xr0_9 hx, xr6_0 hx, xr6_3 hx, xr0_10 hx, xr9_0 hx, xr9_2 hx, xr9_3 hx, xr9_5 hx, xr0_11 hx, xr0_12 hx, xr0_13 hx, xr0_14 hx, xr15_0 hx, xr15_1 hx, xr16_0 hx, xr16_1 hx, xr16_2 hx, xr16_3 hx, xr16_4 hx, xr16_5 hx, xr16_6 hx, xr16_7 hx, xr26_0 hx, xr26_1 hx, xr27_0 hx, xr27_1 hx, xr27_2 hx, xr27_3 hx, xr27_4 hx, xr27_5 hx, xr27_6 hx, xr27_7 hx, xr37_0 hx, xr37_2 hx, xr37_3 hx, xr37_5 hx, xr42_0 hx, xr42_1 hx, xr42_3 hx, xr42_4 hx, xr42_6 hx, xr42_8 hx, hw, gb_0, h8, h3, h6, hs1, hmx, nI_1]
    exact ih
theorem nHM_le {up : Nat → Nat} {B a : Nat} (hup : ∀ q, q < 64 → up q ≤ B) : ∀ c, (∀ k, k < a + c → lOk (ly k)) → nHM up ly a c ≤ B
  | 0, _ => Nat.zero_le _
  | c + 1, h => by
    have h1 := nHM_le (a := a) hup c (fun k hk => h k (by omega))
    have h2 := h (a + c) (by omega)
    exact nMxI_le h1 _ (fun r hr => hup _ (by have := h2.2.1; have := h2.2.2.2.1; omega))
theorem s_held1 (hx : XR M) (hL : isL L) (hls : xLs M L n ly) {up : Nat → Nat} {B : Nat} (hB : B ≤ 100000) (hup : xUp M up B) {a e : Nat} (he : e ≤ n) :
    ∀ j c v7 v8, a + c + j = e → (Run (d + 3) 55 9 [some (.ref L), some (.int (nI a)), some (.int (nI e - 1)), some (.ref 41), some (.int (nI (nHP ly a c))), some (.int (nI (nHM up ly a c))), some (.int (nI (a + c))), v7, v8] [] M 0 0 Z ↔ Z (some (.int (nI (nHP ly a (e - a) + nHM up ly a (e - a))))) M)
  | 0, c, v7, v8, hc => by
    have hc : e = a + c := by omega
    subst hc
    have h1 := nI_ti (show a + c ≤ 2000 by have := hls.2.1; omega)
    have h2 := nI_e1 (show a + c ≤ 2000 by have := hls.2.1; omega)
    have h3 : ((a + c : Nat) : Int) - 1 < ((a + c : Nat) : Int) := by omega
    rw [z55_9, Nat.add_sub_cancel_left]
    simp only [z55_11, z55_12, z55_109, z55_111, z55_113, z55_114, gIn_toInt, nI_toInt, Nat.reduceLT, Nat.reducePow, va_rf_none, va_rf_some, gObj_sI, gObj_sR, gAr_sI, gAr_sR, gLen_sI, gLen_sR, gsI_1, gsI_2, gsR_1, gsR_2, gU_ref, gU_null, gU_rf, gisRef_ref, gisRef_null, gisRef_rf, Option.toList_some, Option.toList_none, List.cons_append, List.nil_append, true_and, and_true, false_and, and_false, ↓reduceIte, if_true, if_false, Nat.reduceEqDiff, Nat.reduceAdd, Nat.reduceMul, Nat.reduceSub, Nat.reduceLeDiff, reduceCtorEq, not_true_eq_false, not_false_eq_true, true_imp_iff, false_imp_iff, zc_0, zc_1, zc_2, zc_3, zc_4, zc_5, zc_6, zc_8, zc_9, zc_10, zc_32, zc_36, zc_48, zc_64, zc_80, zc_120, zc_128, zc_248, zc_320, zc_400, zc_800, zc_1200, zc_2001, zc_4002, Int.reduceLT, Int.reduceLE, Int.reduceNeg, Nat.zero_ne_one, Nat.one_ne_zero, or_true, true_or, or_false, false_or, ti_0, ti_1, ti_2, ti_3, ti_4, ti_5, ti_6, ti_7, ti_8, ti_9, ti_10, ti_11, ti_12, ti_13, ti_14, ti_15, ti_16, ti_17, ti_18, ti_19, ti_20, ti_21, ti_22, ti_23, ti_24, ti_25, ti_26, ti_27, ti_28, ti_29, ti_30, ti_31, ti_32, ti_33, ti_34, ti_35, ti_36, ti_37, ti_38, ti_39, ti_40, ti_41, ti_42, ti_43, ti_44, ti_45, ti_46, ti_47, ti_48, ti_49, ti_50, ti_51, ti_52, ti_53, ti_54, ti_55, ti_56, ti_57, ti_58, ti_59, ti_60, ti_61, ti_62, ti_63, ti_64, ti_65, ti_66, ti_67, ti_68, ti_69, ti_70, ti_71, ti_72, ti_73, ti_74, ti_75, ti_76, ti_77, ti_78, ti_79, ti_80, ti_81, ti_82, ti_83, ti_84, ti_85, ti_86, ti_87, ti_88, ti_89, ti_90, ti_91, ti_92, ti_93, ti_94, ti_95, ti_96, ti_97, ti_98, ti_99, ti_100, ti_101, ti_102, ti_103, ti_104, ti_105, ti_106, ti_107, ti_108, ti_109, ti_110, ti_111, ti_112, ti_113, ti_114, ti_115, ti_116, ti_117, ti_118, ti_119, ti_120, ti_121, ti_122, ti_123, ti_124, ti_125, ti_126, ti_127, ti_128, ti_129, ti_200, ti_248, ti_255, ti_256, ti_400, ti_1000, ti_2000, ti_2001, ti_1000000, tj_1, tj_2, tj_8, tj_10, tj_1000, tc_0, tc_1, tc_2, tc_3, tc_4, tc_5, tc_6, tc_7, tc_8, i32_lt, i32_le, h1, h2, h3, nI_add]
  | j + 1, c, v7, v8, hc => by
    have hk : a + c < n := by omega
    have hn4 := hls.2.1
    obtain ⟨hq, hf⟩ := hls.2.2 (a + c) hk
    have h1 := nI_ti (show a + c ≤ 2000 by omega)
    have h1c := nI_tc (show a + c ≤ 2000 by omega)
    have h2 := nI_e1 (show e ≤ 2000 by omega)
    have h3 : ¬ ((e : Int) - 1 < ((a + c : Nat) : Int)) := by omega
    have h4 : 0 ≤ ((a + c : Nat) : Int) ∧ ((a + c : Nat) : Int) < 400 := by omega
    have h4n : 0 ≤ ((a + c : Nat) : Int) ∧ ((a + c : Nat) : Int) < n := by omega
    have ih := fun v7 v8 => s_held1 (v7 := v7) (v8 := v8) hx hL hls hB hup (a := a) he j (c + 1) (by omega)
    have hl := fun Z => s_lowOf (d := d + 1) (Z := Z) hx hL hls.1 hls.2.1 hk
    rw [xLs_f hls hk (f := 1) (by decide) rfl] at hl
    have hh := fun Z => s_has (d := d + 2) (i := nI (a + c)) (Z := Z) hx hL hls.1 hls.2.1
    simp only [h1, h4n] at hh
    have ho := xL_o hx hL
    have hwm : nHM up ly a c ≤ B := nHM_le (fun q hq => (hup q hq).2) c (fun k hk => (hls.2.2 k (by omega)).1)
    have hin := s_held2 (d := d) (Z := Z) (v1 := .int (nI a)) (v2 := .int (nI e - 1)) (v4 := .int (nI (nHP ly a (c + 1)))) hx hL hls hB hup hwm hk (fun v => by
      rw [z55_103, nI_1, z55_106]
      exact ih _ v) (ly (a + c) 5) 0 v8 (by omega)
    simp only [nMxI, Nat.add_zero, nHP] at hin
    have hpin : M.1 (L + 8) (a + c) = nI (ly (a + c) 7) := xLs_f hls hk (f := 7) (by decide) (by omega)
    rw [z55_9]
    rcases hL with rfl | rfl
    · simp only [Nat.reduceAdd] at hpin
      simp only [z55_11, z55_12, z55_15, z55_17, z55_18, z55_20, z55_23, z55_26, z55_27, z55_28, z55_31, z55_33, z55_34, z55_35, z55_38, z55_39, z55_40, z55_42, z55_43, z55_45, z55_48, gIn_toInt, nI_toInt, Nat.reduceLT, Nat.reducePow, va_rf_none, va_rf_some, gObj_sI, gObj_sR, gAr_sI, gAr_sR, gLen_sI, gLen_sR, gsI_1, gsI_2, gsR_1, gsR_2, gU_ref, gU_null, gU_rf, gisRef_ref, gisRef_null, gisRef_rf, Option.toList_some, Option.toList_none, List.cons_append, List.nil_append, true_and, and_true, false_and, and_false, ↓reduceIte, if_true, if_false, Nat.reduceEqDiff, Nat.reduceAdd, Nat.reduceMul, Nat.reduceSub, Nat.reduceLeDiff, reduceCtorEq, not_true_eq_false, not_false_eq_true, true_imp_iff, false_imp_iff, zc_0, zc_1, zc_2, zc_3, zc_4, zc_5, zc_6, zc_8, zc_9, zc_10, zc_32, zc_36, zc_48, zc_64, zc_80, zc_120, zc_128, zc_248, zc_320, zc_400, zc_800, zc_1200, zc_2001, zc_4002, Int.reduceLT, Int.reduceLE, Int.reduceNeg, Nat.zero_ne_one, Nat.one_ne_zero, or_true, true_or, or_false, false_or, ti_0, ti_1, ti_2, ti_3, ti_4, ti_5, ti_6, ti_7, ti_8, ti_9, ti_10, ti_11, ti_12, ti_13, ti_14, ti_15, ti_16, ti_17, ti_18, ti_19, ti_20, ti_21, ti_22, ti_23, ti_24, ti_25, ti_26, ti_27, ti_28, ti_29, ti_30, ti_31, ti_32, ti_33, ti_34, ti_35, ti_36, ti_37, ti_38, ti_39, ti_40, ti_41, ti_42, ti_43, ti_44, ti_45, ti_46, ti_47, ti_48, ti_49, ti_50, ti_51, ti_52, ti_53, ti_54, ti_55, ti_56, ti_57, ti_58, ti_59, ti_60, ti_61, ti_62, ti_63, ti_64, ti_65, ti_66, ti_67, ti_68, ti_69, ti_70, ti_71, ti_72, ti_73, ti_74, ti_75, ti_76, ti_77, ti_78, ti_79, ti_80, ti_81, ti_82, ti_83, ti_84, ti_85, ti_86, ti_87, ti_88, ti_89, ti_90, ti_91, ti_92, ti_93, ti_94, ti_95, ti_96, ti_97, ti_98, ti_99, ti_100, ti_101, ti_102, ti_103, ti_104, ti_105, ti_106, ti_107, ti_108, ti_109, ti_110, ti_111, ti_112, ti_113, ti_114, ti_115, ti_116, ti_117, ti_118, ti_119, ti_120, ti_121, ti_122, ti_123, ti_124, ti_125, ti_126, ti_127, ti_128, ti_129, ti_200, ti_248, ti_255, ti_256, ti_400, ti_1000, ti_2000, ti_2001, ti_1000000, tj_1, tj_2, tj_8, tj_10, tj_1000, tc_0, tc_1, tc_2, tc_3, tc_4, tc_5, tc_6, tc_7, tc_8, i32_lt, i32_le, h1, h1c, h2, h3, h4, XR_sI, xo0 hx, xa1 hx, xl1 hx, xs1 hx, xa2 hx, xl2 hx, xs2 hx, xa3 hx, xl3 hx, xs3 hx, xa4 hx, xl4 hx, xs4 hx, xa5 hx, xl5 hx, xs5 hx, xo6 hx, xa7 hx, xl7 hx, xs7 hx, xa8 hx, xl8 hx, xs8 hx, xo9 hx, xa10 hx, xl10 hx, xs10 hx, xa11 hx, xl11 hx, xs11 hx, xa12 hx, xl12 hx, xs12 hx, xa13 hx, xl13 hx, xs13 hx, xa14 hx, xl14 hx, xs14 hx, xo15 hx, xo16 hx, xa17 hx, xl17 hx, xs17 hx, xa18 hx, xl18 hx, xs18 hx, xa19 hx, xl19 hx, xs19 hx, xa20 hx, xl20 hx, xs20 hx, xa21 hx, xl21 hx, xs21 hx, xa22 hx, xl22 hx, xs22 hx, xa23 hx, xl23 hx, xs23 hx, xa24 hx, xl24 hx, xs24 hx, xa25 hx, xl25 hx, xs25 hx, xo26 hx, xo27 hx, xa28 hx, xl28 hx, xs28 hx, xa29 hx, xl29 hx, xs29 hx, xa30 hx, xl30 hx, xs30 hx, xa31 hx, xl31 hx, xs31 hx, xa32 hx, xl32 hx, xs32 hx, xa33 hx, xl33 hx, xs33 hx, xa34 hx, xl34 hx, xs34 hx, xa35 hx, xl35 hx, xs35 hx, xa36 hx, xl36 hx, xs36 hx, xo37 hx, xa38 hx, xl38 hx, xs38 hx, xa39 hx, xl39 hx, xs39 hx, xa40 hx, xl40 hx, xs40 hx, xa41 hx, xl41 hx, xs41 hx, xo42 hx, xa43 hx, xl43 hx, xs43 hx, xa44 hx, xl44 hx, xs44 hx, xa45 hx, xl45 hx, xs45 hx, xa46 hx, xl46 hx, xs46 hx, xa47 hx, xl47 hx, xs47 hx, xa48 hx, xl48 hx, xs48 hx, xr0_0 hx, xr0_2 hx, xr0_4 hx, xr0_6 hx, xr0_8 hx, xr0_9 hx, xr6_0 hx, xr6_3 hx, xr0_10 hx, xr9_0 hx, xr9_2 hx, xr9_3 hx, xr9_5 hx, xr0_11 hx, xr0_12 hx, xr0_13 hx, xr0_14 hx, xr15_0 hx, xr15_1 hx, xr16_0 hx, xr16_1 hx, xr16_2 hx, xr16_3 hx, xr16_4 hx, xr16_5 hx, xr16_6 hx, xr16_7 hx, xr26_0 hx, xr26_1 hx, xr27_0 hx, xr27_1 hx, xr27_2 hx, xr27_3 hx, xr27_4 hx, xr27_5 hx, xr27_6 hx, xr27_7 hx, xr37_0 hx, xr37_2 hx, xr37_3 hx, xr37_5 hx, xr42_0 hx, xr42_1 hx, xr42_3 hx, xr42_4 hx, xr42_6 hx, xr42_8 hx, hl, hh, gb_0, hpin, nl_4, nI_mul, nI_add]
      exact hin
    · simp only [Nat.reduceAdd] at hpin
      simp only [z55_11, z55_12, z55_15, z55_17, z55_18, z55_20, z55_23, z55_26, z55_27, z55_28, z55_31, z55_33, z55_34, z55_35, z55_38, z55_39, z55_40, z55_42, z55_43, z55_45, z55_48, gIn_toInt, nI_toInt, Nat.reduceLT, Nat.reducePow, va_rf_none, va_rf_some, gObj_sI, gObj_sR, gAr_sI, gAr_sR, gLen_sI, gLen_sR, gsI_1, gsI_2, gsR_1, gsR_2, gU_ref, gU_null, gU_rf, gisRef_ref, gisRef_null, gisRef_rf, Option.toList_some, Option.toList_none, List.cons_append, List.nil_append, true_and, and_true, false_and, and_false, ↓reduceIte, if_true, if_false, Nat.reduceEqDiff, Nat.reduceAdd, Nat.reduceMul, Nat.reduceSub, Nat.reduceLeDiff, reduceCtorEq, not_true_eq_false, not_false_eq_true, true_imp_iff, false_imp_iff, zc_0, zc_1, zc_2, zc_3, zc_4, zc_5, zc_6, zc_8, zc_9, zc_10, zc_32, zc_36, zc_48, zc_64, zc_80, zc_120, zc_128, zc_248, zc_320, zc_400, zc_800, zc_1200, zc_2001, zc_4002, Int.reduceLT, Int.reduceLE, Int.reduceNeg, Nat.zero_ne_one, Nat.one_ne_zero, or_true, true_or, or_false, false_or, ti_0, ti_1, ti_2, ti_3, ti_4, ti_5, ti_6, ti_7, ti_8, ti_9, ti_10, ti_11, ti_12, ti_13, ti_14, ti_15, ti_16, ti_17, ti_18, ti_19, ti_20, ti_21, ti_22, ti_23, ti_24, ti_25, ti_26, ti_27, ti_28, ti_29, ti_30, ti_31, ti_32, ti_33, ti_34, ti_35, ti_36, ti_37, ti_38, ti_39, ti_40, ti_41, ti_42, ti_43, ti_44, ti_45, ti_46, ti_47, ti_48, ti_49, ti_50, ti_51, ti_52, ti_53, ti_54, ti_55, ti_56, ti_57, ti_58, ti_59, ti_60, ti_61, ti_62, ti_63, ti_64, ti_65, ti_66, ti_67, ti_68, ti_69, ti_70, ti_71, ti_72, ti_73, ti_74, ti_75, ti_76, ti_77, ti_78, ti_79, ti_80, ti_81, ti_82, ti_83, ti_84, ti_85, ti_86, ti_87, ti_88, ti_89, ti_90, ti_91, ti_92, ti_93, ti_94, ti_95, ti_96, ti_97, ti_98, ti_99, ti_100, ti_101, ti_102, ti_103, ti_104, ti_105, ti_106, ti_107, ti_108, ti_109, ti_110, ti_111, ti_112, ti_113, ti_114, ti_115, ti_116, ti_117, ti_118, ti_119, ti_120, ti_121, ti_122, ti_123, ti_124, ti_125, ti_126, ti_127, ti_128, ti_129, ti_200, ti_248, ti_255, ti_256, ti_400, ti_1000, ti_2000, ti_2001, ti_1000000, tj_1, tj_2, tj_8, tj_10, tj_1000, tc_0, tc_1, tc_2, tc_3, tc_4, tc_5, tc_6, tc_7, tc_8, i32_lt, i32_le, h1, h1c, h2, h3, h4, XR_sI, xo0 hx, xa1 hx, xl1 hx, xs1 hx, xa2 hx, xl2 hx, xs2 hx, xa3 hx, xl3 hx, xs3 hx, xa4 hx, xl4 hx, xs4 hx, xa5 hx, xl5 hx, xs5 hx, xo6 hx, xa7 hx, xl7 hx, xs7 hx, xa8 hx, xl8 hx, xs8 hx, xo9 hx, xa10 hx, xl10 hx, xs10 hx, xa11 hx, xl11 hx, xs11 hx, xa12 hx, xl12 hx, xs12 hx, xa13 hx, xl13 hx, xs13 hx, xa14 hx, xl14 hx, xs14 hx, xo15 hx, xo16 hx, xa17 hx, xl17 hx, xs17 hx, xa18 hx, xl18 hx, xs18 hx, xa19 hx, xl19 hx, xs19 hx, xa20 hx, xl20 hx, xs20 hx, xa21 hx, xl21 hx, xs21 hx, xa22 hx, xl22 hx, xs22 hx, xa23 hx, xl23 hx, xs23 hx, xa24 hx, xl24 hx, xs24 hx, xa25 hx, xl25 hx, xs25 hx, xo26 hx, xo27 hx, xa28 hx, xl28 hx, xs28 hx, xa29 hx, xl29 hx, xs29 hx, xa30 hx, xl30 hx, xs30 hx, xa31 hx, xl31 hx, xs31 hx, xa32 hx, xl32 hx, xs32 hx, xa33 hx, xl33 hx, xs33 hx, xa34 hx, xl34 hx, xs34 hx, xa35 hx, xl35 hx, xs35 hx, xa36 hx, xl36 hx, xs36 hx, xo37 hx, xa38 hx, xl38 hx, xs38 hx, xa39 hx, xl39 hx, xs39 hx, xa40 hx, xl40 hx, xs40 hx, xa41 hx, xl41 hx, xs41 hx, xo42 hx, xa43 hx, xl43 hx, xs43 hx, xa44 hx, xl44 hx, xs44 hx, xa45 hx, xl45 hx, xs45 hx, xa46 hx, xl46 hx, xs46 hx, xa47 hx, xl47 hx, xs47 hx, xa48 hx, xl48 hx, xs48 hx, xr0_0 hx, xr0_2 hx, xr0_4 hx, xr0_6 hx, xr0_8 hx, xr0_9 hx, xr6_0 hx, xr6_3 hx, xr0_10 hx, xr9_0 hx, xr9_2 hx, xr9_3 hx, xr9_5 hx, xr0_11 hx, xr0_12 hx, xr0_13 hx, xr0_14 hx, xr15_0 hx, xr15_1 hx, xr16_0 hx, xr16_1 hx, xr16_2 hx, xr16_3 hx, xr16_4 hx, xr16_5 hx, xr16_6 hx, xr16_7 hx, xr26_0 hx, xr26_1 hx, xr27_0 hx, xr27_1 hx, xr27_2 hx, xr27_3 hx, xr27_4 hx, xr27_5 hx, xr27_6 hx, xr27_7 hx, xr37_0 hx, xr37_2 hx, xr37_3 hx, xr37_5 hx, xr42_0 hx, xr42_1 hx, xr42_3 hx, xr42_4 hx, xr42_6 hx, xr42_8 hx, hl, hh, gb_0, hpin, nl_4, nI_mul, nI_add]
      exact hin
theorem s_held (hx : XR M) (hL : isL L) (hls : xLs M L n ly) {up : Nat → Nat} {B : Nat} (hB : B ≤ 100000) (hup : xUp M up B) {a e : Nat} (he : e ≤ n) (ha : a ≤ e) :
    Call (d + 4) 55 [.ref L, .int (nI a), .int (nI e - 1), .ref 41] M Z ↔ Z (some (.int (nI (nHP ly a (e - a) + nHM up ly a (e - a))))) M := by
  rw [e55, z55_0, z55_1, z55_3, z55_4, z55_6, z55_7]
  exact s_held1 hx hL hls hB hup he (e - a) 0 none none (by omega)
theorem s_heap2 (hx : XR M) (hL : isL L) (hls : xLs M L n ly) {up : Nat → Nat} {v1 v2 : Value} (hk : k < n)
    (hK : ∀ M' v, gFr (fun o => o = 41) M M' → (∀ q, q < 64 → M'.1 41 q = nI (nHeap1 up (ly k 2) (ly k 1) (ly k 5) q)) → Run (d + 3) 56 62 [some (.ref L), some v1, some v2, some (.ref 41), some (.int (nI k)), some (.int (nI (ly k 1 + ly k 5))), v] [] M' 0 0 Z) :
    ∀ j c v M', c + j = ly k 5 → gFr (fun o => o = 41) M M' → (∀ q, q < 64 → M'.1 41 q = nI (nHeap1 up (ly k 2) (ly k 1) c q)) → Run (d + 3) 56 17 [some (.ref L), some v1, some v2, some (.ref 41), some (.int (nI k)), some (.int (nI (ly k 1 + c))), v] [] M' 0 0 Z
  | 0, c, v, M', hc, hfr, hup => by
    have hc : c = ly k 5 := by omega
    subst hc
    have hx' := gFr_X hfr hx
    have hls' : xLs M' L n ly := xLs_fr hfr (by rcases hL with rfl | rfl <;> (intro o h1 h2; omega)) hls
    obtain ⟨hq, hf⟩ := hls.2.2 k hk
    have h5 : ly k 1 + ly k 5 ≤ 8 := hq.2.1
    have h1 := nI_ti (show ly k 1 + ly k 5 ≤ 2000 by omega)
    have ht := fun Z => s_topOf (d := d + 1) (Z := Z) hx' hL hls'.1 hls'.2.1 hk
    rw [xLs_f hls' hk (f := 1) (by decide) rfl, xLs_f hls' hk (f := 5) (by decide) rfl, nI_add] at ht
    have ho := xL_o hx' hL
    rw [z56_17]
    simp only [z56_19, z56_20, z56_22, z56_25, gIn_toInt, nI_toInt, Nat.reduceLT, Nat.reducePow, va_rf_none, va_rf_some, gObj_sI, gObj_sR, gAr_sI, gAr_sR, gLen_sI, gLen_sR, gsI_1, gsI_2, gsR_1, gsR_2, gU_ref, gU_null, gU_rf, gisRef_ref, gisRef_null, gisRef_rf, Option.toList_some, Option.toList_none, List.cons_append, List.nil_append, true_and, and_true, false_and, and_false, ↓reduceIte, if_true, if_false, Nat.reduceEqDiff, Nat.reduceAdd, Nat.reduceMul, Nat.reduceSub, Nat.reduceLeDiff, reduceCtorEq, not_true_eq_false, not_false_eq_true, true_imp_iff, false_imp_iff, zc_0, zc_1, zc_2, zc_3, zc_4, zc_5, zc_6, zc_8, zc_9, zc_10, zc_32, zc_36, zc_48, zc_64, zc_80, zc_120, zc_128, zc_248, zc_320, zc_400, zc_800, zc_1200, zc_2001, zc_4002, Int.reduceLT, Int.reduceLE, Int.reduceNeg, Nat.zero_ne_one, Nat.one_ne_zero, or_true, true_or, or_false, false_or, ti_0, ti_1, ti_2, ti_3, ti_4, ti_5, ti_6, ti_7, ti_8, ti_9, ti_10, ti_11, ti_12, ti_13, ti_14, ti_15, ti_16, ti_17, ti_18, ti_19, ti_20, ti_21, ti_22, ti_23, ti_24, ti_25, ti_26, ti_27, ti_28, ti_29, ti_30, ti_31, ti_32, ti_33, ti_34, ti_35, ti_36, ti_37, ti_38, ti_39, ti_40, ti_41, ti_42, ti_43, ti_44, ti_45, ti_46, ti_47, ti_48, ti_49, ti_50, ti_51, ti_52, ti_53, ti_54, ti_55, ti_56, ti_57, ti_58, ti_59, ti_60, ti_61, ti_62, ti_63, ti_64, ti_65, ti_66, ti_67, ti_68, ti_69, ti_70, ti_71, ti_72, ti_73, ti_74, ti_75, ti_76, ti_77, ti_78, ti_79, ti_80, ti_81, ti_82, ti_83, ti_84, ti_85, ti_86, ti_87, ti_88, ti_89, ti_90, ti_91, ti_92, ti_93, ti_94, ti_95, ti_96, ti_97, ti_98, ti_99, ti_100, ti_101, ti_102, ti_103, ti_104, ti_105, ti_106, ti_107, ti_108, ti_109, ti_110, ti_111, ti_112, ti_113, ti_114, ti_115, ti_116, ti_117, ti_118, ti_119, ti_120, ti_121, ti_122, ti_123, ti_124, ti_125, ti_126, ti_127, ti_128, ti_129, ti_200, ti_248, ti_255, ti_256, ti_400, ti_1000, ti_2000, ti_2001, ti_1000000, tj_1, tj_2, tj_8, tj_10, tj_1000, tc_0, tc_1, tc_2, tc_3, tc_4, tc_5, tc_6, tc_7, tc_8, i32_lt, i32_le, ho, ht, h1, Int.le_refl]
    exact hK M' v hfr hup
  | j + 1, c, v, M', hc, hfr, hup => by
    have hx' := gFr_X hfr hx
    have hls' : xLs M' L n ly := xLs_fr hfr (by rcases hL with rfl | rfl <;> (intro o h1 h2; omega)) hls
    obtain ⟨hq, hf⟩ := hls.2.2 k hk
    have h5 : ly k 1 + ly k 5 ≤ 8 := hq.2.1
    have hs8 : ly k 2 < 8 := hq.2.2.2.1
    have ih := fun M' h1 h2 => s_heap2 (up := up) hx hL hls hk hK j (c + 1) (some (.int (nI ((ly k 1 + c) * 8 + ly k 2)))) M' (by omega) h1 h2
    have h1 := nI_ti (show ly k 1 + ly k 5 ≤ 2000 by omega)
    have h2 := nI_ti (show ly k 1 + c ≤ 2000 by omega)
    have h3 := nI_ti (show (ly k 1 + c) * 8 + ly k 2 ≤ 2000 by omega)
    have h6 := nI_tc (show (ly k 1 + c) * 8 + ly k 2 ≤ 2000 by omega)
    have h7 : ¬ ((ly k 1 + ly k 5 : Nat) : Int) ≤ ((ly k 1 + c : Nat) : Int) := by omega
    have h8 : 0 ≤ (((ly k 1 + c) * 8 + ly k 2 : Nat) : Int) ∧ (((ly k 1 + c) * 8 + ly k 2 : Nat) : Int) < 64 := by omega
    have ht := fun Z => s_topOf (d := d + 1) (Z := Z) hx' hL hls'.1 hls'.2.1 hk
    rw [xLs_f hls' hk (f := 1) (by decide) rfl, xLs_f hls' hk (f := 5) (by decide) rfl, nI_add] at ht
    have hp := fun Z => s_place (d := d + 1) (r := nI (ly k 1 + c)) (Z := Z) hx' hL hls'.1 hls'.2.1 hk
    rw [xLs_f hls' hk (f := 2) (by decide) rfl, nl_8, nI_mul, nI_add] at hp
    have ho := xL_o hx' hL
    have hs1 := hup ((ly k 1 + c) * 8 + ly k 2) (by omega)
    have hw := fun Z => s_within (d := d + 2) (M := M') (Z := Z) (i := nI ((ly k 1 + c) * 8 + ly k 2)) (n := nI 64)
    have h48 : (nI 64).toInt = 64 := nI_ti (by decide)
    simp only [h3, h48, h8] at hw
    rw [z56_17]
    simp only [z56_19, z56_20, z56_22, z56_25, z56_28, z56_29, z56_31, z56_33, z56_36, z56_38, z56_40, z56_40n, z56_41, z56_42, z56_45, z56_48, z56_48n, z56_49, z56_51, z56_52, z56_53, z56_54, z56_55, z56_56, z56_59, gIn_toInt, nI_toInt, Nat.reduceLT, Nat.reducePow, va_rf_none, va_rf_some, gObj_sI, gObj_sR, gAr_sI, gAr_sR, gLen_sI, gLen_sR, gsI_1, gsI_2, gsR_1, gsR_2, gU_ref, gU_null, gU_rf, gisRef_ref, gisRef_null, gisRef_rf, Option.toList_some, Option.toList_none, List.cons_append, List.nil_append, true_and, and_true, false_and, and_false, ↓reduceIte, if_true, if_false, Nat.reduceEqDiff, Nat.reduceAdd, Nat.reduceMul, Nat.reduceSub, Nat.reduceLeDiff, reduceCtorEq, not_true_eq_false, not_false_eq_true, true_imp_iff, false_imp_iff, zc_0, zc_1, zc_2, zc_3, zc_4, zc_5, zc_6, zc_8, zc_9, zc_10, zc_32, zc_36, zc_48, zc_64, zc_80, zc_120, zc_128, zc_248, zc_320, zc_400, zc_800, zc_1200, zc_2001, zc_4002, Int.reduceLT, Int.reduceLE, Int.reduceNeg, Nat.zero_ne_one, Nat.one_ne_zero, or_true, true_or, or_false, false_or, ti_0, ti_1, ti_2, ti_3, ti_4, ti_5, ti_6, ti_7, ti_8, ti_9, ti_10, ti_11, ti_12, ti_13, ti_14, ti_15, ti_16, ti_17, ti_18, ti_19, ti_20, ti_21, ti_22, ti_23, ti_24, ti_25, ti_26, ti_27, ti_28, ti_29, ti_30, ti_31, ti_32, ti_33, ti_34, ti_35, ti_36, ti_37, ti_38, ti_39, ti_40, ti_41, ti_42, ti_43, ti_44, ti_45, ti_46, ti_47, ti_48, ti_49, ti_50, ti_51, ti_52, ti_53, ti_54, ti_55, ti_56, ti_57, ti_58, ti_59, ti_60, ti_61, ti_62, ti_63, ti_64, ti_65, ti_66, ti_67, ti_68, ti_69, ti_70, ti_71, ti_72, ti_73, ti_74, ti_75, ti_76, ti_77, ti_78, ti_79, ti_80, ti_81, ti_82, ti_83, ti_84, ti_85, ti_86, ti_87, ti_88, ti_89, ti_90, ti_91, ti_92, ti_93, ti_94, ti_95, ti_96, ti_97, ti_98, ti_99, ti_100, ti_101, ti_102, ti_103, ti_104, ti_105, ti_106, ti_107, ti_108, ti_109, ti_110, ti_111, ti_112, ti_113, ti_114, ti_115, ti_116, ti_117, ti_118, ti_119, ti_120, ti_121, ti_122, ti_123, ti_124, ti_125, ti_126, ti_127, ti_128, ti_129, ti_200, ti_248, ti_255, ti_256, ti_400, ti_1000, ti_2000, ti_2001, ti_1000000, tj_1, tj_2, tj_8, tj_10, tj_1000, tc_0, tc_1, tc_2, tc_3, tc_4, tc_5, tc_6, tc_7, tc_8, i32_lt, i32_le, ho, ht, h1, h2, h7, hp, XR_sI, xo0 hx', xa1 hx', xl1 hx', xs1 hx', xa2 hx', xl2 hx', xs2 hx', xa3 hx', xl3 hx', xs3 hx', xa4 hx', xl4 hx', xs4 hx', xa5 hx', xl5 hx', xs5 hx', xo6 hx', xa7 hx', xl7 hx', xs7 hx', xa8 hx', xl8 hx', xs8 hx', xo9 hx', xa10 hx', xl10 hx', xs10 hx', xa11 hx', xl11 hx', xs11 hx', xa12 hx', xl12 hx', xs12 hx', xa13 hx', xl13 hx', xs13 hx', xa14 hx', xl14 hx', xs14 hx', xo15 hx', xo16 hx', xa17 hx', xl17 hx', xs17 hx', xa18 hx', xl18 hx', xs18 hx', xa19 hx', xl19 hx', xs19 hx', xa20 hx', xl20 hx', xs20 hx', xa21 hx', xl21 hx', xs21 hx', xa22 hx', xl22 hx', xs22 hx', xa23 hx', xl23 hx', xs23 hx', xa24 hx', xl24 hx', xs24 hx', xa25 hx', xl25 hx', xs25 hx', xo26 hx', xo27 hx', xa28 hx', xl28 hx', xs28 hx', xa29 hx', xl29 hx', xs29 hx', xa30 hx', xl30 hx', xs30 hx', xa31 hx', xl31 hx', xs31 hx', xa32 hx', xl32 hx', xs32 hx', xa33 hx', xl33 hx', xs33 hx', xa34 hx', xl34 hx', xs34 hx', xa35 hx', xl35 hx', xs35 hx', xa36 hx', xl36 hx', xs36 hx', xo37 hx', xa38 hx', xl38 hx', xs38 hx', xa39 hx', xl39 hx', xs39 hx', xa40 hx', xl40 hx', xs40 hx', xa41 hx', xl41 hx', xs41 hx', xo42 hx', xa43 hx', xl43 hx', xs43 hx', xa44 hx', xl44 hx', xs44 hx', xa45 hx', xl45 hx', xs45 hx', xa46 hx', xl46 hx', xs46 hx', xa47 hx', xl47 hx', xs47 hx', xa48 hx', xl48 hx', xs48 hx', xr0_0 hx', xr0_2 hx', xr0_4 hx', xr0_6 hx', xr0_8 hx', xr0_9 hx', xr6_0 hx', xr6_3 hx', xr0_10 hx', xr9_0 hx', xr9_2 hx', xr9_3 hx', xr9_5 hx', xr0_11 hx', xr0_12 hx', xr0_13 hx', xr0_14 hx', xr15_0 hx', xr15_1 hx', xr16_0 hx', xr16_1 hx', xr16_2 hx', xr16_3 hx', xr16_4 hx', xr16_5 hx', xr16_6 hx', xr16_7 hx', xr26_0 hx', xr26_1 hx', xr27_0 hx', xr27_1 hx', xr27_2 hx', xr27_3 hx', xr27_4 hx', xr27_5 hx', xr27_6 hx', xr27_7 hx', xr37_0 hx', xr37_2 hx', xr37_3 hx', xr37_5 hx', xr42_0 hx', xr42_1 hx', xr42_3 hx', xr42_4 hx', xr42_6 hx', xr42_8 hx', hw, gb_0, h8, h3, h6, hs1, nI_1]
    refine ih _ (gFr_tr hfr (gFr_sI rfl)) (fun q hq => ?_)
    rw [gsI_1]
    simp only [true_and, nHeap1]
    split
    · rename_i h; rw [h]
    · exact hup q hq
theorem s_heap1 (hx : XR M) (hL : isL L) (hls : xLs M L n ly) {up : Nat → Nat} {a e : Nat} (he : e ≤ n)
    (hK : ∀ M', gFr (fun o => o = 41) M M' → (∀ q, q < 64 → M'.1 41 q = nI (nHeap up ly a (e - a) q)) → Z none M') :
    ∀ j c v5 v6 M', a + c + j = e → gFr (fun o => o = 41) M M' → (∀ q, q < 64 → M'.1 41 q = nI (nHeap up ly a c q)) → Run (d + 3) 56 3 [some (.ref L), some (.int (nI a)), some (.int (nI e - 1)), some (.ref 41), some (.int (nI (a + c))), v5, v6] [] M' 0 0 Z
  | 0, c, v5, v6, M', hc, hfr, hup => by
    have hc : e = a + c := by omega
    subst hc
    have h1 := nI_ti (show a + c ≤ 2000 by have := hls.2.1; omega)
    have h2 := nI_e1 (show a + c ≤ 2000 by have := hls.2.1; omega)
    have h3 : ((a + c : Nat) : Int) - 1 < ((a + c : Nat) : Int) := by omega
    rw [Nat.add_sub_cancel_left] at hK
    rw [z56_3]
    simp only [z56_5, z56_6, z56_68, gIn_toInt, nI_toInt, Nat.reduceLT, Nat.reducePow, va_rf_none, va_rf_some, gObj_sI, gObj_sR, gAr_sI, gAr_sR, gLen_sI, gLen_sR, gsI_1, gsI_2, gsR_1, gsR_2, gU_ref, gU_null, gU_rf, gisRef_ref, gisRef_null, gisRef_rf, Option.toList_some, Option.toList_none, List.cons_append, List.nil_append, true_and, and_true, false_and, and_false, ↓reduceIte, if_true, if_false, Nat.reduceEqDiff, Nat.reduceAdd, Nat.reduceMul, Nat.reduceSub, Nat.reduceLeDiff, reduceCtorEq, not_true_eq_false, not_false_eq_true, true_imp_iff, false_imp_iff, zc_0, zc_1, zc_2, zc_3, zc_4, zc_5, zc_6, zc_8, zc_9, zc_10, zc_32, zc_36, zc_48, zc_64, zc_80, zc_120, zc_128, zc_248, zc_320, zc_400, zc_800, zc_1200, zc_2001, zc_4002, Int.reduceLT, Int.reduceLE, Int.reduceNeg, Nat.zero_ne_one, Nat.one_ne_zero, or_true, true_or, or_false, false_or, ti_0, ti_1, ti_2, ti_3, ti_4, ti_5, ti_6, ti_7, ti_8, ti_9, ti_10, ti_11, ti_12, ti_13, ti_14, ti_15, ti_16, ti_17, ti_18, ti_19, ti_20, ti_21, ti_22, ti_23, ti_24, ti_25, ti_26, ti_27, ti_28, ti_29, ti_30, ti_31, ti_32, ti_33, ti_34, ti_35, ti_36, ti_37, ti_38, ti_39, ti_40, ti_41, ti_42, ti_43, ti_44, ti_45, ti_46, ti_47, ti_48, ti_49, ti_50, ti_51, ti_52, ti_53, ti_54, ti_55, ti_56, ti_57, ti_58, ti_59, ti_60, ti_61, ti_62, ti_63, ti_64, ti_65, ti_66, ti_67, ti_68, ti_69, ti_70, ti_71, ti_72, ti_73, ti_74, ti_75, ti_76, ti_77, ti_78, ti_79, ti_80, ti_81, ti_82, ti_83, ti_84, ti_85, ti_86, ti_87, ti_88, ti_89, ti_90, ti_91, ti_92, ti_93, ti_94, ti_95, ti_96, ti_97, ti_98, ti_99, ti_100, ti_101, ti_102, ti_103, ti_104, ti_105, ti_106, ti_107, ti_108, ti_109, ti_110, ti_111, ti_112, ti_113, ti_114, ti_115, ti_116, ti_117, ti_118, ti_119, ti_120, ti_121, ti_122, ti_123, ti_124, ti_125, ti_126, ti_127, ti_128, ti_129, ti_200, ti_248, ti_255, ti_256, ti_400, ti_1000, ti_2000, ti_2001, ti_1000000, tj_1, tj_2, tj_8, tj_10, tj_1000, tc_0, tc_1, tc_2, tc_3, tc_4, tc_5, tc_6, tc_7, tc_8, i32_lt, i32_le, h1, h2, h3]
    exact hK M' hfr hup
  | j + 1, c, v5, v6, M', hc, hfr, hup => by
    have hx' := gFr_X hfr hx
    have hls' : xLs M' L n ly := xLs_fr hfr (by rcases hL with rfl | rfl <;> (intro o h1 h2; omega)) hls
    have hk : a + c < n := by omega
    have hn4 := hls.2.1
    have h1 := nI_ti (show a + c ≤ 2000 by omega)
    have h2 := nI_e1 (show e ≤ 2000 by omega)
    have h3 : ¬ ((e : Int) - 1 < ((a + c : Nat) : Int)) := by omega
    have ih := fun v5 v6 M' q1 q2 => s_heap1 (v5 := v5) (v6 := v6) (M' := M') hx hL hls he hK j (c + 1) (by omega) q1 q2
    have hl := fun Z => s_lowOf (d := d + 1) (Z := Z) hx' hL hls'.1 hls'.2.1 hk
    rw [xLs_f hls' hk (f := 1) (by decide) rfl] at hl
    have ho := xL_o hx' hL
    have hin := s_heap2 (d := d) (Z := Z) (v1 := .int (nI a)) (v2 := .int (nI e - 1)) (up := nHeap up ly a c) hx' hL hls' hk (fun M2 v q1 q2 => by
      rw [z56_62, nI_1, z56_65]
      exact ih _ v M2 (gFr_tr hfr q1) q2) (ly (a + c) 5) 0 v6 M' (by omega) gFr_rf hup
    rw [Nat.add_zero] at hin
    rw [z56_3]
    simp only [z56_5, z56_6, z56_9, z56_10, z56_12, z56_15, gIn_toInt, nI_toInt, Nat.reduceLT, Nat.reducePow, va_rf_none, va_rf_some, gObj_sI, gObj_sR, gAr_sI, gAr_sR, gLen_sI, gLen_sR, gsI_1, gsI_2, gsR_1, gsR_2, gU_ref, gU_null, gU_rf, gisRef_ref, gisRef_null, gisRef_rf, Option.toList_some, Option.toList_none, List.cons_append, List.nil_append, true_and, and_true, false_and, and_false, ↓reduceIte, if_true, if_false, Nat.reduceEqDiff, Nat.reduceAdd, Nat.reduceMul, Nat.reduceSub, Nat.reduceLeDiff, reduceCtorEq, not_true_eq_false, not_false_eq_true, true_imp_iff, false_imp_iff, zc_0, zc_1, zc_2, zc_3, zc_4, zc_5, zc_6, zc_8, zc_9, zc_10, zc_32, zc_36, zc_48, zc_64, zc_80, zc_120, zc_128, zc_248, zc_320, zc_400, zc_800, zc_1200, zc_2001, zc_4002, Int.reduceLT, Int.reduceLE, Int.reduceNeg, Nat.zero_ne_one, Nat.one_ne_zero, or_true, true_or, or_false, false_or, ti_0, ti_1, ti_2, ti_3, ti_4, ti_5, ti_6, ti_7, ti_8, ti_9, ti_10, ti_11, ti_12, ti_13, ti_14, ti_15, ti_16, ti_17, ti_18, ti_19, ti_20, ti_21, ti_22, ti_23, ti_24, ti_25, ti_26, ti_27, ti_28, ti_29, ti_30, ti_31, ti_32, ti_33, ti_34, ti_35, ti_36, ti_37, ti_38, ti_39, ti_40, ti_41, ti_42, ti_43, ti_44, ti_45, ti_46, ti_47, ti_48, ti_49, ti_50, ti_51, ti_52, ti_53, ti_54, ti_55, ti_56, ti_57, ti_58, ti_59, ti_60, ti_61, ti_62, ti_63, ti_64, ti_65, ti_66, ti_67, ti_68, ti_69, ti_70, ti_71, ti_72, ti_73, ti_74, ti_75, ti_76, ti_77, ti_78, ti_79, ti_80, ti_81, ti_82, ti_83, ti_84, ti_85, ti_86, ti_87, ti_88, ti_89, ti_90, ti_91, ti_92, ti_93, ti_94, ti_95, ti_96, ti_97, ti_98, ti_99, ti_100, ti_101, ti_102, ti_103, ti_104, ti_105, ti_106, ti_107, ti_108, ti_109, ti_110, ti_111, ti_112, ti_113, ti_114, ti_115, ti_116, ti_117, ti_118, ti_119, ti_120, ti_121, ti_122, ti_123, ti_124, ti_125, ti_126, ti_127, ti_128, ti_129, ti_200, ti_248, ti_255, ti_256, ti_400, ti_1000, ti_2000, ti_2001, ti_1000000, tj_1, tj_2, tj_8, tj_10, tj_1000, tc_0, tc_1, tc_2, tc_3, tc_4, tc_5, tc_6, tc_7, tc_8, i32_lt, i32_le, h1, h2, h3, ho, hl]
    exact hin
theorem s_heap (hx : XR M) (hL : isL L) (hls : xLs M L n ly) {up : Nat → Nat} {a e : Nat} (he : e ≤ n) (ha : a ≤ e) (hup : ∀ q, q < 64 → M.1 41 q = nI (up q))
    (hK : ∀ M', gFr (fun o => o = 41) M M' → (∀ q, q < 64 → M'.1 41 q = nI (nHeap up ly a (e - a) q)) → Z none M') : Call (d + 4) 56 [.ref L, .int (nI a), .int (nI e - 1), .ref 41] M Z := by
  rw [e56, z56_0, z56_1]
  exact s_heap1 hx hL hls he hK (e - a) 0 none none M (by omega) gFr_rf hup
end
