/-! The class's Hand: its work on a whole style. -/
def xFw (D : Nat) (M M2 : gM) : Prop := M2.2.2 = M.2.2 ∧ (∀ o k, ¬ (o = 9 ∧ k = 6) → M2.2.1 o k = M.2.1 o k) ∧ ∀ o, ¬ xHD D o → M2.1 o = M.1 o
section
variable {d D L k p q N tn m w len endc : Nat} {M0 M M2 : gM} {Z : Option Value → gM → Prop} {i x y f v z : Int32} {ly : Nat → Nat → Nat} {col : Nat → Nat} {t : nD} {g mk tx : Nat → Nat}
variable {pl : List Int32} {nm : Nat → Int32} {rs : List (Nat × Nat)} {nx st as : Nat} {a1 a3 a5 a6 : Option Value} {s : nS}
theorem xWk_X (hx : XR M) : XR (xWk M q z) := gHas_sR (o := 9) (k := 6) (r := some q) (by decide) hx
theorem xFw_X (h : xFw D M M2) (hx : XR M) : XR M2 := ⟨fun i hi => by rw [h.1]; exact hx.1 i hi, fun e he => by
  rw [h.2.1 _ _ ?_]
  · exact hx.2 e he
  · intro h2
    have hk : (XRF.all (fun e => !(e.1 == 9 && e.2.1 == 6))) = true := by decide
    have := List.all_eq_true.mp hk e he
    rw [h2.1, h2.2] at this
    exact absurd this (by decide)⟩
theorem xFw_of (hf : gFr (xHD D) (xWk M q z) M2) : xFw D M M2 := by
  refine ⟨by rw [hf.1]; rfl, fun o k h => ?_, fun o h => ?_⟩
  · rw [hf.1]
    show (gsR M 9 6 (some q)).2.1 o k = _
    rw [gsR_2, if_neg h]
  · rw [hf.2 o h]
    refine xWk_1 ⟨fun h9 => h ?_, fun h9 => h ?_⟩
    · subst h9; exact Or.inl ⟨by decide, by decide⟩
    · subst h9; exact Or.inl ⟨by decide, by decide⟩
theorem s_work (hx : XR M) (hD : isD D) (hd : xDr M D t) (hg : xGi M D g) (hs : xSty M p q N mk) {n : Nat} {Dn : nDn} (hW : cS tx mk 1 0 0 0 n N Dn) (hi : nInv (nNm z, 0, 0, t))
    (hZ : ∀ M2, xFw D M M2 → M2.1 9 9 = nI (Dn g (nNm z, 0, 0, t)).2.2.1 → xDr M2 D (Dn g (nNm z, 0, 0, t)).2.2.2 → Z none M2) : Call (d + 7) 19 [.ref 9, .ref p, .ref D, .int z] M Z := by
  obtain ⟨p1, p2, p3, p4, p5, p6, p7, p8, p9⟩ := hs
  have hx0 := xWk_X (q := q) (z := z) hx
  have hm : xMk (xWk M q z) q N mk := ⟨by simp [xWk, gsR_2, gsI_2], p3, p4, p5, by omega, p8, fun k hk => by rw [xWk_1 (by omega)]; exact p9 k hk⟩
  have hd0 : xDr (xWk M q z) D t := by
    unfold xWk
    repeat (refine xDr_o ?_ (by rcases hD with rfl | rfl <;> omega))
    exact hd
  have hg0 : xGi (xWk M q z) D g := fun r hr => by rw [xWk_1 (by rcases hD with rfl | rfl <;> omega)]; exact hg r hr
  obtain ⟨huv, hkeep, hE⟩ := hW _ (wS_cl hx0 hD hg0 hm)
  have hrun : wRun d Z (some (.ref p)) (some (.int z)) D 0 (xWk M q z) := by
    refine hE d Z _ _ _ [] (nNm z, 0, 0, t) 0 rfl (Nat.le_refl _) hi (by simp) ⟨gFr_rf, xWk_hd, hd0⟩ (fun h0 M3 tn3 htn3 hw3 => ?_) (fun h0 M3 hf3 ha3 hd3 => hZ M3 (xFw_of hf3) ha3 hd3)
    obtain ⟨hi3, -⟩ := hkeep g _ hi h0
    have hi2 := hi3.2.2.2.2.1
    exact w_exit hx0 hD hm hw3 (by have h2 : tn3 + 50 + 300 * 0 ≤ 0 + 300 * (Dn g (nNm z, 0, 0, t)).2.1 := htn3; omega) h0 (hZ M3 (xFw_of hw3.1) hw3.2.1.2.2.2.2.2 hw3.2.2)
  have hgo := hrun none none
  have ho := xo9 hx
  rw [e19]
  simp only [z19_0, z19_1, z19_1n, z19_2, z19_5, z19_8, z19_9, z19_10, z19_13, z19_14, z19_15, z19_18, z19_19, z19_22, z19_23, z19_24, z19_25, z19_26, z19_29, z19_30, z19_31, z19_32, z19_33, z19_36, z19_37, z19_38, z19_39, z19_40, z19_41, z19_44, z19_45, z19_46, z19_49, z19_50, z19_51, z19_54, z19_55, gIn_toInt, nI_toInt, Nat.reduceLT, Nat.reducePow, va_rf_none, va_rf_some, gObj_sI, gObj_sR, gAr_sI, gAr_sR, gLen_sI, gLen_sR, gsI_1, gsI_2, gsR_1, gsR_2, gU_ref, gU_null, gU_rf, gisRef_ref, gisRef_null, gisRef_rf, Option.toList_some, Option.toList_none, List.cons_append, List.nil_append, true_and, and_true, false_and, and_false, ↓reduceIte, if_true, if_false, Nat.reduceEqDiff, Nat.reduceAdd, Nat.reduceMul, Nat.reduceSub, Nat.reduceLeDiff, reduceCtorEq, not_true_eq_false, not_false_eq_true, true_imp_iff, false_imp_iff, zc_0, zc_1, zc_2, zc_3, zc_4, zc_5, zc_6, zc_8, zc_9, zc_10, zc_32, zc_36, zc_48, zc_64, zc_80, zc_120, zc_128, zc_248, zc_320, zc_400, zc_800, zc_1200, zc_2001, zc_4002, Int.reduceLT, Int.reduceLE, Int.reduceNeg, Nat.zero_ne_one, Nat.one_ne_zero, or_true, true_or, or_false, false_or, ti_0, ti_1, ti_2, ti_3, ti_4, ti_5, ti_6, ti_7, ti_8, ti_9, ti_10, ti_11, ti_12, ti_13, ti_14, ti_15, ti_16, ti_17, ti_18, ti_19, ti_20, ti_21, ti_22, ti_23, ti_24, ti_25, ti_26, ti_27, ti_28, ti_29, ti_30, ti_31, ti_32, ti_33, ti_34, ti_35, ti_36, ti_37, ti_38, ti_39, ti_40, ti_41, ti_42, ti_43, ti_44, ti_45, ti_46, ti_47, ti_48, ti_49, ti_50, ti_51, ti_52, ti_53, ti_54, ti_55, ti_56, ti_57, ti_58, ti_59, ti_60, ti_61, ti_62, ti_63, ti_64, ti_65, ti_66, ti_67, ti_68, ti_69, ti_70, ti_71, ti_72, ti_73, ti_74, ti_75, ti_76, ti_77, ti_78, ti_79, ti_80, ti_81, ti_82, ti_83, ti_84, ti_85, ti_86, ti_87, ti_88, ti_89, ti_90, ti_91, ti_92, ti_93, ti_94, ti_95, ti_96, ti_97, ti_98, ti_99, ti_100, ti_101, ti_102, ti_103, ti_104, ti_105, ti_106, ti_107, ti_108, ti_109, ti_110, ti_111, ti_112, ti_113, ti_114, ti_115, ti_116, ti_117, ti_118, ti_119, ti_120, ti_121, ti_122, ti_123, ti_124, ti_125, ti_126, ti_127, ti_128, ti_129, ti_200, ti_248, ti_255, ti_256, ti_400, ti_1000, ti_2000, ti_2001, ti_1000000, tj_1, tj_2, tj_8, tj_10, tj_1000, tc_0, tc_1, tc_2, tc_3, tc_4, tc_5, tc_6, tc_7, tc_8, i32_lt, i32_le, XR_sI, xo0 hx, xa1 hx, xl1 hx, xs1 hx, xa2 hx, xl2 hx, xs2 hx, xa3 hx, xl3 hx, xs3 hx, xa4 hx, xl4 hx, xs4 hx, xa5 hx, xl5 hx, xs5 hx, xo6 hx, xa7 hx, xl7 hx, xs7 hx, xa8 hx, xl8 hx, xs8 hx, xo9 hx, xa10 hx, xl10 hx, xs10 hx, xa11 hx, xl11 hx, xs11 hx, xa12 hx, xl12 hx, xs12 hx, xa13 hx, xl13 hx, xs13 hx, xa14 hx, xl14 hx, xs14 hx, xo15 hx, xo16 hx, xa17 hx, xl17 hx, xs17 hx, xa18 hx, xl18 hx, xs18 hx, xa19 hx, xl19 hx, xs19 hx, xa20 hx, xl20 hx, xs20 hx, xa21 hx, xl21 hx, xs21 hx, xa22 hx, xl22 hx, xs22 hx, xa23 hx, xl23 hx, xs23 hx, xa24 hx, xl24 hx, xs24 hx, xa25 hx, xl25 hx, xs25 hx, xo26 hx, xo27 hx, xa28 hx, xl28 hx, xs28 hx, xa29 hx, xl29 hx, xs29 hx, xa30 hx, xl30 hx, xs30 hx, xa31 hx, xl31 hx, xs31 hx, xa32 hx, xl32 hx, xs32 hx, xa33 hx, xl33 hx, xs33 hx, xa34 hx, xl34 hx, xs34 hx, xa35 hx, xl35 hx, xs35 hx, xa36 hx, xl36 hx, xs36 hx, xo37 hx, xa38 hx, xl38 hx, xs38 hx, xa39 hx, xl39 hx, xs39 hx, xa40 hx, xl40 hx, xs40 hx, xa41 hx, xl41 hx, xs41 hx, xo42 hx, xa43 hx, xl43 hx, xs43 hx, xa44 hx, xl44 hx, xs44 hx, xa45 hx, xl45 hx, xs45 hx, xa46 hx, xl46 hx, xs46 hx, xa47 hx, xl47 hx, xs47 hx, xa48 hx, xl48 hx, xs48 hx, xr0_0 hx, xr0_2 hx, xr0_4 hx, xr0_6 hx, xr0_8 hx, xr0_9 hx, xr6_0 hx, xr6_3 hx, xr0_10 hx, xr9_0 hx, xr9_2 hx, xr9_3 hx, xr9_5 hx, xr0_11 hx, xr0_12 hx, xr0_13 hx, xr0_14 hx, xr15_0 hx, xr15_1 hx, xr16_0 hx, xr16_1 hx, xr16_2 hx, xr16_3 hx, xr16_4 hx, xr16_5 hx, xr16_6 hx, xr16_7 hx, xr26_0 hx, xr26_1 hx, xr27_0 hx, xr27_1 hx, xr27_2 hx, xr27_3 hx, xr27_4 hx, xr27_5 hx, xr27_6 hx, xr27_7 hx, xr37_0 hx, xr37_2 hx, xr37_3 hx, xr37_5 hx, xr42_0 hx, xr42_1 hx, xr42_3 hx, xr42_4 hx, xr42_6 hx, xr42_8 hx, ho, p1, p2]
  exact hgo
end
