/-! Pairs: what changes nothing that is told. -/
def sX (o k : Nat) : Prop := (6 ≤ o ∧ o ≤ 13) ∨ (25 ≤ o ∧ o ≤ 36) ∨ o = 41 ∨ (43 ≤ o ∧ o ≤ 47) ∨ (o = 42 ∧ k ≠ 9)
def sR (o k : Nat) : Prop := o = 9 ∧ k = 6
def sY (o k : Nat) : Prop := (o = 0 ∧ (4 < k ∧ k < 51 ∨ k = 54)) ∨ (29 ≤ o ∧ o ≤ 33) ∨ (10 ≤ o ∧ o ≤ 16 ∧ 400 ≤ k) ∨ (o = 17 ∧ 2001 ≤ k) ∨ (18 ≤ o ∧ o ≤ 28 ∧ k = 1) ∨ (39 ≤ o ∧ o ≤ 45) ∨ o = 47
section
variable {X X' Y Y' : gM} {r s a b i x : Int32} {P PR Q : Nat → Nat → Prop}
theorem sX_48 (o k : Nat) (h : sX o k) : o ≤ 48 := by unfold sX at h; omega
theorem sR_x (e : Nat × Nat × Nat) (h : e ∈ XRF) : ¬ sR e.1 e.2.1 := by
  have hb : (XRF.all (fun e => !(e.1 == 9 && e.2.1 == 6))) = true := by decide
  have h1 := List.all_eq_true.mp hb e h
  rintro ⟨h2, h3⟩
  rw [h2, h3] at h1
  exact absurd h1 (by decide)
theorem Rel_scr (hR : Rel X Y) (hf : fX sX sR X X') (hg : gFq sY Y Y') : Rel X' Y' := by
  obtain ⟨bn, wd, nc, cl, ns, sy, tn, tp, st, sv, hx, hm, hB, hC, hS, hSC, hT, hX, hsv, hD, hP⟩ := hR
  refine ⟨bn, wd, nc, cl, ns, sy, tn, tp, st, sv, fX_XR hf sR_x hx, gFq_M hg hm, rB_fr hx hf hg (by unfold sX; omega) (fun k => by unfold sX; omega) (by unfold sY; omega) (fun k => by unfold sY; omega) hB, rC_fr hx hf hg sX_48 (by unfold sX; omega) (fun o k h => by unfold sR at h; omega) (fun i => by unfold sY; omega) (by unfold sY; omega) hC, rS_fr hx hf hg (rS_48 hS sX_48) (by unfold sX; omega) (fun o k h => by unfold sR at h; omega) (fun k => by unfold sY; omega) (by unfold sY; omega) hS, hSC, rT_fr hx hf hg (by unfold sX; omega) (fun k => by unfold sX; omega) (by unfold sY; omega) (fun k => by unfold sY; omega) hT, rX_fr hx hf hg (fun k => by unfold sX; omega) (fun k => by unfold sY; omega) hX, xSt_fX hx (by decide) hf (fun k => by unfold sX; omega) hsv, rDD_fr hx hf hg (fun o k h => by unfold sX; omega) (by unfold sR; omega) (fun o k h => by unfold yD inW at h; unfold sY; omega) hD, rP_fr hx hf hg (by unfold sX; omega) (fun k => by unfold sX; omega) (by unfold sY; omega) (fun k => by unfold sY; omega) hP⟩
/-- the tape's count is 0 then -/
theorem Rel_tape0 (hR : Rel X Y) : Rel (gsI X 0 7 0) (gsI Y 0 1 0) := by
  obtain ⟨bn, wd, nc, cl, ns, sy, tn, tp, st, sv, hx, hm, hB, hC, hS, hSC, hT, hX, hsv, hD, hP⟩ := hR
  have hf : fX (fun o k => o = 0 ∧ k = 7) (fun _ _ => False) X (gsI X 0 7 0) := fX_sI ⟨rfl, rfl⟩
  have hg : gFq (fun o k => o = 0 ∧ k = 1) Y (gsI Y 0 1 0) := gFq_sI ⟨rfl, rfl⟩
  refine ⟨bn, wd, nc, cl, ns, sy, 0, tp, st, sv, hx, hm, rB_fr hx hf hg (by omega) (fun k => by omega) (by omega) (fun k => by omega) hB, rC_fr hx hf hg (fun o k h => by omega) (by omega) (fun o k h => h.elim) (fun i => by omega) (by omega) hC, rS_fr hx hf hg (rS_48 (P := fun o k => o = 0 ∧ k = 7) hS (fun o k h => by omega)) (by omega) (fun o k h => h.elim) (fun k => by omega) (by omega) hS, hSC, ⟨⟨by simp [gsI_1]; rfl, Nat.zero_le _⟩, by simp [gsI_1]; rfl, fun q hq => ?_⟩, rX_fr hx hf hg (fun k => by omega) (fun k => by omega) hX, xSt_fX hx (by decide) hf (fun k => by omega) hsv, rDD_fr hx hf hg (fun o k h => by omega) (fun h => h) (fun o k h => by unfold yD inW at h; omega) hD, rP_fr hx hf hg (by omega) (fun k => by omega) (by omega) (fun k => by omega) hP⟩
  rw [gsI_1, if_neg (by omega), gsI_1, if_neg (by omega)]
  exact hT.2.2 q hq
theorem Pz_mk {v : Int32} (h : Rel X Y) : Pz (some (.int v)) (some (.int v)) X Y := ⟨⟨v, rfl⟩, rfl, h⟩
theorem Pz_eq {v v' : Int32} (h : Rel X Y) (he : v = v') : Pz (some (.int v)) (some (.int v')) X Y := by subst he; exact Pz_mk h
theorem rC1_co {k : Nat} {e : cD} (h : rC1 X Y k e) : mCo Y k e.2.1 e.2.2.2.1 e.2.2.2.2 := by
  obtain ⟨q1, q2, q3, q4, q5, q6, q7, q8, q9, q10, q11, q12⟩ := h
  exact ⟨q9, q11, q3.2.2.2.2.2.2.1, q3.2.2.2.2.2.2.2.1, q12⟩
theorem x_neg1 : ¬ (1 : Int32) = 0 := by decide
theorem p_shows : Pr 93 171 [.int r, .int s] := fun X Y hR => by
  obtain ⟨bn, wd, nc, cl, ns, sy, tn, tp, st, sv, hx, hm, hB, hC, hS, hSC, hT, hX, hsv, hD, hP⟩ := id hR
  rcases hD with ⟨d1, d2, d3, d4, d5⟩ | ⟨c, t, hc, d1, d2, d3, d4, d5, d6, d7, d8⟩
  · exact (s_shows0 (d := 195) hx d1).mpr ((m_shows0 (d := 196) hm (Or.inl d2)).mpr (Pz_mk hR))
  · by_cases hpl : ∃ rr ss : Nat, rr < 8 ∧ ss < 8 ∧ r = nI rr ∧ s = nI ss
    · obtain ⟨rr, ss, h1, h2, rfl, rfl⟩ := hpl
      have hcl := hC.2.2.1 c hc
      obtain ⟨n1, n2, n3, n4, n5, n6⟩ := d6
      exact (s_shows (d := 195) hx d1 hcl.2.2.1 d4.1 n5 h1 h2).mpr ((m_shows (d := 196) hm (by rw [d2]; exact x_neg1) (mL0_of d5) (rC1_co hcl) (by have := hC.1.2; omega) d3 (fun k hk => ⟨n5 k hk, by have := n4 k hk; omega⟩) h1 h2).mpr (Pz_mk hR))
    · have hno := isPl_no hpl
      exact (s_shows1 (d := 195) hx d1 hno).mpr ((m_shows0 (d := 196) hm (Or.inr hno)).mpr (Pz_mk hR))
theorem p_layers : Pr 94 172 [.int r, .int s] := fun X Y hR => by
  obtain ⟨bn, wd, nc, cl, ns, sy, tn, tp, st, sv, hx, hm, hB, hC, hS, hSC, hT, hX, hsv, hD, hP⟩ := id hR
  rcases hD with ⟨d1, d2, d3, d4, d5⟩ | ⟨c, t, hc, d1, d2, d3, d4, d5, d6, d7, d8⟩
  · exact (s_layers0 (d := 195) hx d1).mpr ((m_layers0 (d := 196) hm (Or.inl d2)).mpr (Pz_mk hR))
  · by_cases hpl : ∃ rr ss : Nat, rr < 8 ∧ ss < 8 ∧ r = nI rr ∧ s = nI ss
    · obtain ⟨rr, ss, h1, h2, rfl, rfl⟩ := hpl
      exact (s_layers (d := 195) hx d1 d4.1 h1 h2).mpr ((m_layers (d := 196) hm (by rw [d2]; exact x_neg1) (mL0_of d5) h1 h2).mpr (Pz_mk hR))
    · have hno := isPl_no hpl
      exact (s_layers1 (d := 195) hx d1 hno).mpr ((m_layers0 (d := 196) hm (Or.inr hno)).mpr (Pz_mk hR))
theorem p_layer : Pr 95 173 [.int i, .int x] := fun X Y hR => by
  obtain ⟨bn, wd, nc, cl, ns, sy, tn, tp, st, sv, hx, hm, hB, hC, hS, hSC, hT, hX, hsv, hD, hP⟩ := id hR
  rcases hD with ⟨d1, d2, d3, d4, d5⟩ | ⟨c, t, hc, d1, d2, d3, d4, d5, d6, d7, d8⟩
  · refine (s_layer0 (d := 195) hx d1).mpr ?_
    simp only [z173_0, z173_1, z173_4, z173_7, z173_8, z173_9, z173_10, z173_13, z173_14, z173_15, z173_16, z173_17, z173_20, z173_23, z173_24, e173 (d := 199), gIn_toInt, nI_toInt, Nat.reduceLT, Nat.reducePow, va_rf_none, va_rf_some, gObj_sI, gObj_sR, gAr_sI, gAr_sR, gLen_sI, gLen_sR, gsI_1, gsI_2, gsR_1, gsR_2, gU_ref, gU_null, gU_rf, gisRef_ref, gisRef_null, gisRef_rf, Option.toList_some, Option.toList_none, List.cons_append, List.nil_append, true_and, and_true, false_and, and_false, ↓reduceIte, if_true, if_false, Nat.reduceEqDiff, Nat.reduceAdd, Nat.reduceMul, Nat.reduceSub, Nat.reduceLeDiff, reduceCtorEq, not_true_eq_false, not_false_eq_true, true_imp_iff, false_imp_iff, zc_0, zc_1, zc_2, zc_3, zc_4, zc_5, zc_6, zc_8, zc_9, zc_10, zc_32, zc_36, zc_48, zc_64, zc_80, zc_120, zc_128, zc_248, zc_320, zc_400, zc_800, zc_1200, zc_2001, zc_4002, Int.reduceLT, Int.reduceLE, Int.reduceNeg, Nat.zero_ne_one, Nat.one_ne_zero, or_true, true_or, or_false, false_or, MR_sI, mo0 hm, ma1 hm, ml1 hm, ms1 hm, ma2 hm, ml2 hm, ms2 hm, ma3 hm, ml3 hm, ms3 hm, ma4 hm, ml4 hm, ms4 hm, ma5 hm, ml5 hm, ms5 hm, ma6 hm, ml6 hm, ms6 hm, ma7 hm, ml7 hm, ms7 hm, ma8 hm, ml8 hm, ms8 hm, ma9 hm, ml9 hm, ms9 hm, ma10 hm, ml10 hm, ms10 hm, ma11 hm, ml11 hm, ms11 hm, ma12 hm, ml12 hm, ms12 hm, ma13 hm, ml13 hm, ms13 hm, ma14 hm, ml14 hm, ms14 hm, ma15 hm, ml15 hm, ms15 hm, ma16 hm, ml16 hm, ms16 hm, ma17 hm, ml17 hm, ms17 hm, ma18 hm, ml18 hm, ms18 hm, ma19 hm, ml19 hm, ms19 hm, ma20 hm, ml20 hm, ms20 hm, ma21 hm, ml21 hm, ms21 hm, ma22 hm, ml22 hm, ms22 hm, ma23 hm, ml23 hm, ms23 hm, ma24 hm, ml24 hm, ms24 hm, ma25 hm, ml25 hm, ms25 hm, ma26 hm, ml26 hm, ms26 hm, ma27 hm, ml27 hm, ms27 hm, ma28 hm, ml28 hm, ms28 hm, ma29 hm, ml29 hm, ms29 hm, ma30 hm, ml30 hm, ms30 hm, ma31 hm, ml31 hm, ms31 hm, ma32 hm, ml32 hm, ms32 hm, ma33 hm, ml33 hm, ms33 hm, ma34 hm, ml34 hm, ms34 hm, ma35 hm, ml35 hm, ms35 hm, ma36 hm, ml36 hm, ms36 hm, ma37 hm, ml37 hm, ms37 hm, ma38 hm, ml38 hm, ms38 hm, ma39 hm, ml39 hm, ms39 hm, ma40 hm, ml40 hm, ms40 hm, ma41 hm, ml41 hm, ms41 hm, ma42 hm, ml42 hm, ms42 hm, ma43 hm, ml43 hm, ms43 hm, ma44 hm, ml44 hm, ms44 hm, ma45 hm, ml45 hm, ms45 hm, ma46 hm, ml46 hm, ms46 hm, ma47 hm, ml47 hm, ms47 hm, mr0_0 hm, mr0_5 hm, mr0_6 hm, mr0_7 hm, mr0_8 hm, mr0_9 hm, mr0_10 hm, mr0_11 hm, mr0_12 hm, mr0_17 hm, mr0_18 hm, mr0_19 hm, mr0_20 hm, mr0_21 hm, mr0_22 hm, mr0_23 hm, mr0_24 hm, mr0_25 hm, mr0_26 hm, mr0_27 hm, mr0_28 hm, mr0_29 hm, mr0_30 hm, mr0_31 hm, mr0_32 hm, mr0_33 hm, mr0_34 hm, mr0_35 hm, mr0_41 hm, mr0_42 hm, mr0_43 hm, mr0_45 hm, mr0_46 hm, mr0_55 hm, mr0_56 hm, mr0_57 hm, mr0_58 hm, mr0_59 hm, mr0_62 hm, mr0_63 hm, mr0_64 hm, mr0_65 hm, mr0_66 hm, mr0_67 hm, mr0_68 hm, mr0_69 hm, mr0_70 hm, d2]
    exact Pz_mk hR
  · have hl := mL0_of d5
    by_cases hi : 0 ≤ i.toInt ∧ i.toInt < t.2.1
    · obtain ⟨k, hk, rfl⟩ := nI_of_lt hi.1 hi.2
      refine (s_layer (d := 195) hx d1 d4.1.1 hl.1.2 hk).mpr ((m_layer (d := 198) hm (by rw [d2]; exact x_neg1) hl.1.1 hl.1.2 hk).mpr (Pz_eq hR ?_))
      have hxl := fun f (hf : f < 8) o (ho : o = 17 + f) => (xLs_f d4.1 hk hf (o := o) (by omega) : X.1 o k = nI (t.2.2 k f))
      have hyl := fun f (hf : f < 7) o (ho : o = 10 + f) => mL0_f hl hk hf (o := o) ho
      rw [hxl 0 (by decide) 17 rfl, hxl 1 (by decide) 18 rfl, hxl 2 (by decide) 19 rfl, hxl 3 (by decide) 20 rfl, hxl 4 (by decide) 21 rfl, hxl 5 (by decide) 22 rfl, hxl 6 (by decide) 23 rfl, hyl 0 (by decide) 10 rfl, hyl 1 (by decide) 11 rfl, hyl 2 (by decide) 12 rfl, hyl 3 (by decide) 13 rfl, hyl 4 (by decide) 14 rfl, hyl 5 (by decide) 15 rfl, hyl 6 (by decide) 16 rfl]
    · exact (s_layer1 (d := 195) hx d1 d4.1.1 hl.1.2 hi).mpr ((m_layer0 (d := 198) hm hl.1.1 hl.1.2 (Or.inr hi)).mpr (Pz_mk hR))
theorem p_look : Pr 96 175 [.int x] := fun X Y hR => by
  obtain ⟨bn, wd, nc, cl, ns, sy, tn, tp, st, sv, hx, hm, hB, hC, hS, hSC, hT, hX, hsv, hD, hP⟩ := id hR
  rcases hD with ⟨d1, d2, d3, d4, d5⟩ | ⟨c, t, hc, d1, d2, d3, d4, d5, d6, d7, d8⟩
  · exact (s_look0 (d := 195) hx d1).mpr ((m_look0 (d := 198) hm d2).mpr (Pz_mk hR))
  · have hcl := hC.2.2.1 c hc
    obtain ⟨n1, n2, n3, n4, n5, n6, n7, n8⟩ := d6
    refine (s_look (d := 195) hx d1).mpr ((m_look (d := 198) hm (by rw [d2]; exact x_neg1) d3 (by have := hC.1.2; omega) (by rw [d7]; exact hcl.2.2.2.2.2.2.2.2.1) d5 n2).mpr (Pz_eq hR ?_))
    obtain ⟨e1, e2, e3, e4, e5⟩ := d4
    have g := fun f h1 h2 h3 h4 => e2 f h1 h2 h3 h4
    unfold xLook nLook
    rw [nSum_ps _ n4, ← n6, g 2 (by decide) (by decide) (by decide) (by decide), g 4 (by decide) (by decide) (by decide) (by decide), g 9 (by decide) (by decide) (by decide) (by decide), g 10 (by decide) (by decide) (by decide) (by decide), g 5 (by decide) (by decide) (by decide) (by decide), g 6 (by decide) (by decide) (by decide) (by decide), g 8 (by decide) (by decide) (by decide) (by decide), g 13 (by decide) (by decide) (by decide) (by decide), g 14 (by decide) (by decide) (by decide) (by decide), e3, e4, e5, e1.1]
theorem p_breaths : Pr 104 187 [] := fun X Y hR => by
  obtain ⟨bn, wd, nc, cl, ns, sy, tn, tp, st, sv, hx, hm, hB, hC, hS, hSC, hT, hX, hsv, hD, hP⟩ := id hR
  rcases hD with ⟨d1, d2, d3, d4, d5⟩ | ⟨c, t, hc, d1, d2, d3, d4, d5, d6, d7, d8⟩
  · refine (s_breaths (d := 199) hx).mpr ((m_breaths0 (d := 198) hm d2).mpr (Pz_eq hR ?_))
    rw [if_pos d1]
  · obtain ⟨n1, n2, n3, n4, n5, n6, n7, n8⟩ := d6
    refine (s_breaths (d := 199) hx).mpr ((m_breaths (d := 198) hm (by rw [d2]; exact x_neg1) d5 n2).mpr (Pz_eq hR ?_))
    rw [if_neg (by rw [d1]; simp), nSum_ps _ n4, ← n6, d4.2.1 10 (by decide) (by decide) (by decide) (by decide), Int32.add_comm]
theorem lyOk_of {t : nD} (h : nRs t) (hl : mL0 Y t.2.1 t.2.2) : lyOk t.2.2 t.2.1 := ⟨h.2.2.1, fun k hk => ⟨(hl.2 k hk).1.2.2.2.1, (hl.2 k hk).1.2.1⟩⟩
theorem mPn_0 {t : nD} (h : mDq Y t) : ∀ a, a < t.1 9 → Y.1 17 a = nI (nPs t.2.2 a t.2.1) := fun a ha => by have := h.2.2.1 a ha; rw [show 2001 * 0 + a = a by omega] at this; exact this
theorem p_strength : Pr 97 178 [.int a] := fun X Y hR => by
  obtain ⟨bn, wd, nc, cl, ns, sy, tn, tp, st, sv, hx, hm, hB, hC, hS, hSC, hT, hX, hsv, hD, hP⟩ := id hR
  rcases hD with ⟨d1, d2, d3, d4, d5⟩ | ⟨c, t, hc, d1, d2, d3, d4, d5, d6, d7, d8⟩
  · refine (s_strength0 (d := 193) hx d1).mpr ?_
    simp only [z178_0, z178_1, z178_4, z178_32, z178_33, e178 (d := 199), gIn_toInt, nI_toInt, Nat.reduceLT, Nat.reducePow, va_rf_none, va_rf_some, gObj_sI, gObj_sR, gAr_sI, gAr_sR, gLen_sI, gLen_sR, gsI_1, gsI_2, gsR_1, gsR_2, gU_ref, gU_null, gU_rf, gisRef_ref, gisRef_null, gisRef_rf, Option.toList_some, Option.toList_none, List.cons_append, List.nil_append, true_and, and_true, false_and, and_false, ↓reduceIte, if_true, if_false, Nat.reduceEqDiff, Nat.reduceAdd, Nat.reduceMul, Nat.reduceSub, Nat.reduceLeDiff, reduceCtorEq, not_true_eq_false, not_false_eq_true, true_imp_iff, false_imp_iff, zc_0, zc_1, zc_2, zc_3, zc_4, zc_5, zc_6, zc_8, zc_9, zc_10, zc_32, zc_36, zc_48, zc_64, zc_80, zc_120, zc_128, zc_248, zc_320, zc_400, zc_800, zc_1200, zc_2001, zc_4002, Int.reduceLT, Int.reduceLE, Int.reduceNeg, Nat.zero_ne_one, Nat.one_ne_zero, or_true, true_or, or_false, false_or, MR_sI, mo0 hm, ma1 hm, ml1 hm, ms1 hm, ma2 hm, ml2 hm, ms2 hm, ma3 hm, ml3 hm, ms3 hm, ma4 hm, ml4 hm, ms4 hm, ma5 hm, ml5 hm, ms5 hm, ma6 hm, ml6 hm, ms6 hm, ma7 hm, ml7 hm, ms7 hm, ma8 hm, ml8 hm, ms8 hm, ma9 hm, ml9 hm, ms9 hm, ma10 hm, ml10 hm, ms10 hm, ma11 hm, ml11 hm, ms11 hm, ma12 hm, ml12 hm, ms12 hm, ma13 hm, ml13 hm, ms13 hm, ma14 hm, ml14 hm, ms14 hm, ma15 hm, ml15 hm, ms15 hm, ma16 hm, ml16 hm, ms16 hm, ma17 hm, ml17 hm, ms17 hm, ma18 hm, ml18 hm, ms18 hm, ma19 hm, ml19 hm, ms19 hm, ma20 hm, ml20 hm, ms20 hm, ma21 hm, ml21 hm, ms21 hm, ma22 hm, ml22 hm, ms22 hm, ma23 hm, ml23 hm, ms23 hm, ma24 hm, ml24 hm, ms24 hm, ma25 hm, ml25 hm, ms25 hm, ma26 hm, ml26 hm, ms26 hm, ma27 hm, ml27 hm, ms27 hm, ma28 hm, ml28 hm, ms28 hm, ma29 hm, ml29 hm, ms29 hm, ma30 hm, ml30 hm, ms30 hm, ma31 hm, ml31 hm, ms31 hm, ma32 hm, ml32 hm, ms32 hm, ma33 hm, ml33 hm, ms33 hm, ma34 hm, ml34 hm, ms34 hm, ma35 hm, ml35 hm, ms35 hm, ma36 hm, ml36 hm, ms36 hm, ma37 hm, ml37 hm, ms37 hm, ma38 hm, ml38 hm, ms38 hm, ma39 hm, ml39 hm, ms39 hm, ma40 hm, ml40 hm, ms40 hm, ma41 hm, ml41 hm, ms41 hm, ma42 hm, ml42 hm, ms42 hm, ma43 hm, ml43 hm, ms43 hm, ma44 hm, ml44 hm, ms44 hm, ma45 hm, ml45 hm, ms45 hm, ma46 hm, ml46 hm, ms46 hm, ma47 hm, ml47 hm, ms47 hm, mr0_0 hm, mr0_5 hm, mr0_6 hm, mr0_7 hm, mr0_8 hm, mr0_9 hm, mr0_10 hm, mr0_11 hm, mr0_12 hm, mr0_17 hm, mr0_18 hm, mr0_19 hm, mr0_20 hm, mr0_21 hm, mr0_22 hm, mr0_23 hm, mr0_24 hm, mr0_25 hm, mr0_26 hm, mr0_27 hm, mr0_28 hm, mr0_29 hm, mr0_30 hm, mr0_31 hm, mr0_32 hm, mr0_33 hm, mr0_34 hm, mr0_35 hm, mr0_41 hm, mr0_42 hm, mr0_43 hm, mr0_45 hm, mr0_46 hm, mr0_55 hm, mr0_56 hm, mr0_57 hm, mr0_58 hm, mr0_59 hm, mr0_62 hm, mr0_63 hm, mr0_64 hm, mr0_65 hm, mr0_66 hm, mr0_67 hm, mr0_68 hm, mr0_69 hm, mr0_70 hm, d2]
    exact Pz_mk hR
  · have hl := mL0_of d5
    have ho := lyOk_of d6 hl
    obtain ⟨n1, n2, n3, n4, n5, n6⟩ := d6
    have x9 : X.1 15 9 = nI (t.1 9) := d4.2.1 9 (by decide) (by decide) (by decide) (by decide)
    have t9 := nI_ti n2
    by_cases hi : 0 ≤ a.toInt ∧ a.toInt < t.1 9
    · obtain ⟨k, hk, rfl⟩ := nI_of_lt hi.1 hi.2
      refine s_strength (d := 193) hx d1 d4.1 x9 n2 hk (fun X2 hf => ?_)
      refine (m_strength (d := 195) hm (by rw [d2]; exact x_neg1) hl (fun j hj => by have := n4 j hj; omega) d5.1.2.1 n2 hk (mPn_0 d5 k hk)).mpr (Pz_eq (Rel_scr hR (fX_wk (fX_gFr hf) (fun o k z => by unfold sX; omega) (fun o k z => z.elim)) gFq_rf) ?_)
      rw [str_eq ho]
    · exact (s_strength1 (d := 193) hx d1 (by rw [x9, t9]; exact hi)).mpr ((m_strength0 (d := 198) hm d5.1.2.1 n2 (Or.inr hi)).mpr (Pz_mk hR))
theorem p_pull : Pr 99 181 [.int a, .int b] := fun X Y hR => by
  obtain ⟨bn, wd, nc, cl, ns, sy, tn, tp, st, sv, hx, hm, hB, hC, hS, hSC, hT, hX, hsv, hD, hP⟩ := id hR
  rcases hD with ⟨d1, d2, d3, d4, d5⟩ | ⟨c, t, hc, d1, d2, d3, d4, d5, d6, d7, d8⟩
  · refine (s_pull0 (d := 195) hx d1).mpr ?_
    simp only [z181_0, z181_1, z181_4, z181_42, z181_43, e181 (d := 199), gIn_toInt, nI_toInt, Nat.reduceLT, Nat.reducePow, va_rf_none, va_rf_some, gObj_sI, gObj_sR, gAr_sI, gAr_sR, gLen_sI, gLen_sR, gsI_1, gsI_2, gsR_1, gsR_2, gU_ref, gU_null, gU_rf, gisRef_ref, gisRef_null, gisRef_rf, Option.toList_some, Option.toList_none, List.cons_append, List.nil_append, true_and, and_true, false_and, and_false, ↓reduceIte, if_true, if_false, Nat.reduceEqDiff, Nat.reduceAdd, Nat.reduceMul, Nat.reduceSub, Nat.reduceLeDiff, reduceCtorEq, not_true_eq_false, not_false_eq_true, true_imp_iff, false_imp_iff, zc_0, zc_1, zc_2, zc_3, zc_4, zc_5, zc_6, zc_8, zc_9, zc_10, zc_32, zc_36, zc_48, zc_64, zc_80, zc_120, zc_128, zc_248, zc_320, zc_400, zc_800, zc_1200, zc_2001, zc_4002, Int.reduceLT, Int.reduceLE, Int.reduceNeg, Nat.zero_ne_one, Nat.one_ne_zero, or_true, true_or, or_false, false_or, MR_sI, mo0 hm, ma1 hm, ml1 hm, ms1 hm, ma2 hm, ml2 hm, ms2 hm, ma3 hm, ml3 hm, ms3 hm, ma4 hm, ml4 hm, ms4 hm, ma5 hm, ml5 hm, ms5 hm, ma6 hm, ml6 hm, ms6 hm, ma7 hm, ml7 hm, ms7 hm, ma8 hm, ml8 hm, ms8 hm, ma9 hm, ml9 hm, ms9 hm, ma10 hm, ml10 hm, ms10 hm, ma11 hm, ml11 hm, ms11 hm, ma12 hm, ml12 hm, ms12 hm, ma13 hm, ml13 hm, ms13 hm, ma14 hm, ml14 hm, ms14 hm, ma15 hm, ml15 hm, ms15 hm, ma16 hm, ml16 hm, ms16 hm, ma17 hm, ml17 hm, ms17 hm, ma18 hm, ml18 hm, ms18 hm, ma19 hm, ml19 hm, ms19 hm, ma20 hm, ml20 hm, ms20 hm, ma21 hm, ml21 hm, ms21 hm, ma22 hm, ml22 hm, ms22 hm, ma23 hm, ml23 hm, ms23 hm, ma24 hm, ml24 hm, ms24 hm, ma25 hm, ml25 hm, ms25 hm, ma26 hm, ml26 hm, ms26 hm, ma27 hm, ml27 hm, ms27 hm, ma28 hm, ml28 hm, ms28 hm, ma29 hm, ml29 hm, ms29 hm, ma30 hm, ml30 hm, ms30 hm, ma31 hm, ml31 hm, ms31 hm, ma32 hm, ml32 hm, ms32 hm, ma33 hm, ml33 hm, ms33 hm, ma34 hm, ml34 hm, ms34 hm, ma35 hm, ml35 hm, ms35 hm, ma36 hm, ml36 hm, ms36 hm, ma37 hm, ml37 hm, ms37 hm, ma38 hm, ml38 hm, ms38 hm, ma39 hm, ml39 hm, ms39 hm, ma40 hm, ml40 hm, ms40 hm, ma41 hm, ml41 hm, ms41 hm, ma42 hm, ml42 hm, ms42 hm, ma43 hm, ml43 hm, ms43 hm, ma44 hm, ml44 hm, ms44 hm, ma45 hm, ml45 hm, ms45 hm, ma46 hm, ml46 hm, ms46 hm, ma47 hm, ml47 hm, ms47 hm, mr0_0 hm, mr0_5 hm, mr0_6 hm, mr0_7 hm, mr0_8 hm, mr0_9 hm, mr0_10 hm, mr0_11 hm, mr0_12 hm, mr0_17 hm, mr0_18 hm, mr0_19 hm, mr0_20 hm, mr0_21 hm, mr0_22 hm, mr0_23 hm, mr0_24 hm, mr0_25 hm, mr0_26 hm, mr0_27 hm, mr0_28 hm, mr0_29 hm, mr0_30 hm, mr0_31 hm, mr0_32 hm, mr0_33 hm, mr0_34 hm, mr0_35 hm, mr0_41 hm, mr0_42 hm, mr0_43 hm, mr0_45 hm, mr0_46 hm, mr0_55 hm, mr0_56 hm, mr0_57 hm, mr0_58 hm, mr0_59 hm, mr0_62 hm, mr0_63 hm, mr0_64 hm, mr0_65 hm, mr0_66 hm, mr0_67 hm, mr0_68 hm, mr0_69 hm, mr0_70 hm, d2]
    exact Pz_mk hR
  · have hl := mL0_of d5
    have ho := lyOk_of d6 hl
    obtain ⟨n1, n2, n3, n4, n5, n6⟩ := d6
    have x9 : X.1 15 9 = nI (t.1 9) := d4.2.1 9 (by decide) (by decide) (by decide) (by decide)
    have t9 := nI_ti n2
    by_cases hi : (0 ≤ a.toInt ∧ a.toInt < 6) ∧ 0 ≤ b.toInt ∧ b.toInt < t.1 9
    · obtain ⟨m, hm6, rfl⟩ := nI_of_lt (n := 6) hi.1.1 hi.1.2
      obtain ⟨k, hk, rfl⟩ := nI_of_lt hi.2.1 hi.2.2
      refine (s_pull (d := 194) hx d1 d4.1 hX.1 x9 n2 hk hm6).mpr ((m_pull (d := 197) hm (by rw [d2]; exact x_neg1) hl (fun j hj => by have := n4 j hj; omega) hX.2 d5.1.2.1 n2 hk hm6).mpr (Pz_eq hR ?_))
      rw [pl_eq ho]
    · exact (s_pull1 (d := 195) hx d1 (by rw [x9, t9]; exact hi)).mpr ((m_pull0 (d := 198) hm d5.1.2.1 n2 (Or.inr hi)).mpr (Pz_mk hR))
theorem p_wrote : Pr 108 195 [.int i] := fun X Y hR => by
  obtain ⟨bn, wd, nc, cl, ns, sy, tn, tp, st, sv, hx, hm, hB, hC, hS, hSC, hT, hX, hsv, hD, m, h4, p1, p2, p3⟩ := id hR
  refine (s_wrote (d := 198) hx p1 h4).mpr ((m_wrote (d := 198) hm p2 h4).mpr (Pz_eq hR ?_))
  by_cases hi : 0 ≤ i.toInt ∧ i.toInt < m
  · rw [if_pos hi, if_pos hi]
    exact p3 _ (by omega)
  · rw [if_neg hi, if_neg hi]
theorem p_slipped : Pr 101 184 [.int i] := fun X Y hR => by
  obtain ⟨bn, wd, nc, cl, ns, sy, tn, tp, st, sv, hx, hm, hB, hC, hS, hSC, hT, hX, hsv, hD, hP⟩ := id hR
  have h0 : X.1 37 4 = 0 → Y.1 0 51 = 0 ∨ Y.1 0 52 = 0 → Call 200 101 [.ref 0, .int i] X (fun r X' => Call 200 184 [.ref 0, .int i] Y (fun r' Y' => Pz r r' X' Y')) := fun h1 h2 => by
    have hno : ¬ (0 ≤ i.toInt ∧ i.toInt < 0) := by omega
    have ho := xo37 hx
    simp only [z101_0, z101_1, z101_2, z101_5, z101_8, z101_11, z101_14, z101_15, z101_18, z101_21, z101_22, z101_25, z101_28, z101_29, z101_30, z101_33, z101_34, e101, gIn_toInt, nI_toInt, Nat.reduceLT, Nat.reducePow, va_rf_none, va_rf_some, gObj_sI, gObj_sR, gAr_sI, gAr_sR, gLen_sI, gLen_sR, gsI_1, gsI_2, gsR_1, gsR_2, gU_ref, gU_null, gU_rf, gisRef_ref, gisRef_null, gisRef_rf, Option.toList_some, Option.toList_none, List.cons_append, List.nil_append, true_and, and_true, false_and, and_false, ↓reduceIte, if_true, if_false, Nat.reduceEqDiff, Nat.reduceAdd, Nat.reduceMul, Nat.reduceSub, Nat.reduceLeDiff, reduceCtorEq, not_true_eq_false, not_false_eq_true, true_imp_iff, false_imp_iff, zc_0, zc_1, zc_2, zc_3, zc_4, zc_5, zc_6, zc_8, zc_9, zc_10, zc_32, zc_36, zc_48, zc_64, zc_80, zc_120, zc_128, zc_248, zc_320, zc_400, zc_800, zc_1200, zc_2001, zc_4002, Int.reduceLT, Int.reduceLE, Int.reduceNeg, Nat.zero_ne_one, Nat.one_ne_zero, or_true, true_or, or_false, false_or, ti_0, ti_1, ti_2, ti_3, ti_4, ti_5, ti_6, ti_7, ti_8, ti_9, ti_10, ti_11, ti_12, ti_13, ti_14, ti_15, ti_16, ti_17, ti_18, ti_19, ti_20, ti_21, ti_22, ti_23, ti_24, ti_25, ti_26, ti_27, ti_28, ti_29, ti_30, ti_31, ti_32, ti_33, ti_34, ti_35, ti_36, ti_37, ti_38, ti_39, ti_40, ti_41, ti_42, ti_43, ti_44, ti_45, ti_46, ti_47, ti_48, ti_49, ti_50, ti_51, ti_52, ti_53, ti_54, ti_55, ti_56, ti_57, ti_58, ti_59, ti_60, ti_61, ti_62, ti_63, ti_64, ti_65, ti_66, ti_67, ti_68, ti_69, ti_70, ti_71, ti_72, ti_73, ti_74, ti_75, ti_76, ti_77, ti_78, ti_79, ti_80, ti_81, ti_82, ti_83, ti_84, ti_85, ti_86, ti_87, ti_88, ti_89, ti_90, ti_91, ti_92, ti_93, ti_94, ti_95, ti_96, ti_97, ti_98, ti_99, ti_100, ti_101, ti_102, ti_103, ti_104, ti_105, ti_106, ti_107, ti_108, ti_109, ti_110, ti_111, ti_112, ti_113, ti_114, ti_115, ti_116, ti_117, ti_118, ti_119, ti_120, ti_121, ti_122, ti_123, ti_124, ti_125, ti_126, ti_127, ti_128, ti_129, ti_200, ti_248, ti_255, ti_256, ti_400, ti_1000, ti_2000, ti_2001, ti_1000000, tj_1, tj_2, tj_8, tj_10, tj_1000, tc_0, tc_1, tc_2, tc_3, tc_4, tc_5, tc_6, tc_7, tc_8, i32_lt, i32_le, XR_sI, xo0 hx, xa1 hx, xl1 hx, xs1 hx, xa2 hx, xl2 hx, xs2 hx, xa3 hx, xl3 hx, xs3 hx, xa4 hx, xl4 hx, xs4 hx, xa5 hx, xl5 hx, xs5 hx, xo6 hx, xa7 hx, xl7 hx, xs7 hx, xa8 hx, xl8 hx, xs8 hx, xo9 hx, xa10 hx, xl10 hx, xs10 hx, xa11 hx, xl11 hx, xs11 hx, xa12 hx, xl12 hx, xs12 hx, xa13 hx, xl13 hx, xs13 hx, xa14 hx, xl14 hx, xs14 hx, xo15 hx, xo16 hx, xa17 hx, xl17 hx, xs17 hx, xa18 hx, xl18 hx, xs18 hx, xa19 hx, xl19 hx, xs19 hx, xa20 hx, xl20 hx, xs20 hx, xa21 hx, xl21 hx, xs21 hx, xa22 hx, xl22 hx, xs22 hx, xa23 hx, xl23 hx, xs23 hx, xa24 hx, xl24 hx, xs24 hx, xa25 hx, xl25 hx, xs25 hx, xo26 hx, xo27 hx, xa28 hx, xl28 hx, xs28 hx, xa29 hx, xl29 hx, xs29 hx, xa30 hx, xl30 hx, xs30 hx, xa31 hx, xl31 hx, xs31 hx, xa32 hx, xl32 hx, xs32 hx, xa33 hx, xl33 hx, xs33 hx, xa34 hx, xl34 hx, xs34 hx, xa35 hx, xl35 hx, xs35 hx, xa36 hx, xl36 hx, xs36 hx, xo37 hx, xa38 hx, xl38 hx, xs38 hx, xa39 hx, xl39 hx, xs39 hx, xa40 hx, xl40 hx, xs40 hx, xa41 hx, xl41 hx, xs41 hx, xo42 hx, xa43 hx, xl43 hx, xs43 hx, xa44 hx, xl44 hx, xs44 hx, xa45 hx, xl45 hx, xs45 hx, xa46 hx, xl46 hx, xs46 hx, xa47 hx, xl47 hx, xs47 hx, xa48 hx, xl48 hx, xs48 hx, xr0_0 hx, xr0_2 hx, xr0_4 hx, xr0_6 hx, xr0_8 hx, xr0_9 hx, xr6_0 hx, xr6_3 hx, xr0_10 hx, xr9_0 hx, xr9_2 hx, xr9_3 hx, xr9_5 hx, xr0_11 hx, xr0_12 hx, xr0_13 hx, xr0_14 hx, xr15_0 hx, xr15_1 hx, xr16_0 hx, xr16_1 hx, xr16_2 hx, xr16_3 hx, xr16_4 hx, xr16_5 hx, xr16_6 hx, xr16_7 hx, xr26_0 hx, xr26_1 hx, xr27_0 hx, xr27_1 hx, xr27_2 hx, xr27_3 hx, xr27_4 hx, xr27_5 hx, xr27_6 hx, xr27_7 hx, xr37_0 hx, xr37_2 hx, xr37_3 hx, xr37_5 hx, xr42_0 hx, xr42_1 hx, xr42_3 hx, xr42_4 hx, xr42_6 hx, xr42_8 hx, s_within (d := 198), gb_0, h1, hno]
    refine (m_slipped0 (d := 198) hm h2).mpr ?_
    exact Pz_mk hR
  rcases hD with ⟨d1, d2, d3, d4, d5⟩ | ⟨c, t, hc, d1, d2, d3, d4, d5, d6, d7, d8⟩
  · exact h0 d5 (Or.inl d2)
  · rcases d8 with ⟨q1, q2, q3⟩ | ⟨m, sv, st, tp, q1, q2, q3, q4, q5, q6, q7, q8, q9, q10, q11⟩
    · exact h0 q2 (Or.inr q3)
    · have hl := mL0_of d5
      have ho := lyOk_of d6 hl
      obtain ⟨n1, n2, n3, n4, n5, n6⟩ := d6
      have hn := hl.1.2
      have hpe := play_eq (sv := sv) (pin := none) ho hn n4 m
      have hpc := rPlay_c (A := t.1 9) (pin := none) (g := fun i r => sv (8 * i + r)) (g' := fun i r => st (8 * tp i + r)) (fun k hk => (ho.2 k hk).2) m q11
      rw [hpc] at hpe
      refine (s_slipped (d := 198) (g := (nPlay t.2.2 sv none t.2.1 m).1) (sl := (nPlay t.2.2 sv none t.2.1 m).2) hx q3 (by omega)).mpr ((m_slipped (d := 198) hm (by rw [d2]; exact x_neg1) (by rw [q6]; exact x_neg1) q10 (by rw [← hpe.2]; omega)).mpr (Pz_eq hR ?_))
      rw [hpe.2]
theorem p_after : Pr 102 185 [.int r, .int s] := fun X Y hR => by
  obtain ⟨bn, wd, nc, cl, ns, sy, tn, tp, st, sv, hx, hm, hB, hC, hS, hSC, hT, hX, hsv, hD, hP⟩ := id hR
  rcases hD with ⟨d1, d2, d3, d4, d5⟩ | ⟨c, t, hc, d1, d2, d3, d4, d5, d6, d7, d8⟩
  · exact (s_afterN (d := 195) hx d1).mpr ((m_after0 (d := 196) hm (Or.inl (Or.inl d2))).mpr (Pz_mk hR))
  · rcases d8 with ⟨q1, q2, q3⟩ | ⟨m, sv, st, tp, q1, q2, q3, q4, q5, q6, q7, q8, q9, q10, q11⟩
    · exact (s_after0 (d := 195) hx d1 (Or.inr q1)).mpr ((m_after0 (d := 196) hm (Or.inl (Or.inr q3))).mpr (Pz_mk hR))
    · by_cases hpl : ∃ rr ss : Nat, rr < 8 ∧ ss < 8 ∧ r = nI rr ∧ s = nI ss
      · obtain ⟨rr, ss, h1, h2, rfl, rfl⟩ := hpl
        have hl := mL0_of d5
        have ho := lyOk_of d6 hl
        have hcl := hC.2.2.1 c hc
        obtain ⟨n1, n2, n3, n4, n5, n6⟩ := d6
        have hn := hl.1.2
        have hpe := play_eq (sv := sv) (pin := none) ho hn n4 m
        have hpc := rPlay_c (A := t.1 9) (pin := none) (g := fun i r => sv (8 * i + r)) (g' := fun i r => st (8 * tp i + r)) (fun k hk => (ho.2 k hk).2) m q11
        rw [hpc] at hpe
        have hm0 : ¬ X.1 37 1 = 0 := by rw [q2]; exact nI_n0 (by omega) (by omega)
        refine (s_after (d := 195) hx d1 hcl.2.2.1 d4.1 n5 q3.1 hm0 h1 h2).mpr ((m_after (d := 196) hm (by rw [d2]; exact x_neg1) (by rw [q6]; exact x_neg1) hl (rC1_co hcl) (by have := hC.1.2; omega) d3 (fun k hk => ⟨n5 k hk, n4 k hk⟩) n2 q10 h1 h2).mpr (Pz_eq hR ?_))
        have hlast : ∀ j, j ≤ t.2.1 → nLast (fun k => (!(nPlay t.2.2 sv none t.2.1 m).1 k && nLb (t.2.2 k) rr ss) = true) j = nLast (fun k => (!(rPlay t.2.2 t.2.1 (fun i r => st (8 * tp i + r)) (t.1 9) none m).1 (t.2.2 k 0) && nLb (t.2.2 k) rr ss) = true) j := by
          intro j
          induction j with
          | zero => intro _; rfl
          | succ j ih =>
            intro hj
            unfold nLast
            rw [ih (by omega), hpe.1 j (by omega)]
        unfold nSee
        rw [hlast _ (Nat.le_refl _)]
      · have hno := isPl_no hpl
        exact (s_after0 (d := 195) hx d1 (Or.inl hno)).mpr ((m_after0 (d := 196) hm (Or.inr hno)).mpr (Pz_mk hR))
end
