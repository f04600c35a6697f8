/-! Pairs: read, count. -/
section
variable {X Y X' Y' N : gM} {a b c e f r s x y z : Int32} {t : nD}
set_option maxRecDepth 4000 in
theorem sb_or2 : ∀ c, c < 256 → (sb c = nI c ∨ ((sb c).toInt < 0 ∧ 128 ≤ c)) := by decide
theorem p_read : Pr 107 194 [.int x, .int y] := fun X Y hR => by
  obtain ⟨bn, wd, nc, cl, ns, sy, tn, tp, st, sv, hx, hm, hB, hC, hS, hSC, hT, hX, hsv, hD, hP⟩ := id hR
  have hxh := xHas_of hB hC hS
  have hmh := mHas_of hB hC hS
  obtain ⟨⟨t1, t2⟩, t3, t4⟩ := id hT
  by_cases hno : (0 ≤ x.toInt ∧ x.toInt < bn) ∧ (0 ≤ y.toInt ∧ y.toInt < nc) ∧ 64 ≤ tn
  · obtain ⟨hb, hc, h64⟩ := hno
    obtain ⟨w, hw, rfl⟩ := nI_of_lt hb.1 hb.2
    obtain ⟨k, hk, rfl⟩ := nI_of_lt hc.1 hc.2
    have hcl := hC.2.2.1 k hk
    obtain ⟨c1, c2, c3, c4, c5, c6, c7, c8, c9, c10, c11, c12⟩ := id hcl
    have hM := fun (Z : Option Value → gM → Prop) => m_read (d := 196) (Z := Z) (tp := tp) hm hmh t3 t2 h64 hw hk (rC1_co hcl) c10 (fun k hk => by have := c8 k hk; omega) c6 c7 (fun k hk => ⟨by rw [(t4 k (by omega)).2.2]; exact sb_or2 _ (by have := (t4 k (by omega)).2.1; omega), (t4 k (by omega)).2.1⟩)
    have hR0 := Rel_tape0 hR
    refine s_read (d := 188) (tp := tp) hx hxh t1 t2 h64 hw hk c1 c3 c4 c2 (fun k hk => by have := c8 k hk; omega) c6 c7 (fun k hk => ⟨(t4 k (by omega)).1, (t4 k (by omega)).2.1⟩) (fun hall X' f1 => ?_) (fun hall X' a f1 fa f2 => ?_)
    · exact hM _ (fun _ => Pz_mk (Rel_scr hR0 (fX_wk (fX_gFr f1) (fun o k h => by unfold sX; omega) (fun o k h => h.elim)) gFq_rf)) (fun h => absurd h hall)
    · refine hM _ (fun h => absurd hall h) (fun _ Y' k1 k2 => ?_)
      rw [← read_eq, ← fa] at k2 ⊢
      refine Pz_mk ?_
      obtain ⟨bn, wd, nc, cl, ns, sy, tn, tp, st, sv, hx, hm, hB, hC, hS, hSC, hT, hX, hsv, hD, hP⟩ := id hR0
      have hf : fX (fun o _ => 26 ≤ o ∧ o ≤ 36 ∨ 42 ≤ o ∧ o ≤ 48) (fun _ _ => False) (gsI X 0 7 0) X' := fX_gFr f1
      have hg := k1
      exact ⟨bn, wd, nc, cl, ns, sy, tn, tp, st, sv, fX_XR hf (fun e he h => h) hx, gFq_M hg hm, rB_fr hx hf hg (by omega) (fun k => by omega) (by unfold inP; omega) (fun k => by unfold inP; omega) hB, rC_fr hx hf hg (fun o k h => by omega) (by omega) (fun o k h => h.elim) (fun i => by unfold inP; omega) (by unfold inP; omega) hC, rS_fr hx hf hg (rS_48 (P := fun o _ => 26 ≤ o ∧ o ≤ 36 ∨ 42 ≤ o ∧ o ≤ 48) hS (fun o k h => by omega)) (by omega) (fun o k h => h.elim) (fun k => by unfold inP; omega) (by unfold inP; omega) hS, hSC, rT_fr hx hf hg (by omega) (fun k => by omega) (by unfold inP; omega) (fun k => by unfold inP; omega) hT, rX_fr hx hf hg (fun k => by omega) (fun k => by unfold inP; omega) hX, xSt_fX hx (by decide) hf (fun k => by omega) hsv, rDD_fr hx hf hg (fun o k h => by omega) (fun h => h) (fun o k h => by unfold yD inW at h; unfold inP; omega) hD, a.2.1, f2.2.2.1, f2.2.1, k2.1, fun i hi => by rw [f2.2.2.2 i hi, k2.2.2 i hi]⟩
  · exact (s_readN (d := 188) hx hxh t1 t2 hno).mpr ((m_readN (d := 196) hm hmh t3 t2 hno).mpr (Pz_mk hR))
theorem told_eq {k : Nat} {e : cD} (h : rC1 X Y k e) (q : Nat) : xTold X e.1 q = mTold Y k q := by
  obtain ⟨c1, c2, c3, c4, c5, c6, c7, c8, c9, c10, c11, c12⟩ := h
  have hk := c3.2.2.2.2.2.2.2.2
  unfold xTold mTold
  rw [c3.2.2.2.2.1, c4, c3.2.2.2.2.2.1, hk 4 (by decide), hk 5 (by decide), c9, c10, c11, c12 4 (by decide), c12 5 (by decide)]
  by_cases h6 : q < 6
  · rw [if_pos h6, if_pos h6, hk (q - 2) (by omega), c12 (q - 2) (by omega)]
  · rw [if_neg h6, if_neg h6]
theorem p_count : Pr 109 196 [.int x] := fun X Y hR => by
  obtain ⟨bn, wd, nc, cl, ns, sy, tn, tp, st, sv, hx, hm, hB, hC, hS, hSC, hT, hX, hsv, hD, hP⟩ := id hR
  have kb : Y.1 0 2 = nI bn ∧ bn ≤ 6 := ⟨hB.2.1, hB.1.2⟩
  have kc : Y.1 0 3 = nI nc ∧ nc ≤ 6 := ⟨hC.2.1, hC.1.2⟩
  have ks : Y.1 0 4 = nI ns ∧ ns ≤ 10 := ⟨hS.2.1, hS.1.2⟩
  by_cases h0 : x.toInt < 10
  · refine (s_count0 (d := 196) hx h0).mpr ((m_count0 (d := 198) hm kb kc ks h0).mpr (Pz_eq hR ?_))
    rw [hB.1.1, hC.1.1, hS.1.1, hT.1.1, hB.2.1, hC.2.1, hS.2.1, hT.2.1]
  · have hlt : x.toInt < 2 ^ 31 := by have := x.toInt_lt; omega
    obtain ⟨m, hm31, rfl⟩ := nI_of_lt (x := x) (n := 2 ^ 31) (by omega) (by omega)
    have t1 := nI_toInt hm31
    by_cases h1 : m < 100
    · refine (s_count1 (d := 196) hx hB.1.1 hB.1.2 (by omega) h1).mpr ((m_count1 (d := 198) hm kb kc ks (by omega) h1).mpr (Pz_eq hR ?_))
      by_cases h2 : m - 10 < bn * 8
      · have := hB.1.2
        rw [if_pos h2, if_pos h2, (hB.2.2 (m - 10) (by omega)).1, (hB.2.2 (m - 10) (by omega)).2.2]
      · rw [if_neg h2, if_neg h2]
    · by_cases h2 : m < 200
      · refine (s_count2 (d := 196) hx hC.1.1 hC.1.2 (by omega) h2 (fun k hk => ?_)).mpr ((m_count2 (d := 198) hm kb kc ks (by omega) h2).mpr (Pz_eq hR ?_))
        · have h3 := hC.2.2.1 k hk
          exact ⟨_, h3.1, h3.2.2.1.1, h3.2.2.1.2.1, h3.2.2.1.2.2.1, h3.2.2.1.2.2.2.1⟩
        · by_cases h3 : (m - 100) / 10 < nc
          · have h4 := hC.2.2.1 _ h3
            rw [if_pos h3, if_pos h3, h4.1]
            exact told_eq h4 _
          · rw [if_neg h3, if_neg h3]
      · refine (s_count3 (d := 196) hx hS.1.1 hS.1.2 (by omega) hm31 (fun k hk => ⟨_, (hS.2.2 k hk).1, (hS.2.2 k hk).2.1.1⟩)).mpr ((m_count3 (d := 198) hm kb kc ks (by omega) hm31).mpr (Pz_eq hR ?_))
        by_cases h3 : m - 200 < ns
        · have h4 := hS.2.2 _ h3
          rw [if_pos h3, if_pos h3, h4.1, h4.2.2.2.2.2]
          exact h4.2.2.1
        · rw [if_neg h3, if_neg h3]
end
