/-! Pairs: drape, stretch, moves, fix, shortest, solve. -/
section
variable {X Y X' Y' N : gM} {a b c e f r s x z : Int32} {t : nD}
theorem inU1_sY (o k : Nat) (h : inU 1 o k) : sY o k := by
  unfold inU inT inS inW inK at h
  unfold sY
  omega
theorem xFt_fX (h : xFt X X') : fX sX sR X X' := ⟨fun q _ => by rw [h.1], fun o k _ hn => by rw [h.2.2 o (fun z => hn (by unfold sX; omega)) (fun z => hn (by unfold sX; omega))], fun o k _ hn => h.2.1 o k (fun z => hn (by unfold sR; exact z))⟩
theorem xHas_of {bn nc ns : Nat} {wd : Nat → Nat} {cl : Nat → cD} {sy : Nat → sD} (hB : rB' X Y bn wd) (hC : rC X Y nc cl) (hS : rS X Y ns sy) : xHas X bn ns nc wd := ⟨hB.1, ⟨hS.1.1, hS.1.2, fun j hj => ⟨_, (hS.2.2 j hj).1⟩⟩, ⟨hC.1.1, hC.1.2, fun j hj => ⟨_, (hC.2.2.1 j hj).1⟩⟩, fun q hq => ⟨(hB.2.2 q hq).1, (hB.2.2 q hq).2.1⟩⟩
theorem mHas_of {bn nc ns : Nat} {wd : Nat → Nat} {cl : Nat → cD} {sy : Nat → sD} (hB : rB' X Y bn wd) (hC : rC X Y nc cl) (hS : rS X Y ns sy) : mHas Y bn ns nc wd := ⟨⟨hB.2.1, hB.1.2⟩, ⟨hS.2.1, hS.1.2⟩, ⟨hC.2.1, hC.1.2⟩, fun q hq => ⟨(hB.2.2 q hq).2.2, (hB.2.2 q hq).2.1⟩⟩
theorem p_short : Pr 105 188 [.int a, .int b, .int c, .int z] := fun X Y hR => by
  obtain ⟨bn, wd, nc, cl, ns, sy, tn, tp, st, sv, hx, hm, hB, hC, hS, hSC, hT, hX, hsv, hD, hP⟩ := id hR
  have hxh := xHas_of hB hC hS
  have hmh := mHas_of hB hC hS
  by_cases hno : (0 ≤ a.toInt ∧ a.toInt < ns) ∧ (0 ≤ b.toInt ∧ b.toInt < bn) ∧ (1 ≤ c.toInt ∧ c.toInt ≤ 4) ∧ 0 ≤ z.toInt ∧ z.toInt < 61
  · obtain ⟨ha, hb, hc, hz⟩ := hno
    obtain ⟨j, hj, rfl⟩ := nI_of_lt ha.1 ha.2
    obtain ⟨w, hw, rfl⟩ := nI_of_lt hb.1 hb.2
    obtain ⟨h, hh, rfl⟩ := nI_of_lt (x := c) (n := 5) (by omega) (by omega)
    have th := nI_ti (show h ≤ 2000 by omega)
    obtain ⟨g1, g2, g3, g4, g5, g6⟩ := hS.2.2 j hj
    refine s_short (d := 192) hx hxh hj hw (by omega) (by omega) hz g1 g2 g4 (fun X2 hf => ?_)
    refine m_short (d := 193) hm hmh hj hw (by omega) (by omega) hz g5 g4 (fun Y2 hg => ?_)
    refine Pz_eq (Rel_scr hR (xFt_fX hf) (gFq_wk hg inU1_sY)) ?_
    rw [nSh_eq g4]
  · exact (s_shortN (d := 192) hx hxh hno).mpr ((m_shortN (d := 193) hm hmh hno).mpr (Pz_mk hR))
theorem p_solve : Pr 106 189 [.int a, .int b, .int c, .int e, .int f] := fun X Y hR => by
  obtain ⟨bn, wd, nc, cl, ns, sy, tn, tp, st, sv, hx, hm, hB, hC, hS, hSC, hT, hX, hsv, hD, hP⟩ := id hR
  have hxh := xHas_of hB hC hS
  have hmh := mHas_of hB hC hS
  by_cases hno : (0 ≤ a.toInt ∧ a.toInt < ns) ∧ (0 ≤ b.toInt ∧ b.toInt < bn) ∧ (0 ≤ c.toInt ∧ c.toInt < nc) ∧ (0 ≤ e.toInt ∧ e.toInt ≤ 400) ∧ -1 ≤ f.toInt ∧ f.toInt ≤ 7
  · obtain ⟨ha, hb, hc, he, hf⟩ := hno
    obtain ⟨j, hj, rfl⟩ := nI_of_lt ha.1 ha.2
    obtain ⟨w, hw, rfl⟩ := nI_of_lt hb.1 hb.2
    obtain ⟨k, hk, rfl⟩ := nI_of_lt hc.1 hc.2
    obtain ⟨g1, g2, g3, g4, g5, g6⟩ := hS.2.2 j hj
    obtain ⟨c1, c2, c3, c4, c5, c6, c7, c8, c9, c10, c11, c12⟩ := hC.2.2.1 k hk
    refine s_solve (d := 192) hx hxh hj hw hk he hf g1 c1 g2 g4 ⟨c3.1, c3.2.2.2.2.1, c4⟩ c2 c3.2.2.2.2.2.2.2.1 c6 c7 (fun X2 hfx => ?_)
    refine m_solve (d := 193) hm hmh hj hw hk he hf g5 g4 c9 c10 c3.2.2.2.2.2.2.2.1 c6 c7 (fun L => ?_) (fun Y2 hg => ?_)
    · have hr := nRs_of g4 (g := fun r => wd (8 * w + r)) (z := nI L) (len := (cl k).2.1) (ht := (cl k).2.2.1) c3.2.2.2.2.2.2.2.1 c6 c7
      have h2 := ((cS_lg g4).2 (fun r => wd (8 * w + r)) (nNm (nI L), 0, 0, nBeg (cl k).2.1 (cl k).2.2.1)).2
      refine ⟨h2, fun _ => ?_, hr.2.2.2.2.2.2.1⟩
      have := hr.1.2.2.1
      rw [h2] at this
      exact this
    · exact Pz_mk (Rel_scr hR (xFt_fX hfx) (gFq_wk hg inU1_sY))
  · exact (s_solveN (d := 192) hx hxh hno).mpr ((m_solveN (d := 193) hm hmh hno).mpr (Pz_mk hR))
theorem p_stretch : Pr 98 179 [.int a, .int r, .int x] := fun X Y hR => by
  obtain ⟨bn, wd, nc, cl, ns, sy, tn, tp, st, sv, hx, hm, hB, hC, hS, hSC, hT, hX, hsv, hD, hP⟩ := id hR
  have hM := fun Z => (m_stretch (d := 198) (a := a) (r := r) (x := x) (Z := Z) hm).mpr
  refine (s_stretch (d := 198) hx).mpr ⟨fun hw => hM _ ⟨fun _ => Pz_mk ?_, fun z => absurd hw z⟩, fun hw => hM _ ⟨fun z => absurd z hw, fun _ => Pz_mk hR⟩⟩
  obtain ⟨v, hv, rfl⟩ := nI_of_lt (x := x) (n := 10) hw.2.2.1 hw.2.2.2
  generalize hq : 8 * a.toInt.toNat + r.toInt.toNat = q
  have hf : fX (fun o _ => o = 5) (fun _ _ => False) X (gsI X 5 q (nI v)) := fX_sI rfl
  have hg : gFq (fun o _ => o = 35) Y (gsI Y 35 q (nI v)) := gFq_sI rfl
  refine ⟨bn, wd, nc, cl, ns, sy, tn, tp, fun i => if i = q then v else st i, sv, hx, hm, rB_fr hx hf hg (by omega) (fun k => by omega) (by omega) (fun k => by omega) hB, rC_fr hx hf hg (fun o k h => by omega) (by omega) (fun o k h => h.elim) (fun i => by omega) (by omega) hC, rS_fr hx hf hg (rS_48 (P := fun o _ => o = 5) hS (fun o k h => by omega)) (by omega) (fun o k h => h.elim) (fun k => by omega) (by omega) hS, hSC, rT_fr hx hf hg (by omega) (fun k => by omega) (by omega) (fun k => by omega) hT, ⟨fun i hi => ?_, fun i hi => ?_⟩, xSt_fX hx (by decide) hf (fun k => by omega) hsv, rDD_fr hx hf hg (fun o k h => by omega) (fun h => h) (fun o k h => by unfold yD inW at h; omega) hD, rP_fr hx hf hg (by omega) (fun k => by omega) (by omega) (fun k => by omega) hP⟩
  · simp only [gsI_1]
    by_cases h1 : i = q
    · rw [if_pos ⟨trivial, h1⟩, if_pos h1]; exact ⟨rfl, by omega⟩
    · rw [if_neg (fun z => h1 z.2), if_neg h1]; exact hX.1 i hi
  · simp only [gsI_1]
    by_cases h1 : i = q
    · rw [if_pos ⟨trivial, h1⟩, if_pos h1]; exact ⟨rfl, by omega⟩
    · rw [if_neg (fun z => h1 z.2), if_neg h1]; exact hX.2 i hi
theorem p_drape : Pr 92 166 [.int a, .int b, .int c, .int z] := fun X Y hR => by
  obtain ⟨bn, wd, nc, cl, ns, sy, tn, tp, st, sv, hx, hm, hB, hC, hS, hSC, hT, hX, hsv, hD, hP⟩ := id hR
  have hxh := xHas_of hB hC hS
  have hmh := mHas_of hB hC hS
  by_cases hno : (0 ≤ a.toInt ∧ a.toInt < ns) ∧ (0 ≤ b.toInt ∧ b.toInt < bn) ∧ (0 ≤ c.toInt ∧ c.toInt < nc) ∧ 0 ≤ z.toInt ∧ z.toInt < 61
  · obtain ⟨ha, hb, hc, hz⟩ := hno
    obtain ⟨j, hj, rfl⟩ := nI_of_lt ha.1 ha.2
    obtain ⟨w, hw, rfl⟩ := nI_of_lt hb.1 hb.2
    obtain ⟨k, hk, rfl⟩ := nI_of_lt hc.1 hc.2
    obtain ⟨g1, g2, g3, g4, g5, g6⟩ := hS.2.2 j hj
    obtain ⟨c1, c2, c3, c4, c5, c6, c7, c8, c9, c10, c11, c12⟩ := hC.2.2.1 k hk
    have h14 := (cS_bnd g4 (fun r => wd (8 * w + r)) (nNm z, 0, 0, nBeg (cl k).2.1 (cl k).2.2.1) (Nat.zero_le _) (Nat.zero_le _)).2
    have hr := nRs_of g4 (g := fun r => wd (8 * w + r)) (z := z) (len := (cl k).2.1) (ht := (cl k).2.2.1) c3.2.2.2.2.2.2.2.1 c6 c7
    have h2 := ((cS_lg g4).2 (fun r => wd (8 * w + r)) (nNm z, 0, 0, nBeg (cl k).2.1 (cl k).2.2.1)).2
    refine s_drape (d := 192) hx hxh hj hw hk hz g1 c1 g2 g4 ⟨c3.1, c3.2.2.2.2.1, c4⟩ c2 c3.2.2.2.2.2.2.2.1 c6 c7 (fun X' f1 f2 f3 f4 f5 f6 => ?_) h14
    refine m_drape (d := 193) hm hmh hj hw hk hz g5 g4 c9 c10 c3.2.2.2.2.2.2.2.1 c6 c7 h14 (fun Y' k1 k2 k3 k4 k5 => ?_)
    generalize ((sy j).2.2.2.2.2.2.2 (fun r => wd (8 * w + r)) (nNm z, 0, 0, nBeg (cl k).2.1 (cl k).2.2.1)) = S at *
    refine Pz_mk ?_
    have hf : fX (fun o _ => (9 ≤ o ∧ o ≤ 13) ∨ (15 ≤ o ∧ o ≤ 25) ∨ o = 37) (fun o k => (o = 9 ∧ k = 6) ∨ (o = 0 ∧ k = 15)) X X' := ⟨fun q _ => by rw [f1], fun o k _ hn => by rw [f4 o (by omega) (by omega) (by omega)], fun o k _ hn => f3 o k (by omega) (by omega)⟩
    have hg : gFq inV Y Y' := k1
    have hPR : ∀ e ∈ XRF, ¬ ((e.1 = 9 ∧ e.2.1 = 6) ∨ (e.1 = 0 ∧ e.2.1 = 15)) := by
      have hb : (XRF.all (fun e => decide (¬ ((e.1 = 9 ∧ e.2.1 = 6) ∨ (e.1 = 0 ∧ e.2.1 = 15))))) = true := by decide
      exact fun e he => of_decide_eq_true (List.all_eq_true.mp hb e he)
    refine ⟨bn, wd, nc, cl, ns, sy, tn, tp, st, sv, fX_XR hf hPR hx, gFq_M hg hm, rB_fr hx hf hg (by omega) (fun k => by omega) (by unfold inV inU inT inS inW inK; omega) (fun k => by unfold inV inU inT inS inW inK; omega) hB, rC_fr hx hf hg (fun o k h => by omega) (by omega) (fun o k h => by omega) (fun i => by unfold inV inU inT inS inW inK; omega) (by unfold inV inU inT inS inW inK; omega) hC, rS_fr hx hf hg (rS_48 (P := fun o _ => (9 ≤ o ∧ o ≤ 13) ∨ (15 ≤ o ∧ o ≤ 25) ∨ o = 37) hS (fun o k h => by omega)) (by omega) (fun o k h => by omega) (fun k => by unfold inV inU inT inS inW inK; omega) (by unfold inV inU inT inS inW inK; omega) hS, hSC, rT_fr hx hf hg (by omega) (fun k => by omega) (by unfold inV inU inT inS inW inK; omega) (fun k => by unfold inV inU inT inS inW inK; omega) hT, rX_fr hx hf hg (fun k => by omega) (fun k => by unfold inV inU inT inS inW inK; omega) hX, xSt_fX hx (by decide) hf (fun k => by omega) hsv, Or.inr ⟨k, S.2.2.2, hk, f2, k2, k4, f6, mDq_of k5, hr, h2, Or.inl ⟨f5.1, f5.2, k3⟩⟩, rP_fr hx hf hg (by omega) (fun k => by omega) (by unfold inV inU inT inS inW inK; omega) (fun k => by unfold inV inU inT inS inW inK; omega) hP⟩
  · exact (s_drapeN (d := 192) hx hxh hno).mpr ((m_drapeN (d := 193) hm hmh hno).mpr (Pz_mk hR))
set_option maxRecDepth 4000 in
theorem sb_or : ∀ c, c < 256 → sb c = nI c ∨ ((sb c).toInt < 0 ∧ 6 ≤ c) := by decide
theorem p_moves : Pr 100 183 [.int a] := fun X Y hR => by
  obtain ⟨bn, wd, nc, cl, ns, sy, tn, tp, st, sv, hx, hm, hB, hC, hS, hSC, hT, hX, hsv, hD, hP⟩ := id hR
  obtain ⟨⟨t1, t2⟩, t3, t4⟩ := id hT
  have ttn := nI_ti (show tn ≤ 2000 by omega)
  have hl := x49 hx
  rcases hD with ⟨d1, d2, d3, d4, d5⟩ | ⟨k, t, hk, d1, d2, d3, d4, d5, d6, d7, d8⟩
  · exact (s_movesN (d := 192) hx d1).mpr ((m_moves0 (d := 194) hm t3 t2 (Or.inl d2)).mpr (Pz_mk hR))
  · by_cases ha : (1 ≤ a.toInt ∧ a.toInt ≤ 6) ∧ a.toInt ≤ tn
    · obtain ⟨m, hm7, rfl⟩ := nI_of_lt (x := a) (n := 7) (by omega) (by omega)
      have tm := nI_ti (show m ≤ 2000 by omega)
      have hml := mL0_of d5
      have hn := hml.1.2
      have ho := lyOk_of d6 hml
      have hxt : xTp X 4 tp := fun q hq => ⟨(t4 q hq).1, (t4 q hq).2.1⟩
      have hm1 : 1 ≤ m ∧ m ≤ 6 := by omega
      have hY : ∀ (Z : Option Value → gM → Prop), (¬ (∀ q, q < m → tp q < 6) → Z (some (.int (-1))) (gsI Y 0 1 0)) → ((∀ q, q < m → tp q < 6) → ∀ M2, gFq inM Y M2 → M2.1 0 1 = 0 → M2.1 0 52 = 1 → M2.1 0 60 = nI m → (∀ q, q < m → M2.1 37 q = nI (tp q)) → xSt M2 36 st → mHl M2 (t.1 9) (rPlay t.2.2 t.2.1 (fun i r => st (8 * tp i + r)) (t.1 9) none m) → (rPlay t.2.2 t.2.1 (fun i r => st (8 * tp i + r)) (t.1 9) none m).2.length ≤ t.1 9 → Z (some (.int (nI (rPlay t.2.2 t.2.1 (fun i r => st (8 * tp i + r)) (t.1 9) none m).2.length))) M2) → Call 200 183 [.ref 0, .int (nI m)] Y Z := fun Z h1 h2 =>
        m_moves (d := 195) hm (by rw [d2]; exact x_neg1) hml d6.2.2.2.1 d6.2.1 d5.1.2.1 (mPn_0 d5) hX.2 hm1 t3 (by omega) t2 (fun q hq => by rw [(t4 q (by omega)).2.2]; exact sb_or _ (by have := (t4 q (by omega)).2.1; omega)) (fun q hq => (t4 q (by omega)).2.1) h1 h2
      by_cases hall : ∀ q, q < m → tp q < 6
      · refine s_moves (d := 192) hx d1 d4.1 hm1 t1 (by omega) t2 hxt hall hX.1 hsv (fun X' f1 f2 f3 f4 f5 => ?_)
        refine hY _ (fun h => absurd hall h) (fun _ Y' k1 k2 k3 k4 k5 k6 k7 k8 => ?_)
        have hf : fX (fun o k => (o = 0 ∧ k = 7) ∨ (37 ≤ o ∧ o ≤ 41)) (fun _ _ => False) X X' := fX_tr (fX_sI (Or.inl ⟨rfl, rfl⟩)) (fX_wk (fX_gFr f1) (fun o k h => by unfold hdO2 at h; omega) (fun o k h => h))
        have hg : gFq inM Y Y' := k1
        have hcp : ∀ i r, i < m → r < 8 → nCp st sv tp m (8 * i + r) = st (8 * tp i + r) := fun i r hi hr => by
          unfold nCp
          rw [if_pos (by omega), show (8 * i + r) / 8 = i by omega, show (8 * i + r) % 8 = r by omega]
        have hpe := play_eq (sv := nCp st sv tp m) (pin := none) ho hn d6.2.2.2.1 m
        have hpc := rPlay_c (A := t.1 9) (pin := none) (g := fun i r => nCp st sv tp m (8 * i + r)) (g' := fun i r => st (8 * tp i + r)) (fun k hk => (ho.2 k hk).2) m hcp
        rw [hpc] at hpe
        refine Pz_eq ⟨bn, wd, nc, cl, ns, sy, 0, tp, st, nCp st sv tp m, fX_XR hf (fun e he h => h) hx, gFq_M hg hm, rB_fr hx hf hg (by omega) (fun k => by omega) (by unfold inM; omega) (fun k => by unfold inM; omega) hB, rC_fr hx hf hg (fun o k h => by omega) (by omega) (fun o k h => h.elim) (fun i => by unfold inM; omega) (by unfold inM; omega) hC, rS_fr hx hf hg (rS_48 (P := fun o k => (o = 0 ∧ k = 7) ∨ (37 ≤ o ∧ o ≤ 41)) hS (fun o k h => by omega)) (by omega) (fun o k h => h.elim) (fun k => by unfold inM; omega) (by unfold inM; omega) hS, hSC, ⟨⟨?_, Nat.zero_le _⟩, k2, fun q hq => ?_⟩, rX_fr hx hf hg (fun k => by omega) (fun k => by unfold inM; omega) hX, f4, Or.inr ⟨k, t, hk, ?_, ?_, ?_, xDr_fX hx hf (fun o k h1 h2 => by omega) d4, mDq_fq hg (fun o k h => by unfold inW at h; unfold inM; omega) d6.2.1 d5, d6, d7, Or.inr ⟨m, nCp st sv tp m, st, tp, hm1, f2, f3, f5, f4, k3, k4, fun q hq => ⟨k5 q hq, hall q hq⟩, k6, k7, hcp⟩⟩, rP_fr hx hf hg (by omega) (fun k => by omega) (by unfold inM; omega) (fun k => by unfold inM; omega) hP⟩ ?_
        · rw [f1.2 0 (by unfold hdO2; omega), gsI_1, if_pos ⟨rfl, rfl⟩]; rfl
        · rw [f1.2 4 (by unfold hdO2; omega), gsI_1, if_neg (by omega), hg.2 1 q (by unfold inM; omega)]
          exact t4 q hq
        · rw [hf.2.2 0 15 (by omega) (fun h => h)]; exact d1
        · rw [hg.2 0 51 (by unfold inM; omega)]; exact d2
        · rw [hg.2 0 53 (by unfold inM; omega)]; exact d3
        · rw [hpe.2]
      · exact (s_moves1 (d := 192) hx d1 hm1 t1 (by omega) t2 hxt hall).mpr (hY _ (fun _ => Pz_mk (Rel_tape0 hR)) (fun h => absurd h hall))
    · exact (s_moves0 (d := 192) hx d1 (by rw [t1, ttn]; omega)).mpr ((m_moves0 (d := 194) hm t3 t2 (Or.inr ha)).mpr (Pz_mk hR))
theorem p_fix : Pr 103 186 [] := fun X Y hR => by
  obtain ⟨bn, wd, nc, cl, ns, sy, tn, tp, st, sv, hx, hm, hB, hC, hS, hSC, hT, hX, hsv, hD, hP⟩ := id hR
  have hl := x49 hx
  rcases hD with ⟨d1, d2, d3, d4, d5⟩ | ⟨k, t, hk, d1, d2, d3, d4, d5, d6, d7, d8⟩
  · exact (s_fixN (d := 191) hx (Or.inl d1)).mpr ((m_fix0 (d := 195) hm (Or.inl d2)).mpr (Pz_mk hR))
  · rcases d8 with ⟨q1, q2, q3⟩ | ⟨m, sv', st', tp', q1, q2, q3, q4, q5, q6, q7, q8, q9, q10, q11⟩
    · exact (s_fixN (d := 191) hx (Or.inr q1)).mpr ((m_fix0 (d := 195) hm (Or.inr q3)).mpr (Pz_mk hR))
    · have hml := mL0_of d5
      have hn := hml.1.2
      have ho := lyOk_of d6 hml
      have hpe := fun pin => play_eq (sv := sv') (pin := pin) ho hn d6.2.2.2.1 m
      have hpc := fun pin => rPlay_c (A := t.1 9) (pin := pin) (g := fun i r => sv' (8 * i + r)) (g' := fun i r => st' (8 * tp' i + r)) (fun k hk => (ho.2 k hk).2) m q11
      have h51 : ¬ Y.1 0 51 = 0 := by rw [d2]; exact x_neg1
      have h52 : ¬ Y.1 0 52 = 0 := by rw [q6]; exact x_neg1
      have hm0 : ¬ X.1 37 1 = 0 := by rw [q2]; exact nI_n0 (by omega) (by omega)
      have x4 : X.1 37 4 = nI (nPlay t.2.2 sv' none t.2.1 m).2.length := q3.2.1
      have y61 : Y.1 0 61 = nI (nPlay t.2.2 sv' none t.2.1 m).2.length := by rw [(hpe none).2, hpc none]; exact q10.2.1
      cases h0 : (nPlay t.2.2 sv' none t.2.1 m).2 with
      | nil =>
        have z1 : X.1 37 4 = 0 := by rw [x4, h0]; rfl
        have z2 : Y.1 0 61 = 0 := by rw [y61, h0]; rfl
        exact (s_fixZ (d := 191) hx d1 hm0 z1).mpr ((m_fix2 (d := 195) hm h51 h52 z2).mpr (Pz_mk hR))
      | cons a0 l =>
        have h0' : (rPlay t.2.2 t.2.1 (fun i r => st' (8 * tp' i + r)) (t.1 9) none m).2 = a0 :: l := by rw [← hpc none, ← (hpe none).2]; exact h0
        obtain ⟨k0, hk0, ha0, hw0⟩ := (playG m).2 a0 l h0'
        have h9 := d6.2.1
        have hlen : (nPlay t.2.2 sv' none t.2.1 m).2.length = l.length + 1 := by rw [h0]; rfl
        have z1 : ¬ X.1 37 4 = 0 := by rw [x4]; exact nI_n0 (by omega) (by omega)
        have z2 : ¬ Y.1 0 61 = 0 := by rw [y61]; exact nI_n0 (by omega) (by omega)
        refine s_fix (d := 191) hx d1 d4.1 q2 hm0 z1 q1.2 q5 (q3.2.2 0 a0 (by rw [h0]; rfl)) (by omega) (fun X' f1 f2 f3 => ?_)
        refine (m_fix (d := 195) hm h51 h52 z2 hml d6.2.2.2.1 d6.2.1 d5.1.2.1 (mPn_0 d5) q9 q7 q1.2 q8).mpr ?_
        have hf : fX (fun o k => 37 ≤ o ∧ o ≤ 41 ∧ o ≠ 38) (fun _ _ => False) X X' := fX_wk (fX_gFr f1) (fun o k h => by unfold hdO at h; omega) (fun o k h => h)
        have hg : gFq (fun _ _ => False) Y Y := gFq_rf
        refine Pz_eq ⟨bn, wd, nc, cl, ns, sy, tn, tp, st, sv, fX_XR hf (fun e he h => h) hx, hm, rB_fr hx hf hg (by omega) (fun k => by omega) (fun h => h) (fun k h => h) hB, rC_fr hx hf hg (fun o k h => by omega) (by omega) (fun o k h => h.elim) (fun i => ⟨fun h => h, fun h => h, fun h => h, fun h => h⟩) (fun h => h) hC, rS_fr hx hf hg (rS_48 (P := fun o k => 37 ≤ o ∧ o ≤ 41 ∧ o ≠ 38) hS (fun o k h => by omega)) (by omega) (fun o k h => h.elim) (fun k => ⟨fun h => h, fun h => h, fun h => h⟩) (fun h => h) hS, hSC, rT_fr hx hf hg (by omega) (fun k => by omega) (fun h => h) (fun k h => h) hT, rX_fr hx hf hg (fun k => by omega) (fun k h => h) hX, xSt_fX hx (by decide) hf (fun k => by omega) hsv, Or.inr ⟨k, t, hk, ?_, d2, d3, xDr_fX hx hf (fun o k h1 h2 => by omega) d4, d5, d6, d7, Or.inr ⟨m, sv', st', tp', q1, f2, f3, q4, xSt_fX hx (by decide) hf (fun k => by omega) q5, q6, q7, q8, q9, q10, q11⟩⟩, rP_fr hx hf hg (by omega) (fun k => by omega) (fun h => h) (fun k h => h) hP⟩ ?_
        · rw [hf.2.2 0 15 (by omega) (fun h => h)]; exact d1
        · rw [← fix_eq h0', (hpe (some a0)).2, hpc (some a0)]
end
