/-! Pairs: body, cloth, colour, end, feed. -/
section
variable {X X' X2 Y Y' : gM} {a b c e f g h i r s x n' : Int32} {P PR Q : Nat → Nat → Prop} {k : Nat}
theorem fX_sI' {o q : Nat} (hf : fX P PR X X') (h : o < X.2.2.length → P o q) : fX P PR X (gsI X' o q x) :=
  ⟨hf.1, fun a b ha hn => by rw [gsI_1, if_neg (fun z => hn (by rw [z.1, z.2]; exact h (by rw [← z.1]; exact ha)))]; exact hf.2.1 a b ha hn, hf.2.2⟩
theorem fX_sR' {o q : Nat} {v : Option Nat} (hf : fX P PR X X') (h : o < X.2.2.length → PR o q) : fX P PR X (gsR X' o q v) :=
  ⟨hf.1, hf.2.1, fun a b ha hn => by rw [gsR_2, if_neg (fun z => hn (by rw [z.1, z.2]; exact h (by rw [← z.1]; exact ha)))]; exact hf.2.2 a b ha hn⟩
theorem fX_new' {t : Nat ⊕ (Nat × Nat)} (hf : fX P PR X X') : fX P PR X (gNew X' t) := by
  have hl := fX_len hf
  refine ⟨fun q hq => ?_, fun o q ho hn => ?_, fun o q ho hn => ?_⟩
  · rw [← hf.1 q hq]
    show (X'.2.2 ++ [t])[q]? = _
    exact List.getElem?_append_left (by omega)
  · rw [← hf.2.1 o q ho hn]
    show (if o = X'.2.2.length then 0 else X'.1 o q) = _
    rw [if_neg (by omega)]
  · rw [← hf.2.2 o q ho hn]
    show (if o = X'.2.2.length then none else X'.2.1 o q) = _
    rw [if_neg (by omega)]
theorem fX_cp' {o1 sp o2 dp n : Nat} (hf : fX P PR X X') (h : o2 < X.2.2.length → ∀ k, P o2 k) : fX P PR X (gCp X' o1 sp o2 dp n) :=
  ⟨hf.1, fun a b ha hn => by
    rw [← hf.2.1 a b ha hn]
    show (if a = o2 then _ else X'.1 a b) = _
    rw [if_neg (fun z => hn (by rw [z]; exact h (by rw [← z]; exact ha) b))], hf.2.2⟩
theorem rB'_mk {bn : Nat} (h1 : X.1 0 1 = nI bn) (h2 : bn ≤ 6) (h3 : Y.1 0 2 = nI bn) (h4 : ∀ q, q < 48 → (0 ≤ (X.1 1 q).toInt ∧ (X.1 1 q).toInt ≤ 9) ∧ Y.1 2 q = X.1 1 q) : ∃ wd, rB' X Y bn wd :=
  ⟨fun q => (X.1 1 q).toInt.toNat, ⟨h1, h2⟩, h3, fun q hq => by
    obtain ⟨⟨q1, q2⟩, q3⟩ := h4 q hq
    obtain ⟨m, hm, e⟩ := nI_of_lt (n := 10) q1 (by omega)
    have t := nI_ti (show m ≤ 2000 by omega)
    have hw : (X.1 1 q).toInt.toNat = m := by rw [e, t]; rfl
    simp only [hw]
    exact ⟨e, by omega, by rw [q3, e]⟩⟩
theorem isW_i {x : Int32} (h : isW x = true) : 0 ≤ x.toInt ∧ x.toInt ≤ 9 := by
  have := of_decide_eq_true h
  omega
theorem p_body : Pr 86 121 [.int a, .int b, .int c, .int e, .int f, .int g, .int h, .int i] := fun X Y hR => by
  obtain ⟨bn, wd, nc, cl, ns, sy, tn, tp, st, sv, hx, hm, hB, hC, hS, hSC, hT, hX, hsv, hD, hP⟩ := id hR
  refine (s_body (d := 197) hx hB.1.1 hB.1.2).mpr ⟨fun hw => (m_body (d := 198) hm hB.2.1 hB.1.2).mpr ⟨fun _ => Pz_mk ?_, fun z => absurd hw z⟩, fun hw => (m_body (d := 198) hm hB.2.1 hB.1.2).mpr ⟨fun z => absurd z hw, fun _ => Pz_mk hR⟩⟩
  obtain ⟨⟨wa, wb, wc, we⟩, ⟨wf, wg, wh, wi⟩, hbn⟩ := hw
  have hf : fX (fun o k => o = 1 ∨ (o = 0 ∧ k = 1)) (fun _ _ => False) X (xBody X bn a b c e f g h i) := fX_sI' (fX_sI' (fX_sI' (fX_sI' (fX_sI' (fX_sI' (fX_sI' (fX_sI' (fX_sI' fX_rf (fun _ => Or.inl rfl)) (fun _ => Or.inl rfl)) (fun _ => Or.inl rfl)) (fun _ => Or.inl rfl)) (fun _ => Or.inl rfl)) (fun _ => Or.inl rfl)) (fun _ => Or.inl rfl)) (fun _ => Or.inl rfl)) (fun _ => Or.inr ⟨rfl, rfl⟩)
  have hg : gFq (fun o k => o = 2 ∨ (o = 0 ∧ k = 2)) Y (mBody Y bn a b c e f g h i) := by
    have s := fun (M : gM) k x => (gFq_sI (Or.inl rfl) : gFq (fun o k => o = 2 ∨ (o = 0 ∧ k = 2)) M (gsI M 2 k x))
    exact gFq_tr (gFq_tr (gFq_tr (gFq_tr (gFq_tr (gFq_tr (gFq_tr (gFq_tr (s _ _ _) (s _ _ _)) (s _ _ _)) (s _ _ _)) (s _ _ _)) (s _ _ _)) (s _ _ _)) (s _ _ _)) (gFq_sI (Or.inr ⟨rfl, rfl⟩))
  obtain ⟨wd', hB'⟩ : ∃ wd', rB' (xBody X bn a b c e f g h i) (mBody Y bn a b c e f g h i) (bn + 1) wd' := by
    refine rB'_mk (by simp [xBody, gsI_1]) (by omega) (by simp [mBody, gsI_1]) (fun q hq => ?_)
    by_cases hin : 8 * bn ≤ q ∧ q < 8 * bn + 8
    · obtain ⟨j, rfl⟩ : ∃ j, q = 8 * bn + j := ⟨q - 8 * bn, by omega⟩
      obtain hj | hj | hj | hj | hj | hj | hj | hj : j = 0 ∨ j = 1 ∨ j = 2 ∨ j = 3 ∨ j = 4 ∨ j = 5 ∨ j = 6 ∨ j = 7 := by omega
      all_goals subst hj; simp [xBody, mBody, gsI_1]; first | exact isW_i wa | exact isW_i wb | exact isW_i wc | exact isW_i we | exact isW_i wf | exact isW_i wg | exact isW_i wh | exact isW_i wi
    · have n0 : ¬ q = 8 * bn := by omega
      have n1 : ¬ q = 8 * bn + 1 := by omega
      have n2 : ¬ q = 8 * bn + 2 := by omega
      have n3 : ¬ q = 8 * bn + 3 := by omega
      have n4 : ¬ q = 8 * bn + 4 := by omega
      have n5 : ¬ q = 8 * bn + 5 := by omega
      have n6 : ¬ q = 8 * bn + 6 := by omega
      have n7 : ¬ q = 8 * bn + 7 := by omega
      obtain ⟨w1, w2, w3⟩ := hB.2.2 q hq
      have t := nI_ti (show wd q ≤ 2000 by omega)
      simp [xBody, mBody, gsI_1, n0, n1, n2, n3, n4, n5, n6, n7, w1, w3, t]
      omega
  exact ⟨bn + 1, wd', nc, cl, ns, sy, tn, tp, st, sv, hx, hm, hB', rC_fr hx hf hg (fun o k h => by omega) (by omega) (fun o k h => h.elim) (fun i => by omega) (by omega) hC, rS_fr hx hf hg (rS_48 (P := fun o k => o = 1 ∨ (o = 0 ∧ k = 1)) hS (fun o k h => by omega)) (by omega) (fun o k h => h.elim) (fun k => by omega) (by omega) hS, hSC, rT_fr hx hf hg (by omega) (fun k => by omega) (by omega) (fun k => by omega) hT, rX_fr hx hf hg (fun k => by omega) (fun k => by omega) hX, xSt_fX hx (by decide) hf (fun k => by omega) hsv, rDD_fr hx hf hg (fun o k h => by omega) (fun h => h) (fun o k h => by unfold yD inW at h; omega) hD, rP_fr hx hf hg (by omega) (fun k => by omega) (by omega) (fun k => by omega) hP⟩
/-- a cloth's cell is kept -/
theorem rC1_fr2 {e : cD} (hx : XR X) (hf : fX P PR X X') (hg : gFq Q Y Y') (hP : ∀ k, ¬ P e.1 k ∧ ¬ P (e.1 + 1) k) (hR : ¬ PR e.1 2 ∧ ¬ PR 2 k) (hQ : ¬ Q 3 k ∧ ¬ Q 4 k ∧ ¬ Q 5 k ∧ ∀ i, i < 6 → ¬ Q 6 (6 * k + i)) (h : rC1 X Y k e) : rC1 X' Y' k e := by
  have hl := x49 hx
  obtain ⟨q1, q2, q3, q4, q5, q6, q7, q8, q9, q10, q11, q12⟩ := h
  obtain ⟨o1, l1⟩ := fX_gObj hf q3.1
  exact ⟨by rw [hf.2.2 2 k (by omega) hR.2]; exact q1, q2, xCo_fX hf hP hR.1 q3, by rw [hf.2.1 _ 1 l1 (hP 1).1]; exact q4, q5, q6, q7, q8, by rw [hg.2 3 k hQ.1]; exact q9, by rw [hg.2 4 k hQ.2.1]; exact q10, by rw [hg.2 5 k hQ.2.2.1]; exact q11, fun i hi => by rw [hg.2 6 _ (hQ.2.2.2 i hi)]; exact q12 i hi⟩
theorem rDD_cl {nc nc' : Nat} {cl cl' : Nat → cD} (h : rDD X Y nc cl) (h1 : nc ≤ nc') (h2 : ∀ k, k < nc → (cl' k).1 = (cl k).1 ∧ (cl' k).2.1 = (cl k).2.1) : rDD X Y nc' cl' := by
  rcases h with h | ⟨c, t, hc, d1, d2, d3, d4, d5, d6, d7, d8⟩
  · exact Or.inl h
  · exact Or.inr ⟨c, t, by omega, by rw [(h2 c hc).1]; exact d1, d2, d3, d4, d5, d6, by rw [(h2 c hc).2]; exact d7, d8⟩
theorem XRF_2 {o : Nat} (ho : o = 2 ∨ o = 3 ∨ 48 < o) : ∀ e ∈ XRF, e.1 ≠ o := by
  have hb : (XRF.all (fun e => decide (e.1 ≠ 2 ∧ e.1 ≠ 3 ∧ e.1 ≤ 48))) = true := by decide
  intro e he
  have := of_decide_eq_true (List.all_eq_true.mp hb e he)
  omega
theorem p_cloth : Pr 87 125 [.int a, .int b] := fun X Y hR => by
  obtain ⟨bn, wd, nc, cl, ns, sy, tn, tp, st, sv, hx, hm, hB, hC, hS, hSC, hT, hX, hsv, hD, hP⟩ := id hR
  by_cases hcl : isCl a b nc
  · refine (s_cloth (d := 197) hx hC.1.1 hC.1.2 hcl).mpr ((m_cloth (d := 198) hm hC.2.1 hcl).mpr (Pz_mk ?_))
    obtain ⟨⟨a1, a2⟩, ⟨b1, b2⟩, h6⟩ := hcl
    obtain ⟨la, hla, rfl⟩ := nI_of_lt (n := 401) (x := a) (by omega) (by omega)
    obtain ⟨hb, hhb, rfl⟩ := nI_of_lt (n := 5) (x := b) (by omega) (by omega)
    have ta := nI_ti (show la ≤ 2000 by omega)
    have tb := nI_ti (show hb ≤ 2000 by omega)
    have hl := x49 hx
    generalize hp : X.2.2.length = p at *
    have hf : fX (fun o k => o = 0 ∧ k = 3) (fun o k => o = 2 ∧ k = nc) X (xNewCl X (nI la) (nI hb) nc) := by
      unfold xNewCl
      rw [hp]
      exact fX_sI' (fX_sR' (fX_sI' (fX_sI' (fX_sI' (fX_sR' (fX_new' (fX_new' fX_rf)) (fun z => by omega)) (fun z => by omega)) (fun z => by omega)) (fun z => by omega)) (fun _ => ⟨rfl, rfl⟩)) (fun _ => ⟨rfl, rfl⟩)
    have hg : gFq (fun o k => (o = 3 ∧ k = nc) ∨ (o = 4 ∧ k = nc) ∨ (o = 0 ∧ k = 3)) Y (gsI (gsI (gsI Y 3 nc (nI la)) 4 nc (nI hb)) 0 3 (nI (nc + 1))) := gFq_tr (gFq_tr (gFq_sI (by omega)) (gFq_sI (by omega))) (gFq_sI (by omega))
    have ob : ∀ k, k < nc → (cl k).1 + 1 < p := fun k hk => by
      have h3 := (hC.2.2.1 k hk).2.2.1
      rw [← hp]
      exact (gTy_ok h3.2.2.1).2
    have obs : ∀ j, j < ns → (sy j).1 < p ∧ (sy j).2.1 < p := fun j hj => by
      have h3 := (hS.2.2 j hj).2.1
      rw [← hp]
      exact ⟨(List.getElem?_eq_some_iff.mp h3.1).1, (gTy_ok h3.2.2.1).2⟩
    have hx' : XR (xNewCl X (nI la) (nI hb) nc) := fX_XR hf (fun e he z => XRF_2 (o := 2) (by omega) e he z.1) hx
    refine ⟨bn, wd, nc + 1, fun k => if k = nc then (p, la, hb, 0, fun _ => 0) else cl k, ns, sy, tn, tp, st, sv, hx', hm, rB_fr hx hf hg (by omega) (fun k => by omega) (by omega) (fun k => by omega) hB, ⟨⟨by simp [xNewCl, gsI_1], by omega⟩, by simp [gsI_1], fun k hk => ?_, fun k h1 h2 => ?_, fun k hk k' hk' hne => ?_⟩, rS_fr hx hf hg (rS_48 (P := fun o k => o = 0 ∧ k = 3) hS (fun o k h => by omega)) (by omega) (fun o k h => by omega) (fun k => by omega) (by omega) hS, fun j hj k hk => ?_, rT_fr hx hf hg (by omega) (fun k => by omega) (by omega) (fun k => by omega) hT, rX_fr hx hf hg (fun k => by omega) (fun k => by omega) hX, xSt_fX hx (by decide) hf (fun k => by omega) hsv, rDD_cl (rDD_fr hx hf hg (fun o k h => by omega) (by omega) (fun o k h => by unfold yD inW at h; omega) hD) (by omega) (fun k hk => by simp only [if_neg (show ¬ k = nc by omega)]; exact ⟨trivial, trivial⟩), rP_fr hx hf hg (by omega) (fun k => by omega) (by omega) (fun k => by omega) hP⟩
    · by_cases hkn : k = nc
      · subst hkn
        simp only [if_true]
        have z := hC.2.2.2.1 k (Nat.le_refl _) h6
        have hl2 : (gNew X (.inl 0)).2.2.length = p + 1 := by rw [gNew_len, hp]
        have o1 : gObj (xNewCl X (nI la) (nI hb) k) p 0 := by
          have := @gObj_nw0 X 0
          rw [hp] at this
          exact (gObj_nw (M := gNew X (.inl 0)) (by omega)).mpr this
        have o2 : gAr (xNewCl X (nI la) (nI hb) k) (p + 1) 0 := by
          have := @gAr_nw0 (gNew X (.inl 0)) 0 6
          rw [hl2] at this
          exact this
        have o3 : gLen (xNewCl X (nI la) (nI hb) k) (p + 1) = 6 := by
          have := @gLen_nw0 (gNew X (.inl 0)) 0 6
          rw [hl2] at this
          exact this
        have n0 : ¬ p = 0 := by omega
        have n2 : ¬ p = 2 := by omega
        refine ⟨by simp [xNewCl, gsI_1, gsR_2, gsI_2, hp], by omega, ⟨o1, ?_, o2, o3, ?_, ?_, Nat.zero_le _, by show la ≤ 400; omega, fun i hi => ?_⟩, ?_, by show 10 ≤ la; omega, by show 1 ≤ hb; omega, by show hb ≤ 4; omega, fun i _ => Nat.zero_le _, by simp [gsI_1], by simp [gsI_1], by simp [gsI_1]; exact z.1, fun i hi => by simp [gsI_1]; exact z.2 i hi⟩
        · simp [xNewCl, gsI_1, gsR_2, gsI_2, hp, n2]
        · simp [xNewCl, gsI_1, gsR_1, hp, n0]
        · simp [xNewCl, gsI_1, gsR_1, hp, n0]; rfl
        · simp [xNewCl, gsI_1, gsR_1, hp, n0, gNew]; rfl
        · simp [xNewCl, gsI_1, gsR_1, hp, n0]
      · simp only [if_neg hkn]
        have h48 := (hC.2.2.1 k (by omega)).2.1
        exact rC1_fr2 hx hf hg (fun k => by omega) (by omega) ⟨by omega, by omega, by omega, fun i _ => by omega⟩ (hC.2.2.1 k (by omega))
    · obtain ⟨z1, z2⟩ := hC.2.2.2.1 k (by omega) h2
      exact ⟨by rw [hg.2 5 k (by omega)]; exact z1, fun i hi => by rw [hg.2 6 _ (by omega)]; exact z2 i hi⟩
    · have q1 := fun h => ob k h
      have q2 := fun h => ob k' h
      by_cases e1 : k = nc
      · have h2 : ¬ k' = nc := by omega
        simp only [if_pos e1, if_neg h2]
        have := ob k' (by omega)
        omega
      · by_cases e2 : k' = nc
        · simp only [if_neg e1, if_pos e2]
          have := ob k (by omega)
          omega
        · simp only [if_neg e1, if_neg e2]
          exact hC.2.2.2.2 k (by omega) k' (by omega) hne
    · by_cases e1 : k = nc
      · simp only [if_pos e1]
        have := obs j hj
        omega
      · simp only [if_neg e1]
        exact hSC j hj k (by omega)
  · exact (s_cloth0 (d := 197) hx hC.1.1 hC.1.2 hcl).mpr ((m_cloth0 (d := 198) hm hC.2.1 hC.1.2 hcl).mpr (Pz_mk hR))
/-- one cloth is altered -/
theorem Rel_cl {bn : Nat} {wd : Nat → Nat} {nc : Nat} {cl : Nat → cD} {ns : Nat} {sy : Nat → sD} {tn : Nat} {tp st sv : Nat → Nat} (hx : XR X) (hm : MR Y) (hB : rB' X Y bn wd) (hC : rC X Y nc cl) (hS : rS X Y ns sy) (hSC : rSC nc cl ns sy) (hT : rT' X Y tn tp) (hX : rX X Y st) (hsv : xSt X 38 sv) (hD : rDD X Y nc cl) (hP : rP X Y) {e' : cD} (hk : k < nc) (he : e'.1 = (cl k).1 ∧ e'.2.1 = (cl k).2.1)
    (hf : fX (fun o _ => o = (cl k).1 ∨ o = (cl k).1 + 1) (fun _ _ => False) X X') (hg : gFq (fun o i => (o = 5 ∧ i = k) ∨ (o = 6 ∧ 6 * k ≤ i ∧ i < 6 * k + 6)) Y Y') (hn : rC1 X' Y' k e') : Rel X' Y' := by
  have h48 := (hC.2.2.1 k hk).2.1
  have hl := x49 hx
  refine ⟨bn, wd, nc, fun j => if j = k then e' else cl j, ns, sy, tn, tp, st, sv, fX_XR hf (fun e he z => z) hx, gFq_M hg hm, rB_fr hx hf hg (by omega) (fun k => by omega) (by omega) (fun k => by omega) hB, ⟨⟨by rw [hf.2.1 0 3 (by omega) (by omega)]; exact hC.1.1, hC.1.2⟩, by rw [hg.2 0 3 (by omega)]; exact hC.2.1, fun j hj => ?_, fun j h1 h2 => ?_, fun j hj j' hj' hne => ?_⟩, rS_fr hx hf hg (fun j hj q => ?_) (by omega) (fun o k h => h.elim) (fun k => by omega) (by omega) hS, fun j hj q hq => ?_, rT_fr hx hf hg (by omega) (fun k => by omega) (by omega) (fun k => by omega) hT, rX_fr hx hf hg (fun k => by omega) (fun k => by omega) hX, xSt_fX hx (by decide) hf (fun k => by omega) hsv, rDD_cl (rDD_fr hx hf hg (fun o k h => by omega) (fun h => h) (fun o k h => by unfold yD inW at h; omega) hD) (Nat.le_refl _) (fun j hj => ?_), rP_fr hx hf hg (by omega) (fun k => by omega) (by omega) (fun k => by omega) hP⟩
  · by_cases h1 : j = k
    · subst h1
      simp only [if_true]
      exact hn
    · simp only [if_neg h1]
      have h2 := hC.2.2.2.2 j hj k hk h1
      have h3 := hC.2.2.2.2 k hk j hj (Ne.symm h1)
      exact rC1_fr2 hx hf hg (fun q => by omega) ⟨fun z => z, fun z => z⟩ ⟨by omega, by omega, by omega, fun i hi => by omega⟩ (hC.2.2.1 j hj)
  · obtain ⟨z1, z2⟩ := hC.2.2.2.1 j h1 h2
    exact ⟨by rw [hg.2 5 j (by omega)]; exact z1, fun i hi => by rw [hg.2 6 _ (by omega)]; exact z2 i hi⟩
  · have := hC.2.2.2.2 j hj j' hj' hne
    by_cases h1 : j = k
    · have h2 : ¬ j' = k := by omega
      simp only [if_pos h1, if_neg h2]
      rw [he.1, ← h1]
      exact this
    · by_cases h2 : j' = k
      · simp only [if_neg h1, if_pos h2]
        rw [he.1, ← h2]
        exact this
      · simp only [if_neg h1, if_neg h2]
        exact this
  · have := hSC j hj k hk
    omega
  · have := hSC j hj q hq
    by_cases h1 : q = k
    · simp only [if_pos h1]
      rw [he.1, ← h1]
      exact this
    · simp only [if_neg h1]
      exact this
  · by_cases h1 : j = k
    · simp only [if_pos h1]
      rw [h1]
      exact he
    · simp only [if_neg h1]
      exact ⟨trivial, trivial⟩
theorem p_colour : Pr 88 126 [.int c, .int r, .int n'] := fun X Y hR => by
  obtain ⟨bn, wd, nc, cl, ns, sy, tn, tp, st, sv, hx, hm, hB, hC, hS, hSC, hT, hX, hsv, hD, hP⟩ := id hR
  have hM := fun Z => (m_colour (d := 197) (c := c) (r := r) (n' := n') (Z := Z) hm hC.2.1 hC.1.2).mpr
  by_cases hc : 0 ≤ c.toInt ∧ c.toInt < nc
  · obtain ⟨k, hk, rfl⟩ := nI_of_lt hc.1 hc.2
    have h1 := hC.2.2.1 k hk
    obtain ⟨c1, c2, c3, c4, c5, c6, c7, c8, c9, c10, c11, c12⟩ := id h1
    have hn6 := hC.1.2
    have hxc : xCl X k (cl k).1 := ⟨c1, c3.1, c3.2.1, c3.2.2.1, c3.2.2.2.1⟩
    have hl := x49 hx
    refine (s_colour1 (d := 197) hx hC.1.1 hC.1.2 hk hxc).mpr ⟨fun hw => hM _ ⟨fun _ => Pz_mk ?_, fun z => absurd ⟨⟨hc, by omega⟩, by omega⟩ z⟩, fun hw => hM _ ⟨fun z => absurd (show _ ∧ _ from ⟨by omega, by omega⟩) hw, fun _ => Pz_mk hR⟩⟩
    obtain ⟨q, hq, rfl⟩ := nI_of_lt hw.1.1 (n := 6) hw.1.2
    obtain ⟨v, hv, rfl⟩ := nI_of_lt hw.2.1 (n := 8) hw.2.2
    have tk := nI_ti (show k ≤ 2000 by omega)
    have tq := nI_ti (show q ≤ 2000 by omega)
    rw [tk, tq]
    simp only [Int.toNat_natCast]
    have hf : fX (fun o _ => o = (cl k).1 ∨ o = (cl k).1 + 1) (fun _ _ => False) X (gsI X ((cl k).1 + 1) q (nI v)) := fX_sI (Or.inr rfl)
    have hg : gFq (fun o i => (o = 5 ∧ i = k) ∨ (o = 6 ∧ 6 * k ≤ i ∧ i < 6 * k + 6)) Y (gsI Y 6 (6 * k + q) (nI v)) := gFq_sI (by omega)
    refine Rel_cl hx hm hB hC hS hSC hT hX hsv hD hP (e' := ((cl k).1, (cl k).2.1, (cl k).2.2.1, (cl k).2.2.2.1, fun i => if i = q then v else (cl k).2.2.2.2 i)) hk ⟨rfl, rfl⟩ hf hg ⟨c1, c2, ⟨c3.1, c3.2.1, c3.2.2.1, c3.2.2.2.1, ?_, ?_, c3.2.2.2.2.2.2.1, c3.2.2.2.2.2.2.2.1, fun i hi => ?_⟩, ?_, c5, c6, c7, fun i hi => ?_, ?_, ?_, ?_, fun i hi => ?_⟩
    · rw [gsI_1, if_neg (by show ¬ ((cl k).1 = (cl k).1 + 1 ∧ _); omega)]; exact c3.2.2.2.2.1
    · rw [gsI_1, if_neg (by show ¬ ((cl k).1 = (cl k).1 + 1 ∧ _); omega)]; exact c3.2.2.2.2.2.1
    · show (gsI X ((cl k).1 + 1) q (nI v)).1 ((cl k).1 + 1) i = nI (if i = q then v else (cl k).2.2.2.2 i)
      rw [gsI_1]
      by_cases hi2 : i = q
      · rw [if_pos ⟨rfl, hi2⟩, if_pos hi2]
      · rw [if_neg (fun z => hi2 z.2), if_neg hi2]; exact c3.2.2.2.2.2.2.2.2 i hi
    · rw [gsI_1, if_neg (by show ¬ ((cl k).1 = (cl k).1 + 1 ∧ _); omega)]; exact c4
    · show (if i = q then v else (cl k).2.2.2.2 i) ≤ 7
      have := c8 i hi
      split <;> omega
    · rw [gsI_1, if_neg (by omega)]; exact c9
    · rw [gsI_1, if_neg (by omega)]; exact c10
    · rw [gsI_1, if_neg (by omega)]; exact c11
    · show (gsI Y 6 (6 * k + q) (nI v)).1 6 (6 * k + i) = nI (if i = q then v else (cl k).2.2.2.2 i)
      rw [gsI_1]
      by_cases hi2 : i = q
      · rw [if_pos ⟨rfl, by omega⟩, if_pos hi2]
      · rw [if_neg (fun z => hi2 (by omega)), if_neg hi2]; exact c12 i hi
  · exact (s_colour0 (d := 197) hx hC.1.1 hC.1.2 hc).mpr (hM _ ⟨fun z => absurd z.1.1 hc, fun _ => Pz_mk hR⟩)
theorem p_end : Pr 89 127 [.int c, .int x] := fun X Y hR => by
  obtain ⟨bn, wd, nc, cl, ns, sy, tn, tp, st, sv, hx, hm, hB, hC, hS, hSC, hT, hX, hsv, hD, hP⟩ := id hR
  have hM := fun Z => (m_end (d := 197) (c := c) (x := x) (Z := Z) hm hC.2.1 hC.1.2).mpr
  by_cases hc : 0 ≤ c.toInt ∧ c.toInt < nc
  · obtain ⟨k, hk, rfl⟩ := nI_of_lt hc.1 hc.2
    have h1 := hC.2.2.1 k hk
    obtain ⟨c1, c2, c3, c4, c5, c6, c7, c8, c9, c10, c11, c12⟩ := id h1
    have hn6 := hC.1.2
    have hxc : xCl X k (cl k).1 := ⟨c1, c3.1, c3.2.1, c3.2.2.1, c3.2.2.2.1⟩
    have hl := x49 hx
    have tk := nI_ti (show k ≤ 2000 by omega)
    have tl := nI_ti (show (cl k).2.1 ≤ 2000 by have := c3.2.2.2.2.2.2.2.1; omega)
    have hXe := (s_end1 (d := 197) (n := x) (Z := fun r X' => Call 200 127 [.ref 0, .int (nI k), .int x] Y (fun r' Y' => Pz r r' X' Y')) hx hC.1.1 hC.1.2 hk hxc).mpr
    rw [c3.2.2.2.2.1, tl] at hXe
    rw [tk, Int.toNat_natCast, c9, tl] at hM
    refine hXe ⟨fun hw => hM _ ⟨fun _ => Pz_mk ?_, fun z => absurd ⟨by omega, hw⟩ z⟩, fun hw => hM _ ⟨fun z => absurd z.2 hw, fun _ => Pz_mk hR⟩⟩
    obtain ⟨q, hq, rfl⟩ := nI_of_lt hw.1 (n := (cl k).2.1 + 1) (by omega)
    have hf : fX (fun o _ => o = (cl k).1 ∨ o = (cl k).1 + 1) (fun _ _ => False) X (gsI X (cl k).1 3 (nI q)) := fX_sI (Or.inl rfl)
    have hg : gFq (fun o i => (o = 5 ∧ i = k) ∨ (o = 6 ∧ 6 * k ≤ i ∧ i < 6 * k + 6)) Y (gsI Y 5 k (nI q)) := gFq_sI (by omega)
    refine Rel_cl hx hm hB hC hS hSC hT hX hsv hD hP (e' := ((cl k).1, (cl k).2.1, (cl k).2.2.1, q, (cl k).2.2.2.2)) hk ⟨rfl, rfl⟩ hf hg ⟨c1, c2, ⟨c3.1, c3.2.1, c3.2.2.1, c3.2.2.2.1, ?_, ?_, by show q ≤ (cl k).2.1; omega, c3.2.2.2.2.2.2.2.1, fun i hi => ?_⟩, ?_, c5, c6, c7, c8, ?_, ?_, ?_, fun i hi => ?_⟩
    · rw [gsI_1, if_neg (by omega)]; exact c3.2.2.2.2.1
    · rw [gsI_1, if_pos ⟨rfl, rfl⟩]
    · rw [gsI_1, if_neg (by show ¬ ((cl k).1 + 1 = (cl k).1 ∧ _); omega)]; exact c3.2.2.2.2.2.2.2.2 i hi
    · rw [gsI_1, if_neg (by omega)]; exact c4
    · rw [gsI_1, if_neg (by omega)]; exact c9
    · rw [gsI_1, if_neg (by omega)]; exact c10
    · rw [gsI_1, if_pos ⟨rfl, rfl⟩]
    · rw [gsI_1, if_neg (by omega)]; exact c12 i hi
  · exact (s_end0 (d := 197) hx hC.1.1 hC.1.2 hc).mpr (hM _ ⟨fun z => absurd z.1 hc, fun _ => Pz_mk hR⟩)
end
