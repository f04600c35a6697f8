/-! shortest: the class stops where the reference finds nothing any more. -/
section
variable {x : Nat} {g : Nat → Nat} {t : nD} {s : nS} {D E : nDn}
theorem rPlain_2 {c : Nat} : (rPlain c g t).2.1 2 = t.1 2 := by
  unfold rPlain; split
  · unfold aTuck; split <;> rfl
  · split; rfl; split; rfl; unfold aCross; split; rfl; split <;> rfl
theorem aPleat_2 {v w : Int32} : (aPleat t v w).2.1 2 = t.1 2 := by
  unfold aPleat; split; rfl; split; rfl; split; rfl
  show (nPleat _ _ t).1 2 = _
  rw [nPleat_rg (by decide)]
theorem rNum_2 {c : Nat} {v : Int32} : (rNum c g t v).2.1 2 = t.1 2 := by
  unfold rNum
  split
  · unfold aWind; split; rfl; split; rfl; split; rfl
    show (nWind _ _ t).1 2 = _
    rw [nWind_rg (by decide)]
  · split
    · unfold aUp; split; rfl; split; rfl; split <;> rfl
    · split
      · unfold aDown; split; rfl; split; rfl; split <;> rfl
      · unfold aHang; split; rfl; split; rfl; split; rfl
        show (nHang _ _ _ t).2.1 2 = _
        rw [nHang_rg (by decide)]
theorem fin_2 {r : Nat × nD} (h : r.2.1 2 = s.2.2.2.1 2) : (fin r s).2.2.2.1 2 = s.2.2.2.1 2 := by
  unfold fin; split
  · exact h
  · rfl
theorem dE_2 {e : nEv} {k : Int32 → nS → nS} (hk : ∀ v s', s'.2.2.2 = s.2.2.2 → (k v s').2.2.2.1 2 = s.2.2.2.1 2) : (dE g e k s).2.2.2.1 2 = s.2.2.2.1 2 := by
  unfold dE; split
  · exact hk _ _ rfl
  · rfl
theorem lg_step (h : dLg D) : dLg (dStep D) := by
  intro g s x h1 h2 h3
  unfold dStep
  rw [show (sL x s).2.1 = s.2.1 from rfl]
  split
  · exact Or.inr (Or.inr ⟨sL_brk, h2⟩)
  · exact h g s x h1 h2 h3
theorem mo_step (h : dMo D) : dMo (dStep D) := by
  intro g s
  unfold dStep
  split
  · exact ⟨fun z => z, rfl⟩
  · exact h g s
theorem fin_as {r : Nat × nD} : (fin r s).2.2.1 = s.2.2.1 := by unfold fin; split <;> rfl
theorem lg_rep (h : dLg D) (hm : dMo D) (g : Nat → Nat) : ∀ k s, s.2.2.2.1 2 ≤ x → s.2.2.1 = 0 → s.2.2.2.1 14 = 0 → (dRep (D g) k s).2.2.2.1 14 = 1 ∨ (dRep (D g) k s).2.2.1 ≠ 0 ∨ (dRep (D g) k (sL x s) = sL x (dRep (D g) k s) ∧ (dRep (D g) k s).2.2.1 = 0)
  | 0, s, _, h2, _ => Or.inr (Or.inr ⟨rfl, h2⟩)
  | k + 1, s, h1, h2, h3 => by
    have hmo : ∀ k s, s.2.2.1 ≠ 0 → (dRep (D g) k s).2.2.1 ≠ 0 := by
      intro k
      induction k with
      | zero => intro s hs; exact hs
      | succ k ih =>
        intro s hs
        rw [dRep]
        split
        · exact ih _ ((hm g s).1 hs)
        · exact (hm g s).1 hs
    rw [dRep, dRep]
    rcases h g s x h1 h2 h3 with h4 | h4 | ⟨h4, h5⟩
    · left
      rw [if_neg (by omega)]
      exact h4
    · right; left
      split
      · exact hmo k _ h4
      · exact h4
    · rw [h4]
      by_cases h14 : (D g s).2.2.2.1 14 = 0
      · rw [if_pos h14, if_pos (show (sL x (D g s)).2.2.2.1 14 = 0 from h14)]
        exact lg_rep h hm g k (D g s) (by rw [(hm g s).2]; exact h1) h5 h14
      · rw [if_neg h14, if_neg (show ¬ (sL x (D g s)).2.2.2.1 14 = 0 from h14)]
        exact Or.inr (Or.inr ⟨rfl, h5⟩)
theorem mo_rep (hm : dMo D) (g : Nat → Nat) : ∀ k s, (s.2.2.1 ≠ 0 → (dRep (D g) k s).2.2.1 ≠ 0) ∧ (dRep (D g) k s).2.2.2.1 2 = s.2.2.2.1 2
  | 0, s => ⟨fun h => h, rfl⟩
  | k + 1, s => by
    rw [dRep]
    split
    · exact ⟨fun h => (mo_rep hm g k (D g s)).1 ((hm g s).1 h), (mo_rep hm g k (D g s)).2.trans (hm g s).2⟩
    · exact hm g s
theorem lg_seq (h1 : dLg D) (h2 : dLg E) (m1 : dMo D) (m2 : dMo E) : dLg (dSeq D E) := by
  intro g s x q1 q2 q3
  unfold dSeq
  rcases h1 g s x q1 q2 q3 with h4 | h4 | ⟨h4, h5⟩
  · left
    rw [if_neg (by omega)]
    exact h4
  · right; left
    split
    · exact (m2 g _).1 h4
    · exact h4
  · rw [h4]
    by_cases h14 : (D g s).2.2.2.1 14 = 0
    · rw [if_pos h14, if_pos (show (sL x (D g s)).2.2.2.1 14 = 0 from h14)]
      exact h2 g (D g s) x (by rw [(m1 g s).2]; exact q1) h5 h14
    · rw [if_neg h14, if_neg (show ¬ (sL x (D g s)).2.2.2.1 14 = 0 from h14)]
      exact Or.inr (Or.inr ⟨rfl, h5⟩)
theorem mo_seq (m1 : dMo D) (m2 : dMo E) : dMo (dSeq D E) := by
  intro g s
  unfold dSeq
  split
  · exact ⟨fun h => (m2 g _).1 ((m1 g s).1 h), (m2 g _).2.trans (m1 g s).2⟩
  · exact m1 g s
theorem sL_14 {q : Nat} (h : q ≠ 2) : (sL x s).2.2.2.1 q = s.2.2.2.1 q := tL_q h
theorem cS_lg {tx mk : Nat → Nat} {m r a u b v : Nat} {D : nDn} (h : cS tx mk m r a u b v D) : dLg D ∧ dMo D := by
  refine h (fun _ _ _ _ _ _ D => dLg D ∧ dMo D) ⟨fun r a u h1 h2 h3 => ?_, fun r a u b v e h1 h2 h3 h4 => ?_, fun r a u b v e c w f h1 h2 h3 h4 h5 h6 => ?_, fun r a u b v e h1 h2 h3 h4 h5 => ?_, fun r a u b v e c w D h1 h2 h3 h4 h5 h6 h7 h8 h9 h10 => ?_, fun _ _ _ _ _ _ h => h, fun r a u b v D c w E h1 h2 h3 => ⟨lg_seq h1.1 h3.1 h1.2 h3.2, mo_seq h1.2 h3.2⟩⟩
  · refine ⟨lg_step (fun g s x q1 q2 q3 => ?_), mo_step (fun g s => ?_)⟩
    · rw [dPlain_eq, dPlain_eq, fin_as]
      rcases lg_fin (s := s) (lg_plain (c := tx a) (g := g) (t := s.2.2.2) q1) with h | h
      · exact Or.inl h
      · exact Or.inr (Or.inr ⟨h, q2⟩)
    · rw [dPlain_eq, fin_as]
      exact ⟨fun h => h, fin_2 rPlain_2⟩
  · have hD : ∀ g s, dNum (tx a) e g s = dE g e (fun v s => fin (rNum (tx a) g s.2.2.2 v) s) s := fun _ _ => rfl
    refine ⟨lg_step (fun g s x q1 q2 q3 => ?_), mo_step (fun g s => ?_)⟩
    · rw [hD, hD]
      refine lg_dE h3.1 q1 q2 q3 (fun v s h => mo_fin h) (fun v s r1 r2 r3 => ?_)
      rw [fin_as]
      rcases lg_fin (s := s) (lg_num (c := tx a) (g := g) (t := s.2.2.2) (v := v) r1) with h | h
      · exact Or.inl h
      · exact Or.inr (Or.inr ⟨h, r2⟩)
    · rw [hD]
      exact ⟨fun h => mo_dE h3.1 (fun v s h => mo_fin h) h, dE_2 (fun v s' hs' => by rw [← hs']; exact fin_2 rNum_2)⟩
  · have hD : ∀ g s, dPleat e f g s = dE g e (fun v s => dE g f (fun w s => fin (aPleat s.2.2.2 v w) s) s) s := fun _ _ => rfl
    refine ⟨lg_step (fun g s x q1 q2 q3 => ?_), mo_step (fun g s => ?_)⟩
    · rw [hD, hD]
      refine lg_dE h3.1 q1 q2 q3 (fun v s h => mo_dE h5.1 (fun w s h => mo_fin h) h) (fun v s r1 r2 r3 => ?_)
      refine lg_dE h5.1 r1 r2 r3 (fun v s h => mo_fin h) (fun w s p1 p2 p3 => ?_)
      rw [fin_as]
      rcases lg_fin (s := s) (lg_pleat (t := s.2.2.2) (v := v) (w := w) p1) with h | h
      · exact Or.inl h
      · exact Or.inr (Or.inr ⟨h, p2⟩)
    · rw [hD]
      refine ⟨fun h => mo_dE h3.1 (fun v s h => mo_dE h5.1 (fun w s h => mo_fin h) h) h, dE_2 (fun v s' hs' => ?_)⟩
      rw [← hs']
      exact dE_2 (fun w s2 hs2 => by rw [← hs2]; exact fin_2 aPleat_2)
  · have hD : ∀ g s, dName (tx a) e g s = dE g e (fun v s => ((fun q => if q = tx a - 120 then v else s.1 q), s.2.1 + 1, s.2.2)) s := fun _ _ => rfl
    refine ⟨lg_step (fun g s x q1 q2 q3 => ?_), mo_step (fun g s => ?_)⟩
    · rw [hD, hD]
      exact lg_dE h4.1 q1 q2 q3 (fun v s h => h) (fun v s r1 r2 r3 => Or.inr (Or.inr ⟨rfl, r2⟩))
    · rw [hD]
      exact ⟨fun h => mo_dE h4.1 (fun v s h => h) h, dE_2 (fun v s' hs' => by rw [← hs'])⟩
  · have hD : ∀ g s, dRow e D g s = dE g e (fun v s => if isNm v then dRep (D g) v.toInt.toNat (s.1, s.2.1 + 1, s.2.2) else brk 4 s) s := fun _ _ => rfl
    have hmo : ∀ g (v : Int32) (s : nS), s.2.2.1 ≠ 0 → (if isNm v then dRep (D g) v.toInt.toNat (s.1, s.2.1 + 1, s.2.2) else brk 4 s : nS).2.2.1 ≠ 0 := fun g v s h => by
      split
      · exact (mo_rep h8.2 g _ _).1 h
      · exact h
    refine ⟨lg_step (fun g s x q1 q2 q3 => ?_), mo_step (fun g s => ?_)⟩
    · rw [hD, hD]
      refine lg_dE h4.1 q1 q2 q3 (hmo g) (fun v s r1 r2 r3 => ?_)
      by_cases hn : isNm v
      · rw [if_pos hn, if_pos hn]
        exact lg_rep h8.1 h8.2 g v.toInt.toNat (s.1, s.2.1 + 1, s.2.2) r1 r2 r3
      · rw [if_neg hn, if_neg hn]
        exact Or.inr (Or.inr ⟨sL_brk, r2⟩)
    · rw [hD]
      refine ⟨fun h => mo_dE h4.1 (hmo g) h, dE_2 (fun v s' hs' => ?_)⟩
      rw [← hs']
      split
      · exact (mo_rep h8.2 g _ _).2
      · rfl
theorem nBeg_tL {L x h : Nat} : nBeg x h = tL x (nBeg L h) := by
  show ((fun f => if f = 2 then x else if f = 3 then h else 0), 0, fun _ _ => 0) = (nU (fun f => if f = 2 then L else if f = 3 then h else 0) 2 x, 0, fun _ _ => 0)
  congr 1
  funext q
  unfold nU
  by_cases hq : q = 2
  · rw [if_pos hq, if_pos hq]
  · rw [if_neg hq, if_neg hq]
    show (if q = 3 then h else 0) = if q = 2 then L else if q = 3 then h else 0
    rw [if_neg hq]
theorem nSh_eq {tx mk : Nat → Nat} {m r a u b v : Nat} {D : nDn} (hD : cS tx mk m r a u b v D) {z : Int32} {h : Nat} : ∀ j L, nSh (fun L => D g (nNm z, 0, 0, nBeg L h)) j L = rSh (fun L => D g (nNm z, 0, 0, nBeg L h)) j L
  | 0, _ => rfl
  | j + 1, L => by
    have ih := nSh_eq hD (z := z) (h := h) j (L + 1)
    show (if (D g (nNm z, 0, 0, nBeg L h)).2.2.2.1 14 = 0 then some L else if (D g (nNm z, 0, 0, nBeg L h)).2.2.2.1 14 ≠ 1 ∧ (D g (nNm z, 0, 0, nBeg L h)).2.2.1 = 0 then none else nSh (fun L => D g (nNm z, 0, 0, nBeg L h)) j (L + 1)) = if (D g (nNm z, 0, 0, nBeg L h)).2.2.2.1 14 = 0 then some L else rSh (fun L => D g (nNm z, 0, 0, nBeg L h)) j (L + 1)
    by_cases h0 : (D g (nNm z, 0, 0, nBeg L h)).2.2.2.1 14 = 0
    · rw [if_pos h0, if_pos h0]
    · rw [if_neg h0, if_neg h0]
      by_cases h1 : (D g (nNm z, 0, 0, nBeg L h)).2.2.2.1 14 ≠ 1 ∧ (D g (nNm z, 0, 0, nBeg L h)).2.2.1 = 0
      · rw [if_pos h1]
        have hall : ∀ x, L ≤ x → (D g (nNm z, 0, 0, nBeg x h)).2.2.2.1 14 ≠ 0 := fun x hx => by
          rcases (cS_lg hD).1 g (nNm z, 0, 0, nBeg L h) x hx rfl rfl with q | q | ⟨q, -⟩
          · exact absurd q h1.1
          · exact absurd h1.2 q
          · have e : sL x (nNm z, 0, 0, nBeg L h) = (nNm z, 0, 0, nBeg x h) := by
              show (nNm z, 0, 0, tL x (nBeg L h)) = _
              rw [← nBeg_tL]
            rw [e] at q
            rw [q, sL_14 (by decide)]
            exact h0
        have hr : ∀ j x, L ≤ x → rSh (fun L => D g (nNm z, 0, 0, nBeg L h)) j x = none := by
          intro j
          induction j with
          | zero => intro x _; rfl
          | succ j ih2 =>
            intro x hx
            show (if (D g (nNm z, 0, 0, nBeg x h)).2.2.2.1 14 = 0 then some x else rSh (fun L => D g (nNm z, 0, 0, nBeg L h)) j (x + 1)) = none
            rw [if_neg (hall x hx)]
            exact ih2 (x + 1) (by omega)
        exact (hr j (L + 1) (by omega)).symm
      · rw [if_neg h1]
        exact ih
end
