/-! The reference: the drape's loop over a style. -/
theorem cE_ls {tx mk : Nat → Nat} {m o a u b v : Nat} {e : nEv} (h : cE tx mk m o a u b v e) : a < b := by
  refine h (fun _ _ a _ b _ _ => a < b) ⟨fun o a u k h1 h2 h3 h4 h5 => by omega, fun o a u h1 h2 => by omega, fun o a u b v e h1 h2 h3 h4 => by omega, fun _ _ _ _ _ _ h => h, fun o a u b v e c w f h1 h2 h3 h4 => by omega, fun _ _ _ _ _ _ h => h, fun o a u b v e c w f h1 h2 h3 h4 => by omega⟩
theorem cE_n0 {tx mk : Nat → Nat} {m o a u b v : Nat} {e : nEv} (h : cE tx mk m o a u b v e) : tx a ≠ 0 := ((cE_nb h).2 a (Nat.le_refl _) (cE_ls h)).2.2
def mHd (M : gM) (tx : Nat → Nat) (g : Nat → Nat) (n ba w bb a : Nat) (s : nS) (r : Nat) : Prop := MR M ∧ mTx M tx n ba a ∧ mSd M w bb g s.1 s.2.2.2 s.2.1 ∧ M.1 0 50 = nI (s.2.2.2.1 11) ∧ M.1 0 44 = nI r ∧ s.2.2.1 ≤ 1
def dGo (d : Nat) (Z : Option Value → gM → Prop) (a1 a2 a3 a4 a5 a6 : Option Value) (M : gM) : Prop := ∀ l7 l8 l9, Call (d + 5) 164 [.ref 0] M (fun q M1 => Run (d + 5) 165 336 [some (.ref 0), a1, a2, a3, a4, a5, a6, l7, l8, l9] (q.toList ++ []) M1 0 0 Z)
def dRun (d n ba w bb : Nat) (tx g : Nat → Nat) (Z : Option Value → gM → Prop) (a1 a2 a3 a4 a5 a6 : Option Value) (r a b : Nat) (D : nDn) : Prop := r ≤ 3 → ∀ s M, mHd M tx g n ba w bb a s r → nInv s → nAct s.2.2.2 →
  ((D g s).2.2.2.1 14 = 0 → ∀ M2, gFq (inT w) M M2 → mHd M2 tx g n ba w bb b (D g s) r → mKp r M M2 → dGo d Z a1 a2 a3 a4 a5 a6 M2) →
  ((D g s).2.2.2.1 14 ≠ 0 → ∀ M2, gFq (inT w) M M2 → mDr M2 w (D g s).2.2.2 → Z none M2) →
  ∀ l7 l8 l9, Run (d + 5) 165 192 [some (.ref 0), a1, a2, a3, a4, a5, a6, l7, l8, l9] [] M 0 0 Z
section
variable {d n a ba b w bb st dv r : Nat} {M M0 M1 M2 : gM} {Z : Option Value → gM → Prop} {x y v : Int32} {tx mk : Nat → Nat} {g : Nat → Nat} {s : nS} {t : nD} {nm : Nat → Int32} {P : Nat → Nat → Prop} {a1 a2 a3 a4 a5 a6 a7 a8 a9 : Option Value}
theorem dStep_lt {D : nDn} (h : s.2.1 < 2000) : dStep D g s = D g s := by unfold dStep; rw [if_neg (by omega)]
theorem dStep_ge {D : nDn} (h : 2000 ≤ s.2.1) : dStep D g s = brk 6 s := by unfold dStep; rw [if_pos h]
theorem m_lpSimple (ht : tOk tx n) (h0 : tx a ≠ 0) (h91 : tx a ≠ 91) {D : nDn} (hkp : dKeep (dStep D)) (hbd : dBnd (dStep D))
    (hstep : ∀ s M, mHd M tx g n ba w bb a s r → nInv s → nAct s.2.2.2 → s.2.1 < 2000 → ∀ Z', (∀ M2, gFq (inS w) M M2 → mTx M2 tx n ba b → mSd M2 w bb g (D g s).1 (D g s).2.2.2 s.2.1 → Z' none M2) → Call (d + 5) 163 [.ref 0] M Z')
    (h11 : ∀ s, (D g s).2.2.2.1 14 = 0 → s.2.2.2.1 14 = 0 → (D g s).2.1 = s.2.1 + 1 ∧ (D g s).2.2.2.1 11 = if tx a = 104 then 1 else s.2.2.2.1 11) : dRun d n ba w bb tx g Z a1 a2 a3 a4 a5 a6 r a b (dStep D) := by
  intro hr s M hH hi hac K1 K2 l7 l8 l9
  obtain ⟨hm, hT, hs, h50, h44, has⟩ := id hH
  refine m_lpStep hm ht hT h0 hs hi h44 (fun hge M2 hf2 hd2 => ?_) (fun hlt => ?_)
  · rw [dStep_ge hge] at K2
    exact K2 (by rw [brk_14]; decide) M2 (gFq_wk hf2 (fun _ _ => inT_W)) hd2
  · have hkp2 := hkp g s hi
    have hbd2 := hbd g s has (by rw [hi.2.2.2.2.2]; decide)
    rw [dStep_lt hlt] at K1 K2 hkp2 hbd2
    refine hstep s M hH hi hac hlt _ (fun M2 hf2 hT2 hs2 => ?_)
    have hm2 := gFq_M hf2 hm
    simp only [gIn_toInt, nI_toInt, Nat.reduceLT, Nat.reducePow, va_rf_none, va_rf_some, gObj_sI, gObj_sR, gAr_sI, gAr_sR, gLen_sI, gLen_sR, gsI_1, gsI_2, gsR_1, gsR_2, gU_ref, gU_null, gU_rf, gisRef_ref, gisRef_null, gisRef_rf, Option.toList_some, Option.toList_none, List.cons_append, List.nil_append, true_and, and_true, false_and, and_false, ↓reduceIte, if_true, if_false, Nat.reduceEqDiff, Nat.reduceAdd, Nat.reduceMul, Nat.reduceSub, Nat.reduceLeDiff, reduceCtorEq, not_true_eq_false, not_false_eq_true, true_imp_iff, false_imp_iff, zc_0, zc_1, zc_2, zc_3, zc_4, zc_5, zc_6, zc_8, zc_9, zc_10, zc_32, zc_36, zc_48, zc_64, zc_80, zc_120, zc_128, zc_248, zc_320, zc_400, zc_800, zc_1200, zc_2001, zc_4002, Int.reduceLT, Int.reduceLE, Int.reduceNeg, Nat.zero_ne_one, Nat.one_ne_zero, or_true, true_or, or_false, false_or]
    by_cases h14 : (D g s).2.2.2.1 14 = 0
    · obtain ⟨q1, q2⟩ := h11 s h14 hi.2.2.2.2.2
      obtain ⟨⟨i1, i2, i3, i4, i5, i6⟩, -⟩ := hkp2 h14
      have h50' : M2.1 0 50 = nI (s.2.2.2.1 11) := by rw [hf2.2 0 50 (by unfold inS inW inK; omega)]; exact h50
      have h44' : M2.1 0 44 = nI r := by rw [hf2.2 0 44 (by unfold inS inW inK; omega)]; exact h44
      refine m_lpGood (P := tx a = 91) (Q := tx a = 104) (r' := r) hm2 hs2 h14 (by omega) h50' hac.2 h44' (by omega) (by omega) (fun _ M3 hf3 ho h0' hs3 h503 => ?_) (fun z => absurd z h91)
      refine K1 h14 M3 (gFq_tr (gFq_wk hf2 (fun _ _ => inT_S)) hf3) ⟨gFq_M hf3 hm2, ?_, by rw [q1]; exact hs3, by rw [q2]; exact h503, by rw [h0' 44 (by decide) (by decide)]; exact h44', hbd2.1⟩ (mKp_tr (mKp_S hf2) (fun i _ => ⟨ho 30 i (by decide), ho 31 i (by decide)⟩)) _ _ _
      unfold mTx
      rw [h0' 14 (by decide) (by decide), h0' 16 (by decide) (by decide), h0' 13 (by decide) (by decide)]
      exact ⟨hT2.1, hT2.2.1, fun k hk => by rw [ho 7 _ (by decide)]; exact hT2.2.2.1 k hk, hT2.2.2.2⟩
    · rw [m_lpBad hm2 hs2.1 hs2.2.1 h14 hbd2.2]
      exact K2 h14 M2 (gFq_wk hf2 (fun _ _ => inT_S)) hs2.2.1
theorem fin_11 {r : Nat × nD} {s : nS} {q : Nat} (h : (fin r s).2.2.2.1 14 = 0) (hr : r.1 = 0 → r.2.1 11 = q) : (fin r s).2.1 = s.2.1 + 1 ∧ (fin r s).2.2.2.1 11 = q := by
  unfold fin at h ⊢
  split at h
  · rename_i h0
    rw [if_pos h0]
    exact ⟨rfl, hr h0⟩
  · rename_i h0
    exact absurd h h0
/-- the turns of a row -/
theorem m_turns (ht : tOk tx n) {c : Nat} {D : nDn} (hkp : dKeep D) (hka : dKeepA D) (hbd : dBnd D) (hr : r < 3) (hc : tx c = 93) (hb : b + 1 ≤ n)
    (hP : dRun d n ba w bb tx g Z a1 a2 a3 a4 a5 a6 (r + 1) (b + 1) c D) : ∀ k s M, mHd M tx g n ba w bb (b + 1) s (r + 1) → nInv s → nAct s.2.2.2 → M.1 30 r = nI (b + 1) → M.1 31 r = nI (k + 1) → k ≤ 199 →
    ((dRep (D g) (k + 1) s).2.2.2.1 14 = 0 → ∀ M2, gFq (inT w) M M2 → mHd M2 tx g n ba w bb (c + 1) (dRep (D g) (k + 1) s) r → mKp r M M2 → dGo d Z a1 a2 a3 a4 a5 a6 M2) →
    ((dRep (D g) (k + 1) s).2.2.2.1 14 ≠ 0 → ∀ M2, gFq (inT w) M M2 → mDr M2 w (dRep (D g) (k + 1) s).2.2.2 → Z none M2) →
    ∀ l7 l8 l9, Run (d + 5) 165 192 [some (.ref 0), a1, a2, a3, a4, a5, a6, l7, l8, l9] [] M 0 0 Z := by
  have hlc := tx_lt (a := c) ht (by omega)
  intro k
  induction k with
  | zero =>
    intro s M hH hi hac h30 h31 hk K1 K2 l7 l8 l9
    have e1 : dRep (D g) 1 s = D g s := by
      rw [dRep]; split <;> rfl
    rw [e1] at K1 K2
    refine hP (by omega) s M hH hi hac (fun h14 M2 hf2 hH2 hk2 l7 l8 l9 => ?_) K2 l7 l8 l9
    obtain ⟨hm2, hT2, hs2, h502, h442, has2⟩ := hH2
    obtain ⟨⟨i1, i2, i3, i4, i5, i6⟩, -⟩ := hkp g s hi h14
    have h31' : M2.1 31 r = nI 1 := (hk2 r (by omega)).2.trans h31
    have hfz : gFq (fun o k => (o = 31 ∧ k = r) ∨ (o = 0 ∧ k = 44)) M2 (gsI (gsI M2 31 r 0) 0 44 (nI r)) := gFq_tr (gFq_sI (Or.inl ⟨rfl, rfl⟩)) (gFq_sI (Or.inr ⟨rfl, rfl⟩))
    have hfy : gFq (fun o k => (o = 31 ∧ k = r) ∨ (o = 0 ∧ (k = 44 ∨ k = 13))) M2 (gsI (gsI (gsI M2 31 r 0) 0 44 (nI r)) 0 13 (nI (c + 1))) := gFq_tr (gFq_wk hfz (fun o k z => by omega)) (gFq_sI (by omega))
    have hg := K1 h14 (gsI (gsI (gsI M2 31 r 0) 0 44 (nI r)) 0 13 (nI (c + 1))) (gFq_tr hf2 (gFq_wk hfy (fun o k z => by unfold inT inS inK; omega))) ⟨gFq_M hfy hm2, mTx_at (a := c) (mTx_fr13 hfz hT2 (by omega) (by omega) (by omega) (fun k => by omega)) (by omega), mSd_P hfy (by omega) (by omega) (fun k => by omega) ⟨by omega, by omega⟩ (fun o k z => by unfold inW at z; omega) (fun k => by omega) (by omega) (by omega) hs2, by rw [hfy.2 0 50 (by omega)]; exact h502, by simp [gsI_1], has2⟩ (mKp_tr (fun i hi => hk2 i (by omega)) (fun i hi => ⟨hfy.2 30 i (by omega), hfy.2 31 i (by omega)⟩)) l7 l8 l9
    rw [m_goOut (d := d + 3) hm2 ht hT2 hc hr h442 h31']
    exact hg
  | succ k ih =>
    intro s M hH hi hac h30 h31 hk K1 K2 l7 l8 l9
    refine hP (by omega) s M hH hi hac (fun h14 M2 hf2 hH2 hk2 l7 l8 l9 => ?_) (fun h14 => ?_) l7 l8 l9
    · have e1 : dRep (D g) (k + 1 + 1) s = dRep (D g) (k + 1) (D g s) := by
        rw [dRep, if_pos h14]
      rw [e1] at K1 K2
      obtain ⟨hm2, hT2, hs2, h502, h442, has2⟩ := hH2
      obtain ⟨hi2, -⟩ := hkp g s hi h14
      have hac2 := hka g s hac
      obtain ⟨i1, i2, i3, i4, i5, i6⟩ := id hi2
      have h31' : M2.1 31 r = nI (k + 2) := (hk2 r (by omega)).2.trans h31
      have h30' : M2.1 30 r = nI (b + 1) := (hk2 r (by omega)).1.trans h30
      have hfz : gFq (fun o k => o = 31 ∧ k = r) M2 (gsI M2 31 r (nI (k + 1))) := gFq_sI ⟨rfl, rfl⟩
      have hfy : gFq (fun o k => (o = 31 ∧ k = r) ∨ (o = 0 ∧ k = 13)) M2 (gsI (gsI M2 31 r (nI (k + 1))) 0 13 (nI (b + 1))) := gFq_tr (gFq_wk hfz (fun o k z => by omega)) (gFq_sI (by omega))
      have hft := gFq_tr hf2 (gFq_wk (Q := inT w) hfy (fun o k z => by unfold inT inS inK; omega))
      have hkt : mKp r M (gsI (gsI M2 31 r (nI (k + 1))) 0 13 (nI (b + 1))) := mKp_tr (fun i hi => hk2 i (by omega)) (fun i hi => ⟨hfy.2 30 i (by omega), hfy.2 31 i (by omega)⟩)
      rw [m_goRep (d := d + 3) hm2 ht hT2 hc hr h442 (by omega) h31' h30']
      simp only [z165_336, gIn_toInt, nI_toInt, Nat.reduceLT, Nat.reducePow, va_rf_none, va_rf_some, gObj_sI, gObj_sR, gAr_sI, gAr_sR, gLen_sI, gLen_sR, gsI_1, gsI_2, gsR_1, gsR_2, gU_ref, gU_null, gU_rf, gisRef_ref, gisRef_null, gisRef_rf, Option.toList_some, Option.toList_none, List.cons_append, List.nil_append, true_and, and_true, false_and, and_false, ↓reduceIte, if_true, if_false, Nat.reduceEqDiff, Nat.reduceAdd, Nat.reduceMul, Nat.reduceSub, Nat.reduceLeDiff, reduceCtorEq, not_true_eq_false, not_false_eq_true, true_imp_iff, false_imp_iff, zc_0, zc_1, zc_2, zc_3, zc_4, zc_5, zc_6, zc_8, zc_9, zc_10, zc_32, zc_36, zc_48, zc_64, zc_80, zc_120, zc_128, zc_248, zc_320, zc_400, zc_800, zc_1200, zc_2001, zc_4002, Int.reduceLT, Int.reduceLE, Int.reduceNeg, Nat.zero_ne_one, Nat.one_ne_zero, or_true, true_or, or_false, false_or]
      refine ih (D g s) _ ⟨gFq_M hfy hm2, mTx_at (a := c) (mTx_fr13 hfz hT2 (by omega) (by omega) (by omega) (fun k => by omega)) hb, mSd_P hfy (by omega) (by omega) (fun k => by omega) ⟨by omega, by omega⟩ (fun o k z => by unfold inW at z; omega) (fun k => by omega) (by omega) (by omega) hs2, by rw [hfy.2 0 50 (by omega)]; exact h502, by rw [hfy.2 0 44 (by omega)]; exact h442, has2⟩ hi2 hac2 (by rw [hfy.2 30 r (by omega)]; exact h30') (by simp [gsI_1]) (by omega) (fun q M3 hf3 hH3 hk3 => K1 q M3 (gFq_tr hft hf3) hH3 (mKp_tr hkt hk3)) (fun q M3 hf3 hd3 => K2 q M3 (gFq_tr hft hf3) hd3) l7 l8 l9
    · have e1 : dRep (D g) (k + 1 + 1) s = D g s := by
        rw [dRep, if_neg h14]
      rw [e1] at K2
      exact K2 h14
end
