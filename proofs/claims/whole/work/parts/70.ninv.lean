/-! What holds of the neutral drape between two steps. -/
def nPin (t : nD) : Prop := ∀ k, k < t.2.1 → t.2.2 k 7 ≤ t.1 10
def nInv (s : nS) : Prop := nOk s.2.2.2 ∧ s.2.2.2.1 9 ≤ s.2.1 ∧ s.2.2.2.1 10 ≤ s.2.1 ∧ nPin s.2.2.2 ∧ s.2.1 ≤ 2000 ∧ s.2.2.2.1 14 = 0
def rGood (r : Nat × nD) (t : nD) : Prop := (r.1 ≠ 0 → r.2 = t) ∧ r.1 ≤ 6
def rInv (r : Nat × nD) (t : nD) : Prop := nOk r.2 ∧ r.2.1 9 ≤ t.1 9 + 1 ∧ r.2.1 10 ≤ t.1 10 + 1 ∧ nPin r.2 ∧ r.2.1 14 = t.1 14
theorem rGood_keep {t : nD} {w : Nat} (h : w ≤ 6) : rGood (w, t) t := ⟨fun _ => rfl, h⟩
theorem rGood_0 {t u : nD} : rGood (0, u) t := ⟨fun h => absurd rfl h, Nat.zero_le _⟩
theorem aWind_good {g : Nat → Nat} {t : nD} {x : Int32} : rGood (aWind g t x) t := by
  unfold aWind; split; exact rGood_keep (by decide); split; exact rGood_keep (by decide); split; exact rGood_keep (by decide); exact rGood_0
theorem aPleat_good {t : nD} {x y : Int32} : rGood (aPleat t x y) t := by
  unfold aPleat; split; exact rGood_keep (by decide); split; exact rGood_keep (by decide); split; exact rGood_keep (by decide); exact rGood_0
theorem aUp_good {t : nD} {x : Int32} : rGood (aUp t x) t := by
  unfold aUp; split; exact rGood_keep (by decide); split; exact rGood_keep (by decide); split; exact rGood_keep (by decide); exact rGood_0
theorem aDown_good {t : nD} {x : Int32} : rGood (aDown t x) t := by
  unfold aDown; split; exact rGood_keep (by decide); split; exact rGood_keep (by decide); split; exact rGood_keep (by decide); exact rGood_0
theorem aHang_good {t : nD} {x : Int32} : rGood (aHang t x) t := by
  unfold aHang; split; exact rGood_keep (by decide); split; exact rGood_keep (by decide); split; exact rGood_keep (by decide); exact rGood_0
theorem aCross_good {g : Nat → Nat} {t : nD} : rGood (aCross g t) t := by
  unfold aCross; split; exact rGood_keep (by decide); split; exact rGood_keep (by decide); exact rGood_0
theorem aTuck_good {t : nD} : rGood (aTuck t) t := by
  unfold aTuck; split; exact rGood_keep (by decide); exact rGood_0
theorem rPlain_good {c : Nat} {g : Nat → Nat} {t : nD} : rGood (rPlain c g t) t := by
  unfold rPlain; split; exact aTuck_good; split; exact rGood_0; split; exact rGood_0; exact aCross_good
theorem rNum_good {c : Nat} {g : Nat → Nat} {t : nD} {v : Int32} : rGood (rNum c g t v) t := by
  unfold rNum; split; exact aWind_good; split; exact aUp_good; split; exact aDown_good; exact aHang_good
theorem nPin_lay {t : nD} {lo c ro si : Nat} (h : nPin t) : nPin (nLay t lo c ro si) := by
  intro k hk
  show (if k = t.2.1 then nRec (t.1 9) lo (t.1 6) (t.1 4) c ro si else t.2.2 k) 7 ≤ t.1 10
  split
  · exact Nat.zero_le _
  · exact h k (by have : k < t.2.1 + 1 := hk; omega)
theorem nPin_wind {w : Nat} : ∀ k {t : nD}, nPin t → nPin (nWind w k t)
  | 0, _, h => h
  | k + 1, t, h => nPin_wind k (t := nWind1 w t) (nPin_lay (lo := t.1 5) (c := w) (ro := t.1 3) (si := t.1 8) h)
theorem nPin_pleat {w : Nat} : ∀ k {t : nD}, nPin t → nPin (nPleat w k t)
  | 0, _, h => h
  | k + 1, t, h => nPin_pleat k (t := nPleat1 w t) (nPin_lay (nPin_lay h))
theorem nPin_hang : ∀ j k r {t : nD}, nPin t → nPin (nHang j k r t).2
  | 0, _, _, _, h => h
  | j + 1, k, r, t, h => nPin_hang j (k + 1) (r - min r 5) (nPin_lay h)
theorem rInv_keep {t : nD} {w : Nat} (h : nOk t) (hp : nPin t) : rInv (w, t) t := ⟨h, Nat.le_succ _, Nat.le_succ _, hp, rfl⟩
theorem aWind_inv {g : Nat → Nat} {t : nD} {x : Int32} (h : nOk t) (hp : nPin t) (h9 : t.1 9 < 2000) : rInv (aWind g t x) t := by
  have ho := nOk_aWind (g := g) (x := x) h (by omega)
  unfold aWind at ho ⊢
  split
  · exact rInv_keep h hp
  · split
    · exact rInv_keep h hp
    · split
      · exact rInv_keep h hp
      · rename_i h1 h2 h3
        rw [if_neg h1, if_neg h2, if_neg h3] at ho
        refine ⟨ho, ?_, ?_, ?_, ?_⟩
        · show (nWind _ _ t).1 9 + 1 ≤ _
          rw [nWind_rg (by decide)]; exact Nat.le_refl _
        · show (nWind _ _ t).1 10 ≤ _
          rw [nWind_rg (by decide)]; exact Nat.le_succ _
        · exact nPin_wind _ hp
        · show (nWind _ _ t).1 14 = _
          rw [nWind_rg (by decide)]
theorem aPleat_inv {t : nD} {x y : Int32} (h : nOk t) (hp : nPin t) (h9 : t.1 9 < 2000) : rInv (aPleat t x y) t := by
  have ho := nOk_aPleat (x := x) (y := y) h (by omega)
  unfold aPleat at ho ⊢
  split
  · exact rInv_keep h hp
  · split
    · exact rInv_keep h hp
    · split
      · exact rInv_keep h hp
      · rename_i h1 h2 h3
        rw [if_neg h1, if_neg h2, if_neg h3] at ho
        refine ⟨ho, ?_, ?_, ?_, ?_⟩
        · show (nPleat _ _ t).1 9 + 1 ≤ _
          rw [nPleat_rg (by decide)]; exact Nat.le_refl _
        · show (nPleat _ _ t).1 10 ≤ _
          rw [nPleat_rg (by decide)]; exact Nat.le_succ _
        · exact nPin_pleat _ hp
        · show (nPleat _ _ t).1 14 = _
          rw [nPleat_rg (by decide)]
theorem aUp_inv {t : nD} {x : Int32} (h : nOk t) (hp : nPin t) (h9 : t.1 9 < 2000) : rInv (aUp t x) t := by
  have ho := nOk_aUp (x := x) h (by omega)
  unfold aUp at ho ⊢
  split
  · exact rInv_keep h hp
  · split
    · exact rInv_keep h hp
    · split
      · exact rInv_keep h hp
      · rename_i h1 h2 h3
        rw [if_neg h1, if_neg h2, if_neg h3] at ho
        exact ⟨ho, Nat.le_refl _, Nat.le_succ _, hp, rfl⟩
theorem aDown_inv {t : nD} {x : Int32} (h : nOk t) (hp : nPin t) (h9 : t.1 9 < 2000) : rInv (aDown t x) t := by
  have ho := nOk_aDown (x := x) h (by omega)
  unfold aDown at ho ⊢
  split
  · exact rInv_keep h hp
  · split
    · exact rInv_keep h hp
    · split
      · exact rInv_keep h hp
      · rename_i h1 h2 h3
        rw [if_neg h1, if_neg h2, if_neg h3] at ho
        exact ⟨ho, Nat.le_refl _, Nat.le_succ _, hp, rfl⟩
theorem aCross_inv {g : Nat → Nat} {t : nD} (h : nOk t) (hp : nPin t) (h9 : t.1 9 < 2000) : rInv (aCross g t) t := by
  have ho := nOk_aCross (g := g) h (by omega)
  unfold aCross at ho ⊢
  split
  · exact rInv_keep h hp
  · split
    · exact rInv_keep h hp
    · rename_i h1 h2
      rw [if_neg h1, if_neg h2] at ho
      exact ⟨ho, Nat.le_refl _, Nat.le_succ _, hp, rfl⟩
theorem aHang_inv {t : nD} {x : Int32} (h : nOk t) (hp : nPin t) (h9 : t.1 9 < 2000) : rInv (aHang t x) t := by
  have ho := nOk_aHang (x := x) h (by omega)
  unfold aHang at ho ⊢
  split
  · exact rInv_keep h hp
  · split
    · exact rInv_keep h hp
    · split
      · exact rInv_keep h hp
      · rename_i h1 h2 h3
        rw [if_neg h1, if_neg h2, if_neg h3] at ho
        refine ⟨ho, ?_, ?_, ?_, ?_⟩
        · show (nHang _ _ _ t).2.1 9 + 1 ≤ _
          rw [nHang_rg (by decide)]; exact Nat.le_refl _
        · show (nHang _ _ _ t).2.1 10 ≤ _
          rw [nHang_rg (by decide)]; exact Nat.le_succ _
        · have := nPin_hang (min ((x.toInt.toNat + 4) / 5) (t.1 5)) 0 x.toInt.toNat hp
          exact this
        · show (nHang _ _ _ t).2.1 14 = _
          rw [nHang_rg (by decide)]
theorem aTuck_inv {t : nD} (h : nOk t) (hp : nPin t) (h9 : t.1 10 < 2000) : rInv (aTuck t) t := by
  have ho := nOk_aTuck h h9
  unfold aTuck at ho ⊢
  split
  · exact rInv_keep h hp
  · rename_i h1
    rw [if_neg h1] at ho
    refine ⟨ho, Nat.le_succ _, Nat.le_refl _, fun k hk => ?_, rfl⟩
    show (if k = t.2.1 - 1 then nU (t.2.2 k) 7 (t.2.2 k 7 + 1) else t.2.2 k) 7 ≤ t.1 10 + 1
    have := hp k hk
    split
    · show t.2.2 k 7 + 1 ≤ _
      omega
    · omega
theorem rPlain_inv {c : Nat} {g : Nat → Nat} {t : nD} (h : nOk t) (hp : nPin t) (h9 : t.1 9 < 2000) (h10 : t.1 10 < 2000) : rInv (rPlain c g t) t := by
  unfold rPlain
  split
  · exact aTuck_inv h hp h10
  · split
    · exact ⟨nOk_aTurn h, Nat.le_succ _, Nat.le_succ _, hp, rfl⟩
    · split
      · exact ⟨nOk_aFlip h, Nat.le_succ _, Nat.le_succ _, hp, rfl⟩
      · exact aCross_inv h hp h9
theorem rNum_inv {c : Nat} {g : Nat → Nat} {t : nD} {v : Int32} (h : nOk t) (hp : nPin t) (h9 : t.1 9 < 2000) : rInv (rNum c g t v) t := by
  unfold rNum
  split
  · exact aWind_inv h hp h9
  · split
    · exact aUp_inv h hp h9
    · split
      · exact aDown_inv h hp h9
      · exact aHang_inv h hp h9
theorem fin_ok {r : Nat × nD} {s : nS} (hr : (fin r s).2.2.2.1 14 = 0) (hs : nInv s) (hi : rInv r s.2.2.2) (hst : s.2.1 < 2000) : r.1 = 0 ∧ nInv (fin r s) ∧ (fin r s).2.1 = s.2.1 + 1 := by
  obtain ⟨h1, h2, h3, h4, h5, h6⟩ := hs
  obtain ⟨i1, i2, i3, i4, i5⟩ := hi
  unfold fin at hr ⊢
  split at hr
  · rename_i h0
    rw [if_pos h0]
    exact ⟨h0, ⟨i1, by show r.2.1 9 ≤ s.2.1 + 1; omega, by show r.2.1 10 ≤ s.2.1 + 1; omega, i4, hst, by show r.2.1 14 = 0; rw [i5, h6]⟩, rfl⟩
  · rename_i h0
    exact absurd hr h0
theorem fin_bad {r : Nat × nD} {s : nS} (h0 : r.1 ≠ 0) : fin r s = brk r.1 s := by unfold fin; rw [if_neg h0]
theorem fin_good {r : Nat × nD} {s : nS} (h0 : r.1 = 0) : fin r s = (s.1, s.2.1 + 1, s.2.2.1, r.2) := by unfold fin; rw [if_pos h0]
theorem brk_14 {w : Nat} {s : nS} : (brk w s).2.2.2.1 14 = w := rfl
theorem nInv_ask {a : Nat} {s : nS} (h : nInv s) : nInv (ask a s) := h
/-- what a step's meaning keeps -/
def dKeep (D : nDn) : Prop := ∀ g s, nInv s → (D g s).2.2.2.1 14 = 0 → nInv (D g s) ∧ s.2.1 < (D g s).2.1
theorem dE_ok {g : Nat → Nat} {e : nEv} {k : Int32 → nS → nS} {s : nS} (h : (dE g e k s).2.2.2.1 14 = 0) : (e (envOf g s) (0, s.2.2.1)).2.1 = 0 ∧ dE g e k s = k (e (envOf g s) (0, s.2.2.1)).1 (ask (e (envOf g s) (0, s.2.2.1)).2.2 s) := by
  unfold dE at h ⊢
  split at h
  · rename_i h0
    exact ⟨h0, by rw [if_pos h0]⟩
  · exact absurd h (by rw [brk_14]; decide)
theorem dStep_keep {D : nDn} (hD : ∀ g s, nInv s → s.2.1 < 2000 → (D g s).2.2.2.1 14 = 0 → nInv (D g s) ∧ s.2.1 < (D g s).2.1) : dKeep (dStep D) := by
  intro g s hs h
  unfold dStep at h ⊢
  split at h
  · exact absurd h (by rw [brk_14]; decide)
  · rename_i h0
    rw [if_neg h0]
    exact hD g s hs (by omega) h
theorem dPlain_eq {c : Nat} {g : Nat → Nat} {s : nS} : dPlain c g s = fin (rPlain c g s.2.2.2) s := by
  unfold dPlain rPlain; split; rfl; split; rfl; split; rfl; rfl
theorem dPlain_keep {c : Nat} : dKeep (dStep (dPlain c)) := dStep_keep (fun g s hs hst h => by
  rw [dPlain_eq] at h ⊢
  obtain ⟨a, b, c⟩ := fin_ok h hs (rPlain_inv hs.1 hs.2.2.2.1 (by have := hs.2.1; omega) (by have := hs.2.2.1; omega)) hst
  exact ⟨b, by omega⟩)
theorem dNum_keep {c : Nat} {e : nEv} : dKeep (dStep (dNum c e)) := dStep_keep (fun g s hs hst h => by
  obtain ⟨h1, h2⟩ := dE_ok h
  rw [show dNum c e g s = _ from h2] at h ⊢
  obtain ⟨a, b, c⟩ := fin_ok h (nInv_ask hs) (rNum_inv hs.1 hs.2.2.2.1 (Nat.lt_of_le_of_lt hs.2.1 hst)) hst
  exact ⟨b, by rw [show (fin _ _).2.1 = _ from c]; exact Nat.lt_succ_self _⟩)
theorem dPleat_keep {e f : nEv} : dKeep (dStep (dPleat e f)) := dStep_keep (fun g s hs hst h => by
  obtain ⟨h1, h2⟩ := dE_ok h
  rw [show dPleat e f g s = _ from h2] at h ⊢
  obtain ⟨h3, h4⟩ := dE_ok h
  rw [h4] at h ⊢
  obtain ⟨a, b, c⟩ := fin_ok h (nInv_ask (nInv_ask hs)) (aPleat_inv hs.1 hs.2.2.2.1 (Nat.lt_of_le_of_lt hs.2.1 hst)) hst
  exact ⟨b, by rw [show (fin _ _).2.1 = _ from c]; exact Nat.lt_succ_self _⟩)
theorem dName_keep {c : Nat} {e : nEv} : dKeep (dStep (dName c e)) := dStep_keep (fun g s hs hst h => by
  obtain ⟨h1, h2⟩ := dE_ok h
  rw [show dName c e g s = _ from h2] at h ⊢
  obtain ⟨i1, i2, i3, i4, i5, i6⟩ := hs
  exact ⟨⟨i1, Nat.le_succ_of_le i2, Nat.le_succ_of_le i3, i4, hst, i6⟩, Nat.lt_succ_self _⟩)
theorem dRep_keep {D : nDn} (hD : dKeep D) {g : Nat → Nat} : ∀ k {s : nS}, nInv s → (dRep (D g) k s).2.2.2.1 14 = 0 → nInv (dRep (D g) k s) ∧ s.2.1 ≤ (dRep (D g) k s).2.1
  | 0, s, hs, _ => ⟨hs, Nat.le_refl _⟩
  | k + 1, s, hs, h => by
    rw [dRep] at h ⊢
    split at h
    · rename_i h0
      rw [if_pos h0]
      obtain ⟨a, b⟩ := hD g s hs h0
      obtain ⟨a2, b2⟩ := dRep_keep hD k a h
      exact ⟨a2, by omega⟩
    · rename_i h0
      exact absurd h h0
theorem dRow_keep {D : nDn} {e : nEv} (hD : dKeep D) : dKeep (dStep (dRow e D)) := dStep_keep (fun g s hs hst h => by
  obtain ⟨h1, h2⟩ := dE_ok h
  rw [show dRow e D g s = _ from h2] at h ⊢
  obtain ⟨i1, i2, i3, i4, i5, i6⟩ := hs
  split at h
  · rename_i h0
    rw [if_pos h0]
    obtain ⟨a, b⟩ := dRep_keep hD _ (s := (s.1, s.2.1 + 1, (e (envOf g s) (0, s.2.2.1)).2.2, s.2.2.2)) ⟨i1, Nat.le_succ_of_le i2, Nat.le_succ_of_le i3, i4, hst, i6⟩ h
    exact ⟨a, Nat.lt_of_lt_of_le (Nat.lt_succ_self _) b⟩
  · exact absurd h (by rw [brk_14]; decide))
theorem dSeq_keep {D E : nDn} (hD : dKeep D) (hE : dKeep E) : dKeep (dSeq D E) := by
  intro g s hs h
  unfold dSeq at h ⊢
  split at h
  · rename_i h0
    rw [if_pos h0]
    obtain ⟨a, b⟩ := hD g s hs h0
    obtain ⟨a2, b2⟩ := hE g _ a h
    exact ⟨a2, by omega⟩
  · rename_i h0
    exact absurd h h0
