/-! What every style's meaning keeps besides; what its expressions are. -/
theorem cE_in {tx mk : Nat → Nat} {m o a u b v : Nat} {e : nEv} (h : cE tx mk m o a u b v e) : ∀ en dv p q, (e en (dv, p)).1 = (e en (dv, q)).1 ∧ (e en (dv, p)).2.1 = (e en (dv, q)).2.1 := by
  refine h (fun _ _ _ _ _ _ e => ∀ en dv p q, (e en (dv, p)).1 = (e en (dv, q)).1 ∧ (e en (dv, p)).2.1 = (e en (dv, q)).2.1) ⟨fun _ _ _ _ _ _ _ _ _ _ _ _ _ => ⟨rfl, rfl⟩, fun _ _ _ _ _ _ _ _ _ => ⟨rfl, rfl⟩, fun _ _ _ _ _ _ _ _ h _ => h, fun _ _ _ _ _ _ h => h, fun _ _ _ _ _ _ _ _ _ h1 _ h2 _ en => evO_ind2 (h1 en) (h2 en), fun _ _ _ _ _ _ h => h, fun _ _ _ _ _ _ _ _ _ h1 _ h2 _ en => evO_ind2 (h1 en) (h2 en)⟩
def eDv (e : nEv) : Prop := ∀ en fl, fl.1 ≤ 1 → (e en fl).2.1 ≤ 1 ∧ (fl.1 = 1 → (e en fl).2.1 = 1)
theorem evO_dv {c : Nat} {e f : nEv} (he : eDv e) (hf : eDv f) : eDv (evO c e f) := by
  intro en fl h
  have h1 := he en fl h
  have h2 := hf en (e en fl).2 h1.1
  refine ⟨?_, fun hz => ?_⟩
  · show (if c = 47 ∧ _ then 1 else _) ≤ 1
    split
    · exact Nat.le_refl _
    · exact h2.1
  · show (if c = 47 ∧ _ then 1 else _) = 1
    split
    · rfl
    · exact h2.2 (h1.2 hz)
theorem cE_dv {tx mk : Nat → Nat} {m o a u b v : Nat} {e : nEv} (h : cE tx mk m o a u b v e) : eDv e := by
  refine h (fun _ _ _ _ _ _ e => eDv e) ⟨fun _ _ _ _ _ _ _ _ _ _ _ h => ⟨h, fun z => z⟩, fun _ _ _ _ _ _ _ h => ⟨h, fun z => z⟩, fun _ _ _ _ _ _ _ _ h _ => h, fun _ _ _ _ _ _ h => h, fun _ _ _ _ _ _ _ _ _ h1 _ h2 _ => evO_dv h1 h2, fun _ _ _ _ _ _ h => h, fun _ _ _ _ _ _ _ _ _ h1 _ h2 _ => evO_dv h1 h2⟩
/-- no row begins or ends from a to b -/
def nBr (tx : Nat → Nat) (a b : Nat) : Prop := a ≤ b ∧ ∀ i, a ≤ i → i < b → tx i ≠ 91 ∧ tx i ≠ 93 ∧ tx i ≠ 0
theorem nBr_1 {tx : Nat → Nat} {a : Nat} (h : tx a ≠ 91 ∧ tx a ≠ 93 ∧ tx a ≠ 0) : nBr tx a (a + 1) := ⟨by omega, fun i h1 h2 => by rw [show i = a by omega]; exact h⟩
theorem nBr_tr {tx : Nat → Nat} {a b c : Nat} (h1 : nBr tx a b) (h2 : nBr tx b c) : nBr tx a c := ⟨Nat.le_trans h1.1 h2.1, fun i h3 h4 => by
  by_cases h : i < b
  · exact h1.2 i h3 h
  · exact h2.2 i (by omega) h4⟩
theorem cE_nb {tx mk : Nat → Nat} {m o a u b v : Nat} {e : nEv} (h : cE tx mk m o a u b v e) : nBr tx a b := by
  refine h (fun _ _ a _ b _ _ => nBr tx a b) ⟨fun o a u k h1 h2 h3 h4 h5 => ⟨by omega, fun i hi hi2 => ?_⟩, fun o a u h1 h2 => nBr_1 ?_, fun o a u b v e h1 h2 h3 h4 => ?_, fun _ _ _ _ _ _ h => h, fun o a u b v e c w f h1 h2 h3 h4 => ?_, fun _ _ _ _ _ _ h => h, fun o a u b v e c w f h1 h2 h3 h4 => ?_⟩
  · have := h3 (i - a) (by omega)
    rw [show a + (i - a) = i by omega] at this
    unfold cDig at this
    omega
  · unfold cVal at h1
    omega
  · exact nBr_tr (nBr_1 (by omega)) (nBr_tr h3 (nBr_1 (by omega)))
  · exact nBr_tr h1 (nBr_tr (nBr_1 (by unfold cTim at h2; omega)) h3)
  · exact nBr_tr h1 (nBr_tr (nBr_1 (by unfold cPlu at h2; omega)) h3)
/-! the layers' acts -/
def nLe (t : nD) : Prop := ∀ k, k < t.2.1 → t.2.2 k 0 ≤ t.1 9
def nAct (t : nD) : Prop := (∀ k, k < t.2.1 → t.2.2 k 0 < t.1 9) ∧ t.1 11 ≤ 1
theorem nAct_le {t : nD} (h : nAct t) : nLe t := fun k hk => Nat.le_of_lt (h.1 k hk)
theorem nLe_lay {t : nD} {lo ce ro si : Nat} (h : nLe t) : nLe (nLay t lo ce ro si) := by
  intro k hk
  show (if k = t.2.1 then nRec (t.1 9) lo (t.1 6) (t.1 4) ce ro si else t.2.2 k) 0 ≤ t.1 9
  split
  · exact Nat.le_refl _
  · exact h k (by have : k < t.2.1 + 1 := hk; omega)
theorem nLe_wind {w : Nat} : ∀ k {t : nD}, nLe t → nLe (nWind w k t)
  | 0, _, h => h
  | k + 1, t, h => nLe_wind k (t := nWind1 w t) (nLe_lay (lo := t.1 5) (ce := w) (ro := t.1 3) (si := t.1 8) h)
theorem nLe_pleat {w : Nat} : ∀ k {t : nD}, nLe t → nLe (nPleat w k t)
  | 0, _, h => h
  | k + 1, t, h => nLe_pleat k (t := nPleat1 w t) (nLe_lay (nLe_lay h))
theorem nLe_hang : ∀ j k r {t : nD}, nLe t → nLe (nHang j k r t).2
  | 0, _, _, _, h => h
  | j + 1, k, r, t, h => nLe_hang j (k + 1) (r - min r 5) (nLe_lay h)
theorem nAct_acted {t : nD} (h : nLe t) (h11 : t.1 11 ≤ 1) : nAct (nActed t) := ⟨fun k hk => Nat.lt_succ_of_le (h k hk), h11⟩
theorem aWind_ac {g : Nat → Nat} {t : nD} {x : Int32} (h : nAct t) : nAct (aWind g t x).2 := by
  unfold aWind; split; exact h; split; exact h; split; exact h
  exact nAct_acted (nLe_wind _ (nAct_le h)) (by rw [nWind_rg (by decide)]; exact h.2)
theorem aPleat_ac {t : nD} {x y : Int32} (h : nAct t) : nAct (aPleat t x y).2 := by
  unfold aPleat; split; exact h; split; exact h; split; exact h
  exact nAct_acted (nLe_pleat _ (nAct_le h)) (by rw [nPleat_rg (by decide)]; exact h.2)
theorem aUp_ac {t : nD} {x : Int32} (h : nAct t) : nAct (aUp t x).2 := by
  unfold aUp; split; exact h; split; exact h; split; exact h
  exact nAct_acted (fun k hk => Nat.le_of_lt (h.1 k hk)) h.2
theorem aDown_ac {t : nD} {x : Int32} (h : nAct t) : nAct (aDown t x).2 := by
  unfold aDown; split; exact h; split; exact h; split; exact h
  exact nAct_acted (fun k hk => Nat.le_of_lt (h.1 k hk)) h.2
theorem aCross_ac {g : Nat → Nat} {t : nD} (h : nAct t) : nAct (aCross g t).2 := by
  unfold aCross; split; exact h; split; exact h
  exact nAct_acted (fun k hk => Nat.le_of_lt (h.1 k hk)) h.2
theorem aHang_ac {t : nD} {x : Int32} (h : nAct t) : nAct (aHang t x).2 := by
  unfold aHang; split; exact h; split; exact h; split; exact h
  refine nAct_acted (fun k hk => ?_) (Nat.le_refl 1)
  exact nLe_hang _ _ _ (nAct_le h) k hk
theorem aTuck_ac {t : nD} (h : nAct t) : nAct (aTuck t).2 := by
  unfold aTuck
  split
  · exact h
  · refine ⟨fun k hk => ?_, h.2⟩
    show (if k = t.2.1 - 1 then nU (t.2.2 k) 7 (t.2.2 k 7 + 1) else t.2.2 k) 0 < t.1 9
    have := h.1 k hk
    split
    · exact this
    · exact this
theorem rPlain_ac {c : Nat} {g : Nat → Nat} {t : nD} (h : nAct t) : nAct (rPlain c g t).2 := by
  unfold rPlain; split; exact aTuck_ac h; split; exact h; split; exact h; exact aCross_ac h
theorem rNum_ac {c : Nat} {g : Nat → Nat} {t : nD} {v : Int32} (h : nAct t) : nAct (rNum c g t v).2 := by
  unfold rNum; split; exact aWind_ac h; split; exact aUp_ac h; split; exact aDown_ac h; exact aHang_ac h
def dKeepA (D : nDn) : Prop := ∀ g s, nAct s.2.2.2 → nAct (D g s).2.2.2
theorem fin_ac {r : Nat × nD} {s : nS} (h : nAct s.2.2.2) (hr : nAct r.2) : nAct (fin r s).2.2.2 := by
  unfold fin; split; exact hr; exact h
theorem dE_ac {g : Nat → Nat} {e : nEv} {k : Int32 → nS → nS} {s : nS} (h : nAct s.2.2.2) (hk : ∀ v s', nAct s'.2.2.2 → nAct (k v s').2.2.2) : nAct (dE g e k s).2.2.2 := by
  unfold dE; split; exact hk _ _ h; exact h
theorem dStep_ac {D : nDn} (h : dKeepA D) : dKeepA (dStep D) := by
  intro g s hs; unfold dStep; split; exact hs; exact h g s hs
theorem dRep_ac {D : nDn} (hD : dKeepA D) {g : Nat → Nat} : ∀ k {s : nS}, nAct s.2.2.2 → nAct (dRep (D g) k s).2.2.2
  | 0, _, h => h
  | k + 1, s, h => by
    rw [dRep]
    split
    · exact dRep_ac hD k (hD g s h)
    · exact hD g s h
theorem dSeq_ac {D E : nDn} (hD : dKeepA D) (hE : dKeepA E) : dKeepA (dSeq D E) := by
  intro g s h; unfold dSeq; split; exact hE g _ (hD g s h); exact hD g s h
theorem cS_ac {tx mk : Nat → Nat} {m r a u b v : Nat} {D : nDn} (h : cS tx mk m r a u b v D) : dKeepA D :=
  h (fun _ _ _ _ _ _ D => dKeepA D) ⟨fun _ _ _ _ _ _ => dStep_ac (fun g s hs => by rw [dPlain_eq]; exact fin_ac hs (rPlain_ac hs)), fun _ _ _ _ _ _ _ _ _ _ => dStep_ac (fun g s hs => dE_ac hs (fun v s' hs' => fin_ac hs' (rNum_ac hs'))), fun _ _ _ _ _ _ _ _ _ _ _ _ _ _ _ => dStep_ac (fun g s hs => dE_ac hs (fun v s' hs' => dE_ac hs' (fun v s' hs' => fin_ac hs' (aPleat_ac hs')))), fun _ _ _ _ _ _ _ _ _ _ _ => dStep_ac (fun g s hs => dE_ac hs (fun v s' hs' => hs')), fun _ _ _ _ _ _ _ _ _ _ _ _ _ _ _ _ h _ _ => dStep_ac (fun g s hs => dE_ac hs (fun v s' hs' => by
    show nAct (if _ then _ else _ : nS).2.2.2
    split
    · exact dRep_ac h _ hs'
    · exact hs')), fun _ _ _ _ _ _ h => h, fun _ _ _ _ _ _ _ _ _ h1 _ h2 => dSeq_ac h1 h2⟩
/-! did it hang -/
theorem rPlain_h {c : Nat} {g : Nat → Nat} {t : nD} : (rPlain c g t).2.1 11 = t.1 11 := by
  unfold rPlain; split
  · unfold aTuck; split <;> rfl
  · split; rfl; split; rfl; unfold aCross; split; rfl; split <;> rfl
theorem aPleat_h {t : nD} {x y : Int32} : (aPleat t x y).2.1 11 = t.1 11 := by
  unfold aPleat; split; rfl; split; rfl; split; rfl
  show (nPleat _ _ t).1 11 = _
  rw [nPleat_rg (by decide)]
theorem rNum_h {c : Nat} {g : Nat → Nat} {t : nD} {v : Int32} (h : (rNum c g t v).1 = 0) (hc : cAct c) : (rNum c g t v).2.1 11 = if c = 104 then 1 else t.1 11 := by
  unfold rNum at h ⊢
  split at h
  · rename_i q; subst q
    rw [if_pos rfl, if_neg (by decide)]
    unfold aWind; split; rfl; split; rfl; split; rfl
    show (nWind _ _ t).1 11 = _
    rw [nWind_rg (by decide)]
  · split at h
    · rename_i q; subst q
      rw [if_neg (by decide), if_pos rfl, if_neg (by decide)]
      unfold aUp; split; rfl; split; rfl; split <;> rfl
    · split at h
      · rename_i q; subst q
        rw [if_neg (by decide), if_neg (by decide), if_pos rfl, if_neg (by decide)]
        unfold aDown; split; rfl; split; rfl; split <;> rfl
      · rename_i q1 q2 q3
        rw [if_neg q1, if_neg q2, if_neg q3, if_pos (by unfold cAct at hc; omega)]
        unfold aHang at h ⊢
        split at h
        · exact absurd (show (_ : Nat) = 0 from h) (by simp)
        · split at h
          · exact absurd (show (_ : Nat) = 0 from h) (by simp)
          · split at h
            · exact absurd (show (_ : Nat) = 0 from h) (by simp)
            · rename_i h1 h2 h3
              rw [if_neg h1, if_neg h2, if_neg h3]
              rfl
