/-! What every style's meaning keeps. -/
theorem cS_keep {tx mk : Nat → Nat} {m r a u b v : Nat} {D : nDn} (h : cS tx mk m r a u b v D) : dKeep D :=
  h (fun _ _ _ _ _ _ D => dKeep D) ⟨fun _ _ _ _ _ _ => dPlain_keep, fun _ _ _ _ _ _ _ _ _ _ => dNum_keep, fun _ _ _ _ _ _ _ _ _ _ _ _ _ _ _ => dPleat_keep, fun _ _ _ _ _ _ _ _ _ _ _ => dName_keep, fun _ _ _ _ _ _ _ _ _ _ _ _ _ _ _ _ h _ _ => dRow_keep h, fun _ _ _ _ _ _ h => h, fun _ _ _ _ _ _ _ _ _ h1 _ h2 => dSeq_keep h1 h2⟩
theorem cE_as {tx mk : Nat → Nat} {m o a u b v : Nat} {e : nEv} (h : cE tx mk m o a u b v e) : ∀ en fl, fl.2 ≤ 1 → (e en fl).2.2 ≤ 1 := by
  refine h (fun _ _ _ _ _ _ e => ∀ en fl, fl.2 ≤ 1 → (e en fl).2.2 ≤ 1) ⟨fun _ _ _ _ _ _ _ _ _ _ _ h => h, fun _ _ _ _ _ en fl h => ?_, fun _ _ _ _ _ _ _ _ h _ => h, fun _ _ _ _ _ _ h => h, fun _ _ _ _ _ _ _ _ _ h1 _ h2 _ en fl h => h2 en _ (h1 en fl h), fun _ _ _ _ _ _ h => h, fun _ _ _ _ _ _ _ _ _ h1 _ h2 _ en fl h => h2 en _ (h1 en fl h)⟩
  unfold evL
  simp only []
  split <;> omega
/-- asked is 0 or 1; why is at most 6 -/
def dBnd (D : nDn) : Prop := ∀ g s, s.2.2.1 ≤ 1 → s.2.2.2.1 14 ≤ 6 → (D g s).2.2.1 ≤ 1 ∧ (D g s).2.2.2.1 14 ≤ 6
theorem fin_bnd {r : Nat × nD} {s : nS} (h1 : s.2.2.1 ≤ 1) (h2 : r.1 ≤ 6) (h3 : r.2.1 14 ≤ 6) : (fin r s).2.2.1 ≤ 1 ∧ (fin r s).2.2.2.1 14 ≤ 6 := by
  unfold fin
  split
  · exact ⟨h1, h3⟩
  · exact ⟨h1, h2⟩
theorem dE_bnd {g : Nat → Nat} {e : nEv} {k : Int32 → nS → nS} {s : nS} (he : ∀ en fl, fl.2 ≤ 1 → (e en fl).2.2 ≤ 1) (h1 : s.2.2.1 ≤ 1) (h2 : s.2.2.2.1 14 ≤ 6) (hk : ∀ v s', s'.2.2.1 ≤ 1 → s'.2.2.2.1 14 ≤ 6 → (k v s').2.2.1 ≤ 1 ∧ (k v s').2.2.2.1 14 ≤ 6) : (dE g e k s).2.2.1 ≤ 1 ∧ (dE g e k s).2.2.2.1 14 ≤ 6 := by
  have ha := he (envOf g s) (0, s.2.2.1) h1
  unfold dE
  split
  · exact hk _ _ ha h2
  · exact ⟨ha, (by decide : 5 ≤ 6)⟩
theorem dStep_bnd {D : nDn} (h : dBnd D) : dBnd (dStep D) := by
  intro g s h1 h2
  unfold dStep
  split
  · exact ⟨h1, (by decide : 6 ≤ 6)⟩
  · exact h g s h1 h2
theorem rg14 {r : Nat × nD} {t : nD} (h : r.2.1 14 = t.1 14) (ht : t.1 14 ≤ 6) : r.2.1 14 ≤ 6 := by omega
theorem aWind_14 {g : Nat → Nat} {t : nD} {x : Int32} : (aWind g t x).2.1 14 = t.1 14 := by
  unfold aWind; split; rfl; split; rfl; split; rfl
  show (nWind _ _ t).1 14 = _
  rw [nWind_rg (by decide)]
theorem aPleat_14 {t : nD} {x y : Int32} : (aPleat t x y).2.1 14 = t.1 14 := by
  unfold aPleat; split; rfl; split; rfl; split; rfl
  show (nPleat _ _ t).1 14 = _
  rw [nPleat_rg (by decide)]
theorem aHang_14 {t : nD} {x : Int32} : (aHang t x).2.1 14 = t.1 14 := by
  unfold aHang; split; rfl; split; rfl; split; rfl
  show (nHang _ _ _ t).2.1 14 = _
  rw [nHang_rg (by decide)]
theorem aUp_14 {t : nD} {x : Int32} : (aUp t x).2.1 14 = t.1 14 := by
  unfold aUp; split; rfl; split; rfl; split; rfl; rfl
theorem aDown_14 {t : nD} {x : Int32} : (aDown t x).2.1 14 = t.1 14 := by
  unfold aDown; split; rfl; split; rfl; split; rfl; rfl
theorem aCross_14 {g : Nat → Nat} {t : nD} : (aCross g t).2.1 14 = t.1 14 := by
  unfold aCross; split; rfl; split; rfl; rfl
theorem aTuck_14 {t : nD} : (aTuck t).2.1 14 = t.1 14 := by
  unfold aTuck; split; rfl; rfl
theorem rPlain_14 {c : Nat} {g : Nat → Nat} {t : nD} : (rPlain c g t).2.1 14 = t.1 14 := by
  unfold rPlain; split; exact aTuck_14; split; rfl; split; rfl; exact aCross_14
theorem rNum_14 {c : Nat} {g : Nat → Nat} {t : nD} {v : Int32} : (rNum c g t v).2.1 14 = t.1 14 := by
  unfold rNum; split; exact aWind_14; split; exact aUp_14; split; exact aDown_14; exact aHang_14
theorem dRep_bnd {D : nS → nS} (h : ∀ s, s.2.2.1 ≤ 1 → s.2.2.2.1 14 ≤ 6 → (D s).2.2.1 ≤ 1 ∧ (D s).2.2.2.1 14 ≤ 6) : ∀ k s, s.2.2.1 ≤ 1 → s.2.2.2.1 14 ≤ 6 → (dRep D k s).2.2.1 ≤ 1 ∧ (dRep D k s).2.2.2.1 14 ≤ 6
  | 0, _, h1, h2 => ⟨h1, h2⟩
  | k + 1, s, h1, h2 => by
    obtain ⟨h3, h4⟩ := h s h1 h2
    rw [dRep]
    split
    · exact dRep_bnd h k _ h3 h4
    · exact ⟨h3, h4⟩
theorem cS_bnd {tx mk : Nat → Nat} {m r a u b v : Nat} {D : nDn} (h : cS tx mk m r a u b v D) : dBnd D := by
  refine h (fun _ _ _ _ _ _ D => dBnd D) ⟨fun _ _ _ _ _ _ => dStep_bnd (fun g s h1 h2 => ?_), fun _ _ _ _ _ e _ _ hX _ => dStep_bnd (fun g s h1 h2 => ?_), fun _ _ _ _ _ _ _ _ _ _ _ hX _ hY _ => dStep_bnd (fun g s h1 h2 => ?_), fun _ _ _ _ _ _ _ _ _ hX _ => dStep_bnd (fun g s h1 h2 => ?_), fun _ _ _ _ _ _ _ _ _ _ _ _ hX _ _ _ h _ _ => dStep_bnd (fun g s h1 h2 => ?_), fun _ _ _ _ _ _ h => h, fun _ _ _ _ _ _ _ _ _ hh1 _ hh2 g s h1 h2 => ?_⟩
  · rw [dPlain_eq]
    exact fin_bnd h1 rPlain_good.2 (rg14 rPlain_14 h2)
  · exact dE_bnd (cE_as hX.1) h1 h2 (fun v s' h3 h4 => fin_bnd h3 rNum_good.2 (rg14 rNum_14 h4))
  · exact dE_bnd (cE_as hX.1) h1 h2 (fun v s' h3 h4 => dE_bnd (cE_as hY.1) h3 h4 (fun w s2 h5 h6 => fin_bnd h5 aPleat_good.2 (rg14 aPleat_14 h6)))
  · exact dE_bnd (cE_as hX.1) h1 h2 (fun v s' h3 h4 => ⟨h3, h4⟩)
  · refine dE_bnd (cE_as hX.1) h1 h2 (fun v s' h3 h4 => ?_)
    split
    · exact dRep_bnd (fun s h5 h6 => h g s h5 h6) _ _ h3 h4
    · exact ⟨h3, (by decide : 4 ≤ 6)⟩
  · obtain ⟨h3, h4⟩ := hh1 g s h1 h2
    unfold dSeq
    split
    · exact hh2 g _ h3 h4
    · exact ⟨h3, h4⟩
