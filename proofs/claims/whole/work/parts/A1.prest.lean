/-! What holds of every drape, a broken one too. -/
def nTot (ly : Nat → Nat → Nat) (n : Nat) : Nat := nSum (fun k => ly k 7) n
def nBb (t : nD) : Prop := nSrt t.2.2 t.2.1 ∧ nLe t ∧ (∀ k, k < t.2.1 → t.2.2 k 5 ≤ 4) ∧ t.1 3 ≤ 4 ∧ t.1 10 = nTot t.2.2 t.2.1
theorem nSum_c {f f' : Nat → Nat} : ∀ n, (∀ k, k < n → f k = f' k) → nSum f n = nSum f' n
  | 0, _ => rfl
  | n + 1, h => by rw [nSum, nSum, nSum_c n (fun k hk => h k (by omega)), h n (by omega)]
theorem nBb_lay {t : nD} {lo ce ro si : Nat} (h : nBb t) (hr : ro ≤ 4) : nBb (nLay t lo ce ro si) := by
  obtain ⟨h1, h2, h3, h4, h5⟩ := h
  have hl : ∀ k, (nLay t lo ce ro si).2.2 k = if k = t.2.1 then nRec (t.1 9) lo (t.1 6) (t.1 4) ce ro si else t.2.2 k := fun _ => rfl
  refine ⟨fun i j hij hj => ?_, nLe_lay h2, fun k hk => ?_, h4, ?_⟩
  · have hj : j < t.2.1 + 1 := hj
    rw [hl, hl]
    by_cases h6 : j = t.2.1
    · rw [if_pos h6]
      by_cases h7 : i = t.2.1
      · rw [if_pos h7]; exact Nat.le_refl _
      · rw [if_neg h7]
        exact h2 i (by omega)
    · rw [if_neg h6, if_neg (by omega)]
      exact h1 i j hij (by omega)
  · have hk : k < t.2.1 + 1 := hk
    rw [hl]
    split
    · exact hr
    · exact h3 k (by omega)
  · show t.1 10 = nTot _ (t.2.1 + 1)
    unfold nTot
    rw [nSum, hl, if_pos rfl, h5]
    unfold nTot
    rw [nSum_c t.2.1 (f := fun k => (nLay t lo ce ro si).2.2 k 7) (f' := fun k => t.2.2 k 7) (fun k hk => by
      show (nLay t lo ce ro si).2.2 k 7 = t.2.2 k 7
      rw [hl, if_neg (by omega)])]
    rfl
theorem nBb_wind {w : Nat} : ∀ k {t : nD}, nBb t → nBb (nWind w k t)
  | 0, _, h => h
  | k + 1, t, h => nBb_wind k (t := nWind1 w t) (by
    have h2 := nBb_lay (lo := t.1 5) (ce := w) (ro := t.1 3) (si := t.1 8) h h.2.2.2.1
    exact h2)
theorem nBb_pleat {w : Nat} : ∀ k {t : nD}, nBb t → nBb (nPleat w k t)
  | 0, _, h => h
  | k + 1, t, h => nBb_pleat k (t := nPleat1 w t) (nBb_lay (nBb_lay h h.2.2.2.1) h.2.2.2.1)
theorem nBb_hang : ∀ j k r {t : nD}, nBb t → nBb (nHang j k r t).2
  | 0, _, _, _, h => h
  | j + 1, k, r, t, h => nBb_hang j (k + 1) (r - min r 5) (nBb_lay h (by decide))
theorem nBb_acted {t : nD} (h : nBb t) : nBb (nActed t) := ⟨h.1, fun k hk => Nat.le_succ_of_le (h.2.1 k hk), h.2.2⟩
theorem aWind_B {g : Nat → Nat} {t : nD} {x : Int32} (h : nBb t) : nBb (aWind g t x).2 := by
  unfold aWind; split; exact h; split; exact h; split; exact h
  exact nBb_acted (nBb_wind _ h)
theorem aPleat_B {t : nD} {x y : Int32} (h : nBb t) : nBb (aPleat t x y).2 := by
  unfold aPleat; split; exact h; split; exact h; split; exact h
  exact nBb_acted (nBb_pleat _ h)
theorem aUp_B {t : nD} {x : Int32} (h : nBb t) : nBb (aUp t x).2 := by
  unfold aUp; split; exact h; split; exact h; split; exact h
  exact nBb_acted (t := nWaste x.toInt.toNat (nU t.1 5 (t.1 5 + x.toInt.toNat), t.2)) h
theorem aDown_B {t : nD} {x : Int32} (h : nBb t) : nBb (aDown t x).2 := by
  unfold aDown; split; exact h; split; exact h; split; exact h
  exact nBb_acted (t := nWaste x.toInt.toNat (nU t.1 5 (t.1 5 - x.toInt.toNat), t.2)) h
theorem aCross_B {g : Nat → Nat} {t : nD} (h : nBb t) : nBb (aCross g t).2 := by
  unfold aCross; split; exact h; split; exact h
  exact nBb_acted (t := nWaste (2 * g 7) (nU t.1 6 ((t.1 6 + 4) % 8), t.2)) h
theorem aHang_B {t : nD} {x : Int32} (h : nBb t) : nBb (aHang t x).2 := by
  unfold aHang; split; exact h; split; exact h; split; exact h
  have h2 := nBb_hang (min ((x.toInt.toNat + 4) / 5) (t.1 5)) 0 x.toInt.toNat h
  exact nBb_acted (t := (nU (nU (nWaste (nHang (min ((x.toInt.toNat + 4) / 5) (t.1 5)) 0 x.toInt.toNat t).1 (nHang (min ((x.toInt.toNat + 4) / 5) (t.1 5)) 0 x.toInt.toNat t).2).1 11 1) 12 (t.1 5 + 1 - (x.toInt.toNat + 4) / 5), (nHang (min ((x.toInt.toNat + 4) / 5) (t.1 5)) 0 x.toInt.toNat t).2.2)) h2
theorem aTuck_B {t : nD} (h : nBb t) : nBb (aTuck t).2 := by
  unfold aTuck
  by_cases h0 : t.2.1 = 0
  · rw [if_pos h0]; exact h
  · rw [if_neg h0]
    obtain ⟨h1, h2, h3, h4, h5⟩ := h
    have hq : ∀ k f, f ≠ 7 → (if k = t.2.1 - 1 then nU (t.2.2 k) 7 (t.2.2 k 7 + 1) else t.2.2 k) f = t.2.2 k f := fun k f hf => by
      split
      · show (if f = 7 then _ else t.2.2 k f) = _
        rw [if_neg hf]
      · rfl
    refine ⟨fun i j hij hj => ?_, fun k hk => ?_, fun k hk => ?_, h4, ?_⟩
    · show (if i = t.2.1 - 1 then nU (t.2.2 i) 7 (t.2.2 i 7 + 1) else t.2.2 i) 0 ≤ (if j = t.2.1 - 1 then nU (t.2.2 j) 7 (t.2.2 j 7 + 1) else t.2.2 j) 0
      rw [hq i 0 (by decide), hq j 0 (by decide)]
      exact h1 i j hij hj
    · show (if k = t.2.1 - 1 then nU (t.2.2 k) 7 (t.2.2 k 7 + 1) else t.2.2 k) 0 ≤ t.1 9
      rw [hq k 0 (by decide)]
      exact h2 k hk
    · show (if k = t.2.1 - 1 then nU (t.2.2 k) 7 (t.2.2 k 7 + 1) else t.2.2 k) 5 ≤ 4
      rw [hq k 5 (by decide)]
      exact h3 k hk
    · show t.1 10 + 1 = nTot (fun k => if k = t.2.1 - 1 then nU (t.2.2 k) 7 (t.2.2 k 7 + 1) else t.2.2 k) t.2.1
      rw [h5]
      obtain ⟨m, hm⟩ : ∃ m, t.2.1 = m + 1 := ⟨t.2.1 - 1, by omega⟩
      rw [hm, show m + 1 - 1 = m by omega]
      unfold nTot
      rw [nSum, nSum]
      have e1 : (if m = m then nU (t.2.2 m) 7 (t.2.2 m 7 + 1) else t.2.2 m) 7 = t.2.2 m 7 + 1 := by rw [if_pos rfl]; rfl
      have e2 : nSum (fun k => (if k = m then nU (t.2.2 k) 7 (t.2.2 k 7 + 1) else t.2.2 k) 7) m = nSum (fun k => t.2.2 k 7) m := nSum_c m (fun k hk => by rw [if_neg (by omega)])
      show nSum (fun k => t.2.2 k 7) m + t.2.2 m 7 + 1 = nSum (fun k => (if k = m then nU (t.2.2 k) 7 (t.2.2 k 7 + 1) else t.2.2 k) 7) m + (if m = m then nU (t.2.2 m) 7 (t.2.2 m 7 + 1) else t.2.2 m) 7
      rw [e1, e2]
      omega
theorem rPlain_B {c : Nat} {g : Nat → Nat} {t : nD} (h : nBb t) : nBb (rPlain c g t).2 := by
  unfold rPlain; split; exact aTuck_B h; split; exact h; split; exact h; exact aCross_B h
theorem rNum_B {c : Nat} {g : Nat → Nat} {t : nD} {v : Int32} (h : nBb t) : nBb (rNum c g t v).2 := by
  unfold rNum; split; exact aWind_B h; split; exact aUp_B h; split; exact aDown_B h; exact aHang_B h
/-- of a state, broken or not -/
def nC (s : nS) : Prop := nOk s.2.2.2 ∧ s.2.2.2.1 9 ≤ s.2.1 ∧ s.2.2.2.1 10 ≤ s.2.1 ∧ nPin s.2.2.2 ∧ s.2.1 ≤ 2000 ∧ nBb s.2.2.2
def dKeepC (D : nDn) : Prop := ∀ g s, nC s → nC (D g s)
def dKeepC1 (D : nDn) : Prop := ∀ g s, nC s → s.2.1 < 2000 → nC (D g s)
theorem nC_brk {s : nS} {w : Nat} (h : nC s) : nC (brk w s) := h
theorem fin_C {r : Nat × nD} {s : nS} (hs : nC s) (hst : s.2.1 < 2000) (hi : rInv r s.2.2.2) (hb : nBb r.2) : nC (fin r s) := by
  obtain ⟨h1, h2, h3, h4, h5, h6⟩ := hs
  obtain ⟨i1, i2, i3, i4, i5⟩ := hi
  unfold fin
  split
  · exact ⟨i1, by show r.2.1 9 ≤ s.2.1 + 1; omega, by show r.2.1 10 ≤ s.2.1 + 1; omega, i4, hst, hb⟩
  · exact nC_brk ⟨h1, h2, h3, h4, h5, h6⟩
theorem dE_C {g : Nat → Nat} {e : nEv} {k : Int32 → nS → nS} {s : nS} (hs : nC s) (hst : s.2.1 < 2000) (hk : ∀ v s', nC s' → s'.2.1 < 2000 → nC (k v s')) : nC (dE g e k s) := by
  unfold dE
  split
  · exact hk _ (ask _ s) hs hst
  · exact nC_brk (s := ask _ s) hs
theorem dStep_C {D : nDn} (h : dKeepC1 D) : dKeepC (dStep D) := by
  intro g s hs
  unfold dStep
  split
  · exact nC_brk hs
  · exact h g s hs (by omega)
theorem dRep_C {D : nDn} (hD : dKeepC D) {g : Nat → Nat} : ∀ k {s : nS}, nC s → nC (dRep (D g) k s)
  | 0, _, h => h
  | k + 1, s, h => by
    rw [dRep]
    split
    · exact dRep_C hD k (hD g s h)
    · exact hD g s h
theorem cS_C {tx mk : Nat → Nat} {m r a u b v : Nat} {D : nDn} (h : cS tx mk m r a u b v D) : dKeepC D := by
  refine h (fun _ _ _ _ _ _ D => dKeepC D) ⟨fun _ _ _ _ _ _ => dStep_C (fun g s hs hst => ?_), fun _ _ _ _ _ _ _ _ _ _ => dStep_C (fun g s hs hst => dE_C hs hst (fun v s' hs' hst' => fin_C hs' hst' (rNum_inv hs'.1 hs'.2.2.2.1 (Nat.lt_of_le_of_lt hs'.2.1 hst')) (rNum_B hs'.2.2.2.2.2))), fun _ _ _ _ _ _ _ _ _ _ _ _ _ _ _ => dStep_C (fun g s hs hst => dE_C hs hst (fun v s' hs' hst' => dE_C hs' hst' (fun w s2 hs2 hst2 => fin_C hs2 hst2 (aPleat_inv hs2.1 hs2.2.2.2.1 (Nat.lt_of_le_of_lt hs2.2.1 hst2)) (aPleat_B hs2.2.2.2.2.2)))), fun _ _ _ _ _ _ _ _ _ _ _ => dStep_C (fun g s hs hst => dE_C hs hst (fun v s' hs' hst' => ?_)), fun _ _ _ _ _ _ _ _ _ _ _ _ _ _ _ _ h _ _ => dStep_C (fun g s hs hst => dE_C hs hst (fun v s' hs' hst' => ?_)), fun _ _ _ _ _ _ h => h, fun _ _ _ _ _ _ _ _ _ h1 _ h2 g s hs => ?_⟩
  · rw [dPlain_eq]
    exact fin_C hs hst (rPlain_inv hs.1 hs.2.2.2.1 (Nat.lt_of_le_of_lt hs.2.1 hst) (Nat.lt_of_le_of_lt hs.2.2.1 hst)) (rPlain_B hs.2.2.2.2.2)
  · obtain ⟨h1, h2, h3, h4, h5, h6⟩ := hs'
    exact ⟨h1, Nat.le_succ_of_le h2, Nat.le_succ_of_le h3, h4, hst', h6⟩
  · obtain ⟨h1, h2, h3, h4, h5, h6⟩ := hs'
    split
    · exact dRep_C h _ ⟨h1, Nat.le_succ_of_le h2, Nat.le_succ_of_le h3, h4, hst', h6⟩
    · exact nC_brk ⟨h1, h2, h3, h4, h5, h6⟩
  · unfold dSeq
    split
    · exact h2 g _ (h1 g s hs)
    · exact h1 g s hs
/-- of a drape that is kept -/
def nRs (t : nD) : Prop := nOk t ∧ t.1 9 ≤ 2000 ∧ nSrt t.2.2 t.2.1 ∧ (∀ k, k < t.2.1 → t.2.2 k 0 < t.1 9) ∧ (∀ k, k < t.2.1 → t.2.2 k 5 ≤ 4) ∧ t.1 10 = nTot t.2.2 t.2.1 ∧ t.1 11 ≤ 1 ∧ t.1 10 ≤ 2000
theorem nRs_of {tx mk : Nat → Nat} {m r a u b v : Nat} {D : nDn} (h : cS tx mk m r a u b v D) {g : Nat → Nat} {z : Int32} {len ht : Nat} (h1 : len ≤ 400) (h2 : 1 ≤ ht) (h3 : ht ≤ 4) : nRs (D g (nNm z, 0, 0, nBeg len ht)).2.2.2 := by
  have hi := nInv_beg (z := z) h1 h2 h3
  have hC : nC (nNm z, 0, 0, nBeg len ht) := ⟨hi.1, hi.2.1, hi.2.2.1, hi.2.2.2.1, hi.2.2.2.2.1, fun i j _ hj => absurd hj (Nat.not_lt_zero j), fun k hk => absurd hk (Nat.not_lt_zero k), fun k hk => absurd hk (Nat.not_lt_zero k), h3, rfl⟩
  have hA : nAct (nBeg len ht) := ⟨fun k hk => absurd hk (Nat.not_lt_zero k), Nat.zero_le 1⟩
  obtain ⟨q1, q2, q3, q4, q5, q6⟩ := cS_C h g _ hC
  obtain ⟨a1, a2⟩ := cS_ac h g (nNm z, 0, 0, nBeg len ht) hA
  exact ⟨q1, by omega, q6.1, a1, q6.2.2.1, q6.2.2.2.2, a2, by omega⟩
/-- the pins act by act are the pins layer by layer -/
theorem nSum_ps {ly : Nat → Nat → Nat} {A : Nat} : ∀ n, (∀ k, k < n → ly k 0 < A) → nSum (fun a => nPs ly a n) A = nTot ly n
  | 0, _ => by
    have : ∀ A, nSum (fun a => nPs ly a 0) A = 0 := by
      intro A
      induction A with
      | zero => rfl
      | succ A ih => rw [nSum, ih]; rfl
    exact this A
  | n + 1, h => by
    have ih := nSum_ps n (fun k hk => h k (by omega))
    have hn := h n (by omega)
    have key : ∀ B, nSum (fun a => nPs ly a (n + 1)) B = nSum (fun a => nPs ly a n) B + if ly n 0 < B then ly n 7 else 0 := by
      intro B
      induction B with
      | zero => rfl
      | succ B ihB =>
        rw [nSum, nSum, ihB]
        show _ + (nPs ly B n + if ly n 0 = B then ly n 7 else 0) = _
        by_cases h1 : ly n 0 = B
        · rw [if_pos h1, if_neg (by omega), if_pos (by omega)]; omega
        · rw [if_neg h1]
          by_cases h2 : ly n 0 < B
          · rw [if_pos h2, if_pos (by omega)]; omega
          · rw [if_neg h2, if_neg (by omega)]; omega
    rw [key A, ih, if_pos hn]
    rfl
