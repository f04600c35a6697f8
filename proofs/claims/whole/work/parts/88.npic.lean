/-! The eleven acts of pictures, neutral. -/
def secIt (w s : Nat) : Nat → Nat
  | 0 => s
  | k + 1 => if w = 0 then (secIt w s k + 1) % 8 else (secIt w s k + 7) % 8
def cn (rg : Nat → Nat) : Nat → Nat := fun q => if 2 ≤ q ∧ q ≤ 8 then rg q else 0
def pOk (g : Nat → Nat) (a : Nat) (rg : Nat → Nat) : Bool :=
  if a < 4 then decide (2 ^ a * nWide g (rg 5) (rg 3) ≤ rg 2 - rg 4)
  else if a = 4 then decide (8 ≤ rg 2 - rg 4)
  else if a = 5 then decide (rg 5 + 1 + rg 3 ≤ 8 ∧ 1 ≤ rg 2 - rg 4)
  else if a = 6 then decide (1 ≤ rg 5 ∧ 1 ≤ rg 2 - rg 4)
  else if a = 7 then true
  else if a = 8 then true
  else if a = 9 then decide (rg 5 + rg 3 = 8 ∧ 2 * g 7 ≤ rg 2 - rg 4)
  else decide (9 ≤ rg 2 - rg 4)
def pRg (g : Nat → Nat) (a : Nat) (rg : Nat → Nat) : Nat → Nat :=
  if a < 4 then nU (nU rg 4 (rg 4 + 2 ^ a * nWide g (rg 5) (rg 3))) 6 (secIt (rg 7) (rg 6) (2 ^ a))
  else if a = 4 then nU rg 4 (rg 4 + 8)
  else if a = 5 then nU (nU rg 5 (rg 5 + 1)) 4 (rg 4 + 1)
  else if a = 6 then nU (nU rg 5 (rg 5 - 1)) 4 (rg 4 + 1)
  else if a = 7 then nU rg 7 (1 - rg 7)
  else if a = 8 then nU rg 8 (1 - rg 8)
  else if a = 9 then nU (nU rg 6 ((rg 6 + 4) % 8)) 4 (rg 4 + 2 * g 7)
  else nU rg 4 (rg 4 + 9)
def pN (a : Nat) (rg : Nat → Nat) : Nat := if a < 4 then 2 ^ a else if a = 4 then 4 else if a < 10 then 0 else min 2 (rg 5)
def pL (g : Nat → Nat) (a : Nat) (rg : Nat → Nat) (i : Nat) : Nat → Nat :=
  if a < 4 then nRec 0 (rg 5) (secIt (rg 7) (rg 6) i) (rg 4 + i * nWide g (rg 5) (rg 3)) (nWide g (rg 5) (rg 3)) (rg 3) (rg 8)
  else if a = 4 then nRec 0 (rg 5) (rg 6) (rg 4 + 2 * i) 2 (rg 3) (if i % 2 = 0 then 1 - rg 8 else rg 8)
  else nRec 0 (rg 5 - 1 - i) (rg 6) (rg 4 + 5 * i) (if i = 0 then 5 else 4) 1 (rg 8)
/-- the drape t2 is t after the act a -/
def pDid (g : Nat → Nat) (a : Nat) (t t2 : nD) : Prop :=
  cn t2.1 = cn (pRg g a t.1) ∧ t2.2.1 = t.2.1 + pN a t.1 ∧ t2.1 9 ≤ t.1 9 + 1 ∧ (∀ k, k < t.2.1 → t2.2.2 k = t.2.2 k) ∧ ∀ i, i < pN a t.1 → ∀ f, f = 1 ∨ f = 2 ∨ f = 3 ∨ f = 5 ∨ f = 6 → t2.2.2 (t.2.1 + i) f = pL g a t.1 i f
theorem nWind_ex {w : Nat} : ∀ k (t : nD), (nWind w k t).1 4 = t.1 4 + k * w ∧ (nWind w k t).1 6 = secIt (t.1 7) (t.1 6) k ∧ (nWind w k t).2.1 = t.2.1 + k ∧ (∀ j, j < t.2.1 → (nWind w k t).2.2 j = t.2.2 j) ∧ ∀ i, i < k → (nWind w k t).2.2 (t.2.1 + i) = nRec (t.1 9) (t.1 5) (secIt (t.1 7) (t.1 6) i) (t.1 4 + i * w) w (t.1 3) (t.1 8)
  | 0, t => ⟨by simp [nWind], rfl, rfl, fun _ _ => rfl, fun i hi => absurd hi (Nat.not_lt_zero i)⟩
  | k + 1, t => by
    obtain ⟨h1, h2, h3, h4, h5⟩ := nWind_ex (w := w) k (nWind1 w t)
    have hs : ∀ k, secIt (t.1 7) (if t.1 7 = 0 then (t.1 6 + 1) % 8 else (t.1 6 + 7) % 8) k = secIt (t.1 7) (t.1 6) (k + 1) := by
      intro k
      induction k with
      | zero => rfl
      | succ k ih => rw [secIt, ih]; rfl
    have r4 : (nWind1 w t).1 4 = t.1 4 + w := rfl
    have r6 : (nWind1 w t).1 6 = if t.1 7 = 0 then (t.1 6 + 1) % 8 else (t.1 6 + 7) % 8 := rfl
    have r7 : (nWind1 w t).1 7 = t.1 7 := rfl
    have r9 : (nWind1 w t).1 9 = t.1 9 := rfl
    have r5 : (nWind1 w t).1 5 = t.1 5 := rfl
    have r3 : (nWind1 w t).1 3 = t.1 3 := rfl
    have r8 : (nWind1 w t).1 8 = t.1 8 := rfl
    have rn : (nWind1 w t).2.1 = t.2.1 + 1 := rfl
    have rl : ∀ j, (nWind1 w t).2.2 j = if j = t.2.1 then nRec (t.1 9) (t.1 5) (t.1 6) (t.1 4) w (t.1 3) (t.1 8) else t.2.2 j := fun j => rfl
    rw [nWind_s]
    refine ⟨?_, ?_, ?_, fun j hj => ?_, fun i hi => ?_⟩
    · rw [h1, r4, Nat.succ_mul k w]; omega
    · rw [h2, r7, r6, hs]
    · rw [h3, rn]; omega
    · rw [h4 j (by rw [rn]; omega), rl, if_neg (by omega)]
    · cases i with
      | zero =>
        rw [h4 _ (by rw [rn]; omega), rl, if_pos (by omega)]
        simp only [Nat.zero_mul, Nat.add_zero, secIt]
      | succ i =>
        have := h5 i (by omega)
        rw [rn, r9, r5, r7, r6, hs, r4, r3, r8] at this
        rw [show t.2.1 + (i + 1) = t.2.1 + 1 + i by omega, this, show t.1 4 + w + i * w = t.1 4 + (i + 1) * w by rw [Nat.succ_mul i w]; omega]
theorem cn_ext {a b : Nat → Nat} (h2 : a 2 = b 2) (h3 : a 3 = b 3) (h4 : a 4 = b 4) (h5 : a 5 = b 5) (h6 : a 6 = b 6) (h7 : a 7 = b 7) (h8 : a 8 = b 8) : cn a = cn b := by
  funext q
  unfold cn
  split
  · rename_i h
    have : q = 2 ∨ q = 3 ∨ q = 4 ∨ q = 5 ∨ q = 6 ∨ q = 7 ∨ q = 8 := by omega
    rcases this with rfl | rfl | rfl | rfl | rfl | rfl | rfl <;> assumption
  · rfl
theorem cn_q {a b : Nat → Nat} (h : cn a = cn b) {q : Nat} (h1 : 2 ≤ q) (h2 : q ≤ 8) : a q = b q := by
  have := congrFun h q
  unfold cn at this
  rwa [if_pos ⟨h1, h2⟩, if_pos ⟨h1, h2⟩] at this
theorem aWind_did {g : Nat → Nat} {a : Nat} (ha : a < 4) {t : nD} (hn : t.2.1 ≤ 380) : (pOk g a t.1 = true → (aWind g t (nI (2 ^ a))).1 = 0 ∧ pDid g a t (aWind g t (nI (2 ^ a))).2) ∧ (pOk g a t.1 = false → (aWind g t (nI (2 ^ a))).1 ≠ 0) := by
  have h8 : 2 ^ a ≤ 8 := by
    have : a = 0 ∨ a = 1 ∨ a = 2 ∨ a = 3 := by omega
    rcases this with rfl | rfl | rfl | rfl <;> decide
  have t0 := nI_ti (show 2 ^ a ≤ 2000 by omega)
  have hnm : isNm (nI (2 ^ a)) := by unfold isNm; rw [t0]; exact ⟨Int.natCast_nonneg _, Int.ofNat_le.mpr (show 2 ^ a ≤ 200 by omega)⟩
  have hp : pOk g a t.1 = decide (2 ^ a * nWide g (t.1 5) (t.1 3) ≤ t.1 2 - t.1 4) := by unfold pOk; rw [if_pos ha]
  rw [hp]
  unfold aWind
  rw [if_neg (by simpa using hnm), t0]
  simp only [Int.toNat_natCast]
  refine ⟨fun h => ?_, fun h => ?_⟩
  · have h := of_decide_eq_true h
    rw [if_neg (by omega), if_neg (by omega)]
    obtain ⟨e1, e2, e3, e4, e5⟩ := nWind_ex (w := nWide g (t.1 5) (t.1 3)) (2 ^ a) t
    refine ⟨rfl, ?_, ?_, ?_, e4, ?_⟩
    · have hr := fun (q : Nat) (hq : q ≠ 4 ∧ q ≠ 6) => nWind_rg (w := nWide g (t.1 5) (t.1 3)) hq (2 ^ a) t
      unfold pRg
      rw [if_pos ha]
      refine cn_ext ?_ ?_ ?_ ?_ ?_ ?_ ?_
      · exact hr 2 (by decide)
      · exact hr 3 (by decide)
      · exact e1
      · exact hr 5 (by decide)
      · exact e2
      · exact hr 7 (by decide)
      · exact hr 8 (by decide)
    · unfold pN; rw [if_pos ha]; exact e3
    · show (nWind _ _ t).1 9 + 1 ≤ _
      rw [nWind_rg (by decide)]; exact Nat.le_refl _
    · intro i hi f hf
      unfold pN at hi; rw [if_pos ha] at hi
      unfold pL; rw [if_pos ha]
      show (nWind _ _ t).2.2 (t.2.1 + i) f = _
      rw [e5 i hi]
      rcases hf with rfl | rfl | rfl | rfl | rfl <;> rfl
  · have h := of_decide_eq_false h
    rw [if_pos (by omega)]
    simp
theorem aPleat_did {g : Nat → Nat} {t : nD} (hn : t.2.1 ≤ 380) : (pOk g 4 t.1 = true → (aPleat t 2 2).1 = 0 ∧ pDid g 4 t (aPleat t 2 2).2) ∧ (pOk g 4 t.1 = false → (aPleat t 2 2).1 ≠ 0) := by
  have t2 : (2 : Int32).toInt = 2 := by decide
  have hp : pOk g 4 t.1 = decide (8 ≤ t.1 2 - t.1 4) := rfl
  rw [hp]
  unfold aPleat
  rw [if_neg (by decide), t2]
  refine ⟨fun h => ?_, fun h => ?_⟩
  · have h := of_decide_eq_true h
    rw [if_neg (by show ¬ t.1 2 - t.1 4 < 8; omega), if_neg (by show ¬ 400 < t.2.1 + 4; omega)]
    refine ⟨rfl, ?_, rfl, ?_, fun k hk => ?_, ?_⟩
    · refine cn_ext rfl rfl ?_ rfl rfl rfl rfl
      show t.1 4 + 2 + 2 + 2 + 2 = t.1 4 + 8
      omega
    · exact Nat.le_refl _
    · show (if k = t.2.1 + 1 + 1 + 1 then _ else if k = t.2.1 + 1 + 1 then _ else if k = t.2.1 + 1 then _ else if k = t.2.1 then _ else t.2.2 k) = t.2.2 k
      rw [if_neg (by omega), if_neg (by omega), if_neg (by omega), if_neg (by omega)]
    · intro i hi f hf
      have hi : i < 4 := hi
      show (if t.2.1 + i = t.2.1 + 1 + 1 + 1 then nRec (t.1 9) (t.1 5) (t.1 6) (t.1 4 + 2 + 2 + 2) 2 (t.1 3) (t.1 8) else if t.2.1 + i = t.2.1 + 1 + 1 then nRec (t.1 9) (t.1 5) (t.1 6) (t.1 4 + 2 + 2) 2 (t.1 3) (1 - t.1 8) else if t.2.1 + i = t.2.1 + 1 then nRec (t.1 9) (t.1 5) (t.1 6) (t.1 4 + 2) 2 (t.1 3) (t.1 8) else if t.2.1 + i = t.2.1 then nRec (t.1 9) (t.1 5) (t.1 6) (t.1 4) 2 (t.1 3) (1 - t.1 8) else t.2.2 (t.2.1 + i)) f = nRec 0 (t.1 5) (t.1 6) (t.1 4 + 2 * i) 2 (t.1 3) (if i % 2 = 0 then 1 - t.1 8 else t.1 8) f
      have : i = 0 ∨ i = 1 ∨ i = 2 ∨ i = 3 := by omega
      rcases this with rfl | rfl | rfl | rfl
      · rw [if_neg (by omega), if_neg (by omega), if_neg (by omega), if_pos (by omega)]
        rcases hf with rfl | rfl | rfl | rfl | rfl <;> rfl
      · rw [if_neg (by omega), if_neg (by omega), if_pos (by omega)]
        rcases hf with rfl | rfl | rfl | rfl | rfl <;> rfl
      · rw [if_neg (by omega), if_pos (by omega)]
        rcases hf with rfl | rfl | rfl | rfl | rfl <;> rfl
      · rw [if_pos (by omega)]
        rcases hf with rfl | rfl | rfl | rfl | rfl <;> rfl
  · have h := of_decide_eq_false h
    rw [if_pos (by show t.1 2 - t.1 4 < 8; omega)]
    simp
theorem aHang_did {g : Nat → Nat} {t : nD} (hn : t.2.1 ≤ 380) : (pOk g 10 t.1 = true → (aHang t 9).1 = 0 ∧ pDid g 10 t (aHang t 9).2) ∧ (pOk g 10 t.1 = false → (aHang t 9).1 ≠ 0) := by
  have t9 : (9 : Int32).toInt = 9 := by decide
  have hp : pOk g 10 t.1 = decide (9 ≤ t.1 2 - t.1 4) := rfl
  rw [hp]
  unfold aHang
  rw [if_neg (by decide), t9]
  refine ⟨fun h => ?_, fun h => ?_⟩
  · have h := of_decide_eq_true h
    rw [if_neg (by show ¬ t.1 2 - t.1 4 < 9; omega), if_neg (by show ¬ 400 < t.2.1 + min 2 (t.1 5); omega)]
    refine ⟨rfl, ?_⟩
    show pDid g 10 t (nActed (nU (nU (nWaste (nHang (min 2 (t.1 5)) 0 9 t).1 (nHang (min 2 (t.1 5)) 0 9 t).2).1 11 1) 12 (t.1 5 + 1 - 2), (nHang (min 2 (t.1 5)) 0 9 t).2.2))
    have : t.1 5 = 0 ∨ t.1 5 = 1 ∨ ∃ m, t.1 5 = m + 2 := by
      rcases Nat.lt_or_ge (t.1 5) 2 with h | h
      · omega
      · exact Or.inr (Or.inr ⟨t.1 5 - 2, by omega⟩)
    rcases this with h5 | h5 | ⟨m, h5⟩
    · have hm : min 2 (t.1 5) = 0 := by omega
      rw [hm]
      refine ⟨cn_ext rfl rfl rfl rfl rfl rfl rfl, ?_, Nat.le_refl _, fun k hk => rfl, fun i hi => ?_⟩
      · show t.2.1 = t.2.1 + min 2 (t.1 5); omega
      · have hi : i < min 2 (t.1 5) := hi
        omega
    · have hm : min 2 (t.1 5) = 1 := by omega
      rw [hm]
      refine ⟨cn_ext rfl rfl rfl rfl rfl rfl rfl, ?_, Nat.le_refl _, fun k hk => ?_, fun i hi f hf => ?_⟩
      · show t.2.1 + 1 = t.2.1 + min 2 (t.1 5); omega
      · show (if k = t.2.1 then _ else t.2.2 k) = _
        rw [if_neg (by omega)]
      · have hi : i < min 2 (t.1 5) := hi
        have hi : i = 0 := by omega
        subst hi
        show (if t.2.1 + 0 = t.2.1 then nRec (t.1 9) (t.1 5 - 1 - 0) (t.1 6) (t.1 4) 5 1 (t.1 8) else _) f = nRec 0 (t.1 5 - 1 - 0) (t.1 6) (t.1 4 + 5 * 0) 5 1 (t.1 8) f
        rw [if_pos (by omega)]
        rcases hf with rfl | rfl | rfl | rfl | rfl <;> rfl
    · have hm : min 2 (t.1 5) = 2 := by omega
      rw [hm]
      refine ⟨cn_ext rfl rfl rfl rfl rfl rfl rfl, ?_, Nat.le_refl _, fun k hk => ?_, fun i hi f hf => ?_⟩
      · show t.2.1 + 1 + 1 = t.2.1 + min 2 (t.1 5); omega
      · show (if k = t.2.1 + 1 then _ else if k = t.2.1 then _ else t.2.2 k) = _
        rw [if_neg (by omega), if_neg (by omega)]
      · have hi : i < min 2 (t.1 5) := hi
        have hi : i = 0 ∨ i = 1 := by omega
        show (if t.2.1 + i = t.2.1 + 1 then nRec (t.1 9) (t.1 5 - 1 - 1) (t.1 6) (t.1 4 + 5) 4 1 (t.1 8) else if t.2.1 + i = t.2.1 then nRec (t.1 9) (t.1 5 - 1 - 0) (t.1 6) (t.1 4) 5 1 (t.1 8) else _) f = nRec 0 (t.1 5 - 1 - i) (t.1 6) (t.1 4 + 5 * i) (if i = 0 then 5 else 4) 1 (t.1 8) f
        rcases hi with rfl | rfl
        · rw [if_neg (by omega), if_pos (by omega)]
          rcases hf with rfl | rfl | rfl | rfl | rfl <;> rfl
        · rw [if_pos (by omega)]
          rcases hf with rfl | rfl | rfl | rfl | rfl <;> rfl
  · have h := of_decide_eq_false h
    rw [if_pos (by show t.1 2 - t.1 4 < 9; omega)]
    simp
theorem aUp_did {g : Nat → Nat} {t : nD} : (pOk g 5 t.1 = true → (aUp t 1).1 = 0 ∧ pDid g 5 t (aUp t 1).2) ∧ (pOk g 5 t.1 = false → (aUp t 1).1 ≠ 0) := by
  have t1 : (1 : Int32).toInt = 1 := by decide
  have hp : pOk g 5 t.1 = decide (t.1 5 + 1 + t.1 3 ≤ 8 ∧ 1 ≤ t.1 2 - t.1 4) := rfl
  rw [hp]
  unfold aUp
  rw [if_neg (by decide), t1]
  refine ⟨fun h => ?_, fun h => ?_⟩
  · have h := of_decide_eq_true h
    rw [if_neg (by show ¬ 8 < t.1 5 + 1 + t.1 3; omega), if_neg (by show ¬ t.1 2 - t.1 4 < 1; omega)]
    exact ⟨rfl, cn_ext rfl rfl rfl rfl rfl rfl rfl, rfl, Nat.le_refl _, fun k hk => rfl, fun i hi => absurd hi (Nat.not_lt_zero i)⟩
  · have h := of_decide_eq_false h
    split
    · simp
    · rw [if_pos (by rename_i h2; have h2 : ¬ 8 < t.1 5 + 1 + t.1 3 := h2; show t.1 2 - t.1 4 < 1; omega)]
      simp
theorem aDown_did {g : Nat → Nat} {t : nD} : (pOk g 6 t.1 = true → (aDown t 1).1 = 0 ∧ pDid g 6 t (aDown t 1).2) ∧ (pOk g 6 t.1 = false → (aDown t 1).1 ≠ 0) := by
  have t1 : (1 : Int32).toInt = 1 := by decide
  have hp : pOk g 6 t.1 = decide (1 ≤ t.1 5 ∧ 1 ≤ t.1 2 - t.1 4) := rfl
  rw [hp]
  unfold aDown
  rw [if_neg (by decide), t1]
  refine ⟨fun h => ?_, fun h => ?_⟩
  · have h := of_decide_eq_true h
    rw [if_neg (by show ¬ t.1 5 < 1; omega), if_neg (by show ¬ t.1 2 - t.1 4 < 1; omega)]
    exact ⟨rfl, cn_ext rfl rfl rfl rfl rfl rfl rfl, rfl, Nat.le_refl _, fun k hk => rfl, fun i hi => absurd hi (Nat.not_lt_zero i)⟩
  · have h := of_decide_eq_false h
    split
    · simp
    · rw [if_pos (by rename_i h2; have h2 : ¬ t.1 5 < 1 := h2; show t.1 2 - t.1 4 < 1; omega)]
      simp
theorem aTurn_did {g : Nat → Nat} {t : nD} : pDid g 7 t (aTurn t) := ⟨cn_ext rfl rfl rfl rfl rfl rfl rfl, rfl, Nat.le_succ _, fun k hk => rfl, fun i hi => absurd hi (Nat.not_lt_zero i)⟩
theorem aFlip_did {g : Nat → Nat} {t : nD} : pDid g 8 t (aFlip t) := ⟨cn_ext rfl rfl rfl rfl rfl rfl rfl, rfl, Nat.le_succ _, fun k hk => rfl, fun i hi => absurd hi (Nat.not_lt_zero i)⟩
theorem aCross_did {g : Nat → Nat} {t : nD} : (pOk g 9 t.1 = true → (aCross g t).1 = 0 ∧ pDid g 9 t (aCross g t).2) ∧ (pOk g 9 t.1 = false → (aCross g t).1 ≠ 0) := by
  have hp : pOk g 9 t.1 = decide (t.1 5 + t.1 3 = 8 ∧ 2 * g 7 ≤ t.1 2 - t.1 4) := rfl
  rw [hp]
  unfold aCross
  refine ⟨fun h => ?_, fun h => ?_⟩
  · have h := of_decide_eq_true h
    rw [if_neg (by simpa using h.1), if_neg (by omega)]
    exact ⟨rfl, cn_ext rfl rfl rfl rfl rfl rfl rfl, rfl, Nat.le_refl _, fun k hk => rfl, fun i hi => absurd hi (Nat.not_lt_zero i)⟩
  · have h := of_decide_eq_false h
    split
    · simp
    · rename_i h2
      rw [if_pos (by omega)]
      simp
