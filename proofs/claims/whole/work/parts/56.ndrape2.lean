/-! The acts, neutral: why it breaks, else 0, and the drape after it. -/
abbrev isNm (x : Int32) : Prop := 0 ≤ x.toInt ∧ x.toInt ≤ 200
def aWind (g : Nat → Nat) (s : nD) (x : Int32) : Nat × nD :=
  if ¬ isNm x then (4, s) else if s.1 2 - s.1 4 < x.toInt.toNat * nWide g (s.1 5) (s.1 3) then (1, s) else if 400 < s.2.1 + x.toInt.toNat then (6, s) else (0, nActed (nWind (nWide g (s.1 5) (s.1 3)) x.toInt.toNat s))
def aPleat (s : nD) (x y : Int32) : Nat × nD :=
  if ¬ (isNm x ∧ isNm y ∧ y ≠ 0) then (4, s) else if s.1 2 - s.1 4 < 2 * x.toInt.toNat * y.toInt.toNat then (1, s) else if 400 < s.2.1 + 2 * x.toInt.toNat then (6, s) else (0, nActed (nPleat y.toInt.toNat x.toInt.toNat s))
def aTuck (s : nD) : Nat × nD :=
  if s.2.1 = 0 then (6, s) else (0, (nU s.1 10 (s.1 10 + 1), s.2.1, fun k => if k = s.2.1 - 1 then nU (s.2.2 k) 7 (s.2.2 k 7 + 1) else s.2.2 k))
def aUp (s : nD) (x : Int32) : Nat × nD :=
  if ¬ isNm x then (4, s) else if 8 < s.1 5 + x.toInt.toNat + s.1 3 then (2, s) else if s.1 2 - s.1 4 < x.toInt.toNat then (1, s) else (0, nActed (nWaste x.toInt.toNat (nU s.1 5 (s.1 5 + x.toInt.toNat), s.2)))
def aDown (s : nD) (x : Int32) : Nat × nD :=
  if ¬ isNm x then (4, s) else if s.1 5 < x.toInt.toNat then (2, s) else if s.1 2 - s.1 4 < x.toInt.toNat then (1, s) else (0, nActed (nWaste x.toInt.toNat (nU s.1 5 (s.1 5 - x.toInt.toNat), s.2)))
def aTurn (s : nD) : nD := (nU s.1 7 (1 - s.1 7), s.2)
def aFlip (s : nD) : nD := (nU s.1 8 (1 - s.1 8), s.2)
def aCross (g : Nat → Nat) (s : nD) : Nat × nD :=
  if s.1 5 + s.1 3 ≠ 8 then (3, s) else if s.1 2 - s.1 4 < 2 * g 7 then (1, s) else (0, nActed (nWaste (2 * g 7) (nU s.1 6 ((s.1 6 + 4) % 8), s.2)))
def aHang (s : nD) (x : Int32) : Nat × nD :=
  if ¬ isNm x then (4, s) else if s.1 2 - s.1 4 < x.toInt.toNat then (1, s) else if 400 < s.2.1 + min ((x.toInt.toNat + 4) / 5) (s.1 5) then (6, s) else
    (0, nActed (nU (nU (nWaste (nHang (min ((x.toInt.toNat + 4) / 5) (s.1 5)) 0 x.toInt.toNat s).1 (nHang (min ((x.toInt.toNat + 4) / 5) (s.1 5)) 0 x.toInt.toNat s).2).1 11 1) 12 (s.1 5 + 1 - (x.toInt.toNat + 4) / 5), (nHang (min ((x.toInt.toNat + 4) / 5) (s.1 5)) 0 x.toInt.toNat s).2.2))
theorem isNm_nI {x : Int32} (h : isNm x) : ∃ n, n ≤ 200 ∧ x = nI n ∧ x.toInt.toNat = n := ⟨x.toInt.toNat, by omega, nI_ofInt h.1, rfl⟩
theorem nOk_acted {s : nD} (h : nOk s) (h9 : s.1 9 < 1000000) : nOk (nActed s) := by
  obtain ⟨h1, h2, h3, h4, h5, h6, h7, h8, h10, h11, h12⟩ := h
  refine ⟨h1, h2, h3, h4, h5, h6, h7, ?_, h10, h11, h12⟩
  show s.1 9 + 1 ≤ 1000000
  omega
theorem nOk_waste {s : nD} {c : Nat} (h : nOk s) (h9 : s.1 4 + c ≤ s.1 2) : nOk (nWaste c s) := by
  obtain ⟨h1, h2, h3, h4, h5, h6, h7, h8, h10, h11, h12⟩ := h
  refine ⟨h1, h2, h9, h4, h5, h6, h7, h8, h10, h11, ?_⟩
  trivial
theorem nTs_lt {rg : Nat → Nat} : nTs rg 6 < 8 := by
  unfold nTs nU; simp only [if_true]; split <;> omega
theorem nTs_ne {rg : Nat → Nat} {q : Nat} (h : q ≠ 6) : nTs rg q = rg q := by
  unfold nTs nU; simp only [h, if_false]
/-- one turn of the winding -/
def nWind1 (w : Nat) (s : nD) : nD := (nTs (nLay s (s.1 5) w (s.1 3) (s.1 8)).1, (nLay s (s.1 5) w (s.1 3) (s.1 8)).2)
def nPleat1 (c : Nat) (s : nD) : nD := nLay (nLay s (s.1 5) c (s.1 3) (1 - s.1 8)) (s.1 5) c (s.1 3) (s.1 8)
theorem nWind_s (w k : Nat) (s : nD) : nWind w (k + 1) s = nWind w k (nWind1 w s) := rfl
theorem nPleat_s (c k : Nat) (s : nD) : nPleat c (k + 1) s = nPleat c k (nPleat1 c s) := rfl
theorem nOk_lay {s : nD} {lo c ro si : Nat} (h : nOk s) (h9 : s.1 4 + c ≤ s.1 2) : nOk (nLay s lo c ro si) := by
  obtain ⟨h1, h2, h3, h4, h5, h6, h7, h8, h10, h11, h12⟩ := h
  refine ⟨h1, h2, h9, h4, h5, h6, h7, h8, h10, h11, ?_⟩
  trivial
theorem nOk_wind1 {s : nD} {w : Nat} (h : nOk s) (h9 : s.1 4 + w ≤ s.1 2) : nOk (nWind1 w s) := by
  obtain ⟨h1, h2, h3, h4, h5, h6, h7, h8, h10, h11, h12⟩ := nOk_lay (lo := s.1 5) (ro := s.1 3) (si := s.1 8) h h9
  exact ⟨h1, h2, h3, h4, nTs_lt, h6, h7, h8, h10, h11, h12⟩
theorem nOk_wind {w : Nat} : ∀ k {s : nD}, nOk s → s.1 4 + k * w ≤ s.1 2 → nOk (nWind w k s)
  | 0, _, h, _ => h
  | k + 1, s, h, h9 => by
    rw [nWind_s]
    rw [Nat.succ_mul k w] at h9
    refine nOk_wind k (nOk_wind1 h (by omega)) ?_
    show s.1 4 + w + k * w ≤ s.1 2
    omega
theorem nOk_pleat1 {s : nD} {w : Nat} (h : nOk s) (h9 : s.1 4 + 2 * w ≤ s.1 2) : nOk (nPleat1 w s) := by
  refine nOk_lay (nOk_lay h (by omega)) ?_
  show s.1 4 + w + w ≤ s.1 2
  omega
theorem nOk_pleat {w : Nat} : ∀ k {s : nD}, nOk s → s.1 4 + 2 * (k * w) ≤ s.1 2 → nOk (nPleat w k s)
  | 0, _, h, _ => h
  | k + 1, s, h, h9 => by
    rw [nPleat_s]
    rw [Nat.succ_mul k w] at h9
    refine nOk_pleat k (nOk_pleat1 h (by omega)) ?_
    show s.1 4 + w + w + 2 * (k * w) ≤ s.1 2
    omega
/-- registers that a winding, a pleat, a hanging leave -/
theorem nWind_rg {w : Nat} {q : Nat} (hq : q ≠ 4 ∧ q ≠ 6) : ∀ k (s : nD), (nWind w k s).1 q = s.1 q
  | 0, _ => rfl
  | k + 1, s => by
    rw [nWind_s, nWind_rg hq k]
    show nTs (nU s.1 4 (s.1 4 + w)) q = s.1 q
    rw [nTs_ne hq.2]
    simp only [nU, hq.1, if_false]
theorem nPleat_rg {w : Nat} {q : Nat} (hq : q ≠ 4) : ∀ k (s : nD), (nPleat w k s).1 q = s.1 q
  | 0, _ => rfl
  | k + 1, s => by
    rw [nPleat_s, nPleat_rg hq k]
    simp only [nPleat1, nLay, nU, hq, if_false]
theorem nHang_rg {q : Nat} (hq : q ≠ 4) : ∀ k j r (s : nD), (nHang k j r s).2.1 q = s.1 q
  | 0, _, _, _ => rfl
  | k + 1, j, r, s => by
    rw [nHang, nHang_rg hq k]
    simp only [nLay, nU, hq, if_false]
theorem nHang_ok : ∀ k j r (s : nD), nOk s → s.1 4 + r ≤ s.1 2 → nOk (nHang k j r s).2 ∧ (nHang k j r s).2.1 4 + (nHang k j r s).1 ≤ s.1 2
  | 0, _, _, _, h, h9 => ⟨h, h9⟩
  | k + 1, j, r, s, h, h9 => by
    rw [nHang]
    have h1 := nOk_lay (lo := s.1 5 - 1 - j) (ro := 1) (si := s.1 8) (c := min r 5) h (by omega)
    refine nHang_ok k _ _ _ h1 ?_
    show s.1 4 + min r 5 + (r - min r 5) ≤ s.1 2
    omega
theorem nOk_aWind {g : Nat → Nat} {s : nD} {x : Int32} (h : nOk s) (h9 : s.1 9 < 1000000) : nOk (aWind g s x).2 := by
  unfold aWind
  split
  · exact h
  · split
    · exact h
    · split
      · exact h
      · refine nOk_acted (nOk_wind _ h ?_) ?_
        · have := h.2.2.1; omega
        · rw [nWind_rg (by decide)]; exact h9
theorem nOk_aPleat {s : nD} {x y : Int32} (h : nOk s) (h9 : s.1 9 < 1000000) : nOk (aPleat s x y).2 := by
  unfold aPleat
  split
  · exact h
  · split
    · exact h
    · split
      · exact h
      · refine nOk_acted (nOk_pleat _ h ?_) ?_
        · have := h.2.2.1; rw [← Nat.mul_assoc]; omega
        · rw [nPleat_rg (by decide)]; exact h9
theorem nOk_aTuck {s : nD} (h : nOk s) (h9 : s.1 10 < 2000) : nOk (aTuck s).2 := by
  unfold aTuck
  split
  · exact h
  · obtain ⟨h1, h2, h3, h4, h5, h6, h7, h8, h10, h11, h12⟩ := h
    refine ⟨h1, h2, h3, h4, h5, h6, h7, h8, ?_, h11, h12⟩
    show s.1 10 + 1 ≤ 2000
    omega
theorem nOk_aUp {s : nD} {x : Int32} (h : nOk s) (h9 : s.1 9 < 1000000) : nOk (aUp s x).2 := by
  unfold aUp
  split
  · exact h
  · split
    · exact h
    · split
      · exact h
      · obtain ⟨h1, h2, h3, h4, h5, h6, h7, h8, h10, h11, h12⟩ := h
        refine nOk_acted (nOk_waste (s := (nU s.1 5 (s.1 5 + x.toInt.toNat), s.2)) ⟨h1, h2, h3, ?_, h5, h6, h7, h8, h10, h11, h12⟩ ?_) h9
        · show s.1 5 + x.toInt.toNat + s.1 3 ≤ 8
          omega
        · show s.1 4 + x.toInt.toNat ≤ s.1 2
          omega
theorem nOk_aDown {s : nD} {x : Int32} (h : nOk s) (h9 : s.1 9 < 1000000) : nOk (aDown s x).2 := by
  unfold aDown
  split
  · exact h
  · split
    · exact h
    · split
      · exact h
      · obtain ⟨h1, h2, h3, h4, h5, h6, h7, h8, h10, h11, h12⟩ := h
        refine nOk_acted (nOk_waste (s := (nU s.1 5 (s.1 5 - x.toInt.toNat), s.2)) ⟨h1, h2, h3, ?_, h5, h6, h7, h8, h10, h11, h12⟩ ?_) h9
        · show s.1 5 - x.toInt.toNat + s.1 3 ≤ 8
          omega
        · show s.1 4 + x.toInt.toNat ≤ s.1 2
          omega
theorem nOk_aTurn {s : nD} (h : nOk s) : nOk (aTurn s) := by
  obtain ⟨h1, h2, h3, h4, h5, h6, h7, h8, h10, h11, h12⟩ := h
  refine ⟨h1, h2, h3, h4, h5, ?_, h7, h8, h10, h11, h12⟩
  show 1 - s.1 7 ≤ 1
  omega
theorem nOk_aFlip {s : nD} (h : nOk s) : nOk (aFlip s) := by
  obtain ⟨h1, h2, h3, h4, h5, h6, h7, h8, h10, h11, h12⟩ := h
  refine ⟨h1, h2, h3, h4, h5, h6, ?_, h8, h10, h11, h12⟩
  show 1 - s.1 8 ≤ 1
  omega
theorem nOk_aCross {g : Nat → Nat} {s : nD} (h : nOk s) (h9 : s.1 9 < 1000000) : nOk (aCross g s).2 := by
  unfold aCross
  split
  · exact h
  · split
    · exact h
    · obtain ⟨h1, h2, h3, h4, h5, h6, h7, h8, h10, h11, h12⟩ := h
      refine nOk_acted (nOk_waste (s := (nU s.1 6 ((s.1 6 + 4) % 8), s.2)) ⟨h1, h2, h3, h4, ?_, h6, h7, h8, h10, h11, h12⟩ ?_) h9
      · show (s.1 6 + 4) % 8 < 8
        omega
      · show s.1 4 + 2 * g 7 ≤ s.1 2
        omega
theorem nOk_aHang {s : nD} {x : Int32} (h : nOk s) (h9 : s.1 9 < 1000000) : nOk (aHang s x).2 := by
  unfold aHang
  split
  · exact h
  · split
    · exact h
    · split
      · exact h
      · have hh := nHang_ok (min ((x.toInt.toNat + 4) / 5) (s.1 5)) 0 x.toInt.toNat s h (by have := h.2.2.1; omega)
        have h2 := nHang_rg (q := 2) (by decide) (min ((x.toInt.toNat + 4) / 5) (s.1 5)) 0 x.toInt.toNat s
        have h99 := nHang_rg (q := 9) (by decide) (min ((x.toInt.toNat + 4) / 5) (s.1 5)) 0 x.toInt.toNat s
        have hr := h.2.2.2.1
        obtain ⟨hr1, hr2⟩ := h.2.1
        obtain ⟨q1, q2, q3, q4, q5, q6, q7, q8, q10, q11, q12⟩ := nOk_waste hh.1 (by rw [h2]; exact hh.2)
        refine nOk_acted ⟨q1, q2, q3, q4, q5, q6, q7, q8, q10, ?_, q12⟩ ?_
        · show s.1 5 + 1 - (x.toInt.toNat + 4) / 5 ≤ 8
          omega
        · show (nHang (min ((x.toInt.toNat + 4) / 5) (s.1 5)) 0 x.toInt.toNat s).2.1 9 < 1000000
          omega
