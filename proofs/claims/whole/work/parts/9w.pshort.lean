/-! shortest: a break that is not for want of cells, where the cells left weren't asked, comes with every longer cloth. -/
def tL (x : Nat) (t : nD) : nD := (nU t.1 2 x, t.2)
def sL (x : Nat) (s : nS) : nS := (s.1, s.2.1, s.2.2.1, tL x s.2.2.2)
section
variable {x : Nat} {g : Nat → Nat} {t : nD} {s : nS}
theorem nU_2 {rg : Nat → Nat} {f v : Nat} (hf : f ≠ 2) : nU (nU rg 2 x) f v = nU (nU rg f v) 2 x := by
  funext q
  unfold nU
  by_cases h1 : q = f
  · rw [if_pos h1, if_neg (by omega), if_pos h1]
  · by_cases h2 : q = 2
    · rw [if_neg h1, if_pos h2, if_pos h2]
    · rw [if_neg h1, if_neg h2, if_neg h2, if_neg h1]
theorem tL_q {q : Nat} (hq : q ≠ 2) : (tL x t).1 q = t.1 q := by
  show (if q = 2 then x else t.1 q) = t.1 q
  rw [if_neg hq]
theorem tL_2 : (tL x t).1 2 = x := rfl
theorem tL_lay {lo c ro si : Nat} : nLay (tL x t) lo c ro si = tL x (nLay t lo c ro si) := by
  unfold nLay
  rw [tL_q (by decide), tL_q (by decide), tL_q (by decide)]
  show (nU (nU t.1 2 x) 4 (t.1 4 + c), t.2.1 + 1, _) = (nU (nU t.1 4 (t.1 4 + c)) 2 x, t.2.1 + 1, _)
  rw [nU_2 (by decide)]
  rfl
theorem tL_rg {f v : Nat} (hf : f ≠ 2) : (nU (tL x t).1 f v, (tL x t).2) = tL x (nU t.1 f v, t.2) := by
  show (nU (nU t.1 2 x) f v, t.2) = (nU (nU t.1 f v) 2 x, t.2)
  rw [nU_2 hf]
theorem tL_acted : nActed (tL x t) = tL x (nActed t) := by
  unfold nActed
  rw [tL_q (by decide)]
  exact tL_rg (by decide)
theorem tL_waste {c : Nat} : nWaste c (tL x t) = tL x (nWaste c t) := by
  unfold nWaste
  rw [tL_q (by decide), tL_q (by decide)]
  show (nU (nU (nU t.1 2 x) 4 (t.1 4 + c)) 13 (t.1 13 + c), t.2) = (nU (nU (nU t.1 4 (t.1 4 + c)) 13 (t.1 13 + c)) 2 x, t.2)
  rw [nU_2 (by decide), nU_2 (by decide)]
theorem tL_wind1 {w : Nat} : nWind1 w (tL x t) = tL x (nWind1 w t) := by
  unfold nWind1
  rw [tL_q (by decide), tL_q (by decide), tL_q (by decide), tL_lay]
  show (nTs (nU (nLay t _ _ _ _).1 2 x), (nLay t _ _ _ _).2) = (nU (nTs (nLay t _ _ _ _).1) 2 x, (nLay t _ _ _ _).2)
  congr 1
  unfold nTs
  rw [nU_2 (by decide)]
  rfl
theorem tL_wind {w : Nat} : ∀ k (t : nD), nWind w k (tL x t) = tL x (nWind w k t)
  | 0, _ => rfl
  | k + 1, t => by rw [nWind_s, nWind_s, tL_wind1, tL_wind k]
theorem tL_pleat {w : Nat} : ∀ k (t : nD), nPleat w k (tL x t) = tL x (nPleat w k t)
  | 0, _ => rfl
  | k + 1, t => by
    rw [nPleat_s, nPleat_s]
    have : nPleat1 w (tL x t) = tL x (nPleat1 w t) := by
      unfold nPleat1
      rw [tL_q (by decide), tL_q (by decide), tL_q (by decide), tL_lay, tL_lay]
    rw [this, tL_pleat k]
theorem tL_hang : ∀ k j r (t : nD), nHang k j r (tL x t) = ((nHang k j r t).1, tL x (nHang k j r t).2)
  | 0, _, _, _ => rfl
  | k + 1, j, r, t => by
    rw [nHang, nHang, tL_q (by decide), tL_q (by decide), tL_lay, tL_hang k]
/-- an act that does not break for want of cells does alike on a longer cloth -/
def rLg (x : Nat) (r r' : Nat × nD) : Prop := r.1 = 1 ∨ (r'.1 = r.1 ∧ r'.2 = tL x r.2)
theorem lg_wind {v : Int32} (h : t.1 2 ≤ x) : rLg x (aWind g t v) (aWind g (tL x t) v) := by
  unfold aWind
  rw [tL_q (q := 4) (by decide), tL_q (q := 5) (by decide), tL_q (q := 3) (by decide), tL_2]
  by_cases h1 : ¬ isNm v
  · rw [if_pos h1, if_pos h1]; exact Or.inr ⟨rfl, rfl⟩
  · rw [if_neg h1, if_neg h1]
    by_cases h2 : t.1 2 - t.1 4 < v.toInt.toNat * nWide g (t.1 5) (t.1 3)
    · rw [if_pos h2]; exact Or.inl rfl
    · rw [if_neg h2, if_neg (show ¬ x - t.1 4 < v.toInt.toNat * nWide g (t.1 5) (t.1 3) by omega)]
      show rLg x (if 400 < t.2.1 + v.toInt.toNat then _ else _) (if 400 < t.2.1 + v.toInt.toNat then _ else _)
      by_cases h3 : 400 < t.2.1 + v.toInt.toNat
      · rw [if_pos h3, if_pos h3]; exact Or.inr ⟨rfl, rfl⟩
      · rw [if_neg h3, if_neg h3]
        exact Or.inr ⟨rfl, by rw [tL_wind, tL_acted]⟩
theorem lg_pleat {v w : Int32} (h : t.1 2 ≤ x) : rLg x (aPleat t v w) (aPleat (tL x t) v w) := by
  unfold aPleat
  rw [tL_q (q := 4) (by decide), tL_2]
  by_cases h1 : ¬ (isNm v ∧ isNm w ∧ w ≠ 0)
  · rw [if_pos h1, if_pos h1]; exact Or.inr ⟨rfl, rfl⟩
  · rw [if_neg h1, if_neg h1]
    by_cases h2 : t.1 2 - t.1 4 < 2 * v.toInt.toNat * w.toInt.toNat
    · rw [if_pos h2]; exact Or.inl rfl
    · rw [if_neg h2, if_neg (show ¬ x - t.1 4 < 2 * v.toInt.toNat * w.toInt.toNat by omega)]
      show rLg x (if 400 < t.2.1 + 2 * v.toInt.toNat then _ else _) (if 400 < t.2.1 + 2 * v.toInt.toNat then _ else _)
      by_cases h3 : 400 < t.2.1 + 2 * v.toInt.toNat
      · rw [if_pos h3, if_pos h3]; exact Or.inr ⟨rfl, rfl⟩
      · rw [if_neg h3, if_neg h3]
        exact Or.inr ⟨rfl, by rw [tL_pleat, tL_acted]⟩
theorem lg_tuck : rLg x (aTuck t) (aTuck (tL x t)) := by
  unfold aTuck
  by_cases h1 : t.2.1 = 0
  · rw [if_pos h1, if_pos (show (tL x t).2.1 = 0 from h1)]; exact Or.inr ⟨rfl, rfl⟩
  · rw [if_neg h1, if_neg (show ¬ (tL x t).2.1 = 0 from h1)]
    refine Or.inr ⟨rfl, ?_⟩
    rw [tL_q (by decide)]
    show (nU (nU t.1 2 x) 10 (t.1 10 + 1), _) = (nU (nU t.1 10 (t.1 10 + 1)) 2 x, _)
    rw [nU_2 (by decide)]
    rfl
theorem lg_up {v : Int32} (h : t.1 2 ≤ x) : rLg x (aUp t v) (aUp (tL x t) v) := by
  unfold aUp
  rw [tL_q (q := 4) (by decide), tL_q (q := 5) (by decide), tL_q (q := 3) (by decide), tL_2]
  by_cases h1 : ¬ isNm v
  · rw [if_pos h1, if_pos h1]; exact Or.inr ⟨rfl, rfl⟩
  · rw [if_neg h1, if_neg h1]
    by_cases h3 : 8 < t.1 5 + v.toInt.toNat + t.1 3
    · rw [if_pos h3, if_pos h3]; exact Or.inr ⟨rfl, rfl⟩
    · rw [if_neg h3, if_neg h3]
      by_cases h2 : t.1 2 - t.1 4 < v.toInt.toNat
      · rw [if_pos h2]; exact Or.inl rfl
      · rw [if_neg h2, if_neg (by omega)]
        exact Or.inr ⟨rfl, by rw [tL_rg (by decide), tL_waste, tL_acted]⟩
theorem lg_down {v : Int32} (h : t.1 2 ≤ x) : rLg x (aDown t v) (aDown (tL x t) v) := by
  unfold aDown
  rw [tL_q (q := 4) (by decide), tL_q (q := 5) (by decide), tL_2]
  by_cases h1 : ¬ isNm v
  · rw [if_pos h1, if_pos h1]; exact Or.inr ⟨rfl, rfl⟩
  · rw [if_neg h1, if_neg h1]
    by_cases h3 : t.1 5 < v.toInt.toNat
    · rw [if_pos h3, if_pos h3]; exact Or.inr ⟨rfl, rfl⟩
    · rw [if_neg h3, if_neg h3]
      by_cases h2 : t.1 2 - t.1 4 < v.toInt.toNat
      · rw [if_pos h2]; exact Or.inl rfl
      · rw [if_neg h2, if_neg (by omega)]
        exact Or.inr ⟨rfl, by rw [tL_rg (by decide), tL_waste, tL_acted]⟩
theorem lg_cross (h : t.1 2 ≤ x) : rLg x (aCross g t) (aCross g (tL x t)) := by
  unfold aCross
  rw [tL_q (q := 4) (by decide), tL_q (q := 5) (by decide), tL_q (q := 3) (by decide), tL_q (q := 6) (by decide), tL_2]
  by_cases h1 : t.1 5 + t.1 3 ≠ 8
  · rw [if_pos h1, if_pos h1]; exact Or.inr ⟨rfl, rfl⟩
  · rw [if_neg h1, if_neg h1]
    by_cases h2 : t.1 2 - t.1 4 < 2 * g 7
    · rw [if_pos h2]; exact Or.inl rfl
    · rw [if_neg h2, if_neg (by omega)]
      exact Or.inr ⟨rfl, by rw [tL_rg (by decide), tL_waste, tL_acted]⟩
theorem lg_hang {v : Int32} (h : t.1 2 ≤ x) : rLg x (aHang t v) (aHang (tL x t) v) := by
  unfold aHang
  rw [tL_q (q := 4) (by decide), tL_q (q := 5) (by decide), tL_2]
  by_cases h1 : ¬ isNm v
  · rw [if_pos h1, if_pos h1]; exact Or.inr ⟨rfl, rfl⟩
  · rw [if_neg h1, if_neg h1]
    by_cases h2 : t.1 2 - t.1 4 < v.toInt.toNat
    · rw [if_pos h2]; exact Or.inl rfl
    · rw [if_neg h2, if_neg (show ¬ x - t.1 4 < v.toInt.toNat by omega)]
      show rLg x (if 400 < t.2.1 + min ((v.toInt.toNat + 4) / 5) (t.1 5) then _ else _) (if 400 < t.2.1 + min ((v.toInt.toNat + 4) / 5) (t.1 5) then _ else _)
      by_cases h3 : 400 < t.2.1 + min ((v.toInt.toNat + 4) / 5) (t.1 5)
      · rw [if_pos h3, if_pos h3]; exact Or.inr ⟨rfl, rfl⟩
      · rw [if_neg h3, if_neg h3]
        refine Or.inr ⟨rfl, ?_⟩
        rw [tL_hang]
        dsimp only
        rw [tL_waste]
        generalize (nHang (min ((v.toInt.toNat + 4) / 5) (t.1 5)) 0 v.toInt.toNat t) = hh
        show nActed (nU (nU (nU (nWaste hh.1 hh.2).1 2 x) 11 1) 12 (t.1 5 + 1 - (v.toInt.toNat + 4) / 5), hh.2.2) = tL x (nActed (nU (nU (nWaste hh.1 hh.2).1 11 1) 12 (t.1 5 + 1 - (v.toInt.toNat + 4) / 5), hh.2.2))
        rw [nU_2 (by decide), nU_2 (by decide)]
        exact tL_acted (x := x) (t := (nU (nU (nWaste hh.1 hh.2).1 11 1) 12 (t.1 5 + 1 - (v.toInt.toNat + 4) / 5), hh.2.2))
theorem lg_plain {c : Nat} (h : t.1 2 ≤ x) : rLg x (rPlain c g t) (rPlain c g (tL x t)) := by
  unfold rPlain
  by_cases h1 : c = 116
  · rw [if_pos h1, if_pos h1]; exact lg_tuck
  · rw [if_neg h1, if_neg h1]
    by_cases h2 : c = 114
    · rw [if_pos h2, if_pos h2]
      refine Or.inr ⟨rfl, ?_⟩
      show aTurn (tL x t) = tL x (aTurn t)
      unfold aTurn
      rw [tL_q (by decide)]
      exact tL_rg (by decide)
    · rw [if_neg h2, if_neg h2]
      by_cases h3 : c = 102
      · rw [if_pos h3, if_pos h3]
        refine Or.inr ⟨rfl, ?_⟩
        show aFlip (tL x t) = tL x (aFlip t)
        unfold aFlip
        rw [tL_q (by decide)]
        exact tL_rg (by decide)
      · rw [if_neg h3, if_neg h3]; exact lg_cross h
theorem lg_num {c : Nat} {v : Int32} (h : t.1 2 ≤ x) : rLg x (rNum c g t v) (rNum c g (tL x t) v) := by
  unfold rNum
  by_cases h1 : c = 119
  · rw [if_pos h1, if_pos h1]; exact lg_wind h
  · rw [if_neg h1, if_neg h1]
    by_cases h2 : c = 117
    · rw [if_pos h2, if_pos h2]; exact lg_up h
    · rw [if_neg h2, if_neg h2]
      by_cases h3 : c = 100
      · rw [if_pos h3, if_pos h3]; exact lg_down h
      · rw [if_neg h3, if_neg h3]; exact lg_hang h
end
