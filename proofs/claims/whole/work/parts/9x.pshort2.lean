/-! shortest, the styles' meanings. -/
def eLg (e : nEv) : Prop := ∀ (en en' : Nat → Int32), (∀ c, c ≠ 108 → en' c = en c) → ∀ dv, dv ≤ 1 → (e en (dv, 0)).2.2 ≠ 0 ∨ ((e en' (dv, 0)).2 = (e en (dv, 0)).2 ∧ (e en (dv, 0)).2.2 = 0 ∧ ((e en (dv, 0)).2.1 = 0 → (e en' (dv, 0)).1 = (e en (dv, 0)).1))
def eMo (e : nEv) : Prop := ∀ en fl, fl.2 ≠ 0 → (e en fl).2.2 ≠ 0
theorem cE_mo {tx mk : Nat → Nat} {m o a u b v : Nat} {e : nEv} (h : cE tx mk m o a u b v e) : eMo e := by
  refine h (fun _ _ _ _ _ _ e => eMo e) ⟨fun _ _ _ _ _ _ _ _ _ _ _ h => h, fun o a u h1 h2 en fl h => ?_, fun _ _ _ _ _ _ _ _ h _ => h, fun _ _ _ _ _ _ h => h, fun _ _ _ _ _ _ _ _ _ h1 _ h2 _ en fl h => h2 en _ (h1 en fl h), fun _ _ _ _ _ _ h => h, fun _ _ _ _ _ _ _ _ _ h1 _ h2 _ en fl h => h2 en _ (h1 en fl h)⟩
  show (if tx a = 108 ∧ fl.1 = 0 then 1 else fl.2) ≠ 0
  split
  · decide
  · exact h
theorem evO_lg {c : Nat} {e f : nEv} (he : eLg e) (hf : eLg f) (hdv : eDv e) (hdf : eDv f) (hmf : eMo f) : eLg (evO c e f) := by
  intro en en' hen dv hd
  rcases he en en' hen dv hd with h | ⟨h1, h2, h3⟩
  · left
    exact hmf en (e en (dv, 0)).2 h
  · have hdv1 := (hdv en (dv, 0) hd).1
    have hp : (e en (dv, 0)).2 = ((e en (dv, 0)).2.1, 0) := Prod.ext rfl h2
    rcases hf en en' hen (e en (dv, 0)).2.1 hdv1 with h | ⟨h4, h5, h6⟩
    · left
      show (f en (e en (dv, 0)).2).2.2 ≠ 0
      rw [hp]; exact h
    · right
      have e1 : (evO c e f en (dv, 0)) = (opV c (e en (dv, 0)).1 (f en ((e en (dv, 0)).2.1, 0)).1, if c = 47 ∧ (f en ((e en (dv, 0)).2.1, 0)).1 = 0 then 1 else (f en ((e en (dv, 0)).2.1, 0)).2.1, (f en ((e en (dv, 0)).2.1, 0)).2.2) := by
        unfold evO; rw [← hp]
      have e2 : (evO c e f en' (dv, 0)) = (opV c (e en' (dv, 0)).1 (f en' ((e en (dv, 0)).2.1, 0)).1, if c = 47 ∧ (f en' ((e en (dv, 0)).2.1, 0)).1 = 0 then 1 else (f en' ((e en (dv, 0)).2.1, 0)).2.1, (f en' ((e en (dv, 0)).2.1, 0)).2.2) := by
        unfold evO; rw [h1, ← hp]
      rw [e1, e2]
      have hb := (hdf en ((e en (dv, 0)).2.1, 0) hdv1).1
      by_cases hz : (f en ((e en (dv, 0)).2.1, 0)).2.1 = 0
      · have hv := h6 hz
        have hz1 : (e en (dv, 0)).2.1 = 0 := by
          have q := (hdf en ((e en (dv, 0)).2.1, 0) hdv1).2
          rcases Nat.eq_zero_or_pos (e en (dv, 0)).2.1 with h | h
          · exact h
          · have := q (by show (e en (dv, 0)).2.1 = 1; omega)
            omega
        have hv1 := h3 hz1
        refine ⟨?_, h5, fun _ => ?_⟩
        · rw [h4, hv]
        · show opV c (e en' (dv, 0)).1 (f en' ((e en (dv, 0)).2.1, 0)).1 = opV c (e en (dv, 0)).1 (f en ((e en (dv, 0)).2.1, 0)).1
          rw [hv, hv1]
      · have hz1 : (f en ((e en (dv, 0)).2.1, 0)).2.1 = 1 := by omega
        have hi : ∀ v : Int32, (if c = 47 ∧ v = 0 then 1 else (f en ((e en (dv, 0)).2.1, 0)).2.1) = 1 := fun v => by split <;> omega
        refine ⟨?_, h5, fun h => ?_⟩
        · rw [h4, hi, hi]
        · have h : (if c = 47 ∧ (f en ((e en (dv, 0)).2.1, 0)).1 = 0 then 1 else (f en ((e en (dv, 0)).2.1, 0)).2.1) = 0 := h
          rw [hi] at h
          exact absurd h (by decide)
theorem cE_lg {tx mk : Nat → Nat} {m o a u b v : Nat} {e : nEv} (h : cE tx mk m o a u b v e) : eLg e := by
  have hh := h (fun _ _ _ _ _ _ e => eLg e ∧ eDv e ∧ eMo e) ⟨fun o a u k _ _ _ _ _ => ⟨fun en en' hen dv hd => Or.inr ⟨rfl, rfl, fun _ => rfl⟩, fun en fl h => ⟨h, fun z => z⟩, fun en fl h => h⟩, fun o a u h1 h2 => ⟨fun en en' hen dv hd => ?_, fun en fl h => ⟨h, fun z => z⟩, fun en fl h => ?_⟩, fun _ _ _ _ _ _ _ _ h _ => h, fun _ _ _ _ _ _ h => h, fun _ _ _ _ _ _ _ _ _ h1 _ h2 _ => ⟨evO_lg h1.1 h2.1 h1.2.1 h2.2.1 h2.2.2, evO_dv h1.2.1 h2.2.1, fun en fl h => h2.2.2 en _ (h1.2.2 en fl h)⟩, fun _ _ _ _ _ _ h => h, fun _ _ _ _ _ _ _ _ _ h1 _ h2 _ => ⟨evO_lg h1.1 h2.1 h1.2.1 h2.2.1 h2.2.2, evO_dv h1.2.1 h2.2.1, fun en fl h => h2.2.2 en _ (h1.2.2 en fl h)⟩⟩
  · exact hh.1
  · show (if tx a = 108 ∧ dv = 0 then 1 else 0) ≠ 0 ∨ ((dv, if tx a = 108 ∧ dv = 0 then 1 else 0) = (dv, if tx a = 108 ∧ dv = 0 then 1 else 0) ∧ (if tx a = 108 ∧ dv = 0 then 1 else 0) = 0 ∧ (dv = 0 → en' (tx a) = en (tx a)))
    by_cases hc : tx a = 108 ∧ dv = 0
    · left
      rw [if_pos hc]
      decide
    · right
      rw [if_neg hc]
      refine ⟨rfl, rfl, fun h => hen _ (fun z => hc ⟨z, h⟩)⟩
  · show (if tx a = 108 ∧ fl.1 = 0 then 1 else fl.2) ≠ 0
    split
    · decide
    · exact h
/-- what a meaning does on a longer cloth -/
def dLg (D : nDn) : Prop := ∀ g s x, s.2.2.2.1 2 ≤ x → s.2.2.1 = 0 → s.2.2.2.1 14 = 0 → (D g s).2.2.2.1 14 = 1 ∨ (D g s).2.2.1 ≠ 0 ∨ (D g (sL x s) = sL x (D g s) ∧ (D g s).2.2.1 = 0)
def dMo (D : nDn) : Prop := ∀ g s, (s.2.2.1 ≠ 0 → (D g s).2.2.1 ≠ 0) ∧ (D g s).2.2.2.1 2 = s.2.2.2.1 2
section
variable {x : Nat} {g : Nat → Nat} {t : nD} {s : nS}
theorem sL_env {c : Nat} (hc : c ≠ 108) : envOf g (sL x s) c = envOf g s c := by
  unfold envOf
  rw [if_neg hc, if_neg hc]
  show (if c = 103 then nI (nWide g ((tL x s.2.2.2).1 5) ((tL x s.2.2.2).1 3)) else if c = 107 then nI ((tL x s.2.2.2).1 6) else if c = 105 then nI ((tL x s.2.2.2).1 5) else s.1 (c - 120)) = _
  rw [tL_q (by decide), tL_q (by decide), tL_q (by decide)]
theorem sL_brk {w : Nat} : brk w (sL x s) = sL x (brk w s) := by
  show (s.1, s.2.1, s.2.2.1, (nU (nU (nU s.2.2.2.1 2 x) 14 w) 15 (s.2.1 + 1), s.2.2.2.2)) = (s.1, s.2.1, s.2.2.1, (nU (nU (nU s.2.2.2.1 14 w) 15 (s.2.1 + 1)) 2 x, s.2.2.2.2))
  rw [nU_2 (by decide), nU_2 (by decide)]
theorem lg_fin {r r' : Nat × nD} (h : rLg x r r') : (fin r s).2.2.2.1 14 = 1 ∨ (fin r' (sL x s) = sL x (fin r s)) := by
  rcases h with h | ⟨h1, h2⟩
  · left
    unfold fin
    rw [if_neg (by omega), h]
    rfl
  · right
    unfold fin
    rw [h1]
    split
    · rw [h2]; rfl
    · exact sL_brk
theorem lg_dE {e : nEv} {tx mk : Nat → Nat} {m o a u b v : Nat} (he : cE tx mk m o a u b v e) {k : Int32 → nS → nS} (hs2 : s.2.2.2.1 2 ≤ x) (hsa : s.2.2.1 = 0) (hs14 : s.2.2.2.1 14 = 0) (hmo : ∀ v s, s.2.2.1 ≠ 0 → (k v s).2.2.1 ≠ 0)
    (hk : ∀ v s, s.2.2.2.1 2 ≤ x → s.2.2.1 = 0 → s.2.2.2.1 14 = 0 → (k v s).2.2.2.1 14 = 1 ∨ (k v s).2.2.1 ≠ 0 ∨ (k v (sL x s) = sL x (k v s) ∧ (k v s).2.2.1 = 0)) : (dE g e k s).2.2.2.1 14 = 1 ∨ (dE g e k s).2.2.1 ≠ 0 ∨ (dE g e k (sL x s) = sL x (dE g e k s) ∧ (dE g e k s).2.2.1 = 0) := by
  have h := cE_lg he (envOf g s) (envOf g (sL x s)) (fun c hc => sL_env hc) 0 (by decide)
  unfold dE
  rw [show (sL x s).2.2.1 = s.2.2.1 from rfl, hsa]
  rcases h with h | ⟨h1, h2, h3⟩
  · right; left
    split
    · exact hmo _ _ h
    · exact h
  · rw [h1]
    by_cases hz : (e (envOf g s) (0, 0)).2.1 = 0
    · rw [if_pos hz, if_pos hz, h3 hz]
      have h4 : ask (e (envOf g s) (0, 0)).2.2 (sL x s) = sL x (ask (e (envOf g s) (0, 0)).2.2 s) := rfl
      rw [h4]
      exact hk _ (ask (e (envOf g s) (0, 0)).2.2 s) hs2 h2 hs14
    · rw [if_neg hz, if_neg hz]
      right; right
      exact ⟨sL_brk (s := ask (e (envOf g s) (0, 0)).2.2 s), h2⟩
theorem mo_fin {r : Nat × nD} (h : s.2.2.1 ≠ 0) : (fin r s).2.2.1 ≠ 0 := by unfold fin; split <;> exact h
theorem mo_dE {e : nEv} {tx mk : Nat → Nat} {m o a u b v : Nat} (he : cE tx mk m o a u b v e) {k : Int32 → nS → nS} (hmo : ∀ v s, s.2.2.1 ≠ 0 → (k v s).2.2.1 ≠ 0) (h : s.2.2.1 ≠ 0) : (dE g e k s).2.2.1 ≠ 0 := by
  have h1 := cE_mo he (envOf g s) (0, s.2.2.1) h
  unfold dE
  split
  · exact hmo _ _ h1
  · exact h1
end
