/-! read: the class's search and the reference's four. -/
abbrev pE : Type := Nat × (Nat → Nat)
def fI (f : Nat → List pE) : Nat → List pE
  | 0 => []
  | k + 1 => fI f k ++ f k
def gL (g : Nat → Nat) (len endc : Nat) (col want : Nat → Nat) : Nat → (Nat → Nat) → (Nat → Nat) → Nat → (Nat → Nat) → List pE
  | 0, _, gr, dn, rw' => if nOff want gr 64 = 0 then [(dn, rw')] else []
  | j + 1, rg, gr, dn, rw' => (if nOff want gr 64 = 0 then [(dn, rw')] else []) ++ fI (fun i => if pOk g i rg = true then gL g len endc col want j (cn (pRg g i rg)) (gLaysG len endc col (pL g i rg) (pN i rg) gr) (dn + 1) (pUpd rw' dn i) else []) 11
/-- without the beginning itself -/
def fL (g : Nat → Nat) (len endc : Nat) (col want : Nat → Nat) : Nat → (Nat → Nat) → (Nat → Nat) → Nat → (Nat → Nat) → List pE
  | 0, _, _, _, _ => []
  | j + 1, rg, gr, dn, rw' => fI (fun i => if pOk g i rg = true then gL g len endc col want j (cn (pRg g i rg)) (gLaysG len endc col (pL g i rg) (pN i rg) gr) (dn + 1) (pUpd rw' dn i) else []) 11
section
variable {g : Nat → Nat} {len endc : Nat} {col want rg gr rw' : Nat → Nat} {dn : Nat}
theorem gL_eq (j : Nat) : gL g len endc col want j rg gr dn rw' = (if nOff want gr 64 = 0 then [(dn, rw')] else []) ++ fL g len endc col want j rg gr dn rw' := by
  cases j with
  | zero => rw [gL, fL, List.append_nil]
  | succ j => rfl
theorem foldl_fI {α : Type} {step : α → pE → α} {f : Nat → List pE} {h : Nat → α → α} (hh : ∀ i a, h i a = (f i).foldl step a) : ∀ k a, nIt h k a = (fI f k).foldl step a
  | 0, a => rfl
  | k + 1, a => by
    show h k (nIt h k a) = (fI f k ++ f k).foldl step a
    rw [List.foldl_append, ← foldl_fI hh k a, hh]
theorem nTry_fold : ∀ j rg gr dn rw' (a : nFo), nTry g len endc col want j rg gr dn rw' a = (fL g len endc col want j rg gr dn rw').foldl (fun a e => nKeep e.1 e.2 a) a
  | 0, _, _, _, _, _ => rfl
  | j + 1, rg, gr, dn, rw', a => by
    rw [nTry_s, fL]
    refine foldl_fI (fun i a => ?_) 11 a
    unfold nTF
    split
    · rw [nTry_fold j, gL_eq, List.foldl_append]
      split <;> rfl
    · rfl
theorem fI_mem {f : Nat → List pE} {e : pE} : ∀ k, e ∈ fI f k → ∃ i, i < k ∧ e ∈ f i
  | 0, h => by cases h
  | k + 1, h => by
    rcases List.mem_append.mp h with h | h
    · obtain ⟨i, h1, h2⟩ := fI_mem k h
      exact ⟨i, by omega, h2⟩
    · exact ⟨k, by omega, h⟩
theorem gL_len : ∀ j rg gr dn rw' (e : pE), e ∈ gL g len endc col want j rg gr dn rw' → dn ≤ e.1 ∧ e.1 ≤ dn + j
  | 0, rg, gr, dn, rw', e, h => by
    rw [gL] at h
    split at h
    · rw [List.mem_singleton] at h; subst h; exact ⟨Nat.le_refl _, Nat.le_refl _⟩
    · cases h
  | j + 1, rg, gr, dn, rw', e, h => by
    rw [gL] at h
    rcases List.mem_append.mp h with h | h
    · split at h
      · rw [List.mem_singleton] at h; subst h; exact ⟨Nat.le_refl _, Nat.le_add_right _ _⟩
      · cases h
    · obtain ⟨i, h1, h2⟩ := fI_mem 11 h
      split at h2
      · have := gL_len j _ _ _ _ e h2
        omega
      · cases h2
theorem fL_len : ∀ j rg gr dn rw' (e : pE), e ∈ fL g len endc col want j rg gr dn rw' → dn + 1 ≤ e.1 ∧ e.1 ≤ dn + j
  | 0, _, _, _, _, e, h => by cases h
  | j + 1, rg, gr, dn, rw', e, h => by
    rw [fL] at h
    obtain ⟨i, h1, h2⟩ := fI_mem 11 h
    split at h2
    · have := gL_len j _ _ _ _ e h2
      omega
    · cases h2
theorem fI_filter {f : Nat → List pE} {p : pE → Bool} : ∀ k, (fI f k).filter p = fI (fun i => (f i).filter p) k
  | 0 => rfl
  | k + 1 => by
    show (fI f k ++ f k).filter p = fI (fun i => (f i).filter p) k ++ (f k).filter p
    rw [List.filter_append, fI_filter k]
def flt (k : Nat) (l : List pE) : List pE := l.filter (fun e => decide (e.1 = k))
theorem rT_fold : ∀ m j rg gr dn rw' (a : nFo), m ≤ j → rT g len endc col want m rg gr dn rw' a = (flt (dn + m) (gL g len endc col want j rg gr dn rw')).foldl (fun a e => rKeep e.1 e.2 a) a
  | 0, j, rg, gr, dn, rw', a, _ => by
    have h0 : flt (dn + 0) (fL g len endc col want j rg gr dn rw') = [] := by
      unfold flt
      rw [List.filter_eq_nil_iff]
      intro e he
      have := fL_len j _ _ _ _ e he
      simp only [decide_eq_true_eq]
      omega
    rw [gL_eq]
    unfold flt at h0 ⊢
    rw [List.filter_append, h0, List.append_nil]
    show (if nOff want gr 64 = 0 then rKeep dn rw' a else a) = _
    split
    · simp
    · rfl
  | m + 1, 0, _, _, _, _, _, h => by omega
  | m + 1, j + 1, rg, gr, dn, rw', a, h => by
    have hq : flt (dn + (m + 1)) (if nOff want gr 64 = 0 then [(dn, rw')] else []) = [] := by
      unfold flt
      split
      · simp
      · rfl
    rw [gL_eq]
    unfold flt at hq ⊢
    rw [List.filter_append, hq, List.nil_append, fL, fI_filter]
    refine foldl_fI (fun i a => ?_) 11 a
    split
    · have h1 := rT_fold m j (cn (pRg g i rg)) (gLaysG len endc col (pL g i rg) (pN i rg) gr) (dn + 1) (pUpd rw' dn i) a (by omega)
      rw [h1]
      unfold flt
      rw [show dn + 1 + m = dn + (m + 1) by omega]
    · rfl
theorem rKeep_fold : ∀ (l : List pE) (a : nFo), l.foldl (fun a e => rKeep e.1 e.2 a) a = (a.1 + l.length, if a.1 = 0 then l.head?.getD a.2 else a.2)
  | [], a => by
    show a = (a.1 + 0, if a.1 = 0 then a.2 else a.2)
    rw [Nat.add_zero]
    split <;> rfl
  | e :: l, a => by
    rw [List.foldl_cons, rKeep_fold l]
    unfold rKeep
    show (a.1 + 1 + l.length, if a.1 + 1 = 0 then _ else if a.1 = 0 then (e.1, e.2) else a.2) = (a.1 + (l.length + 1), if a.1 = 0 then e else a.2)
    rw [if_neg (by omega), show a.1 + 1 + l.length = a.1 + (l.length + 1) by omega]
def pick : List pE → pE → pE
  | [], a => a
  | e :: l, a => pick l (if a.1 = 0 ∨ e.1 < a.1 then e else a)
theorem nKeep_fold : ∀ (l : List pE) (a : nFo), l.foldl (fun a e => nKeep e.1 e.2 a) a = (a.1 + l.length, pick l a.2)
  | [], a => rfl
  | e :: l, a => by
    rw [List.foldl_cons, nKeep_fold l]
    unfold nKeep
    show (a.1 + 1 + l.length, pick l (if a.2.1 = 0 ∨ e.1 < a.2.1 then (e.1, e.2) else a.2)) = (a.1 + (l.length + 1), pick l (if a.2.1 = 0 ∨ e.1 < a.2.1 then e else a.2))
    rw [show a.1 + 1 + l.length = a.1 + (l.length + 1) by omega]
def hd (k : Nat) (l : List pE) : Option pE := (flt k l).head?
def sel (b : Nat) (l : List pE) : Option pE := (if 1 < b then hd 1 l else none).or ((if 2 < b then hd 2 l else none).or ((if 3 < b then hd 3 l else none).or (if 4 < b then hd 4 l else none)))
theorem hd_cons {k : Nat} {e : pE} {l : List pE} : hd k (e :: l) = if e.1 = k then some e else hd k l := by
  unfold hd flt
  by_cases h : e.1 = k
  · rw [if_pos h, List.filter_cons_of_pos (by simpa using h)]; rfl
  · rw [if_neg h, List.filter_cons_of_neg (by simpa using h)]
theorem pick_sel : ∀ (l : List pE) (a : pE), (∀ e, e ∈ l → 1 ≤ e.1 ∧ e.1 ≤ 4) → a.1 ≤ 4 → pick l a = (sel (if a.1 = 0 then 5 else a.1) l).getD a
  | [], a, _, _ => by
    have : sel (if a.1 = 0 then 5 else a.1) [] = none := by unfold sel hd flt; simp
    rw [this]; rfl
  | e :: l, a, hl, ha => by
    have he := hl e List.mem_cons_self
    have ih := fun a h => pick_sel l a (fun e he => hl e (List.mem_cons_of_mem _ he)) h
    show pick l (if a.1 = 0 ∨ e.1 < a.1 then e else a) = _
    by_cases hc : a.1 = 0 ∨ e.1 < a.1
    · rw [if_pos hc, ih e he.2, if_neg (show ¬ e.1 = 0 by omega)]
      have hb : e.1 < (if a.1 = 0 then 5 else a.1) := by split <;> omega
      have hb5 : (if a.1 = 0 then 5 else a.1) ≤ 5 := by split <;> omega
      generalize (if a.1 = 0 then 5 else a.1) = b at hb hb5
      unfold sel
      rw [hd_cons, hd_cons, hd_cons, hd_cons]
      rcases (show e.1 = 1 ∨ e.1 = 2 ∨ e.1 = 3 ∨ e.1 = 4 by omega) with h | h | h | h <;> rw [h] at hb ⊢
      · simp [hb]
      · have h1 : 1 < b := by omega
        simp [hb, h1]
      · have h1 : 1 < b := by omega
        have h2 : 2 < b := by omega
        simp [hb, h1, h2]
      · have h1 : 1 < b := by omega
        have h2 : 2 < b := by omega
        have h3 : 3 < b := by omega
        simp [hb, h1, h2, h3]
    · rw [if_neg hc, ih a ha]
      have hb : (if a.1 = 0 then 5 else a.1) ≤ e.1 := by split <;> omega
      generalize (if a.1 = 0 then 5 else a.1) = b at hb
      congr 1
      unfold sel
      rw [hd_cons, hd_cons, hd_cons, hd_cons]
      rcases (show e.1 = 1 ∨ e.1 = 2 ∨ e.1 = 3 ∨ e.1 = 4 by omega) with h | h | h | h <;> rw [h] at hb ⊢
      · simp [show ¬ 1 < b by omega]
      · simp [show ¬ 2 < b by omega]
      · simp [show ¬ 3 < b by omega]
      · simp [show ¬ 4 < b by omega]
theorem flt_length : ∀ (l : List pE), (∀ e, e ∈ l → 1 ≤ e.1 ∧ e.1 ≤ 4) → (flt 1 l).length + (flt 2 l).length + (flt 3 l).length + (flt 4 l).length = l.length
  | [], _ => rfl
  | e :: l, h => by
    have he := h e List.mem_cons_self
    have ih := flt_length l (fun e he => h e (List.mem_cons_of_mem _ he))
    have hc : ∀ k, (flt k (e :: l)).length = (flt k l).length + if e.1 = k then 1 else 0 := fun k => by
      unfold flt
      by_cases hk : e.1 = k
      · rw [if_pos hk, List.filter_cons_of_pos (by simpa using hk)]; rfl
      · rw [if_neg hk, List.filter_cons_of_neg (by simpa using hk)]; rfl
    rw [hc, hc, hc, hc, List.length_cons]
    rcases (show e.1 = 1 ∨ e.1 = 2 ∨ e.1 = 3 ∨ e.1 = 4 by omega) with q | q | q | q <;> rw [q] <;> simp <;> omega
theorem read_eq : nTry g len endc col want 4 rg (fun _ => 8) 0 (fun _ => 0) (0, 0, fun _ => 0) = rAll g len endc col want rg 4 := by
  have hl := fL_len (g := g) (len := len) (endc := endc) (col := col) (want := want) 4 rg (fun _ => 8) 0 (fun _ => 0)
  have hT : ∀ m a, 1 ≤ m → m ≤ 4 → rT g len endc col want m rg (fun _ => 8) 0 (fun _ => 0) a = (flt m (fL g len endc col want 4 rg (fun _ => 8) 0 (fun _ => 0))).foldl (fun a e => rKeep e.1 e.2 a) a := by
    intro m a h1 h4
    rw [rT_fold m 4 rg (fun _ => 8) 0 (fun _ => 0) a h4, gL_eq, Nat.zero_add]
    have hq : flt m (if nOff want (fun _ => 8) 64 = 0 then [(0, fun _ => 0)] else []) = [] := by
      unfold flt
      split
      · rw [List.filter_cons_of_neg (by simp only [decide_eq_true_eq]; omega)]; rfl
      · rfl
    unfold flt at hq ⊢
    rw [List.filter_append, hq, List.nil_append]
  rw [nTry_fold, nKeep_fold]
  show _ = rT g len endc col want 4 rg (fun _ => 8) 0 (fun _ => 0) (rT g len endc col want 3 rg (fun _ => 8) 0 (fun _ => 0) (rT g len endc col want 2 rg (fun _ => 8) 0 (fun _ => 0) (rT g len endc col want 1 rg (fun _ => 8) 0 (fun _ => 0) (0, 0, fun _ => 0))))
  rw [hT 1 _ (by decide) (by decide), hT 2 _ (by decide) (by decide), hT 3 _ (by decide) (by decide), hT 4 _ (by decide) (by decide), ← List.foldl_append, ← List.foldl_append, ← List.foldl_append, rKeep_fold]
  have hl4 : ∀ e, e ∈ fL g len endc col want 4 rg (fun _ => 8) 0 (fun _ => 0) → 1 ≤ e.1 ∧ e.1 ≤ 4 := fun e he => by have := hl e he; omega
  generalize fL g len endc col want 4 rg (fun _ => 8) 0 (fun _ => 0) = l at hl4
  have hlen := flt_length l hl4
  have hp := pick_sel l (0, fun _ => 0) hl4 (by decide)
  rw [if_pos rfl]
  refine Prod.ext ?_ ?_
  · show 0 + l.length = 0 + _
    rw [List.length_append, List.length_append, List.length_append]
    omega
  · show pick l (0, fun _ => 0) = _
    rw [hp, if_pos rfl]
    unfold sel hd
    simp only [List.head?_append]
    congr 1
end
