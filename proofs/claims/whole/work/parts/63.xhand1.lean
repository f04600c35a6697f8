/-! The class's Hand: its state. -/
abbrev hS : Type := List Int32 × (Nat → Int32) × List (Nat × Nat) × Nat × Nat × Nat
def xPile (M : gM) : List Int32 → Prop
  | [] => True
  | v :: l => M.1 10 l.length = v ∧ xPile M l
def xRows (M : gM) : List (Nat × Nat) → Prop
  | [] => True
  | v :: l => (M.1 11 l.length = nI v.1 ∧ M.1 12 l.length = nI v.2 ∧ v.1 ≤ 200 ∧ v.2 ≤ 2000) ∧ xRows M l
def xHa (M : gM) (h : hS) : Prop :=
  (M.1 9 1 = nI h.1.length ∧ h.1.length ≤ 32 ∧ xPile M h.1) ∧ (∀ k, k < 3 → M.1 13 k = h.2.1 k) ∧ (M.1 9 4 = nI h.2.2.1.length ∧ h.2.2.1.length ≤ 3 ∧ xRows M h.2.2.1) ∧
  (M.1 9 7 = nI h.2.2.2.1 ∧ h.2.2.2.1 ≤ 2000) ∧ (M.1 9 8 = nI h.2.2.2.2.1 - 1 ∧ h.2.2.2.2.1 ≤ 2001) ∧ (M.1 9 9 = nI h.2.2.2.2.2)
def xHin (o : Nat) : Prop := 9 ≤ o ∧ o ≤ 13
/-- the marks that the Hand does: N of them in the array q -/
def xMk (M : gM) (q N : Nat) (mk : Nat → Nat) : Prop := M.2.1 9 6 = some q ∧ gAr M q 0 ∧ (gTy M q).isSome = true ∧ gLen M q = N ∧ 36 < q ∧ N ≤ 248 ∧ ∀ k, k < N → M.1 q k = nI (mk k) ∧ mk k ≤ 2000
section
variable {d D L n k p q N len endc : Nat} {M M2 : gM} {Z : Option Value → gM → Prop} {i r s x y a b c e f v : Int32} {ly : Nat → Nat → Nat} {col : Nat → Nat} {t : nD} {g mk : Nat → Nat}
variable {pl : List Int32} {nm : Nat → Int32} {rs : List (Nat × Nat)} {nx st as : Nat}
theorem xPile_fr : ∀ {l : List Int32}, (∀ k, k < l.length → M2.1 10 k = M.1 10 k) → xPile M l → xPile M2 l
  | [], _, _ => trivial
  | v :: l, h, hp => ⟨by rw [h _ (by simp)]; exact hp.1, xPile_fr (fun k hk => h k (by simp only [List.length_cons]; omega)) hp.2⟩
theorem xRows_fr : ∀ {l : List (Nat × Nat)}, (∀ k, k < l.length → M2.1 11 k = M.1 11 k ∧ M2.1 12 k = M.1 12 k) → xRows M l → xRows M2 l
  | [], _, _ => trivial
  | v :: l, h, hp => ⟨by rw [(h l.length (by simp)).1, (h l.length (by simp)).2]; exact hp.1, xRows_fr (fun k hk => h k (by simp only [List.length_cons]; omega)) hp.2⟩
theorem xHa_fr {P : Nat → Prop} {h : hS} (hf : gFr P M M2) (hP : ∀ o, 9 ≤ o → o ≤ 13 → ¬ P o) (hh : xHa M h) : xHa M2 h := by
  have q9 := hf.2 9 (hP 9 (by decide) (by decide))
  have q10 := hf.2 10 (hP 10 (by decide) (by decide))
  have q11 := hf.2 11 (hP 11 (by decide) (by decide))
  have q12 := hf.2 12 (hP 12 (by decide) (by decide))
  have q13 := hf.2 13 (hP 13 (by decide) (by decide))
  obtain ⟨⟨a1, a2, a3⟩, b1, ⟨c1, c2, c3⟩, d1, e1, f1⟩ := hh
  unfold xHa
  rw [q9, q13]
  exact ⟨⟨a1, a2, xPile_fr (fun k _ => by rw [q10]) a3⟩, b1, ⟨c1, c2, xRows_fr (fun k _ => by rw [q11, q12]; exact ⟨rfl, rfl⟩) c3⟩, d1, e1, f1⟩
theorem xMk_fr {P : Nat → Prop} (hf : gFr P M M2) (hP : ∀ o, 36 < o → ¬ P o) (hm : xMk M q N mk) : xMk M2 q N mk := by
  obtain ⟨h1, h2, h3, h4, h5, h6, h7⟩ := hm
  have hq := hf.2 q (hP q h5)
  unfold xMk gAr gTy gLen
  rw [hq, hf.1]
  exact ⟨h1, h2, h3, h4, h5, h6, h7⟩
theorem xHa_push (hh : xHa M (pl, nm, rs, nx, st, as)) (hl : pl.length < 32) : xHa (gsI (gsI M 10 pl.length v) 9 1 (nI (pl.length + 1))) (v :: pl, nm, rs, nx, st, as) := by
  obtain ⟨⟨a1, a2, a3⟩, b1, ⟨c1, c2, c3⟩, d1, e1, f1⟩ := hh
  refine ⟨⟨by simp [gsI_1], by simp only [List.length_cons]; omega, ⟨by simp [gsI_1], xPile_fr (fun k hk => ?_) a3⟩⟩, fun k hk => ?_, ⟨?_, c2, xRows_fr (fun k hk => ?_) c3⟩, ?_, ?_, ?_⟩
  · simp only [gsI_1]; rw [if_neg (by omega), if_neg (by omega)]
  · simp [gsI_1]; exact b1 k hk
  · simp [gsI_1]; exact c1
  · simp [gsI_1]
  · simp [gsI_1]; exact d1
  · simp [gsI_1]; exact e1
  · simp [gsI_1]; exact f1
theorem xHa_pop (hh : xHa M (v :: pl, nm, rs, nx, st, as)) : xHa (gsI M 9 1 (nI pl.length)) (pl, nm, rs, nx, st, as) := by
  obtain ⟨⟨a1, a2, a3⟩, b1, ⟨c1, c2, c3⟩, d1, e1, f1⟩ := hh
  refine ⟨⟨by simp [gsI_1], by simp only [List.length_cons] at a2 ⊢; omega, xPile_fr (fun k hk => ?_) a3.2⟩, fun k hk => ?_, ⟨?_, c2, xRows_fr (fun k hk => ?_) c3⟩, ?_, ?_, ?_⟩
  · simp [gsI_1]
  · simp [gsI_1]; exact b1 k hk
  · simp [gsI_1]; exact c1
  · simp [gsI_1]
  · simp [gsI_1]; exact d1
  · simp [gsI_1]; exact e1
  · simp [gsI_1]; exact f1
theorem xHa_name (hh : xHa M (pl, nm, rs, nx, st, as)) {j : Nat} : xHa (gsI M 13 j v) (pl, (fun k => if k = j then v else nm k), rs, nx, st, as) := by
  obtain ⟨⟨a1, a2, a3⟩, b1, ⟨c1, c2, c3⟩, d1, e1, f1⟩ := hh
  refine ⟨⟨by simp [gsI_1]; exact a1, a2, xPile_fr (fun k hk => ?_) a3⟩, fun k hk => ?_, ⟨?_, c2, xRows_fr (fun k hk => ?_) c3⟩, ?_, ?_, ?_⟩
  · simp [gsI_1]
  · simp only [gsI_1, true_and]
    by_cases hkj : k = j
    · simp [hkj]
    · simp only [hkj, if_false]; exact b1 k hk
  · simp [gsI_1]; exact c1
  · simp [gsI_1]
  · simp [gsI_1]; exact d1
  · simp [gsI_1]; exact e1
  · simp [gsI_1]; exact f1
theorem xHa_nx (hh : xHa M (pl, nm, rs, nx, st, as)) {j : Nat} (hj : j ≤ 2000) : xHa (gsI M 9 7 (nI j)) (pl, nm, rs, j, st, as) := by
  obtain ⟨⟨a1, a2, a3⟩, b1, ⟨c1, c2, c3⟩, d1, e1, f1⟩ := hh
  refine ⟨⟨by simp [gsI_1]; exact a1, a2, xPile_fr (fun k hk => ?_) a3⟩, fun k hk => ?_, ⟨?_, c2, xRows_fr (fun k hk => ?_) c3⟩, ⟨?_, hj⟩, ?_, ?_⟩
  · simp [gsI_1]
  · simp [gsI_1]; exact b1 k hk
  · simp [gsI_1]; exact c1
  · simp [gsI_1]
  · simp [gsI_1]
  · simp [gsI_1]; exact e1
  · simp [gsI_1]; exact f1
theorem xHa_st (hh : xHa M (pl, nm, rs, nx, st, as)) {j : Nat} (hj : j ≤ 2001) (hv : v = nI j - 1) : xHa (gsI M 9 8 v) (pl, nm, rs, nx, j, as) := by
  obtain ⟨⟨a1, a2, a3⟩, b1, ⟨c1, c2, c3⟩, d1, e1, f1⟩ := hh
  refine ⟨⟨by simp [gsI_1]; exact a1, a2, xPile_fr (fun k hk => ?_) a3⟩, fun k hk => ?_, ⟨?_, c2, xRows_fr (fun k hk => ?_) c3⟩, ?_, ⟨?_, hj⟩, ?_⟩
  · simp [gsI_1]
  · simp [gsI_1]; exact b1 k hk
  · simp [gsI_1]; exact c1
  · simp [gsI_1]
  · simp [gsI_1]; exact d1
  · simp [gsI_1]; exact hv
  · simp [gsI_1]; exact f1
theorem xHa_as (hh : xHa M (pl, nm, rs, nx, st, as)) {j : Nat} (hv : v = nI j) : xHa (gsI M 9 9 v) (pl, nm, rs, nx, st, j) := by
  obtain ⟨⟨a1, a2, a3⟩, b1, ⟨c1, c2, c3⟩, d1, e1, f1⟩ := hh
  refine ⟨⟨by simp [gsI_1]; exact a1, a2, xPile_fr (fun k hk => ?_) a3⟩, fun k hk => ?_, ⟨?_, c2, xRows_fr (fun k hk => ?_) c3⟩, ?_, ?_, ?_⟩
  · simp [gsI_1]
  · simp [gsI_1]; exact b1 k hk
  · simp [gsI_1]; exact c1
  · simp [gsI_1]
  · simp [gsI_1]; exact d1
  · simp [gsI_1]; exact e1
  · simp [gsI_1]; exact hv
theorem xHa_rpush (hh : xHa M (pl, nm, rs, nx, st, as)) (hl : rs.length < 3) {u w : Nat} (hu : u ≤ 200) (hw : w ≤ 2000) : xHa (gsI (gsI (gsI M 11 rs.length (nI u)) 12 rs.length (nI w)) 9 4 (nI (rs.length + 1))) (pl, nm, (u, w) :: rs, nx, st, as) := by
  obtain ⟨⟨a1, a2, a3⟩, b1, ⟨c1, c2, c3⟩, d1, e1, f1⟩ := hh
  refine ⟨⟨by simp [gsI_1]; exact a1, a2, xPile_fr (fun k hk => ?_) a3⟩, fun k hk => ?_, ⟨by simp [gsI_1], by simp only [List.length_cons]; omega, ⟨⟨?_, ?_, hu, hw⟩, xRows_fr (fun k hk => ?_) c3⟩⟩, ?_, ?_, ?_⟩
  · simp [gsI_1]
  · simp [gsI_1]; exact b1 k hk
  · simp [gsI_1]
  · simp [gsI_1]
  · simp only [gsI_1]
    refine ⟨?_, ?_⟩
    · rw [if_neg (by omega), if_neg (by omega), if_neg (by omega)]
    · rw [if_neg (by omega), if_neg (by omega), if_neg (by omega)]
  · simp [gsI_1]; exact d1
  · simp [gsI_1]; exact e1
  · simp [gsI_1]; exact f1
theorem xHa_rpop {u : Nat × Nat} (hh : xHa M (pl, nm, u :: rs, nx, st, as)) : xHa (gsI M 9 4 (nI rs.length)) (pl, nm, rs, nx, st, as) := by
  obtain ⟨⟨a1, a2, a3⟩, b1, ⟨c1, c2, c3⟩, d1, e1, f1⟩ := hh
  refine ⟨⟨by simp [gsI_1]; exact a1, a2, xPile_fr (fun k hk => ?_) a3⟩, fun k hk => ?_, ⟨by simp [gsI_1], by simp only [List.length_cons] at c2 ⊢; omega, xRows_fr (fun k hk => ?_) c3.2⟩, ?_, ?_, ?_⟩
  · simp [gsI_1]
  · simp [gsI_1]; exact b1 k hk
  · simp [gsI_1]
  · simp [gsI_1]; exact d1
  · simp [gsI_1]; exact e1
  · simp [gsI_1]; exact f1
theorem xHa_rset {u w z : Nat} (hh : xHa M (pl, nm, (u, w) :: rs, nx, st, as)) (hz : z ≤ 200) : xHa (gsI M 11 rs.length (nI z)) (pl, nm, (z, w) :: rs, nx, st, as) := by
  obtain ⟨⟨a1, a2, a3⟩, b1, ⟨c1, c2, c3⟩, d1, e1, f1⟩ := hh
  refine ⟨⟨by simp [gsI_1]; exact a1, a2, xPile_fr (fun k hk => ?_) a3⟩, fun k hk => ?_, ⟨by simp [gsI_1]; exact c1, c2, ⟨⟨by simp [gsI_1], ?_, hz, c3.1.2.2.2⟩, xRows_fr (fun k hk => ?_) c3.2⟩⟩, ?_, ?_, ?_⟩
  · simp [gsI_1]
  · simp [gsI_1]; exact b1 k hk
  · simp [gsI_1]; exact c3.1.2.1
  · simp only [gsI_1]
    refine ⟨?_, ?_⟩
    · rw [if_neg (by omega)]
    · rw [if_neg (by omega)]
  · simp [gsI_1]; exact d1
  · simp [gsI_1]; exact e1
  · simp [gsI_1]; exact f1
end
