/-! The class's strength, pull and moves are the reference's. -/
section
variable {ly : Nat → Nat → Nat} {n a f t A : Nat} {st sv : Nat → Nat} {al : Nat → Bool} {up : Nat → Nat} {pin : Option Nat}
def lyOk (ly : Nat → Nat → Nat) (n : Nat) : Prop := nSrt ly n ∧ ∀ k, k < n → ly k 2 < 8 ∧ ly k 1 + ly k 5 ≤ 8
theorem nLast_max {P : Nat → Prop} [DecidablePred P] {t : Nat} : ∀ n, nLast P n = some t → ∀ k, t < k → k < n → ¬ P k
  | 0, h => by cases h
  | n + 1, h => by
    unfold nLast at h
    split at h
    · cases h
      intro k h1 h2
      omega
    · rename_i hp
      intro k h1 h2
      by_cases hk : k = n
      · subst hk; exact hp
      · exact nLast_max n h k h1 (by omega)
theorem nLast_no {P : Nat → Prop} [DecidablePred P] : ∀ n, nLast P n = none → ∀ k, k < n → ¬ P k
  | 0, _ => fun k hk => absurd hk (Nat.not_lt_zero k)
  | n + 1, h => by
    unfold nLast at h
    split at h
    · cases h
    · rename_i hp
      intro k hk
      by_cases hkn : k = n
      · subst hkn; exact hp
      · exact nLast_no n h k (by omega)
theorem str_eq (ho : lyOk ly n) : nStrength ly n a = 4 * nPs ly a n + rStr ly (fun _ => true) n a n := by
  obtain ⟨hs, hl⟩ := ho
  unfold nStrength
  cases hn : nLast (fun k => ly k 0 = a) n with
  | none =>
    have hno := nLast_no n hn
    show 0 = _
    rw [nPs_no hno, rStr_no hno]
  | some t =>
    obtain ⟨h1, h2⟩ := nLast_lt hn
    have hb := nFW_blk hs h1 (fun k h3 h4 => by rw [h2]; exact nLast_max n hn k h3 h4)
    rw [h2] at hb
    show nHP ly (nFW ly t) (t + 1 - nFW ly t) + nHM (nHeap (fun _ => 0) ly (t + 1) (n - (t + 1))) ly (nFW ly t) (t + 1 - nFW ly t) = _
    rw [blk_ps hb, blk_str (al := fun _ => true) (up := nHeap (fun _ => 0) ly (t + 1) (n - (t + 1))) hb (fun k hk => (hl k hk).2) (fun k r h3 h4 h5 => ?_)]
    rw [rUp_blk hb h3 h4, nHeap_at (n := n) (fun k hk => (hl k hk).1) (hl k (by omega)).1 _ (by omega)]
    show 0 + _ = _
    omega
theorem pl_eq (ho : lyOk ly n) {b m : Nat} : nPl ly st n b m = rPu ly (fun r => st (8 * m + r)) b n := by
  obtain ⟨hs, hl⟩ := ho
  unfold nPl
  cases hn : nLast (fun k => ly k 0 = b) n with
  | none => exact (rPu_no (nLast_no n hn)).symm
  | some t =>
    obtain ⟨h1, h2⟩ := nLast_lt hn
    have hb := nFW_blk hs h1 (fun k h3 h4 => by rw [h2]; exact nLast_max n hn k h3 h4)
    rw [h2] at hb
    exact (blk_pu hb).symm
theorem mv_eq (ho : lyOk ly n) (hn400 : n ≤ 400) : ∀ A' t fu (s : nHs) (sr : rSt), t ≤ fu → t ≤ n → (∀ j, j < t → ly j 0 < A') → (∀ j, t ≤ j → j < n → A' ≤ ly j 0) → (∀ q, q < n → s.2.1 q = sr.1 (ly q 0)) → (∀ r q, q < 8 → s.1 (r * 8 + q) = hC ly (fun b => !sr.1 b) t r q (n - t)) → s.2.2 = sr.2 →
    (∀ q, q < n → (nMv ly st pin fu t s).2.1 q = (rMv ly n (fun a => rPu ly st a n) pin A' sr).1 (ly q 0)) ∧ (nMv ly st pin fu t s).2.2 = (rMv ly n (fun a => rPu ly st a n) pin A' sr).2
  | 0, t, fu, s, sr, hfu, ht, h1, h2, hg, hh, hl => by
    have ht0 : t = 0 := by
      rcases Nat.eq_zero_or_pos t with h | h
      · exact h
      · have := h1 0 h; omega
    subst ht0
    have he : nMv ly st pin fu 0 s = s := by cases fu <;> rfl
    rw [he]
    exact ⟨hg, hl⟩
  | a + 1, t, fu, s, sr, hfu, ht, h1, h2, hg, hh, hl => by
    obtain ⟨hs, hly⟩ := id ho
    show (∀ q, q < n → _ = (rMv ly n (fun a => rPu ly st a n) pin a (rStep ly n (fun a => rPu ly st a n) pin a sr)).1 (ly q 0)) ∧ _ = (rMv ly n (fun a => rPu ly st a n) pin a (rStep ly n (fun a => rPu ly st a n) pin a sr)).2
    by_cases hhas : rHas ly a n = true
    · obtain ⟨k, hk1, hk2⟩ := (rHas_iff n).mp hhas
      have hkt : k < t := by
        rcases Nat.lt_or_ge k t with h | h
        · exact h
        · have := h2 k h hk1; omega
      obtain ⟨t', rfl⟩ : ∃ t', t = t' + 1 := ⟨t - 1, by omega⟩
      have hta : ly t' 0 = a := by
        have q1 := h1 t' (by omega)
        have q2 := hs k t' (by omega) (by omega)
        omega
      have hb := nFW_blk hs (show t' < n by omega) (fun j h3 h4 => by rw [hta]; have := h2 j h3 h4; omega)
      rw [hta] at hb
      obtain ⟨fu', rfl⟩ : ∃ fu', fu = fu' + 1 := ⟨fu - 1, by omega⟩
      obtain ⟨b1, b2, b3, b4⟩ := id hb
      generalize hf : nFW ly t' = f at hb b1 b3 b4
      have hmv : nMv ly st pin (fu' + 1) (t' + 1) s = if s.2.1 t' then nMv ly st pin fu' f s
        else if nHP ly f (t' + 1 - f) + nHM s.1 ly f (t' + 1 - f) + (if some (ly t' 0) = pin then 4 else 0) < nPull ly st f (t' + 1 - f) then
          nMv ly st pin fu' f (s.1, fun q => decide (f ≤ q ∧ q < t' + 1) || s.2.1 q, s.2.2 ++ [ly t' 0])
        else nMv ly st pin fu' f (nHeap s.1 ly f (t' + 1 - f), s.2.1, s.2.2) := by
        rw [nMv, hf]
      have hstr : rStr ly (fun q => !sr.1 q) n a n = nHM s.1 ly f (t' + 1 - f) := blk_str hb (fun k hk => (hly k hk).2) (fun k r h3 h4 h5 => by
        rw [rUp_blk hb h3 h4]
        exact hh r (ly k 2) (hly k (by omega)).1)
      have hlow : ∀ j, j < f → ly j 0 < a := fun j hj => by
        have q1 := h1 j (by omega)
        have q2 := b4 j (by omega) (Or.inl hj)
        omega
      have hhigh : ∀ j, f ≤ j → j < n → a ≤ ly j 0 := fun j h3 h4 => by
        by_cases hjt : j ≤ t'
        · rw [b3 j h3 hjt]; exact Nat.le_refl _
        · have := h2 j (by omega) h4; omega
      have hga := hg t' (by omega)
      rw [hta] at hga
      have hsplit : ∀ al r q, hC ly al f r q (n - f) = hC ly al f r q (t' + 1 - f) + hC ly al (t' + 1) r q (n - (t' + 1)) := fun al r q => by
        have := hC_add (ly := ly) (al := al) (lo := f) (r := r) (q := q) (t' + 1 - f) (n - (t' + 1))
        rw [show t' + 1 - f + (n - (t' + 1)) = n - f by omega, show f + (t' + 1 - f) = t' + 1 by omega] at this
        exact this
      rw [hmv]
      by_cases hgone : sr.1 a = true
      · have hstp : rStep ly n (fun a => rPu ly st a n) pin a sr = sr := by unfold rStep; rw [if_neg (fun z => by rw [hgone] at z; exact absurd z.1 (by decide))]
        rw [hstp, if_pos (by rw [hga]; exact hgone)]
        refine mv_eq ho hn400 a f fu' s sr (by omega) (by omega) hlow hhigh hg (fun r q hq => ?_) hl
        rw [hsplit, hC_0 (t' + 1 - f) (fun i hi => by rw [b3 (f + i) (by omega) (by omega), hgone]; rfl), Nat.zero_add]
        exact hh r q hq
      · have hgf : sr.1 a = false := by simpa using hgone
        rw [if_neg (by rw [hga]; exact hgone)]
        have hcond : (nHP ly f (t' + 1 - f) + nHM s.1 ly f (t' + 1 - f) + (if some (ly t' 0) = pin then 4 else 0) < nPull ly st f (t' + 1 - f)) ↔ rHold ly n pin sr.1 a < rPu ly st a n := by
          unfold rHold
          rw [blk_ps hb, hstr, blk_pu hb, hta]
        by_cases hslip : rHold ly n pin sr.1 a < rPu ly st a n
        · have hstp : rStep ly n (fun a => rPu ly st a n) pin a sr = ((fun q => if q = a then true else sr.1 q), sr.2 ++ [a]) := by unfold rStep; rw [if_pos ⟨hgf, hhas, hslip⟩]
          rw [hstp, if_pos (hcond.mpr hslip)]
          refine mv_eq ho hn400 a f fu' _ _ (by omega) (by omega) hlow hhigh (fun q hq => ?_) (fun r q hq => ?_) ?_
          · show (decide (f ≤ q ∧ q < t' + 1) || s.2.1 q) = if ly q 0 = a then true else sr.1 (ly q 0)
            by_cases hin : f ≤ q ∧ q < t' + 1
            · rw [decide_eq_true hin, if_pos (b3 q hin.1 (by omega))]; rfl
            · rw [decide_eq_false hin, if_neg (b4 q hq (by omega)), Bool.false_or]
              exact hg q hq
          · show s.1 (r * 8 + q) = _
            rw [hsplit, hC_0 (t' + 1 - f) (fun i hi => by
              show (!(if ly (f + i) 0 = a then true else sr.1 (ly (f + i) 0))) = false
              rw [if_pos (b3 (f + i) (by omega) (by omega))]; rfl), Nat.zero_add, hh r q hq]
            refine hC_c _ (fun i hi => ?_)
            have := b4 (t' + 1 + i) (by omega) (Or.inr (by omega))
            show (!sr.1 (ly (t' + 1 + i) 0)) = !(if ly (t' + 1 + i) 0 = a then true else sr.1 (ly (t' + 1 + i) 0))
            rw [if_neg this]
          · show s.2.2 ++ [ly t' 0] = sr.2 ++ [a]
            rw [hl, hta]
        · have hstp : rStep ly n (fun a => rPu ly st a n) pin a sr = sr := by unfold rStep; rw [if_neg (fun z => hslip z.2.2)]
          rw [hstp, if_neg (fun z => hslip (hcond.mp z))]
          refine mv_eq ho hn400 a f fu' _ _ (by omega) (by omega) hlow hhigh hg (fun r q hq => ?_) hl
          show nHeap s.1 ly f (t' + 1 - f) (r * 8 + q) = _
          rw [nHeap_at (n := n) (fun k hk => (hly k hk).1) hq _ (by omega), hsplit, hh r q hq, hC_c (al := fun _ => true) (al' := fun b => !sr.1 b) (lo := f) (t' + 1 - f) (fun i hi => by rw [b3 (f + i) (by omega) (by omega), hgf]; rfl)]
          omega
    · have hstp : rStep ly n (fun a => rPu ly st a n) pin a sr = sr := by unfold rStep; rw [if_neg (fun z => hhas z.2.1)]
      rw [hstp]
      have hno : ∀ k, k < n → ly k 0 ≠ a := fun k hk he => hhas ((rHas_iff n).mpr ⟨k, hk, he⟩)
      exact mv_eq ho hn400 a t fu s sr hfu ht (fun j hj => by have := h1 j hj; have := hno j (by omega); omega) (fun j h3 h4 => by have := h2 j h3 h4; omega) hg hh hl
theorem play_eq (ho : lyOk ly n) (hn400 : n ≤ 400) (hA : ∀ k, k < n → ly k 0 < A) : ∀ m, (∀ q, q < n → (nPlay ly sv pin n m).1 q = (rPlay ly n (fun i r => sv (8 * i + r)) A pin m).1 (ly q 0)) ∧ (nPlay ly sv pin n m).2 = (rPlay ly n (fun i r => sv (8 * i + r)) A pin m).2
  | 0 => ⟨fun _ _ => rfl, rfl⟩
  | m + 1 => by
    obtain ⟨h1, h2⟩ := play_eq ho hn400 hA m
    exact mv_eq ho hn400 A n 400 (fun _ => 0, (nPlay ly sv pin n m).1, (nPlay ly sv pin n m).2) (rPlay ly n (fun i r => sv (8 * i + r)) A pin m) hn400 (Nat.le_refl _) hA (fun j h3 h4 => by omega) h1 (fun r q hq => by rw [Nat.sub_self]; rfl) h2
theorem rStep_c {pu pu' : Nat → Nat} (h : ∀ a, pu a = pu' a) (s : rSt) : rStep ly n pu pin a s = rStep ly n pu' pin a s := by unfold rStep; rw [h a]
theorem rMv_c {pu pu' : Nat → Nat} (h : ∀ a, pu a = pu' a) : ∀ a (s : rSt), rMv ly n pu pin a s = rMv ly n pu' pin a s
  | 0, _ => rfl
  | a + 1, s => by
    show rMv ly n pu pin a (rStep ly n pu pin a s) = rMv ly n pu' pin a (rStep ly n pu' pin a s)
    rw [rStep_c h, rMv_c h a]
/-- the moves' stretches matter on the eight rings alone -/
theorem rPlay_c {g g' : Nat → Nat → Nat} (hl : ∀ k, k < n → ly k 1 + ly k 5 ≤ 8) : ∀ m, (∀ i r, i < m → r < 8 → g i r = g' i r) → rPlay ly n g A pin m = rPlay ly n g' A pin m
  | 0, _ => rfl
  | m + 1, h => by
    show rMv ly n (fun a => rPu ly (g m) a n) pin A (rPlay ly n g A pin m) = rMv ly n (fun a => rPu ly (g' m) a n) pin A (rPlay ly n g' A pin m)
    rw [rPlay_c hl m (fun i r hi hr => h i r (by omega) hr), rMv_c (fun a => rPu_c (fun r hr => h m r (by omega) hr) hl n (Nat.le_refl _))]
end
