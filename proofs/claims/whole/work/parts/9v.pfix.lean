/-! fix: the class's and the reference's. -/
section
variable {ly : Nat → Nat → Nat} {n A mo : Nat} {f : Nat → Nat → Nat} {pin : Option Nat} {ov : Nat → Nat}
def wk (ly : Nat → Nat → Nat) (n : Nat) (f : Nat → Nat → Nat) (pin : Option Nat) (k a : Nat) : Prop := rHas ly a n = true ∧ rHold ly n pin (fun _ => false) a < rPu ly (f k) a n
theorem mvG {k : Nat} {Pst : Prop} {Q : Nat → Prop} (hQ : ∀ b, b < A → wk ly n f pin k b → Q b) : ∀ a (s : rSt), a ≤ A → (s.2 = [] → s.1 = (fun _ => false) ∧ Pst ∧ ∀ b, a ≤ b → b < A → ¬ wk ly n f pin k b) → (∀ a0 l, s.2 = a0 :: l → Q a0) →
    ((rMv ly n (fun a => rPu ly (f k) a n) pin a s).2 = [] → (rMv ly n (fun a => rPu ly (f k) a n) pin a s).1 = (fun _ => false) ∧ Pst ∧ ∀ b, b < A → ¬ wk ly n f pin k b) ∧ ∀ a0 l, (rMv ly n (fun a => rPu ly (f k) a n) pin a s).2 = a0 :: l → Q a0
  | 0, s, _, h1, h2 => ⟨fun h => ⟨(h1 h).1, (h1 h).2.1, fun b hb => (h1 h).2.2 b (Nat.zero_le _) hb⟩, h2⟩
  | a + 1, s, ha, h1, h2 => by
    show (_ → (rMv ly n (fun a => rPu ly (f k) a n) pin a (rStep ly n (fun a => rPu ly (f k) a n) pin a s)).1 = _ ∧ _) ∧ _
    refine mvG hQ a (rStep ly n (fun a => rPu ly (f k) a n) pin a s) (by omega) (fun he => ?_) (fun a0 l he => ?_)
    · unfold rStep at he ⊢
      split at he
      · simp at he
      · rename_i hc
        rw [if_neg hc]
        obtain ⟨q1, q2, q3⟩ := h1 he
        refine ⟨q1, q2, fun b hb1 hb2 hw => ?_⟩
        by_cases hba : b = a
        · subst hba
          exact hc ⟨by rw [q1], hw.1, by rw [q1]; exact hw.2⟩
        · exact q3 b (by omega) hb2 hw
    · unfold rStep at he
      split at he
      · rename_i hc
        cases hs : s.2 with
        | nil =>
          have he : s.2 ++ [a] = a0 :: l := he
          rw [hs] at he
          obtain ⟨q1, q2, q3⟩ := h1 hs
          have h0 : a = a0 := (List.cons.inj he).1
          subst h0
          exact hQ a (by omega) ⟨hc.2.1, by have := hc.2.2; rw [q1] at this; exact this⟩
        | cons c l' =>
          have he : s.2 ++ [a] = a0 :: l := he
          rw [hs] at he
          have h0 : c = a0 := (List.cons.inj he).1
          subst h0
          exact h2 c l' hs
      · exact h2 a0 l he
theorem playG : ∀ m, ((rPlay ly n f A pin m).2 = [] → (rPlay ly n f A pin m).1 = (fun _ => false) ∧ ∀ k b, k < m → b < A → ¬ wk ly n f pin k b) ∧ ∀ a0 l, (rPlay ly n f A pin m).2 = a0 :: l → ∃ k, k < m ∧ a0 < A ∧ wk ly n f pin k a0
  | 0 => ⟨fun _ => ⟨rfl, fun k b hk => absurd hk (Nat.not_lt_zero k)⟩, fun a0 l h => by cases h⟩
  | m + 1 => by
    obtain ⟨h1, h2⟩ := playG m
    have h := mvG (ly := ly) (n := n) (A := A) (f := f) (pin := pin) (k := m) (Pst := ∀ k b, k < m → b < A → ¬ wk ly n f pin k b) (Q := fun a0 => ∃ k, k < m + 1 ∧ a0 < A ∧ wk ly n f pin k a0) (fun b hb hw => ⟨m, by omega, hb, hw⟩) A (rPlay ly n f A pin m) (Nat.le_refl _) (fun he => ⟨(h1 he).1, (h1 he).2, fun b hb1 hb2 => by omega⟩) (fun a0 l he => by
      obtain ⟨k, q1, q2, q3⟩ := h2 a0 l he
      exact ⟨k, by omega, q2, q3⟩)
    refine ⟨fun he => ?_, h.2⟩
    obtain ⟨q1, q2, q3⟩ := h.1 he
    refine ⟨q1, fun k b hk hb => ?_⟩
    by_cases hkm : k = m
    · subst hkm; exact q3 b hb
    · exact q2 k b (by omega) hb
theorem rMost_lt {a x : Nat} : ∀ m, x < rMost ly n f a m ↔ ∃ k, k < m ∧ x < rPu ly (f k) a n
  | 0 => by simp [rMost]
  | m + 1 => by
    show x < max (rMost ly n f a m) (rPu ly (f m) a n) ↔ _
    have hmx : x < max (rMost ly n f a m) (rPu ly (f m) a n) ↔ x < rMost ly n f a m ∨ x < rPu ly (f m) a n := by omega
    rw [hmx, rMost_lt m]
    constructor
    · rintro (⟨k, h1, h2⟩ | h)
      · exact ⟨k, by omega, h2⟩
      · exact ⟨m, by omega, h⟩
    · rintro ⟨k, h1, h2⟩
      by_cases hk : k = m
      · subst hk; exact Or.inr h2
      · exact Or.inl ⟨k, by omega, h2⟩
def uq (ov : Nat → Nat) (j b c : Nat) : Prop := b ≤ c ∧ c < b + j ∧ ov c ≠ 0 ∧ ov c ≤ 4 ∧ ∀ d, b ≤ d → d < b + j → d ≠ c → ov d = 0
theorem rFx_0 : ∀ j b w, (∀ d, b ≤ d → d < b + j → ov d = 0) → rFx ov j b w = w
  | 0, _, _, _ => rfl
  | j + 1, b, w, h => by
    rw [rFx, if_pos (h b (Nat.le_refl _) (by omega))]
    exact rFx_0 j (b + 1) w (fun d h1 h2 => h d (by omega) (by omega))
theorem rFx_s {k : Nat} : ∀ j b, (∃ d, b ≤ d ∧ d < b + j ∧ ov d ≠ 0) → rFx ov j b (some k) = none
  | 0, b, ⟨d, h1, h2, _⟩ => by omega
  | j + 1, b, ⟨d, h1, h2, h3⟩ => by
    rw [rFx]
    by_cases h0 : ov b = 0
    · rw [if_pos h0]
      have hdb : d ≠ b := fun z => h3 (by rw [z]; exact h0)
      exact rFx_s j (b + 1) ⟨d, by omega, by omega, h3⟩
    · rw [if_neg h0, if_pos (Or.inl (by simp))]
theorem rFx_n : ∀ j b, (∀ c, uq ov j b c → rFx ov j b none = some c) ∧ ((¬ ∃ c, uq ov j b c) → rFx ov j b none = none)
  | 0, b => ⟨fun c h => by have := h.1; have := h.2.1; omega, fun _ => rfl⟩
  | j + 1, b => by
    obtain ⟨h1, h2⟩ := rFx_n j (b + 1)
    rw [rFx]
    by_cases h0 : ov b = 0
    · rw [if_pos h0]
      have hu : ∀ c, uq ov (j + 1) b c ↔ uq ov j (b + 1) c := fun c => by
        constructor
        · rintro ⟨q1, q2, q3, q4, q5⟩
          have : c ≠ b := fun z => q3 (by rw [z]; exact h0)
          exact ⟨by omega, by omega, q3, q4, fun d r1 r2 r3 => q5 d (by omega) (by omega) r3⟩
        · rintro ⟨q1, q2, q3, q4, q5⟩
          refine ⟨by omega, by omega, q3, q4, fun d r1 r2 r3 => ?_⟩
          by_cases hdb : d = b
          · rw [hdb]; exact h0
          · exact q5 d (by omega) (by omega) r3
      exact ⟨fun c h => h1 c ((hu c).mp h), fun h => h2 (fun ⟨c, hc⟩ => h ⟨c, (hu c).mpr hc⟩)⟩
    · rw [if_neg h0]
      by_cases h4 : 4 < ov b
      · rw [if_pos (Or.inr h4)]
        refine ⟨fun c h => ?_, fun _ => rfl⟩
        obtain ⟨q1, q2, q3, q4, q5⟩ := h
        by_cases hcb : c = b
        · rw [hcb] at q4; omega
        · exact absurd (q5 b (Nat.le_refl _) (by omega) (fun z => hcb z.symm)) h0
      · rw [if_neg (fun z => by rcases z with z | z; exact z rfl; exact h4 z)]
        by_cases hex : ∃ d, b + 1 ≤ d ∧ d < b + 1 + j ∧ ov d ≠ 0
        · rw [rFx_s j (b + 1) hex]
          obtain ⟨d, r1, r2, r3⟩ := hex
          refine ⟨fun c h => ?_, fun _ => rfl⟩
          obtain ⟨q1, q2, q3, q4, q5⟩ := h
          by_cases hcb : c = b
          · exact absurd (q5 d (by omega) (by omega) (by omega)) r3
          · exact absurd (q5 b (Nat.le_refl _) (by omega) (fun z => hcb z.symm)) h0
        · have hz : ∀ d, b + 1 ≤ d → d < b + 1 + j → ov d = 0 := fun d r1 r2 => by
            by_cases hd : ov d = 0
            · exact hd
            · exact absurd ⟨d, r1, r2, hd⟩ hex
          rw [rFx_0 j (b + 1) _ hz]
          refine ⟨fun c h => ?_, fun h => absurd ⟨b, Nat.le_refl _, by omega, h0, by omega, fun d r1 r2 r3 => hz d (by omega) (by omega)⟩ h⟩
          obtain ⟨q1, q2, q3, q4, q5⟩ := h
          by_cases hcb : c = b
          · rw [hcb]
          · exact absurd (hz c (by omega) (by omega)) q3
theorem wk_none {k a : Nat} : wk ly n f none k a ↔ rHas ly a n = true ∧ 4 * nPs ly a n + rStr ly (fun _ => true) n a n < rPu ly (f k) a n := by
  unfold wk rHold
  rw [if_neg (by simp)]
  exact Iff.rfl
theorem wk_some {k a a0 : Nat} : wk ly n f (some a0) k a ↔ rHas ly a n = true ∧ 4 * nPs ly a n + rStr ly (fun _ => true) n a n + (if a = a0 then 4 else 0) < rPu ly (f k) a n := by
  unfold wk rHold
  have : (if some a = some a0 then 4 else 0) = if a = a0 then 4 else 0 := by
    by_cases h : a = a0
    · rw [if_pos h, if_pos (by rw [h])]
    · rw [if_neg h, if_neg (fun z => h (Option.some.inj z))]
  rw [this]
  exact Iff.rfl
theorem rOv_ne {a : Nat} : rOv ly n f mo a ≠ 0 ↔ ∃ k, k < mo ∧ wk ly n f none k a := by
  unfold rOv
  by_cases hh : rHas ly a n = true
  · rw [if_pos hh]
    have h1 := rMost_lt (ly := ly) (n := n) (f := f) (a := a) (x := 4 * nPs ly a n + rStr ly (fun _ => true) n a n) mo
    constructor
    · intro h
      obtain ⟨k, q1, q2⟩ := h1.mp (by omega)
      exact ⟨k, q1, wk_none.mpr ⟨hh, q2⟩⟩
    · rintro ⟨k, q1, q2⟩
      have := h1.mpr ⟨k, q1, (wk_none.mp q2).2⟩
      omega
  · rw [if_neg hh]
    constructor
    · intro h; exact absurd rfl h
    · rintro ⟨k, q1, q2⟩
      exact absurd (wk_none.mp q2).1 hh
theorem rOv_gt {a : Nat} : 4 < rOv ly n f mo a ↔ ∃ k, k < mo ∧ wk ly n f (some a) k a := by
  unfold rOv
  by_cases hh : rHas ly a n = true
  · rw [if_pos hh]
    have h1 := rMost_lt (ly := ly) (n := n) (f := f) (a := a) (x := 4 * nPs ly a n + rStr ly (fun _ => true) n a n + 4) mo
    constructor
    · intro h
      obtain ⟨k, q1, q2⟩ := h1.mp (by omega)
      exact ⟨k, q1, wk_some.mpr ⟨hh, by rw [if_pos rfl]; exact q2⟩⟩
    · rintro ⟨k, q1, q2⟩
      have q3 := (wk_some.mp q2).2
      rw [if_pos rfl] at q3
      have := h1.mpr ⟨k, q1, q3⟩
      omega
  · rw [if_neg hh]
    constructor
    · intro h; omega
    · rintro ⟨k, q1, q2⟩
      exact absurd (wk_some.mp q2).1 hh
theorem fix_eq {a0 : Nat} {l : List Nat} (h0 : (rPlay ly n f A none mo).2 = a0 :: l) : (if (rPlay ly n f A (some a0) mo).2.length = 0 then nI a0 else -1) = oI (rFx (rOv ly n f mo) A 0 none) := by
  obtain ⟨k0, hk0, ha0, hw0⟩ := (playG mo).2 a0 l h0
  have hov0 : rOv ly n f mo a0 ≠ 0 := rOv_ne.mpr ⟨k0, hk0, hw0⟩
  obtain ⟨hx1, hx2⟩ := rFx_n (ov := rOv ly n f mo) A 0
  have hg := playG (ly := ly) (n := n) (f := f) (A := A) (pin := some a0) mo
  by_cases hz : (rPlay ly n f A (some a0) mo).2.length = 0
  · rw [if_pos hz]
    have hno := (hg.1 (List.length_eq_zero_iff.mp hz)).2
    have hu : uq (rOv ly n f mo) A 0 a0 := by
      refine ⟨Nat.zero_le _, by omega, hov0, ?_, fun d _ hd hne => ?_⟩
      · rcases Nat.lt_or_ge 4 (rOv ly n f mo a0) with h | h
        · obtain ⟨k, q1, q2⟩ := rOv_gt.mp h
          exact absurd q2 (hno k a0 q1 ha0)
        · exact h
      · by_cases hd0 : rOv ly n f mo d = 0
        · exact hd0
        · obtain ⟨k, q1, q2⟩ := rOv_ne.mp hd0
          have q3 := wk_none.mp q2
          exact absurd (wk_some.mpr ⟨q3.1, by rw [if_neg hne]; exact q3.2⟩) (hno k d q1 (by omega))
    rw [hx1 a0 hu]
    rfl
  · rw [if_neg hz]
    have hnu : ¬ ∃ c, uq (rOv ly n f mo) A 0 c := by
      rintro ⟨c, q1, q2, q3, q4, q5⟩
      have hc : c = a0 := by
        by_cases hca : c = a0
        · exact hca
        · exact absurd (q5 a0 (Nat.zero_le _) (by omega) (fun z => hca z.symm)) hov0
      subst hc
      cases hl : (rPlay ly n f A (some c) mo).2 with
      | nil => exact hz (by rw [hl]; rfl)
      | cons b l' =>
        obtain ⟨k, r1, r2, r3⟩ := hg.2 b l' hl
        by_cases hbc : b = c
        · subst hbc
          have := rOv_gt.mpr ⟨k, r1, r3⟩
          omega
        · have r4 := wk_some.mp r3
          rw [if_neg hbc] at r4
          exact absurd (q5 b (Nat.zero_le _) (by omega) hbc) (rOv_ne.mpr ⟨k, r1, wk_none.mpr ⟨r4.1, r4.2⟩⟩)
    rw [hx2 hnu]
    rfl
end
