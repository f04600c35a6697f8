/-! Blocks of layers: the class's walks and the reference's scans. -/
def nSrt (ly : Nat → Nat → Nat) (n : Nat) : Prop := ∀ i j, i ≤ j → j < n → ly i 0 ≤ ly j 0
def nBlk (ly : Nat → Nat → Nat) (n a f t : Nat) : Prop := f ≤ t ∧ t < n ∧ (∀ k, f ≤ k → k ≤ t → ly k 0 = a) ∧ ∀ k, k < n → k < f ∨ t < k → ly k 0 ≠ a
theorem blk_up {X : Type} {ly : Nat → Nat → Nat} {n a f t : Nat} {F F' : Nat → X} {G : Nat → X → X} (hF : ∀ k, k < n → F (k + 1) = if ly k 0 = a then G k (F k) else F k) (h0 : F' 0 = F 0) (hs : ∀ c, c < t + 1 - f → F' (c + 1) = G (f + c) (F' c)) (hb : nBlk ly n a f t) : F n = F' (t + 1 - f) := by
  obtain ⟨h1, h2, h3, h4⟩ := hb
  have s1 : ∀ k, k ≤ f → F k = F 0 := by
    intro k
    induction k with
    | zero => intro _; rfl
    | succ k ih =>
      intro hk
      rw [hF k (by omega), if_neg (h4 k (by omega) (Or.inl (by omega)))]
      exact ih (by omega)
  have s2 : ∀ c, c ≤ t + 1 - f → F (f + c) = F' c := by
    intro c
    induction c with
    | zero => intro _; rw [h0]; exact s1 f (Nat.le_refl _)
    | succ c ih =>
      intro hc
      rw [show f + (c + 1) = f + c + 1 by omega, hF (f + c) (by omega), if_pos (h3 _ (by omega) (by omega)), hs c (by omega), ih (by omega)]
  have s3 : ∀ k, t + 1 ≤ k → k ≤ n → F k = F (t + 1) := by
    intro k
    induction k with
    | zero => intro hk _; omega
    | succ k ih =>
      intro hk hk2
      by_cases hkt : k = t
      · subst hkt; rfl
      · rw [hF k (by omega), if_neg (h4 k (by omega) (Or.inr (by omega)))]
        exact ih (by omega) (by omega)
  rw [s3 n (by omega) (Nat.le_refl _), show t + 1 = f + (t + 1 - f) by omega, s2 _ (Nat.le_refl _)]
  congr 1
  omega
theorem blk_no {X : Type} {ly : Nat → Nat → Nat} {n a : Nat} {F : Nat → X} {G : Nat → X → X} (hF : ∀ k, k < n → F (k + 1) = if ly k 0 = a then G k (F k) else F k) (hn : ∀ k, k < n → ly k 0 ≠ a) : F n = F 0 := by
  have : ∀ k, k ≤ n → F k = F 0 := by
    intro k
    induction k with
    | zero => intro _; rfl
    | succ k ih => intro hk; rw [hF k (by omega), if_neg (hn k (by omega))]; exact ih (by omega)
  exact this n (Nat.le_refl _)
section
variable {ly : Nat → Nat → Nat} {n a f t : Nat} {st : Nat → Nat} {al : Nat → Bool} {up : Nat → Nat}
theorem nPs_F (k : Nat) : nPs ly a (k + 1) = if ly k 0 = a then nPs ly a k + ly k 7 else nPs ly a k := by
  show nPs ly a k + (if ly k 0 = a then ly k 7 else 0) = _
  split <;> rfl
theorem rPu_F (k : Nat) : rPu ly st a (k + 1) = if ly k 0 = a then rPu ly st a k + nMxI st 0 (ly k 1) (ly k 5) else rPu ly st a k := by
  show rPu ly st a k + (if ly k 0 = a then nMxI st 0 (ly k 1) (ly k 5) else 0) = _
  split <;> rfl
theorem blk_ps (hb : nBlk ly n a f t) : 4 * nPs ly a n = nHP ly f (t + 1 - f) :=
  blk_up (F := fun k => 4 * nPs ly a k) (F' := nHP ly f) (G := fun k x => x + 4 * ly k 7) (fun k _ => by
    show 4 * nPs ly a (k + 1) = _
    rw [nPs_F]
    split
    · rw [Nat.mul_add]
    · rfl) rfl (fun c _ => rfl) hb
theorem blk_pu (hb : nBlk ly n a f t) : rPu ly st a n = nPull ly st f (t + 1 - f) :=
  blk_up (F := fun k => rPu ly st a k) (F' := nPull ly st f) (G := fun k x => x + nMxI st 0 (ly k 1) (ly k 5)) (fun k _ => rPu_F k) rfl (fun c _ => rfl) hb
theorem blk_str (hb : nBlk ly n a f t) (hl : ∀ k, k < n → ly k 1 + ly k 5 ≤ 8) (hup : ∀ k r, f ≤ k → k ≤ t → r < 8 → up (r * 8 + ly k 2) = rUp ly al k r (n - (k + 1))) : rStr ly al n a n = nHM up ly f (t + 1 - f) := by
  refine blk_up (F := fun k => rStr ly al n a k) (F' := nHM up ly f) (G := fun k x => nMxI (fun r => rUp ly al k r (n - (k + 1))) x (ly k 1) (ly k 5)) (fun k _ => rfl) rfl (fun c hc => ?_) hb
  show nMxI (fun r => up (r * 8 + ly (f + c) 2)) (nHM up ly f c) (ly (f + c) 1) (ly (f + c) 5) = _
  refine nMxI_c _ (fun r h1 h2 => ?_)
  have h3 := hb.2.1
  have h4 := hl (f + c) (by omega)
  exact hup (f + c) r (by omega) (by omega) (by omega)
theorem nPs_no (hn : ∀ k, k < n → ly k 0 ≠ a) : nPs ly a n = 0 := blk_no (F := fun k => nPs ly a k) (G := fun k x => x + ly k 7) (fun k _ => nPs_F k) hn
theorem rPu_no (hn : ∀ k, k < n → ly k 0 ≠ a) : rPu ly st a n = 0 := blk_no (F := fun k => rPu ly st a k) (G := fun k x => x + nMxI st 0 (ly k 1) (ly k 5)) (fun k _ => rPu_F k) hn
theorem rStr_no (hn : ∀ k, k < n → ly k 0 ≠ a) : rStr ly al n a n = 0 := blk_no (F := fun k => rStr ly al n a k) (G := fun k x => nMxI (fun r => rUp ly al k r (n - (k + 1))) x (ly k 1) (ly k 5)) (fun k _ => rfl) hn
theorem rHas_iff : ∀ n, rHas ly a n = true ↔ ∃ k, k < n ∧ ly k 0 = a
  | 0 => by simp [rHas]
  | n + 1 => by
    show (rHas ly a n || decide (ly n 0 = a)) = true ↔ _
    rw [Bool.or_eq_true, rHas_iff n, decide_eq_true_iff]
    constructor
    · rintro (⟨k, h1, h2⟩ | h)
      · exact ⟨k, by omega, h2⟩
      · exact ⟨n, by omega, h⟩
    · rintro ⟨k, h1, h2⟩
      by_cases hk : k = n
      · subst hk; exact Or.inr h2
      · exact Or.inl ⟨k, by omega, h2⟩
/-- the first of the act of t -/
theorem nFirst_spec {P : Nat → Prop} [DecidablePred P] : ∀ k c, nFirst P k c = c ∧ (k = 0 ∨ ¬ P (k - 1)) ∨ (nFirst P k c < k ∧ (∀ i, nFirst P k c ≤ i → i < k → P i) ∧ (nFirst P k c = 0 ∨ ¬ P (nFirst P k c - 1)))
  | 0, c => Or.inl ⟨rfl, Or.inl rfl⟩
  | k + 1, c => by
    by_cases h : P k
    · have he : nFirst P (k + 1) c = nFirst P k k := by rw [nFirst, if_pos h]
      rw [he]
      right
      rcases nFirst_spec (P := P) k k with ⟨h1, h2⟩ | ⟨h1, h2, h3⟩
      · rw [h1]
        refine ⟨by omega, fun i h3 h4 => by rw [show i = k by omega]; exact h, h2⟩
      · refine ⟨by omega, fun i h4 h5 => ?_, h3⟩
        by_cases hi : i = k
        · subst hi; exact h
        · exact h2 i h4 (by omega)
    · have he : nFirst P (k + 1) c = c := by rw [nFirst, if_neg h]
      exact Or.inl ⟨he, Or.inr h⟩
theorem nFW_blk (hs : nSrt ly n) (ht : t < n) (hlast : ∀ k, t < k → k < n → ly k 0 ≠ ly t 0) : nBlk ly n (ly t 0) (nFW ly t) t := by
  have hf := nFW_le (ly := ly) (t := t)
  unfold nFW at hf ⊢
  rcases nFirst_spec (P := fun k => ly k 0 = ly t 0) (t + 1) t with ⟨h1, h2⟩ | ⟨h1, h2, h3⟩
  · rcases h2 with h2 | h2
    · omega
    · exact absurd (by show ly (t + 1 - 1) 0 = ly t 0; rfl) h2
  · refine ⟨hf, ht, fun k h4 h5 => h2 k h4 (by omega), fun k h4 h5 => ?_⟩
    rcases h5 with h5 | h5
    · rcases h3 with h3 | h3
      · omega
      · intro he
        apply h3
        have q1 := hs k (nFirst (fun k => ly k 0 = ly t 0) (t + 1) t - 1) (by omega) (by omega)
        have q2 := hs (nFirst (fun k => ly k 0 = ly t 0) (t + 1) t - 1) t (by omega) ht
        show ly _ 0 = ly t 0
        omega
    · exact hlast k h5 h4
/-! heaps -/
/-- of the c layers from lo on those that lie there, of acts that lie -/
def hC (ly : Nat → Nat → Nat) (al : Nat → Bool) (lo r s : Nat) : Nat → Nat
  | 0 => 0
  | c + 1 => hC ly al lo r s c + if nLb (ly (lo + c)) r s = true ∧ al (ly (lo + c) 0) = true then 1 else 0
theorem nHeap1_at {s lo r q : Nat} (hs : s < 8) (hq : q < 8) : ∀ c, nHeap1 up s lo c (r * 8 + q) = up (r * 8 + q) + if s = q ∧ lo ≤ r ∧ r < lo + c then 1 else 0
  | 0 => by
    rw [nHeap1, if_neg (by omega)]
    rfl
  | c + 1 => by
    have ih := nHeap1_at (lo := lo) (r := r) hs hq c
    show (if r * 8 + q = (lo + c) * 8 + s then nHeap1 up s lo c (r * 8 + q) + 1 else nHeap1 up s lo c (r * 8 + q)) = _
    rw [ih]
    by_cases h : r * 8 + q = (lo + c) * 8 + s
    · rw [if_pos h, if_neg (by omega), if_pos (by omega)]
    · rw [if_neg h]
      by_cases h2 : s = q ∧ lo ≤ r ∧ r < lo + c
      · rw [if_pos h2, if_pos (by omega)]
      · rw [if_neg h2, if_neg (by omega)]
theorem nHeap_at {lo r q : Nat} (hl : ∀ k, k < n → ly k 2 < 8) (hq : q < 8) : ∀ c, lo + c ≤ n → nHeap up ly lo c (r * 8 + q) = up (r * 8 + q) + hC ly (fun _ => true) lo r q c
  | 0, _ => rfl
  | c + 1, hc => by
    show nHeap1 (nHeap up ly lo c) (ly (lo + c) 2) (ly (lo + c) 1) (ly (lo + c) 5) (r * 8 + q) = _
    rw [nHeap1_at (hl _ (by omega)) hq, nHeap_at hl hq c (by omega)]
    show _ = up (r * 8 + q) + (hC ly (fun _ => true) lo r q c + if nLb (ly (lo + c)) r q = true ∧ true = true then 1 else 0)
    have e : (ly (lo + c) 2 = q ∧ ly (lo + c) 1 ≤ r ∧ r < ly (lo + c) 1 + ly (lo + c) 5) ↔ (nLb (ly (lo + c)) r q = true ∧ true = true) := by
      rw [nLb_iff]
      unfold nLies
      simp
    by_cases h : ly (lo + c) 2 = q ∧ ly (lo + c) 1 ≤ r ∧ r < ly (lo + c) 1 + ly (lo + c) 5
    · rw [if_pos h, if_pos (e.mp h)]; omega
    · rw [if_neg h, if_neg (fun z => h (e.mpr z))]; omega
theorem hC_add {lo r q : Nat} (c1 : Nat) : ∀ c, hC ly al lo r q (c1 + c) = hC ly al lo r q c1 + hC ly al (lo + c1) r q c
  | 0 => rfl
  | c + 1 => by
    show hC ly al lo r q (c1 + c) + (if nLb (ly (lo + (c1 + c))) r q = true ∧ al (ly (lo + (c1 + c)) 0) = true then 1 else 0) = _
    rw [hC_add c1 c, show lo + (c1 + c) = lo + c1 + c by omega]
    show _ = hC ly al lo r q c1 + (hC ly al (lo + c1) r q c + _)
    omega
theorem hC_c {al' : Nat → Bool} {lo r q : Nat} : ∀ c, (∀ i, i < c → al (ly (lo + i) 0) = al' (ly (lo + i) 0)) → hC ly al lo r q c = hC ly al' lo r q c
  | 0, _ => rfl
  | c + 1, h => by
    unfold hC
    rw [hC_c c (fun i hi => h i (by omega)), h c (by omega)]
theorem hC_0 {lo r q : Nat} : ∀ c, (∀ i, i < c → al (ly (lo + i) 0) = false) → hC ly al lo r q c = 0
  | 0, _ => rfl
  | c + 1, h => by
    unfold hC
    rw [hC_0 c (fun i hi => h i (by omega)), if_neg (fun z => by rw [h c (by omega)] at z; exact absurd z.2 (by decide))]
/-- what is upon a layer of a block is what lies behind the block -/
theorem rUp_blk (hb : nBlk ly n a f t) {k r : Nat} (h1 : f ≤ k) (h2 : k ≤ t) : rUp ly al k r (n - (k + 1)) = hC ly al (t + 1) r (ly k 2) (n - (t + 1)) := by
  obtain ⟨b1, b2, b3, b4⟩ := hb
  have hka := b3 k h1 h2
  have s1 : ∀ c, k + 1 + c ≤ t + 1 → rUp ly al k r c = 0 := by
    intro c
    induction c with
    | zero => intro _; rfl
    | succ c ih =>
      intro hc
      unfold rUp
      rw [ih (by omega), if_neg (fun z => z.1 (by rw [hka, b3 (k + 1 + c) (by omega) (by omega)]))]
  have s2 : ∀ c, t + 1 + c ≤ n → rUp ly al k r (t - k + c) = hC ly al (t + 1) r (ly k 2) c := by
    intro c
    induction c with
    | zero => intro _; exact s1 (t - k + 0) (by omega)
    | succ c ih =>
      intro hc
      have hne : ly (k + 1 + (t - k + c)) 0 ≠ ly k 0 := by rw [hka]; exact b4 _ (by omega) (Or.inr (by omega))
      show rUp ly al k r (t - k + c) + (if ly (k + 1 + (t - k + c)) 0 ≠ ly k 0 ∧ nLb (ly (k + 1 + (t - k + c))) r (ly k 2) = true ∧ al (ly (k + 1 + (t - k + c)) 0) = true then 1 else 0) = hC ly al (t + 1) r (ly k 2) c + if nLb (ly (t + 1 + c)) r (ly k 2) = true ∧ al (ly (t + 1 + c) 0) = true then 1 else 0
      rw [ih (by omega)]
      rw [show k + 1 + (t - k + c) = t + 1 + c by omega] at hne ⊢
      by_cases h : nLb (ly (t + 1 + c)) r (ly k 2) = true ∧ al (ly (t + 1 + c) 0) = true
      · rw [if_pos h, if_pos ⟨hne, h⟩]
      · rw [if_neg h, if_neg (fun z => h z.2)]
  rw [show n - (k + 1) = t - k + (n - (t + 1)) by omega, s2 _ (by omega)]
end
