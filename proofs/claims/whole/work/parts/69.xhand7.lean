/-! The class's Hand: the marks of an expression leave its worth on the pile. -/
def wE (M0 : gM) (D N : Nat) (g : Nat → Nat) : nPE := fun m o _ u _ v e => u < v ∧ (∀ en fl, fl.1 ≠ 0 → (e en fl).2.1 ≠ 0 ∧ (e en fl).2.2 = fl.2) ∧
  ∀ d Z a1 a3 M pl nm rs st as t tn, List.length pl + (1 + m + 2 * (8 - o)) ≤ 32 → tn + (v - u) ≤ 1000000 → v ≤ N → wAt M0 M D pl nm rs u st as t → t.1 14 = 0 → nOk t →
    ((e (envOf g (nm, 0, 0, t)) (0, as)).2.1 = 0 → ∀ M2, wAt M0 M2 D ((e (envOf g (nm, 0, 0, t)) (0, as)).1 :: pl) nm rs v st (e (envOf g (nm, 0, 0, t)) (0, as)).2.2 t → wRun d Z a1 a3 D (tn + (v - u)) M2) →
    ((e (envOf g (nm, 0, 0, t)) (0, as)).2.1 ≠ 0 → wBad M0 D nm st (e (envOf g (nm, 0, 0, t)) (0, as)).2.2 5 t Z) → wRun d Z a1 a3 D tn M
theorem nDig_le {tx : Nat → Nat} {a : Nat} : ∀ k, (∀ i, i < k → cDig (tx (a + i))) → nDig tx a k + 1 ≤ 10 ^ k
  | 0, _ => by simp [nDig]
  | k + 1, h => by
    have ih := nDig_le k (fun i hi => h i (by omega))
    have := h k (by omega)
    rw [nDig, Nat.pow_succ]
    omega
section
variable {d D L n k p q N tn m w len endc : Nat} {M0 M M2 : gM} {Z : Option Value → gM → Prop} {i r s x y e f v : Int32} {ly : Nat → Nat → Nat} {col : Nat → Nat} {t : nD} {g mk tx : Nat → Nat}
variable {pl : List Int32} {nm : Nat → Int32} {rs : List (Nat × Nat)} {nx st as : Nat} {a1 a3 a5 a6 : Option Value}
theorem wAt_x (hw : wAt M0 M2 D pl nm rs nx st as t) (hf : gFr (xHD D) M2 M) (hh : xHa M (pl, nm, rs, nx, st, as)) (hd : xDr M D t) : wAt M0 M D pl nm rs nx st as t := ⟨gFr_tr hw.1 hf, hh, hd⟩
theorem evO_mono {c : Nat} {e f : nEv} (he : ∀ en fl, fl.1 ≠ 0 → (e en fl).2.1 ≠ 0 ∧ (e en fl).2.2 = fl.2) (hf : ∀ en fl, fl.1 ≠ 0 → (f en fl).2.1 ≠ 0 ∧ (f en fl).2.2 = fl.2) (en : Nat → Int32) (fl : Nat × Nat) (h : fl.1 ≠ 0) : (evO c e f en fl).2.1 ≠ 0 ∧ (evO c e f en fl).2.2 = fl.2 := by
  obtain ⟨h1, h2⟩ := he en fl h
  obtain ⟨h3, h4⟩ := hf en (e en fl).2 h1
  refine ⟨?_, h4.trans h2⟩
  show (if c = 47 ∧ (f en (e en fl).2).1 = 0 then 1 else (f en (e en fl).2).2.1) ≠ 0
  split
  · decide
  · exact h3
theorem wE_op (hx : XR M0) (hD : isD D) (hm : xMk M0 q N mk) {m n o a u b v c z w : Nat} {e f : nEv} (hmn : n + 1 ≤ m) (hc : cTim c ∨ cPlu c) (h1 : wE M0 D N g m o a u b v e) (h2 : wE M0 D N g n o b v z w f) (hmk : mk w = c) : wE M0 D N g m o a u z (w + 1) (evO c e f) := by
  obtain ⟨huv, me, h1⟩ := h1
  obtain ⟨hvw, mf, h2⟩ := h2
  refine ⟨by omega, evO_mono me mf, fun d Z a1 a3 M pl nm rs st as t tn hl htn hN hw hy hk hK hB => ?_⟩
  refine h1 d Z a1 a3 M pl nm rs st as t tn hl (by omega) (by omega) hw hy hk (fun he M2 hw2 => ?_) (fun he => ?_)
  · generalize hr1 : e (envOf g (nm, 0, 0, t)) (0, as) = r1 at *
    have hr1' : r1.2 = (0, r1.2.2) := Prod.ext he rfl
    refine h2 d Z a1 a3 M2 _ nm rs st r1.2.2 t (tn + (v - u)) (by simp only [List.length_cons]; omega) (by omega) (by omega) hw2 hy hk (fun hf M3 hw3 => ?_) (fun hf => ?_)
    · rw [← hr1'] at hf hw3
      generalize hr2 : f (envOf g (nm, 0, 0, t)) r1.2 = r2 at *
      have hO : evO c e f (envOf g (nm, 0, 0, t)) (0, as) = (opV c r1.1 r2.1, if c = 47 ∧ r2.1 = 0 then 1 else r2.2.1, r2.2.2) := by
        simp only [evO, hr1, hr2]
      rw [hO] at hK hB
      intro a5 a6
      refine w_go hx hD hm hw3 (by omega) (by omega) hy hmk (fun M4 hx4 hw4 => ?_)
      refine o_op (d := d + 2) hx4 hD hw4.2.2 hw4.2.1 hc (fun hn M5 hf5 hh5 hd5 => ?_) (fun hn M5 hf5 hh5 hd5 => ?_)
      · simp only [Option.toList_some, List.cons_append, List.nil_append]
        refine w_ok ?_
        have := hK (by simp only [if_neg hn]; exact hf) M5 ⟨gFr_tr hw4.1 hf5, hh5, hd5⟩
        rw [show tn + (v - u) + (w - v) + 1 = tn + (w + 1 - u) by omega]
        exact this
      · simp only [Option.toList_some, List.cons_append, List.nil_append]
        refine w_brk (w := 5) hx hD ⟨gFr_tr hw4.1 hf5, hh5, hd5⟩ (by decide) (by decide) (by omega) ?_
        exact hB (by simp only [if_pos hn]; decide)
    · rw [← hr1'] at hf ⊢
      generalize hr2 : f (envOf g (nm, 0, 0, t)) r1.2 = r2 at *
      have hO : evO c e f (envOf g (nm, 0, 0, t)) (0, as) = (opV c r1.1 r2.1, if c = 47 ∧ r2.1 = 0 then 1 else r2.2.1, r2.2.2) := by
        simp only [evO, hr1, hr2]
      rw [hO] at hB
      refine hB ?_
      show (if c = 47 ∧ r2.1 = 0 then 1 else r2.2.1) ≠ 0
      split
      · decide
      · exact hf
  · obtain ⟨q1, q2⟩ := mf (envOf g (nm, 0, 0, t)) (e (envOf g (nm, 0, 0, t)) (0, as)).2 he
    have := hB ?_
    · rw [show (evO c e f (envOf g (nm, 0, 0, t)) (0, as)).2.2 = (e (envOf g (nm, 0, 0, t)) (0, as)).2.2 from q2] at this
      exact this
    · show (if c = 47 ∧ (f (envOf g (nm, 0, 0, t)) (e (envOf g (nm, 0, 0, t)) (0, as)).2).1 = 0 then 1 else (f (envOf g (nm, 0, 0, t)) (e (envOf g (nm, 0, 0, t)) (0, as)).2).2.1) ≠ 0
      split
      · decide
      · exact q1
theorem wE_cl (hx : XR M0) (hD : isD D) (hg : xGi M0 D g) (hm : xMk M0 q N mk) : cEcl tx mk (wE M0 D N g) := by
  refine ⟨?_, ?_, ?_, ?_, ?_, ?_, ?_⟩
  · intro o a u k hk1 hk3 hdg hnd hmk
    refine ⟨by omega, fun en fl h => ⟨h, rfl⟩, fun d Z a1 a3 M pl nm rs st as t tn hl htn hN hw hy hk hK hB => ?_⟩
    have hd9 := nDig_le k hdg
    have h10 : 10 ^ k ≤ 10 ^ 3 := Nat.pow_le_pow_right (by decide) hk3
    intro a5 a6
    refine w_go hx hD hm hw (by omega) (by omega) hy hmk (fun M4 hx4 hw4 => ?_)
    refine o_num (d := d + 3) hx4 hD hw4.2.2 hw4.2.1 (by omega) (by omega) (fun M5 hf5 hh5 hd5 => ?_)
    simp only [Option.toList_some, List.cons_append, List.nil_append]
    refine w_ok ?_
    have := hK rfl M5 ⟨gFr_tr hw4.1 hf5, hh5, hd5⟩
    rw [show tn + (u + 1 - u) = tn + 1 by omega] at this
    exact this
  · intro o a u hv hmk
    refine ⟨by omega, fun en fl h => ⟨h, ?_⟩, fun d Z a1 a3 M pl nm rs st as t tn hl htn hN hw hy hk hK hB => ?_⟩
    · simp only [evL, h, and_false, if_false]
    · intro a5 a6
      refine w_go hx hD hm hw (by omega) (by omega) hy hmk (fun M4 hx4 hw4 => ?_)
      have hg4 : xGi M4 D g := xGi_fr hw4.1 (xHD_g hD) hg
      refine o_val (d := d + 2) (st' := 0) (as' := 0) hx4 hD hw4.2.2 hk hg4 hw4.2.1 (by omega) hv (fun M5 hf5 hh5 hd5 => ?_)
      simp only [Option.toList_some, List.cons_append, List.nil_append]
      refine w_ok ?_
      have := hK rfl M5 ⟨gFr_tr hw4.1 hf5, by simpa only [evL, and_true] using hh5, hd5⟩
      rw [show tn + (u + 1 - u) = tn + 1 by omega] at this
      exact this
  · intro o a u b v e ho h40 h1 h41
    obtain ⟨huv, me, h1⟩ := h1
    exact ⟨huv, me, fun d Z a1 a3 M pl nm rs st as t tn hl htn hN hw hy hk hK hB => h1 d Z a1 a3 M pl nm rs st as t tn (by omega) htn hN hw hy hk hK hB⟩
  · intro o a u b v e h1
    obtain ⟨huv, me, h1⟩ := h1
    exact ⟨huv, me, fun d Z a1 a3 M pl nm rs st as t tn hl htn hN hw hy hk hK hB => h1 d Z a1 a3 M pl nm rs st as t tn (by omega) htn hN hw hy hk hK hB⟩
  · intro o a u b v e c w f h1 hc h2 hmk
    exact wE_op hx hD hm (by omega) (Or.inl hc) h1 h2 hmk
  · intro o a u b v e h1
    obtain ⟨huv, me, h1⟩ := h1
    exact ⟨huv, me, fun d Z a1 a3 M pl nm rs st as t tn hl htn hN hw hy hk hK hB => h1 d Z a1 a3 M pl nm rs st as t tn (by omega) htn hN hw hy hk hK hB⟩
  · intro o a u b v e c w f h1 hc h2 hmk
    exact wE_op hx hD hm (by omega) (Or.inr hc) h1 h2 hmk
end
