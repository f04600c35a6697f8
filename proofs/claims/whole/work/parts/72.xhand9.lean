/-! The class's Hand: rows; a whole style. -/
/-- a style p, its marks in the array q -/
def xSty (M : gM) (p q N : Nat) (mk : Nat → Nat) : Prop := gObj M p 7 ∧ M.2.1 p 0 = some q ∧ gAr M q 0 ∧ (gTy M q).isSome = true ∧ gLen M q = N ∧ 48 < p ∧ 48 < q ∧ N ≤ 248 ∧ ∀ k, k < N → M.1 q k = nI (mk k) ∧ mk k ≤ 2000
section
variable {d D L n k p q N tn m w len endc : Nat} {M0 M M2 : gM} {Z : Option Value → gM → Prop} {i x y f v z : Int32} {ly : Nat → Nat → Nat} {col : Nat → Nat} {t : nD} {g mk tx : Nat → Nat}
variable {pl : List Int32} {nm : Nat → Int32} {rs : List (Nat × Nat)} {nx st as : Nat} {a1 a3 a5 a6 : Option Value} {s : nS}
theorem wS_loop (hx : XR M0) (hD : isD D) (hm : xMk M0 q N mk) {r a u b v m : Nat} {D2 : nDn} (hb : wS M0 D N g m r a u b v D2) (hmk : mk v = 93) (hv : v + 1 ≤ N) : ∀ k (s : nS) tn M (rs : List (Nat × Nat)), rs.length + 1 = r → nInv s → tn + 300 * (2001 - s.2.1) < 1000000 → wAt M0 M D [] s.1 ((k, u) :: rs) u s.2.1 s.2.2.1 s.2.2.2 →
    ((dRep (D2 g) (k + 1) s).2.2.2.1 14 = 0 → ∀ M2 tn', tn' + 300 * s.2.1 ≤ tn + 300 * (dRep (D2 g) (k + 1) s).2.1 → wAt M0 M2 D [] (dRep (D2 g) (k + 1) s).1 rs (v + 1) (dRep (D2 g) (k + 1) s).2.1 (dRep (D2 g) (k + 1) s).2.2.1 (dRep (D2 g) (k + 1) s).2.2.2 → wRun d Z a1 a3 D tn' M2) →
    ((dRep (D2 g) (k + 1) s).2.2.2.1 14 ≠ 0 → wFin M0 D (dRep (D2 g) (k + 1) s) Z) → wRun d Z a1 a3 D tn M := by
  obtain ⟨huv, hkeep, hb⟩ := hb
  intro k
  induction k with
  | zero =>
    intro s tn M rs hr hs htn hw hK hB
    refine hb d Z a1 a3 M _ s tn (by simpa using hr) (by omega) hs htn hw (fun h0 M2 tn2 htn2 hw2 => ?_) (fun h0 => ?_)
    · obtain ⟨hi, hlt⟩ := hkeep g s hs h0
      have hi2 := hi.2.2.2.2.1
      rw [show dRep (D2 g) (0 + 1) s = D2 g s by simp only [dRep, h0, if_true]] at hK
      intro a5 a6
      refine w_go hx hD hm hw2 (by omega) (by omega) hi.2.2.2.2.2 hmk (fun M4 hx4 hw4 => ?_)
      refine o_end (d := d + 3) hx4 hD hw4.2.2 hw4.2.1 (fun _ M5 hf5 hh5 hd5 => ?_) (fun z hz => absurd hz (by omega))
      simp only [Option.toList_some, List.cons_append, List.nil_append]
      refine w_ok ?_
      exact hK h0 M5 _ (by omega) ⟨gFr_tr hw4.1 hf5, hh5, hd5⟩
    · rw [show dRep (D2 g) (0 + 1) s = D2 g s by simp only [dRep, h0, if_false]] at hB
      exact hB h0
  | succ k ih =>
    intro s tn M rs hr hs htn hw hK hB
    refine hb d Z a1 a3 M _ s tn (by simpa using hr) (by omega) hs htn hw (fun h0 M2 tn2 htn2 hw2 => ?_) (fun h0 => ?_)
    · obtain ⟨hi, hlt⟩ := hkeep g s hs h0
      have hi2 := hi.2.2.2.2.1
      rw [show dRep (D2 g) (k + 1 + 1) s = dRep (D2 g) (k + 1) (D2 g s) by rw [dRep, if_pos h0]] at hK hB
      intro a5 a6
      refine w_go hx hD hm hw2 (by omega) (by omega) hi.2.2.2.2.2 hmk (fun M4 hx4 hw4 => ?_)
      refine o_end (d := d + 3) hx4 hD hw4.2.2 hw4.2.1 (fun hz => absurd hz (by omega)) (fun z hz M5 hf5 hh5 hd5 => ?_)
      simp only [Option.toList_some, List.cons_append, List.nil_append]
      refine w_ok ?_
      obtain rfl : z = k := by omega
      refine ih (D2 g s) (tn2 + 1) M5 rs hr hi (by omega) ⟨gFr_tr hw4.1 hf5, hh5, hd5⟩ (fun h1 M6 tn6 htn6 hw6 => hK h1 M6 tn6 (by omega) hw6) hB
    · rw [show dRep (D2 g) (k + 1 + 1) s = D2 g s by rw [dRep, if_neg h0]] at hB
      exact hB h0
theorem wS_row (hx : XR M0) (hD : isD D) (hg : xGi M0 D g) (hm : xMk M0 q N mk) {r a u m c c2 b b2 v w z : Nat} {e : nEv} {D2 : nDn} (hr3 : r < 3) (hmk : mk u = 59) (hX : cE tx mk 2 0 z (u + 1) b2 v e) (hmk1 : mk v = 91) (hmk2 : mk (v + 1) = w + 1) (hb : wS M0 D N g m (r + 1) c (v + 2) c2 w D2) (hmk3 : mk w = 93) : wS M0 D N g m r a u b (w + 1) (dStep (dRow e D2)) := by
  have huv := cE_lt hx hD hg hm hX
  have hvw := hb.1
  refine wS_step hx hD hm hmk (by omega) (dRow_keep hb.2.1) (fun d Z a1 a3 M rs s tn hr hN hs hst htn hw hK hB => ?_)
  have hN2 : N ≤ 248 := hm.2.2.2.2.2.1
  refine w_dE (pl := []) hx hD hg hm hX (kk := fun v s => if isNm v then dRep (D2 g) v.toInt.toNat (s.1, s.2.1 + 1, s.2.2) else brk 4 s) (by simp) (by omega) (by omega) hw hs (fun x as' M3 heq hw3 => ?_) (fun as' heq => ?_)
  · rw [show dRow e D2 g s = (if isNm x then dRep (D2 g) x.toInt.toNat (s.1, s.2.1 + 1, as', s.2.2.2) else brk 4 (ask as' s)) from heq] at hK hB
    intro a5 a6
    refine w_go hx hD hm hw3 (by omega) (by omega) hs.2.2.2.2.2 hmk1 (fun M4 hx4 hw4 => ?_)
    have hm4 := xMk_fr hw4.1 (xHD_m hD) hm
    refine o_row (d := d + 2) hx4 hD hw4.2.2 hw4.2.1 hm4 (by omega) (by omega) (fun hn M5 hf5 hh5 hd5 => ?_) (fun hz M5 hf5 hh5 hd5 => ?_) (fun w' hw' hz M5 hf5 hh5 hd5 => ?_)
    · simp only [Option.toList_some, List.cons_append, List.nil_append]
      rw [if_neg hn] at hB
      exact w_brk (w := 4) hx hD ⟨gFr_tr hw4.1 hf5, hh5, hd5⟩ (by decide) (by decide) (by omega) (wBad_fin (s := ask as' s) (hB (by rw [brk_14]; decide)))
    · simp only [Option.toList_some, List.cons_append, List.nil_append]
      subst hz
      rw [if_pos (by decide)] at hK
      refine w_ok (hK hs.2.2.2.2.2 M5 _ ?_ ⟨gFr_tr hw4.1 hf5, by rw [hmk2] at hh5; exact hh5, hd5⟩)
      show tn + 1 + (v - (u + 1)) + 1 + 50 + 300 * s.2.1 ≤ tn + 300 * (s.2.1 + 1)
      omega
    · simp only [Option.toList_some, List.cons_append, List.nil_append]
      have ht := nI_ti (show w' + 1 ≤ 2000 by omega)
      subst hz
      have hnm : isNm (nI (w' + 1)) := by unfold isNm; rw [ht]; omega
      rw [if_pos hnm, ht] at hK hB
      simp only [Int.toNat_natCast] at hK hB
      obtain ⟨i1, i2, i3, i4, i5, i6⟩ := id hs
      refine w_ok (wS_loop hx hD hm hb hmk3 hN w' (s.1, s.2.1 + 1, as', s.2.2.2) _ M5 rs (by omega) ⟨i1, Nat.le_succ_of_le i2, Nat.le_succ_of_le i3, i4, hst, i6⟩ ?_ ⟨gFr_tr hw4.1 hf5, hh5, hd5⟩ (fun h0 M6 tn6 htn6 hw6 => hK h0 M6 tn6 ?_ hw6) hB)
      · show tn + 1 + (v - (u + 1)) + 1 + 300 * (2001 - (s.2.1 + 1)) < 1000000
        omega
      · have h2 : tn6 + 300 * (s.2.1 + 1) ≤ tn + 1 + (v - (u + 1)) + 1 + 300 * (dRep (D2 g) (w' + 1) (s.1, s.2.1 + 1, as', s.2.2.2)).2.1 := htn6
        omega
  · rw [show dRow e D2 g s = _ from heq] at hB
    exact hB (by rw [brk_14]; decide)
theorem wS_cl (hx : XR M0) (hD : isD D) (hg : xGi M0 D g) (hm : xMk M0 q N mk) : cScl tx mk (wS M0 D N g) := by
  refine ⟨?_, ?_, ?_, ?_, ?_, ?_, ?_⟩
  · intro r a u hc h1 h2
    exact wS_pln hx hD hg hm hc h1 h2
  · intro r a u b v e hc h1 hX h2
    exact wS_num hx hD hg hm hc h1 hX.1 h2
  · intro r a u b v e c w f h1 h2 hX h3 hY h4
    exact wS_plt hx hD hg hm h2 hX.1 hY.1 h4
  · intro r a u b v e hc h1 h2 hX h3
    exact wS_nam hx hD hg hm hc h1 hX.1 h3
  · intro r a u b v e c w D2 hr h1 h2 hX h3 h4 h5 hb h6 h7
    exact wS_row (c := b + 1) (c2 := c) hx hD hg hm hr h2 hX.1 h4 h5 hb h7
  · intro r a u b v D2 h1
    exact h1
  · intro r a u b v D2 c w E h1 h2 h3
    obtain ⟨huv, hkeep, h1⟩ := h1
    obtain ⟨hvw, hkeep2, h3⟩ := h3
    refine ⟨by omega, dSeq_keep hkeep hkeep2, fun d Z a1 a3 M rs s tn hr hN hs htn hw hK hB => ?_⟩
    unfold dSeq at hK hB
    refine h1 d Z a1 a3 M rs s tn hr (by omega) hs htn hw (fun h0 M2 tn2 htn2 hw2 => ?_) (fun h0 => ?_)
    · obtain ⟨hi, hlt⟩ := hkeep g s hs h0
      have hi2 := hi.2.2.2.2.1
      rw [if_pos h0] at hK hB
      exact h3 d Z a1 a3 M2 rs (D2 g s) tn2 hr hN hi (by omega) hw2 (fun h4 M3 tn3 htn3 hw3 => hK h4 M3 tn3 (by omega) hw3) hB
    · rw [if_neg h0] at hB
      exact hB h0
def nNm (z : Int32) : Nat → Int32 := fun k => if k = 2 then z else 0
def xWk (M : gM) (q : Nat) (z : Int32) : gM := gsI (gsI (gsI (gsI (gsI (gsI (gsI (gsI (gsR M 9 6 (some q)) 9 1 0) 9 4 0) 13 0 0) 13 1 0) 13 2 z) 9 7 0) 9 8 (-1)) 9 9 0
theorem xWk_hd {q : Nat} {z : Int32} : xHa (xWk M q z) ([], nNm z, [], 0, 0, 0) := by
  refine ⟨⟨by simp [xWk, gsI_1, nI_0], by simp, trivial⟩, fun k hk => ?_, ⟨by simp [xWk, gsI_1, nI_0], by simp, trivial⟩, ⟨by simp [xWk, gsI_1, nI_0], by simp⟩, ⟨by simp [xWk, gsI_1, nI_0], by simp⟩, by simp [xWk, gsI_1, nI_0]⟩
  have : k = 0 ∨ k = 1 ∨ k = 2 := by omega
  rcases this with rfl | rfl | rfl <;> simp [xWk, gsI_1, nNm]
theorem xWk_1 {o : Nat} (h : o ≠ 9 ∧ o ≠ 13) : (xWk M q z).1 o = M.1 o := by
  funext k
  simp only [xWk, gsI_1, h.1, h.2, false_and, if_false]
  rfl
end
