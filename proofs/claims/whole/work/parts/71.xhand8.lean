/-! The class's Hand: the marks of steps. -/
def wFin (M0 : gM) (D : Nat) (s : nS) (Z : Option Value → gM → Prop) : Prop := ∀ M2, gFr (xHD D) M0 M2 → M2.1 9 9 = nI s.2.2.1 → xDr M2 D s.2.2.2 → Z none M2
def wS (M0 : gM) (D N : Nat) (g : Nat → Nat) : nPS := fun _ r _ u _ v D' => u < v ∧ dKeep D' ∧
  ∀ d Z a1 a3 M rs (s : nS) tn, List.length rs = r → v ≤ N → nInv s → tn + 300 * (2001 - s.2.1) < 1000000 → wAt M0 M D [] s.1 rs u s.2.1 s.2.2.1 s.2.2.2 →
    ((D' g s).2.2.2.1 14 = 0 → ∀ M2 tn', tn' + 50 + 300 * s.2.1 ≤ tn + 300 * (D' g s).2.1 → wAt M0 M2 D [] (D' g s).1 rs v (D' g s).2.1 (D' g s).2.2.1 (D' g s).2.2.2 → wRun d Z a1 a3 D tn' M2) →
    ((D' g s).2.2.2.1 14 ≠ 0 → wFin M0 D (D' g s) Z) → wRun d Z a1 a3 D tn M
section
variable {d D L n k p q N tn m w len endc : Nat} {M0 M M2 : gM} {Z : Option Value → gM → Prop} {i x y f v : Int32} {ly : Nat → Nat → Nat} {col : Nat → Nat} {t : nD} {g mk tx : Nat → Nat}
variable {pl : List Int32} {nm : Nat → Int32} {rs : List (Nat × Nat)} {nx st as : Nat} {a1 a3 a5 a6 : Option Value} {s : nS}
theorem wBad_fin {w : Nat} (h : wFin M0 D (brk w s) Z) : wBad M0 D s.1 (s.2.1 + 1) s.2.2.1 w s.2.2.2 Z := fun M2 hf ⟨_, _, _, hh⟩ hd => h M2 hf hh.2.2.2.2.2 hd
theorem w_fin (hx : XR M0) (hD : isD D) {r : Nat × nD} (hr : rGood r s.2.2.2) {M5 : gM} (hf : gFr (xHD D) M0 M5) (hh : xHa M5 ([], s.1, rs, nx, s.2.1 + 1, s.2.2.1)) (hd : xDr M5 D r.2) (ht : tn < 1000000)
    (hK : r.1 = 0 → wRun d Z a1 a3 D (tn + 1) M5) (hB : r.1 ≠ 0 → wFin M0 D (brk r.1 s) Z) : Run (d + 6) 19 114 [some (.ref 9), a1, some (.ref D), a3, some (.int (nI tn)), a5, a6] [.int (nI r.1)] M5 0 0 Z := by
  by_cases h0 : r.1 = 0
  · rw [h0]
    exact w_ok (hK h0)
  · rw [hr.1 h0] at hd
    exact w_brk hx hD ⟨hf, hh, hd⟩ h0 hr.2 ht (wBad_fin (hB h0))
theorem w_dE (hx : XR M0) (hD : isD D) (hg : xGi M0 D g) (hm : xMk M0 q N mk) {a u b v : Nat} {e : nEv} (hX : cE tx mk 2 0 a u b v e) {kk : Int32 → nS → nS} (hpl : pl.length ≤ 1) (hv : v ≤ N) (htn : tn + (v - u) ≤ 1000000)
    (hw : wAt M0 M D pl s.1 rs u (s.2.1 + 1) s.2.2.1 s.2.2.2) (hs : nInv s)
    (hK : ∀ x as' M2, dE g e kk s = kk x (ask as' s) → wAt M0 M2 D (x :: pl) s.1 rs v (s.2.1 + 1) as' s.2.2.2 → wRun d Z a1 a3 D (tn + (v - u)) M2)
    (hB : ∀ as', dE g e kk s = brk 5 (ask as' s) → wFin M0 D (brk 5 (ask as' s)) Z) : wRun d Z a1 a3 D tn M := by
  obtain ⟨huv, -, hE⟩ := hX _ (wE_cl hx hD hg hm)
  refine hE d Z a1 a3 M pl s.1 rs (s.2.1 + 1) s.2.2.1 s.2.2.2 tn (by omega) htn hv hw hs.2.2.2.2.2 hs.1 (fun h0 M2 hw2 => ?_) (fun h0 => ?_)
  · refine hK _ _ M2 ?_ hw2
    unfold dE
    rw [if_pos (show (e (envOf g s) (0, s.2.2.1)).2.1 = 0 from h0)]
    rfl
  · have := hB (e (envOf g s) (0, s.2.2.1)).2.2 (by unfold dE; rw [if_neg (show ¬ (e (envOf g s) (0, s.2.2.1)).2.1 = 0 from h0)])
    exact wBad_fin (s := ask (e (envOf g s) (0, s.2.2.1)).2.2 s) this
theorem cE_lt (hx : XR M0) (hD : isD D) (hg : xGi M0 D g) (hm : xMk M0 q N mk) {o a u b v : Nat} {e : nEv} (hX : cE tx mk m o a u b v e) : u < v := (hX _ (wE_cl hx hD hg hm)).1
theorem wS_step (hx : XR M0) (hD : isD D) (hm : xMk M0 q N mk) {r a u b v m : Nat} {D' : nDn} (hmk : mk u = 59) (huv : u < v) (hkeep : dKeep (dStep D'))
    (core : ∀ d Z a1 a3 M rs (s : nS) tn, List.length rs = r → v ≤ N → nInv s → s.2.1 < 2000 → tn + 300 * (2001 - s.2.1) < 1000000 → wAt M0 M D [] s.1 rs (u + 1) (s.2.1 + 1) s.2.2.1 s.2.2.2 →
      ((D' g s).2.2.2.1 14 = 0 → ∀ M2 tn', tn' + 50 + 300 * s.2.1 ≤ tn + 300 * (D' g s).2.1 → wAt M0 M2 D [] (D' g s).1 rs v (D' g s).2.1 (D' g s).2.2.1 (D' g s).2.2.2 → wRun d Z a1 a3 D tn' M2) →
      ((D' g s).2.2.2.1 14 ≠ 0 → wFin M0 D (D' g s) Z) → wRun d Z a1 a3 D (tn + 1) M) : wS M0 D N g m r a u b v (dStep D') := by
  refine ⟨huv, hkeep, fun d Z a1 a3 M rs s tn hr hN hs htn hw hK hB => ?_⟩
  have hs2 : s.2.1 ≤ 2000 := hs.2.2.2.2.1
  intro a5 a6
  refine w_go hx hD hm hw (by omega) (by omega) hs.2.2.2.2.2 hmk (fun M4 hx4 hw4 => ?_)
  refine o_semi (d := d + 5) hx4 hD hw4.2.2 hw4.2.1 hs2 (fun M5 hf5 hh5 hd5 => ?_)
  simp only [Option.toList_some, List.cons_append, List.nil_append]
  by_cases h2 : 2000 ≤ s.2.1
  · rw [show dStep D' g s = brk 6 s by unfold dStep; rw [if_pos h2]] at hB
    rw [if_pos h2]
    exact w_brk (w := 6) hx hD ⟨gFr_tr hw4.1 hf5, hh5, hd5⟩ (by decide) (by decide) (by omega) (wBad_fin (hB (by rw [brk_14]; decide)))
  · rw [show dStep D' g s = D' g s by unfold dStep; rw [if_neg h2]] at hB hK
    rw [if_neg h2]
    exact w_ok (core d Z a1 a3 M5 rs s tn hr hN hs (by omega) htn ⟨gFr_tr hw4.1 hf5, hh5, hd5⟩ hK hB)
theorem wS_pln (hx : XR M0) (hD : isD D) (hg : xGi M0 D g) (hm : xMk M0 q N mk) {r a u c m b : Nat} (hc : cPln c) (hmk : mk u = 59) (hmk1 : mk (u + 1) = c) : wS M0 D N g m r a u b (u + 2) (dStep (dPlain c)) := by
  refine wS_step hx hD hm hmk (by omega) dPlain_keep (fun d Z a1 a3 M rs s tn hr hN hs hst htn hw hK hB => ?_)
  have hb : tn + 1 < 1000000 := by omega
  rw [dPlain_eq] at hK hB
  have hgood := rPlain_good (c := c) (g := g) (t := s.2.2.2)
  intro a5 a6
  refine w_go hx hD hm hw (by omega) hb hs.2.2.2.2.2 hmk1 (fun M4 hx4 hw4 => ?_)
  have hs10 := hs.2.2.1
  refine o_plain (d := d) hx4 hD hw4.2.2 hs.1 (xGi_fr hw4.1 (xHD_g hD) hg) (by omega) (fun k hk => by have := hs.2.2.2.1 k hk; omega) hw4.2.1 hc (fun M5 hf5 hh5 hd5 => ?_)
  simp only [Option.toList_some, List.cons_append, List.nil_append]
  refine w_fin hx hD hgood (gFr_tr hw4.1 hf5) hh5 hd5 hb (fun h0 => ?_) (fun h0 => ?_)
  · rw [fin_good h0] at hK
    refine hK ?_ M5 _ ?_ ⟨gFr_tr hw4.1 hf5, hh5, hd5⟩
    · exact (rPlain_inv hs.1 hs.2.2.2.1 (by have := hs.2.1; omega) (by omega)).2.2.2.2.trans hs.2.2.2.2.2
    · show tn + 1 + 1 + 50 + 300 * s.2.1 ≤ tn + 300 * (s.2.1 + 1)
      omega
  · rw [fin_bad h0] at hB
    exact hB h0
theorem wS_num (hx : XR M0) (hD : isD D) (hg : xGi M0 D g) (hm : xMk M0 q N mk) {r a u c m b v z : Nat} {e : nEv} (hc : cAct c) (hmk : mk u = 59) (hX : cE tx mk 2 0 z (u + 1) b v e) (hmk1 : mk v = c) : wS M0 D N g m r a u b (v + 1) (dStep (dNum c e)) := by
  have huv := cE_lt hx hD hg hm hX
  refine wS_step hx hD hm hmk (by omega) dNum_keep (fun d Z a1 a3 M rs s tn hr hN hs hst htn hw hK hB => ?_)
  have hN2 : N ≤ 248 := hm.2.2.2.2.2.1
  refine w_dE (pl := []) hx hD hg hm hX (kk := fun v s => fin (rNum c g s.2.2.2 v) s) (by simp) (by omega) (by omega) hw hs (fun x as' M3 heq hw3 => ?_) (fun as' heq => ?_)
  · rw [show dNum c e g s = fin (rNum c g s.2.2.2 x) (ask as' s) from heq] at hK hB
    have hgood := rNum_good (c := c) (g := g) (t := s.2.2.2) (v := x)
    intro a5 a6
    refine w_go hx hD hm hw3 (by omega) (by omega) hs.2.2.2.2.2 hmk1 (fun M4 hx4 hw4 => ?_)
    refine o_numact (d := d) hx4 hD hw4.2.2 hs.1 (xGi_fr hw4.1 (xHD_g hD) hg) hw4.2.1 hc (fun M5 hf5 hh5 hd5 => ?_)
    simp only [Option.toList_some, List.cons_append, List.nil_append]
    refine w_fin (s := ask as' s) hx hD hgood (gFr_tr hw4.1 hf5) hh5 hd5 (by omega) (fun h0 => ?_) (fun h0 => ?_)
    · rw [fin_good h0] at hK
      refine hK ?_ M5 _ ?_ ⟨gFr_tr hw4.1 hf5, hh5, hd5⟩
      · exact (rNum_inv hs.1 hs.2.2.2.1 (Nat.lt_of_le_of_lt hs.2.1 hst)).2.2.2.2.trans hs.2.2.2.2.2
      · show tn + 1 + (v - (u + 1)) + 1 + 50 + 300 * s.2.1 ≤ tn + 300 * (s.2.1 + 1)
        omega
    · rw [fin_bad h0] at hB
      exact hB h0
  · rw [show dNum c e g s = _ from heq] at hB
    exact hB (by rw [brk_14]; decide)
theorem wS_plt (hx : XR M0) (hD : isD D) (hg : xGi M0 D g) (hm : xMk M0 q N mk) {r a u m b b2 v w z z2 y2 : Nat} {e f : nEv} (hmk : mk u = 59) (hX : cE tx mk 2 0 z (u + 1) b2 v e) (hY : cE tx mk 2 0 z2 v y2 w f) (hmk1 : mk w = 112) : wS M0 D N g m r a u b (w + 1) (dStep (dPleat e f)) := by
  have huv := cE_lt hx hD hg hm hX
  have hvw := cE_lt hx hD hg hm hY
  refine wS_step hx hD hm hmk (by omega) dPleat_keep (fun d Z a1 a3 M rs s tn hr hN hs hst htn hw hK hB => ?_)
  have hN2 : N ≤ 248 := hm.2.2.2.2.2.1
  refine w_dE (pl := []) hx hD hg hm hX (kk := fun v s => dE g f (fun w s => fin (aPleat s.2.2.2 v w) s) s) (by simp) (by omega) (by omega) hw hs (fun x as' M3 heq hw3 => ?_) (fun as' heq => ?_)
  · rw [show dPleat e f g s = _ from heq] at hK hB
    refine w_dE (s := ask as' s) (pl := [x]) hx hD hg hm hY (kk := fun w s => fin (aPleat s.2.2.2 x w) s) (by simp) (by omega) (by omega) hw3 (nInv_ask hs) (fun y as2 M6 heq2 hw6 => ?_) (fun as2 heq2 => ?_)
    · rw [show dE g f (fun w s => fin (aPleat s.2.2.2 x w) s) (ask as' s) = fin (aPleat s.2.2.2 x y) (ask as2 (ask as' s)) from heq2] at hK hB
      have hgood := aPleat_good (t := s.2.2.2) (x := x) (y := y)
      intro a5 a6
      refine w_go hx hD hm hw6 (by omega) (by omega) hs.2.2.2.2.2 hmk1 (fun M4 hx4 hw4 => ?_)
      refine o_pleat (d := d) hx4 hD hw4.2.2 hs.1 hw4.2.1 (fun M5 hf5 hh5 hd5 => ?_)
      simp only [Option.toList_some, List.cons_append, List.nil_append]
      refine w_fin (s := ask as2 (ask as' s)) hx hD hgood (gFr_tr hw4.1 hf5) hh5 hd5 (by omega) (fun h0 => ?_) (fun h0 => ?_)
      · rw [fin_good h0] at hK
        refine hK ?_ M5 _ ?_ ⟨gFr_tr hw4.1 hf5, hh5, hd5⟩
        · exact (aPleat_inv hs.1 hs.2.2.2.1 (Nat.lt_of_le_of_lt hs.2.1 hst)).2.2.2.2.trans hs.2.2.2.2.2
        · show tn + 1 + (v - (u + 1)) + (w - v) + 1 + 50 + 300 * s.2.1 ≤ tn + 300 * (s.2.1 + 1)
          omega
      · rw [fin_bad h0] at hB
        exact hB h0
    · simp only [heq2] at hB
      exact hB (by rw [brk_14]; decide)
  · rw [show dPleat e f g s = _ from heq] at hB
    exact hB (by rw [brk_14]; decide)
theorem wS_nam (hx : XR M0) (hD : isD D) (hg : xGi M0 D g) (hm : xMk M0 q N mk) {r a u c m b v z : Nat} {e : nEv} (hc : cNam c) (hmk : mk u = 59) (hX : cE tx mk 2 0 z (u + 1) b v e) (hmk1 : mk v = c + 128) : wS M0 D N g m r a u b (v + 1) (dStep (dName c e)) := by
  have huv := cE_lt hx hD hg hm hX
  refine wS_step hx hD hm hmk (by omega) dName_keep (fun d Z a1 a3 M rs s tn hr hN hs hst htn hw hK hB => ?_)
  have hN2 : N ≤ 248 := hm.2.2.2.2.2.1
  refine w_dE (pl := []) hx hD hg hm hX (kk := fun v s => ((fun q => if q = c - 120 then v else s.1 q), s.2.1 + 1, s.2.2)) (by simp) (by omega) (by omega) hw hs (fun x as' M3 heq hw3 => ?_) (fun as' heq => ?_)
  · rw [show dName c e g s = _ from heq] at hK hB
    intro a5 a6
    refine w_go hx hD hm hw3 (by omega) (by omega) hs.2.2.2.2.2 hmk1 (fun M4 hx4 hw4 => ?_)
    refine o_name (d := d + 2) hx4 hD hw4.2.2 hw4.2.1 hc (fun M5 hf5 hh5 hd5 => ?_)
    simp only [Option.toList_some, List.cons_append, List.nil_append]
    refine w_ok ?_
    refine hK hs.2.2.2.2.2 M5 _ ?_ ⟨gFr_tr hw4.1 hf5, hh5, hd5⟩
    show tn + 1 + (v - (u + 1)) + 1 + 50 + 300 * s.2.1 ≤ tn + 300 * (s.2.1 + 1)
    omega
  · rw [show dName c e g s = _ from heq] at hB
    exact hB (by rw [brk_14]; decide)
end
