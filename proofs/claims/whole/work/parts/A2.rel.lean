/-! The relation of the class's world and the reference's. -/
abbrev cD : Type := Nat × Nat × Nat × Nat × (Nat → Nat)
abbrev sD : Type := Nat × Nat × Nat × Nat × Nat × (Nat → Nat) × (Nat → Nat) × nDn
def rB' (X Y : gM) (bn : Nat) (wd : Nat → Nat) : Prop := (X.1 0 1 = nI bn ∧ bn ≤ 6) ∧ Y.1 0 2 = nI bn ∧ ∀ q, q < 48 → X.1 1 q = nI (wd q) ∧ wd q ≤ 9 ∧ Y.1 2 q = nI (wd q)
/-- cloth k: its object, length, height, end, colours -/
def rC1 (X Y : gM) (k : Nat) (e : cD) : Prop := X.2.1 2 k = some e.1 ∧ 48 < e.1 ∧ xCo X e.1 e.2.1 e.2.2.2.1 e.2.2.2.2 ∧ X.1 e.1 1 = nI e.2.2.1 ∧ 10 ≤ e.2.1 ∧ 1 ≤ e.2.2.1 ∧ e.2.2.1 ≤ 4 ∧ (∀ i, i < 6 → e.2.2.2.2 i ≤ 7) ∧ Y.1 3 k = nI e.2.1 ∧ Y.1 4 k = nI e.2.2.1 ∧ Y.1 5 k = nI e.2.2.2.1 ∧ ∀ i, i < 6 → Y.1 6 (6 * k + i) = nI (e.2.2.2.2 i)
def rC (X Y : gM) (nc : Nat) (cl : Nat → cD) : Prop := (X.1 0 3 = nI nc ∧ nc ≤ 6) ∧ Y.1 0 3 = nI nc ∧ (∀ k, k < nc → rC1 X Y k (cl k)) ∧ (∀ k, nc ≤ k → k < 6 → Y.1 5 k = 0 ∧ ∀ i, i < 6 → Y.1 6 (6 * k + i) = 0) ∧ ∀ k, k < nc → ∀ k', k' < nc → k ≠ k' → (cl k).1 ≠ (cl k').1 ∧ (cl k).1 ≠ (cl k').1 + 1
/-- style j: its object, its marks' row, how many marks, bytes, letters; marks, text, meaning -/
def rS1 (X Y : gM) (j : Nat) (e : sD) : Prop := X.2.1 3 j = some e.1 ∧ xSty X e.1 e.2.1 e.2.2.1 e.2.2.2.2.2.1 ∧ X.1 e.1 1 = nI e.2.2.2.2.1 ∧ cS e.2.2.2.2.2.2.1 e.2.2.2.2.2.1 1 0 0 0 e.2.2.2.1 e.2.2.1 e.2.2.2.2.2.2.2 ∧ mSty Y j e.2.2.2.1 e.2.2.2.2.2.2.1 ∧ Y.1 9 j = nI e.2.2.2.2.1
def rS (X Y : gM) (ns : Nat) (sy : Nat → sD) : Prop := (X.1 0 5 = nI ns ∧ ns ≤ 10) ∧ Y.1 0 4 = nI ns ∧ ∀ j, j < ns → rS1 X Y j (sy j)
def rSC (nc : Nat) (cl : Nat → cD) (ns : Nat) (sy : Nat → sD) : Prop := ∀ j, j < ns → ∀ k, k < nc → (sy j).1 ≠ (cl k).1 ∧ (sy j).1 ≠ (cl k).1 + 1 ∧ (sy j).2.1 ≠ (cl k).1 ∧ (sy j).2.1 ≠ (cl k).1 + 1
def rT' (X Y : gM) (tn : Nat) (tp : Nat → Nat) : Prop := (X.1 0 7 = nI tn ∧ tn ≤ 120) ∧ Y.1 0 1 = nI tn ∧ ∀ q, q < 120 → X.1 4 q = nI (tp q) ∧ tp q ≤ 255 ∧ Y.1 1 q = sb (tp q)
def rX (X Y : gM) (st : Nat → Nat) : Prop := xSt X 5 st ∧ xSt Y 35 st
def rHo (X Y : gM) (t : nD) : Prop := (X.1 37 1 = 0 ∧ X.1 37 4 = 0 ∧ Y.1 0 52 = 0) ∨ ∃ (m : Nat) (sv st tp : Nat → Nat), (1 ≤ m ∧ m ≤ 6) ∧ X.1 37 1 = nI m ∧ xHg X (nPlay t.2.2 sv none t.2.1 m) ∧ (nPlay t.2.2 sv none t.2.1 m).2.length ≤ t.2.1 ∧ xSt X 38 sv ∧ Y.1 0 52 = 1 ∧ Y.1 0 60 = nI m ∧ (∀ q, q < m → Y.1 37 q = nI (tp q) ∧ tp q < 6) ∧ xSt Y 36 st ∧ mHl Y (t.1 9) (rPlay t.2.2 t.2.1 (fun i r => st (8 * tp i + r)) (t.1 9) none m) ∧ ∀ i r, i < m → r < 8 → sv (8 * i + r) = st (8 * tp i + r)
def rD1 (X Y : gM) (c : Nat) (e : cD) (t : nD) : Prop := X.2.1 0 15 = some e.1 ∧ Y.1 0 51 = 1 ∧ Y.1 0 53 = nI c ∧ xDr X 15 t ∧ mDq Y t ∧ nRs t ∧ t.1 2 = e.2.1 ∧ rHo X Y t
def rDD (X Y : gM) (nc : Nat) (cl : Nat → cD) : Prop := (X.2.1 0 15 = none ∧ Y.1 0 51 = 0 ∧ Y.1 0 52 = 0 ∧ X.1 37 1 = 0 ∧ X.1 37 4 = 0) ∨ ∃ c t, c < nc ∧ rD1 X Y c (cl c) t
def rP (X Y : gM) : Prop := ∃ m, m ≤ 4 ∧ X.1 42 9 = nI m ∧ Y.1 0 71 = nI m ∧ ∀ k, k < m → X.1 48 k = Y.1 46 k
def Rel (X Y : gM) : Prop := ∃ (bn : Nat) (wd : Nat → Nat) (nc : Nat) (cl : Nat → cD) (ns : Nat) (sy : Nat → sD) (tn : Nat) (tp st sv : Nat → Nat), XR X ∧ MR Y ∧ rB' X Y bn wd ∧ rC X Y nc cl ∧ rS X Y ns sy ∧ rSC nc cl ns sy ∧ rT' X Y tn tp ∧ rX X Y st ∧ xSt X 38 sv ∧ rDD X Y nc cl ∧ rP X Y
/-- what an answer of both is -/
def Pz (r r' : Option Value) (X Y : gM) : Prop := (∃ v, r = some (.int v)) ∧ r = r' ∧ Rel X Y
def Pr (jx jm : Nat) (as : List Value) : Prop := ∀ X Y, Rel X Y → Call 200 jx (.ref 0 :: as) X (fun r X' => Call 200 jm (.ref 0 :: as) Y (fun r' Y' => Pz r r' X' Y'))
def fX (P PR : Nat → Nat → Prop) (X X' : gM) : Prop := (∀ q, q < X.2.2.length → X'.2.2[q]? = X.2.2[q]?) ∧ (∀ o k, o < X.2.2.length → ¬ P o k → X'.1 o k = X.1 o k) ∧ ∀ o k, o < X.2.2.length → ¬ PR o k → X'.2.1 o k = X.2.1 o k
section
variable {P PR Q : Nat → Nat → Prop} {X X' X2 Y Y' : gM} {bn nc ns tn k j o c : Nat} {wd tp st sv : Nat → Nat} {cl : Nat → cD} {sy : Nat → sD} {e : cD} {es : sD} {t : nD}
theorem fX_rf : fX P PR X X := ⟨fun _ _ => rfl, fun _ _ _ _ => rfl, fun _ _ _ _ => rfl⟩
theorem fX_len (h : fX P PR X X') : X.2.2.length ≤ X'.2.2.length := by
  rcases Nat.eq_zero_or_pos X.2.2.length with h0 | h0
  · omega
  · have h1 := h.1 (X.2.2.length - 1) (by omega)
    rw [List.getElem?_eq_getElem (show X.2.2.length - 1 < X.2.2.length by omega)] at h1
    have := (List.getElem?_eq_some_iff.mp h1).1
    omega
theorem fX_wk {P' PR' : Nat → Nat → Prop} (h : fX P PR X X') (h1 : ∀ o k, P o k → P' o k) (h2 : ∀ o k, PR o k → PR' o k) : fX P' PR' X X' := ⟨h.1, fun o k ho hn => h.2.1 o k ho (fun z => hn (h1 o k z)), fun o k ho hn => h.2.2 o k ho (fun z => hn (h2 o k z))⟩
theorem fX_tr (h : fX P PR X X') (h2 : fX P PR X' X2) : fX P PR X X2 := by
  have hl := fX_len h
  exact ⟨fun q hq => (h2.1 q (by omega)).trans (h.1 q hq), fun o k ho hn => (h2.2.1 o k (by omega) hn).trans (h.2.1 o k ho hn), fun o k ho hn => (h2.2.2 o k (by omega) hn).trans (h.2.2 o k ho hn)⟩
theorem fX_gFr {R : Nat → Prop} (h : gFr R X X') : fX (fun o _ => R o) (fun _ _ => False) X X' := ⟨fun q _ => by rw [h.1], fun o k _ hn => by rw [h.2 o hn], fun o k _ _ => by rw [h.1]⟩
theorem fX_sI {x : Int32} (h : P o k) : fX P PR X (gsI X o k x) := ⟨fun _ _ => rfl, fun a b _ hn => by rw [gsI_1, if_neg (fun z => hn (by rw [z.1, z.2]; exact h))], fun _ _ _ _ => rfl⟩
theorem fX_sR {r : Option Nat} (h : PR o k) : fX P PR X (gsR X o k r) := ⟨fun _ _ => rfl, fun _ _ _ _ => rfl, fun a b _ hn => by rw [gsR_2, if_neg (fun z => hn (by rw [z.1, z.2]; exact h))]⟩
theorem x49 (hx : XR X) : 49 ≤ X.2.2.length := by
  have h := hx.1 48 (by decide)
  have h2 : XSH[48]? = some (.inr (0, 4)) := rfl
  rw [h2] at h
  have := (List.getElem?_eq_some_iff.mp h).1
  omega
theorem fX_gObj (hf : fX P PR X X') {ci : Nat} (h : gObj X o ci) : gObj X' o ci ∧ o < X.2.2.length := by
  unfold gObj at h ⊢
  have hl := (List.getElem?_eq_some_iff.mp h).1
  exact ⟨by rw [hf.1 o hl]; exact h, hl⟩
theorem fX_gAr (hf : fX P PR X X') {ci : Nat} (h : gAr X o ci) : gAr X' o ci ∧ gLen X' o = gLen X o ∧ o < X.2.2.length := by
  have h2 := gTy_ok h
  unfold gAr gTy gLen at *
  rw [hf.1 o h2.2]
  exact ⟨h, rfl, h2.2⟩
theorem fX_XR (hf : fX P PR X X') (hPR : ∀ e ∈ XRF, ¬ PR e.1 e.2.1) (hx : XR X) : XR X' := by
  have hl := x49 hx
  have hb : (XRF.all (fun e => decide (e.1 < 49))) = true := by decide
  exact ⟨fun i hi => by rw [hf.1 i (Nat.lt_of_lt_of_le hi hl)]; exact hx.1 i hi, fun e he => by
    have := of_decide_eq_true (List.all_eq_true.mp hb e he)
    rw [hf.2.2 _ _ (by omega) (hPR e he)]; exact hx.2 e he⟩
theorem rB_fr (hx : XR X) (hf : fX P PR X X') (hg : gFq Q Y Y') (h1 : ¬ P 0 1) (h2 : ∀ k, ¬ P 1 k) (h3 : ¬ Q 0 2) (h4 : ∀ k, ¬ Q 2 k) (h : rB' X Y bn wd) : rB' X' Y' bn wd := by
  have hl := x49 hx
  exact ⟨⟨by rw [hf.2.1 0 1 (by omega) h1]; exact h.1.1, h.1.2⟩, by rw [hg.2 0 2 h3]; exact h.2.1, fun q hq => by rw [hf.2.1 1 q (by omega) (h2 q), hg.2 2 q (h4 q)]; exact h.2.2 q hq⟩
theorem xCo_fX {p len ec : Nat} {col : Nat → Nat} (hf : fX P PR X X') (hP : ∀ k, ¬ P p k ∧ ¬ P (p + 1) k) (hR : ¬ PR p 2) (h : xCo X p len ec col) : xCo X' p len ec col := by
  obtain ⟨q1, q2, q3, q4, q5, q6, q7, q8, q9⟩ := h
  obtain ⟨o1, l1⟩ := fX_gObj hf q1
  obtain ⟨a1, a2, l2⟩ := fX_gAr hf q3
  exact ⟨o1, by rw [hf.2.2 p 2 l1 hR]; exact q2, a1, by rw [a2]; exact q4, by rw [hf.2.1 p 0 l1 (hP 0).1]; exact q5, by rw [hf.2.1 p 3 l1 (hP 3).1]; exact q6, q7, q8, fun k hk => by rw [hf.2.1 _ k l2 (hP k).2]; exact q9 k hk⟩
theorem rC1_fr (hx : XR X) (hf : fX P PR X X') (hg : gFq Q Y Y') (hP : ∀ k, ¬ P e.1 k ∧ ¬ P (e.1 + 1) k) (hR : ¬ PR e.1 2 ∧ ¬ PR 2 k) (hQ : ∀ i, ¬ Q 3 i ∧ ¬ Q 4 i ∧ ¬ Q 5 i ∧ ¬ Q 6 i) (h : rC1 X Y k e) : rC1 X' Y' k e := by
  have hl := x49 hx
  obtain ⟨q1, q2, q3, q4, q5, q6, q7, q8, q9, q10, q11, q12⟩ := h
  obtain ⟨o1, l1⟩ := fX_gObj hf q3.1
  exact ⟨by rw [hf.2.2 2 k (by omega) hR.2]; exact q1, q2, xCo_fX hf hP hR.1 q3, by rw [hf.2.1 _ 1 l1 (hP 1).1]; exact q4, q5, q6, q7, q8, by rw [hg.2 3 k (hQ k).1]; exact q9, by rw [hg.2 4 k (hQ k).2.1]; exact q10, by rw [hg.2 5 k (hQ k).2.2.1]; exact q11, fun i hi => by rw [hg.2 6 _ (hQ _).2.2.2]; exact q12 i hi⟩
theorem rC_fr (hx : XR X) (hf : fX P PR X X') (hg : gFq Q Y Y') (hP : ∀ o k, P o k → o ≤ 48) (h0 : ¬ P 0 3) (hR : ∀ o k, PR o k → o ≤ 48 ∧ o ≠ 2) (hQ : ∀ i, ¬ Q 3 i ∧ ¬ Q 4 i ∧ ¬ Q 5 i ∧ ¬ Q 6 i) (hq0 : ¬ Q 0 3) (h : rC X Y nc cl) : rC X' Y' nc cl := by
  have hl := x49 hx
  obtain ⟨⟨q1, q2⟩, q3, q4, q5, q6⟩ := h
  refine ⟨⟨by rw [hf.2.1 0 3 (by omega) h0]; exact q1, q2⟩, by rw [hg.2 0 3 hq0]; exact q3, fun k hk => ?_, fun k h1 h2 => by rw [hg.2 5 k (hQ k).2.2.1]; exact ⟨(q5 k h1 h2).1, fun i hi => by rw [hg.2 6 _ (hQ _).2.2.2]; exact (q5 k h1 h2).2 i hi⟩, q6⟩
  have h48 := (q4 k hk).2.1
  exact rC1_fr hx hf hg (fun i => ⟨fun z => by have := hP _ _ z; omega, fun z => by have := hP _ _ z; omega⟩) ⟨fun z => by have := hR _ _ z; omega, fun z => (hR _ _ z).2 rfl⟩ hQ (q4 k hk)
theorem xSty_fX {p q N : Nat} {mk : Nat → Nat} (hf : fX P PR X X') (hP : ∀ k, ¬ P q k) (hR : ¬ PR p 0) (h : xSty X p q N mk) : xSty X' p q N mk := by
  obtain ⟨q1, q2, q3, q4, q5, q6, q7, q8, q9⟩ := h
  obtain ⟨o1, l1⟩ := fX_gObj hf q1
  obtain ⟨a1, a2, l2⟩ := fX_gAr hf q3
  refine ⟨o1, by rw [hf.2.2 p 0 l1 hR]; exact q2, a1, ?_, by rw [a2]; exact q5, q6, q7, q8, fun k hk => by rw [hf.2.1 q k l2 (hP k)]; exact q9 k hk⟩
  unfold gAr at a1
  rw [a1]
  rfl
theorem rS1_fr (hx : XR X) (hf : fX P PR X X') (hg : gFq Q Y Y') (hP : ∀ k, ¬ P es.1 k ∧ ¬ P es.2.1 k) (hR : ¬ PR es.1 0 ∧ ¬ PR 3 j) (hQ : ¬ Q 8 j ∧ ¬ Q 9 j ∧ ∀ k, k < 120 → ¬ Q 7 (120 * j + k)) (h : rS1 X Y j es) : rS1 X' Y' j es := by
  have hl := x49 hx
  obtain ⟨q1, q2, q3, q4, q5, q6⟩ := h
  obtain ⟨o1, l1⟩ := fX_gObj hf q2.1
  have hn := q5.2.1.1
  exact ⟨by rw [hf.2.2 3 j (by omega) hR.2]; exact q1, xSty_fX hf (fun k => (hP k).2) hR.1 q2, by rw [hf.2.1 _ 1 l1 (hP 1).1]; exact q3, q4, ⟨by rw [hg.2 8 j hQ.1]; exact q5.1, q5.2.1, fun k hk => by rw [hg.2 7 _ (hQ.2.2 k (by omega))]; exact q5.2.2 k hk⟩, by rw [hg.2 9 j hQ.2.1]; exact q6⟩
theorem rS_fr (hx : XR X) (hf : fX P PR X X') (hg : gFq Q Y Y') (hP : ∀ j, j < ns → ∀ k, ¬ P (sy j).1 k ∧ ¬ P (sy j).2.1 k) (h0 : ¬ P 0 5) (hR : ∀ o k, PR o k → o ≤ 48 ∧ o ≠ 3) (hQ : ∀ k, ¬ Q 7 k ∧ ¬ Q 8 k ∧ ¬ Q 9 k) (hq0 : ¬ Q 0 4) (h : rS X Y ns sy) : rS X' Y' ns sy := by
  have hl := x49 hx
  obtain ⟨⟨q1, q2⟩, q3, q4⟩ := h
  refine ⟨⟨by rw [hf.2.1 0 5 (by omega) h0]; exact q1, q2⟩, by rw [hg.2 0 4 hq0]; exact q3, fun j hj => ?_⟩
  have h48 := (q4 j hj).2.1.2.2.2.2.2.1
  exact rS1_fr hx hf hg (hP j hj) ⟨fun z => by have := hR _ _ z; omega, fun z => (hR _ _ z).2 rfl⟩ ⟨(hQ _).2.1, (hQ _).2.2, fun k _ => (hQ _).1⟩ (q4 j hj)
theorem rS_48 (h : rS X Y ns sy) (hP : ∀ o k, P o k → o ≤ 48) : ∀ j, j < ns → ∀ k, ¬ P (sy j).1 k ∧ ¬ P (sy j).2.1 k := fun j hj k => by
  obtain ⟨q1, q2, q3, q4, q5, q6, q7, q8, q9⟩ := (h.2.2 j hj).2.1
  exact ⟨fun z => by have := hP _ _ z; omega, fun z => by have := hP _ _ z; omega⟩
theorem rT_fr (hx : XR X) (hf : fX P PR X X') (hg : gFq Q Y Y') (h1 : ¬ P 0 7) (h2 : ∀ k, ¬ P 4 k) (h3 : ¬ Q 0 1) (h4 : ∀ k, ¬ Q 1 k) (h : rT' X Y tn tp) : rT' X' Y' tn tp := by
  have hl := x49 hx
  exact ⟨⟨by rw [hf.2.1 0 7 (by omega) h1]; exact h.1.1, h.1.2⟩, by rw [hg.2 0 1 h3]; exact h.2.1, fun q hq => by rw [hf.2.1 4 q (by omega) (h2 q), hg.2 1 q (h4 q)]; exact h.2.2 q hq⟩
theorem xSt_fX {so : Nat} (hx : XR X) (hso : so < 49) (hf : fX P PR X X') (h1 : ∀ k, ¬ P so k) (h : xSt X so sv) : xSt X' so sv := by
  have hl := x49 hx
  exact fun q hq => by rw [hf.2.1 so q (by omega) (h1 q)]; exact h q hq
theorem xSt_fq {so : Nat} (hg : gFq Q Y Y') (h1 : ∀ k, ¬ Q so k) (h : xSt Y so sv) : xSt Y' so sv := fun q hq => by rw [hg.2 so q (h1 q)]; exact h q hq
theorem rX_fr (hx : XR X) (hf : fX P PR X X') (hg : gFq Q Y Y') (h1 : ∀ k, ¬ P 5 k) (h2 : ∀ k, ¬ Q 35 k) (h : rX X Y st) : rX X' Y' st := ⟨xSt_fX hx (by decide) hf h1 h.1, xSt_fq hg h2 h.2⟩
theorem xDr_fX (hx : XR X) (hf : fX P PR X X') (h1 : ∀ o k, 15 ≤ o → o ≤ 24 → ¬ P o k) (h : xDr X 15 t) : xDr X' 15 t := by
  have hl := x49 hx
  obtain ⟨⟨l1, l2, l3⟩, d1, d2, d3, d4⟩ := h
  refine ⟨⟨by rw [hf.2.1 _ _ (by omega) (h1 _ _ (by omega) (by omega))]; exact l1, l2, fun k hk => ⟨(l3 k hk).1, fun f hf2 => by rw [hf.2.1 _ _ (by omega) (h1 _ _ (by omega) (by omega))]; exact (l3 k hk).2 f hf2⟩⟩, fun f f1 f2 f3 f4 => by rw [hf.2.1 _ _ (by omega) (h1 _ _ (by omega) (by omega))]; exact d1 f f1 f2 f3 f4, by rw [hf.2.1 _ _ (by omega) (h1 _ _ (by omega) (by omega))]; exact d2, by rw [hf.2.1 _ _ (by omega) (h1 _ _ (by omega) (by omega))]; exact d3, by rw [hf.2.1 _ _ (by omega) (h1 _ _ (by omega) (by omega))]; exact d4⟩
theorem xHg_fX {s : (Nat → Bool) × List Nat} (hx : XR X) (hf : fX P PR X X') (h1 : ∀ o k, 37 ≤ o → o ≤ 40 → ¬ P o k) (h : xHg X s) : xHg X' s := by
  have hl := x49 hx
  exact ⟨fun q hq => by rw [hf.2.1 39 q (by omega) (h1 39 q (by decide) (by decide))]; exact h.1 q hq, by rw [hf.2.1 37 4 (by omega) (h1 37 4 (by decide) (by decide))]; exact h.2.1, fun i a hi => by rw [hf.2.1 40 i (by omega) (h1 40 i (by decide) (by decide))]; exact h.2.2 i a hi⟩
/-- what the drape's questions of the reference stand on -/
def yD (o k : Nat) : Prop := inW 0 o k ∨ o = 34 ∨ o = 36 ∨ o = 37 ∨ o = 38 ∨ (o = 0 ∧ (k = 51 ∨ k = 52 ∨ k = 53 ∨ k = 60 ∨ k = 61))
theorem mDq_fq (hg : gFq Q Y Y') (hQ : ∀ o k, inW 0 o k → ¬ Q o k) (h9 : t.1 9 ≤ 2000) (h : mDq Y t) : mDq Y' t := by
  obtain ⟨⟨r4, r9, r5, r6, r8, r13, r14, r7, r12, r15⟩, hl, hp⟩ := h
  have hr : ∀ o, 18 ≤ o → o ≤ 28 → Y'.1 o 0 = Y.1 o 0 := fun o h1 h2 => hg.2 o 0 (hQ o 0 (Or.inr (Or.inr ⟨h1, h2, rfl⟩)))
  refine ⟨?_, mLy_fr hg (hQ 20 0 (Or.inr (Or.inr ⟨by decide, by decide, rfl⟩))) (fun o k h1 h2 h3 h4 => hQ o k (Or.inl ⟨h1, h2, h3, h4⟩)) hl, mPn_fr hg (by omega) (fun k h1 h2 => hQ 17 k (Or.inr (Or.inl ⟨rfl, h1, h2⟩))) hp⟩
  rw [hr 18 (by decide) (by decide), hr 19 (by decide) (by decide), hr 21 (by decide) (by decide), hr 22 (by decide) (by decide), hr 24 (by decide) (by decide), hr 26 (by decide) (by decide), hr 27 (by decide) (by decide), hr 23 (by decide) (by decide), hr 25 (by decide) (by decide), hr 28 (by decide) (by decide)]
  exact ⟨r4, r9, r5, r6, r8, r13, r14, r7, r12, r15⟩
theorem rHo_fr (hx : XR X) (hf : fX P PR X X') (hg : gFq Q Y Y') (h1 : ∀ o k, 37 ≤ o → o ≤ 40 → ¬ P o k) (hQ : ∀ o k, yD o k → ¬ Q o k) (h9 : t.1 9 ≤ 2000) (h : rHo X Y t) : rHo X' Y' t := by
  have hl := x49 hx
  rcases h with ⟨q1, q2, q3⟩ | ⟨m, sv, st, tp, q1, q2, q3, q4, q5, q6, q7, q8, q9, q10, q11⟩
  · exact Or.inl ⟨by rw [hf.2.1 37 1 (by omega) (h1 _ _ (by decide) (by decide))]; exact q1, by rw [hf.2.1 37 4 (by omega) (h1 _ _ (by decide) (by decide))]; exact q2, by rw [hg.2 0 52 (hQ _ _ (by unfold yD; omega))]; exact q3⟩
  · refine Or.inr ⟨m, sv, st, tp, q1, by rw [hf.2.1 37 1 (by omega) (h1 _ _ (by decide) (by decide))]; exact q2, xHg_fX hx hf h1 q3, q4, xSt_fX hx (by decide) hf (fun k => h1 38 k (by decide) (by decide)) q5, by rw [hg.2 0 52 (hQ _ _ (by unfold yD; omega))]; exact q6, by rw [hg.2 0 60 (hQ _ _ (by unfold yD; omega))]; exact q7, fun q hq => by rw [hg.2 37 q (hQ _ _ (by unfold yD; omega))]; exact q8 q hq, xSt_fq hg (fun k => hQ 36 k (by unfold yD; omega)) q9, ⟨fun a ha => by rw [hg.2 34 a (hQ _ _ (by unfold yD; omega))]; exact q10.1 a ha, by rw [hg.2 0 61 (hQ _ _ (by unfold yD; omega))]; exact q10.2.1, fun i a hi => by rw [hg.2 38 i (hQ _ _ (by unfold yD; omega))]; exact q10.2.2 i a hi⟩, q11⟩
theorem rD1_fr (hx : XR X) (hf : fX P PR X X') (hg : gFq Q Y Y') (h1 : ∀ o k, (15 ≤ o ∧ o ≤ 24) ∨ (37 ≤ o ∧ o ≤ 40) → ¬ P o k) (hR : ¬ PR 0 15) (hQ : ∀ o k, yD o k → ¬ Q o k) (h : rD1 X Y c e t) : rD1 X' Y' c e t := by
  have hl := x49 hx
  obtain ⟨q1, q2, q3, q4, q5, q6, q7, q8⟩ := h
  exact ⟨by rw [hf.2.2 0 15 (by omega) hR]; exact q1, by rw [hg.2 0 51 (hQ _ _ (by unfold yD; omega))]; exact q2, by rw [hg.2 0 53 (hQ _ _ (by unfold yD; omega))]; exact q3, xDr_fX hx hf (fun o k h2 h3 => h1 o k (by omega)) q4, mDq_fq hg (fun o k z => hQ o k (Or.inl z)) q6.2.1 q5, q6, q7, rHo_fr hx hf hg (fun o k h2 h3 => h1 o k (by omega)) hQ q6.2.1 q8⟩
theorem rDD_fr (hx : XR X) (hf : fX P PR X X') (hg : gFq Q Y Y') (h1 : ∀ o k, (15 ≤ o ∧ o ≤ 24) ∨ (37 ≤ o ∧ o ≤ 40) → ¬ P o k) (hR : ¬ PR 0 15) (hQ : ∀ o k, yD o k → ¬ Q o k) (h : rDD X Y nc cl) : rDD X' Y' nc cl := by
  have hl := x49 hx
  rcases h with ⟨q1, q2, q3, q4, q5⟩ | ⟨c, t, hc, h⟩
  · exact Or.inl ⟨by rw [hf.2.2 0 15 (by omega) hR]; exact q1, by rw [hg.2 0 51 (hQ _ _ (by unfold yD; omega))]; exact q2, by rw [hg.2 0 52 (hQ _ _ (by unfold yD; omega))]; exact q3, by rw [hf.2.1 37 1 (by omega) (h1 _ _ (by omega))]; exact q4, by rw [hf.2.1 37 4 (by omega) (h1 _ _ (by omega))]; exact q5⟩
  · exact Or.inr ⟨c, t, hc, rD1_fr hx hf hg h1 hR hQ h⟩
theorem rP_fr (hx : XR X) (hf : fX P PR X X') (hg : gFq Q Y Y') (h1 : ¬ P 42 9) (h2 : ∀ k, ¬ P 48 k) (h3 : ¬ Q 0 71) (h4 : ∀ k, ¬ Q 46 k) (h : rP X Y) : rP X' Y' := by
  have hl := x49 hx
  obtain ⟨m, q1, q2, q3, q4⟩ := h
  exact ⟨m, q1, by rw [hf.2.1 42 9 (by omega) h1]; exact q2, by rw [hg.2 0 71 h3]; exact q3, fun k hk => by rw [hf.2.1 48 k (by omega) (h2 k), hg.2 46 k (h4 k)]; exact q4 k hk⟩
end
