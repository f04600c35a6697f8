/-! Where a text fails, and with which fault; how many letters of steps it has. -/
def cX' (tx : Nat → Nat) (a b : Nat) : Prop := ∃ mk u v e, cX tx mk a u b v e
abbrev nPF : Type := Nat → Nat → Nat → Nat → Nat → Prop
/-- an expression of mode m at a, o brackets open, fails: fault f at place p -/
def fEcl (tx : Nat → Nat) (P : nPF) : Prop :=
  (∀ o a, cDig (tx a) → cDig (tx (a + 1)) → cDig (tx (a + 2)) → cDig (tx (a + 3)) → P 0 o a 2 (a + 3)) ∧
  (∀ o a, ¬ cDig (tx a) → ¬ cVal (tx a) → tx a ≠ 40 → P 0 o a 1 a) ∧
  (∀ o a, tx a = 40 → 8 ≤ o → P 0 o a 4 a) ∧
  (∀ o a f p, tx a = 40 → o < 8 → P 2 (o + 1) (a + 1) f p → P 0 o a f p) ∧
  (∀ o a mk u b v e, tx a = 40 → o < 8 → cE tx mk 2 (o + 1) (a + 1) u b v e → ¬ cTim (tx b) → ¬ cPlu (tx b) → tx b ≠ 41 → P 0 o a 1 b) ∧
  (∀ o a f p, P 0 o a f p → P 1 o a f p) ∧
  (∀ o a mk u b v e f p, cE tx mk 1 o a u b v e → cTim (tx b) → P 0 o (b + 1) f p → P 1 o a f p) ∧
  (∀ o a f p, P 1 o a f p → P 2 o a f p) ∧
  (∀ o a mk u b v e f p, cE tx mk 2 o a u b v e → ¬ cTim (tx b) → cPlu (tx b) → P 1 o (b + 1) f p → P 2 o a f p)
def fE (tx : Nat → Nat) : nPF := fun m o a f p => ∀ P : nPF, fEcl tx P → P m o a f p
abbrev cLet (c : Nat) : Prop := cPln c ∨ cAct c ∨ c = 112 ∨ cNam c ∨ c = 91
abbrev nPT : Type := Nat → Nat → Nat → Nat → Nat → Nat → Prop
/-- steps from a to b, r rows open, the letters counted from l to z -/
def tScl (tx : Nat → Nat) (P : nPT) : Prop :=
  (∀ r l a, l < 40 → cPln (tx a) → P 0 r l a (l + 1) (a + 1)) ∧
  (∀ r l a b, l < 40 → cAct (tx a) → cX' tx (a + 1) b → P 0 r l a (l + 1) b) ∧
  (∀ r l a b c, l < 40 → tx a = 112 → cX' tx (a + 1) b → tx b = 46 → cX' tx (b + 1) c → P 0 r l a (l + 1) c) ∧
  (∀ r l a b, l < 40 → cNam (tx a) → tx (a + 1) = 61 → cX' tx (a + 2) b → P 0 r l a (l + 1) b) ∧
  (∀ r l a b z c, l < 40 → r < 3 → tx a = 91 → cX' tx (a + 1) b → tx b = 58 → P 1 (r + 1) (l + 1) (b + 1) z c → tx c = 93 → P 0 r l a z (c + 1)) ∧
  (∀ r l a z b, P 0 r l a z b → P 1 r l a z b) ∧
  (∀ r l a y b z c, P 1 r l a y b → tx b = 59 → P 0 r y (b + 1) z c → P 1 r l a z c)
def tS (tx : Nat → Nat) : nPT := fun m r l a z b => ∀ P : nPT, tScl tx P → P m r l a z b
abbrev nPG : Type := Nat → Nat → Nat → Nat → Nat → Nat → Prop
def fScl (tx : Nat → Nat) (P : nPG) : Prop :=
  (∀ r l a, ¬ cLet (tx a) → P 0 r l a 1 a) ∧
  (∀ r l a, tx a = 91 → 3 ≤ r → P 0 r l a 3 a) ∧
  (∀ r l a, cLet (tx a) → (tx a = 91 → r < 3) → 40 ≤ l → P 0 r l a 5 a) ∧
  (∀ r l a f p, l < 40 → (cAct (tx a) ∨ tx a = 112 ∨ (tx a = 91 ∧ r < 3)) → fE tx 2 0 (a + 1) f p → P 0 r l a f p) ∧
  (∀ r l a b, l < 40 → tx a = 112 → cX' tx (a + 1) b → tx b ≠ 46 → P 0 r l a 1 b) ∧
  (∀ r l a b f p, l < 40 → tx a = 112 → cX' tx (a + 1) b → tx b = 46 → fE tx 2 0 (b + 1) f p → P 0 r l a f p) ∧
  (∀ r l a, l < 40 → cNam (tx a) → tx (a + 1) ≠ 61 → P 0 r l a 1 (a + 1)) ∧
  (∀ r l a f p, l < 40 → cNam (tx a) → tx (a + 1) = 61 → fE tx 2 0 (a + 2) f p → P 0 r l a f p) ∧
  (∀ r l a b, l < 40 → r < 3 → tx a = 91 → cX' tx (a + 1) b → tx b ≠ 58 → P 0 r l a 1 b) ∧
  (∀ r l a b f p, l < 40 → r < 3 → tx a = 91 → cX' tx (a + 1) b → tx b = 58 → P 1 (r + 1) (l + 1) (b + 1) f p → P 0 r l a f p) ∧
  (∀ r l a b z c, l < 40 → r < 3 → tx a = 91 → cX' tx (a + 1) b → tx b = 58 → tS tx 1 (r + 1) (l + 1) (b + 1) z c → tx c ≠ 59 → tx c ≠ 93 → P 0 r l a 1 c) ∧
  (∀ r l a f p, P 0 r l a f p → P 1 r l a f p) ∧
  (∀ r l a z b f p, tS tx 1 r l a z b → tx b = 59 → P 0 r z (b + 1) f p → P 1 r l a f p)
def fS (tx : Nat → Nat) : nPG := fun m r l a f p => ∀ P : nPG, fScl tx P → P m r l a f p
/-- the whole text fails -/
def fW (tx : Nat → Nat) (n f p : Nat) : Prop := fS tx 1 0 0 0 f p ∨ ∃ z, tS tx 1 0 0 0 z p ∧ tx p ≠ 59 ∧ p < n ∧ f = 1
/-- the marks are looked at only where they were put -/
theorem cE_mk {tx mk : Nat → Nat} {m o a u b v : Nat} {e : nEv} (h : cE tx mk m o a u b v e) : u < v ∧ ∀ mk', (∀ k, u ≤ k → k < v → mk' k = mk k) → cE tx mk' m o a u b v e := by
  refine h (fun m o a u b v e => u < v ∧ ∀ mk' : Nat → Nat, (∀ k, u ≤ k → k < v → mk' k = mk k) → cE tx mk' m o a u b v e) ⟨?_, ?_, ?_, ?_, ?_, ?_, ?_⟩
  · intro o a u k h1 h2 h3 h4 h5
    exact ⟨by omega, fun mk' hk P hP => hP.1 o a u k h1 h2 h3 h4 (by rw [hk u (by omega) (by omega)]; exact h5)⟩
  · intro o a u h1 h2
    exact ⟨by omega, fun mk' hk P hP => hP.2.1 o a u h1 (by rw [hk u (by omega) (by omega)]; exact h2)⟩
  · intro o a u b v e h1 h2 h3 h4
    exact ⟨h3.1, fun mk' hk P hP => hP.2.2.1 o a u b v e h1 h2 (h3.2 mk' hk P hP) h4⟩
  · intro o a u b v e h3
    exact ⟨h3.1, fun mk' hk P hP => hP.2.2.2.1 o a u b v e (h3.2 mk' hk P hP)⟩
  · intro o a u b v e c w f h1 h2 h3 h4
    exact ⟨by omega, fun mk' hk P hP => hP.2.2.2.2.1 o a u b v e c w f (h1.2 mk' (fun k q1 q2 => hk k q1 (by omega)) P hP) h2 (h3.2 mk' (fun k q1 q2 => hk k (by omega) (by omega)) P hP) (by rw [hk w (by omega) (by omega)]; exact h4)⟩
  · intro o a u b v e h3
    exact ⟨h3.1, fun mk' hk P hP => hP.2.2.2.2.2.1 o a u b v e (h3.2 mk' hk P hP)⟩
  · intro o a u b v e c w f h1 h2 h3 h4
    exact ⟨by omega, fun mk' hk P hP => hP.2.2.2.2.2.2 o a u b v e c w f (h1.2 mk' (fun k q1 q2 => hk k q1 (by omega)) P hP) h2 (h3.2 mk' (fun k q1 q2 => hk k (by omega) (by omega)) P hP) (by rw [hk w (by omega) (by omega)]; exact h4)⟩
theorem cX_mk {tx mk mk' : Nat → Nat} {a u b v : Nat} {e : nEv} (h : cX tx mk a u b v e) (hk : ∀ k, u ≤ k → k < v → mk' k = mk k) : cX tx mk' a u b v e := ⟨(cE_mk h.1).2 mk' hk, h.2⟩
theorem cX_lt {tx mk : Nat → Nat} {a u b v : Nat} {e : nEv} (h : cX tx mk a u b v e) : u < v := (cE_mk h.1).1
theorem cS_mk {tx mk : Nat → Nat} {m r a u b v : Nat} {D : nDn} (h : cS tx mk m r a u b v D) : u < v ∧ ∀ mk', (∀ k, u ≤ k → k < v → mk' k = mk k) → cS tx mk' m r a u b v D := by
  refine h (fun m r a u b v D => u < v ∧ ∀ mk' : Nat → Nat, (∀ k, u ≤ k → k < v → mk' k = mk k) → cS tx mk' m r a u b v D) ⟨?_, ?_, ?_, ?_, ?_, ?_, ?_⟩
  · intro r a u h1 h2 h3
    exact ⟨by omega, fun mk' hk P hP => hP.1 r a u h1 (by rw [hk u (by omega) (by omega)]; exact h2) (by rw [hk (u + 1) (by omega) (by omega)]; exact h3)⟩
  · intro r a u b v e h1 h2 h3 h4
    have hl := cX_lt h3
    exact ⟨by omega, fun mk' hk P hP => hP.2.1 r a u b v e h1 (by rw [hk u (by omega) (by omega)]; exact h2) (cX_mk h3 (fun k q1 q2 => hk k (by omega) (by omega))) (by rw [hk v (by omega) (by omega)]; exact h4)⟩
  · intro r a u b v e c w f h1 h2 h3 h4 h5 h6
    have hl := cX_lt h3
    have hl2 := cX_lt h5
    exact ⟨by omega, fun mk' hk P hP => hP.2.2.1 r a u b v e c w f h1 (by rw [hk u (by omega) (by omega)]; exact h2) (cX_mk h3 (fun k q1 q2 => hk k (by omega) (by omega))) h4 (cX_mk h5 (fun k q1 q2 => hk k (by omega) (by omega))) (by rw [hk w (by omega) (by omega)]; exact h6)⟩
  · intro r a u b v e h1 h2 h3 h4 h5
    have hl := cX_lt h4
    exact ⟨by omega, fun mk' hk P hP => hP.2.2.2.1 r a u b v e h1 (by rw [hk u (by omega) (by omega)]; exact h2) h3 (cX_mk h4 (fun k q1 q2 => hk k (by omega) (by omega))) (by rw [hk v (by omega) (by omega)]; exact h5)⟩
  · intro r a u b v e c w D h1 h2 h3 h4 h5 h6 h7 h8 h9 h10
    have hl := cX_lt h4
    exact ⟨by omega, fun mk' hk P hP => hP.2.2.2.2.1 r a u b v e c w D h1 h2 (by rw [hk u (by omega) (by omega)]; exact h3) (cX_mk h4 (fun k q1 q2 => hk k (by omega) (by omega))) h5 (by rw [hk v (by omega) (by omega)]; exact h6) (by rw [hk (v + 1) (by omega) (by omega)]; exact h7) (h8.2 mk' (fun k q1 q2 => hk k (by omega) (by omega)) P hP) h9 (by rw [hk w (by omega) (by omega)]; exact h10)⟩
  · intro r a u b v D h1
    exact ⟨h1.1, fun mk' hk P hP => hP.2.2.2.2.2.1 r a u b v D (h1.2 mk' hk P hP)⟩
  · intro r a u b v D c w E h1 h2 h3
    exact ⟨by omega, fun mk' hk P hP => hP.2.2.2.2.2.2 r a u b v D c w E (h1.2 mk' (fun k q1 q2 => hk k q1 (by omega)) P hP) h2 (h3.2 mk' (fun k q1 q2 => hk k (by omega) q2) P hP)⟩
