/-! What a style says, neutral: what an expression is worth, what a step does; the grammar as the least relation between the text and its marks. -/
abbrev nEv : Type := (Nat → Int32) → Nat × Nat → Int32 × Nat × Nat
abbrev nS : Type := (Nat → Int32) × Nat × Nat × nD
abbrev nDn : Type := (Nat → Nat) → nS → nS
def evN (v : Nat) : nEv := fun _ fl => (nI v, fl)
def evL (c : Nat) : nEv := fun en fl => (en c, fl.1, if c = 108 ∧ fl.1 = 0 then 1 else fl.2)
def opV (c : Nat) (x y : Int32) : Int32 := if c = 43 then x + y else if c = 45 then x - y else if c = 42 then x * y else if y = 0 then x / 1 else x / y
def evO (c : Nat) (e1 e2 : nEv) : nEv := fun en fl => (opV c (e1 en fl).1 (e2 en (e1 en fl).2).1, if c = 47 ∧ (e2 en (e1 en fl).2).1 = 0 then 1 else (e2 en (e1 en fl).2).2.1, (e2 en (e1 en fl).2).2.2)
def envOf (g : Nat → Nat) (s : nS) (c : Nat) : Int32 := if c = 108 then nI (s.2.2.2.1 2 - s.2.2.2.1 4) else if c = 103 then nI (nWide g (s.2.2.2.1 5) (s.2.2.2.1 3)) else if c = 107 then nI (s.2.2.2.1 6) else if c = 105 then nI (s.2.2.2.1 5) else s.1 (c - 120)
def brk (w : Nat) (s : nS) : nS := (s.1, s.2.1, s.2.2.1, (nU (nU s.2.2.2.1 14 w) 15 (s.2.1 + 1), s.2.2.2.2))
def ask (a : Nat) (s : nS) : nS := (s.1, s.2.1, a, s.2.2.2)
def fin (r : Nat × nD) (s : nS) : nS := if r.1 = 0 then (s.1, s.2.1 + 1, s.2.2.1, r.2) else brk r.1 s
def dE (g : Nat → Nat) (e : nEv) (k : Int32 → nS → nS) (s : nS) : nS :=
  if (e (envOf g s) (0, s.2.2.1)).2.1 = 0 then k (e (envOf g s) (0, s.2.2.1)).1 (ask (e (envOf g s) (0, s.2.2.1)).2.2 s) else brk 5 (ask (e (envOf g s) (0, s.2.2.1)).2.2 s)
def dRep (D : nS → nS) : Nat → nS → nS
  | 0, s => s
  | k + 1, s => if (D s).2.2.2.1 14 = 0 then dRep D k (D s) else D s
/-- a plain act, one with a number, a pleat, a name given, a row -/
def dPlain (c : Nat) (g : Nat → Nat) (s : nS) : nS := if c = 116 then fin (aTuck s.2.2.2) s else if c = 114 then fin (0, aTurn s.2.2.2) s else if c = 102 then fin (0, aFlip s.2.2.2) s else fin (aCross g s.2.2.2) s
def dNum (c : Nat) (e : nEv) (g : Nat → Nat) (s : nS) : nS := dE g e (fun v s => fin (if c = 119 then aWind g s.2.2.2 v else if c = 117 then aUp s.2.2.2 v else if c = 100 then aDown s.2.2.2 v else aHang s.2.2.2 v) s) s
def dPleat (e f : nEv) (g : Nat → Nat) (s : nS) : nS := dE g e (fun v s => dE g f (fun w s => fin (aPleat s.2.2.2 v w) s) s) s
def dName (c : Nat) (e : nEv) (g : Nat → Nat) (s : nS) : nS := dE g e (fun v s => ((fun q => if q = c - 120 then v else s.1 q), s.2.1 + 1, s.2.2)) s
def dRow (e : nEv) (D : nDn) (g : Nat → Nat) (s : nS) : nS := dE g e (fun v s => if isNm v then dRep (D g) v.toInt.toNat (s.1, s.2.1 + 1, s.2.2) else brk 4 s) s
def dStep (D : nDn) (g : Nat → Nat) (s : nS) : nS := if 2000 ≤ s.2.1 then brk 6 s else D g s
def dSeq (D E : nDn) (g : Nat → Nat) (s : nS) : nS := if (D g s).2.2.2.1 14 = 0 then E g (D g s) else D g s
abbrev cDig (c : Nat) : Prop := 48 ≤ c ∧ c ≤ 57
abbrev cVal (c : Nat) : Prop := c = 120 ∨ c = 121 ∨ c = 122 ∨ c = 108 ∨ c = 103 ∨ c = 107 ∨ c = 105
abbrev cTim (c : Nat) : Prop := c = 42 ∨ c = 47
abbrev cPlu (c : Nat) : Prop := c = 43 ∨ c = 45
abbrev cPln (c : Nat) : Prop := c = 116 ∨ c = 114 ∨ c = 102 ∨ c = 115
abbrev cAct (c : Nat) : Prop := c = 119 ∨ c = 117 ∨ c = 100 ∨ c = 104
abbrev cNam (c : Nat) : Prop := c = 120 ∨ c = 121 ∨ c = 122
/-- the number that the k digits from a on spell -/
def nDig (tx : Nat → Nat) (a : Nat) : Nat → Nat
  | 0 => 0
  | k + 1 => 10 * nDig tx a k + (tx (a + k) - 48)
abbrev nPE : Type := Nat → Nat → Nat → Nat → Nat → Nat → nEv → Prop
def cEcl (tx mk : Nat → Nat) (P : nPE) : Prop :=
  (∀ o a u k, 1 ≤ k → k ≤ 3 → (∀ i, i < k → cDig (tx (a + i))) → ¬ cDig (tx (a + k)) → mk u = 256 + nDig tx a k → P 0 o a u (a + k) (u + 1) (evN (nDig tx a k))) ∧
  (∀ o a u, cVal (tx a) → mk u = tx a → P 0 o a u (a + 1) (u + 1) (evL (tx a))) ∧
  (∀ o a u b v e, o < 8 → tx a = 40 → P 2 (o + 1) (a + 1) u b v e → tx b = 41 → P 0 o a u (b + 1) v e) ∧
  (∀ o a u b v e, P 0 o a u b v e → P 1 o a u b v e) ∧
  (∀ o a u b v e c w f, P 1 o a u b v e → cTim (tx b) → P 0 o (b + 1) v c w f → mk w = tx b → P 1 o a u c (w + 1) (evO (tx b) e f)) ∧
  (∀ o a u b v e, P 1 o a u b v e → P 2 o a u b v e) ∧
  (∀ o a u b v e c w f, P 2 o a u b v e → cPlu (tx b) → P 1 o (b + 1) v c w f → mk w = tx b → P 2 o a u c (w + 1) (evO (tx b) e f))
def cE (tx mk : Nat → Nat) : nPE := fun m o a u b v e => ∀ P : nPE, cEcl tx mk P → P m o a u b v e
/-- an expression by itself: no sign goes on with it -/
def cX (tx mk : Nat → Nat) (a u b v : Nat) (e : nEv) : Prop := cE tx mk 2 0 a u b v e ∧ ¬ cTim (tx b) ∧ ¬ cPlu (tx b)
abbrev nPS : Type := Nat → Nat → Nat → Nat → Nat → Nat → nDn → Prop
/-- m = 0: a step; 1: steps; r rows stand open -/
def cScl (tx mk : Nat → Nat) (P : nPS) : Prop :=
  (∀ r a u, cPln (tx a) → mk u = 59 → mk (u + 1) = tx a → P 0 r a u (a + 1) (u + 2) (dStep (dPlain (tx a)))) ∧
  (∀ r a u b v e, cAct (tx a) → mk u = 59 → cX tx mk (a + 1) (u + 1) b v e → mk v = tx a → P 0 r a u b (v + 1) (dStep (dNum (tx a) e))) ∧
  (∀ r a u b v e c w f, tx a = 112 → mk u = 59 → cX tx mk (a + 1) (u + 1) b v e → tx b = 46 → cX tx mk (b + 1) v c w f → mk w = 112 → P 0 r a u c (w + 1) (dStep (dPleat e f))) ∧
  (∀ r a u b v e, cNam (tx a) → mk u = 59 → tx (a + 1) = 61 → cX tx mk (a + 2) (u + 1) b v e → mk v = tx a + 128 → P 0 r a u b (v + 1) (dStep (dName (tx a) e))) ∧
  (∀ r a u b v e c w D, r < 3 → tx a = 91 → mk u = 59 → cX tx mk (a + 1) (u + 1) b v e → tx b = 58 → mk v = 91 → mk (v + 1) = w + 1 → P 1 (r + 1) (b + 1) (v + 2) c w D → tx c = 93 → mk w = 93 → P 0 r a u (c + 1) (w + 1) (dStep (dRow e D))) ∧
  (∀ r a u b v D, P 0 r a u b v D → P 1 r a u b v D) ∧
  (∀ r a u b v D c w E, P 1 r a u b v D → tx b = 59 → P 0 r (b + 1) v c w E → P 1 r a u c w (dSeq D E))
def cS (tx mk : Nat → Nat) : nPS := fun m r a u b v D => ∀ P : nPS, cScl tx mk P → P m r a u b v D
/-- a whole style of n bytes with N marks -/
def cW (tx mk : Nat → Nat) (n N : Nat) (D : nDn) : Prop := cS tx mk 1 0 0 0 n N D ∧ (∀ a, n ≤ a → tx a = 0)
