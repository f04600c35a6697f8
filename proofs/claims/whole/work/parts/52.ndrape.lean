/-! The drape, neutral: registers by the class's field numbers, the layers' number, the layers. -/
abbrev nD : Type := (Nat → Nat) × Nat × (Nat → Nat → Nat)
def nU (rg : Nat → Nat) (f v : Nat) : Nat → Nat := fun q => if q = f then v else rg q
def nRec (a lo se fi ce ro si : Nat) : Nat → Nat
  | 0 => a
  | 1 => lo
  | 2 => se
  | 3 => fi
  | 4 => ce
  | 5 => ro
  | 6 => si
  | _ => 0
def nLay (s : nD) (lo ce ro si : Nat) : nD := (nU s.1 4 (s.1 4 + ce), s.2.1 + 1, fun k => if k = s.2.1 then nRec (s.1 9) lo (s.1 6) (s.1 4) ce ro si else s.2.2 k)
def nTs (rg : Nat → Nat) : Nat → Nat := nU rg 6 (if rg 7 = 0 then (rg 6 + 1) % 8 else (rg 6 + 7) % 8)
def nWide (g : Nat → Nat) (r : Nat) : Nat → Nat
  | 0 => 0
  | h + 1 => max (nWide g r h) (g (r + h))
def nWind (g : Nat) : Nat → nD → nD
  | 0, s => s
  | k + 1, s => nWind g k (nTs (nLay s (s.1 5) g (s.1 3) (s.1 8)).1, (nLay s (s.1 5) g (s.1 3) (s.1 8)).2)
def nPleat (c : Nat) : Nat → nD → nD
  | 0, s => s
  | k + 1, s => nPleat c k (nLay (nLay s (s.1 5) c (s.1 3) (1 - s.1 8)) (s.1 5) c (s.1 3) (s.1 8))
/-- the hanging rows: k of them made, rest cells -/
def nHang : Nat → Nat → Nat → nD → Nat × nD
  | 0, _, rest, s => (rest, s)
  | j + 1, k, rest, s => nHang j (k + 1) (rest - min rest 5) (nLay s (s.1 5 - 1 - k) (min rest 5) 1 (s.1 8))
def nActed (s : nD) : nD := (nU s.1 9 (s.1 9 + 1), s.2)
def nWaste (c : Nat) (s : nD) : nD := (nU (nU s.1 4 (s.1 4 + c)) 13 (s.1 13 + c), s.2)
