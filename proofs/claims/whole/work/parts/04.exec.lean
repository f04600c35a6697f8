/-! The abstract machine over the tables: numbered cells, a frame's step, a frame's run, a call. -/
abbrev gM : Type := (Nat → Nat → Int32) × (Nat → Nat → Option Nat) × List (Nat ⊕ (Nat × Nat))
def gsI (M : gM) (o k : Nat) (x : Int32) : gM := (fun a b => if a = o ∧ b = k then x else M.1 a b, M.2)
def gsR (M : gM) (o k : Nat) (r : Option Nat) : gM := (M.1, fun a b => if a = o ∧ b = k then r else M.2.1 a b, M.2.2)
def gNew (M : gM) (c : Nat ⊕ (Nat × Nat)) : gM := (fun a b => if a = M.2.2.length then 0 else M.1 a b, fun a b => if a = M.2.2.length then none else M.2.1 a b, M.2.2 ++ [c])
def gCp (M : gM) (o1 sp o2 dp n : Nat) : gM := (fun a b => if a = o2 then va_cpy (M.1 o1) (M.1 o2) sp dp n b else M.1 a b, M.2)
def gLen (M : gM) (o : Nat) : Nat := match M.2.2[o]? with
  | some (.inr (_, n)) => n
  | _ => 0
def gTy (M : gM) (o : Nat) : Option Nat := match M.2.2[o]? with
  | some (.inr (t, _)) => some t
  | _ => none
def gIn (i : Int32) (n : Nat) : Bool := decide (¬ (i < 0 ∨ n ≤ i.toNatClampNeg))
theorem gIn_iff {i : Int32} {n : Nat} : gIn i n = true ↔ vp_in i n := by simp [gIn, vp_in]
def gU (v : Value) : Option Nat := match v with
  | .ref a => some a
  | _ => none
theorem gU_ref (a : Nat) : gU (.ref a) = some a := rfl
theorem gU_null : gU .null = none := rfl
theorem gU_rf (r : Option Nat) : gU (va_rf r) = r := by cases r <;> rfl
def gPut (M : gM) (o k : Nat) (ty : FieldType) (v : Value) : Option gM := match ty, v with
  | .int, .int x => some (gsI M o k x)
  | .boolean, .int x => if x = 0 ∨ x = 1 then some (gsI M o k x) else none
  | .object _, v => if gisRef v then some (gsR M o k (gU v)) else none
  | .array _, v => if gisRef v then some (gsR M o k (gU v)) else none
  | _, _ => none
def gat (at_ : ArrayType) : Option Nat := if newarray.typeOf at_ = .int then some 0 else if newarray.typeOf at_ = .byte then some 1 else if newarray.typeOf at_ = .boolean then some 2 else none
abbrev gHo : Type := List Value × gM × Nat × Nat
def gHeap (j : Nat) (i : Instr) (len : Nat) (st : List Value) (M : gM) (u1 u2 : Nat) : Option gHo :=
  match i, len, st with
  | .getfield idx, 3, .ref o :: st => match gfld (gow j) idx with
    | some (ci, k) => if M.2.2[o]? = some (.inl ci) then some ((if gisR ci k then va_rf (M.2.1 o k) else .int (M.1 o k)) :: st, M, u1, u2) else none
    | none => none
  | .putfield idx, 3, v :: .ref o :: st => match gfld (gow j) idx with
    | some (ci, k) => if M.2.2[o]? = some (.inl ci) ∧ (gfin ci k = false ∨ ((gy j).name = "<init>" ∧ gow j = ci)) then (gPut M o k (gty ci k) v).map (fun M' => (st, M', u1, u2)) else none
    | none => none
  | .iaload, 1, .int x :: .ref o :: st => if gTy M o = some 0 ∧ gIn x (gLen M o) = true then some (.int (M.1 o x.toNatClampNeg) :: st, M, u1, u2) else none
  | .baload, 1, .int x :: .ref o :: st => if (gTy M o = some 1 ∨ gTy M o = some 2) ∧ gIn x (gLen M o) = true then some (.int (M.1 o x.toNatClampNeg) :: st, M, u1, u2) else none
  | .aaload, 1, .int x :: .ref o :: st => if (gTy M o = some 3 ∨ gTy M o = some 4) ∧ gIn x (gLen M o) = true then some (va_rf (M.2.1 o x.toNatClampNeg) :: st, M, u1, u2) else none
  | .iastore, 1, .int y :: .int x :: .ref o :: st => if gTy M o = some 0 ∧ gIn x (gLen M o) = true then some (st, gsI M o x.toNatClampNeg y, u1, u2) else none
  | .bastore, 1, .int y :: .int x :: .ref o :: st => if gIn x (gLen M o) = true then (if gTy M o = some 1 then some (st, gsI M o x.toNatClampNeg y.toInt8.toInt32, u1, u2) else if gTy M o = some 2 then some (st, gsI M o x.toNatClampNeg (y &&& 1), u1, u2) else none) else none
  | .aastore, 1, .ref a :: .int x :: .ref o :: st => if ((gTy M o = some 3 ∧ M.2.2[a]? = some (.inl 0)) ∨ (gTy M o = some 4 ∧ M.2.2[a]? = some (.inl 7))) ∧ gIn x (gLen M o) = true then some (st, gsR M o x.toNatClampNeg (some a), u1, u2) else none
  | .arraylength, 1, .ref o :: st => if (gTy M o).isSome then some (.int (Int32.ofNat (gLen M o)) :: st, M, u1, u2) else none
  | .new idx, 3, st => match gnew (gow j) idx with
    | some ci => if u1 + 1 ≤ gmc j ∧ u2 + gN ci ≤ gms j then some (.ref M.2.2.length :: st, gNew M (.inl ci), u1 + 1, u2 + gN ci) else none
    | none => none
  | .newarray at_, 2, .int n :: st => match gat at_ with
    | some t => if ¬ n < 0 ∧ n.toNatClampNeg ≤ 100000 ∧ u1 + 1 ≤ gmc j ∧ u2 + n.toNatClampNeg ≤ gms j then some (.ref M.2.2.length :: st, gNew M (.inr (t, n.toNatClampNeg)), u1 + 1, u2 + n.toNatClampNeg) else none
    | none => none
  | .anewarray idx, 3, .int n :: st => match gan (gow j) idx with
    | some t => if ¬ n < 0 ∧ n.toNatClampNeg ≤ 100000 ∧ u1 + 1 ≤ gmc j ∧ u2 + n.toNatClampNeg ≤ gms j then some (.ref M.2.2.length :: st, gNew M (.inr (t, n.toNatClampNeg)), u1 + 1, u2 + n.toNatClampNeg) else none
    | none => none
  | .ldc idx, 2, st => if gow j = 2 ∧ idx = 49 then some (.int 1000000 :: st, M, u1, u2) else none
  | _, _, _ => none
abbrev gRo : Type := Option Value × gM
/-- the calls that are no frames here: Object's constructor, max, min, the copy of a row of ints -/
def gPrim (kind : Nat) (st : List Value) (M : gM) : Option (List Value × gM) :=
  match kind, st with
  | 3, .ref _ :: st => some (st, M)
  | 4, .int y :: .int x :: st => some (.int (if x < y then y else x) :: st, M)
  | 5, .int y :: .int x :: st => some (.int (if y < x then y else x) :: st, M)
  | 6, .int n :: .int dp :: .ref o2 :: .int sp :: .ref o1 :: st =>
    if gTy M o1 = some 0 ∧ gTy M o2 = some 0 ∧ o1 ≠ o2 ∧ ¬ sp < 0 ∧ ¬ dp < 0 ∧ ¬ n < 0 ∧ sp.toNatClampNeg + n.toNatClampNeg ≤ gLen M o1 ∧ dp.toNatClampNeg + n.toNatClampNeg ≤ gLen M o2 then
      some (st, gCp M o1 sp.toNatClampNeg o2 dp.toNatClampNeg n.toNatClampNeg) else none
  | _, _ => none
/-- is the receiver there, of the method's class? -/
def gRecv (kind j : Nat) (as : List Value) (M : gM) : Bool := match kind with
  | 0 => match as with
    | .ref b :: _ => decide (M.2.2[b]? = some (.inl (gow j)))
    | _ => false
  | 1 => true
  | 7 => true
  | _ => match as with
    | .ref _ :: _ => true
    | _ => false
def gNargs (kind j : Nat) : Nat := if kind = 1 ∨ kind = 7 then gna j else gna j + 1
def gCall (rec : Nat → List Value → gM → Option gRo) (j idx : Nat) (st : List Value) (M : gM) (u1 u2 : Nat) : Option gHo :=
  match gcal (gow j) idx with
  | some (kind, k) =>
    if kind = 3 ∨ kind = 4 ∨ kind = 5 ∨ kind = 6 then (gPrim kind st M).bind (fun q => if q.1.length ≤ 8 then some (q.1, q.2, u1, u2) else none)
    else if gNargs kind k ≤ st.length ∧ st.length ≤ gNargs kind k + 8 ∧ gRecv kind k (st.take (gNargs kind k)).reverse M = true ∧ u1 + gmc k ≤ gmc j ∧ u2 + gms k ≤ gms j then
      (rec k (st.take (gNargs kind k)).reverse M).map (fun q => (q.1.toList ++ st.drop (gNargs kind k), q.2, u1 + gmc k, u2 + gms k))
    else none
  | none => none
def gKind (i : Instr) (len : Nat) : Option Nat := match i, len with
  | .invokevirtual idx, 3 => some idx
  | .invokestatic idx, 3 => some idx
  | .invokespecial idx, 3 => some idx
  | _, _ => none
/-- which kinds of call an instruction may be -/
def gKindOk (i : Instr) (kind : Nat) : Bool := match i with
  | .invokevirtual _ => kind == 0
  | .invokestatic _ => kind == 1 || kind == 4 || kind == 5 || kind == 6 || kind == 7
  | .invokespecial _ => kind == 2 || kind == 3 || kind == 8
  | _ => false
def gRet (j : Nat) (i : Instr) (len : Nat) (st : List Value) (M : gM) : Option gRo :=
  match i, len, st with
  | .ireturn, 1, [.int x] => if gre j = some .int ∨ (gre j = some .boolean ∧ (x = 0 ∨ x = 1)) then some (some (.int x), M) else none
  | .areturn, 1, [v] => match gre j with
    | some (.object _) => if gisRef v then some (some v, M) else none
    | some (.array _) => if gisRef v then some (some v, M) else none
    | _ => none
  | .return_, 1, [] => if gre j = none then some (none, M) else none
  | _, _, _ => none
abbrev gC : Type := Nat × List (Option Value) × List Value × gM × Nat × Nat
def gStepI (rec : Nat → List Value → gM → Option gRo) (j : Nat) (i : Instr) (len : Nat) (c : gC) : Option (gC ⊕ gRo) :=
  match gArith i len c.2.2.1 with
  | some st' => some (.inl (c.1 + len, c.2.1, st', c.2.2.2))
  | none => match gBranch i len c.1 c.2.2.1 with
    | some (t, st') => some (.inl (t, c.2.1, st', c.2.2.2))
    | none => match gLocal i len c.2.1 c.2.2.1 with
      | some (ls', st') => some (.inl (c.1 + len, ls', st', c.2.2.2))
      | none => match gHeap j i len c.2.2.1 c.2.2.2.1 c.2.2.2.2.1 c.2.2.2.2.2 with
        | some (st', M', u1, u2) => some (.inl (c.1 + len, c.2.1, st', M', u1, u2))
        | none => match gKind i len with
          | some idx => if (gcal (gow j) idx).any (fun q => gKindOk i q.1) then (gCall rec j idx c.2.2.1 c.2.2.2.1 c.2.2.2.2.1 c.2.2.2.2.2).map (fun h => .inl (c.1 + 3, c.2.1, h.1, h.2.1, h.2.2.1, h.2.2.2)) else none
          | none => (gRet j i len c.2.2.1 c.2.2.2.1).map .inr
def gStep (rec : Nat → List Value → gM → Option gRo) (j : Nat) (c : gC) : Option (gC ⊕ gRo) := match decode (gby j) c.1 with
  | .ok (i, len) => gStepI rec j i len c
  | _ => none
def gLoop (rec : Nat → List Value → gM → Option gRo) (j : Nat) : Nat → gC → Option gRo
  | 0, _ => none
  | n + 1, c => match gStep rec j c with
    | some (.inl c') => gLoop rec j n c'
    | some (.inr r) => some r
    | none => none
def gEntry (j : Nat) (as : List Value) (M : gM) : gC := (0, as.map some ++ List.replicate (gml j - as.length) none, [], M, 0, 0)
def gExec (n : Nat) : Nat → Nat → List Value → gM → Option gRo
  | 0, _, _, _ => none
  | d + 1, j, as, M => if as.length ≤ gml j ∧ j < gNM then gLoop (gExec n d) j n (gEntry j as M) else none
/-- from a place in a frame of method j, with d calls' room: it returns, and Z holds of the answer -/
def Run (d j pc : Nat) (ls : List (Option Value)) (st : List Value) (M : gM) (u1 u2 : Nat) (Z : Option Value → gM → Prop) : Prop := ∃ n r M', gLoop (gExec n d) j n (pc, ls, st, M, u1, u2) = some (r, M') ∧ Z r M'
def Call (d j : Nat) (as : List Value) (M : gM) (Z : Option Value → gM → Prop) : Prop := ∃ n r M', gExec n d j as M = some (r, M') ∧ Z r M'
