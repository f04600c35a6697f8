/-! The instructions of the claim's methods as functions on a small abstract state; each group's function is met by the machine (W). -/
/-- an abstract value's machine value: references are numbers of cells, ad says where a cell lies -/
def gc (ad : Nat → Nat) (v : Value) : Value := match v with
  | .ref a => .ref (ad a)
  | w => w
theorem gc_int (ad : Nat → Nat) (x : Int32) : gc ad (.int x) = .int x := rfl
theorem gc_ref (ad : Nat → Nat) (x : Nat) : gc ad (.ref x) = .ref (ad x) := rfl
theorem gc_null (ad : Nat → Nat) : gc ad .null = .null := rfl
theorem gc_cat (ad : Nat → Nat) (v : Value) : (gc ad v).category = v.category := by cases v <;> rfl
theorem gc_rf (ad : Nat → Nat) (r : Option Nat) : gc ad (va_rf r) = va_rf (r.map ad) := by cases r <;> rfl
def gisRef (v : Value) : Bool := match v with
  | .ref _ => true
  | .null => true
  | _ => false
theorem gisRef_ref (a : Nat) : gisRef (.ref a) = true := rfl
theorem gisRef_null : gisRef .null = true := rfl
theorem gisRef_rf (r : Option Nat) : gisRef (va_rf r) = true := by cases r <;> rfl
/-- constants, arithmetic, the stack -/
def gArith (i : Instr) (len : Nat) (st : List Value) : Option (List Value) :=
  match i, len, st with
  | .iconst n, 1, st => some (.int (Int32.ofInt n) :: st)
  | .bipush n, 2, st => some (.int (Int8.ofInt n).toInt32 :: st)
  | .sipush n, 3, st => some (.int (Int16.ofInt n).toInt32 :: st)
  | .aconst_null, 1, st => some (.null :: st)
  | .iadd, 1, .int y :: .int x :: st => some (.int (x + y) :: st)
  | .isub, 1, .int y :: .int x :: st => some (.int (x - y) :: st)
  | .imul, 1, .int y :: .int x :: st => some (.int (x * y) :: st)
  | .iand, 1, .int y :: .int x :: st => some (.int (x &&& y) :: st)
  | .ineg, 1, .int x :: st => some (.int (-x) :: st)
  | .ishl, 1, .int y :: .int x :: st => some (.int (x <<< (y &&& 31)) :: st)
  | .ishr, 1, .int y :: .int x :: st => some (.int (x >>> (y &&& 31)) :: st)
  | .iushr, 1, .int y :: .int x :: st => some (.int (x.toUInt32 >>> (y.toUInt32 &&& Int32.toUInt32 31)).toInt32 :: st)
  | .idiv, 1, .int y :: .int x :: st => if y = 0 then none else some (.int (x / y) :: st)
  | .irem, 1, .int y :: .int x :: st => if y = 0 then none else some (.int (x - x / y * y) :: st)
  | .i2b, 1, .int x :: st => some (.int x.toInt8.toInt32 :: st)
  | .dup, 1, v :: st => if v.category = 1 then some (v :: v :: st) else none
  | .dup2, 1, v :: w :: st => if v.category = 1 ∧ w.category = 1 then some (v :: w :: v :: w :: st) else none
  | .pop, 1, v :: st => if v.category = 1 then some st else none
  | _, _, _ => none
/-- a jump's place -/
def gTgt (pc : Nat) (off : Int) : Option Nat := if (((pc : Int) + off).toNat : Int) = (pc : Int) + off then some ((pc : Int) + off).toNat else none
theorem gTgt_ok {pc t : Nat} {off : Int} (h : gTgt pc off = some t) : (pc : Int) + off = (t : Int) := by
  unfold gTgt at h
  split at h
  · rename_i h1
    cases h
    exact h1.symm
  · cases h
def gIf (k : ClassFile.Cond) (x y : Int32) : Bool := match k with
  | .eq => decide (x = y)
  | .ne => decide (x ≠ y)
  | .lt => decide (x < y)
  | .ge => decide (y ≤ x)
  | .gt => decide (y < x)
  | .le => decide (x ≤ y)
def gBranch (i : Instr) (len : Nat) (pc : Nat) (st : List Value) : Option (Nat × List Value) :=
  match i, len, st with
  | .goto off, 3, st => (gTgt pc off).map (fun t => (t, st))
  | .ifCond k off, 3, .int x :: st => (gTgt pc off).map (fun t => (if gIf k x 0 then t else pc + 3, st))
  | .if_icmp k off, 3, .int y :: .int x :: st => (gTgt pc off).map (fun t => (if gIf k x y then t else pc + 3, st))
  | .ifnull off, 3, v :: st => if gisRef v then (gTgt pc off).map (fun t => (if v = .null then t else pc + 3, st)) else none
  | .ifnonnull off, 3, v :: st => if gisRef v then (gTgt pc off).map (fun t => (if v = .null then pc + 3 else t, st)) else none
  | .tableswitch d lo hi offs, _, .int x :: st =>
    if x.toInt < lo ∨ hi < x.toInt then (gTgt pc d).map (fun t => (t, st))
    else (offs[(x.toInt - lo).toNat]?).bind (fun off => (gTgt pc off).map (fun t => (t, st)))
  | .lookupswitch d ps, _, .int x :: st =>
    if (ps.toList.zip (ps.toList.drop 1)).all (fun (a, next) => a.1 < next.1) = true then (gTgt pc (Op.lookupswitch.offset ps.toList d x.toInt)).map (fun t => (t, st)) else none
  | _, _, _ => none
/-- loads and stores: the locals are a list, none: not set -/
def gLoad (ls : List (Option Value)) (i : Nat) (ref : Bool) : Option Value := match ls[i]? with
  | some (some v) => match v, ref with
    | .int x, false => some (.int x)
    | .ref a, true => some (.ref a)
    | .null, true => some .null
    | _, _ => none
  | _ => none
def gStore (ls : List (Option Value)) (i : Nat) (v : Value) : Option (List (Option Value)) := if i < ls.length then some (ls.set i (some v)) else none
def gLocal (i : Instr) (len : Nat) (ls : List (Option Value)) (st : List Value) : Option (List (Option Value) × List Value) :=
  match i, len, st with
  | .iload_n k, 1, st => (gLoad ls k false).map (fun v => (ls, v :: st))
  | .iload k, 2, st => (gLoad ls k false).map (fun v => (ls, v :: st))
  | .aload_n k, 1, st => (gLoad ls k true).map (fun v => (ls, v :: st))
  | .aload k, 2, st => (gLoad ls k true).map (fun v => (ls, v :: st))
  | .istore_n k, 1, .int x :: st => (gStore ls k (.int x)).map (fun l => (l, st))
  | .istore k, 2, .int x :: st => (gStore ls k (.int x)).map (fun l => (l, st))
  | .astore_n k, 1, v :: st => if gisRef v then (gStore ls k v).map (fun l => (l, st)) else none
  | .astore k, 2, v :: st => if gisRef v then (gStore ls k v).map (fun l => (l, st)) else none
  | .iinc k n, 3, st => match gLoad ls k false with
    | some (.int x) => (gStore ls k (.int (x + Int32.ofInt n))).map (fun l => (l, st))
    | _ => none
  | _, _, _ => none
/-- the machine's locals are the abstract ones -/
def gLs (ad : Nat → Nat) (ls : List (Option Value)) : List (Nat × Value) := (List.range ls.length).filterMap (fun i => match ls[i]? with
  | some (some v) => some (i, gc ad v)
  | _ => none)
theorem gLs_mem {ad : Nat → Nat} {ls : List (Option Value)} {i : Nat} {v : Value} (h : ls[i]? = some (some v)) : (i, gc ad v) ∈ gLs ad ls := by
  unfold gLs
  rw [List.mem_filterMap]
  refine ⟨i, ?_, by simp only [h]⟩
  rw [List.mem_range]
  exact (List.getElem?_eq_some_iff.mp h).1
theorem gLs_of {ad : Nat → Nat} {ls : List (Option Value)} {q : Nat × Value} (h : q ∈ gLs ad ls) : ∃ v, ls[q.1]? = some (some v) ∧ q.2 = gc ad v := by
  unfold gLs at h
  rw [List.mem_filterMap] at h
  obtain ⟨i, -, hi⟩ := h
  split at hi
  · rename_i v hv
    cases hi
    exact ⟨v, hv, rfl⟩
  · cases hi
theorem gLs_at {ad : Nat → Nat} {ls : List (Option Value)} {Ls : Array Slot} {n i : Nat} {v : Value} (hl : lv_has Ls n (gLs ad ls)) (h : ls[i]? = some (some v)) : Ls[i]? = some (.val (gc ad v)) := hl.2.2 _ (gLs_mem h)
theorem gLs_set {ad : Nat → Nat} {ls : List (Option Value)} {Ls : Array Slot} {n i : Nat} {v : Value} (h : lv_has Ls n ((i, gc ad v) :: (gLs ad ls).filter (fun q => !(q.1 == i) && !(q.1 + 1 == i && q.2.category == 2)))) (hc : ∀ (j : Nat) (w : Value), ls[j]? = some (some w) → w.category = 1) : lv_has Ls n (gLs ad (ls.set i (some v))) := by
  refine ⟨h.1, h.2.1, fun q hq => ?_⟩
  obtain ⟨w, hw, hq2⟩ := gLs_of hq
  rw [List.getElem?_set] at hw
  split at hw
  · rename_i hij
    split at hw
    · cases hw
      have := h.2.2 (i, gc ad v) List.mem_cons_self
      rw [← hij, hq2]
      exact this
    · cases hw
  · rename_i hij
    have hm : q ∈ gLs ad ls := by
      have := gLs_mem (ad := ad) hw
      rw [← hq2] at this
      exact this
    refine h.2.2 q (List.mem_cons_of_mem _ (List.mem_filter.mpr ⟨hm, ?_⟩))
    have h1 : q.2.category = 1 := by rw [hq2, gc_cat]; exact hc _ _ hw
    simp [h1, Ne.symm hij]
theorem gLs_len {ad : Nat → Nat} {ls ls' : List (Option Value)} (h : gLs ad ls = gLs ad ls') : gLs ad ls = gLs ad ls' := h
section GSTEP
variable {p : Program} {l : Launch} {e : Env} {R : Room} {s : State} {m : MethodId} {args : Array Value} {below : List Frame} {meth : Method} {c : Code} {H : Heap} {locs : List Loc} {cells slots : Nat} {Q : State → Prop}
variable {cc : ByteArray} {pc len : Nat} {ls : List (Option Value)} {Ls : Array Slot} {st : List Value} {ad : Nat → Nat} {i : Instr}
theorem gArith_ok {st' : List Value} (hx : p.tables.exec = Jvm.exec) (hb : c.code = cc) (hdg : decode cc pc = .ok (i, len)) (h : gArith i len st = some st')
    (k : W p l e R s m args below meth c H locs cells slots Q (F0 m (pc + len) Ls (st'.map (gc ad)))) : W p l e R s m args below meth c H locs cells slots Q (F0 m pc Ls (st.map (gc ad))) := by
  unfold gArith at h
  split at h
  · cases h; exact lv_iconst hx hb hdg rfl k
  · cases h; exact lv_bipush hx hb hdg rfl k
  · cases h; exact lv_sipush hx hb hdg rfl k
  · cases h; exact lv_null hx hb hdg k
  · cases h; exact lv_iadd hx hb hdg k
  · cases h; exact lv_isub hx hb hdg k
  · cases h; exact lv_imul hx hb hdg k
  · cases h; exact lv_iand hx hb hdg k
  · cases h; exact lv_ineg hx hb hdg k
  · cases h; exact lv_ishl hx hb hdg k
  · cases h; exact lv_ishr hx hb hdg k
  · cases h; exact lv_iushr hx hb hdg rfl k
  · split at h
    · cases h
    · rename_i hy; cases h; exact lv_idiv hx hb hdg hy k
  · split at h
    · cases h
    · rename_i hy; cases h; exact lv_irem hx hb hdg hy k
  · cases h; exact lv_i2b hx hb hdg rfl k
  · split at h
    · rename_i hy; cases h; exact lv_dup hx hb hdg (by rw [gc_cat]; exact hy) k
    · cases h
  · split at h
    · rename_i hy; cases h; exact lv_dup2_11 hx hb hdg (by rw [gc_cat]; exact hy.1) (by rw [gc_cat]; exact hy.2) k
    · cases h
  · split at h
    · rename_i hy; cases h; exact lv_pop hx hb hdg (by rw [gc_cat]; exact hy) k
    · cases h
  · cases h
theorem gBranch_ok {st' : List Value} {t : Nat} (hx : p.tables.exec = Jvm.exec) (hb : c.code = cc) (hdg : decode cc pc = .ok (i, len)) (h : gBranch i len pc st = some (t, st'))
    (k : W p l e R s m args below meth c H locs cells slots Q (F0 m t Ls (st'.map (gc ad)))) : W p l e R s m args below meth c H locs cells slots Q (F0 m pc Ls (st.map (gc ad))) := by
  unfold gBranch at h
  split at h
  · obtain ⟨t1, h1, h2⟩ := Option.map_eq_some_iff.mp h
    cases h2
    exact lv_goto hx hb hdg (gTgt_ok h1) k
  · rename_i cond off x st0
    obtain ⟨t1, h1, h2⟩ := Option.map_eq_some_iff.mp h
    cases h2
    have ht := gTgt_ok h1
    cases cond <;> simp only [gIf, decide_eq_true_eq] at k
    · exact lv_if_eq hx hb hdg ht (fun z => by rwa [if_pos z] at k) (fun z => by rwa [if_neg z] at k)
    · exact lv_if_ne hx hb hdg ht (fun z => by rwa [if_pos z] at k) (fun z => by rwa [if_neg (fun q => q z)] at k)
    · exact lv_if_lt hx hb hdg ht (fun z => by rwa [if_pos z] at k) (fun z => by rwa [if_neg z] at k)
    · exact lv_if_ge hx hb hdg ht (fun z => by rwa [if_pos z] at k) (fun z => by rwa [if_neg z] at k)
    · exact lv_if_gt hx hb hdg ht (fun z => by rwa [if_pos z] at k) (fun z => by rwa [if_neg z] at k)
    · exact lv_if_le hx hb hdg ht (fun z => by rwa [if_pos z] at k) (fun z => by rwa [if_neg z] at k)
  · rename_i cond off y x st0
    obtain ⟨t1, h1, h2⟩ := Option.map_eq_some_iff.mp h
    cases h2
    have ht := gTgt_ok h1
    cases cond <;> simp only [gIf, decide_eq_true_eq] at k
    · exact lv_icmp_eq hx hb hdg ht (fun z => by rwa [if_pos z] at k) (fun z => by rwa [if_neg z] at k)
    · exact lv_icmp_ne hx hb hdg ht (fun z => by rwa [if_pos z] at k) (fun z => by rwa [if_neg (fun q => q z)] at k)
    · exact lv_icmp_lt hx hb hdg ht (fun z => by rwa [if_pos z] at k) (fun z => by rwa [if_neg z] at k)
    · exact lv_icmp_ge hx hb hdg ht (fun z => by rwa [if_pos z] at k) (fun z => by rwa [if_neg z] at k)
    · exact lv_icmp_gt hx hb hdg ht (fun z => by rwa [if_pos z] at k) (fun z => by rwa [if_neg z] at k)
    · exact lv_icmp_le hx hb hdg ht (fun z => by rwa [if_pos z] at k) (fun z => by rwa [if_neg z] at k)
  · rename_i off v st0
    split at h
    · rename_i hv
      obtain ⟨t1, h1, h2⟩ := Option.map_eq_some_iff.mp h
      cases h2
      have ht := gTgt_ok h1
      cases v <;> first
        | (exact lv_ifnullN hx hb hdg ht (by simpa using k))
        | (exact lv_ifnull hx hb hdg (by simpa using k))
        | (cases hv)
    · cases h
  · rename_i off v st0
    split at h
    · rename_i hv
      obtain ⟨t1, h1, h2⟩ := Option.map_eq_some_iff.mp h
      cases h2
      have ht := gTgt_ok h1
      cases v <;> first
        | (exact lv_ifnonnullN hx hb hdg (by simpa using k))
        | (exact lv_ifnonnull hx hb hdg ht (by simpa using k))
        | (cases hv)
    · cases h
  · split at h
    · rename_i hz
      obtain ⟨t1, h1, h2⟩ := Option.map_eq_some_iff.mp h
      cases h2
      exact lv_tableOut hx hb hdg hz (gTgt_ok h1) k
    · rename_i hz
      obtain ⟨off, ho, h⟩ := Option.bind_eq_some_iff.mp h
      obtain ⟨t1, h1, h2⟩ := Option.map_eq_some_iff.mp h
      cases h2
      exact lv_tableIn hx hb hdg (fun q => hz (Or.inl q)) (fun q => hz (Or.inr q)) ho (gTgt_ok h1) k
  · split at h
    · rename_i hp
      obtain ⟨t1, h1, h2⟩ := Option.map_eq_some_iff.mp h
      cases h2
      exact lv_lookup hx hb hdg hp rfl (gTgt_ok h1) k
    · cases h
  · cases h
theorem gLoad_ok {k : Nat} {ref : Bool} {v : Value} (h : gLoad ls k ref = some v) : ls[k]? = some (some v) ∧ (ref = false → ∃ x, v = .int x) ∧ (ref = true → v = .null ∨ ∃ x, v = .ref x) := by
  unfold gLoad at h
  split at h
  · rename_i w hw
    split at h
    · cases h; exact ⟨hw, fun _ => ⟨_, rfl⟩, fun q => by cases q⟩
    · cases h; exact ⟨hw, (fun q => by cases q), fun _ => Or.inr ⟨_, rfl⟩⟩
    · cases h; exact ⟨hw, (fun q => by cases q), fun _ => Or.inl rfl⟩
    · cases h
  · cases h
theorem gStore_ok {k : Nat} {v : Value} {ls' : List (Option Value)} (h : gStore ls k v = some ls') : k < ls.length ∧ ls' = ls.set k (some v) := by
  unfold gStore at h
  split at h
  · rename_i hk; cases h; exact ⟨hk, rfl⟩
  · cases h
theorem gLocal_ok {st' : List Value} {ls' : List (Option Value)} (hx : p.tables.exec = Jvm.exec) (hb : c.code = cc) (hdg : decode cc pc = .ok (i, len)) (h : gLocal i len ls st = some (ls', st'))
    (hl : lv_has Ls ls.length (gLs ad ls)) (hc : ∀ (j : Nat) (w : Value), ls[j]? = some (some w) → w.category = 1)
    (kk : ∀ Ls' : Array Slot, lv_has Ls' ls'.length (gLs ad ls') → W p l e R s m args below meth c H locs cells slots Q (F0 m (pc + len) Ls' (st'.map (gc ad)))) : W p l e R s m args below meth c H locs cells slots Q (F0 m pc Ls (st.map (gc ad))) := by
  unfold gLocal at h
  split at h
  · obtain ⟨v, h1, h2⟩ := Option.map_eq_some_iff.mp h
    cases h2
    obtain ⟨h3, h4, -⟩ := gLoad_ok h1
    obtain ⟨x, rfl⟩ := h4 rfl
    exact lv_iload_n hx hb hdg rfl (gLs_at hl h3) (kk _ hl)
  · obtain ⟨v, h1, h2⟩ := Option.map_eq_some_iff.mp h
    cases h2
    obtain ⟨h3, h4, -⟩ := gLoad_ok h1
    obtain ⟨x, rfl⟩ := h4 rfl
    exact lv_iload hx hb hdg (gLs_at hl h3) (kk _ hl)
  · obtain ⟨v, h1, h2⟩ := Option.map_eq_some_iff.mp h
    cases h2
    obtain ⟨h3, -, h4⟩ := gLoad_ok h1
    rcases h4 rfl with rfl | ⟨x, rfl⟩
    · exact lv_aload_nN hx hb hdg rfl (gLs_at hl h3) (kk _ hl)
    · exact lv_aload_n hx hb hdg rfl (gLs_at hl h3) (kk _ hl)
  · obtain ⟨v, h1, h2⟩ := Option.map_eq_some_iff.mp h
    cases h2
    obtain ⟨h3, -, h4⟩ := gLoad_ok h1
    rcases h4 rfl with rfl | ⟨x, rfl⟩
    · exact lv_aloadN hx hb hdg (gLs_at hl h3) (kk _ hl)
    · exact lv_aload hx hb hdg (gLs_at hl h3) (kk _ hl)
  · obtain ⟨l1, h1, h2⟩ := Option.map_eq_some_iff.mp h
    cases h2
    obtain ⟨h3, rfl⟩ := gStore_ok h1
    exact lv_istore_n hx hb hdg rfl hl h3 rfl (fun Ls' h => kk Ls' (by rw [List.length_set]; exact gLs_set h hc))
  · obtain ⟨l1, h1, h2⟩ := Option.map_eq_some_iff.mp h
    cases h2
    obtain ⟨h3, rfl⟩ := gStore_ok h1
    exact lv_istore hx hb hdg hl h3 rfl (fun Ls' h => kk Ls' (by rw [List.length_set]; exact gLs_set h hc))
  · rename_i v st0
    split at h
    · rename_i hv
      obtain ⟨l1, h1, h2⟩ := Option.map_eq_some_iff.mp h
      cases h2
      obtain ⟨h3, rfl⟩ := gStore_ok h1
      cases v <;> first
        | (exact lv_astore_n hx hb hdg rfl hl h3 rfl (fun Ls' h => kk Ls' (by rw [List.length_set]; exact gLs_set (v := .ref _) h hc)))
        | (exact lv_astore_nN hx hb hdg rfl hl h3 rfl (fun Ls' h => kk Ls' (by rw [List.length_set]; exact gLs_set (v := .null) h hc)))
        | (cases hv)
    · cases h
  · rename_i v st0
    split at h
    · rename_i hv
      obtain ⟨l1, h1, h2⟩ := Option.map_eq_some_iff.mp h
      cases h2
      obtain ⟨h3, rfl⟩ := gStore_ok h1
      cases v <;> first
        | (exact lv_astore hx hb hdg hl h3 rfl (fun Ls' h => kk Ls' (by rw [List.length_set]; exact gLs_set (v := .ref _) h hc)))
        | (exact lv_astoreN hx hb hdg hl h3 rfl (fun Ls' h => kk Ls' (by rw [List.length_set]; exact gLs_set (v := .null) h hc)))
        | (cases hv)
    · cases h
  · split at h
    · rename_i x hx1
      obtain ⟨l1, h1, h2⟩ := Option.map_eq_some_iff.mp h
      cases h2
      obtain ⟨h3, rfl⟩ := gStore_ok h1
      obtain ⟨h4, -, -⟩ := gLoad_ok hx1
      obtain ⟨k0, hk0⟩ := List.getElem?_of_mem (gLs_mem (ad := ad) h4)
      exact lv_iinc hx hb hdg hl hk0 rfl h3 rfl (fun Ls' h => kk Ls' (by rw [List.length_set]; exact gLs_set (v := .int _) h hc))
    · cases h
  · cases h
end GSTEP
