/-! Rules for runs: one an instruction's kind. -/
theorem gStep_mono {rec rec' : Nat → List Value → gM → Option gRo} (hr : ∀ k as M x, rec k as M = some x → rec' k as M = some x) {j : Nat} {c : gC} {o : gC ⊕ gRo} (h : gStep rec j c = some o) : gStep rec' j c = some o := by
  unfold gStep at h ⊢
  split at h
  · rename_i i len hd
    unfold gStepI at h ⊢
    split at h
    · exact h
    · split at h
      · exact h
      · split at h
        · exact h
        · split at h
          · exact h
          · split at h
            · rename_i idx hk
              try dsimp only at h ⊢
              split at h
              · rename_i hok
                try rw [if_pos hok]
                obtain ⟨q, h1, h2⟩ := Option.map_eq_some_iff.mp h
                refine Option.map_eq_some_iff.mpr ⟨q, ?_, h2⟩
                unfold gCall at h1 ⊢
                split at h1
                · try dsimp only at h1 ⊢
                  split at h1
                  · rename_i hp; (try rw [if_pos hp]); exact h1
                  · rename_i hp
                    try rw [if_neg hp]
                    split at h1
                    · rename_i hq
                      try rw [if_pos hq]
                      obtain ⟨x, h3, h4⟩ := Option.map_eq_some_iff.mp h1
                      exact Option.map_eq_some_iff.mpr ⟨x, hr _ _ _ _ h3, h4⟩
                    · cases h1
                · cases h1
              · cases h
            · exact h
  · cases h
theorem gLoop_mono {rec rec' : Nat → List Value → gM → Option gRo} (hr : ∀ k as M x, rec k as M = some x → rec' k as M = some x) {j : Nat} : ∀ (n n' : Nat) (c : gC) (x : gRo), n ≤ n' → gLoop rec j n c = some x → gLoop rec' j n' c = some x
  | 0, _, _, _, _, h => by cases h
  | n + 1, 0, _, _, hn, _ => by omega
  | n + 1, n' + 1, c, x, hn, h => by
    unfold gLoop at h ⊢
    split at h
    · rename_i c' hs
      rw [gStep_mono hr hs]
      exact gLoop_mono hr n n' c' x (by omega) h
    · rename_i r hs
      rw [gStep_mono hr hs]
      exact h
    · cases h
theorem gExec_mono {n n' : Nat} (hn : n ≤ n') : ∀ (d k : Nat) (as : List Value) (M : gM) (x : gRo), gExec n d k as M = some x → gExec n' d k as M = some x
  | 0, _, _, _, _, h => by cases h
  | d + 1, k, as, M, x, h => by
    unfold gExec at h ⊢
    split at h
    · rename_i hc
      rw [if_pos hc]
      exact gLoop_mono (gExec_mono hn d) n n' _ x hn h
    · cases h
section GRUN
variable {d j pc : Nat} {ls : List (Option Value)} {st : List Value} {M : gM} {u1 u2 : Nat} {Z : Option Value → gM → Prop}
theorem Run_next {pc' : Nat} {ls' : List (Option Value)} {st' : List Value} {M' : gM} {v1 v2 : Nat} (h : ∀ rec, gStep rec j (pc, ls, st, M, u1, u2) = some (.inl (pc', ls', st', M', v1, v2))) : Run d j pc ls st M u1 u2 Z ↔ Run d j pc' ls' st' M' v1 v2 Z := by
  constructor
  · rintro ⟨n, r, M2, h1, h2⟩
    cases n with
    | zero => cases h1
    | succ n =>
      unfold gLoop at h1
      rw [h] at h1
      exact ⟨n + 1, r, M2, gLoop_mono (fun _ _ _ _ q => q) n (n + 1) _ _ (Nat.le_succ _) h1, h2⟩
  · rintro ⟨n, r, M2, h1, h2⟩
    refine ⟨n + 1, r, M2, ?_, h2⟩
    unfold gLoop
    rw [h]
    exact gLoop_mono (gExec_mono (Nat.le_succ _) d) n n _ _ (Nat.le_refl _) h1
theorem Run_ret {r : Option Value} {M' : gM} (h : ∀ rec, gStep rec j (pc, ls, st, M, u1, u2) = some (.inr (r, M'))) : Run d j pc ls st M u1 u2 Z ↔ Z r M' := by
  constructor
  · rintro ⟨n, r2, M2, h1, h2⟩
    cases n with
    | zero => cases h1
    | succ n =>
      unfold gLoop at h1
      rw [h] at h1
      cases h1
      exact h2
  · intro hz
    refine ⟨1, r, M', ?_, hz⟩
    unfold gLoop
    rw [h]
theorem Run_none (h : ∀ rec, gStep rec j (pc, ls, st, M, u1, u2) = none) : Run d j pc ls st M u1 u2 Z ↔ False := by
  constructor
  · rintro ⟨n, r2, M2, h1, h2⟩
    cases n with
    | zero => cases h1
    | succ n =>
      unfold gLoop at h1
      rw [h] at h1
      cases h1
  · exact False.elim
/-- a framed call -/
theorem Run_call {i : Instr} {idx kind k : Nat} {as rest : List Value} (hd : decode (gby j) pc = .ok (i, 3)) (hq : ∀ rec : Nat → List Value → gM → Option gRo, gStep rec j (pc, ls, st, M, u1, u2) = (rec k as M).map (fun q => .inl (pc + 3, ls, q.1.toList ++ rest, q.2, u1 + gmc k, u2 + gms k))) :
    Run d j pc ls st M u1 u2 Z ↔ Call d k as M (fun r M' => Run d j (pc + 3) ls (r.toList ++ rest) M' (u1 + gmc k) (u2 + gms k) Z) := by
  constructor
  · rintro ⟨n, r, M2, h1, h2⟩
    cases n with
    | zero => cases h1
    | succ n =>
      unfold gLoop at h1
      rw [hq] at h1
      cases hr : gExec (n + 1) d k as M with
      | none => rw [hr] at h1; cases h1
      | some x =>
        rw [hr] at h1
        exact ⟨n + 1, x.1, x.2, hr, n + 1, r, M2, gLoop_mono (fun _ _ _ _ q => q) n (n + 1) _ _ (Nat.le_succ _) h1, h2⟩
  · rintro ⟨n1, r1, M1, h1, n2, r, M2, h2, h3⟩
    refine ⟨(n1 + n2) + 1, r, M2, ?_, h3⟩
    unfold gLoop
    rw [hq, gExec_mono (show n1 ≤ n1 + n2 + 1 by omega) d k as M _ h1]
    exact gLoop_mono (gExec_mono (show n2 ≤ n1 + n2 + 1 by omega) d) n2 (n1 + n2) _ _ (by omega) h2
theorem Call_iff {k : Nat} {as : List Value} (hk : k < gNM) (hl : as.length ≤ gml k) : Call (d + 1) k as M Z ↔ Run d k 0 (as.map some ++ List.replicate (gml k - as.length) none) [] M 0 0 Z := by
  constructor
  · rintro ⟨n, r, M', h1, h2⟩
    unfold gExec at h1
    rw [if_pos ⟨hl, hk⟩] at h1
    exact ⟨n, r, M', h1, h2⟩
  · rintro ⟨n, r, M', h1, h2⟩
    refine ⟨n, r, M', ?_, h2⟩
    unfold gExec
    rw [if_pos ⟨hl, hk⟩]
    exact h1
theorem Call_mono {k : Nat} {as : List Value} {Z' : Option Value → gM → Prop} (h : Call d k as M Z) (hz : ∀ r M', Z r M' → Z' r M') : Call d k as M Z' := by
  obtain ⟨n, r, M', h1, h2⟩ := h
  exact ⟨n, r, M', h1, hz _ _ h2⟩
theorem Run_mono {Z' : Option Value → gM → Prop} (h : Run d j pc ls st M u1 u2 Z) (hz : ∀ r M', Z r M' → Z' r M') : Run d j pc ls st M u1 u2 Z' := by
  obtain ⟨n, r, M', h1, h2⟩ := h
  exact ⟨n, r, M', h1, hz _ _ h2⟩
theorem gExec_depth {n : Nat} : ∀ (d d' k : Nat) (as : List Value) (M : gM) (x : gRo), d ≤ d' → gExec n d k as M = some x → gExec n d' k as M = some x
  | 0, _, _, _, _, _, _, h => by cases h
  | d + 1, 0, _, _, _, _, hd, _ => by omega
  | d + 1, d' + 1, k, as, M, x, hd, h => by
    unfold gExec at h ⊢
    split at h
    · rename_i hc
      rw [if_pos hc]
      exact gLoop_mono (fun k as M x q => gExec_depth d d' k as M x (by omega) q) n n _ x (Nat.le_refl _) h
    · cases h
theorem Call_depth {d' k : Nat} {as : List Value} (hd : d ≤ d') (h : Call d k as M Z) : Call d' k as M Z := by
  obtain ⟨n, r, M', h1, h2⟩ := h
  exact ⟨n, r, M', gExec_depth d d' k as M _ hd h1, h2⟩
/-! by the instruction -/
variable {i : Instr} {len : Nat}
theorem gStep_of (hd : decode (gby j) pc = .ok (i, len)) (rec : Nat → List Value → gM → Option gRo) : gStep rec j (pc, ls, st, M, u1, u2) = gStepI rec j i len (pc, ls, st, M, u1, u2) := by
  unfold gStep
  dsimp only
  rw [hd]
theorem R_arith {st' : List Value} (hd : decode (gby j) pc = .ok (i, len)) (h : gArith i len st = some st') : Run d j pc ls st M u1 u2 Z ↔ Run d j (pc + len) ls st' M u1 u2 Z :=
  Run_next fun rec => by rw [gStep_of hd]; unfold gStepI; dsimp only; rw [h]
theorem R_branch {st' : List Value} {t : Nat} (hd : decode (gby j) pc = .ok (i, len)) (h0 : gArith i len st = none) (h : gBranch i len pc st = some (t, st')) : Run d j pc ls st M u1 u2 Z ↔ Run d j t ls st' M u1 u2 Z :=
  Run_next fun rec => by rw [gStep_of hd]; unfold gStepI; dsimp only; rw [h0]; dsimp only; rw [h]
theorem R_local {st' : List Value} {ls' : List (Option Value)} (hd : decode (gby j) pc = .ok (i, len)) (h0 : gArith i len st = none) (h1 : gBranch i len pc st = none) (h : gLocal i len ls st = some (ls', st')) : Run d j pc ls st M u1 u2 Z ↔ Run d j (pc + len) ls' st' M u1 u2 Z :=
  Run_next fun rec => by rw [gStep_of hd]; unfold gStepI; dsimp only; rw [h0]; dsimp only; rw [h1]; dsimp only; rw [h]
theorem R_heap {st' : List Value} {M' : gM} {v1 v2 : Nat} (hd : decode (gby j) pc = .ok (i, len)) (h0 : gArith i len st = none) (h1 : gBranch i len pc st = none) (h2 : gLocal i len ls st = none) (h : gHeap j i len st M u1 u2 = some (st', M', v1, v2)) : Run d j pc ls st M u1 u2 Z ↔ Run d j (pc + len) ls st' M' v1 v2 Z :=
  Run_next fun rec => by rw [gStep_of hd]; unfold gStepI; dsimp only; rw [h0]; dsimp only; rw [h1]; dsimp only; rw [h2]; dsimp only; rw [h]
theorem R_heapN (hd : decode (gby j) pc = .ok (i, len)) (h0 : gArith i len st = none) (h1 : gBranch i len pc st = none) (h2 : gLocal i len ls st = none) (hk : gKind i len = none) (hr : gRet j i len st M = none) (h : gHeap j i len st M u1 u2 = none) : Run d j pc ls st M u1 u2 Z ↔ False :=
  Run_none fun rec => by rw [gStep_of hd]; unfold gStepI; dsimp only; rw [h0]; dsimp only; rw [h1]; dsimp only; rw [h2]; dsimp only; rw [h]; dsimp only; rw [hk]; dsimp only; rw [hr]; rfl
theorem R_callI {idx : Nat} (hd : decode (gby j) pc = .ok (i, 3)) (h0 : gArith i 3 st = none) (h1 : gBranch i 3 pc st = none) (h2 : gLocal i 3 ls st = none) (h3 : gHeap j i 3 st M u1 u2 = none) (hk : gKind i 3 = some idx) (hok : (gcal (gow j) idx).any (fun q => gKindOk i q.1) = true) (rec : Nat → List Value → gM → Option gRo) :
    gStep rec j (pc, ls, st, M, u1, u2) = (gCall rec j idx st M u1 u2).map (fun h => .inl (pc + 3, ls, h.1, h.2.1, h.2.2.1, h.2.2.2)) := by
  rw [gStep_of hd]; unfold gStepI; dsimp only; rw [h0]; dsimp only; rw [h1]; dsimp only; rw [h2]; dsimp only; rw [h3]; dsimp only; rw [hk]; dsimp only; rw [if_pos hok]
theorem R_ret {r : Option Value} {M' : gM} (hd : decode (gby j) pc = .ok (i, len)) (h0 : gArith i len st = none) (h1 : gBranch i len pc st = none) (h2 : gLocal i len ls st = none) (h3 : gHeap j i len st M u1 u2 = none) (hk : gKind i len = none) (h : gRet j i len st M = some (r, M')) : Run d j pc ls st M u1 u2 Z ↔ Z r M' :=
  Run_ret fun rec => by rw [gStep_of hd]; unfold gStepI; dsimp only; rw [h0]; dsimp only; rw [h1]; dsimp only; rw [h2]; dsimp only; rw [h3]; dsimp only; rw [hk]; dsimp only; rw [h]; rfl
end GRUN
/-! what the cells are, for the rules by instruction -/
def gObj (M : gM) (o ci : Nat) : Prop := M.2.2[o]? = some (.inl ci)
def gAr (M : gM) (o t : Nat) : Prop := gTy M o = some t
theorem gObj_sI {M : gM} {o k q ci : Nat} {x : Int32} : gObj (gsI M o k x) q ci ↔ gObj M q ci := Iff.rfl
theorem gObj_sR {M : gM} {o k q ci : Nat} {x : Option Nat} : gObj (gsR M o k x) q ci ↔ gObj M q ci := Iff.rfl
theorem gAr_sI {M : gM} {o k q ci : Nat} {x : Int32} : gAr (gsI M o k x) q ci ↔ gAr M q ci := Iff.rfl
theorem gAr_sR {M : gM} {o k q ci : Nat} {x : Option Nat} : gAr (gsR M o k x) q ci ↔ gAr M q ci := Iff.rfl
theorem gLen_sI {M : gM} {o k q : Nat} {x : Int32} : gLen (gsI M o k x) q = gLen M q := rfl
theorem gLen_sR {M : gM} {o k q : Nat} {x : Option Nat} : gLen (gsR M o k x) q = gLen M q := rfl
theorem gsI_1 {M : gM} {o k a b : Nat} {x : Int32} : (gsI M o k x).1 a b = if a = o ∧ b = k then x else M.1 a b := rfl
theorem gsI_2 {M : gM} {o k a b : Nat} {x : Int32} : (gsI M o k x).2.1 a b = M.2.1 a b := rfl
theorem gsR_1 {M : gM} {o k a b : Nat} {x : Option Nat} : (gsR M o k x).1 a b = M.1 a b := rfl
theorem gsR_2 {M : gM} {o k a b : Nat} {x : Option Nat} : (gsR M o k x).2.1 a b = if a = o ∧ b = k then x else M.2.1 a b := rfl
section GRULE
variable {d j pc : Nat} {ls : List (Option Value)} {st : List Value} {M : gM} {u1 u2 : Nat} {Z : Option Value → gM → Prop} {i : Instr} {own idx ci k o : Nat}
theorem R_if {P : Prop} {kd : ClassFile.Cond} {off : Int} {t : Nat} {x : Int32} (hd : decode (gby j) pc = .ok (.ifCond kd off, 3)) (ht : gTgt pc off = some t) (hp : gIf kd x 0 = true ↔ P) :
    Run d j pc ls (.int x :: st) M u1 u2 Z ↔ (P → Run d j t ls st M u1 u2 Z) ∧ (¬ P → Run d j (pc + 3) ls st M u1 u2 Z) := by
  by_cases h : P
  · rw [R_branch hd rfl (t := t) (st' := st) (by simp only [gBranch, ht, Option.map_some, hp.mpr h, if_true])]
    simp [h]
  · rw [R_branch hd rfl (t := pc + 3) (st' := st) (by simp only [gBranch, ht, Option.map_some, if_neg (fun q => h (hp.mp q))])]
    simp [h]
theorem R_icmp {P : Prop} {kd : ClassFile.Cond} {off : Int} {t : Nat} {x y : Int32} (hd : decode (gby j) pc = .ok (.if_icmp kd off, 3)) (ht : gTgt pc off = some t) (hp : gIf kd x y = true ↔ P) :
    Run d j pc ls (.int y :: .int x :: st) M u1 u2 Z ↔ (P → Run d j t ls st M u1 u2 Z) ∧ (¬ P → Run d j (pc + 3) ls st M u1 u2 Z) := by
  by_cases h : P
  · rw [R_branch hd rfl (t := t) (st' := st) (by simp only [gBranch, ht, Option.map_some, hp.mpr h, if_true])]
    simp [h]
  · rw [R_branch hd rfl (t := pc + 3) (st' := st) (by simp only [gBranch, ht, Option.map_some, if_neg (fun q => h (hp.mp q))])]
    simp [h]
theorem gIf_eq {x y : Int32} : gIf .eq x y = true ↔ x = y := decide_eq_true_iff
theorem gIf_ne {x y : Int32} : gIf .ne x y = true ↔ ¬ x = y := decide_eq_true_iff
theorem gIf_lt {x y : Int32} : gIf .lt x y = true ↔ x < y := decide_eq_true_iff
theorem gIf_ge {x y : Int32} : gIf .ge x y = true ↔ y ≤ x := decide_eq_true_iff
theorem gIf_gt {x y : Int32} : gIf .gt x y = true ↔ y < x := decide_eq_true_iff
theorem gIf_le {x y : Int32} : gIf .le x y = true ↔ x ≤ y := decide_eq_true_iff
theorem R_null {off : Int} {t : Nat} {v : Value} (hd : decode (gby j) pc = .ok (.ifnull off, 3)) (ht : gTgt pc off = some t) (hv : gisRef v = true) :
    Run d j pc ls (v :: st) M u1 u2 Z ↔ (v = .null → Run d j t ls st M u1 u2 Z) ∧ (¬ v = .null → Run d j (pc + 3) ls st M u1 u2 Z) := by
  by_cases h : v = .null
  · rw [R_branch hd rfl (t := t) (st' := st) (by simp only [gBranch, ht, Option.map_some, hv, if_true, if_pos h])]
    simp [h]
  · rw [R_branch hd rfl (t := pc + 3) (st' := st) (by simp only [gBranch, ht, Option.map_some, hv, if_true, if_neg h])]
    simp [h]
theorem R_nonnull {off : Int} {t : Nat} {v : Value} (hd : decode (gby j) pc = .ok (.ifnonnull off, 3)) (ht : gTgt pc off = some t) (hv : gisRef v = true) :
    Run d j pc ls (v :: st) M u1 u2 Z ↔ (v = .null → Run d j (pc + 3) ls st M u1 u2 Z) ∧ (¬ v = .null → Run d j t ls st M u1 u2 Z) := by
  by_cases h : v = .null
  · rw [R_branch hd rfl (t := pc + 3) (st' := st) (by simp only [gBranch, ht, Option.map_some, hv, if_true, if_pos h])]
    simp [h]
  · rw [R_branch hd rfl (t := t) (st' := st) (by simp only [gBranch, ht, Option.map_some, hv, if_true, if_neg h])]
    simp [h]
theorem R_switch {dflt lo hi : Int} {offs : Array Int} {len : Nat} {x : Int32} (hd : decode (gby j) pc = .ok (.tableswitch dflt lo hi offs, len)) {t : Nat} (h : gBranch (.tableswitch dflt lo hi offs) len pc (.int x :: st) = some (t, st)) :
    Run d j pc ls (.int x :: st) M u1 u2 Z ↔ Run d j t ls st M u1 u2 Z := R_branch hd rfl h
theorem R_getI (hd : decode (gby j) pc = .ok (.getfield idx, 3)) (ho : gow j = own) (hf : gfld own idx = some (ci, k)) (hr : gisR ci k = false) :
    Run d j pc ls (.ref o :: st) M u1 u2 Z ↔ gObj M o ci ∧ Run d j (pc + 3) ls (.int (M.1 o k) :: st) M u1 u2 Z := by
  subst ho
  by_cases h : gObj M o ci
  · rw [R_heap hd rfl rfl rfl (st' := .int (M.1 o k) :: st) (M' := M) (v1 := u1) (v2 := u2) (by unfold gObj at h; simp only [gHeap, hf, h, if_true, hr]; rfl)]
    simp [h]
  · rw [R_heapN hd rfl rfl rfl rfl rfl (by unfold gObj at h; simp only [gHeap, hf, if_neg h])]
    simp [h]
theorem R_getR (hd : decode (gby j) pc = .ok (.getfield idx, 3)) (ho : gow j = own) (hf : gfld own idx = some (ci, k)) (hr : gisR ci k = true) :
    Run d j pc ls (.ref o :: st) M u1 u2 Z ↔ gObj M o ci ∧ Run d j (pc + 3) ls (va_rf (M.2.1 o k) :: st) M u1 u2 Z := by
  subst ho
  by_cases h : gObj M o ci
  · rw [R_heap hd rfl rfl rfl (st' := va_rf (M.2.1 o k) :: st) (M' := M) (v1 := u1) (v2 := u2) (by unfold gObj at h; simp only [gHeap, hf, h, if_true, hr])]
    simp [h]
  · rw [R_heapN hd rfl rfl rfl rfl rfl (by unfold gObj at h; simp only [gHeap, hf, if_neg h])]
    simp [h]
theorem R_put {v : Value} {C : Prop} {M' : gM} (hd : decode (gby j) pc = .ok (.putfield idx, 3)) (ho : gow j = own) (hf : gfld own idx = some (ci, k)) (hfin : gfin ci k = false ∨ ((gy j).name = "<init>" ∧ own = ci)) (hC : C → gPut M o k (gty ci k) v = some M') (hN : ¬ C → gPut M o k (gty ci k) v = none) :
    Run d j pc ls (v :: .ref o :: st) M u1 u2 Z ↔ gObj M o ci ∧ C ∧ Run d j (pc + 3) ls st M' u1 u2 Z := by
  subst ho
  by_cases h : gObj M o ci
  · by_cases hc : C
    · rw [R_heap hd rfl rfl rfl (st' := st) (M' := M') (v1 := u1) (v2 := u2) (by unfold gObj at h; simp only [gHeap, hf]; rw [if_pos ⟨h, hfin⟩, hC hc]; rfl)]
      simp [h, hc]
    · rw [R_heapN hd rfl rfl rfl rfl rfl (by unfold gObj at h; simp only [gHeap, hf]; rw [if_pos ⟨h, hfin⟩, hN hc]; rfl)]
      simp [hc]
  · rw [R_heapN hd rfl rfl rfl rfl rfl (by unfold gObj at h; simp only [gHeap, hf]; rw [if_neg (fun q => h q.1)])]
    simp [h]
theorem R_putI {x : Int32} (hd : decode (gby j) pc = .ok (.putfield idx, 3)) (ho : gow j = own) (hf : gfld own idx = some (ci, k)) (hfin : gfin ci k = false ∨ ((gy j).name = "<init>" ∧ own = ci)) (ht : gty ci k = .int) :
    Run d j pc ls (.int x :: .ref o :: st) M u1 u2 Z ↔ gObj M o ci ∧ Run d j (pc + 3) ls st (gsI M o k x) u1 u2 Z := by
  rw [R_put (C := True) (M' := gsI M o k x) hd ho hf hfin (fun _ => by rw [ht]; rfl) (fun q => absurd trivial q)]
  simp
theorem R_putZ {x : Int32} (hd : decode (gby j) pc = .ok (.putfield idx, 3)) (ho : gow j = own) (hf : gfld own idx = some (ci, k)) (hfin : gfin ci k = false ∨ ((gy j).name = "<init>" ∧ own = ci)) (ht : gty ci k = .boolean) :
    Run d j pc ls (.int x :: .ref o :: st) M u1 u2 Z ↔ gObj M o ci ∧ (x = 0 ∨ x = 1) ∧ Run d j (pc + 3) ls st (gsI M o k x) u1 u2 Z :=
  R_put (C := x = 0 ∨ x = 1) (M' := gsI M o k x) hd ho hf hfin (fun q => by rw [ht]; exact if_pos q) (fun q => by rw [ht]; exact if_neg q)
theorem R_putR {v : Value} (hd : decode (gby j) pc = .ok (.putfield idx, 3)) (ho : gow j = own) (hf : gfld own idx = some (ci, k)) (hfin : gfin ci k = false ∨ ((gy j).name = "<init>" ∧ own = ci)) (ht : gisR ci k = true) :
    Run d j pc ls (v :: .ref o :: st) M u1 u2 Z ↔ gObj M o ci ∧ gisRef v = true ∧ Run d j (pc + 3) ls st (gsR M o k (gU v)) u1 u2 Z := by
  have h1 : (∃ n, gty ci k = .object n) ∨ ∃ t, gty ci k = .array t := by
    unfold gisR at ht
    split at ht
    · rename_i n hn; exact Or.inl ⟨n, hn⟩
    · rename_i n hn; exact Or.inr ⟨n, hn⟩
    · cases ht
  rcases h1 with ⟨n, h1⟩ | ⟨n, h1⟩
  · exact R_put (C := gisRef v = true) (M' := gsR M o k (gU v)) hd ho hf hfin (fun q => by rw [h1]; simp only [gPut]; exact if_pos q) (fun q => by rw [h1]; simp only [gPut]; exact if_neg q)
  · exact R_put (C := gisRef v = true) (M' := gsR M o k (gU v)) hd ho hf hfin (fun q => by rw [h1]; simp only [gPut]; exact if_pos q) (fun q => by rw [h1]; simp only [gPut]; exact if_neg q)
theorem R_iald {x : Int32} (hd : decode (gby j) pc = .ok (.iaload, 1)) : Run d j pc ls (.int x :: .ref o :: st) M u1 u2 Z ↔ gAr M o 0 ∧ gIn x (gLen M o) = true ∧ Run d j (pc + 1) ls (.int (M.1 o x.toNatClampNeg) :: st) M u1 u2 Z := by
  by_cases h : gTy M o = some 0 ∧ gIn x (gLen M o) = true
  · rw [R_heap hd rfl rfl rfl (st' := .int (M.1 o x.toNatClampNeg) :: st) (M' := M) (v1 := u1) (v2 := u2) (by simp only [gHeap]; exact if_pos h)]
    simp [gAr, h]
  · rw [R_heapN hd rfl rfl rfl rfl rfl (by simp only [gHeap]; exact if_neg h)]
    constructor
    · exact False.elim
    · exact fun q => h ⟨q.1, q.2.1⟩
theorem R_bald {x : Int32} {t : Nat} (hd : decode (gby j) pc = .ok (.baload, 1)) (ht : t = 1 ∨ t = 2) (hg : gAr M o t) : Run d j pc ls (.int x :: .ref o :: st) M u1 u2 Z ↔ gIn x (gLen M o) = true ∧ Run d j (pc + 1) ls (.int (M.1 o x.toNatClampNeg) :: st) M u1 u2 Z := by
  have hg2 : gTy M o = some 1 ∨ gTy M o = some 2 := by
    rcases ht with rfl | rfl
    · exact Or.inl hg
    · exact Or.inr hg
  by_cases h : gIn x (gLen M o) = true
  · rw [R_heap hd rfl rfl rfl (st' := .int (M.1 o x.toNatClampNeg) :: st) (M' := M) (v1 := u1) (v2 := u2) (by simp only [gHeap]; exact if_pos ⟨hg2, h⟩)]
    simp [h]
  · rw [R_heapN hd rfl rfl rfl rfl rfl (by simp only [gHeap]; exact if_neg (fun q => h q.2))]
    simp [h]
theorem R_aald {x : Int32} (hd : decode (gby j) pc = .ok (.aaload, 1)) : Run d j pc ls (.int x :: .ref o :: st) M u1 u2 Z ↔ (gAr M o 3 ∨ gAr M o 4) ∧ gIn x (gLen M o) = true ∧ Run d j (pc + 1) ls (va_rf (M.2.1 o x.toNatClampNeg) :: st) M u1 u2 Z := by
  by_cases h : (gTy M o = some 3 ∨ gTy M o = some 4) ∧ gIn x (gLen M o) = true
  · rw [R_heap hd rfl rfl rfl (st' := va_rf (M.2.1 o x.toNatClampNeg) :: st) (M' := M) (v1 := u1) (v2 := u2) (by simp only [gHeap]; exact if_pos h)]
    simp [gAr, h]
  · rw [R_heapN hd rfl rfl rfl rfl rfl (by simp only [gHeap]; exact if_neg h)]
    constructor
    · exact False.elim
    · exact fun q => h ⟨q.1, q.2.1⟩
theorem R_iast {x y : Int32} (hd : decode (gby j) pc = .ok (.iastore, 1)) : Run d j pc ls (.int y :: .int x :: .ref o :: st) M u1 u2 Z ↔ gAr M o 0 ∧ gIn x (gLen M o) = true ∧ Run d j (pc + 1) ls st (gsI M o x.toNatClampNeg y) u1 u2 Z := by
  by_cases h : gTy M o = some 0 ∧ gIn x (gLen M o) = true
  · rw [R_heap hd rfl rfl rfl (st' := st) (M' := gsI M o x.toNatClampNeg y) (v1 := u1) (v2 := u2) (by simp only [gHeap]; exact if_pos h)]
    simp [gAr, h]
  · rw [R_heapN hd rfl rfl rfl rfl rfl (by simp only [gHeap]; exact if_neg h)]
    constructor
    · exact False.elim
    · exact fun q => h ⟨q.1, q.2.1⟩
theorem R_bast {x y : Int32} (hd : decode (gby j) pc = .ok (.bastore, 1)) (hg : gAr M o 1) : Run d j pc ls (.int y :: .int x :: .ref o :: st) M u1 u2 Z ↔ gIn x (gLen M o) = true ∧ Run d j (pc + 1) ls st (gsI M o x.toNatClampNeg y.toInt8.toInt32) u1 u2 Z := by
  unfold gAr at hg
  by_cases h : gIn x (gLen M o) = true
  · rw [R_heap hd rfl rfl rfl (st' := st) (M' := gsI M o x.toNatClampNeg y.toInt8.toInt32) (v1 := u1) (v2 := u2) (by simp only [gHeap]; rw [if_pos h, if_pos hg])]
    simp [h]
  · rw [R_heapN hd rfl rfl rfl rfl rfl (by simp only [gHeap]; rw [if_neg h])]
    simp [h]
theorem R_zast {x y : Int32} (hd : decode (gby j) pc = .ok (.bastore, 1)) (hg : gAr M o 2) : Run d j pc ls (.int y :: .int x :: .ref o :: st) M u1 u2 Z ↔ gIn x (gLen M o) = true ∧ Run d j (pc + 1) ls st (gsI M o x.toNatClampNeg (y &&& 1)) u1 u2 Z := by
  unfold gAr at hg
  by_cases h : gIn x (gLen M o) = true
  · rw [R_heap hd rfl rfl rfl (st' := st) (M' := gsI M o x.toNatClampNeg (y &&& 1)) (v1 := u1) (v2 := u2) (by simp only [gHeap]; rw [if_pos h, if_neg (by rw [hg]; decide), if_pos hg])]
    simp [h]
  · rw [R_heapN hd rfl rfl rfl rfl rfl (by simp only [gHeap]; rw [if_neg h])]
    simp [h]
theorem R_aast {a : Nat} {x : Int32} (hd : decode (gby j) pc = .ok (.aastore, 1)) : Run d j pc ls (.ref a :: .int x :: .ref o :: st) M u1 u2 Z ↔ ((gAr M o 3 ∧ gObj M a 0) ∨ (gAr M o 4 ∧ gObj M a 7)) ∧ gIn x (gLen M o) = true ∧ Run d j (pc + 1) ls st (gsR M o x.toNatClampNeg (some a)) u1 u2 Z := by
  by_cases h : ((gTy M o = some 3 ∧ M.2.2[a]? = some (.inl 0)) ∨ (gTy M o = some 4 ∧ M.2.2[a]? = some (.inl 7))) ∧ gIn x (gLen M o) = true
  · rw [R_heap hd rfl rfl rfl (st' := st) (M' := gsR M o x.toNatClampNeg (some a)) (v1 := u1) (v2 := u2) (by simp only [gHeap]; exact if_pos h)]
    constructor
    · exact fun q => ⟨h.1, h.2, q⟩
    · exact fun q => q.2.2
  · rw [R_heapN hd rfl rfl rfl rfl rfl (by simp only [gHeap]; exact if_neg h)]
    constructor
    · exact False.elim
    · exact fun q => h ⟨q.1, q.2.1⟩
theorem R_alen (hd : decode (gby j) pc = .ok (.arraylength, 1)) : Run d j pc ls (.ref o :: st) M u1 u2 Z ↔ (gTy M o).isSome = true ∧ Run d j (pc + 1) ls (.int (Int32.ofNat (gLen M o)) :: st) M u1 u2 Z := by
  by_cases h : (gTy M o).isSome = true
  · rw [R_heap hd rfl rfl rfl (st' := .int (Int32.ofNat (gLen M o)) :: st) (M' := M) (v1 := u1) (v2 := u2) (by simp only [gHeap]; exact if_pos h)]
    simp [h]
  · rw [R_heapN hd rfl rfl rfl rfl rfl (by simp only [gHeap]; exact if_neg h)]
    simp [h]
theorem R_new {n : Nat} (hd : decode (gby j) pc = .ok (.new idx, 3)) (ho : gow j = own) (hf : gnew own idx = some ci) (hn : gN ci = n) : Run d j pc ls st M u1 u2 Z ↔ (u1 + 1 ≤ gmc j ∧ u2 + n ≤ gms j) ∧ Run d j (pc + 3) ls (.ref M.2.2.length :: st) (gNew M (.inl ci)) (u1 + 1) (u2 + n) Z := by
  subst ho; subst hn
  by_cases h : u1 + 1 ≤ gmc j ∧ u2 + gN ci ≤ gms j
  · rw [R_heap hd rfl rfl rfl (st' := .ref M.2.2.length :: st) (M' := gNew M (.inl ci)) (v1 := u1 + 1) (v2 := u2 + gN ci) (by simp only [gHeap, hf]; exact if_pos h)]
    simp [h]
  · rw [R_heapN hd rfl rfl rfl rfl rfl (by simp only [gHeap, hf]; exact if_neg h)]
    simp [h]
theorem R_newa {at_ : ArrayType} {t : Nat} {n : Int32} (hd : decode (gby j) pc = .ok (.newarray at_, 2)) (hf : gat at_ = some t) : Run d j pc ls (.int n :: st) M u1 u2 Z ↔ (¬ n < 0 ∧ n.toNatClampNeg ≤ 100000 ∧ u1 + 1 ≤ gmc j ∧ u2 + n.toNatClampNeg ≤ gms j) ∧ Run d j (pc + 2) ls (.ref M.2.2.length :: st) (gNew M (.inr (t, n.toNatClampNeg))) (u1 + 1) (u2 + n.toNatClampNeg) Z := by
  by_cases h : ¬ n < 0 ∧ n.toNatClampNeg ≤ 100000 ∧ u1 + 1 ≤ gmc j ∧ u2 + n.toNatClampNeg ≤ gms j
  · rw [R_heap hd rfl rfl rfl (st' := .ref M.2.2.length :: st) (M' := gNew M (.inr (t, n.toNatClampNeg))) (v1 := u1 + 1) (v2 := u2 + n.toNatClampNeg) (by simp only [gHeap, hf]; exact if_pos h)]
    exact ⟨fun q => ⟨h, q⟩, fun q => q.2⟩
  · rw [R_heapN hd rfl rfl rfl rfl rfl (by simp only [gHeap, hf]; exact if_neg h)]
    exact ⟨False.elim, fun q => h q.1⟩
theorem R_anew {t : Nat} {n : Int32} (hd : decode (gby j) pc = .ok (.anewarray idx, 3)) (ho : gow j = own) (hf : gan own idx = some t) : Run d j pc ls (.int n :: st) M u1 u2 Z ↔ (¬ n < 0 ∧ n.toNatClampNeg ≤ 100000 ∧ u1 + 1 ≤ gmc j ∧ u2 + n.toNatClampNeg ≤ gms j) ∧ Run d j (pc + 3) ls (.ref M.2.2.length :: st) (gNew M (.inr (t, n.toNatClampNeg))) (u1 + 1) (u2 + n.toNatClampNeg) Z := by
  subst ho
  by_cases h : ¬ n < 0 ∧ n.toNatClampNeg ≤ 100000 ∧ u1 + 1 ≤ gmc j ∧ u2 + n.toNatClampNeg ≤ gms j
  · rw [R_heap hd rfl rfl rfl (st' := .ref M.2.2.length :: st) (M' := gNew M (.inr (t, n.toNatClampNeg))) (v1 := u1 + 1) (v2 := u2 + n.toNatClampNeg) (by simp only [gHeap, hf]; exact if_pos h)]
    exact ⟨fun q => ⟨h, q⟩, fun q => q.2⟩
  · rw [R_heapN hd rfl rfl rfl rfl rfl (by simp only [gHeap, hf]; exact if_neg h)]
    exact ⟨False.elim, fun q => h q.1⟩
theorem R_div {x y : Int32} (hd : decode (gby j) pc = .ok (.idiv, 1)) (hy : ¬ y = 0) : Run d j pc ls (.int y :: .int x :: st) M u1 u2 Z ↔ Run d j (pc + 1) ls (.int (x / y) :: st) M u1 u2 Z := R_arith hd (by simp only [gArith]; exact if_neg hy)
theorem R_rem {x y : Int32} (hd : decode (gby j) pc = .ok (.irem, 1)) (hy : ¬ y = 0) : Run d j pc ls (.int y :: .int x :: st) M u1 u2 Z ↔ Run d j (pc + 1) ls (.int (x - x / y * y) :: st) M u1 u2 Z := R_arith hd (by simp only [gArith]; exact if_neg hy)
/-- a framed call by its kind -/
theorem R_call {kind : Nat} {as rest : List Value} (hd : decode (gby j) pc = .ok (i, 3)) (h0 : gArith i 3 st = none) (h1 : gBranch i 3 pc st = none) (h2 : gLocal i 3 ls st = none) (h3 : gHeap j i 3 st M u1 u2 = none) (hk : gKind i 3 = some idx) (ho : gow j = own) (hc : gcal own idx = some (kind, k)) (hki : gKindOk i kind = true)
    (hnp : ¬ (kind = 3 ∨ kind = 4 ∨ kind = 5 ∨ kind = 6)) (hn1 : gNargs kind k ≤ st.length) (hn2 : st.length ≤ gNargs kind k + 8) (has : (st.take (gNargs kind k)).reverse = as) (hre : st.drop (gNargs kind k) = rest) (hr : gRecv kind k as M = true) (hu1 : u1 + gmc k ≤ gmc j) (hu2 : u2 + gms k ≤ gms j) :
    Run d j pc ls st M u1 u2 Z ↔ Call d k as M (fun r M' => Run d j (pc + 3) ls (r.toList ++ rest) M' (u1 + gmc k) (u2 + gms k) Z) := by
  subst ho
  refine Run_call (i := i) (idx := idx) (kind := kind) hd fun rec => ?_
  rw [R_callI hd h0 h1 h2 h3 hk (by rw [hc]; exact hki)]
  unfold gCall
  rw [hc]
  dsimp only
  rw [if_neg hnp, if_pos ⟨hn1, hn2, by rw [has]; exact hr, hu1, hu2⟩, has, hre, Option.map_map]
  rfl
theorem R_prim {kind : Nat} {st' : List Value} {M' : gM} (hd : decode (gby j) pc = .ok (i, 3)) (h0 : gArith i 3 st = none) (h1 : gBranch i 3 pc st = none) (h2 : gLocal i 3 ls st = none) (h3 : gHeap j i 3 st M u1 u2 = none) (hk : gKind i 3 = some idx) (ho : gow j = own) (hc : gcal own idx = some (kind, k)) (hki : gKindOk i kind = true)
    (hnp : kind = 3 ∨ kind = 4 ∨ kind = 5 ∨ kind = 6) (hp : gPrim kind st M = some (st', M')) (hl : st'.length ≤ 8) :
    Run d j pc ls st M u1 u2 Z ↔ Run d j (pc + 3) ls st' M' u1 u2 Z := by
  subst ho
  refine Run_next fun rec => ?_
  rw [R_callI hd h0 h1 h2 h3 hk (by rw [hc]; exact hki)]
  unfold gCall
  rw [hc]
  dsimp only
  rw [if_pos hnp, hp]
  simp [hl]
end GRULE
