/-! No reference points outside; the counts stay within the method's. -/
theorem gvOk_int (n : Nat) (x : Int32) : gvOk n (.int x) := trivial
theorem gvOk_null (n : Nat) : gvOk n .null := trivial
theorem gvOk_rf {n : Nat} {r : Option Nat} (h : ∀ a, r = some a → a < n) : gvOk n (va_rf r) := by
  cases r with
  | none => trivial
  | some a => exact h a rfl
def gsOk (n : Nat) (st : List Value) : Prop := ∀ v ∈ st, gvOk n v
def glOk (n : Nat) (ls : List (Option Value)) : Prop := ∀ v, some v ∈ ls → gvOk n v
theorem gsOk_cons {n : Nat} {v : Value} {st : List Value} : gsOk n (v :: st) ↔ gvOk n v ∧ gsOk n st := List.forall_mem_cons
theorem gsOk_mono {n n' : Nat} (hn : n ≤ n') {st : List Value} (h : gsOk n st) : gsOk n' st := fun v hv => gvOk_mono hn (h v hv)
theorem glOk_mono {n n' : Nat} (hn : n ≤ n') {ls : List (Option Value)} (h : glOk n ls) : glOk n' ls := fun v hv => gvOk_mono hn (h v hv)
theorem gArith_wf {n : Nat} {i : Instr} {len : Nat} {st st' : List Value} (h : gArith i len st = some st') (hs : gsOk n st) : gsOk n st' := by
  unfold gArith at h
  split at h <;> (try split at h) <;> cases h <;> (try simp only [gsOk_cons] at hs ⊢) <;> first
    | exact hs
    | exact ⟨trivial, hs⟩
    | exact ⟨trivial, hs.2.2⟩
    | exact ⟨trivial, hs.2⟩
    | exact ⟨hs.1, hs.1, hs.2⟩
    | exact ⟨hs.1, hs.2.1, hs.1, hs.2.1, hs.2.2⟩
    | exact hs.2
theorem gBranch_wf {n : Nat} {i : Instr} {len pc t : Nat} {st st' : List Value} (h : gBranch i len pc st = some (t, st')) (hs : gsOk n st) : gsOk n st' := by
  unfold gBranch at h
  split at h
  · obtain ⟨_, -, h2⟩ := Option.map_eq_some_iff.mp h; cases h2; exact hs
  · obtain ⟨_, -, h2⟩ := Option.map_eq_some_iff.mp h; cases h2; exact (gsOk_cons.mp hs).2
  · obtain ⟨_, -, h2⟩ := Option.map_eq_some_iff.mp h; cases h2; exact (gsOk_cons.mp (gsOk_cons.mp hs).2).2
  · split at h
    · obtain ⟨_, -, h2⟩ := Option.map_eq_some_iff.mp h; cases h2; exact (gsOk_cons.mp hs).2
    · cases h
  · split at h
    · obtain ⟨_, -, h2⟩ := Option.map_eq_some_iff.mp h; cases h2; exact (gsOk_cons.mp hs).2
    · cases h
  · split at h
    · obtain ⟨_, -, h2⟩ := Option.map_eq_some_iff.mp h; cases h2; exact (gsOk_cons.mp hs).2
    · obtain ⟨_, -, h2⟩ := Option.bind_eq_some_iff.mp h
      obtain ⟨_, -, h2⟩ := Option.map_eq_some_iff.mp h2; cases h2; exact (gsOk_cons.mp hs).2
  · split at h
    · obtain ⟨_, -, h2⟩ := Option.map_eq_some_iff.mp h; cases h2; exact (gsOk_cons.mp hs).2
    · cases h
  · cases h
theorem glOk_set {n k : Nat} {ls : List (Option Value)} {v : Value} (h : glOk n ls) (hv : gvOk n v) : glOk n (ls.set k (some v)) := by
  intro w hw
  rcases List.mem_or_eq_of_mem_set hw with h1 | h1
  · exact h w h1
  · cases h1; exact hv
theorem gLocal_wf {n : Nat} {i : Instr} {len : Nat} {ls ls' : List (Option Value)} {st st' : List Value} (h : gLocal i len ls st = some (ls', st')) (hs : gsOk n st) (hl : glOk n ls) : gsOk n st' ∧ glOk n ls' := by
  have load : ∀ {k ref v}, gLoad ls k ref = some v → gvOk n v := fun h1 => hl _ (List.mem_of_getElem? (gLoad_ok h1).1)
  have store : ∀ {k v l1}, gStore ls k v = some l1 → gvOk n v → glOk n l1 := fun h1 h2 => by rw [(gStore_ok h1).2]; exact glOk_set hl h2
  unfold gLocal at h
  split at h
  · obtain ⟨v, h1, h2⟩ := Option.map_eq_some_iff.mp h; cases h2; exact ⟨gsOk_cons.mpr ⟨load h1, hs⟩, hl⟩
  · obtain ⟨v, h1, h2⟩ := Option.map_eq_some_iff.mp h; cases h2; exact ⟨gsOk_cons.mpr ⟨load h1, hs⟩, hl⟩
  · obtain ⟨v, h1, h2⟩ := Option.map_eq_some_iff.mp h; cases h2; exact ⟨gsOk_cons.mpr ⟨load h1, hs⟩, hl⟩
  · obtain ⟨v, h1, h2⟩ := Option.map_eq_some_iff.mp h; cases h2; exact ⟨gsOk_cons.mpr ⟨load h1, hs⟩, hl⟩
  · obtain ⟨v, h1, h2⟩ := Option.map_eq_some_iff.mp h; cases h2; exact ⟨(gsOk_cons.mp hs).2, store h1 trivial⟩
  · obtain ⟨v, h1, h2⟩ := Option.map_eq_some_iff.mp h; cases h2; exact ⟨(gsOk_cons.mp hs).2, store h1 trivial⟩
  · split at h
    · obtain ⟨v, h1, h2⟩ := Option.map_eq_some_iff.mp h; cases h2; exact ⟨(gsOk_cons.mp hs).2, store h1 (gsOk_cons.mp hs).1⟩
    · cases h
  · split at h
    · obtain ⟨v, h1, h2⟩ := Option.map_eq_some_iff.mp h; cases h2; exact ⟨(gsOk_cons.mp hs).2, store h1 (gsOk_cons.mp hs).1⟩
    · cases h
  · split at h
    · obtain ⟨v, h1, h2⟩ := Option.map_eq_some_iff.mp h; cases h2; exact ⟨hs, store h1 trivial⟩
    · cases h
  · cases h
theorem gmOk_sI {M : gM} {o k : Nat} {x : Int32} (h : gmOk M) : gmOk (gsI M o k x) := h
theorem gmOk_sR {M : gM} {o k : Nat} {r : Option Nat} (h : gmOk M) (hr : ∀ a, r = some a → a < M.2.2.length) : gmOk (gsR M o k r) := by
  intro q i a ha
  simp only [gsR] at ha ⊢
  split at ha
  · exact hr a ha
  · exact h q i a ha
theorem gmOk_new {M : gM} {c : Nat ⊕ (Nat × Nat)} (h : gmOk M) : gmOk (gNew M c) := by
  intro q i a ha
  simp only [gNew] at ha ⊢
  split at ha
  · cases ha
  · rw [List.length_append]
    exact Nat.lt_of_lt_of_le (h q i a ha) (Nat.le_add_right _ _)
theorem gU_ok {n : Nat} {v : Value} (h : gvOk n v) : ∀ a, gU v = some a → a < n := by
  intro a ha
  cases v <;> first | (cases ha; exact h) | cases ha
theorem gNew_len (M : gM) (c : Nat ⊕ (Nat × Nat)) : (gNew M c).2.2.length = M.2.2.length + 1 := by simp [gNew]
theorem gHeap_wf {j : Nat} {i : Instr} {len u1 u2 v1 v2 : Nat} {st st' : List Value} {M M' : gM} (h : gHeap j i len st M u1 u2 = some (st', M', v1, v2)) (hs : gsOk M.2.2.length st) (hm : gmOk M) (hu1 : u1 ≤ gmc j) (hu2 : u2 ≤ gms j) :
    gsOk M'.2.2.length st' ∧ gmOk M' ∧ M.2.2.length ≤ M'.2.2.length ∧ v1 ≤ gmc j ∧ v2 ≤ gms j := by
  unfold gHeap at h
  split at h
  · split at h
    · split at h
      · cases h
        refine ⟨gsOk_cons.mpr ⟨?_, (gsOk_cons.mp hs).2⟩, hm, Nat.le_refl _, hu1, hu2⟩
        split
        · exact gvOk_rf fun a ha => hm _ _ a ha
        · trivial
      · cases h
    · cases h
  · split at h
    · split at h
      · obtain ⟨M1, hp, h2⟩ := Option.map_eq_some_iff.mp h
        cases h2
        simp only [gsOk_cons] at hs
        unfold gPut at hp
        split at hp
        · cases hp; exact ⟨hs.2.2, gmOk_sI hm, Nat.le_refl _, hu1, hu2⟩
        · split at hp
          · cases hp; exact ⟨hs.2.2, gmOk_sI hm, Nat.le_refl _, hu1, hu2⟩
          · cases hp
        · split at hp
          · cases hp; exact ⟨hs.2.2, gmOk_sR hm (gU_ok hs.1), Nat.le_refl _, hu1, hu2⟩
          · cases hp
        · split at hp
          · cases hp; exact ⟨hs.2.2, gmOk_sR hm (gU_ok hs.1), Nat.le_refl _, hu1, hu2⟩
          · cases hp
        · cases hp
      · cases h
    · cases h
  · split at h
    · cases h; exact ⟨gsOk_cons.mpr ⟨trivial, (gsOk_cons.mp (gsOk_cons.mp hs).2).2⟩, hm, Nat.le_refl _, hu1, hu2⟩
    · cases h
  · split at h
    · cases h; exact ⟨gsOk_cons.mpr ⟨trivial, (gsOk_cons.mp (gsOk_cons.mp hs).2).2⟩, hm, Nat.le_refl _, hu1, hu2⟩
    · cases h
  · split at h
    · cases h; exact ⟨gsOk_cons.mpr ⟨gvOk_rf fun a ha => hm _ _ a ha, (gsOk_cons.mp (gsOk_cons.mp hs).2).2⟩, hm, Nat.le_refl _, hu1, hu2⟩
    · cases h
  · split at h
    · cases h; exact ⟨(gsOk_cons.mp (gsOk_cons.mp (gsOk_cons.mp hs).2).2).2, gmOk_sI hm, Nat.le_refl _, hu1, hu2⟩
    · cases h
  · split at h
    · split at h
      · cases h; exact ⟨(gsOk_cons.mp (gsOk_cons.mp (gsOk_cons.mp hs).2).2).2, gmOk_sI hm, Nat.le_refl _, hu1, hu2⟩
      · split at h
        · cases h; exact ⟨(gsOk_cons.mp (gsOk_cons.mp (gsOk_cons.mp hs).2).2).2, gmOk_sI hm, Nat.le_refl _, hu1, hu2⟩
        · cases h
    · cases h
  · split at h
    · cases h; exact ⟨(gsOk_cons.mp (gsOk_cons.mp (gsOk_cons.mp hs).2).2).2, gmOk_sR hm (fun b hb => by cases hb; exact (gsOk_cons.mp hs).1), Nat.le_refl _, hu1, hu2⟩
    · cases h
  · split at h
    · cases h; exact ⟨gsOk_cons.mpr ⟨trivial, (gsOk_cons.mp hs).2⟩, hm, Nat.le_refl _, hu1, hu2⟩
    · cases h
  · split at h
    · split at h
      · rename_i hc
        cases h
        exact ⟨gsOk_cons.mpr ⟨by rw [gNew_len]; exact Nat.lt_succ_self _, by rw [gNew_len]; exact gsOk_mono (Nat.le_succ _) hs⟩, gmOk_new hm, by rw [gNew_len]; exact Nat.le_succ _, hc.1, hc.2⟩
      · cases h
    · cases h
  · split at h
    · split at h
      · rename_i hc
        cases h
        exact ⟨gsOk_cons.mpr ⟨by rw [gNew_len]; exact Nat.lt_succ_self _, by rw [gNew_len]; exact gsOk_mono (Nat.le_succ _) (gsOk_cons.mp hs).2⟩, gmOk_new hm, by rw [gNew_len]; exact Nat.le_succ _, hc.2.2.1, hc.2.2.2⟩
      · cases h
    · cases h
  · split at h
    · split at h
      · rename_i hc
        cases h
        exact ⟨gsOk_cons.mpr ⟨by rw [gNew_len]; exact Nat.lt_succ_self _, by rw [gNew_len]; exact gsOk_mono (Nat.le_succ _) (gsOk_cons.mp hs).2⟩, gmOk_new hm, by rw [gNew_len]; exact Nat.le_succ _, hc.2.2.1, hc.2.2.2⟩
      · cases h
    · cases h
  · split at h
    · cases h; exact ⟨gsOk_cons.mpr ⟨trivial, hs⟩, hm, Nat.le_refl _, hu1, hu2⟩
    · cases h
  · cases h
/-- what a call leaves -/
def gRecOk (rec : Nat → List Value → gM → Option gRo) : Prop := ∀ k as M r M', rec k as M = some (r, M') → gsOk M.2.2.length as → gmOk M → gmOk M' ∧ M.2.2.length ≤ M'.2.2.length ∧ ∀ v, r = some v → gvOk M'.2.2.length v
theorem gCall_wf {rec : Nat → List Value → gM → Option gRo} (hrec : gRecOk rec) {j idx u1 u2 v1 v2 : Nat} {st st' : List Value} {M M' : gM} (h : gCall rec j idx st M u1 u2 = some (st', M', v1, v2)) (hs : gsOk M.2.2.length st) (hm : gmOk M) (hu1 : u1 ≤ gmc j) (hu2 : u2 ≤ gms j) :
    gsOk M'.2.2.length st' ∧ gmOk M' ∧ M.2.2.length ≤ M'.2.2.length ∧ v1 ≤ gmc j ∧ v2 ≤ gms j := by
  unfold gCall at h
  split at h
  · split at h
    · obtain ⟨q, h1, h2⟩ := Option.bind_eq_some_iff.mp h
      split at h2
      · cases h2
        unfold gPrim at h1
        split at h1
        · cases h1; exact ⟨(gsOk_cons.mp hs).2, hm, Nat.le_refl _, hu1, hu2⟩
        · cases h1; exact ⟨gsOk_cons.mpr ⟨trivial, (gsOk_cons.mp (gsOk_cons.mp hs).2).2⟩, hm, Nat.le_refl _, hu1, hu2⟩
        · cases h1; exact ⟨gsOk_cons.mpr ⟨trivial, (gsOk_cons.mp (gsOk_cons.mp hs).2).2⟩, hm, Nat.le_refl _, hu1, hu2⟩
        · split at h1
          · cases h1
            simp only [gsOk_cons] at hs
            exact ⟨hs.2.2.2.2.2, hm, Nat.le_refl _, hu1, hu2⟩
          · cases h1
        · cases h1
      · cases h2
    · split at h
      · rename_i hc
        obtain ⟨q, h1, h2⟩ := Option.map_eq_some_iff.mp h
        obtain ⟨r, M1⟩ := q
        cases h2
        obtain ⟨h3, h4, h5⟩ := hrec _ _ _ _ _ h1 (fun v hv => hs v (List.mem_of_mem_take (List.mem_reverse.mp hv))) hm
        refine ⟨fun v hv => ?_, h3, h4, hc.2.2.2.1, hc.2.2.2.2⟩
        rcases List.mem_append.mp hv with h6 | h6
        · exact h5 v (Option.mem_toList.mp h6)
        · exact gvOk_mono h4 (hs v (List.mem_of_mem_drop h6))
      · cases h
  · cases h
theorem gRet_wf {j : Nat} {i : Instr} {len : Nat} {st : List Value} {M M' : gM} {r : Option Value} (h : gRet j i len st M = some (r, M')) (hs : gsOk M.2.2.length st) : M' = M ∧ ∀ v, r = some v → gvOk M.2.2.length v := by
  unfold gRet at h
  split at h
  · split at h
    · cases h; exact ⟨rfl, fun v hv => by cases hv; trivial⟩
    · cases h
  · split at h
    · split at h
      · cases h; exact ⟨rfl, fun v hv => by cases hv; exact (gsOk_cons.mp hs).1⟩
      · cases h
    · split at h
      · cases h; exact ⟨rfl, fun v hv => by cases hv; exact (gsOk_cons.mp hs).1⟩
      · cases h
    · cases h
  · split at h
    · cases h; exact ⟨rfl, fun v hv => by cases hv⟩
    · cases h
  · cases h
def gcOk (j : Nat) (c : gC) : Prop := gsOk c.2.2.2.1.2.2.length c.2.2.1 ∧ glOk c.2.2.2.1.2.2.length c.2.1 ∧ gmOk c.2.2.2.1 ∧ c.2.2.2.2.1 ≤ gmc j ∧ c.2.2.2.2.2 ≤ gms j
theorem gStep_wf {rec : Nat → List Value → gM → Option gRo} (hrec : gRecOk rec) {j : Nat} {c : gC} {o : gC ⊕ gRo} (h : gStep rec j c = some o) (hc : gcOk j c) :
    (∀ c', o = .inl c' → gcOk j c' ∧ c.2.2.2.1.2.2.length ≤ c'.2.2.2.1.2.2.length) ∧ ∀ r M', o = .inr (r, M') → M' = c.2.2.2.1 ∧ ∀ v, r = some v → gvOk c.2.2.2.1.2.2.length v := by
  obtain ⟨h1, h2, h3, h4, h5⟩ := hc
  unfold gStep at h
  split at h
  · rename_i i len hd
    unfold gStepI at h
    split at h
    · rename_i st' ha
      cases h
      exact ⟨fun c' hc' => by cases hc'; exact ⟨⟨gArith_wf ha h1, h2, h3, h4, h5⟩, Nat.le_refl _⟩, fun r M' hr => by cases hr⟩
    · split at h
      · rename_i t st' ha
        cases h
        exact ⟨fun c' hc' => by cases hc'; exact ⟨⟨gBranch_wf ha h1, h2, h3, h4, h5⟩, Nat.le_refl _⟩, fun r M' hr => by cases hr⟩
      · split at h
        · rename_i ls' st' ha
          cases h
          obtain ⟨h6, h7⟩ := gLocal_wf ha h1 h2
          exact ⟨fun c' hc' => by cases hc'; exact ⟨⟨h6, h7, h3, h4, h5⟩, Nat.le_refl _⟩, fun r M' hr => by cases hr⟩
        · split at h
          · rename_i st' M1 v1 v2 ha
            cases h
            obtain ⟨h6, h7, h8, h9, h10⟩ := gHeap_wf ha h1 h3 h4 h5
            exact ⟨fun c' hc' => by cases hc'; exact ⟨⟨h6, glOk_mono h8 h2, h7, h9, h10⟩, h8⟩, fun r M' hr => by cases hr⟩
          · split at h
            · split at h
              · obtain ⟨⟨st', M1, v1, v2⟩, ha, h9⟩ := Option.map_eq_some_iff.mp h
                cases h9
                obtain ⟨h6, h7, h8, h9, h10⟩ := gCall_wf hrec ha h1 h3 h4 h5
                exact ⟨fun c' hc' => by cases hc'; exact ⟨⟨h6, glOk_mono h8 h2, h7, h9, h10⟩, h8⟩, fun r M' hr => by cases hr⟩
              · cases h
            · obtain ⟨⟨r, M1⟩, ha, h9⟩ := Option.map_eq_some_iff.mp h
              cases h9
              exact ⟨fun c' hc' => (by cases hc'), fun r' M' hr => (by cases hr; exact gRet_wf ha h1)⟩
  · cases h
theorem gLoop_wf {rec : Nat → List Value → gM → Option gRo} (hrec : gRecOk rec) {j : Nat} : ∀ (n : Nat) (c : gC) (r : Option Value) (M' : gM), gLoop rec j n c = some (r, M') → gcOk j c → gmOk M' ∧ c.2.2.2.1.2.2.length ≤ M'.2.2.length ∧ ∀ v, r = some v → gvOk M'.2.2.length v
  | 0, c, r, M', h, _ => by cases h
  | n + 1, c, r, M', h, hc => by
    unfold gLoop at h
    split at h
    · rename_i c' hs
      obtain ⟨h1, -⟩ := gStep_wf hrec hs hc
      obtain ⟨h2, h3⟩ := h1 c' rfl
      obtain ⟨h4, h5, h6⟩ := gLoop_wf hrec n c' r M' h h2
      exact ⟨h4, Nat.le_trans h3 h5, h6⟩
    · rename_i o hs
      cases h
      obtain ⟨-, h1⟩ := gStep_wf hrec hs hc
      obtain ⟨rfl, h3⟩ := h1 r M' rfl
      exact ⟨hc.2.2.1, Nat.le_refl _, h3⟩
    · cases h
theorem gEntry_ok {j : Nat} {as : List Value} {M : gM} (hs : gsOk M.2.2.length as) (hm : gmOk M) : gcOk j (gEntry j as M) := by
  refine ⟨fun v hv => (List.not_mem_nil hv).elim, fun v hv => ?_, hm, Nat.zero_le _, Nat.zero_le _⟩
  rcases List.mem_append.mp hv with h | h
  · obtain ⟨w, h1, h2⟩ := List.mem_map.mp h
    cases h2
    exact hs _ h1
  · have := (List.mem_replicate.mp h).2
    cases this
theorem gExec_wf (n : Nat) : ∀ d, gRecOk (gExec n d)
  | 0 => fun k as M r M' h _ _ => by cases h
  | d + 1 => fun k as M r M' h hs hm => by
    unfold gExec at h
    split at h
    · exact gLoop_wf (gExec_wf n d) n _ r M' h (gEntry_ok hs hm)
    · cases h
