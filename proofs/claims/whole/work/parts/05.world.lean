/-! The abstract cells as a world of the kit. -/
def gE (ad : Nat → Nat) (ca : Nat → ClassId) (M : gM) (q : Nat) : va_E := match M.2.2[q]? with
  | some (.inr (t, n)) => .inl (ca q, n, if t < 3 then .inl (M.1 q) else .inr (.inr (.inr (.inr (fun i => (M.2.1 q i).map ad)))))
  | some (.inl ci) => .inr (ci, (List.range (gN ci)).map (fun k => if gisR ci k then va_rf ((M.2.1 q k).map ad) else .int (M.1 q k)))
  | none => .inr (0, [])
def gW (ad : Nat → Nat) (ca : Nat → ClassId) (M : gM) : va_W := (List.range M.2.2.length).map (fun q => (ad q, gE ad ca M q))
def gFs (ad : Nat → Nat) (M : gM) (q ci : Nat) : List Value := (List.range (gN ci)).map (fun k => if gisR ci k then va_rf ((M.2.1 q k).map ad) else .int (M.1 q k))
def gvOk (n : Nat) (v : Value) : Prop := match v with
  | .ref a => a < n
  | .int _ => True
  | .null => True
  | _ => False
def gmOk (M : gM) : Prop := ∀ q k a, M.2.1 q k = some a → a < M.2.2.length
theorem gvOk_cat {n : Nat} {v : Value} (h : gvOk n v) : v.category = 1 := by cases v <;> first | rfl | cases h
theorem gvOk_mono {n n' : Nat} (hn : n ≤ n') {v : Value} (h : gvOk n v) : gvOk n' v := by
  cases v <;> first | exact h | exact Nat.lt_of_lt_of_le h hn
theorem gc_congr {n : Nat} {ad ad' : Nat → Nat} (had : ∀ q, q < n → ad' q = ad q) {v : Value} (h : gvOk n v) : gc ad' v = gc ad v := by
  cases v <;> first | rfl | (show Value.ref _ = Value.ref _; rw [had _ h])
theorem gc_map {n : Nat} {ad ad' : Nat → Nat} (had : ∀ q, q < n → ad' q = ad q) {st : List Value} (h : ∀ v ∈ st, gvOk n v) : st.map (gc ad') = st.map (gc ad) :=
  List.map_congr_left (fun v hv => gc_congr had (h v hv))
theorem fm_congr {α β : Type} {f g : α → Option β} : ∀ {l : List α}, (∀ a ∈ l, f a = g a) → l.filterMap f = l.filterMap g
  | [], _ => rfl
  | a :: l, h => by
    rw [List.filterMap_cons, List.filterMap_cons, h a List.mem_cons_self, fm_congr (fun b hb => h b (List.mem_cons_of_mem _ hb))]
theorem gLs_congr {n : Nat} {ad ad' : Nat → Nat} (had : ∀ q, q < n → ad' q = ad q) {ls : List (Option Value)} (h : ∀ v, some v ∈ ls → gvOk n v) : gLs ad' ls = gLs ad ls := by
  unfold gLs
  refine fm_congr fun i _ => ?_
  cases hi : ls[i]? with
  | none => rfl
  | some o =>
    cases o with
    | none => rfl
    | some v => simp only [gc_congr had (h v (List.mem_of_getElem? hi))]
theorem gW_at {ad : Nat → Nat} {ca : Nat → ClassId} {M : gM} {q : Nat} (h : q < M.2.2.length) : (gW ad ca M)[q]? = some (ad q, gE ad ca M q) := by
  unfold gW
  rw [List.getElem?_map, List.getElem?_range h]
  rfl
theorem gW_none {ad : Nat → Nat} {ca : Nat → ClassId} {M : gM} {q : Nat} (h : ¬ q < M.2.2.length) : (gW ad ca M)[q]? = none := by
  unfold gW
  rw [List.getElem?_map, List.getElem?_eq_none (by rw [List.length_range]; omega)]
  rfl
theorem gW_len {ad : Nat → Nat} {ca : Nat → ClassId} {M : gM} : (gW ad ca M).length = M.2.2.length := by simp [gW]
theorem gE_obj {ad : Nat → Nat} {ca : Nat → ClassId} {M : gM} {q ci : Nat} (h : M.2.2[q]? = some (.inl ci)) : gE ad ca M q = .inr (ci, gFs ad M q ci) := by
  unfold gE
  rw [h]
  rfl
theorem gE_arr {ad : Nat → Nat} {ca : Nat → ClassId} {M : gM} {q t n : Nat} (h : M.2.2[q]? = some (.inr (t, n))) (ht : t < 3) : gE ad ca M q = .inl (ca q, n, .inl (M.1 q)) := by
  unfold gE
  rw [h]
  simp only [ht, if_true]
theorem gE_arrR {ad : Nat → Nat} {ca : Nat → ClassId} {M : gM} {q t n : Nat} (h : M.2.2[q]? = some (.inr (t, n))) (ht : ¬ t < 3) : gE ad ca M q = .inl (ca q, n, .inr (.inr (.inr (.inr (fun i => (M.2.1 q i).map ad))))) := by
  unfold gE
  rw [h]
  simp only [ht, if_false]
theorem gE_congr {ad : Nat → Nat} {ca : Nat → ClassId} {M M' : gM} {q : Nat} (hs : M'.2.2 = M.2.2) (h1 : M'.1 q = M.1 q) (h2 : M'.2.1 q = M.2.1 q) : gE ad ca M' q = gE ad ca M q := by
  unfold gE
  rw [hs, h1, h2]
theorem gW_set {ad : Nat → Nat} {ca : Nat → ClassId} {M M' : gM} {q : Nat} {e : va_E} (hq : q < M.2.2.length) (hs : M'.2.2 = M.2.2) (he : gE ad ca M' q = e) (ho : ∀ q', q' ≠ q → M'.1 q' = M.1 q' ∧ M'.2.1 q' = M.2.1 q') :
    (gW ad ca M).set q (ad q, e) = gW ad ca M' := by
  subst he
  apply List.ext_getElem?
  intro k
  by_cases hk : k = q
  · subst hk
    rw [List.getElem?_set_self (by rw [gW_len]; exact hq), gW_at (by rw [hs]; exact hq)]
  · rw [List.getElem?_set_ne (Ne.symm hk)]
    by_cases hl : k < M.2.2.length
    · rw [gW_at hl, gW_at (by rw [hs]; exact hl), gE_congr hs (ho k hk).1 (ho k hk).2]
    · rw [gW_none hl, gW_none (by rw [hs]; exact hl)]
theorem map_ad {n : Nat} {ad ad' : Nat → Nat} (had : ∀ q, q < n → ad' q = ad q) {r : Option Nat} (h : ∀ a, r = some a → a < n) : r.map ad' = r.map ad := by
  cases r with
  | none => rfl
  | some a => show some (ad' a) = some (ad a); rw [had a (h a rfl)]
theorem gW_push {ad : Nat → Nat} {ca : Nat → ClassId} {M : gM} (hok : gmOk M) {c : Nat ⊕ (Nat × Nat)} {a : Nat} {cA : ClassId} {e : va_E} (he : gE (va_up ad M.2.2.length a) (va_up ca M.2.2.length cA) (gNew M c) M.2.2.length = e) :
    gW ad ca M ++ [(a, e)] = gW (va_up ad M.2.2.length a) (va_up ca M.2.2.length cA) (gNew M c) := by
  subst he
  have hlen : (gNew M c).2.2.length = M.2.2.length + 1 := by simp [gNew]
  apply List.ext_getElem?
  intro k
  by_cases hl : k < M.2.2.length
  · rw [List.getElem?_append_left (by rw [gW_len]; exact hl), gW_at hl, gW_at (by rw [hlen]; omega)]
    have hne : k ≠ M.2.2.length := by omega
    have h1 : (gNew M c).2.2[k]? = M.2.2[k]? := by simp only [gNew]; rw [List.getElem?_append_left hl]
    have h2 : (gNew M c).1 k = M.1 k := by simp only [gNew, hne, if_false]
    have h3 : (gNew M c).2.1 k = M.2.1 k := by simp only [gNew, hne, if_false]
    have had : ∀ q, q < M.2.2.length → va_up ad M.2.2.length a q = ad q := fun q hq => va_up_ne _ _ (by omega)
    rw [va_up_ne _ _ hne]
    congr 2
    unfold gE
    rw [h1, h2, h3, va_up_ne _ _ hne]
    cases hk : M.2.2[k]? with
    | none => rfl
    | some x =>
      cases x with
      | inl ci =>
        dsimp only
        congr 2
        refine List.map_congr_left fun i _ => ?_
        rw [map_ad had (fun b hb => hok k i b hb)]
      | inr tn =>
        obtain ⟨t, n⟩ := tn
        dsimp only
        have h4 : (fun i => Option.map (va_up ad M.2.2.length a) (M.2.1 k i)) = fun i => Option.map ad (M.2.1 k i) := funext fun i => map_ad had (fun b hb => hok k i b hb)
        rw [h4]
  · by_cases he : k = M.2.2.length
    · subst he
      rw [List.getElem?_append_right (by rw [gW_len]; exact Nat.le_refl _), gW_len, Nat.sub_self, gW_at (by rw [hlen]; omega), va_up_self]
      rfl
    · rw [List.getElem?_append_right (by rw [gW_len]; omega), gW_len, gW_none (by rw [hlen]; omega)]
      exact List.getElem?_eq_none (by simp; omega)
theorem map_set {N k : Nat} {f f' : Nat → Value} {v : Value} (h : ∀ i, f' i = if i = k then v else f i) : (List.range N).map f' = ((List.range N).map f).set k v := by
  apply List.ext_getElem?
  intro i
  rw [List.getElem?_set, List.getElem?_map, List.getElem?_map, List.length_map, List.length_range]
  by_cases hi : i < N
  · rw [List.getElem?_range hi]
    by_cases hk : k = i
    · subst hk
      simp [hi, h]
    · rw [if_neg hk]
      simp [h, Ne.symm hk]
  · rw [List.getElem?_eq_none (by rw [List.length_range]; omega)]
    by_cases hk : k = i
    · subst hk
      simp [hi]
    · rw [if_neg hk]
      rfl
/-- which array classes the world's arrays are of -/
def gTt (ca : Nat → ClassId) (tys : List (ClassId × FieldType)) (M : gM) : Prop := ∀ (q t n : Nat), M.2.2[q]? = some (.inr (t, n)) → t < 5 ∧ ∃ k : Nat, tys[k]? = some (ca q, gtyA t)
def gNest (U : State) : Prop := ∀ e ∈ gNL, va_Nw (gNw e) U
def gKK (D : va_G) (tys : List (ClassId × FieldType)) (U : State) : Prop := va_K D vwCl tys U ∧ va_AO RX0 U ∧ va_AO RX7 U ∧ gNest U
def gRel (D : va_G) (A : Nat → Prop) (H0 : Heap) (s : State) (ad : Nat → Nat) (ca : Nat → ClassId) (tys : List (ClassId × FieldType)) (M : gM) (H : Heap) (locs : List Loc) : Prop :=
  va_K D vwCl tys s ∧ va_P D vwCl (gW ad ca M) H ∧ va_D A (gW ad ca M) ∧ va_S A H0 H locs ∧ gTt ca tys M
theorem gTt_same {ca : Nat → ClassId} {tys : List (ClassId × FieldType)} {M M' : gM} (hs : M'.2.2 = M.2.2) (h : gTt ca tys M) : gTt ca tys M' := by
  intro q t n hq
  rw [hs] at hq
  exact h q t n hq
theorem gTy_ok {M : gM} {o t : Nat} (h : gTy M o = some t) : M.2.2[o]? = some (.inr (t, gLen M o)) ∧ o < M.2.2.length := by
  unfold gTy at h
  split at h
  · rename_i t1 n1 h1
    cases h
    refine ⟨?_, (List.getElem?_eq_some_iff.mp h1).1⟩
    unfold gLen
    rw [h1]
  · cases h
theorem gty_kinds {ci k : Nat} (hc : ci < 10) (hk : k < gN ci) : gty ci k = .int ∨ gty ci k = .boolean ∨ (∃ n, gty ci k = .object n) ∨ ∃ t, gty ci k = .array t := by
  have h : ∀ ci, ci < 10 → ∀ k, k < gN ci → (match gty ci k with | .int => true | .boolean => true | .object _ => true | .array _ => true | _ => false) = true := by decide +kernel
  have h1 := h ci hc k hk
  cases hg : gty ci k <;> rw [hg] at h1 <;> first | (exact Or.inl rfl) | (exact Or.inr (Or.inl rfl)) | (exact Or.inr (Or.inr (Or.inl ⟨_, rfl⟩))) | (exact Or.inr (Or.inr (Or.inr ⟨_, rfl⟩))) | cases h1
