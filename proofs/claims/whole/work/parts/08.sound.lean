/-! What the abstract machine answers, the machine answers. -/
def gRoom (d j : Nat) : Room := { frames := d, cells := gmc j, slots := gms j, locals := 40 * d }
def gPc (D : va_G) (ad : Nat → Nat) (ca : Nat → ClassId) (tys : List (ClassId × FieldType)) (M : gM) (as : List Value) (sz : Nat) : Array Value → State → Prop :=
  va_Pc (as.map (gc ad)) (fun U => U.heap.size = sz ∧ va_P D vwCl (gW ad ca M) U.heap ∧ gKK D tys U ∧ va_D (fun _ => True) (gW ad ca M))
def gQc (D : va_G) (A : Nat → Prop) (ad0 : Nat → Nat) (n0 : Nat) (r : Option Value) (M' : gM) : Array Value → State → Outcome → State → Prop := fun _ st oc t =>
  (∃ (ad' : Nat → Nat) (ca' : Nat → ClassId) (tys' : List (ClassId × FieldType)), oc = .returned (r.map (gc ad')) ∧ (∀ q, q < n0 → ad' q = ad0 q) ∧ va_P D vwCl (gW ad' ca' M') t.heap ∧ va_K D vwCl tys' t ∧ va_D A (gW ad' ca' M') ∧ gTt ca' tys' M') ∧ va_F A st t
def gSound (l : Launch) (d : Nat) (rec : Nat → List Value → gM → Option gRo) : Prop := ∀ (k : Nat) (as : List Value) (M : gM) (r : Option Value) (M' : gM), rec k as M = some (r, M') → k < gNM → gsOk M.2.2.length as → gmOk M →
  ∀ (D : va_G) (ad : Nat → Nat) (ca : Nat → ClassId) (tys : List (ClassId × FieldType)) (sz : Nat), gTt ca tys M →
    Met l (gy k) (gMw1 k :: gWl) (gRoom d k) (gPc D ad ca tys M as sz) (gQc D (va_A (gW ad ca M) sz) ad M.2.2.length r M') (gmc k) (gms k) (va_A (gW ad ca M) sz)
theorem gNest_moved {s U : State} (hW : s.WarmedH U.vm) (h : gNest s) : gNest U := fun e he => va_Nw.warmM hW (h e he)
theorem gKK_moved {D : va_G} {tys : List (ClassId × FieldType)} {s U : State} (hW : s.WarmedH U.vm) (h : gKK D tys s) : gKK D tys U :=
  ⟨va_K.moved hW.alike h.1, va_AO.moved hW.alike h.2.1, va_AO.moved hW.alike h.2.2.1, gNest_moved hW h.2.2.2⟩
theorem gKK_calling {D : va_G} {tys : List (ClassId × FieldType)} {U : State} (g : JFrame) (mk : MethodId) (a : Array Value) (h : gKK D tys U) : gKK D tys (U.calling g mk a) :=
  ⟨va_K.moved (u := U) (U := U.calling g mk a) (Vm.Alike.refl U.vm) h.1, va_AO.moved (u := U) (U := U.calling g mk a) (Vm.Alike.refl U.vm) h.2.1, va_AO.moved (u := U) (U := U.calling g mk a) (Vm.Alike.refl U.vm) h.2.2.1, fun e he => va_Nw.same rfl rfl (h.2.2.2 e he)⟩
theorem gPc_blind {D : va_G} {ad : Nat → Nat} {ca : Nat → ClassId} {tys : List (ClassId × FieldType)} {M : gM} {as : List Value} {sz : Nat} : FrameBlind (gPc D ad ca tys M as sz) :=
  fun a U g mk q => by
    obtain ⟨h1, h2, h3, h4, h5⟩ := q
    exact ⟨h1, h2, h3, gKK_calling g mk a h4, h5⟩
theorem gGoodIn (k : Nat) (hk : k < gNM) : GoodIn gWl (gMw1 k :: gWl) := fun w h => by
  rcases List.mem_cons.mp h with rfl | h
  · exact ⟨gWl_1 hk, gWl_good _ (gWl_1 hk)⟩
  · exact ⟨h, gWl_good _ h⟩
section GSOUND
variable {p : Program} {l : Launch} {e : Env} {R : Room} {s : State} {m : MethodId} {args : Array Value} {below : List Frame} {meth : Method} {c : Code} {H : Heap} {locs : List Loc} {Q : State → Prop}
variable {cc : ByteArray} {pc len : Nat} {Ls : Array Slot} {i : Instr} {j u1 u2 : Nat} {D : va_G} {A : Nat → Prop} {H0 : Heap} {ad : Nat → Nat} {ca : Nat → ClassId} {tys : List (ClassId × FieldType)} {M : gM}
/-- behind a call -/
theorem g_back {rest st0 : List Value} {A1 A0 : Nat → Prop} {ad0 : Nat → Nat} {n0 mc ms : Nat} {r : Option Value} {M' : gM} {a : Array Value} {free : Addr → Prop} (hr : va_Run p l e R s m args below meth c H locs u1 u2 mc ms (F0 m pc Ls st0) rest (gQc D A1 ad0 n0 r M' a) free) (hS : va_S A0 H0 H locs) (hA : ∀ q, q < H.size → A1 q → A0 q) (hf : ∀ q, free q → A0 q)
    (kk : ∀ (ad' : Nat → Nat) (ca' : Nat → ClassId) (tys' : List (ClassId × FieldType)) (H1 : Heap) (locs1 : List Loc), (∀ q, q < n0 → ad' q = ad0 q) → va_P D vwCl (gW ad' ca' M') H1 → va_K D vwCl tys' s → va_D A1 (gW ad' ca' M') → gTt ca' tys' M' → va_S A0 H0 H1 locs1 →
      W p l e R s m args below meth c H1 locs1 (u1 + mc) (u2 + ms) Q (F0 m (pc + 3) Ls ((r.map (gc ad')).toList ++ rest))) : W p l e R s m args below meth c H locs u1 u2 Q (F0 m pc Ls st0) := by
  intro T hT X
  obtain ⟨v, st₀, t, T', L, h0, X', hL, e1, e2, ⟨⟨ad', ca', tys', hv, had, hP, hK, hD, hT'⟩, hz, hk⟩, st⟩ := hr T hT X
  cases hv
  rw [h0] at hz hk
  have hal : s.vm.Alike t.vm := by rw [← e2]; exact X'.warmed.alike
  obtain ⟨t2, a1, b1⟩ := kk ad' ca' tys' T'.heap (locs ++ L) had (by rw [e1]; exact hP) (va_K.moved hal.symm hK) hD hT'
    ⟨Nat.le_trans hS.1 (by rw [e1]; exact hz), fun q h1 h2 => by rw [e1, hk q (Nat.lt_of_lt_of_le h1 hS.1) (fun z => h2 (hA q (Nat.lt_of_lt_of_le h1 hS.1) z))]; exact hS.2.1 q h1 h2, fun q hq => by
      rcases List.mem_append.mp hq with h | h
      · exact hS.2.2 q h
      · exact hf _ (hL q h)⟩ T' rfl X'
  exact ⟨t2, st t2 a1, b1⟩
theorem g_cats {n : Nat} {st : List Value} (h : gsOk n st) (hl : st.length ≤ 8) : ((st.map (gc ad)).map fun v => v.category).sum ≤ 8 := by
  have h1 : ∀ st : List Value, gsOk n st → ((st.map (gc ad)).map fun v => v.category).sum = st.length := by
    intro st
    induction st with
    | nil => intro _; rfl
    | cons v st ih =>
      intro hs
      have h2 := gsOk_cons.mp hs
      rw [List.map_cons, List.map_cons, List.sum_cons, ih h2.2, gc_cat, gvOk_cat h2.1, List.length_cons]
      omega
  rw [h1 st h]
  exact hl
/-- what every walk of a frame of method j stands on -/
def gFix (p : Program) (s : State) (m : MethodId) (args : Array Value) (meth : Method) (c : Code) (j : Nat) : Prop :=
  p.tables.exec = Jvm.exec ∧ c.code = gby j ∧ (∀ w ∈ gWl, w.before args s = true) ∧ s.vm.findClass (gRn (gow j)) = some m.cls ∧ meth.name = (gy j).name ∧ va_AO RX0 s ∧ va_AO RX7 s ∧ gNest s ∧ c.maxLocals = gml j ∧ meth.sig.returnType = gre j ∧ meth.locks = false ∧ j < gNM
theorem gCallB {d : Nat} {k idx n : Nat} {own : String} (hts : ∀ w ∈ gWl, w.before args s = true) (hk : k < gNM) (hR3 : R.frames = d + 1) (hR4 : R.locals = 40 * (d + 1)) (hl : (Cond.methodLink own idx (gy k)).before args s = true) (hn : n = gna k) :
    CallB R s args own idx (gy k) (gby k) (gml k) (gre k) (gMw1 k :: gWl) (gRoom d k) (gmc k) (gms k) n := by
  obtain ⟨-, h2, -, h4, h5, h6⟩ := gM_ok hk
  subst hn
  refine callB_of (ws' := gWl) (gna k) hts (gGoodIn k hk) rfl rfl rfl ?_ hl h4 ⟨?_, ?_⟩
  · rw [h2]; exact hts _ (gWl_J h6)
  · show d + 1 ≤ R.frames; omega
  · show 8 + (gml k + 11) + 40 * d ≤ R.locals; omega
theorem gCallN {d : Nat} {k idx n : Nat} {own : String} (hts : ∀ w ∈ gWl, w.before args s = true) (hk : k < gNM) (hR3 : R.frames = d + 1) (hR4 : R.locals = 40 * (d + 1)) (hl : va_Nw (.methodLinkNest own idx (gy k) "ClothSchool") s) (hn : n = gna k) :
    va_CN R s args own idx (gy k) "ClothSchool" (gby k) (gml k) (gre k) (gMw1 k :: gWl) (gRoom d k) (gmc k) (gms k) n := by
  obtain ⟨-, h2, -, h4, h5, h6⟩ := gM_ok hk
  subst hn
  refine va_cnB (ws' := gWl) (gna k) hts (gGoodIn k hk) rfl rfl rfl hl ?_ h4 ⟨?_, ?_⟩
  · rw [h2]; exact hts _ (gWl_J h6)
  · show d + 1 ≤ R.frames; omega
  · show 8 + (gml k + 11) + 40 * d ≤ R.locals; omega
theorem g_free (hD : va_D A (gW ad ca M)) (hS : va_S A H0 H locs) (hA : ∀ q, H0.size ≤ q → A q) : ∀ q, va_A (gW ad ca M) H.size q → A q := by
  intro q h
  rcases h with ⟨k, e, h⟩ | h
  · exact hD.2 k (q, e) h
  · exact hA q (Nat.le_trans hS.1 h)
theorem gKind_inv {idx : Nat} (h : gKind i len = some idx) : (i = .invokevirtual idx ∨ i = .invokestatic idx ∨ i = .invokespecial idx) ∧ len = 3 := by
  unfold gKind at h
  split at h
  · cases h; exact ⟨Or.inl rfl, rfl⟩
  · cases h; exact ⟨Or.inr (Or.inl rfl), rfl⟩
  · cases h; exact ⟨Or.inr (Or.inr rfl), rfl⟩
  · cases h
theorem gKind_V {idx kind : Nat} (h : gKind i len = some idx) (hk : gKindOk i kind = true) (h0 : kind = 0) : i = .invokevirtual idx ∧ len = 3 := by
  subst h0
  obtain ⟨h1 | h1 | h1, h2⟩ := gKind_inv h <;> subst h1
  · exact ⟨rfl, h2⟩
  · simp [gKindOk] at hk
  · simp [gKindOk] at hk
theorem gKind_S {idx kind : Nat} (h : gKind i len = some idx) (hk : gKindOk i kind = true) (h0 : kind = 1 ∨ kind = 4 ∨ kind = 5 ∨ kind = 6 ∨ kind = 7) : i = .invokestatic idx ∧ len = 3 := by
  obtain ⟨h1 | h1 | h1, h2⟩ := gKind_inv h <;> subst h1
  · rcases h0 with rfl | rfl | rfl | rfl | rfl <;> simp [gKindOk] at hk
  · exact ⟨rfl, h2⟩
  · rcases h0 with rfl | rfl | rfl | rfl | rfl <;> simp [gKindOk] at hk
theorem gKind_I {idx kind : Nat} (h : gKind i len = some idx) (hk : gKindOk i kind = true) (h0 : kind = 2 ∨ kind = 3 ∨ kind = 8) : i = .invokespecial idx ∧ len = 3 := by
  obtain ⟨h1 | h1 | h1, h2⟩ := gKind_inv h <;> subst h1
  · rcases h0 with rfl | rfl | rfl <;> simp [gKindOk] at hk
  · rcases h0 with rfl | rfl | rfl <;> simp [gKindOk] at hk
  · exact ⟨rfl, h2⟩
theorem gRecv_0 {k : Nat} {as : List Value} (h : gRecv 0 k as M = true) : ∃ o as', as = .ref o :: as' ∧ M.2.2[o]? = some (.inl (gow k)) := by
  cases as with
  | nil => cases h
  | cons v as' =>
    cases v <;> first
      | exact ⟨_, as', rfl, of_decide_eq_true h⟩
      | cases h
theorem gRecv_2 {kind k : Nat} (hk : kind = 2 ∨ kind = 8) {as : List Value} (h : gRecv kind k as M = true) : ∃ o as', as = .ref o :: as' := by
  rcases hk with rfl | rfl
  · cases as with
    | nil => cases h
    | cons v as' => cases v <;> first | exact ⟨_, as', rfl⟩ | cases h
  · cases as with
    | nil => cases h
    | cons v as' => cases v <;> first | exact ⟨_, as', rfl⟩ | cases h
theorem gCTc_0 {own idx k : Nat} (h : gCTc (own, idx, 0, k) = true) : k < gNM ∧ gst k = false ∧ (gy k).name ≠ "<init>" ∧ gow k < 10 := by
  have h1 : (decide (k < gNM) && !gst k && decide ((gy k).name ≠ "<init>") && decide (gow k < 10)) = true := h
  simp only [Bool.and_eq_true, decide_eq_true_eq, Bool.not_eq_true'] at h1
  exact ⟨h1.1.1.1, h1.1.1.2, h1.1.2, h1.2⟩
theorem gCTc_1 {own idx k : Nat} (h : gCTc (own, idx, 1, k) = true) : k < gNM ∧ gst k = true := by
  have h1 : (decide (k < gNM) && gst k) = true := h
  simp only [Bool.and_eq_true, decide_eq_true_eq] at h1
  exact h1
theorem gCTc_2 {own idx k : Nat} (h : gCTc (own, idx, 2, k) = true) : k < gNM ∧ gst k = false ∧ (gy k).name = "<init>" ∧ gre k = none := by
  have h1 : (decide (k < gNM) && !gst k && decide ((gy k).name = "<init>") && decide (gre k = none)) = true := h
  simp only [Bool.and_eq_true, decide_eq_true_eq, Bool.not_eq_true'] at h1
  exact ⟨h1.1.1.1, h1.1.1.2, h1.1.2, h1.2⟩
theorem gCTc_k {own idx kind k : Nat} (h : gCTc (own, idx, kind, k) = true) : kind ≤ 6 := by
  rcases Nat.lt_or_ge 6 kind with q | q
  · obtain ⟨n, rfl⟩ : ∃ n, kind = n + 7 := ⟨kind - 7, by omega⟩
    cases h
  · exact q
theorem gNLc_7 {own idx k : Nat} (h : gNLc (own, idx, 7, k) = true) : k < gNM ∧ gst k = true := by
  have h1 : (decide (k < gNM) && gst k) = true := h
  simp only [Bool.and_eq_true, decide_eq_true_eq] at h1
  exact h1
theorem gNLc_8 {own idx k : Nat} (h : gNLc (own, idx, 8, k) = true) : k < gNM ∧ gst k = false ∧ (gy k).name = "<init>" ∧ gre k = none := by
  have h1 : (decide (k < gNM) && !gst k && decide ((gy k).name = "<init>") && decide (gre k = none)) = true := h
  simp only [Bool.and_eq_true, decide_eq_true_eq, Bool.not_eq_true'] at h1
  exact ⟨h1.1.1.1, h1.1.1.2, h1.1.2, h1.2⟩
theorem gNLc_k {own idx kind k : Nat} (h : gNLc (own, idx, kind, k) = true) : kind = 7 ∨ kind = 8 := by
  unfold gNLc at h
  split at h
  · rename_i h1; exact Or.inl h1
  · rename_i h1; exact Or.inr h1
  · cases h
theorem gPrim_ok {d : Nat} {idx kind : Nat} {st st' : List Value} {M' : gM} (hF : gFix p s m args meth c j) (hR1 : R.cells = gmc j) (hR2 : R.slots = gms j) (hR3 : R.frames = d + 1) (hR4 : R.locals = 40 * (d + 1)) (hdg : decode (gby j) pc = .ok (i, len)) (hki : gKind i len = some idx) (hkd : gKindOk i kind = true)
    (hlk : (Cond.methodLink (gRn (gow j)) idx (gCy kind 0)).before args s = true)
    (h1 : gPrim kind st M = some (st', M')) (hlen : st'.length ≤ 8) (hrel : gRel D A H0 s ad ca tys M H locs) (hst : gsOk M.2.2.length st) (hu1 : u1 ≤ gmc j) (hu2 : u2 ≤ gms j) (hLs : Ls.size = gml j)
    (kk : ∀ ad' ca' tys' H1 locs1, (∀ q, q < M.2.2.length → ad' q = ad q) → gRel D A H0 s ad' ca' tys' M' H1 locs1 → W p l e R s m args below meth c H1 locs1 u1 u2 Q (F0 m (pc + 3) Ls (st'.map (gc ad')))) :
    W p l e R s m args below meth c H locs u1 u2 Q (F0 m pc Ls (st.map (gc ad))) := by
  obtain ⟨hx, hb, hts, hown, hnm, hA0, hA7, hnest, hml, hr, hlocks, hj⟩ := hF
  have hrel0 := hrel
  obtain ⟨hK, hP, hD, hS, hT⟩ := hrel
  unfold gPrim at h1
  split at h1
  · cases h1
    obtain ⟨rfl, rfl⟩ := gKind_I hki hkd (Or.inr (Or.inl rfl))
    have h9 := g_cats (ad := ad) (gsOk_cons.mp hst).2 hlen
    exact W.objInit hx hb hown hlk (hts _ gP_oinst) (hts _ gP_ocode) rfl (by rw [hml]; exact hLs) rfl hdg (by omega) (by
      show 2 * 0 + _ + 12 ≤ R.locals
      omega) (kk ad ca tys H locs (fun _ _ => rfl) hrel0)
  · cases h1
    obtain ⟨rfl, rfl⟩ := gKind_S hki hkd (Or.inr (Or.inl rfl))
    have h9 := g_cats (ad := ad) (gsOk_cons.mp (gsOk_cons.mp hst).2).2 (Nat.le_trans (Nat.le_succ _) hlen)
    exact va_mmax hx hb (by rw [hml]; exact hLs.symm) hown hlk (hts _ gP_maxs) (hts _ gP_mini) (hts _ gP_maxc) (by omega) (by omega) (by omega) (by omega) hdg (kk ad ca tys H locs (fun _ _ => rfl) hrel0)
  · cases h1
    obtain ⟨rfl, rfl⟩ := gKind_S hki hkd (Or.inr (Or.inr (Or.inl rfl)))
    have h9 := g_cats (ad := ad) (gsOk_cons.mp (gsOk_cons.mp hst).2).2 (Nat.le_trans (Nat.le_succ _) hlen)
    exact va_mmin hx hb (by rw [hml]; exact hLs.symm) hown hlk (hts _ gP_mins) (hts _ gP_mini) (hts _ gP_minc) (by omega) (by omega) (by omega) (by omega) hdg (kk ad ca tys H locs (fun _ _ => rfl) hrel0)
  · rename_i n dp o2 sp o1 st0
    split at h1
    · rename_i hc
      cases h1
      obtain ⟨rfl, rfl⟩ := gKind_S hki hkd (Or.inr (Or.inr (Or.inr (Or.inl rfl))))
      obtain ⟨hc1, hc2, hne, hn1, hn2, hn3, hn4, hn5⟩ := hc
      obtain ⟨hM1, hlt1⟩ := gTy_ok hc1
      obtain ⟨hM2, hlt2⟩ := gTy_ok hc2
      obtain ⟨-, t1, ht1⟩ := hT _ _ _ hM1
      obtain ⟨-, t2, ht2⟩ := hT _ _ _ hM2
      simp only [gsOk_cons] at hst
      have h9 := g_cats (ad := ad) hst.2.2.2.2.2 hlen
      have hset : (gW ad ca M).set o2 (ad o2, .inl (ca o2, gLen M o2, .inl (va_cpy (M.1 o1) (M.1 o2) sp.toNatClampNeg dp.toNatClampNeg n.toNatClampNeg))) = gW ad ca (gCp M o1 sp.toNatClampNeg o2 dp.toNatClampNeg n.toNatClampNeg) :=
        gW_set hlt2 rfl (by
          rw [gE_arr (M := gCp M o1 _ o2 _ _) hM2 (by decide)]
          congr 4
          funext b
          simp [gCp]) (fun q' hq' => ⟨funext fun b => by simp [gCp, hq'], rfl⟩)
      exact va_copyi (D := D) hx hb (by rw [hml]; exact hLs.symm) hown hlk (hts _ gP_acn) (hts _ gP_acs) (hts _ gP_aci) hK hP hD hS o1 o2 t1 t2 (by rw [gW_at hlt1, gE_arr hM1 (by decide)]) (by rw [gW_at hlt2, gE_arr hM2 (by decide)]) ht1 ht2 rfl hn1 hn2 hn3 hn4 hn5 (fun _ _ => rfl) (by omega) (by
        have h8 : nativeFrameWords "java/lang/System" "arraycopy" 5 = 7 := by decide
        omega) hdg (fun H1 locs1 hP1 hD1 hS1 => kk ad ca tys H1 locs1 (fun _ _ => rfl) ⟨hK, by rw [← hset]; exact hP1, by rw [← hset]; exact hD1, hS1, gTt_same rfl hT⟩)
    · cases h1
  · cases h1
/-- a framed call's run -/
def gRunOk (p : Program) (l : Launch) (e : Env) (R : Room) (s : State) (m : MethodId) (args : Array Value) (below : List Frame) (meth : Method) (c : Code) (H : Heap) (locs : List Loc) (u1 u2 pc : Nat) (Ls : Array Slot) (D : va_G) (ad : Nat → Nat) (ca : Nat → ClassId) (M : gM) (k : Nat) (as rest : List Value) (r : Option Value) (M1 : gM) : Prop :=
  ∃ a, va_Run p l e R s m args below meth c H locs u1 u2 (gmc k) (gms k) (F0 m pc Ls ((as.map (gc ad)).reverse ++ rest.map (gc ad))) (rest.map (gc ad)) (gQc D (va_A (gW ad ca M) H.size) ad M.2.2.length r M1 a) (va_A (gW ad ca M) H.size)
theorem gRunK_ok {d : Nat} {idx kind k : Nat} {as rest : List Value} {r : Option Value} {M1 : gM} (hF : gFix p s m args meth c j) (hR1 : R.cells = gmc j) (hR2 : R.slots = gms j) (hR3 : R.frames = d + 1) (hR4 : R.locals = 40 * (d + 1)) (hdg : decode (gby j) pc = .ok (i, len)) (hki : gKind i len = some idx) (hkd : gKindOk i kind = true)
    (hcal : gcal (gow j) idx = some (kind, k)) (hnpr : ¬ (kind = 3 ∨ kind = 4 ∨ kind = 5 ∨ kind = 6)) (hasl : as.length = gNargs kind k) (hrl : rest.length ≤ 8) (hrcv : gRecv kind k as M = true) (hc4 : u1 + gmc k ≤ gmc j) (hc5 : u2 + gms k ≤ gms j) (hok2 : gsOk M.2.2.length rest) (hrel : gRel D A H0 s ad ca tys M H locs) (hLs : Ls.size = gml j)
    (hMet : k < gNM → Met l (gy k) (gMw1 k :: gWl) (gRoom d k) (gPc D ad ca tys M as H.size) (gQc D (va_A (gW ad ca M) H.size) ad M.2.2.length r M1) (gmc k) (gms k) (va_A (gW ad ca M) H.size)) :
    gRunOk p l e R s m args below meth c H locs u1 u2 pc Ls D ad ca M k as rest r M1 := by
  obtain ⟨hx, hb, hts, hown, hnm, hA0, hA7, hnest, hml, hr, hlocks, hj⟩ := hF
  obtain ⟨hK, hP, hD, hS, hT⟩ := hrel
  have hFx : CallFix p m c (gby j) (gml j) s args gWl (gRn (gow j)) := ⟨hx, hb, hml, hown, hts⟩
  have hkk : gKK D tys s := ⟨hK, hA0, hA7, hnest⟩
  have hcat := g_cats (ad := ad) hok2 hrl
  have hPre : ∀ U : State, U.heap = H → s.WarmedH U.vm → gPc D ad ca tys M as H.size (as.map (gc ad)).toArray U := fun U hU hW => ⟨rfl, by rw [hU], by rw [hU]; exact hP, gKK_moved hW hkk, hD.weaken (fun _ _ _ _ => trivial)⟩
  rcases gcal_in hcal with ⟨hin, hchk⟩ | ⟨hin, hchk⟩
  · have hlk : (Cond.methodLink (gRn (gow j)) idx (gCy kind k)).before args s = true := hts _ (gWl_C hin)
    have hlk2 : (Cond.methodLink (gRn (gow j)) idx (gy k)).before args s = true := by
      unfold gCy at hlk
      rwa [if_neg (fun q => hnpr (Or.inl q)), if_neg (fun q => hnpr (Or.inr (Or.inl q))), if_neg (fun q => hnpr (Or.inr (Or.inr (Or.inl q)))), if_neg (fun q => hnpr (Or.inr (Or.inr (Or.inr q))))] at hlk
    have hk6 := gCTc_k hchk
    rcases (show kind = 0 ∨ kind = 1 ∨ kind = 2 by omega) with rfl | rfl | rfl
    · obtain ⟨hkn, hs1, hs2, hs3⟩ := gCTc_0 hchk
      obtain ⟨rfl, rfl⟩ := gKind_V hki hkd rfl
      obtain ⟨hm1, hm2, -, -, -, -⟩ := gM_ok hkn
      have hm3 : gMw3 k ∈ gWl := by
        rcases hm1 with h8 | h8 | h8
        · rw [hs1] at h8; cases h8
        · exact absurd h8 hs2
        · exact gWl_3 h8
      have hm4 : Cond.instanceMethod (gy k) ∈ gWl := by
        have := gWl_2 hkn
        unfold gMw2 at this
        rwa [hs1, if_neg (by decide)] at this
      obtain ⟨o, as', rfl, hc3⟩ := gRecv_0 hrcv
      have hlt : o < M.2.2.length := (List.getElem?_eq_some_iff.mp hc3).1
      have hcl : (gCl (gow k)).1 = gRn (gow k) := by
        have h9 : ∀ c, c < 10 → (gCl c).1 = gRn c := by decide +kernel
        exact h9 _ hs3
      have hrc := va_recv hK hP (gCl_at hs3) (show (gW ad ca M)[o]? = some (ad o, .inr (gow k, gFs ad M o (gow k))) by rw [gW_at hlt, gE_obj hc3])
      rw [hcl, ← hm2] at hrc
      have hnn : (as'.map (gc ad)).length = gna k := by
        rw [List.length_map]
        have h7 : (Value.ref o :: as').length = gna k + 1 := hasl
        rw [List.length_cons] at h7
        omega
      exact ⟨_, va_runV (C := (gy k).cls) (b := ad o) (As := as'.map (gc ad)) (rest := rest.map (gc ad)) hFx (hMet hkn) ⟨gCallB hts hkn hR3 hR4 hlk2 rfl, hts _ hm4, hts _ hm3⟩ ⟨gPc_blind, hrc, hPre⟩ rfl hnn hLs (by rw [List.map_cons, List.reverse_cons, List.append_assoc]; rfl) (lv_room hcat) hdg ⟨by rw [hR1]; exact hc4, by rw [hR2]; exact hc5⟩⟩
    · obtain ⟨hkn, hs1⟩ := gCTc_1 hchk
      obtain ⟨rfl, rfl⟩ := gKind_S hki hkd (Or.inl rfl)
      have hm4 : Cond.static (gy k) ∈ gWl := by
        have := gWl_2 hkn
        unfold gMw2 at this
        rwa [hs1, if_pos rfl] at this
      have hnn : (as.map (gc ad)).length = gna k := by rw [List.length_map]; exact hasl
      exact ⟨_, va_runS (As := as.map (gc ad)) (rest := rest.map (gc ad)) hFx (hMet hkn) ⟨gCallB hts hkn hR3 hR4 hlk2 rfl, hts _ hm4⟩ ⟨gPc_blind, hPre⟩ rfl hnn hLs rfl (lv_room hcat) hdg ⟨by rw [hR1]; exact hc4, by rw [hR2]; exact hc5⟩⟩
    · obtain ⟨hkn, hs1, hs2, hs3⟩ := gCTc_2 hchk
      obtain ⟨rfl, rfl⟩ := gKind_I hki hkd (Or.inl rfl)
      have hm4 : Cond.instanceMethod (gy k) ∈ gWl := by
        have := gWl_2 hkn
        unfold gMw2 at this
        rwa [hs1, if_neg (by decide)] at this
      obtain ⟨o, as', rfl⟩ := gRecv_2 (Or.inl rfl) hrcv
      have hnn : (as'.map (gc ad)).length = gna k := by
        rw [List.length_map]
        have h7 : (Value.ref o :: as').length = gna k + 1 := hasl
        rw [List.length_cons] at h7
        omega
      have hcb := gCallB (R := R) (d := d) (idx := idx) (n := gna k) hts hkn hR3 hR4 hlk2 rfl
      rw [hs3] at hcb
      exact ⟨_, va_runI (b := ad o) (As := as'.map (gc ad)) (rest := rest.map (gc ad)) hFx (hMet hkn) ⟨hcb, hs2, hts _ hm4⟩ ⟨gPc_blind, hPre⟩ rfl hnn hLs (by rw [List.map_cons, List.reverse_cons, List.append_assoc]; rfl) (lv_room hcat) hdg ⟨by rw [hR1]; exact hc4, by rw [hR2]; exact hc5⟩⟩
  · have hnl : va_Nw (.methodLinkNest (gRn (gow j)) idx (gy k) "ClothSchool") s := by
      have h0 := hnest _ hin
      unfold gNw at h0
      dsimp only at h0
      exact h0
    rcases gNLc_k hchk with rfl | rfl
    · obtain ⟨hkn, hs1⟩ := gNLc_7 hchk
      obtain ⟨rfl, rfl⟩ := gKind_S hki hkd (Or.inr (Or.inr (Or.inr (Or.inr rfl))))
      have hm4 : Cond.static (gy k) ∈ gWl := by
        have := gWl_2 hkn
        unfold gMw2 at this
        rwa [hs1, if_pos rfl] at this
      have hnn : (as.map (gc ad)).length = gna k := by rw [List.length_map]; exact hasl
      exact ⟨_, va_runSN (As := as.map (gc ad)) (rest := rest.map (gc ad)) hFx (hMet hkn) ⟨gCallN hts hkn hR3 hR4 hnl rfl, hts _ hm4, trivial⟩ ⟨gPc_blind, hPre⟩ rfl hnn hLs rfl (lv_room hcat) hdg ⟨by rw [hR1]; exact hc4, by rw [hR2]; exact hc5⟩⟩
    · obtain ⟨hkn, hs1, hs2, hs3⟩ := gNLc_8 hchk
      obtain ⟨rfl, rfl⟩ := gKind_I hki hkd (Or.inr (Or.inr rfl))
      have hm4 : Cond.instanceMethod (gy k) ∈ gWl := by
        have := gWl_2 hkn
        unfold gMw2 at this
        rwa [hs1, if_neg (by decide)] at this
      obtain ⟨o, as', rfl⟩ := gRecv_2 (Or.inr rfl) hrcv
      have hnn : (as'.map (gc ad)).length = gna k := by
        rw [List.length_map]
        have h7 : (Value.ref o :: as').length = gna k + 1 := hasl
        rw [List.length_cons] at h7
        omega
      have hcb := gCallN (R := R) (d := d) (idx := idx) (n := gna k) hts hkn hR3 hR4 hnl rfl
      rw [hs3] at hcb
      exact ⟨_, va_runIN (b := ad o) (As := as'.map (gc ad)) (rest := rest.map (gc ad)) hFx (hMet hkn) ⟨hcb, hs2, hts _ hm4⟩ ⟨gPc_blind, hPre⟩ rfl hnn hLs (by rw [List.map_cons, List.reverse_cons, List.append_assoc]; rfl) (lv_room hcat) hdg ⟨by rw [hR1]; exact hc4, by rw [hR2]; exact hc5⟩⟩
theorem gcal_lt {own idx kind k : Nat} (h : gcal own idx = some (kind, k)) (hnpr : ¬ (kind = 3 ∨ kind = 4 ∨ kind = 5 ∨ kind = 6)) : k < gNM := by
  rcases gcal_in h with ⟨-, hchk⟩ | ⟨-, hchk⟩
  · have hk6 := gCTc_k hchk
    rcases (show kind = 0 ∨ kind = 1 ∨ kind = 2 by omega) with rfl | rfl | rfl
    · exact (gCTc_0 hchk).1
    · exact (gCTc_1 hchk).1
    · exact (gCTc_2 hchk).1
  · rcases gNLc_k hchk with rfl | rfl
    · exact (gNLc_7 hchk).1
    · exact (gNLc_8 hchk).1
theorem gCall_ok {d : Nat} {rec : Nat → List Value → gM → Option gRo} (hsnd : gSound l d rec) {idx v1 v2 : Nat} {st st' : List Value} {M' : gM} (hF : gFix p s m args meth c j) (hA : ∀ q, H0.size ≤ q → A q)
    (hR1 : R.cells = gmc j) (hR2 : R.slots = gms j) (hR3 : R.frames = d + 1) (hR4 : R.locals = 40 * (d + 1)) (hdg : decode (gby j) pc = .ok (i, len)) (hki : gKind i len = some idx) (hkd : (gcal (gow j) idx).any (fun q => gKindOk i q.1) = true)
    (h : gCall rec j idx st M u1 u2 = some (st', M', v1, v2)) (hrel : gRel D A H0 s ad ca tys M H locs) (hok : gmOk M) (hst : gsOk M.2.2.length st) (hu1 : u1 ≤ gmc j) (hu2 : u2 ≤ gms j) (hLs : Ls.size = gml j)
    (kk : ∀ ad' ca' tys' H1 locs1, (∀ q, q < M.2.2.length → ad' q = ad q) → gRel D A H0 s ad' ca' tys' M' H1 locs1 → W p l e R s m args below meth c H1 locs1 v1 v2 Q (F0 m (pc + 3) Ls (st'.map (gc ad')))) :
    W p l e R s m args below meth c H locs u1 u2 Q (F0 m pc Ls (st.map (gc ad))) := by
  unfold gCall at h
  cases hcal : gcal (gow j) idx with
  | none => rw [hcal] at h; cases h
  | some q0 =>
    obtain ⟨kind, k⟩ := q0
    rw [hcal] at h hkd
    have hkd : gKindOk i kind = true := hkd
    dsimp only at h
    by_cases hpr : kind = 3 ∨ kind = 4 ∨ kind = 5 ∨ kind = 6
    · rw [if_pos hpr] at h
      obtain ⟨q, h1, h2⟩ := Option.bind_eq_some_iff.mp h
      split at h2
      · rename_i hlen
        cases h2
        have hlk : (Cond.methodLink (gRn (gow j)) idx (gCy kind 0)).before args s = true := by
          rcases gcal_in hcal with ⟨hin, hchk⟩ | ⟨hin, hchk⟩
          · have h9 : gCy kind 0 = gCy kind k := by
              unfold gCy
              rcases hpr with rfl | rfl | rfl | rfl <;> rfl
            rw [h9]
            exact hF.2.2.1 _ (gWl_C hin)
          · rcases gNLc_k hchk with rfl | rfl <;> omega
        exact gPrim_ok hF hR1 hR2 hR3 hR4 hdg hki hkd hlk h1 hlen hrel hst hu1 hu2 hLs kk
      · cases h2
    · rw [if_neg hpr] at h
      split at h
      · rename_i hc
        obtain ⟨hc1, hc2, hc3, hc4, hc5⟩ := hc
        obtain ⟨q, h1, h2⟩ := Option.map_eq_some_iff.mp h
        obtain ⟨r, M1⟩ := q
        cases h2
        have hst2 : st = ((st.take (gNargs kind k)).reverse).reverse ++ st.drop (gNargs kind k) := by rw [List.reverse_reverse, List.take_append_drop]
        have hasl : ((st.take (gNargs kind k)).reverse).length = gNargs kind k := by rw [List.length_reverse, List.length_take]; omega
        have hrl : (st.drop (gNargs kind k)).length ≤ 8 := by rw [List.length_drop]; omega
        have hok1 : gsOk M.2.2.length (st.take (gNargs kind k)).reverse := fun v hv => hst v (List.mem_of_mem_take (List.mem_reverse.mp hv))
        have hok2 : gsOk M.2.2.length (st.drop (gNargs kind k)) := fun v hv => hst v (List.mem_of_mem_drop hv)
        obtain ⟨a, hrun⟩ := gRunK_ok (l := l) (e := e) (below := below) (r := r) (M1 := M1) hF hR1 hR2 hR3 hR4 hdg hki hkd hcal hpr hasl hrl hc3 hc4 hc5 hok2 hrel hLs (fun hkn => hsnd k _ M r M1 h1 hkn hok1 hok D ad ca tys H.size hrel.2.2.2.2)
        obtain ⟨hK, hP, hD, hS, hT⟩ := hrel
        have hmap : st.map (gc ad) = (((st.take (gNargs kind k)).reverse).map (gc ad)).reverse ++ (st.drop (gNargs kind k)).map (gc ad) := by rw [← List.map_reverse, ← List.map_append, ← hst2]
        rw [hmap]
        refine g_back hrun hS (fun q _ h => g_free hD hS hA q h) (g_free hD hS hA) (fun ad' ca' tys' H1 locs1 had hP1 hK1 hD1 hT1 hS1 => ?_)
        have k2 := kk ad' ca' tys' H1 locs1 had ⟨hK1, hP1, hD1.weaken (fun _ q _ hq => g_free hD hS hA q.1 hq), hS1, hT1⟩
        rw [List.map_append, gc_map had hok2] at k2
        cases r with
        | none => exact k2
        | some v => exact k2
      · cases h
theorem gRet_ok {ad0 : Nat → Nat} {n0 : Nat} {st : List Value} {r : Option Value} {M' : gM} (hF : gFix p s m args meth c j) (hdg : decode (gby j) pc = .ok (i, len)) (h : gRet j i len st M = some (r, M')) (hrel : gRel D A s.heap s ad ca tys M H locs) (had : ∀ q, q < n0 → ad q = ad0 q) :
    W p l e R s m args below meth c H locs u1 u2 (MQ below (gQc D A ad0 n0 r M') args s u1 u2 A) (F0 m pc Ls (st.map (gc ad))) := by
  obtain ⟨hx, hb, hts, hown, hnm, hA0, hA7, hnest, hml, hr, hlocks, hj⟩ := hF
  obtain ⟨hK, hP, hD, hS, hT⟩ := hrel
  unfold gRet at h
  split at h
  · split at h
    · rename_i x hc
      cases h
      have hq : ∀ t : State, t.heap = H → s.WarmedH t.vm → gQc D A ad0 n0 (some (.int x)) M args s (.returned (some (.int x))) t := fun t ht hW => ⟨⟨ad, ca, tys, rfl, had, by rw [ht]; exact hP, va_K.moved hW.alike hK, hD, hT⟩, hS.F ht⟩
      rcases hc with h1 | ⟨h1, h2⟩
      · exact W.iret hx hb (hr.trans h1) hq hS.2.2 hdg hlocks
      · exact W.zret (ty := .boolean) hx hb (hr.trans h1) (by rcases h2 with rfl | rfl <;> rfl) hq hS.2.2 hdg hlocks
    · cases h
  · rename_i v
    have key : ∀ rt, gre j = some rt → ((∃ n, rt = .object n) ∨ ∃ t, rt = .array t) → gisRef v = true → W p l e R s m args below meth c H locs u1 u2 (MQ below (gQc D A ad0 n0 (some v) M) args s u1 u2 A) (F0 m pc Ls [gc ad v]) := by
      intro rt h1 h2 h3
      refine W.aret (rt := rt) hx hb (hr.trans h1) h2 ?_ (fun t ht hW => ⟨⟨ad, ca, tys, rfl, had, by rw [ht]; exact hP, va_K.moved hW.alike hK, hD, hT⟩, hS.F ht⟩) hS.2.2 hdg hlocks
      cases v <;> first | exact Or.inl rfl | exact Or.inr ⟨_, rfl⟩ | cases h3
    split at h
    · rename_i n hre
      split at h
      · rename_i hv; cases h; exact key _ hre (Or.inl ⟨_, rfl⟩) hv
      · cases h
    · rename_i n hre
      split at h
      · rename_i hv; cases h; exact key _ hre (Or.inr ⟨_, rfl⟩) hv
      · cases h
    · cases h
  · split at h
    · rename_i hc
      cases h
      exact W.vret hx hb (hr.trans hc) (fun t ht hW => ⟨⟨ad, ca, tys, rfl, had, by rw [ht]; exact hP, va_K.moved hW.alike hK, hD, hT⟩, hS.F ht⟩) hS.2.2 hdg hlocks
    · cases h
  · cases h
theorem gLoop_ok {d : Nat} {rec : Nat → List Value → gM → Option gRo} (hsnd : gSound l d rec) (hrec : gRecOk rec) (hF : gFix p s m args meth c j) (hA : ∀ q, s.heap.size ≤ q → A q)
    (hR1 : R.cells = gmc j) (hR2 : R.slots = gms j) (hR3 : R.frames = d + 1) (hR4 : R.locals = 40 * (d + 1)) {ad0 : Nat → Nat} {n0 : Nat} {r : Option Value} {M' : gM} : ∀ (n : Nat) (cf : gC), gLoop rec j n cf = some (r, M') → gcOk j cf → n0 ≤ cf.2.2.2.1.2.2.length → cf.2.1.length = gml j →
      ∀ (ad : Nat → Nat) (ca : Nat → ClassId) (tys : List (ClassId × FieldType)) (H : Heap) (locs : List Loc) (Ls : Array Slot), (∀ q, q < n0 → ad q = ad0 q) → gRel D A s.heap s ad ca tys cf.2.2.2.1 H locs → lv_has Ls (gml j) (gLs ad cf.2.1) →
        W p l e R s m args below meth c H locs cf.2.2.2.2.1 cf.2.2.2.2.2 (MQ below (gQc D A ad0 n0 r M') args s (gmc j) (gms j) A) (F0 m cf.1 Ls (cf.2.2.1.map (gc ad)))
  | 0, cf, h, _, _, _ => by cases h
  | n + 1, cf, h, hc, hn0, hll => by
    intro ad ca tys H locs Ls had hrel hl
    obtain ⟨hx, hb, hts, hown, hnm, hA0, hA7, hnest, hml, hr, hlocks, hj⟩ := id hF
    obtain ⟨pc, ls, st, M, u1, u2⟩ := cf
    have hc0 := hc
    obtain ⟨h1, h2, h3, h4, h5⟩ := hc
    dsimp only at h1 h2 h3 h4 h5 hn0 hll hrel hl ⊢
    have hcats : ∀ (k : Nat) (w : Value), ls[k]? = some (some w) → w.category = 1 := fun k w hw => gvOk_cat (h2 w (List.mem_of_getElem? hw))
    unfold gLoop at h
    split at h
    · rename_i c' hs
      obtain ⟨hw1, -⟩ := gStep_wf hrec hs hc0
      obtain ⟨hw2, hw3⟩ := hw1 c' rfl
      have ih := gLoop_ok hsnd hrec hF hA hR1 hR2 hR3 hR4 (ad0 := ad0) n c' h hw2 (Nat.le_trans hn0 hw3)
      unfold gStep at hs
      split at hs
      · rename_i i len hdg
        dsimp only at hdg
        unfold gStepI at hs
        split at hs
        · rename_i st' ha
          cases hs
          exact gArith_ok hx hb hdg ha (ih hll ad ca tys H locs Ls had hrel hl)
        · split at hs
          · rename_i t st' ha
            cases hs
            exact gBranch_ok hx hb hdg ha (ih hll ad ca tys H locs Ls had hrel hl)
          · split at hs
            · rename_i ls' st' ha
              cases hs
              have hlen : ls'.length = ls.length := by
                have store : ∀ {k v l1}, gStore ls k v = some l1 → l1.length = ls.length := fun q => by rw [(gStore_ok q).2, List.length_set]
                unfold gLocal at ha
                dsimp only at ha
                split at ha
                · obtain ⟨v, _, q2⟩ := Option.map_eq_some_iff.mp ha; cases q2; rfl
                · obtain ⟨v, _, q2⟩ := Option.map_eq_some_iff.mp ha; cases q2; rfl
                · obtain ⟨v, _, q2⟩ := Option.map_eq_some_iff.mp ha; cases q2; rfl
                · obtain ⟨v, _, q2⟩ := Option.map_eq_some_iff.mp ha; cases q2; rfl
                · obtain ⟨v, q1, q2⟩ := Option.map_eq_some_iff.mp ha; cases q2; exact store q1
                · obtain ⟨v, q1, q2⟩ := Option.map_eq_some_iff.mp ha; cases q2; exact store q1
                · split at ha
                  · obtain ⟨v, q1, q2⟩ := Option.map_eq_some_iff.mp ha; cases q2; exact store q1
                  · cases ha
                · split at ha
                  · obtain ⟨v, q1, q2⟩ := Option.map_eq_some_iff.mp ha; cases q2; exact store q1
                  · cases ha
                · split at ha
                  · obtain ⟨v, q1, q2⟩ := Option.map_eq_some_iff.mp ha; cases q2; exact store q1
                  · cases ha
                · cases ha
              exact gLocal_ok hx hb hdg ha (by rw [hll]; exact hl) hcats (fun Ls' hl' => ih (hlen.trans hll) ad ca tys H locs Ls' had hrel (by rw [hlen, hll] at hl'; exact hl'))
            · split at hs
              · rename_i st' M1 v1 v2 ha
                cases hs
                refine gHeap_ok hx hb hts hown hnm hA0 hA7 hA hR1 hR2 hdg ha hrel h3 h1 (fun ad' ca' tys' H1 locs1 had' hrel' => ih hll ad' ca' tys' H1 locs1 Ls (fun q hq => (had' q (Nat.lt_of_lt_of_le hq hn0)).trans (had q hq)) hrel' ?_)
                rw [gLs_congr had' h2]
                exact hl
              · split at hs
                · rename_i idx hki
                  split at hs
                  · rename_i hkd
                    obtain ⟨⟨st', M1, v1, v2⟩, ha, h9⟩ := Option.map_eq_some_iff.mp hs
                    cases h9
                    refine gCall_ok hsnd hF hA hR1 hR2 hR3 hR4 hdg hki hkd ha hrel h3 h1 h4 h5 hl.1 (fun ad' ca' tys' H1 locs1 had' hrel' => ih hll ad' ca' tys' H1 locs1 Ls (fun q hq => (had' q (Nat.lt_of_lt_of_le hq hn0)).trans (had q hq)) hrel' ?_)
                    rw [gLs_congr had' h2]
                    exact hl
                  · cases hs
                · obtain ⟨r1, _, h9⟩ := Option.map_eq_some_iff.mp hs
                  cases h9
      · cases hs
    · rename_i o hs
      cases h
      unfold gStep at hs
      split at hs
      · rename_i i len hdg
        dsimp only at hdg
        unfold gStepI at hs
        split at hs
        · cases hs
        · split at hs
          · cases hs
          · split at hs
            · cases hs
            · split at hs
              · cases hs
              · split at hs
                · split at hs
                  · obtain ⟨r1, _, h9⟩ := Option.map_eq_some_iff.mp hs
                    cases h9
                  · cases hs
                · obtain ⟨r1, ha, h9⟩ := Option.map_eq_some_iff.mp hs
                  cases h9
                  exact W.widen h4 h5 (gRet_ok hF hdg ha hrel had)
      · cases hs
    · cases h
end GSOUND
theorem lv_args_mem {vs : List Value} : ∀ (a k : Nat) (v : Value), (∀ w ∈ vs, w.category = 1) → vs[k]? = some v → (a + k, v) ∈ lv_args a vs := by
  induction vs with
  | nil => intro a k v _ h; simp at h
  | cons w vs ih =>
    intro a k v hc h
    have hw : w.category = 1 := hc w List.mem_cons_self
    show (a + k, v) ∈ (a, w) :: lv_args (if w.category = 2 then a + 2 else a + 1) vs
    rw [hw, if_neg (by decide)]
    cases k with
    | zero =>
      rw [List.getElem?_cons_zero] at h
      cases h
      exact List.mem_cons_self
    | succ k =>
      rw [List.getElem?_cons_succ] at h
      have := ih (a + 1) k v (fun x hx => hc x (List.mem_cons_of_mem _ hx)) h
      rw [show a + 1 + k = a + (k + 1) by omega] at this
      exact List.mem_cons_of_mem _ this
theorem lg_sl_len {vs : List Value} (h : ∀ w ∈ vs, w.category = 1) : (lg_sl vs).length = vs.length := by
  induction vs with
  | nil => rfl
  | cons w vs ih =>
    have h1 : w.category = 1 := h w List.mem_cons_self
    have h2 := ih (fun x hx => h x (List.mem_cons_of_mem _ hx))
    unfold lg_sl at h2 ⊢
    rw [List.flatMap_cons, List.length_append, h2, h1, if_neg (by decide), List.length_cons]
    simp
    omega
theorem gExec_sound (l : Launch) (n : Nat) : ∀ d, gSound l d (gExec n d)
  | 0 => fun k as M r M' h => by cases h
  | d + 1 => by
    intro k as M r M' h hk has hmok D ad ca tys sz hT
    unfold gExec at h
    split at h
    · rename_i hc
      obtain ⟨hm1, hm2, hm3, -, -, -⟩ := gM_ok hk
      refine Met.ofW (cc := gby k) (maxL := gml k) (ret := gre k) hm3 rfl ?_
      intro p e s m args below meth c s₁ B hml hv
      obtain ⟨rfl, hsz, hP, hKK, hD0⟩ := hv
      have hts0 := atoms_spec (ws := gMw1 k :: gWl) B.pre
      have hts : ∀ w ∈ gWl, w.before ((as.map (gc ad)).toArray) s = true := fun w hw => hts0 w (List.mem_cons_of_mem _ hw)
      have hown : s.vm.findClass (gRn (gow k)) = some m.cls := by rw [← hm2]; exact findClass_of_methodNamed B.named
      have hnm : meth.name = (gy k).name := (name_of_methodNamed B.named B.method).1
      subst hsz
      have hD := hD0.self (sz := s.heap.size)
      have hcats : ∀ w ∈ as.map (gc ad), w.category = 1 := by
        intro w hw
        obtain ⟨v, h1, rfl⟩ := List.mem_map.mp hw
        rw [gc_cat]
        exact gvOk_cat (has v h1)
      have hl := lv_entry (as.map (gc ad)) (n := gml k) (by rw [lg_sl_len hcats, List.length_map]; exact hc.1)
      rw [lg_entry_eq]
      generalize (lg_sl (as.map (gc ad)) ++ List.replicate (gml k - (lg_sl (as.map (gc ad))).length) Slot.unset).toArray = Ls at hl ⊢
      have hF : gFix p s m ((as.map (gc ad)).toArray) meth c k := ⟨B.exec, B.bytes, hts, hown, hnm, hKK.2.1, hKK.2.2.1, hKK.2.2.2, hml, B.returns, B.notSynchronized, hk⟩
      have hl2 : lv_has Ls (gml k) (gLs ad (gEntry k as M).2.1) := by
        refine ⟨hl.1, hl.2.1, fun q hq => ?_⟩
        obtain ⟨v, h1, h2⟩ := gLs_of hq
        have h3 : as[q.1]? = some v := by
          have h4 : (as.map some ++ List.replicate (gml k - as.length) none)[q.1]? = some (some v) := h1
          by_cases h5 : q.1 < as.length
          · rw [List.getElem?_append_left (by rw [List.length_map]; exact h5), List.getElem?_map] at h4
            obtain ⟨w, h6, h7⟩ := Option.map_eq_some_iff.mp h4
            cases h7
            exact h6
          · rw [List.getElem?_append_right (by rw [List.length_map]; omega)] at h4
            have := (List.mem_replicate.mp (List.mem_of_getElem? h4)).2
            cases this
        have h8 := lv_args_mem (vs := as.map (gc ad)) 0 q.1 (gc ad v) hcats (by rw [List.getElem?_map, h3]; rfl)
        rw [Nat.zero_add, ← h2] at h8
        exact hl.2.2 q h8
      have hlen : (gEntry k as M).2.1.length = gml k := by
        show (as.map some ++ List.replicate (gml k - as.length) none).length = gml k
        rw [List.length_append, List.length_map, List.length_replicate]
        omega
      exact gLoop_ok (R := gRoom (d + 1) k) (D := D) (A := va_A (gW ad ca M) s.heap.size) (gExec_sound l n d) (gExec_wf n d) hF (fun q hq => Or.inr hq) rfl rfl rfl rfl n (gEntry k as M) h (gEntry_ok has hmok) (Nat.le_refl _) hlen ad ca tys s.heap [] Ls (fun _ _ => rfl) ⟨hKK.1, hP, hD, va_S.rf, hT⟩ hl2
    · cases h
