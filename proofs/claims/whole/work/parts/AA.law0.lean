/-! The law: two worlds side by side, and a call of a method in one of them. -/
def yA (s : State) : Nat → Prop := fun q => s.heap.size ≤ q
def yApart (w1 w2 : va_W) : Prop := ∀ (i j : Nat) (p q : Nat × va_E), w1[i]? = some p → w2[j]? = some q → p.1 ≠ q.1
theorem yApart_sym {w1 w2 : va_W} (h : yApart w1 w2) : yApart w2 w1 := fun i j p q h1 h2 h3 => h j i q p h2 h1 h3.symm
/-- what stays while the law runs -/
def LF (p : Program) (s : State) (m : MethodId) (c : Code) (b L : Nat) (xs : Nat → Int32) : Prop :=
  p.tables.exec = Jvm.exec ∧ c.code = code ∧ c.maxLocals = 4 ∧ s.vm.findClass RL = some m.cls ∧ (∀ w ∈ lw_tbl, w.before #[Value.ref b] s = true) ∧ va_X b L xs s s.heap ∧ b < s.heap.size ∧ L ≤ 4608
theorem LF_ao {p : Program} {s : State} {m : MethodId} {c : Code} {b L : Nat} {xs : Nat → Int32} (h : LF p s m c b L xs) : va_AO RX0 s ∧ va_AO RX7 s ∧ gNest s ∧ ∀ w ∈ gWl, w.before #[Value.ref b] s = true :=
  ⟨va_AO.of (h.2.2.2.2.1 _ gAO_in.1), va_AO.of (h.2.2.2.2.1 _ gAO_in.2), fun e he => va_Nw.of rfl (h.2.2.2.2.1 _ (gNw_in e he)), fun w hw => h.2.2.2.2.1 w (gWl_in w hw)⟩
section LAW0
variable {p : Program} {l : Launch} {e : Env} {s : State} {m : MethodId} {below : List Frame} {meth : Method} {c : Code} {H : Heap} {locs : List Loc} {Q : State → Prop} {R : Room} {args : Array Value}
variable {pc : Nat} {Ls : Array Slot} {u1 u2 b L : Nat} {xs : Nat → Int32} {D : va_G} {ad : Nat → Nat} {ca : Nat → ClassId} {tys : List (ClassId × FieldType)} {M M' : gM} {wr : va_W}
/-- behind a call, with what the call left alone -/
theorem g_backL {H0 : Heap} {rest st0 : List Value} {A1 A0 : Nat → Prop} {ad0 : Nat → Nat} {n0 mc ms : Nat} {r : Option Value} {a : Array Value} {free : Addr → Prop} (hr : va_Run p l e R s m args below meth c H locs u1 u2 mc ms (F0 m pc Ls st0) rest (gQc D A1 ad0 n0 r M' a) free) (hS : va_S A0 H0 H locs) (hA : ∀ q, q < H.size → A1 q → A0 q) (hf : ∀ q, free q → A0 q)
    (kk : ∀ (ad' : Nat → Nat) (ca' : Nat → ClassId) (tys' : List (ClassId × FieldType)) (H1 : Heap) (locs1 : List Loc), (∀ q, q < n0 → ad' q = ad0 q) → va_P D vwCl (gW ad' ca' M') H1 → va_K D vwCl tys' s → va_D A1 (gW ad' ca' M') → gTt ca' tys' M' → va_S A0 H0 H1 locs1 → (∀ q : Nat, q < H.size → ¬ A1 q → H1[q]? = H[q]?) →
      W p l e R s m args below meth c H1 locs1 (u1 + mc) (u2 + ms) Q (F0 m (pc + 3) Ls ((r.map (gc ad')).toList ++ rest))) : W p l e R s m args below meth c H locs u1 u2 Q (F0 m pc Ls st0) := by
  intro T hT X
  obtain ⟨v, st₀, t, T', L, h0, X', hL, e1, e2, ⟨⟨ad', ca', tys', hv, had, hP, hK, hD, hT'⟩, hz, hk⟩, st⟩ := hr T hT X
  cases hv
  rw [h0] at hz hk
  have hal : s.vm.Alike t.vm := by rw [← e2]; exact X'.warmed.alike
  obtain ⟨t2, a1, b1⟩ := kk ad' ca' tys' T'.heap (locs ++ L) had (by rw [e1]; exact hP) (va_K.moved hal.symm hK) hD hT'
    ⟨Nat.le_trans hS.1 (by rw [e1]; exact hz), fun q h1 h2 => by rw [e1, hk q (Nat.lt_of_lt_of_le h1 hS.1) (fun z => h2 (hA q (Nat.lt_of_lt_of_le h1 hS.1) z))]; exact hS.2.1 q h1 h2, fun q hq => by
      rcases List.mem_append.mp hq with h | h
      · exact hS.2.2 q h
      · exact hf _ (hL q h)⟩ (fun q h1 h2 => by rw [e1]; exact hk q h1 h2) T' rfl X'
  exact ⟨t2, st t2 a1, b1⟩
theorem yKeep {H1 : Heap} {ad' : Nat → Nat} {ca' : Nat → ClassId} (hPr : va_P D vwCl wr H) (hap : yApart (gW ad ca M) wr) (hD1 : va_D (va_A (gW ad ca M) H.size) (gW ad' ca' M')) (hk : ∀ q : Nat, q < H.size → ¬ va_A (gW ad ca M) H.size q → H1[q]? = H[q]?) : va_P D vwCl wr H1 ∧ yApart (gW ad' ca' M') wr := by
  have hn : ∀ (k : Nat) (q : Nat × va_E), wr[k]? = some q → ¬ va_A (gW ad ca M) H.size q.1 := by
    intro k q hq h
    have hl := (hPr k q hq).lt
    rcases h with ⟨k2, e, h⟩ | h
    · exact hap k2 k (q.1, e) q h hq rfl
    · omega
  refine ⟨fun k q hq => (hPr k q hq).kept (hk q.1 (hPr k q hq).lt (hn k q hq)), fun i j x y h1 h2 h3 => hn j y h2 ?_⟩
  rw [← h3]
  exact hD1.2 i x h1
theorem ints_gc {as : List Value} (has : ∀ v ∈ as, ∃ i, v = Value.int i) : as.map (gc ad) = as := by
  induction as with
  | nil => rfl
  | cons v as ih =>
    obtain ⟨i, rfl⟩ := has v List.mem_cons_self
    rw [List.map_cons, ih (fun v hv => has v (List.mem_cons_of_mem _ hv))]
    rfl
theorem ints_ok {n : Nat} {as : List Value} (has : ∀ v ∈ as, ∃ i, v = Value.int i) : gsOk n as := fun v hv => by
  obtain ⟨i, rfl⟩ := has v hv
  exact trivial
/-- a method of an instance, called by the law -/
theorem lcall {k idx n : Nat} {as rest : List Value} {x : Int32} (hF : LF p s m c b L xs) (hk : k < gNM) (hst : gst k = false) (hin : (gy k).name ≠ "<init>") (how : gow k < 10)
    (hlk : (Cond.methodLink RL idx (gy k)).before #[Value.ref b] s = true) (hdg : decode code pc = .ok (.invokevirtual idx, 3)) (hcall : gExec n 200 k (.ref 0 :: as) M = some (some (.int x), M')) (has : ∀ v ∈ as, ∃ i, v = Value.int i) (hlen : as.length = gna k)
    (hcl : M.2.2[0]? = some (.inl (gow k))) (hok : gmOk M) (hrest : (rest.map fun v => v.category).sum ≤ 8) (hLs : Ls.size = 4) (hu : u1 + gmc k ≤ 600000 ∧ u2 + gms k ≤ 7302250)
    (hK : va_K D vwCl tys s) (hP : va_P D vwCl (gW ad ca M) H) (hD : va_D (yA s) (gW ad ca M)) (hT : gTt ca tys M) (hS : va_S (yA s) s.heap H locs) (hPr : va_P D vwCl wr H) (hap : yApart (gW ad ca M) wr)
    (kk : ∀ (ad' : Nat → Nat) (ca' : Nat → ClassId) (tys' : List (ClassId × FieldType)) (H1 : Heap) (locs1 : List Loc), ad' 0 = ad 0 → va_K D vwCl tys' s → va_P D vwCl (gW ad' ca' M') H1 → va_D (yA s) (gW ad' ca' M') → gTt ca' tys' M' → gmOk M' → va_S (yA s) s.heap H1 locs1 → va_P D vwCl wr H1 → yApart (gW ad' ca' M') wr →
      W p l e room_1 s m #[Value.ref b] below meth c H1 locs1 (u1 + gmc k) (u2 + gms k) Q (F0 m (pc + 3) Ls (.int x :: rest))) :
    W p l e room_1 s m #[Value.ref b] below meth c H locs u1 u2 Q (F0 m pc Ls (as.reverse ++ .ref (ad 0) :: rest)) := by
  obtain ⟨hA0, hA7, hnest, hts⟩ := LF_ao hF
  obtain ⟨hx, hb, hml, hown, -, -, -, -⟩ := hF
  have hlt : 0 < M.2.2.length := (List.getElem?_eq_some_iff.mp hcl).1
  have hgs : gsOk M.2.2.length (.ref 0 :: as) := gsOk_cons.mpr ⟨hlt, ints_ok has⟩
  have hMet := gExec_sound l n 200 k (.ref 0 :: as) M (some (.int x)) M' hcall hk hgs hok D ad ca tys H.size hT
  have hok' := (gExec_wf n 200 k (.ref 0 :: as) M (some (.int x)) M' hcall hgs hok).1
  have hkk : gKK D tys s := ⟨hK, hA0, hA7, hnest⟩
  have hFx : CallFix p m c code 4 s #[Value.ref b] gWl RL := ⟨hx, hb, hml, hown, hts⟩
  obtain ⟨hm1, hm2, -, hm4, hm5, hm6⟩ := gM_ok hk
  have hm3 : gMw3 k ∈ gWl := by
    rcases hm1 with h8 | h8 | h8
    · rw [hst] at h8; cases h8
    · exact absurd h8 hin
    · exact gWl_3 h8
  have hmi : Cond.instanceMethod (gy k) ∈ gWl := by
    have := gWl_2 hk
    unfold gMw2 at this
    rwa [hst, if_neg (by decide)] at this
  have hB : CallB room_1 s #[Value.ref b] RL idx (gy k) (gby k) (gml k) (gre k) (gMw1 k :: gWl) (gRoom 200 k) (gmc k) (gms k) (gna k) := by
    refine callB_of (ws' := gWl) (gna k) hts (gGoodIn k hk) rfl rfl rfl ?_ hlk hm4 ⟨?_, ?_⟩
    · rw [hm2]; exact hts _ (gWl_J hm6)
    · show 200 + 1 ≤ 2048; omega
    · show 8 + (gml k + 11) + 40 * 200 ≤ 84000; omega
  have hclN : (gCl (gow k)).1 = gRn (gow k) := by
    have h9 : ∀ c, c < 10 → (gCl c).1 = gRn c := by decide +kernel
    exact h9 _ how
  have hrc := va_recv hK hP (gCl_at how) (show (gW ad ca M)[0]? = some (ad 0, .inr (gow k, gFs ad M 0 (gow k))) by rw [gW_at hlt, gE_obj hcl])
  rw [hclN, ← hm2] at hrc
  have hmap := ints_gc (ad := ad) has
  have hPre : ∀ U : State, U.heap = H → s.WarmedH U.vm → gPc D ad ca tys M (.ref 0 :: as) H.size (Value.ref (ad 0) :: as.map (gc ad)).toArray U := fun U hU hW => ⟨rfl, by rw [hU], by rw [hU]; exact hP, gKK_moved hW hkk, hD.weaken (fun _ _ _ _ => trivial)⟩
  have hA : ∀ q, s.heap.size ≤ q → yA s q := fun _ h => h
  have hrun := va_runV (l := l) (e := e) (below := below) (meth := meth) (locs := locs) (cells := u1) (slots := u2) (g := F0 m pc Ls (as.reverse ++ .ref (ad 0) :: rest)) (C := (gy k).cls) (b := ad 0) (As := as.map (gc ad)) (rest := rest) hFx hMet ⟨hB, hts _ hmi, hts _ hm3⟩ ⟨gPc_blind, hrc, hPre⟩ rfl (by rw [List.length_map]; exact hlen) hLs (by rw [hmap]) (lv_room hrest) hdg hu
  refine g_backL hrun hS (fun q _ h => g_free hD hS hA q h) (g_free hD hS hA) (fun ad' ca' tys' H1 locs1 had hP1 hK1 hD1 hT1 hS1 hk1 => ?_)
  obtain ⟨hPr1, hap1⟩ := yKeep hPr hap hD1 hk1
  exact kk ad' ca' tys' H1 locs1 (had 0 hlt) hK1 hP1 (hD1.weaken (fun _ q _ hq => g_free hD hS hA q.1 hq)) hT1 hok' hS1 hPr1 hap1
/-- a constructor, called by the law -/
theorem linit {k idx n : Nat} {rest : List Value} (hF : LF p s m c b L xs) (hk : k < gNM) (hst : gst k = false) (hin : (gy k).name = "<init>") (hre : gre k = none) (hna : gna k = 0)
    (hlk : (Cond.methodLink RL idx (gy k)).before #[Value.ref b] s = true) (hdg : decode code pc = .ok (.invokespecial idx, 3)) (hcall : gExec n 6 k [.ref 0] M = some (none, M'))
    (hlt : 0 < M.2.2.length) (hok : gmOk M) (hrest : (rest.map fun v => v.category).sum ≤ 8) (hLs : Ls.size = 4) (hu : u1 + gmc k ≤ 600000 ∧ u2 + gms k ≤ 7302250)
    (hK : va_K D vwCl tys s) (hP : va_P D vwCl (gW ad ca M) H) (hD : va_D (yA s) (gW ad ca M)) (hT : gTt ca tys M) (hS : va_S (yA s) s.heap H locs) (hPr : va_P D vwCl wr H) (hap : yApart (gW ad ca M) wr)
    (kk : ∀ (ad' : Nat → Nat) (ca' : Nat → ClassId) (tys' : List (ClassId × FieldType)) (H1 : Heap) (locs1 : List Loc), ad' 0 = ad 0 → va_K D vwCl tys' s → va_P D vwCl (gW ad' ca' M') H1 → va_D (yA s) (gW ad' ca' M') → gTt ca' tys' M' → gmOk M' → va_S (yA s) s.heap H1 locs1 → va_P D vwCl wr H1 → yApart (gW ad' ca' M') wr →
      W p l e room_1 s m #[Value.ref b] below meth c H1 locs1 (u1 + gmc k) (u2 + gms k) Q (F0 m (pc + 3) Ls rest)) :
    W p l e room_1 s m #[Value.ref b] below meth c H locs u1 u2 Q (F0 m pc Ls (.ref (ad 0) :: rest)) := by
  obtain ⟨hA0, hA7, hnest, hts⟩ := LF_ao hF
  obtain ⟨hx, hb, hml, hown, -, -, -, -⟩ := hF
  have hgs : gsOk M.2.2.length [.ref 0] := gsOk_cons.mpr ⟨hlt, fun v hv => by cases hv⟩
  have hMet := gExec_sound l n 6 k [.ref 0] M none M' hcall hk hgs hok D ad ca tys H.size hT
  have hok' := (gExec_wf n 6 k [.ref 0] M none M' hcall hgs hok).1
  have hkk : gKK D tys s := ⟨hK, hA0, hA7, hnest⟩
  have hFx : CallFix p m c code 4 s #[Value.ref b] gWl RL := ⟨hx, hb, hml, hown, hts⟩
  obtain ⟨hm1, hm2, -, hm4, hm5, hm6⟩ := gM_ok hk
  have hmi : Cond.instanceMethod (gy k) ∈ gWl := by
    have := gWl_2 hk
    unfold gMw2 at this
    rwa [hst, if_neg (by decide)] at this
  have hB : CallB room_1 s #[Value.ref b] RL idx (gy k) (gby k) (gml k) none (gMw1 k :: gWl) (gRoom 6 k) (gmc k) (gms k) (gna k) := by
    rw [← hre]
    refine callB_of (ws' := gWl) (gna k) hts (gGoodIn k hk) rfl rfl rfl ?_ hlk hm4 ⟨?_, ?_⟩
    · rw [hm2]; exact hts _ (gWl_J hm6)
    · show 6 + 1 ≤ 2048; omega
    · show 8 + (gml k + 11) + 40 * 6 ≤ 84000; omega
  have hPre : ∀ U : State, U.heap = H → s.WarmedH U.vm → gPc D ad ca tys M [.ref 0] H.size (Value.ref (ad 0) :: []).toArray U := fun U hU hW => ⟨rfl, by rw [hU], by rw [hU]; exact hP, gKK_moved hW hkk, hD.weaken (fun _ _ _ _ => trivial)⟩
  have hA : ∀ q, s.heap.size ≤ q → yA s q := fun _ h => h
  have hrun := va_runI (l := l) (e := e) (below := below) (meth := meth) (locs := locs) (cells := u1) (slots := u2) (g := F0 m pc Ls (.ref (ad 0) :: rest)) (b := ad 0) (As := []) (rest := rest) hFx hMet ⟨hB, hin, hts _ hmi⟩ ⟨gPc_blind, hPre⟩ rfl hna.symm hLs rfl (lv_room hrest) hdg hu
  refine g_backL hrun hS (fun q _ h => g_free hD hS hA q h) (g_free hD hS hA) (fun ad' ca' tys' H1 locs1 had hP1 hK1 hD1 hT1 hS1 hk1 => ?_)
  obtain ⟨hPr1, hap1⟩ := yKeep hPr hap hD1 hk1
  exact kk ad' ca' tys' H1 locs1 (had 0 hlt) hK1 hP1 (hD1.weaken (fun _ q _ hq => g_free hD hS hA q.1 hq)) hT1 hok' hS1 hPr1 hap1
/-- an int of the script, loaded -/
theorem lk_c : ∀ k : Nat, k < 9 → Int32.ofInt (k : Int) = nI k ∧ (Int8.ofInt (k : Int)).toInt32 = nI k := by decide
theorem larg {k i : Nat} {rest : List Value} {lv : List (Nat × Value)} (hF : LF p s m c b L xs) (hS : va_S (yA s) s.heap H locs) (hl : lv_has Ls 4 lv) (h0 : lv[0]? = some (0, .ref b)) (h3 : lv[3]? = some (3, .int (nI i))) (hi : i + 9 ≤ L) (hk : k < 9)
    (d0 : decode code pc = .ok (.aload_n 0, 1)) (d1 : decode code (pc + 1) = .ok (.iload_n 3, 1)) (d2 : decode code (pc + 2) = .ok (.iconst (k : Int), 1)) (d3 : decode code (pc + 3) = .ok (.iadd, 1)) (d4 : decode code (pc + 4) = .ok (.iaload, 1))
    (kk : W p l e room_1 s m #[Value.ref b] below meth c H locs u1 u2 Q (F0 m (pc + 5) Ls (.int (xs (i + k)) :: rest))) : W p l e room_1 s m #[Value.ref b] below meth c H locs u1 u2 Q (F0 m pc Ls rest) := by
  obtain ⟨hx, hb, hml, hown, hts, hX, hbl, hL⟩ := hF
  have hbA : ¬ yA s b := Nat.not_le.mpr hbl
  refine lv_aload_n hx hb d0 rfl (lv_at hl 0 h0) ?_
  refine lv_iload_n hx hb d1 rfl (lv_at hl 3 h3) ?_
  refine lv_iconst (v := nI k) hx hb d2 (lk_c k hk).1 ?_
  refine lv_iadd hx hb d3 ?_
  rw [nI_add]
  refine va_sld hx hb hX hbl hbA hS (vp_in_nI (by omega) (by omega)) d4 ?_
  rw [nI_clamp (by omega)]
  exact kk
theorem largb {k i : Nat} {rest : List Value} {lv : List (Nat × Value)} (hF : LF p s m c b L xs) (hS : va_S (yA s) s.heap H locs) (hl : lv_has Ls 4 lv) (h0 : lv[0]? = some (0, .ref b)) (h3 : lv[3]? = some (3, .int (nI i))) (hi : i + 9 ≤ L) (hk : k < 9)
    (d0 : decode code pc = .ok (.aload_n 0, 1)) (d1 : decode code (pc + 1) = .ok (.iload_n 3, 1)) (d2 : decode code (pc + 2) = .ok (.bipush (k : Int), 2)) (d3 : decode code (pc + 4) = .ok (.iadd, 1)) (d4 : decode code (pc + 5) = .ok (.iaload, 1))
    (kk : W p l e room_1 s m #[Value.ref b] below meth c H locs u1 u2 Q (F0 m (pc + 6) Ls (.int (xs (i + k)) :: rest))) : W p l e room_1 s m #[Value.ref b] below meth c H locs u1 u2 Q (F0 m pc Ls rest) := by
  obtain ⟨hx, hb, hml, hown, hts, hX, hbl, hL⟩ := hF
  have hbA : ¬ yA s b := Nat.not_le.mpr hbl
  refine lv_aload_n hx hb d0 rfl (lv_at hl 0 h0) ?_
  refine lv_iload_n hx hb d1 rfl (lv_at hl 3 h3) ?_
  refine lv_bipush (v := nI k) hx hb d2 (lk_c k hk).2 ?_
  refine lv_iadd hx hb d3 ?_
  rw [nI_add]
  refine va_sld hx hb hX hbl hbA hS (vp_in_nI (by omega) (by omega)) d4 ?_
  rw [nI_clamp (by omega)]
  exact kk
end LAW0
/-- both worlds, apart, and their relation -/
def LI (s : State) (D : va_G) (H : Heap) (locs : List Loc) (X Y : gM) (aX : Nat → Nat) (cX : Nat → ClassId) (tX : List (ClassId × FieldType)) (aM : Nat → Nat) (cM : Nat → ClassId) (tM : List (ClassId × FieldType)) : Prop :=
  (va_K D vwCl tX s ∧ va_P D vwCl (gW aX cX X) H ∧ va_D (yA s) (gW aX cX X) ∧ gTt cX tX X ∧ gmOk X) ∧ (va_K D vwCl tM s ∧ va_P D vwCl (gW aM cM Y) H ∧ va_D (yA s) (gW aM cM Y) ∧ gTt cM tM Y ∧ gmOk Y) ∧ yApart (gW aX cX X) (gW aM cM Y) ∧ va_S (yA s) s.heap H locs ∧ Rel X Y
theorem LI_S {s : State} {D : va_G} {H : Heap} {locs : List Loc} {X Y : gM} {aX aM : Nat → Nat} {cX cM : Nat → ClassId} {tX tM : List (ClassId × FieldType)} (h : LI s D H locs X Y aX cX tX aM cM tM) : va_S (yA s) s.heap H locs := h.2.2.2.1
theorem Rel_0 {X Y : gM} (h : Rel X Y) : X.2.2[0]? = some (.inl 8) ∧ Y.2.2[0]? = some (.inl 9) := by
  obtain ⟨bn, wd, nc, cl, ns, sy, tn, tp, st, sv, hx, hm, -⟩ := h
  exact ⟨(hx.1 0 (by decide)).trans rfl, (hm.1 0 (by decide)).trans rfl⟩
section LAW1
variable {p : Program} {l : Launch} {e : Env} {s : State} {m : MethodId} {below : List Frame} {meth : Method} {c : Code} {H : Heap} {locs : List Loc} {Q : State → Prop}
variable {Ls : Array Slot} {u1 u2 b L : Nat} {xs : Nat → Int32} {D : va_G} {X Y : gM} {aX aM : Nat → Nat} {cX cM : Nat → ClassId} {tX tM : List (ClassId × FieldType)}
/-- a case of the law: the class's call, the reference's, the comparison -/
theorem lcase {jx jm ix im px pm na : Nat} {off : Int} {as : List Value} (hF : LF p s m c b L xs) (hI : LI s D H locs X Y aX cX tX aM cM tM) (hpr : Pr jx jm as)
    (hj : (jx < gNM ∧ gst jx = false ∧ (gy jx).name ≠ "<init>" ∧ gow jx = 8) ∧ (jm < gNM ∧ gst jm = false ∧ (gy jm).name ≠ "<init>" ∧ gow jm = 9) ∧ (gna jx = na ∧ gna jm = na) ∧ gmc jx + gmc jm ≤ 2 ∧ gms jx + gms jm ≤ 250) (hna : as.length = na)
    (has : ∀ v ∈ as, ∃ i, v = Value.int i)
    (wx : Cond.methodLink RL ix (gy jx) ∈ lw_tbl) (wm : Cond.methodLink RL im (gy jm) ∈ lw_tbl) (dx : decode code px = .ok (.invokevirtual ix, 3)) (dm : decode code pm = .ok (.invokevirtual im, 3)) (dc : decode code (pm + 3) = .ok (.if_icmp .eq off, 3)) (ht : ((pm + 3 : Nat) : Int) + off = ((1012 : Nat) : Int))
    (hLs : Ls.size = 4) (hu : u1 + 2 ≤ 600000 ∧ u2 + 250 ≤ 7302250)
    (mid : ∀ (H1 : Heap) (locs1 : List Loc) (k1 k2 : Nat) (v : Int32), va_S (yA s) s.heap H1 locs1 → W p l e room_1 s m #[Value.ref b] below meth c H1 locs1 k1 k2 Q (F0 m pm Ls (as.reverse ++ .ref (aM 0) :: [.int v])) → W p l e room_1 s m #[Value.ref b] below meth c H1 locs1 k1 k2 Q (F0 m (px + 3) Ls [.int v]))
    (kk : ∀ (H1 : Heap) (locs1 : List Loc) (X1 Y1 : gM) (aX1 : Nat → Nat) (cX1 : Nat → ClassId) (tX1 : List (ClassId × FieldType)) (aM1 : Nat → Nat) (cM1 : Nat → ClassId) (tM1 : List (ClassId × FieldType)), LI s D H1 locs1 X1 Y1 aX1 cX1 tX1 aM1 cM1 tM1 → aX1 0 = aX 0 → aM1 0 = aM 0 → W p l e room_1 s m #[Value.ref b] below meth c H1 locs1 (u1 + 2) (u2 + 250) Q (F0 m 1012 Ls [])) :
    W p l e room_1 s m #[Value.ref b] below meth c H locs u1 u2 Q (F0 m px Ls (as.reverse ++ .ref (aX 0) :: [])) := by
  obtain ⟨⟨hK1, hP1, hD1, hT1, hO1⟩, ⟨hK2, hP2, hD2, hT2, hO2⟩, hap, hS, hR⟩ := hI
  obtain ⟨⟨j1, j2, j3, j4⟩, ⟨i1, i2, i3, i4⟩, ⟨n1, n2⟩, c1, c2⟩ := hj
  obtain ⟨hx0, hy0⟩ := Rel_0 hR
  obtain ⟨n, r, X1, g1, n', r', Y1, g2, ⟨v, rfl⟩, rfl, hR1⟩ := hpr X Y hR
  refine lcall hF j1 j2 j3 (by omega) (hF.2.2.2.2.1 _ wx) dx g1 has (hna.trans n1.symm) (by rw [j4]; exact hx0) hO1 (Nat.zero_le _) hLs ⟨by omega, by omega⟩ hK1 hP1 hD1 hT1 hS hP2 hap (fun aX1 cX1 tX1 H1 locs1 e1 k1 k2 k3 k4 k5 k6 k7 k8 => ?_)
  refine mid H1 locs1 _ _ v k6 ?_
  refine lcall hF i1 i2 i3 (by omega) (hF.2.2.2.2.1 _ wm) dm g2 has (hna.trans n2.symm) (by rw [i4]; exact hy0) hO2 (Nat.le_of_ble_eq_true rfl) hLs ⟨by omega, by omega⟩ hK2 k7 hD2 hT2 k6 k2 (yApart_sym k8) (fun aM1 cM1 tM1 H2 locs2 e2 m1 m2 m3 m4 m5 m6 m7 m8 => ?_)
  refine lv_icmp_eq (tgt := 1012) hF.1 hF.2.1 dc ht (fun _ => ?_) (fun hne => absurd rfl hne)
  refine W.widen (k := u1 + 2) (n := u2 + 250) (by omega) (by omega) ?_
  exact kk H2 locs2 X1 Y1 aX1 cX1 tX1 aM1 cM1 tM1 ⟨⟨k1, m7, k3, k4, k5⟩, ⟨m1, m2, m3, m4, m5⟩, yApart_sym m8, m6, hR1⟩ e1 e2
end LAW1
