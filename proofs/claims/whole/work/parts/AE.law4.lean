/-! The law from its entry. -/
theorem law_D {s : State} {b : Nat} (hts : ∀ w ∈ gWl, w.before #[Value.ref b] s = true) : ∃ D : va_G, va_K D vwCl [] s := by
  have h9 : ∀ c, c < 10 → (gCl c).1 = gRn c := by decide +kernel
  have hc : ∀ ci, ∃ (cC : ClassId) (iS : Nat → Nat), ci < 10 → u_Kn s (gCl ci).1 (gCl ci).2.1 (gCl ci).2.2 cC iS := by
    intro ci
    by_cases h : ci < 10
    · obtain ⟨cC, iS, h1⟩ := u_known (C := (gCl ci).1) (T := (gCl ci).2.1) (N := (gCl ci).2.2) (n := gN ci) hts (gCl_in h) (by rw [h9 ci h]; exact hts _ (gWl_I h))
      exact ⟨cC, iS, fun _ => h1⟩
    · exact ⟨0, fun _ => 0, fun q => absurd q h⟩
  refine ⟨(fun ci => (hc ci).choose, fun ci => (hc ci).choose_spec.choose), fun k q hq => ?_, fun k q h => by simp at h⟩
  have hk : k < 10 := (List.getElem?_eq_some_iff.mp hq).1
  rw [gCl_at hk] at hq
  cases hq
  exact (hc k).choose_spec.choose_spec hk
theorem gW_0 (q ci : Nat) : gW (fun _ => q) (fun _ => 0) (gM0 ci) = [(q, .inr (ci, (List.range (gN ci)).map (fun k => if gisR ci k then Value.null else .int 0)))] := rfl
theorem gTt_0 (ci : Nat) : gTt (fun _ => 0) [] (gM0 ci) := fun q t n h => by
  cases q with
  | zero => cases h
  | succ q => cases h
theorem gmOk_0 (ci : Nat) : gmOk (gM0 ci) := fun q k a h => by cases h
theorem def_0 {ci : Nat} (hci : ci < 10) : ∀ k, k < (gCl ci).2.2 → defaultValue (gty ci k) = vp_V ((List.range (gN ci)).map (fun k => if gisR ci k then Value.null else .int 0)) k := fun k hk => by
  rw [default_ty hci hk]
  unfold vp_V
  rw [List.getD_eq_getElem?_getD, List.getElem?_map, List.getElem?_range (show k < gN ci from hk)]
  rfl
theorem app_l {w1 w2 : va_W} {k : Nat} {q : Nat × va_E} (h : w1[k]? = some q) : (w1 ++ w2)[k]? = some q := by
  rw [List.getElem?_append_left (List.getElem?_eq_some_iff.mp h).1]; exact h
theorem app_r {w1 w2 : va_W} {k : Nat} {q : Nat × va_E} (h : w2[k]? = some q) : (w1 ++ w2)[w1.length + k]? = some q := by
  rw [List.getElem?_append_right (Nat.le_add_right _ _), Nat.add_sub_cancel_left]; exact h
theorem split_P {D : va_G} {cl : List vw_C} {w1 w2 : va_W} {H : Heap} (h : va_P D cl (w1 ++ w2) H) : va_P D cl w1 H ∧ va_P D cl w2 H := ⟨fun k q hq => h k q (app_l hq), fun k q hq => h _ q (app_r hq)⟩
theorem split_D {A : Nat → Prop} {w1 w2 : va_W} (h : va_D A (w1 ++ w2)) : va_D A w1 ∧ va_D A w2 ∧ yApart w1 w2 :=
  ⟨⟨fun i j p q h1 h2 h3 => h.1 i j p q (app_l h1) (app_l h2) h3, fun k q hq => h.2 k q (app_l hq)⟩, ⟨fun i j p q h1 h2 h3 => by have := h.1 _ _ p q (app_r h1) (app_r h2) h3; omega, fun k q hq => h.2 _ q (app_r hq)⟩, fun i j p q h1 h2 h3 => by
    have h4 := h.1 _ _ p q (app_l h1) (app_r h2) h3
    have h5 := (List.getElem?_eq_some_iff.mp h1).1
    omega⟩
theorem g_nums : (gmc 85 = 48 ∧ gms 85 = 8445 ∧ gmc 119 = 47 ∧ gms 119 = 15758) ∧ (gCl 8).2.2 = 16 ∧ (gCl 9).2.2 = 72 := by decide +kernel
set_option maxHeartbeats 4000000 in
/-- the law, from its entry -/
theorem whole_start {p : Program} {e : Env} {s : State} {m : MethodId} {below : List Frame} {meth : Method} {c : Code} (l : Launch) (hflags : l.flags = flags0) {b L : Nat} {xs : Nat → Int32} (hL : L ≤ 4608) (C0 : lw_At p s m meth c b L xs) : W p l e room_1 s m #[Value.ref b] below meth c s.heap [] 0 0 (lw_Z below #[Value.ref b] s) (entryFrame m ([Value.ref b] : List Value).toArray 4) := by
  obtain ⟨hx, hb, hr, hml, hown, hts, hX, hbl, hlocks, hgv⟩ := C0
  have hF : LF p s m c b L xs := ⟨hx, hb, hml, hown, hts, hX, hbl, hL⟩
  have htw := (LF_ao hF).2.2.2
  obtain ⟨D, hK⟩ := law_D htw
  obtain ⟨⟨n1, n2, n3, n4⟩, n5, n6⟩ := g_nums
  obtain ⟨X, hX1, hX2, hX3⟩ := x_start
  obtain ⟨Y, hY1, hY2, hY3⟩ := m_start
  have hR : Rel X Y := rel0 hX2 hY2 hX3 hY3
  have hA : ∀ q : Nat, s.heap.size ≤ q → yA s q := fun _ h => h
  have hS : va_S (yA s) s.heap s.heap [] := va_S.rf
  have hP : va_P D vwCl [] s.heap := fun k q h => by simp at h
  have hD : va_D (yA s) [] := ⟨fun i j p q h => by simp at h, fun k q h => by simp at h⟩
  have hl := lv_entry ([.ref b]) (n := 4) (Nat.le_of_ble_eq_true rfl)
  rw [lg_entry_eq]
  generalize (lg_sl ([.ref b]) ++ List.replicate (4 - (lg_sl ([.ref b])).length) Slot.unset).toArray = ls at hl ⊢
  have hl : lv_has ls 4 [(0, .ref b)] := hl
  refine va_new (D := D) (ci := 8) (fs := (List.range (gN 8)).map (fun k => if gisR 8 k then Value.null else .int 0)) (C := (gCl 8).1) (T := (gCl 8).2.1) (N := (gCl 8).2.2) hx hb htw (gCl_in (by decide)) (gty 8) (gCl_ty (by decide)) hown (hts _ wL_0) (htw _ (gWl_I (ci := 8) (by decide))) (htw _ (gWl_J (o := 8) (by decide))) hK hP hD hS hA (gCl_at (by decide)) (def_0 (by decide)) (by show 0 + 1 ≤ 600000; omega) (by show 0 + (gCl 8).2.2 ≤ 7302250; omega) dL_0 (fun q1 H1 hP1 hD1 hS1 => ?_)
  refine lv_dup hx hb dL_3 rfl ?_
  refine linit (ad := fun _ => q1) (ca := fun _ => 0) (tys := []) (M := gM0 8) (M' := X) (wr := []) (k := 85) hF (by decide) (by decide +kernel) (by decide +kernel) (by decide +kernel) (by decide +kernel) (hts _ wL_4) dL_4 hX1 (by decide) (gmOk_0 8) (Nat.le_of_ble_eq_true rfl) hl.1 ⟨by omega, by omega⟩ hK (by rw [gW_0]; exact hP1) (by rw [gW_0]; exact hD1) (gTt_0 8) hS1 (fun k q h => by simp at h) (fun i j p q h1 h2 => by simp at h2) (fun aX cX tX H2 locs2 ea k1 k2 k3 k4 k5 k6 _ _ => ?_)
  refine lv_astore_n (lv' := [(1, .ref q1), (0, .ref b)]) hx hb dL_7 rfl hl (by decide) rfl (fun ls hl => ?_)
  refine va_new (D := D) (tys := tX) (ws := gW aX cX X) (ci := 9) (fs := (List.range (gN 9)).map (fun k => if gisR 9 k then Value.null else .int 0)) (C := (gCl 9).1) (T := (gCl 9).2.1) (N := (gCl 9).2.2) hx hb htw (gCl_in (by decide)) (gty 9) (gCl_ty (by decide)) hown (hts _ wL_8) (htw _ (gWl_I (ci := 9) (by decide))) (htw _ (gWl_J (o := 9) (by decide))) k1 k2 k3 k6 hA (gCl_at (by decide)) (def_0 (by decide)) (by show 0 + 1 + gmc 85 + 1 ≤ 600000; omega) (by show 0 + (gCl 8).2.2 + gms 85 + (gCl 9).2.2 ≤ 7302250; omega) dL_8 (fun q2 H3 hP3 hD3 hS3 => ?_)
  obtain ⟨hP4, hP5⟩ := split_P hP3
  obtain ⟨hD4, hD5, hap⟩ := split_D hD3
  refine lv_dup hx hb dL_11 rfl ?_
  refine linit (ad := fun _ => q2) (ca := fun _ => 0) (tys := []) (M := gM0 9) (M' := Y) (wr := gW aX cX X) (k := 119) hF (by decide) (by decide +kernel) (by decide +kernel) (by decide +kernel) (by decide +kernel) (hts _ wL_12) dL_12 hY1 (by decide) (gmOk_0 9) (Nat.le_of_ble_eq_true rfl) hl.1 ⟨by omega, by omega⟩ hK (by rw [gW_0]; exact hP5) (by rw [gW_0]; exact hD5) (gTt_0 9) hS3 hP4 (by rw [gW_0]; exact yApart_sym hap) (fun aM cM tM H4 locs4 eb m1 m2 m3 m4 m5 m6 m7 m8 => ?_)
  refine lv_astore_n (lv' := [(2, .ref q2), (1, .ref q1), (0, .ref b)]) hx hb dL_15 rfl hl (by decide) rfl (fun ls hl => ?_)
  refine lv_iconst (v := nI 0) hx hb dL_16 (by decide) ?_
  refine lv_istore_n (lv' := [(3, .int (nI 0)), (2, .ref q2), (1, .ref q1), (0, .ref b)]) hx hb dL_17 rfl hl (by decide) rfl (fun ls hl => ?_)
  refine W.widen (k := 97 + 2 * 0) (n := 24291 + 250 * 0) (by omega) (by omega) ?_
  exact law_loop hF hr hlocks (L + 1) 0 (Nat.zero_le L) (by omega) X Y aX cX tX aM cM tM H4 locs4 ls ⟨⟨k1, m7, k3, k4, k5⟩, ⟨m1, m2, m3, m4, m5⟩, yApart_sym m8, m6, hR⟩ (by rw [ea, eb]; exact lv_sub hl [3, 2, 1, 0] rfl)
