/-! The heap's instructions are met by the machine. -/
section GHEAP
variable {p : Program} {l : Launch} {e : Env} {R : Room} {s : State} {m : MethodId} {args : Array Value} {below : List Frame} {meth : Method} {c : Code} {H : Heap} {locs : List Loc} {Q : State → Prop}
variable {cc : ByteArray} {pc len : Nat} {Ls : Array Slot} {i : Instr} {j u1 u2 : Nat} {D : va_G} {A : Nat → Prop} {H0 : Heap} {ad : Nat → Nat} {ca : Nat → ClassId} {tys : List (ClassId × FieldType)} {M : gM}
theorem gc_if (ad : Nat → Nat) (b : Bool) (r : Option Nat) (x : Int32) : gc ad (if b then va_rf r else .int x) = if b then va_rf (r.map ad) else .int x := by
  cases b
  · rfl
  · exact gc_rf ad r
theorem gFs_at {q ci k : Nat} (hk : k < gN ci) : (gFs ad M q ci)[k]? = some (if gisR ci k then va_rf ((M.2.1 q k).map ad) else .int (M.1 q k)) := by
  unfold gFs
  rw [List.getElem?_map, List.getElem?_range hk]
  rfl
theorem gFs_len {q ci : Nat} : (gFs ad M q ci).length = gN ci := by simp [gFs]
theorem gput_W {idx o ci k : Nat} {v' : Value} {rest : List Value} {M' : gM} (hx : p.tables.exec = Jvm.exec) (hb : c.code = cc) (hts : ∀ w ∈ gWl, w.before args s = true) (hown : s.vm.findClass (gRn (gow j)) = some m.cls) (hnm : meth.name = (gy j).name)
    (hf : gfld (gow j) idx = some (ci, k)) (hM : M.2.2[o]? = some (.inl ci)) (hfin : gfin ci k = false ∨ ((gy j).name = "<init>" ∧ gow j = ci)) (hn : narrow (gty ci k) v' = v') (hfit : fits (gty ci k) v' = true)
    (hE : gFs ad M' o ci = (gFs ad M o ci).set k v') (hs : M'.2.2 = M.2.2) (ho : ∀ q', q' ≠ o → M'.1 q' = M.1 q' ∧ M'.2.1 q' = M.2.1 q') (hrel : gRel D A H0 s ad ca tys M H locs) (hdg : decode cc pc = .ok (.putfield idx, 3))
    (kk : ∀ H1 locs1, gRel D A H0 s ad ca tys M' H1 locs1 → W p l e R s m args below meth c H1 locs1 u1 u2 Q (F0 m (pc + 3) Ls rest)) : W p l e R s m args below meth c H locs u1 u2 Q (F0 m pc Ls (v' :: .ref (ad o) :: rest)) := by
  obtain ⟨hK, hP, hD, hS, hT⟩ := hrel
  obtain ⟨hci, hk, hd, hl⟩ := gfld_ok hf
  have hlt : o < M.2.2.length := (List.getElem?_eq_some_iff.mp hM).1
  have he : (gW ad ca M)[o]? = some (ad o, .inr (ci, gFs ad M o ci)) := by rw [gW_at hlt, gE_obj hM]
  have hM' : M'.2.2[o]? = some (.inl ci) := by rw [hs]; exact hM
  have hset : (gW ad ca M).set o (ad o, .inr (ci, (gFs ad M o ci).set k v')) = gW ad ca M' := gW_set hlt hs (by rw [gE_obj hM', hE]) ho
  have hl2 : (Cond.fieldLink (gRn (gow j)) idx ((gCl ci).2.1 k).1 ((gCl ci).2.1 k).2.1 ((gCl ci).2.1 k).2.2.1).before args s = true := by rw [hd]; exact hts _ hl
  cases hq : gfin ci k with
  | false =>
    refine va_put (D := D) hx hb hts (gCl_in hci) (gty ci) (gCl_ty hci) (gCl_nm hci) hown hK hP hD hS o he (gCl_at hci) k hk hl2 (fun _ h9 => h9) hq (gCl_ty hci k hk) hn hfit (by rw [gFs_len]; exact hk) hdg (fun H1 locs1 hP1 hD1 hS1 => kk H1 locs1 ⟨hK, by rw [← hset]; exact hP1, by rw [← hset]; exact hD1, hS1, gTt_same hs hT⟩)
  | true =>
    rcases hfin with hfin | ⟨h1, h2⟩
    · rw [hfin] at hq; cases hq
    · refine va_putF (D := D) hx hb hts (gCl_in hci) (gty ci) (gCl_ty hci) (gCl_nm hci) hown hK hP hD hS o he (gCl_at hci) k hk hl2 (fun _ h9 => h9) hq (by rw [hnm]; exact h1) (by rw [hd, h2]) (gCl_ty hci k hk) hn hfit (by rw [gFs_len]; exact hk) hdg (fun H1 locs1 hP1 hD1 hS1 => kk H1 locs1 ⟨hK, by rw [← hset]; exact hP1, by rw [← hset]; exact hD1, hS1, gTt_same hs hT⟩)
theorem gsI_o {M : gM} {o k : Nat} {x : Int32} : ∀ q', q' ≠ o → (gsI M o k x).1 q' = M.1 q' ∧ (gsI M o k x).2.1 q' = M.2.1 q' := fun q' hq => ⟨funext fun b => by simp [gsI, hq], rfl⟩
theorem gsR_o {M : gM} {o k : Nat} {r : Option Nat} : ∀ q', q' ≠ o → (gsR M o k r).1 q' = M.1 q' ∧ (gsR M o k r).2.1 q' = M.2.1 q' := fun q' hq => ⟨rfl, funext fun b => by simp [gsR, hq]⟩
theorem gFs_sI {o k ci : Nat} {x : Int32} (h : gisR ci k = false) : gFs ad (gsI M o k x) o ci = (gFs ad M o ci).set k (.int x) := by
  unfold gFs
  refine map_set fun i => ?_
  by_cases hi : i = k
  · subst hi
    simp [h, gsI]
  · simp [hi, gsI]
theorem gFs_sR {o k ci : Nat} {r : Option Nat} (h : gisR ci k = true) : gFs ad (gsR M o k r) o ci = (gFs ad M o ci).set k (va_rf (r.map ad)) := by
  unfold gFs
  refine map_set fun i => ?_
  by_cases hi : i = k
  · subst hi
    simp [h, gsR]
  · simp [hi, gsR]
theorem gc_gU {v : Value} (h : gisRef v = true) : gc ad v = va_rf ((gU v).map ad) := by cases v <;> first | rfl | cases h
theorem default_ty {ci k : Nat} (hc : ci < 10) (hk : k < gN ci) : defaultValue (gty ci k) = if gisR ci k then .null else .int 0 := by
  unfold gisR
  rcases gty_kinds hc hk with h | h | ⟨n, h⟩ | ⟨t, h⟩ <;> rw [h] <;> rfl
theorem rf_narO (n : String) (r : Option Nat) : narrow (.object n) (va_rf r) = va_rf r := by cases r <;> rfl
theorem rf_fitO (n : String) (r : Option Nat) : fits (.object n) (va_rf r) = true := by cases r <;> rfl
theorem rf_narA (n : FieldType) (r : Option Nat) : narrow (.array n) (va_rf r) = va_rf r := by cases r <;> rfl
theorem rf_fitA (n : FieldType) (r : Option Nat) : fits (.array n) (va_rf r) = true := by cases r <;> rfl
theorem upd_eq {f : Nat → Int32} {k : Nat} {x : Int32} {o : Nat} (h : M.1 o = f) : (gsI M o k x).1 o = upd f k x := by
  funext b
  subst h
  simp [gsI, upd]
theorem gHeap_ok {st st' : List Value} {M' : gM} {v1 v2 : Nat} (hx : p.tables.exec = Jvm.exec) (hb : c.code = cc) (hts : ∀ w ∈ gWl, w.before args s = true) (hown : s.vm.findClass (gRn (gow j)) = some m.cls) (hnm : meth.name = (gy j).name) (hA0 : va_AO RX0 s) (hA7 : va_AO RX7 s) (hA : ∀ q, H0.size ≤ q → A q)
    (hR1 : R.cells = gmc j) (hR2 : R.slots = gms j) (hdg : decode cc pc = .ok (i, len)) (h : gHeap j i len st M u1 u2 = some (st', M', v1, v2)) (hrel : gRel D A H0 s ad ca tys M H locs) (hok : gmOk M) (hst : ∀ v ∈ st, gvOk M.2.2.length v)
    (kk : ∀ ad' ca' tys' H1 locs1, (∀ q, q < M.2.2.length → ad' q = ad q) → gRel D A H0 s ad' ca' tys' M' H1 locs1 → W p l e R s m args below meth c H1 locs1 v1 v2 Q (F0 m (pc + len) Ls (st'.map (gc ad')))) :
    W p l e R s m args below meth c H locs u1 u2 Q (F0 m pc Ls (st.map (gc ad))) := by
  have hrel0 := hrel
  obtain ⟨hK, hP, hD, hS, hT⟩ := hrel
  unfold gHeap at h
  split at h
  -- getfield
  · rename_i idx o st0
    split at h
    · rename_i ci k hf
      split at h
      · rename_i hM
        cases h
        obtain ⟨hci, hk, hd, hl⟩ := gfld_ok hf
        have hlt : o < M.2.2.length := (List.getElem?_eq_some_iff.mp hM).1
        have he : (gW ad ca M)[o]? = some (ad o, .inr (ci, gFs ad M o ci)) := by rw [gW_at hlt, gE_obj hM]
        have hl2 : (Cond.fieldLink (gRn (gow j)) idx ((gCl ci).2.1 k).1 ((gCl ci).2.1 k).2.1 ((gCl ci).2.1 k).2.2.1).before args s = true := by rw [hd]; exact hts _ hl
        have k2 := kk ad ca tys H locs (fun _ _ => rfl) hrel0
        rw [List.map_cons, gc_if] at k2
        exact va_get (D := D) hx hb hts (gCl_in hci) hown hK hP o he (gCl_at hci) k hk hl2 (fun _ h9 => h9) (gFs_at hk) hdg k2
      · cases h
    · cases h
  -- putfield
  · rename_i idx v o st0
    split at h
    · rename_i ci k hf
      split at h
      · rename_i hM
        obtain ⟨M1, hp, h2⟩ := Option.map_eq_some_iff.mp h
        cases h2
        unfold gPut at hp
        split at hp
        · rename_i ty x hty
          cases hp
          exact gput_W hx hb hts hown hnm hf hM.1 hM.2 (by rw [hty]; rfl) (by rw [hty]; rfl) (gFs_sI (by unfold gisR; rw [hty])) rfl gsI_o hrel0 hdg (fun H1 locs1 h1 => kk ad ca tys H1 locs1 (fun _ _ => rfl) h1)
        · rename_i ty x hty
          split at hp
          · rename_i hx01
            cases hp
            exact gput_W hx hb hts hown hnm hf hM.1 hM.2 (by rw [hty]; rcases hx01 with rfl | rfl <;> rfl) (by rw [hty]; rcases hx01 with rfl | rfl <;> rfl) (gFs_sI (by unfold gisR; rw [hty])) rfl gsI_o hrel0 hdg (fun H1 locs1 h1 => kk ad ca tys H1 locs1 (fun _ _ => rfl) h1)
          · cases hp
        · rename_i ty n v hty
          split at hp
          · rename_i hv
            cases hp
            rw [List.map_cons, List.map_cons, gc_gU hv, gc_ref]
            exact gput_W hx hb hts hown hnm hf hM.1 hM.2 (by rw [hty]; exact rf_narO _ _) (by rw [hty]; exact rf_fitO _ _) (gFs_sR (by unfold gisR; rw [hty])) rfl gsR_o hrel0 hdg (fun H1 locs1 h1 => kk ad ca tys H1 locs1 (fun _ _ => rfl) h1)
          · cases hp
        · rename_i ty n v hty
          split at hp
          · rename_i hv
            cases hp
            rw [List.map_cons, List.map_cons, gc_gU hv, gc_ref]
            exact gput_W hx hb hts hown hnm hf hM.1 hM.2 (by rw [hty]; exact rf_narA _ _) (by rw [hty]; exact rf_fitA _ _) (gFs_sR (by unfold gisR; rw [hty])) rfl gsR_o hrel0 hdg (fun H1 locs1 h1 => kk ad ca tys H1 locs1 (fun _ _ => rfl) h1)
          · cases hp
        · cases hp
      · cases h
    · cases h
  -- iaload
  · rename_i x o st0
    split at h
    · rename_i hc
      cases h
      obtain ⟨hM, hlt⟩ := gTy_ok hc.1
      obtain ⟨-, k, hk⟩ := hT _ _ _ hM
      exact va_iald (D := D) hx hb hK hP o k (by rw [gW_at hlt, gE_arr hM (by decide)]) hk (gIn_iff.mp hc.2) hdg (kk ad ca tys H locs (fun _ _ => rfl) hrel0)
    · cases h
  -- baload
  · rename_i x o st0
    split at h
    · rename_i hc
      cases h
      rcases hc.1 with hc1 | hc1
      · obtain ⟨hM, hlt⟩ := gTy_ok hc1
        obtain ⟨-, k, hk⟩ := hT _ _ _ hM
        exact va_bald (D := D) hx hb hK hP o k (by rw [gW_at hlt, gE_arr hM (by decide)]) hk (gIn_iff.mp hc.2) hdg (kk ad ca tys H locs (fun _ _ => rfl) hrel0)
      · obtain ⟨hM, hlt⟩ := gTy_ok hc1
        obtain ⟨-, k, hk⟩ := hT _ _ _ hM
        exact va_zald (D := D) hx hb hK hP o k (by rw [gW_at hlt, gE_arr hM (by decide)]) hk (gIn_iff.mp hc.2) hdg (kk ad ca tys H locs (fun _ _ => rfl) hrel0)
    · cases h
  -- aaload
  · rename_i x o st0
    split at h
    · rename_i hc
      cases h
      have k2 := kk ad ca tys H locs (fun _ _ => rfl) hrel0
      rw [List.map_cons, gc_rf] at k2
      rcases hc.1 with hc1 | hc1
      · obtain ⟨hM, hlt⟩ := gTy_ok hc1
        obtain ⟨-, k, hk⟩ := hT _ _ _ hM
        exact va_aldq (D := D) hx hb hK hP o k (by rw [gW_at hlt, gE_arrR hM (by decide)]) hk (gIn_iff.mp hc.2) hdg k2
      · obtain ⟨hM, hlt⟩ := gTy_ok hc1
        obtain ⟨-, k, hk⟩ := hT _ _ _ hM
        exact va_aldq (D := D) hx hb hK hP o k (by rw [gW_at hlt, gE_arrR hM (by decide)]) hk (gIn_iff.mp hc.2) hdg k2
    · cases h
  -- iastore
  · rename_i y x o st0
    split at h
    · rename_i hc
      cases h
      obtain ⟨hM, hlt⟩ := gTy_ok hc.1
      obtain ⟨-, k, hk⟩ := hT _ _ _ hM
      have hset : (gW ad ca M).set o (ad o, .inl (ca o, gLen M o, .inl (upd (M.1 o) x.toNatClampNeg y))) = gW ad ca (gsI M o x.toNatClampNeg y) := gW_set hlt rfl (by rw [gE_arr (M := gsI M o _ _) hM (by decide), upd_eq rfl]) gsI_o
      exact va_iast (D := D) hx hb hK hP hD hS o k (by rw [gW_at hlt, gE_arr hM (by decide)]) hk (gIn_iff.mp hc.2) hdg (fun H1 locs1 hP1 hD1 hS1 => kk ad ca tys H1 locs1 (fun _ _ => rfl) ⟨hK, by rw [← hset]; exact hP1, by rw [← hset]; exact hD1, hS1, gTt_same rfl hT⟩)
    · cases h
  -- bastore
  · rename_i y x o st0
    split at h
    · rename_i hin
      split at h
      · rename_i hc
        cases h
        obtain ⟨hM, hlt⟩ := gTy_ok hc
        obtain ⟨-, k, hk⟩ := hT _ _ _ hM
        have hset : (gW ad ca M).set o (ad o, .inl (ca o, gLen M o, .inl (upd (M.1 o) x.toNatClampNeg (vp_nar .byte y)))) = gW ad ca (gsI M o x.toNatClampNeg y.toInt8.toInt32) := gW_set hlt rfl (by rw [gE_arr (M := gsI M o _ _) hM (by decide), upd_eq rfl]; rfl) gsI_o
        exact va_bast (D := D) hx hb hK hP hD hS o k (by rw [gW_at hlt, gE_arr hM (by decide)]) hk (gIn_iff.mp hin) hdg (fun H1 locs1 hP1 hD1 hS1 => kk ad ca tys H1 locs1 (fun _ _ => rfl) ⟨hK, by rw [← hset]; exact hP1, by rw [← hset]; exact hD1, hS1, gTt_same rfl hT⟩)
      · split at h
        · rename_i hc
          cases h
          obtain ⟨hM, hlt⟩ := gTy_ok hc
          obtain ⟨-, k, hk⟩ := hT _ _ _ hM
          have hset : (gW ad ca M).set o (ad o, .inl (ca o, gLen M o, .inl (upd (M.1 o) x.toNatClampNeg (vp_nar .boolean y)))) = gW ad ca (gsI M o x.toNatClampNeg (y &&& 1)) := gW_set hlt rfl (by rw [gE_arr (M := gsI M o _ _) hM (by decide), upd_eq rfl]; rfl) gsI_o
          exact va_zast (D := D) hx hb hK hP hD hS o k (by rw [gW_at hlt, gE_arr hM (by decide)]) hk (gIn_iff.mp hin) hdg (fun H1 locs1 hP1 hD1 hS1 => kk ad ca tys H1 locs1 (fun _ _ => rfl) ⟨hK, by rw [← hset]; exact hP1, by rw [← hset]; exact hD1, hS1, gTt_same rfl hT⟩)
        · cases h
    · cases h
  -- aastore
  · rename_i a x o st0
    split at h
    · rename_i hc
      cases h
      obtain ⟨hc1, hin⟩ := hc
      have key : ∀ (t ci : Nat) (hci : ci < 10) (ht : ¬ t < 3) (htc : gtyA t = .object (gCl ci).1), gTy M o = some t → M.2.2[a]? = some (.inl ci) → W p l e R s m args below meth c H locs u1 u2 Q (F0 m pc Ls ((Value.ref a :: .int x :: .ref o :: st').map (gc ad))) := by
        intro t ci hci ht htc h1 h2
        obtain ⟨hM, hlt⟩ := gTy_ok h1
        obtain ⟨-, k, hk⟩ := hT _ _ _ hM
        have hla : a < M.2.2.length := (List.getElem?_eq_some_iff.mp h2).1
        have hset : (gW ad ca M).set o (ad o, .inl (ca o, gLen M o, .inr (.inr (.inr (.inr (va_up (fun i => (M.2.1 o i).map ad) x.toNatClampNeg (some (ad a)))))))) = gW ad ca (gsR M o x.toNatClampNeg (some a)) := gW_set hlt rfl (by
          rw [gE_arrR (show (gsR M o x.toNatClampNeg (some a)).2.2[o]? = _ from hM) ht]
          congr 7
          funext b
          by_cases hb9 : b = x.toNatClampNeg
          · subst hb9; simp [gsR, va_up]
          · simp [gsR, va_up, hb9]) gsR_o
        rw [htc] at hk
        exact va_astq (D := D) hx hb hK hP hD hS o k a ci (r := gCl ci) (by rw [gW_at hlt, gE_arrR hM ht]) hk (by rw [gW_at hla, gE_obj h2]) (gCl_at hci) (gIn_iff.mp hin) hdg (fun H1 locs1 hP1 hD1 hS1 => kk ad ca tys H1 locs1 (fun _ _ => rfl) ⟨hK, by rw [← hset]; exact hP1, by rw [← hset]; exact hD1, hS1, gTt_same rfl hT⟩)
      rcases hc1 with ⟨h1, h2⟩ | ⟨h1, h2⟩
      · exact key 3 0 (by decide) (by decide) rfl h1 h2
      · exact key 4 7 (by decide) (by decide) rfl h1 h2
    · cases h
  -- arraylength
  · rename_i o st0
    split at h
    · rename_i hc
      cases h
      obtain ⟨t, ht⟩ := Option.isSome_iff_exists.mp hc
      obtain ⟨hM, hlt⟩ := gTy_ok ht
      obtain ⟨-, k, hk⟩ := hT _ _ _ hM
      by_cases h3 : t < 3
      · exact va_alen (D := D) hx hb hK hP o k (by rw [gW_at hlt, gE_arr hM h3]) hk (v := Int32.ofNat (gLen M o)) rfl hdg (kk ad ca tys H locs (fun _ _ => rfl) hrel0)
      · exact va_alen (D := D) hx hb hK hP o k (by rw [gW_at hlt, gE_arrR hM h3]) hk (v := Int32.ofNat (gLen M o)) rfl hdg (kk ad ca tys H locs (fun _ _ => rfl) hrel0)
    · cases h
  -- new
  · rename_i idx
    split at h
    · rename_i ci hf
      split at h
      · rename_i hu
        cases h
        obtain ⟨hci, h1, h2, h3⟩ := gnew_ok hf
        have hrn : (gCl ci).1 = gRn ci := by
          have h9 : ∀ c, c < 10 → (gCl c).1 = gRn c := by decide +kernel
          exact h9 ci hci
        refine va_new (D := D) (ci := ci) (fs := (List.range (gN ci)).map (fun k => if gisR ci k then Value.null else .int 0)) (C := (gCl ci).1) (T := (gCl ci).2.1) (N := (gCl ci).2.2) hx hb hts (gCl_in hci) (gty ci) (gCl_ty hci) hown (by rw [hrn]; exact hts _ h1) (by rw [hrn]; exact hts _ h2) (by rw [hrn]; exact hts _ h3) hK hP hD hS hA (gCl_at hci) (fun k hk => ?_) (by rw [hR1]; exact hu.1) (by rw [hR2]; exact hu.2) hdg (fun q H1 hP1 hD1 hS1 => ?_)
        · rw [default_ty hci hk]
          unfold vp_V
          rw [List.getD_eq_getElem?_getD, List.getElem?_map, List.getElem?_range (show k < gN ci from hk)]
          rfl
        · have hw := gW_push (ad := ad) (ca := ca) hok (c := .inl ci) (a := q) (cA := 0) (e := .inr (ci, (List.range (gN ci)).map (fun k => if gisR ci k then Value.null else .int 0))) (by
            rw [gE_obj (ci := ci) (by simp [gNew])]
            congr 2
            unfold gFs
            refine List.map_congr_left fun k _ => ?_
            simp [gNew, va_rf])
          have k2 := kk (va_up ad M.2.2.length q) (va_up ca M.2.2.length 0) tys H1 locs (fun z hz => va_up_ne _ _ (by omega)) ⟨hK, by rw [← hw]; exact hP1, by rw [← hw]; exact hD1, hS1, fun z t n hz => ?_⟩
          · rw [List.map_cons, gc_ref, va_up_self, gc_map (n := M.2.2.length) (fun z hz => va_up_ne _ _ (by omega)) hst] at k2
            exact k2
          · simp only [gNew] at hz
            rw [List.getElem?_append] at hz
            split at hz
            · rename_i hlz
              obtain ⟨h5, k, hk⟩ := hT z t n hz
              exact ⟨h5, k, by rw [va_up_ne _ _ (by omega)]; exact hk⟩
            · have := List.mem_of_getElem? hz
              simp at this
      · cases h
    · cases h
  -- newarray
  · rename_i at_ n st0
    split at h
    · rename_i t hf
      split at h
      · rename_i hu
        cases h
        obtain ⟨hn, hN, hu1, hu2⟩ := hu
        have hst0 : ∀ v ∈ st0, gvOk M.2.2.length v := fun v hv => hst v (List.mem_cons_of_mem _ hv)
        have key : ∀ (ty : FieldType), newarray.typeOf at_ = ty → ty = gtyA t → t < 3 → Cond.arrayClass ty ∈ gWl → defaultValue ty = .int 0 → n.toNatClampNeg * componentBytes ty ≤ 536870912 → W p l e R s m args below meth c H locs u1 u2 Q (F0 m pc Ls ((Value.int n :: st0).map (gc ad))) := by
          intro ty hty hta ht3 hw0 hdef hcb
          refine va_newa (D := D) hx hb (by rw [hty]; exact hts _ hw0) hty hK hP hD hS hA (n := n) (N' := n.toNatClampNeg) (a0 := (n.toNatClampNeg, .inl (fun _ => 0))) (fun cA => by rw [hdef]; rfl) hn rfl hcb (by rw [hR1]; exact hu1) (by rw [hR2]; exact hu2) hdg (fun q cA H1 hK1 hP1 hD1 hS1 => ?_)
          have hw := gW_push (ad := ad) (ca := ca) hok (c := .inr (t, n.toNatClampNeg)) (a := q) (cA := cA) (e := .inl (cA, n.toNatClampNeg, .inl (fun _ => 0))) (by
            rw [gE_arr (t := t) (n := n.toNatClampNeg) (by simp [gNew]) ht3, va_up_self]
            congr 4
            funext b
            simp [gNew])
          have k2 := kk (va_up ad M.2.2.length q) (va_up ca M.2.2.length cA) (tys ++ [(cA, ty)]) H1 locs (fun z hz => va_up_ne _ _ (by omega)) ⟨hK1, by rw [← hw]; exact hP1, by rw [← hw]; exact hD1, hS1, fun z t1 n1 hz => ?_⟩
          · rw [List.map_cons, gc_ref, va_up_self, gc_map (n := M.2.2.length) (fun z hz => va_up_ne _ _ (by omega)) hst0] at k2
            exact k2
          · simp only [gNew] at hz
            rw [List.getElem?_append] at hz
            split at hz
            · rename_i hlz
              obtain ⟨h5, k, hk⟩ := hT z t1 n1 hz
              exact ⟨h5, k, by rw [va_up_ne _ _ (by omega), List.getElem?_append_left (List.getElem?_eq_some_iff.mp hk).1]; exact hk⟩
            · rename_i hlz
              have hz0 : z - M.2.2.length < 1 := (List.getElem?_eq_some_iff.mp hz).1
              have hz1 : z = M.2.2.length := by omega
              subst hz1
              rw [Nat.sub_self] at hz
              cases hz
              exact ⟨by omega, tys.length, by rw [va_up_self, List.getElem?_append_right (Nat.le_refl _), Nat.sub_self, hta]; rfl⟩
        unfold gat at hf
        split at hf
        · rename_i h0; cases hf; exact key .int h0 rfl (by decide) gP_int rfl (by show _ * 4 ≤ _; omega)
        · split at hf
          · rename_i h0; cases hf; exact key .byte h0 rfl (by decide) gP_byte rfl (by show _ * 1 ≤ _; omega)
          · split at hf
            · rename_i h0; cases hf; exact key .boolean h0 rfl (by decide) gP_bool rfl (by show _ * 1 ≤ _; omega)
            · cases hf
      · cases h
    · cases h
  -- anewarray
  · rename_i idx n st0
    split at h
    · rename_i t hf
      split at h
      · rename_i hu
        cases h
        obtain ⟨hn, hN, hu1, hu2⟩ := hu
        have hst0 : ∀ v ∈ st0, gvOk M.2.2.length v := fun v hv => hst v (List.mem_cons_of_mem _ hv)
        have key : ∀ (C : String), .object C = gtyA t → ¬ t < 3 → t < 5 → Cond.classLink (gRn (gow j)) idx C ∈ gWl → va_AO C s → W p l e R s m args below meth c H locs u1 u2 Q (F0 m pc Ls ((Value.int n :: st0).map (gc ad))) := by
          intro C hta ht3 ht5 hw0 hao
          refine va_newq (D := D) hx hb hown (hts _ hw0) hao hK hP hD hS hA (n := n) (N' := n.toNatClampNeg) hn rfl (by omega) (by rw [hR1]; exact hu1) (by rw [hR2]; exact hu2) hdg (fun q cA H1 hK1 hP1 hD1 hS1 => ?_)
          have hw := gW_push (ad := ad) (ca := ca) hok (c := .inr (t, n.toNatClampNeg)) (a := q) (cA := cA) (e := .inl (cA, n.toNatClampNeg, .inr (.inr (.inr (.inr (fun _ => none)))))) (by
            rw [gE_arrR (t := t) (n := n.toNatClampNeg) (by simp [gNew]) ht3, va_up_self]
            congr 7
            funext b
            simp [gNew])
          have k2 := kk (va_up ad M.2.2.length q) (va_up ca M.2.2.length cA) (tys ++ [(cA, .object C)]) H1 locs (fun z hz => va_up_ne _ _ (by omega)) ⟨hK1, by rw [← hw]; exact hP1, by rw [← hw]; exact hD1, hS1, fun z t1 n1 hz => ?_⟩
          · rw [List.map_cons, gc_ref, va_up_self, gc_map (n := M.2.2.length) (fun z hz => va_up_ne _ _ (by omega)) hst0] at k2
            exact k2
          · simp only [gNew] at hz
            rw [List.getElem?_append] at hz
            split at hz
            · rename_i hlz
              obtain ⟨h5, k, hk⟩ := hT z t1 n1 hz
              exact ⟨h5, k, by rw [va_up_ne _ _ (by omega), List.getElem?_append_left (List.getElem?_eq_some_iff.mp hk).1]; exact hk⟩
            · rename_i hlz
              have hz0 : z - M.2.2.length < 1 := (List.getElem?_eq_some_iff.mp hz).1
              have hz1 : z = M.2.2.length := by omega
              subst hz1
              rw [Nat.sub_self] at hz
              cases hz
              exact ⟨ht5, tys.length, by rw [va_up_self, List.getElem?_append_right (Nat.le_refl _), Nat.sub_self, ← hta]; rfl⟩
        rcases gan_ok hf with ⟨rfl, hl⟩ | ⟨rfl, hl⟩
        · exact key RX0 rfl (by decide) (by decide) hl hA0
        · exact key RX7 rfl (by decide) (by decide) hl hA7
      · cases h
    · cases h
  -- ldc
  · split at h
    · rename_i hu
      cases h
      obtain ⟨h2, rfl⟩ := hu
      rw [h2] at hown
      exact lv_ldc hx hb hown (hts _ gP_const) hdg (kk ad ca tys H locs (fun _ _ => rfl) hrel0)
    · cases h
  · cases h
end GHEAP
