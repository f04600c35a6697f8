/-! The fixed cells of the class's object (0 .. 48) and of the reference's (0 .. 47). By program (wip/whole/statics.py). -/
def gHas (SH : List (Nat ⊕ (Nat × Nat))) (RF : List (Nat × Nat × Nat)) (M : gM) : Prop := (∀ i : Nat, i < SH.length → M.2.2[i]? = SH[i]?) ∧ ∀ e ∈ RF, M.2.1 e.1 e.2.1 = some e.2.2
theorem gHas_obj {SH RF M} {i ci : Nat} (h : gHas SH RF M) (hi : SH[i]? = some (.inl ci)) : gObj M i ci := by
  unfold gObj
  rw [h.1 i (List.getElem?_eq_some_iff.mp hi).1]
  exact hi
theorem gHas_ar {SH RF M} {i t n : Nat} (h : gHas SH RF M) (hi : SH[i]? = some (.inr (t, n))) : gAr M i t := by
  unfold gAr gTy
  rw [h.1 i (List.getElem?_eq_some_iff.mp hi).1, hi]
theorem gHas_len {SH RF M} {i t n : Nat} (h : gHas SH RF M) (hi : SH[i]? = some (.inr (t, n))) : gLen M i = n := by
  unfold gLen
  rw [h.1 i (List.getElem?_eq_some_iff.mp hi).1, hi]
theorem gHas_rf {SH RF M} {o k r : Nat} (h : gHas SH RF M) (i : Nat) (hi : RF[i]? = some (o, k, r)) : M.2.1 o k = some r := h.2 _ (List.mem_of_getElem? hi)
theorem gHas_sI {SH RF M} {o k : Nat} {x : Int32} : gHas SH RF (gsI M o k x) ↔ gHas SH RF M := Iff.rfl
theorem gHas_same {SH RF} {M M' : gM} (h : M'.2 = M.2) : gHas SH RF M' ↔ gHas SH RF M := by unfold gHas; rw [h]
theorem gHas_sR {SH RF M} {o k : Nat} {r : Option Nat} (hk : RF.all (fun e => !(e.1 == o && e.2.1 == k)) = true) (h : gHas SH RF M) : gHas SH RF (gsR M o k r) := by
  refine ⟨h.1, fun e he => ?_⟩
  have h1 := List.all_eq_true.mp hk e he
  have h2 : ¬ (e.1 = o ∧ e.2.1 = k) := fun q => by simp [q.1, q.2] at h1
  rw [gsR_2, if_neg h2]
  exact h.2 e he
theorem gHas_new {SH RF M} {c : Nat ⊕ (Nat × Nat)} (hk : RF.all (fun e => decide (e.1 < SH.length)) = true) (h : gHas SH RF M) (hl : SH.length ≤ M.2.2.length) : gHas SH RF (gNew M c) := by
  refine ⟨fun i hi => ?_, fun e he => ?_⟩
  · rw [← h.1 i hi]
    show (M.2.2 ++ [c])[i]? = _
    rw [List.getElem?_append_left (by omega)]
  · have h1 := List.all_eq_true.mp hk e he
    simp only [decide_eq_true_eq] at h1
    show (if e.1 = M.2.2.length then none else M.2.1 e.1 e.2.1) = some e.2.2
    rw [if_neg (by omega)]
    exact h.2 e he
def XSH : List (Nat ⊕ (Nat × Nat)) := [.inl 8, .inr (0, 48), .inr (3, 6), .inr (4, 10), .inr (0, 120), .inr (0, 48), .inl 6, .inr (0, 120), .inr (0, 248), .inl 2, .inr (0, 32), .inr (0, 3), .inr (0, 3), .inr (0, 3), .inr (0, 0), .inl 1, .inl 4, .inr (0, 400), .inr (0, 400), .inr (0, 400), .inr (0, 400), .inr (0, 400), .inr (0, 400), .inr (0, 400), .inr (0, 400), .inr (0, 8), .inl 1, .inl 4, .inr (0, 400), .inr (0, 400), .inr (0, 400), .inr (0, 400), .inr (0, 400), .inr (0, 400), .inr (0, 400), .inr (0, 400), .inr (0, 8), .inl 3, .inr (0, 48), .inr (2, 400), .inr (0, 400), .inr (0, 64), .inl 5, .inr (0, 64), .inr (0, 64), .inr (0, 128), .inr (0, 128), .inr (0, 4), .inr (0, 4)]
def XRF : List (Nat × Nat × Nat) := [(0, 0, 1), (0, 2, 2), (0, 4, 3), (0, 6, 4), (0, 8, 5), (0, 9, 6), (6, 0, 7), (6, 3, 8), (0, 10, 9), (9, 0, 10), (9, 2, 11), (9, 3, 12), (9, 5, 13), (0, 11, 15), (0, 12, 26), (0, 13, 37), (0, 14, 42), (15, 0, 16), (15, 1, 25), (16, 0, 17), (16, 1, 18), (16, 2, 19), (16, 3, 20), (16, 4, 21), (16, 5, 22), (16, 6, 23), (16, 7, 24), (26, 0, 27), (26, 1, 36), (27, 0, 28), (27, 1, 29), (27, 2, 30), (27, 3, 31), (27, 4, 32), (27, 5, 33), (27, 6, 34), (27, 7, 35), (37, 0, 38), (37, 2, 39), (37, 3, 40), (37, 5, 41), (42, 0, 43), (42, 1, 44), (42, 3, 45), (42, 4, 46), (42, 6, 47), (42, 8, 48)]
def XR (M : gM) : Prop := gHas XSH XRF M
theorem xo0 {M : gM} (h : XR M) : gObj M 0 8 := gHas_obj h rfl
theorem xa1 {M : gM} (h : XR M) : gAr M 1 0 := gHas_ar h rfl
theorem xl1 {M : gM} (h : XR M) : gLen M 1 = 48 := gHas_len h rfl
theorem xs1 {M : gM} (h : XR M) : (gTy M 1).isSome = true := by rw [show gTy M 1 = _ from gHas_ar h rfl]; rfl
theorem xa2 {M : gM} (h : XR M) : gAr M 2 3 := gHas_ar h rfl
theorem xl2 {M : gM} (h : XR M) : gLen M 2 = 6 := gHas_len h rfl
theorem xs2 {M : gM} (h : XR M) : (gTy M 2).isSome = true := by rw [show gTy M 2 = _ from gHas_ar h rfl]; rfl
theorem xa3 {M : gM} (h : XR M) : gAr M 3 4 := gHas_ar h rfl
theorem xl3 {M : gM} (h : XR M) : gLen M 3 = 10 := gHas_len h rfl
theorem xs3 {M : gM} (h : XR M) : (gTy M 3).isSome = true := by rw [show gTy M 3 = _ from gHas_ar h rfl]; rfl
theorem xa4 {M : gM} (h : XR M) : gAr M 4 0 := gHas_ar h rfl
theorem xl4 {M : gM} (h : XR M) : gLen M 4 = 120 := gHas_len h rfl
theorem xs4 {M : gM} (h : XR M) : (gTy M 4).isSome = true := by rw [show gTy M 4 = _ from gHas_ar h rfl]; rfl
theorem xa5 {M : gM} (h : XR M) : gAr M 5 0 := gHas_ar h rfl
theorem xl5 {M : gM} (h : XR M) : gLen M 5 = 48 := gHas_len h rfl
theorem xs5 {M : gM} (h : XR M) : (gTy M 5).isSome = true := by rw [show gTy M 5 = _ from gHas_ar h rfl]; rfl
theorem xo6 {M : gM} (h : XR M) : gObj M 6 6 := gHas_obj h rfl
theorem xa7 {M : gM} (h : XR M) : gAr M 7 0 := gHas_ar h rfl
theorem xl7 {M : gM} (h : XR M) : gLen M 7 = 120 := gHas_len h rfl
theorem xs7 {M : gM} (h : XR M) : (gTy M 7).isSome = true := by rw [show gTy M 7 = _ from gHas_ar h rfl]; rfl
theorem xa8 {M : gM} (h : XR M) : gAr M 8 0 := gHas_ar h rfl
theorem xl8 {M : gM} (h : XR M) : gLen M 8 = 248 := gHas_len h rfl
theorem xs8 {M : gM} (h : XR M) : (gTy M 8).isSome = true := by rw [show gTy M 8 = _ from gHas_ar h rfl]; rfl
theorem xo9 {M : gM} (h : XR M) : gObj M 9 2 := gHas_obj h rfl
theorem xa10 {M : gM} (h : XR M) : gAr M 10 0 := gHas_ar h rfl
theorem xl10 {M : gM} (h : XR M) : gLen M 10 = 32 := gHas_len h rfl
theorem xs10 {M : gM} (h : XR M) : (gTy M 10).isSome = true := by rw [show gTy M 10 = _ from gHas_ar h rfl]; rfl
theorem xa11 {M : gM} (h : XR M) : gAr M 11 0 := gHas_ar h rfl
theorem xl11 {M : gM} (h : XR M) : gLen M 11 = 3 := gHas_len h rfl
theorem xs11 {M : gM} (h : XR M) : (gTy M 11).isSome = true := by rw [show gTy M 11 = _ from gHas_ar h rfl]; rfl
theorem xa12 {M : gM} (h : XR M) : gAr M 12 0 := gHas_ar h rfl
theorem xl12 {M : gM} (h : XR M) : gLen M 12 = 3 := gHas_len h rfl
theorem xs12 {M : gM} (h : XR M) : (gTy M 12).isSome = true := by rw [show gTy M 12 = _ from gHas_ar h rfl]; rfl
theorem xa13 {M : gM} (h : XR M) : gAr M 13 0 := gHas_ar h rfl
theorem xl13 {M : gM} (h : XR M) : gLen M 13 = 3 := gHas_len h rfl
theorem xs13 {M : gM} (h : XR M) : (gTy M 13).isSome = true := by rw [show gTy M 13 = _ from gHas_ar h rfl]; rfl
theorem xa14 {M : gM} (h : XR M) : gAr M 14 0 := gHas_ar h rfl
theorem xl14 {M : gM} (h : XR M) : gLen M 14 = 0 := gHas_len h rfl
theorem xs14 {M : gM} (h : XR M) : (gTy M 14).isSome = true := by rw [show gTy M 14 = _ from gHas_ar h rfl]; rfl
theorem xo15 {M : gM} (h : XR M) : gObj M 15 1 := gHas_obj h rfl
theorem xo16 {M : gM} (h : XR M) : gObj M 16 4 := gHas_obj h rfl
theorem xa17 {M : gM} (h : XR M) : gAr M 17 0 := gHas_ar h rfl
theorem xl17 {M : gM} (h : XR M) : gLen M 17 = 400 := gHas_len h rfl
theorem xs17 {M : gM} (h : XR M) : (gTy M 17).isSome = true := by rw [show gTy M 17 = _ from gHas_ar h rfl]; rfl
theorem xa18 {M : gM} (h : XR M) : gAr M 18 0 := gHas_ar h rfl
theorem xl18 {M : gM} (h : XR M) : gLen M 18 = 400 := gHas_len h rfl
theorem xs18 {M : gM} (h : XR M) : (gTy M 18).isSome = true := by rw [show gTy M 18 = _ from gHas_ar h rfl]; rfl
theorem xa19 {M : gM} (h : XR M) : gAr M 19 0 := gHas_ar h rfl
theorem xl19 {M : gM} (h : XR M) : gLen M 19 = 400 := gHas_len h rfl
theorem xs19 {M : gM} (h : XR M) : (gTy M 19).isSome = true := by rw [show gTy M 19 = _ from gHas_ar h rfl]; rfl
theorem xa20 {M : gM} (h : XR M) : gAr M 20 0 := gHas_ar h rfl
theorem xl20 {M : gM} (h : XR M) : gLen M 20 = 400 := gHas_len h rfl
theorem xs20 {M : gM} (h : XR M) : (gTy M 20).isSome = true := by rw [show gTy M 20 = _ from gHas_ar h rfl]; rfl
theorem xa21 {M : gM} (h : XR M) : gAr M 21 0 := gHas_ar h rfl
theorem xl21 {M : gM} (h : XR M) : gLen M 21 = 400 := gHas_len h rfl
theorem xs21 {M : gM} (h : XR M) : (gTy M 21).isSome = true := by rw [show gTy M 21 = _ from gHas_ar h rfl]; rfl
theorem xa22 {M : gM} (h : XR M) : gAr M 22 0 := gHas_ar h rfl
theorem xl22 {M : gM} (h : XR M) : gLen M 22 = 400 := gHas_len h rfl
theorem xs22 {M : gM} (h : XR M) : (gTy M 22).isSome = true := by rw [show gTy M 22 = _ from gHas_ar h rfl]; rfl
theorem xa23 {M : gM} (h : XR M) : gAr M 23 0 := gHas_ar h rfl
theorem xl23 {M : gM} (h : XR M) : gLen M 23 = 400 := gHas_len h rfl
theorem xs23 {M : gM} (h : XR M) : (gTy M 23).isSome = true := by rw [show gTy M 23 = _ from gHas_ar h rfl]; rfl
theorem xa24 {M : gM} (h : XR M) : gAr M 24 0 := gHas_ar h rfl
theorem xl24 {M : gM} (h : XR M) : gLen M 24 = 400 := gHas_len h rfl
theorem xs24 {M : gM} (h : XR M) : (gTy M 24).isSome = true := by rw [show gTy M 24 = _ from gHas_ar h rfl]; rfl
theorem xa25 {M : gM} (h : XR M) : gAr M 25 0 := gHas_ar h rfl
theorem xl25 {M : gM} (h : XR M) : gLen M 25 = 8 := gHas_len h rfl
theorem xs25 {M : gM} (h : XR M) : (gTy M 25).isSome = true := by rw [show gTy M 25 = _ from gHas_ar h rfl]; rfl
theorem xo26 {M : gM} (h : XR M) : gObj M 26 1 := gHas_obj h rfl
theorem xo27 {M : gM} (h : XR M) : gObj M 27 4 := gHas_obj h rfl
theorem xa28 {M : gM} (h : XR M) : gAr M 28 0 := gHas_ar h rfl
theorem xl28 {M : gM} (h : XR M) : gLen M 28 = 400 := gHas_len h rfl
theorem xs28 {M : gM} (h : XR M) : (gTy M 28).isSome = true := by rw [show gTy M 28 = _ from gHas_ar h rfl]; rfl
theorem xa29 {M : gM} (h : XR M) : gAr M 29 0 := gHas_ar h rfl
theorem xl29 {M : gM} (h : XR M) : gLen M 29 = 400 := gHas_len h rfl
theorem xs29 {M : gM} (h : XR M) : (gTy M 29).isSome = true := by rw [show gTy M 29 = _ from gHas_ar h rfl]; rfl
theorem xa30 {M : gM} (h : XR M) : gAr M 30 0 := gHas_ar h rfl
theorem xl30 {M : gM} (h : XR M) : gLen M 30 = 400 := gHas_len h rfl
theorem xs30 {M : gM} (h : XR M) : (gTy M 30).isSome = true := by rw [show gTy M 30 = _ from gHas_ar h rfl]; rfl
theorem xa31 {M : gM} (h : XR M) : gAr M 31 0 := gHas_ar h rfl
theorem xl31 {M : gM} (h : XR M) : gLen M 31 = 400 := gHas_len h rfl
theorem xs31 {M : gM} (h : XR M) : (gTy M 31).isSome = true := by rw [show gTy M 31 = _ from gHas_ar h rfl]; rfl
theorem xa32 {M : gM} (h : XR M) : gAr M 32 0 := gHas_ar h rfl
theorem xl32 {M : gM} (h : XR M) : gLen M 32 = 400 := gHas_len h rfl
theorem xs32 {M : gM} (h : XR M) : (gTy M 32).isSome = true := by rw [show gTy M 32 = _ from gHas_ar h rfl]; rfl
theorem xa33 {M : gM} (h : XR M) : gAr M 33 0 := gHas_ar h rfl
theorem xl33 {M : gM} (h : XR M) : gLen M 33 = 400 := gHas_len h rfl
theorem xs33 {M : gM} (h : XR M) : (gTy M 33).isSome = true := by rw [show gTy M 33 = _ from gHas_ar h rfl]; rfl
theorem xa34 {M : gM} (h : XR M) : gAr M 34 0 := gHas_ar h rfl
theorem xl34 {M : gM} (h : XR M) : gLen M 34 = 400 := gHas_len h rfl
theorem xs34 {M : gM} (h : XR M) : (gTy M 34).isSome = true := by rw [show gTy M 34 = _ from gHas_ar h rfl]; rfl
theorem xa35 {M : gM} (h : XR M) : gAr M 35 0 := gHas_ar h rfl
theorem xl35 {M : gM} (h : XR M) : gLen M 35 = 400 := gHas_len h rfl
theorem xs35 {M : gM} (h : XR M) : (gTy M 35).isSome = true := by rw [show gTy M 35 = _ from gHas_ar h rfl]; rfl
theorem xa36 {M : gM} (h : XR M) : gAr M 36 0 := gHas_ar h rfl
theorem xl36 {M : gM} (h : XR M) : gLen M 36 = 8 := gHas_len h rfl
theorem xs36 {M : gM} (h : XR M) : (gTy M 36).isSome = true := by rw [show gTy M 36 = _ from gHas_ar h rfl]; rfl
theorem xo37 {M : gM} (h : XR M) : gObj M 37 3 := gHas_obj h rfl
theorem xa38 {M : gM} (h : XR M) : gAr M 38 0 := gHas_ar h rfl
theorem xl38 {M : gM} (h : XR M) : gLen M 38 = 48 := gHas_len h rfl
theorem xs38 {M : gM} (h : XR M) : (gTy M 38).isSome = true := by rw [show gTy M 38 = _ from gHas_ar h rfl]; rfl
theorem xa39 {M : gM} (h : XR M) : gAr M 39 2 := gHas_ar h rfl
theorem xl39 {M : gM} (h : XR M) : gLen M 39 = 400 := gHas_len h rfl
theorem xs39 {M : gM} (h : XR M) : (gTy M 39).isSome = true := by rw [show gTy M 39 = _ from gHas_ar h rfl]; rfl
theorem xa40 {M : gM} (h : XR M) : gAr M 40 0 := gHas_ar h rfl
theorem xl40 {M : gM} (h : XR M) : gLen M 40 = 400 := gHas_len h rfl
theorem xs40 {M : gM} (h : XR M) : (gTy M 40).isSome = true := by rw [show gTy M 40 = _ from gHas_ar h rfl]; rfl
theorem xa41 {M : gM} (h : XR M) : gAr M 41 0 := gHas_ar h rfl
theorem xl41 {M : gM} (h : XR M) : gLen M 41 = 64 := gHas_len h rfl
theorem xs41 {M : gM} (h : XR M) : (gTy M 41).isSome = true := by rw [show gTy M 41 = _ from gHas_ar h rfl]; rfl
theorem xo42 {M : gM} (h : XR M) : gObj M 42 5 := gHas_obj h rfl
theorem xa43 {M : gM} (h : XR M) : gAr M 43 0 := gHas_ar h rfl
theorem xl43 {M : gM} (h : XR M) : gLen M 43 = 64 := gHas_len h rfl
theorem xs43 {M : gM} (h : XR M) : (gTy M 43).isSome = true := by rw [show gTy M 43 = _ from gHas_ar h rfl]; rfl
theorem xa44 {M : gM} (h : XR M) : gAr M 44 0 := gHas_ar h rfl
theorem xl44 {M : gM} (h : XR M) : gLen M 44 = 64 := gHas_len h rfl
theorem xs44 {M : gM} (h : XR M) : (gTy M 44).isSome = true := by rw [show gTy M 44 = _ from gHas_ar h rfl]; rfl
theorem xa45 {M : gM} (h : XR M) : gAr M 45 0 := gHas_ar h rfl
theorem xl45 {M : gM} (h : XR M) : gLen M 45 = 128 := gHas_len h rfl
theorem xs45 {M : gM} (h : XR M) : (gTy M 45).isSome = true := by rw [show gTy M 45 = _ from gHas_ar h rfl]; rfl
theorem xa46 {M : gM} (h : XR M) : gAr M 46 0 := gHas_ar h rfl
theorem xl46 {M : gM} (h : XR M) : gLen M 46 = 128 := gHas_len h rfl
theorem xs46 {M : gM} (h : XR M) : (gTy M 46).isSome = true := by rw [show gTy M 46 = _ from gHas_ar h rfl]; rfl
theorem xa47 {M : gM} (h : XR M) : gAr M 47 0 := gHas_ar h rfl
theorem xl47 {M : gM} (h : XR M) : gLen M 47 = 4 := gHas_len h rfl
theorem xs47 {M : gM} (h : XR M) : (gTy M 47).isSome = true := by rw [show gTy M 47 = _ from gHas_ar h rfl]; rfl
theorem xa48 {M : gM} (h : XR M) : gAr M 48 0 := gHas_ar h rfl
theorem xl48 {M : gM} (h : XR M) : gLen M 48 = 4 := gHas_len h rfl
theorem xs48 {M : gM} (h : XR M) : (gTy M 48).isSome = true := by rw [show gTy M 48 = _ from gHas_ar h rfl]; rfl
theorem xr0_0 {M : gM} (h : XR M) : M.2.1 0 0 = some 1 := gHas_rf h 0 rfl
theorem xr0_2 {M : gM} (h : XR M) : M.2.1 0 2 = some 2 := gHas_rf h 1 rfl
theorem xr0_4 {M : gM} (h : XR M) : M.2.1 0 4 = some 3 := gHas_rf h 2 rfl
theorem xr0_6 {M : gM} (h : XR M) : M.2.1 0 6 = some 4 := gHas_rf h 3 rfl
theorem xr0_8 {M : gM} (h : XR M) : M.2.1 0 8 = some 5 := gHas_rf h 4 rfl
theorem xr0_9 {M : gM} (h : XR M) : M.2.1 0 9 = some 6 := gHas_rf h 5 rfl
theorem xr6_0 {M : gM} (h : XR M) : M.2.1 6 0 = some 7 := gHas_rf h 6 rfl
theorem xr6_3 {M : gM} (h : XR M) : M.2.1 6 3 = some 8 := gHas_rf h 7 rfl
theorem xr0_10 {M : gM} (h : XR M) : M.2.1 0 10 = some 9 := gHas_rf h 8 rfl
theorem xr9_0 {M : gM} (h : XR M) : M.2.1 9 0 = some 10 := gHas_rf h 9 rfl
theorem xr9_2 {M : gM} (h : XR M) : M.2.1 9 2 = some 11 := gHas_rf h 10 rfl
theorem xr9_3 {M : gM} (h : XR M) : M.2.1 9 3 = some 12 := gHas_rf h 11 rfl
theorem xr9_5 {M : gM} (h : XR M) : M.2.1 9 5 = some 13 := gHas_rf h 12 rfl
theorem xr0_11 {M : gM} (h : XR M) : M.2.1 0 11 = some 15 := gHas_rf h 13 rfl
theorem xr0_12 {M : gM} (h : XR M) : M.2.1 0 12 = some 26 := gHas_rf h 14 rfl
theorem xr0_13 {M : gM} (h : XR M) : M.2.1 0 13 = some 37 := gHas_rf h 15 rfl
theorem xr0_14 {M : gM} (h : XR M) : M.2.1 0 14 = some 42 := gHas_rf h 16 rfl
theorem xr15_0 {M : gM} (h : XR M) : M.2.1 15 0 = some 16 := gHas_rf h 17 rfl
theorem xr15_1 {M : gM} (h : XR M) : M.2.1 15 1 = some 25 := gHas_rf h 18 rfl
theorem xr16_0 {M : gM} (h : XR M) : M.2.1 16 0 = some 17 := gHas_rf h 19 rfl
theorem xr16_1 {M : gM} (h : XR M) : M.2.1 16 1 = some 18 := gHas_rf h 20 rfl
theorem xr16_2 {M : gM} (h : XR M) : M.2.1 16 2 = some 19 := gHas_rf h 21 rfl
theorem xr16_3 {M : gM} (h : XR M) : M.2.1 16 3 = some 20 := gHas_rf h 22 rfl
theorem xr16_4 {M : gM} (h : XR M) : M.2.1 16 4 = some 21 := gHas_rf h 23 rfl
theorem xr16_5 {M : gM} (h : XR M) : M.2.1 16 5 = some 22 := gHas_rf h 24 rfl
theorem xr16_6 {M : gM} (h : XR M) : M.2.1 16 6 = some 23 := gHas_rf h 25 rfl
theorem xr16_7 {M : gM} (h : XR M) : M.2.1 16 7 = some 24 := gHas_rf h 26 rfl
theorem xr26_0 {M : gM} (h : XR M) : M.2.1 26 0 = some 27 := gHas_rf h 27 rfl
theorem xr26_1 {M : gM} (h : XR M) : M.2.1 26 1 = some 36 := gHas_rf h 28 rfl
theorem xr27_0 {M : gM} (h : XR M) : M.2.1 27 0 = some 28 := gHas_rf h 29 rfl
theorem xr27_1 {M : gM} (h : XR M) : M.2.1 27 1 = some 29 := gHas_rf h 30 rfl
theorem xr27_2 {M : gM} (h : XR M) : M.2.1 27 2 = some 30 := gHas_rf h 31 rfl
theorem xr27_3 {M : gM} (h : XR M) : M.2.1 27 3 = some 31 := gHas_rf h 32 rfl
theorem xr27_4 {M : gM} (h : XR M) : M.2.1 27 4 = some 32 := gHas_rf h 33 rfl
theorem xr27_5 {M : gM} (h : XR M) : M.2.1 27 5 = some 33 := gHas_rf h 34 rfl
theorem xr27_6 {M : gM} (h : XR M) : M.2.1 27 6 = some 34 := gHas_rf h 35 rfl
theorem xr27_7 {M : gM} (h : XR M) : M.2.1 27 7 = some 35 := gHas_rf h 36 rfl
theorem xr37_0 {M : gM} (h : XR M) : M.2.1 37 0 = some 38 := gHas_rf h 37 rfl
theorem xr37_2 {M : gM} (h : XR M) : M.2.1 37 2 = some 39 := gHas_rf h 38 rfl
theorem xr37_3 {M : gM} (h : XR M) : M.2.1 37 3 = some 40 := gHas_rf h 39 rfl
theorem xr37_5 {M : gM} (h : XR M) : M.2.1 37 5 = some 41 := gHas_rf h 40 rfl
theorem xr42_0 {M : gM} (h : XR M) : M.2.1 42 0 = some 43 := gHas_rf h 41 rfl
theorem xr42_1 {M : gM} (h : XR M) : M.2.1 42 1 = some 44 := gHas_rf h 42 rfl
theorem xr42_3 {M : gM} (h : XR M) : M.2.1 42 3 = some 45 := gHas_rf h 43 rfl
theorem xr42_4 {M : gM} (h : XR M) : M.2.1 42 4 = some 46 := gHas_rf h 44 rfl
theorem xr42_6 {M : gM} (h : XR M) : M.2.1 42 6 = some 47 := gHas_rf h 45 rfl
theorem xr42_8 {M : gM} (h : XR M) : M.2.1 42 8 = some 48 := gHas_rf h 46 rfl
theorem XR_sI {M : gM} {o k : Nat} {x : Int32} : XR (gsI M o k x) ↔ XR M := Iff.rfl
def MSH : List (Nat ⊕ (Nat × Nat)) := [.inl 9, .inr (1, 120), .inr (0, 48), .inr (0, 6), .inr (0, 6), .inr (0, 6), .inr (0, 36), .inr (1, 1200), .inr (0, 10), .inr (0, 10), .inr (0, 800), .inr (0, 800), .inr (0, 800), .inr (0, 800), .inr (0, 800), .inr (0, 800), .inr (0, 800), .inr (0, 4002), .inr (0, 2), .inr (0, 2), .inr (0, 2), .inr (0, 2), .inr (0, 2), .inr (0, 2), .inr (0, 2), .inr (0, 2), .inr (0, 2), .inr (0, 2), .inr (0, 2), .inr (0, 3), .inr (0, 4), .inr (0, 4), .inr (0, 80), .inr (0, 80), .inr (2, 2001), .inr (0, 48), .inr (0, 48), .inr (0, 6), .inr (0, 2001), .inr (0, 320), .inr (0, 5), .inr (0, 5), .inr (0, 5), .inr (0, 5), .inr (0, 5), .inr (0, 4), .inr (0, 4), .inr (0, 64)]
def MRF : List (Nat × Nat × Nat) := [(0, 0, 1), (0, 5, 2), (0, 6, 3), (0, 7, 4), (0, 8, 5), (0, 9, 6), (0, 10, 7), (0, 11, 8), (0, 12, 9), (0, 17, 10), (0, 18, 11), (0, 19, 12), (0, 20, 13), (0, 21, 14), (0, 22, 15), (0, 23, 16), (0, 24, 17), (0, 25, 18), (0, 26, 19), (0, 27, 20), (0, 28, 21), (0, 29, 22), (0, 30, 23), (0, 31, 24), (0, 32, 25), (0, 33, 26), (0, 34, 27), (0, 35, 28), (0, 41, 29), (0, 42, 30), (0, 43, 31), (0, 45, 32), (0, 46, 33), (0, 55, 34), (0, 56, 35), (0, 57, 36), (0, 58, 37), (0, 59, 38), (0, 62, 39), (0, 63, 40), (0, 64, 41), (0, 65, 42), (0, 66, 43), (0, 67, 44), (0, 68, 45), (0, 69, 46), (0, 70, 47)]
def MR (M : gM) : Prop := gHas MSH MRF M
theorem mo0 {M : gM} (h : MR M) : gObj M 0 9 := gHas_obj h rfl
theorem ma1 {M : gM} (h : MR M) : gAr M 1 1 := gHas_ar h rfl
theorem ml1 {M : gM} (h : MR M) : gLen M 1 = 120 := gHas_len h rfl
theorem ms1 {M : gM} (h : MR M) : (gTy M 1).isSome = true := by rw [show gTy M 1 = _ from gHas_ar h rfl]; rfl
theorem ma2 {M : gM} (h : MR M) : gAr M 2 0 := gHas_ar h rfl
theorem ml2 {M : gM} (h : MR M) : gLen M 2 = 48 := gHas_len h rfl
theorem ms2 {M : gM} (h : MR M) : (gTy M 2).isSome = true := by rw [show gTy M 2 = _ from gHas_ar h rfl]; rfl
theorem ma3 {M : gM} (h : MR M) : gAr M 3 0 := gHas_ar h rfl
theorem ml3 {M : gM} (h : MR M) : gLen M 3 = 6 := gHas_len h rfl
theorem ms3 {M : gM} (h : MR M) : (gTy M 3).isSome = true := by rw [show gTy M 3 = _ from gHas_ar h rfl]; rfl
theorem ma4 {M : gM} (h : MR M) : gAr M 4 0 := gHas_ar h rfl
theorem ml4 {M : gM} (h : MR M) : gLen M 4 = 6 := gHas_len h rfl
theorem ms4 {M : gM} (h : MR M) : (gTy M 4).isSome = true := by rw [show gTy M 4 = _ from gHas_ar h rfl]; rfl
theorem ma5 {M : gM} (h : MR M) : gAr M 5 0 := gHas_ar h rfl
theorem ml5 {M : gM} (h : MR M) : gLen M 5 = 6 := gHas_len h rfl
theorem ms5 {M : gM} (h : MR M) : (gTy M 5).isSome = true := by rw [show gTy M 5 = _ from gHas_ar h rfl]; rfl
theorem ma6 {M : gM} (h : MR M) : gAr M 6 0 := gHas_ar h rfl
theorem ml6 {M : gM} (h : MR M) : gLen M 6 = 36 := gHas_len h rfl
theorem ms6 {M : gM} (h : MR M) : (gTy M 6).isSome = true := by rw [show gTy M 6 = _ from gHas_ar h rfl]; rfl
theorem ma7 {M : gM} (h : MR M) : gAr M 7 1 := gHas_ar h rfl
theorem ml7 {M : gM} (h : MR M) : gLen M 7 = 1200 := gHas_len h rfl
theorem ms7 {M : gM} (h : MR M) : (gTy M 7).isSome = true := by rw [show gTy M 7 = _ from gHas_ar h rfl]; rfl
theorem ma8 {M : gM} (h : MR M) : gAr M 8 0 := gHas_ar h rfl
theorem ml8 {M : gM} (h : MR M) : gLen M 8 = 10 := gHas_len h rfl
theorem ms8 {M : gM} (h : MR M) : (gTy M 8).isSome = true := by rw [show gTy M 8 = _ from gHas_ar h rfl]; rfl
theorem ma9 {M : gM} (h : MR M) : gAr M 9 0 := gHas_ar h rfl
theorem ml9 {M : gM} (h : MR M) : gLen M 9 = 10 := gHas_len h rfl
theorem ms9 {M : gM} (h : MR M) : (gTy M 9).isSome = true := by rw [show gTy M 9 = _ from gHas_ar h rfl]; rfl
theorem ma10 {M : gM} (h : MR M) : gAr M 10 0 := gHas_ar h rfl
theorem ml10 {M : gM} (h : MR M) : gLen M 10 = 800 := gHas_len h rfl
theorem ms10 {M : gM} (h : MR M) : (gTy M 10).isSome = true := by rw [show gTy M 10 = _ from gHas_ar h rfl]; rfl
theorem ma11 {M : gM} (h : MR M) : gAr M 11 0 := gHas_ar h rfl
theorem ml11 {M : gM} (h : MR M) : gLen M 11 = 800 := gHas_len h rfl
theorem ms11 {M : gM} (h : MR M) : (gTy M 11).isSome = true := by rw [show gTy M 11 = _ from gHas_ar h rfl]; rfl
theorem ma12 {M : gM} (h : MR M) : gAr M 12 0 := gHas_ar h rfl
theorem ml12 {M : gM} (h : MR M) : gLen M 12 = 800 := gHas_len h rfl
theorem ms12 {M : gM} (h : MR M) : (gTy M 12).isSome = true := by rw [show gTy M 12 = _ from gHas_ar h rfl]; rfl
theorem ma13 {M : gM} (h : MR M) : gAr M 13 0 := gHas_ar h rfl
theorem ml13 {M : gM} (h : MR M) : gLen M 13 = 800 := gHas_len h rfl
theorem ms13 {M : gM} (h : MR M) : (gTy M 13).isSome = true := by rw [show gTy M 13 = _ from gHas_ar h rfl]; rfl
theorem ma14 {M : gM} (h : MR M) : gAr M 14 0 := gHas_ar h rfl
theorem ml14 {M : gM} (h : MR M) : gLen M 14 = 800 := gHas_len h rfl
theorem ms14 {M : gM} (h : MR M) : (gTy M 14).isSome = true := by rw [show gTy M 14 = _ from gHas_ar h rfl]; rfl
theorem ma15 {M : gM} (h : MR M) : gAr M 15 0 := gHas_ar h rfl
theorem ml15 {M : gM} (h : MR M) : gLen M 15 = 800 := gHas_len h rfl
theorem ms15 {M : gM} (h : MR M) : (gTy M 15).isSome = true := by rw [show gTy M 15 = _ from gHas_ar h rfl]; rfl
theorem ma16 {M : gM} (h : MR M) : gAr M 16 0 := gHas_ar h rfl
theorem ml16 {M : gM} (h : MR M) : gLen M 16 = 800 := gHas_len h rfl
theorem ms16 {M : gM} (h : MR M) : (gTy M 16).isSome = true := by rw [show gTy M 16 = _ from gHas_ar h rfl]; rfl
theorem ma17 {M : gM} (h : MR M) : gAr M 17 0 := gHas_ar h rfl
theorem ml17 {M : gM} (h : MR M) : gLen M 17 = 4002 := gHas_len h rfl
theorem ms17 {M : gM} (h : MR M) : (gTy M 17).isSome = true := by rw [show gTy M 17 = _ from gHas_ar h rfl]; rfl
theorem ma18 {M : gM} (h : MR M) : gAr M 18 0 := gHas_ar h rfl
theorem ml18 {M : gM} (h : MR M) : gLen M 18 = 2 := gHas_len h rfl
theorem ms18 {M : gM} (h : MR M) : (gTy M 18).isSome = true := by rw [show gTy M 18 = _ from gHas_ar h rfl]; rfl
theorem ma19 {M : gM} (h : MR M) : gAr M 19 0 := gHas_ar h rfl
theorem ml19 {M : gM} (h : MR M) : gLen M 19 = 2 := gHas_len h rfl
theorem ms19 {M : gM} (h : MR M) : (gTy M 19).isSome = true := by rw [show gTy M 19 = _ from gHas_ar h rfl]; rfl
theorem ma20 {M : gM} (h : MR M) : gAr M 20 0 := gHas_ar h rfl
theorem ml20 {M : gM} (h : MR M) : gLen M 20 = 2 := gHas_len h rfl
theorem ms20 {M : gM} (h : MR M) : (gTy M 20).isSome = true := by rw [show gTy M 20 = _ from gHas_ar h rfl]; rfl
theorem ma21 {M : gM} (h : MR M) : gAr M 21 0 := gHas_ar h rfl
theorem ml21 {M : gM} (h : MR M) : gLen M 21 = 2 := gHas_len h rfl
theorem ms21 {M : gM} (h : MR M) : (gTy M 21).isSome = true := by rw [show gTy M 21 = _ from gHas_ar h rfl]; rfl
theorem ma22 {M : gM} (h : MR M) : gAr M 22 0 := gHas_ar h rfl
theorem ml22 {M : gM} (h : MR M) : gLen M 22 = 2 := gHas_len h rfl
theorem ms22 {M : gM} (h : MR M) : (gTy M 22).isSome = true := by rw [show gTy M 22 = _ from gHas_ar h rfl]; rfl
theorem ma23 {M : gM} (h : MR M) : gAr M 23 0 := gHas_ar h rfl
theorem ml23 {M : gM} (h : MR M) : gLen M 23 = 2 := gHas_len h rfl
theorem ms23 {M : gM} (h : MR M) : (gTy M 23).isSome = true := by rw [show gTy M 23 = _ from gHas_ar h rfl]; rfl
theorem ma24 {M : gM} (h : MR M) : gAr M 24 0 := gHas_ar h rfl
theorem ml24 {M : gM} (h : MR M) : gLen M 24 = 2 := gHas_len h rfl
theorem ms24 {M : gM} (h : MR M) : (gTy M 24).isSome = true := by rw [show gTy M 24 = _ from gHas_ar h rfl]; rfl
theorem ma25 {M : gM} (h : MR M) : gAr M 25 0 := gHas_ar h rfl
theorem ml25 {M : gM} (h : MR M) : gLen M 25 = 2 := gHas_len h rfl
theorem ms25 {M : gM} (h : MR M) : (gTy M 25).isSome = true := by rw [show gTy M 25 = _ from gHas_ar h rfl]; rfl
theorem ma26 {M : gM} (h : MR M) : gAr M 26 0 := gHas_ar h rfl
theorem ml26 {M : gM} (h : MR M) : gLen M 26 = 2 := gHas_len h rfl
theorem ms26 {M : gM} (h : MR M) : (gTy M 26).isSome = true := by rw [show gTy M 26 = _ from gHas_ar h rfl]; rfl
theorem ma27 {M : gM} (h : MR M) : gAr M 27 0 := gHas_ar h rfl
theorem ml27 {M : gM} (h : MR M) : gLen M 27 = 2 := gHas_len h rfl
theorem ms27 {M : gM} (h : MR M) : (gTy M 27).isSome = true := by rw [show gTy M 27 = _ from gHas_ar h rfl]; rfl
theorem ma28 {M : gM} (h : MR M) : gAr M 28 0 := gHas_ar h rfl
theorem ml28 {M : gM} (h : MR M) : gLen M 28 = 2 := gHas_len h rfl
theorem ms28 {M : gM} (h : MR M) : (gTy M 28).isSome = true := by rw [show gTy M 28 = _ from gHas_ar h rfl]; rfl
theorem ma29 {M : gM} (h : MR M) : gAr M 29 0 := gHas_ar h rfl
theorem ml29 {M : gM} (h : MR M) : gLen M 29 = 3 := gHas_len h rfl
theorem ms29 {M : gM} (h : MR M) : (gTy M 29).isSome = true := by rw [show gTy M 29 = _ from gHas_ar h rfl]; rfl
theorem ma30 {M : gM} (h : MR M) : gAr M 30 0 := gHas_ar h rfl
theorem ml30 {M : gM} (h : MR M) : gLen M 30 = 4 := gHas_len h rfl
theorem ms30 {M : gM} (h : MR M) : (gTy M 30).isSome = true := by rw [show gTy M 30 = _ from gHas_ar h rfl]; rfl
theorem ma31 {M : gM} (h : MR M) : gAr M 31 0 := gHas_ar h rfl
theorem ml31 {M : gM} (h : MR M) : gLen M 31 = 4 := gHas_len h rfl
theorem ms31 {M : gM} (h : MR M) : (gTy M 31).isSome = true := by rw [show gTy M 31 = _ from gHas_ar h rfl]; rfl
theorem ma32 {M : gM} (h : MR M) : gAr M 32 0 := gHas_ar h rfl
theorem ml32 {M : gM} (h : MR M) : gLen M 32 = 80 := gHas_len h rfl
theorem ms32 {M : gM} (h : MR M) : (gTy M 32).isSome = true := by rw [show gTy M 32 = _ from gHas_ar h rfl]; rfl
theorem ma33 {M : gM} (h : MR M) : gAr M 33 0 := gHas_ar h rfl
theorem ml33 {M : gM} (h : MR M) : gLen M 33 = 80 := gHas_len h rfl
theorem ms33 {M : gM} (h : MR M) : (gTy M 33).isSome = true := by rw [show gTy M 33 = _ from gHas_ar h rfl]; rfl
theorem ma34 {M : gM} (h : MR M) : gAr M 34 2 := gHas_ar h rfl
theorem ml34 {M : gM} (h : MR M) : gLen M 34 = 2001 := gHas_len h rfl
theorem ms34 {M : gM} (h : MR M) : (gTy M 34).isSome = true := by rw [show gTy M 34 = _ from gHas_ar h rfl]; rfl
theorem ma35 {M : gM} (h : MR M) : gAr M 35 0 := gHas_ar h rfl
theorem ml35 {M : gM} (h : MR M) : gLen M 35 = 48 := gHas_len h rfl
theorem ms35 {M : gM} (h : MR M) : (gTy M 35).isSome = true := by rw [show gTy M 35 = _ from gHas_ar h rfl]; rfl
theorem ma36 {M : gM} (h : MR M) : gAr M 36 0 := gHas_ar h rfl
theorem ml36 {M : gM} (h : MR M) : gLen M 36 = 48 := gHas_len h rfl
theorem ms36 {M : gM} (h : MR M) : (gTy M 36).isSome = true := by rw [show gTy M 36 = _ from gHas_ar h rfl]; rfl
theorem ma37 {M : gM} (h : MR M) : gAr M 37 0 := gHas_ar h rfl
theorem ml37 {M : gM} (h : MR M) : gLen M 37 = 6 := gHas_len h rfl
theorem ms37 {M : gM} (h : MR M) : (gTy M 37).isSome = true := by rw [show gTy M 37 = _ from gHas_ar h rfl]; rfl
theorem ma38 {M : gM} (h : MR M) : gAr M 38 0 := gHas_ar h rfl
theorem ml38 {M : gM} (h : MR M) : gLen M 38 = 2001 := gHas_len h rfl
theorem ms38 {M : gM} (h : MR M) : (gTy M 38).isSome = true := by rw [show gTy M 38 = _ from gHas_ar h rfl]; rfl
theorem ma39 {M : gM} (h : MR M) : gAr M 39 0 := gHas_ar h rfl
theorem ml39 {M : gM} (h : MR M) : gLen M 39 = 320 := gHas_len h rfl
theorem ms39 {M : gM} (h : MR M) : (gTy M 39).isSome = true := by rw [show gTy M 39 = _ from gHas_ar h rfl]; rfl
theorem ma40 {M : gM} (h : MR M) : gAr M 40 0 := gHas_ar h rfl
theorem ml40 {M : gM} (h : MR M) : gLen M 40 = 5 := gHas_len h rfl
theorem ms40 {M : gM} (h : MR M) : (gTy M 40).isSome = true := by rw [show gTy M 40 = _ from gHas_ar h rfl]; rfl
theorem ma41 {M : gM} (h : MR M) : gAr M 41 0 := gHas_ar h rfl
theorem ml41 {M : gM} (h : MR M) : gLen M 41 = 5 := gHas_len h rfl
theorem ms41 {M : gM} (h : MR M) : (gTy M 41).isSome = true := by rw [show gTy M 41 = _ from gHas_ar h rfl]; rfl
theorem ma42 {M : gM} (h : MR M) : gAr M 42 0 := gHas_ar h rfl
theorem ml42 {M : gM} (h : MR M) : gLen M 42 = 5 := gHas_len h rfl
theorem ms42 {M : gM} (h : MR M) : (gTy M 42).isSome = true := by rw [show gTy M 42 = _ from gHas_ar h rfl]; rfl
theorem ma43 {M : gM} (h : MR M) : gAr M 43 0 := gHas_ar h rfl
theorem ml43 {M : gM} (h : MR M) : gLen M 43 = 5 := gHas_len h rfl
theorem ms43 {M : gM} (h : MR M) : (gTy M 43).isSome = true := by rw [show gTy M 43 = _ from gHas_ar h rfl]; rfl
theorem ma44 {M : gM} (h : MR M) : gAr M 44 0 := gHas_ar h rfl
theorem ml44 {M : gM} (h : MR M) : gLen M 44 = 5 := gHas_len h rfl
theorem ms44 {M : gM} (h : MR M) : (gTy M 44).isSome = true := by rw [show gTy M 44 = _ from gHas_ar h rfl]; rfl
theorem ma45 {M : gM} (h : MR M) : gAr M 45 0 := gHas_ar h rfl
theorem ml45 {M : gM} (h : MR M) : gLen M 45 = 4 := gHas_len h rfl
theorem ms45 {M : gM} (h : MR M) : (gTy M 45).isSome = true := by rw [show gTy M 45 = _ from gHas_ar h rfl]; rfl
theorem ma46 {M : gM} (h : MR M) : gAr M 46 0 := gHas_ar h rfl
theorem ml46 {M : gM} (h : MR M) : gLen M 46 = 4 := gHas_len h rfl
theorem ms46 {M : gM} (h : MR M) : (gTy M 46).isSome = true := by rw [show gTy M 46 = _ from gHas_ar h rfl]; rfl
theorem ma47 {M : gM} (h : MR M) : gAr M 47 0 := gHas_ar h rfl
theorem ml47 {M : gM} (h : MR M) : gLen M 47 = 64 := gHas_len h rfl
theorem ms47 {M : gM} (h : MR M) : (gTy M 47).isSome = true := by rw [show gTy M 47 = _ from gHas_ar h rfl]; rfl
theorem mr0_0 {M : gM} (h : MR M) : M.2.1 0 0 = some 1 := gHas_rf h 0 rfl
theorem mr0_5 {M : gM} (h : MR M) : M.2.1 0 5 = some 2 := gHas_rf h 1 rfl
theorem mr0_6 {M : gM} (h : MR M) : M.2.1 0 6 = some 3 := gHas_rf h 2 rfl
theorem mr0_7 {M : gM} (h : MR M) : M.2.1 0 7 = some 4 := gHas_rf h 3 rfl
theorem mr0_8 {M : gM} (h : MR M) : M.2.1 0 8 = some 5 := gHas_rf h 4 rfl
theorem mr0_9 {M : gM} (h : MR M) : M.2.1 0 9 = some 6 := gHas_rf h 5 rfl
theorem mr0_10 {M : gM} (h : MR M) : M.2.1 0 10 = some 7 := gHas_rf h 6 rfl
theorem mr0_11 {M : gM} (h : MR M) : M.2.1 0 11 = some 8 := gHas_rf h 7 rfl
theorem mr0_12 {M : gM} (h : MR M) : M.2.1 0 12 = some 9 := gHas_rf h 8 rfl
theorem mr0_17 {M : gM} (h : MR M) : M.2.1 0 17 = some 10 := gHas_rf h 9 rfl
theorem mr0_18 {M : gM} (h : MR M) : M.2.1 0 18 = some 11 := gHas_rf h 10 rfl
theorem mr0_19 {M : gM} (h : MR M) : M.2.1 0 19 = some 12 := gHas_rf h 11 rfl
theorem mr0_20 {M : gM} (h : MR M) : M.2.1 0 20 = some 13 := gHas_rf h 12 rfl
theorem mr0_21 {M : gM} (h : MR M) : M.2.1 0 21 = some 14 := gHas_rf h 13 rfl
theorem mr0_22 {M : gM} (h : MR M) : M.2.1 0 22 = some 15 := gHas_rf h 14 rfl
theorem mr0_23 {M : gM} (h : MR M) : M.2.1 0 23 = some 16 := gHas_rf h 15 rfl
theorem mr0_24 {M : gM} (h : MR M) : M.2.1 0 24 = some 17 := gHas_rf h 16 rfl
theorem mr0_25 {M : gM} (h : MR M) : M.2.1 0 25 = some 18 := gHas_rf h 17 rfl
theorem mr0_26 {M : gM} (h : MR M) : M.2.1 0 26 = some 19 := gHas_rf h 18 rfl
theorem mr0_27 {M : gM} (h : MR M) : M.2.1 0 27 = some 20 := gHas_rf h 19 rfl
theorem mr0_28 {M : gM} (h : MR M) : M.2.1 0 28 = some 21 := gHas_rf h 20 rfl
theorem mr0_29 {M : gM} (h : MR M) : M.2.1 0 29 = some 22 := gHas_rf h 21 rfl
theorem mr0_30 {M : gM} (h : MR M) : M.2.1 0 30 = some 23 := gHas_rf h 22 rfl
theorem mr0_31 {M : gM} (h : MR M) : M.2.1 0 31 = some 24 := gHas_rf h 23 rfl
theorem mr0_32 {M : gM} (h : MR M) : M.2.1 0 32 = some 25 := gHas_rf h 24 rfl
theorem mr0_33 {M : gM} (h : MR M) : M.2.1 0 33 = some 26 := gHas_rf h 25 rfl
theorem mr0_34 {M : gM} (h : MR M) : M.2.1 0 34 = some 27 := gHas_rf h 26 rfl
theorem mr0_35 {M : gM} (h : MR M) : M.2.1 0 35 = some 28 := gHas_rf h 27 rfl
theorem mr0_41 {M : gM} (h : MR M) : M.2.1 0 41 = some 29 := gHas_rf h 28 rfl
theorem mr0_42 {M : gM} (h : MR M) : M.2.1 0 42 = some 30 := gHas_rf h 29 rfl
theorem mr0_43 {M : gM} (h : MR M) : M.2.1 0 43 = some 31 := gHas_rf h 30 rfl
theorem mr0_45 {M : gM} (h : MR M) : M.2.1 0 45 = some 32 := gHas_rf h 31 rfl
theorem mr0_46 {M : gM} (h : MR M) : M.2.1 0 46 = some 33 := gHas_rf h 32 rfl
theorem mr0_55 {M : gM} (h : MR M) : M.2.1 0 55 = some 34 := gHas_rf h 33 rfl
theorem mr0_56 {M : gM} (h : MR M) : M.2.1 0 56 = some 35 := gHas_rf h 34 rfl
theorem mr0_57 {M : gM} (h : MR M) : M.2.1 0 57 = some 36 := gHas_rf h 35 rfl
theorem mr0_58 {M : gM} (h : MR M) : M.2.1 0 58 = some 37 := gHas_rf h 36 rfl
theorem mr0_59 {M : gM} (h : MR M) : M.2.1 0 59 = some 38 := gHas_rf h 37 rfl
theorem mr0_62 {M : gM} (h : MR M) : M.2.1 0 62 = some 39 := gHas_rf h 38 rfl
theorem mr0_63 {M : gM} (h : MR M) : M.2.1 0 63 = some 40 := gHas_rf h 39 rfl
theorem mr0_64 {M : gM} (h : MR M) : M.2.1 0 64 = some 41 := gHas_rf h 40 rfl
theorem mr0_65 {M : gM} (h : MR M) : M.2.1 0 65 = some 42 := gHas_rf h 41 rfl
theorem mr0_66 {M : gM} (h : MR M) : M.2.1 0 66 = some 43 := gHas_rf h 42 rfl
theorem mr0_67 {M : gM} (h : MR M) : M.2.1 0 67 = some 44 := gHas_rf h 43 rfl
theorem mr0_68 {M : gM} (h : MR M) : M.2.1 0 68 = some 45 := gHas_rf h 44 rfl
theorem mr0_69 {M : gM} (h : MR M) : M.2.1 0 69 = some 46 := gHas_rf h 45 rfl
theorem mr0_70 {M : gM} (h : MR M) : M.2.1 0 70 = some 47 := gHas_rf h 46 rfl
theorem MR_sI {M : gM} {o k : Nat} {x : Int32} : MR (gsI M o k x) ↔ MR M := Iff.rfl
def gM0 (ci : Nat) : gM := (fun _ _ => 0, fun _ _ => none, [.inl ci])
def gHasB (SH : List (Nat ⊕ (Nat × Nat))) (RF : List (Nat × Nat × Nat)) (M : gM) : Bool := decide (M.2.2 = SH) && RF.all (fun e => decide (M.2.1 e.1 e.2.1 = some e.2.2))
theorem gHasB_ok {SH RF M} (h : gHasB SH RF M = true) : gHas SH RF M := by
  unfold gHasB at h
  simp only [Bool.and_eq_true, decide_eq_true_eq, List.all_eq_true] at h
  exact ⟨fun i _ => by rw [h.1], fun e he => h.2 e he⟩
/-- ints that the start must know -/
def gIntB (l : List (Nat × Nat × Int32)) (M : gM) : Bool := l.all (fun e => decide (M.1 e.1 e.2.1 = e.2.2))
theorem gIntB_ok {l M} (h : gIntB l M = true) : ∀ e ∈ l, M.1 e.1 e.2.1 = e.2.2 := by
  unfold gIntB at h
  simpa only [List.all_eq_true, decide_eq_true_eq] using h
def XI0 : List (Nat × Nat × Int32) := [(0, 1, 0), (0, 3, 0), (0, 5, 0), (0, 7, 0), (37, 1, 0), (37, 4, 0), (42, 9, 0)] ++ (List.range 48).map (fun i => (5, i, 0))
def XR0 : List (Nat × Nat) := [(0, 15)]
def MI0 : List (Nat × Nat × Int32) := [(0, 1, 0), (0, 2, 0), (0, 3, 0), (0, 4, 0), (0, 51, 0), (0, 52, 0), (0, 71, 0)] ++ (List.range 48).map (fun i => (35, i, 0)) ++ (List.range 6).map (fun i => (5, i, 0)) ++ (List.range 36).map (fun i => (6, i, 0))
set_option maxRecDepth 100000 in
theorem x_ctorB : (match gExec 2000 6 85 [.ref 0] (gM0 8) with
  | some (none, M) => gHasB XSH XRF M && gIntB XI0 M && XR0.all (fun e => decide (M.2.1 e.1 e.2 = none))
  | _ => false) = true := by decide +kernel
set_option maxRecDepth 100000 in
theorem m_ctorB : (match gExec 2000 6 119 [.ref 0] (gM0 9) with
  | some (none, M) => gHasB MSH MRF M && gIntB MI0 M
  | _ => false) = true := by decide +kernel
