/-! cloth: a new one. -/
section
variable {d L n k p len endc : Nat} {M : gM} {Z : Option Value → gM → Prop} {i r s x a b c e f v : Int32} {ly : Nat → Nat → Nat} {col : Nat → Nat}
theorem gTy_nw {c : Nat ⊕ (Nat × Nat)} {o : Nat} (h : o < M.2.2.length) : gTy (gNew M c) o = gTy M o := by
  unfold gTy gNew
  simp only
  rw [List.getElem?_append_left h]
theorem gObj_nw {c : Nat ⊕ (Nat × Nat)} {o ci : Nat} (h : o < M.2.2.length) : gObj (gNew M c) o ci ↔ gObj M o ci := by
  unfold gObj gNew
  simp only
  rw [List.getElem?_append_left h]
theorem gObj_nw0 {ci : Nat} : gObj (gNew M (.inl ci)) M.2.2.length ci := by
  unfold gObj gNew
  simp
theorem gAr_nw {c : Nat ⊕ (Nat × Nat)} {o t : Nat} (h : o < M.2.2.length) : gAr (gNew M c) o t ↔ gAr M o t := by
  unfold gAr; rw [gTy_nw h]
theorem gAr_nw0 {t m : Nat} : gAr (gNew M (.inr (t, m))) M.2.2.length t := by
  unfold gAr gTy gNew
  simp
theorem gLen_nw {c : Nat ⊕ (Nat × Nat)} {o : Nat} (h : o < M.2.2.length) : gLen (gNew M c) o = gLen M o := by
  unfold gLen gNew
  simp only
  rw [List.getElem?_append_left h]
theorem gLen_nw0 {t m : Nat} : gLen (gNew M (.inr (t, m))) M.2.2.length = m := by
  unfold gLen gNew
  simp
def xNewCl (M : gM) (a b : Int32) (nc : Nat) : gM := gsI (gsR (gsI (gsI (gsI (gsR (gNew (gNew M (.inl 0)) (.inr (0, 6))) M.2.2.length 2 (some (M.2.2.length + 1))) M.2.2.length 3 0) M.2.2.length 0 a) M.2.2.length 1 b) 2 nc (some M.2.2.length)) 0 3 (nI (nc + 1))
theorem s_X0_init {p : Nat} (hp : gObj M p 0) (hl : p < M.2.2.length) : Call (d + 2) 0 [.ref p, .int a, .int b] M Z ↔ Z none (gsI (gsI (gsI (gsR (gNew M (.inr (0, 6))) p 2 (some M.2.2.length)) p 3 0) p 0 a) p 1 b) := by
  have h1 : gObj (gNew M (.inr (0, 6))) p 0 := (gObj_nw hl).mpr hp
  simp only [z0_0, z0_1, z0_4, z0_5, z0_7, z0_9, z0_12, z0_13, z0_14, z0_17, z0_18, z0_19, z0_22, z0_23, z0_24, z0_27, e0, gIn_toInt, nI_toInt, Nat.reduceLT, Nat.reducePow, va_rf_none, va_rf_some, gObj_sI, gObj_sR, gAr_sI, gAr_sR, gLen_sI, gLen_sR, gsI_1, gsI_2, gsR_1, gsR_2, gU_ref, gU_null, gU_rf, gisRef_ref, gisRef_null, gisRef_rf, Option.toList_some, Option.toList_none, List.cons_append, List.nil_append, true_and, and_true, false_and, and_false, ↓reduceIte, if_true, if_false, Nat.reduceEqDiff, Nat.reduceAdd, Nat.reduceMul, Nat.reduceSub, Nat.reduceLeDiff, reduceCtorEq, not_true_eq_false, not_false_eq_true, true_imp_iff, false_imp_iff, zc_0, zc_1, zc_2, zc_3, zc_4, zc_5, zc_6, zc_8, zc_9, zc_10, zc_32, zc_36, zc_48, zc_64, zc_80, zc_120, zc_128, zc_248, zc_320, zc_400, zc_800, zc_1200, zc_2001, zc_4002, Int.reduceLT, Int.reduceLE, Int.reduceNeg, Nat.zero_ne_one, Nat.one_ne_zero, or_true, true_or, or_false, false_or, h1]
end
