/-! Small methods without state. -/
def gb (P : Prop) [Decidable P] : Int32 := if P then 1 else 0
theorem gb_01 (P : Prop) [Decidable P] : gb P = 0 ∨ gb P = 1 := by unfold gb; split <;> simp
theorem gb_0 {P : Prop} [Decidable P] : gb P = 0 ↔ ¬ P := by unfold gb; split <;> simp_all
theorem gb_1 {P : Prop} [Decidable P] : gb P = 1 ↔ P := by unfold gb; split <;> simp_all
theorem i32_lt {x y : Int32} : x < y ↔ x.toInt < y.toInt := Int32.lt_iff_toInt_lt
theorem i32_le {x y : Int32} : x ≤ y ↔ x.toInt ≤ y.toInt := Int32.le_iff_toInt_le
theorem gIn_toInt {i : Int32} {n : Nat} : gIn i n = true ↔ 0 ≤ i.toInt ∧ i.toInt < n := by rw [gIn_iff, vp_in_iff]
theorem va_rf_none : va_rf none = .null := rfl
theorem va_rf_some (a : Nat) : va_rf (some a) = .ref a := rfl
section
variable {d : Nat} {M : gM} {Z : Option Value → gM → Prop} {i n r s x : Int32}
theorem s_within : Call (d + 1) 110 [.int i, .int n] M Z ↔ Z (some (.int (gb (0 ≤ i.toInt ∧ i.toInt < n.toInt)))) M := by
  simp only [z110_0, z110_1, z110_4, z110_5, z110_6, z110_9, z110_10, z110_13, z110_14, e110, gIn_toInt, nI_toInt, Nat.reduceLT, Nat.reducePow, va_rf_none, va_rf_some, gObj_sI, gObj_sR, gAr_sI, gAr_sR, gLen_sI, gLen_sR, gsI_1, gsI_2, gsR_1, gsR_2, gU_ref, gU_null, gU_rf, gisRef_ref, gisRef_null, gisRef_rf, Option.toList_some, Option.toList_none, List.cons_append, List.nil_append, true_and, and_true, i32_lt, i32_le, Int32.toInt_zero]
  by_cases h1 : i.toInt < 0 <;> by_cases h2 : n.toInt ≤ i.toInt <;> simp [gb, h1, h2] <;> grind
theorem s_isWidth : Call (d + 1) 111 [.int i] M Z ↔ Z (some (.int (gb (1 ≤ i.toInt ∧ i.toInt ≤ 9)))) M := by
  simp only [z111_0, z111_1, z111_2, z111_5, z111_6, z111_8, z111_11, z111_12, z111_15, z111_16, e111, gIn_toInt, nI_toInt, Nat.reduceLT, Nat.reducePow, va_rf_none, va_rf_some, gObj_sI, gObj_sR, gAr_sI, gAr_sR, gLen_sI, gLen_sR, gsI_1, gsI_2, gsR_1, gsR_2, gU_ref, gU_null, gU_rf, gisRef_ref, gisRef_null, gisRef_rf, Option.toList_some, Option.toList_none, List.cons_append, List.nil_append, true_and, and_true, i32_lt, i32_le]
  grind [gb]
end
