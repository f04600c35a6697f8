/-! Holding: a move. -/
def nFW (ly : Nat → Nat → Nat) (t : Nat) : Nat := nFirst (fun k => ly k 0 = ly t 0) (t + 1) t
theorem nFirst_le {P : Nat → Prop} [DecidablePred P] : ∀ k c, nFirst P k c ≤ max k c
  | 0, c => by simp [nFirst]
  | k + 1, c => by
    unfold nFirst
    split
    · have := nFirst_le (P := P) k k; omega
    · omega
theorem nFW_le {ly : Nat → Nat → Nat} {t : Nat} : nFW ly t ≤ t := by
  unfold nFW nFirst
  rw [if_pos rfl]
  have := nFirst_le (P := fun k => ly k 0 = ly t 0) t t
  omega
abbrev nHs : Type := (Nat → Nat) × (Nat → Bool) × List Nat
def nMv (ly : Nat → Nat → Nat) (st : Nat → Nat) (pin : Option Nat) : Nat → Nat → nHs → nHs
  | 0, _, s => s
  | _ + 1, 0, s => s
  | fu + 1, t + 1, s =>
    if s.2.1 t then nMv ly st pin fu (nFW ly t) s
    else if nHP ly (nFW ly t) (t + 1 - nFW ly t) + nHM s.1 ly (nFW ly t) (t + 1 - nFW ly t) + (if some (ly t 0) = pin then 4 else 0) < nPull ly st (nFW ly t) (t + 1 - nFW ly t) then
      nMv ly st pin fu (nFW ly t) (s.1, fun q => decide (nFW ly t ≤ q ∧ q < t + 1) || s.2.1 q, s.2.2 ++ [ly t 0])
    else nMv ly st pin fu (nFW ly t) (nHeap s.1 ly (nFW ly t) (t + 1 - nFW ly t), s.2.1, s.2.2)
def nCnt (g : Nat → Bool) : Nat → Nat
  | 0 => 0
  | k + 1 => nCnt g k + if g k then 0 else 1
theorem nCnt_le {g g' : Nat → Bool} (h : ∀ q, g q = true → g' q = true) : ∀ k, nCnt g' k ≤ nCnt g k
  | 0 => Nat.le_refl _
  | k + 1 => by
    have h1 := nCnt_le h k
    have h2 := h k
    unfold nCnt
    by_cases hg : g k = true
    · rw [if_pos hg, if_pos (h2 hg)]; omega
    · rw [if_neg hg]; split <;> omega
theorem nCnt_lt {g g' : Nat → Bool} (h : ∀ q, g q = true → g' q = true) {t : Nat} (ht : g t = false) (ht' : g' t = true) : ∀ k, t < k → nCnt g' k + 1 ≤ nCnt g k
  | 0, hk => by omega
  | k + 1, hk => by
    unfold nCnt
    by_cases hkt : t = k
    · subst hkt
      have h1 := nCnt_le h t
      rw [ht, ht', if_pos rfl, if_neg (by decide)]
      omega
    · have h1 := nCnt_lt h ht ht' k (by omega)
      have h2 := h k
      by_cases hg : g k = true
      · rw [if_pos hg, if_pos (h2 hg)]; omega
      · rw [if_neg hg]; split <;> omega
theorem nCnt_n (g : Nat → Bool) : ∀ k, nCnt g k ≤ k
  | 0 => Nat.le_refl _
  | k + 1 => by have := nCnt_n g k; unfold nCnt; split <;> omega
theorem nHeap1_le {up : Nat → Nat} {s lo : Nat} : ∀ c q, nHeap1 up s lo c q ≤ up q + 1 ∧ ((∀ r, r < c → q ≠ (lo + r) * 8 + s) → nHeap1 up s lo c q = up q)
  | 0, q => ⟨Nat.le_succ _, fun _ => rfl⟩
  | c + 1, q => by
    obtain ⟨h1, h2⟩ := nHeap1_le (up := up) (s := s) (lo := lo) c q
    constructor
    · unfold nHeap1
      split
      · rename_i hq
        have h3 := h2 (fun r hr e => by omega)
        omega
      · exact h1
    · intro h
      unfold nHeap1
      rw [if_neg (h c (Nat.lt_succ_self c))]
      exact h2 (fun r hr => h r (by omega))
theorem nHeap_le {up : Nat → Nat} {ly : Nat → Nat → Nat} {a : Nat} : ∀ c q, nHeap up ly a c q ≤ up q + c
  | 0, q => Nat.le_refl _
  | c + 1, q => by
    have h1 := nHeap_le (up := up) (ly := ly) (a := a) c q
    have h2 := (nHeap1_le (up := nHeap up ly a c) (s := ly (a + c) 2) (lo := ly (a + c) 1) (ly (a + c) 5) q).1
    show nHeap1 _ _ _ _ q ≤ _
    omega
/-- the holding's cells -/
def xHd (M : gM) (s : nHs) : Prop := (∀ q, q < 64 → M.1 41 q = nI (s.1 q)) ∧ (∀ q, q < 400 → M.1 39 q = if s.2.1 q then 1 else 0) ∧ M.1 37 4 = nI s.2.2.length ∧ ∀ (i : Nat) (a : Nat), s.2.2[i]? = some a → M.1 40 i = nI a
def xSt (M : gM) (so : Nat) (sv : Nat → Nat) : Prop := ∀ q, q < 48 → M.1 so q = nI (sv q) ∧ sv q ≤ 9
def hdO (o : Nat) : Prop := o = 37 ∨ o = 39 ∨ o = 40 ∨ o = 41
theorem oI_eq {k : Nat} {p : Option Nat} (hk : k < 2 ^ 31) (hp : ∀ a, p = some a → a < 2 ^ 31) : nI k = oI p ↔ some k = p := by
  cases p with
  | none =>
    constructor
    · intro h
      have h1 := nI_toInt hk
      rw [h] at h1
      have h2 : (oI none).toInt = -1 := by decide
      omega
    · intro h; cases h
  | some a =>
    rw [show oI (some a) = nI a from rfl, nI_eq hk (hp a rfl)]
    constructor
    · intro h; rw [h]
    · intro h; cases h; rfl
section
variable {d L n k : Nat} {M : gM} {Z : Option Value → gM → Prop} {i r s x a v : Int32} {ly : Nat → Nat → Nat}
set_option maxHeartbeats 1000000 in
theorem s_doMove1 (hx : XR M) (hL : isL L) (hls : xLs M L n ly) {m : Nat} {sv : Nat → Nat} (hm : m < 6) (hsv : xSt M 38 sv) {pin : Option Nat} (hpin : ∀ a, pin = some a → a < 2 ^ 31) :
    ∀ fu e i v6 v7 s M', fu + i = 400 → e ≤ fu → e ≤ n → gFr hdO M M' → M'.1 37 1 = M.1 37 1 → xHd M' s → (∀ q, q < 64 → s.1 q ≤ n - e) → s.2.2.length + nCnt s.2.1 n ≤ n →
      (∀ M2, gFr hdO M M2 → M2.1 37 1 = M.1 37 1 → xHd M2 (nMv ly (fun r => sv (8 * m + r)) pin fu e s) → (nMv ly (fun r => sv (8 * m + r)) pin fu e s).2.2.length + nCnt (nMv ly (fun r => sv (8 * m + r)) pin fu e s).2.1 n ≤ n → Z none M2) →
      Run (d + 5) 35 19 [some (.ref 37), some (.ref L), some (.int (nI m)), some (.int (oI pin)), some (.int (nI e - 1)), some (.int (nI i)), v6, v7] [] M' 0 0 Z
  | fu, 0, i, v6, v7, s, M', hfi, hef, hen, hf, h37, hd, hup, hcn, hK => by
    have hk : Z none M' := by
      cases fu with
      | zero => exact hK M' hf h37 hd hcn
      | succ fu => exact hK M' hf h37 hd hcn
    have hi := nI_ti (show i ≤ 2000 by omega)
    rw [z35_19]
    simp only [z35_21, z35_24, z35_27, z35_29, z35_155, gIn_toInt, nI_toInt, Nat.reduceLT, Nat.reducePow, va_rf_none, va_rf_some, gObj_sI, gObj_sR, gAr_sI, gAr_sR, gLen_sI, gLen_sR, gsI_1, gsI_2, gsR_1, gsR_2, gU_ref, gU_null, gU_rf, gisRef_ref, gisRef_null, gisRef_rf, Option.toList_some, Option.toList_none, List.cons_append, List.nil_append, true_and, and_true, false_and, and_false, ↓reduceIte, if_true, if_false, Nat.reduceEqDiff, Nat.reduceAdd, Nat.reduceMul, Nat.reduceSub, Nat.reduceLeDiff, reduceCtorEq, not_true_eq_false, not_false_eq_true, true_imp_iff, false_imp_iff, zc_0, zc_1, zc_2, zc_3, zc_4, zc_5, zc_6, zc_8, zc_9, zc_10, zc_32, zc_36, zc_48, zc_64, zc_80, zc_120, zc_128, zc_248, zc_320, zc_400, zc_800, zc_1200, zc_2001, zc_4002, Int.reduceLT, Int.reduceLE, Int.reduceNeg, Nat.zero_ne_one, Nat.one_ne_zero, or_true, true_or, or_false, false_or, ti_0, ti_1, ti_2, ti_3, ti_4, ti_5, ti_6, ti_7, ti_8, ti_9, ti_10, ti_11, ti_12, ti_13, ti_14, ti_15, ti_16, ti_17, ti_18, ti_19, ti_20, ti_21, ti_22, ti_23, ti_24, ti_25, ti_26, ti_27, ti_28, ti_29, ti_30, ti_31, ti_32, ti_33, ti_34, ti_35, ti_36, ti_37, ti_38, ti_39, ti_40, ti_41, ti_42, ti_43, ti_44, ti_45, ti_46, ti_47, ti_48, ti_49, ti_50, ti_51, ti_52, ti_53, ti_54, ti_55, ti_56, ti_57, ti_58, ti_59, ti_60, ti_61, ti_62, ti_63, ti_64, ti_65, ti_66, ti_67, ti_68, ti_69, ti_70, ti_71, ti_72, ti_73, ti_74, ti_75, ti_76, ti_77, ti_78, ti_79, ti_80, ti_81, ti_82, ti_83, ti_84, ti_85, ti_86, ti_87, ti_88, ti_89, ti_90, ti_91, ti_92, ti_93, ti_94, ti_95, ti_96, ti_97, ti_98, ti_99, ti_100, ti_101, ti_102, ti_103, ti_104, ti_105, ti_106, ti_107, ti_108, ti_109, ti_110, ti_111, ti_112, ti_113, ti_114, ti_115, ti_116, ti_117, ti_118, ti_119, ti_120, ti_121, ti_122, ti_123, ti_124, ti_125, ti_126, ti_127, ti_128, ti_129, ti_200, ti_248, ti_255, ti_256, ti_400, ti_1000, ti_2000, ti_2001, ti_1000000, tj_1, tj_2, tj_8, tj_10, tj_1000, tc_0, tc_1, tc_2, tc_3, tc_4, tc_5, tc_6, tc_7, tc_8, i32_lt, i32_le, hi, nI_0m]
    exact ⟨fun _ => hk, fun _ => hk⟩
  | 0, t + 1, i, v6, v7, s, M', hfi, hef, hen, hf, h37, hd, hup, hcn, hK => by omega
  | fu + 1, t + 1, i, v6, v7, s, M', hfi, hef, hen, hf, h37, hd, hup, hcn, hK => by
    obtain ⟨up, g, sl⟩ := s
    obtain ⟨hd1, hd2, hd3, hd4⟩ := hd
    dsimp only at hd1 hd2 hd3 hd4 hup hcn
    have hx' := gFr_X hf hx
    have hls' : xLs M' L n ly := xLs_fr hf (by rcases hL with rfl | rfl <;> (intro o h1 h2 h3; rcases h3 with h3 | h3 | h3 | h3 <;> omega)) hls
    have hn4 := hls.2.1
    have hsv' : ∀ q, q < 48 → M'.1 38 q = nI (sv q) ∧ sv q ≤ 9 := fun q hq => by rw [hf.2 38 (by intro h3; rcases h3 with h3 | h3 | h3 | h3 <;> omega)]; exact hsv q hq
    have hi := nI_ti (show i ≤ 2000 by omega)
    have hi4 : ¬ (400 : Int) ≤ i := by omega
    have ht := nI_ti (show t ≤ 2000 by omega)
    have htc := nI_tc (show t ≤ 2000 by omega)
    have ht0 : ¬ (t : Int) < 0 := by omega
    have h1n : ¬ ((1 : Int32) = 0) := by decide
    have k1 : 0 ≤ (t : Int) ∧ (t : Int) < 400 := by omega
    have h48 : (nI 400).toInt = 400 := nI_ti (by decide)
    have hw1 := fun Z => s_within (d := d + 4) (M := M') (Z := Z) (i := nI t) (n := nI 400)
    simp only [ht, h48, k1] at hw1
    have hff := nFW_le (ly := ly) (t := t)
    have hact : ∀ k, k < n → M'.1 (L + 1) k = nI (ly k 0) := fun k hk => xLs_f hls' hk (f := 0) (by decide) rfl
    have hab : ∀ k, k < n → ly k 0 < 2 ^ 31 := fun k hk => by have := (hls.2.2 k hk).1.1; omega
    have hfw := fun Z => s_firstWith (d := d + 2) (Z := Z) hx' hL hls'.1 hls'.2.1 (show t < n by omega) (fun k => ly k 0 = ly t 0) (fun k hk => by rw [hact k hk, hact t (by omega), nI_eq (hab k hk) (hab t (by omega))])
    have hfw : ∀ Z, Call (d + 5) 53 [.ref L, .int (nI t)] M' Z ↔ Z (some (.int (nI (nFW ly t)))) M' := hfw
    have hst : (nI t : Int32) = nI (t + 1) - 1 := (nI_s1 t).symm
    have hheld := fun Z => s_held (d := d + 1) (Z := Z) hx' hL hls' (B := 400) (by decide) (fun q hq => ⟨hd1 q hq, Nat.le_trans (hup q hq) (by omega)⟩) (show t + 1 ≤ n by omega) (show nFW ly t ≤ t + 1 by omega)
    rw [nI_s1] at hheld
    have hpull := fun Z => s_pulled (d := d + 1) (Z := Z) hx' hL hls' (Or.inr rfl) hm hsv' (show t + 1 ≤ n by omega) (show nFW ly t ≤ t + 1 by omega)
    rw [nI_s1] at hpull
    have hao := fun Z => s_actOf (d := d + 3) (Z := Z) hx' hL hls'.1 hls'.2.1 (show t < n by omega)
    rw [hact t (by omega)] at hao
    have hm8 : nI m * 8 = nI (8 * m) := by rw [nl_8, nI_mul, Nat.mul_comm]
    have ho := xL_o hx' hL
    have hgt : M'.1 39 t = if g t then 1 else 0 := hd2 t (by omega)
    have hpb := nPull_le (ly := ly) (st := fun r => sv (8 * m + r)) (a := nFW ly t) (t + 1 - nFW ly t) (fun k hk => (hls.2.2 k (by omega)).1.2.1) (fun r hr => (hsv (8 * m + r) (by omega)).2)
    have hmb := nHM_le (ly := ly) (up := up) (B := 400) (a := nFW ly t) (fun q hq => Nat.le_trans (hup q hq) (by omega)) (t + 1 - nFW ly t) (fun k hk => (hls.2.2 k (by omega)).1)
    have hpp : nHP ly (nFW ly t) (t + 1 - nFW ly t) ≤ 8000 * (t + 1 - nFW ly t) := by
      have : ∀ c, nFW ly t + c ≤ n → nHP ly (nFW ly t) c ≤ 8000 * c := by
        intro c
        induction c with
        | zero => intro _; exact Nat.le_refl _
        | succ c ih => intro hc; have := ih (by omega); have := (hls.2.2 (nFW ly t + c) (by omega)).1.2.2.2.2.2.2.2; unfold nHP; omega
      exact this _ (by omega)
    have hfin : ∀ M2 s2 w, gFr hdO M M2 → M2.1 37 1 = M.1 37 1 → xHd M2 s2 → (∀ q, q < 64 → s2.1 q ≤ n - nFW ly t) → s2.2.2.length + nCnt s2.2.1 n ≤ n → nMv ly (fun r => sv (8 * m + r)) pin fu (nFW ly t) s2 = nMv ly (fun r => sv (8 * m + r)) pin (fu + 1) (t + 1) (up, g, sl) →
        Run (d + 5) 35 143 [some (.ref 37), some (.ref L), some (.int (nI m)), some (.int (oI pin)), some (.int (nI t)), some (.int (nI i)), some (.int (nI (nFW ly t))), w] [] M2 0 0 Z := by
      intro M2 s2 w q1 q37 q2 q3 q4 q5
      rw [z35_143, z35_145, z35_146, z35_147, z35_149, nI_1, z35_152]
      exact s_doMove1 hx hL hls hm hsv hpin fu (nFW ly t) (i + 1) _ _ s2 M2 (by omega) (by omega) (by omega) q1 q37 q2 q3 q4 (by rw [q5]; exact hK)
    rw [z35_19, nI_s1]
    by_cases hg : g t = true
    · have hgt1 : M'.1 39 t = 1 := by rw [hgt, if_pos hg]
      simp only [z35_21, z35_24, z35_27, z35_29, z35_32, z35_32n, z35_33, z35_35, z35_38, z35_40, z35_42, z35_43, z35_46, z35_47, z35_50, z35_53, z35_54, z35_57, z35_59, z35_60, gIn_toInt, nI_toInt, Nat.reduceLT, Nat.reducePow, va_rf_none, va_rf_some, gObj_sI, gObj_sR, gAr_sI, gAr_sR, gLen_sI, gLen_sR, gsI_1, gsI_2, gsR_1, gsR_2, gU_ref, gU_null, gU_rf, gisRef_ref, gisRef_null, gisRef_rf, Option.toList_some, Option.toList_none, List.cons_append, List.nil_append, true_and, and_true, false_and, and_false, ↓reduceIte, if_true, if_false, Nat.reduceEqDiff, Nat.reduceAdd, Nat.reduceMul, Nat.reduceSub, Nat.reduceLeDiff, reduceCtorEq, not_true_eq_false, not_false_eq_true, true_imp_iff, false_imp_iff, zc_0, zc_1, zc_2, zc_3, zc_4, zc_5, zc_6, zc_8, zc_9, zc_10, zc_32, zc_36, zc_48, zc_64, zc_80, zc_120, zc_128, zc_248, zc_320, zc_400, zc_800, zc_1200, zc_2001, zc_4002, Int.reduceLT, Int.reduceLE, Int.reduceNeg, Nat.zero_ne_one, Nat.one_ne_zero, or_true, true_or, or_false, false_or, ti_0, ti_1, ti_2, ti_3, ti_4, ti_5, ti_6, ti_7, ti_8, ti_9, ti_10, ti_11, ti_12, ti_13, ti_14, ti_15, ti_16, ti_17, ti_18, ti_19, ti_20, ti_21, ti_22, ti_23, ti_24, ti_25, ti_26, ti_27, ti_28, ti_29, ti_30, ti_31, ti_32, ti_33, ti_34, ti_35, ti_36, ti_37, ti_38, ti_39, ti_40, ti_41, ti_42, ti_43, ti_44, ti_45, ti_46, ti_47, ti_48, ti_49, ti_50, ti_51, ti_52, ti_53, ti_54, ti_55, ti_56, ti_57, ti_58, ti_59, ti_60, ti_61, ti_62, ti_63, ti_64, ti_65, ti_66, ti_67, ti_68, ti_69, ti_70, ti_71, ti_72, ti_73, ti_74, ti_75, ti_76, ti_77, ti_78, ti_79, ti_80, ti_81, ti_82, ti_83, ti_84, ti_85, ti_86, ti_87, ti_88, ti_89, ti_90, ti_91, ti_92, ti_93, ti_94, ti_95, ti_96, ti_97, ti_98, ti_99, ti_100, ti_101, ti_102, ti_103, ti_104, ti_105, ti_106, ti_107, ti_108, ti_109, ti_110, ti_111, ti_112, ti_113, ti_114, ti_115, ti_116, ti_117, ti_118, ti_119, ti_120, ti_121, ti_122, ti_123, ti_124, ti_125, ti_126, ti_127, ti_128, ti_129, ti_200, ti_248, ti_255, ti_256, ti_400, ti_1000, ti_2000, ti_2001, ti_1000000, tj_1, tj_2, tj_8, tj_10, tj_1000, tc_0, tc_1, tc_2, tc_3, tc_4, tc_5, tc_6, tc_7, tc_8, i32_lt, i32_le, hi, hi4, ht, htc, ht0, ho, hfw, XR_sI, xo0 hx', xa1 hx', xl1 hx', xs1 hx', xa2 hx', xl2 hx', xs2 hx', xa3 hx', xl3 hx', xs3 hx', xa4 hx', xl4 hx', xs4 hx', xa5 hx', xl5 hx', xs5 hx', xo6 hx', xa7 hx', xl7 hx', xs7 hx', xa8 hx', xl8 hx', xs8 hx', xo9 hx', xa10 hx', xl10 hx', xs10 hx', xa11 hx', xl11 hx', xs11 hx', xa12 hx', xl12 hx', xs12 hx', xa13 hx', xl13 hx', xs13 hx', xa14 hx', xl14 hx', xs14 hx', xo15 hx', xo16 hx', xa17 hx', xl17 hx', xs17 hx', xa18 hx', xl18 hx', xs18 hx', xa19 hx', xl19 hx', xs19 hx', xa20 hx', xl20 hx', xs20 hx', xa21 hx', xl21 hx', xs21 hx', xa22 hx', xl22 hx', xs22 hx', xa23 hx', xl23 hx', xs23 hx', xa24 hx', xl24 hx', xs24 hx', xa25 hx', xl25 hx', xs25 hx', xo26 hx', xo27 hx', xa28 hx', xl28 hx', xs28 hx', xa29 hx', xl29 hx', xs29 hx', xa30 hx', xl30 hx', xs30 hx', xa31 hx', xl31 hx', xs31 hx', xa32 hx', xl32 hx', xs32 hx', xa33 hx', xl33 hx', xs33 hx', xa34 hx', xl34 hx', xs34 hx', xa35 hx', xl35 hx', xs35 hx', xa36 hx', xl36 hx', xs36 hx', xo37 hx', xa38 hx', xl38 hx', xs38 hx', xa39 hx', xl39 hx', xs39 hx', xa40 hx', xl40 hx', xs40 hx', xa41 hx', xl41 hx', xs41 hx', xo42 hx', xa43 hx', xl43 hx', xs43 hx', xa44 hx', xl44 hx', xs44 hx', xa45 hx', xl45 hx', xs45 hx', xa46 hx', xl46 hx', xs46 hx', xa47 hx', xl47 hx', xs47 hx', xa48 hx', xl48 hx', xs48 hx', xr0_0 hx', xr0_2 hx', xr0_4 hx', xr0_6 hx', xr0_8 hx', xr0_9 hx', xr6_0 hx', xr6_3 hx', xr0_10 hx', xr9_0 hx', xr9_2 hx', xr9_3 hx', xr9_5 hx', xr0_11 hx', xr0_12 hx', xr0_13 hx', xr0_14 hx', xr15_0 hx', xr15_1 hx', xr16_0 hx', xr16_1 hx', xr16_2 hx', xr16_3 hx', xr16_4 hx', xr16_5 hx', xr16_6 hx', xr16_7 hx', xr26_0 hx', xr26_1 hx', xr27_0 hx', xr27_1 hx', xr27_2 hx', xr27_3 hx', xr27_4 hx', xr27_5 hx', xr27_6 hx', xr27_7 hx', xr37_0 hx', xr37_2 hx', xr37_3 hx', xr37_5 hx', xr42_0 hx', xr42_1 hx', xr42_3 hx', xr42_4 hx', xr42_6 hx', xr42_8 hx', hw1, gb_0, k1, hgt1, h1n]
      refine hfin M' (up, g, sl) v7 hf h37 ⟨hd1, hd2, hd3, hd4⟩ (fun q hq => Nat.le_trans (hup q hq) (by omega)) hcn ?_
      simp only [nMv, hg, if_true]
    · have hg : g t = false := by simpa using hg
      have hgt1 : M'.1 39 t = 0 := by rw [hgt, hg]; rfl
      have h10 : ¬ ((0 : Int32) = 1) := by decide
      generalize hho : nHP ly (nFW ly t) (t + 1 - nFW ly t) + nHM up ly (nFW ly t) (t + 1 - nFW ly t) = hold at hheld
      have hpinE : (nI (ly t 0) = oI pin) ↔ (some (ly t 0) = pin) := oI_eq (hab t (by omega)) hpin
      have hslt : sl.length + 1 ≤ n := by
        have h1 := nCnt_lt (g := g) (g' := fun q => decide (q = t) || g q) (fun q hq => by simp [hq]) hg (by simp) n (by omega)
        omega
      by_cases hpin2 : some (ly t 0) = pin
      · have hp1 := hpinE.mpr hpin2
        have ha4 : nI hold + 4 = nI (hold + 4) := by rw [nl_4, nI_add]
        have t1 := nI_toInt (show hold + 4 < 2 ^ 31 by omega)
        have t2 := nI_toInt (show nPull ly (fun r => sv (8 * m + r)) (nFW ly t) (t + 1 - nFW ly t) < 2 ^ 31 by omega)
        by_cases hpl : hold + 4 < nPull ly (fun r => sv (8 * m + r)) (nFW ly t) (t + 1 - nFW ly t)
        · have hpl2 : ¬ ((nPull ly (fun r => sv (8 * m + r)) (nFW ly t) (t + 1 - nFW ly t) : Int) ≤ ((hold + 4 : Nat) : Int)) := by omega
          simp only [z35_21, z35_24, z35_27, z35_29, z35_32, z35_32n, z35_33, z35_35, z35_38, z35_40, z35_42, z35_43, z35_46, z35_47, z35_50, z35_53, z35_54, z35_57, z35_59, z35_60, z35_63, z35_63n, z35_64, z35_66, z35_68, z35_69, z35_72, z35_75, z35_75n, z35_76, z35_78, z35_81, z35_82, z35_85, z35_86, z35_89, z35_90, z35_91, z35_93, z35_93n, z35_94, z35_96, z35_98, z35_99, z35_102, z35_103, z35_105, z35_106, z35_109, z35_111, z35_114, z35_115, z35_117, z35_119, z35_119n, z35_120, z35_122, z35_125, gIn_toInt, nI_toInt, Nat.reduceLT, Nat.reducePow, va_rf_none, va_rf_some, gObj_sI, gObj_sR, gAr_sI, gAr_sR, gLen_sI, gLen_sR, gsI_1, gsI_2, gsR_1, gsR_2, gU_ref, gU_null, gU_rf, gisRef_ref, gisRef_null, gisRef_rf, Option.toList_some, Option.toList_none, List.cons_append, List.nil_append, true_and, and_true, false_and, and_false, ↓reduceIte, if_true, if_false, Nat.reduceEqDiff, Nat.reduceAdd, Nat.reduceMul, Nat.reduceSub, Nat.reduceLeDiff, reduceCtorEq, not_true_eq_false, not_false_eq_true, true_imp_iff, false_imp_iff, zc_0, zc_1, zc_2, zc_3, zc_4, zc_5, zc_6, zc_8, zc_9, zc_10, zc_32, zc_36, zc_48, zc_64, zc_80, zc_120, zc_128, zc_248, zc_320, zc_400, zc_800, zc_1200, zc_2001, zc_4002, Int.reduceLT, Int.reduceLE, Int.reduceNeg, Nat.zero_ne_one, Nat.one_ne_zero, or_true, true_or, or_false, false_or, ti_0, ti_1, ti_2, ti_3, ti_4, ti_5, ti_6, ti_7, ti_8, ti_9, ti_10, ti_11, ti_12, ti_13, ti_14, ti_15, ti_16, ti_17, ti_18, ti_19, ti_20, ti_21, ti_22, ti_23, ti_24, ti_25, ti_26, ti_27, ti_28, ti_29, ti_30, ti_31, ti_32, ti_33, ti_34, ti_35, ti_36, ti_37, ti_38, ti_39, ti_40, ti_41, ti_42, ti_43, ti_44, ti_45, ti_46, ti_47, ti_48, ti_49, ti_50, ti_51, ti_52, ti_53, ti_54, ti_55, ti_56, ti_57, ti_58, ti_59, ti_60, ti_61, ti_62, ti_63, ti_64, ti_65, ti_66, ti_67, ti_68, ti_69, ti_70, ti_71, ti_72, ti_73, ti_74, ti_75, ti_76, ti_77, ti_78, ti_79, ti_80, ti_81, ti_82, ti_83, ti_84, ti_85, ti_86, ti_87, ti_88, ti_89, ti_90, ti_91, ti_92, ti_93, ti_94, ti_95, ti_96, ti_97, ti_98, ti_99, ti_100, ti_101, ti_102, ti_103, ti_104, ti_105, ti_106, ti_107, ti_108, ti_109, ti_110, ti_111, ti_112, ti_113, ti_114, ti_115, ti_116, ti_117, ti_118, ti_119, ti_120, ti_121, ti_122, ti_123, ti_124, ti_125, ti_126, ti_127, ti_128, ti_129, ti_200, ti_248, ti_255, ti_256, ti_400, ti_1000, ti_2000, ti_2001, ti_1000000, tj_1, tj_2, tj_8, tj_10, tj_1000, tc_0, tc_1, tc_2, tc_3, tc_4, tc_5, tc_6, tc_7, tc_8, i32_lt, i32_le, hi, hi4, ht, htc, ht0, ho, hfw, XR_sI, xo0 hx', xa1 hx', xl1 hx', xs1 hx', xa2 hx', xl2 hx', xs2 hx', xa3 hx', xl3 hx', xs3 hx', xa4 hx', xl4 hx', xs4 hx', xa5 hx', xl5 hx', xs5 hx', xo6 hx', xa7 hx', xl7 hx', xs7 hx', xa8 hx', xl8 hx', xs8 hx', xo9 hx', xa10 hx', xl10 hx', xs10 hx', xa11 hx', xl11 hx', xs11 hx', xa12 hx', xl12 hx', xs12 hx', xa13 hx', xl13 hx', xs13 hx', xa14 hx', xl14 hx', xs14 hx', xo15 hx', xo16 hx', xa17 hx', xl17 hx', xs17 hx', xa18 hx', xl18 hx', xs18 hx', xa19 hx', xl19 hx', xs19 hx', xa20 hx', xl20 hx', xs20 hx', xa21 hx', xl21 hx', xs21 hx', xa22 hx', xl22 hx', xs22 hx', xa23 hx', xl23 hx', xs23 hx', xa24 hx', xl24 hx', xs24 hx', xa25 hx', xl25 hx', xs25 hx', xo26 hx', xo27 hx', xa28 hx', xl28 hx', xs28 hx', xa29 hx', xl29 hx', xs29 hx', xa30 hx', xl30 hx', xs30 hx', xa31 hx', xl31 hx', xs31 hx', xa32 hx', xl32 hx', xs32 hx', xa33 hx', xl33 hx', xs33 hx', xa34 hx', xl34 hx', xs34 hx', xa35 hx', xl35 hx', xs35 hx', xa36 hx', xl36 hx', xs36 hx', xo37 hx', xa38 hx', xl38 hx', xs38 hx', xa39 hx', xl39 hx', xs39 hx', xa40 hx', xl40 hx', xs40 hx', xa41 hx', xl41 hx', xs41 hx', xo42 hx', xa43 hx', xl43 hx', xs43 hx', xa44 hx', xl44 hx', xs44 hx', xa45 hx', xl45 hx', xs45 hx', xa46 hx', xl46 hx', xs46 hx', xa47 hx', xl47 hx', xs47 hx', xa48 hx', xl48 hx', xs48 hx', xr0_0 hx', xr0_2 hx', xr0_4 hx', xr0_6 hx', xr0_8 hx', xr0_9 hx', xr6_0 hx', xr6_3 hx', xr0_10 hx', xr9_0 hx', xr9_2 hx', xr9_3 hx', xr9_5 hx', xr0_11 hx', xr0_12 hx', xr0_13 hx', xr0_14 hx', xr15_0 hx', xr15_1 hx', xr16_0 hx', xr16_1 hx', xr16_2 hx', xr16_3 hx', xr16_4 hx', xr16_5 hx', xr16_6 hx', xr16_7 hx', xr26_0 hx', xr26_1 hx', xr27_0 hx', xr27_1 hx', xr27_2 hx', xr27_3 hx', xr27_4 hx', xr27_5 hx', xr27_6 hx', xr27_7 hx', xr37_0 hx', xr37_2 hx', xr37_3 hx', xr37_5 hx', xr42_0 hx', xr42_1 hx', xr42_3 hx', xr42_4 hx', xr42_6 hx', xr42_8 hx', hw1, gb_0, k1, hgt1, hheld, hao, hp1, ha4, hm8, hpull, t1, t2, hpl2]
          rw [hst]
          refine s_slip (d := d + 3) hx' (show nFW ly t ≤ t + 1 by omega) (by omega) hd3 (by omega) (fun M2 q1 q2 => ?_)
          simp only [z35_128, gIn_toInt, nI_toInt, Nat.reduceLT, Nat.reducePow, va_rf_none, va_rf_some, gObj_sI, gObj_sR, gAr_sI, gAr_sR, gLen_sI, gLen_sR, gsI_1, gsI_2, gsR_1, gsR_2, gU_ref, gU_null, gU_rf, gisRef_ref, gisRef_null, gisRef_rf, Option.toList_some, Option.toList_none, List.cons_append, List.nil_append, true_and, and_true, false_and, and_false, ↓reduceIte, if_true, if_false, Nat.reduceEqDiff, Nat.reduceAdd, Nat.reduceMul, Nat.reduceSub, Nat.reduceLeDiff, reduceCtorEq, not_true_eq_false, not_false_eq_true, true_imp_iff, false_imp_iff, zc_0, zc_1, zc_2, zc_3, zc_4, zc_5, zc_6, zc_8, zc_9, zc_10, zc_32, zc_36, zc_48, zc_64, zc_80, zc_120, zc_128, zc_248, zc_320, zc_400, zc_800, zc_1200, zc_2001, zc_4002, Int.reduceLT, Int.reduceLE, Int.reduceNeg, Nat.zero_ne_one, Nat.one_ne_zero, or_true, true_or, or_false, false_or, nI_s1]
          refine hfin _ (up, fun q => decide (nFW ly t ≤ q ∧ q < t + 1) || g q, sl ++ [ly t 0]) _ (gFr_tr hf (gFr_tr (gFr_wk q1 (fun o h => Or.inr (Or.inl h))) (gFr_tr (gFr_sI (Or.inr (Or.inr (Or.inl rfl)))) (gFr_sI (Or.inl rfl))))) (by rw [gsI_1, if_neg (by omega), gsI_1, if_neg (by omega), q1.2 37 (by decide)]; exact h37) ⟨fun q hq => ?_, fun q hq => ?_, ?_, fun i b hb => ?_⟩ (fun q hq => Nat.le_trans (hup q hq) (by omega)) ?_ ?_
          · rw [gsI_1, if_neg (by omega), gsI_1, if_neg (by omega), q1.2 41 (by decide)]; exact hd1 q hq
          · rw [gsI_1, if_neg (by omega), gsI_1, if_neg (by omega), q2 q hq]
            by_cases h9 : nFW ly t ≤ q ∧ q < t + 1
            · simp [h9]
            · rw [if_neg h9, hd2 q hq]; simp [h9]
          · rw [gsI_1, if_pos ⟨rfl, rfl⟩]; simp
          · rw [gsI_1, if_neg (by omega), gsI_1]
            by_cases h9 : i = sl.length
            · subst h9
              rw [List.getElem?_append_right (Nat.le_refl _), Nat.sub_self] at hb
              cases hb
              first | (simp; done) | (simp; exact hp1.symm)
            · have hlt : i < sl.length := by
                have := (List.getElem?_eq_some_iff.mp hb).1
                simp at this
                omega
              rw [if_neg (fun z => h9 z.2), q1.2 40 (by decide)]
              rw [List.getElem?_append_left hlt] at hb
              exact hd4 i b hb
          · have h1 := nCnt_lt (g := g) (g' := fun q => decide (nFW ly t ≤ q ∧ q < t + 1) || g q) (fun q hq => by simp [hq]) hg (by simp [hff]) n (by omega)
            simp only [List.length_append, List.length_singleton] at hcn ⊢
            omega
          · simp only [nMv, hg, hho, hpin2, if_true, hpl]
            rfl
        · have hpl2 : ((nPull ly (fun r => sv (8 * m + r)) (nFW ly t) (t + 1 - nFW ly t) : Int) ≤ ((hold + 4 : Nat) : Int)) := by omega
          simp only [z35_21, z35_24, z35_27, z35_29, z35_32, z35_32n, z35_33, z35_35, z35_38, z35_40, z35_42, z35_43, z35_46, z35_47, z35_50, z35_53, z35_54, z35_57, z35_59, z35_60, z35_63, z35_63n, z35_64, z35_66, z35_68, z35_69, z35_72, z35_75, z35_75n, z35_76, z35_78, z35_81, z35_82, z35_85, z35_86, z35_89, z35_90, z35_91, z35_93, z35_93n, z35_94, z35_96, z35_98, z35_99, z35_102, z35_103, z35_105, z35_106, z35_109, z35_111, z35_114, z35_115, z35_117, z35_119, z35_119n, z35_120, z35_122, z35_125, z35_128, z35_131, z35_131n, z35_132, z35_134, z35_136, z35_137, z35_140, gIn_toInt, nI_toInt, Nat.reduceLT, Nat.reducePow, va_rf_none, va_rf_some, gObj_sI, gObj_sR, gAr_sI, gAr_sR, gLen_sI, gLen_sR, gsI_1, gsI_2, gsR_1, gsR_2, gU_ref, gU_null, gU_rf, gisRef_ref, gisRef_null, gisRef_rf, Option.toList_some, Option.toList_none, List.cons_append, List.nil_append, true_and, and_true, false_and, and_false, ↓reduceIte, if_true, if_false, Nat.reduceEqDiff, Nat.reduceAdd, Nat.reduceMul, Nat.reduceSub, Nat.reduceLeDiff, reduceCtorEq, not_true_eq_false, not_false_eq_true, true_imp_iff, false_imp_iff, zc_0, zc_1, zc_2, zc_3, zc_4, zc_5, zc_6, zc_8, zc_9, zc_10, zc_32, zc_36, zc_48, zc_64, zc_80, zc_120, zc_128, zc_248, zc_320, zc_400, zc_800, zc_1200, zc_2001, zc_4002, Int.reduceLT, Int.reduceLE, Int.reduceNeg, Nat.zero_ne_one, Nat.one_ne_zero, or_true, true_or, or_false, false_or, ti_0, ti_1, ti_2, ti_3, ti_4, ti_5, ti_6, ti_7, ti_8, ti_9, ti_10, ti_11, ti_12, ti_13, ti_14, ti_15, ti_16, ti_17, ti_18, ti_19, ti_20, ti_21, ti_22, ti_23, ti_24, ti_25, ti_26, ti_27, ti_28, ti_29, ti_30, ti_31, ti_32, ti_33, ti_34, ti_35, ti_36, ti_37, ti_38, ti_39, ti_40, ti_41, ti_42, ti_43, ti_44, ti_45, ti_46, ti_47, ti_48, ti_49, ti_50, ti_51, ti_52, ti_53, ti_54, ti_55, ti_56, ti_57, ti_58, ti_59, ti_60, ti_61, ti_62, ti_63, ti_64, ti_65, ti_66, ti_67, ti_68, ti_69, ti_70, ti_71, ti_72, ti_73, ti_74, ti_75, ti_76, ti_77, ti_78, ti_79, ti_80, ti_81, ti_82, ti_83, ti_84, ti_85, ti_86, ti_87, ti_88, ti_89, ti_90, ti_91, ti_92, ti_93, ti_94, ti_95, ti_96, ti_97, ti_98, ti_99, ti_100, ti_101, ti_102, ti_103, ti_104, ti_105, ti_106, ti_107, ti_108, ti_109, ti_110, ti_111, ti_112, ti_113, ti_114, ti_115, ti_116, ti_117, ti_118, ti_119, ti_120, ti_121, ti_122, ti_123, ti_124, ti_125, ti_126, ti_127, ti_128, ti_129, ti_200, ti_248, ti_255, ti_256, ti_400, ti_1000, ti_2000, ti_2001, ti_1000000, tj_1, tj_2, tj_8, tj_10, tj_1000, tc_0, tc_1, tc_2, tc_3, tc_4, tc_5, tc_6, tc_7, tc_8, i32_lt, i32_le, hi, hi4, ht, htc, ht0, ho, hfw, XR_sI, xo0 hx', xa1 hx', xl1 hx', xs1 hx', xa2 hx', xl2 hx', xs2 hx', xa3 hx', xl3 hx', xs3 hx', xa4 hx', xl4 hx', xs4 hx', xa5 hx', xl5 hx', xs5 hx', xo6 hx', xa7 hx', xl7 hx', xs7 hx', xa8 hx', xl8 hx', xs8 hx', xo9 hx', xa10 hx', xl10 hx', xs10 hx', xa11 hx', xl11 hx', xs11 hx', xa12 hx', xl12 hx', xs12 hx', xa13 hx', xl13 hx', xs13 hx', xa14 hx', xl14 hx', xs14 hx', xo15 hx', xo16 hx', xa17 hx', xl17 hx', xs17 hx', xa18 hx', xl18 hx', xs18 hx', xa19 hx', xl19 hx', xs19 hx', xa20 hx', xl20 hx', xs20 hx', xa21 hx', xl21 hx', xs21 hx', xa22 hx', xl22 hx', xs22 hx', xa23 hx', xl23 hx', xs23 hx', xa24 hx', xl24 hx', xs24 hx', xa25 hx', xl25 hx', xs25 hx', xo26 hx', xo27 hx', xa28 hx', xl28 hx', xs28 hx', xa29 hx', xl29 hx', xs29 hx', xa30 hx', xl30 hx', xs30 hx', xa31 hx', xl31 hx', xs31 hx', xa32 hx', xl32 hx', xs32 hx', xa33 hx', xl33 hx', xs33 hx', xa34 hx', xl34 hx', xs34 hx', xa35 hx', xl35 hx', xs35 hx', xa36 hx', xl36 hx', xs36 hx', xo37 hx', xa38 hx', xl38 hx', xs38 hx', xa39 hx', xl39 hx', xs39 hx', xa40 hx', xl40 hx', xs40 hx', xa41 hx', xl41 hx', xs41 hx', xo42 hx', xa43 hx', xl43 hx', xs43 hx', xa44 hx', xl44 hx', xs44 hx', xa45 hx', xl45 hx', xs45 hx', xa46 hx', xl46 hx', xs46 hx', xa47 hx', xl47 hx', xs47 hx', xa48 hx', xl48 hx', xs48 hx', xr0_0 hx', xr0_2 hx', xr0_4 hx', xr0_6 hx', xr0_8 hx', xr0_9 hx', xr6_0 hx', xr6_3 hx', xr0_10 hx', xr9_0 hx', xr9_2 hx', xr9_3 hx', xr9_5 hx', xr0_11 hx', xr0_12 hx', xr0_13 hx', xr0_14 hx', xr15_0 hx', xr15_1 hx', xr16_0 hx', xr16_1 hx', xr16_2 hx', xr16_3 hx', xr16_4 hx', xr16_5 hx', xr16_6 hx', xr16_7 hx', xr26_0 hx', xr26_1 hx', xr27_0 hx', xr27_1 hx', xr27_2 hx', xr27_3 hx', xr27_4 hx', xr27_5 hx', xr27_6 hx', xr27_7 hx', xr37_0 hx', xr37_2 hx', xr37_3 hx', xr37_5 hx', xr42_0 hx', xr42_1 hx', xr42_3 hx', xr42_4 hx', xr42_6 hx', xr42_8 hx', hw1, gb_0, k1, hgt1, hheld, hao, hp1, ha4, hm8, hpull, t1, t2, hpl2]
          rw [hst]
          refine s_heap (d := d + 1) hx' hL hls' (show t + 1 ≤ n by omega) (show nFW ly t ≤ t + 1 by omega) hd1 (fun M2 q1 q2 => ?_)
          simp only [nI_s1, Option.toList_none, List.nil_append]
          refine hfin M2 (nHeap up ly (nFW ly t) (t + 1 - nFW ly t), g, sl) _ (gFr_tr hf (gFr_wk q1 (fun o h => Or.inr (Or.inr (Or.inr h))))) (by rw [q1.2 37 (by decide)]; exact h37) ⟨q2, fun q hq => ?_, ?_, fun i b hb => ?_⟩ (fun q hq => ?_) hcn ?_
          · rw [q1.2 39 (by decide)]; exact hd2 q hq
          · rw [q1.2 37 (by decide)]; exact hd3
          · rw [q1.2 40 (by decide)]; exact hd4 i b hb
          · have := nHeap_le (up := up) (ly := ly) (a := nFW ly t) (t + 1 - nFW ly t) q
            have := hup q hq
            simp only at this ⊢
            omega
          · simp only [nMv, hg, hho, hpin2, if_true, hpl]
            rfl
      · have hp1 : ¬ nI (ly t 0) = oI pin := fun q => hpin2 (hpinE.mp q)
        have ha4 : nI hold + 0 = nI hold := Int32.add_zero _
        have t1 := nI_toInt (show hold < 2 ^ 31 by omega)
        have t2 := nI_toInt (show nPull ly (fun r => sv (8 * m + r)) (nFW ly t) (t + 1 - nFW ly t) < 2 ^ 31 by omega)
        by_cases hpl : hold < nPull ly (fun r => sv (8 * m + r)) (nFW ly t) (t + 1 - nFW ly t)
        · have hpl2 : ¬ ((nPull ly (fun r => sv (8 * m + r)) (nFW ly t) (t + 1 - nFW ly t) : Int) ≤ ((hold : Nat) : Int)) := by omega
          simp only [z35_21, z35_24, z35_27, z35_29, z35_32, z35_32n, z35_33, z35_35, z35_38, z35_40, z35_42, z35_43, z35_46, z35_47, z35_50, z35_53, z35_54, z35_57, z35_59, z35_60, z35_63, z35_63n, z35_64, z35_66, z35_68, z35_69, z35_72, z35_75, z35_75n, z35_76, z35_78, z35_81, z35_82, z35_85, z35_86, z35_89, z35_90, z35_91, z35_93, z35_93n, z35_94, z35_96, z35_98, z35_99, z35_102, z35_103, z35_105, z35_106, z35_109, z35_111, z35_114, z35_115, z35_117, z35_119, z35_119n, z35_120, z35_122, z35_125, gIn_toInt, nI_toInt, Nat.reduceLT, Nat.reducePow, va_rf_none, va_rf_some, gObj_sI, gObj_sR, gAr_sI, gAr_sR, gLen_sI, gLen_sR, gsI_1, gsI_2, gsR_1, gsR_2, gU_ref, gU_null, gU_rf, gisRef_ref, gisRef_null, gisRef_rf, Option.toList_some, Option.toList_none, List.cons_append, List.nil_append, true_and, and_true, false_and, and_false, ↓reduceIte, if_true, if_false, Nat.reduceEqDiff, Nat.reduceAdd, Nat.reduceMul, Nat.reduceSub, Nat.reduceLeDiff, reduceCtorEq, not_true_eq_false, not_false_eq_true, true_imp_iff, false_imp_iff, zc_0, zc_1, zc_2, zc_3, zc_4, zc_5, zc_6, zc_8, zc_9, zc_10, zc_32, zc_36, zc_48, zc_64, zc_80, zc_120, zc_128, zc_248, zc_320, zc_400, zc_800, zc_1200, zc_2001, zc_4002, Int.reduceLT, Int.reduceLE, Int.reduceNeg, Nat.zero_ne_one, Nat.one_ne_zero, or_true, true_or, or_false, false_or, ti_0, ti_1, ti_2, ti_3, ti_4, ti_5, ti_6, ti_7, ti_8, ti_9, ti_10, ti_11, ti_12, ti_13, ti_14, ti_15, ti_16, ti_17, ti_18, ti_19, ti_20, ti_21, ti_22, ti_23, ti_24, ti_25, ti_26, ti_27, ti_28, ti_29, ti_30, ti_31, ti_32, ti_33, ti_34, ti_35, ti_36, ti_37, ti_38, ti_39, ti_40, ti_41, ti_42, ti_43, ti_44, ti_45, ti_46, ti_47, ti_48, ti_49, ti_50, ti_51, ti_52, ti_53, ti_54, ti_55, ti_56, ti_57, ti_58, ti_59, ti_60, ti_61, ti_62, ti_63, ti_64, ti_65, ti_66, ti_67, ti_68, ti_69, ti_70, ti_71, ti_72, ti_73, ti_74, ti_75, ti_76, ti_77, ti_78, ti_79, ti_80, ti_81, ti_82, ti_83, ti_84, ti_85, ti_86, ti_87, ti_88, ti_89, ti_90, ti_91, ti_92, ti_93, ti_94, ti_95, ti_96, ti_97, ti_98, ti_99, ti_100, ti_101, ti_102, ti_103, ti_104, ti_105, ti_106, ti_107, ti_108, ti_109, ti_110, ti_111, ti_112, ti_113, ti_114, ti_115, ti_116, ti_117, ti_118, ti_119, ti_120, ti_121, ti_122, ti_123, ti_124, ti_125, ti_126, ti_127, ti_128, ti_129, ti_200, ti_248, ti_255, ti_256, ti_400, ti_1000, ti_2000, ti_2001, ti_1000000, tj_1, tj_2, tj_8, tj_10, tj_1000, tc_0, tc_1, tc_2, tc_3, tc_4, tc_5, tc_6, tc_7, tc_8, i32_lt, i32_le, hi, hi4, ht, htc, ht0, ho, hfw, XR_sI, xo0 hx', xa1 hx', xl1 hx', xs1 hx', xa2 hx', xl2 hx', xs2 hx', xa3 hx', xl3 hx', xs3 hx', xa4 hx', xl4 hx', xs4 hx', xa5 hx', xl5 hx', xs5 hx', xo6 hx', xa7 hx', xl7 hx', xs7 hx', xa8 hx', xl8 hx', xs8 hx', xo9 hx', xa10 hx', xl10 hx', xs10 hx', xa11 hx', xl11 hx', xs11 hx', xa12 hx', xl12 hx', xs12 hx', xa13 hx', xl13 hx', xs13 hx', xa14 hx', xl14 hx', xs14 hx', xo15 hx', xo16 hx', xa17 hx', xl17 hx', xs17 hx', xa18 hx', xl18 hx', xs18 hx', xa19 hx', xl19 hx', xs19 hx', xa20 hx', xl20 hx', xs20 hx', xa21 hx', xl21 hx', xs21 hx', xa22 hx', xl22 hx', xs22 hx', xa23 hx', xl23 hx', xs23 hx', xa24 hx', xl24 hx', xs24 hx', xa25 hx', xl25 hx', xs25 hx', xo26 hx', xo27 hx', xa28 hx', xl28 hx', xs28 hx', xa29 hx', xl29 hx', xs29 hx', xa30 hx', xl30 hx', xs30 hx', xa31 hx', xl31 hx', xs31 hx', xa32 hx', xl32 hx', xs32 hx', xa33 hx', xl33 hx', xs33 hx', xa34 hx', xl34 hx', xs34 hx', xa35 hx', xl35 hx', xs35 hx', xa36 hx', xl36 hx', xs36 hx', xo37 hx', xa38 hx', xl38 hx', xs38 hx', xa39 hx', xl39 hx', xs39 hx', xa40 hx', xl40 hx', xs40 hx', xa41 hx', xl41 hx', xs41 hx', xo42 hx', xa43 hx', xl43 hx', xs43 hx', xa44 hx', xl44 hx', xs44 hx', xa45 hx', xl45 hx', xs45 hx', xa46 hx', xl46 hx', xs46 hx', xa47 hx', xl47 hx', xs47 hx', xa48 hx', xl48 hx', xs48 hx', xr0_0 hx', xr0_2 hx', xr0_4 hx', xr0_6 hx', xr0_8 hx', xr0_9 hx', xr6_0 hx', xr6_3 hx', xr0_10 hx', xr9_0 hx', xr9_2 hx', xr9_3 hx', xr9_5 hx', xr0_11 hx', xr0_12 hx', xr0_13 hx', xr0_14 hx', xr15_0 hx', xr15_1 hx', xr16_0 hx', xr16_1 hx', xr16_2 hx', xr16_3 hx', xr16_4 hx', xr16_5 hx', xr16_6 hx', xr16_7 hx', xr26_0 hx', xr26_1 hx', xr27_0 hx', xr27_1 hx', xr27_2 hx', xr27_3 hx', xr27_4 hx', xr27_5 hx', xr27_6 hx', xr27_7 hx', xr37_0 hx', xr37_2 hx', xr37_3 hx', xr37_5 hx', xr42_0 hx', xr42_1 hx', xr42_3 hx', xr42_4 hx', xr42_6 hx', xr42_8 hx', hw1, gb_0, k1, hgt1, hheld, hao, hp1, ha4, hm8, hpull, t1, t2, hpl2]
          rw [hst]
          refine s_slip (d := d + 3) hx' (show nFW ly t ≤ t + 1 by omega) (by omega) hd3 (by omega) (fun M2 q1 q2 => ?_)
          simp only [z35_128, gIn_toInt, nI_toInt, Nat.reduceLT, Nat.reducePow, va_rf_none, va_rf_some, gObj_sI, gObj_sR, gAr_sI, gAr_sR, gLen_sI, gLen_sR, gsI_1, gsI_2, gsR_1, gsR_2, gU_ref, gU_null, gU_rf, gisRef_ref, gisRef_null, gisRef_rf, Option.toList_some, Option.toList_none, List.cons_append, List.nil_append, true_and, and_true, false_and, and_false, ↓reduceIte, if_true, if_false, Nat.reduceEqDiff, Nat.reduceAdd, Nat.reduceMul, Nat.reduceSub, Nat.reduceLeDiff, reduceCtorEq, not_true_eq_false, not_false_eq_true, true_imp_iff, false_imp_iff, zc_0, zc_1, zc_2, zc_3, zc_4, zc_5, zc_6, zc_8, zc_9, zc_10, zc_32, zc_36, zc_48, zc_64, zc_80, zc_120, zc_128, zc_248, zc_320, zc_400, zc_800, zc_1200, zc_2001, zc_4002, Int.reduceLT, Int.reduceLE, Int.reduceNeg, Nat.zero_ne_one, Nat.one_ne_zero, or_true, true_or, or_false, false_or, nI_s1]
          refine hfin _ (up, fun q => decide (nFW ly t ≤ q ∧ q < t + 1) || g q, sl ++ [ly t 0]) _ (gFr_tr hf (gFr_tr (gFr_wk q1 (fun o h => Or.inr (Or.inl h))) (gFr_tr (gFr_sI (Or.inr (Or.inr (Or.inl rfl)))) (gFr_sI (Or.inl rfl))))) (by rw [gsI_1, if_neg (by omega), gsI_1, if_neg (by omega), q1.2 37 (by decide)]; exact h37) ⟨fun q hq => ?_, fun q hq => ?_, ?_, fun i b hb => ?_⟩ (fun q hq => Nat.le_trans (hup q hq) (by omega)) ?_ ?_
          · rw [gsI_1, if_neg (by omega), gsI_1, if_neg (by omega), q1.2 41 (by decide)]; exact hd1 q hq
          · rw [gsI_1, if_neg (by omega), gsI_1, if_neg (by omega), q2 q hq]
            by_cases h9 : nFW ly t ≤ q ∧ q < t + 1
            · simp [h9]
            · rw [if_neg h9, hd2 q hq]; simp [h9]
          · rw [gsI_1, if_pos ⟨rfl, rfl⟩]; simp
          · rw [gsI_1, if_neg (by omega), gsI_1]
            by_cases h9 : i = sl.length
            · subst h9
              rw [List.getElem?_append_right (Nat.le_refl _), Nat.sub_self] at hb
              cases hb
              first | (simp; done) | (simp; exact hp1.symm)
            · have hlt : i < sl.length := by
                have := (List.getElem?_eq_some_iff.mp hb).1
                simp at this
                omega
              rw [if_neg (fun z => h9 z.2), q1.2 40 (by decide)]
              rw [List.getElem?_append_left hlt] at hb
              exact hd4 i b hb
          · have h1 := nCnt_lt (g := g) (g' := fun q => decide (nFW ly t ≤ q ∧ q < t + 1) || g q) (fun q hq => by simp [hq]) hg (by simp [hff]) n (by omega)
            simp only [List.length_append, List.length_singleton] at hcn ⊢
            omega
          · simp only [nMv, hg, hho, hpin2, if_false, Nat.add_zero, hpl, if_true]
            rfl
        · have hpl2 : ((nPull ly (fun r => sv (8 * m + r)) (nFW ly t) (t + 1 - nFW ly t) : Int) ≤ ((hold : Nat) : Int)) := by omega
          simp only [z35_21, z35_24, z35_27, z35_29, z35_32, z35_32n, z35_33, z35_35, z35_38, z35_40, z35_42, z35_43, z35_46, z35_47, z35_50, z35_53, z35_54, z35_57, z35_59, z35_60, z35_63, z35_63n, z35_64, z35_66, z35_68, z35_69, z35_72, z35_75, z35_75n, z35_76, z35_78, z35_81, z35_82, z35_85, z35_86, z35_89, z35_90, z35_91, z35_93, z35_93n, z35_94, z35_96, z35_98, z35_99, z35_102, z35_103, z35_105, z35_106, z35_109, z35_111, z35_114, z35_115, z35_117, z35_119, z35_119n, z35_120, z35_122, z35_125, z35_128, z35_131, z35_131n, z35_132, z35_134, z35_136, z35_137, z35_140, gIn_toInt, nI_toInt, Nat.reduceLT, Nat.reducePow, va_rf_none, va_rf_some, gObj_sI, gObj_sR, gAr_sI, gAr_sR, gLen_sI, gLen_sR, gsI_1, gsI_2, gsR_1, gsR_2, gU_ref, gU_null, gU_rf, gisRef_ref, gisRef_null, gisRef_rf, Option.toList_some, Option.toList_none, List.cons_append, List.nil_append, true_and, and_true, false_and, and_false, ↓reduceIte, if_true, if_false, Nat.reduceEqDiff, Nat.reduceAdd, Nat.reduceMul, Nat.reduceSub, Nat.reduceLeDiff, reduceCtorEq, not_true_eq_false, not_false_eq_true, true_imp_iff, false_imp_iff, zc_0, zc_1, zc_2, zc_3, zc_4, zc_5, zc_6, zc_8, zc_9, zc_10, zc_32, zc_36, zc_48, zc_64, zc_80, zc_120, zc_128, zc_248, zc_320, zc_400, zc_800, zc_1200, zc_2001, zc_4002, Int.reduceLT, Int.reduceLE, Int.reduceNeg, Nat.zero_ne_one, Nat.one_ne_zero, or_true, true_or, or_false, false_or, ti_0, ti_1, ti_2, ti_3, ti_4, ti_5, ti_6, ti_7, ti_8, ti_9, ti_10, ti_11, ti_12, ti_13, ti_14, ti_15, ti_16, ti_17, ti_18, ti_19, ti_20, ti_21, ti_22, ti_23, ti_24, ti_25, ti_26, ti_27, ti_28, ti_29, ti_30, ti_31, ti_32, ti_33, ti_34, ti_35, ti_36, ti_37, ti_38, ti_39, ti_40, ti_41, ti_42, ti_43, ti_44, ti_45, ti_46, ti_47, ti_48, ti_49, ti_50, ti_51, ti_52, ti_53, ti_54, ti_55, ti_56, ti_57, ti_58, ti_59, ti_60, ti_61, ti_62, ti_63, ti_64, ti_65, ti_66, ti_67, ti_68, ti_69, ti_70, ti_71, ti_72, ti_73, ti_74, ti_75, ti_76, ti_77, ti_78, ti_79, ti_80, ti_81, ti_82, ti_83, ti_84, ti_85, ti_86, ti_87, ti_88, ti_89, ti_90, ti_91, ti_92, ti_93, ti_94, ti_95, ti_96, ti_97, ti_98, ti_99, ti_100, ti_101, ti_102, ti_103, ti_104, ti_105, ti_106, ti_107, ti_108, ti_109, ti_110, ti_111, ti_112, ti_113, ti_114, ti_115, ti_116, ti_117, ti_118, ti_119, ti_120, ti_121, ti_122, ti_123, ti_124, ti_125, ti_126, ti_127, ti_128, ti_129, ti_200, ti_248, ti_255, ti_256, ti_400, ti_1000, ti_2000, ti_2001, ti_1000000, tj_1, tj_2, tj_8, tj_10, tj_1000, tc_0, tc_1, tc_2, tc_3, tc_4, tc_5, tc_6, tc_7, tc_8, i32_lt, i32_le, hi, hi4, ht, htc, ht0, ho, hfw, XR_sI, xo0 hx', xa1 hx', xl1 hx', xs1 hx', xa2 hx', xl2 hx', xs2 hx', xa3 hx', xl3 hx', xs3 hx', xa4 hx', xl4 hx', xs4 hx', xa5 hx', xl5 hx', xs5 hx', xo6 hx', xa7 hx', xl7 hx', xs7 hx', xa8 hx', xl8 hx', xs8 hx', xo9 hx', xa10 hx', xl10 hx', xs10 hx', xa11 hx', xl11 hx', xs11 hx', xa12 hx', xl12 hx', xs12 hx', xa13 hx', xl13 hx', xs13 hx', xa14 hx', xl14 hx', xs14 hx', xo15 hx', xo16 hx', xa17 hx', xl17 hx', xs17 hx', xa18 hx', xl18 hx', xs18 hx', xa19 hx', xl19 hx', xs19 hx', xa20 hx', xl20 hx', xs20 hx', xa21 hx', xl21 hx', xs21 hx', xa22 hx', xl22 hx', xs22 hx', xa23 hx', xl23 hx', xs23 hx', xa24 hx', xl24 hx', xs24 hx', xa25 hx', xl25 hx', xs25 hx', xo26 hx', xo27 hx', xa28 hx', xl28 hx', xs28 hx', xa29 hx', xl29 hx', xs29 hx', xa30 hx', xl30 hx', xs30 hx', xa31 hx', xl31 hx', xs31 hx', xa32 hx', xl32 hx', xs32 hx', xa33 hx', xl33 hx', xs33 hx', xa34 hx', xl34 hx', xs34 hx', xa35 hx', xl35 hx', xs35 hx', xa36 hx', xl36 hx', xs36 hx', xo37 hx', xa38 hx', xl38 hx', xs38 hx', xa39 hx', xl39 hx', xs39 hx', xa40 hx', xl40 hx', xs40 hx', xa41 hx', xl41 hx', xs41 hx', xo42 hx', xa43 hx', xl43 hx', xs43 hx', xa44 hx', xl44 hx', xs44 hx', xa45 hx', xl45 hx', xs45 hx', xa46 hx', xl46 hx', xs46 hx', xa47 hx', xl47 hx', xs47 hx', xa48 hx', xl48 hx', xs48 hx', xr0_0 hx', xr0_2 hx', xr0_4 hx', xr0_6 hx', xr0_8 hx', xr0_9 hx', xr6_0 hx', xr6_3 hx', xr0_10 hx', xr9_0 hx', xr9_2 hx', xr9_3 hx', xr9_5 hx', xr0_11 hx', xr0_12 hx', xr0_13 hx', xr0_14 hx', xr15_0 hx', xr15_1 hx', xr16_0 hx', xr16_1 hx', xr16_2 hx', xr16_3 hx', xr16_4 hx', xr16_5 hx', xr16_6 hx', xr16_7 hx', xr26_0 hx', xr26_1 hx', xr27_0 hx', xr27_1 hx', xr27_2 hx', xr27_3 hx', xr27_4 hx', xr27_5 hx', xr27_6 hx', xr27_7 hx', xr37_0 hx', xr37_2 hx', xr37_3 hx', xr37_5 hx', xr42_0 hx', xr42_1 hx', xr42_3 hx', xr42_4 hx', xr42_6 hx', xr42_8 hx', hw1, gb_0, k1, hgt1, hheld, hao, hp1, ha4, hm8, hpull, t1, t2, hpl2]
          rw [hst]
          refine s_heap (d := d + 1) hx' hL hls' (show t + 1 ≤ n by omega) (show nFW ly t ≤ t + 1 by omega) hd1 (fun M2 q1 q2 => ?_)
          simp only [nI_s1, Option.toList_none, List.nil_append]
          refine hfin M2 (nHeap up ly (nFW ly t) (t + 1 - nFW ly t), g, sl) _ (gFr_tr hf (gFr_wk q1 (fun o h => Or.inr (Or.inr (Or.inr h))))) (by rw [q1.2 37 (by decide)]; exact h37) ⟨q2, fun q hq => ?_, ?_, fun i b hb => ?_⟩ (fun q hq => ?_) hcn ?_
          · rw [q1.2 39 (by decide)]; exact hd2 q hq
          · rw [q1.2 37 (by decide)]; exact hd3
          · rw [q1.2 40 (by decide)]; exact hd4 i b hb
          · have := nHeap_le (up := up) (ly := ly) (a := nFW ly t) (t + 1 - nFW ly t) q
            have := hup q hq
            simp only at this ⊢
            omega
          · simp only [nMv, hg, hho, hpin2, if_false, Nat.add_zero, hpl]
            rfl
end
