/-! The class's Picture: the search. -/
def nIt {α : Type} (f : Nat → α → α) : Nat → α → α
  | 0, a => a
  | k + 1, a => f k (nIt f k a)
def nTry (g : Nat → Nat) (len endc : Nat) (col want : Nat → Nat) : Nat → (Nat → Nat) → (Nat → Nat) → Nat → (Nat → Nat) → nFo → nFo
  | 0, _, _, _, _, a => a
  | j + 1, rg, gr, dn, rw', a => nIt (fun i a => if pOk g i rg = true then
      nTry g len endc col want j (cn (pRg g i rg)) (gLaysG len endc col (pL g i rg) (pN i rg) gr) (dn + 1) (pUpd rw' dn i)
        (if nOff want (gLaysG len endc col (pL g i rg) (pN i rg) gr) 64 = 0 then nKeep (dn + 1) (pUpd rw' dn i) a else a)
      else a) 11 a
def nB : Nat → Nat
  | 0 => 0
  | j + 1 => 11 * (1 + nB j)
def xPf (o : Nat) : Prop := xPin o ∨ o = 47 ∨ o = 48 ∨ xDin 26 o
/-- what stands in the search -/
def xSr (M : gM) (t : nD) (s : nGs) (rw' : Nat → Nat) (dn : Nat) (a : nFo) (want : Nat → Nat) : Prop := xDr M 26 t ∧ nOk t ∧ xPg M want s ∧ xRw M dn rw' ∧ xFo M a
def sim (t t2 : nD) : Prop := cn t2.1 = cn t.1 ∧ t2.2.1 = t.2.1 ∧ ∀ k, k < t.2.1 → t2.2.2 k = t.2.2 k
theorem sim_rf {t : nD} : sim t t := ⟨rfl, rfl, fun _ _ => rfl⟩
theorem sim_tr {a b c : nD} (h1 : sim a b) (h2 : sim b c) : sim a c := ⟨h2.1.trans h1.1, h2.2.1.trans h1.2.1, fun k hk => (h2.2.2 k (by rw [h1.2.1]; exact hk)).trans (h1.2.2 k hk)⟩
section
variable {d D k n c len endc m p dn : Nat} {M M0 M2 : gM} {Z : Option Value → gM → Prop} {x y : Int32} {want gr g col rw' : Nat → Nat} {t t2 : nD} {l : List (Nat × Nat)} {s : nGs} {a : nFo}
theorem xPf_D {M M2 : gM} (h : gFr (xDin 26) M M2) : gFr xPf M M2 := gFr_wk h (fun _ z => Or.inr (Or.inr (Or.inr z)))
theorem xPf_P {M M2 : gM} (h : gFr xPin M M2) : gFr xPf M M2 := gFr_wk h (fun _ z => Or.inl z)
theorem xPg_fr {P : Nat → Prop} (hf : gFr P M M2) (hP : ∀ o, 42 ≤ o → o ≤ 46 → ¬ P o) (h : xPg M want s) : xPg M2 want s := by
  obtain ⟨h1, h2, h3, h4⟩ := h
  have q42 := hf.2 42 (hP 42 (by decide) (by decide))
  have q44 := hf.2 44 (hP 44 (by decide) (by decide))
  have q45 := hf.2 45 (hP 45 (by decide) (by decide))
  have q46 := hf.2 46 (hP 46 (by decide) (by decide))
  exact ⟨⟨fun k hk => by rw [q44]; exact h1.1 k hk, by rw [q42]; exact h1.2⟩, xStk_fr (fun k _ => by rw [q45, q46]; exact ⟨rfl, rfl⟩) h2, by rw [q42]; exact h3, h4⟩
theorem xFo_fr {P : Nat → Prop} (hf : gFr P M M2) (h42 : M2.1 42 7 = M.1 42 7 ∧ M2.1 42 9 = M.1 42 9) (h48 : ¬ P 48) (h : xFo M a) : xFo M2 a := by
  obtain ⟨a1, a2, a3, a4⟩ := h
  exact ⟨by rw [h42.1]; exact a1, by rw [h42.2]; exact a2, a3, fun i hi => by rw [hf.2 48 h48]; exact a4 i hi⟩
theorem xRw_fr {P : Nat → Prop} (hf : gFr P M M2) (h47 : ¬ P 47) (h : xRw M dn rw') : xRw M2 dn rw' := fun i hi => by rw [hf.2 47 h47]; exact h i hi
theorem xDin_no {o : Nat} (h : 36 ≤ o) : ¬ xDin 26 o := fun z => by unfold xDin at z; omega
/-- the drape put back -/
def nBack (t t5 : nD) : nD := (nU (nU (nU (nU (nU t5.1 5 (t.1 5)) 6 (t.1 6)) 4 (t.1 4)) 7 (t.1 7)) 8 (t.1 8), t.2.1, t5.2.2)
theorem nBack_sim {t t5 : nD} (h2 : t5.1 2 = t.1 2) (h3 : t5.1 3 = t.1 3) (hl : ∀ k, k < t.2.1 → t5.2.2 k = t.2.2 k) : sim t (nBack t t5) := ⟨cn_ext h2 h3 rfl rfl rfl rfl rfl, rfl, hl⟩
theorem nBack_ok {t t5 : nD} (h2 : t5.1 2 = t.1 2) (h3 : t5.1 3 = t.1 3) (ht : nOk t) (h5 : nOk t5) : nOk (nBack t t5) := by
  obtain ⟨k1, k2, k3, k4, k5, k6, k7, k8, k10, k11, k12⟩ := ht
  obtain ⟨j1, j2, j3, j4, j5, j6, j7, j8, j10, j11, j12⟩ := h5
  exact ⟨j1, j2, by show t.1 4 ≤ t5.1 2; omega, by show t.1 5 + t5.1 3 ≤ 8; omega, k5, k6, k7, j8, j10, j11, trivial⟩
theorem s_back {t5 : nD} {i : Nat} {pn : Int32} (hx : XR M) (hd : xDr M 26 t5) (hn : t.2.1 ≤ t5.2.1) {wy : Int32} (hwy : wy = if t.1 7 = 0 then 1 else -1)
    (hK : ∀ M2, gFr (xDin 26) M M2 → xDr M2 26 (nBack t t5) → Run (d + 1) 60 57 [some (.ref 42), some (.int (nI dn)), some (.ref 26), some (.ref p), some (.int (nI (t.1 5))), some (.int (nI (t.1 6))), some (.int (nI (t.1 4))), some (.int wy), some (.int (nI (t.1 8))), some (.int (nI t.2.1)), some (.int pn), some (.int (nI (i + 1)))] [] M2 0 0 Z) :
    Run (d + 1) 60 114 [some (.ref 42), some (.int (nI dn)), some (.ref 26), some (.ref p), some (.int (nI (t.1 5))), some (.int (nI (t.1 6))), some (.int (nI (t.1 4))), some (.int wy), some (.int (nI (t.1 8))), some (.int (nI t.2.1)), some (.int pn), some (.int (nI i))] [] M 0 0 Z := by
  have hD : isD 26 := Or.inr rfl
  have hg := fun a b c Z => s_goTo (d := d) (a := a) (b := b) (c := c) (Z := Z) hx hD
  have hd1 := xDr_set (xDr_set (xDr_set hd (q := 5) (w := t.1 5) (by decide)) (q := 6) (w := t.1 6) (by decide)) (q := 4) (w := t.1 4) (by decide)
  have hd2 := xDr_n (xDr_set (xDr_set7 hd1 (w := t.1 7) hwy) (q := 8) (w := t.1 8) (by decide)) (m := t.2.1) hn rfl
  have hf := gFr_tr (gFr_tr (xDin_sI (D := 26) (o := 26) (q := 5) (M := M) (x := nI (t.1 5)) (by omega)) (xDin_sI (o := 26) (q := 6) (x := nI (t.1 6)) (by omega))) (xDin_sI (o := 26) (q := 4) (x := nI (t.1 4)) (by omega))
  have hx1 : XR (gsI (gsI (gsI M 26 5 (nI (t.1 5))) 26 6 (nI (t.1 6))) 26 4 (nI (t.1 4))) := hx
  have hfin := hK _ (gFr_tr hf (gFr_tr (gFr_tr (xDin_sI (D := 26) (o := 26) (q := 7) (x := wy) (by omega)) (xDin_sI (o := 26) (q := 8) (x := nI (t.1 8)) (by omega))) (xDin_sI (o := 27) (q := 8) (x := nI t.2.1) (by omega)))) hd2
  simp only [z60_114, z60_114n, z60_115, z60_117, z60_119, z60_121, z60_124, z60_124n, z60_125, z60_127, z60_130, z60_130n, z60_131, z60_133, z60_136, z60_136n, z60_137, z60_140, z60_142, z60_145, z60_148, gIn_toInt, nI_toInt, Nat.reduceLT, Nat.reducePow, va_rf_none, va_rf_some, gObj_sI, gObj_sR, gAr_sI, gAr_sR, gLen_sI, gLen_sR, gsI_1, gsI_2, gsR_1, gsR_2, gU_ref, gU_null, gU_rf, gisRef_ref, gisRef_null, gisRef_rf, Option.toList_some, Option.toList_none, List.cons_append, List.nil_append, true_and, and_true, false_and, and_false, ↓reduceIte, if_true, if_false, Nat.reduceEqDiff, Nat.reduceAdd, Nat.reduceMul, Nat.reduceSub, Nat.reduceLeDiff, reduceCtorEq, not_true_eq_false, not_false_eq_true, true_imp_iff, false_imp_iff, zc_0, zc_1, zc_2, zc_3, zc_4, zc_5, zc_6, zc_8, zc_9, zc_10, zc_32, zc_36, zc_48, zc_64, zc_80, zc_120, zc_128, zc_248, zc_320, zc_400, zc_800, zc_1200, zc_2001, zc_4002, Int.reduceLT, Int.reduceLE, Int.reduceNeg, Nat.zero_ne_one, Nat.one_ne_zero, or_true, true_or, or_false, false_or, XR_sI, xo0 hx, xa1 hx, xl1 hx, xs1 hx, xa2 hx, xl2 hx, xs2 hx, xa3 hx, xl3 hx, xs3 hx, xa4 hx, xl4 hx, xs4 hx, xa5 hx, xl5 hx, xs5 hx, xo6 hx, xa7 hx, xl7 hx, xs7 hx, xa8 hx, xl8 hx, xs8 hx, xo9 hx, xa10 hx, xl10 hx, xs10 hx, xa11 hx, xl11 hx, xs11 hx, xa12 hx, xl12 hx, xs12 hx, xa13 hx, xl13 hx, xs13 hx, xa14 hx, xl14 hx, xs14 hx, xo15 hx, xo16 hx, xa17 hx, xl17 hx, xs17 hx, xa18 hx, xl18 hx, xs18 hx, xa19 hx, xl19 hx, xs19 hx, xa20 hx, xl20 hx, xs20 hx, xa21 hx, xl21 hx, xs21 hx, xa22 hx, xl22 hx, xs22 hx, xa23 hx, xl23 hx, xs23 hx, xa24 hx, xl24 hx, xs24 hx, xa25 hx, xl25 hx, xs25 hx, xo26 hx, xo27 hx, xa28 hx, xl28 hx, xs28 hx, xa29 hx, xl29 hx, xs29 hx, xa30 hx, xl30 hx, xs30 hx, xa31 hx, xl31 hx, xs31 hx, xa32 hx, xl32 hx, xs32 hx, xa33 hx, xl33 hx, xs33 hx, xa34 hx, xl34 hx, xs34 hx, xa35 hx, xl35 hx, xs35 hx, xa36 hx, xl36 hx, xs36 hx, xo37 hx, xa38 hx, xl38 hx, xs38 hx, xa39 hx, xl39 hx, xs39 hx, xa40 hx, xl40 hx, xs40 hx, xa41 hx, xl41 hx, xs41 hx, xo42 hx, xa43 hx, xl43 hx, xs43 hx, xa44 hx, xl44 hx, xs44 hx, xa45 hx, xl45 hx, xs45 hx, xa46 hx, xl46 hx, xs46 hx, xa47 hx, xl47 hx, xs47 hx, xa48 hx, xl48 hx, xs48 hx, xr0_0 hx, xr0_2 hx, xr0_4 hx, xr0_6 hx, xr0_8 hx, xr0_9 hx, xr6_0 hx, xr6_3 hx, xr0_10 hx, xr9_0 hx, xr9_2 hx, xr9_3 hx, xr9_5 hx, xr0_11 hx, xr0_12 hx, xr0_13 hx, xr0_14 hx, xr15_0 hx, xr15_1 hx, xr16_0 hx, xr16_1 hx, xr16_2 hx, xr16_3 hx, xr16_4 hx, xr16_5 hx, xr16_6 hx, xr16_7 hx, xr26_0 hx, xr26_1 hx, xr27_0 hx, xr27_1 hx, xr27_2 hx, xr27_3 hx, xr27_4 hx, xr27_5 hx, xr27_6 hx, xr27_7 hx, xr37_0 hx, xr37_2 hx, xr37_3 hx, xr37_5 hx, xr42_0 hx, xr42_1 hx, xr42_3 hx, xr42_4 hx, xr42_6 hx, xr42_8 hx, XR_sI, xo0 hx1, xa1 hx1, xl1 hx1, xs1 hx1, xa2 hx1, xl2 hx1, xs2 hx1, xa3 hx1, xl3 hx1, xs3 hx1, xa4 hx1, xl4 hx1, xs4 hx1, xa5 hx1, xl5 hx1, xs5 hx1, xo6 hx1, xa7 hx1, xl7 hx1, xs7 hx1, xa8 hx1, xl8 hx1, xs8 hx1, xo9 hx1, xa10 hx1, xl10 hx1, xs10 hx1, xa11 hx1, xl11 hx1, xs11 hx1, xa12 hx1, xl12 hx1, xs12 hx1, xa13 hx1, xl13 hx1, xs13 hx1, xa14 hx1, xl14 hx1, xs14 hx1, xo15 hx1, xo16 hx1, xa17 hx1, xl17 hx1, xs17 hx1, xa18 hx1, xl18 hx1, xs18 hx1, xa19 hx1, xl19 hx1, xs19 hx1, xa20 hx1, xl20 hx1, xs20 hx1, xa21 hx1, xl21 hx1, xs21 hx1, xa22 hx1, xl22 hx1, xs22 hx1, xa23 hx1, xl23 hx1, xs23 hx1, xa24 hx1, xl24 hx1, xs24 hx1, xa25 hx1, xl25 hx1, xs25 hx1, xo26 hx1, xo27 hx1, xa28 hx1, xl28 hx1, xs28 hx1, xa29 hx1, xl29 hx1, xs29 hx1, xa30 hx1, xl30 hx1, xs30 hx1, xa31 hx1, xl31 hx1, xs31 hx1, xa32 hx1, xl32 hx1, xs32 hx1, xa33 hx1, xl33 hx1, xs33 hx1, xa34 hx1, xl34 hx1, xs34 hx1, xa35 hx1, xl35 hx1, xs35 hx1, xa36 hx1, xl36 hx1, xs36 hx1, xo37 hx1, xa38 hx1, xl38 hx1, xs38 hx1, xa39 hx1, xl39 hx1, xs39 hx1, xa40 hx1, xl40 hx1, xs40 hx1, xa41 hx1, xl41 hx1, xs41 hx1, xo42 hx1, xa43 hx1, xl43 hx1, xs43 hx1, xa44 hx1, xl44 hx1, xs44 hx1, xa45 hx1, xl45 hx1, xs45 hx1, xa46 hx1, xl46 hx1, xs46 hx1, xa47 hx1, xl47 hx1, xs47 hx1, xa48 hx1, xl48 hx1, xs48 hx1, xr0_0 hx1, xr0_2 hx1, xr0_4 hx1, xr0_6 hx1, xr0_8 hx1, xr0_9 hx1, xr6_0 hx1, xr6_3 hx1, xr0_10 hx1, xr9_0 hx1, xr9_2 hx1, xr9_3 hx1, xr9_5 hx1, xr0_11 hx1, xr0_12 hx1, xr0_13 hx1, xr0_14 hx1, xr15_0 hx1, xr15_1 hx1, xr16_0 hx1, xr16_1 hx1, xr16_2 hx1, xr16_3 hx1, xr16_4 hx1, xr16_5 hx1, xr16_6 hx1, xr16_7 hx1, xr26_0 hx1, xr26_1 hx1, xr27_0 hx1, xr27_1 hx1, xr27_2 hx1, xr27_3 hx1, xr27_4 hx1, xr27_5 hx1, xr27_6 hx1, xr27_7 hx1, xr37_0 hx1, xr37_2 hx1, xr37_3 hx1, xr37_5 hx1, xr42_0 hx1, xr42_1 hx1, xr42_3 hx1, xr42_4 hx1, xr42_6 hx1, xr42_8 hx1, hg, nI_1]
  exact hfin
end
