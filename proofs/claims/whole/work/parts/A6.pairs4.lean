/-! Pairs: style. -/
theorem nDig_999 {tx : Nat → Nat} {a k : Nat} (h1 : 1 ≤ k) (h2 : k ≤ 3) (h : ∀ i, i < k → cDig (tx (a + i))) : nDig tx a k ≤ 999 := by
  obtain rfl | rfl | rfl : k = 1 ∨ k = 2 ∨ k = 3 := by omega
  · have := h 0 (by decide)
    simp only [nDig]
    omega
  · have := h 0 (by decide)
    have := h 1 (by decide)
    simp only [nDig]
    omega
  · have := h 0 (by decide)
    have := h 1 (by decide)
    have := h 2 (by decide)
    simp only [nDig]
    omega
theorem cE_le {tx mk : Nat → Nat} {m o a u b v : Nat} {e : nEv} (h : cE tx mk m o a u b v e) : u < v ∧ ∀ k, u ≤ k → k < v → mk k ≤ 1300 := by
  refine h (fun m o a u b v e => u < v ∧ ∀ k, u ≤ k → k < v → mk k ≤ 1300) ⟨?_, ?_, ?_, ?_, ?_, ?_, ?_⟩
  · intro o a u k h1 h2 h3 h4 h5
    refine ⟨by omega, fun q q1 q2 => ?_⟩
    have := nDig_999 h1 h2 h3
    rw [show q = u by omega, h5]
    omega
  · intro o a u h1 h2
    refine ⟨by omega, fun q q1 q2 => ?_⟩
    rw [show q = u by omega, h2]
    omega
  · intro o a u b v e h1 h2 h3 h4
    exact h3
  · intro o a u b v e h3
    exact h3
  · intro o a u b v e c w f h1 h2 h3 h4
    refine ⟨by omega, fun q q1 q2 => ?_⟩
    by_cases g1 : q < v
    · exact h1.2 q q1 g1
    · by_cases g2 : q < w
      · exact h3.2 q (by omega) g2
      · rw [show q = w by omega, h4]; omega
  · intro o a u b v e h3
    exact h3
  · intro o a u b v e c w f h1 h2 h3 h4
    refine ⟨by omega, fun q q1 q2 => ?_⟩
    by_cases g1 : q < v
    · exact h1.2 q q1 g1
    · by_cases g2 : q < w
      · exact h3.2 q (by omega) g2
      · rw [show q = w by omega, h4]; omega
theorem cS_le {tx mk : Nat → Nat} {m r a u b v : Nat} {D : nDn} (h : cS tx mk m r a u b v D) : u < v ∧ ∀ k, u ≤ k → k < v → mk k ≤ 1400 ∨ mk k ≤ v := by
  refine h (fun m r a u b v D => u < v ∧ ∀ k, u ≤ k → k < v → mk k ≤ 1400 ∨ mk k ≤ v) ⟨?_, ?_, ?_, ?_, ?_, ?_, ?_⟩
  · intro r a u h1 h2 h3
    refine ⟨by omega, fun q q1 q2 => Or.inl ?_⟩
    obtain rfl | rfl : q = u ∨ q = u + 1 := by omega
    · omega
    · omega
  · intro r a u b v e h1 h2 h3 h4
    have hl := cE_le h3.1
    refine ⟨by omega, fun q q1 q2 => Or.inl ?_⟩
    by_cases g0 : q = u
    · rw [g0]; omega
    · by_cases g1 : q < v
      · have := hl.2 q (by omega) g1; omega
      · rw [show q = v by omega]; omega
  · intro r a u b v e c w f h1 h2 h3 h4 h5 h6
    have hl := cE_le h3.1
    have hl2 := cE_le h5.1
    refine ⟨by omega, fun q q1 q2 => Or.inl ?_⟩
    by_cases g0 : q = u
    · rw [g0]; omega
    · by_cases g1 : q < v
      · have := hl.2 q (by omega) g1; omega
      · by_cases g2 : q < w
        · have := hl2.2 q (by omega) g2; omega
        · rw [show q = w by omega]; omega
  · intro r a u b v e h1 h2 h3 h4 h5
    have hl := cE_le h4.1
    refine ⟨by omega, fun q q1 q2 => Or.inl ?_⟩
    by_cases g0 : q = u
    · rw [g0]; omega
    · by_cases g1 : q < v
      · have := hl.2 q (by omega) g1; omega
      · rw [show q = v by omega]; omega
  · intro r a u b v e c w D h1 h2 h3 h4 h5 h6 h7 h8 h9 h10
    have hl := cE_le h4.1
    refine ⟨by omega, fun q q1 q2 => ?_⟩
    by_cases g0 : q = u
    · rw [g0]; omega
    · by_cases g1 : q < v
      · have := hl.2 q (by omega) g1; omega
      · by_cases g2 : q = v
        · rw [g2]; omega
        · by_cases g3 : q = v + 1
          · rw [g3]; omega
          · by_cases g4 : q < w
            · have := h8.2 q (by omega) g4; omega
            · rw [show q = w by omega]; omega
  · intro r a u b v D h1
    exact h1
  · intro r a u b v D c w E h1 h2 h3
    refine ⟨by omega, fun q q1 q2 => ?_⟩
    by_cases g1 : q < v
    · have := h1.2 q q1 g1; omega
    · exact h3.2 q (by omega) q2
section
variable {X Y X2 N : gM} {x : Int32}
theorem mSt_fq {ns : Nat} (h : mSt ns Y N) : gFq (fun o k => (o = 0 ∧ (k = 1 ∨ k = 4 ∨ (13 ≤ k ∧ k ≤ 16))) ∨ (o = 7 ∧ 120 * ns ≤ k ∧ k < 120 * ns + 120) ∨ (o = 8 ∧ k = ns) ∨ (o = 9 ∧ k = ns)) Y N := by
  obtain ⟨h1, h2, h3, h4, h5⟩ := h
  refine ⟨h1.1, fun o k hn => ?_⟩
  by_cases o0 : o = 0
  · rw [o0]; exact h2 k (by omega) (by omega) (by omega) (by omega) (by omega) (by omega)
  · by_cases o7 : o = 7
    · rw [o7]; exact h3 k (by omega)
    · by_cases o8 : o = 8
      · rw [o8]; exact h4 k (by omega)
      · by_cases o9 : o = 9
        · rw [o9]; exact h5 k (by omega)
        · exact congrFun (h1.2 o (by omega)) k
theorem p_style : Pr 91 143 [.int x] := fun X Y hR => by
  obtain ⟨bn, wd, nc, cl, ns, sy, tn, tp, st, sv, hx, hm, hB, hC, hS, hSC, hT, hX, hsv, hD, hP⟩ := id hR
  obtain ⟨⟨t1, t2⟩, t3, t4⟩ := id hT
  obtain ⟨⟨s1, s2⟩, s3, s4⟩ := id hS
  by_cases hno : ns < 10 ∧ 1 ≤ x.toInt ∧ x.toInt ≤ tn
  · obtain ⟨h10, hx1, hx2⟩ := hno
    obtain ⟨n, hn, rfl⟩ := nI_of_lt (x := x) (n := tn + 1) (by omega) (by omega)
    have tx := nI_ti (show n ≤ 2000 by omega)
    have hl := x49 hx
    have obc : ∀ k, k < nc → (cl k).1 + 1 < X.2.2.length := fun k hk => (gTy_ok (hC.2.2.1 k hk).2.2.1.2.2.1).2
    have obs : ∀ j, j < ns → (sy j).1 < X.2.2.length ∧ (sy j).2.1 < X.2.2.length := fun j hj => ⟨(List.getElem?_eq_some_iff.mp (s4 j hj).2.1.1).1, (gTy_ok (s4 j hj).2.1.2.2.1).2⟩
    refine s_style (k := 149) (tp := tp) hx s1 h10 t1 t2 (by omega) (by omega) (fun k hk => ⟨(t4 k (by omega)).1, (t4 k (by omega)).2.1⟩) (fun M2 v z mk' D q1 q2 q3 q4 q5 q6 => ?_) (fun M2 f p q1 q2 q3 q4 => ?_)
    · refine m_style2 (d := 193) (tp := tp) (Pz := fun z' => z' = z) (Pf := fun _ _ => False) hm s3 h10 t3 t2 (by omega) (by omega) (fun k hk => ⟨(t4 k (by omega)).2.2, (t4 k (by omega)).2.1⟩) (fun z' hz hts N r1 r2 r3 r4 r5 r6 => ?_) (fun f p h => h.elim) (Or.inl ⟨z, rfl, q5⟩)
      subst hz
      refine Pz_mk ?_
      have h2e : M2.2 = X.2 := q1.1
      have hl2 : M2.2.2.length = X.2.2.length := by rw [h2e]
      have hf2 : fX (fun o k => (o = 0 ∧ (k = 5 ∨ k = 7)) ∨ o = 6 ∨ o = 7 ∨ o = 8) (fun o k => o = 3 ∧ k = ns) X M2 := fX_tr (fX_sI (by omega)) (fX_wk (fX_gFr q1) (fun o k h => by omega) (fun o k h => h.elim))
      have hf : fX (fun o k => (o = 0 ∧ (k = 5 ∨ k = 7)) ∨ o = 6 ∨ o = 7 ∨ o = 8) (fun o k => o = 3 ∧ k = ns) X (gsI (gsR (xNewSt M2 v (nI z')) 3 ns (some X.2.2.length)) 0 5 (nI (ns + 1))) := fX_sI' (fX_sR' (fX_sI' (fX_sR' (fX_cp' (fX_new' (fX_new' hf2)) (fun h => by omega)) (fun h => by omega)) (fun h => by omega)) (fun _ => ⟨rfl, rfl⟩)) (fun _ => Or.inl ⟨rfl, Or.inl rfl⟩)
      have hg := mSt_fq r1
      have hl1 : (gNew M2 (.inl 7)).2.2.length = X.2.2.length + 1 := by rw [gNew_len, hl2]
      have o1 : gObj (gNew (gNew M2 (.inl 7)) (.inr (0, v))) X.2.2.length 7 := by
        have := @gObj_nw0 M2 7
        rw [hl2] at this
        exact (gObj_nw (M := gNew M2 (.inl 7)) (by omega)).mpr this
      have o2 : gAr (gNew (gNew M2 (.inl 7)) (.inr (0, v))) (X.2.2.length + 1) 0 := by
        have := @gAr_nw0 (gNew M2 (.inl 7)) 0 v
        rw [hl1] at this
        exact this
      have o3 : gLen (gNew (gNew M2 (.inl 7)) (.inr (0, v))) (X.2.2.length + 1) = v := by
        have := @gLen_nw0 (gNew M2 (.inl 7)) 0 v
        rw [hl1] at this
        exact this
      have hle := cS_le q4
      refine ⟨bn, wd, nc, cl, ns + 1, fun j => if j = ns then (X.2.2.length, X.2.2.length + 1, v, n, z', mk', (fun k => if k < n then tp k else 0), D) else sy j, 0, tp, st, sv, fX_XR hf (fun e he h => XRF_2 (o := 3) (by omega) e he h.1) hx, gFq_M hg hm, rB_fr hx hf hg (by omega) (fun k => by omega) (by omega) (fun k => by omega) hB, rC_fr hx hf hg (fun o k h => by omega) (by omega) (fun o k h => by omega) (fun i => by omega) (by omega) hC, ⟨⟨by rw [gsI_1, if_pos ⟨rfl, rfl⟩], by omega⟩, r3, fun j hj => ?_⟩, fun j hj k hk => ?_, ⟨⟨?_, Nat.zero_le _⟩, r2, fun q hq => ?_⟩, rX_fr hx hf hg (fun k => by omega) (fun k => by omega) hX, xSt_fX hx (by decide) hf (fun k => by omega) hsv, rDD_fr hx hf hg (fun o k h => by omega) (by omega) (fun o k h => by unfold yD inW at h; omega) hD, rP_fr hx hf hg (by omega) (fun k => by omega) (by omega) (fun k => by omega) hP⟩
      · by_cases hj2 : j = ns
        · subst hj2
          simp only [if_true]
          have n3 : ¬ X.2.2.length = 3 := by omega
          have n0 : ¬ X.2.2.length = 0 := by omega
          refine ⟨by simp [gsI_2, gsR_2], ⟨o1, ?_, o2, by show (gTy (gNew (gNew M2 (.inl 7)) (.inr (0, v))) (X.2.2.length + 1)).isSome = true; unfold gAr at o2; rw [o2]; rfl, o3, by show 48 < X.2.2.length; omega, by show 48 < X.2.2.length + 1; omega, by show v ≤ 248; omega, fun k hk => ⟨?_, ?_⟩⟩, ?_, q4, ⟨r5, ⟨by show n ≤ 120; omega, fun k => ?_, fun k hk => ?_⟩, fun k hk => ?_⟩, r6⟩
          · simp [gsI_2, gsR_2, xNewSt, hl2, n3]
          · simp only [gsI_1, gsR_1, xNewSt, hl2]
            rw [if_neg (by omega), if_neg (by omega)]
            simp only [gCp, va_cpy, if_true]
            have : k < v := hk
            rw [if_pos (by omega)]
            simp only [gNew, hl1, hl2]
            have e8 : ¬ 8 = X.2.2.length := by omega
            have e9 : ¬ 8 = X.2.2.length + 1 := by omega
            simp only [e8, if_false, Nat.zero_add, Nat.sub_zero]
            simp only [List.length_append, List.length_cons, List.length_nil, hl2, e9, if_false, e8]
            exact q3 k hk
          · have := hle.2 k (Nat.zero_le _) hk
            show mk' k ≤ 2000
            omega
          · simp [gsI_1, gsR_1, xNewSt, hl2, n0]
          · show (if k < n then tp k else 0) ≤ 255
            split
            · exact (t4 k (by omega)).2.1
            · omega
          · show (if k < n then tp k else 0) = 0
            have hk' : n ≤ k := hk
            rw [if_neg (by omega)]
          · show N.1 7 (120 * j + k) &&& 255 = nI (if k < n then tp k else 0)
            rw [if_pos hk]
            exact r4 k hk
        · simp only [if_neg hj2]
          have h48 := (s4 j (by omega)).2.1.2.2.2.2.2.1
          have h49 := (s4 j (by omega)).2.1.2.2.2.2.2.2.1
          exact rS1_fr hx hf hg (fun k => ⟨by omega, by omega⟩) ⟨by omega, by omega⟩ ⟨by omega, by omega, fun k hk => by omega⟩ (s4 j (by omega))
      · have := obc k hk
        by_cases hj2 : j = ns
        · simp only [if_pos hj2]
          omega
        · simp only [if_neg hj2]
          exact hSC j (by omega) k hk
      · rw [gsI_1, if_neg (by omega)]
        show (xNewSt M2 v (nI z')).1 0 7 = 0
        rw [xNewSt_1 (by omega), q1.2 0 (by decide), gsI_1, if_pos ⟨rfl, rfl⟩]
      · rw [gsI_1, if_neg (by omega)]
        show (xNewSt M2 v (nI z')).1 4 q = _ ∧ _
        rw [xNewSt_1 (by omega), q1.2 4 (by decide), gsI_1, if_neg (by omega), hg.2 1 q (by omega)]
        exact t4 q hq
    · refine m_style2 (d := 193) (tp := tp) (Pz := fun _ => False) (Pf := fun f' p' => f' = f ∧ p' = p) hm s3 h10 t3 t2 (by omega) (by omega) (fun k hk => ⟨(t4 k (by omega)).2.2, (t4 k (by omega)).2.1⟩) (fun z h => h.elim) (fun f' p' hfp g1 g2 g3 g4 N r1 r2 r3 r4 => ?_) (Or.inr ⟨f, p, ⟨rfl, rfl⟩, q4⟩)
      obtain ⟨rfl, rfl⟩ := hfp
      refine Pz_mk ?_
      have hf : fX (fun o k => (o = 0 ∧ k = 7) ∨ o = 6 ∨ o = 7 ∨ o = 8) (fun _ _ => False) X M2 := fX_tr (fX_sI (by omega)) (fX_wk (fX_gFr q1) (fun o k h => by omega) (fun o k h => h.elim))
      have hg := mSt_fq r1
      refine ⟨bn, wd, nc, cl, ns, sy, 0, tp, st, sv, fX_XR hf (fun e he h => h) hx, gFq_M hg hm, rB_fr hx hf hg (by omega) (fun k => by omega) (by omega) (fun k => by omega) hB, rC_fr hx hf hg (fun o k h => by omega) (by omega) (fun o k h => h.elim) (fun i => by omega) (by omega) hC, ⟨⟨by rw [hf.2.1 0 5 (by omega) (by omega)]; exact s1, s2⟩, r3, fun j hj => ?_⟩, hSC, ⟨⟨?_, Nat.zero_le _⟩, r2, fun q hq => ?_⟩, rX_fr hx hf hg (fun k => by omega) (fun k => by omega) hX, xSt_fX hx (by decide) hf (fun k => by omega) hsv, rDD_fr hx hf hg (fun o k h => by omega) (fun h => h) (fun o k h => by unfold yD inW at h; omega) hD, rP_fr hx hf hg (by omega) (fun k => by omega) (by omega) (fun k => by omega) hP⟩
      · have h48 := (s4 j (by omega)).2.1.2.2.2.2.2.1
        have h49 := (s4 j (by omega)).2.1.2.2.2.2.2.2.1
        exact rS1_fr hx hf hg (fun k => ⟨by omega, by omega⟩) ⟨fun h => h, fun h => h⟩ ⟨by omega, by omega, fun k hk => by omega⟩ (s4 j hj)
      · rw [q1.2 0 (by decide), gsI_1, if_pos ⟨rfl, rfl⟩]; rfl
      · rw [q1.2 4 (by decide), gsI_1, if_neg (by omega), hg.2 1 q (by omega)]
        exact t4 q hq
  · exact (s_styleN (k := 149) hx s1 s2 t1 t2 hno).mpr ((m_styleN (d := 193) hm s3 s2 t3 t2 hno).mpr (Pz_mk hR))
end
