/-! Pairs: feed, style. -/
theorem yb_bits (x : BitVec 32) (s : Nat) (hs : s + 8 ≤ 32) : BitVec.setWidth 8 (x.sshiftRight s) = BitVec.setWidth 8 ((x >>> s) &&& 255#32) := by
  apply BitVec.eq_of_getLsbD_eq
  intro i hi
  have h255 : (255#32).getLsbD i = true := by
    have : ∀ i, i < 8 → (255#32).getLsbD i = true := by decide
    exact this i hi
  have h1 : ¬ 32 ≤ s + i := by omega
  have h2 : s + i < 32 := by omega
  have h3 : i < 32 := by omega
  have h4 : ¬ 32 ≤ i := by omega
  simp only [BitVec.getLsbD_setWidth, BitVec.getLsbD_and, BitVec.getLsbD_sshiftRight, BitVec.getLsbD_ushiftRight, h255, h2, h4, hi, decide_true, decide_false, Bool.not_false, Bool.true_and, Bool.and_true, if_true]
theorem yb_255 (y : BitVec 8) : y &&& 255#8 = y := by
  rw [show (255#8) = BitVec.allOnes 8 from rfl, BitVec.and_allOnes]
theorem yb_b2 (x : BitVec 32) (s : Nat) (hs : s + 8 ≤ 32) : BitVec.signExtend 8 (x.sshiftRight s) = BitVec.signExtend 8 (x >>> s) &&& 255#8 := by
  rw [BitVec.signExtend_eq_setWidth_of_le _ (by decide), BitVec.signExtend_eq_setWidth_of_le _ (by decide), yb_bits x s hs, BitVec.setWidth_and]; rfl
section
variable {X Y : gM} {a b c e f x k : Int32} {t : Nat}
def kOk (k : Int32) : Prop := k = 24 ∨ k = 16 ∨ k = 8 ∨ k = 0
theorem yb_eq (hk : kOk k) : (x >>> (k &&& 31)).toInt8 = (xByte x k).toInt8 := by
  apply Int8.toBitVec.inj
  unfold xByte
  rcases hk with rfl | rfl | rfl | rfl
  · simp; exact yb_b2 _ 24 (by decide)
  · simp; exact yb_b2 _ 16 (by decide)
  · simp; exact yb_b2 _ 8 (by decide)
  · simp; exact (yb_255 _).symm
theorem yb_c (hk : kOk k) : ∃ n : Nat, n ≤ 255 ∧ xByte x k = nI n ∧ ((x >>> (k &&& 31)).toInt8.toInt32) = sb n := by
  have h1 : 0 ≤ (xByte x k).toInt ∧ (xByte x k).toInt < ((256 : Nat) : Int) := by
    have : (xByte x k).toBitVec.toNat ≤ 255 := by
      unfold xByte
      simp only [Int32.toBitVec_and]
      rw [BitVec.toNat_and]
      exact Nat.le_trans Nat.and_le_right (by decide)
    have h2 : (xByte x k).toInt = ((xByte x k).toBitVec.toNat : Int) := by
      show (xByte x k).toBitVec.toInt = _
      rw [BitVec.toInt_eq_toNat_of_lt (by omega)]
    omega
  obtain ⟨n, hn, e⟩ := nI_of_lt h1.1 h1.2
  exact ⟨n, by omega, e, by rw [yb_eq hk, e]; rfl⟩
theorem Rel_put1 (hR : Rel X Y) (ht : X.1 0 7 = nI t) (h : t < 120) (hk : kOk k) : Rel (xPut1 X t x k) (mPut1 Y t x k) := by
  obtain ⟨bn, wd, nc, cl, ns, sy, tn, tp, st, sv, hx, hm, hB, hC, hS, hSC, hT, hX, hsv, hD, hP⟩ := id hR
  obtain ⟨n, hn, e1, e2⟩ := yb_c (x := x) hk
  have hl := x49 hx
  have hf : fX (fun o k => o = 4 ∨ (o = 0 ∧ k = 7)) (fun _ _ => False) X (xPut1 X t x k) := fX_sI' (fX_sI' fX_rf (fun _ => Or.inl rfl)) (fun _ => Or.inr ⟨rfl, rfl⟩)
  have hg : gFq (fun o k => o = 1 ∨ (o = 0 ∧ k = 1)) Y (mPut1 Y t x k) := gFq_tr (gFq_sI (Or.inl rfl)) (gFq_sI (Or.inr ⟨rfl, rfl⟩))
  refine ⟨bn, wd, nc, cl, ns, sy, t + 1, fun q => if q = t then n else tp q, st, sv, hx, hm, rB_fr hx hf hg (by omega) (fun k => by omega) (by omega) (fun k => by omega) hB, rC_fr hx hf hg (fun o k h => by omega) (by omega) (fun o k h => h.elim) (fun i => by omega) (by omega) hC, rS_fr hx hf hg (rS_48 (P := fun o k => o = 4 ∨ (o = 0 ∧ k = 7)) hS (fun o k h => by omega)) (by omega) (fun o k h => h.elim) (fun k => by omega) (by omega) hS, hSC, ⟨⟨by simp [xPut1, gsI_1], by omega⟩, by simp [mPut1, gsI_1], fun q hq => ?_⟩, rX_fr hx hf hg (fun k => by omega) (fun k => by omega) hX, xSt_fX hx (by decide) hf (fun k => by omega) hsv, rDD_fr hx hf hg (fun o k h => by omega) (fun h => h) (fun o k h => by unfold yD inW at h; omega) hD, rP_fr hx hf hg (by omega) (fun k => by omega) (by omega) (fun k => by omega) hP⟩
  by_cases hq2 : q = t
  · subst hq2
    simp only [xPut1, mPut1, gsI_1, if_true, and_self, e1, e2]
    rw [if_neg (by omega), if_neg (by omega)]
    exact ⟨rfl, hn, rfl⟩
  · simp only [xPut1, mPut1, gsI_1, hq2, and_false, if_false]
    rw [if_neg (by omega), if_neg (by omega)]
    exact hT.2.2 q hq
theorem Rel_put (hR : Rel X Y) (ht : X.1 0 7 = nI t) (h : t + 4 ≤ 120) : Rel (xPut X t x) (mPut Y t x) :=
  Rel_put1 (Rel_put1 (Rel_put1 (Rel_put1 hR ht (by omega) (Or.inl rfl)) (xPut1_t _ _ _ _) (by omega) (Or.inr (Or.inl rfl))) (xPut1_t _ _ _ _) (by omega) (Or.inr (Or.inr (Or.inl rfl)))) (xPut1_t _ _ _ _) (by omega) (Or.inr (Or.inr (Or.inr rfl)))
theorem p_feed : Pr 90 129 [.int a, .int b, .int c, .int e, .int f] := fun X Y hR => by
  obtain ⟨bn, wd, nc, cl, ns, sy, tn, tp, st, sv, hx, hm, hB, hC, hS, hSC, hT, hX, hsv, hD, hP⟩ := id hR
  obtain ⟨⟨t1, t2⟩, t3, t4⟩ := hT
  by_cases h : tn ≤ 100
  · exact (s_feed (d := 197) hx t1 h).mpr ((m_feed (d := 197) hm t3 h).mpr (Pz_mk (Rel_put (Rel_put (Rel_put (Rel_put (Rel_put hR t1 (by omega)) (xPut_t _ _ _) (by omega)) (xPut_t _ _ _) (by omega)) (xPut_t _ _ _) (by omega)) (xPut_t _ _ _) (by omega))))
  · exact (s_feed0 (d := 197) hx t1 (by omega) t2).mpr ((m_feed0 (d := 197) hm t3 (by omega) t2).mpr (Pz_mk hR))
end
