/-! The start: both constructors by the kernel, and the relation behind them. -/
def ctB (o : Option gRo) (P : gM → Bool) : Bool := match o with
  | some (none, M) => P M
  | _ => false
theorem ctB_ok {o : Option gRo} {P : gM → Bool} (h : ctB o P = true) : ∃ M, o = some (none, M) ∧ P M = true := by
  cases o with
  | none => cases h
  | some q =>
    obtain ⟨r, M⟩ := q
    cases r with
    | none => exact ⟨M, rfl, h⟩
    | some _ => cases h
def xI (M : gM) : Bool := decide (M.1 0 1 = 0 ∧ M.1 0 3 = 0 ∧ M.1 0 5 = 0 ∧ M.1 0 7 = 0 ∧ M.1 37 1 = 0 ∧ M.1 37 4 = 0 ∧ M.1 42 9 = 0 ∧ M.2.1 0 15 = none) && ((List.range 48).all (fun q => decide (M.1 1 q = 0 ∧ M.1 5 q = 0 ∧ M.1 38 q = 0)) && (List.range 120).all (fun q => decide (M.1 4 q = 0)))
def mI (M : gM) : Bool := decide (M.1 0 1 = 0 ∧ M.1 0 2 = 0 ∧ M.1 0 3 = 0 ∧ M.1 0 4 = 0 ∧ M.1 0 51 = 0 ∧ M.1 0 52 = 0 ∧ M.1 0 71 = 0) && ((List.range 48).all (fun q => decide (M.1 2 q = 0 ∧ M.1 35 q = 0)) && ((List.range 120).all (fun q => decide (M.1 1 q = 0)) && ((List.range 6).all (fun q => decide (M.1 5 q = 0)) && (List.range 36).all (fun q => decide (M.1 6 q = 0)))))
set_option maxRecDepth 100000 in
theorem x_ctorC : ctB (gExec 2000 6 85 [.ref 0] (gM0 8)) (fun M => gHasB XSH XRF M && xI M) = true := by decide +kernel
set_option maxRecDepth 100000 in
theorem m_ctorC : ctB (gExec 2000 6 119 [.ref 0] (gM0 9)) (fun M => gHasB MSH MRF M && mI M) = true := by decide +kernel
theorem x_start : ∃ X, gExec 2000 6 85 [.ref 0] (gM0 8) = some (none, X) ∧ XR X ∧ xI X = true := by
  obtain ⟨M, he, h⟩ := ctB_ok x_ctorC
  simp only [Bool.and_eq_true] at h
  exact ⟨M, he, gHasB_ok h.1, h.2⟩
theorem m_start : ∃ X, gExec 2000 6 119 [.ref 0] (gM0 9) = some (none, X) ∧ MR X ∧ mI X = true := by
  obtain ⟨M, he, h⟩ := ctB_ok m_ctorC
  simp only [Bool.and_eq_true] at h
  exact ⟨M, he, gHasB_ok h.1, h.2⟩
theorem sb_0 : (0 : Int32) = sb 0 := by decide
theorem rel0 {X Y : gM} (hx : XR X) (hm : MR Y) (hxi : xI X = true) (hmi : mI Y = true) : Rel X Y := by
  simp only [xI, mI, Bool.and_eq_true, decide_eq_true_eq, List.all_eq_true, List.mem_range] at hxi hmi
  obtain ⟨⟨a1, a2, a3, a4, a5, a6, a7, a8⟩, b, c⟩ := hxi
  obtain ⟨⟨d1, d2, d3, d4, d5, d6, d7⟩, e, f, g1, g2⟩ := hmi
  refine ⟨0, fun _ => 0, 0, fun _ => (0, 0, 0, 0, fun _ => 0), 0, fun _ => (0, 0, 0, 0, 0, fun _ => 0, fun _ => 0, fun _ s => s), 0, fun _ => 0, fun _ => 0, fun _ => 0, hx, hm, ?_, ?_, ?_, ?_, ?_, ?_, ?_, ?_, ?_⟩
  · exact ⟨⟨a1, Nat.zero_le _⟩, d2, fun q hq => ⟨(b q hq).1, Nat.zero_le _, (e q hq).1⟩⟩
  · exact ⟨⟨a2, Nat.zero_le _⟩, d3, fun k hk => absurd hk (Nat.not_lt_zero k), fun k _ hk => ⟨g1 k hk, fun i hi => g2 _ (by omega)⟩, fun k hk => absurd hk (Nat.not_lt_zero k)⟩
  · exact ⟨⟨a3, Nat.zero_le _⟩, d4, fun k hk => absurd hk (Nat.not_lt_zero k)⟩
  · exact fun k hk => absurd hk (Nat.not_lt_zero k)
  · exact ⟨⟨a4, Nat.zero_le _⟩, d1, fun q hq => ⟨c q hq, Nat.zero_le _, (f q hq).trans sb_0⟩⟩
  · exact ⟨fun q hq => ⟨(b q hq).2.1, Nat.zero_le _⟩, fun q hq => ⟨(e q hq).2, Nat.zero_le _⟩⟩
  · exact fun q hq => ⟨(b q hq).2.2, Nat.zero_le _⟩
  · exact Or.inl ⟨a8, d5, d6, a5, a6⟩
  · exact ⟨0, Nat.zero_le _, a7, d7, fun k hk => absurd hk (Nat.not_lt_zero k)⟩
