/-! The law: its loop (the head of this part is the skeleton's). -/
/-! THE CLAIM OUT OF ONE WALK OF THE LAW'S BODY. Your part is whole_start (and what it stands on); all else here is the same for every law, but numbers. -/
def R_law : String := "ClothSchoolLaw"
def lw_P (b : Addr) (xs : List Int32) (args : Array Value) (s : State) : Prop := args = #[.ref b] ∧ s.IntsAt b xs ∧ xs.length ≤ 4608 ∧ (Jvm.Cond.and given_1 narrow_1).before args s = true
def lw_Q (_ : Array Value) (s : State) (o : Outcome) (t : State) : Prop := o = .returned (some (.int 1)) ∧ Framed s o t [] 600000 7302250
def lw_Z (below : List Frame) (a : Array Value) (s : State) : State → Prop := fun t => ∃ o, t.status = .running ∧ Ended t below o ∧ lw_Q a s o t
/-- the law's own end, with 1 on the stack, nothing written that was there before, its room as the claim has it -/
theorem lw_ret {p : Program} {l : Launch} {e : Env} {s : State} {m : MethodId} {below : List Frame} {meth : Method} {c : Code} {b : Nat} (hx : p.tables.exec = Jvm.exec) (hb : c.code = code) (hr : meth.sig.returnType = ret) (hlocks : meth.locks = false) {pc : Nat} {H : Heap} {ls : Array Slot} (hdg : decode code pc = .ok (.ireturn, 1)) : W p l e room_1 s m #[Value.ref b] below meth c H [] 600000 7302250 (lw_Z below #[Value.ref b] s) (F0 m pc ls [.int 1]) := by
  intro T hT X
  obtain ⟨fs, hret, hrun, hended, hW, hframe⟩ := X.leave (v := some (.int 1)) (hlocks := hlocks) (fun h => by rw [hr] at h; cases h)
  have hmeth' : T.vm.method? m = some meth := X.method'
  refine ⟨T.setFrames fs, ?_, .returned (some (.int 1)), hrun, hended, rfl, ⟨_, rfl⟩, hW, hframe⟩
  jvm_step X.here [X.here.top, hx, hb, hdg, hmeth', hr, ret, narrow_b1]
  (try refine ⟨rfl, ?_⟩); (try refine ⟨rfl, ?_⟩)
  first | (intro acts; rw [hret _ acts rfl rfl rfl]) | rw [hret _ _ rfl rfl rfl]
  exact Steps.refl _
/-- what holds at the law's entry: the machine, the code, the tables' words (any of lw_tbl by 'hts w (by decide +kernel)'), the script of L ints xs at the cell b, what the Statement gives of the start (any of its parts by flat_of_before) -/
def lw_At (p : Program) (s : State) (m : MethodId) (meth : Method) (c : Code) (b L : Nat) (xs : Nat → Int32) : Prop :=
  p.tables.exec = Jvm.exec ∧ c.code = code ∧ meth.sig.returnType = ret ∧ c.maxLocals = 4 ∧ s.vm.findClass R_law = some m.cls ∧ (∀ w ∈ lw_tbl, w.before #[Value.ref b] s = true) ∧ va_X b L xs s s.heap ∧ b < s.heap.size ∧ meth.locks = false ∧ (Jvm.Cond.and given_1 narrow_1).before #[Value.ref b] s = true
theorem nI_m9 {n : Nat} (h : n ≤ 4608) : (nI n - nI 9).toInt = (n : Int) - 9 := by
  rcases Nat.lt_or_ge n 9 with h1 | h1
  · have h2 : ∀ n, n < 9 → (nI n - nI 9).toInt = (n : Int) - 9 := by decide
    exact h2 n h1
  · rw [nI_subn h1, nI_toInt (by omega)]
    omega
section LAW3
variable {p : Program} {l : Launch} {e : Env} {s : State} {m : MethodId} {below : List Frame} {meth : Method} {c : Code}
variable {b L : Nat} {xs : Nat → Int32} {D : va_G}
/-- the law's loop: at its head, with i ints read, the two worlds agree -/
theorem law_loop (hF : LF p s m c b L xs) (hr : meth.sig.returnType = ret) (hlocks : meth.locks = false) :
    ∀ (n i : Nat), i ≤ L → L + 1 ≤ i + n → ∀ (X Y : gM) (aX : Nat → Nat) (cX : Nat → ClassId) (tX : List (ClassId × FieldType)) (aM : Nat → Nat) (cM : Nat → ClassId) (tM : List (ClassId × FieldType)) (H : Heap) (locs : List Loc) (Ls : Array Slot), LI s D H locs X Y aX cX tX aM cM tM → lv_has Ls 4 [(0, .ref b), (1, .ref (aX 0)), (2, .ref (aM 0)), (3, .int (nI i))] → W p l e room_1 s m #[Value.ref b] below meth c H locs (97 + 2 * i) (24291 + 250 * i) (lw_Z below #[Value.ref b] s) (F0 m 18 Ls []) := by
  obtain ⟨hx, hb, hml, hown, hts, hX, hbl, hL⟩ := id hF
  have hbA : ¬ yA s b := Nat.not_le.mpr hbl
  intro n
  induction n with
  | zero => exact fun i h1 h2 => absurd h2 (by omega)
  | succ n ih =>
    intro i hiL hin X Y aX cX tX aM cM tM H locs Ls hI hl
    have hS := LI_S hI
    refine lv_iload_n hx hb dL_18 rfl (lv_at hl 3 rfl) ?_
    refine lv_aload_n hx hb dL_19 rfl (lv_at hl 0 rfl) ?_
    refine va_slen hx hb hX hbl hbA hS dL_20 ?_
    refine lv_bipush (v := nI 9) hx hb dL_21 (by decide) ?_
    refine lv_isub hx hb dL_23 ?_
    refine lv_icmp_gt (tgt := 1018) hx hb dL_24 (by decide) (fun c1 => ?_) (fun c1 => ?_)
    · refine lv_iconst (v := 1) hx hb dL_1018 (by decide) ?_
      refine va_forget (fun q hq => hS.2.2 q hq) ?_
      refine W.widen (k := 600000) (n := 7302250) (by omega) (by omega) ?_
      exact lw_ret hx hb hr hlocks dL_1019
    · have hi : i + 9 ≤ L := by
        rcases Nat.lt_or_ge L (i + 9) with q | q
        · refine absurd ?_ c1
          rw [Int32.lt_iff_toInt_lt, show Int32.ofNat L = nI L from rfl, nI_m9 hL, nI_toInt (by omega)]
          omega
        · exact q
      refine lv_aload_n hx hb dL_27 rfl (lv_at hl 0 rfl) ?_
      refine lv_iload_n hx hb dL_28 rfl (lv_at hl 3 rfl) ?_
      refine va_sld hx hb hX hbl hbA hS (vp_in_nI (by omega) (by omega)) dL_29 ?_
      refine lv_bipush (v := nI 31) hx hb dL_30 (by decide) ?_
      refine lv_iand hx hb dL_32 ?_
      refine lv_topi (fun z _ => ?_)
      have hu : 97 + 2 * i + 2 ≤ 600000 ∧ 24291 + 250 * i + 250 ≤ 7302250 := ⟨by omega, by omega⟩
      have hkk : ∀ (H1 : Heap) (locs1 : List Loc) (X1 Y1 : gM) (aX1 : Nat → Nat) (cX1 : Nat → ClassId) (tX1 : List (ClassId × FieldType)) (aM1 : Nat → Nat) (cM1 : Nat → ClassId) (tM1 : List (ClassId × FieldType)), LI s D H1 locs1 X1 Y1 aX1 cX1 tX1 aM1 cM1 tM1 → aX1 0 = aX 0 → aM1 0 = aM 0 → W p l e room_1 s m #[Value.ref b] below meth c H1 locs1 (97 + 2 * i + 2) (24291 + 250 * i + 250) (lw_Z below #[Value.ref b] s) (F0 m 1012 Ls []) := by
        intro H1 locs1 X1 Y1 aX1 cX1 tX1 aM1 cM1 tM1 hI1 e1 e2
        refine lv_iinc (v := nI (i + 9)) (lv' := [(3, .int (nI (i + 9))), (0, .ref b), (1, .ref (aX 0)), (2, .ref (aM 0))]) hx hb dL_1012 hl (k := 3) rfl (by rw [show Int32.ofInt 9 = nI 9 from by decide, nI_add]) (by decide) rfl (fun ls hl2 => ?_)
        refine lv_goto (tgt := 18) hx hb dL_1015 (by decide) ?_
        refine W.widen (k := 97 + 2 * (i + 9)) (n := 24291 + 250 * (i + 9)) (by omega) (by omega) ?_
        exact ih (i + 9) hi (by omega) X1 Y1 aX1 cX1 tX1 aM1 cM1 tM1 H1 locs1 ls hI1 (by rw [e1, e2]; exact lv_sub hl2 [1, 2, 3, 0] rfl)
      by_cases hz : 0 ≤ z.toInt ∧ z.toInt ≤ 23
      · rcases (show z.toInt = 0 ∨ z.toInt = 1 ∨ z.toInt = 2 ∨ z.toInt = 3 ∨ z.toInt = 4 ∨ z.toInt = 5 ∨ z.toInt = 6 ∨ z.toInt = 7 ∨ z.toInt = 8 ∨ z.toInt = 9 ∨ z.toInt = 10 ∨ z.toInt = 11 ∨ z.toInt = 12 ∨ z.toInt = 13 ∨ z.toInt = 14 ∨ z.toInt = 15 ∨ z.toInt = 16 ∨ z.toInt = 17 ∨ z.toInt = 18 ∨ z.toInt = 19 ∨ z.toInt = 20 ∨ z.toInt = 21 ∨ z.toInt = 22 ∨ z.toInt = 23 by omega) with h | h | h | h | h | h | h | h | h | h | h | h | h | h | h | h | h | h | h | h | h | h | h | h
        · exact lv_tableIn (off := 111) (tgt := 144) hx hb dL_33 (by omega) (by omega) (by rw [h]; rfl) (by decide) (lc_0 hF hi hI hl hu hkk)
        · exact lv_tableIn (off := 210) (tgt := 243) hx hb dL_33 (by omega) (by omega) (by rw [h]; rfl) (by decide) (lc_1 hF hi hI hl hu hkk)
        · exact lv_tableIn (off := 243) (tgt := 276) hx hb dL_33 (by omega) (by omega) (by rw [h]; rfl) (by decide) (lc_2 hF hi hI hl hu hkk)
        · exact lv_tableIn (off := 286) (tgt := 319) hx hb dL_33 (by omega) (by omega) (by rw [h]; rfl) (by decide) (lc_3 hF hi hI hl hu hkk)
        · exact lv_tableIn (off := 319) (tgt := 352) hx hb dL_33 (by omega) (by omega) (by rw [h]; rfl) (by decide) (lc_4 hF hi hI hl hu hkk)
        · exact lv_tableIn (off := 382) (tgt := 415) hx hb dL_33 (by omega) (by omega) (by rw [h]; rfl) (by decide) (lc_5 hF hi hI hl hu hkk)
        · exact lv_tableIn (off := 405) (tgt := 438) hx hb dL_33 (by omega) (by omega) (by rw [h]; rfl) (by decide) (lc_6 hF hi hI hl hu hkk)
        · exact lv_tableIn (off := 458) (tgt := 491) hx hb dL_33 (by omega) (by omega) (by rw [h]; rfl) (by decide) (lc_7 hF hi hI hl hu hkk)
        · exact lv_tableIn (off := 491) (tgt := 524) hx hb dL_33 (by omega) (by omega) (by rw [h]; rfl) (by decide) (lc_8 hF hi hI hl hu hkk)
        · exact lv_tableIn (off := 524) (tgt := 557) hx hb dL_33 (by omega) (by omega) (by rw [h]; rfl) (by decide) (lc_9 hF hi hI hl hu hkk)
        · exact lv_tableIn (off := 557) (tgt := 590) hx hb dL_33 (by omega) (by omega) (by rw [h]; rfl) (by decide) (lc_10 hF hi hI hl hu hkk)
        · exact lv_tableIn (off := 580) (tgt := 613) hx hb dL_33 (by omega) (by omega) (by rw [h]; rfl) (by decide) (lc_11 hF hi hI hl hu hkk)
        · exact lv_tableIn (off := 603) (tgt := 636) hx hb dL_33 (by omega) (by omega) (by rw [h]; rfl) (by decide) (lc_12 hF hi hI hl hu hkk)
        · exact lv_tableIn (off := 646) (tgt := 679) hx hb dL_33 (by omega) (by omega) (by rw [h]; rfl) (by decide) (lc_13 hF hi hI hl hu hkk)
        · exact lv_tableIn (off := 679) (tgt := 712) hx hb dL_33 (by omega) (by omega) (by rw [h]; rfl) (by decide) (lc_14 hF hi hI hl hu hkk)
        · exact lv_tableIn (off := 702) (tgt := 735) hx hb dL_33 (by omega) (by omega) (by rw [h]; rfl) (by decide) (lc_15 hF hi hI hl hu hkk)
        · exact lv_tableIn (off := 725) (tgt := 758) hx hb dL_33 (by omega) (by omega) (by rw [h]; rfl) (by decide) (lc_16 hF hi hI hl hu hkk)
        · exact lv_tableIn (off := 758) (tgt := 791) hx hb dL_33 (by omega) (by omega) (by rw [h]; rfl) (by decide) (lc_17 hF hi hI hl hu hkk)
        · exact lv_tableIn (off := 771) (tgt := 804) hx hb dL_33 (by omega) (by omega) (by rw [h]; rfl) (by decide) (lc_18 hF hi hI hl hu hkk)
        · exact lv_tableIn (off := 784) (tgt := 817) hx hb dL_33 (by omega) (by omega) (by rw [h]; rfl) (by decide) (lc_19 hF hi hI hl hu hkk)
        · exact lv_tableIn (off := 837) (tgt := 870) hx hb dL_33 (by omega) (by omega) (by rw [h]; rfl) (by decide) (lc_20 hF hi hI hl hu hkk)
        · exact lv_tableIn (off := 900) (tgt := 933) hx hb dL_33 (by omega) (by omega) (by rw [h]; rfl) (by decide) (lc_21 hF hi hI hl hu hkk)
        · exact lv_tableIn (off := 933) (tgt := 966) hx hb dL_33 (by omega) (by omega) (by rw [h]; rfl) (by decide) (lc_22 hF hi hI hl hu hkk)
        · exact lv_tableIn (off := 956) (tgt := 989) hx hb dL_33 (by omega) (by omega) (by rw [h]; rfl) (by decide) (lc_23 hF hi hI hl hu hkk)
      · exact lv_tableOut (tgt := 1012) hx hb dL_33 (by omega) (by decide) (W.widen (by omega) (by omega) (hkk _ _ _ _ _ _ _ _ _ _ hI rfl rfl))
end LAW3
