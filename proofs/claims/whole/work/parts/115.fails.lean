/-! FAILING ROWS: the class's failingRow, the reference's failsAt -/
/-- a chip's clock: state, code, held bits, the bit beside, the shifter -/
def chS (I F O : Nat) (op cnt : Nat → Nat) (a : Nat → Nat → Nat) (out : Nat → Nat) (nxt : Nat → Option Nat) (o : Option Nat) (x : Nat × Nat × Nat × Nat × Nat) (tms tdi inp : Nat) : Nat × Nat × Nat × Nat × Nat :=
  (aft x.1 tms, nC x.1 x.2.1 x.2.2.2.2, nH F x.1 x.2.1 x.2.2.1 tdi (cAns I F O op cnt a out nxt o (inp + x.2.2.1 * 2 ^ I) / 2 ^ O), nB x.1 x.2.1 x.2.2.2.1 tdi, nS x.1 x.2.2.2.2 tdi)
def chOk (F : Nat) (x : Nat × Nat × Nat × Nat × Nat) : Prop := x.1 < 16 ∧ x.2.1 < 4 ∧ x.2.2.1 < 2 ^ F ∧ x.2.2.2.1 < 2 ∧ x.2.2.2.2 < 4
theorem chS_ok {I F O : Nat} {op cnt : Nat → Nat} {a : Nat → Nat → Nat} {out : Nat → Nat} {nxt : Nat → Option Nat} {o : Option Nat} {x : Nat × Nat × Nat × Nat × Nat} {tms tdi inp : Nat} (hx : chOk F x) (hm : tms < 2) (ht : tdi < 2) : chOk F (chS I F O op cnt a out nxt o x tms tdi inp) := by
  obtain ⟨h1, h2, h3, h4, h5⟩ := hx
  have hp := Nat.two_pow_pos F
  refine ⟨aft_lt _ h1 _ hm, ?_, ?_, ?_, ?_⟩
  · show nC _ _ _ < 4
    unfold nC
    by_cases q : x.1 = 0
    · rw [if_pos q]; omega
    · rw [if_neg q]
      by_cases q : x.1 = 15
      · rw [if_pos q]; exact h5
      · rw [if_neg q]; exact h2
  · show nH _ _ _ _ _ _ < 2 ^ F
    unfold nH
    by_cases q : (x.1 = 1 ∧ ¬ x.2.1 = 1) ∨ (x.1 = 3 ∧ x.2.1 = 1)
    · rw [if_pos q]; exact cAns_div
    · rw [if_neg q]
      by_cases q : x.1 = 4 ∧ x.2.1 = 1
      · rw [if_pos q]; exact Nat.mod_lt _ hp
      · rw [if_neg q]; exact h3
  · show nB _ _ _ _ < 2
    unfold nB
    by_cases q : x.1 = 3 ∧ ¬ x.2.1 = 1
    · rw [if_pos q]; omega
    · rw [if_neg q]
      by_cases q : x.1 = 4 ∧ ¬ x.2.1 = 1
      · rw [if_pos q]; exact ht
      · rw [if_neg q]; exact h4
  · show nS _ _ _ < 4
    unfold nS
    by_cases q : x.1 = 10
    · rw [if_pos q]; omega
    · rw [if_neg q]
      by_cases q : x.1 = 11
      · rw [if_pos q]; omega
      · rw [if_neg q]; exact h5
theorem tdoN_lt {F : Nat} {x : Nat × Nat × Nat × Nat × Nat} {tdi : Nat} (hx : chOk F x) (ht : tdi < 2) : tdoN F x.1 x.2.1 x.2.2.1 x.2.2.2.1 x.2.2.2.2 tdi < 2 := by
  obtain ⟨h1, h2, h3, h4, h5⟩ := hx
  unfold tdoN
  by_cases q : x.1 = 4
  · rw [if_pos q]
    by_cases q : x.2.1 = 1
    · rw [if_pos q]
      by_cases q : F = 0
      · rw [if_pos q]; exact ht
      · rw [if_neg q]; exact Nat.mod_lt _ (by decide)
    · rw [if_neg q]; exact h4
  · rw [if_neg q]
    by_cases q : x.1 = 11
    · rw [if_pos q]; exact Nat.mod_lt _ (by decide)
    · rw [if_neg q]; omega
theorem rTms_lt (F i : Nat) : rTms F i < 2 := by
  unfold rTms
  by_cases h : i < 14
  · rw [if_pos h]; revert i; decide
  · rw [if_neg h]; unfold qTms
    by_cases q : F < (i - 14) % (4 + F)
    · rw [if_pos q]; omega
    · rw [if_neg q]; omega
theorem rTdi_lt (I F n : Nat) (o : Nat → Nat) (i : Nat) : rTdi I F n o i < 2 := by
  unfold rTdi
  by_cases h : i < 14
  · rw [if_pos h]; revert i; decide
  · rw [if_neg h]; unfold qTdi
    by_cases q : 2 ≤ (i - 14) % (4 + F) ∧ (i - 14) % (4 + F) < 2 + F ∧ (i - 14) / (4 + F) < n
    · rw [if_pos q]; exact Bool.toNat_lt _
    · rw [if_neg q]; omega
theorem rIn_lt (I F : Nat) (o : Nat → Nat) (i : Nat) : rIn I F o i < 2 ^ I := by
  have hp := Nat.two_pow_pos I
  unfold rIn
  by_cases h : i < 14
  · rw [if_pos h]; exact hp
  · rw [if_neg h]; unfold qIn
    by_cases q : (i - 14) % (4 + F) = 1 ∧ 0 < (i - 14) / (4 + F)
    · rw [if_pos q]; exact Nat.mod_lt _ hp
    · rw [if_neg q]; exact hp
theorem rSee_le (F O : Nat) (A : Nat → Nat) (i : Nat) : rSee F O A i ≤ 2 := by
  unfold rSee
  by_cases h : i < 14
  · rw [if_pos h]; omega
  · rw [if_neg h]; unfold qSee
    by_cases q : 2 ≤ (i - 14) % (4 + F) ∧ (i - 14) % (4 + F) < 2 + F ∧ 0 < (i - 14) / (4 + F)
    · rw [if_pos q]; have := Bool.toNat_lt ((A ((i - 14) / (4 + F) - 1)).testBit (O + (F - 1 - ((i - 14) % (4 + F) - 2)))); omega
    · rw [if_neg q]; omega
theorem rOut_lt (F O : Nat) (A : Nat → Nat) (i : Nat) : ∀ v, rOut F O A i = some v → v < 2 ^ O := by
  intro v
  unfold rOut
  by_cases h : i < 14
  · rw [if_pos h]; intro q; cases q
  · rw [if_neg h]; unfold qOut
    by_cases q : (i - 14) % (4 + F) = 1 ∧ 0 < (i - 14) / (4 + F)
    · rw [if_pos q]; intro z; cases z; exact Nat.mod_lt _ (Nat.two_pow_pos O)
    · rw [if_neg q]; intro z; cases z
/-- the chip before row i -/
def simN (I F O : Nat) (op cnt : Nat → Nat) (a : Nat → Nat → Nat) (out : Nat → Nat) (nxt : Nat → Option Nat) (o : Option Nat) (n : Nat) (on : Nat → Nat) : Nat → Nat × Nat × Nat × Nat × Nat
  | 0 => (0, 3, 0, 0, 0)
  | i + 1 => chS I F O op cnt a out nxt o (simN I F O op cnt a out nxt o n on i) (rTms F i) (rTdi I F n on i) (rIn I F on i)
theorem simN_ok {I F O : Nat} {op cnt : Nat → Nat} {a : Nat → Nat → Nat} {out : Nat → Nat} {nxt : Nat → Option Nat} {o : Option Nat} {n : Nat} {on : Nat → Nat} : ∀ i, chOk F (simN I F O op cnt a out nxt o n on i)
  | 0 => ⟨by show 0 < 16; omega, by show 3 < 4; omega, Nat.two_pow_pos F, by show 0 < 2; omega, by show 0 < 4; omega⟩
  | i + 1 => chS_ok (simN_ok i) (rTms_lt F i) (rTdi_lt I F n on i)
/-- does row i show what is due -/
def rgt (I F O : Nat) (op cnt : Nat → Nat) (a : Nat → Nat → Nat) (out : Nat → Nat) (nxt : Nat → Option Nat) (o : Option Nat) (n : Nat) (on A : Nat → Nat) (x : Nat × Nat × Nat × Nat × Nat) (i : Nat) : Bool := (decide (rSee F O A i = 2) || decide (rSee F O A i = tdoN F x.1 x.2.1 x.2.2.1 x.2.2.2.1 x.2.2.2.2 (rTdi I F n on i))) && (decide (rOut F O A i = none) || decide (rOut F O A i = some (cAns I F O op cnt a out nxt o (rIn I F on i + x.2.2.1 * 2 ^ I) % 2 ^ O)))
/-- the first row that doesn't -/
def failN (I F O : Nat) (op cnt : Nat → Nat) (a : Nat → Nat → Nat) (out : Nat → Nat) (nxt : Nat → Option Nat) (o : Option Nat) (n : Nat) (on A : Nat → Nat) : Option Nat := findI (fun i => !(rgt I F O op cnt a out nxt o n on A (simN I F O op cnt a out nxt o n on i) i)) (rowN F n)
set_option maxHeartbeats 1000000 in
theorem ok_showsDue {I F N O n i : Nat} {op cnt : Nat → Nat} {a : Nat → Nat → Nat} {out : Nat → Nat} {nxt : Nat → Option Nat} {oper looked lcount output next : Nat → Int32} {val : Nat → Int64} {o : Option Nat} {on A : Nat → Nat} {ones due : Nat → Int32} {x : Nat × Nat × Nat × Nat × Nat} {Q : Int32 → (Nat → Int64) → Prop} (hN : N ≤ 60) (hS : I + F ≤ N) (hS2 : I + F ≤ 10) (hO : O ≤ 8) (hg : gates (I + F) N op cnt a) (hh : cHolds (I + F) N op cnt a oper looked lcount) (ho : ∀ f, o = some f → f < 2 * N) (hoh : oHolds F N O out nxt output next) (hn : n ≤ 120) (hon : ∀ i, i < n → ones i = nI (on i) ∧ on i < 2 ^ (I + F)) (hd : ∀ i, i < n → due i = nI (A i) ∧ A i < 2 ^ 18) (hi : i < rowN F n) (hx : chOk F x)
    (hQ : ∀ val, Q (bI (rgt I F O op cnt a out nxt o n on A x i)) val) : v_X3_showsWhatIsDue (nI I) (nI F) (nI N) (nI O) (nI n) (sti o) (nI x.1) (nI x.2.1) (nI x.2.2.1) (nI x.2.2.2.1) (nI x.2.2.2.2) due ones val oper looked lcount next output (nI i) Q := by
  have hp8 : (2 : Nat) ^ O ≤ 2 ^ 8 := Nat.pow_le_pow_right (by decide) hO
  have hsl := rSee_le F O A i
  have htl := tdoN_lt hx (rTdi_lt I F n on i)
  have outs : (rSee F O A i = 2 ∨ rSee F O A i = tdoN F x.1 x.2.1 x.2.2.1 x.2.2.2.1 x.2.2.2.2 (rTdi I F n on i)) → v_X3_showsWhatIsDue_b29 (nI I) (nI F) (nI N) (nI O) (nI n) (sti o) (nI x.1) (nI x.2.1) (nI x.2.2.1) (nI x.2.2.2.1) (nI x.2.2.2.2) due ones oper looked lcount next output Q val (nI i) := by
    intro h
    have e1 : rgt I F O op cnt a out nxt o n on A x i = (decide (rOut F O A i = none) || decide (rOut F O A i = some (cAns I F O op cnt a out nxt o (rIn I F on i + x.2.2.1 * 2 ^ I) % 2 ^ O))) := by
      unfold rgt
      rcases h with h | h
      · rw [decide_eq_true h, Bool.true_or, Bool.true_and]
      · rw [decide_eq_true h, Bool.or_true, Bool.true_and]
    rw [e1] at hQ
    refine ok_outputsDue (by omega) hO hn hd hi ?_
    cases hv : rOut F O A i with
    | none =>
      rw [hv] at hQ
      exact br_t rfl (hQ val)
    | some v =>
      rw [hv] at hQ
      have hvl := rOut_lt F O A i v hv
      refine br_f (sti_ne (by omega)) (ok_pinputs hS2 hn hon hi ?_)
      refine ok_cOutputs hN hS hS2 hO hg hh ho hoh hx.2.2.1 (rIn_lt I F on i) (fun val2 => ?_)
      have hml := Nat.mod_lt (cAns I F O op cnt a out nxt o (rIn I F on i + x.2.2.1 * 2 ^ I)) (Nat.two_pow_pos O)
      have isv := nI_eq (a := v) (b := cAns I F O op cnt a out nxt o (rIn I F on i + x.2.2.1 * 2 ^ I) % 2 ^ O) (by omega) (by omega)
      refine ⟨fun q => ?_, fun q => ?_⟩
      · have hne : ¬ v = cAns I F O op cnt a out nxt o (rIn I F on i + x.2.2.1 * 2 ^ I) % 2 ^ O := fun z => q (isv.mpr z)
        have := hQ val2
        rw [decide_eq_false (fun z => by cases z), decide_eq_false (fun z => hne (Option.some.inj z))] at this
        exact this
      · have := hQ val2
        rw [decide_eq_true (congrArg some (isv.mp q)), Bool.or_true] at this
        exact this
  refine ok_tdoDue (by omega) hO hn hd hi ?_
  have is2 := nI_is (a := rSee F O A i) (b := 2) (x := 2) rfl (by omega) (by omega)
  refine ⟨fun q => outs (Or.inl (is2.mp q)), fun q => ok_tdi hS2 hn hon hi (ok_tdo (by omega) hx.1 hx.2.1 hx.2.2.1 hx.2.2.2.2 ?_)⟩
  have ist := nI_eq (a := rSee F O A i) (b := tdoN F x.1 x.2.1 x.2.2.1 x.2.2.2.1 x.2.2.2.2 (rTdi I F n on i)) (by omega) (by omega)
  refine ⟨fun z => outs (Or.inr (ist.mp z)), fun z => ?_⟩
  have := hQ val
  unfold rgt at this
  rw [decide_eq_false (fun y => q (is2.mpr y)), decide_eq_false (fun y => z (ist.mpr y)), Bool.false_or, Bool.false_and] at this
  exact this
set_option maxHeartbeats 1000000 in
/-- Program.failingRow -/
theorem ok_failingRow {I F N O n : Nat} {op cnt : Nat → Nat} {a : Nat → Nat → Nat} {out : Nat → Nat} {nxt : Nat → Option Nat} {oper looked lcount output next : Nat → Int32} {val : Nat → Int64} {o : Option Nat} {on A : Nat → Nat} {ones due : Nat → Int32} {t0 t1 t2 t3 t4 t5 : Int32} {Q : Int32 → Int32 → Int32 → Int32 → Int32 → Int32 → Int32 → (Nat → Int64) → Prop} (hN : N ≤ 60) (hS : I + F ≤ N) (hS2 : I + F ≤ 10) (hO : O ≤ 8) (hg : gates (I + F) N op cnt a) (hh : cHolds (I + F) N op cnt a oper looked lcount) (ho : ∀ f, o = some f → f < 2 * N) (hoh : oHolds F N O out nxt output next) (hn : n ≤ 120) (hon : ∀ i, i < n → ones i = nI (on i) ∧ on i < 2 ^ (I + F)) (hd : ∀ i, i < n → due i = nI (A i) ∧ A i < 2 ^ 18)
    (hQ : ∀ t0 t1 t2 t3 t4 t5 val, Q (sti (failN I F O op cnt a out nxt o n on A)) t0 t1 t2 t3 t4 t5 val) : v_X3_failingRow t0 t1 t2 t3 t4 t5 (nI n) (nI I) (nI F) (nI N) (nI O) due ones val oper looked lcount next output (sti o) Q := by
  have hr := rowN_lt (F := F) (n := n) (by omega) hn
  have loop : ∀ (d j : Nat) (x : Nat × Nat × Nat × Nat × Nat) (val : Nat → Int64), j ≤ rowN F n → rowN F n < j + d → x = simN I F O op cnt a out nxt o n on j → (∀ i, i < j → (!(rgt I F O op cnt a out nxt o n on A (simN I F O op cnt a out nxt o n on i) i)) = false) →
      v_X3_failingRow_b15 (nI n) (nI I) (nI F) (nI N) (nI O) due ones oper looked lcount next output Q d (sti o) (nI x.1) (nI x.2.1) (nI x.2.2.1) (nI x.2.2.2.1) (nI x.2.2.2.2) val (nI (rowN F n)) (nI j) := by
    intro d
    induction d with
    | zero => intro j x val h1 h2; omega
    | succ d ih =>
      intro j x val h1 h2 ex h0
      have hx : chOk F x := by rw [ex]; exact simN_ok j
      by_cases hj : rowN F n ≤ j
      · refine br_t (nI_le hj (by omega)) ?_
        have := hQ (sti o) (nI x.1) (nI x.2.1) (nI x.2.2.1) (nI x.2.2.2.1) (nI x.2.2.2.2) val
        unfold failN at this
        rw [findI_none _ (fun i hi => h0 i (by omega))] at this
        exact this
      · refine br_f (nI_ge (by omega) (by omega)) (ok_showsDue hN hS hS2 hO hg hh ho hoh hn hon hd (by omega) hx (fun val2 => ?_))
        cases hb : rgt I F O op cnt a out nxt o n on A x j with
        | true =>
          refine ⟨fun _ => ok_tms (by omega) (by omega) (ok_tdi hS2 hn hon (by omega) (ok_pinputs hS2 hn hon (by omega) ?_)), fun q => absurd q (by decide)⟩
          refine ok_pulse hN hS hS2 hO hg hh ho hoh hx.1 (rTms_lt F j) hx.2.1 hx.2.2.1 hx.2.2.2.2 (rTdi_lt I F n on j) (rIn_lt I F on j) (fun val3 => ?_)
          intro v12 e12
          rw [e12, nI_1]
          refine ih (j + 1) (chS I F O op cnt a out nxt o x (rTms F j) (rTdi I F n on j) (rIn I F on j)) val3 (by omega) (by omega) (by rw [ex]; rfl) (fun i hi => ?_)
          by_cases e : i = j
          · rw [e, ← ex, hb]; rfl
          · exact h0 i (by omega)
        | false =>
          refine ⟨fun q => absurd rfl q, fun _ => ?_⟩
          have := hQ (sti o) (nI x.1) (nI x.2.1) (nI x.2.2.1) (nI x.2.2.2.1) (nI x.2.2.2.2) val2
          unfold failN at this
          rw [findI_some (i := j) (by rw [← ex, hb]; rfl) h0 _ (by omega)] at this
          exact this
  refine ok_rowCount ⟨rowN F n + 1, ?_⟩
  exact loop _ 0 (0, 3, 0, 0, 0) val (Nat.zero_le _) (by omega) rfl (fun i hi => by omega)
set_option maxHeartbeats 1000000 in
/-- failsAt -/
theorem ok_failsAt {I F N O n : Nat} {op cnt : Nat → Nat} {a : Nat → Nat → Nat} {out : Nat → Nat} {nxt : Nat → Option Nat} {mop taken takes value output next : Nat → Int32} {o : Option Nat} {on A : Nat → Nat} {program : Nat → Int32} {t0 t1 t2 t3 t4 t5 : Int32} {Q : Int32 → Int32 → Int32 → Int32 → Int32 → Int32 → Int32 → (Nat → Int32) → Prop} (hN : N ≤ 60) (hS : I + F ≤ N) (hS2 : I + F ≤ 10) (hO : O ≤ 8) (hg : gates (I + F) N op cnt a) (hh : mHolds (I + F) N op cnt a mop taken takes) (ho : ∀ f, o = some f → f < 2 * N) (hoh : oHolds F N O out nxt output next) (hn : n ≤ 120) (hpr : goodRows I F O n on A program (rowN F n))
    (hQ : ∀ val, Q (sti (failN I F O op cnt a out nxt o n on A)) t0 t1 t2 t3 t4 t5 val) : v_X6_failsAt (nI N) (nI I) (nI F) (nI O) (nI (rowN F n)) t0 t1 t2 t3 t4 t5 program mop taken value takes next output (sti o) Q := by
  have hr := rowN_lt (F := F) (n := n) (by omega) hn
  have hp8 : (2 : Nat) ^ O ≤ 2 ^ 8 := Nat.pow_le_pow_right (by decide) hO
  -- found: the loop ends
  have fin : ∀ (z : Nat) (c0 c1 c2 c3 c4 c5 : Int32) (val : Nat → Int32) (i : Nat), i < rowN F n → failN I F O op cnt a out nxt o n on A = some i → ∀ l9 : Int32, v_X6_failsAt_b45 (nI N) (nI I) (nI F) (nI O) (nI (rowN F n)) program mop taken takes next output Q (z + 1) c0 c1 c2 c3 c4 c5 val t0 t1 t2 t3 t4 t5 (nI i) l9 := by
    intro z c0 c1 c2 c3 c4 c5 val i hi e l9
    have h1 : v_X6_failsAt_b181 (nI N) (nI I) (nI F) (nI O) (nI (rowN F n)) program mop taken takes next output Q c0 c1 c2 c3 c4 c5 val t0 t1 t2 t3 t4 t5 (nI i) := by
      have := hQ val
      rw [e] at this
      exact this
    exact br_c (fun _ => h1) (fun _ => br_t (nI_pos' (by omega)) h1)
  have loop : ∀ (d j : Nat) (x : Nat × Nat × Nat × Nat × Nat) (val : Nat → Int32), j ≤ rowN F n → rowN F n + 1 < j + d → x = simN I F O op cnt a out nxt o n on j → (∀ i, i < j → (!(rgt I F O op cnt a out nxt o n on A (simN I F O op cnt a out nxt o n on i) i)) = false) →
      v_X6_failsAt_b45 (nI N) (nI I) (nI F) (nI O) (nI (rowN F n)) program mop taken takes next output Q d (sti o) (nI x.1) (nI x.2.1) (nI x.2.2.1) (nI x.2.2.2.1) (nI x.2.2.2.2) val t0 t1 t2 t3 t4 t5 (-1 : Int32) (nI j) := by
    intro d
    induction d with
    | zero => intro j x val h1 h2; omega
    | succ d ih =>
      intro j x val h1 h2 ex h0
      have hx : chOk F x := by rw [ex]; exact simN_ok j
      by_cases hj : rowN F n ≤ j
      · refine br_t (nI_le hj (by omega)) ?_
        have := hQ val
        unfold failN at this
        rw [findI_none _ (fun i hi => h0 i (by omega))] at this
        exact this
      · refine br_f (nI_ge (by omega) (by omega)) (br_f (by decide) ?_)
        obtain ⟨g1, g2, g3, g4, g5⟩ := hpr j (by omega)
        have e0 : (5 : Int32) * nI j = nI (5 * j) := pk_mul 5 j
        have e1 : nI (5 * j) + (1 : Int32) = nI (5 * j + 1) := nI_add _ 1
        have e2 : nI (5 * j) + (2 : Int32) = nI (5 * j + 2) := nI_add _ 2
        have e3 : nI (5 * j) + (3 : Int32) = nI (5 * j + 3) := nI_add _ 3
        have e4 : nI (5 * j) + (4 : Int32) = nI (5 * j + 4) := nI_add _ 4
        rw [e0, e1, e2, e3, e4, nI_clamp (show 5 * j < 2 ^ 31 by omega), nI_clamp (show 5 * j + 1 < 2 ^ 31 by omega), nI_clamp (show 5 * j + 2 < 2 ^ 31 by omega), nI_clamp (show 5 * j + 3 < 2 ^ 31 by omega), nI_clamp (show 5 * j + 4 < 2 ^ 31 by omega), g1, g2, g3, g4, g5]
        refine ⟨vp_in_nI (by omega) (by omega), vp_in_nI (by omega) (by omega), vp_in_nI (by omega) (by omega), ?_⟩
        refine ok_clockOne hN hS hS2 hO hg hh ho hoh hx.1 (rTms_lt F j) hx.2.1 hx.2.2.1 hx.2.2.2.1 hx.2.2.2.2 (rTdi_lt I F n on j) (rIn_lt I F on j) (fun val2 => ⟨vp_in_nI (by omega) (by omega), ?_⟩)
        intro v9 e9
        refine ⟨vp_in_nI (by omega) (by omega), ?_⟩
        intro v10 e10
        have htl := tdoN_lt hx (rTdi_lt I F n on j)
        have hsl := rSee_le F O A j
        have hml := Nat.mod_lt (cAns I F O op cnt a out nxt o (rIn I F on j + x.2.2.1 * 2 ^ I)) (Nat.two_pow_pos O)
        -- right or wrong
        have h160 : ∀ b : Bool, b = rgt I F O op cnt a out nxt o n on A x j → v_X6_failsAt_b160 (nI N) (nI I) (nI F) (nI O) (nI (rowN F n)) program mop taken takes next output Q (v_X6_failsAt_b45 (nI N) (nI I) (nI F) (nI O) (nI (rowN F n)) program mop taken takes next output Q d) (sti o) (nI (aft x.1 (rTms F j))) (nI (nC x.1 x.2.1 x.2.2.2.2)) (nI (nH F x.1 x.2.1 x.2.2.1 (rTdi I F n on j) (cAns I F O op cnt a out nxt o (rIn I F on j + x.2.2.1 * 2 ^ I) / 2 ^ O))) (nI (nB x.1 x.2.1 x.2.2.2.1 (rTdi I F n on j))) (nI (nS x.1 x.2.2.2.2 (rTdi I F n on j))) val2 t0 t1 t2 t3 t4 t5 (nI j) (bI b) := by
          intro b eb
          cases b with
          | false =>
            refine br_t rfl ?_
            intro v1 e1
            have : d = (d - 1) + 1 := by omega
            rw [this]
            refine fin _ _ _ _ _ _ _ _ j (by omega) ?_ _
            unfold failN
            exact findI_some (by rw [← ex, ← eb]; rfl) h0 _ (by omega)
          | true =>
            refine br_f (by decide) ?_
            intro v1 e1
            rw [e1, nI_1]
            refine ih (j + 1) (chS I F O op cnt a out nxt o x (rTms F j) (rTdi I F n on j) (rIn I F on j)) val2 (by omega) (by omega) (by rw [ex]; rfl) (fun i hi => ?_)
            by_cases e : i = j
            · rw [e, ← ex, ← eb]; rfl
            · exact h0 i (by omega)
        generalize hT : tdoN F x.1 x.2.1 x.2.2.1 x.2.2.2.1 x.2.2.2.2 (rTdi I F n on j) = T at htl ⊢
        generalize hC : cAns I F O op cnt a out nxt o (rIn I F on j + x.2.2.1 * 2 ^ I) = C at hml h160 ⊢
        have hs8 : nI (C % 2 ^ O + T * 256) >>> ((8 : Int32) &&& 31) = nI T := by
          rw [pk_shrN (by omega) _ 8 (by decide)]
          congr 1
          omega
        have ha8 : nI (C % 2 ^ O + T * 256) &&& (255 : Int32) = nI (C % 2 ^ O) := by
          rw [pk_andN (by omega) 8 (by decide)]
          congr 1
          omega
        -- the outputs
        have outs : (rSee F O A j = 2 ∨ rSee F O A j = T) → v_X6_failsAt_b138 (nI N) (nI I) (nI F) (nI O) (nI (rowN F n)) program mop taken takes next output Q (v_X6_failsAt_b45 (nI N) (nI I) (nI F) (nI O) (nI (rowN F n)) program mop taken takes next output Q d) (sti o) (nI (aft x.1 (rTms F j))) (nI (nC x.1 x.2.1 x.2.2.2.2)) (nI (nH F x.1 x.2.1 x.2.2.1 (rTdi I F n on j) (C / 2 ^ O))) (nI (nB x.1 x.2.1 x.2.2.2.1 (rTdi I F n on j))) (nI (nS x.1 x.2.2.2.2 (rTdi I F n on j))) val2 t0 t1 t2 t3 t4 t5 (nI j) (nI (C % 2 ^ O + T * 256)) v10 := by
          intro h
          have er : rgt I F O op cnt a out nxt o n on A x j = (decide (rOut F O A j = none) || decide (rOut F O A j = some (C % 2 ^ O))) := by
            unfold rgt
            rw [hT, hC]
            rcases h with h | h
            · rw [decide_eq_true h, Bool.true_or, Bool.true_and]
            · rw [decide_eq_true h, Bool.or_true, Bool.true_and]
          rw [v_X6_failsAt_b138, ha8, e10]
          cases hv : rOut F O A j with
          | none => exact br_t rfl (h160 true (by rw [er, hv]; rfl))
          | some v =>
            have hvl := rOut_lt F O A j v hv
            refine br_f (sti_ne (by omega)) ?_
            have isv := nI_eq (a := v) (b := C % 2 ^ O) (by omega) (by omega)
            refine ⟨fun q => h160 false ?_, fun q => h160 true ?_⟩
            · rw [er, hv, decide_eq_false (fun z => by cases z), decide_eq_false (fun z => q (isv.mpr (Option.some.inj z)))]; rfl
            · rw [er, hv, decide_eq_true (congrArg some (isv.mp q)), Bool.or_true]
        rw [e9, hs8]
        have is2 := nI_is (a := rSee F O A j) (b := 2) (x := 2) rfl (by omega) (by omega)
        have ist := nI_eq (a := rSee F O A j) (b := T) (by omega) (by omega)
        refine ⟨fun q => outs (Or.inl (is2.mp q)), fun q => ⟨fun z => h160 false ?_, fun z => outs (Or.inr (ist.mp z))⟩⟩
        unfold rgt
        rw [hT, decide_eq_false (fun y => q (is2.mpr y)), decide_eq_false (fun y => z (ist.mpr y)), Bool.false_or, Bool.false_and]
  exact ⟨rowN F n + 2, loop _ 0 (0, 3, 0, 0, 0) value (Nat.zero_le _) (by omega) rfl (fun i hi => by omega)⟩
