/-! WHAT BOTH FACES SHARE -/
theorem cntN_0 {p : Nat → Bool} : ∀ n, (∀ i, i < n → p i = false) → cntN p n = 0
  | 0, _ => rfl
  | n + 1, h => by rw [cntN, cntN_0 n (fun i hi => h i (by omega)), h n (Nat.lt_succ_self n)]; rfl
theorem cntN_pos {p : Nat → Bool} {i : Nat} (hp : p i = true) : ∀ n, i < n → 0 < cntN p n
  | 0, h => by omega
  | n + 1, h => by
    rw [cntN]
    by_cases e : i = n
    · rw [← e, hp]; exact Nat.succ_pos _
    · have := cntN_pos hp n (by omega); omega
theorem ok_patternCount {S N : Nat} {T : Nat → Nat → Bool} {showing : Nat → Int64} {Q : Int32 → Prop} {f : Nat} (hS : S ≤ 10) (hN : N ≤ 60) (hh : sHolds S N T showing) (hf : f < 2 * N) (hQ : Q (nI (cntN (T f) (2 ^ S)))) : v_X1_patternCount (nI (wN S)) showing (nI f) Q := by
  obtain ⟨w1, w2, w3, w4⟩ := wN_le hS
  have e0 : cntN (fun p => T f p && decide (p < 2 ^ S)) (64 * wN S) = cntN (T f) (2 ^ S) := by
    rw [show 64 * wN S = 2 ^ S + (64 * wN S - 2 ^ S) by omega, cntN_add, cntN_0 (64 * wN S - 2 ^ S), Nat.add_zero]
    · exact cntN_congr _ (fun i hi => by rw [decide_eq_true hi, Bool.and_true])
    · intro i hi
      rw [decide_eq_false (by omega), Bool.and_false]
  have loop : ∀ (d j : Nat), j ≤ wN S → wN S < j + d → v_X1_patternCount_b4 (nI (wN S)) showing Q d (nI f) (nI (cntN (fun p => T f p && decide (p < 2 ^ S)) (64 * j))) (nI j) := by
    intro d
    induction d with
    | zero => intro j h1 h2; omega
    | succ d ih =>
      intro j h1 h2
      rw [v_X1_patternCount_b4]
      dsimp only
      rw [fw16, nI_clamp (show 16 * f + j < 2 ^ 31 by omega)]
      refine pk_le (wN S) j (fun q => ?_) (fun q => ⟨vp_in_nI (by omega) (by decide), ok_bitCount (lt_v (lt_v ?_))⟩)
      · rw [show j = wN S by omega, e0]; exact hQ
      · rw [nI_1, nI_add]
        have e1 : cntN (lane (showing (16 * f + j))) 64 = cntN (fun i => T f (64 * j + i) && decide (64 * j + i < 2 ^ S)) 64 := cntN_congr _ (fun i hi => hh f hf j q i hi)
        rw [e1, ← cntN_add (fun p => T f p && decide (p < 2 ^ S)) (64 * j) 64, show 64 * j + 64 = 64 * (j + 1) by omega]
        exact ih (j + 1) (by omega) (by omega)
  exact ⟨wN S + 1, loop (wN S + 1) 0 (by omega) (by omega)⟩
theorem free_fix {S fr : Nat} (h : fr < 2 ^ S) : anN (2 ^ S - 1) (fixN S fr) = fr := by
  apply Nat.eq_of_testBit_eq
  intro k
  rw [anN_bit, fixN_bit, Nat.testBit_two_pow_sub_one]
  by_cases hk : k < S
  · rw [decide_eq_true hk]; cases fr.testBit k <;> rfl
  · rw [decide_eq_false hk, bit_ge h hk]; rfl
theorem neg_pow : ∀ S, S ≤ 10 → -((1 : Int32) <<< (nI S &&& 31)) = nI (2 ^ S - 1) ^^^ (-1 : Int32) := by decide
theorem i32_nat (x : Int32) : nI x.toBitVec.toNat = x := by
  apply Int32.toBitVec_inj.mp
  apply BitVec.eq_of_toNat_eq
  exact pk_tn x.toBitVec.isLt
theorem beyond_iff {S : Nat} (hS : S ≤ 10) (x : Int32) : x &&& (-((1 : Int32) <<< (nI S &&& 31))) = 0 ↔ ∃ j, j < 2 ^ S ∧ x = nI j := by
  have h10 : (2 : Nat) ^ S ≤ 2 ^ 10 := Nat.pow_le_pow_right (by decide) hS
  rw [neg_pow S hS]
  have hx := x.toBitVec.isLt
  constructor
  · intro h
    refine ⟨x.toBitVec.toNat, ?_, (i32_nat x).symm⟩
    rw [← i32_nat x, andNot] at h
    have h1 : anN x.toBitVec.toNat (2 ^ S - 1) < 2 ^ 32 := anN_lt hx
    have h2 := pk_tn h1
    rw [h] at h2
    have h3 : anN x.toBitVec.toNat (2 ^ S - 1) = 0 := h2.symm
    rw [anN_0] at h3
    apply Nat.lt_pow_two_of_testBit
    intro i hi
    exact h3 i (by rw [Nat.testBit_two_pow_sub_one, decide_eq_false (by omega)])
  · rintro ⟨j, hj, rfl⟩
    rw [andNot]
    have : anN j (2 ^ S - 1) = 0 := by
      rw [anN_0]
      intro k hk
      rw [Nat.testBit_two_pow_sub_one, decide_eq_false_iff_not] at hk
      exact bit_ge hj hk
    rw [this]; rfl
theorem ok_beyond_n {S j : Nat} {Q : Int32 → Prop} (hS : S ≤ 10) (hj : j < 2 ^ S) (hQ : Q 0) : v_X5_hasBitsBeyond (nI j) (nI S) Q := br_t ((beyond_iff hS _).mpr ⟨j, hj, rfl⟩) hQ
theorem ok_beyond_y {S : Nat} {x : Int32} {Q : Int32 → Prop} (hS : S ≤ 10) (hx : x < 0 ∨ nI (2 ^ S) ≤ x) (hQ : Q 1) : v_X5_hasBitsBeyond x (nI S) Q := by
  have h10 : (2 : Nat) ^ S ≤ 2 ^ 10 := Nat.pow_le_pow_right (by decide) hS
  refine br_f (fun q => ?_) hQ
  obtain ⟨j, hj, e⟩ := (beyond_iff hS x).mp q
  rw [e] at hx
  rcases hx with h | h
  · exact nI_pos (by omega) h
  · exact nI_ge hj (by omega) h
theorem below_m1 {x : Int32} (h : x < 0) (h1 : ¬ x = -1) : x < -1 := by
  have h3 := Int32.lt_iff_toInt_lt.mp h
  have h2 : x.toInt ≠ (-1 : Int32).toInt := fun q => h1 (Int32.toInt_inj.mp q)
  have e1 : (-1 : Int32).toInt = -1 := by decide
  have e0 : (0 : Int32).toInt = 0 := by decide
  refine Int32.lt_iff_toInt_lt.mpr ?_
  rw [e0] at h3
  rw [e1] at h2 ⊢
  omega
/-- which chip is meant, if it is one -/
theorem chip_cases {N : Nat} (hN : N ≤ 60) (x : Int32) : (∃ o : Option Nat, x = sti o ∧ ∀ f, o = some f → f < 2 * N) ∨ (¬ x = -1 ∧ (x < -1 ∨ (¬ x < 0 ∧ nI (2 * N) ≤ x))) := by
  rcases pk_ix x (n := 2 * N) (by omega) with h | h | ⟨j, hj, h⟩
  · by_cases e : x = -1
    · exact Or.inl ⟨none, e, fun f hf => by cases hf⟩
    · exact Or.inr ⟨e, Or.inl (below_m1 h e)⟩
  · by_cases e : x = -1
    · exact Or.inl ⟨none, e, fun f hf => by cases hf⟩
    · by_cases h0 : x < 0
      · exact Or.inr ⟨e, Or.inl (below_m1 h0 e)⟩
      · exact Or.inr ⟨e, Or.inr ⟨h0, h⟩⟩
  · exact Or.inl ⟨some j, h, fun f hf => by cases hf; exact hj⟩
theorem two_mul_nI (n : Nat) : (2 : Int32) * nI n = nI (2 * n) := pk_mul 2 n
theorem isChip_y {N : Nat} {o : Option Nat} {Q : Int32 → Prop} (hN : N ≤ 60) (ho : ∀ f, o = some f → f < 2 * N) (hQ : Q 1) : v_X5_isChip (nI N) (sti o) Q := by
  cases o with
  | none => exact br_t rfl hQ
  | some f =>
    have := ho f rfl
    refine br_f (sti_ne (n := f) (by omega)) (br_f (nI_pos (n := f) (by omega)) ?_)
    rw [two_mul_nI]
    exact br_f (nI_ge this (by omega)) (br_f (by decide) hQ)
theorem lt_0_of_m1 {x : Int32} (h : x < -1) : x < 0 := by
  rw [Int32.lt_iff_toInt_lt] at *
  have e1 : (-1 : Int32).toInt = -1 := by decide
  have e0 : (0 : Int32).toInt = 0 := by decide
  rw [e1] at h
  rw [e0]
  omega
theorem isChip_n {N : Nat} {x : Int32} {Q : Int32 → Prop} (hx : ¬ x = -1 ∧ (x < -1 ∨ (¬ x < 0 ∧ nI (2 * N) ≤ x))) (hQ : Q 0) : v_X5_isChip (nI N) x Q := by
  refine br_f hx.1 ?_
  unfold v_X5_isStuck
  rw [two_mul_nI]
  rcases hx.2 with h | h
  · exact br_t (lt_0_of_m1 h) (br_t rfl hQ)
  · exact br_f h.1 (br_t h.2 (br_t rfl hQ))
theorem noStuck_y {N : Nat} {o : Option Nat} {Q : Int32 → Prop} (hN : N ≤ 60) (ho : ∀ f, o = some f → f < 2 * N) (hQ : Q 0) : v_X6_noStuck (nI N) (sti o) 1 Q := by
  refine br_f (by decide) ?_
  unfold v_X6_noStuck_b10
  rw [two_mul_nI]
  cases o with
  | none => exact br_f (by decide) (br_t (Int32.lt_of_lt_of_le (b := 0) (by decide) (nI_pos' (by omega))) hQ)
  | some f =>
    have := ho f rfl
    refine br_f (fun q => nI_pos (n := f) (by omega) (lt_0_of_m1 q)) (br_t (nI_lt this (by omega)) hQ)
theorem noStuck_n {N : Nat} {x : Int32} {Q : Int32 → Prop} (hx : ¬ x = -1 ∧ (x < -1 ∨ (¬ x < 0 ∧ nI (2 * N) ≤ x))) (hQ : Q 1) : v_X6_noStuck (nI N) x 1 Q := by
  refine br_f (by decide) ?_
  unfold v_X6_noStuck_b10
  rw [two_mul_nI]
  rcases hx.2 with h | h
  · exact br_t h hQ
  · exact br_f (fun q => h.1 (lt_0_of_m1 q)) (br_f (Int32.not_lt.mpr h.2) hQ)
theorem stuck_cases {N : Nat} (hN : N ≤ 60) (x : Int32) : (∃ f, f < 2 * N ∧ x = nI f) ∨ (x < 0 ∨ (¬ x < 0 ∧ nI (2 * N) ≤ x)) := by
  rcases pk_ix x (n := 2 * N) (by omega) with h | h | ⟨j, hj, h⟩
  · exact Or.inr (Or.inl h)
  · by_cases h0 : x < 0
    · exact Or.inr (Or.inl h0)
    · exact Or.inr (Or.inr ⟨h0, h⟩)
  · exact Or.inl ⟨j, hj, h⟩
theorem isStuck_y {N f : Nat} {Q : Int32 → Prop} (hN : N ≤ 60) (hf : f < 2 * N) (hQ : Q 1) : v_X5_isStuck (nI N) (nI f) Q := by
  refine br_f (nI_pos (by omega)) ?_
  rw [two_mul_nI]
  exact br_f (nI_ge hf (by omega)) hQ
theorem isStuck_n {N : Nat} {x : Int32} {Q : Int32 → Prop} (hx : x < 0 ∨ (¬ x < 0 ∧ nI (2 * N) ≤ x)) (hQ : Q 0) : v_X5_isStuck (nI N) x Q := by
  unfold v_X5_isStuck
  rw [two_mul_nI]
  rcases hx with h | h
  · exact br_t h hQ
  · exact br_f h.1 (br_t h.2 hQ)
theorem noStuck0_y {N f : Nat} {Q : Int32 → Prop} (hN : N ≤ 60) (hf : f < 2 * N) (hQ : Q 0) : v_X6_noStuck (nI N) (nI f) 0 Q := by
  refine br_t rfl ?_
  unfold v_X6_noStuck_b10
  rw [two_mul_nI]
  exact br_f (nI_pos (by omega)) (br_t (nI_lt hf (by omega)) hQ)
theorem noStuck0_n {N : Nat} {x : Int32} {Q : Int32 → Prop} (hx : x < 0 ∨ (¬ x < 0 ∧ nI (2 * N) ≤ x)) (hQ : Q 1) : v_X6_noStuck (nI N) x 0 Q := by
  refine br_t rfl ?_
  unfold v_X6_noStuck_b10
  rw [two_mul_nI]
  rcases hx with h | h
  · exact br_t h hQ
  · exact br_f h.1 (br_f (Int32.not_lt.mpr h.2) hQ)
