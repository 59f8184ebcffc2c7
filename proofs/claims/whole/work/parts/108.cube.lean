/-! CUBES: the class's isTestable, leastPattern, showsWith, freeSources -/
/-- the least i below n with p i -/
def findI (p : Nat → Bool) : Nat → Option Nat
  | 0 => none
  | n + 1 => match findI p n with
    | some i => some i
    | none => if p n then some n else none
theorem findI_none {p : Nat → Bool} : ∀ n, (∀ i, i < n → p i = false) → findI p n = none
  | 0, _ => rfl
  | n + 1, h => by
    rw [findI, findI_none n (fun i hi => h i (by omega))]
    show (if p n then some n else none) = none
    rw [h n (Nat.lt_succ_self n)]; rfl
theorem findI_some {p : Nat → Bool} {i : Nat} (hp : p i = true) (hm : ∀ j, j < i → p j = false) : ∀ n, i < n → findI p n = some i
  | 0, h => by omega
  | n + 1, h => by
    rw [findI]
    by_cases e : i = n
    · subst e
      rw [findI_none i hm]
      show (if p i then some i else none) = some i
      rw [hp]; rfl
    · rw [findI_some hp hm n (by omega)]
theorem findI_of {p : Nat → Bool} {i : Nat} : ∀ n, findI p n = some i → i < n ∧ p i = true
  | 0, h => by cases h
  | n + 1, h => by
    rw [findI] at h
    cases e : findI p n with
    | some j =>
      rw [e] at h
      have h2 : some j = some i := h
      have := findI_of (p := p) (i := i) n (e.trans h2)
      exact ⟨by omega, this.2⟩
    | none =>
      rw [e] at h
      have h2 : (if p n then some n else none) = some i := h
      cases hn : p n with
      | true => rw [hn] at h2; cases h2; exact ⟨Nat.lt_succ_self _, hn⟩
      | false => rw [hn] at h2; cases h2
theorem findI_is {p : Nat → Bool} {i n : Nat} (hi : i < n) (hp : p i = true) : (findI p n).isSome = true := by
  cases h : findI p n with
  | some j => rfl
  | none =>
    obtain ⟨k, hk, hm⟩ := pk_least (fun k => p k = true) ⟨i, hp⟩
    have hki : k ≤ i := by
      apply Nat.le_of_not_lt
      intro q
      exact hm i q hp
    rw [findI_some hk (fun j hj => by have := hm j hj; cases h : p j <;> simp_all) n (by omega)] at h
    cases h
theorem findI_congr {p q : Nat → Bool} : ∀ n, (∀ i, i < n → p i = q i) → findI p n = findI q n
  | 0, _ => rfl
  | n + 1, h => by rw [findI, findI, findI_congr n (fun i hi => h i (by omega)), h n (Nat.lt_succ_self n)]
/-- x without the bits of y -/
def anN (x y : Nat) : Nat := x ^^^ (x &&& y)
theorem anN_bit (x y k : Nat) : (anN x y).testBit k = (x.testBit k && !(y.testBit k)) := by
  unfold anN
  rw [Nat.testBit_xor, Nat.testBit_and]
  cases x.testBit k <;> cases y.testBit k <;> rfl
theorem anN_lt {x y n : Nat} (h : x < 2 ^ n) : anN x y < 2 ^ n := Nat.xor_lt_two_pow h (Nat.lt_of_le_of_lt Nat.and_le_left h)
theorem nI_bit (x k : Nat) : (nI x).toBitVec.getLsbD k = (decide (k < 32) && x.testBit k) := by
  show (BitVec.ofNat 32 x).getLsbD k = _
  rw [BitVec.getLsbD_ofNat]
theorem m1_bit (k : Nat) : ((-1 : Int32)).toBitVec.getLsbD k = decide (k < 32) := by
  rw [show (-1 : Int32).toBitVec = BitVec.allOnes 32 by decide, BitVec.getLsbD_allOnes]
theorem andNot (x y : Nat) : nI x &&& (nI y ^^^ (-1 : Int32)) = nI (anN x y) := by
  apply Int32.toBitVec_inj.mp
  apply BitVec.eq_of_getLsbD_eq
  intro k hk
  rw [Int32.toBitVec_and, BitVec.getLsbD_and, Int32.toBitVec_xor, BitVec.getLsbD_xor, nI_bit, nI_bit, nI_bit, m1_bit, anN_bit]
  simp [hk]
theorem nI_xor (a b : Nat) : nI a ^^^ nI b = nI (a ^^^ b) := by
  apply Int32.toBitVec_inj.mp
  apply BitVec.eq_of_getLsbD_eq
  intro k hk
  rw [Int32.toBitVec_xor, BitVec.getLsbD_xor, nI_bit, nI_bit, nI_bit, Nat.testBit_xor]
  simp [hk]
theorem nI_and (a b : Nat) : nI a &&& nI b = nI (a &&& b) := by
  apply Int32.toBitVec_inj.mp
  apply BitVec.eq_of_getLsbD_eq
  intro k hk
  rw [Int32.toBitVec_and, BitVec.getLsbD_and, nI_bit, nI_bit, nI_bit, Nat.testBit_and]
  simp [hk]
theorem nI_is0 {x : Nat} (h : x < 2 ^ 31) : nI x = (0 : Int32) ↔ x = 0 := nI_eq (b := 0) h (by decide)
theorem anN_0 {x y : Nat} : anN x y = 0 ↔ ∀ k, y.testBit k = false → x.testBit k = false := by
  constructor
  · intro h k hk
    have := anN_bit x y k
    rw [h, hk, Nat.zero_testBit] at this
    cases hx : x.testBit k
    · rfl
    · rw [hx] at this; cases this
  · intro h
    apply Nat.eq_of_testBit_eq
    intro k
    rw [anN_bit, Nat.zero_testBit]
    cases hy : y.testBit k
    · rw [h k hy]; rfl
    · simp
/-- words of 64 patterns -/
def wN (S : Nat) : Nat := if 6 < S then 2 ^ (S - 6) else 1
theorem wN_le {S : Nat} (h : S ≤ 10) : wN S ≤ 16 ∧ 1 ≤ wN S ∧ 2 ^ S ≤ 64 * wN S ∧ (6 ≤ S → 64 * wN S = 2 ^ S) := by
  rcases (show S = 0 ∨ S = 1 ∨ S = 2 ∨ S = 3 ∨ S = 4 ∨ S = 5 ∨ S = 6 ∨ S = 7 ∨ S = 8 ∨ S = 9 ∨ S = 10 by omega) with rfl | rfl | rfl | rfl | rfl | rfl | rfl | rfl | rfl | rfl | rfl <;> decide
/-- how showing holds which patterns show which faults -/
def sHolds (S N : Nat) (T : Nat → Nat → Bool) (showing : Nat → Int64) : Prop := ∀ f, f < 2 * N → ∀ w, w < wN S → ∀ b, b < 64 → lane (showing (16 * f + w)) b = (T f (64 * w + b) && decide (64 * w + b < 2 ^ S))
theorem fw16 (f w : Nat) : nI f * (16 : Int32) + nI w = nI (16 * f + w) := by rw [show (16 : Int32) = nI 16 from rfl, pk_mul, nI_add, Nat.mul_comm]
theorem ok_isTestable {S N : Nat} {T : Nat → Nat → Bool} {showing : Nat → Int64} {Q : Int32 → Prop} {f : Nat} (hS : S ≤ 10) (hN : N ≤ 60) (hh : sHolds S N T showing) (hf : f < 2 * N) (hQ : Q (bI (findI (T f) (2 ^ S)).isSome)) : v_X1_isTestable (nI (wN S)) showing (nI f) Q := by
  obtain ⟨w1, w2, w3, w4⟩ := wN_le hS
  have loop : ∀ (d j : Nat), j ≤ wN S → wN S < j + d → (∀ w, w < j → showing (16 * f + w) = 0) → v_X1_isTestable_b2 (nI (wN S)) showing Q d (nI f) (nI j) := by
    intro d
    induction d with
    | zero => intro j h1 h2; omega
    | succ d ih =>
      intro j h1 h2 h0
      by_cases hj : wN S ≤ j
      · refine br_t (nI_le hj (by omega)) ?_
        rw [findI_none] at hQ
        · exact hQ
        · intro p hp
          have h3 := hh f hf (p / 64) (by omega) (p % 64) (Nat.mod_lt _ (by decide))
          rw [h0 (p / 64) (by omega), lane_0, Nat.div_add_mod, decide_eq_true hp, Bool.and_true] at h3
          exact h3.symm
      · refine br_f (nI_ge (by omega) (by omega)) ?_
        rw [fw16, nI_clamp (show 16 * f + j < 2 ^ 31 by omega)]
        refine ⟨vp_in_nI (by omega) (by omega), fun h => ?_, fun h => ?_⟩
        · intro v1 e1
          rw [e1, nI_1]
          refine ih (j + 1) (by omega) (by omega) (fun w hw => ?_)
          by_cases e : w = j
          · rw [e]; exact (lg_cmp_eq _ _).mp h
          · exact h0 w (by omega)
        · have hne : ¬ showing (16 * f + j) = 0 := fun q => h ((lg_cmp_eq _ _).mpr q)
          have hex : ∃ b, b < 64 ∧ lane (showing (16 * f + j)) b = true := Classical.byContradiction (fun q => hne (lane_ext (fun p hp => by
            rw [lane_0]
            cases hl : lane (showing (16 * f + j)) p
            · rfl
            · exact absurd ⟨p, hp, hl⟩ q)))
          obtain ⟨b, hb, hl⟩ := hex
          rw [hh f hf j (by omega) b hb, Bool.and_eq_true, decide_eq_true_iff] at hl
          rw [findI_is hl.2 hl.1] at hQ
          exact hQ
  exact ⟨wN S + 1, loop (wN S + 1) 0 (by omega) (by omega) (fun w hw => by omega)⟩
set_option maxRecDepth 4000 in
theorem s63 : ∀ b, b < 64 → (((nI b).toInt64 &&& 63).toBitVec.smod 64).toNat = b := by decide +kernel
theorem laneAt (v : Int64) {b : Nat} (hb : b < 64) : (v >>> ((nI b).toInt64 &&& 63)) &&& (1 : Int64) = if lane v b then 1 else 0 := by
  have e1 : lane ((v >>> ((nI b).toInt64 &&& 63)) &&& (1 : Int64)) 0 = lane v b := by
    rw [lane_and, show lane 1 0 = true by decide, Bool.and_true]
    unfold lane
    rw [Int64.toBitVec_shiftRight, BitVec.sshiftRight', s63 b hb, BitVec.getLsbD_sshiftRight]
    simp [hb]
  apply lane_ext
  intro p hp
  by_cases e : p = 0
  · subst e
    rw [e1]
    cases lane v b <;> simp [lane_0] ; decide
  · have h1 : lane 1 p = false := by
      unfold lane
      have : (1 : Int64).toBitVec = 1#64 := by decide
      rw [this]
      simp [BitVec.getLsbD_one, e]
    rw [lane_and, h1, Bool.and_false]
    cases lane v b <;> simp [lane_0, h1]
theorem laneAt0 (v : Int64) {b : Nat} (hb : b < 64) : lg_cmp ((v >>> ((nI b).toInt64 &&& 63)) &&& (1 : Int64)) (0 : Int64) = 0 ↔ lane v b = false := by
  rw [lg_cmp_eq, laneAt v hb]
  cases lane v b <;> decide
theorem shl6 {w : Nat} (h : w ≤ 16) : nI w <<< ((6 : Int32) &&& 31) = nI (64 * w) := by
  rw [pk_shlN _ 6 (by decide) (by omega), Nat.mul_comm]
theorem shr6 {p : Nat} (h : p < 2 ^ 31) : nI p >>> ((6 : Int32) &&& 31) = nI (p / 64) := pk_shrN h _ 6 (by decide)
theorem and63 {p : Nat} (h : p < 2 ^ 31) : nI p &&& (63 : Int32) = nI (p % 64) := pk_andN (by omega) 6 (by decide)
theorem ok_leastPattern {S N : Nat} {T : Nat → Nat → Bool} {showing : Nat → Int64} {Q : Int32 → Prop} {f : Nat} (hS : S ≤ 10) (hN : N ≤ 60) (hh : sHolds S N T showing) (hf : f < 2 * N) (hQ : Q (sti (findI (T f) (2 ^ S)))) : v_X1_leastPattern (nI (wN S)) showing (nI f) Q := by
  obtain ⟨w1, w2, w3, w4⟩ := wN_le hS
  have loop : ∀ (d j : Nat), j ≤ 64 * wN S → 64 * wN S < j + d → (∀ p, p < j → (T f p && decide (p < 2 ^ S)) = false) → v_X1_leastPattern_b2 (nI (wN S)) showing Q d (nI f) (nI j) := by
    intro d
    induction d with
    | zero => intro j h1 h2; omega
    | succ d ih =>
      intro j h1 h2 h0
      rw [v_X1_leastPattern_b2]
      dsimp only
      rw [shl6 w1, shr6 (by omega), and63 (by omega), fw16, nI_clamp (show 16 * f + j / 64 < 2 ^ 31 by omega)]
      by_cases hj : 64 * wN S ≤ j
      · refine br_t (nI_le hj (by omega)) ?_
        rw [findI_none] at hQ
        · exact hQ
        · intro p hp
          have h3 := h0 p (by omega)
          rw [decide_eq_true hp, Bool.and_true] at h3
          exact h3
      · refine br_f (nI_ge (by omega) (by omega)) ⟨vp_in_nI (by omega) (by omega), ?_⟩
        intro v1 e1
        have h3 := hh f hf (j / 64) (by omega) (j % 64) (Nat.mod_lt _ (by decide))
        rw [Nat.div_add_mod, ← e1] at h3
        refine ⟨fun h => ?_, fun h => ?_⟩
        · intro v2 e2
          rw [e2, nI_1]
          refine ih (j + 1) (by omega) (by omega) (fun p hp => ?_)
          by_cases e : p = j
          · rw [e, ← h3]; exact (laneAt0 v1 (Nat.mod_lt _ (by decide))).mp h
          · exact h0 p (by omega)
        · have h4 : lane v1 (j % 64) = true := by
            cases hl : lane v1 (j % 64)
            · exact absurd ((laneAt0 v1 (Nat.mod_lt _ (by decide))).mpr hl) h
            · rfl
          rw [h4] at h3
          have h5 := (Bool.and_eq_true _ _).mp h3.symm
          rw [decide_eq_true_iff] at h5
          rw [findI_some h5.1 (fun p hp => by
            have h6 := h0 p hp
            rw [decide_eq_true (by omega), Bool.and_true] at h6
            exact h6) _ h5.2] at hQ
          exact hQ
  exact ⟨64 * wN S + 1, loop (64 * wN S + 1) 0 (by omega) (by omega) (fun w hw => by omega)⟩
