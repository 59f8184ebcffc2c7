/-! ANSWERS: Circuit.respond -/
set_option maxRecDepth 4000 in
theorem s_l : ∀ n, n < 32 → ((nI n &&& 31).toBitVec.smod 32).toNat = n := by decide
theorem bitOf {x k : Nat} (hx : x < 2 ^ 31) (hk : k < 32) : (nI x >>> (nI k &&& 31)) &&& (1 : Int32) = nI (x.testBit k).toNat := by
  rw [pk_shrN hx _ k (s_l k hk), and1 (Nat.lt_of_le_of_lt (Nat.div_le_self _ _) hx), Nat.toNat_testBit]
theorem nI_or (a b : Nat) : nI a ||| nI b = nI (a ||| b) := by
  apply Int32.toBitVec_inj.mp
  simp [nI, BitVec.ofNat_or]
theorem orBit {n k b : Nat} (hn : n < 2 ^ k) (hb : b < 2) (hk : k < 31) : nI n ||| (nI b <<< (nI k &&& 31)) = nI (n + b * 2 ^ k) := by
  have h1 : b * 2 ^ k < 2 ^ 32 := by
    have h2 : (2 : Nat) ^ k ≤ 2 ^ 30 := Nat.pow_le_pow_right (by decide) (by omega)
    have h3 : b * 2 ^ k ≤ 1 * 2 ^ k := Nat.mul_le_mul_right _ (by omega)
    omega
  rw [pk_shlN _ k (s_l k (by omega)) h1, nI_or]
  congr 1
  rw [Nat.or_comm, Nat.mul_comm b, ← Nat.two_pow_add_eq_or_of_lt hn b, Nat.add_comm]
/-- the number with the bits b 0, .., b (k - 1) -/
def accN (b : Nat → Bool) : Nat → Nat
  | 0 => 0
  | k + 1 => accN b k + (b k).toNat * 2 ^ k
theorem accN_lt (b : Nat → Bool) : ∀ k, accN b k < 2 ^ k
  | 0 => Nat.zero_lt_one
  | k + 1 => by
    have h := accN_lt b k
    have h2 : (b k).toNat * 2 ^ k ≤ 1 * 2 ^ k := Nat.mul_le_mul_right _ (by cases b k <;> decide)
    rw [accN, Nat.pow_succ]
    omega
theorem accN_or {b : Nat → Bool} {k : Nat} (hk : k < 31) : nI (accN b k) ||| (nI (b k).toNat <<< (nI k &&& 31)) = nI (accN b (k + 1)) := orBit (accN_lt b k) (by cases b k <;> decide) hk
/-- bit k of an answer: outputs, then the nexts of the flip-flops (one without a next keeps what it has) -/
def abit (I O : Nat) (out : Nat → Nat) (nxt : Nat → Option Nat) (V : Nat → Bool) (pat k : Nat) : Bool := if k < O then V (out k) else match nxt (k - O) with
  | none => pat.testBit (I + (k - O))
  | some n => V n
theorem lane0 (v : Int64) : (v &&& (1 : Int64)).toInt32 = nI (lane v 0).toNat := by
  have h : v &&& (1 : Int64) = if lane v 0 then 1 else 0 := by
    apply lane_ext
    intro p hp
    rw [lane_and]
    by_cases e : p = 0
    · subst e
      rw [show lane 1 0 = true by decide, Bool.and_true]
      cases h : lane v 0 <;> simp [lane_0] ; decide
    · have h1 : lane 1 p = false := by
        unfold lane
        have : (1 : Int64).toBitVec = 1#64 := by decide
        rw [this]
        simp [BitVec.getLsbD_one, e]
      rw [h1, Bool.and_false]
      cases lane v 0 <;> simp [lane_0, h1]
  rw [h]
  cases lane v 0 <;> decide
/-- what the arrays of outputs and nexts hold -/
def oHolds (F N O : Nat) (out : Nat → Nat) (nxt : Nat → Option Nat) (output next : Nat → Int32) : Prop := (∀ k, k < O → output k = nI (out k) ∧ out k < N) ∧ ∀ k, k < F → next k = sti (nxt k) ∧ ∀ n, nxt k = some n → n < N
theorem sti_ne {n : Nat} (h : n < 2 ^ 31) : ¬ sti (some n) = -1 := by
  intro h1
  have h2 := congrArg Int32.toInt h1
  rw [show sti (some n) = nI n from rfl, nI_toInt h, show (-1 : Int32).toInt = -1 by decide] at h2
  omega
set_option maxHeartbeats 1000000 in
theorem ok_respond {I F N O : Nat} {op cnt : Nat → Nat} {a : Nat → Nat → Nat} {out : Nat → Nat} {nxt : Nat → Option Nat} {oper looked lcount output next : Nat → Int32} {val : Nat → Int64} {Q : Int32 → (Nat → Int64) → Prop} {o : Option Nat} {pat : Nat} (hN : N ≤ 60) (hS : I + F ≤ N) (hS2 : I + F ≤ 10) (hO : O ≤ 8) (hg : gates (I + F) N op cnt a) (hh : cHolds (I + F) N op cnt a oper looked lcount) (ho : ∀ f, o = some f → f < 2 * N) (hoh : oHolds F N O out nxt output next) (hp : pat < 2 ^ 31)
    (hQ : ∀ val : Nat → Int64, Q (nI (accN (abit I O out nxt (nv (I + F) op cnt a o (fun k => pat.testBit k)) pat) (O + F))) val) :
    v_X2_respond (nI I) (nI F) (nI N) (nI O) val oper looked lcount next output (nI pat) (sti o) Q := by
  -- the flip-flops' nexts
  have loop79 : ∀ (val : Nat → Int64), (∀ k, k < N → lane (val k) 0 = nv (I + F) op cnt a o (fun k => pat.testBit k) k) → ∀ (d j : Nat), j ≤ F → F < j + d →
      v_X2_respond_b79 (nI I) (nI F) (nI N) (nI O) oper looked lcount next output Q d val (nI pat) (nI (accN (abit I O out nxt (nv (I + F) op cnt a o (fun k => pat.testBit k)) pat) (O + j))) (nI j) := by
    intro val hv d
    induction d with
    | zero => intro j h1 h2; omega
    | succ d ih =>
      intro j h1 h2
      by_cases hj : F ≤ j
      · have : j = F := by omega
        subst this
        exact br_t (nI_le hj (by omega)) (hQ val)
      · refine br_f (nI_ge (by omega) (by omega)) ?_
        obtain ⟨en, hnn⟩ := hoh.2 j (by omega)
        have fin : ∀ r : Int32, r = nI (abit I O out nxt (nv (I + F) op cnt a o (fun k => pat.testBit k)) pat (O + j)).toNat → ∀ v2 : Int32, v2 = nI (accN (abit I O out nxt (nv (I + F) op cnt a o (fun k => pat.testBit k)) pat) (O + j)) ||| (r <<< ((nI O + nI j) &&& 31)) → ∀ v3 : Int32, v3 = nI j + (1 : Int32) → (v_X2_respond_b79 (nI I) (nI F) (nI N) (nI O) oper looked lcount next output Q d) val (nI pat) v2 v3 := by
          intro r er v2 e2 v3 e3
          rw [e3, nI_1, e2, er, nI_add, accN_or (by omega)]
          exact ih (j + 1) (by omega) (by omega)
        unfold v_X2_nextBit
        rw [nI_clamp (show j < 2 ^ 31 by omega), en]
        have hab : abit I O out nxt (nv (I + F) op cnt a o (fun k => pat.testBit k)) pat (O + j) = (match nxt j with | none => pat.testBit (I + j) | some n => nv (I + F) op cnt a o (fun k => pat.testBit k) n) := by
          unfold abit
          rw [if_neg (by omega), Nat.add_sub_cancel_left]
        cases hx : nxt j with
        | none =>
          rw [hx] at hab
          refine ⟨vp_in_nI (by omega) (by omega), fun h => absurd rfl h, fun _ => fin _ ?_⟩
          rw [hab, nI_add, bitOf hp (by omega)]
        | some n =>
          rw [hx] at hab
          have hnN := hnn n hx
          refine ⟨vp_in_nI (by omega) (by omega), fun _ => ⟨vp_in_nI (by omega) (by omega), ?_, fin _ ?_⟩, fun h => absurd h (sti_ne (by omega))⟩
          · exact vp_in_nI (by omega) (by omega)
          · rw [show sti (some n) = nI n from rfl, nI_clamp (by omega), lane0, hab, hv n hnN]
  have loop40 : ∀ (val : Nat → Int64), (∀ k, k < N → lane (val k) 0 = nv (I + F) op cnt a o (fun k => pat.testBit k) k) → ∀ (d j : Nat), j ≤ O → O < j + d →
      v_X2_respond_b40 (nI I) (nI F) (nI N) (nI O) oper looked lcount next output Q d val (nI pat) (nI (accN (abit I O out nxt (nv (I + F) op cnt a o (fun k => pat.testBit k)) pat) j)) (nI j) := by
    intro val hv d
    induction d with
    | zero => intro j h1 h2; omega
    | succ d ih =>
      intro j h1 h2
      by_cases hj : O ≤ j
      · have : j = O := by omega
        subst this
        exact br_t (nI_le hj (by omega)) ⟨F + 1, loop79 val hv (F + 1) 0 (by omega) (by omega)⟩
      · refine br_f (nI_ge (by omega) (by omega)) ?_
        obtain ⟨eo, hoN⟩ := hoh.1 j (by omega)
        rw [nI_clamp (show j < 2 ^ 31 by omega), eo, nI_clamp (show out j < 2 ^ 31 by omega)]
        refine ⟨vp_in_nI (by omega) (by omega), vp_in_nI (by omega) (by omega), ?_⟩
        intro v4 e4 v5 e5
        rw [e5, nI_1, e4, lane0, hv _ hoN]
        have hab : abit I O out nxt (nv (I + F) op cnt a o (fun k => pat.testBit k)) pat j = nv (I + F) op cnt a o (fun k => pat.testBit k) (out j) := by
          unfold abit
          rw [if_pos (by omega)]
        rw [← hab, accN_or (by omega)]
        exact ih (j + 1) (by omega) (by omega)
  have loop2 : ∀ (d j : Nat) (val : Nat → Int64), j ≤ I + F → I + F < j + d → (∀ k, k < j → ∀ p, p < 64 → lane (val k) p = pat.testBit k) →
      v_X2_respond_b2 (nI I) (nI F) (nI N) (nI O) oper looked lcount next output Q d val (nI pat) (sti o) (nI j) := by
    intro d
    induction d with
    | zero => intro j val h1 h2; omega
    | succ d ih =>
      intro j val h1 h2 hb
      rw [v_X2_respond_b2]
      refine ok_sources ?_
      by_cases hj : I + F ≤ j
      · refine br_t (nI_le hj (by omega)) ?_
        refine ok_settle (from0 := 0) (src := fun _ k => pat.testBit k) hN hS hg hh ho (by omega) (fun k hk => by omega) (fun k _ hk p hp9 => hb k (by omega) p hp9) (fun val2 h2 => ⟨O + 1, ?_⟩)
        exact loop40 val2 (fun k hk => h2 k hk 0 (by decide)) (O + 1) 0 (by omega) (by omega)
      · refine br_f (nI_ge (by omega) (by omega)) ⟨vp_in_nI (by omega) (by omega), ?_⟩
        intro v8 e8
        rw [e8, nI_1, nI_clamp (show j < 2 ^ 31 by omega), bitOf hp (by omega)]
        refine ih (j + 1) _ (by omega) (by omega) (fun k hk p hp9 => ?_)
        by_cases e : k = j
        · subst e
          rw [pk_uLs, lane_neg (by cases pat.testBit k <;> decide) hp9]
          cases pat.testBit k <;> rfl
        · rw [pk_uLn e]
          exact hb k (by omega) p hp9
  exact ⟨I + F + 1, loop2 (I + F + 1) 0 val (by omega) (by omega) (fun k hk => by omega)⟩
