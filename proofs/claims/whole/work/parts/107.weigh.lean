/-! CHOICE: spread, differing, weigh -/
theorem nI_lit6 : (6 : Int32) = nI 6 := rfl
theorem accN_inj {b c : Nat → Bool} : ∀ n, accN b n = accN c n ↔ ∀ k, k < n → b k = c k
  | 0 => by simp [accN]
  | n + 1 => by
    have ih := accN_inj (b := b) (c := c) n
    have hb := accN_lt b n
    have hc := accN_lt c n
    constructor
    · intro h
      have h1 : b n = c n ∧ accN b n = accN c n := by
        rw [accN, accN] at h
        cases hbn : b n <;> cases hcn : c n <;> rw [hbn, hcn] at h <;> simp only [Bool.toNat_true, Bool.toNat_false, Nat.zero_mul, Nat.one_mul, Nat.add_zero] at h
        · exact ⟨rfl, h⟩
        · omega
        · omega
        · exact ⟨rfl, by omega⟩
      intro k hk
      by_cases e : k = n
      · rw [e]; exact h1.1
      · exact ih.mp h1.2 k (by omega)
    · intro h
      rw [accN, accN, ih.mpr (fun k hk => h k (by omega)), h n (Nat.lt_succ_self n)]
def orN (b : Nat → Bool) : Nat → Bool
  | 0 => false
  | k + 1 => orN b k || b k
theorem orN_false {b : Nat → Bool} : ∀ n, orN b n = false ↔ ∀ k, k < n → b k = false
  | 0 => by simp [orN]
  | n + 1 => by
    rw [orN, Bool.or_eq_false_iff, orN_false n]
    constructor
    · intro h k hk
      by_cases e : k = n
      · rw [e]; exact h.2
      · exact h.1 k (by omega)
    · intro h
      exact ⟨fun k hk => h k (by omega), h n (Nat.lt_succ_self n)⟩
set_option maxRecDepth 20000 in
theorem colLane : ∀ k, k < 6 → ∀ b, b < 64 → lane (tb_COLUMNS.getD k 0) b = b.testBit k := by decide +kernel
theorem patBit {w b k : Nat} (hb : b < 64) : (64 * w + b).testBit k = if k < 6 then b.testBit k else w.testBit (k - 6) := Nat.testBit_two_pow_mul_add w (i := 6) hb k
/-- Circuit.spread: lane b of source k is bit k of pattern 64 w + b -/
theorem ok_spread {I F w : Nat} {val : Nat → Int64} {Q : (Nat → Int64) → Prop} (hS2 : I + F ≤ 10) (hw : w < 16)
    (hQ : ∀ val : Nat → Int64, (∀ k, k < I + F → ∀ p, p < 64 → lane (val k) p = (64 * w + p).testBit k) → Q val) : v_X2_spread (nI I) (nI F) val (nI w) Q := by
  have loop : ∀ (d j : Nat) (val : Nat → Int64), j ≤ I + F → I + F < j + d → (∀ k, k < j → ∀ p, p < 64 → lane (val k) p = (64 * w + p).testBit k) → v_X2_spread_b2 (nI I) (nI F) Q d val (nI w) (nI j) := by
    intro d
    induction d with
    | zero => intro j val h1 h2; omega
    | succ d ih =>
      intro j val h1 h2 hb
      rw [v_X2_spread_b2]
      refine ok_sources ?_
      by_cases hj : I + F ≤ j
      · exact br_t (nI_le hj (by omega)) (hQ val (fun k hk => hb k (by omega)))
      · refine br_f (nI_ge (by omega) (by omega)) ?_
        have put : ∀ s0 : Int64, (∀ p, p < 64 → lane s0 p = (64 * w + p).testBit j) → v_X2_spread_b43 (nI I) (nI F) Q (v_X2_spread_b2 (nI I) (nI F) Q d) val (nI w) (nI j) s0 (nI j) := by
          intro s0 h0
          refine ⟨vp_in_nI (by omega) (by omega), ?_⟩
          intro v1 e1
          rw [e1, nI_1, nI_clamp (show j < 2 ^ 31 by omega)]
          refine ih (j + 1) _ (by omega) (by omega) (fun k hk p hp => ?_)
          by_cases e : k = j
          · subst e; rw [pk_uLs, h0 p hp]
          · rw [pk_uLn e]; exact hb k (by omega) p hp
        by_cases h6 : 6 ≤ j
        · refine br_t (nI_le h6 (by omega)) (put _ (fun p hp => ?_))
          rw [nI_lit6, pk_sub h6, bitOf (by omega) (by omega), lane_neg (by cases w.testBit (j - 6) <;> decide) hp, patBit hp, if_neg (by omega)]
          cases w.testBit (j - 6) <;> rfl
        · refine br_f (nI_ge (b := 6) (by omega) (by decide)) ⟨vp_in_nI (by omega) (by omega), put _ (fun p hp => ?_)⟩
          rw [nI_clamp (show j < 2 ^ 31 by omega), colLane j (by omega) p hp, patBit hp, if_pos (by omega)]
  exact ⟨I + F + 1, loop (I + F + 1) 0 val (by omega) (by omega) (fun k hk => by omega)⟩
/-- Circuit.differing: where an output or a next differs -/
theorem ok_differing {I F N O : Nat} {out : Nat → Nat} {nxt : Nat → Option Nat} {output next : Nat → Int32} {val good : Nat → Int64} {Q : Int64 → Prop} {V G : Nat → Nat → Bool} {pat : Nat → Nat} (hN : N ≤ 60) (hF : F ≤ 10) (hO : O ≤ 8) (hoh : oHolds F N O out nxt output next)
    (hv : ∀ k, k < N → ∀ p, p < 64 → lane (val k) p = V p k) (hg : ∀ k, k < N → ∀ p, p < 64 → lane (good k) p = G p k)
    (hQ : ∀ v : Int64, (∀ p, p < 64 → lane v p = decide (accN (abit I O out nxt (V p) (pat p)) (O + F) ≠ accN (abit I O out nxt (G p) (pat p)) (O + F))) → Q v) : v_X2_differing (nI F) (nI O) good next val output Q := by
  have fin : ∀ v : Int64, (∀ p, p < 64 → lane v p = orN (fun k => abit I O out nxt (V p) (pat p) k ^^ abit I O out nxt (G p) (pat p) k) (O + F)) → Q v := fun v h => hQ v (fun p hp => by
    rw [h p hp]
    by_cases e : accN (abit I O out nxt (V p) (pat p)) (O + F) = accN (abit I O out nxt (G p) (pat p)) (O + F)
    · rw [decide_eq_false (fun q => q e), orN_false]
      intro k hk
      show (abit I O out nxt (V p) (pat p) k ^^ abit I O out nxt (G p) (pat p) k) = false
      rw [(accN_inj _).mp e k hk, Bool.xor_self]
    · rw [decide_eq_true e]
      apply (Bool.not_eq_false _).mp
      intro q
      refine e ((accN_inj _).mpr (fun k hk => ?_))
      have := (orN_false _).mp q k hk
      revert this
      show (abit I O out nxt (V p) (pat p) k ^^ abit I O out nxt (G p) (pat p) k) = false → _
      cases abit I O out nxt (V p) (pat p) k <;> cases abit I O out nxt (G p) (pat p) k <;> simp)
  have loop48 : ∀ (d j : Nat) (acc : Int64), j ≤ F → F < j + d → (∀ p, p < 64 → lane acc p = orN (fun k => abit I O out nxt (V p) (pat p) k ^^ abit I O out nxt (G p) (pat p) k) (O + j)) → v_X2_differing_b48 (nI F) (nI O) good next val output Q d acc (nI j) := by
    intro d
    induction d with
    | zero => intro j acc h1 h2; omega
    | succ d ih =>
      intro j acc h1 h2 ha
      by_cases hj : F ≤ j
      · have : j = F := by omega
        subst this
        exact br_t (nI_le hj (by omega)) (fin acc ha)
      · refine br_f (nI_ge (by omega) (by omega)) ⟨vp_in_nI (by omega) (by omega), ?_⟩
        obtain ⟨en, hnn⟩ := hoh.2 j (by omega)
        have go : ∀ acc2 : Int64, (∀ p, p < 64 → lane acc2 p = (lane acc p || (abit I O out nxt (V p) (pat p) (O + j) ^^ abit I O out nxt (G p) (pat p) (O + j)))) → v_X2_differing_b93 (nI F) (nI O) good next val output Q (v_X2_differing_b48 (nI F) (nI O) good next val output Q d) acc2 (nI j) := by
          intro acc2 h2' v1 e1
          rw [e1, nI_1]
          exact ih (j + 1) acc2 (by omega) (by omega) (fun p hp => by rw [h2' p hp, ha p hp]; rfl)
        rw [nI_clamp (show j < 2 ^ 31 by omega), en]
        have hab : ∀ (W : Nat → Bool) (p : Nat), abit I O out nxt W (pat p) (O + j) = (match nxt j with | none => (pat p).testBit (I + j) | some n => W n) := by
          intro W p
          unfold abit
          rw [if_neg (by omega), Nat.add_sub_cancel_left]
          rfl
        cases hx : nxt j with
        | none =>
          refine ⟨fun _ => go acc (fun p hp => ?_), fun h => absurd rfl h⟩
          rw [hab, hab, hx, Bool.xor_self, Bool.or_false]
        | some n =>
          have hnN := hnn n hx
          have hi : vp_in (nI j) 10 := vp_in_nI (by omega) (by omega)
          have hi2 : vp_in (sti (some n)) 60 := vp_in_nI (by omega) (by omega)
          refine ⟨fun h => absurd h (sti_ne (by omega)), fun _ => ⟨hi, hi2, hi, hi2, ?_⟩⟩
          intro v2 e2
          refine go v2 (fun p hp => ?_)
          rw [e2, show sti (some n) = nI n from rfl, nI_clamp (show n < 2 ^ 31 by omega), lane_or, lane_xor, hv n hnN p hp, hg n hnN p hp, hab, hab, hx]
  have loop5 : ∀ (d j : Nat) (acc : Int64), j ≤ O → O < j + d → (∀ p, p < 64 → lane acc p = orN (fun k => abit I O out nxt (V p) (pat p) k ^^ abit I O out nxt (G p) (pat p) k) j) → v_X2_differing_b5 (nI F) (nI O) good next val output Q d acc (nI j) := by
    intro d
    induction d with
    | zero => intro j acc h1 h2; omega
    | succ d ih =>
      intro j acc h1 h2 ha
      by_cases hj : O ≤ j
      · have : j = O := by omega
        subst this
        exact br_t (nI_le hj (by omega)) ⟨F + 1, loop48 (F + 1) 0 acc (by omega) (by omega) ha⟩
      · obtain ⟨eo, hoN⟩ := hoh.1 j (by omega)
        refine br_f (nI_ge (by omega) (by omega)) ?_
        rw [nI_clamp (show j < 2 ^ 31 by omega), eo, nI_clamp (show out j < 2 ^ 31 by omega)]
        have hi : vp_in (nI j) 8 := vp_in_nI (by omega) (by omega)
        have hi2 : vp_in (nI (out j)) 60 := vp_in_nI (by omega) (by omega)
        refine ⟨hi, hi2, hi, hi2, ?_⟩
        intro v3 e3 v4 e4
        rw [e4, nI_1]
        refine ih (j + 1) v3 (by omega) (by omega) (fun p hp => ?_)
        have hab : ∀ W : Nat → Bool, abit I O out nxt W (pat p) j = W (out j) := by
          intro W
          unfold abit
          rw [if_pos (by omega)]
        rw [e3, lane_or, lane_xor, hv _ hoN p hp, hg _ hoN p hp, ha p hp, orN, hab, hab]
  exact ⟨O + 1, loop5 (O + 1) 0 0 (by omega) (by omega) (fun p _ => lane_0 p)⟩
theorem nv_below {S N : Nat} {op cnt : Nat → Nat} {a : Nat → Nat → Nat} {src : Nat → Bool} {f : Nat} (hg : gates S N op cnt a) : ∀ k, k < f / 2 → k < N → nv S op cnt a (some f) src k = nv S op cnt a none src k := by
  intro k
  induction k using Nat.strongRecOn with
  | ind k ih =>
    intro h1 h2
    by_cases hs : k < S
    · rw [nv_src hs, nv_src hs]
      show (if k = f / 2 then _ else _) = src k
      rw [if_neg (by omega)]
    · obtain ⟨-, g2, -, g4, -, g6⟩ := hg k (by omega) h2
      rw [nv_gate hg (by omega) h2, nv_gate hg (by omega) h2]
      show (if k = f / 2 then _ else _) = gval _ _ _
      rw [if_neg (by omega)]
      exact gval_congr g2 g4 (fun i hi => ih _ (g6 i hi) (by have := g6 i hi; omega) (by have := g6 i hi; omega))
/-- does stuck f show with pattern p -/
def shw (I F O : Nat) (op cnt : Nat → Nat) (a : Nat → Nat → Nat) (out : Nat → Nat) (nxt : Nat → Option Nat) (f p : Nat) : Bool := decide (cAns I F O op cnt a out nxt (some f) p ≠ cAns I F O op cnt a out nxt none p)
set_option maxHeartbeats 1000000 in
theorem ok_weigh {I F N O : Nat} {op cnt : Nat → Nat} {a : Nat → Nat → Nat} {out : Nat → Nat} {nxt : Nat → Option Nat} {oper looked lcount output next : Nat → Int32} {val good showing : Nat → Int64} {Q : (Nat → Int64) → (Nat → Int64) → (Nat → Int64) → Prop} {mask : Int64} {w : Nat} (hN : N ≤ 60) (hS : I + F ≤ N) (hS2 : I + F ≤ 10) (hO : O ≤ 8) (hg : gates (I + F) N op cnt a) (hh : cHolds (I + F) N op cnt a oper looked lcount) (hoh : oHolds F N O out nxt output next) (hw : w < 16)
    (hQ : ∀ val good sh : Nat → Int64, (∀ f, f < 2 * N → ∀ p, p < 64 → lane (sh (16 * f + w)) p = (shw I F O op cnt a out nxt f (64 * w + p) && lane mask p)) → (∀ f, f < 2 * N → ∀ x, x < 16 → x ≠ w → sh (16 * f + x) = showing (16 * f + x)) → Q val good sh) :
    v_X1_weigh mask (nI I) (nI F) (nI N) (nI O) val oper looked lcount good next output showing (nI w) Q := by
  refine ok_spread hS2 hw (fun val1 h1 => ?_)
  refine ok_settle (o := none) (from0 := 0) (src := fun p k => (64 * w + p).testBit k) hN hS hg hh (fun f h => by cases h) (by omega) (fun k hk => by omega) (fun k _ hk p hp => h1 k hk p hp) (fun val2 h2 => ?_)
  have z0 : ¬ ((0 : Int32) < 0) := by decide
  have cN : (nI N).toNatClampNeg = N := nI_clamp (by omega)
  have c0 : (0 : Int32).toNatClampNeg = 0 := by decide
  have hle : (0 : Int32).toNatClampNeg + (nI N).toNatClampNeg ≤ 60 := by rw [c0, cN]; omega
  refine ⟨z0, z0, nI_pos (by omega), hle, hle, 2 * N + 1, ?_⟩
  rw [c0, cN]
  have cpy : ∀ (A B : Nat → Int64) (k : Nat), k < N → va_cpy A B 0 0 N k = A k := fun A B k hk => by
    rw [pk_cpy_in (by omega) (by omega)]; congr 1; omega
  have loop : ∀ (d j : Nat) (val gd sh : Nat → Int64), j ≤ 2 * N → 2 * N < j + d → (∀ k, k < N → ∀ p, p < 64 → lane (gd k) p = nv (I + F) op cnt a none (fun k => (64 * w + p).testBit k) k) → (∀ k, k < N → val k = gd k) →
      (∀ f, f < j → ∀ p, p < 64 → lane (sh (16 * f + w)) p = (shw I F O op cnt a out nxt f (64 * w + p) && lane mask p)) → (∀ f, f < 2 * N → ∀ x, x < 16 → x ≠ w → sh (16 * f + x) = showing (16 * f + x)) →
      v_X1_weigh_b44 mask (nI I) (nI F) (nI N) (nI O) oper looked lcount next output Q d val gd sh (nI w) (nI N) (nI j) := by
    intro d
    induction d with
    | zero => intro j val gd sh q1 q2; omega
    | succ d ih =>
      intro j val gd sh q1 q2 hgd hval hsh hrest
      have e2 : (2 : Int32) * nI N = nI (2 * N) := pk_mul 2 N
      rw [v_X1_weigh_b44]
      dsimp only
      rw [e2]
      by_cases hj : 2 * N ≤ j
      · refine br_t (nI_le hj (by omega)) (hQ val gd sh (fun f hf => hsh f (by omega)) hrest)
      · refine br_f (nI_ge (by omega) (by omega)) ?_
        rw [shr1 (by omega)]
        refine ok_settle (o := some j) (src := fun p k => (64 * w + p).testBit k) hN hS hg hh (fun f h => by cases h; omega) (by omega) (fun k hk p hp => ?_) (fun k hk hk2 p hp => ?_) (fun val3 h3 => ?_)
        · rw [hval k (by omega), hgd k (by omega) p hp, nv_below hg k hk (by omega)]
        · rw [hval k (by omega), hgd k (by omega) p hp, nv_src hk2]; rfl
        · refine ok_differing (I := I) (V := fun p => nv (I + F) op cnt a (some j) (fun k => (64 * w + p).testBit k)) (G := fun p => nv (I + F) op cnt a none (fun k => (64 * w + p).testBit k)) (pat := fun p => 64 * w + p) hN (by omega) hO hoh h3 hgd (fun v hv => ?_)
          have e16 : nI j * (16 : Int32) + nI w = nI (16 * j + w) := by rw [show (16 : Int32) = nI 16 from rfl, pk_mul, nI_add, Nat.mul_comm]
          rw [e16, nI_clamp (show 16 * j + w < 2 ^ 31 by omega), c0, cN]
          refine ⟨vp_in_nI (by omega) (by omega), z0, z0, nI_pos (by omega), by omega, by omega, ?_⟩
          intro v3 e3
          rw [e3, nI_1]
          refine ih (j + 1) _ gd _ (by omega) (by omega) hgd (fun k hk => cpy _ _ k hk) (fun f hf p hp => ?_) (fun f hf x hx hxw => ?_)
          · by_cases e : f = j
            · subst e; rw [pk_uLs, lane_and, hv p hp]; rfl
            · rw [pk_uLn (by omega)]; exact hsh f (by omega) p hp
          · rw [pk_uLn (by omega)]; exact hrest f hf x hx hxw
  exact loop (2 * N + 1) 0 _ _ _ (by omega) (by omega) (fun k hk p hp => by rw [cpy _ _ k hk]; exact h2 k hk p hp) (fun k hk => (cpy _ _ k hk).symm) (fun f hf => by omega) (fun f _ x _ _ => rfl)
