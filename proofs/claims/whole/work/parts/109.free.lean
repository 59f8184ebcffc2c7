/-! CUBES: the class's showsWith, freeSources -/
/-- does it show with all patterns that are as o but for the free sources fr -/
def swN (S : Nat) (T : Nat → Bool) (o fr : Nat) : Bool := decide (∀ p, p < 2 ^ S → (∀ k, k < S → fr.testBit k = false → p.testBit k = o.testBit k) → T p = true)
/-- lanes of the mask -/
def maskOk (S : Nat) (mask : Int64) : Prop := ∀ b, b < 64 → lane mask b = decide (b < 2 ^ S ∨ 6 ≤ S)
set_option maxHeartbeats 1000000 in
theorem ok_showsWith {I F N : Nat} {T : Nat → Nat → Bool} {showing : Nat → Int64} {mask : Int64} {Q : Int32 → Prop} {f pat fr : Nat} (hS : I + F ≤ 10) (hN : N ≤ 60) (hh : sHolds (I + F) N T showing) (hmask : maskOk (I + F) mask) (hf : f < 2 * N) (hpat : pat < 2 ^ (I + F)) (hfr : fr < 2 ^ (I + F)) (hQ : Q (bI (swN (I + F) (T f) pat fr))) : v_X1_showsWith (nI (wN (I + F))) mask (nI I) (nI F) showing (nI f) (nI pat) (nI fr) Q := by
  obtain ⟨w1, w2, w3, w4⟩ := wN_le hS
  have h10 : (2 : Nat) ^ (I + F) ≤ 2 ^ 10 := Nat.pow_le_pow_right (by decide) hS
  -- the words
  have loop79 : ∀ (within : Int64), (∀ b, b < 64 → (lane within b = true ↔ (lane mask b = true ∧ ∀ k, k < 6 → (k < I + F ∧ fr.testBit k = false) → b.testBit k = pat.testBit k))) → ∀ (d j : Nat), j ≤ wN (I + F) → wN (I + F) < j + d → (∀ p, p < 64 * j → p < 2 ^ (I + F) → (∀ k, k < I + F → fr.testBit k = false → p.testBit k = pat.testBit k) → T f p = true) →
      v_X1_showsWith_b79 (nI (wN (I + F))) mask (nI I) (nI F) showing Q d (nI f) (nI pat) (nI fr) within (nI j) := by
    intro within hin d
    induction d with
    | zero => intro j h1 h2; omega
    | succ d ih =>
      intro j h1 h2 h0
      by_cases hj : wN (I + F) ≤ j
      · refine br_t (nI_le hj (by omega)) ?_
        rw [swN, decide_eq_true] at hQ
        · exact hQ
        · intro p hp hk
          exact h0 p (by omega) hp hk
      · refine br_f (nI_ge (by omega) (by omega)) ?_
        rw [shr6 (by omega), shr6 (by omega), nI_xor, andNot]
        have hx : anN (j ^^^ (pat / 64)) (fr / 64) < 2 ^ 10 := anN_lt (Nat.xor_lt_two_pow (by omega) (by omega))
        have next : (∀ p, 64 * j ≤ p → p < 64 * j + 64 → p < 2 ^ (I + F) → (∀ k, k < I + F → fr.testBit k = false → p.testBit k = pat.testBit k) → T f p = true) → v_X1_showsWith_b143 (nI (wN (I + F))) mask (nI I) (nI F) showing Q (v_X1_showsWith_b79 (nI (wN (I + F))) mask (nI I) (nI F) showing Q d) (nI f) (nI pat) (nI fr) within (nI j) := by
          intro hnew v3 e3
          rw [e3, nI_1]
          refine ih (j + 1) (by omega) (by omega) (fun p hp hp2 hk => ?_)
          by_cases e : p < 64 * j
          · exact h0 p e hp2 hk
          · exact hnew p (by omega) (by omega) hp2 hk
        refine ⟨fun h => ?_, fun h => ?_⟩
        · have hne : ¬ anN (j ^^^ (pat / 64)) (fr / 64) = 0 := fun q => h (by rw [q]; rfl)
          refine ⟨fun _ => next (fun p hp1 hp2 hp3 hk => ?_), fun h => absurd rfl h⟩
          exfalso
          apply hne
          rw [anN_0]
          intro k hk0
          rw [show (64 : Nat) = 2 ^ 6 from rfl, Nat.testBit_div_two_pow] at hk0
          rw [Nat.testBit_xor, show (64 : Nat) = 2 ^ 6 from rfl, Nat.testBit_div_two_pow]
          have hpj : j = p / 64 := by omega
          rw [hpj, show (64 : Nat) = 2 ^ 6 from rfl, Nat.testBit_div_two_pow]
          by_cases hkS : k + 6 < I + F
          · rw [hk _ hkS hk0, Bool.xor_self]
          · have hpow : (2 : Nat) ^ (I + F) ≤ 2 ^ (k + 6) := Nat.pow_le_pow_right (by decide) (by omega)
            rw [Nat.testBit_lt_two_pow (show p < 2 ^ (k + 6) by omega), Nat.testBit_lt_two_pow (show pat < 2 ^ (k + 6) by omega)]
            rfl
        · have hz := anN_0.mp ((nI_is0 (by omega)).mp h)
          refine ⟨fun h => absurd h (by decide), fun _ => ?_⟩
          rw [fw16, nI_clamp (show 16 * f + j < 2 ^ 31 by omega)]
          have hsh := hh f hf j (by omega)
          have agree : ∀ b, b < 64 → lane within b = true → 64 * j + b < 2 ^ (I + F) ∧ ∀ k, k < I + F → fr.testBit k = false → (64 * j + b).testBit k = pat.testBit k := by
            intro b hb hl
            rw [hin b hb, hmask b hb, decide_eq_true_iff] at hl
            refine ⟨?_, fun k hk hk0 => ?_⟩
            · by_cases h6 : 6 ≤ I + F
              · have := w4 h6; omega
              · have e1 : wN (I + F) = 1 := by unfold wN; rw [if_neg (by omega)]
                rcases hl.1 with q | q <;> omega
            · rw [patBit hb]
              by_cases h6 : k < 6
              · rw [if_pos h6]; exact hl.2 k h6 ⟨hk, hk0⟩
              · rw [if_neg h6]
                have h7 := hz (k - 6) (by rw [show (64 : Nat) = 2 ^ 6 from rfl, Nat.testBit_div_two_pow, show k - 6 + 6 = k by omega]; exact hk0)
                rw [Nat.testBit_xor, show (64 : Nat) = 2 ^ 6 from rfl, Nat.testBit_div_two_pow, show k - 6 + 6 = k by omega] at h7
                revert h7
                cases j.testBit (k - 6) <;> cases pat.testBit k <;> simp
          refine ⟨vp_in_nI (by omega) (by omega), fun hz0 => next (fun p hp1 hp2 hp3 hk => ?_), fun hnz => ?_⟩
          · have hz1 := (lg_cmp_eq _ _).mp hz0
            obtain ⟨b, hb⟩ : ∃ b, p = 64 * j + b := ⟨p - 64 * j, by omega⟩
            have hb64 : b < 64 := by omega
            have hl : lane within b = true := by
              rw [hin b hb64, hmask b hb64, decide_eq_true_iff]
              refine ⟨?_, fun k h6 ⟨hkS, hk0⟩ => ?_⟩
              · by_cases h6 : 6 ≤ I + F
                · exact Or.inr h6
                · exact Or.inl (by omega)
              · have := hk k hkS hk0
                rw [hb, patBit hb64, if_pos h6] at this
                exact this
            have h8 : lane (within &&& (showing (16 * f + j) ^^^ (-1 : Int64))) b = false := by rw [hz1, lane_0]
            rw [lane_and, hl, lane_not _ hb64, Bool.true_and, hsh b hb64, ← hb, decide_eq_true hp3, Bool.and_true] at h8
            revert h8
            cases T f p <;> simp
          · have hne : ¬ (within &&& (showing (16 * f + j) ^^^ (-1 : Int64))) = 0 := fun q => hnz ((lg_cmp_eq _ _).mpr q)
            have hex : ∃ b, b < 64 ∧ lane (within &&& (showing (16 * f + j) ^^^ (-1 : Int64))) b = true := Classical.byContradiction (fun q => hne (lane_ext (fun p hp => by
              rw [lane_0]
              cases hl : lane (within &&& (showing (16 * f + j) ^^^ (-1 : Int64))) p
              · rfl
              · exact absurd ⟨p, hp, hl⟩ q)))
            obtain ⟨b, hb, hl⟩ := hex
            rw [lane_and, lane_not _ hb, Bool.and_eq_true] at hl
            obtain ⟨a1, a2⟩ := agree b hb hl.1
            have h9 := hl.2
            rw [hsh b hb, decide_eq_true a1, Bool.and_true] at h9
            rw [swN, decide_eq_false] at hQ
            · exact hQ
            · intro q
              rw [q _ a1 a2] at h9
              cases h9
  -- the lanes
  have loop9 : ∀ (d j : Nat) (within : Int64), j ≤ 6 → 6 < j + d → (∀ b, b < 64 → (lane within b = true ↔ (lane mask b = true ∧ ∀ k, k < j → (k < I + F ∧ fr.testBit k = false) → b.testBit k = pat.testBit k))) →
      v_X1_showsWith_b9 (nI (wN (I + F))) mask (nI I) (nI F) showing Q d (nI f) (nI pat) (nI fr) within (nI j) := by
    intro d
    induction d with
    | zero => intro j within h1 h2; omega
    | succ d ih =>
      intro j within h1 h2 hin
      have done : (6 ≤ j ∨ I + F ≤ j) → v_X1_showsWith_b76 (nI (wN (I + F))) mask (nI I) (nI F) showing Q (nI f) (nI pat) (nI fr) within := fun h => ⟨wN (I + F) + 1, loop79 within (fun b hb => by
        rw [hin b hb]
        refine and_congr Iff.rfl ?_
        exact ⟨fun q k h6 hk => q k (by have := hk.1; omega) hk, fun q k hj hk => q k (by omega) hk⟩) _ 0 (by omega) (by omega) (fun p hp => by omega)⟩
      by_cases h6 : 6 ≤ j
      · exact br_t (nI_le h6 (by omega)) (done (Or.inl h6))
      · refine br_f (nI_ge (b := 6) (by omega) (by decide)) (ok_sources ?_)
        by_cases hj : I + F ≤ j
        · exact br_t (nI_le hj (by omega)) (done (Or.inr hj))
        · refine br_f (nI_ge (by omega) (by omega)) ?_
          rw [bitOf (by omega) (by omega), bitOf (by omega) (by omega)]
          have next : ∀ within2 : Int64, (∀ b, b < 64 → (lane within2 b = true ↔ (lane within b = true ∧ (fr.testBit j = false → b.testBit j = pat.testBit j)))) → v_X1_showsWith_b70 (nI (wN (I + F))) mask (nI I) (nI F) showing Q (v_X1_showsWith_b9 (nI (wN (I + F))) mask (nI I) (nI F) showing Q d) (nI f) (nI pat) (nI fr) within2 (nI j) := by
            intro within2 hw2 v1 e1
            rw [e1, nI_1]
            refine ih (j + 1) within2 (by omega) (by omega) (fun b hb => ?_)
            rw [hw2 b hb, hin b hb, and_assoc]
            refine and_congr Iff.rfl ?_
            constructor
            · intro q k hk
              by_cases e : k = j
              · subst e; exact fun h => q.2 h.2
              · exact q.1 k (by omega)
            · intro q
              exact ⟨fun k hk => q k (by omega), fun h => q j (by omega) ⟨by omega, h⟩⟩
          have z1 : (nI true.toNat = (0 : Int32)) ↔ False := by decide
          have z0 : (nI false.toNat = (0 : Int32)) ↔ True := by decide
          cases hfj : fr.testBit j with
          | true =>
            refine ⟨fun _ => next within (fun b hb => ?_), fun q => absurd q (fun q => z1.mp q)⟩
            simp [hfj]
          | false =>
            refine ⟨fun q => absurd (z0.mpr trivial) q, fun _ => ?_⟩
            cases hpj : pat.testBit j with
            | false =>
              refine br_t (z0.mpr trivial) ⟨vp_in_nI (by omega) (by omega), ?_⟩
              intro v2 e2
              refine next v2 (fun b hb => ?_)
              rw [e2, lane_and, lane_not _ hb, nI_clamp (show j < 2 ^ 31 by omega), colLane j (by omega) b hb]
              cases b.testBit j <;> simp [hfj, hpj]
            | true =>
              refine br_f (fun q => z1.mp q) ⟨vp_in_nI (by omega) (by omega), ?_⟩
              intro v2 e2
              refine next v2 (fun b hb => ?_)
              rw [e2, lane_and, nI_clamp (show j < 2 ^ 31 by omega), colLane j (by omega) b hb]
              cases b.testBit j <;> simp [hfj, hpj]
  exact ⟨7, loop9 7 0 mask (by omega) (by omega) (fun b hb => by simp)⟩
/-- the free sources: the first k are tried -/
def frN (S : Nat) (T : Nat → Bool) (pat : Nat) : Nat → Nat
  | 0 => 0
  | k + 1 => if swN S T pat (frN S T pat k + 2 ^ k) then frN S T pat k + 2 ^ k else frN S T pat k
theorem frN_lt {S : Nat} {T : Nat → Bool} {pat : Nat} : ∀ k, frN S T pat k < 2 ^ k
  | 0 => Nat.zero_lt_one
  | k + 1 => by
    have h := frN_lt (S := S) (T := T) (pat := pat) k
    rw [frN, Nat.pow_succ]
    cases swN S T pat (frN S T pat k + 2 ^ k)
    · show frN S T pat k < _; omega
    · show frN S T pat k + 2 ^ k < _; omega
theorem ok_freeSources {I F N : Nat} {T : Nat → Nat → Bool} {showing : Nat → Int64} {mask : Int64} {Q : Int32 → Prop} {f pat : Nat} (hS : I + F ≤ 10) (hN : N ≤ 60) (hh : sHolds (I + F) N T showing) (hmask : maskOk (I + F) mask) (hf : f < 2 * N) (hpat : findI (T f) (2 ^ (I + F)) = some pat) (hQ : Q (nI (frN (I + F) (T f) pat (I + F)))) : v_X1_freeSources (nI (wN (I + F))) mask (nI I) (nI F) showing (nI f) Q := by
  obtain ⟨w1, w2, w3, w4⟩ := wN_le hS
  have h10 : (2 : Nat) ^ (I + F) ≤ 2 ^ 10 := Nat.pow_le_pow_right (by decide) hS
  have hp := (findI_of _ hpat).1
  refine ok_leastPattern hS hN hh hf ?_
  rw [hpat]
  have loop : ∀ (d j : Nat), j ≤ I + F → I + F < j + d → v_X1_freeSources_b11 (nI (wN (I + F))) mask (nI I) (nI F) showing Q d (nI f) (nI pat) (nI (frN (I + F) (T f) pat j)) (nI j) := by
    intro d
    induction d with
    | zero => intro j h1 h2; omega
    | succ d ih =>
      intro j h1 h2
      rw [v_X1_freeSources_b11]
      refine ok_sources ?_
      by_cases hj : I + F ≤ j
      · have : j = I + F := by omega
        subst this
        exact br_t (nI_le hj (by omega)) hQ
      · refine br_f (nI_ge (by omega) (by omega)) ?_
        have hfl := frN_lt (S := I + F) (T := T f) (pat := pat) j
        have e1 : nI (frN (I + F) (T f) pat j) ||| ((1 : Int32) <<< (nI j &&& 31)) = nI (frN (I + F) (T f) pat j + 2 ^ j) := by
          have := orBit (b := 1) hfl (by decide) (show j < 31 by omega)
          rw [Nat.one_mul] at this
          exact this
        rw [e1]
        have hpw : (2 : Nat) ^ (j + 1) ≤ 2 ^ (I + F) := Nat.pow_le_pow_right (by decide) (by omega)
        rw [Nat.pow_succ] at hpw
        refine ok_showsWith hS hN hh hmask hf hp (by omega) ?_
        have next : ∀ x : Nat, x = frN (I + F) (T f) pat (j + 1) → v_X1_freeSources_b45 (nI (wN (I + F))) mask (nI I) (nI F) showing Q (v_X1_freeSources_b11 (nI (wN (I + F))) mask (nI I) (nI F) showing Q d) (nI f) (nI pat) (nI x) (nI j) := by
          intro x ex v1 e1
          rw [e1, nI_1, ex]
          exact ih (j + 1) (by omega) (by omega)
        cases hs : swN (I + F) (T f) pat (frN (I + F) (T f) pat j + 2 ^ j) with
        | false => exact br_t (by decide) (next _ (by rw [frN, hs]; rfl))
        | true =>
          refine br_f (by decide) ?_
          intro v4 e4
          rw [e4]
          exact next _ (by rw [frN, hs]; rfl)
  exact ⟨I + F + 1, loop (I + F + 1) 0 (by omega) (by omega)⟩
