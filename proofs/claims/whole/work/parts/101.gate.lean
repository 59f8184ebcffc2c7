/-! A GATE: the class's 64 lanes -/
set_option maxHeartbeats 1000000 in
theorem ok_gate_loop {oper looked lcount : Nat → Int32} {val : Nat → Int64} {Q : Int64 → Prop} {n op cnt : Nat} {a : Nat → Nat} (hn : n < 60) (hop : op < 7) (hc : lcount n = nI cnt) (hc4 : cnt ≤ 4) (ha : ∀ i, i < cnt → looked (4 * n + i) = nI (a i) ∧ a i < 60)
    (hQ : ∀ v, (∀ p, p < 64 → lane v p = gval op cnt (fun i => lane (val (a i)) p)) → Q v) :
    ∀ (f k : Nat) (acc : Int64), k + 1 ≤ cnt → cnt < k + 1 + f → (∀ p, p < 64 → lane acc p = gsum op (fun i => lane (val (a i)) p) k) → v_X2_gate_b71 oper looked val lcount Q f (nI n) (nI op) (nI (4 * n)) acc (nI (k + 1)) := by
  intro f
  induction f with
  | zero => intro k acc h2 h3; omega
  | succ f ih =>
    intro k acc h2 h3 hacc
    refine ⟨vp_in_nI hn (by omega), ?_⟩
    rw [nI_clamp (show n < 2 ^ 31 by omega), hc]
    by_cases hj : cnt ≤ k + 1
    · have hj' : cnt = k + 1 := by omega
      have neg : (op = 3 ∨ op = 4 ∨ op = 5) → Q (acc ^^^ (-1)) := fun h => hQ _ (fun p hp => by
        rw [lane_not _ hp, hacc p hp, gval, if_neg (by omega), if_pos h, hj', Nat.add_sub_cancel])
      have pos : ¬ (op = 3 ∨ op = 4 ∨ op = 5) → Q acc := fun h => hQ _ (fun p hp => by
        rw [hacc p hp, gval, if_neg (by omega), if_neg h, hj', Nat.add_sub_cancel])
      have is5 := nI_is (a := op) (b := 5) (x := 5) rfl (by omega) (by omega)
      have is3 := nI_is (a := op) (b := 3) (x := 3) rfl (by omega) (by omega)
      have is4 := nI_is (a := op) (b := 4) (x := 4) rfl (by omega) (by omega)
      refine br_t (nI_le hj (by omega)) ⟨fun h => neg (by have := is5.mp h; omega), fun h5 => ⟨fun h => neg (by have := is3.mp h; omega), fun h3' => ⟨fun h4 => pos ?_, fun h => neg (by have := is4.mp h; omega)⟩⟩⟩
      intro h
      rcases h with h | h | h
      · exact h3' (is3.mpr h)
      · exact h4 (is4.mpr h)
      · exact h5 (is5.mpr h)
    · obtain ⟨ea, hab⟩ := ha (k + 1) (by omega)
      refine br_f (nI_ge (by omega) (by omega)) ?_
      rw [nI_add, nI_clamp (show 4 * n + (k + 1) < 2 ^ 31 by omega), ea, nI_clamp (show a (k + 1) < 2 ^ 31 by omega)]
      refine ⟨vp_in_nI (by omega) (by omega), vp_in_nI hab (by omega), ?_⟩
      intro v4 e4
      have step : ∀ acc' : Int64, (∀ p, p < 64 → lane acc' p = gop op (lane acc p) (lane v4 p)) → v_X2_gate_b155 oper looked val lcount Q (v_X2_gate_b71 oper looked val lcount Q f) (nI n) (nI op) (nI (4 * n)) acc' (nI (k + 1)) := by
        intro acc' h v1 e1
        rw [e1, nI_1]
        exact ih (k + 1) acc' (by omega) (by omega) (fun p hp => by rw [h p hp, hacc p hp, e4]; rfl)
      have is0 := nI_is (a := op) (b := 0) (x := 0) rfl (by omega) (by omega)
      have is1 := nI_is (a := op) (b := 1) (x := 1) rfl (by omega) (by omega)
      have is2 := nI_is (a := op) (b := 2) (x := 2) rfl (by omega) (by omega)
      have is3 := nI_is (a := op) (b := 3) (x := 3) rfl (by omega) (by omega)
      refine ⟨fun h => ?_, fun h0 => ⟨fun h => ?_, fun h1 => ⟨fun h => ?_, fun h2' => ⟨fun h => ?_, fun h3' => ?_⟩⟩⟩⟩
      · intro v e; exact step v (fun p hp => by rw [e, lane_and, gop, if_pos (Or.inl (is0.mp h))])
      · intro v e; exact step v (fun p hp => by rw [e, lane_or, gop, if_neg (by have := is1.mp h; omega), if_neg (by have := is1.mp h; omega)])
      · intro v e; exact step v (fun p hp => by rw [e, lane_xor, gop, if_neg (by have := is2.mp h; omega), if_pos (is2.mp h)])
      · intro v e; exact step v (fun p hp => by rw [e, lane_and, gop, if_pos (Or.inr (is3.mp h))])
      · intro v e
        have n0 : ¬ op = 0 := fun q => h0 (is0.mpr q)
        have n2 : ¬ op = 2 := fun q => h2' (is2.mpr q)
        have n3 : ¬ op = 3 := fun q => h3' (is3.mpr q)
        exact step v (fun p hp => by rw [e, lane_or, gop, if_neg (by omega), if_neg n2])
/-- Circuit.gate: in each lane the gate's value -/
theorem ok_gate {oper looked lcount : Nat → Int32} {val : Nat → Int64} {Q : Int64 → Prop} {n op cnt : Nat} {a : Nat → Nat} (hn : n < 60) (hop : op < 8) (ho : oper n = nI op) (hc : lcount n = nI cnt) (hc1 : 1 ≤ cnt) (hc4 : cnt ≤ 4) (hm : op = 7 → cnt = 3) (ha : ∀ i, i < cnt → looked (4 * n + i) = nI (a i) ∧ a i < 60)
    (hQ : ∀ v, (∀ p, p < 64 → lane v p = gval op cnt (fun i => lane (val (a i)) p)) → Q v) : v_X2_gate oper looked val lcount (nI n) Q := by
  refine ⟨vp_in_nI hn (by omega), ?_⟩
  rw [nI_clamp (show n < 2 ^ 31 by omega), ho, nI_mul4]
  intro v6 e6 v7 e7
  subst e6
  subst e7
  obtain ⟨e0, h0⟩ := ha 0 (by omega)
  rw [Nat.add_zero] at e0
  rw [nI_clamp (show 4 * n < 2 ^ 31 by omega), e0, nI_clamp (show a 0 < 2 ^ 31 by omega)]
  refine ⟨vp_in_nI (by omega) (by omega), vp_in_nI h0 (by omega), ?_⟩
  intro v8 e8
  have is7 := nI_is (a := op) (b := 7) (x := 7) rfl (by omega) (by omega)
  refine ⟨fun h => ⟨cnt + 1, ?_⟩, fun h => ?_⟩
  · have n7 : ¬ op = 7 := fun q => h (is7.mpr q)
    exact ok_gate_loop hn (by omega) hc hc4 ha hQ (cnt + 1) 0 v8 (by omega) (by omega) (fun p hp => by rw [e8]; rfl)
  · have q7 := is7.mp h
    have q3 := hm q7
    obtain ⟨e1, h1⟩ := ha 1 (by omega)
    obtain ⟨e2, h2⟩ := ha 2 (by omega)
    rw [show (1 : Int32) = nI 1 from rfl, show (2 : Int32) = nI 2 from rfl, nI_add, nI_add, nI_clamp (show 4 * n + 1 < 2 ^ 31 by omega), nI_clamp (show 4 * n + 2 < 2 ^ 31 by omega), e1, e2, nI_clamp (show a 1 < 2 ^ 31 by omega), nI_clamp (show a 2 < 2 ^ 31 by omega)]
    refine ⟨vp_in_nI (by omega) (by omega), vp_in_nI h1 (by omega), vp_in_nI (by omega) (by omega), vp_in_nI h2 (by omega), hQ _ (fun p hp => ?_)⟩
    rw [lane_or, lane_and, lane_and, lane_not _ hp, e8, gval, if_pos q7]
    cases lane (val (a 0)) p <;> simp
