/-! THE REFERENCE: gateValue, settle, answerOf -/
abbrev bI (b : Bool) : Int32 := nI b.toNat
theorem bI_and (a b : Bool) : bI a &&& bI b = bI (a && b) := by cases a <;> cases b <;> decide
theorem bI_or (a b : Bool) : bI a ||| bI b = bI (a || b) := by cases a <;> cases b <;> decide
theorem bI_xor (a b : Bool) : bI a ^^^ bI b = bI (a ^^ b) := by cases a <;> cases b <;> decide
theorem bI_not (a : Bool) : (1 : Int32) - bI a = bI (!a) := by cases a <;> decide
set_option maxHeartbeats 1000000 in
theorem ok_mgate_loop {taken mop takes value : Nat → Int32} {Q : Int32 → Prop} {n op cnt : Nat} {a : Nat → Nat} {x : Nat → Bool} (hn : n < 60) (hop : op < 5) (ho : mop n = nI op) (hc : takes n = nI cnt) (hc4 : cnt ≤ 4) (ha : ∀ i, i < cnt → taken (4 * n + i) = nI (a i) ∧ a i < 60) (hv : ∀ i, i < cnt → value (a i) = bI (x i))
    (hQ : Q (bI (gval op cnt x))) :
    ∀ (f k : Nat), k + 1 ≤ cnt → cnt < k + 1 + f → v_X6_gateValue_b75 taken value mop takes Q f (nI n) (bI (gsum op x k)) (nI (k + 1)) := by
  intro f
  induction f with
  | zero => intro k h2 h3; omega
  | succ f ih =>
    intro k h2 h3
    have is3 := nI_is (a := op) (b := 3) (x := 3) rfl (by omega) (by omega)
    have is4 := nI_is (a := op) (b := 4) (x := 4) rfl (by omega) (by omega)
    have is0 := nI_is (a := op) (b := 0) (x := 0) rfl (by omega) (by omega)
    have is2 := nI_is (a := op) (b := 2) (x := 2) rfl (by omega) (by omega)
    have hin : vp_in (nI n) 60 := vp_in_nI hn (by omega)
    refine ⟨hin, ?_⟩
    rw [nI_clamp (show n < 2 ^ 31 by omega), hc, ho]
    by_cases hj : cnt ≤ k + 1
    · have hj' : cnt = k + 1 := by omega
      have neg : (op = 3 ∨ op = 4) → Q ((1 : Int32) - bI (gsum op x k)) := fun h => by
        rw [bI_not]
        rw [gval, if_neg (by omega), if_pos (by omega), hj', Nat.add_sub_cancel] at hQ
        exact hQ
      have pos : ¬ (op = 3 ∨ op = 4) → Q (bI (gsum op x k)) := fun h => by
        rw [gval, if_neg (by omega), if_neg (by omega), hj', Nat.add_sub_cancel] at hQ
        exact hQ
      refine br_t (nI_le hj (by omega)) ⟨hin, fun h => neg (Or.inl (is3.mp h)), fun h3' => ⟨hin, fun h4 => pos ?_, fun h => neg (Or.inr (is4.mp h))⟩⟩
      intro h
      rcases h with h | h
      · exact h3' (is3.mpr h)
      · exact h4 (is4.mpr h)
    · obtain ⟨ea, hab⟩ := ha (k + 1) (by omega)
      refine br_f (nI_ge (by omega) (by omega)) ?_
      rw [four_mul_nI, nI_add, nI_clamp (show 4 * n + (k + 1) < 2 ^ 31 by omega), ea, nI_clamp (show a (k + 1) < 2 ^ 31 by omega), hv (k + 1) (by omega)]
      refine ⟨vp_in_nI (by omega) (by omega), vp_in_nI hab (by omega), ?_⟩
      intro v2 e2
      subst e2
      have step : ∀ s0 : Int32, s0 = bI (gsum op x (k + 1)) → v_X6_gateValue_b151 taken value mop takes Q (v_X6_gateValue_b75 taken value mop takes Q f) (nI n) (nI (k + 1)) s0 := by
        intro s0 e0 v1 e1
        rw [e1, nI_1, e0]
        exact ih (k + 1) (by omega) (by omega)
      refine ⟨hin, fun h => step _ ?_, fun h0 => ⟨hin, fun h3' => ⟨hin, fun h2' => step _ ?_, fun h => step _ ?_⟩, fun h => step _ ?_⟩⟩
      · rw [bI_and, gsum, gop, if_pos (Or.inl (is0.mp h))]
      · have n0 : ¬ op = 0 := fun q => h0 (is0.mpr q)
        have n3 : ¬ op = 3 := fun q => h3' (is3.mpr q)
        have n2 : ¬ op = 2 := fun q => h2' (is2.mpr q)
        rw [bI_or, gsum, gop, if_neg (by omega), if_neg n2]
      · rw [bI_xor, gsum, gop, if_neg (by have := is2.mp h; omega), if_pos (is2.mp h)]
      · rw [bI_and, gsum, gop, if_pos (Or.inr (is3.mp h))]
set_option maxHeartbeats 1000000 in
/-- gateValue -/
theorem ok_mgate {taken mop takes value : Nat → Int32} {Q : Int32 → Prop} {n op cnt : Nat} {a : Nat → Nat} {x : Nat → Bool} (hn : n < 60) (hop : op < 8) (ho : mop n = nI op) (hc : takes n = nI cnt) (hc1 : 1 ≤ cnt) (hc4 : cnt ≤ 4) (hm : op = 7 → cnt = 3) (h56 : op = 5 ∨ op = 6 → cnt = 1) (ha : ∀ i, i < cnt → taken (4 * n + i) = nI (a i) ∧ a i < 60) (hv : ∀ i, i < cnt → value (a i) = bI (x i))
    (hQ : Q (bI (gval op cnt x))) : v_X6_gateValue taken value mop takes (nI n) Q := by
  obtain ⟨e0, h0⟩ := ha 0 (by omega)
  rw [Nat.add_zero] at e0
  have is5 := nI_is (a := op) (b := 5) (x := 5) rfl (by omega) (by omega)
  have is6 := nI_is (a := op) (b := 6) (x := 6) rfl (by omega) (by omega)
  have is7 := nI_is (a := op) (b := 7) (x := 7) rfl (by omega) (by omega)
  have hin : vp_in (nI n) 60 := vp_in_nI hn (by omega)
  unfold v_X6_gateValue
  rw [four_mul_nI, nI_clamp (show 4 * n < 2 ^ 31 by omega), e0, nI_clamp (show a 0 < 2 ^ 31 by omega), hv 0 (by omega)]
  refine ⟨vp_in_nI (by omega) (by omega), vp_in_nI h0 (by omega), ?_⟩
  intro v3 e3
  subst e3
  rw [nI_clamp (show n < 2 ^ 31 by omega), ho]
  refine ⟨hin, fun h5 => ⟨hin, fun h6 => ⟨hin, fun h7 => ⟨cnt + 1, ?_⟩, fun h => ?_⟩, fun h => ?_⟩, fun h => ?_⟩
  · have n5 : ¬ op = 5 := fun q => h5 (is5.mpr q)
    have n6 : ¬ op = 6 := fun q => h6 (is6.mpr q)
    have n7 : ¬ op = 7 := fun q => h7 (is7.mpr q)
    exact ok_mgate_loop hn (by omega) ho hc hc4 ha hv hQ (cnt + 1) 0 (by omega) (by omega)
  · have q7 := is7.mp h
    have q3 := hm q7
    rw [gval, if_pos q7] at hQ
    obtain ⟨e1, h1⟩ := ha 1 (by omega)
    obtain ⟨e2, h2⟩ := ha 2 (by omega)
    cases hx : x 0 with
    | true =>
      rw [hx, if_pos rfl, ← hv 2 (by omega)] at hQ
      rw [show nI (4 * n) + (1 : Int32) + bI true = nI (4 * n + 2) by rw [show (1 : Int32) = nI 1 from rfl, show bI true = nI 1 from rfl, nI_add, nI_add], nI_clamp (show 4 * n + 2 < 2 ^ 31 by omega), e2, nI_clamp (show a 2 < 2 ^ 31 by omega)]
      exact ⟨vp_in_nI (by omega) (by omega), vp_in_nI h2 (by omega), hQ⟩
    | false =>
      rw [hx, if_neg (by decide), ← hv 1 (by omega)] at hQ
      rw [show nI (4 * n) + (1 : Int32) + bI false = nI (4 * n + 1) by rw [show (1 : Int32) = nI 1 from rfl, show bI false = nI 0 from rfl, nI_add, nI_add], nI_clamp (show 4 * n + 1 < 2 ^ 31 by omega), e1, nI_clamp (show a 1 < 2 ^ 31 by omega)]
      exact ⟨vp_in_nI (by omega) (by omega), vp_in_nI h1 (by omega), hQ⟩
  · have q6 := is6.mp h
    have q1 := h56 (Or.inr q6)
    rw [gval, if_neg (by omega), if_neg (by omega), q1] at hQ
    exact hQ
  · have q5 := is5.mp h
    have q1 := h56 (Or.inl q5)
    rw [gval, if_neg (by omega), if_pos (by omega), q1] at hQ
    rw [bI_not]
    exact hQ
/-- how the reference's arrays hold a circuit -/
def mHolds (S N : Nat) (op cnt : Nat → Nat) (a : Nat → Nat → Nat) (mop taken takes : Nat → Int32) : Prop := (∀ k, k < S → mop k = -1) ∧ ∀ k, S ≤ k → k < N → mop k = nI (op k) ∧ takes k = nI (cnt k) ∧ ∀ i, i < cnt k → taken (4 * k + i) = nI (a k i)
theorem div2 {f : Nat} (h : f < 2 ^ 31) : nI f / (2 : Int32) = nI (f / 2) := pk_div h (d := 2) (by decide) (by decide)
theorem rem2 {f : Nat} (h : f < 2 ^ 31) : nI f - nI f / (2 : Int32) * (2 : Int32) = nI (f % 2) := pk_rem h (d := 2) (by decide) (by decide)
set_option maxHeartbeats 1000000 in
theorem ok_msettle {S N : Nat} {op cnt : Nat → Nat} {a : Nat → Nat → Nat} {mop taken takes value : Nat → Int32} {Q : (Nat → Int32) → Prop} {o : Option Nat} {pat : Nat} (hN : N ≤ 60) (hS : S ≤ N) (hS2 : S ≤ 10) (hg : gates S N op cnt a) (hh : mHolds S N op cnt a mop taken takes) (ho : ∀ f, o = some f → f < 2 * N) (hp : pat < 2 ^ 31)
    (hQ : ∀ val : Nat → Int32, (∀ k, k < N → val k = bI (nv S op cnt a o (fun k => pat.testBit k) k)) → Q val) :
    v_X6_settle (nI N) mop taken value takes (nI pat) (sti o) Q := by
  have loop : ∀ (d j : Nat) (val : Nat → Int32), j ≤ N → N < j + d → (∀ k, k < j → val k = bI (nv S op cnt a o (fun k => pat.testBit k) k)) → v_X6_settle_b2 (nI N) mop taken takes Q d val (nI pat) (sti o) (nI j) := by
    intro d
    induction d with
    | zero => intro j val h1 h2; omega
    | succ d ih =>
      intro j val h1 h2 hlo
      by_cases hj : N ≤ j
      · exact br_t (nI_le hj (by omega)) (hQ val (fun k hk => hlo k (by omega)))
      · refine br_f (nI_ge (by omega) (by omega)) ⟨vp_in_nI (by omega) (by omega), ?_⟩
        have put : ∀ s0 : Int32, s0 = bI (nv S op cnt a o (fun k => pat.testBit k) j) → v_X6_settle_b59 (nI N) mop taken takes Q (v_X6_settle_b2 (nI N) mop taken takes Q d) val (nI pat) (sti o) (nI j) s0 (nI j) := by
          intro s0 e0
          refine ⟨vp_in_nI (by omega) (by omega), ?_⟩
          intro v1 e1
          rw [e1, nI_1, nI_clamp (show j < 2 ^ 31 by omega)]
          refine ih (j + 1) _ (by omega) (by omega) (fun k hk => ?_)
          by_cases e : k = j
          · subst e; rw [pk_us, e0]
          · rw [pk_un e]; exact hlo k (by omega)
        have stuck : ∀ w : Bool, nv S op cnt a o (fun k => pat.testBit k) j = stv o j w → v_X6_settle_b33 (nI N) mop taken takes Q (v_X6_settle_b2 (nI N) mop taken takes Q d) val (nI pat) (sti o) (nI j) (bI w) := by
          intro w hw
          cases o with
          | none => exact br_t (by decide) (put _ (by rw [hw]; rfl))
          | some f =>
            have hf := ho f rfl
            refine br_f (nI_pos (by omega)) ⟨by decide, ?_⟩
            rw [show sti (some f) = nI f from rfl, div2 (by omega)]
            refine ⟨fun h => put _ ?_, fun h => ⟨by decide, put _ ?_⟩⟩
            · have hjf : ¬ j = f / 2 := fun q => h (by rw [q])
              rw [hw, stv, if_neg hjf]
            · have hjf : j = f / 2 := ((nI_eq (by omega) (by omega)).mp h).symm
              have hr := rem2 (f := f) (by omega)
              rw [div2 (by omega)] at hr
              rw [hr, hw, stv, if_pos hjf]
              rcases (show f % 2 = 0 ∨ f % 2 = 1 by omega) with q | q <;> rw [q] <;> rfl
        rw [nI_clamp (show j < 2 ^ 31 by omega)]
        by_cases hs : j < S
        · rw [hh.1 j hs]
          refine ⟨fun h => absurd rfl h, fun _ => ?_⟩
          rw [bitOf hp (by omega)]
          exact stuck _ (nv_src hs)
        · obtain ⟨g1, g2, g3, g4, g5, g6⟩ := hg j (by omega) (by omega)
          obtain ⟨e1, e2, e3⟩ := hh.2 j (by omega) (by omega)
          refine ⟨fun _ => ?_, fun h => absurd (e1.symm.trans h) (sti_ne (n := op j) (by omega))⟩
          exact ok_mgate (a := a j) (x := fun i => nv S op cnt a o (fun k => pat.testBit k) (a j i)) (by omega) g1 e1 e2 g2 g3 g4 g5 (fun i hi => ⟨e3 i hi, by have := g6 i hi; omega⟩) (fun i hi => hlo _ (g6 i hi)) (stuck _ (nv_gate hg (by omega) (by omega)))
  exact ⟨N + 1, loop (N + 1) 0 value (by omega) (by omega) (fun k hk => by omega)⟩
set_option maxHeartbeats 1000000 in
/-- answerOf -/
theorem ok_answerOf {I F N O : Nat} {op cnt : Nat → Nat} {a : Nat → Nat → Nat} {out : Nat → Nat} {nxt : Nat → Option Nat} {mop taken takes value output next : Nat → Int32} {Q : Int32 → (Nat → Int32) → Prop} {o : Option Nat} {pat : Nat} (hN : N ≤ 60) (hS : I + F ≤ N) (hS2 : I + F ≤ 10) (hO : O ≤ 8) (hg : gates (I + F) N op cnt a) (hh : mHolds (I + F) N op cnt a mop taken takes) (ho : ∀ f, o = some f → f < 2 * N) (hoh : oHolds F N O out nxt output next) (hp : pat < 2 ^ 31)
    (hQ : ∀ val : Nat → Int32, Q (nI (accN (abit I O out nxt (nv (I + F) op cnt a o (fun k => pat.testBit k)) pat) (O + F))) val) :
    v_X6_answerOf (nI N) (nI I) (nI F) (nI O) mop taken value takes next output (nI pat) (sti o) Q := by
  have loop47 : ∀ (val : Nat → Int32), (∀ k, k < N → val k = bI (nv (I + F) op cnt a o (fun k => pat.testBit k) k)) → ∀ (d j : Nat), j ≤ F → F < j + d →
      v_X6_answerOf_b47 (nI N) (nI I) (nI F) (nI O) mop taken takes next output Q d val (nI pat) (nI (accN (abit I O out nxt (nv (I + F) op cnt a o (fun k => pat.testBit k)) pat) (O + j))) (nI j) := by
    intro val hv d
    induction d with
    | zero => intro j h1 h2; omega
    | succ d ih =>
      intro j h1 h2
      by_cases hj : F ≤ j
      · have : j = F := by omega
        subst this
        exact br_t (nI_le hj (by omega)) (hQ val)
      · refine br_f (nI_ge (by omega) (by omega)) ?_
        obtain ⟨en, hnn⟩ := hoh.2 j (by omega)
        have fin : ∀ r : Int32, r = bI (abit I O out nxt (nv (I + F) op cnt a o (fun k => pat.testBit k)) pat (O + j)) → v_X6_answerOf_b92 (nI N) (nI I) (nI F) (nI O) mop taken takes next output Q (v_X6_answerOf_b47 (nI N) (nI I) (nI F) (nI O) mop taken takes next output Q d) val (nI pat) (nI (accN (abit I O out nxt (nv (I + F) op cnt a o (fun k => pat.testBit k)) pat) (O + j))) (nI j) r := by
          intro r er v2 e2 v3 e3
          rw [e3, nI_1, e2, er, nI_add, accN_or (by omega)]
          exact ih (j + 1) (by omega) (by omega)
        rw [nI_clamp (show j < 2 ^ 31 by omega), en]
        have hab : abit I O out nxt (nv (I + F) op cnt a o (fun k => pat.testBit k)) pat (O + j) = (match nxt j with | none => pat.testBit (I + j) | some n => nv (I + F) op cnt a o (fun k => pat.testBit k) n) := by
          unfold abit
          rw [if_neg (by omega), Nat.add_sub_cancel_left]
          rfl
        cases hx : nxt j with
        | none =>
          rw [hx] at hab
          refine ⟨vp_in_nI (by omega) (by omega), fun h => absurd h (by decide), fun _ => fin _ ?_⟩
          rw [hab, nI_add, bitOf hp (by omega)]
        | some n =>
          rw [hx] at hab
          have hnN := hnn n hx
          refine ⟨vp_in_nI (by omega) (by omega), fun _ => ⟨vp_in_nI (by omega) (by omega), vp_in_nI (by omega) (by omega), fin _ ?_⟩, fun h => absurd (nI_pos' (n := n) (by omega)) h⟩
          rw [show sti (some n) = nI n from rfl, nI_clamp (by omega), hab, hv n hnN]
  have loop11 : ∀ (val : Nat → Int32), (∀ k, k < N → val k = bI (nv (I + F) op cnt a o (fun k => pat.testBit k) k)) → ∀ (d j : Nat), j ≤ O → O < j + d →
      v_X6_answerOf_b11 (nI N) (nI I) (nI F) (nI O) mop taken takes next output Q d val (nI pat) (nI (accN (abit I O out nxt (nv (I + F) op cnt a o (fun k => pat.testBit k)) pat) j)) (nI j) := by
    intro val hv d
    induction d with
    | zero => intro j h1 h2; omega
    | succ d ih =>
      intro j h1 h2
      by_cases hj : O ≤ j
      · have : j = O := by omega
        subst this
        exact br_t (nI_le hj (by omega)) ⟨F + 1, loop47 val hv (F + 1) 0 (by omega) (by omega)⟩
      · refine br_f (nI_ge (by omega) (by omega)) ?_
        obtain ⟨eo, hoN⟩ := hoh.1 j (by omega)
        rw [nI_clamp (show j < 2 ^ 31 by omega), eo, nI_clamp (show out j < 2 ^ 31 by omega)]
        refine ⟨vp_in_nI (by omega) (by omega), vp_in_nI (by omega) (by omega), ?_⟩
        intro v4 e4 v5 e5
        rw [e5, nI_1, e4, hv _ hoN]
        have hab : abit I O out nxt (nv (I + F) op cnt a o (fun k => pat.testBit k)) pat j = nv (I + F) op cnt a o (fun k => pat.testBit k) (out j) := by
          unfold abit
          rw [if_pos (by omega)]
        rw [← hab, accN_or (by omega)]
        exact ih (j + 1) (by omega) (by omega)
  unfold v_X6_answerOf
  exact ok_msettle hN hS hS2 hg hh ho hp (fun val hv => ⟨O + 1, loop11 val hv (O + 1) 0 (by omega) (by omega)⟩)
