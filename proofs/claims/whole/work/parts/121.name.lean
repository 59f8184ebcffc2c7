/-- a word's bytes in one number -/
def pkN (B : Nat → Nat) (a : Nat) : Nat → Nat
  | 0 => 0
  | i + 1 => pkN B a i * 256 + B (a + i)
/-- what the reference takes a word for -/
def tkN (B : Nat → Nat) (a w : Nat) : Nat := if w ≤ 4 then pkN B a w else 0
theorem At.by {B : Nat → Nat} {n e a w j : Nat} (h : At B n e a w) (hj : j < w) : 48 ≤ B (a + j) ∧ B (a + j) ≤ 122 := by
  have := wb_t.mp (h.2.2.2.2.1 j hj).2
  omega
theorem pkN_lt {B : Nat → Nat} {n e a w : Nat} (h : At B n e a w) : ∀ i, i ≤ w → i ≤ 4 → pkN B a i < 2 ^ 31 := by
  intro i h1 h2
  have b0 : 0 < i → B (a + 0) ≤ 122 := fun q => (h.by (by omega)).2
  have b1 : 1 < i → B (a + 1) ≤ 122 := fun q => (h.by (by omega)).2
  have b2 : 2 < i → B (a + 2) ≤ 122 := fun q => (h.by (by omega)).2
  have b3 : 3 < i → B (a + 3) ≤ 122 := fun q => (h.by (by omega)).2
  have : i = 0 ∨ i = 1 ∨ i = 2 ∨ i = 3 ∨ i = 4 := by omega
  rcases this with q | q | q | q | q <;> subst q <;> simp only [pkN] <;> omega
theorem tkN_lt {B : Nat → Nat} {n e a w : Nat} (h : At B n e a w) : tkN B a w < 2 ^ 31 := by
  unfold tkN
  by_cases hw : w ≤ 4
  · rw [if_pos hw]; exact pkN_lt h w (Nat.le_refl w) hw
  · rw [if_neg hw]; decide
theorem shlOr {v b : Nat} (hv : v * 256 + b < 2 ^ 31) (hb : b < 256) : (nI v <<< ((8 : Int32) &&& 31)) ||| nI b = nI (v * 256 + b) := by
  have hv2 : v * 2 ^ 8 < 2 ^ 32 := Nat.lt_trans (Nat.lt_of_le_of_lt (Nat.le_add_right _ b) hv) (by decide)
  have e : nI v <<< ((8 : Int32) &&& 31) = nI (v * 2 ^ 8) := pk_shlN _ 8 (by decide) hv2
  rw [e, nI_or, Nat.mul_comm, ← Nat.two_pow_add_eq_or_of_lt hb v, Nat.mul_comm]
theorem ok_token {B : Nat → Nat} {T : Nat → Int32} {n e a w : Nat} {Q : Int32 → Int32 → Prop} (ht : tp B T n) (h : At B n e a w) (hQ : Q (nI (tkN B a w)) (nI a)) : v_X6_token (nI n) (nI e) T Q := by
  have h9 := ht.1
  have haw := h.aw
  refine ok_peek ht h (ok_tokenSize ht h ?_)
  have fin : v_X6_token_b49 (nI n) T Q (nI a) (sti (gt B n a)) (nI (tkN B a w)) := by
    by_cases ha : a < n
    · rw [gt_y ha]
      exact br_t (nI_pos' (by have := (ht.2 a).2; omega)) hQ
    · have h0 : w = 0 := by omega
      rw [gt_n (by omega)]
      refine br_f (by decide) ?_
      rw [h0] at hQ
      exact hQ
  by_cases hw : w ≤ 4
  · rw [tkN, if_pos hw] at fin
    have loop : ∀ (d j : Nat), j ≤ w → w < j + d → v_X6_token_b15 (nI n) T Q d (nI a) (sti (gt B n a)) (nI w) (nI (pkN B a j)) (nI j) := by
      intro d
      induction d with
      | zero => intro j h1 h2; omega
      | succ d ih =>
        intro j h1 h2
        rw [v_X6_token_b15]
        dsimp only
        by_cases hj : j = w
        · rw [hj]
          exact br_t (nI_le (Nat.le_refl w) (by omega)) fin
        · refine br_f (nI_ge (by omega) (by omega)) (br_f (nI_nlt (a := 4) hw (by decide)) ?_)
          rw [nI_add]
          refine ok_byteAt ht (by omega) ?_
          rw [gt_y (by omega)]
          refine lt_v (lt_v ?_)
          have h3 := pkN_lt h (j + 1) (by omega) (by omega)
          rw [pkN] at h3
          rw [show sti (some (B (a + j))) = nI (B (a + j)) from rfl, shlOr h3 (ht.2 _).2, nI_1]
          exact ih (j + 1) (by omega) (by omega)
    exact ⟨w + 1, loop (w + 1) 0 (by omega) (by omega)⟩
  · rw [tkN, if_neg hw] at fin
    refine ⟨1, ?_⟩
    rw [v_X6_token_b15]
    dsimp only
    exact br_f (nI_ge (a := 0) (by omega) (by omega)) (br_t (nI_lt (a := 4) (by omega) (by omega)) fin)
theorem ok_isName {B : Nat → Nat} {T : Nat → Int32} {n e a w : Nat} {Q : Int32 → Int32 → Prop} (ht : tp B T n) (h : At B n e a w) (hQ : Q (bI (nmN B a w).isSome) (nI a)) : v_X6_isName (nI n) (nI e) T Q := by
  have h9 := ht.1
  have haw := h.aw
  refine ok_peek ht h (ok_tokenSize ht h ?_)
  have y1 : w = 1 → 97 ≤ B a → Q 1 (nI a) := fun q1 q2 => by rw [nmN, if_pos ⟨q1, q2⟩] at hQ; exact hQ
  have y2 : w = 2 → 97 ≤ B a → B (a + 1) < 97 → Q 1 (nI a) := fun q1 q2 q3 => by rw [nmN, if_neg (by omega), if_pos ⟨q1, q2, q3⟩] at hQ; exact hQ
  have no : ¬ (w = 1 ∧ 97 ≤ B a) → ¬ (w = 2 ∧ 97 ≤ B a ∧ B (a + 1) < 97) → Q 0 (nI a) := fun q1 q2 => by rw [nmN, if_neg q1, if_neg q2] at hQ; exact hQ
  refine ok_isLetter (fun b hb b1 b2 => ?_) (fun hl => ?_) (fun b hb => (gt_lt ht hb).1)
  · obtain ⟨g1, g2, g3⟩ := gt_lt ht hb
    refine br_f (by decide) (pk_eq w 1 (fun e1 => y1 e1 (by omega)) (fun e1 => ?_))
    by_cases e2 : w = 2
    · refine nb_t (by rw [e2]; rfl) ?_
      have g4 := h.2.2.2.2.1 1 (by omega)
      have g5 := wb_t.mp g4.2
      rw [nI_1]
      refine ok_byteAt ht (by omega) ?_
      refine ok_isFigure (fun b' hb' b1' b2' => ?_) (fun hf => ?_) (fun b hb => (gt_lt ht hb).1)
      · obtain ⟨k1, k2, k3⟩ := gt_lt ht hb'
        exact br_f (by decide) (y2 e2 (by omega) (by omega))
      · have := hf _ (gt_y g4.1)
        exact br_t rfl (no (by omega) (by omega))
    · exact nb_f (fun hh => e2 ((nI_eq (b := 2) (by omega) (by decide)).mp hh)) (no (by omega) (by omega))
  · refine br_t rfl (no (fun q => ?_) (fun q => ?_))
    · have g4 := h.2.2.2.2.1 0 (by omega)
      have g5 := h.by (j := 0) (by omega)
      have := hl _ (gt_y g4.1)
      rw [Nat.add_zero] at *
      omega
    · have g4 := h.2.2.2.2.1 0 (by omega)
      have g5 := h.by (j := 0) (by omega)
      have := hl _ (gt_y g4.1)
      rw [Nat.add_zero] at *
      omega
/-- the word of a name's number -/
def tk (x : Nat) : Nat := if x % 11 = 0 then 97 + x / 11 else (97 + x / 11) * 256 + 47 + x % 11
theorem tk_inj {x y : Nat} (hx : x < 286) (hy : y < 286) (h : tk x = tk y) : x = y := by
  unfold tk at h
  by_cases h1 : x % 11 = 0 <;> by_cases h2 : y % 11 = 0 <;> simp only [h1, h2, if_true, if_false] at h <;> omega
theorem tk_lt {x : Nat} (hx : x < 286) : tk x < 2 ^ 31 := by
  unfold tk
  by_cases h1 : x % 11 = 0
  · rw [if_pos h1]; omega
  · rw [if_neg h1]; omega
theorem nmN_some {B : Nat → Nat} {n e a w x : Nat} (h : At B n e a w) (hx : nmN B a w = some x) : x < 286 ∧ tkN B a w = tk x ∧ 1 ≤ w ∧ w ≤ 2 := by
  unfold nmN at hx
  by_cases h1 : w = 1 ∧ 97 ≤ B a
  · rw [if_pos h1] at hx
    have e1 := Option.some.inj hx
    have g := h.by (j := 0) (by omega)
    rw [Nat.add_zero] at g
    refine ⟨by omega, ?_, by omega, by omega⟩
    have e2 : x / 11 = B a - 97 := by omega
    rw [tkN, if_pos (by omega), h1.1, tk, if_pos (by omega), e2]
    simp only [pkN, Nat.add_zero, Nat.zero_mul, Nat.zero_add]
    omega
  · rw [if_neg h1] at hx
    by_cases h2 : w = 2 ∧ 97 ≤ B a ∧ B (a + 1) < 97
    · rw [if_pos h2] at hx
      have e1 := Option.some.inj hx
      have g := h.by (j := 0) (by omega)
      have g1 := wb_t.mp (h.2.2.2.2.1 1 (by omega)).2
      rw [Nat.add_zero] at g
      refine ⟨by omega, ?_, by omega, by omega⟩
      rw [tkN, if_pos (by omega), h2.1, tk, if_neg (by omega)]
      simp only [pkN, Nat.add_zero]
      omega
    · rw [if_neg h2] at hx; cases hx
/-- class and reference have the same names -/
def nmR (N : Nat) (nO names : Nat → Int32) : Prop := ∀ x, x < 286 → ∃ o : Option Nat, nO x = sti o ∧ (o = none → ∀ k, k < N → names k ≠ nI (tk x)) ∧ ∀ k, o = some k → k < N ∧ names k = nI (tk x) ∧ ∀ j, j < k → names j ≠ nI (tk x)
theorem nmR_0 {nO names : Nat → Int32} (h : ∀ x, x < 286 → nO x = -1) : nmR 0 nO names := fun x hx => ⟨none, h x hx, fun _ k hk => by omega, fun k hk => by cases hk⟩
theorem nmR_free {N x : Nat} {nO names : Nat → Int32} (h : nmR N nO names) (hN : N < 2 ^ 31) (hx : x < 286) (hg : nO x = -1) : ∀ k, k < N → names k ≠ nI (tk x) := by
  obtain ⟨o, h1, h2, h3⟩ := h x hx
  cases o with
  | none => exact h2 rfl
  | some k =>
    rw [h1] at hg
    exact absurd hg (sti_ne (by have := (h3 k rfl).1; omega))
theorem nmR_give {N x : Nat} {nO names : Nat → Int32} (h : nmR N nO names) (hN : N < 2 ^ 31) (hx : x < 286) (hg : nO x = -1) : nmR (N + 1) (upd nO x (nI N)) (upd names N (nI (tk x))) := by
  intro y hy
  have free := nmR_free h hN hx hg
  by_cases e : y = x
  · rw [e]
    refine ⟨some N, pk_us, fun q => (by cases q), fun k hk => ?_⟩
    cases hk
    exact ⟨by omega, pk_us, fun j hj => by rw [pk_un (by omega)]; exact free j hj⟩
  · have d : nI (tk x) ≠ nI (tk y) := fun q => e (tk_inj hy hx ((nI_eq (tk_lt hx) (tk_lt hy)).mp q).symm)
    obtain ⟨o, h1, h2, h3⟩ := h y hy
    refine ⟨o, by rw [pk_un e]; exact h1, fun q k hk => ?_, fun k hk => ?_⟩
    · by_cases ek : k = N
      · rw [ek, pk_us]; exact d
      · rw [pk_un ek]; exact h2 q k (by omega)
    · obtain ⟨k1, k2, k3⟩ := h3 k hk
      exact ⟨by omega, by rw [pk_un (by omega)]; exact k2, fun j hj => by rw [pk_un (by omega)]; exact k3 j hj⟩
theorem ok_find {N x : Nat} {nO names : Nat → Int32} {Q : Int32 → Prop} (h : nmR N nO names) (hN : N ≤ 60) (hx : x < 286) (hQ : Q (nO x)) : v_X6_find (nI N) names (nI (tk x)) Q := by
  obtain ⟨o, h1, h2, h3⟩ := h x hx
  rw [h1] at hQ
  have loop : ∀ (d j : Nat), j ≤ N → N < j + d → (∀ k, o = some k → j ≤ k) → v_X6_find_b2 (nI N) names Q d (nI (tk x)) (nI j) := by
    intro d
    induction d with
    | zero => intro j h1 h2; omega
    | succ d ih =>
      intro j g1 g2 g3
      rw [v_X6_find_b2]
      dsimp only
      rw [nI_clamp (by omega)]
      refine pk_le N j (fun q => ?_) (fun q => ⟨vp_in_nI (by omega) (by omega), ?_⟩)
      · cases o with
        | none => exact hQ
        | some k => have := (h3 k rfl).1; have := g3 k rfl; omega
      · by_cases hj : o = some j
        · refine nb_t (h3 j hj).2.1 ?_
          rw [hj] at hQ; exact hQ
        · refine nb_f ?_ (lt_v ?_)
          · cases o with
            | none => exact h2 rfl j q
            | some k =>
              have : j ≠ k := fun e => hj (by rw [e])
              exact (h3 k rfl).2.2 j (by have := g3 k rfl; omega)
          · rw [nI_1]
            refine ih (j + 1) (by omega) (by omega) (fun k hk => ?_)
            have := g3 k hk
            have : j ≠ k := fun e => hj (by rw [e]; exact hk)
            omega
  exact ⟨N + 1, loop (N + 1) 0 (by omega) (by omega) (fun k _ => by omega)⟩
/-- what stands in the class's table of names -/
theorem nmR_val {N x : Nat} {nO names : Nat → Int32} (h : nmR N nO names) (hx : x < 286) : nO x = -1 ∨ ∃ k, k < N ∧ nO x = nI k := by
  obtain ⟨o, h1, h2, h3⟩ := h x hx
  cases o with
  | none => exact Or.inl h1
  | some k => exact Or.inr ⟨k, (h3 k rfl).1, h1⟩
