/-! PROGRAM: the class's rows -/
theorem ok_rowCount {F n : Nat} {Q : Int32 → Prop} (hQ : Q (nI (rowN F n))) : v_X3_rowCount (nI n) (nI F) Q := by
  show Q ((14 : Int32) + (nI n + (1 : Int32)) * ((4 : Int32) + nI F))
  rw [nI_1, show (4 : Int32) + nI F = nI (4 + F) from nI_add 4 F, pk_mul, show (14 : Int32) + nI ((n + 1) * (4 + F)) = nI (14 + (n + 1) * (4 + F)) from nI_add 14 _]
  exact hQ
theorem four_ne {F : Nat} (hF : F ≤ 10) : ¬ ((4 : Int32) + nI F) = 0 := by
  rw [show (4 : Int32) + nI F = nI (4 + F) from nI_add 4 F]
  exact nI_ne0 (by omega) (by omega)
theorem ok_step {F i : Nat} {Q : Int32 → Prop} (hF : F ≤ 10) (hi : 14 ≤ i) (hi2 : i < 2000) (hQ : Q (nI ((i - 14) % (4 + F)))) : v_X3_step (nI F) (nI i) Q := by
  refine ⟨four_ne hF, ?_⟩
  rw [show nI i - (14 : Int32) = nI (i - 14) from pk_sub (b := 14) hi, show (4 : Int32) + nI F = nI (4 + F) from nI_add 4 F, pk_rem (by omega) (by omega) (by omega)]
  exact hQ
theorem ok_turn {F i : Nat} {Q : Int32 → Prop} (hF : F ≤ 10) (hi : 14 ≤ i) (hi2 : i < 2000) (hQ : Q (nI ((i - 14) / (4 + F)))) : v_X3_turn (nI F) (nI i) Q := by
  refine ⟨four_ne hF, ?_⟩
  rw [show nI i - (14 : Int32) = nI (i - 14) from pk_sub (b := 14) hi, show (4 : Int32) + nI F = nI (4 + F) from nI_add 4 F, pk_div (by omega) (by omega) (by omega)]
  exact hQ
theorem turn_le {F n i : Nat} (hi : i < rowN F n) : (i - 14) / (4 + F) ≤ n := by
  have : (i - 14) / (4 + F) < n + 1 := Nat.div_lt_of_lt_mul (by
    unfold rowN at hi
    rw [Nat.mul_comm]
    have := Nat.le_mul_of_pos_left (4 + F) (show 0 < n + 1 by omega)
    omega)
  omega
theorem rowN_lt {F n : Nat} (hF : F ≤ 10) (hn : n ≤ 120) : rowN F n < 2000 := by
  unfold rowN
  have : (n + 1) * (4 + F) ≤ 121 * 14 := Nat.mul_le_mul (by omega) (by omega)
  omega
theorem leadT : ∀ i, i < 14 → tb_LEAD_TMS.getD i 0 = nI (leadTms i) ∧ tb_LEAD_TDI.getD i 0 = nI (leadTdi i) := by decide
theorem ok_tms {F i : Nat} {Q : Int32 → Prop} (hF : F ≤ 10) (hi2 : i < 2000) (hQ : Q (nI (rTms F i))) : v_X3_tms (nI F) (nI i) Q := by
  by_cases h : 14 ≤ i
  · refine br_t (nI_le h (by omega)) (ok_step hF h hi2 ?_)
    unfold rTms qTms at hQ
    rw [if_neg (by omega)] at hQ
    have hm := Nat.mod_lt (i - 14) (show 0 < 4 + F by omega)
    by_cases hq : (i - 14) % (4 + F) ≤ F
    · rw [if_neg (by omega)] at hQ
      exact br_t (nI_le hq (by omega)) hQ
    · rw [if_pos (by omega)] at hQ
      exact br_f (nI_ge (by omega) (by omega)) hQ
  · refine br_f (nI_ge (b := 14) (by omega) (by decide)) ⟨vp_in_nI (by omega) (by omega), ?_⟩
    rw [nI_clamp (show i < 2 ^ 31 by omega), (leadT i (by omega)).1]
    rw [lead_tms F (by omega)] at hQ
    exact hQ
theorem ok_isShift {F i : Nat} {Q : Int32 → Prop} (hF : F ≤ 10) (hi2 : i < 2000) (hQ : Q (bI (decide (14 ≤ i ∧ 2 ≤ (i - 14) % (4 + F) ∧ (i - 14) % (4 + F) < 2 + F)))) : v_X3_isShift (nI F) (nI i) Q := by
  have hm := Nat.mod_lt (i - 14) (show 0 < 4 + F by omega)
  by_cases h : i < 14
  · refine br_t (nI_lt (b := 14) h (by decide)) ?_
    rw [decide_eq_false (by omega)] at hQ
    exact hQ
  · refine br_f (nI_nlt (b := 14) (by omega) (by omega)) (ok_step hF (by omega) hi2 ?_)
    by_cases h2 : (i - 14) % (4 + F) < 2
    · refine br_t (nI_lt (b := 2) h2 (by decide)) ?_
      rw [decide_eq_false (by omega)] at hQ
      exact hQ
    · refine br_f (nI_nlt (b := 2) (by omega) (by omega)) (ok_step hF (by omega) hi2 ?_)
      rw [show (2 : Int32) + nI F = nI (2 + F) from nI_add 2 F]
      by_cases h3 : 2 + F ≤ (i - 14) % (4 + F)
      · refine br_t (nI_le h3 (by omega)) ?_
        rw [decide_eq_false (by omega)] at hQ
        exact hQ
      · refine br_f (nI_ge (by omega) (by omega)) ?_
        rw [decide_eq_true (by omega)] at hQ
        exact hQ
theorem ok_flopOfShift {F i : Nat} {Q : Int32 → Prop} (hF : F ≤ 10) (hi : 14 ≤ i) (hi2 : i < 2000) (h2 : 2 ≤ (i - 14) % (4 + F)) (h3 : (i - 14) % (4 + F) < 2 + F) (hQ : Q (nI (F - 1 - ((i - 14) % (4 + F) - 2)))) : v_X3_flopOfShift (nI F) (nI i) Q := by
  refine ok_step hF hi hi2 ?_
  rw [show nI F - (1 : Int32) = nI (F - 1) from pk_sub (b := 1) (by omega), show nI ((i - 14) % (4 + F)) - (2 : Int32) = nI ((i - 14) % (4 + F) - 2) from pk_sub (b := 2) h2, pk_sub (by omega)]
  exact hQ
theorem ok_tdi {I F n i : Nat} {o : Nat → Nat} {ones : Nat → Int32} {Q : Int32 → Prop} (hS : I + F ≤ 10) (hn : n ≤ 120) (ho : ∀ i, i < n → ones i = nI (o i) ∧ o i < 2 ^ (I + F)) (hi : i < rowN F n) (hQ : Q (nI (rTdi I F n o i))) : v_X3_tdi (nI I) (nI F) (nI n) ones (nI i) Q := by
  have h10 : (2 : Nat) ^ (I + F) ≤ 2 ^ 10 := Nat.pow_le_pow_right (by decide) hS
  have hi2 := Nat.lt_trans hi (rowN_lt (F := F) (n := n) (by omega) hn)
  by_cases h : 14 ≤ i
  · have ht := turn_le hi
    unfold rTdi qTdi at hQ
    rw [if_neg (by omega)] at hQ
    refine br_t (nI_le h (by omega)) (ok_isShift (by omega) hi2 ?_)
    by_cases hs : 2 ≤ (i - 14) % (4 + F) ∧ (i - 14) % (4 + F) < 2 + F
    · rw [decide_eq_true ⟨h, hs⟩]
      refine br_f (by decide) (ok_turn (by omega) h hi2 ?_)
      by_cases htn : (i - 14) / (4 + F) < n
      · refine br_t (nI_lt htn (by omega)) (ok_turn (by omega) h hi2 ⟨vp_in_nI (by omega) (by omega), ok_flopOfShift (by omega) h hi2 hs.1 hs.2 ?_⟩)
        obtain ⟨eo, hol⟩ := ho _ htn
        rw [nI_clamp (show (i - 14) / (4 + F) < 2 ^ 31 by omega), eo, nI_add, bitOf (by omega) (by omega)]
        rw [if_pos ⟨hs.1, hs.2, htn⟩] at hQ
        exact hQ
      · refine br_f (nI_nlt (by omega) (by omega)) ?_
        rw [if_neg (by omega)] at hQ
        exact hQ
    · rw [decide_eq_false (fun q => hs q.2)]
      refine br_t (by decide) ?_
      rw [if_neg (fun q => hs ⟨q.1, q.2.1⟩)] at hQ
      exact hQ
  · refine br_f (nI_ge (b := 14) (by omega) (by decide)) ⟨vp_in_nI (by omega) (by omega), ?_⟩
    rw [nI_clamp (show i < 2 ^ 31 by omega), (leadT i (by omega)).2]
    rw [lead_tdi I F n o (by omega)] at hQ
    exact hQ
theorem ok_captures {F i : Nat} {Q : Int32 → Prop} (hF : F ≤ 10) (hi2 : i < 2000) (hQ : Q (bI (decide (14 ≤ i ∧ (i - 14) % (4 + F) = 1 ∧ 0 < (i - 14) / (4 + F))))) : v_X3_capturesTest (nI F) (nI i) Q := by
  have hm := Nat.mod_lt (i - 14) (show 0 < 4 + F by omega)
  have hd : (i - 14) / (4 + F) ≤ i - 14 := Nat.div_le_self _ _
  by_cases h : i < 14
  · refine br_t (nI_lt (b := 14) h (by decide)) ?_
    rw [decide_eq_false (by omega)] at hQ
    exact hQ
  · refine br_f (nI_nlt (b := 14) (by omega) (by omega)) (ok_step hF (by omega) hi2 ?_)
    have is1 := nI_is (a := (i - 14) % (4 + F)) (b := 1) (x := 1) rfl (by omega) (by omega)
    refine ⟨fun q => ?_, fun q => ok_turn hF (by omega) hi2 ?_⟩
    · have : ¬ (i - 14) % (4 + F) = 1 := fun z => q (is1.mpr z)
      rw [decide_eq_false (by omega)] at hQ
      exact hQ
    · have e1 := is1.mp q
      by_cases h0 : (i - 14) / (4 + F) = 0
      · refine br_t (by rw [h0]; decide) ?_
        rw [decide_eq_false (by omega)] at hQ
        exact hQ
      · have hpz : 0 < (i - 14) / (4 + F) := Nat.pos_of_ne_zero h0
        refine br_f (nI_nle hpz (by omega)) ?_
        rw [decide_eq_true (by omega)] at hQ
        exact hQ
theorem ok_pinputs {I F n i : Nat} {o : Nat → Nat} {ones : Nat → Int32} {Q : Int32 → Prop} (hS : I + F ≤ 10) (hn : n ≤ 120) (ho : ∀ i, i < n → ones i = nI (o i) ∧ o i < 2 ^ (I + F)) (hi : i < rowN F n) (hQ : Q (nI (rIn I F o i))) : v_X3_inputs (nI I) (nI F) ones (nI i) Q := by
  have h10 : (2 : Nat) ^ (I + F) ≤ 2 ^ 10 := Nat.pow_le_pow_right (by decide) hS
  have hi2 := Nat.lt_trans hi (rowN_lt (F := F) (n := n) (by omega) hn)
  have ht := turn_le hi
  refine ok_captures (by omega) hi2 ?_
  unfold rIn qIn at hQ
  by_cases h : 14 ≤ i ∧ (i - 14) % (4 + F) = 1 ∧ 0 < (i - 14) / (4 + F)
  · rw [decide_eq_true h]
    rw [if_neg (by omega), if_pos h.2] at hQ
    refine br_f (by decide) (ok_turn (by omega) h.1 hi2 ?_)
    have h22 := h.2.2
    rw [show nI ((i - 14) / (4 + F)) - (1 : Int32) = nI ((i - 14) / (4 + F) - 1) from pk_sub (b := 1) (by omega)]
    obtain ⟨eo, hol⟩ := ho ((i - 14) / (4 + F) - 1) (by omega)
    rw [nI_clamp (show (i - 14) / (4 + F) - 1 < 2 ^ 31 by omega), eo]
    refine ⟨vp_in_nI (by omega) (by omega), ?_⟩
    unfold v_X2_inputsOf
    rw [andMask (by omega) (by omega)]
    exact hQ
  · rw [decide_eq_false h]
    refine br_t (by decide) ?_
    by_cases h14 : i < 14
    · rw [if_pos h14] at hQ; exact hQ
    · rw [if_neg h14, if_neg (fun q => h ⟨by omega, q⟩)] at hQ; exact hQ
theorem ok_tdoDue {F O n i : Nat} {A : Nat → Nat} {due : Nat → Int32} {Q : Int32 → Prop} (hF : F ≤ 10) (hO : O ≤ 8) (hn : n ≤ 120) (hd : ∀ i, i < n → due i = nI (A i) ∧ A i < 2 ^ 18) (hi : i < rowN F n) (hQ : Q (nI (rSee F O A i))) : v_X3_tdoDue (nI F) (nI O) due (nI i) Q := by
  have hi2 := Nat.lt_trans hi (rowN_lt (F := F) (n := n) (by omega) hn)
  have ht := turn_le hi
  refine ok_isShift (by omega) hi2 ?_
  unfold rSee qSee at hQ
  by_cases h : 14 ≤ i ∧ 2 ≤ (i - 14) % (4 + F) ∧ (i - 14) % (4 + F) < 2 + F
  · rw [decide_eq_true h]
    rw [if_neg (by omega)] at hQ
    refine br_f (by decide) (ok_turn (by omega) h.1 hi2 ?_)
    by_cases h0 : (i - 14) / (4 + F) = 0
    · refine ⟨fun q => absurd (by rw [h0]; rfl) q, fun _ => ?_⟩
      rw [if_neg (by omega)] at hQ; exact hQ
    · have hpz : 0 < (i - 14) / (4 + F) := Nat.pos_of_ne_zero h0
      refine ⟨fun _ => ok_turn (by omega) h.1 hi2 ?_, fun q => absurd q (nI_ne0 hpz (by omega))⟩
      rw [if_pos ⟨h.2.1, h.2.2, by omega⟩] at hQ
      rw [show nI ((i - 14) / (4 + F)) - (1 : Int32) = nI ((i - 14) / (4 + F) - 1) from pk_sub (b := 1) (by omega)]
      obtain ⟨eo, hol⟩ := hd ((i - 14) / (4 + F) - 1) (by omega)
      rw [nI_clamp (show (i - 14) / (4 + F) - 1 < 2 ^ 31 by omega), eo]
      refine ⟨vp_in_nI (by omega) (by omega), ?_⟩
      unfold v_X2_nextsOf
      rw [shrI (by omega) (by omega)]
      refine ok_flopOfShift hF h.1 hi2 h.2.1 h.2.2 ?_
      rw [bitDiv (by omega) (by omega) (by omega)]
      exact hQ
  · rw [decide_eq_false h]
    refine br_t (by decide) ?_
    by_cases h14 : i < 14
    · rw [if_pos h14] at hQ; exact hQ
    · rw [if_neg h14, if_neg (fun q => h ⟨by omega, q.1, q.2.1⟩)] at hQ; exact hQ
theorem ok_outputsDue {F O n i : Nat} {A : Nat → Nat} {due : Nat → Int32} {Q : Int32 → Prop} (hF : F ≤ 10) (hO : O ≤ 8) (hn : n ≤ 120) (hd : ∀ i, i < n → due i = nI (A i) ∧ A i < 2 ^ 18) (hi : i < rowN F n) (hQ : Q (sti (rOut F O A i))) : v_X3_outputsDue (nI F) (nI O) due (nI i) Q := by
  have hi2 := Nat.lt_trans hi (rowN_lt (F := F) (n := n) (by omega) hn)
  have ht := turn_le hi
  refine ok_captures (by omega) hi2 ?_
  unfold rOut qOut at hQ
  by_cases h : 14 ≤ i ∧ (i - 14) % (4 + F) = 1 ∧ 0 < (i - 14) / (4 + F)
  · rw [decide_eq_true h]
    rw [if_neg (by omega), if_pos h.2] at hQ
    refine br_f (by decide) (ok_turn (by omega) h.1 hi2 ?_)
    have h22 := h.2.2
    rw [show nI ((i - 14) / (4 + F)) - (1 : Int32) = nI ((i - 14) / (4 + F) - 1) from pk_sub (b := 1) (by omega)]
    obtain ⟨eo, hol⟩ := hd ((i - 14) / (4 + F) - 1) (by omega)
    rw [nI_clamp (show (i - 14) / (4 + F) - 1 < 2 ^ 31 by omega), eo]
    refine ⟨vp_in_nI (by omega) (by omega), ?_⟩
    unfold v_X2_outputsOf
    rw [andMask (by omega) (by omega)]
    exact hQ
  · rw [decide_eq_false h]
    refine br_t (by decide) ?_
    by_cases h14 : i < 14
    · rw [if_pos h14] at hQ; exact hQ
    · rw [if_neg h14, if_neg (fun q => h ⟨by omega, q⟩)] at hQ; exact hQ
