/-! THE REFERENCE: leastOf, showsWith, fixOf, choose -/
def mSh (S N : Nat) (T : Nat → Nat → Bool) (shown : Nat → Int32) : Prop := ∀ f, f < 2 * N → ∀ p, p < 2 ^ S → shown (1024 * f + p) = bI (T f p)
theorem fp1024 (f p : Nat) : (1024 : Int32) * nI f + nI p = nI (1024 * f + p) := by rw [show (1024 : Int32) = nI 1024 from rfl, pk_mul, nI_add]
theorem shl1 {k : Nat} (h : k ≤ 30) : (1 : Int32) <<< (nI k &&& 31) = nI (2 ^ k) := by
  have h2 : (2 : Nat) ^ k ≤ 2 ^ 30 := Nat.pow_le_pow_right (by decide) h
  have h3 := pk_shlN (n := 1) (nI k &&& 31) k (s_l _ (by omega)) (by omega)
  rw [Nat.one_mul] at h3
  exact h3
theorem ok_patterns {I F : Nat} {Q : Int32 → Prop} (hS : I + F ≤ 10) (hQ : Q (nI (2 ^ (I + F)))) : v_X6_patterns (nI I) (nI F) Q := by
  have h10 : (2 : Nat) ^ (I + F) ≤ 2 ^ 10 := Nat.pow_le_pow_right (by decide) hS
  unfold v_X6_patterns
  rw [nI_add, show (1 : Int32) = nI 1 from rfl, pk_shlN _ (I + F) (s_l _ (by omega)) (by omega), Nat.one_mul]
  exact hQ
theorem bI_0 (b : Bool) : bI b = (0 : Int32) ↔ b = false := by cases b <;> decide
theorem ok_leastOf1 {I F : Nat} {T : Nat → Bool} {shown : Nat → Int32} {Q : Int32 → Prop} {f : Nat} (hS : I + F ≤ 10) (hf : f < 120) (hh : ∀ p, p < 2 ^ (I + F) → shown (1024 * f + p) = bI (T p)) (hQ : Q (sti (findI T (2 ^ (I + F))))) : v_X6_leastOf (nI I) (nI F) shown (nI f) Q := by
  have h10 : (2 : Nat) ^ (I + F) ≤ 2 ^ 10 := Nat.pow_le_pow_right (by decide) hS
  have loop : ∀ (d j : Nat), j ≤ 2 ^ (I + F) → 2 ^ (I + F) < j + d → (∀ p, p < j → T p = false) → v_X6_leastOf_b2 (nI I) (nI F) shown Q d (nI f) (nI j) := by
    intro d
    induction d with
    | zero => intro j h1 h2; omega
    | succ d ih =>
      intro j h1 h2 h0
      rw [v_X6_leastOf_b2]
      refine ok_patterns hS ?_
      by_cases hj : 2 ^ (I + F) ≤ j
      · refine br_t (nI_le hj (by omega)) ?_
        rw [findI_none _ (fun i hi => h0 i (by omega))] at hQ
        exact hQ
      · refine br_f (nI_ge (by omega) (by omega)) ?_
        rw [fp1024, nI_clamp (show 1024 * f + j < 2 ^ 31 by omega), hh j (by omega)]
        refine ⟨vp_in_nI (by omega) (by omega), fun h => ?_, fun h => ?_⟩
        · intro v2 e2
          rw [e2, nI_1]
          refine ih (j + 1) (by omega) (by omega) (fun p hp => ?_)
          by_cases e : p = j
          · rw [e]; exact (bI_0 _).mp h
          · exact h0 p (by omega)
        · rw [findI_some (i := j) (by cases hb : T j; exact absurd ((bI_0 _).mpr hb) h; rfl) h0 _ (by omega)] at hQ
          exact hQ
  exact ⟨2 ^ (I + F) + 1, loop _ 0 (Nat.zero_le _) (by omega) (fun p hp => by omega)⟩
theorem ok_leastOf {I F N : Nat} {T : Nat → Nat → Bool} {shown : Nat → Int32} {Q : Int32 → Prop} {f : Nat} (hS : I + F ≤ 10) (hN : N ≤ 60) (hh : mSh (I + F) N T shown) (hf : f < 2 * N) (hQ : Q (sti (findI (T f) (2 ^ (I + F))))) : v_X6_leastOf (nI I) (nI F) shown (nI f) Q := ok_leastOf1 hS (by omega) (hh f hf) hQ
/-- the fixed sources -/
def fixN (S fr : Nat) : Nat := anN (2 ^ S - 1) fr
theorem fixN_bit (S fr k : Nat) : (fixN S fr).testBit k = (decide (k < S) && !(fr.testBit k)) := by rw [fixN, anN_bit, Nat.testBit_two_pow_sub_one]
theorem fixN_lt (S fr : Nat) : fixN S fr < 2 ^ S := anN_lt (by have := Nat.two_pow_pos S; omega)
theorem bit_ge {x S k : Nat} (hx : x < 2 ^ S) (hk : ¬ k < S) : x.testBit k = false := Nat.testBit_lt_two_pow (Nat.lt_of_lt_of_le hx (Nat.pow_le_pow_right (by decide) (by omega)))
theorem agree_iff {S fr o p : Nat} (ho : o < 2 ^ S) : p &&& fixN S fr = anN o fr ↔ ∀ k, k < S → fr.testBit k = false → p.testBit k = o.testBit k := by
  constructor
  · intro h k hk hf
    have h2 := congrArg (fun x => x.testBit k) h
    simp only [Nat.testBit_and, fixN_bit, anN_bit, hf, hk, decide_true, Bool.not_false, Bool.and_true] at h2
    exact h2
  · intro h
    apply Nat.eq_of_testBit_eq
    intro k
    rw [Nat.testBit_and, fixN_bit, anN_bit]
    by_cases hk : k < S
    · cases hf : fr.testBit k
      · rw [h k hk hf]; simp [hk]
      · simp
    · rw [bit_ge ho hk]; simp [hk]
theorem anN_self {o fr : Nat} (h : ∀ k, fr.testBit k = true → o.testBit k = false) : anN o fr = o := by
  apply Nat.eq_of_testBit_eq
  intro k
  rw [anN_bit]
  cases hf : fr.testBit k
  · simp
  · rw [h k hf]; rfl
theorem ok_mshows {I F N : Nat} {T : Nat → Nat → Bool} {shown : Nat → Int32} {Q : Int32 → Prop} {f o fr : Nat} (hS : I + F ≤ 10) (hN : N ≤ 60) (hh : mSh (I + F) N T shown) (hf : f < 2 * N) (ho : o < 2 ^ (I + F)) (hQ : Q (bI (swN (I + F) (T f) o fr))) : v_X6_showsWith (nI I) (nI F) shown (nI f) (nI (anN o fr)) (nI (fixN (I + F) fr)) Q := by
  have h10 : (2 : Nat) ^ (I + F) ≤ 2 ^ 10 := Nat.pow_le_pow_right (by decide) hS
  have hfx := fixN_lt (I + F) fr
  have hol : anN o fr < 2 ^ (I + F) := anN_lt ho
  have loop : ∀ (d j : Nat), j ≤ 2 ^ (I + F) → 2 ^ (I + F) < j + d → (∀ p, p < j → (∀ k, k < I + F → fr.testBit k = false → p.testBit k = o.testBit k) → T f p = true) → v_X6_showsWith_b3 (nI I) (nI F) shown Q d (nI f) (nI (anN o fr)) (nI (fixN (I + F) fr)) (nI j) := by
    intro d
    induction d with
    | zero => intro j h1 h2; omega
    | succ d ih =>
      intro j h1 h2 h0
      rw [v_X6_showsWith_b3]
      refine ok_patterns hS ?_
      by_cases hj : 2 ^ (I + F) ≤ j
      · refine br_t (nI_le hj (by omega)) ?_
        rw [swN, decide_eq_true (fun p hp => h0 p (by omega))] at hQ
        exact hQ
      · refine br_f (nI_ge (by omega) (by omega)) ?_
        have hal : j &&& fixN (I + F) fr < 2 ^ (I + F) := Nat.and_lt_two_pow _ hfx
        rw [nI_and, nI_eq (by omega) (by omega), agree_iff ho, fp1024, nI_clamp (show 1024 * f + j < 2 ^ 31 by omega), hh f hf j (by omega)]
        have next : ((∀ k, k < I + F → fr.testBit k = false → j.testBit k = o.testBit k) → T f j = true) → v_X6_showsWith_b38 (nI I) (nI F) shown Q (v_X6_showsWith_b3 (nI I) (nI F) shown Q d) (nI f) (nI (anN o fr)) (nI (fixN (I + F) fr)) (nI j) := by
          intro hn v1 e1
          rw [e1, nI_1]
          refine ih (j + 1) (by omega) (by omega) (fun p hp => ?_)
          by_cases e : p = j
          · rw [e]; exact hn
          · exact h0 p (by omega)
        refine ⟨fun h => next (fun q => absurd q h), fun h => ⟨vp_in_nI (by omega) (by omega), fun h2 => next (fun _ => ?_), fun h2 => ?_⟩⟩
        · cases hb : T f j
          · exact absurd ((bI_0 _).mpr hb) h2
          · rfl
        · have hb := (bI_0 _).mp h2
          rw [swN, decide_eq_false (fun q => by rw [q j (by omega) h] at hb; cases hb)] at hQ
          exact hQ
  exact ⟨2 ^ (I + F) + 1, loop _ 0 (Nat.zero_le _) (by omega) (fun p hp => by omega)⟩
theorem addPow_bit {x k j : Nat} (h : x < 2 ^ k) : (x + 2 ^ k).testBit j = (x.testBit j || decide (k = j)) := by
  have e := Nat.two_pow_add_eq_or_of_lt h 1
  rw [Nat.mul_one, Nat.add_comm] at e
  rw [e, Nat.testBit_or, Nat.testBit_two_pow, Bool.or_comm]
theorem fixN_step {S x k : Nat} (h : x < 2 ^ k) : anN (fixN S x) (2 ^ k) = fixN S (x + 2 ^ k) := by
  apply Nat.eq_of_testBit_eq
  intro j
  rw [anN_bit, fixN_bit, fixN_bit, addPow_bit h, Nat.testBit_two_pow]
  cases decide (j < S) <;> cases x.testBit j <;> simp
theorem and_fixN {S o fr : Nat} (ho : o < 2 ^ S) : o &&& fixN S fr = anN o fr := (agree_iff ho).mpr (fun _ _ _ => rfl)
theorem ok_fixOf {I F N : Nat} {T : Nat → Nat → Bool} {shown : Nat → Int32} {Q : Int32 → Prop} {f pat : Nat} (hS : I + F ≤ 10) (hN : N ≤ 60) (hh : mSh (I + F) N T shown) (hf : f < 2 * N) (hpat : findI (T f) (2 ^ (I + F)) = some pat) (hQ : Q (nI (fixN (I + F) (frN (I + F) (T f) pat (I + F))))) : v_X6_fixOf (nI I) (nI F) shown (nI f) Q := by
  have h10 : (2 : Nat) ^ (I + F) ≤ 2 ^ 10 := Nat.pow_le_pow_right (by decide) hS
  have hp := (findI_of _ hpat).1
  refine ok_leastOf hS hN hh hf (ok_patterns hS ?_)
  rw [hpat]
  intro v6 e6
  have e7 : v6 = nI (fixN (I + F) 0) := by
    rw [e6, show (1 : Int32) = nI 1 from rfl, pk_sub (Nat.two_pow_pos _), fixN, anN_self (fun k hk => by rw [Nat.zero_testBit] at hk; cases hk)]
  rw [e7]
  have loop : ∀ (d j : Nat), j ≤ I + F → I + F < j + d → v_X6_fixOf_b16 (nI I) (nI F) shown Q d (nI f) (nI pat) (nI (fixN (I + F) (frN (I + F) (T f) pat j))) (nI j) := by
    intro d
    induction d with
    | zero => intro j h1 h2; omega
    | succ d ih =>
      intro j h1 h2
      rw [v_X6_fixOf_b16]
      dsimp only
      rw [nI_add]
      by_cases hj : I + F ≤ j
      · have : j = I + F := by omega
        subst this
        exact br_t (nI_le hj (by omega)) hQ
      · refine br_f (nI_ge (by omega) (by omega)) ?_
        have hpj : (2 : Nat) ^ j ≤ 2 ^ 10 := Nat.pow_le_pow_right (by decide) (by omega)
        rw [shl1 (by omega), andNot, fixN_step (frN_lt j)]
        intro v2 e2
        rw [e2, nI_and, and_fixN hp]
        refine ok_mshows hS hN hh hf hp ?_
        have next : ∀ x : Nat, x = frN (I + F) (T f) pat (j + 1) → v_X6_fixOf_b60 (nI I) (nI F) shown Q (v_X6_fixOf_b16 (nI I) (nI F) shown Q d) (nI f) (nI pat) (nI j) (nI (fixN (I + F) x)) := by
          intro x ex v1 e1
          rw [e1, nI_1, ex]
          exact ih (j + 1) (by omega) (by omega)
        cases hs : swN (I + F) (T f) pat (frN (I + F) (T f) pat j + 2 ^ j) with
        | false => exact br_t (by decide) (next _ (by rw [frN, hs]; rfl))
        | true => exact br_f (by decide) (next _ (by rw [frN, hs]; rfl))
  exact ⟨I + F + 1, loop _ 0 (by omega) (by omega)⟩
def cstM (S : Nat) (c : Nat × (Nat → Nat) × (Nat → Nat)) (chosen : Int32) (ones fixed : Nat → Int32) : Prop := chosen = nI c.1 ∧ ∀ i, i < c.1 → ones i = nI (c.2.1 i) ∧ fixed i = nI (fixN S (c.2.2 i)) ∧ c.2.1 i < 2 ^ S ∧ c.2.2 i < 2 ^ S ∧ ∀ k, (c.2.2 i).testBit k = true → (c.2.1 i).testBit k = false
theorem mrgCond {S o fr oc frc : Nat} (ho : o < 2 ^ S) (hoc : oc < 2 ^ S) : ((o ^^^ oc) &&& fixN S fr) &&& fixN S frc = anN (oc ^^^ o) (frc ||| fr) := by
  apply Nat.eq_of_testBit_eq
  intro k
  rw [Nat.testBit_and, Nat.testBit_and, fixN_bit, fixN_bit, anN_bit, Nat.testBit_xor, Nat.testBit_xor, Nat.testBit_or]
  by_cases hk : k < S
  · rw [decide_eq_true hk]
    cases o.testBit k <;> cases oc.testBit k <;> cases fr.testBit k <;> cases frc.testBit k <;> rfl
  · rw [bit_ge ho hk, bit_ge hoc hk]; rfl
theorem fixN_or {S fr frc : Nat} : fixN S frc ||| fixN S fr = fixN S (frc &&& fr) := by
  apply Nat.eq_of_testBit_eq
  intro k
  rw [Nat.testBit_or, fixN_bit, fixN_bit, fixN_bit, Nat.testBit_and]
  cases decide (k < S) <;> cases fr.testBit k <;> cases frc.testBit k <;> rfl
set_option maxHeartbeats 1000000 in
theorem ok_mchoose {I F N : Nat} {T : Nat → Nat → Bool} {shown : Nat → Int32} {Q : Int32 → (Nat → Int32) → (Nat → Int32) → Prop} {f : Nat} {c : Nat × (Nat → Nat) × (Nat → Nat)} {chosen : Int32} {ones fixed : Nat → Int32} (hS : I + F ≤ 10) (hN : N ≤ 60) (hh : mSh (I + F) N T shown) (hf : f < 2 * N) {pat : Nat} (hpat : findI (T f) (2 ^ (I + F)) = some pat) (hc : cstM (I + F) c chosen ones fixed) (hcn : c.1 < 120)
    (hQ : ∀ t o fx, cstM (I + F) (chs (I + F) (T f) c) t o fx → Q t o fx) : v_X6_choose (nI I) (nI F) chosen shown ones fixed (nI f) Q := by
  have hc0 := hc
  obtain ⟨rfl, hc⟩ := hc
  have h10 : (2 : Nat) ^ (I + F) ≤ 2 ^ 10 := Nat.pow_le_pow_right (by decide) hS
  have hp := (findI_of _ hpat).1
  have hfl := frN_lt (S := I + F) (T := T f) (pat := pat) (I + F)
  have hol : anN pat (frN (I + F) (T f) pat (I + F)) < 2 ^ (I + F) := anN_lt hp
  have hdis : ∀ k, (frN (I + F) (T f) pat (I + F)).testBit k = true → (anN pat (frN (I + F) (T f) pat (I + F))).testBit k = false := fun k hk => by rw [anN_bit, hk]; simp
  have e0 : chs (I + F) (T f) c = if (findI (fun i => swN (I + F) (T f) (c.2.1 i) (c.2.2 i)) c.1).isSome then c else mrg c (anN pat (frN (I + F) (T f) pat (I + F))) (frN (I + F) (T f) pat (I + F)) := by rw [chs, hpat]
  rw [e0] at hQ
  -- the merge
  have loop54 : (findI (fun i => swN (I + F) (T f) (c.2.1 i) (c.2.2 i)) c.1).isSome = false → ∀ (d j : Nat), j ≤ c.1 → c.1 < j + d → (∀ i, i < j → decide (anN (c.2.1 i ^^^ anN pat (frN (I + F) (T f) pat (I + F))) (c.2.2 i ||| frN (I + F) (T f) pat (I + F)) = 0) = false) → v_X6_choose_b54 (nI I) (nI F) shown Q d (nI c.1) ones fixed (nI (fixN (I + F) (frN (I + F) (T f) pat (I + F)))) (nI (anN pat (frN (I + F) (T f) pat (I + F)))) (nI j) := by
    intro hno
    rw [hno] at hQ
    rw [if_neg (by decide)] at hQ
    clear e0
    generalize anN pat (frN (I + F) (T f) pat (I + F)) = o at *
    generalize frN (I + F) (T f) pat (I + F) = fr at *
    intro d
    induction d with
    | zero => intro j h1 h2; omega
    | succ d ih =>
      intro j h1 h2 h0
      by_cases hj : c.1 ≤ j
      · refine br_t (nI_le hj (by omega)) ⟨vp_in_nI (by omega) (by omega), vp_in_nI (by omega) (by omega), ?_⟩
        intro v1 e1
        rw [e1, nI_1, nI_clamp (show c.1 < 2 ^ 31 by omega)]
        refine hQ _ _ _ ?_
        unfold mrg
        rw [findI_none c.1 (fun i hi => h0 i (by omega))]
        refine ⟨rfl, fun i hi => ?_⟩
        have hi2 : i < c.1 + 1 := hi
        show upd _ _ _ _ = nI (if i = c.1 then o else c.2.1 i) ∧ upd _ _ _ _ = nI (fixN _ (if i = c.1 then fr else c.2.2 i)) ∧ (if i = c.1 then o else c.2.1 i) < _ ∧ (if i = c.1 then fr else c.2.2 i) < _ ∧ ∀ k, (if i = c.1 then fr else c.2.2 i).testBit k = true → (if i = c.1 then o else c.2.1 i).testBit k = false
        by_cases e : i = c.1
        · subst e
          rw [if_pos rfl, if_pos rfl, pk_us, pk_us]
          exact ⟨rfl, rfl, hol, hfl, hdis⟩
        · rw [if_neg e, if_neg e, pk_un e, pk_un e]
          exact hc i (by omega)
      · obtain ⟨e1, e2, l1, l2, l3⟩ := hc j (by omega)
        have hi : vp_in (nI j) 120 := vp_in_nI (by omega) (by omega)
        refine br_f (nI_ge (by omega) (by omega)) ⟨hi, hi, ?_⟩
        rw [nI_clamp (show j < 2 ^ 31 by omega), e1, e2, nI_xor, nI_and, nI_and, nI_or, nI_or, mrgCond hol l1, fixN_or]
        have hx : anN (c.2.1 j ^^^ o) (c.2.2 j ||| fr) < 2 ^ (I + F) := anN_lt (Nat.xor_lt_two_pow l1 hol)
        refine ⟨fun h => ?_, fun h => ⟨hi, hi, hi, hi, ?_⟩⟩
        · intro v2 e2
          rw [e2, nI_1]
          refine ih (j + 1) (by omega) (by omega) (fun i hi => ?_)
          by_cases e : i = j
          · rw [e]; exact decide_eq_false (fun q => h (by rw [q]; rfl))
          · exact h0 i (by omega)
        · have hz := (nI_is0 (by omega)).mp h
          refine hQ _ _ _ ?_
          unfold mrg
          rw [findI_some (i := j) (decide_eq_true hz) h0 c.1 (by omega)]
          refine ⟨rfl, fun i hi => ?_⟩
          have hi2 : i < c.1 := hi
          show upd _ _ _ _ = nI (if i = j then c.2.1 j ||| o else c.2.1 i) ∧ upd _ _ _ _ = nI (fixN _ (if i = j then c.2.2 j &&& fr else c.2.2 i)) ∧ (if i = j then c.2.1 j ||| o else c.2.1 i) < _ ∧ (if i = j then c.2.2 j &&& fr else c.2.2 i) < _ ∧ ∀ k, (if i = j then c.2.2 j &&& fr else c.2.2 i).testBit k = true → (if i = j then c.2.1 j ||| o else c.2.1 i).testBit k = false
          by_cases e : i = j
          · subst e
            rw [if_pos rfl, if_pos rfl, pk_us, pk_us]
            refine ⟨rfl, rfl, Nat.or_lt_two_pow l1 hol, Nat.lt_of_le_of_lt Nat.and_le_left l2, fun k hk => ?_⟩
            rw [Nat.testBit_and, Bool.and_eq_true] at hk
            rw [Nat.testBit_or, l3 k hk.1, hdis k hk.2]; rfl
          · rw [if_neg e, if_neg e, pk_un e, pk_un e]
            exact hc i hi2
  have loop2 : ∀ (d j : Nat), j ≤ c.1 → c.1 < j + d → (∀ i, i < j → swN (I + F) (T f) (c.2.1 i) (c.2.2 i) = false) → v_X6_choose_b2 (nI I) (nI F) shown Q d (nI c.1) ones fixed (nI f) (nI j) := by
    intro d
    induction d with
    | zero => intro j h1 h2; omega
    | succ d ih =>
      intro j h1 h2 h0
      by_cases hj : c.1 ≤ j
      · refine br_t (nI_le hj (by omega)) (ok_fixOf hS hN hh hf hpat (ok_leastOf hS hN hh hf ?_))
        rw [hpat]
        intro v5 e5
        rw [e5, show sti (some pat) = nI pat from rfl, nI_and, and_fixN hp]
        exact ⟨c.1 + 1, loop54 (by rw [findI_none c.1 (fun i hi => h0 i (by omega))]; rfl) _ 0 (by omega) (by omega) (fun i hi => by omega)⟩
      · obtain ⟨e1, e2, l1, l2, l3⟩ := hc j (by omega)
        refine br_f (nI_ge (by omega) (by omega)) ⟨vp_in_nI (by omega) (by omega), vp_in_nI (by omega) (by omega), ?_⟩
        rw [nI_clamp (show j < 2 ^ 31 by omega), e1, e2, ← anN_self l3]
        refine ok_mshows hS hN hh hf l1 ?_
        cases hs : swN (I + F) (T f) (c.2.1 j) (c.2.2 j) with
        | false =>
          refine br_t (by decide) ?_
          intro v2 e2
          rw [e2, nI_1]
          refine ih (j + 1) (by omega) (by omega) (fun i hi => ?_)
          by_cases e : i = j
          · rw [e]; exact hs
          · exact h0 i (by omega)
        | true =>
          refine br_f (by decide) ?_
          rw [findI_is (i := j) (by omega) hs, if_pos rfl] at hQ
          exact hQ _ _ _ hc0
  exact ⟨c.1 + 1, loop2 _ 0 (by omega) (by omega) (fun i hi => by omega)⟩
