/-! CHOICE: showsWithChosen, merge, choose, make -/
/-- the merge of a cube into the chosen ones: how many, their ones, their free sources -/
def mrg (c : Nat × (Nat → Nat) × (Nat → Nat)) (o fr : Nat) : Nat × (Nat → Nat) × (Nat → Nat) :=
  match findI (fun i => decide (anN (c.2.1 i ^^^ o) (c.2.2 i ||| fr) = 0)) c.1 with
  | some i => (c.1, fun j => if j = i then c.2.1 i ||| o else c.2.1 j, fun j => if j = i then c.2.2 i &&& fr else c.2.2 j)
  | none => (c.1 + 1, fun j => if j = c.1 then o else c.2.1 j, fun j => if j = c.1 then fr else c.2.2 j)
/-- one fault's turn -/
def chs (S : Nat) (T : Nat → Bool) (c : Nat × (Nat → Nat) × (Nat → Nat)) : Nat × (Nat → Nat) × (Nat → Nat) :=
  match findI T (2 ^ S) with
  | none => c
  | some p => if (findI (fun i => swN S T (c.2.1 i) (c.2.2 i)) c.1).isSome then c else mrg c (anN p (frN S T p S)) (frN S T p S)
/-- the choice after the first n faults -/
def chN (S : Nat) (T : Nat → Nat → Bool) : Nat → Nat × (Nat → Nat) × (Nat → Nat)
  | 0 => (0, fun _ => 0, fun _ => 0)
  | f + 1 => chs S (T f) (chN S T f)
/-- how many of the first n faults are testable -/
def tsN (S : Nat) (T : Nat → Nat → Bool) : Nat → Nat
  | 0 => 0
  | f + 1 => tsN S T f + (findI (T f) (2 ^ S)).isSome.toNat
def cst (S : Nat) (c : Nat × (Nat → Nat) × (Nat → Nat)) (tests : Int32) (ones free : Nat → Int32) : Prop := tests = nI c.1 ∧ ∀ i, i < c.1 → ones i = nI (c.2.1 i) ∧ free i = nI (c.2.2 i) ∧ c.2.1 i < 2 ^ S ∧ c.2.2 i < 2 ^ S
theorem mrg_le (c : Nat × (Nat → Nat) × (Nat → Nat)) (o fr : Nat) : (mrg c o fr).1 ≤ c.1 + 1 := by
  unfold mrg
  cases findI (fun i => decide (anN (c.2.1 i ^^^ o) (c.2.2 i ||| fr) = 0)) c.1 with
  | some i => exact Nat.le_succ _
  | none => exact Nat.le_refl _
theorem chs_le (S : Nat) (T : Nat → Bool) (c : Nat × (Nat → Nat) × (Nat → Nat)) : (chs S T c).1 ≤ c.1 + 1 := by
  unfold chs
  cases findI T (2 ^ S) with
  | none => exact Nat.le_succ _
  | some p =>
    show (if _ then c else mrg _ _ _).1 ≤ _
    by_cases h : (findI (fun i => swN S T (c.2.1 i) (c.2.2 i)) c.1).isSome = true
    · rw [if_pos h]; exact Nat.le_succ _
    · rw [if_neg h]; exact mrg_le _ _ _
theorem chN_le (S : Nat) (T : Nat → Nat → Bool) : ∀ n, (chN S T n).1 ≤ n
  | 0 => Nat.le_refl 0
  | n + 1 => Nat.le_trans (chs_le _ _ _) (Nat.succ_le_succ (chN_le S T n))
theorem tsN_le (S : Nat) (T : Nat → Nat → Bool) : ∀ n, tsN S T n ≤ n
  | 0 => Nat.le_refl 0
  | n + 1 => by
    have := tsN_le S T n
    rw [tsN]
    cases (findI (T n) (2 ^ S)).isSome
    · show _ + 0 ≤ _; omega
    · show _ + 1 ≤ _; omega
theorem ok_showsWithChosen {I F N : Nat} {T : Nat → Nat → Bool} {showing : Nat → Int64} {mask : Int64} {Q : Int32 → Prop} {f : Nat} {c : Nat × (Nat → Nat) × (Nat → Nat)} {tests : Int32} {ones free : Nat → Int32} (hS : I + F ≤ 10) (hN : N ≤ 60) (hh : sHolds (I + F) N T showing) (hmask : maskOk (I + F) mask) (hf : f < 2 * N) (hc : cst (I + F) c tests ones free) (hcn : c.1 ≤ 120) (hQ : Q (bI (findI (fun i => swN (I + F) (T f) (c.2.1 i) (c.2.2 i)) c.1).isSome)) : v_X1_showsWithChosen (nI (wN (I + F))) mask tests (nI I) (nI F) ones free showing (nI f) Q := by
  obtain ⟨rfl, hc⟩ := hc
  have loop : ∀ (d j : Nat), j ≤ c.1 → c.1 < j + d → (∀ i, i < j → swN (I + F) (T f) (c.2.1 i) (c.2.2 i) = false) → v_X1_showsWithChosen_b2 (nI (wN (I + F))) mask (nI c.1) (nI I) (nI F) ones free showing Q d (nI f) (nI j) := by
    intro d
    induction d with
    | zero => intro j h1 h2; omega
    | succ d ih =>
      intro j h1 h2 h0
      by_cases hj : c.1 ≤ j
      · refine br_t (nI_le hj (by omega)) ?_
        rw [findI_none c.1 (fun i hi => h0 i (by omega))] at hQ
        exact hQ
      · obtain ⟨e1, e2, l1, l2⟩ := hc j (by omega)
        refine br_f (nI_ge (by omega) (by omega)) ⟨vp_in_nI (by omega) (by omega), vp_in_nI (by omega) (by omega), ?_⟩
        rw [nI_clamp (show j < 2 ^ 31 by omega), e1, e2]
        refine ok_showsWith hS hN hh hmask hf l1 l2 ?_
        cases hs : swN (I + F) (T f) (c.2.1 j) (c.2.2 j) with
        | false =>
          refine br_t (by decide) ?_
          intro v2 e2
          rw [e2, nI_1]
          refine ih (j + 1) (by omega) (by omega) (fun i hi => ?_)
          by_cases e : i = j
          · rw [e]; exact hs
          · exact h0 i (by omega)
        | true =>
          refine br_f (by decide) ?_
          rw [findI_is (i := j) (by omega) hs] at hQ
          exact hQ
  exact ⟨c.1 + 1, loop (c.1 + 1) 0 (by omega) (by omega) (fun i hi => by omega)⟩
theorem ok_merge {I F N : Nat} {T : Nat → Nat → Bool} {showing : Nat → Int64} {mask : Int64} {Q : Int32 → (Nat → Int32) → (Nat → Int32) → Prop} {f pat : Nat} {c : Nat × (Nat → Nat) × (Nat → Nat)} {tests : Int32} {ones free : Nat → Int32} (hS : I + F ≤ 10) (hN : N ≤ 60) (hh : sHolds (I + F) N T showing) (hmask : maskOk (I + F) mask) (hf : f < 2 * N) (hpat : findI (T f) (2 ^ (I + F)) = some pat) (hc : cst (I + F) c tests ones free) (hcn : c.1 < 120)
    (hQ : ∀ t o fr, cst (I + F) (mrg c (anN pat (frN (I + F) (T f) pat (I + F))) (frN (I + F) (T f) pat (I + F))) t o fr → Q t o fr) : v_X1_merge (nI (wN (I + F))) mask tests (nI I) (nI F) showing ones free (nI f) Q := by
  obtain ⟨rfl, hc⟩ := hc
  have h10 : (2 : Nat) ^ (I + F) ≤ 2 ^ 10 := Nat.pow_le_pow_right (by decide) hS
  have hp := (findI_of _ hpat).1
  have hfl := frN_lt (S := I + F) (T := T f) (pat := pat) (I + F)
  have hol : anN pat (frN (I + F) (T f) pat (I + F)) < 2 ^ (I + F) := anN_lt hp
  refine ok_freeSources hS hN hh hmask hf hpat (ok_leastPattern hS hN hh hf ?_)
  rw [hpat]
  intro v5 e5
  rw [e5, show sti (some pat) = nI pat from rfl, andNot]
  generalize frN (I + F) (T f) pat (I + F) = fr at *
  generalize anN pat fr = o at *
  have loop : ∀ (d j : Nat), j ≤ c.1 → c.1 < j + d → (∀ i, i < j → decide (anN (c.2.1 i ^^^ o) (c.2.2 i ||| fr) = 0) = false) → v_X1_merge_b19 (nI (wN (I + F))) mask (nI I) (nI F) showing Q d (nI c.1) ones free (nI fr) (nI o) (nI j) := by
    intro d
    induction d with
    | zero => intro j h1 h2; omega
    | succ d ih =>
      intro j h1 h2 h0
      by_cases hj : c.1 ≤ j
      · refine br_t (nI_le hj (by omega)) ⟨vp_in_nI (by omega) (by omega), vp_in_nI (by omega) (by omega), ?_⟩
        intro v1 e1
        rw [e1, nI_1, nI_clamp (show c.1 < 2 ^ 31 by omega)]
        refine hQ _ _ _ ?_
        unfold mrg
        rw [findI_none c.1 (fun i hi => h0 i (by omega))]
        refine ⟨rfl, fun i hi => ?_⟩
        have hi2 : i < c.1 + 1 := hi
        show upd _ _ _ _ = nI (if i = c.1 then o else c.2.1 i) ∧ upd _ _ _ _ = nI (if i = c.1 then fr else c.2.2 i) ∧ (if i = c.1 then o else c.2.1 i) < _ ∧ (if i = c.1 then fr else c.2.2 i) < _
        by_cases e : i = c.1
        · subst e
          rw [if_pos rfl, if_pos rfl, pk_us, pk_us]
          exact ⟨rfl, rfl, hol, hfl⟩
        · rw [if_neg e, if_neg e, pk_un e, pk_un e]
          exact hc i (by omega)
      · obtain ⟨e1, e2, l1, l2⟩ := hc j (by omega)
        have hi : vp_in (nI j) 120 := vp_in_nI (by omega) (by omega)
        refine br_f (nI_ge (by omega) (by omega)) ⟨hi, hi, ?_⟩
        rw [nI_clamp (show j < 2 ^ 31 by omega), e1, e2, nI_xor, nI_or, andNot, nI_or, nI_and]
        have hx : anN (c.2.1 j ^^^ o) (c.2.2 j ||| fr) < 2 ^ (I + F) := anN_lt (Nat.xor_lt_two_pow l1 hol)
        refine ⟨fun h => ?_, fun h => ⟨hi, hi, hi, hi, ?_⟩⟩
        · intro v2 e2
          rw [e2, nI_1]
          refine ih (j + 1) (by omega) (by omega) (fun i hi => ?_)
          by_cases e : i = j
          · rw [e]; exact decide_eq_false (fun q => h (by rw [q]; rfl))
          · exact h0 i (by omega)
        · have hz := (nI_is0 (by omega)).mp h
          refine hQ _ _ _ ?_
          unfold mrg
          rw [findI_some (i := j) (decide_eq_true hz) h0 c.1 (by omega)]
          refine ⟨rfl, fun i hi => ?_⟩
          have hi2 : i < c.1 := hi
          show upd _ _ _ _ = nI (if i = j then c.2.1 j ||| o else c.2.1 i) ∧ upd _ _ _ _ = nI (if i = j then c.2.2 j &&& fr else c.2.2 i) ∧ (if i = j then c.2.1 j ||| o else c.2.1 i) < _ ∧ (if i = j then c.2.2 j &&& fr else c.2.2 i) < _
          by_cases e : i = j
          · subst e
            rw [if_pos rfl, if_pos rfl, pk_us, pk_us]
            exact ⟨rfl, rfl, Nat.or_lt_two_pow l1 hol, Nat.lt_of_le_of_lt Nat.and_le_left l2⟩
          · rw [if_neg e, if_neg e, pk_un e, pk_un e]
            exact hc i hi2
  exact ⟨c.1 + 1, loop (c.1 + 1) 0 (by omega) (by omega) (fun i hi => by omega)⟩
set_option maxHeartbeats 1000000 in
theorem ok_choose {I F N O : Nat} {op cnt : Nat → Nat} {a : Nat → Nat → Nat} {out : Nat → Nat} {nxt : Nat → Option Nat} {oper looked lcount output next : Nat → Int32} {val : Nat → Int64} {T : Nat → Nat → Bool} {showing : Nat → Int64} {mask : Int64} {Q : Int32 → Int32 → (Nat → Int32) → (Nat → Int64) → (Nat → Int32) → (Nat → Int32) → Prop} {tb ts : Int32} {ones due free : Nat → Int32} (hN : N ≤ 60) (hS : I + F ≤ N) (hS2 : I + F ≤ 10) (hO : O ≤ 8) (hg : gates (I + F) N op cnt a) (hh : cHolds (I + F) N op cnt a oper looked lcount) (hoh : oHolds F N O out nxt output next) (hsh : sHolds (I + F) N T showing) (hmask : maskOk (I + F) mask)
    (hQ : ∀ t o val due fr, cst (I + F) (chN (I + F) T (2 * N)) t o fr → (∀ i, i < (chN (I + F) T (2 * N)).1 → due i = nI (cAns I F O op cnt a out nxt none ((chN (I + F) T (2 * N)).2.1 i))) → Q (nI (tsN (I + F) T (2 * N))) t o val due fr) :
    v_X1_choose (nI (wN (I + F))) mask tb ts (nI I) (nI F) (nI N) (nI O) ones val oper looked lcount next output due showing free Q := by
  have h10 : (2 : Nat) ^ (I + F) ≤ 2 ^ 10 := Nat.pow_le_pow_right (by decide) hS2
  have hle := chN_le (I + F) T (2 * N)
  have loop64 : ∀ (o fr : Nat → Int32) (t : Int32), cst (I + F) (chN (I + F) T (2 * N)) t o fr → ∀ (d j : Nat) (val : Nat → Int64) (due : Nat → Int32), j ≤ (chN (I + F) T (2 * N)).1 → (chN (I + F) T (2 * N)).1 < j + d → (∀ i, i < j → due i = nI (cAns I F O op cnt a out nxt none ((chN (I + F) T (2 * N)).2.1 i))) →
      v_X1_choose_b64 (nI (wN (I + F))) mask (nI I) (nI F) (nI N) (nI O) oper looked lcount next output showing Q d (nI (tsN (I + F) T (2 * N))) t o val due fr (nI j) := by
    intro o fr t hc d
    induction d with
    | zero => intro j val due h1 h2; omega
    | succ d ih =>
      intro j val due h1 h2 hd
      have hc2 := hc
      obtain ⟨rfl, hc3⟩ := hc
      by_cases hj : (chN (I + F) T (2 * N)).1 ≤ j
      · exact br_t (nI_le hj (by omega)) (hQ _ _ _ _ _ hc2 (fun i hi => hd i (by omega)))
      · obtain ⟨e1, -, l1, -⟩ := hc3 j (by omega)
        have hi : vp_in (nI j) 120 := vp_in_nI (by omega) (by omega)
        refine br_f (nI_ge (by omega) (by omega)) ⟨hi, ?_⟩
        rw [nI_clamp (show j < 2 ^ 31 by omega), e1]
        refine ok_respond2 (o := none) hN hS hS2 hO hg hh (fun f h => by cases h) hoh (by omega) (fun val2 => ⟨hi, ?_⟩)
        intro v4 e4
        rw [e4, nI_1]
        refine ih (j + 1) val2 _ (by omega) (by omega) (fun i hi => ?_)
        by_cases e : i = j
        · subst e; rw [pk_us]
        · rw [pk_un e]; exact hd i (by omega)
  have loop12 : ∀ (d j : Nat) (o fr : Nat → Int32) (t : Int32), j ≤ 2 * N → 2 * N < j + d → cst (I + F) (chN (I + F) T j) t o fr →
      v_X1_choose_b12 (nI (wN (I + F))) mask (nI I) (nI F) (nI N) (nI O) oper looked lcount next output showing Q d (nI (tsN (I + F) T j)) t o val due fr (nI j) := by
    intro d
    induction d with
    | zero => intro j o fr t h1 h2; omega
    | succ d ih =>
      intro j o fr t h1 h2 hc
      have e2 : (2 : Int32) * nI N = nI (2 * N) := pk_mul 2 N
      rw [v_X1_choose_b12]
      dsimp only
      rw [e2]
      have hcl := chN_le (I + F) T j
      by_cases hj : 2 * N ≤ j
      · have : j = 2 * N := by omega
        subst this
        exact br_t (nI_le hj (by omega)) ⟨(chN (I + F) T (2 * N)).1 + 1, loop64 o fr t hc _ 0 val due (by omega) (by omega) (fun i hi => by omega)⟩
      · refine br_f (nI_ge (by omega) (by omega)) (ok_isTestable hS2 hN hsh (by omega) ?_)
        have go : ∀ (x : Nat) (t : Int32) (o fr : Nat → Int32), x = tsN (I + F) T (j + 1) → cst (I + F) (chN (I + F) T (j + 1)) t o fr → v_X1_choose_b56 (nI (wN (I + F))) mask (nI I) (nI F) (nI N) (nI O) oper looked lcount next output showing Q (v_X1_choose_b12 (nI (wN (I + F))) mask (nI I) (nI F) (nI N) (nI O) oper looked lcount next output showing Q d) (nI x) t o val due fr (nI j) := by
          intro x t o fr ex hc v1 e1
          rw [e1, nI_1, ex]
          exact ih (j + 1) o fr t (by omega) (by omega) hc
        cases hp : findI (T j) (2 ^ (I + F)) with
        | none =>
          refine br_t (by decide) (go _ t o fr (by rw [tsN, hp]; rfl) ?_)
          rw [chN, chs, hp]
          exact hc
        | some p =>
          refine br_f (show ¬ bI true = 0 by decide) ?_
          intro v6 e6
          rw [e6, nI_1]
          refine ok_showsWithChosen hS2 hN hsh hmask (by omega) hc (by omega) ?_
          cases hs : (findI (fun i => swN (I + F) (T j) ((chN (I + F) T j).2.1 i) ((chN (I + F) T j).2.2 i)) (chN (I + F) T j).1).isSome with
          | true =>
            refine ⟨fun _ => go _ t o fr (by rw [tsN, hp]; rfl) ?_, fun q => absurd q (by decide)⟩
            rw [chN, chs, hp]
            show cst _ (if _ then _ else _) _ _ _
            rw [if_pos hs]
            exact hc
          | false =>
            refine ⟨fun q => absurd rfl q, fun _ => ok_merge hS2 hN hsh hmask (by omega) hp hc (by omega) (fun t2 o2 fr2 hc2 => go _ t2 o2 fr2 (by rw [tsN, hp]; rfl) ?_)⟩
            rw [chN, chs, hp]
            show cst _ (if _ then _ else _) _ _ _
            rw [if_neg (by rw [hs]; decide)]
            exact hc2
  exact ⟨2 * N + 1, loop12 (2 * N + 1) 0 ones free 0 (by omega) (by omega) ⟨rfl, fun i hi => absurd hi (by show ¬ i < 0; omega)⟩⟩
set_option maxHeartbeats 1000000 in
/-- Choice.make of a choice that isn't made -/
theorem ok_make0 {I F N O : Nat} {op cnt : Nat → Nat} {a : Nat → Nat → Nat} {out : Nat → Nat} {nxt : Nat → Option Nat} {oper looked lcount output next : Nat → Int32} {val good showing : Nat → Int64} {mask : Int64} {Q : Int32 → Int32 → Int64 → Int32 → Int32 → (Nat → Int32) → (Nat → Int64) → (Nat → Int32) → (Nat → Int64) → (Nat → Int32) → (Nat → Int64) → Prop} {words tb ts : Int32} {ones due free : Nat → Int32} (hN : N ≤ 60) (hS : I + F ≤ N) (hS2 : I + F ≤ 10) (hO : O ≤ 8) (hg : gates (I + F) N op cnt a) (hh : cHolds (I + F) N op cnt a oper looked lcount) (hoh : oHolds F N O out nxt output next)
    (hQ : ∀ mask t o val due sh fr gd, maskOk (I + F) mask → sHolds (I + F) N (shw I F O op cnt a out nxt) sh → cst (I + F) (chN (I + F) (shw I F O op cnt a out nxt) (2 * N)) t o fr → (∀ i, i < (chN (I + F) (shw I F O op cnt a out nxt) (2 * N)).1 → due i = nI (cAns I F O op cnt a out nxt none ((chN (I + F) (shw I F O op cnt a out nxt) (2 * N)).2.1 i))) → Q 1 (nI (wN (I + F))) mask (nI (tsN (I + F) (shw I F O op cnt a out nxt) (2 * N))) t o val due sh fr gd) :
    v_X1_make 0 words mask tb ts (nI I) (nI F) (nI N) (nI O) ones val oper looked lcount next output due showing free good Q := by
  obtain ⟨w1, w2, w3, w4⟩ := wN_le hS2
  refine br_t rfl (ok_sources ?_)
  have loop : ∀ (mask2 : Int64), maskOk (I + F) mask2 → ∀ (d j : Nat) (val gd sh : Nat → Int64), j ≤ wN (I + F) → wN (I + F) < j + d → (∀ f, f < 2 * N → ∀ w, w < j → ∀ b, b < 64 → lane (sh (16 * f + w)) b = (shw I F O op cnt a out nxt f (64 * w + b) && lane mask2 b)) →
      v_X1_make_b66 (nI I) (nI F) (nI N) (nI O) oper looked lcount next output Q d 1 (nI (wN (I + F))) mask2 tb ts ones val due sh free gd (nI j) := by
    intro mask2 hm d
    induction d with
    | zero => intro j val gd sh h1 h2; omega
    | succ d ih =>
      intro j val gd sh h1 h2 hl
      by_cases hj : wN (I + F) ≤ j
      · refine br_t (nI_le hj (by omega)) ?_
        have hsh : sHolds (I + F) N (shw I F O op cnt a out nxt) sh := by
          intro f hf w hw b hb
          rw [hl f hf w (by omega) b hb, hm b hb]
          congr 1
          apply decide_eq_decide.mpr
          by_cases h6 : 6 ≤ I + F
          · have := w4 h6
            exact ⟨fun _ => by omega, fun _ => Or.inr h6⟩
          · have e1 : wN (I + F) = 1 := by unfold wN; rw [if_neg (by omega)]
            have : w = 0 := by omega
            subst this
            exact ⟨fun q => by omega, fun q => Or.inl (by omega)⟩
        exact ok_choose hN hS hS2 hO hg hh hoh hsh hm (fun t o val due fr h3 h4 => hQ mask2 t o val due sh fr gd hm hsh h3 h4)
      · refine br_f (nI_ge (by omega) (by omega)) ?_
        refine ok_weigh hN hS hS2 hO hg hh hoh (by omega) (fun val2 gd2 sh2 h3 h4 => ?_)
        intro v10 e10
        rw [e10, nI_1]
        refine ih (j + 1) val2 gd2 sh2 (by omega) (by omega) (fun f hf w hw b hb => ?_)
        by_cases e : w = j
        · subst e; exact h3 f hf b hb
        · rw [h4 f hf w (by omega) e]; exact hl f hf w (by omega) b hb
  have b61 : ∀ (mask2 : Int64), maskOk (I + F) mask2 → v_X1_make_b61 (nI I) (nI F) (nI N) (nI O) oper looked lcount next output Q 1 (nI (wN (I + F))) mask tb ts ones val due showing free good mask2 := fun mask2 hm => ⟨wN (I + F) + 1, loop mask2 hm _ 0 val good showing (by omega) (by omega) (fun f hf w hw => by omega)⟩
  have b38 : v_X1_make_b38 (nI I) (nI F) (nI N) (nI O) oper looked lcount next output Q 1 words mask tb ts ones val due showing free good (nI (I + F)) (nI (wN (I + F))) := by
    by_cases h6 : I + F < 6
    · refine br_t (nI_lt (b := 6) h6 (by decide)) (b61 _ ?_)
      intro b hb
      have small : ∀ S, S < 6 → ∀ b, b < 64 → lane (((1 : Int64) <<< (((1 : Int32) <<< (nI S &&& 31)).toInt64 &&& 63)) - (1 : Int64)) b = decide (b < 2 ^ S ∨ 6 ≤ S) := by decide +kernel
      exact small (I + F) h6 b hb
    · refine br_f (nI_nlt (b := 6) (by omega) (by omega)) (b61 _ ?_)
      intro b hb
      rw [lane_m1 hb, decide_eq_true (Or.inr (by omega))]
  by_cases h6 : I + F ≤ 6
  · refine br_t (nI_le (b := 6) h6 (by decide)) ?_
    rw [wN, if_neg (by omega)] at b38
    exact b38
  · refine br_f (nI_ge (b := I + F) (a := 6) (by omega) (by omega)) ?_
    rw [wN, if_pos (by omega)] at b38
    have hpw : (2 : Nat) ^ (I + F - 6) ≤ 2 ^ 4 := Nat.pow_le_pow_right (by decide) (by omega)
    rw [nI_lit6, pk_sub (by omega), show (1 : Int32) = nI 1 from rfl, pk_shlN _ (I + F - 6) (s_l _ (by omega)) (by omega), Nat.one_mul]
    exact b38
