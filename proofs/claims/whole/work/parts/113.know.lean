/-! THE REFERENCE: know -/
theorem narB (b : Bool) : vp_nar .boolean (bI b) = bI b := by cases b <;> rfl
theorem sti_neg (x : Option Nat) (h : ∀ n, x = some n → n < 2 ^ 31) : sti x < 0 ↔ x.isSome = false := by
  cases x with
  | none => exact ⟨fun _ => rfl, fun _ => by decide⟩
  | some n => exact ⟨fun q => absurd q (nI_pos (h n rfl)), fun q => by cases q⟩
theorem findI_small {p : Nat → Bool} {S : Nat} (hS : S ≤ 10) : ∀ n, findI p (2 ^ S) = some n → n < 2 ^ 31 := fun n h => by
  have h10 : (2 : Nat) ^ S ≤ 2 ^ 10 := Nat.pow_le_pow_right (by decide) hS
  have := (findI_of _ h).1
  omega
theorem nI_inj18 {a b : Nat} (ha : a < 2 ^ 18) (hb : b < 2 ^ 18) : nI a = nI b ↔ a = b := nI_eq (by omega) (by omega)
set_option maxHeartbeats 2000000 in
/-- know of a reference that doesn't know -/
theorem ok_know0 {I F N O : Nat} {op cnt : Nat → Nat} {a : Nat → Nat → Nat} {out : Nat → Nat} {nxt : Nat → Option Nat} {mop taken takes value output next : Nat → Int32} {chosen testable rows : Int32} {program good ones shown fixed : Nat → Int32} {Q : Int32 → Int32 → Int32 → Int32 → (Nat → Int32) → (Nat → Int32) → (Nat → Int32) → (Nat → Int32) → (Nat → Int32) → (Nat → Int32) → Prop} (hN : N ≤ 60) (hS : I + F ≤ N) (hS2 : I + F ≤ 10) (hO : O ≤ 8) (hg : gates (I + F) N op cnt a) (hh : mHolds (I + F) N op cnt a mop taken takes) (hoh : oHolds F N O out nxt output next)
    (hQ : ∀ t pr gd on sh fx val, mSh (I + F) N (shw I F O op cnt a out nxt) sh → cstM (I + F) (chN (I + F) (shw I F O op cnt a out nxt) (2 * N)) t on fx → goodRows I F O (chN (I + F) (shw I F O op cnt a out nxt) (2 * N)).1 (chN (I + F) (shw I F O op cnt a out nxt) (2 * N)).2.1 (fun i => cAns I F O op cnt a out nxt none ((chN (I + F) (shw I F O op cnt a out nxt) (2 * N)).2.1 i)) pr (rowN F (chN (I + F) (shw I F O op cnt a out nxt) (2 * N)).1) → Q 1 t (nI (tsN (I + F) (shw I F O op cnt a out nxt) (2 * N))) (nI (rowN F (chN (I + F) (shw I F O op cnt a out nxt) (2 * N)).1)) pr gd on sh fx val) :
    v_X6_know (nI N) (nI I) (nI F) (nI O) 0 chosen testable rows program good ones shown fixed mop taken value takes next output Q := by
  have h10 : (2 : Nat) ^ (I + F) ≤ 2 ^ 10 := Nat.pow_le_pow_right (by decide) hS2
  have e2 : (2 : Int32) * nI N = nI (2 * N) := pk_mul 2 N
  have cl : ∀ (x : Option Nat) (p : Nat), cAns I F O op cnt a out nxt x p < 2 ^ 18 := fun x p => cAns_lt hO (by omega)
  refine br_t rfl ?_
  -- the choice
  have loop144 : ∀ (gd sh val : Nat → Int32), (∀ p, p < 2 ^ (I + F) → gd p = nI (cAns I F O op cnt a out nxt none p)) → mSh (I + F) N (shw I F O op cnt a out nxt) sh → ∀ (d j : Nat) (on fx : Nat → Int32) (t : Int32), j ≤ 2 * N → 2 * N < j + d → cstM (I + F) (chN (I + F) (shw I F O op cnt a out nxt) j) t on fx →
      v_X6_know_b144 (nI N) (nI I) (nI F) (nI O) mop taken takes next output Q d 1 t (nI (tsN (I + F) (shw I F O op cnt a out nxt) (2 * N))) rows program gd on sh fx val (nI j) := by
    intro gd sh val hgd hsh d
    induction d with
    | zero => intro j on fx t h1 h2; omega
    | succ d ih =>
      intro j on fx t h1 h2 hc
      rw [v_X6_know_b144]
      dsimp only
      rw [e2]
      have hcl := chN_le (I + F) (shw I F O op cnt a out nxt) j
      by_cases hj : 2 * N ≤ j
      · have : j = 2 * N := by omega
        subst this
        refine br_t (nI_le hj (by omega)) ?_
        have hc0 := hc
        obtain ⟨rfl, hc⟩ := hc
        exact ok_write hS2 hO (by omega) (fun i hi => ⟨(hc i hi).1, (hc i hi).2.2.1⟩) (gd := fun p => cAns I F O op cnt a out nxt none p) (fun p hp => ⟨hgd p hp, cl _ _⟩) (fun i _ => rfl) (fun pr hpr => hQ _ pr gd on sh fx val hsh hc0 hpr)
      · refine br_f (nI_ge (by omega) (by omega)) (ok_leastOf hS2 hN hsh (by omega) ?_)
        have go : ∀ (t : Int32) (on fx : Nat → Int32), cstM (I + F) (chN (I + F) (shw I F O op cnt a out nxt) (j + 1)) t on fx → v_X6_know_b167 (nI N) (nI I) (nI F) (nI O) mop taken takes next output Q (v_X6_know_b144 (nI N) (nI I) (nI F) (nI O) mop taken takes next output Q d) 1 t (nI (tsN (I + F) (shw I F O op cnt a out nxt) (2 * N))) rows program gd on sh fx val (nI j) := by
          intro t on fx hc v7 e7
          rw [e7, nI_1]
          exact ih (j + 1) on fx t (by omega) (by omega) hc
        cases hp : findI (shw I F O op cnt a out nxt j) (2 ^ (I + F)) with
        | none =>
          refine br_t (by decide) (go t on fx ?_)
          rw [chN, chs, hp]
          exact hc
        | some p =>
          have hpl := (findI_of _ hp).1
          refine br_f (nI_pos (by omega)) (ok_mchoose hS2 hN hsh (by omega) hp hc (by omega) (fun t2 on2 fx2 hc2 => go t2 on2 fx2 hc2))
  -- what shows
  have loop48 : ∀ (gd : Nat → Int32), (∀ p, p < 2 ^ (I + F) → gd p = nI (cAns I F O op cnt a out nxt none p)) → ∀ (d j : Nat) (sh val : Nat → Int32), j ≤ 2 * N → 2 * N < j + d → (∀ f, f < j → ∀ p, p < 2 ^ (I + F) → sh (1024 * f + p) = bI (shw I F O op cnt a out nxt f p)) →
      v_X6_know_b48 (nI N) (nI I) (nI F) (nI O) mop taken takes next output Q d 1 chosen (nI (tsN (I + F) (shw I F O op cnt a out nxt) j)) rows program gd ones sh fixed val (nI j) := by
    intro gd hgd d
    induction d with
    | zero => intro j sh val h1 h2; omega
    | succ d ih =>
      intro j sh val h1 h2 hsh
      rw [v_X6_know_b48]
      dsimp only
      rw [e2]
      by_cases hj : 2 * N ≤ j
      · have : j = 2 * N := by omega
        subst this
        exact br_t (nI_le hj (by omega)) ⟨2 * N + 1, loop144 gd sh val hgd hsh _ 0 ones fixed 0 (by omega) (by omega) ⟨rfl, fun i hi => absurd hi (by show ¬ i < 0; omega)⟩⟩
      · refine br_f (nI_ge (by omega) (by omega)) ⟨2 ^ (I + F) + 1, ?_⟩
        have loop60 : ∀ (z q : Nat) (sh val : Nat → Int32), q ≤ 2 ^ (I + F) → 2 ^ (I + F) < q + z → (∀ f, f < j → ∀ p, p < 2 ^ (I + F) → sh (1024 * f + p) = bI (shw I F O op cnt a out nxt f p)) → (∀ p, p < q → sh (1024 * j + p) = bI (shw I F O op cnt a out nxt j p)) →
            v_X6_know_b60 (nI N) (nI I) (nI F) (nI O) mop taken takes next output Q (v_X6_know_b48 (nI N) (nI I) (nI F) (nI O) mop taken takes next output Q d) z 1 chosen (nI (tsN (I + F) (shw I F O op cnt a out nxt) j)) rows program gd ones sh fixed val (nI j) (nI q) := by
          intro z
          induction z with
          | zero => intro q sh val q1 q2; omega
          | succ z ih2 =>
            intro q sh val q1 q2 hsh hq
            rw [v_X6_know_b60]
            refine ok_patterns hS2 ?_
            by_cases hqe : 2 ^ (I + F) ≤ q
            · refine br_t (nI_le hqe (by omega)) ?_
              have hsh2 : ∀ f, f < j + 1 → ∀ p, p < 2 ^ (I + F) → sh (1024 * f + p) = bI (shw I F O op cnt a out nxt f p) := fun f hf p hp => by
                by_cases e : f = j
                · subst e; exact hq p (by omega)
                · exact hsh f (by omega) p hp
              have go : ∀ s0 : Int32, s0 = nI (tsN (I + F) (shw I F O op cnt a out nxt) (j + 1)) → v_X6_know_b128 (nI N) (nI I) (nI F) (nI O) mop taken takes next output Q (v_X6_know_b48 (nI N) (nI I) (nI F) (nI O) mop taken takes next output Q d) (v_X6_know_b60 (nI N) (nI I) (nI F) (nI O) mop taken takes next output Q (v_X6_know_b48 (nI N) (nI I) (nI F) (nI O) mop taken takes next output Q d) z) 1 chosen (nI (tsN (I + F) (shw I F O op cnt a out nxt) j)) rows program gd ones sh fixed val (nI j) s0 := by
                intro s0 e0 v2 e2
                rw [e2, nI_1, e0]
                exact ih (j + 1) sh val (by omega) (by omega) hsh2
              refine ok_leastOf1 hS2 (by omega) (fun p hp => hsh2 j (by omega) p hp) ?_
              cases hp : findI (shw I F O op cnt a out nxt j) (2 ^ (I + F)) with
              | none => exact br_t (by decide) (go _ (by rw [tsN, hp]; rfl))
              | some p =>
                have hpl := (findI_of _ hp).1
                exact br_f (nI_pos (by omega)) (go _ (by rw [tsN, hp, nI_1]; rfl))
            · refine br_f (nI_ge (by omega) (by omega)) ?_
              refine ok_answerOf2 (o := some j) hN hS hS2 hO hg hh (fun f h => by cases h; omega) hoh (by omega) (fun val2 => ?_)
              have put : ∀ b : Bool, b = shw I F O op cnt a out nxt j q → v_X6_know_b99 (nI N) (nI I) (nI F) (nI O) mop taken takes next output Q (v_X6_know_b48 (nI N) (nI I) (nI F) (nI O) mop taken takes next output Q d) (v_X6_know_b60 (nI N) (nI I) (nI F) (nI O) mop taken takes next output Q (v_X6_know_b48 (nI N) (nI I) (nI F) (nI O) mop taken takes next output Q d) z) 1 chosen (nI (tsN (I + F) (shw I F O op cnt a out nxt) j)) rows program gd ones sh fixed val2 (nI j) (nI q) (bI b) ((1024 : Int32) * nI j + nI q) := by
                intro b eb
                rw [fp1024]
                refine ⟨vp_in_nI (by omega) (by omega), ?_⟩
                intro v1 e1
                rw [e1, nI_1, nI_clamp (show 1024 * j + q < 2 ^ 31 by omega), narB]
                refine ih2 (q + 1) _ val2 (by omega) (by omega) (fun f hf p hp => ?_) (fun p hp => ?_)
                · rw [pk_un (by omega)]; exact hsh f hf p hp
                · by_cases e : p = q
                  · subst e; rw [pk_us, eb]
                  · rw [pk_un (by omega)]; exact hq p (by omega)
              rw [nI_clamp (show q < 2 ^ 31 by omega), hgd q (by omega), nI_inj18 (cl _ _) (cl _ _)]
              refine ⟨vp_in_nI (by omega) (by omega), fun h => put false ?_, fun h => put true ?_⟩
              · unfold shw; rw [decide_eq_false (fun q => q h)]
              · unfold shw; rw [decide_eq_true h]
        exact loop60 (2 ^ (I + F) + 1) 0 sh val (Nat.zero_le _) (by omega) hsh (fun p hp => by omega)
  -- the good chip's answers
  have loop15 : ∀ (d j : Nat) (gd val : Nat → Int32), j ≤ 2 ^ (I + F) → 2 ^ (I + F) < j + d → (∀ p, p < j → gd p = nI (cAns I F O op cnt a out nxt none p)) →
      v_X6_know_b15 (nI N) (nI I) (nI F) (nI O) mop taken takes next output Q d 1 chosen testable rows program gd ones shown fixed val (nI j) := by
    intro d
    induction d with
    | zero => intro j gd val h1 h2; omega
    | succ d ih =>
      intro j gd val h1 h2 hgd
      rw [v_X6_know_b15]
      refine ok_patterns hS2 ?_
      by_cases hj : 2 ^ (I + F) ≤ j
      · exact br_t (nI_le hj (by omega)) ⟨2 * N + 1, loop48 gd (fun p hp => hgd p (by omega)) _ 0 shown val (by omega) (by omega) (fun f hf => by omega)⟩
      · refine br_f (nI_ge (by omega) (by omega)) ?_
        refine ok_answerOf2 (o := none) hN hS hS2 hO hg hh (fun f h => by cases h) hoh (by omega) (fun val2 => ⟨vp_in_nI (by omega) (by omega), ?_⟩)
        intro v17 e17
        rw [e17, nI_1, nI_clamp (show j < 2 ^ 31 by omega)]
        refine ih (j + 1) _ val2 (by omega) (by omega) (fun p hp => ?_)
        by_cases e : p = j
        · subst e; rw [pk_us]
        · rw [pk_un e]; exact hgd p (by omega)
  exact ⟨2 ^ (I + F) + 1, loop15 _ 0 good value (Nat.zero_le _) (by omega) (fun p hp => by omega)⟩
