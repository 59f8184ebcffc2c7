section SHOWS
variable {I F N O : Nat} {op cn : Nat → Nat} {ar : Nat → Nat → Nat} {out : Nat → Nat} {nxt : Nat → Option Nat} {oper looked lcount cout cnext mop taken takes mout mnext : Nat → Int32}
variable {hm w tb ts : Int32} {mk : Int64} {on du fr : Nat → Int32} {va sh gd : Nat → Int64}
variable {mth kn cho tes row : Int32} {pr go mon sho fx mva : Nat → Int32}
/-- what is told of a fault -/
def tlR (S : Nat) (T : Nat → Bool) (k : Nat) : Int32 := if k = 0 then nI (cntN T (2 ^ S)) else if k = 1 then sti (findI T (2 ^ S)) else match findI T (2 ^ S) with
  | none => -1
  | some p => if k = 2 then nI (anN p (frN S T p S)) else nI (frN S T p S)
theorem tlR_n {S : Nat} {T : Nat → Bool} {k : Nat} (hk : 1 ≤ k) (h : findI T (2 ^ S) = none) : tlR S T k = -1 := by
  unfold tlR
  rw [if_neg (by omega)]
  by_cases h1 : k = 1
  · rw [if_pos h1, h]; rfl
  · rw [if_neg h1, h]
theorem tlR_2 {S p : Nat} {T : Nat → Bool} (h : findI T (2 ^ S) = some p) : tlR S T 2 = nI (anN p (frN S T p S)) := by
  unfold tlR
  rw [if_neg (by decide), if_neg (by decide), h]
  exact if_pos rfl
theorem tlR_3 {S p : Nat} {T : Nat → Bool} (h : findI T (2 ^ S) = some p) : tlR S T 3 = nI (frN S T p S) := by
  unfold tlR
  rw [if_neg (by decide), if_neg (by decide), h]
  exact if_neg (by decide)
theorem msh_loop {QR : PKt} {f k : Nat} {th : Int32} (hS : I + F ≤ 10) (hN : N ≤ 60) (hf : f < 2 * N) (hk : k < 4) (hh : mSh (I + F) N (shw I F O op cn ar out nxt) sho) (hQ : QR (tlR (I + F) (shw I F O op cn ar out nxt f) k) th kn cho tes row pr go mon sho fx mva) : ∃ f49 : Nat, v_X6_shows_b49 (nI N) (nI I) (nI F) (nI O) mop taken takes mnext mout QR f49 th kn cho tes row pr go mon sho fx mva (nI f) (nI k) 0 0 := by
  have h10 : (2 : Nat) ^ (I + F) ≤ 2 ^ 10 := Nat.pow_le_pow_right (by decide) hS
  have b97 : (k = 0 ∨ k = 1 ∨ findI (shw I F O op cn ar out nxt f) (2 ^ (I + F)) = none) → v_X6_shows_b97 (nI N) (nI I) (nI F) (nI O) mop taken takes mnext mout QR th kn cho tes row pr go mon sho fx mva (nI f) (nI k) (nI (cntN (shw I F O op cn ar out nxt f) (2 ^ (I + F)))) := by
    intro h
    by_cases h0 : k = 0
    · subst h0
      exact nb_t rfl hQ
    · refine nb_f (fun q => h0 ((nI_eq (b := 0) (by omega) (by decide)).mp q)) (ok_leastOf hS hN hh hf ?_)
      rcases h with h | h | h
      · exact absurd h h0
      · subst h; exact hQ
      · rw [h]; rw [tlR_n (by omega) h] at hQ; exact hQ
  have loop : ∀ (d j : Nat), j ≤ 2 ^ (I + F) → 2 ^ (I + F) < j + d → v_X6_shows_b49 (nI N) (nI I) (nI F) (nI O) mop taken takes mnext mout QR d th kn cho tes row pr go mon sho fx mva (nI f) (nI k) (nI (cntN (shw I F O op cn ar out nxt f) j)) (nI j) := by
    intro d
    induction d with
    | zero => intro j h1 h2; omega
    | succ d ih =>
      intro j h1 h2
      rw [v_X6_shows_b49]
      dsimp only
      refine ok_patterns hS ?_
      rw [fp1024, nI_clamp (show 1024 * f + j < 2 ^ 31 by omega)]
      refine pk_le (2 ^ (I + F)) j (fun q => ?_) (fun q => ⟨vp_in_nI (by omega) (by decide), ?_⟩)
      · rw [show j = 2 ^ (I + F) by omega]
        refine pk_lt k 2 (fun q2 => b97 (by omega)) (fun q2 => ?_)
        cases hfi : findI (shw I F O op cn ar out nxt f) (2 ^ (I + F)) with
        | none =>
          have c0 : cntN (shw I F O op cn ar out nxt f) (2 ^ (I + F)) = 0 := by
            refine cntN_0 _ (fun i hi => ?_)
            cases hv : shw I F O op cn ar out nxt f i with
            | false => rfl
            | true =>
              have := findI_is hi hv
              rw [hfi] at this
              exact absurd this (by decide)
          have z := b97 (Or.inr (Or.inr hfi))
          rw [c0] at z ⊢
          exact nb_t rfl z
        | some p =>
          have hp := findI_of _ hfi
          have c1 := cntN_pos hp.2 _ hp.1
          have c2 := cntN_le (shw I F O op cn ar out nxt f) (2 ^ (I + F))
          refine nb_f (nI_ne0 c1 (by omega)) (ok_fixOf hS hN hh hf hfi ?_)
          by_cases hk2 : k = 2
          · subst hk2
            refine nb_t rfl (ok_leastOf hS hN hh hf ?_)
            rw [hfi, show sti (some p) = nI p from rfl, nI_and, and_fixN hp.1]
            rw [tlR_2 hfi] at hQ
            exact hQ
          · have hk3 : k = 3 := by omega
            subst hk3
            refine nb_f (by decide) (ok_patterns hS ?_)
            have hfr := frN_lt (S := I + F) (T := (shw I F O op cn ar out nxt f)) (pat := p) (I + F)
            have e1 : nI (2 ^ (I + F)) - (1 : Int32) = nI (2 ^ (I + F) - 1) := pk_sub (b := 1) (Nat.two_pow_pos _)
            rw [e1, andNot, free_fix hfr]
            rw [tlR_3 hfi] at hQ
            exact hQ
      · rw [hh f hf j q]
        cases hv : shw I F O op cn ar out nxt f j with
        | false =>
          refine br_t rfl (lt_v ?_)
          rw [nI_1]
          have := ih (j + 1) (by omega) (by omega)
          rw [cntN, hv] at this
          exact this
        | true =>
          refine br_f (by decide) (lt_v ?_)
          rw [nI_1, nI_1]
          have := ih (j + 1) (by omega) (by omega)
          rw [cntN, hv] at this
          exact this
  exact ⟨2 ^ (I + F) + 1, loop (2 ^ (I + F) + 1) 0 (Nat.zero_le _) (by omega)⟩
theorem f_shows {QC : PHt} {X : PHx} {p0 p1 : Int32} (hc : cirR I F N O op cn ar out nxt oper looked lcount cout cnext mop taken takes mout mnext) (hH : hMade I F N O op cn ar out nxt hm w mk tb ts on du fr sh) (hM : mKnown I F N O op cn ar out nxt kn cho tes row pr mon sho fx)
    (hy : ∀ r hm w mk tb ts on va du sh fr gd, hMade I F N O op cn ar out nxt hm w mk tb ts on du fr sh → (∀ QR : PKt, (∀ kn cho tes row pr go mon sho fx mva, mKnown I F N O op cn ar out nxt kn cho tes row pr mon sho fx → QR r 0 kn cho tes row pr go mon sho fx mva) → v_X6_shows mth (nI N) (nI I) (nI F) (nI O) kn cho tes row pr go mon sho fx mop taken mva takes mnext mout p0 p1 QR) → QC r hm w mk tb ts on va du sh fr gd)
    (hx : ∀ hm w mk tb ts on va du sh fr gd, hMade I F N O op cn ar out nxt hm w mk tb ts on du fr sh → (∀ QR : PKt, (∀ kn cho tes row pr go mon sho fx mva, mKnown I F N O op cn ar out nxt kn cho tes row pr mon sho fx → QR 0 1 kn cho tes row pr go mon sho fx mva) → v_X6_shows mth (nI N) (nI I) (nI F) (nI O) kn cho tes row pr go mon sho fx mop taken mva takes mnext mout p0 p1 QR) → X "java/lang/IndexOutOfBoundsException" hm w mk tb ts on va du sh fr gd)
    (hx2 : ∀ hm w mk tb ts on va du sh fr gd, hMade I F N O op cn ar out nxt hm w mk tb ts on du fr sh → (∀ QR : PKt, (∀ kn cho tes row pr go mon sho fx mva, mKnown I F N O op cn ar out nxt kn cho tes row pr mon sho fx → QR 0 2 kn cho tes row pr go mon sho fx mva) → v_X6_shows mth (nI N) (nI I) (nI F) (nI O) kn cho tes row pr go mon sho fx mop taken mva takes mnext mout p0 p1 QR) → X "java/lang/IllegalArgumentException" hm w mk tb ts on va du sh fr gd) :
    v_X5_shows (nI I) (nI F) (nI N) (nI O) hm w mk tb ts on va oper looked lcount cnext cout du sh fr gd p0 p1 QC X := by
  obtain ⟨⟨c1, c2, c3, c4⟩, c5, c6, c7, c8, c9⟩ := hc
  have hc : cirR I F N O op cn ar out nxt oper looked lcount cout cnext mop taken takes mout mnext := ⟨⟨c1, c2, c3, c4⟩, c5, c6, c7, c8, c9⟩
  rcases stuck_cases c3 p0 with ⟨f, hf, h⟩ | h
  · subst h
    refine isStuck_y c3 hf (nb_f (by decide) (ok_make hc hH (fun w' mk' tb' ts' on' va' du' sh' fr' gd' q1 => ?_)))
    rw [q1.1]
    have q1w : w' = nI (wN (I + F)) := q1.1
    subst q1w
    have n4 : ∀ q, q < 0 ∨ nI 4 ≤ q → ∀ k, k < 4 → ¬ q = nI k := by
      intro q hq k hk e
      rw [e] at hq
      rcases hq with h | h
      · exact nI_pos (by omega) h
      · exact nI_ge hk (by decide) h
    have bad : p1 < 0 ∨ nI 4 ≤ p1 → X "java/lang/IllegalArgumentException" 1 (nI (wN (I + F))) mk' tb' ts' on' va' du' sh' fr' gd' := by
      intro hp
      refine hx2 _ _ _ _ _ _ _ _ _ _ _ (Or.inr ⟨rfl, q1⟩) (fun QR z => noStuck0_y c3 hf (br_t rfl ?_))
      have z1 := z kn cho tes row pr go mon sho fx mva hM
      rcases hp with h | h
      · exact br_t h (br_f (by decide) z1)
      · refine br_f (fun q => ?_) (br_f (fun q => ?_) (br_f (by decide) z1))
        · exact absurd (Int32.lt_of_le_of_lt h q) (by decide)
        · exact absurd (Int32.le_trans h q) (by decide)
    have fR : ∀ (k : Nat), k < 4 → p1 = nI k → ∀ QR : PKt, (∀ kn cho tes row pr go mon sho fx mva, mKnown I F N O op cn ar out nxt kn cho tes row pr mon sho fx → QR (tlR (I + F) (shw I F O op cn ar out nxt f) k) 0 kn cho tes row pr go mon sho fx mva) → v_X6_shows mth (nI N) (nI I) (nI F) (nI O) kn cho tes row pr go mon sho fx mop taken mva takes mnext mout (nI f) p1 QR := by
      intro k hk hp QR z
      subst hp
      refine noStuck0_y c3 hf (br_t rfl (br_f (nI_pos (by omega)) (br_t (nI_le (b := 3) (by omega) (by decide)) (br_t (by decide) (ok_know hc hM (fun cho tes row pr go mon sho fx mva q => ?_))))))
      exact msh_loop c1 c3 hf hk q.1 (z _ _ _ _ _ _ _ _ _ _ (Or.inr ⟨rfl, q⟩))
    rcases pk_ix p1 (n := 4) (by decide) with h | h | ⟨k, hk, h⟩
    · have nn := n4 p1 (Or.inl h)
      exact br_f (nn 0 (by decide)) (br_f (nn 1 (by decide)) (br_f (nn 2 (by decide)) (br_f (nn 3 (by decide)) (bad (Or.inl h)))))
    · have nn := n4 p1 (Or.inr h)
      exact br_f (nn 0 (by decide)) (br_f (nn 1 (by decide)) (br_f (nn 2 (by decide)) (br_f (nn 3 (by decide)) (bad (Or.inr h)))))
    · have : k = 0 ∨ k = 1 ∨ k = 2 ∨ k = 3 := by omega
      rcases this with e | e | e | e <;> subst e
      · exact br_t h (ok_patternCount c1 c3 q1.2.2.1 hf (hy _ _ _ _ _ _ _ _ _ _ _ _ (Or.inr ⟨rfl, q1⟩) (fR 0 hk h)))
      · exact br_f (by rw [h]; decide) (br_t h (ok_leastPattern c1 c3 q1.2.2.1 hf (hy _ _ _ _ _ _ _ _ _ _ _ _ (Or.inr ⟨rfl, q1⟩) (fR 1 hk h))))
      · refine br_f (by rw [h]; decide) (br_f (by rw [h]; decide) (br_t h (ok_isTestable c1 c3 q1.2.2.1 hf ?_)))
        have z := fR 2 hk h
        cases hfi : findI (shw I F O op cn ar out nxt f) (2 ^ (I + F)) with
        | none =>
          rw [tlR_n (by decide) hfi] at z
          exact br_t rfl (hy _ _ _ _ _ _ _ _ _ _ _ _ (Or.inr ⟨rfl, q1⟩) z)
        | some p =>
          rw [tlR_2 hfi] at z
          refine br_f (show ¬ bI true = 0 by decide) (ok_leastPattern c1 c3 q1.2.2.1 hf (ok_freeSources c1 c3 q1.2.2.1 q1.2.1 hf hfi ?_))
          rw [hfi, show sti (some p) = nI p from rfl, andNot]
          exact hy _ _ _ _ _ _ _ _ _ _ _ _ (Or.inr ⟨rfl, q1⟩) z
      · refine br_f (by rw [h]; decide) (br_f (by rw [h]; decide) (br_f (by rw [h]; decide) (br_t h (ok_isTestable c1 c3 q1.2.2.1 hf ?_))))
        have z := fR 3 hk h
        cases hfi : findI (shw I F O op cn ar out nxt f) (2 ^ (I + F)) with
        | none =>
          rw [tlR_n (by decide) hfi] at z
          exact br_t rfl (hy _ _ _ _ _ _ _ _ _ _ _ _ (Or.inr ⟨rfl, q1⟩) z)
        | some p =>
          rw [tlR_3 hfi] at z
          exact br_f (show ¬ bI true = 0 by decide) (ok_freeSources c1 c3 q1.2.2.1 q1.2.1 hf hfi (hy _ _ _ _ _ _ _ _ _ _ _ _ (Or.inr ⟨rfl, q1⟩) z))
  · refine isStuck_n h (nb_t rfl (hx _ _ _ _ _ _ _ _ _ _ _ hH (fun QR z => noStuck0_n h (br_f (by decide) ?_))))
    exact br_f (by decide) (z _ _ _ _ _ _ _ _ _ _ hM)
end SHOWS
