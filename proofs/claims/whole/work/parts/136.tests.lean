section TESTS
variable {I F N O : Nat} {op cn : Nat → Nat} {ar : Nat → Nat → Nat} {out : Nat → Nat} {nxt : Nat → Option Nat} {oper looked lcount cout cnext mop taken takes mout mnext : Nat → Int32}
variable {hm w tb ts : Int32} {mk : Int64} {on du fr : Nat → Int32} {va sh gd : Nat → Int64}
variable {mth kn cho tes row : Int32} {pr go mon sho fx mva : Nat → Int32}

theorem f_test {QC : PHt} {X : PHx} {p : Int32} (hc : cirR I F N O op cn ar out nxt oper looked lcount cout cnext mop taken takes mout mnext) (hH : hMade I F N O op cn ar out nxt hm w mk tb ts on du fr sh) (hM : mKnown I F N O op cn ar out nxt kn cho tes row pr mon sho fx)
    (hy : ∀ r hm w mk tb ts on va du sh fr gd, hMade I F N O op cn ar out nxt hm w mk tb ts on du fr sh → (∀ QR : PKt, (∀ kn cho tes row pr go mon sho fx mva, mKnown I F N O op cn ar out nxt kn cho tes row pr mon sho fx → QR r 0 kn cho tes row pr go mon sho fx mva) → v_X6_test mth (nI N) (nI I) (nI F) (nI O) kn cho tes row pr go mon sho fx mop taken mva takes mnext mout p QR) → QC r hm w mk tb ts on va du sh fr gd)
    (hx : ∀ hm w mk tb ts on va du sh fr gd, hMade I F N O op cn ar out nxt hm w mk tb ts on du fr sh → (∀ QR : PKt, (∀ kn cho tes row pr go mon sho fx mva, mKnown I F N O op cn ar out nxt kn cho tes row pr mon sho fx → QR 0 1 kn cho tes row pr go mon sho fx mva) → v_X6_test mth (nI N) (nI I) (nI F) (nI O) kn cho tes row pr go mon sho fx mop taken mva takes mnext mout p QR) → X "java/lang/IndexOutOfBoundsException" hm w mk tb ts on va du sh fr gd) :
    v_X5_test hm w mk tb ts (nI I) (nI F) (nI N) (nI O) on va oper looked lcount cnext cout du sh fr gd p QC X := by
  refine ok_make hc hH (fun w' mk' tb' ts' on' va' du' sh' fr' gd' q1 => ?_)
  have hn : (chO I F N O op cn ar out nxt).1 ≤ 2 * N := chN_le (I + F) (shw I F O op cn ar out nxt) (2 * N)
  have hc3 := hc.1.2.2.1
  have e1 := q1.2.2.2.1.1
  have bad : p < 0 ∨ (¬ p < 0 ∧ ¬ p < nI (chO I F N O op cn ar out nxt).1) → X "java/lang/IndexOutOfBoundsException" 1 w' mk' tb' ts' on' va' du' sh' fr' gd' := by
    intro hp
    refine hx _ _ _ _ _ _ _ _ _ _ _ (Or.inr ⟨rfl, q1⟩) (fun QR z => ok_know hc hM (fun cho tes row pr go mon sho fx mva q => ?_))
    have z1 := z 1 cho tes row pr go mon sho fx mva (Or.inr ⟨rfl, q⟩)
    rcases hp with h | h
    · exact br_t h (br_f (by decide) z1)
    · refine br_f h.1 (br_f ?_ (br_f (by decide) z1))
      rw [q.2.1.1]; exact h.2
  by_cases h0 : p < 0
  · exact br_t h0 (bad (Or.inl h0))
  · by_cases h1 : p < nI (chO I F N O op cn ar out nxt).1
    · rcases pk_ix p (n := (chO I F N O op cn ar out nxt).1) (by omega) with h | h | ⟨j, hj, h⟩
      · exact absurd h h0
      · exact absurd (Int32.lt_of_le_of_lt h h1) (fun q => Int32.lt_irrefl q)
      · subst h
        have j31 : j < 120 := by omega
        refine br_f h0 (br_t (by rw [e1]; exact h1) ⟨vp_in_nI j31 (by decide), ?_⟩)
        rw [nI_clamp (by omega)]
        refine hy _ _ _ _ _ _ _ _ _ _ _ _ (Or.inr ⟨rfl, q1⟩) (fun QR z => ok_know hc hM (fun cho tes row pr go mon sho fx mva q => br_f h0 (br_t (by rw [q.2.1.1]; exact h1) (br_t (by decide) ⟨vp_in_nI j31 (by decide), ?_⟩))))
        rw [nI_clamp (by omega)]
        have z1 := z 1 cho tes row pr go mon sho fx mva (Or.inr ⟨rfl, q⟩)
        rw [(q1.2.2.2.1.2 j hj).1, ← (q.2.1.2 j hj).1] at z1
        exact z1
    · exact br_f h0 (br_f (by rw [e1]; exact h1) (bad (Or.inr ⟨h0, h1⟩)))

theorem f_row {QC : PHt} {X : PHx} {p0 p1 : Int32} (hc : cirR I F N O op cn ar out nxt oper looked lcount cout cnext mop taken takes mout mnext) (hH : hMade I F N O op cn ar out nxt hm w mk tb ts on du fr sh) (hM : mKnown I F N O op cn ar out nxt kn cho tes row pr mon sho fx)
    (hy : ∀ r hm w mk tb ts on va du sh fr gd, hMade I F N O op cn ar out nxt hm w mk tb ts on du fr sh → (∀ QR : PKt, (∀ kn cho tes row pr go mon sho fx mva, mKnown I F N O op cn ar out nxt kn cho tes row pr mon sho fx → QR r 0 kn cho tes row pr go mon sho fx mva) → v_X6_row_ mth (nI N) (nI I) (nI F) (nI O) kn cho tes row pr go mon sho fx mop taken mva takes mnext mout p0 p1 QR) → QC r hm w mk tb ts on va du sh fr gd)
    (hx : ∀ hm w mk tb ts on va du sh fr gd, hMade I F N O op cn ar out nxt hm w mk tb ts on du fr sh → (∀ QR : PKt, (∀ kn cho tes row pr go mon sho fx mva, mKnown I F N O op cn ar out nxt kn cho tes row pr mon sho fx → QR 0 1 kn cho tes row pr go mon sho fx mva) → v_X6_row_ mth (nI N) (nI I) (nI F) (nI O) kn cho tes row pr go mon sho fx mop taken mva takes mnext mout p0 p1 QR) → X "java/lang/IndexOutOfBoundsException" hm w mk tb ts on va du sh fr gd)
    (hx2 : ∀ hm w mk tb ts on va du sh fr gd, hMade I F N O op cn ar out nxt hm w mk tb ts on du fr sh → (∀ QR : PKt, (∀ kn cho tes row pr go mon sho fx mva, mKnown I F N O op cn ar out nxt kn cho tes row pr mon sho fx → QR 0 2 kn cho tes row pr go mon sho fx mva) → v_X6_row_ mth (nI N) (nI I) (nI F) (nI O) kn cho tes row pr go mon sho fx mop taken mva takes mnext mout p0 p1 QR) → X "java/lang/IllegalArgumentException" hm w mk tb ts on va du sh fr gd) :
    v_X5_row hm w mk tb ts (nI I) (nI F) (nI N) (nI O) on va oper looked lcount cnext cout du sh fr gd p0 p1 QC X := by
  refine ok_make hc hH (fun w' mk' tb' ts' on' va' du' sh' fr' gd' q1 => ?_)
  have hn : (chO I F N O op cn ar out nxt).1 ≤ 2 * N := chN_le (I + F) (shw I F O op cn ar out nxt) (2 * N)
  obtain ⟨⟨c1, c2, c3, c4⟩, c5, c6, c7, c8, c9⟩ := hc
  have hc : cirR I F N O op cn ar out nxt oper looked lcount cout cnext mop taken takes mout mnext := ⟨⟨c1, c2, c3, c4⟩, c5, c6, c7, c8, c9⟩
  have e1 := q1.2.2.2.1.1
  have hr := rowN_lt (F := F) (n := (chO I F N O op cn ar out nxt).1) (by omega) (by omega)
  have hon : ∀ i, i < (chO I F N O op cn ar out nxt).1 → on' i = nI ((chO I F N O op cn ar out nxt).2.1 i) ∧ (chO I F N O op cn ar out nxt).2.1 i < 2 ^ (I + F) := fun i hi => ⟨(q1.2.2.2.1.2 i hi).1, (q1.2.2.2.1.2 i hi).2.2.1⟩
  have hdu : ∀ i, i < (chO I F N O op cn ar out nxt).1 → du' i = nI (cAns I F O op cn ar out nxt none ((chO I F N O op cn ar out nxt).2.1 i)) ∧ cAns I F O op cn ar out nxt none ((chO I F N O op cn ar out nxt).2.1 i) < 2 ^ 18 := fun i hi => ⟨q1.2.2.2.2.2 i hi, cAns_lt c4 (by omega)⟩
  have bad : p0 < 0 ∨ (¬ p0 < 0 ∧ ¬ p0 < nI (rowN F (chO I F N O op cn ar out nxt).1)) → X "java/lang/IndexOutOfBoundsException" 1 w' mk' tb' ts' on' va' du' sh' fr' gd' := by
    intro hp
    refine hx _ _ _ _ _ _ _ _ _ _ _ (Or.inr ⟨rfl, q1⟩) (fun QR z => ok_know hc hM (fun cho tes row pr go mon sho fx mva q => ?_))
    have z1 := z 1 cho tes row pr go mon sho fx mva (Or.inr ⟨rfl, q⟩)
    rcases hp with h | h
    · exact br_t h (br_f (by decide) z1)
    · refine br_f h.1 (br_f ?_ (br_f (by decide) z1))
      rw [q.2.2.2.2]; exact h.2
  by_cases h0 : p0 < 0
  · exact br_t h0 (bad (Or.inl h0))
  · refine br_f h0 ?_
    rw [e1]
    refine ok_rowCount ?_
    rw [← e1]
    by_cases h1 : p0 < nI (rowN F (chO I F N O op cn ar out nxt).1)
    · rcases pk_ix p0 (n := rowN F (chO I F N O op cn ar out nxt).1) (by omega) with h | h | ⟨i, hi, h⟩
      · exact absurd h h0
      · exact absurd (Int32.lt_of_le_of_lt h h1) (fun q => Int32.lt_irrefl q)
      · subst h
        have fR : ∀ {r : Int32} (k : Nat), k < 5 → p1 = nI k → (∀ pr : Nat → Int32, goodRows I F O (chO I F N O op cn ar out nxt).1 (chO I F N O op cn ar out nxt).2.1 (fun i => cAns I F O op cn ar out nxt none ((chO I F N O op cn ar out nxt).2.1 i)) pr (rowN F (chO I F N O op cn ar out nxt).1) → pr (5 * i + k) = r) → ∀ QR : PKt, (∀ kn cho tes row pr go mon sho fx mva, mKnown I F N O op cn ar out nxt kn cho tes row pr mon sho fx → QR r 0 kn cho tes row pr go mon sho fx mva) → v_X6_row_ mth (nI N) (nI I) (nI F) (nI O) kn cho tes row pr go mon sho fx mop taken mva takes mnext mout (nI i) p1 QR := by
          intro r k hk hp hg QR z
          subst hp
          refine ok_know hc hM (fun cho tes row pr go mon sho fx mva q => br_f h0 (br_t (by rw [q.2.2.2.2]; exact h1) (br_f (nI_pos (by omega)) (br_t (nI_le (b := 4) (by omega) (by decide)) (br_t (by decide) ?_)))))
          have e5 : (5 : Int32) * nI i + nI k = nI (5 * i + k) := by rw [show (5 : Int32) = nI 5 from rfl, pk_mul, nI_add]
          rw [e5, nI_clamp (by omega), hg pr q.2.2.1]
          exact ⟨vp_in_nI (by omega) (by decide), z _ _ _ _ _ _ _ _ _ _ (Or.inr ⟨rfl, q⟩)⟩
        have n5 : ∀ q, q < 0 ∨ nI 5 ≤ q → ∀ k, k < 5 → ¬ q = nI k := by
          intro q hq k hk e
          rw [e] at hq
          rcases hq with h | h
          · exact nI_pos (by omega) h
          · exact nI_ge hk (by decide) h
        refine br_t h1 ?_
        have bad2 : p1 < 0 ∨ nI 5 ≤ p1 → X "java/lang/IllegalArgumentException" 1 w' mk' tb' ts' on' va' du' sh' fr' gd' := by
          intro hp
          refine hx2 _ _ _ _ _ _ _ _ _ _ _ (Or.inr ⟨rfl, q1⟩) (fun QR z => ok_know hc hM (fun cho tes row pr go mon sho fx mva q => br_f h0 (br_t (by rw [q.2.2.2.2]; exact h1) ?_)))
          have z1 := z 1 cho tes row pr go mon sho fx mva (Or.inr ⟨rfl, q⟩)
          rcases hp with h | h
          · exact br_t h (br_f (by decide) z1)
          · refine br_f (fun q => ?_) (br_f (fun q => ?_) (br_f (by decide) z1))
            · exact absurd (Int32.lt_of_le_of_lt h q) (by decide)
            · exact absurd (Int32.le_trans h q) (by decide)
        have badk : p1 < 0 ∨ nI 5 ≤ p1 → ((p1 = 0 → v_X3_tms (nI F) (nI i) (fun r13 => QC r13 1 w' mk' tb' ts' on' va' du' sh' fr' gd')) ∧ (¬ p1 = 0 → (p1 = 1 → v_X3_tdi (nI I) (nI F) ts' on' (nI i) (fun r14 => QC r14 1 w' mk' tb' ts' on' va' du' sh' fr' gd')) ∧ (¬ p1 = 1 → (p1 = 2 → v_X3_inputs (nI I) (nI F) on' (nI i) (fun r15 => QC r15 1 w' mk' tb' ts' on' va' du' sh' fr' gd')) ∧ (¬ p1 = 2 → (p1 = 3 → v_X3_tdoDue (nI F) (nI O) du' (nI i) (fun r16 => QC r16 1 w' mk' tb' ts' on' va' du' sh' fr' gd')) ∧ (¬ p1 = 3 → (p1 = 4 → v_X3_outputsDue (nI F) (nI O) du' (nI i) (fun r17 => QC r17 1 w' mk' tb' ts' on' va' du' sh' fr' gd')) ∧ (¬ p1 = 4 → X "java/lang/IllegalArgumentException" 1 w' mk' tb' ts' on' va' du' sh' fr' gd')))))) :=
          fun h => br_f (n5 p1 h 0 (by decide)) (br_f (n5 p1 h 1 (by decide)) (br_f (n5 p1 h 2 (by decide)) (br_f (n5 p1 h 3 (by decide)) (br_f (n5 p1 h 4 (by decide)) (bad2 h)))))
        rcases pk_ix p1 (n := 5) (by decide) with h | h | ⟨k, hk, h⟩
        · exact badk (Or.inl h)
        · exact badk (Or.inr h)
        · have : k = 0 ∨ k = 1 ∨ k = 2 ∨ k = 3 ∨ k = 4 := by omega
          rcases this with e | e | e | e | e <;> subst e
          · exact br_t h (ok_tms (by omega) (by omega) (hy _ _ _ _ _ _ _ _ _ _ _ _ (Or.inr ⟨rfl, q1⟩) (fR 0 hk h (fun pr hg => (hg i hi).1))))
          · refine br_f (by rw [h]; decide) (br_t h ?_)
            rw [e1]
            refine ok_tdi c1 (by omega) hon hi ?_
            rw [← e1]
            exact hy _ _ _ _ _ _ _ _ _ _ _ _ (Or.inr ⟨rfl, q1⟩) (fR 1 hk h (fun pr hg => (hg i hi).2.1))
          · exact br_f (by rw [h]; decide) (br_f (by rw [h]; decide) (br_t h (ok_pinputs c1 (by omega) hon hi (hy _ _ _ _ _ _ _ _ _ _ _ _ (Or.inr ⟨rfl, q1⟩) (fR 2 hk h (fun pr hg => (hg i hi).2.2.1))))))
          · exact br_f (by rw [h]; decide) (br_f (by rw [h]; decide) (br_f (by rw [h]; decide) (br_t h (ok_tdoDue (by omega) c4 (by omega) hdu hi (hy _ _ _ _ _ _ _ _ _ _ _ _ (Or.inr ⟨rfl, q1⟩) (fR 3 hk h (fun pr hg => (hg i hi).2.2.2.1)))))))
          · exact br_f (by rw [h]; decide) (br_f (by rw [h]; decide) (br_f (by rw [h]; decide) (br_f (by rw [h]; decide) (br_t h (ok_outputsDue (by omega) c4 (by omega) hdu hi (hy _ _ _ _ _ _ _ _ _ _ _ _ (Or.inr ⟨rfl, q1⟩) (fR 4 hk h (fun pr hg => (hg i hi).2.2.2.2))))))))
    · exact br_f h1 (bad (Or.inr ⟨h0, h1⟩))

end TESTS
