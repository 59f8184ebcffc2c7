section ANSW
variable {I F N O : Nat} {op cn : Nat → Nat} {ar : Nat → Nat → Nat} {out : Nat → Nat} {nxt : Nat → Option Nat} {oper looked lcount cout cnext mop taken takes mout mnext : Nat → Int32}
variable {hm w tb ts : Int32} {mk : Int64} {on du fr : Nat → Int32} {va sh gd : Nat → Int64}
variable {mth kn cho tes row : Int32} {pr go mon sho fx mva : Nat → Int32}
abbrev PAc : Type := Int32 → (Nat → Int64) → Prop
abbrev PAm : Type := Int32 → Int32 → (Nat → Int32) → Prop
theorem f_answer {QC : PAc} {X : String → (Nat → Int64) → Prop} {p0 p1 : Int32} (hc : cirR I F N O op cn ar out nxt oper looked lcount cout cnext mop taken takes mout mnext)
    (hy : ∀ r va, (∀ QR : PAm, (∀ mva, QR r 0 mva) → v_X6_answer mth (nI N) (nI I) (nI F) (nI O) mop taken mva takes mnext mout p0 p1 QR) → QC r va)
    (hx : (∀ QR : PAm, (∀ mva, QR 0 1 mva) → v_X6_answer mth (nI N) (nI I) (nI F) (nI O) mop taken mva takes mnext mout p0 p1 QR) → X "java/lang/IllegalArgumentException" va)
    (hx2 : (∀ QR : PAm, (∀ mva, QR 0 2 mva) → v_X6_answer mth (nI N) (nI I) (nI F) (nI O) mop taken mva takes mnext mout p0 p1 QR) → X "java/lang/IndexOutOfBoundsException" va) :
    v_X5_answer (nI I) (nI F) (nI N) (nI O) va oper looked lcount cnext cout p0 p1 QC X := by
  obtain ⟨⟨c1, c2, c3, c4⟩, c5, c6, c7, c8, c9⟩ := hc
  have h10 : (2 : Nat) ^ (I + F) ≤ 2 ^ 10 := Nat.pow_le_pow_right (by decide) c1
  refine ok_sources ?_
  rcases pk_ix p0 (n := 2 ^ (I + F)) (by omega) with h | h | ⟨j, hj, h⟩
  · exact ok_beyond_y c1 (Or.inl h) (br_f (by decide) (hx (fun QR z => br_t h (br_f (by decide) (z _)))))
  · refine ok_beyond_y c1 (Or.inr h) (br_f (by decide) (hx (fun QR z => ?_)))
    by_cases h0 : p0 < 0
    · exact br_t h0 (br_f (by decide) (z _))
    · exact br_f h0 (ok_patterns c1 (br_f (Int32.not_lt.mpr h) (br_f (by decide) (z _))))
  · subst h
    refine ok_beyond_n c1 hj (br_t rfl ?_)
    have pre : ∀ QR : PAm, v_X6_noStuck (nI N) p1 1 (fun r4 => (r4 = 0 → v_X6_answer_b31 (nI N) (nI I) (nI F) (nI O) mop taken takes mnext mout QR mth mva (nI j) p1 0) ∧ (¬ r4 = 0 → v_X6_answer_b31 (nI N) (nI I) (nI F) (nI O) mop taken takes mnext mout QR mth mva (nI j) p1 2)) → v_X6_answer mth (nI N) (nI I) (nI F) (nI O) mop taken mva takes mnext mout (nI j) p1 QR :=
      fun QR z => br_f (nI_pos (by omega)) (ok_patterns c1 (br_t (nI_lt hj (by omega)) z))
    rcases chip_cases c3 p1 with ⟨o, ho, hb⟩ | h
    · subst ho
      exact isChip_y c3 hb (nb_f (by decide) (ok_respond2 c3 c2 c1 c4 c5 c6 hb c7 (by omega) (fun va => hy _ _ (fun QR z => pre QR (noStuck_y c3 hb (br_t rfl (br_t (by decide) (ok_answerOf2 c3 c2 c1 c4 c5 c8 hb c9 (by omega) (fun mva => z _)))))))))
    · exact isChip_n h (nb_t rfl (hx2 (fun QR z => pre QR (noStuck_n h (br_f (by decide) (br_f (by decide) (z _)))))))

variable {t0 t1 t2 t3 t4 t5 m0 m1 m2 m3 m4 m5 : Int32}
abbrev PFc : Type := Int32 → Int32 → Int32 → Int64 → Int32 → Int32 → Int32 → Int32 → Int32 → Int32 → Int32 → Int32 → (Nat → Int32) → (Nat → Int64) → (Nat → Int32) → (Nat → Int64) → (Nat → Int32) → (Nat → Int64) → Prop
abbrev PFx : Type := String → Int32 → Int32 → Int64 → Int32 → Int32 → Int32 → Int32 → Int32 → Int32 → Int32 → Int32 → (Nat → Int32) → (Nat → Int64) → (Nat → Int32) → (Nat → Int64) → (Nat → Int32) → (Nat → Int64) → Prop
abbrev PFm : Type := Int32 → Int32 → Int32 → Int32 → Int32 → Int32 → Int32 → Int32 → Int32 → Int32 → Int32 → Int32 → (Nat → Int32) → (Nat → Int32) → (Nat → Int32) → (Nat → Int32) → (Nat → Int32) → (Nat → Int32) → Prop
theorem f_fails {QC : PFc} {X : PFx} {p : Int32} (hc : cirR I F N O op cn ar out nxt oper looked lcount cout cnext mop taken takes mout mnext) (hH : hMade I F N O op cn ar out nxt hm w mk tb ts on du fr sh) (hM : mKnown I F N O op cn ar out nxt kn cho tes row pr mon sho fx)
    (hy : ∀ r hm w mk tb ts t0 t1 t2 t3 t4 t5 on va du sh fr gd, hMade I F N O op cn ar out nxt hm w mk tb ts on du fr sh → (∀ QR : PFm, (∀ kn cho tes row pr go mon sho fx mva, mKnown I F N O op cn ar out nxt kn cho tes row pr mon sho fx → QR r 0 kn cho tes row m0 m1 m2 m3 m4 m5 pr go mon sho fx mva) → v_X6_fails mth (nI N) (nI I) (nI F) (nI O) kn cho tes row m0 m1 m2 m3 m4 m5 pr go mon sho fx mop taken mva takes mnext mout p QR) → QC r hm w mk tb ts t0 t1 t2 t3 t4 t5 on va du sh fr gd)
    (hx : (∀ QR : PFm, (∀ kn cho tes row pr go mon sho fx mva, mKnown I F N O op cn ar out nxt kn cho tes row pr mon sho fx → QR 0 1 kn cho tes row m0 m1 m2 m3 m4 m5 pr go mon sho fx mva) → v_X6_fails mth (nI N) (nI I) (nI F) (nI O) kn cho tes row m0 m1 m2 m3 m4 m5 pr go mon sho fx mop taken mva takes mnext mout p QR) → X "java/lang/IndexOutOfBoundsException" hm w mk tb ts t0 t1 t2 t3 t4 t5 on va du sh fr gd) :
    v_X5_fails (nI I) (nI F) (nI N) (nI O) hm w mk tb ts t0 t1 t2 t3 t4 t5 on va oper looked lcount cnext cout du sh fr gd p QC X := by
  obtain ⟨⟨c1, c2, c3, c4⟩, c5, c6, c7, c8, c9⟩ := hc
  have hc : cirR I F N O op cn ar out nxt oper looked lcount cout cnext mop taken takes mout mnext := ⟨⟨c1, c2, c3, c4⟩, c5, c6, c7, c8, c9⟩
  have hn : (chO I F N O op cn ar out nxt).1 ≤ 2 * N := chN_le (I + F) (shw I F O op cn ar out nxt) (2 * N)
  rcases chip_cases c3 p with ⟨o, ho, hb⟩ | h
  · subst ho
    refine isChip_y c3 hb (nb_f (by decide) (ok_make hc hH (fun w' mk' tb' ts' on' va' du' sh' fr' gd' q1 => ?_)))
    have e1 := q1.2.2.2.1.1
    subst e1
    refine ok_failingRow c3 c2 c1 c4 c5 c6 hb c7 (by omega) (fun i hi => ⟨(q1.2.2.2.1.2 i hi).1, (q1.2.2.2.1.2 i hi).2.2.1⟩) (A := (fun i => cAns I F O op cn ar out nxt none ((chO I F N O op cn ar out nxt).2.1 i))) (fun i hi => ⟨q1.2.2.2.2.2 i hi, cAns_lt c4 (by omega)⟩) (fun t0 t1 t2 t3 t4 t5 va => ?_)
    refine hy _ _ _ _ _ _ _ _ _ _ _ _ _ _ _ _ _ _ (Or.inr ⟨rfl, q1⟩) (fun QR z => noStuck_y c3 hb (br_t rfl (br_t (by decide) (ok_know hc hM (fun cho tes row pr go mon sho fx mva q => ?_)))))
    have e2 := q.2.2.2.2
    subst e2
    exact ok_failsAt c3 c2 c1 c4 c5 c8 hb c9 (by omega) q.2.2.1 (fun val => z _ _ _ _ _ _ _ _ _ _ (Or.inr ⟨rfl, q⟩))
  · exact isChip_n h (nb_t rfl (hx (fun QR z => noStuck_n h (br_f (by decide) (br_f (by decide) (z _ _ _ _ _ _ _ _ _ _ hM))))))
/-- which faults escape -/
def escB (I F N O : Nat) (op cn : Nat → Nat) (ar : Nat → Nat → Nat) (out : Nat → Nat) (nxt : Nat → Option Nat) (f : Nat) : Bool := (findI (shw I F O op cn ar out nxt f) (2 ^ (I + F))).isSome && (failN I F O op cn ar out nxt (some f) (chO I F N O op cn ar out nxt).1 (chO I F N O op cn ar out nxt).2.1 (fun i => cAns I F O op cn ar out nxt none ((chO I F N O op cn ar out nxt).2.1 i))).isNone
def escR (I F N O : Nat) (op cn : Nat → Nat) (ar : Nat → Nat → Nat) (out : Nat → Nat) (nxt : Nat → Option Nat) (xe : Int32) : Prop := xe = -1 ∨ xe = nI (cntN (escB I F N O op cn ar out nxt) (2 * N))
abbrev PEc : Type := Int32 → Int32 → Int32 → Int32 → Int64 → Int32 → Int32 → Int32 → Int32 → Int32 → Int32 → Int32 → Int32 → (Nat → Int32) → (Nat → Int64) → (Nat → Int32) → (Nat → Int64) → (Nat → Int32) → (Nat → Int64) → Prop
theorem m_escapes {QR : PFm} (hc : cirR I F N O op cn ar out nxt oper looked lcount cout cnext mop taken takes mout mnext) (hM : mKnown I F N O op cn ar out nxt kn cho tes row pr mon sho fx) (z : ∀ kn cho tes row pr go mon sho fx mva, mKnown I F N O op cn ar out nxt kn cho tes row pr mon sho fx → QR (nI (cntN (escB I F N O op cn ar out nxt) (2 * N))) 0 kn cho tes row m0 m1 m2 m3 m4 m5 pr go mon sho fx mva) : v_X6_escapes mth (nI N) (nI I) (nI F) (nI O) kn cho tes row m0 m1 m2 m3 m4 m5 pr go mon sho fx mop taken mva takes mnext mout QR := by
  obtain ⟨⟨c1, c2, c3, c4⟩, c5, c6, c7, c8, c9⟩ := hc
  have hc : cirR I F N O op cn ar out nxt oper looked lcount cout cnext mop taken takes mout mnext := ⟨⟨c1, c2, c3, c4⟩, c5, c6, c7, c8, c9⟩
  have hn : (chO I F N O op cn ar out nxt).1 ≤ 2 * N := chN_le (I + F) (shw I F O op cn ar out nxt) (2 * N)
  refine ok_know hc hM (fun cho tes row pr go mon sho fx mva q => ?_)
  have e2 := q.2.2.2.2
  subst e2
  have hz := fun mva => z 1 cho tes _ pr go mon sho fx mva (Or.inr ⟨rfl, q⟩)
  have loop : ∀ (d j : Nat) (mva : Nat → Int32), j ≤ 2 * N → 2 * N < j + d → v_X6_escapes_b13 (nI N) (nI I) (nI F) (nI O) mop taken takes mnext mout QR d 0 1 cho tes (nI (rowN F (chO I F N O op cn ar out nxt).1)) m0 m1 m2 m3 m4 m5 pr go mon sho fx mva (nI (cntN (escB I F N O op cn ar out nxt) j)) (nI j) := by
    intro d
    induction d with
    | zero => intro j mva h1 h2; omega
    | succ d ih =>
      intro j mva h1 h2
      rw [v_X6_escapes_b13]
      dsimp only
      rw [two_mul_nI]
      refine pk_le (2 * N) j (fun q1 => ?_) (fun q1 => ok_leastOf c1 c3 q.1 q1 ?_)
      · rw [show j = 2 * N by omega]; exact hz mva
      · cases hfi : findI (shw I F O op cn ar out nxt j) (2 ^ (I + F)) with
        | none =>
          refine br_t (by decide) (lt_v ?_)
          rw [nI_1]
          have := ih (j + 1) mva (by omega) (by omega)
          rw [cntN, show escB I F N O op cn ar out nxt j = false by rw [escB, hfi]; rfl] at this
          exact this
        | some p =>
          have hp := (findI_of _ hfi).1
          have h10 : (2 : Nat) ^ (I + F) ≤ 2 ^ 10 := Nat.pow_le_pow_right (by decide) c1
          refine br_f (nI_pos (n := p) (by omega)) ?_
          refine ok_failsAt (o := some j) c3 c2 c1 c4 c5 c8 (fun f hf => by cases hf; exact q1) c9 (by omega) q.2.2.1 (fun val => ?_)
          have ev : escB I F N O op cn ar out nxt j = (failN I F O op cn ar out nxt (some j) (chO I F N O op cn ar out nxt).1 (chO I F N O op cn ar out nxt).2.1 (fun i => cAns I F O op cn ar out nxt none ((chO I F N O op cn ar out nxt).2.1 i))).isNone := by rw [escB, hfi]; rfl
          have := ih (j + 1) val (by omega) (by omega)
          rw [cntN, ev] at this
          cases hfl : failN I F O op cn ar out nxt (some j) (chO I F N O op cn ar out nxt).1 (chO I F N O op cn ar out nxt).2.1 (fun i => cAns I F O op cn ar out nxt none ((chO I F N O op cn ar out nxt).2.1 i)) with
          | none =>
            rw [hfl] at this
            refine br_f (by decide) (lt_v ?_)
            rw [nI_1, nI_1]
            exact this
          | some g =>
            rw [hfl] at this
            have hg := (findI_of _ hfl).1
            have hrl := rowN_lt (F := F) (n := (chO I F N O op cn ar out nxt).1) (by omega) (by omega)
            refine br_t (nI_pos' (n := g) (by omega)) (lt_v ?_)
            rw [nI_1]
            exact this
  exact ⟨2 * N + 1, loop (2 * N + 1) 0 mva (by omega) (by omega)⟩
theorem f_escapes {QC : PEc} {xe : Int32} (hc : cirR I F N O op cn ar out nxt oper looked lcount cout cnext mop taken takes mout mnext) (hH : hMade I F N O op cn ar out nxt hm w mk tb ts on du fr sh) (hM : mKnown I F N O op cn ar out nxt kn cho tes row pr mon sho fx) (hE : escR I F N O op cn ar out nxt xe)
    (hy : ∀ r hm w mk tb ts t0 t1 t2 t3 t4 t5 on va du sh fr gd, hMade I F N O op cn ar out nxt hm w mk tb ts on du fr sh → escR I F N O op cn ar out nxt r → (∀ QR : PFm, (∀ kn cho tes row pr go mon sho fx mva, mKnown I F N O op cn ar out nxt kn cho tes row pr mon sho fx → QR r 0 kn cho tes row m0 m1 m2 m3 m4 m5 pr go mon sho fx mva) → v_X6_escapes mth (nI N) (nI I) (nI F) (nI O) kn cho tes row m0 m1 m2 m3 m4 m5 pr go mon sho fx mop taken mva takes mnext mout QR) → QC r r hm w mk tb ts t0 t1 t2 t3 t4 t5 on va du sh fr gd) :
    v_X5_escapes xe hm w mk tb ts (nI I) (nI F) (nI N) (nI O) t0 t1 t2 t3 t4 t5 on va oper looked lcount cnext cout du sh fr gd QC := by
  obtain ⟨⟨c1, c2, c3, c4⟩, c5, c6, c7, c8, c9⟩ := hc
  have hc : cirR I F N O op cn ar out nxt oper looked lcount cout cnext mop taken takes mout mnext := ⟨⟨c1, c2, c3, c4⟩, c5, c6, c7, c8, c9⟩
  have hn : (chO I F N O op cn ar out nxt).1 ≤ 2 * N := chN_le (I + F) (shw I F O op cn ar out nxt) (2 * N)
  have hcl := cntN_le (escB I F N O op cn ar out nxt) (2 * N)
  by_cases he : xe = -1
  · refine nb_t he (ok_make hc hH (fun w mk tb ts on va du sh fr gd q1 => ?_))
    have e1 := q1.2.2.2.1.1
    have e0 := q1.1
    subst e1 e0
    have loop : ∀ (d j : Nat) (t0 t1 t2 t3 t4 t5 : Int32) (va : Nat → Int64), j ≤ 2 * N → 2 * N < j + d → v_X5_escapes_b22 (nI I) (nI F) (nI N) (nI O) oper looked lcount cnext cout QC d (nI (cntN (escB I F N O op cn ar out nxt) j)) 1 (nI (wN (I + F))) mk tb (nI (chO I F N O op cn ar out nxt).1) t0 t1 t2 t3 t4 t5 on va du sh fr gd (nI j) := by
      intro d
      induction d with
      | zero => intro j t0 t1 t2 t3 t4 t5 va h1 h2; omega
      | succ d ih =>
        intro j t0 t1 t2 t3 t4 t5 va h1 h2
        rw [v_X5_escapes_b22]
        dsimp only
        rw [two_mul_nI]
        refine pk_le (2 * N) j (fun q => ?_) (fun q => ok_isTestable c1 c3 q1.2.2.1 q ?_)
        · rw [show j = 2 * N by omega]
          exact hy _ _ _ _ _ _ _ _ _ _ _ _ _ _ _ _ _ _ (Or.inr ⟨rfl, q1⟩) (Or.inr rfl) (fun QR z => m_escapes hc hM z)
        · cases hfi : findI (shw I F O op cn ar out nxt j) (2 ^ (I + F)) with
          | none =>
            refine br_t rfl (lt_v ?_)
            rw [nI_1]
            have := ih (j + 1) t0 t1 t2 t3 t4 t5 va (by omega) (by omega)
            rw [cntN, show escB I F N O op cn ar out nxt j = false by rw [escB, hfi]; rfl] at this
            exact this
          | some p =>
            refine br_f (show ¬ bI true = 0 by decide) ?_
            refine ok_failingRow (o := some j) c3 c2 c1 c4 c5 c6 (fun f hf => by cases hf; exact q) c7 (by omega) (fun i hi => ⟨(q1.2.2.2.1.2 i hi).1, (q1.2.2.2.1.2 i hi).2.2.1⟩) (A := (fun i => cAns I F O op cn ar out nxt none ((chO I F N O op cn ar out nxt).2.1 i))) (fun i hi => ⟨q1.2.2.2.2.2 i hi, cAns_lt c4 (by omega)⟩) (fun t0 t1 t2 t3 t4 t5 va => ?_)
            have ev : escB I F N O op cn ar out nxt j = (failN I F O op cn ar out nxt (some j) (chO I F N O op cn ar out nxt).1 (chO I F N O op cn ar out nxt).2.1 (fun i => cAns I F O op cn ar out nxt none ((chO I F N O op cn ar out nxt).2.1 i))).isNone := by rw [escB, hfi]; rfl
            have := ih (j + 1) t0 t1 t2 t3 t4 t5 va (by omega) (by omega)
            rw [cntN, ev] at this
            cases hfl : failN I F O op cn ar out nxt (some j) (chO I F N O op cn ar out nxt).1 (chO I F N O op cn ar out nxt).2.1 (fun i => cAns I F O op cn ar out nxt none ((chO I F N O op cn ar out nxt).2.1 i)) with
            | none =>
              rw [hfl] at this
              refine nb_t rfl (lt_v (lt_v ?_))
              rw [nI_1, nI_1]
              exact this
            | some g =>
              rw [hfl] at this
              have hg := (findI_of _ hfl).1
              have hrl := rowN_lt (F := F) (n := (chO I F N O op cn ar out nxt).1) (by omega) (by omega)
              refine nb_f (sti_ne (n := g) (by omega)) (lt_v ?_)
              rw [nI_1]
              exact this
    exact ⟨2 * N + 1, loop (2 * N + 1) 0 t0 t1 t2 t3 t4 t5 va (by omega) (by omega)⟩
  · rcases hE with h | h
    · exact absurd h he
    · subst h
      exact nb_f he (hy _ _ _ _ _ _ _ _ _ _ _ _ _ _ _ _ _ _ hH (Or.inr rfl) (fun QR z => m_escapes hc hM z))
end ANSW
