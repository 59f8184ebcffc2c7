/-! WHAT IS MADE OF A CIRCUIT: told, test, row, shows -/
/-- a circuit, in the class and in the reference -/
def cirR (I F N O : Nat) (op cn : Nat → Nat) (ar : Nat → Nat → Nat) (out : Nat → Nat) (nxt : Nat → Option Nat) (oper looked lcount cout cnext mop taken takes mout mnext : Nat → Int32) : Prop := (I + F ≤ 10 ∧ I + F ≤ N ∧ N ≤ 60 ∧ O ≤ 8) ∧ gates (I + F) N op cn ar ∧ cHolds (I + F) N op cn ar oper looked lcount ∧ oHolds F N O out nxt cout cnext ∧ mHolds (I + F) N op cn ar mop taken takes ∧ oHolds F N O out nxt mout mnext
abbrev chO (I F N O : Nat) (op cn : Nat → Nat) (ar : Nat → Nat → Nat) (out : Nat → Nat) (nxt : Nat → Option Nat) : Nat × (Nat → Nat) × (Nat → Nat) := chN (I + F) (shw I F O op cn ar out nxt) (2 * N)
/-- what the class has made -/
def hM1 (I F N O : Nat) (op cn : Nat → Nat) (ar : Nat → Nat → Nat) (out : Nat → Nat) (nxt : Nat → Option Nat) (w : Int32) (mk : Int64) (tb ts : Int32) (on du fr : Nat → Int32) (sh : Nat → Int64) : Prop := w = nI (wN (I + F)) ∧ maskOk (I + F) mk ∧ sHolds (I + F) N (shw I F O op cn ar out nxt) sh ∧ cst (I + F) (chO I F N O op cn ar out nxt) ts on fr ∧ tb = nI (tsN (I + F) (shw I F O op cn ar out nxt) (2 * N)) ∧ ∀ i, i < (chO I F N O op cn ar out nxt).1 → du i = nI (cAns I F O op cn ar out nxt none ((chO I F N O op cn ar out nxt).2.1 i))
def hMade (I F N O : Nat) (op cn : Nat → Nat) (ar : Nat → Nat → Nat) (out : Nat → Nat) (nxt : Nat → Option Nat) (hm w : Int32) (mk : Int64) (tb ts : Int32) (on du fr : Nat → Int32) (sh : Nat → Int64) : Prop := hm = 0 ∨ (hm = 1 ∧ hM1 I F N O op cn ar out nxt w mk tb ts on du fr sh)
/-- what the reference knows -/
def mK1 (I F N O : Nat) (op cn : Nat → Nat) (ar : Nat → Nat → Nat) (out : Nat → Nat) (nxt : Nat → Option Nat) (cho tes row : Int32) (pr mon sho fx : Nat → Int32) : Prop := mSh (I + F) N (shw I F O op cn ar out nxt) sho ∧ cstM (I + F) (chO I F N O op cn ar out nxt) cho mon fx ∧ goodRows I F O (chO I F N O op cn ar out nxt).1 (chO I F N O op cn ar out nxt).2.1 (fun i => cAns I F O op cn ar out nxt none ((chO I F N O op cn ar out nxt).2.1 i)) pr (rowN F (chO I F N O op cn ar out nxt).1) ∧ tes = nI (tsN (I + F) (shw I F O op cn ar out nxt) (2 * N)) ∧ row = nI (rowN F (chO I F N O op cn ar out nxt).1)
def mKnown (I F N O : Nat) (op cn : Nat → Nat) (ar : Nat → Nat → Nat) (out : Nat → Nat) (nxt : Nat → Option Nat) (kn cho tes row : Int32) (pr mon sho fx : Nat → Int32) : Prop := kn = 0 ∨ (kn = 1 ∧ mK1 I F N O op cn ar out nxt cho tes row pr mon sho fx)
abbrev PHk : Type := Int32 → Int32 → Int64 → Int32 → Int32 → (Nat → Int32) → (Nat → Int64) → (Nat → Int32) → (Nat → Int64) → (Nat → Int32) → (Nat → Int64) → Prop
abbrev PKk : Type := Int32 → Int32 → Int32 → Int32 → (Nat → Int32) → (Nat → Int32) → (Nat → Int32) → (Nat → Int32) → (Nat → Int32) → (Nat → Int32) → Prop
section TOLD
variable {I F N O : Nat} {op cn : Nat → Nat} {ar : Nat → Nat → Nat} {out : Nat → Nat} {nxt : Nat → Option Nat} {oper looked lcount cout cnext mop taken takes mout mnext : Nat → Int32}
variable {hm w tb ts : Int32} {mk : Int64} {on du fr : Nat → Int32} {va sh gd : Nat → Int64}
variable {mth kn cho tes row : Int32} {pr go mon sho fx mva : Nat → Int32}
theorem ok_make {Q : PHk} (hc : cirR I F N O op cn ar out nxt oper looked lcount cout cnext mop taken takes mout mnext) (hH : hMade I F N O op cn ar out nxt hm w mk tb ts on du fr sh) (hQ : ∀ w mk tb ts on va du sh fr gd, hM1 I F N O op cn ar out nxt w mk tb ts on du fr sh → Q 1 w mk tb ts on va du sh fr gd) : v_X1_make hm w mk tb ts (nI I) (nI F) (nI N) (nI O) on va oper looked lcount cnext cout du sh fr gd Q := by
  obtain ⟨⟨c1, c2, c3, c4⟩, c5, c6, c7, c8, c9⟩ := hc
  rcases hH with h | ⟨h, h1⟩
  · rw [h]
    exact ok_make0 c3 c2 c1 c4 c5 c6 c7 (fun mask t o val due sh fr gd q1 q2 q3 q4 => hQ _ _ _ _ _ _ _ _ _ _ ⟨rfl, q1, q2, q3, rfl, q4⟩)
  · rw [h]
    exact br_f (by decide) (hQ _ _ _ _ _ _ _ _ _ _ h1)
theorem ok_know {Q : PKk} (hc : cirR I F N O op cn ar out nxt oper looked lcount cout cnext mop taken takes mout mnext) (hM : mKnown I F N O op cn ar out nxt kn cho tes row pr mon sho fx) (hQ : ∀ cho tes row pr go mon sho fx mva, mK1 I F N O op cn ar out nxt cho tes row pr mon sho fx → Q 1 cho tes row pr go mon sho fx mva) : v_X6_know (nI N) (nI I) (nI F) (nI O) kn cho tes row pr go mon sho fx mop taken mva takes mnext mout Q := by
  obtain ⟨⟨c1, c2, c3, c4⟩, c5, c6, c7, c8, c9⟩ := hc
  rcases hM with h | ⟨h, h1⟩
  · rw [h]
    exact ok_know0 c3 c2 c1 c4 c5 c8 c9 (fun t pr gd on sh fx val q1 q2 q3 => hQ _ _ _ _ _ _ _ _ _ ⟨q1, q2, q3, rfl, rfl⟩)
  · rw [h]
    exact br_f (by decide) (hQ _ _ _ _ _ _ _ _ _ h1)
abbrev PHt : Type := Int32 → Int32 → Int32 → Int64 → Int32 → Int32 → (Nat → Int32) → (Nat → Int64) → (Nat → Int32) → (Nat → Int64) → (Nat → Int32) → (Nat → Int64) → Prop
abbrev PKt : Type := Int32 → Int32 → Int32 → Int32 → Int32 → Int32 → (Nat → Int32) → (Nat → Int32) → (Nat → Int32) → (Nat → Int32) → (Nat → Int32) → (Nat → Int32) → Prop
abbrev PHx : Type := String → Int32 → Int32 → Int64 → Int32 → Int32 → (Nat → Int32) → (Nat → Int64) → (Nat → Int32) → (Nat → Int64) → (Nat → Int32) → (Nat → Int64) → Prop
theorem f_told {QC : PHt} {X : PHx} {p : Int32} (hc : cirR I F N O op cn ar out nxt oper looked lcount cout cnext mop taken takes mout mnext) (hH : hMade I F N O op cn ar out nxt hm w mk tb ts on du fr sh) (hM : mKnown I F N O op cn ar out nxt kn cho tes row pr mon sho fx)
    (hy : ∀ r hm w mk tb ts on va du sh fr gd, hMade I F N O op cn ar out nxt hm w mk tb ts on du fr sh → (∀ QR : PKt, (∀ kn cho tes row pr go mon sho fx mva, mKnown I F N O op cn ar out nxt kn cho tes row pr mon sho fx → QR r 0 kn cho tes row pr go mon sho fx mva) → v_X6_told mth (nI N) (nI I) (nI F) (nI O) kn cho tes row pr go mon sho fx mop taken mva takes mnext mout p QR) → QC r hm w mk tb ts on va du sh fr gd)
    (hx : (∀ QR : PKt, QR 0 1 kn cho tes row pr go mon sho fx mva → v_X6_told mth (nI N) (nI I) (nI F) (nI O) kn cho tes row pr go mon sho fx mop taken mva takes mnext mout p QR) → X "java/lang/IllegalArgumentException" hm w mk tb ts on va du sh fr gd) :
    v_X5_told hm w mk tb ts (nI I) (nI F) (nI N) (nI O) on va oper looked lcount cnext cout du sh fr gd p QC X := by
  have n6 : ∀ q, q < 0 ∨ nI 6 ≤ q → ∀ k, k < 6 → ¬ q = nI k := by
    intro q hq k hk e
    rw [e] at hq
    rcases hq with h | h
    · exact nI_pos (by omega) h
    · exact nI_ge hk (by decide) h
  rcases pk_ix p (n := 6) (by decide) with h | h | ⟨k, hk, h⟩
  · have nn := n6 p (Or.inl h)
    refine br_f (nn 0 (by decide)) (br_f (nn 1 (by decide)) (br_f (nn 2 (by decide)) (br_f (nn 3 (by decide)) (br_f (nn 4 (by decide)) (br_f (nn 5 (by decide)) (hx (fun QR z => ?_)))))))
    exact br_t h (br_f (by decide) z)
  · have nn := n6 p (Or.inr h)
    refine br_f (nn 0 (by decide)) (br_f (nn 1 (by decide)) (br_f (nn 2 (by decide)) (br_f (nn 3 (by decide)) (br_f (nn 4 (by decide)) (br_f (nn 5 (by decide)) (hx (fun QR z => ?_)))))))
    refine br_f (fun q => ?_) (br_f (fun q => ?_) (br_f (by decide) z))
    · exact absurd (Int32.lt_of_le_of_lt h q) (by decide)
    · exact absurd (Int32.le_trans h q) (by decide)
  · subst h
    have hR : ∀ {r : Int32}, (∀ (cho tes row : Int32) (pr mon sho fx : Nat → Int32), mK1 I F N O op cn ar out nxt cho tes row pr mon sho fx → ∀ (QR : PKt) (go mva : Nat → Int32), QR r 0 1 cho tes row pr go mon sho fx mva → (¬ nI k = (0 : Int32) → (¬ nI k = (1 : Int32) → (¬ nI k = (2 : Int32) → (¬ nI k = (3 : Int32) → (¬ nI k = (4 : Int32) → QR row 0 1 cho tes row pr go mon sho fx mva) ∧ (nI k = (4 : Int32) → QR cho 0 1 cho tes row pr go mon sho fx mva)) ∧ (nI k = (3 : Int32) → QR tes 0 1 cho tes row pr go mon sho fx mva)) ∧ (nI k = (2 : Int32) → QR (nI O) 0 1 cho tes row pr go mon sho fx mva)) ∧ (nI k = (1 : Int32) → QR (nI F) 0 1 cho tes row pr go mon sho fx mva)) ∧ (nI k = (0 : Int32) → QR (nI I) 0 1 cho tes row pr go mon sho fx mva)) → ∀ QR : PKt, (∀ kn cho tes row pr go mon sho fx mva, mKnown I F N O op cn ar out nxt kn cho tes row pr mon sho fx → QR r 0 kn cho tes row pr go mon sho fx mva) → v_X6_told mth (nI N) (nI I) (nI F) (nI O) kn cho tes row pr go mon sho fx mop taken mva takes mnext mout (nI k) QR := by
      intro r hr QR z
      refine br_f (nI_pos (by omega)) (br_t (nI_le (b := 5) (by omega) (by decide)) (br_t (by decide) (ok_know hc hM (fun cho tes row pr go mon sho fx mva q => ?_))))
      exact hr cho tes row pr mon sho fx q QR go mva (z _ _ _ _ _ _ _ _ _ _ (Or.inr ⟨rfl, q⟩))
    have : k = 0 ∨ k = 1 ∨ k = 2 ∨ k = 3 ∨ k = 4 ∨ k = 5 := by omega
    rcases this with e | e | e | e | e | e <;> subst e
    · exact br_t rfl (hy _ _ _ _ _ _ _ _ _ _ _ _ hH (hR (fun cho tes row pr mon sho fx q QR go mva z => nb_t rfl z)))
    · exact br_f (by decide) (br_t rfl (hy _ _ _ _ _ _ _ _ _ _ _ _ hH (hR (fun cho tes row pr mon sho fx q QR go mva z => nb_f (by decide) (nb_t rfl z)))))
    · exact br_f (by decide) (br_f (by decide) (br_t rfl (hy _ _ _ _ _ _ _ _ _ _ _ _ hH (hR (fun cho tes row pr mon sho fx q QR go mva z => nb_f (by decide) (nb_f (by decide) (nb_t rfl z)))))))
    · refine br_f (by decide) (br_f (by decide) (br_f (by decide) (br_t rfl (ok_make hc hH (fun w mk tb ts on va du sh fr gd q1 => hy _ _ _ _ _ _ _ _ _ _ _ _ (Or.inr ⟨rfl, q1⟩) (hR (fun cho tes row pr mon sho fx q QR go mva z => nb_f (by decide) (nb_f (by decide) (nb_f (by decide) (nb_t rfl ?_))))))))))
      obtain rfl : tb = tes := q1.2.2.2.2.1.trans q.2.2.2.1.symm
      exact z
    · refine br_f (by decide) (br_f (by decide) (br_f (by decide) (br_f (by decide) (br_t rfl (ok_make hc hH (fun w mk tb ts on va du sh fr gd q1 => hy _ _ _ _ _ _ _ _ _ _ _ _ (Or.inr ⟨rfl, q1⟩) (hR (fun cho tes row pr mon sho fx q QR go mva z => nb_f (by decide) (nb_f (by decide) (nb_f (by decide) (nb_f (by decide) (nb_t rfl ?_))))))))))))
      obtain rfl : ts = cho := q1.2.2.2.1.1.trans q.2.1.1.symm
      exact z
    · refine br_f (by decide) (br_f (by decide) (br_f (by decide) (br_f (by decide) (br_f (by decide) (br_t rfl (ok_make hc hH (fun w mk tb ts on va du sh fr gd q1 => ?_)))))))
      rw [q1.2.2.2.1.1]
      refine ok_rowCount (hy _ _ _ _ _ _ _ _ _ _ _ _ (Or.inr ⟨rfl, ?_⟩) (hR (fun cho tes row pr mon sho fx q QR go mva z => nb_f (by decide) (nb_f (by decide) (nb_f (by decide) (nb_f (by decide) (nb_f (by decide) ?_)))))))
      · rw [← q1.2.2.2.1.1]; exact q1
      · have e := q.2.2.2.2
        subst e
        exact z
end TOLD
