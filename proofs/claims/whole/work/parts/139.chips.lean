section CHIPS
variable {I F N O : Nat} {op cn : Nat → Nat} {ar : Nat → Nat → Nat} {out : Nat → Nat} {nxt : Nat → Option Nat} {oper looked lcount cout cnext mop taken takes mout mnext : Nat → Int32}
variable {hm w tb ts : Int32} {mk : Int64} {on du fr : Nat → Int32} {va sh gd : Nat → Int64}
variable {mth kn cho tes row : Int32} {pr go mon sho fx mva : Nat → Int32}
variable {k0 k1 k2 k3 k4 k5 : Int32}
/-- a chip as both have it -/
def chipR (F N : Nat) (k0 k1 k2 k3 k4 k5 : Int32) : Prop := ∃ (o : Option Nat) (x : Nat × Nat × Nat × Nat × Nat), (∀ f, o = some f → f < 2 * N) ∧ chOk F x ∧ k0 = sti o ∧ k1 = nI x.1 ∧ k2 = nI x.2.1 ∧ k3 = nI x.2.2.1 ∧ k4 = nI x.2.2.2.1 ∧ k5 = nI x.2.2.2.2
theorem chipR_new {F N : Nat} {o : Option Nat} (h : ∀ f, o = some f → f < 2 * N) : chipR F N (sti o) 0 3 0 0 0 := ⟨o, (0, 3, 0, 0, 0), h, ⟨by show 0 < 16; omega, by show 3 < 4; omega, Nat.two_pow_pos F, by show 0 < 2; omega, by show 0 < 4; omega⟩, rfl, rfl, rfl, rfl, rfl, rfl⟩
abbrev P6 : Type := Int32 → Int32 → Int32 → Int32 → Int32 → Int32 → Prop
abbrev P7 : Type := Int32 → Int32 → Int32 → Int32 → Int32 → Int32 → Int32 → Prop
theorem f_chip {QC : P6} {X : String → Int32 → Int32 → Int32 → Int32 → Int32 → Int32 → Prop} {p : Int32} (hN : N ≤ 60)
    (hy : ∀ k0 k1 k2 k3 k4 k5 : Int32, chipR F N k0 k1 k2 k3 k4 k5 → (∀ (m0 m1 m2 m3 m4 m5 : Int32) (QR : P7), QR 0 k0 k1 k2 k3 k4 k5 → v_X6_chip mth (nI N) m0 m1 m2 m3 m4 m5 p QR) → QC k0 k1 k2 k3 k4 k5)
    (hx : (∀ (m0 m1 m2 m3 m4 m5 : Int32) (QR : P7), QR 1 m0 m1 m2 m3 m4 m5 → v_X6_chip mth (nI N) m0 m1 m2 m3 m4 m5 p QR) → X "java/lang/IndexOutOfBoundsException" k0 k1 k2 k3 k4 k5) :
    v_X5_chip (nI N) k0 k1 k2 k3 k4 k5 p QC X := by
  rcases chip_cases hN p with ⟨o, ho, hb⟩ | h
  · subst ho
    exact isChip_y hN hb (nb_f (by decide) (hy _ _ _ _ _ _ (chipR_new hb) (fun m0 m1 m2 m3 m4 m5 QR z => noStuck_y hN hb (br_t rfl (nb_t rfl z)))))
  · exact isChip_n h (nb_t rfl (hx (fun m0 m1 m2 m3 m4 m5 QR z => noStuck_n h (br_f (by decide) (nb_f (by decide) z)))))
theorem f_chipHas {QC : Int32 → Prop} {X : String → Prop} {p : Int32}
    (hy : ∀ r, (∀ QR : Int32 → Int32 → Prop, QR r 0 → v_X6_chipHas mth k1 k2 k3 k4 k5 p QR) → QC r)
    (hx : (∀ QR : Int32 → Int32 → Prop, QR 0 1 → v_X6_chipHas mth k1 k2 k3 k4 k5 p QR) → X "java/lang/IllegalArgumentException") :
    v_X5_chipHas k1 k2 k3 k4 k5 p QC X := by
  have n5 : ∀ q, q < 0 ∨ nI 5 ≤ q → ∀ k, k < 5 → ¬ q = nI k := by
    intro q hq k hk e
    rw [e] at hq
    rcases hq with h | h
    · exact nI_pos (by omega) h
    · exact nI_ge hk (by decide) h
  have pre : ∀ {k : Nat}, k < 5 → p = nI k → ∀ QR : Int32 → Int32 → Prop, v_X6_chipHas_b15 k1 k2 k3 k4 k5 QR mth p 0 → v_X6_chipHas mth k1 k2 k3 k4 k5 p QR := by
    intro k hk hp QR z
    subst hp
    exact br_f (nI_pos (by omega)) (br_t (nI_le (b := 4) (by omega) (by decide)) z)
  rcases pk_ix p (n := 5) (by decide) with h | h | ⟨k, hk, h⟩
  · have nn := n5 p (Or.inl h)
    exact br_f (nn 0 (by decide)) (br_f (nn 1 (by decide)) (br_f (nn 2 (by decide)) (br_f (nn 3 (by decide)) (br_f (nn 4 (by decide)) (hx (fun QR z => br_t h (br_f (by decide) z)))))))
  · have nn := n5 p (Or.inr h)
    refine br_f (nn 0 (by decide)) (br_f (nn 1 (by decide)) (br_f (nn 2 (by decide)) (br_f (nn 3 (by decide)) (br_f (nn 4 (by decide)) (hx (fun QR z => br_f (fun q => ?_) (br_f (fun q => ?_) (br_f (by decide) z))))))))
    · exact absurd (Int32.lt_of_le_of_lt h q) (by decide)
    · exact absurd (Int32.le_trans h q) (by decide)
  · have : k = 0 ∨ k = 1 ∨ k = 2 ∨ k = 3 ∨ k = 4 := by omega
    have pr := pre hk h
    rcases this with e | e | e | e | e <;> subst e <;> subst h
    · exact br_t rfl (hy _ (fun QR z => pr QR (br_t (by decide) (nb_t rfl z))))
    · exact br_f (by decide) (br_t rfl (hy _ (fun QR z => pr QR (br_t (by decide) (nb_f (by decide) (nb_t rfl z))))))
    · exact br_f (by decide) (br_f (by decide) (br_t rfl (hy _ (fun QR z => pr QR (br_t (by decide) (nb_f (by decide) (nb_f (by decide) (nb_t rfl z))))))))
    · exact br_f (by decide) (br_f (by decide) (br_f (by decide) (br_t rfl (hy _ (fun QR z => pr QR (br_t (by decide) (nb_f (by decide) (nb_f (by decide) (nb_f (by decide) (nb_t rfl z))))))))))
    · exact br_f (by decide) (br_f (by decide) (br_f (by decide) (br_f (by decide) (br_t rfl (hy _ (fun QR z => pr QR (br_t (by decide) (nb_f (by decide) (nb_f (by decide) (nb_f (by decide) (nb_f (by decide) z)))))))))))
abbrev PKc : Type := Int32 → Int32 → Int32 → Int32 → Int32 → Int32 → (Nat → Int64) → Prop
abbrev PKx : Type := String → Int32 → Int32 → Int32 → Int32 → Int32 → (Nat → Int64) → Prop
abbrev PKm : Type := Int32 → Int32 → Int32 → Int32 → Int32 → Int32 → Int32 → (Nat → Int32) → Prop
/-- 0, or 1 -/
def oneI (x : Int32) : Nat := if x = 0 then 0 else 1
theorem f_clock {QC : PKc} {X : PKx} {p0 p1 p2 : Int32} (hc : cirR I F N O op cn ar out nxt oper looked lcount cout cnext mop taken takes mout mnext) (hk : chipR F N k0 k1 k2 k3 k4 k5)
    (hy : ∀ r k1' k2' k3' k4' k5' va, chipR F N k0 k1' k2' k3' k4' k5' → (∀ QR : PKm, (∀ mva, QR r 0 k1' k2' k3' k4' k5' mva) → v_X6_clock mth (nI N) (nI I) (nI F) (nI O) k0 k1 k2 k3 k4 k5 mop taken mva takes mnext mout p0 p1 p2 QR) → QC r k1' k2' k3' k4' k5' va)
    (hx : (∀ QR : PKm, (∀ mva, QR 0 1 k1 k2 k3 k4 k5 mva) → v_X6_clock mth (nI N) (nI I) (nI F) (nI O) k0 k1 k2 k3 k4 k5 mop taken mva takes mnext mout p0 p1 p2 QR) → X "java/lang/IllegalArgumentException" k1 k2 k3 k4 k5 va) :
    v_X5_clock (nI I) (nI F) (nI N) (nI O) k0 k1 k2 k3 k4 k5 va oper looked lcount cnext cout p0 p1 p2 QC X := by
  obtain ⟨⟨c1, c2, c3, c4⟩, c5, c6, c7, c8, c9⟩ := hc
  obtain ⟨o, ⟨s, cd, hd, bs, shf⟩, ho, ⟨x1, x2, x3, x4, x5⟩, e0, e1, e2, e3, e4, e5⟩ := hk
  dsimp only at x1 x2 x3 x4 x5 e1 e2 e3 e4 e5
  subst e0 e1 e2 e3 e4 e5
  have h10 : (2 : Nat) ^ I ≤ 2 ^ 10 := Nat.pow_le_pow_right (by decide) (by omega)
  have e1I : (1 : Int32) <<< (nI I &&& 31) = nI (2 ^ I) := shl1 (by omega)
  rcases pk_ix p2 (n := 2 ^ I) (by omega) with h | h | ⟨inp, hin, h⟩
  · exact ok_beyond_y (by omega) (Or.inl h) (br_f (by decide) (hx (fun QR z => br_t h (br_f (by decide) (z _)))))
  · refine ok_beyond_y (by omega) (Or.inr h) (br_f (by decide) (hx (fun QR z => ?_)))
    by_cases h0 : p2 < 0
    · exact br_t h0 (br_f (by decide) (z _))
    · exact br_f h0 (br_f (by rw [e1I]; exact Int32.not_lt.mpr h) (br_f (by decide) (z _)))
  · subst h
    refine ok_beyond_n (by omega) hin (br_t rfl ?_)
    have tdo : ∀ tdi, tdi < 2 → tdoN F s cd hd bs shf tdi < 2 := fun tdi ht => tdoN_lt (x := (s, cd, hd, bs, shf)) ⟨x1, x2, x3, x4, x5⟩ ht
    have nxtR : ∀ tms tdi, tms < 2 → tdi < 2 → chipR F N (sti o) (nI (aft s tms)) (nI (nC s cd shf)) (nI (nH F s cd hd tdi (cAns I F O op cn ar out nxt o (inp + hd * 2 ^ I) / 2 ^ O))) (nI (nB s cd bs tdi)) (nI (nS s shf tdi)) := by
      intro tms tdi h1 h2
      exact ⟨o, chS I F O op cn ar out nxt o (s, cd, hd, bs, shf) tms tdi inp, ho, chS_ok ⟨x1, x2, x3, x4, x5⟩ h1 h2, rfl, rfl, rfl, rfl, rfl, rfl⟩
    have fR : ∀ tms tdi, tms < 2 → tdi < 2 → (p0 = 0 ↔ tms = 0) → (p1 = 0 ↔ tdi = 0) → ∀ QR : PKm, (∀ mva, QR (nI (cAns I F O op cn ar out nxt o (inp + hd * 2 ^ I) % 2 ^ O + tdoN F s cd hd bs shf tdi * 256)) 0 (nI (aft s tms)) (nI (nC s cd shf)) (nI (nH F s cd hd tdi (cAns I F O op cn ar out nxt o (inp + hd * 2 ^ I) / 2 ^ O))) (nI (nB s cd bs tdi)) (nI (nS s shf tdi)) mva) → v_X6_clock mth (nI N) (nI I) (nI F) (nI O) (sti o) (nI s) (nI cd) (nI hd) (nI bs) (nI shf) mop taken mva takes mnext mout p0 p1 (nI inp) QR := by
      intro tms tdi h1 h2 g0 g1 QR z
      have go : v_X6_clockOne (nI N) (nI I) (nI F) (nI O) (sti o) (nI s) (nI cd) (nI hd) (nI bs) (nI shf) mop taken mva takes mnext mout (nI tms) (nI tdi) (nI inp) (fun r7 n1 n2 n3 n4 n5 n6 => QR r7 0 n1 n2 n3 n4 n5 n6) := ok_clockOne c3 c2 c1 c4 c5 c8 ho c9 x1 h1 x2 x3 x4 x5 h2 hin (fun val => z val)
      refine br_f (nI_pos (by omega)) (br_t (by rw [e1I]; exact nI_lt hin (by omega)) (br_t (by decide) ?_))
      by_cases q0 : p0 = 0 <;> by_cases q1 : p1 = 0
      · rw [g0.mp q0, g1.mp q1] at go
        exact br_t q0 (br_t q1 go)
      · have : tdi = 1 := by have := mt g1.mpr q1; omega
        rw [g0.mp q0, this] at go
        exact br_t q0 (br_f q1 go)
      · have : tms = 1 := by have := mt g0.mpr q0; omega
        rw [g1.mp q1, this] at go
        exact br_f q0 (br_t q1 go)
      · have t1 : tms = 1 := by have := mt g0.mpr q0; omega
        have t2 : tdi = 1 := by have := mt g1.mpr q1; omega
        rw [t1, t2] at go
        exact br_f q0 (br_f q1 go)
    have p8 : (2 : Nat) ^ O ≤ 2 ^ 8 := Nat.pow_le_pow_right (by decide) c4
    have fC : ∀ tms tdi, tms < 2 → tdi < 2 → (p0 = 0 ↔ tms = 0) → (p1 = 0 ↔ tdi = 0) → v_X5_clock_b31 (nI I) (nI F) (nI N) (nI O) (sti o) oper looked lcount cnext cout QC X (nI s) (nI cd) (nI hd) (nI bs) (nI shf) va p0 (nI inp) (nI tdi) := by
      intro tms tdi h1 h2 g0 g1
      refine ok_cOutputs c3 c2 c1 c4 c5 c6 ho c7 x3 hin (fun val => ok_tdo (by omega) x1 x2 x3 x5 ?_)
      have hm := Nat.mod_lt (cAns I F O op cn ar out nxt o (inp + hd * 2 ^ I)) (Nat.two_pow_pos O)
      have fin : ∀ s0 : Int32, nI (cAns I F O op cn ar out nxt o (inp + hd * 2 ^ I) % 2 ^ O) ||| s0 = nI (cAns I F O op cn ar out nxt o (inp + hd * 2 ^ I) % 2 ^ O + tdoN F s cd hd bs shf tdi * 256) → v_X5_clock_b61 (nI I) (nI F) (nI N) (nI O) (sti o) oper looked lcount cnext cout QC X (nI s) (nI cd) (nI hd) (nI bs) (nI shf) val p0 (nI inp) (nI tdi) s0 (nI (cAns I F O op cn ar out nxt o (inp + hd * 2 ^ I) % 2 ^ O)) := by
        intro s0 es
        refine lt_v ?_
        rw [es]
        have pu : v_X0_pulse (sti o) (nI s) (nI cd) (nI hd) (nI bs) (nI shf) (nI I) (nI F) (nI N) (nI O) val oper looked lcount cnext cout (nI tms) (nI tdi) (nI inp) (fun n1 n2 n3 n4 n5 n6 => QC (nI (cAns I F O op cn ar out nxt o (inp + hd * 2 ^ I) % 2 ^ O + tdoN F s cd hd bs shf tdi * 256)) n1 n2 n3 n4 n5 n6) :=
          ok_pulse c3 c2 c1 c4 c5 c6 ho c7 x1 h1 x2 x3 x5 h2 hin (fun val => hy _ _ _ _ _ _ _ (nxtR tms tdi h1 h2) (fR tms tdi h1 h2 g0 g1))
        by_cases q0 : p0 = 0
        · rw [g0.mp q0] at pu
          exact br_t q0 pu
        · have : tms = 1 := by have := mt g0.mpr q0; omega
          rw [this] at pu
          exact br_f q0 pu
      have ht := tdo tdi h2
      by_cases h1' : tdoN F s cd hd bs shf tdi = 1
      · refine nb_t (by rw [h1']; rfl) (fin 256 ?_)
        rw [h1']
        exact orShift (k := 8) (b := 1) (by omega) (by decide) (by decide)
      · have h0' : tdoN F s cd hd bs shf tdi = 0 := by omega
        refine nb_f (fun q => h1' ((nI_eq (b := 1) (by omega) (by decide)).mp q)) (fin 0 ?_)
        rw [h0']
        exact (nI_or _ 0).trans (by rw [Nat.or_zero, Nat.zero_mul, Nat.add_zero])
    by_cases q0 : p0 = 0 <;> by_cases q1 : p1 = 0
    · exact br_t q1 (fC 0 0 (by decide) (by decide) ⟨fun _ => rfl, fun _ => q0⟩ ⟨fun _ => rfl, fun _ => q1⟩)
    · exact br_f q1 (fC 0 1 (by decide) (by decide) ⟨fun _ => rfl, fun _ => q0⟩ ⟨fun q => absurd q q1, fun q => by omega⟩)
    · exact br_t q1 (fC 1 0 (by decide) (by decide) ⟨fun q => absurd q q0, fun q => by omega⟩ ⟨fun _ => rfl, fun _ => q1⟩)
    · exact br_f q1 (fC 1 1 (by decide) (by decide) ⟨fun q => absurd q q0, fun q => by omega⟩ ⟨fun q => absurd q q1, fun q => by omega⟩)
end CHIPS
