/-! FEED AND READ -/
/-- a tape of bytes -/
def tpR (len : Int32) (T : Nat → Int32) : Prop := (∃ n, n ≤ 900 ∧ len = nI n) ∧ ∀ i, ∃ b, b < 256 ∧ T i = nI b
theorem tpR_tp {n : Nat} {T : Nat → Int32} (hn : n ≤ 900) (h : ∀ i, ∃ b, b < 256 ∧ T i = nI b) : tp (fun i => (T i).toBitVec.toNat) T n := by
  refine ⟨hn, fun i => ⟨(i32_nat _).symm, ?_⟩⟩
  obtain ⟨b, hb, e⟩ := h i
  show (T i).toBitVec.toNat < 256
  rw [e, pk_tn (by omega)]
  exact hb
/-- byte j of a long -/
def byI (v : Int64) (j : Nat) : Int32 := ((v >>> ((((8 : Int32) * nI j).toInt64) &&& 63)) &&& (255 : Int64)).toInt32
theorem and255 (y : Int64) : ∃ b, b < 256 ∧ (y &&& (255 : Int64)).toInt32 = nI b := by
  have h1 : (y &&& (255 : Int64)).toBitVec.toNat ≤ 255 := by
    rw [i64_and]; exact Nat.and_le_right
  refine ⟨(y &&& (255 : Int64)).toBitVec.toNat, by omega, ?_⟩
  have e : y &&& (255 : Int64) = lN (y &&& (255 : Int64)).toBitVec.toNat := by
    apply Int64.toBitVec_inj.mp
    apply BitVec.eq_of_toNat_eq
    show _ = (BitVec.ofNat 64 _).toNat
    rw [BitVec.toNat_ofNat, Nat.mod_eq_of_lt (by omega)]
  have e2 := lN_i (y &&& (255 : Int64)).toBitVec.toNat
  rw [← e] at e2
  exact e2
/-- the tape with j bytes of v behind n -/
def tpN (T : Nat → Int32) (n : Nat) (v : Int64) : Nat → Nat → Int32
  | 0 => T
  | j + 1 => upd (tpN T n v j) (n + j) (byI v j)
theorem tpN_ok {T : Nat → Int32} {n : Nat} {v : Int64} (h : ∀ i, ∃ b, b < 256 ∧ T i = nI b) : ∀ j i, ∃ b, b < 256 ∧ tpN T n v j i = nI b
  | 0, i => h i
  | j + 1, i => by
    rw [tpN]
    by_cases e : i = n + j
    · rw [e, pk_us]; exact and255 _
    · rw [pk_un e]; exact tpN_ok h j i
abbrev PTc : Type := Int32 → Int32 → (Nat → Int32) → Prop
abbrev PTm : Type := Int32 → Int32 → Int32 → (Nat → Int32) → Prop
theorem f_feed {QC : PTc} {X : String → Int32 → (Nat → Int32) → Prop} {len p : Int32} {T : Nat → Int32} {v : Int64} {mth : Int32} (ht : tpR len T)
    (hy : ∀ r len' T', tpR len' T' → (∀ QR : PTm, QR r 0 len' T' → v_X6_feed mth len T p v QR) → QC r len' T')
    (hx : (∀ QR : PTm, QR 0 1 len T → v_X6_feed mth len T p v QR) → X "java/lang/IllegalArgumentException" len T) : v_X5_feed len T p v QC X := by
  obtain ⟨⟨n, hn, rfl⟩, hT⟩ := ht
  by_cases h1 : p < 1
  · exact br_t h1 (hx (fun QR z => br_t h1 (br_f (by decide) z)))
  · refine br_f h1 ?_
    by_cases h8 : p ≤ 8
    · refine br_t h8 ?_
      have hk : ∃ k, 1 ≤ k ∧ k ≤ 8 ∧ p = nI k := by
        rcases pk_ix p (n := 9) (by decide) with h | h | ⟨j, hj, h⟩
        · exact absurd (Int32.lt_trans h (by decide)) h1
        · exact absurd (Int32.le_trans h h8) (by decide)
        · refine ⟨j, ?_, by omega, h⟩
          by_cases j0 : j = 0
          · subst j0; rw [h] at h1; exact absurd (by decide) h1
          · omega
      obtain ⟨k, k1, k8, rfl⟩ := hk
      have pre : ∀ QR : PTm, ((nI n + nI k) ≤ (900 : Int32) → (∃ f46 : Nat, v_X6_feed_b46 QR f46 0 (nI n) T (nI k) v 0)) ∧ (¬ (nI n + nI k) ≤ (900 : Int32) → QR (-1) 0 (nI n) T) → v_X6_feed mth (nI n) T (nI k) v QR := fun QR z => br_f h1 (br_t h8 (br_t (by decide) z))
      by_cases h9 : n + k ≤ 900
      · have h9' : nI n + nI k ≤ (900 : Int32) := by rw [nI_add]; exact nI_le (b := 900) h9 (by decide)
        refine br_t h9' ?_
        have fin : QC (nI (n + k)) (nI (n + k)) (tpN T n v k) := by
          refine hy _ _ _ ⟨⟨n + k, h9, rfl⟩, tpN_ok hT k⟩ (fun QR z => pre QR (br_t h9' ?_))
          have loop : ∀ (d j : Nat), j ≤ k → k < j + d → v_X6_feed_b46 QR d 0 (nI (n + j)) (tpN T n v j) (nI k) v (nI j) := by
            intro d
            induction d with
            | zero => intro j g1 g2; omega
            | succ d ih =>
              intro j g1 g2
              rw [v_X6_feed_b46]
              dsimp only
              refine pk_le k j (fun q => ?_) (fun q => ⟨vp_in_nI (by omega) (by decide), lt_v (lt_v ?_)⟩)
              · rw [show j = k by omega]; exact z
              · rw [nI_1, nI_1, nI_clamp (by omega)]
                exact ih (j + 1) (by omega) (by omega)
          exact ⟨k + 1, loop (k + 1) 0 (by omega) (by omega)⟩
        have loop : ∀ (d j : Nat), j ≤ k → k < j + d → v_X4_append_b17 (fun r3 n1 n2 => QC r3 n1 n2) d (nI n) (tpN T n v j) (nI k) v (nI j) := by
          intro d
          induction d with
          | zero => intro j g1 g2; omega
          | succ d ih =>
            intro j g1 g2
            rw [v_X4_append_b17]
            dsimp only
            rw [nI_add n j, nI_add n k]
            refine pk_le k j (fun q => lt_v ?_) (fun q => ⟨vp_in_nI (by omega) (by decide), lt_v ?_⟩)
            · rw [show j = k by omega]; exact fin
            · rw [nI_1, nI_clamp (by omega)]
              exact ih (j + 1) (by omega) (by omega)
        exact ⟨k + 1, loop (k + 1) 0 (by omega) (by omega)⟩
      · have h9' : ¬ nI n + nI k ≤ (900 : Int32) := by rw [nI_add]; exact nI_ge (a := 900) (by omega) (by omega)
        exact br_f h9' (hy _ _ _ ⟨⟨n, hn, rfl⟩, hT⟩ (fun QR z => pre QR (br_f h9' z)))
    · exact br_f h8 (hx (fun QR z => br_f h1 (br_f h8 (br_f (by decide) z))))
abbrev PDc : Type := Int32 → Int32 → Int32 → Int32 → Int32 → Int32 → Int32 → Int32 → Int32 → Int32 → Int32 → Int32 → Int32 → Int32 → Int32 → Int32 → Int32 → Int32 → Int32 → Int32 → Int32 → Int32 → (Nat → Int32) → (Nat → Int32) → (Nat → Int32) → (Nat → Int32) → (Nat → Int32) → (Nat → Int32) → (Nat → Int32) → (Nat → Int32) → (Nat → Int32) → (Nat → Int32) → (Nat → Int32) → Prop
theorem cpy_is {f g : Nat → Int32} {m : Nat} {M : Int32} (hM : M.toNatClampNeg = m) {k : Nat} (hk : k < m) : va_cpy f g (0 : Int32).toNatClampNeg (0 : Int32).toNatClampNeg M.toNatClampNeg k = f k := by
  rw [hM]
  show va_cpy f g 0 0 m k = f k
  rw [pk_cpy_in (by omega) (by omega)]
  congr 1
  omega
theorem f_read {QC : PDc} {xe len rf rp ra re rn d1 d2 d3 d4 c1 c2 c3 c4 hm k0 k1 k2 k3 k4 k5 : Int32} {dnext nO T dlooked dlcount doper dout oper lcount looked cout cnext : Nat → Int32}
    {t0 f0 p0 s1 s2 s3 s4 s5 q1 q2 q3 q4 q5 q6 q7 q8 q9 q10 q11 : Int32} {names ops next outNet frm many moutput mnextNet mtaken mop mtakes : Nat → Int32} (ht : tpR len T)
    (hy : ∀ (I F N O : Nat) (op cn : Nat → Nat) (ar : Nat → Nat → Nat) (out : Nat → Nat) (nxt : Nat → Option Nat) (oper' lcount' looked' cout' cnext' : Nat → Int32) (x1 x2 x3 x4 x5 x6 x7 : Int32) (z1 z2 z3 z4 z5 z6 : Nat → Int32), crC I F N O op cn ar out nxt oper' looked' lcount' cout' cnext' → (∀ QR : PRr, (∀ y1 y2 y3 y4 y5 z1 z2 z3 z4 z5 z6 mop' taken' takes' mout' mnext', mHolds (I + F) N op cn ar mop' taken' takes' → oHolds F N O out nxt mout' mnext' → QR (nI N) 0 0 (-1) y1 y2 y3 y4 y5 (nI N) (nI I) (nI F) (nI O) 0 (-1) 0 3 0 0 0 z1 z2 z3 z4 mout' mnext' z5 taken' mop' z6 takes') → v_X6_read t0 len f0 p0 s1 s2 s3 s4 s5 q1 q2 q3 q4 q5 q6 q7 q8 q9 q10 q11 T names ops next outNet moutput mnextNet frm mtaken mop many mtakes QR) → QC (nI N) (-1) 0 (-1) x1 x2 x3 x4 x5 x6 x7 (nI I) (nI F) (nI N) (nI O) 0 (-1) 0 3 0 0 0 z1 z2 z3 z4 z5 z6 oper' lcount' looked' cout' cnext')
    (hn : ∀ (f p x1 x2 x3 x4 x5 x6 x7 : Int32) (z1 z2 z3 z4 z5 z6 : Nat → Int32), (∀ QR : PRr, (∀ y1 y2 y3 y4 y5 z1 z2 z3 z4 z5 z6, QR (-1) 0 f p y1 y2 y3 y4 y5 q1 q2 q3 q4 q5 q6 q7 q8 q9 q10 q11 z1 z2 z3 z4 moutput mnextNet z5 mtaken mop z6 mtakes) → v_X6_read t0 len f0 p0 s1 s2 s3 s4 s5 q1 q2 q3 q4 q5 q6 q7 q8 q9 q10 q11 T names ops next outNet moutput mnextNet frm mtaken mop many mtakes QR) → QC (-1) xe f p x1 x2 x3 x4 x5 x6 x7 c1 c2 c3 c4 hm k0 k1 k2 k3 k4 k5 z1 z2 z3 z4 z5 z6 oper lcount looked cout cnext) :
    v_X5_read xe len rf rp ra re rn d1 d2 d3 d4 c1 c2 c3 c4 hm k0 k1 k2 k3 k4 k5 dnext nO T dlooked dlcount doper dout oper lcount looked cout cnext QC := by
  obtain ⟨⟨n, hn9, rfl⟩, hT⟩ := ht
  rcases j_read (n := n) (B := fun i => (T i).toBitVec.toNat) (c1 := rf) (c2 := rp) (c3 := ra) (c4 := re) (c5 := rn) (c6 := d1) (c7 := d2) (c8 := d3) (c9 := d4) (dnext := dnext) (nO := nO) (looked := dlooked) (lcount := dlcount) (oper := doper) (dout := dout) (t0 := t0) (f0 := f0) (p0 := p0) (s1 := s1) (s2 := s2) (s3 := s3) (s4 := s4) (s5 := s5) (names := names) (ops := ops) (next := next) (outNet := outNet) (frm := frm) (many := many) (q1 := q1) (q2 := q2) (q3 := q3) (q4 := q4) (q5 := q5) (q6 := q6) (q7 := q7) (q8 := q8) (q9 := q9) (q10 := q10) (q11 := q11) (moutput := moutput) (mnextNet := mnextNet) (mtaken := mtaken) (mop := mop) (mtakes := mtakes) (tpR_tp hn9 hT) with ⟨c, r, ⟨I, F, N, O, op, cn, ar, out, nxt, noper, nlooked, nlcount, nout, nnext, hC, ec, er⟩ | ⟨f, p, hf, ec, er⟩, hc, hr⟩
  · refine hc _ ?_
    rw [ec]
    intro x1 x2 x3 z1
    refine nb_f (by decide) ⟨by decide, by decide, by decide, by decide, by decide, by decide, by decide, by decide, by decide, by decide, by decide, by decide, by decide, by decide, by decide, by decide, by decide, by decide, by decide, by decide, by decide, by decide, by decide, by decide, by decide, ?_⟩
    obtain ⟨g1, g2, g3, g4, g5, g6, g7⟩ := hC
    refine hy I F N O op cn ar out nxt _ _ _ _ _ _ _ _ _ _ _ _ _ _ _ _ _ _ ⟨g1, g2, g3, g4, g5, fun k h1 h2 => ?_, fun k hk => ?_, fun k hk => ?_⟩ (fun QR z => hr QR (by rw [er]; exact z))
    · obtain ⟨s1, s2, s3⟩ := g6 k h1 h2
      have s4 := (g5 k h1 h2).2.2.1
      exact ⟨by rw [cpy_is (m := 60) rfl (by omega)]; exact s1, by rw [cpy_is (m := 60) rfl (by omega)]; exact s2, fun i hi => by rw [cpy_is (m := 240) rfl (by omega)]; exact s3 i hi⟩
    · rw [cpy_is (m := 8) rfl (by omega)]; exact g7.1 k hk
    · rw [cpy_is (m := 10) rfl (by omega)]; exact g7.2 k hk
  · refine hc _ ?_
    rw [ec]
    exact fun x1 x2 x3 x4 x5 x6 x7 z1 z2 z3 z4 z5 z6 => nb_t rfl (hn f p _ _ _ _ _ _ _ _ _ _ _ _ _ (fun QR z => hr QR (by rw [er]; exact z)))
