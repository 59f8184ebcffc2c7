/-! COUNTING: Long.bitCount, patternCount -/
def cntN (p : Nat → Bool) : Nat → Nat
  | 0 => 0
  | n + 1 => cntN p n + (p n).toNat
theorem cntN_le (p : Nat → Bool) : ∀ n, cntN p n ≤ n
  | 0 => Nat.le_refl 0
  | n + 1 => by have h := cntN_le p n; have := Bool.toNat_lt (p n); rw [cntN]; omega
theorem cntN_congr {p q : Nat → Bool} : ∀ n, (∀ i, i < n → p i = q i) → cntN p n = cntN q n
  | 0, _ => rfl
  | n + 1, h => by rw [cntN, cntN, cntN_congr n (fun i hi => h i (by omega)), h n (Nat.lt_succ_self n)]
theorem cntN_add (p : Nat → Bool) (a : Nat) : ∀ b, cntN p (a + b) = cntN p a + cntN (fun i => p (a + i)) b
  | 0 => rfl
  | b + 1 => by show cntN p (a + b) + (p (a + b)).toNat = _; rw [cntN_add p a b, cntN]; omega
theorem andDig {k x d m c : Nat} (hd : d < 2 ^ k) (hc : c < 2 ^ k) : (2 ^ k * x + d) &&& (2 ^ k * m + c) = 2 ^ k * (x &&& m) + (d &&& c) := by
  apply Nat.eq_of_testBit_eq
  intro j
  rw [Nat.testBit_and, Nat.testBit_two_pow_mul_add _ hd, Nat.testBit_two_pow_mul_add _ hc, Nat.testBit_two_pow_mul_add _ (Nat.lt_of_le_of_lt Nat.and_le_left hd), Nat.testBit_and, Nat.testBit_and]
  by_cases h : j < k
  · rw [if_pos h, if_pos h, if_pos h]
  · rw [if_neg h, if_neg h, if_neg h]
/-- a byte n times -/
def mkB (c : Nat) : Nat → Nat
  | 0 => 0
  | n + 1 => 256 * mkB c n + c
/-- digit by digit -/
def digB (g : Nat → Nat) : Nat → Nat → Nat
  | 0, _ => 0
  | n + 1, x => 256 * digB g n (x / 256) + g (x % 256)
def g1 (d : Nat) : Nat := d - ((d / 2) &&& 0x55)
def g2 (e : Nat) : Nat := (e &&& 0x33) + ((e / 4) &&& 0x33)
def g3 (g : Nat) : Nat := (g + g / 16) &&& 0x0f
set_option maxRecDepth 20000 in
theorem g1_0 : ∀ r, r < 2 → ∀ d, d < 256 → (128 * r + d / 2) &&& 0x55 = (d / 2) &&& 0x55 := by decide +kernel
set_option maxRecDepth 20000 in
theorem g1_lt : ∀ d, d < 256 → g1 d < 256 ∧ (d / 2) &&& 0x55 ≤ d := by decide +kernel
set_option maxRecDepth 20000 in
theorem g2_0 : ∀ r, r < 4 → ∀ d, d < 256 → (64 * r + d / 4) &&& 0x33 = (d / 4) &&& 0x33 := by decide +kernel
set_option maxRecDepth 20000 in
theorem g2_lt : ∀ d, d < 256 → g2 (g1 d) < 0x45 ∧ g2 (g1 d) % 16 ≤ 4 := by decide +kernel
set_option maxRecDepth 20000 in
theorem g3_0 : ∀ r, r ≤ 4 → ∀ d, d < 0x45 → (16 * r + (d + d / 16)) &&& 0x0f = (d + d / 16) &&& 0x0f := by decide +kernel
set_option maxRecDepth 20000 in
theorem g3_pop : ∀ d, d < 256 → g3 (g2 (g1 d)) = cntN d.testBit 8 := by decide +kernel
theorem and256 {x d m c : Nat} (hd : d < 256) (hc : c < 256) : (256 * x + d) &&& (256 * m + c) = 256 * (x &&& m) + (d &&& c) := andDig (k := 8) hd hc
theorem st1 : ∀ n x, x < 256 ^ n → x - ((x / 2) &&& mkB 0x55 n) = digB g1 n x
  | 0, x, h => by have : x = 0 := by (rw [Nat.pow_zero] at h; omega)
                  subst this; rfl
  | n + 1, x, h => by
    have ih := st1 n (x / 256) (Nat.div_lt_of_lt_mul (by rw [Nat.pow_succ, Nat.mul_comm] at h; exact h))
    have hd := Nat.mod_lt x (show 0 < 256 by decide)
    rw [mkB, digB, ← ih]
    have e1 : x / 2 = 256 * (x / 256 / 2) + (128 * (x / 256 % 2) + x % 256 / 2) := by omega
    rw [e1, and256 (by omega) (by decide), g1_0 _ (Nat.mod_lt _ (by decide)) _ hd]
    have h1 : (x / 256 / 2) &&& mkB 0x55 n ≤ x / 256 / 2 := Nat.and_le_left
    have h2 := (g1_lt _ hd).2
    unfold g1
    omega
theorem st2 : ∀ n x, ((digB g1 n x) &&& mkB 0x33 n) + ((digB g1 n x / 4) &&& mkB 0x33 n) = digB (fun d => g2 (g1 d)) n x
  | 0, x => by simp [digB, mkB]
  | n + 1, x => by
    have ih := st2 n (x / 256)
    have hd := Nat.mod_lt x (show 0 < 256 by decide)
    have hg := (g1_lt _ hd).1
    rw [mkB, digB, digB, ← ih]
    have e1 : (256 * digB g1 n (x / 256) + g1 (x % 256)) / 4 = 256 * (digB g1 n (x / 256) / 4) + (64 * (digB g1 n (x / 256) % 4) + g1 (x % 256) / 4) := by omega
    rw [e1, and256 hg (by decide), and256 (by omega) (by decide), g2_0 _ (Nat.mod_lt _ (by decide)) _ hg]
    unfold g2
    omega
theorem dig_mod : ∀ n x, digB (fun d => g2 (g1 d)) n x % 16 ≤ 4
  | 0, x => by show 0 % 16 ≤ 4; omega
  | n + 1, x => by
    have hd := Nat.mod_lt x (show 0 < 256 by decide)
    have := (g2_lt _ hd).2
    rw [digB]
    show (256 * _ + g2 (g1 (x % 256))) % 16 ≤ 4
    omega
theorem st3 : ∀ n x, (digB (fun d => g2 (g1 d)) n x + digB (fun d => g2 (g1 d)) n x / 16) &&& mkB 0x0f n = digB (fun d => cntN d.testBit 8) n x
  | 0, x => by simp [digB, mkB]
  | n + 1, x => by
    have ih := st3 n (x / 256)
    have hm := dig_mod n (x / 256)
    have hd := Nat.mod_lt x (show 0 < 256 by decide)
    have hg := g2_lt _ hd
    have hz := g3_pop _ hd
    rw [mkB, digB, digB, ← ih]
    show (256 * digB (fun d => g2 (g1 d)) n (x / 256) + g2 (g1 (x % 256)) + (256 * digB (fun d => g2 (g1 d)) n (x / 256) + g2 (g1 (x % 256))) / 16) &&& (256 * mkB 0x0f n + 0x0f) = 256 * _ + cntN (x % 256).testBit 8
    generalize digB (fun d => g2 (g1 d)) n (x / 256) = z at *
    rw [← hz, g3]
    generalize g2 (g1 (x % 256)) = g at *
    have e1 : 256 * z + g + (256 * z + g) / 16 = 256 * (z + z / 16) + (16 * (z % 16) + (g + g / 16)) := by omega
    rw [e1, and256 (by omega) (by decide), g3_0 _ hm _ hg.1]
theorem dig_sum (n x : Nat) : cntN x.testBit (8 * (n + 1)) = cntN (x % 256).testBit 8 + cntN (x / 256).testBit (8 * n) := by
  rw [show 8 * (n + 1) = 8 + 8 * n by omega, cntN_add]
  congr 1
  · apply cntN_congr
    intro i hi
    rw [show (256 : Nat) = 2 ^ 8 from rfl, Nat.testBit_mod_two_pow, decide_eq_true hi, Bool.true_and]
  · apply cntN_congr
    intro i hi
    show x.testBit (8 + i) = _
    rw [show (256 : Nat) = 2 ^ 8 from rfl, Nat.testBit_div_two_pow, Nat.add_comm]
theorem i64_and (a b : Int64) : (a &&& b).toBitVec.toNat = a.toBitVec.toNat &&& b.toBitVec.toNat := by rw [Int64.toBitVec_and, BitVec.toNat_and]
theorem i64_add (a b : Int64) (h : a.toBitVec.toNat + b.toBitVec.toNat < 2 ^ 64) : (a + b).toBitVec.toNat = a.toBitVec.toNat + b.toBitVec.toNat := by rw [Int64.toBitVec_add, BitVec.toNat_add, Nat.mod_eq_of_lt h]
theorem i64_sub (a b : Int64) (h : b.toBitVec.toNat ≤ a.toBitVec.toNat) : (a - b).toBitVec.toNat = a.toBitVec.toNat - b.toBitVec.toNat := by
  rw [Int64.toBitVec_sub, BitVec.toNat_sub]
  have h1 := a.toBitVec.isLt
  have h2 := b.toBitVec.isLt
  omega
theorem i64_ushr (a : Int64) (s : Int64) (k : Nat) (hs : ((s.toUInt64 &&& Int64.toUInt64 63).toBitVec % 64).toNat = k) : ((a.toUInt64 >>> (s.toUInt64 &&& Int64.toUInt64 63)).toInt64).toBitVec.toNat = a.toBitVec.toNat / 2 ^ k := by
  show (a.toUInt64 >>> (s.toUInt64 &&& Int64.toUInt64 63)).toBitVec.toNat = _
  rw [UInt64.toBitVec_shiftRight, BitVec.ushiftRight_eq', BitVec.toNat_ushiftRight, hs, Nat.shiftRight_eq_div_pow]
  rfl
theorem dv256 {y h l : Nat} (e : y = 256 * h + l) (hl : l < 256) : y / 256 = h := by omega
theorem add2 {p q a b c d : Nat} (h1 : p = 256 * a + b) (h2 : q = 256 * c + d) : p + q = 256 * (a + c) + (b + d) := by omega
theorem up256 {p a b m : Nat} (h : p = 256 * a + b) (ha : a ≤ m) (hb : b ≤ 8) : p ≤ 256 * m + 8 := by omega
theorem sm2 {a b : Nat} (h1 : a ≤ 8) (h2 : b ≤ 8) : a + b < 256 := by omega
theorem sm4 {a b c d : Nat} (h1 : a ≤ 8) (h2 : b ≤ 8) (h3 : c ≤ 8) (h4 : d ≤ 8) : a + b + (c + d) < 256 := by omega
theorem md128 {z s : Nat} (h : s < 128) : (256 * z + s) % 128 = s := by omega
theorem last2 {x6 w7 w6 : Nat} (h : x6 = 256 * w7 + w6) : x6 + w7 = 256 * w7 + (w6 + w7) := by omega
theorem sm8 {a b c d e f g h : Nat} (h0 : a ≤ 8) (h1 : b ≤ 8) (h2 : c ≤ 8) (h3 : d ≤ 8) (h4 : e ≤ 8) (h5 : f ≤ 8) (h6 : g ≤ 8) (h7 : h ≤ 8) : a + b + (c + d) + (e + f + (g + h)) < 128 ∧ a + b + (c + d) + (e + f + (g + h)) = a + b + c + d + e + f + g + h := by omega
theorem dv16 (y : Nat) : y / 2 ^ 16 = y / 256 / 256 := by rw [Nat.div_div_eq_div_mul]
theorem dv32 (y : Nat) : y / 2 ^ 32 = y / 256 / 256 / 256 / 256 := by rw [Nat.div_div_eq_div_mul, Nat.div_div_eq_div_mul, Nat.div_div_eq_div_mul]
theorem pop_sum (w0 w1 w2 w3 w4 w5 w6 w7 : Nat) (h0 : w0 ≤ 8) (h1 : w1 ≤ 8) (h2 : w2 ≤ 8) (h3 : w3 ≤ 8) (h4 : w4 ≤ 8) (h5 : w5 ≤ 8) (h6 : w6 ≤ 8) (h7 : w7 ≤ 8) (x a b c x1 x2 x3 x4 x5 x6 : Nat) (hx : x = 256 * x1 + w0) (e1 : x1 = 256 * x2 + w1) (e2 : x2 = 256 * x3 + w2) (e3 : x3 = 256 * x4 + w3) (e4 : x4 = 256 * x5 + w4) (e5 : x5 = 256 * x6 + w5) (e6 : x6 = 256 * w7 + w6) (ha : a = x + x / 2 ^ 8) (hb : b = a + a / 2 ^ 16) (hc : c = b + b / 2 ^ 32) : c % 128 = w0 + w1 + w2 + w3 + w4 + w5 + w6 + w7 ∧ a < 2 ^ 63 ∧ b < 2 ^ 63 ∧ c < 2 ^ 63 := by
  have d1 : x / 2 ^ 8 = x1 := dv256 hx (Nat.lt_of_le_of_lt h0 (by decide))
  rw [d1] at ha
  have a0 := add2 hx e1
  have a1 := add2 e1 e2
  have a2 := add2 e2 e3
  have a3 := add2 e3 e4
  have a4 := add2 e4 e5
  have a5 := add2 e5 e6
  have d2 : a / 2 ^ 16 = x2 + x3 := by
    rw [dv16, ha, dv256 a0 (sm2 h0 h1), dv256 a1 (sm2 h1 h2)]
  rw [d2, ha] at hb
  have b0 := add2 a0 a2
  have b1 := add2 a1 a3
  have b2 := add2 a2 a4
  have b3 := add2 a3 a5
  have d3 : b / 2 ^ 32 = x4 + x5 + (x6 + w7) := by
    rw [dv32, hb, dv256 b0 (sm4 h0 h1 h2 h3), dv256 b1 (sm4 h1 h2 h3 h4), dv256 b2 (sm4 h2 h3 h4 h5), dv256 b3 (sm4 h3 h4 h5 h6)]
  rw [d3, hb] at hc
  have c0 := add2 b0 (add2 a4 (last2 e6))
  have f6 := up256 e6 h7 h6
  have f5 := up256 e5 f6 h5
  have f4 := up256 e4 f5 h4
  have f3 := up256 e3 f4 h3
  have f2 := up256 e2 f3 h2
  have f1 := up256 e1 f2 h1
  have f0 := up256 hx f1 h0
  obtain ⟨s1, s2⟩ := sm8 h0 h1 h2 h3 h4 h5 h6 h7
  refine ⟨?_, ?_, ?_, ?_⟩
  · rw [hc, c0, md128 s1, s2]
  · rw [ha]; exact Nat.lt_of_le_of_lt (Nat.add_le_add f0 f1) (by decide)
  · rw [hb]; exact Nat.lt_of_le_of_lt (Nat.add_le_add (Nat.add_le_add f0 f1) (Nat.add_le_add f2 f3)) (by decide)
  · rw [hc]; exact Nat.lt_of_le_of_lt (Nat.add_le_add (Nat.add_le_add (Nat.add_le_add f0 f1) (Nat.add_le_add f2 f3)) (Nat.add_le_add (Nat.add_le_add f4 f5) (Nat.add_le_add f6 h7))) (by decide)
