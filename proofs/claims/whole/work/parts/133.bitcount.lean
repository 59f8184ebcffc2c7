/-! Long.bitCount -/
theorem sum64 (x : Nat) : cntN x.testBit 64 = cntN (x % 256).testBit 8 + cntN (x / 256 % 256).testBit 8 + cntN (x / 256 / 256 % 256).testBit 8 + cntN (x / 256 / 256 / 256 % 256).testBit 8 + cntN (x / 256 / 256 / 256 / 256 % 256).testBit 8 + cntN (x / 256 / 256 / 256 / 256 / 256 % 256).testBit 8 + cntN (x / 256 / 256 / 256 / 256 / 256 / 256 % 256).testBit 8 + cntN (x / 256 / 256 / 256 / 256 / 256 / 256 / 256 % 256).testBit 8 := by
  have h0 : ∀ y : Nat, cntN y.testBit (8 * 0) = 0 := fun y => rfl
  have e := dig_sum 7 x
  rw [dig_sum 6, dig_sum 5, dig_sum 4, dig_sum 3, dig_sum 2, dig_sum 1, dig_sum 0 (x / 256 / 256 / 256 / 256 / 256 / 256 / 256), h0] at e
  have e2 : (8 : Nat) * (7 + 1) = 64 := rfl
  rw [e2] at e
  rw [e]
  simp only [Nat.add_assoc, Nat.add_zero]
set_option maxHeartbeats 1000000 in
/-- Long.bitCount -/
theorem ok_bitCount {v : Int64} {Q : Int32 → Prop} (hQ : Q (nI (cntN (lane v) 64))) : v_J13_bitCount_95d88 v Q := by
  intro v1 e1 v2 e2 v3 e3 v4 e4 v5 e5 v6 e6
  have hx := v.toBitVec.isLt
  have n1 : v1.toBitVec.toNat = digB g1 8 v.toBitVec.toNat := by
    have hs := i64_ushr v ((1 : Int32).toInt64) 1 (by decide)
    have hm : ((v.toUInt64 >>> ((1 : Int32).toInt64.toUInt64 &&& Int64.toUInt64 63)).toInt64 &&& (6148914691236517205 : Int64)).toBitVec.toNat = (v.toBitVec.toNat / 2) &&& mkB 0x55 8 := by
      rw [i64_and, hs]; rfl
    rw [e1, i64_sub _ _ (by rw [hm]; exact Nat.le_trans Nat.and_le_left (Nat.div_le_self _ _)), hm]
    exact st1 8 _ hx
  have n2 : v2.toBitVec.toNat = digB (fun d => g2 (g1 d)) 8 v.toBitVec.toNat := by
    have hs := i64_ushr v1 ((2 : Int32).toInt64) 2 (by decide)
    have hm1 : (v1 &&& (3689348814741910323 : Int64)).toBitVec.toNat = v1.toBitVec.toNat &&& mkB 0x33 8 := by rw [i64_and]; rfl
    have hm2 : ((v1.toUInt64 >>> ((2 : Int32).toInt64.toUInt64 &&& Int64.toUInt64 63)).toInt64 &&& (3689348814741910323 : Int64)).toBitVec.toNat = (v1.toBitVec.toNat / 4) &&& mkB 0x33 8 := by rw [i64_and, hs]; rfl
    have l1 : v1.toBitVec.toNat &&& mkB 0x33 8 ≤ mkB 0x33 8 := Nat.and_le_right
    have l2 : (v1.toBitVec.toNat / 4) &&& mkB 0x33 8 ≤ mkB 0x33 8 := Nat.and_le_right
    have l3 : mkB 0x33 8 = 3689348814741910323 := by decide
    rw [e2, i64_add _ _ (by rw [hm1, hm2]; omega), hm1, hm2, n1]
    exact st2 8 _
  have zl : ∀ n x, 255 * digB (fun d => g2 (g1 d)) n x + 68 ≤ 68 * 256 ^ n := by
    intro n
    induction n with
    | zero => intro x; show 255 * 0 + 68 ≤ 68 * 1; omega
    | succ n ih =>
      intro x
      have h := ih (x / 256)
      have hd := Nat.mod_lt x (show 0 < 256 by decide)
      have := (g2_lt _ hd).1
      rw [digB, Nat.pow_succ]
      show 255 * (256 * _ + g2 (g1 (x % 256))) + 68 ≤ _
      omega
  have n3 : v3.toBitVec.toNat = digB (fun d => cntN d.testBit 8) 8 v.toBitVec.toNat := by
    have hs := i64_ushr v2 ((4 : Int32).toInt64) 4 (by decide)
    have hz := zl 8 v.toBitVec.toNat
    rw [← n2] at hz
    rw [e3, i64_and, i64_add _ _ (by rw [hs]; omega), hs, n2]
    exact st3 8 _
  have pl : ∀ d : Nat, cntN d.testBit 8 ≤ 8 := fun d => cntN_le _ _
  have main := pop_sum _ _ _ _ _ _ _ _ (pl (v.toBitVec.toNat % 256)) (pl (v.toBitVec.toNat / 256 % 256)) (pl (v.toBitVec.toNat / 256 / 256 % 256)) (pl (v.toBitVec.toNat / 256 / 256 / 256 % 256)) (pl (v.toBitVec.toNat / 256 / 256 / 256 / 256 % 256)) (pl (v.toBitVec.toNat / 256 / 256 / 256 / 256 / 256 % 256)) (pl (v.toBitVec.toNat / 256 / 256 / 256 / 256 / 256 / 256 % 256)) (pl (v.toBitVec.toNat / 256 / 256 / 256 / 256 / 256 / 256 / 256 % 256)) _ _ _ _ _ _ _ _ _ _ n3 rfl rfl rfl rfl rfl (by simp only [digB, Nat.mul_zero, Nat.zero_add]) rfl rfl rfl
  obtain ⟨m1, m2, m3, m4⟩ := main
  have s8 := i64_ushr v3 ((8 : Int32).toInt64) 8 (by decide)
  have n4 : v4.toBitVec.toNat = v3.toBitVec.toNat + v3.toBitVec.toNat / 2 ^ 8 := by rw [e4, i64_add _ _ (by rw [s8]; omega), s8]
  have s16 := i64_ushr v4 ((16 : Int32).toInt64) 16 (by decide)
  rw [n4] at s16
  have n5 : v5.toBitVec.toNat = v3.toBitVec.toNat + v3.toBitVec.toNat / 2 ^ 8 + (v3.toBitVec.toNat + v3.toBitVec.toNat / 2 ^ 8) / 2 ^ 16 := by rw [e5, i64_add _ _ (by rw [s16, n4]; omega), s16, n4]
  have s32 := i64_ushr v5 ((32 : Int32).toInt64) 32 (by decide)
  have n6 : v6.toBitVec.toNat = v5.toBitVec.toNat + v5.toBitVec.toNat / 2 ^ 32 := by
    rw [e6, i64_add _ _ (by rw [s32, n5]; omega), s32]
  rw [n5] at n6
  have e127 : v6.toInt32 &&& (127 : Int32) = nI (v6.toBitVec.toNat % 128) := by
    rw [pk_and _ 7 (by decide)]
    congr 1
    rw [Int64.toBitVec_toInt32, BitVec.signExtend_eq_setWidth_of_le _ (by decide), BitVec.toNat_setWidth]
    exact Nat.mod_mod_of_dvd _ (by decide)
  rw [e127, n6, m1]
  have fl : lane v = v.toBitVec.toNat.testBit := funext (fun p => rfl)
  rw [fl, sum64] at hQ
  exact hQ
