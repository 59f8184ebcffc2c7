/-! THE PURE SIDE: lanes of a long, bits of an int -/
/-- bit p of a long -/
def lane (v : Int64) (p : Nat) : Bool := v.toBitVec.getLsbD p
theorem lane_and (a b : Int64) (p : Nat) : lane (a &&& b) p = (lane a p && lane b p) := by simp [lane]
theorem lane_or (a b : Int64) (p : Nat) : lane (a ||| b) p = (lane a p || lane b p) := by simp [lane]
theorem lane_xor (a b : Int64) (p : Nat) : lane (a ^^^ b) p = (lane a p ^^ lane b p) := by simp [lane]
theorem lane_m1 {p : Nat} (h : p < 64) : lane (-1) p = true := by
  have e : (-1 : Int64).toBitVec = BitVec.allOnes 64 := by decide
  unfold lane
  rw [e, BitVec.getLsbD_allOnes]
  simp [h]
theorem lane_not (a : Int64) {p : Nat} (h : p < 64) : lane (a ^^^ (-1)) p = !(lane a p) := by
  rw [lane_xor, lane_m1 h]; cases lane a p <;> rfl
theorem lane_0 (p : Nat) : lane 0 p = false := by simp [lane]
theorem lane_ext {a b : Int64} (h : ∀ p, p < 64 → lane a p = lane b p) : a = b := by
  apply Int64.toBitVec_inj.mp
  apply BitVec.eq_of_getLsbD_eq
  intro i hi
  exact h i hi
/-- how one more value comes into a gate's -/
def gop (op : Nat) (a b : Bool) : Bool := if op = 0 ∨ op = 3 then a && b else if op = 2 then a ^^ b else a || b
/-- a gate's sum over the values 0 .. j -/
def gsum (op : Nat) (x : Nat → Bool) : Nat → Bool
  | 0 => x 0
  | j + 1 => gop op (gsum op x j) (x (j + 1))
/-- a gate's value; operations 0 and, 1 or, 2 xor, 3 nand, 4 nor, 5 not, 6 buf, 7 mux -/
def gval (op cnt : Nat) (x : Nat → Bool) : Bool :=
  if op = 7 then (if x 0 then x 2 else x 1) else if op = 3 ∨ op = 4 ∨ op = 5 then !(gsum op x (cnt - 1)) else gsum op x (cnt - 1)
theorem nI_lit4 : (4 : Int32) = nI 4 := rfl
theorem nI_mul4 (n : Nat) : nI n * 4 = nI (4 * n) := by rw [nI_lit4, pk_mul, Nat.mul_comm]
theorem four_mul_nI (n : Nat) : 4 * nI n = nI (4 * n) := by rw [nI_lit4, pk_mul]
theorem nI_is {a b : Nat} {x : Int32} (hx : x = nI b) (ha : a < 2 ^ 31) (hb : b < 2 ^ 31) : nI a = x ↔ a = b := by rw [hx]; exact nI_eq ha hb
