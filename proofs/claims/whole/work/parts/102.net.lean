/-! NETS: the values of a circuit's nets, and Circuit.settle -/
theorem gsum_congr {op : Nat} {x y : Nat → Bool} : ∀ k, (∀ i, i ≤ k → x i = y i) → gsum op x k = gsum op y k
  | 0, h => h 0 (Nat.le_refl 0)
  | k + 1, h => by rw [gsum, gsum, gsum_congr k (fun i hi => h i (by omega)), h (k + 1) (Nat.le_refl _)]
theorem gval_congr {op cnt : Nat} {x y : Nat → Bool} (h1 : 1 ≤ cnt) (hm : op = 7 → cnt = 3) (h : ∀ i, i < cnt → x i = y i) : gval op cnt x = gval op cnt y := by
  unfold gval
  by_cases h7 : op = 7
  · have := hm h7
    rw [if_pos h7, if_pos h7, h 0 (by omega), h 1 (by omega), h 2 (by omega)]
  · rw [if_neg h7, if_neg h7, gsum_congr (cnt - 1) (fun i hi => h i (by omega))]
/-- stuck f: net f / 2 has the value f modulo 2 -/
def stv (o : Option Nat) (k : Nat) (v : Bool) : Bool := match o with
  | none => v
  | some f => if k = f / 2 then decide (f % 2 = 1) else v
def sti (o : Option Nat) : Int32 := match o with
  | none => -1
  | some f => nI f
/-- a circuit: S sources; a net's operation, how many it looks at, which -/
def nvs (S : Nat) (op cnt : Nat → Nat) (a : Nat → Nat → Nat) (o : Option Nat) (src : Nat → Bool) : Nat → Nat → Bool
  | 0 => fun _ => false
  | k + 1 => fun j => if j = k then stv o k (if k < S then src k else gval (op k) (cnt k) (fun i => nvs S op cnt a o src k (a k i))) else nvs S op cnt a o src k j
/-- the value of net k -/
def nv (S : Nat) (op cnt : Nat → Nat) (a : Nat → Nat → Nat) (o : Option Nat) (src : Nat → Bool) (k : Nat) : Bool := nvs S op cnt a o src (k + 1) k
theorem nvs_eq {S : Nat} {op cnt : Nat → Nat} {a : Nat → Nat → Nat} {o : Option Nat} {src : Nat → Bool} : ∀ k j, j < k → nvs S op cnt a o src k j = nv S op cnt a o src j
  | 0, j, h => by omega
  | k + 1, j, h => by
    by_cases e : j = k
    · subst e; rfl
    · rw [nvs]; show (if j = k then _ else nvs S op cnt a o src k j) = _
      rw [if_neg e]; exact nvs_eq k j (by omega)
/-- what a circuit's gates are: nets S .. N - 1 -/
def gates (S N : Nat) (op cnt : Nat → Nat) (a : Nat → Nat → Nat) : Prop := ∀ k, S ≤ k → k < N → op k < 8 ∧ 1 ≤ cnt k ∧ cnt k ≤ 4 ∧ (op k = 7 → cnt k = 3) ∧ (op k = 5 ∨ op k = 6 → cnt k = 1) ∧ ∀ i, i < cnt k → a k i < k
theorem nv_src {S : Nat} {op cnt : Nat → Nat} {a : Nat → Nat → Nat} {o : Option Nat} {src : Nat → Bool} {k : Nat} (h : k < S) : nv S op cnt a o src k = stv o k (src k) := by
  unfold nv; rw [nvs]; show (if k = k then _ else _) = _
  rw [if_pos rfl, if_pos h]
theorem nv_gate {S N : Nat} {op cnt : Nat → Nat} {a : Nat → Nat → Nat} {o : Option Nat} {src : Nat → Bool} {k : Nat} (hg : gates S N op cnt a) (h : S ≤ k) (hk : k < N) : nv S op cnt a o src k = stv o k (gval (op k) (cnt k) (fun i => nv S op cnt a o src (a k i))) := by
  obtain ⟨-, h1, -, h7, -, ha⟩ := hg k h hk
  unfold nv; rw [nvs]; show (if k = k then _ else _) = _
  rw [if_pos rfl, if_neg (by omega)]
  congr 1
  exact gval_congr h1 h7 (fun i hi => nvs_eq k (a k i) (ha i hi))
theorem ok_sources {I F : Nat} {Q : Int32 → Prop} (h : Q (nI (I + F))) : v_X2_sources (nI I) (nI F) Q := by
  show Q (nI I + nI F)
  rw [nI_add]; exact h
theorem lane_neg {b p : Nat} (hb : b < 2) (hp : p < 64) : lane (-((nI b).toInt64)) p = decide (b = 1) := by
  rcases (show b = 0 ∨ b = 1 by omega) with rfl | rfl
  · rw [show -((nI 0).toInt64) = 0 by decide, lane_0]; rfl
  · rw [show -((nI 1).toInt64) = -1 by decide, lane_m1 hp]; rfl
theorem shr1 {f : Nat} (h : f < 2 ^ 31) : nI f >>> ((1 : Int32) &&& 31) = nI (f / 2) := pk_shrN h ((1 : Int32) &&& 31) 1 (by decide)
theorem and1 {f : Nat} (h : f < 2 ^ 31) : nI f &&& (1 : Int32) = nI (f % 2) := pk_andN (by omega) 1 (by decide)
/-- how the class's arrays hold a circuit -/
def cHolds (S N : Nat) (op cnt : Nat → Nat) (a : Nat → Nat → Nat) (oper looked lcount : Nat → Int32) : Prop := ∀ k, S ≤ k → k < N → oper k = nI (op k) ∧ lcount k = nI (cnt k) ∧ ∀ i, i < cnt k → looked (4 * k + i) = nI (a k i)
set_option maxHeartbeats 1000000 in
theorem ok_settle_loop {I F N : Nat} {op cnt : Nat → Nat} {a : Nat → Nat → Nat} {oper looked lcount : Nat → Int32} {Q : (Nat → Int64) → Prop} {o : Option Nat} {src : Nat → Nat → Bool} (hN : N ≤ 60) (hS : I + F ≤ N) (hg : gates (I + F) N op cnt a) (hh : cHolds (I + F) N op cnt a oper looked lcount) (ho : ∀ f, o = some f → f < 2 * N)
    (hQ : ∀ val : Nat → Int64, (∀ k, k < N → ∀ p, p < 64 → lane (val k) p = nv (I + F) op cnt a o (src p) k) → Q val) :
    ∀ (d j : Nat) (val : Nat → Int64), j ≤ N → N < j + d → (∀ k, k < j → ∀ p, p < 64 → lane (val k) p = nv (I + F) op cnt a o (src p) k) → (∀ k, j ≤ k → k < I + F → ∀ p, p < 64 → lane (val k) p = src p k) →
      v_X2_settle_b2 (nI I) (nI F) (nI N) oper looked lcount Q d val (sti o) (nI j) := by
  intro d
  induction d with
  | zero => intro j val h1 h2; omega
  | succ d ih =>
    intro j val h1 h2 hlo hsrc
    by_cases hj : N ≤ j
    · refine br_t (nI_le hj (by omega)) (hQ val (fun k hk p hp => hlo k (by omega) p hp))
    · refine br_f (nI_ge (by omega) (by omega)) (ok_sources ?_)
      -- behind the net's own value: the stuck one, then the next net
      have stuck : ∀ (val1 : Nat → Int64) (w : Nat → Bool), (∀ k, k < j → ∀ p, p < 64 → lane (val1 k) p = nv (I + F) op cnt a o (src p) k) → (∀ k, j < k → k < I + F → ∀ p, p < 64 → lane (val1 k) p = src p k) → (∀ p, p < 64 → lane (val1 j) p = w p) → (∀ p, p < 64 → nv (I + F) op cnt a o (src p) j = stv o j (w p)) →
          v_X2_settle_b29 (nI I) (nI F) (nI N) oper looked lcount Q (v_X2_settle_b2 (nI I) (nI F) (nI N) oper looked lcount Q d) val1 (sti o) (nI j) := by
        intro val1 w g1 g2 g3 g4
        have next : ∀ val2 : Nat → Int64, (∀ k, k < j + 1 → ∀ p, p < 64 → lane (val2 k) p = nv (I + F) op cnt a o (src p) k) → (∀ k, j + 1 ≤ k → k < I + F → ∀ p, p < 64 → lane (val2 k) p = src p k) → v_X2_settle_b52 (nI I) (nI F) (nI N) oper looked lcount Q (v_X2_settle_b2 (nI I) (nI F) (nI N) oper looked lcount Q d) val2 (sti o) (nI j) := by
          intro val2 q1 q2 v e
          rw [e, nI_1]
          exact ih (j + 1) val2 (by omega) (by omega) q1 q2
        cases o with
        | none =>
          refine br_t rfl (next val1 (fun k hk p hp => ?_) (fun k hk hk2 p hp => g2 k (by omega) hk2 p hp))
          by_cases e : k = j
          · subst e; rw [g3 p hp, g4 p hp]; rfl
          · exact g1 k (by omega) p hp
        | some f =>
          have hf := ho f rfl
          have hne : ¬ sti (some f) = -1 := by
            intro h
            have h2 := congrArg Int32.toInt h
            rw [show sti (some f) = nI f from rfl, nI_toInt (by omega), show (-1 : Int32).toInt = -1 by decide] at h2
            omega
          refine br_f hne ?_
          rw [show sti (some f) = nI f from rfl, shr1 (by omega), and1 (by omega), nI_clamp (show j < 2 ^ 31 by omega)]
          refine ⟨fun h => ?_, fun h => ?_⟩
          · have hjf : ¬ j = f / 2 := fun q => h (by rw [q])
            refine next val1 (fun k hk p hp => ?_) (fun k hk hk2 p hp => g2 k (by omega) hk2 p hp)
            by_cases e : k = j
            · subst e; rw [g3 p hp, g4 p hp, stv, if_neg hjf]
            · exact g1 k (by omega) p hp
          · have hjf : j = f / 2 := (nI_eq (by omega) (by omega)).mp h
            refine ⟨vp_in_nI (by omega) (by omega), next _ (fun k hk p hp => ?_) (fun k hk hk2 p hp => ?_)⟩
            · by_cases e : k = j
              · subst e; rw [pk_uLs, lane_neg (by omega) hp, g4 p hp, stv, if_pos hjf]
              · rw [pk_uLn e]; exact g1 k (by omega) p hp
            · rw [pk_uLn (by omega)]; exact g2 k (by omega) hk2 p hp
      by_cases hs : j < I + F
      · refine br_t (nI_lt hs (by omega)) (stuck val (fun p => src p j) (fun k hk p hp => hlo k hk p hp) (fun k hk hk2 p hp => hsrc k (by omega) hk2 p hp) (fun p hp => hsrc j (Nat.le_refl _) hs p hp) (fun p hp => nv_src hs))
      · obtain ⟨g1, g2, g3, g4, -, g6⟩ := hg j (by omega) (by omega)
        obtain ⟨e1, e2, e3⟩ := hh j (by omega) (by omega)
        refine br_f (nI_nlt (by omega) (by omega)) (ok_gate (a := a j) (by omega) g1 e1 e2 g2 g3 g4 (fun i hi => ⟨e3 i hi, by have := g6 i hi; omega⟩) (fun v hv => ⟨vp_in_nI (by omega) (by omega), ?_⟩))
        rw [nI_clamp (show j < 2 ^ 31 by omega)]
        refine stuck _ (fun p => gval (op j) (cnt j) (fun i => nv (I + F) op cnt a o (src p) (a j i))) (fun k hk p hp => by rw [pk_uLn (by omega)]; exact hlo k hk p hp) (fun k hk hk2 p hp => by omega) (fun p hp => ?_) (fun p hp => nv_gate hg (by omega) (by omega))
        rw [pk_uLs, hv p hp]
        exact gval_congr g2 g4 (fun i hi => hlo _ (g6 i hi) p hp)
/-- Circuit.settle: from a net on, the values of a circuit with f stuck -/
theorem ok_settle {I F N : Nat} {op cnt : Nat → Nat} {a : Nat → Nat → Nat} {oper looked lcount : Nat → Int32} {Q : (Nat → Int64) → Prop} {o : Option Nat} {src : Nat → Nat → Bool} {from0 : Nat} {val : Nat → Int64} (hN : N ≤ 60) (hS : I + F ≤ N) (hg : gates (I + F) N op cnt a) (hh : cHolds (I + F) N op cnt a oper looked lcount) (ho : ∀ f, o = some f → f < 2 * N) (hf : from0 ≤ N)
    (hlo : ∀ k, k < from0 → ∀ p, p < 64 → lane (val k) p = nv (I + F) op cnt a o (src p) k) (hsrc : ∀ k, from0 ≤ k → k < I + F → ∀ p, p < 64 → lane (val k) p = src p k)
    (hQ : ∀ val : Nat → Int64, (∀ k, k < N → ∀ p, p < 64 → lane (val k) p = nv (I + F) op cnt a o (src p) k) → Q val) :
    v_X2_settle (nI I) (nI F) (nI N) val oper looked lcount (nI from0) (sti o) Q :=
  ⟨N + 1, ok_settle_loop hN hS hg hh ho hQ (N + 1) from0 val hf (by omega) hlo hsrc⟩
