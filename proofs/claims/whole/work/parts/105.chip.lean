/-! THE CHIP: a clock -/
/-- the next state -/
def aft (s t : Nat) : Nat := [1, 0, 1, 2, 3, 9, 4, 5, 4, 5, 6, 8, 6, 7, 4, 8, 1, 2, 10, 0, 11, 12, 11, 12, 13, 15, 13, 14, 11, 15, 1, 2].getD (2 * s + t) 0
theorem aft_lt : ∀ s, s < 16 → ∀ t, t < 2 → aft s t < 16 := by decide
theorem aft_tb : ∀ s, s < 16 → ∀ t, t < 2 → tb_AFTER.getD (2 * s + t) 0 = nI (aft s t) := by decide
theorem i32_16 {s : Nat} (h : s < 16) : s = 0 ∨ s = 1 ∨ s = 2 ∨ s = 3 ∨ s = 4 ∨ s = 5 ∨ s = 6 ∨ s = 7 ∨ s = 8 ∨ s = 9 ∨ s = 10 ∨ s = 11 ∨ s = 12 ∨ s = 13 ∨ s = 14 ∨ s = 15 := by omega
set_option maxHeartbeats 4000000 in
theorem ok_after {s t : Nat} {Q : Int32 → Prop} (hs : s < 16) (ht : t < 2) (hQ : Q (nI (aft s t))) : v_X6_after (nI s) (nI t) Q := by
  rcases i32_16 hs with rfl | rfl | rfl | rfl | rfl | rfl | rfl | rfl | rfl | rfl | rfl | rfl | rfl | rfl | rfl | rfl <;> rcases (show t = 0 ∨ t = 1 by omega) with rfl | rfl <;>
    (simp (decide := true) only [v_X6_after, v_X6_after_b90, v_X6_after_b111, v_X6_after_b167, v_X6_after_b203, not_true, not_false_iff, true_implies, false_implies, and_true, true_and]; exact hQ)
theorem pow_le30 {k : Nat} (hk : k < 31) : (2 : Nat) ^ k ≤ 2 ^ 30 := Nat.pow_le_pow_right (by decide) (by omega)
theorem orShift {n k b : Nat} (hn : n < 2 ^ k) (hb : b * 2 ^ k < 2 ^ 32) (hk : k < 32) : nI n ||| (nI b <<< (nI k &&& 31)) = nI (n + b * 2 ^ k) := by
  rw [pk_shlN _ k (s_l k hk) hb, nI_or]
  congr 1
  rw [Nat.or_comm, Nat.mul_comm b, ← Nat.two_pow_add_eq_or_of_lt hn b, Nat.add_comm]
theorem maskI {k : Nat} (hk : k < 31) : ((1 : Int32) <<< (nI k &&& 31)) - (1 : Int32) = nI (2 ^ k - 1) := by
  have h := pow_le30 hk
  rw [show (1 : Int32) <<< (nI k &&& 31) = nI (1 * 2 ^ k) from pk_shlN (n := 1) _ k (s_l k (by omega)) (by omega), Nat.one_mul]
  exact pk_sub (a := 2 ^ k) (b := 1) Nat.one_le_two_pow
theorem andMask {x k : Nat} (hx : x < 2 ^ 31) (hk : k < 31) : nI x &&& (((1 : Int32) <<< (nI k &&& 31)) - (1 : Int32)) = nI (x % 2 ^ k) := by
  have h := pow_le30 hk
  rw [maskI hk]
  exact pk_andN (by omega) k (pk_tn (by omega))
theorem shrI {x k : Nat} (hx : x < 2 ^ 31) (hk : k < 32) : nI x >>> (nI k &&& 31) = nI (x / 2 ^ k) := pk_shrN hx _ k (s_l k hk)
/-- what is seen: outputs' bits, and 256 if tdo is 1 -/
theorem outSeen {x O t : Nat} (hx : x < 2 ^ 31) (hO : O ≤ 8) (ht : t < 2) : (nI x &&& (((1 : Int32) <<< (nI O &&& 31)) - (1 : Int32))) ||| (nI t <<< ((8 : Int32) &&& 31)) = nI (x % 2 ^ O + t * 256) := by
  rw [andMask hx (by omega)]
  have h1 : x % 2 ^ O < 2 ^ 8 := Nat.lt_of_lt_of_le (Nat.mod_lt _ (Nat.two_pow_pos O)) (Nat.pow_le_pow_right (by decide) hO)
  exact orShift (k := 8) h1 (by omega) (by decide)
/-- the shifter goes down by a bit, tdi comes in above -/
theorem shiftS : ∀ sh, sh < 4 → ∀ t, t < 2 → (nI sh >>> ((1 : Int32) &&& 31)) ||| (nI t <<< ((1 : Int32) &&& 31)) = nI (sh / 2 + 2 * t) := by decide
theorem shiftH {hd F t : Nat} (hh : hd < 2 ^ 10) (hF : F ≤ 10) (ht : t < 2) : ((nI hd <<< ((1 : Int32) &&& 31)) ||| nI t) &&& (((1 : Int32) <<< (nI F &&& 31)) - (1 : Int32)) = nI ((2 * hd + t) % 2 ^ F) := by
  have h1 : nI hd <<< ((1 : Int32) &&& 31) = nI (hd * 2) := pk_shlN (n := hd) ((1 : Int32) &&& 31) 1 (by decide) (by omega)
  have h2 : nI (hd * 2) ||| nI t = nI (2 * hd + t) := by
    rw [nI_or]
    congr 1
    rw [show hd * 2 = 2 ^ 1 * hd by omega, ← Nat.two_pow_add_eq_or_of_lt (i := 1) (b := t) (by omega) hd]
  rw [h1, h2, andMask (by omega) (by omega)]
def nC (s cd sh : Nat) : Nat := if s = 0 then 3 else if s = 15 then sh else cd
def nH (F s cd hd tdi nx : Nat) : Nat := if (s = 1 ∧ ¬ cd = 1) ∨ (s = 3 ∧ cd = 1) then nx else if s = 4 ∧ cd = 1 then (2 * hd + tdi) % 2 ^ F else hd
def nB (s cd bs tdi : Nat) : Nat := if s = 3 ∧ ¬ cd = 1 then 0 else if s = 4 ∧ ¬ cd = 1 then tdi else bs
def nS (s sh tdi : Nat) : Nat := if s = 10 then 1 else if s = 11 then sh / 2 + 2 * tdi else sh
def tdoN (F s cd hd bs sh tdi : Nat) : Nat := if s = 4 then (if cd = 1 then (if F = 0 then tdi else hd / 2 ^ (F - 1) % 2) else bs) else if s = 11 then sh % 2 else 0
theorem ok_b290 {NN II FF stuck code bits bes shi : Int32} {mop taken takes next output val : Nat → Int32} {Q : Int32 → Int32 → Int32 → Int32 → Int32 → Int32 → (Nat → Int32) → Prop} {O A t s tms : Nat} (hs : s < 16) (hm : tms < 2) (hA : A < 2 ^ 31) (hO : O ≤ 8) (ht : t < 2)
    (hQ : Q (nI (A % 2 ^ O + t * 256)) (nI (aft s tms)) code bits bes shi val) : v_X6_clockOne_b290 NN II FF (nI O) stuck mop taken takes next output Q (nI s) code bits bes shi val (nI tms) (nI A) (nI t) := by
  unfold v_X6_clockOne_b290
  exact ok_after hs hm (by rw [outSeen hA hO ht]; exact hQ)
set_option maxHeartbeats 8000000 in
theorem ok_b102 {NN II stuck : Int32} {mop taken takes next output val : Nat → Int32} {Q : Int32 → Int32 → Int32 → Int32 → Int32 → Int32 → (Nat → Int32) → Prop} {F O A t s tms cd hd bs sh tdi : Nat} (hs : s < 16) (hm : tms < 2) (hA : A < 2 ^ 31) (hO : O ≤ 8) (ht : t < 2) (hF : F ≤ 10) (hcd : cd < 4) (hhd : hd < 2 ^ 10) (hbs : bs < 2) (hsh : sh < 4) (htd : tdi < 2)
    (hQ : Q (nI (A % 2 ^ O + t * 256)) (nI (aft s tms)) (nI (nC s cd sh)) (nI (nH F s cd hd tdi (A / 2 ^ O))) (nI (nB s cd bs tdi)) (nI (nS s sh tdi)) val) :
    v_X6_clockOne_b102 NN II (nI F) (nI O) stuck mop taken takes next output Q (nI s) (nI cd) (nI hd) (nI bs) (nI sh) val (nI tms) (nI tdi) (nI A) (nI (A / 2 ^ O)) (nI t) := by
  have is1 := nI_is (a := cd) (b := 1) (x := 1) rfl (by omega) (by omega)
  by_cases h1 : cd = 1
  · have e1 : (nI cd = (1 : Int32)) = True := by simp [is1.mpr h1]
    rcases i32_16 hs with rfl | rfl | rfl | rfl | rfl | rfl | rfl | rfl | rfl | rfl | rfl | rfl | rfl | rfl | rfl | rfl <;>
      (simp (decide := true) only [v_X6_clockOne_b102, v_X6_clockOne_b133, v_X6_clockOne_b149, v_X6_clockOne_b158, v_X6_clockOne_b214, e1, not_true, not_false_iff, true_implies, false_implies, and_true, true_and, forall_eq, shiftS sh hsh tdi htd, shiftH hhd hF htd]
       simp (decide := true) only [nC, nH, nB, nS, h1, if_true, if_false, and_true, true_and, and_false, false_and, or_false, false_or, not_true, not_false_iff] at hQ
       exact ok_b290 hs hm hA hO ht (by first | exact hQ | (rw [h1] at *; exact hQ)))
  · have e1 : (nI cd = (1 : Int32)) = False := by simp [is1, h1]
    rcases i32_16 hs with rfl | rfl | rfl | rfl | rfl | rfl | rfl | rfl | rfl | rfl | rfl | rfl | rfl | rfl | rfl | rfl <;>
      (simp (decide := true) only [v_X6_clockOne_b102, v_X6_clockOne_b133, v_X6_clockOne_b149, v_X6_clockOne_b158, v_X6_clockOne_b214, e1, not_true, not_false_iff, true_implies, false_implies, and_true, true_and, forall_eq, shiftS sh hsh tdi htd, shiftH hhd hF htd]
       simp (decide := true) only [nC, nH, nB, nS, h1, if_true, if_false, and_true, true_and, and_false, false_and, or_false, false_or, not_true, not_false_iff] at hQ
       exact ok_b290 hs hm hA hO ht hQ)
/-- the answer that a chip gives to its pins -/
def cAns (I F O : Nat) (op cnt : Nat → Nat) (a : Nat → Nat → Nat) (out : Nat → Nat) (nxt : Nat → Option Nat) (o : Option Nat) (pat : Nat) : Nat := accN (abit I O out nxt (nv (I + F) op cnt a o (fun k => pat.testBit k)) pat) (O + F)
theorem cAns_lt {I F O : Nat} {op cnt : Nat → Nat} {a : Nat → Nat → Nat} {out : Nat → Nat} {nxt : Nat → Option Nat} {o : Option Nat} {pat : Nat} (hO : O ≤ 8) (hF : F ≤ 10) : cAns I F O op cnt a out nxt o pat < 2 ^ 18 := Nat.lt_of_lt_of_le (accN_lt _ _) (Nat.pow_le_pow_right (by decide) (by omega))
theorem cAns_div {I F O : Nat} {op cnt : Nat → Nat} {a : Nat → Nat → Nat} {out : Nat → Nat} {nxt : Nat → Option Nat} {o : Option Nat} {pat : Nat} : cAns I F O op cnt a out nxt o pat / 2 ^ O < 2 ^ F := by
  have h := accN_lt (abit I O out nxt (nv (I + F) op cnt a o (fun k => pat.testBit k)) pat) (O + F)
  rw [Nat.pow_add] at h
  exact Nat.div_lt_of_lt_mul h
theorem ok_answerOf2 {I F N O : Nat} {op cnt : Nat → Nat} {a : Nat → Nat → Nat} {out : Nat → Nat} {nxt : Nat → Option Nat} {mop taken takes value output next : Nat → Int32} {Q : Int32 → (Nat → Int32) → Prop} {o : Option Nat} {pat : Nat} (hN : N ≤ 60) (hS : I + F ≤ N) (hS2 : I + F ≤ 10) (hO : O ≤ 8) (hg : gates (I + F) N op cnt a) (hh : mHolds (I + F) N op cnt a mop taken takes) (ho : ∀ f, o = some f → f < 2 * N) (hoh : oHolds F N O out nxt output next) (hp : pat < 2 ^ 31)
    (hQ : ∀ val : Nat → Int32, Q (nI (cAns I F O op cnt a out nxt o pat)) val) : v_X6_answerOf (nI N) (nI I) (nI F) (nI O) mop taken value takes next output (nI pat) (sti o) Q := ok_answerOf hN hS hS2 hO hg hh ho hoh hp hQ
theorem ok_respond2 {I F N O : Nat} {op cnt : Nat → Nat} {a : Nat → Nat → Nat} {out : Nat → Nat} {nxt : Nat → Option Nat} {oper looked lcount output next : Nat → Int32} {val : Nat → Int64} {Q : Int32 → (Nat → Int64) → Prop} {o : Option Nat} {pat : Nat} (hN : N ≤ 60) (hS : I + F ≤ N) (hS2 : I + F ≤ 10) (hO : O ≤ 8) (hg : gates (I + F) N op cnt a) (hh : cHolds (I + F) N op cnt a oper looked lcount) (ho : ∀ f, o = some f → f < 2 * N) (hoh : oHolds F N O out nxt output next) (hp : pat < 2 ^ 31)
    (hQ : ∀ val : Nat → Int64, Q (nI (cAns I F O op cnt a out nxt o pat)) val) : v_X2_respond (nI I) (nI F) (nI N) (nI O) val oper looked lcount next output (nI pat) (sti o) Q := ok_respond hN hS hS2 hO hg hh ho hoh hp hQ
theorem patI {inp hd I F : Nat} (hi : inp < 2 ^ I) (hh : hd < 2 ^ F) (hIF : I + F ≤ 10) : nI inp ||| (nI hd <<< (nI I &&& 31)) = nI (inp + hd * 2 ^ I) ∧ inp + hd * 2 ^ I < 2 ^ (I + F) := by
  have h1 : inp + hd * 2 ^ I < 2 ^ (I + F) := by
    rw [Nat.pow_add]
    have h2 : (hd + 1) * 2 ^ I ≤ 2 ^ F * 2 ^ I := Nat.mul_le_mul_right _ hh
    rw [Nat.add_mul, Nat.one_mul, Nat.mul_comm (2 ^ F)] at h2
    omega
  have h3 : (2 : Nat) ^ (I + F) ≤ 2 ^ 10 := Nat.pow_le_pow_right (by decide) hIF
  exact ⟨orShift hi (by omega) (by omega), h1⟩
set_option maxHeartbeats 8000000 in
/-- clockOne -/
theorem ok_clockOne {I F N O : Nat} {op cnt : Nat → Nat} {a : Nat → Nat → Nat} {out : Nat → Nat} {nxt : Nat → Option Nat} {mop taken takes value output next : Nat → Int32} {Q : Int32 → Int32 → Int32 → Int32 → Int32 → Int32 → (Nat → Int32) → Prop} {o : Option Nat} {s tms cd hd bs sh tdi inp : Nat} (hN : N ≤ 60) (hS : I + F ≤ N) (hS2 : I + F ≤ 10) (hO : O ≤ 8) (hg : gates (I + F) N op cnt a) (hh : mHolds (I + F) N op cnt a mop taken takes) (ho : ∀ f, o = some f → f < 2 * N) (hoh : oHolds F N O out nxt output next)
    (hs : s < 16) (hm : tms < 2) (hcd : cd < 4) (hhd : hd < 2 ^ F) (hbs : bs < 2) (hsh : sh < 4) (htd : tdi < 2) (hin : inp < 2 ^ I)
    (hQ : ∀ val, Q (nI (cAns I F O op cnt a out nxt o (inp + hd * 2 ^ I) % 2 ^ O + tdoN F s cd hd bs sh tdi * 256)) (nI (aft s tms)) (nI (nC s cd sh)) (nI (nH F s cd hd tdi (cAns I F O op cnt a out nxt o (inp + hd * 2 ^ I) / 2 ^ O))) (nI (nB s cd bs tdi)) (nI (nS s sh tdi)) val) :
    v_X6_clockOne (nI N) (nI I) (nI F) (nI O) (sti o) (nI s) (nI cd) (nI hd) (nI bs) (nI sh) mop taken value takes next output (nI tms) (nI tdi) (nI inp) Q := by
  obtain ⟨ep, hp⟩ := patI hin hhd hS2
  have h10 : (2 : Nat) ^ (I + F) ≤ 2 ^ 10 := Nat.pow_le_pow_right (by decide) hS2
  have hF10 : (2 : Nat) ^ F ≤ 2 ^ 10 := Nat.pow_le_pow_right (by decide) (by omega)
  unfold v_X6_clockOne
  rw [ep]
  refine ok_answerOf2 hN hS hS2 hO hg hh ho hoh (by omega) (fun val => ?_)
  have hA := cAns_lt (I := I) (F := F) (O := O) (op := op) (cnt := cnt) (a := a) (out := out) (nxt := nxt) (o := o) (pat := inp + hd * 2 ^ I) hO (by omega)
  have hQ := hQ val
  generalize cAns I F O op cnt a out nxt o (inp + hd * 2 ^ I) = A at hA hQ ⊢
  intro v6 e6
  rw [shrI (by omega) (by omega)] at e6
  subst e6
  have key : ∀ t : Nat, t < 2 → tdoN F s cd hd bs sh tdi = t → v_X6_clockOne_b102 (nI N) (nI I) (nI F) (nI O) (sti o) mop taken takes next output Q (nI s) (nI cd) (nI hd) (nI bs) (nI sh) val (nI tms) (nI tdi) (nI A) (nI (A / 2 ^ O)) (nI t) := fun t ht et =>
    ok_b102 hs hm (by omega) hO ht (by omega) hcd (by omega) hbs hsh htd (et ▸ hQ)
  have is4 := nI_is (a := s) (b := 4) (x := 4) rfl (by omega) (by omega)
  have is11 := nI_is (a := s) (b := 11) (x := 11) rfl (by omega) (by omega)
  have isc := nI_is (a := cd) (b := 1) (x := 1) rfl (by omega) (by omega)
  have isF := nI_is (a := F) (b := 0) (x := 0) rfl (by omega) (by omega)
  refine ⟨fun h4 => ⟨fun h11 => ?_, fun h11 => ?_⟩, fun h4 => ⟨fun hc => ⟨fun hF => ?_, fun hF => ?_⟩, fun hc => ?_⟩⟩
  · exact key 0 (by decide) (by unfold tdoN; rw [if_neg (fun q => h4 (is4.mpr q)), if_neg (fun q => h11 (is11.mpr q))])
  · intro v7 e7
    rw [e7, and1 (by omega)]
    exact key (sh % 2) (by omega) (by unfold tdoN; rw [if_neg (fun q => h4 (is4.mpr q)), if_pos (is11.mp h11)])
  · have hF0 : ¬ F = 0 := fun q => hF (isF.mpr q)
    have e9 : (nI hd >>> ((nI F - (1 : Int32)) &&& 31)) &&& (1 : Int32) = nI (hd / 2 ^ (F - 1) % 2) := by
      rw [show nI F - (1 : Int32) = nI (F - 1) from pk_sub (b := 1) (by omega), shrI (by omega) (by omega), and1 (Nat.lt_of_le_of_lt (Nat.div_le_self _ _) (by omega))]
    rw [e9]
    exact key (hd / 2 ^ (F - 1) % 2) (by omega) (by unfold tdoN; rw [if_pos (is4.mp h4), if_pos (isc.mp hc), if_neg hF0])
  · exact key tdi htd (by unfold tdoN; rw [if_pos (is4.mp h4), if_pos (isc.mp hc), if_pos (isF.mp hF)])
  · exact key bs hbs (by unfold tdoN; rw [if_pos (is4.mp h4), if_neg (fun q => hc (isc.mpr q))])
