/-! THE CHIP of the class: outputs, tdo, pulse -/
theorem ok_cOutputs {I F N O : Nat} {op cnt : Nat → Nat} {a : Nat → Nat → Nat} {out : Nat → Nat} {nxt : Nat → Option Nat} {oper looked lcount output next : Nat → Int32} {val : Nat → Int64} {Q : Int32 → (Nat → Int64) → Prop} {o : Option Nat} {hd inp : Nat} (hN : N ≤ 60) (hS : I + F ≤ N) (hS2 : I + F ≤ 10) (hO : O ≤ 8) (hg : gates (I + F) N op cnt a) (hh : cHolds (I + F) N op cnt a oper looked lcount) (ho : ∀ f, o = some f → f < 2 * N) (hoh : oHolds F N O out nxt output next) (hhd : hd < 2 ^ F) (hin : inp < 2 ^ I)
    (hQ : ∀ val, Q (nI (cAns I F O op cnt a out nxt o (inp + hd * 2 ^ I) % 2 ^ O)) val) : v_X0_outputs (sti o) (nI hd) (nI I) (nI F) (nI N) (nI O) val oper looked lcount next output (nI inp) Q := by
  obtain ⟨ep, hp⟩ := patI hin hhd hS2
  have h10 : (2 : Nat) ^ (I + F) ≤ 2 ^ 10 := Nat.pow_le_pow_right (by decide) hS2
  unfold v_X0_outputs v_X0_patternWith
  rw [ep]
  refine ok_respond2 hN hS hS2 hO hg hh ho hoh (by omega) (fun val => ?_)
  have hA := cAns_lt (I := I) (F := F) (O := O) (op := op) (cnt := cnt) (a := a) (out := out) (nxt := nxt) (o := o) (pat := inp + hd * 2 ^ I) hO (by omega)
  unfold v_X2_outputsOf
  rw [andMask (by omega) (by omega)]
  exact hQ val
theorem ok_tdo {F s cd hd bs sh tdi : Nat} {Q : Int32 → Prop} (hF10 : F ≤ 10) (hs : s < 16) (hcd : cd < 4) (hhd : hd < 2 ^ F) (hsh : sh < 4) (hQ : Q (nI (tdoN F s cd hd bs sh tdi))) : v_X0_tdo (nI s) (nI cd) (nI hd) (nI bs) (nI sh) (nI F) (nI tdi) Q := by
  have hF2 : (2 : Nat) ^ F ≤ 2 ^ 10 := Nat.pow_le_pow_right (by decide) (by omega)
  have is4 := nI_is (a := s) (b := 4) (x := 4) rfl (by omega) (by omega)
  have is11 := nI_is (a := s) (b := 11) (x := 11) rfl (by omega) (by omega)
  have isc := nI_is (a := cd) (b := 1) (x := 1) rfl (by omega) (by omega)
  have isF := nI_is (a := F) (b := 0) (x := 0) rfl (by omega) (by omega)
  unfold tdoN at hQ
  refine ⟨fun h11 => ⟨fun h4 => ⟨fun hc => ⟨fun hF => ?_, fun hF => ?_⟩, fun hc => ?_⟩, fun h4 => ?_⟩, fun h11 => ?_⟩
  · have hF0 : ¬ F = 0 := fun q => hF (isF.mpr q)
    rw [if_pos (is4.mp h4), if_pos (isc.mp hc), if_neg hF0] at hQ
    rw [show nI F - (1 : Int32) = nI (F - 1) from pk_sub (b := 1) (by omega), shrI (by omega) (by omega), and1 (Nat.lt_of_le_of_lt (Nat.div_le_self _ _) (by omega))]
    exact hQ
  · rw [if_pos (is4.mp h4), if_pos (isc.mp hc), if_pos (isF.mp hF)] at hQ
    exact hQ
  · rw [if_pos (is4.mp h4), if_neg (fun q => hc (isc.mpr q))] at hQ
    exact hQ
  · rw [if_neg (fun q => h4 (is4.mpr q)), if_neg (fun q => h11 (is11.mpr q))] at hQ
    exact hQ
  · have q11 := is11.mp h11
    rw [if_neg (by omega), if_pos q11] at hQ
    rw [and1 (by omega)]
    exact hQ
set_option maxHeartbeats 8000000 in
/-- Chip.pulse -/
theorem ok_pulse {I F N O : Nat} {op cnt : Nat → Nat} {a : Nat → Nat → Nat} {out : Nat → Nat} {nxt : Nat → Option Nat} {oper looked lcount output next : Nat → Int32} {val : Nat → Int64} {Q : Int32 → Int32 → Int32 → Int32 → Int32 → (Nat → Int64) → Prop} {o : Option Nat} {s tms cd hd bs sh tdi inp : Nat} (hN : N ≤ 60) (hS : I + F ≤ N) (hS2 : I + F ≤ 10) (hO : O ≤ 8) (hg : gates (I + F) N op cnt a) (hh : cHolds (I + F) N op cnt a oper looked lcount) (ho : ∀ f, o = some f → f < 2 * N) (hoh : oHolds F N O out nxt output next)
    (hs : s < 16) (hm : tms < 2) (hcd : cd < 4) (hhd : hd < 2 ^ F) (hsh : sh < 4) (htd : tdi < 2) (hin : inp < 2 ^ I)
    (hQ : ∀ val, Q (nI (aft s tms)) (nI (nC s cd sh)) (nI (nH F s cd hd tdi (cAns I F O op cnt a out nxt o (inp + hd * 2 ^ I) / 2 ^ O))) (nI (nB s cd bs tdi)) (nI (nS s sh tdi)) val) :
    v_X0_pulse (sti o) (nI s) (nI cd) (nI hd) (nI bs) (nI sh) (nI I) (nI F) (nI N) (nI O) val oper looked lcount next output (nI tms) (nI tdi) (nI inp) Q := by
  obtain ⟨ep, hp⟩ := patI hin hhd hS2
  have h10 : (2 : Nat) ^ (I + F) ≤ 2 ^ 10 := Nat.pow_le_pow_right (by decide) hS2
  have hF2 : (2 : Nat) ^ F ≤ 2 ^ 10 := Nat.pow_le_pow_right (by decide) (by omega)
  have hA := cAns_lt (I := I) (F := F) (O := O) (op := op) (cnt := cnt) (a := a) (out := out) (nxt := nxt) (o := o) (pat := inp + hd * 2 ^ I) hO (by omega)
  -- the nexts
  have nexts : ∀ {Q2 : Int32 → (Nat → Int64) → Prop}, (∀ val, Q2 (nI (cAns I F O op cnt a out nxt o (inp + hd * 2 ^ I) / 2 ^ O)) val) → v_X0_patternWith (nI hd) (nI I) (nI inp) (fun r1 => v_X2_respond (nI I) (nI F) (nI N) (nI O) val oper looked lcount next output r1 (sti o) (fun r3 n2 => v_X2_nextsOf (nI O) r3 (fun r4 => Q2 r4 n2))) := by
    intro Q2 h
    unfold v_X0_patternWith
    rw [ep]
    refine ok_respond2 hN hS hS2 hO hg hh ho hoh (by omega) (fun val => ?_)
    unfold v_X2_nextsOf
    rw [shrI (by omega) (by omega)]
    exact h val
  have fin : ∀ (c2 h2 b2 s2 : Int32) (val2 : Nat → Int64), Q (nI (aft s tms)) c2 h2 b2 s2 val2 → v_X0_pulse_b152 (sti o) (nI I) (nI F) (nI N) (nI O) oper looked lcount next output Q (nI s) c2 h2 b2 s2 val2 (nI tms) := by
    intro c2 h2 b2 s2 val2 h
    unfold v_X0_pulse_b152
    have e : (2 : Int32) * nI s + nI tms = nI (2 * s + tms) := by rw [show (2 : Int32) = nI 2 from rfl, pk_mul, nI_add]
    rw [e, nI_clamp (show 2 * s + tms < 2 ^ 31 by omega), aft_tb s hs tms hm]
    refine ⟨vp_in_nI (by omega) (by omega), ?_⟩
    intro v1 e1
    rw [e1]
    exact h
  have isc := nI_is (a := cd) (b := 1) (x := 1) rfl (by omega) (by omega)
  by_cases h1 : cd = 1
  · have e1 : (nI cd = (1 : Int32)) = True := by simp [isc.mpr h1]
    rcases i32_16 hs with rfl | rfl | rfl | rfl | rfl | rfl | rfl | rfl | rfl | rfl | rfl | rfl | rfl | rfl | rfl | rfl <;>
      (simp (decide := true) only [v_X0_pulse, v_X0_idle, v_X0_capture, v_X0_shift, e1, not_true, not_false_iff, true_implies, false_implies, and_true, true_and, forall_eq, shiftS sh hsh tdi htd, shiftH (show hd < 2 ^ 10 by omega) (show F ≤ 10 by omega) htd]
       simp (decide := true) only [nC, nH, nB, nS, h1, if_true, if_false, and_true, true_and, and_false, false_and, or_false, false_or, not_true, not_false_iff] at hQ
       first
         | exact fin _ _ _ _ _ (hQ _)
         | exact nexts (fun val => fin _ _ _ _ _ (hQ _))
         | (rw [h1]; first | exact fin _ _ _ _ _ (hQ _) | exact nexts (fun val => fin _ _ _ _ _ (hQ _))))
  · have e1 : (nI cd = (1 : Int32)) = False := by simp [isc, h1]
    rcases i32_16 hs with rfl | rfl | rfl | rfl | rfl | rfl | rfl | rfl | rfl | rfl | rfl | rfl | rfl | rfl | rfl | rfl <;>
      (simp (decide := true) only [v_X0_pulse, v_X0_idle, v_X0_capture, v_X0_shift, e1, not_true, not_false_iff, true_implies, false_implies, and_true, true_and, forall_eq, shiftS sh hsh tdi htd, shiftH (show hd < 2 ^ 10 by omega) (show F ≤ 10 by omega) htd]
       simp (decide := true) only [nC, nH, nB, nS, h1, if_true, if_false, and_true, true_and, and_false, false_and, or_false, false_or, not_true, not_false_iff] at hQ
       first
         | exact fin _ _ _ _ _ (hQ _)
         | exact nexts (fun val => fin _ _ _ _ _ (hQ _)))
